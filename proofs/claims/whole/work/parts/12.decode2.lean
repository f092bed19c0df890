theorem dX12_refused_0 : decode cX12_refused 0 = .ok (.aload_n 0, 1) := by decide +kernel
theorem dX12_refused_1 : decode cX12_refused 1 = .ok (.getfield 1, 3) := by decide +kernel
theorem dX12_refused_4 : decode cX12_refused 4 = .ok (.iload_n 1, 1) := by decide +kernel
theorem dX12_refused_5 : decode cX12_refused 5 = .ok (.ineg, 1) := by decide +kernel
theorem dX12_refused_6 : decode cX12_refused 6 = .ok (.dup2, 1) := by decide +kernel
theorem dX12_refused_7 : decode cX12_refused 7 = .ok (.iaload, 1) := by decide +kernel
theorem dX12_refused_8 : decode cX12_refused 8 = .ok (.iconst 1, 1) := by decide +kernel
theorem dX12_refused_9 : decode cX12_refused 9 = .ok (.iadd, 1) := by decide +kernel
theorem dX12_refused_10 : decode cX12_refused 10 = .ok (.iastore, 1) := by decide +kernel
theorem dX12_refused_11 : decode cX12_refused 11 = .ok (.iload_n 1, 1) := by decide +kernel
theorem dX12_refused_12 : decode cX12_refused 12 = .ok (.ireturn, 1) := by decide +kernel
theorem dX12_refusedFar_0 : decode cX12_refusedFar 0 = .ok (.ldc2_w 7, 3) := by decide +kernel
theorem dX12_refusedFar_3 : decode cX12_refusedFar 3 = .ok (.aload_n 0, 1) := by decide +kernel
theorem dX12_refusedFar_4 : decode cX12_refusedFar 4 = .ok (.iload_n 1, 1) := by decide +kernel
theorem dX12_refusedFar_5 : decode cX12_refusedFar 5 = .ok (.invokevirtual 9, 3) := by decide +kernel
theorem dX12_refusedFar_8 : decode cX12_refusedFar 8 = .ok (.i2l, 1) := by decide +kernel
theorem dX12_refusedFar_9 : decode cX12_refusedFar 9 = .ok (.lsub, 1) := by decide +kernel
theorem dX12_refusedFar_10 : decode cX12_refusedFar 10 = .ok (.lreturn, 1) := by decide +kernel
theorem dX12_isIn_0 : decode cX12_isIn 0 = .ok (.lload_n 0, 1) := by decide +kernel
theorem dX12_isIn_1 : decode cX12_isIn 1 = .ok (.lload_n 2, 1) := by decide +kernel
theorem dX12_isIn_2 : decode cX12_isIn 2 = .ok (.lcmp, 1) := by decide +kernel
theorem dX12_isIn_3 : decode cX12_isIn 3 = .ok (.ifCond .lt 14, 3) := by decide +kernel
theorem dX12_isIn_6 : decode cX12_isIn 6 = .ok (.lload_n 0, 1) := by decide +kernel
theorem dX12_isIn_7 : decode cX12_isIn 7 = .ok (.lload 4, 2) := by decide +kernel
theorem dX12_isIn_9 : decode cX12_isIn 9 = .ok (.lcmp, 1) := by decide +kernel
theorem dX12_isIn_10 : decode cX12_isIn 10 = .ok (.ifCond .gt 7, 3) := by decide +kernel
theorem dX12_isIn_13 : decode cX12_isIn 13 = .ok (.iconst 1, 1) := by decide +kernel
theorem dX12_isIn_14 : decode cX12_isIn 14 = .ok (.goto 4, 3) := by decide +kernel
theorem dX12_isIn_17 : decode cX12_isIn 17 = .ok (.iconst 0, 1) := by decide +kernel
theorem dX12_isIn_18 : decode cX12_isIn 18 = .ok (.ireturn, 1) := by decide +kernel
theorem dX12_has_0 : decode cX12_has 0 = .ok (.iload_n 0, 1) := by decide +kernel
theorem dX12_has_1 : decode cX12_has 1 = .ok (.iload_n 1, 1) := by decide +kernel
theorem dX12_has_2 : decode cX12_has 2 = .ok (.ishr, 1) := by decide +kernel
theorem dX12_has_3 : decode cX12_has 3 = .ok (.iconst 1, 1) := by decide +kernel
theorem dX12_has_4 : decode cX12_has 4 = .ok (.iand, 1) := by decide +kernel
theorem dX12_has_5 : decode cX12_has 5 = .ok (.iconst 1, 1) := by decide +kernel
theorem dX12_has_6 : decode cX12_has 6 = .ok (.if_icmp .ne 7, 3) := by decide +kernel
theorem dX12_has_9 : decode cX12_has 9 = .ok (.iconst 1, 1) := by decide +kernel
theorem dX12_has_10 : decode cX12_has 10 = .ok (.goto 4, 3) := by decide +kernel
theorem dX12_has_13 : decode cX12_has 13 = .ok (.iconst 0, 1) := by decide +kernel
theorem dX12_has_14 : decode cX12_has 14 = .ok (.ireturn, 1) := by decide +kernel
theorem dX12_divisor_0 : decode cX12_divisor 0 = .ok (.lload_n 0, 1) := by decide +kernel
theorem dX12_divisor_1 : decode cX12_divisor 1 = .ok (.invokestatic 13, 3) := by decide +kernel
theorem dX12_divisor_4 : decode cX12_divisor 4 = .ok (.lstore 4, 2) := by decide +kernel
theorem dX12_divisor_6 : decode cX12_divisor 6 = .ok (.lload_n 2, 1) := by decide +kernel
theorem dX12_divisor_7 : decode cX12_divisor 7 = .ok (.invokestatic 13, 3) := by decide +kernel
theorem dX12_divisor_10 : decode cX12_divisor 10 = .ok (.lstore 6, 2) := by decide +kernel
theorem dX12_divisor_12 : decode cX12_divisor 12 = .ok (.lload 6, 2) := by decide +kernel
theorem dX12_divisor_14 : decode cX12_divisor 14 = .ok (.lconst 0, 1) := by decide +kernel
theorem dX12_divisor_15 : decode cX12_divisor 15 = .ok (.lcmp, 1) := by decide +kernel
theorem dX12_divisor_16 : decode cX12_divisor 16 = .ok (.ifCond .eq 21, 3) := by decide +kernel
theorem dX12_divisor_19 : decode cX12_divisor 19 = .ok (.lload 4, 2) := by decide +kernel
theorem dX12_divisor_21 : decode cX12_divisor 21 = .ok (.lload 6, 2) := by decide +kernel
theorem dX12_divisor_23 : decode cX12_divisor 23 = .ok (.lrem, 1) := by decide +kernel
theorem dX12_divisor_24 : decode cX12_divisor 24 = .ok (.lstore 8, 2) := by decide +kernel
theorem dX12_divisor_26 : decode cX12_divisor 26 = .ok (.lload 6, 2) := by decide +kernel
theorem dX12_divisor_28 : decode cX12_divisor 28 = .ok (.lstore 4, 2) := by decide +kernel
theorem dX12_divisor_30 : decode cX12_divisor 30 = .ok (.lload 8, 2) := by decide +kernel
theorem dX12_divisor_32 : decode cX12_divisor 32 = .ok (.lstore 6, 2) := by decide +kernel
theorem dX12_divisor_34 : decode cX12_divisor 34 = .ok (.goto (-22), 3) := by decide +kernel
theorem dX12_divisor_37 : decode cX12_divisor 37 = .ok (.lload 4, 2) := by decide +kernel
theorem dX12_divisor_39 : decode cX12_divisor 39 = .ok (.lreturn, 1) := by decide +kernel
theorem dX12_part_0 : decode cX12_part 0 = .ok (.lload_n 0, 1) := by decide +kernel
theorem dX12_part_1 : decode cX12_part 1 = .ok (.lload_n 2, 1) := by decide +kernel
theorem dX12_part_2 : decode cX12_part 2 = .ok (.invokestatic 19, 3) := by decide +kernel
theorem dX12_part_5 : decode cX12_part 5 = .ok (.lstore 5, 2) := by decide +kernel
theorem dX12_part_7 : decode cX12_part 7 = .ok (.iload 4, 2) := by decide +kernel
theorem dX12_part_9 : decode cX12_part 9 = .ok (.ifCond .ne 10, 3) := by decide +kernel
theorem dX12_part_12 : decode cX12_part 12 = .ok (.lload_n 0, 1) := by decide +kernel
theorem dX12_part_13 : decode cX12_part 13 = .ok (.lload 5, 2) := by decide +kernel
theorem dX12_part_15 : decode cX12_part 15 = .ok (.ldiv, 1) := by decide +kernel
theorem dX12_part_16 : decode cX12_part 16 = .ok (.goto 7, 3) := by decide +kernel
theorem dX12_part_19 : decode cX12_part 19 = .ok (.lload_n 2, 1) := by decide +kernel
theorem dX12_part_20 : decode cX12_part 20 = .ok (.lload 5, 2) := by decide +kernel
theorem dX12_part_22 : decode cX12_part 22 = .ok (.ldiv, 1) := by decide +kernel
theorem dX12_part_23 : decode cX12_part 23 = .ok (.lreturn, 1) := by decide +kernel
theorem dX12_init_0 : decode cX12_init 0 = .ok (.aload_n 0, 1) := by decide +kernel
theorem dX12_init_1 : decode cX12_init 1 = .ok (.invokespecial 23, 3) := by decide +kernel
theorem dX12_init_4 : decode cX12_init 4 = .ok (.aload_n 0, 1) := by decide +kernel
theorem dX12_init_5 : decode cX12_init 5 = .ok (.bipush 8, 2) := by decide +kernel
theorem dX12_init_7 : decode cX12_init 7 = .ok (.newarray .int, 2) := by decide +kernel
theorem dX12_init_9 : decode cX12_init 9 = .ok (.putfield 1, 3) := by decide +kernel
theorem dX12_init_12 : decode cX12_init 12 = .ok (.aload_n 0, 1) := by decide +kernel
theorem dX12_init_13 : decode cX12_init 13 = .ok (.iconst 2, 1) := by decide +kernel
theorem dX12_init_14 : decode cX12_init 14 = .ok (.putfield 29, 3) := by decide +kernel
theorem dX12_init_17 : decode cX12_init 17 = .ok (.aload_n 0, 1) := by decide +kernel
theorem dX12_init_18 : decode cX12_init 18 = .ok (.sipush 256, 3) := by decide +kernel
theorem dX12_init_21 : decode cX12_init 21 = .ok (.newarray .int, 2) := by decide +kernel
theorem dX12_init_23 : decode cX12_init 23 = .ok (.putfield 33, 3) := by decide +kernel
theorem dX12_init_26 : decode cX12_init 26 = .ok (.aload_n 0, 1) := by decide +kernel
theorem dX12_init_27 : decode cX12_init 27 = .ok (.bipush 88, 2) := by decide +kernel
theorem dX12_init_29 : decode cX12_init 29 = .ok (.newarray .int, 2) := by decide +kernel
theorem dX12_init_31 : decode cX12_init 31 = .ok (.putfield 36, 3) := by decide +kernel
theorem dX12_init_34 : decode cX12_init 34 = .ok (.aload_n 0, 1) := by decide +kernel
theorem dX12_init_35 : decode cX12_init 35 = .ok (.bipush 88, 2) := by decide +kernel
theorem dX12_init_37 : decode cX12_init 37 = .ok (.newarray .int, 2) := by decide +kernel
theorem dX12_init_39 : decode cX12_init 39 = .ok (.putfield 39, 3) := by decide +kernel
theorem dX12_init_42 : decode cX12_init 42 = .ok (.aload_n 0, 1) := by decide +kernel
theorem dX12_init_43 : decode cX12_init 43 = .ok (.bipush 88, 2) := by decide +kernel
theorem dX12_init_45 : decode cX12_init 45 = .ok (.newarray .int, 2) := by decide +kernel
theorem dX12_init_47 : decode cX12_init 47 = .ok (.putfield 42, 3) := by decide +kernel
theorem dX12_init_50 : decode cX12_init 50 = .ok (.aload_n 0, 1) := by decide +kernel
theorem dX12_init_51 : decode cX12_init 51 = .ok (.bipush 88, 2) := by decide +kernel
theorem dX12_init_53 : decode cX12_init 53 = .ok (.newarray .int, 2) := by decide +kernel
theorem dX12_init_55 : decode cX12_init 55 = .ok (.putfield 45, 3) := by decide +kernel
theorem dX12_init_58 : decode cX12_init 58 = .ok (.aload_n 0, 1) := by decide +kernel
theorem dX12_init_59 : decode cX12_init 59 = .ok (.bipush 16, 2) := by decide +kernel
theorem dX12_init_61 : decode cX12_init 61 = .ok (.newarray .int, 2) := by decide +kernel
theorem dX12_init_63 : decode cX12_init 63 = .ok (.putfield 48, 3) := by decide +kernel
theorem dX12_init_66 : decode cX12_init 66 = .ok (.aload_n 0, 1) := by decide +kernel
theorem dX12_init_67 : decode cX12_init 67 = .ok (.iconst 4, 1) := by decide +kernel
theorem dX12_init_68 : decode cX12_init 68 = .ok (.newarray .long, 2) := by decide +kernel
theorem dX12_init_70 : decode cX12_init 70 = .ok (.putfield 51, 3) := by decide +kernel
theorem dX12_init_73 : decode cX12_init 73 = .ok (.aload_n 0, 1) := by decide +kernel
theorem dX12_init_74 : decode cX12_init 74 = .ok (.iconst 4, 1) := by decide +kernel
theorem dX12_init_75 : decode cX12_init 75 = .ok (.newarray .long, 2) := by decide +kernel
theorem dX12_init_77 : decode cX12_init 77 = .ok (.putfield 55, 3) := by decide +kernel
theorem dX12_init_80 : decode cX12_init 80 = .ok (.aload_n 0, 1) := by decide +kernel
theorem dX12_init_81 : decode cX12_init 81 = .ok (.bipush 16, 2) := by decide +kernel
theorem dX12_init_83 : decode cX12_init 83 = .ok (.newarray .int, 2) := by decide +kernel
theorem dX12_init_85 : decode cX12_init 85 = .ok (.putfield 58, 3) := by decide +kernel
theorem dX12_init_88 : decode cX12_init 88 = .ok (.aload_n 0, 1) := by decide +kernel
theorem dX12_init_89 : decode cX12_init 89 = .ok (.bipush 16, 2) := by decide +kernel
theorem dX12_init_91 : decode cX12_init 91 = .ok (.newarray .int, 2) := by decide +kernel
theorem dX12_init_93 : decode cX12_init 93 = .ok (.putfield 61, 3) := by decide +kernel
theorem dX12_init_96 : decode cX12_init 96 = .ok (.aload_n 0, 1) := by decide +kernel
theorem dX12_init_97 : decode cX12_init 97 = .ok (.bipush 40, 2) := by decide +kernel
theorem dX12_init_99 : decode cX12_init 99 = .ok (.newarray .int, 2) := by decide +kernel
theorem dX12_init_101 : decode cX12_init 101 = .ok (.putfield 64, 3) := by decide +kernel
theorem dX12_init_104 : decode cX12_init 104 = .ok (.aload_n 0, 1) := by decide +kernel
theorem dX12_init_105 : decode cX12_init 105 = .ok (.bipush 10, 2) := by decide +kernel
theorem dX12_init_107 : decode cX12_init 107 = .ok (.newarray .int, 2) := by decide +kernel
theorem dX12_init_109 : decode cX12_init 109 = .ok (.putfield 67, 3) := by decide +kernel
theorem dX12_init_112 : decode cX12_init 112 = .ok (.aload_n 0, 1) := by decide +kernel
theorem dX12_init_113 : decode cX12_init 113 = .ok (.bipush 30, 2) := by decide +kernel
theorem dX12_init_115 : decode cX12_init 115 = .ok (.newarray .int, 2) := by decide +kernel
theorem dX12_init_117 : decode cX12_init 117 = .ok (.putfield 70, 3) := by decide +kernel
theorem dX12_init_120 : decode cX12_init 120 = .ok (.aload_n 0, 1) := by decide +kernel
theorem dX12_init_121 : decode cX12_init 121 = .ok (.iconst 3, 1) := by decide +kernel
theorem dX12_init_122 : decode cX12_init 122 = .ok (.newarray .int, 2) := by decide +kernel
theorem dX12_init_124 : decode cX12_init 124 = .ok (.dup, 1) := by decide +kernel
theorem dX12_init_125 : decode cX12_init 125 = .ok (.iconst 0, 1) := by decide +kernel
theorem dX12_init_126 : decode cX12_init 126 = .ok (.bipush (-9), 2) := by decide +kernel
theorem dX12_init_128 : decode cX12_init 128 = .ok (.iastore, 1) := by decide +kernel
theorem dX12_init_129 : decode cX12_init 129 = .ok (.dup, 1) := by decide +kernel
theorem dX12_init_130 : decode cX12_init 130 = .ok (.iconst 1, 1) := by decide +kernel
theorem dX12_init_131 : decode cX12_init 131 = .ok (.bipush (-9), 2) := by decide +kernel
theorem dX12_init_133 : decode cX12_init 133 = .ok (.iastore, 1) := by decide +kernel
theorem dX12_init_134 : decode cX12_init 134 = .ok (.dup, 1) := by decide +kernel
theorem dX12_init_135 : decode cX12_init 135 = .ok (.iconst 2, 1) := by decide +kernel
theorem dX12_init_136 : decode cX12_init 136 = .ok (.bipush (-9), 2) := by decide +kernel
theorem dX12_init_138 : decode cX12_init 138 = .ok (.iastore, 1) := by decide +kernel
theorem dX12_init_139 : decode cX12_init 139 = .ok (.putfield 73, 3) := by decide +kernel
theorem dX12_init_142 : decode cX12_init 142 = .ok (.aload_n 0, 1) := by decide +kernel
theorem dX12_init_143 : decode cX12_init 143 = .ok (.iconst 3, 1) := by decide +kernel
theorem dX12_init_144 : decode cX12_init 144 = .ok (.newarray .int, 2) := by decide +kernel
theorem dX12_init_146 : decode cX12_init 146 = .ok (.putfield 76, 3) := by decide +kernel
theorem dX12_init_149 : decode cX12_init 149 = .ok (.aload_n 0, 1) := by decide +kernel
theorem dX12_init_150 : decode cX12_init 150 = .ok (.bipush 27, 2) := by decide +kernel
theorem dX12_init_152 : decode cX12_init 152 = .ok (.newarray .int, 2) := by decide +kernel
theorem dX12_init_154 : decode cX12_init 154 = .ok (.putfield 79, 3) := by decide +kernel
theorem dX12_init_157 : decode cX12_init 157 = .ok (.aload_n 0, 1) := by decide +kernel
theorem dX12_init_158 : decode cX12_init 158 = .ok (.bipush 27, 2) := by decide +kernel
theorem dX12_init_160 : decode cX12_init 160 = .ok (.newarray .int, 2) := by decide +kernel
theorem dX12_init_162 : decode cX12_init 162 = .ok (.putfield 82, 3) := by decide +kernel
theorem dX12_init_165 : decode cX12_init 165 = .ok (.aload_n 0, 1) := by decide +kernel
theorem dX12_init_166 : decode cX12_init 166 = .ok (.iconst 3, 1) := by decide +kernel
theorem dX12_init_167 : decode cX12_init 167 = .ok (.newarray .int, 2) := by decide +kernel
theorem dX12_init_169 : decode cX12_init 169 = .ok (.dup, 1) := by decide +kernel
theorem dX12_init_170 : decode cX12_init 170 = .ok (.iconst 0, 1) := by decide +kernel
theorem dX12_init_171 : decode cX12_init 171 = .ok (.iconst (-1), 1) := by decide +kernel
theorem dX12_init_172 : decode cX12_init 172 = .ok (.iastore, 1) := by decide +kernel
theorem dX12_init_173 : decode cX12_init 173 = .ok (.dup, 1) := by decide +kernel
theorem dX12_init_174 : decode cX12_init 174 = .ok (.iconst 1, 1) := by decide +kernel
theorem dX12_init_175 : decode cX12_init 175 = .ok (.iconst (-1), 1) := by decide +kernel
theorem dX12_init_176 : decode cX12_init 176 = .ok (.iastore, 1) := by decide +kernel
theorem dX12_init_177 : decode cX12_init 177 = .ok (.dup, 1) := by decide +kernel
theorem dX12_init_178 : decode cX12_init 178 = .ok (.iconst 2, 1) := by decide +kernel
theorem dX12_init_179 : decode cX12_init 179 = .ok (.iconst (-1), 1) := by decide +kernel
theorem dX12_init_180 : decode cX12_init 180 = .ok (.iastore, 1) := by decide +kernel
theorem dX12_init_181 : decode cX12_init 181 = .ok (.putfield 85, 3) := by decide +kernel
theorem dX12_init_184 : decode cX12_init 184 = .ok (.aload_n 0, 1) := by decide +kernel
theorem dX12_init_185 : decode cX12_init 185 = .ok (.bipush 120, 2) := by decide +kernel
theorem dX12_init_187 : decode cX12_init 187 = .ok (.newarray .int, 2) := by decide +kernel
theorem dX12_init_189 : decode cX12_init 189 = .ok (.putfield 88, 3) := by decide +kernel
theorem dX12_init_192 : decode cX12_init 192 = .ok (.aload_n 0, 1) := by decide +kernel
theorem dX12_init_193 : decode cX12_init 193 = .ok (.bipush 72, 2) := by decide +kernel
theorem dX12_init_195 : decode cX12_init 195 = .ok (.newarray .int, 2) := by decide +kernel
theorem dX12_init_197 : decode cX12_init 197 = .ok (.putfield 91, 3) := by decide +kernel
theorem dX12_init_200 : decode cX12_init 200 = .ok (.aload_n 0, 1) := by decide +kernel
theorem dX12_init_201 : decode cX12_init 201 = .ok (.iconst 5, 1) := by decide +kernel
theorem dX12_init_202 : decode cX12_init 202 = .ok (.newarray .int, 2) := by decide +kernel
theorem dX12_init_204 : decode cX12_init 204 = .ok (.putfield 94, 3) := by decide +kernel
theorem dX12_init_207 : decode cX12_init 207 = .ok (.aload_n 0, 1) := by decide +kernel
theorem dX12_init_208 : decode cX12_init 208 = .ok (.bipush 16, 2) := by decide +kernel
theorem dX12_init_210 : decode cX12_init 210 = .ok (.newarray .int, 2) := by decide +kernel
theorem dX12_init_212 : decode cX12_init 212 = .ok (.putfield 97, 3) := by decide +kernel
theorem dX12_init_215 : decode cX12_init 215 = .ok (.aload_n 0, 1) := by decide +kernel
theorem dX12_init_216 : decode cX12_init 216 = .ok (.bipush 16, 2) := by decide +kernel
theorem dX12_init_218 : decode cX12_init 218 = .ok (.newarray .int, 2) := by decide +kernel
theorem dX12_init_220 : decode cX12_init 220 = .ok (.putfield 100, 3) := by decide +kernel
theorem dX12_init_223 : decode cX12_init 223 = .ok (.aload_n 0, 1) := by decide +kernel
theorem dX12_init_224 : decode cX12_init 224 = .ok (.bipush 40, 2) := by decide +kernel
theorem dX12_init_226 : decode cX12_init 226 = .ok (.newarray .int, 2) := by decide +kernel
theorem dX12_init_228 : decode cX12_init 228 = .ok (.putfield 103, 3) := by decide +kernel
theorem dX12_init_231 : decode cX12_init 231 = .ok (.aload_n 0, 1) := by decide +kernel
theorem dX12_init_232 : decode cX12_init 232 = .ok (.bipush 10, 2) := by decide +kernel
theorem dX12_init_234 : decode cX12_init 234 = .ok (.newarray .int, 2) := by decide +kernel
theorem dX12_init_236 : decode cX12_init 236 = .ok (.putfield 106, 3) := by decide +kernel
theorem dX12_init_239 : decode cX12_init 239 = .ok (.aload_n 0, 1) := by decide +kernel
theorem dX12_init_240 : decode cX12_init 240 = .ok (.bipush 30, 2) := by decide +kernel
theorem dX12_init_242 : decode cX12_init 242 = .ok (.newarray .int, 2) := by decide +kernel
theorem dX12_init_244 : decode cX12_init 244 = .ok (.putfield 109, 3) := by decide +kernel
theorem dX12_init_247 : decode cX12_init 247 = .ok (.aload_n 0, 1) := by decide +kernel
theorem dX12_init_248 : decode cX12_init 248 = .ok (.iconst 2, 1) := by decide +kernel
theorem dX12_init_249 : decode cX12_init 249 = .ok (.iconst 0, 1) := by decide +kernel
theorem dX12_init_250 : decode cX12_init 250 = .ok (.iconst 0, 1) := by decide +kernel
theorem dX12_init_251 : decode cX12_init 251 = .ok (.invokevirtual 112, 3) := by decide +kernel
theorem dX12_init_254 : decode cX12_init 254 = .ok (.aload_n 0, 1) := by decide +kernel
theorem dX12_init_255 : decode cX12_init 255 = .ok (.invokevirtual 116, 3) := by decide +kernel
theorem dX12_init_258 : decode cX12_init 258 = .ok (.return_, 1) := by decide +kernel
theorem dX12_side_0 : decode cX12_side 0 = .ok (.iconst 1, 1) := by decide +kernel
theorem dX12_side_1 : decode cX12_side 1 = .ok (.aload_n 0, 1) := by decide +kernel
theorem dX12_side_2 : decode cX12_side 2 = .ok (.getfield 29, 3) := by decide +kernel
theorem dX12_side_5 : decode cX12_side 5 = .ok (.ishl, 1) := by decide +kernel
theorem dX12_side_6 : decode cX12_side 6 = .ok (.ireturn, 1) := by decide +kernel
theorem dX12_isCell_0 : decode cX12_isCell 0 = .ok (.iload_n 1, 1) := by decide +kernel
theorem dX12_isCell_1 : decode cX12_isCell 1 = .ok (.i2l, 1) := by decide +kernel
theorem dX12_isCell_2 : decode cX12_isCell 2 = .ok (.lconst 0, 1) := by decide +kernel
theorem dX12_isCell_3 : decode cX12_isCell 3 = .ok (.aload_n 0, 1) := by decide +kernel
theorem dX12_isCell_4 : decode cX12_isCell 4 = .ok (.invokevirtual 119, 3) := by decide +kernel
theorem dX12_isCell_7 : decode cX12_isCell 7 = .ok (.iconst 1, 1) := by decide +kernel
theorem dX12_isCell_8 : decode cX12_isCell 8 = .ok (.isub, 1) := by decide +kernel
theorem dX12_isCell_9 : decode cX12_isCell 9 = .ok (.i2l, 1) := by decide +kernel
theorem dX12_isCell_10 : decode cX12_isCell 10 = .ok (.invokestatic 123, 3) := by decide +kernel
theorem dX12_isCell_13 : decode cX12_isCell 13 = .ok (.ifCond .eq 23, 3) := by decide +kernel
theorem dX12_isCell_16 : decode cX12_isCell 16 = .ok (.iload_n 2, 1) := by decide +kernel
theorem dX12_isCell_17 : decode cX12_isCell 17 = .ok (.i2l, 1) := by decide +kernel
theorem dX12_isCell_18 : decode cX12_isCell 18 = .ok (.lconst 0, 1) := by decide +kernel
theorem dX12_isCell_19 : decode cX12_isCell 19 = .ok (.aload_n 0, 1) := by decide +kernel
theorem dX12_isCell_20 : decode cX12_isCell 20 = .ok (.invokevirtual 119, 3) := by decide +kernel
theorem dX12_isCell_23 : decode cX12_isCell 23 = .ok (.iconst 1, 1) := by decide +kernel
theorem dX12_isCell_24 : decode cX12_isCell 24 = .ok (.isub, 1) := by decide +kernel
theorem dX12_isCell_25 : decode cX12_isCell 25 = .ok (.i2l, 1) := by decide +kernel
theorem dX12_isCell_26 : decode cX12_isCell 26 = .ok (.invokestatic 123, 3) := by decide +kernel
theorem dX12_isCell_29 : decode cX12_isCell 29 = .ok (.ifCond .eq 7, 3) := by decide +kernel
theorem dX12_isCell_32 : decode cX12_isCell 32 = .ok (.iconst 1, 1) := by decide +kernel
theorem dX12_isCell_33 : decode cX12_isCell 33 = .ok (.goto 4, 3) := by decide +kernel
theorem dX12_isCell_36 : decode cX12_isCell 36 = .ok (.iconst 0, 1) := by decide +kernel
theorem dX12_isCell_37 : decode cX12_isCell 37 = .ok (.ireturn, 1) := by decide +kernel
theorem dX12_lays_0 : decode cX12_lays 0 = .ok (.aload_n 0, 1) := by decide +kernel
theorem dX12_lays_1 : decode cX12_lays 1 = .ok (.iload_n 1, 1) := by decide +kernel
theorem dX12_lays_2 : decode cX12_lays 2 = .ok (.putfield 29, 3) := by decide +kernel
theorem dX12_lays_5 : decode cX12_lays 5 = .ok (.aload_n 0, 1) := by decide +kernel
theorem dX12_lays_6 : decode cX12_lays 6 = .ok (.iload_n 2, 1) := by decide +kernel
theorem dX12_lays_7 : decode cX12_lays 7 = .ok (.putfield 127, 3) := by decide +kernel
theorem dX12_lays_10 : decode cX12_lays 10 = .ok (.aload_n 0, 1) := by decide +kernel
theorem dX12_lays_11 : decode cX12_lays 11 = .ok (.iload_n 3, 1) := by decide +kernel
theorem dX12_lays_12 : decode cX12_lays 12 = .ok (.putfield 130, 3) := by decide +kernel
theorem dX12_lays_15 : decode cX12_lays 15 = .ok (.aload_n 0, 1) := by decide +kernel
theorem dX12_lays_16 : decode cX12_lays 16 = .ok (.iconst 0, 1) := by decide +kernel
theorem dX12_lays_17 : decode cX12_lays 17 = .ok (.putfield 133, 3) := by decide +kernel
theorem dX12_lays_20 : decode cX12_lays 20 = .ok (.aload_n 0, 1) := by decide +kernel
theorem dX12_lays_21 : decode cX12_lays 21 = .ok (.getfield 33, 3) := by decide +kernel
theorem dX12_lays_24 : decode cX12_lays 24 = .ok (.bipush 16, 2) := by decide +kernel
theorem dX12_lays_26 : decode cX12_lays 26 = .ok (.iload_n 3, 1) := by decide +kernel
theorem dX12_lays_27 : decode cX12_lays 27 = .ok (.imul, 1) := by decide +kernel
theorem dX12_lays_28 : decode cX12_lays 28 = .ok (.iload_n 2, 1) := by decide +kernel
theorem dX12_lays_29 : decode cX12_lays 29 = .ok (.iadd, 1) := by decide +kernel
theorem dX12_lays_30 : decode cX12_lays 30 = .ok (.bipush (-9), 2) := by decide +kernel
theorem dX12_lays_32 : decode cX12_lays 32 = .ok (.iastore, 1) := by decide +kernel
theorem dX12_lays_33 : decode cX12_lays 33 = .ok (.aload_n 0, 1) := by decide +kernel
theorem dX12_lays_34 : decode cX12_lays 34 = .ok (.iconst 0, 1) := by decide +kernel
theorem dX12_lays_35 : decode cX12_lays 35 = .ok (.iconst 0, 1) := by decide +kernel
theorem dX12_lays_36 : decode cX12_lays 36 = .ok (.aload_n 0, 1) := by decide +kernel
theorem dX12_lays_37 : decode cX12_lays 37 = .ok (.invokevirtual 119, 3) := by decide +kernel
theorem dX12_lays_40 : decode cX12_lays 40 = .ok (.iload_n 2, 1) := by decide +kernel
theorem dX12_lays_41 : decode cX12_lays 41 = .ok (.iload_n 3, 1) := by decide +kernel
theorem dX12_lays_42 : decode cX12_lays 42 = .ok (.invokevirtual 136, 3) := by decide +kernel
theorem dX12_lays_45 : decode cX12_lays 45 = .ok (.return_, 1) := by decide +kernel
theorem dX12_cuts_0 : decode cX12_cuts 0 = .ok (.iload_n 3, 1) := by decide +kernel
theorem dX12_cuts_1 : decode cX12_cuts 1 = .ok (.iconst 1, 1) := by decide +kernel
theorem dX12_cuts_2 : decode cX12_cuts 2 = .ok (.if_icmp .ne 4, 3) := by decide +kernel
theorem dX12_cuts_5 : decode cX12_cuts 5 = .ok (.return_, 1) := by decide +kernel
theorem dX12_cuts_6 : decode cX12_cuts 6 = .ok (.iload_n 3, 1) := by decide +kernel
theorem dX12_cuts_7 : decode cX12_cuts 7 = .ok (.iconst 2, 1) := by decide +kernel
theorem dX12_cuts_8 : decode cX12_cuts 8 = .ok (.idiv, 1) := by decide +kernel
theorem dX12_cuts_9 : decode cX12_cuts 9 = .ok (.istore 6, 2) := by decide +kernel
theorem dX12_cuts_11 : decode cX12_cuts 11 = .ok (.iload 4, 2) := by decide +kernel
theorem dX12_cuts_13 : decode cX12_cuts 13 = .ok (.iload_n 1, 1) := by decide +kernel
theorem dX12_cuts_14 : decode cX12_cuts 14 = .ok (.iload 6, 2) := by decide +kernel
theorem dX12_cuts_16 : decode cX12_cuts 16 = .ok (.iadd, 1) := by decide +kernel
theorem dX12_cuts_17 : decode cX12_cuts 17 = .ok (.if_icmp .lt 7, 3) := by decide +kernel
theorem dX12_cuts_20 : decode cX12_cuts 20 = .ok (.iconst 1, 1) := by decide +kernel
theorem dX12_cuts_21 : decode cX12_cuts 21 = .ok (.goto 4, 3) := by decide +kernel
theorem dX12_cuts_24 : decode cX12_cuts 24 = .ok (.iconst 0, 1) := by decide +kernel
theorem dX12_cuts_25 : decode cX12_cuts 25 = .ok (.iload 5, 2) := by decide +kernel
theorem dX12_cuts_27 : decode cX12_cuts 27 = .ok (.iload_n 2, 1) := by decide +kernel
theorem dX12_cuts_28 : decode cX12_cuts 28 = .ok (.iload 6, 2) := by decide +kernel
theorem dX12_cuts_30 : decode cX12_cuts 30 = .ok (.iadd, 1) := by decide +kernel
theorem dX12_cuts_31 : decode cX12_cuts 31 = .ok (.if_icmp .lt 7, 3) := by decide +kernel
theorem dX12_cuts_34 : decode cX12_cuts 34 = .ok (.iconst 2, 1) := by decide +kernel
theorem dX12_cuts_35 : decode cX12_cuts 35 = .ok (.goto 4, 3) := by decide +kernel
theorem dX12_cuts_38 : decode cX12_cuts 38 = .ok (.iconst 0, 1) := by decide +kernel
theorem dX12_cuts_39 : decode cX12_cuts 39 = .ok (.iadd, 1) := by decide +kernel
theorem dX12_cuts_40 : decode cX12_cuts 40 = .ok (.istore 7, 2) := by decide +kernel
theorem dX12_cuts_42 : decode cX12_cuts 42 = .ok (.aload_n 0, 1) := by decide +kernel
theorem dX12_cuts_43 : decode cX12_cuts 43 = .ok (.getfield 133, 3) := by decide +kernel
theorem dX12_cuts_46 : decode cX12_cuts 46 = .ok (.istore 8, 2) := by decide +kernel
theorem dX12_cuts_48 : decode cX12_cuts 48 = .ok (.aload_n 0, 1) := by decide +kernel
theorem dX12_cuts_49 : decode cX12_cuts 49 = .ok (.dup, 1) := by decide +kernel
theorem dX12_cuts_50 : decode cX12_cuts 50 = .ok (.getfield 133, 3) := by decide +kernel
theorem dX12_cuts_53 : decode cX12_cuts 53 = .ok (.iconst 1, 1) := by decide +kernel
theorem dX12_cuts_54 : decode cX12_cuts 54 = .ok (.iadd, 1) := by decide +kernel
theorem dX12_cuts_55 : decode cX12_cuts 55 = .ok (.putfield 133, 3) := by decide +kernel
theorem dX12_cuts_58 : decode cX12_cuts 58 = .ok (.aload_n 0, 1) := by decide +kernel
theorem dX12_cuts_59 : decode cX12_cuts 59 = .ok (.getfield 36, 3) := by decide +kernel
theorem dX12_cuts_62 : decode cX12_cuts 62 = .ok (.iload 8, 2) := by decide +kernel
theorem dX12_cuts_64 : decode cX12_cuts 64 = .ok (.iload 7, 2) := by decide +kernel
theorem dX12_cuts_66 : decode cX12_cuts 66 = .ok (.iastore, 1) := by decide +kernel
theorem dX12_cuts_67 : decode cX12_cuts 67 = .ok (.aload_n 0, 1) := by decide +kernel
theorem dX12_cuts_68 : decode cX12_cuts 68 = .ok (.getfield 39, 3) := by decide +kernel
theorem dX12_cuts_71 : decode cX12_cuts 71 = .ok (.iload 8, 2) := by decide +kernel
theorem dX12_cuts_73 : decode cX12_cuts 73 = .ok (.iload_n 3, 1) := by decide +kernel
theorem dX12_cuts_74 : decode cX12_cuts 74 = .ok (.iastore, 1) := by decide +kernel
theorem dX12_cuts_75 : decode cX12_cuts 75 = .ok (.aload_n 0, 1) := by decide +kernel
theorem dX12_cuts_76 : decode cX12_cuts 76 = .ok (.getfield 42, 3) := by decide +kernel
theorem dX12_cuts_79 : decode cX12_cuts 79 = .ok (.iload 8, 2) := by decide +kernel
theorem dX12_cuts_81 : decode cX12_cuts 81 = .ok (.iload_n 1, 1) := by decide +kernel
theorem dX12_cuts_82 : decode cX12_cuts 82 = .ok (.iload 6, 2) := by decide +kernel
theorem dX12_cuts_84 : decode cX12_cuts 84 = .ok (.iadd, 1) := by decide +kernel
theorem dX12_cuts_85 : decode cX12_cuts 85 = .ok (.iconst 1, 1) := by decide +kernel
theorem dX12_cuts_86 : decode cX12_cuts 86 = .ok (.isub, 1) := by decide +kernel
theorem dX12_cuts_87 : decode cX12_cuts 87 = .ok (.iconst 3, 1) := by decide +kernel
theorem dX12_cuts_88 : decode cX12_cuts 88 = .ok (.iload 7, 2) := by decide +kernel
theorem dX12_cuts_90 : decode cX12_cuts 90 = .ok (.isub, 1) := by decide +kernel
theorem dX12_cuts_91 : decode cX12_cuts 91 = .ok (.iconst 2, 1) := by decide +kernel
theorem dX12_cuts_92 : decode cX12_cuts 92 = .ok (.irem, 1) := by decide +kernel
theorem dX12_cuts_93 : decode cX12_cuts 93 = .ok (.iadd, 1) := by decide +kernel
theorem dX12_cuts_94 : decode cX12_cuts 94 = .ok (.iastore, 1) := by decide +kernel
theorem dX12_cuts_95 : decode cX12_cuts 95 = .ok (.aload_n 0, 1) := by decide +kernel
theorem dX12_cuts_96 : decode cX12_cuts 96 = .ok (.getfield 45, 3) := by decide +kernel
theorem dX12_cuts_99 : decode cX12_cuts 99 = .ok (.iload 8, 2) := by decide +kernel
theorem dX12_cuts_101 : decode cX12_cuts 101 = .ok (.iload_n 2, 1) := by decide +kernel
theorem dX12_cuts_102 : decode cX12_cuts 102 = .ok (.iload 6, 2) := by decide +kernel
theorem dX12_cuts_104 : decode cX12_cuts 104 = .ok (.iadd, 1) := by decide +kernel
theorem dX12_cuts_105 : decode cX12_cuts 105 = .ok (.iconst 1, 1) := by decide +kernel
theorem dX12_cuts_106 : decode cX12_cuts 106 = .ok (.isub, 1) := by decide +kernel
theorem dX12_cuts_107 : decode cX12_cuts 107 = .ok (.iconst 3, 1) := by decide +kernel
theorem dX12_cuts_108 : decode cX12_cuts 108 = .ok (.iload 7, 2) := by decide +kernel
theorem dX12_cuts_110 : decode cX12_cuts 110 = .ok (.isub, 1) := by decide +kernel
theorem dX12_cuts_111 : decode cX12_cuts 111 = .ok (.iconst 2, 1) := by decide +kernel
theorem dX12_cuts_112 : decode cX12_cuts 112 = .ok (.idiv, 1) := by decide +kernel
theorem dX12_cuts_113 : decode cX12_cuts 113 = .ok (.iadd, 1) := by decide +kernel
theorem dX12_cuts_114 : decode cX12_cuts 114 = .ok (.iastore, 1) := by decide +kernel
theorem dX12_cuts_115 : decode cX12_cuts 115 = .ok (.iconst 0, 1) := by decide +kernel
theorem dX12_cuts_116 : decode cX12_cuts 116 = .ok (.istore 9, 2) := by decide +kernel
theorem dX12_cuts_118 : decode cX12_cuts 118 = .ok (.iload 9, 2) := by decide +kernel
theorem dX12_cuts_120 : decode cX12_cuts 120 = .ok (.iconst 4, 1) := by decide +kernel
theorem dX12_cuts_121 : decode cX12_cuts 121 = .ok (.if_icmp .ge 49, 3) := by decide +kernel
theorem dX12_cuts_124 : decode cX12_cuts 124 = .ok (.iload 9, 2) := by decide +kernel
theorem dX12_cuts_126 : decode cX12_cuts 126 = .ok (.iload 7, 2) := by decide +kernel
theorem dX12_cuts_128 : decode cX12_cuts 128 = .ok (.if_icmp .eq 36, 3) := by decide +kernel
theorem dX12_cuts_131 : decode cX12_cuts 131 = .ok (.aload_n 0, 1) := by decide +kernel
theorem dX12_cuts_132 : decode cX12_cuts 132 = .ok (.getfield 33, 3) := by decide +kernel
theorem dX12_cuts_135 : decode cX12_cuts 135 = .ok (.bipush 16, 2) := by decide +kernel
theorem dX12_cuts_137 : decode cX12_cuts 137 = .ok (.iload_n 2, 1) := by decide +kernel
theorem dX12_cuts_138 : decode cX12_cuts 138 = .ok (.iload 6, 2) := by decide +kernel
theorem dX12_cuts_140 : decode cX12_cuts 140 = .ok (.iadd, 1) := by decide +kernel
theorem dX12_cuts_141 : decode cX12_cuts 141 = .ok (.iconst 1, 1) := by decide +kernel
theorem dX12_cuts_142 : decode cX12_cuts 142 = .ok (.isub, 1) := by decide +kernel
theorem dX12_cuts_143 : decode cX12_cuts 143 = .ok (.iload 9, 2) := by decide +kernel
theorem dX12_cuts_145 : decode cX12_cuts 145 = .ok (.iconst 2, 1) := by decide +kernel
theorem dX12_cuts_146 : decode cX12_cuts 146 = .ok (.idiv, 1) := by decide +kernel
theorem dX12_cuts_147 : decode cX12_cuts 147 = .ok (.iadd, 1) := by decide +kernel
theorem dX12_cuts_148 : decode cX12_cuts 148 = .ok (.imul, 1) := by decide +kernel
theorem dX12_cuts_149 : decode cX12_cuts 149 = .ok (.iload_n 1, 1) := by decide +kernel
theorem dX12_cuts_150 : decode cX12_cuts 150 = .ok (.iadd, 1) := by decide +kernel
theorem dX12_cuts_151 : decode cX12_cuts 151 = .ok (.iload 6, 2) := by decide +kernel
theorem dX12_cuts_153 : decode cX12_cuts 153 = .ok (.iadd, 1) := by decide +kernel
theorem dX12_cuts_154 : decode cX12_cuts 154 = .ok (.iconst 1, 1) := by decide +kernel
theorem dX12_cuts_155 : decode cX12_cuts 155 = .ok (.isub, 1) := by decide +kernel
theorem dX12_cuts_156 : decode cX12_cuts 156 = .ok (.iload 9, 2) := by decide +kernel
theorem dX12_cuts_158 : decode cX12_cuts 158 = .ok (.iconst 2, 1) := by decide +kernel
theorem dX12_cuts_159 : decode cX12_cuts 159 = .ok (.irem, 1) := by decide +kernel
theorem dX12_cuts_160 : decode cX12_cuts 160 = .ok (.iadd, 1) := by decide +kernel
theorem dX12_cuts_161 : decode cX12_cuts 161 = .ok (.iload 8, 2) := by decide +kernel
theorem dX12_cuts_163 : decode cX12_cuts 163 = .ok (.iastore, 1) := by decide +kernel
theorem dX12_cuts_164 : decode cX12_cuts 164 = .ok (.iinc 9 1, 3) := by decide +kernel
theorem dX12_cuts_167 : decode cX12_cuts 167 = .ok (.goto (-49), 3) := by decide +kernel
theorem dX12_cuts_170 : decode cX12_cuts 170 = .ok (.iconst 0, 1) := by decide +kernel
theorem dX12_cuts_171 : decode cX12_cuts 171 = .ok (.istore 9, 2) := by decide +kernel
theorem dX12_cuts_173 : decode cX12_cuts 173 = .ok (.iload 9, 2) := by decide +kernel
theorem dX12_cuts_175 : decode cX12_cuts 175 = .ok (.iconst 4, 1) := by decide +kernel
theorem dX12_cuts_176 : decode cX12_cuts 176 = .ok (.if_icmp .ge 89, 3) := by decide +kernel
theorem dX12_cuts_179 : decode cX12_cuts 179 = .ok (.iload 9, 2) := by decide +kernel
theorem dX12_cuts_181 : decode cX12_cuts 181 = .ok (.iload 7, 2) := by decide +kernel
theorem dX12_cuts_183 : decode cX12_cuts 183 = .ok (.if_icmp .ne 7, 3) := by decide +kernel
theorem dX12_cuts_186 : decode cX12_cuts 186 = .ok (.iconst 1, 1) := by decide +kernel
theorem dX12_cuts_187 : decode cX12_cuts 187 = .ok (.goto 4, 3) := by decide +kernel
theorem dX12_cuts_190 : decode cX12_cuts 190 = .ok (.iconst 0, 1) := by decide +kernel
theorem dX12_cuts_191 : decode cX12_cuts 191 = .ok (.istore 10, 2) := by decide +kernel
theorem dX12_cuts_193 : decode cX12_cuts 193 = .ok (.aload_n 0, 1) := by decide +kernel
theorem dX12_cuts_194 : decode cX12_cuts 194 = .ok (.iload_n 1, 1) := by decide +kernel
theorem dX12_cuts_195 : decode cX12_cuts 195 = .ok (.iload 6, 2) := by decide +kernel
theorem dX12_cuts_197 : decode cX12_cuts 197 = .ok (.iload 9, 2) := by decide +kernel
theorem dX12_cuts_199 : decode cX12_cuts 199 = .ok (.iconst 2, 1) := by decide +kernel
theorem dX12_cuts_200 : decode cX12_cuts 200 = .ok (.irem, 1) := by decide +kernel
theorem dX12_cuts_201 : decode cX12_cuts 201 = .ok (.imul, 1) := by decide +kernel
theorem dX12_cuts_202 : decode cX12_cuts 202 = .ok (.iadd, 1) := by decide +kernel
theorem dX12_cuts_203 : decode cX12_cuts 203 = .ok (.iload_n 2, 1) := by decide +kernel
theorem dX12_cuts_204 : decode cX12_cuts 204 = .ok (.iload 6, 2) := by decide +kernel
theorem dX12_cuts_206 : decode cX12_cuts 206 = .ok (.iload 9, 2) := by decide +kernel
theorem dX12_cuts_208 : decode cX12_cuts 208 = .ok (.iconst 2, 1) := by decide +kernel
theorem dX12_cuts_209 : decode cX12_cuts 209 = .ok (.idiv, 1) := by decide +kernel
theorem dX12_cuts_210 : decode cX12_cuts 210 = .ok (.imul, 1) := by decide +kernel
theorem dX12_cuts_211 : decode cX12_cuts 211 = .ok (.iadd, 1) := by decide +kernel
theorem dX12_cuts_212 : decode cX12_cuts 212 = .ok (.iload 6, 2) := by decide +kernel
theorem dX12_cuts_214 : decode cX12_cuts 214 = .ok (.iload 10, 2) := by decide +kernel
theorem dX12_cuts_216 : decode cX12_cuts 216 = .ok (.ifCond .eq 8, 3) := by decide +kernel
theorem dX12_cuts_219 : decode cX12_cuts 219 = .ok (.iload 4, 2) := by decide +kernel
theorem dX12_cuts_221 : decode cX12_cuts 221 = .ok (.goto 14, 3) := by decide +kernel
theorem dX12_cuts_224 : decode cX12_cuts 224 = .ok (.iload_n 1, 1) := by decide +kernel
theorem dX12_cuts_225 : decode cX12_cuts 225 = .ok (.iload 6, 2) := by decide +kernel
theorem dX12_cuts_227 : decode cX12_cuts 227 = .ok (.iadd, 1) := by decide +kernel
theorem dX12_cuts_228 : decode cX12_cuts 228 = .ok (.iconst 1, 1) := by decide +kernel
theorem dX12_cuts_229 : decode cX12_cuts 229 = .ok (.isub, 1) := by decide +kernel
theorem dX12_cuts_230 : decode cX12_cuts 230 = .ok (.iload 9, 2) := by decide +kernel
theorem dX12_cuts_232 : decode cX12_cuts 232 = .ok (.iconst 2, 1) := by decide +kernel
theorem dX12_cuts_233 : decode cX12_cuts 233 = .ok (.irem, 1) := by decide +kernel
theorem dX12_cuts_234 : decode cX12_cuts 234 = .ok (.iadd, 1) := by decide +kernel
theorem dX12_cuts_235 : decode cX12_cuts 235 = .ok (.iload 10, 2) := by decide +kernel
theorem dX12_cuts_237 : decode cX12_cuts 237 = .ok (.ifCond .eq 8, 3) := by decide +kernel
theorem dX12_cuts_240 : decode cX12_cuts 240 = .ok (.iload 5, 2) := by decide +kernel
theorem dX12_cuts_242 : decode cX12_cuts 242 = .ok (.goto 14, 3) := by decide +kernel
theorem dX12_cuts_245 : decode cX12_cuts 245 = .ok (.iload_n 2, 1) := by decide +kernel
theorem dX12_cuts_246 : decode cX12_cuts 246 = .ok (.iload 6, 2) := by decide +kernel
theorem dX12_cuts_248 : decode cX12_cuts 248 = .ok (.iadd, 1) := by decide +kernel
theorem dX12_cuts_249 : decode cX12_cuts 249 = .ok (.iconst 1, 1) := by decide +kernel
theorem dX12_cuts_250 : decode cX12_cuts 250 = .ok (.isub, 1) := by decide +kernel
theorem dX12_cuts_251 : decode cX12_cuts 251 = .ok (.iload 9, 2) := by decide +kernel
theorem dX12_cuts_253 : decode cX12_cuts 253 = .ok (.iconst 2, 1) := by decide +kernel
theorem dX12_cuts_254 : decode cX12_cuts 254 = .ok (.idiv, 1) := by decide +kernel
theorem dX12_cuts_255 : decode cX12_cuts 255 = .ok (.iadd, 1) := by decide +kernel
theorem dX12_cuts_256 : decode cX12_cuts 256 = .ok (.invokevirtual 136, 3) := by decide +kernel
theorem dX12_cuts_259 : decode cX12_cuts 259 = .ok (.iinc 9 1, 3) := by decide +kernel
theorem dX12_cuts_262 : decode cX12_cuts 262 = .ok (.goto (-89), 3) := by decide +kernel
theorem dX12_cuts_265 : decode cX12_cuts 265 = .ok (.return_, 1) := by decide +kernel
theorem dX12_cell_0 : decode cX12_cell 0 = .ok (.aload_n 0, 1) := by decide +kernel
theorem dX12_cell_1 : decode cX12_cell 1 = .ok (.getfield 33, 3) := by decide +kernel
theorem dX12_cell_4 : decode cX12_cell 4 = .ok (.bipush 16, 2) := by decide +kernel
theorem dX12_cell_6 : decode cX12_cell 6 = .ok (.iload_n 2, 1) := by decide +kernel
theorem dX12_cell_7 : decode cX12_cell 7 = .ok (.imul, 1) := by decide +kernel
theorem dX12_cell_8 : decode cX12_cell 8 = .ok (.iload_n 1, 1) := by decide +kernel
theorem dX12_cell_9 : decode cX12_cell 9 = .ok (.iadd, 1) := by decide +kernel
theorem dX12_cell_10 : decode cX12_cell 10 = .ok (.iaload, 1) := by decide +kernel
theorem dX12_cell_11 : decode cX12_cell 11 = .ok (.ireturn, 1) := by decide +kernel
theorem dX12_board_0 : decode cX12_board 0 = .ok (.iload_n 1, 1) := by decide +kernel
theorem dX12_board_1 : decode cX12_board 1 = .ok (.ifCond .ge 10, 3) := by decide +kernel
theorem dX12_board_4 : decode cX12_board 4 = .ok (.aload_n 0, 1) := by decide +kernel
theorem dX12_board_5 : decode cX12_board 5 = .ok (.bipush (-4), 2) := by decide +kernel
theorem dX12_board_7 : decode cX12_board 7 = .ok (.invokevirtual 9, 3) := by decide +kernel
theorem dX12_board_10 : decode cX12_board 10 = .ok (.ireturn, 1) := by decide +kernel
theorem dX12_board_11 : decode cX12_board 11 = .ok (.iload_n 1, 1) := by decide +kernel
theorem dX12_board_12 : decode cX12_board 12 = .ok (.iconst 4, 1) := by decide +kernel
theorem dX12_board_13 : decode cX12_board 13 = .ok (.if_icmp .le 10, 3) := by decide +kernel
theorem dX12_board_16 : decode cX12_board 16 = .ok (.aload_n 0, 1) := by decide +kernel
theorem dX12_board_17 : decode cX12_board 17 = .ok (.bipush (-6), 2) := by decide +kernel
theorem dX12_board_19 : decode cX12_board 19 = .ok (.invokevirtual 9, 3) := by decide +kernel
theorem dX12_board_22 : decode cX12_board 22 = .ok (.ireturn, 1) := by decide +kernel
theorem dX12_board_23 : decode cX12_board 23 = .ok (.iload_n 2, 1) := by decide +kernel
theorem dX12_board_24 : decode cX12_board 24 = .ok (.i2l, 1) := by decide +kernel
theorem dX12_board_25 : decode cX12_board 25 = .ok (.lconst 0, 1) := by decide +kernel
theorem dX12_board_26 : decode cX12_board 26 = .ok (.iconst 1, 1) := by decide +kernel
theorem dX12_board_27 : decode cX12_board 27 = .ok (.iload_n 1, 1) := by decide +kernel
theorem dX12_board_28 : decode cX12_board 28 = .ok (.ishl, 1) := by decide +kernel
theorem dX12_board_29 : decode cX12_board 29 = .ok (.iconst 1, 1) := by decide +kernel
theorem dX12_board_30 : decode cX12_board 30 = .ok (.isub, 1) := by decide +kernel
theorem dX12_board_31 : decode cX12_board 31 = .ok (.i2l, 1) := by decide +kernel
theorem dX12_board_32 : decode cX12_board 32 = .ok (.invokestatic 123, 3) := by decide +kernel
theorem dX12_board_35 : decode cX12_board 35 = .ok (.ifCond .eq 18, 3) := by decide +kernel
theorem dX12_board_38 : decode cX12_board 38 = .ok (.iload_n 3, 1) := by decide +kernel
theorem dX12_board_39 : decode cX12_board 39 = .ok (.i2l, 1) := by decide +kernel
theorem dX12_board_40 : decode cX12_board 40 = .ok (.lconst 0, 1) := by decide +kernel
theorem dX12_board_41 : decode cX12_board 41 = .ok (.iconst 1, 1) := by decide +kernel
theorem dX12_board_42 : decode cX12_board 42 = .ok (.iload_n 1, 1) := by decide +kernel
theorem dX12_board_43 : decode cX12_board 43 = .ok (.ishl, 1) := by decide +kernel
theorem dX12_board_44 : decode cX12_board 44 = .ok (.iconst 1, 1) := by decide +kernel
theorem dX12_board_45 : decode cX12_board 45 = .ok (.isub, 1) := by decide +kernel
theorem dX12_board_46 : decode cX12_board 46 = .ok (.i2l, 1) := by decide +kernel
theorem dX12_board_47 : decode cX12_board 47 = .ok (.invokestatic 123, 3) := by decide +kernel
theorem dX12_board_50 : decode cX12_board 50 = .ok (.ifCond .ne 9, 3) := by decide +kernel
theorem dX12_board_53 : decode cX12_board 53 = .ok (.aload_n 0, 1) := by decide +kernel
theorem dX12_board_54 : decode cX12_board 54 = .ok (.iconst (-1), 1) := by decide +kernel
theorem dX12_board_55 : decode cX12_board 55 = .ok (.invokevirtual 9, 3) := by decide +kernel
theorem dX12_board_58 : decode cX12_board 58 = .ok (.ireturn, 1) := by decide +kernel
theorem dX12_board_59 : decode cX12_board 59 = .ok (.aload_n 0, 1) := by decide +kernel
theorem dX12_board_60 : decode cX12_board 60 = .ok (.iload_n 1, 1) := by decide +kernel
theorem dX12_board_61 : decode cX12_board 61 = .ok (.iload_n 2, 1) := by decide +kernel
theorem dX12_board_62 : decode cX12_board 62 = .ok (.iload_n 3, 1) := by decide +kernel
theorem dX12_board_63 : decode cX12_board 63 = .ok (.invokevirtual 112, 3) := by decide +kernel
theorem dX12_board_66 : decode cX12_board 66 = .ok (.aload_n 0, 1) := by decide +kernel
theorem dX12_board_67 : decode cX12_board 67 = .ok (.getfield 133, 3) := by decide +kernel
theorem dX12_board_70 : decode cX12_board 70 = .ok (.ireturn, 1) := by decide +kernel
theorem dX12_piece_0 : decode cX12_piece 0 = .ok (.aload_n 0, 1) := by decide +kernel
theorem dX12_piece_1 : decode cX12_piece 1 = .ok (.iload_n 1, 1) := by decide +kernel
theorem dX12_piece_2 : decode cX12_piece 2 = .ok (.iload_n 2, 1) := by decide +kernel
theorem dX12_piece_3 : decode cX12_piece 3 = .ok (.invokevirtual 140, 3) := by decide +kernel
theorem dX12_piece_6 : decode cX12_piece 6 = .ok (.ifCond .eq 12, 3) := by decide +kernel
theorem dX12_piece_9 : decode cX12_piece 9 = .ok (.aload_n 0, 1) := by decide +kernel
theorem dX12_piece_10 : decode cX12_piece 10 = .ok (.iload_n 1, 1) := by decide +kernel
theorem dX12_piece_11 : decode cX12_piece 11 = .ok (.iload_n 2, 1) := by decide +kernel
theorem dX12_piece_12 : decode cX12_piece 12 = .ok (.invokevirtual 144, 3) := by decide +kernel
theorem dX12_piece_15 : decode cX12_piece 15 = .ok (.goto 8, 3) := by decide +kernel
theorem dX12_piece_18 : decode cX12_piece 18 = .ok (.aload_n 0, 1) := by decide +kernel
theorem dX12_piece_19 : decode cX12_piece 19 = .ok (.iconst (-1), 1) := by decide +kernel
theorem dX12_piece_20 : decode cX12_piece 20 = .ok (.invokevirtual 9, 3) := by decide +kernel
theorem dX12_piece_23 : decode cX12_piece 23 = .ok (.ireturn, 1) := by decide +kernel
theorem dX12_areBeside_0 : decode cX12_areBeside 0 = .ok (.aload_n 0, 1) := by decide +kernel
theorem dX12_areBeside_1 : decode cX12_areBeside 1 = .ok (.iload_n 3, 1) := by decide +kernel
theorem dX12_areBeside_2 : decode cX12_areBeside 2 = .ok (.iload 4, 2) := by decide +kernel
theorem dX12_areBeside_4 : decode cX12_areBeside 4 = .ok (.invokevirtual 140, 3) := by decide +kernel
theorem dX12_areBeside_7 : decode cX12_areBeside 7 = .ok (.ifCond .eq 30, 3) := by decide +kernel
theorem dX12_areBeside_10 : decode cX12_areBeside 10 = .ok (.aload_n 0, 1) := by decide +kernel
theorem dX12_areBeside_11 : decode cX12_areBeside 11 = .ok (.iload_n 1, 1) := by decide +kernel
theorem dX12_areBeside_12 : decode cX12_areBeside 12 = .ok (.iload_n 2, 1) := by decide +kernel
theorem dX12_areBeside_13 : decode cX12_areBeside 13 = .ok (.invokevirtual 144, 3) := by decide +kernel
theorem dX12_areBeside_16 : decode cX12_areBeside 16 = .ok (.iload 5, 2) := by decide +kernel
theorem dX12_areBeside_18 : decode cX12_areBeside 18 = .ok (.if_icmp .ne 19, 3) := by decide +kernel
theorem dX12_areBeside_21 : decode cX12_areBeside 21 = .ok (.aload_n 0, 1) := by decide +kernel
theorem dX12_areBeside_22 : decode cX12_areBeside 22 = .ok (.iload_n 3, 1) := by decide +kernel
theorem dX12_areBeside_23 : decode cX12_areBeside 23 = .ok (.iload 4, 2) := by decide +kernel
theorem dX12_areBeside_25 : decode cX12_areBeside 25 = .ok (.invokevirtual 144, 3) := by decide +kernel
theorem dX12_areBeside_28 : decode cX12_areBeside 28 = .ok (.iload 6, 2) := by decide +kernel
theorem dX12_areBeside_30 : decode cX12_areBeside 30 = .ok (.if_icmp .ne 7, 3) := by decide +kernel
theorem dX12_areBeside_33 : decode cX12_areBeside 33 = .ok (.iconst 1, 1) := by decide +kernel
theorem dX12_areBeside_34 : decode cX12_areBeside 34 = .ok (.goto 4, 3) := by decide +kernel
theorem dX12_areBeside_37 : decode cX12_areBeside 37 = .ok (.iconst 0, 1) := by decide +kernel
theorem dX12_areBeside_38 : decode cX12_areBeside 38 = .ok (.ireturn, 1) := by decide +kernel
theorem dX12_isTouching_0 : decode cX12_isTouching 0 = .ok (.iconst 0, 1) := by decide +kernel
theorem dX12_isTouching_1 : decode cX12_isTouching 1 = .ok (.istore_n 3, 1) := by decide +kernel
theorem dX12_isTouching_2 : decode cX12_isTouching 2 = .ok (.iload_n 3, 1) := by decide +kernel
theorem dX12_isTouching_3 : decode cX12_isTouching 3 = .ok (.aload_n 0, 1) := by decide +kernel
theorem dX12_isTouching_4 : decode cX12_isTouching 4 = .ok (.invokevirtual 119, 3) := by decide +kernel
theorem dX12_isTouching_7 : decode cX12_isTouching 7 = .ok (.if_icmp .ge 109, 3) := by decide +kernel
theorem dX12_isTouching_10 : decode cX12_isTouching 10 = .ok (.iconst 0, 1) := by decide +kernel
theorem dX12_isTouching_11 : decode cX12_isTouching 11 = .ok (.istore 4, 2) := by decide +kernel
theorem dX12_isTouching_13 : decode cX12_isTouching 13 = .ok (.iload 4, 2) := by decide +kernel
theorem dX12_isTouching_15 : decode cX12_isTouching 15 = .ok (.aload_n 0, 1) := by decide +kernel
theorem dX12_isTouching_16 : decode cX12_isTouching 16 = .ok (.invokevirtual 119, 3) := by decide +kernel
theorem dX12_isTouching_19 : decode cX12_isTouching 19 = .ok (.if_icmp .ge 91, 3) := by decide +kernel
theorem dX12_isTouching_22 : decode cX12_isTouching 22 = .ok (.aload_n 0, 1) := by decide +kernel
theorem dX12_isTouching_23 : decode cX12_isTouching 23 = .ok (.iload_n 3, 1) := by decide +kernel
theorem dX12_isTouching_24 : decode cX12_isTouching 24 = .ok (.iload 4, 2) := by decide +kernel
theorem dX12_isTouching_26 : decode cX12_isTouching 26 = .ok (.iload_n 3, 1) := by decide +kernel
theorem dX12_isTouching_27 : decode cX12_isTouching 27 = .ok (.iconst 1, 1) := by decide +kernel
theorem dX12_isTouching_28 : decode cX12_isTouching 28 = .ok (.iadd, 1) := by decide +kernel
theorem dX12_isTouching_29 : decode cX12_isTouching 29 = .ok (.iload 4, 2) := by decide +kernel
theorem dX12_isTouching_31 : decode cX12_isTouching 31 = .ok (.iload_n 1, 1) := by decide +kernel
theorem dX12_isTouching_32 : decode cX12_isTouching 32 = .ok (.iload_n 2, 1) := by decide +kernel
theorem dX12_isTouching_33 : decode cX12_isTouching 33 = .ok (.invokevirtual 148, 3) := by decide +kernel
theorem dX12_isTouching_36 : decode cX12_isTouching 36 = .ok (.ifCond .ne 54, 3) := by decide +kernel
theorem dX12_isTouching_39 : decode cX12_isTouching 39 = .ok (.aload_n 0, 1) := by decide +kernel
theorem dX12_isTouching_40 : decode cX12_isTouching 40 = .ok (.iload_n 3, 1) := by decide +kernel
theorem dX12_isTouching_41 : decode cX12_isTouching 41 = .ok (.iload 4, 2) := by decide +kernel
theorem dX12_isTouching_43 : decode cX12_isTouching 43 = .ok (.iload_n 3, 1) := by decide +kernel
theorem dX12_isTouching_44 : decode cX12_isTouching 44 = .ok (.iload 4, 2) := by decide +kernel
theorem dX12_isTouching_46 : decode cX12_isTouching 46 = .ok (.iconst 1, 1) := by decide +kernel
theorem dX12_isTouching_47 : decode cX12_isTouching 47 = .ok (.iadd, 1) := by decide +kernel
theorem dX12_isTouching_48 : decode cX12_isTouching 48 = .ok (.iload_n 1, 1) := by decide +kernel
theorem dX12_isTouching_49 : decode cX12_isTouching 49 = .ok (.iload_n 2, 1) := by decide +kernel
theorem dX12_isTouching_50 : decode cX12_isTouching 50 = .ok (.invokevirtual 148, 3) := by decide +kernel
theorem dX12_isTouching_53 : decode cX12_isTouching 53 = .ok (.ifCond .ne 37, 3) := by decide +kernel
theorem dX12_isTouching_56 : decode cX12_isTouching 56 = .ok (.aload_n 0, 1) := by decide +kernel
theorem dX12_isTouching_57 : decode cX12_isTouching 57 = .ok (.iload_n 3, 1) := by decide +kernel
theorem dX12_isTouching_58 : decode cX12_isTouching 58 = .ok (.iload 4, 2) := by decide +kernel
theorem dX12_isTouching_60 : decode cX12_isTouching 60 = .ok (.iload_n 3, 1) := by decide +kernel
theorem dX12_isTouching_61 : decode cX12_isTouching 61 = .ok (.iconst 1, 1) := by decide +kernel
theorem dX12_isTouching_62 : decode cX12_isTouching 62 = .ok (.iadd, 1) := by decide +kernel
theorem dX12_isTouching_63 : decode cX12_isTouching 63 = .ok (.iload 4, 2) := by decide +kernel
theorem dX12_isTouching_65 : decode cX12_isTouching 65 = .ok (.iload_n 2, 1) := by decide +kernel
theorem dX12_isTouching_66 : decode cX12_isTouching 66 = .ok (.iload_n 1, 1) := by decide +kernel
theorem dX12_isTouching_67 : decode cX12_isTouching 67 = .ok (.invokevirtual 148, 3) := by decide +kernel
theorem dX12_isTouching_70 : decode cX12_isTouching 70 = .ok (.ifCond .ne 20, 3) := by decide +kernel
theorem dX12_isTouching_73 : decode cX12_isTouching 73 = .ok (.aload_n 0, 1) := by decide +kernel
theorem dX12_isTouching_74 : decode cX12_isTouching 74 = .ok (.iload_n 3, 1) := by decide +kernel
theorem dX12_isTouching_75 : decode cX12_isTouching 75 = .ok (.iload 4, 2) := by decide +kernel
theorem dX12_isTouching_77 : decode cX12_isTouching 77 = .ok (.iload_n 3, 1) := by decide +kernel
theorem dX12_isTouching_78 : decode cX12_isTouching 78 = .ok (.iload 4, 2) := by decide +kernel
theorem dX12_isTouching_80 : decode cX12_isTouching 80 = .ok (.iconst 1, 1) := by decide +kernel
theorem dX12_isTouching_81 : decode cX12_isTouching 81 = .ok (.iadd, 1) := by decide +kernel
theorem dX12_isTouching_82 : decode cX12_isTouching 82 = .ok (.iload_n 2, 1) := by decide +kernel
theorem dX12_isTouching_83 : decode cX12_isTouching 83 = .ok (.iload_n 1, 1) := by decide +kernel
theorem dX12_isTouching_84 : decode cX12_isTouching 84 = .ok (.invokevirtual 148, 3) := by decide +kernel
theorem dX12_isTouching_87 : decode cX12_isTouching 87 = .ok (.ifCond .eq 7, 3) := by decide +kernel
theorem dX12_isTouching_90 : decode cX12_isTouching 90 = .ok (.iconst 1, 1) := by decide +kernel
theorem dX12_isTouching_91 : decode cX12_isTouching 91 = .ok (.goto 4, 3) := by decide +kernel
theorem dX12_isTouching_94 : decode cX12_isTouching 94 = .ok (.iconst 0, 1) := by decide +kernel
theorem dX12_isTouching_95 : decode cX12_isTouching 95 = .ok (.istore 5, 2) := by decide +kernel
theorem dX12_isTouching_97 : decode cX12_isTouching 97 = .ok (.iload 5, 2) := by decide +kernel
theorem dX12_isTouching_99 : decode cX12_isTouching 99 = .ok (.ifCond .eq 5, 3) := by decide +kernel
theorem dX12_isTouching_102 : decode cX12_isTouching 102 = .ok (.iconst 1, 1) := by decide +kernel
theorem dX12_isTouching_103 : decode cX12_isTouching 103 = .ok (.ireturn, 1) := by decide +kernel
theorem dX12_isTouching_104 : decode cX12_isTouching 104 = .ok (.iinc 4 1, 3) := by decide +kernel
theorem dX12_isTouching_107 : decode cX12_isTouching 107 = .ok (.goto (-94), 3) := by decide +kernel
theorem dX12_isTouching_110 : decode cX12_isTouching 110 = .ok (.iinc 3 1, 3) := by decide +kernel
theorem dX12_isTouching_113 : decode cX12_isTouching 113 = .ok (.goto (-111), 3) := by decide +kernel
theorem dX12_isTouching_116 : decode cX12_isTouching 116 = .ok (.iconst 0, 1) := by decide +kernel
theorem dX12_isTouching_117 : decode cX12_isTouching 117 = .ok (.ireturn, 1) := by decide +kernel
theorem dX12_touching_0 : decode cX12_touching 0 = .ok (.iconst 0, 1) := by decide +kernel
theorem dX12_touching_1 : decode cX12_touching 1 = .ok (.istore_n 2, 1) := by decide +kernel
theorem dX12_touching_2 : decode cX12_touching 2 = .ok (.iconst 0, 1) := by decide +kernel
theorem dX12_touching_3 : decode cX12_touching 3 = .ok (.istore_n 3, 1) := by decide +kernel
theorem dX12_touching_4 : decode cX12_touching 4 = .ok (.iload_n 3, 1) := by decide +kernel
theorem dX12_touching_5 : decode cX12_touching 5 = .ok (.aload_n 0, 1) := by decide +kernel
theorem dX12_touching_6 : decode cX12_touching 6 = .ok (.getfield 133, 3) := by decide +kernel
theorem dX12_touching_9 : decode cX12_touching 9 = .ok (.if_icmp .ge 31, 3) := by decide +kernel
theorem dX12_touching_12 : decode cX12_touching 12 = .ok (.iload_n 2, 1) := by decide +kernel
theorem dX12_touching_13 : decode cX12_touching 13 = .ok (.iload_n 3, 1) := by decide +kernel
theorem dX12_touching_14 : decode cX12_touching 14 = .ok (.iload_n 1, 1) := by decide +kernel
theorem dX12_touching_15 : decode cX12_touching 15 = .ok (.if_icmp .eq 16, 3) := by decide +kernel
theorem dX12_touching_18 : decode cX12_touching 18 = .ok (.aload_n 0, 1) := by decide +kernel
theorem dX12_touching_19 : decode cX12_touching 19 = .ok (.iload_n 1, 1) := by decide +kernel
theorem dX12_touching_20 : decode cX12_touching 20 = .ok (.iload_n 3, 1) := by decide +kernel
theorem dX12_touching_21 : decode cX12_touching 21 = .ok (.invokevirtual 152, 3) := by decide +kernel
theorem dX12_touching_24 : decode cX12_touching 24 = .ok (.ifCond .eq 7, 3) := by decide +kernel
theorem dX12_touching_27 : decode cX12_touching 27 = .ok (.iconst 1, 1) := by decide +kernel
theorem dX12_touching_28 : decode cX12_touching 28 = .ok (.goto 4, 3) := by decide +kernel
theorem dX12_touching_31 : decode cX12_touching 31 = .ok (.iconst 0, 1) := by decide +kernel
theorem dX12_touching_32 : decode cX12_touching 32 = .ok (.iadd, 1) := by decide +kernel
theorem dX12_touching_33 : decode cX12_touching 33 = .ok (.istore_n 2, 1) := by decide +kernel
theorem dX12_touching_34 : decode cX12_touching 34 = .ok (.iinc 3 1, 3) := by decide +kernel
theorem dX12_touching_37 : decode cX12_touching 37 = .ok (.goto (-33), 3) := by decide +kernel
theorem dX12_touching_40 : decode cX12_touching 40 = .ok (.iload_n 2, 1) := by decide +kernel
theorem dX12_touching_41 : decode cX12_touching 41 = .ok (.ireturn, 1) := by decide +kernel
theorem dX12_of_0 : decode cX12_of 0 = .ok (.iload_n 1, 1) := by decide +kernel
theorem dX12_of_1 : decode cX12_of 1 = .ok (.i2l, 1) := by decide +kernel
theorem dX12_of_2 : decode cX12_of 2 = .ok (.lconst 0, 1) := by decide +kernel
theorem dX12_of_3 : decode cX12_of 3 = .ok (.aload_n 0, 1) := by decide +kernel
theorem dX12_of_4 : decode cX12_of 4 = .ok (.getfield 133, 3) := by decide +kernel
theorem dX12_of_7 : decode cX12_of 7 = .ok (.iconst 1, 1) := by decide +kernel
theorem dX12_of_8 : decode cX12_of 8 = .ok (.isub, 1) := by decide +kernel
theorem dX12_of_9 : decode cX12_of 9 = .ok (.i2l, 1) := by decide +kernel
theorem dX12_of_10 : decode cX12_of 10 = .ok (.invokestatic 123, 3) := by decide +kernel
theorem dX12_of_13 : decode cX12_of 13 = .ok (.ifCond .ne 9, 3) := by decide +kernel
theorem dX12_of_16 : decode cX12_of 16 = .ok (.aload_n 0, 1) := by decide +kernel
theorem dX12_of_17 : decode cX12_of 17 = .ok (.iconst (-1), 1) := by decide +kernel
theorem dX12_of_18 : decode cX12_of 18 = .ok (.invokevirtual 9, 3) := by decide +kernel
theorem dX12_of_21 : decode cX12_of 21 = .ok (.ireturn, 1) := by decide +kernel
theorem dX12_of_22 : decode cX12_of 22 = .ok (.iload_n 2, 1) := by decide +kernel
theorem dX12_of_23 : decode cX12_of 23 = .ok (.tableswitch 67 0 4 #[33, 40, 47, 54, 61], 33) := by decide +kernel
theorem dX12_of_56 : decode cX12_of 56 = .ok (.aload_n 0, 1) := by decide +kernel
theorem dX12_of_57 : decode cX12_of 57 = .ok (.getfield 36, 3) := by decide +kernel
theorem dX12_of_60 : decode cX12_of 60 = .ok (.iload_n 1, 1) := by decide +kernel
theorem dX12_of_61 : decode cX12_of 61 = .ok (.iaload, 1) := by decide +kernel
theorem dX12_of_62 : decode cX12_of 62 = .ok (.ireturn, 1) := by decide +kernel
theorem dX12_of_63 : decode cX12_of 63 = .ok (.aload_n 0, 1) := by decide +kernel
theorem dX12_of_64 : decode cX12_of 64 = .ok (.getfield 39, 3) := by decide +kernel
theorem dX12_of_67 : decode cX12_of 67 = .ok (.iload_n 1, 1) := by decide +kernel
theorem dX12_of_68 : decode cX12_of 68 = .ok (.iaload, 1) := by decide +kernel
theorem dX12_of_69 : decode cX12_of 69 = .ok (.ireturn, 1) := by decide +kernel
theorem dX12_of_70 : decode cX12_of 70 = .ok (.aload_n 0, 1) := by decide +kernel
theorem dX12_of_71 : decode cX12_of 71 = .ok (.getfield 42, 3) := by decide +kernel
theorem dX12_of_74 : decode cX12_of 74 = .ok (.iload_n 1, 1) := by decide +kernel
theorem dX12_of_75 : decode cX12_of 75 = .ok (.iaload, 1) := by decide +kernel
theorem dX12_of_76 : decode cX12_of 76 = .ok (.ireturn, 1) := by decide +kernel
theorem dX12_of_77 : decode cX12_of 77 = .ok (.aload_n 0, 1) := by decide +kernel
theorem dX12_of_78 : decode cX12_of 78 = .ok (.getfield 45, 3) := by decide +kernel
theorem dX12_of_81 : decode cX12_of 81 = .ok (.iload_n 1, 1) := by decide +kernel
theorem dX12_of_82 : decode cX12_of 82 = .ok (.iaload, 1) := by decide +kernel
theorem dX12_of_83 : decode cX12_of 83 = .ok (.ireturn, 1) := by decide +kernel
theorem dX12_of_84 : decode cX12_of 84 = .ok (.aload_n 0, 1) := by decide +kernel
theorem dX12_of_85 : decode cX12_of 85 = .ok (.iload_n 1, 1) := by decide +kernel
theorem dX12_of_86 : decode cX12_of 86 = .ok (.invokevirtual 155, 3) := by decide +kernel
theorem dX12_of_89 : decode cX12_of 89 = .ok (.ireturn, 1) := by decide +kernel
theorem dX12_of_90 : decode cX12_of 90 = .ok (.aload_n 0, 1) := by decide +kernel
theorem dX12_of_91 : decode cX12_of 91 = .ok (.bipush (-2), 2) := by decide +kernel
theorem dX12_of_93 : decode cX12_of 93 = .ok (.invokevirtual 9, 3) := by decide +kernel
theorem dX12_of_96 : decode cX12_of 96 = .ok (.ireturn, 1) := by decide +kernel
theorem dX12_isWithin_0 : decode cX12_isWithin 0 = .ok (.iconst 0, 1) := by decide +kernel
theorem dX12_isWithin_1 : decode cX12_isWithin 1 = .ok (.istore 6, 2) := by decide +kernel
theorem dX12_isWithin_3 : decode cX12_isWithin 3 = .ok (.iload_n 2, 1) := by decide +kernel
theorem dX12_isWithin_4 : decode cX12_isWithin 4 = .ok (.istore 7, 2) := by decide +kernel
theorem dX12_isWithin_6 : decode cX12_isWithin 6 = .ok (.iload 7, 2) := by decide +kernel
theorem dX12_isWithin_8 : decode cX12_isWithin 8 = .ok (.iload_n 3, 1) := by decide +kernel
theorem dX12_isWithin_9 : decode cX12_isWithin 9 = .ok (.if_icmp .gt 48, 3) := by decide +kernel
theorem dX12_isWithin_12 : decode cX12_isWithin 12 = .ok (.iload 4, 2) := by decide +kernel
theorem dX12_isWithin_14 : decode cX12_isWithin 14 = .ok (.istore 8, 2) := by decide +kernel
theorem dX12_isWithin_16 : decode cX12_isWithin 16 = .ok (.iload 8, 2) := by decide +kernel
theorem dX12_isWithin_18 : decode cX12_isWithin 18 = .ok (.iload 5, 2) := by decide +kernel
theorem dX12_isWithin_20 : decode cX12_isWithin 20 = .ok (.if_icmp .gt 31, 3) := by decide +kernel
theorem dX12_isWithin_23 : decode cX12_isWithin 23 = .ok (.iload 6, 2) := by decide +kernel
theorem dX12_isWithin_25 : decode cX12_isWithin 25 = .ok (.aload_n 0, 1) := by decide +kernel
theorem dX12_isWithin_26 : decode cX12_isWithin 26 = .ok (.iload 7, 2) := by decide +kernel
theorem dX12_isWithin_28 : decode cX12_isWithin 28 = .ok (.iload 8, 2) := by decide +kernel
theorem dX12_isWithin_30 : decode cX12_isWithin 30 = .ok (.invokevirtual 144, 3) := by decide +kernel
theorem dX12_isWithin_33 : decode cX12_isWithin 33 = .ok (.iload_n 1, 1) := by decide +kernel
theorem dX12_isWithin_34 : decode cX12_isWithin 34 = .ok (.if_icmp .ne 7, 3) := by decide +kernel
theorem dX12_isWithin_37 : decode cX12_isWithin 37 = .ok (.iconst 1, 1) := by decide +kernel
theorem dX12_isWithin_38 : decode cX12_isWithin 38 = .ok (.goto 4, 3) := by decide +kernel
theorem dX12_isWithin_41 : decode cX12_isWithin 41 = .ok (.iconst 0, 1) := by decide +kernel
theorem dX12_isWithin_42 : decode cX12_isWithin 42 = .ok (.iadd, 1) := by decide +kernel
theorem dX12_isWithin_43 : decode cX12_isWithin 43 = .ok (.istore 6, 2) := by decide +kernel
theorem dX12_isWithin_45 : decode cX12_isWithin 45 = .ok (.iinc 8 1, 3) := by decide +kernel
theorem dX12_isWithin_48 : decode cX12_isWithin 48 = .ok (.goto (-32), 3) := by decide +kernel
theorem dX12_isWithin_51 : decode cX12_isWithin 51 = .ok (.iinc 7 1, 3) := by decide +kernel
theorem dX12_isWithin_54 : decode cX12_isWithin 54 = .ok (.goto (-48), 3) := by decide +kernel
theorem dX12_isWithin_57 : decode cX12_isWithin 57 = .ok (.iload 6, 2) := by decide +kernel
theorem dX12_isWithin_59 : decode cX12_isWithin 59 = .ok (.iconst 3, 1) := by decide +kernel
theorem dX12_isWithin_60 : decode cX12_isWithin 60 = .ok (.if_icmp .ne 7, 3) := by decide +kernel
theorem dX12_isWithin_63 : decode cX12_isWithin 63 = .ok (.iconst 1, 1) := by decide +kernel
theorem dX12_isWithin_64 : decode cX12_isWithin 64 = .ok (.goto 4, 3) := by decide +kernel
theorem dX12_isWithin_67 : decode cX12_isWithin 67 = .ok (.iconst 0, 1) := by decide +kernel
theorem dX12_isWithin_68 : decode cX12_isWithin 68 = .ok (.ireturn, 1) := by decide +kernel
theorem dX12_within_0 : decode cX12_within 0 = .ok (.aload_n 0, 1) := by decide +kernel
theorem dX12_within_1 : decode cX12_within 1 = .ok (.iload_n 1, 1) := by decide +kernel
theorem dX12_within_2 : decode cX12_within 2 = .ok (.iload_n 3, 1) := by decide +kernel
theorem dX12_within_3 : decode cX12_within 3 = .ok (.invokevirtual 140, 3) := by decide +kernel
theorem dX12_within_6 : decode cX12_within 6 = .ok (.ifCond .eq 13, 3) := by decide +kernel
theorem dX12_within_9 : decode cX12_within 9 = .ok (.aload_n 0, 1) := by decide +kernel
theorem dX12_within_10 : decode cX12_within 10 = .ok (.iload_n 2, 1) := by decide +kernel
theorem dX12_within_11 : decode cX12_within 11 = .ok (.iload 4, 2) := by decide +kernel
theorem dX12_within_13 : decode cX12_within 13 = .ok (.invokevirtual 140, 3) := by decide +kernel
theorem dX12_within_16 : decode cX12_within 16 = .ok (.ifCond .ne 9, 3) := by decide +kernel
theorem dX12_within_19 : decode cX12_within 19 = .ok (.aload_n 0, 1) := by decide +kernel
theorem dX12_within_20 : decode cX12_within 20 = .ok (.iconst (-1), 1) := by decide +kernel
theorem dX12_within_21 : decode cX12_within 21 = .ok (.invokevirtual 9, 3) := by decide +kernel
theorem dX12_within_24 : decode cX12_within 24 = .ok (.ireturn, 1) := by decide +kernel
theorem dX12_within_25 : decode cX12_within 25 = .ok (.iconst 0, 1) := by decide +kernel
theorem dX12_within_26 : decode cX12_within 26 = .ok (.istore 5, 2) := by decide +kernel
theorem dX12_within_28 : decode cX12_within 28 = .ok (.iconst 0, 1) := by decide +kernel
theorem dX12_within_29 : decode cX12_within 29 = .ok (.istore 6, 2) := by decide +kernel
theorem dX12_within_31 : decode cX12_within 31 = .ok (.iload 6, 2) := by decide +kernel
theorem dX12_within_33 : decode cX12_within 33 = .ok (.aload_n 0, 1) := by decide +kernel
theorem dX12_within_34 : decode cX12_within 34 = .ok (.getfield 133, 3) := by decide +kernel
theorem dX12_within_37 : decode cX12_within 37 = .ok (.if_icmp .ge 33, 3) := by decide +kernel
theorem dX12_within_40 : decode cX12_within 40 = .ok (.iload 5, 2) := by decide +kernel
theorem dX12_within_42 : decode cX12_within 42 = .ok (.aload_n 0, 1) := by decide +kernel
theorem dX12_within_43 : decode cX12_within 43 = .ok (.iload 6, 2) := by decide +kernel
theorem dX12_within_45 : decode cX12_within 45 = .ok (.iload_n 1, 1) := by decide +kernel
theorem dX12_within_46 : decode cX12_within 46 = .ok (.iload_n 2, 1) := by decide +kernel
theorem dX12_within_47 : decode cX12_within 47 = .ok (.iload_n 3, 1) := by decide +kernel
theorem dX12_within_48 : decode cX12_within 48 = .ok (.iload 4, 2) := by decide +kernel
theorem dX12_within_50 : decode cX12_within 50 = .ok (.invokevirtual 158, 3) := by decide +kernel
theorem dX12_within_53 : decode cX12_within 53 = .ok (.ifCond .eq 7, 3) := by decide +kernel
theorem dX12_within_56 : decode cX12_within 56 = .ok (.iconst 1, 1) := by decide +kernel
theorem dX12_within_57 : decode cX12_within 57 = .ok (.goto 4, 3) := by decide +kernel
theorem dX12_within_60 : decode cX12_within 60 = .ok (.iconst 0, 1) := by decide +kernel
theorem dX12_within_61 : decode cX12_within 61 = .ok (.iadd, 1) := by decide +kernel
theorem dX12_within_62 : decode cX12_within 62 = .ok (.istore 5, 2) := by decide +kernel
theorem dX12_within_64 : decode cX12_within 64 = .ok (.iinc 6 1, 3) := by decide +kernel
theorem dX12_within_67 : decode cX12_within 67 = .ok (.goto (-36), 3) := by decide +kernel
theorem dX12_within_70 : decode cX12_within 70 = .ok (.iload 5, 2) := by decide +kernel
theorem dX12_within_72 : decode cX12_within 72 = .ok (.ireturn, 1) := by decide +kernel
theorem dX12_edge_0 : decode cX12_edge 0 = .ok (.iconst 0, 1) := by decide +kernel
theorem dX12_edge_1 : decode cX12_edge 1 = .ok (.istore_n 1, 1) := by decide +kernel
theorem dX12_edge_2 : decode cX12_edge 2 = .ok (.aload_n 0, 1) := by decide +kernel
theorem dX12_edge_3 : decode cX12_edge 3 = .ok (.invokevirtual 119, 3) := by decide +kernel
theorem dX12_edge_6 : decode cX12_edge 6 = .ok (.iconst 1, 1) := by decide +kernel
theorem dX12_edge_7 : decode cX12_edge 7 = .ok (.isub, 1) := by decide +kernel
theorem dX12_edge_8 : decode cX12_edge 8 = .ok (.istore_n 2, 1) := by decide +kernel
theorem dX12_edge_9 : decode cX12_edge 9 = .ok (.iconst 0, 1) := by decide +kernel
theorem dX12_edge_10 : decode cX12_edge 10 = .ok (.istore_n 3, 1) := by decide +kernel
theorem dX12_edge_11 : decode cX12_edge 11 = .ok (.iload_n 3, 1) := by decide +kernel
theorem dX12_edge_12 : decode cX12_edge 12 = .ok (.aload_n 0, 1) := by decide +kernel
theorem dX12_edge_13 : decode cX12_edge 13 = .ok (.getfield 133, 3) := by decide +kernel
theorem dX12_edge_16 : decode cX12_edge 16 = .ok (.if_icmp .ge 96, 3) := by decide +kernel
theorem dX12_edge_19 : decode cX12_edge 19 = .ok (.iconst 0, 1) := by decide +kernel
theorem dX12_edge_20 : decode cX12_edge 20 = .ok (.istore 4, 2) := by decide +kernel
theorem dX12_edge_22 : decode cX12_edge 22 = .ok (.iconst 0, 1) := by decide +kernel
theorem dX12_edge_23 : decode cX12_edge 23 = .ok (.istore 5, 2) := by decide +kernel
theorem dX12_edge_25 : decode cX12_edge 25 = .ok (.iload 5, 2) := by decide +kernel
theorem dX12_edge_27 : decode cX12_edge 27 = .ok (.iload_n 2, 1) := by decide +kernel
theorem dX12_edge_28 : decode cX12_edge 28 = .ok (.if_icmp .gt 65, 3) := by decide +kernel
theorem dX12_edge_31 : decode cX12_edge 31 = .ok (.iload 4, 2) := by decide +kernel
theorem dX12_edge_33 : decode cX12_edge 33 = .ok (.ifCond .ne 47, 3) := by decide +kernel
theorem dX12_edge_36 : decode cX12_edge 36 = .ok (.aload_n 0, 1) := by decide +kernel
theorem dX12_edge_37 : decode cX12_edge 37 = .ok (.iload 5, 2) := by decide +kernel
theorem dX12_edge_39 : decode cX12_edge 39 = .ok (.iconst 0, 1) := by decide +kernel
theorem dX12_edge_40 : decode cX12_edge 40 = .ok (.invokevirtual 144, 3) := by decide +kernel
theorem dX12_edge_43 : decode cX12_edge 43 = .ok (.iload_n 3, 1) := by decide +kernel
theorem dX12_edge_44 : decode cX12_edge 44 = .ok (.if_icmp .eq 36, 3) := by decide +kernel
theorem dX12_edge_47 : decode cX12_edge 47 = .ok (.aload_n 0, 1) := by decide +kernel
theorem dX12_edge_48 : decode cX12_edge 48 = .ok (.iload 5, 2) := by decide +kernel
theorem dX12_edge_50 : decode cX12_edge 50 = .ok (.iload_n 2, 1) := by decide +kernel
theorem dX12_edge_51 : decode cX12_edge 51 = .ok (.invokevirtual 144, 3) := by decide +kernel
theorem dX12_edge_54 : decode cX12_edge 54 = .ok (.iload_n 3, 1) := by decide +kernel
theorem dX12_edge_55 : decode cX12_edge 55 = .ok (.if_icmp .eq 25, 3) := by decide +kernel
theorem dX12_edge_58 : decode cX12_edge 58 = .ok (.aload_n 0, 1) := by decide +kernel
theorem dX12_edge_59 : decode cX12_edge 59 = .ok (.iconst 0, 1) := by decide +kernel
theorem dX12_edge_60 : decode cX12_edge 60 = .ok (.iload 5, 2) := by decide +kernel
theorem dX12_edge_62 : decode cX12_edge 62 = .ok (.invokevirtual 144, 3) := by decide +kernel
theorem dX12_edge_65 : decode cX12_edge 65 = .ok (.iload_n 3, 1) := by decide +kernel
theorem dX12_edge_66 : decode cX12_edge 66 = .ok (.if_icmp .eq 14, 3) := by decide +kernel
theorem dX12_edge_69 : decode cX12_edge 69 = .ok (.aload_n 0, 1) := by decide +kernel
theorem dX12_edge_70 : decode cX12_edge 70 = .ok (.iload_n 2, 1) := by decide +kernel
theorem dX12_edge_71 : decode cX12_edge 71 = .ok (.iload 5, 2) := by decide +kernel
theorem dX12_edge_73 : decode cX12_edge 73 = .ok (.invokevirtual 144, 3) := by decide +kernel
theorem dX12_edge_76 : decode cX12_edge 76 = .ok (.iload_n 3, 1) := by decide +kernel
theorem dX12_edge_77 : decode cX12_edge 77 = .ok (.if_icmp .ne 7, 3) := by decide +kernel
theorem dX12_edge_80 : decode cX12_edge 80 = .ok (.iconst 1, 1) := by decide +kernel
theorem dX12_edge_81 : decode cX12_edge 81 = .ok (.goto 4, 3) := by decide +kernel
theorem dX12_edge_84 : decode cX12_edge 84 = .ok (.iconst 0, 1) := by decide +kernel
theorem dX12_edge_85 : decode cX12_edge 85 = .ok (.istore 4, 2) := by decide +kernel
theorem dX12_edge_87 : decode cX12_edge 87 = .ok (.iinc 5 1, 3) := by decide +kernel
theorem dX12_edge_90 : decode cX12_edge 90 = .ok (.goto (-65), 3) := by decide +kernel
theorem dX12_edge_93 : decode cX12_edge 93 = .ok (.iload_n 1, 1) := by decide +kernel
theorem dX12_edge_94 : decode cX12_edge 94 = .ok (.iload 4, 2) := by decide +kernel
theorem dX12_edge_96 : decode cX12_edge 96 = .ok (.ifCond .eq 7, 3) := by decide +kernel
theorem dX12_edge_99 : decode cX12_edge 99 = .ok (.iconst 1, 1) := by decide +kernel
theorem dX12_edge_100 : decode cX12_edge 100 = .ok (.goto 4, 3) := by decide +kernel
theorem dX12_edge_103 : decode cX12_edge 103 = .ok (.iconst 0, 1) := by decide +kernel
theorem dX12_edge_104 : decode cX12_edge 104 = .ok (.iadd, 1) := by decide +kernel
theorem dX12_edge_105 : decode cX12_edge 105 = .ok (.istore_n 1, 1) := by decide +kernel
theorem dX12_edge_106 : decode cX12_edge 106 = .ok (.iinc 3 1, 3) := by decide +kernel
theorem dX12_edge_109 : decode cX12_edge 109 = .ok (.goto (-98), 3) := by decide +kernel
theorem dX12_edge_112 : decode cX12_edge 112 = .ok (.iload_n 1, 1) := by decide +kernel
theorem dX12_edge_113 : decode cX12_edge 113 = .ok (.ireturn, 1) := by decide +kernel
theorem dX12_inWay_0 : decode cX12_inWay 0 = .ok (.iconst 0, 1) := by decide +kernel
theorem dX12_inWay_1 : decode cX12_inWay 1 = .ok (.istore_n 2, 1) := by decide +kernel
theorem dX12_inWay_2 : decode cX12_inWay 2 = .ok (.iconst 0, 1) := by decide +kernel
theorem dX12_inWay_3 : decode cX12_inWay 3 = .ok (.istore_n 3, 1) := by decide +kernel
theorem dX12_inWay_4 : decode cX12_inWay 4 = .ok (.iload_n 3, 1) := by decide +kernel
theorem dX12_inWay_5 : decode cX12_inWay 5 = .ok (.aload_n 0, 1) := by decide +kernel
theorem dX12_inWay_6 : decode cX12_inWay 6 = .ok (.getfield 133, 3) := by decide +kernel
theorem dX12_inWay_9 : decode cX12_inWay 9 = .ok (.if_icmp .ge 27, 3) := by decide +kernel
theorem dX12_inWay_12 : decode cX12_inWay 12 = .ok (.iload_n 2, 1) := by decide +kernel
theorem dX12_inWay_13 : decode cX12_inWay 13 = .ok (.aload_n 0, 1) := by decide +kernel
theorem dX12_inWay_14 : decode cX12_inWay 14 = .ok (.getfield 36, 3) := by decide +kernel
theorem dX12_inWay_17 : decode cX12_inWay 17 = .ok (.iload_n 3, 1) := by decide +kernel
theorem dX12_inWay_18 : decode cX12_inWay 18 = .ok (.iaload, 1) := by decide +kernel
theorem dX12_inWay_19 : decode cX12_inWay 19 = .ok (.iload_n 1, 1) := by decide +kernel
theorem dX12_inWay_20 : decode cX12_inWay 20 = .ok (.if_icmp .ne 7, 3) := by decide +kernel
theorem dX12_inWay_23 : decode cX12_inWay 23 = .ok (.iconst 1, 1) := by decide +kernel
theorem dX12_inWay_24 : decode cX12_inWay 24 = .ok (.goto 4, 3) := by decide +kernel
theorem dX12_inWay_27 : decode cX12_inWay 27 = .ok (.iconst 0, 1) := by decide +kernel
theorem dX12_inWay_28 : decode cX12_inWay 28 = .ok (.iadd, 1) := by decide +kernel
theorem dX12_inWay_29 : decode cX12_inWay 29 = .ok (.istore_n 2, 1) := by decide +kernel
theorem dX12_inWay_30 : decode cX12_inWay 30 = .ok (.iinc 3 1, 3) := by decide +kernel
theorem dX12_inWay_33 : decode cX12_inWay 33 = .ok (.goto (-29), 3) := by decide +kernel
theorem dX12_inWay_36 : decode cX12_inWay 36 = .ok (.iload_n 2, 1) := by decide +kernel
theorem dX12_inWay_37 : decode cX12_inWay 37 = .ok (.ireturn, 1) := by decide +kernel
theorem dX12_pieces_0 : decode cX12_pieces 0 = .ok (.iload_n 1, 1) := by decide +kernel
theorem dX12_pieces_1 : decode cX12_pieces 1 = .ok (.i2l, 1) := by decide +kernel
theorem dX12_pieces_2 : decode cX12_pieces 2 = .ok (.ldc2_w 162, 3) := by decide +kernel
theorem dX12_pieces_5 : decode cX12_pieces 5 = .ok (.ldc2_w 164, 3) := by decide +kernel
theorem dX12_pieces_8 : decode cX12_pieces 8 = .ok (.invokestatic 123, 3) := by decide +kernel
theorem dX12_pieces_11 : decode cX12_pieces 11 = .ok (.ifCond .eq 12, 3) := by decide +kernel
theorem dX12_pieces_14 : decode cX12_pieces 14 = .ok (.aload_n 0, 1) := by decide +kernel
theorem dX12_pieces_15 : decode cX12_pieces 15 = .ok (.iload_n 1, 1) := by decide +kernel
theorem dX12_pieces_16 : decode cX12_pieces 16 = .ok (.bipush 10, 2) := by decide +kernel
theorem dX12_pieces_18 : decode cX12_pieces 18 = .ok (.isub, 1) := by decide +kernel
theorem dX12_pieces_19 : decode cX12_pieces 19 = .ok (.invokevirtual 166, 3) := by decide +kernel
theorem dX12_pieces_22 : decode cX12_pieces 22 = .ok (.ireturn, 1) := by decide +kernel
theorem dX12_pieces_23 : decode cX12_pieces 23 = .ok (.iload_n 1, 1) := by decide +kernel
theorem dX12_pieces_24 : decode cX12_pieces 24 = .ok (.ifCond .ne 10, 3) := by decide +kernel
theorem dX12_pieces_27 : decode cX12_pieces 27 = .ok (.aload_n 0, 1) := by decide +kernel
theorem dX12_pieces_28 : decode cX12_pieces 28 = .ok (.getfield 133, 3) := by decide +kernel
theorem dX12_pieces_31 : decode cX12_pieces 31 = .ok (.goto 21, 3) := by decide +kernel
theorem dX12_pieces_34 : decode cX12_pieces 34 = .ok (.iload_n 1, 1) := by decide +kernel
theorem dX12_pieces_35 : decode cX12_pieces 35 = .ok (.iconst 1, 1) := by decide +kernel
theorem dX12_pieces_36 : decode cX12_pieces 36 = .ok (.if_icmp .ne 10, 3) := by decide +kernel
theorem dX12_pieces_39 : decode cX12_pieces 39 = .ok (.aload_n 0, 1) := by decide +kernel
theorem dX12_pieces_40 : decode cX12_pieces 40 = .ok (.invokevirtual 169, 3) := by decide +kernel
theorem dX12_pieces_43 : decode cX12_pieces 43 = .ok (.goto 9, 3) := by decide +kernel
theorem dX12_pieces_46 : decode cX12_pieces 46 = .ok (.aload_n 0, 1) := by decide +kernel
theorem dX12_pieces_47 : decode cX12_pieces 47 = .ok (.bipush (-2), 2) := by decide +kernel
theorem dX12_pieces_49 : decode cX12_pieces 49 = .ok (.invokevirtual 9, 3) := by decide +kernel
theorem dX12_pieces_52 : decode cX12_pieces 52 = .ok (.ireturn, 1) := by decide +kernel
theorem dX12_isWay_0 : decode cX12_isWay 0 = .ok (.iload_n 0, 1) := by decide +kernel
theorem dX12_isWay_1 : decode cX12_isWay 1 = .ok (.i2l, 1) := by decide +kernel
theorem dX12_isWay_2 : decode cX12_isWay 2 = .ok (.lconst 0, 1) := by decide +kernel
theorem dX12_isWay_3 : decode cX12_isWay 3 = .ok (.ldc2_w 172, 3) := by decide +kernel
theorem dX12_isWay_6 : decode cX12_isWay 6 = .ok (.invokestatic 123, 3) := by decide +kernel
theorem dX12_isWay_9 : decode cX12_isWay 9 = .ok (.ireturn, 1) := by decide +kernel
theorem dX12_odds_0 : decode cX12_odds 0 = .ok (.iload_n 1, 1) := by decide +kernel
theorem dX12_odds_1 : decode cX12_odds 1 = .ok (.invokestatic 174, 3) := by decide +kernel
theorem dX12_odds_4 : decode cX12_odds 4 = .ok (.ifCond .eq 13, 3) := by decide +kernel
theorem dX12_odds_7 : decode cX12_odds 7 = .ok (.iload_n 2, 1) := by decide +kernel
theorem dX12_odds_8 : decode cX12_odds 8 = .ok (.i2l, 1) := by decide +kernel
theorem dX12_odds_9 : decode cX12_odds 9 = .ok (.lconst 0, 1) := by decide +kernel
theorem dX12_odds_10 : decode cX12_odds 10 = .ok (.lconst 1, 1) := by decide +kernel
theorem dX12_odds_11 : decode cX12_odds 11 = .ok (.invokestatic 123, 3) := by decide +kernel
theorem dX12_odds_14 : decode cX12_odds 14 = .ok (.ifCond .ne 10, 3) := by decide +kernel
theorem dX12_odds_17 : decode cX12_odds 17 = .ok (.aload_n 0, 1) := by decide +kernel
theorem dX12_odds_18 : decode cX12_odds 18 = .ok (.bipush (-2), 2) := by decide +kernel
theorem dX12_odds_20 : decode cX12_odds 20 = .ok (.invokevirtual 178, 3) := by decide +kernel
theorem dX12_odds_23 : decode cX12_odds 23 = .ok (.lreturn, 1) := by decide +kernel
theorem dX12_odds_24 : decode cX12_odds 24 = .ok (.aload_n 0, 1) := by decide +kernel
theorem dX12_odds_25 : decode cX12_odds 25 = .ok (.invokevirtual 119, 3) := by decide +kernel
theorem dX12_odds_28 : decode cX12_odds 28 = .ok (.aload_n 0, 1) := by decide +kernel
theorem dX12_odds_29 : decode cX12_odds 29 = .ok (.invokevirtual 119, 3) := by decide +kernel
theorem dX12_odds_32 : decode cX12_odds 32 = .ok (.imul, 1) := by decide +kernel
theorem dX12_odds_33 : decode cX12_odds 33 = .ok (.iconst 1, 1) := by decide +kernel
theorem dX12_odds_34 : decode cX12_odds 34 = .ok (.isub, 1) := by decide +kernel
theorem dX12_odds_35 : decode cX12_odds 35 = .ok (.istore_n 3, 1) := by decide +kernel
theorem dX12_odds_36 : decode cX12_odds 36 = .ok (.iload_n 3, 1) := by decide +kernel
theorem dX12_odds_37 : decode cX12_odds 37 = .ok (.ifCond .ne 8, 3) := by decide +kernel
theorem dX12_odds_40 : decode cX12_odds 40 = .ok (.iload_n 2, 1) := by decide +kernel
theorem dX12_odds_41 : decode cX12_odds 41 = .ok (.i2l, 1) := by decide +kernel
theorem dX12_odds_42 : decode cX12_odds 42 = .ok (.goto 19, 3) := by decide +kernel
theorem dX12_odds_45 : decode cX12_odds 45 = .ok (.ldc2_w 172, 3) := by decide +kernel
theorem dX12_odds_48 : decode cX12_odds 48 = .ok (.aload_n 0, 1) := by decide +kernel
theorem dX12_odds_49 : decode cX12_odds 49 = .ok (.iload_n 1, 1) := by decide +kernel
theorem dX12_odds_50 : decode cX12_odds 50 = .ok (.invokevirtual 166, 3) := by decide +kernel
theorem dX12_odds_53 : decode cX12_odds 53 = .ok (.i2l, 1) := by decide +kernel
theorem dX12_odds_54 : decode cX12_odds 54 = .ok (.lmul, 1) := by decide +kernel
theorem dX12_odds_55 : decode cX12_odds 55 = .ok (.iload_n 3, 1) := by decide +kernel
theorem dX12_odds_56 : decode cX12_odds 56 = .ok (.i2l, 1) := by decide +kernel
theorem dX12_odds_57 : decode cX12_odds 57 = .ok (.iload_n 2, 1) := by decide +kernel
theorem dX12_odds_58 : decode cX12_odds 58 = .ok (.invokestatic 182, 3) := by decide +kernel
theorem dX12_odds_61 : decode cX12_odds 61 = .ok (.lreturn, 1) := by decide +kernel
theorem dX12_rulesAtFirst_0 : decode cX12_rulesAtFirst 0 = .ok (.iconst 0, 1) := by decide +kernel
theorem dX12_rulesAtFirst_1 : decode cX12_rulesAtFirst 1 = .ok (.istore_n 1, 1) := by decide +kernel
theorem dX12_rulesAtFirst_2 : decode cX12_rulesAtFirst 2 = .ok (.iload_n 1, 1) := by decide +kernel
theorem dX12_rulesAtFirst_3 : decode cX12_rulesAtFirst 3 = .ok (.iconst 4, 1) := by decide +kernel
theorem dX12_rulesAtFirst_4 : decode cX12_rulesAtFirst 4 = .ok (.if_icmp .ge 55, 3) := by decide +kernel
theorem dX12_rulesAtFirst_7 : decode cX12_rulesAtFirst 7 = .ok (.aload_n 0, 1) := by decide +kernel
theorem dX12_rulesAtFirst_8 : decode cX12_rulesAtFirst 8 = .ok (.getfield 48, 3) := by decide +kernel
theorem dX12_rulesAtFirst_11 : decode cX12_rulesAtFirst 11 = .ok (.iconst 4, 1) := by decide +kernel
theorem dX12_rulesAtFirst_12 : decode cX12_rulesAtFirst 12 = .ok (.iload_n 1, 1) := by decide +kernel
theorem dX12_rulesAtFirst_13 : decode cX12_rulesAtFirst 13 = .ok (.imul, 1) := by decide +kernel
theorem dX12_rulesAtFirst_14 : decode cX12_rulesAtFirst 14 = .ok (.iload_n 1, 1) := by decide +kernel
theorem dX12_rulesAtFirst_15 : decode cX12_rulesAtFirst 15 = .ok (.iastore, 1) := by decide +kernel
theorem dX12_rulesAtFirst_16 : decode cX12_rulesAtFirst 16 = .ok (.aload_n 0, 1) := by decide +kernel
theorem dX12_rulesAtFirst_17 : decode cX12_rulesAtFirst 17 = .ok (.getfield 48, 3) := by decide +kernel
theorem dX12_rulesAtFirst_20 : decode cX12_rulesAtFirst 20 = .ok (.iconst 4, 1) := by decide +kernel
theorem dX12_rulesAtFirst_21 : decode cX12_rulesAtFirst 21 = .ok (.iload_n 1, 1) := by decide +kernel
theorem dX12_rulesAtFirst_22 : decode cX12_rulesAtFirst 22 = .ok (.imul, 1) := by decide +kernel
theorem dX12_rulesAtFirst_23 : decode cX12_rulesAtFirst 23 = .ok (.iconst 1, 1) := by decide +kernel
theorem dX12_rulesAtFirst_24 : decode cX12_rulesAtFirst 24 = .ok (.iadd, 1) := by decide +kernel
theorem dX12_rulesAtFirst_25 : decode cX12_rulesAtFirst 25 = .ok (.iload_n 1, 1) := by decide +kernel
theorem dX12_rulesAtFirst_26 : decode cX12_rulesAtFirst 26 = .ok (.iconst 2, 1) := by decide +kernel
theorem dX12_rulesAtFirst_27 : decode cX12_rulesAtFirst 27 = .ok (.ixor, 1) := by decide +kernel
theorem dX12_rulesAtFirst_28 : decode cX12_rulesAtFirst 28 = .ok (.iastore, 1) := by decide +kernel
theorem dX12_rulesAtFirst_29 : decode cX12_rulesAtFirst 29 = .ok (.aload_n 0, 1) := by decide +kernel
theorem dX12_rulesAtFirst_30 : decode cX12_rulesAtFirst 30 = .ok (.getfield 48, 3) := by decide +kernel
theorem dX12_rulesAtFirst_33 : decode cX12_rulesAtFirst 33 = .ok (.iconst 4, 1) := by decide +kernel
theorem dX12_rulesAtFirst_34 : decode cX12_rulesAtFirst 34 = .ok (.iload_n 1, 1) := by decide +kernel
theorem dX12_rulesAtFirst_35 : decode cX12_rulesAtFirst 35 = .ok (.imul, 1) := by decide +kernel
theorem dX12_rulesAtFirst_36 : decode cX12_rulesAtFirst 36 = .ok (.iconst 2, 1) := by decide +kernel
theorem dX12_rulesAtFirst_37 : decode cX12_rulesAtFirst 37 = .ok (.iadd, 1) := by decide +kernel
theorem dX12_rulesAtFirst_38 : decode cX12_rulesAtFirst 38 = .ok (.iload_n 1, 1) := by decide +kernel
theorem dX12_rulesAtFirst_39 : decode cX12_rulesAtFirst 39 = .ok (.iconst 1, 1) := by decide +kernel
theorem dX12_rulesAtFirst_40 : decode cX12_rulesAtFirst 40 = .ok (.ixor, 1) := by decide +kernel
theorem dX12_rulesAtFirst_41 : decode cX12_rulesAtFirst 41 = .ok (.iastore, 1) := by decide +kernel
theorem dX12_rulesAtFirst_42 : decode cX12_rulesAtFirst 42 = .ok (.aload_n 0, 1) := by decide +kernel
theorem dX12_rulesAtFirst_43 : decode cX12_rulesAtFirst 43 = .ok (.getfield 48, 3) := by decide +kernel
theorem dX12_rulesAtFirst_46 : decode cX12_rulesAtFirst 46 = .ok (.iconst 4, 1) := by decide +kernel
theorem dX12_rulesAtFirst_47 : decode cX12_rulesAtFirst 47 = .ok (.iload_n 1, 1) := by decide +kernel
theorem dX12_rulesAtFirst_48 : decode cX12_rulesAtFirst 48 = .ok (.imul, 1) := by decide +kernel
theorem dX12_rulesAtFirst_49 : decode cX12_rulesAtFirst 49 = .ok (.iconst 3, 1) := by decide +kernel
theorem dX12_rulesAtFirst_50 : decode cX12_rulesAtFirst 50 = .ok (.iadd, 1) := by decide +kernel
theorem dX12_rulesAtFirst_51 : decode cX12_rulesAtFirst 51 = .ok (.iload_n 1, 1) := by decide +kernel
theorem dX12_rulesAtFirst_52 : decode cX12_rulesAtFirst 52 = .ok (.iastore, 1) := by decide +kernel
theorem dX12_rulesAtFirst_53 : decode cX12_rulesAtFirst 53 = .ok (.iinc 1 1, 3) := by decide +kernel
theorem dX12_rulesAtFirst_56 : decode cX12_rulesAtFirst 56 = .ok (.goto (-54), 3) := by decide +kernel
theorem dX12_rulesAtFirst_59 : decode cX12_rulesAtFirst 59 = .ok (.return_, 1) := by decide +kernel
theorem dX12_rule_0 : decode cX12_rule 0 = .ok (.iload_n 1, 1) := by decide +kernel
theorem dX12_rule_1 : decode cX12_rule 1 = .ok (.invokestatic 174, 3) := by decide +kernel
theorem dX12_rule_4 : decode cX12_rule 4 = .ok (.ifCond .eq 17, 3) := by decide +kernel
theorem dX12_rule_7 : decode cX12_rule 7 = .ok (.iload_n 2, 1) := by decide +kernel
theorem dX12_rule_8 : decode cX12_rule 8 = .ok (.invokestatic 174, 3) := by decide +kernel
theorem dX12_rule_11 : decode cX12_rule 11 = .ok (.ifCond .eq 10, 3) := by decide +kernel
theorem dX12_rule_14 : decode cX12_rule 14 = .ok (.iload_n 3, 1) := by decide +kernel
theorem dX12_rule_15 : decode cX12_rule 15 = .ok (.invokestatic 174, 3) := by decide +kernel
theorem dX12_rule_18 : decode cX12_rule 18 = .ok (.ifCond .ne 10, 3) := by decide +kernel
theorem dX12_rule_21 : decode cX12_rule 21 = .ok (.aload_n 0, 1) := by decide +kernel
theorem dX12_rule_22 : decode cX12_rule 22 = .ok (.bipush (-2), 2) := by decide +kernel
theorem dX12_rule_24 : decode cX12_rule 24 = .ok (.invokevirtual 9, 3) := by decide +kernel
theorem dX12_rule_27 : decode cX12_rule 27 = .ok (.ireturn, 1) := by decide +kernel
theorem dX12_rule_28 : decode cX12_rule 28 = .ok (.aload_n 0, 1) := by decide +kernel
theorem dX12_rule_29 : decode cX12_rule 29 = .ok (.getfield 48, 3) := by decide +kernel
theorem dX12_rule_32 : decode cX12_rule 32 = .ok (.iconst 4, 1) := by decide +kernel
theorem dX12_rule_33 : decode cX12_rule 33 = .ok (.iload_n 1, 1) := by decide +kernel
theorem dX12_rule_34 : decode cX12_rule 34 = .ok (.imul, 1) := by decide +kernel
theorem dX12_rule_35 : decode cX12_rule 35 = .ok (.iload_n 2, 1) := by decide +kernel
theorem dX12_rule_36 : decode cX12_rule 36 = .ok (.iadd, 1) := by decide +kernel
theorem dX12_rule_37 : decode cX12_rule 37 = .ok (.iaload, 1) := by decide +kernel
theorem dX12_rule_38 : decode cX12_rule 38 = .ok (.istore 4, 2) := by decide +kernel
theorem dX12_rule_40 : decode cX12_rule 40 = .ok (.aload_n 0, 1) := by decide +kernel
theorem dX12_rule_41 : decode cX12_rule 41 = .ok (.getfield 48, 3) := by decide +kernel
theorem dX12_rule_44 : decode cX12_rule 44 = .ok (.iconst 4, 1) := by decide +kernel
theorem dX12_rule_45 : decode cX12_rule 45 = .ok (.iload_n 1, 1) := by decide +kernel
theorem dX12_rule_46 : decode cX12_rule 46 = .ok (.imul, 1) := by decide +kernel
theorem dX12_rule_47 : decode cX12_rule 47 = .ok (.iload_n 2, 1) := by decide +kernel
theorem dX12_rule_48 : decode cX12_rule 48 = .ok (.iadd, 1) := by decide +kernel
theorem dX12_rule_49 : decode cX12_rule 49 = .ok (.iload_n 3, 1) := by decide +kernel
theorem dX12_rule_50 : decode cX12_rule 50 = .ok (.iastore, 1) := by decide +kernel
theorem dX12_rule_51 : decode cX12_rule 51 = .ok (.iload 4, 2) := by decide +kernel
theorem dX12_rule_53 : decode cX12_rule 53 = .ok (.ireturn, 1) := by decide +kernel
theorem dX12_begins_0 : decode cX12_begins 0 = .ok (.iconst 0, 1) := by decide +kernel
theorem dX12_begins_1 : decode cX12_begins 1 = .ok (.istore_n 2, 1) := by decide +kernel
theorem dX12_begins_2 : decode cX12_begins 2 = .ok (.iload_n 2, 1) := by decide +kernel
theorem dX12_begins_3 : decode cX12_begins 3 = .ok (.iconst 4, 1) := by decide +kernel
theorem dX12_begins_4 : decode cX12_begins 4 = .ok (.if_icmp .ge 25, 3) := by decide +kernel
theorem dX12_begins_7 : decode cX12_begins 7 = .ok (.aload_n 0, 1) := by decide +kernel
theorem dX12_begins_8 : decode cX12_begins 8 = .ok (.getfield 51, 3) := by decide +kernel
theorem dX12_begins_11 : decode cX12_begins 11 = .ok (.iload_n 2, 1) := by decide +kernel
theorem dX12_begins_12 : decode cX12_begins 12 = .ok (.iload_n 2, 1) := by decide +kernel
theorem dX12_begins_13 : decode cX12_begins 13 = .ok (.iload_n 1, 1) := by decide +kernel
theorem dX12_begins_14 : decode cX12_begins 14 = .ok (.if_icmp .ne 7, 3) := by decide +kernel
theorem dX12_begins_17 : decode cX12_begins 17 = .ok (.lconst 1, 1) := by decide +kernel
theorem dX12_begins_18 : decode cX12_begins 18 = .ok (.goto 4, 3) := by decide +kernel
theorem dX12_begins_21 : decode cX12_begins 21 = .ok (.lconst 0, 1) := by decide +kernel
theorem dX12_begins_22 : decode cX12_begins 22 = .ok (.lastore, 1) := by decide +kernel
theorem dX12_begins_23 : decode cX12_begins 23 = .ok (.iinc 2 1, 3) := by decide +kernel
theorem dX12_begins_26 : decode cX12_begins 26 = .ok (.goto (-24), 3) := by decide +kernel
theorem dX12_begins_29 : decode cX12_begins 29 = .ok (.return_, 1) := by decide +kernel
theorem dX12_fallsAll_0 : decode cX12_fallsAll 0 = .ok (.iconst 0, 1) := by decide +kernel
theorem dX12_fallsAll_1 : decode cX12_fallsAll 1 = .ok (.istore_n 1, 1) := by decide +kernel
theorem dX12_fallsAll_2 : decode cX12_fallsAll 2 = .ok (.iload_n 1, 1) := by decide +kernel
theorem dX12_fallsAll_3 : decode cX12_fallsAll 3 = .ok (.iconst 4, 1) := by decide +kernel
theorem dX12_fallsAll_4 : decode cX12_fallsAll 4 = .ok (.if_icmp .ge 16, 3) := by decide +kernel
theorem dX12_fallsAll_7 : decode cX12_fallsAll 7 = .ok (.aload_n 0, 1) := by decide +kernel
theorem dX12_fallsAll_8 : decode cX12_fallsAll 8 = .ok (.getfield 55, 3) := by decide +kernel
theorem dX12_fallsAll_11 : decode cX12_fallsAll 11 = .ok (.iload_n 1, 1) := by decide +kernel
theorem dX12_fallsAll_12 : decode cX12_fallsAll 12 = .ok (.lconst 0, 1) := by decide +kernel
theorem dX12_fallsAll_13 : decode cX12_fallsAll 13 = .ok (.lastore, 1) := by decide +kernel
theorem dX12_fallsAll_14 : decode cX12_fallsAll 14 = .ok (.iinc 1 1, 3) := by decide +kernel
theorem dX12_fallsAll_17 : decode cX12_fallsAll 17 = .ok (.goto (-15), 3) := by decide +kernel
theorem dX12_fallsAll_20 : decode cX12_fallsAll 20 = .ok (.iconst 0, 1) := by decide +kernel
theorem dX12_fallsAll_21 : decode cX12_fallsAll 21 = .ok (.istore_n 1, 1) := by decide +kernel
theorem dX12_fallsAll_22 : decode cX12_fallsAll 22 = .ok (.iload_n 1, 1) := by decide +kernel
theorem dX12_fallsAll_23 : decode cX12_fallsAll 23 = .ok (.bipush 16, 2) := by decide +kernel
theorem dX12_fallsAll_25 : decode cX12_fallsAll 25 = .ok (.if_icmp .ge 31, 3) := by decide +kernel
theorem dX12_fallsAll_28 : decode cX12_fallsAll 28 = .ok (.aload_n 0, 1) := by decide +kernel
theorem dX12_fallsAll_29 : decode cX12_fallsAll 29 = .ok (.getfield 55, 3) := by decide +kernel
theorem dX12_fallsAll_32 : decode cX12_fallsAll 32 = .ok (.aload_n 0, 1) := by decide +kernel
theorem dX12_fallsAll_33 : decode cX12_fallsAll 33 = .ok (.getfield 48, 3) := by decide +kernel
theorem dX12_fallsAll_36 : decode cX12_fallsAll 36 = .ok (.iload_n 1, 1) := by decide +kernel
theorem dX12_fallsAll_37 : decode cX12_fallsAll 37 = .ok (.iaload, 1) := by decide +kernel
theorem dX12_fallsAll_38 : decode cX12_fallsAll 38 = .ok (.dup2, 1) := by decide +kernel
theorem dX12_fallsAll_39 : decode cX12_fallsAll 39 = .ok (.laload, 1) := by decide +kernel
theorem dX12_fallsAll_40 : decode cX12_fallsAll 40 = .ok (.aload_n 0, 1) := by decide +kernel
theorem dX12_fallsAll_41 : decode cX12_fallsAll 41 = .ok (.getfield 51, 3) := by decide +kernel
theorem dX12_fallsAll_44 : decode cX12_fallsAll 44 = .ok (.iload_n 1, 1) := by decide +kernel
theorem dX12_fallsAll_45 : decode cX12_fallsAll 45 = .ok (.iconst 4, 1) := by decide +kernel
theorem dX12_fallsAll_46 : decode cX12_fallsAll 46 = .ok (.idiv, 1) := by decide +kernel
theorem dX12_fallsAll_47 : decode cX12_fallsAll 47 = .ok (.laload, 1) := by decide +kernel
theorem dX12_fallsAll_48 : decode cX12_fallsAll 48 = .ok (.ladd, 1) := by decide +kernel
theorem dX12_fallsAll_49 : decode cX12_fallsAll 49 = .ok (.lastore, 1) := by decide +kernel
theorem dX12_fallsAll_50 : decode cX12_fallsAll 50 = .ok (.iinc 1 1, 3) := by decide +kernel
theorem dX12_fallsAll_53 : decode cX12_fallsAll 53 = .ok (.goto (-31), 3) := by decide +kernel
theorem dX12_fallsAll_56 : decode cX12_fallsAll 56 = .ok (.iconst 0, 1) := by decide +kernel
theorem dX12_fallsAll_57 : decode cX12_fallsAll 57 = .ok (.istore_n 1, 1) := by decide +kernel
theorem dX12_fallsAll_58 : decode cX12_fallsAll 58 = .ok (.iload_n 1, 1) := by decide +kernel
theorem dX12_fallsAll_59 : decode cX12_fallsAll 59 = .ok (.iconst 4, 1) := by decide +kernel
theorem dX12_fallsAll_60 : decode cX12_fallsAll 60 = .ok (.if_icmp .ge 21, 3) := by decide +kernel
theorem dX12_fallsAll_63 : decode cX12_fallsAll 63 = .ok (.aload_n 0, 1) := by decide +kernel
theorem dX12_fallsAll_64 : decode cX12_fallsAll 64 = .ok (.getfield 51, 3) := by decide +kernel
theorem dX12_fallsAll_67 : decode cX12_fallsAll 67 = .ok (.iload_n 1, 1) := by decide +kernel
theorem dX12_fallsAll_68 : decode cX12_fallsAll 68 = .ok (.aload_n 0, 1) := by decide +kernel
theorem dX12_fallsAll_69 : decode cX12_fallsAll 69 = .ok (.getfield 55, 3) := by decide +kernel
theorem dX12_fallsAll_72 : decode cX12_fallsAll 72 = .ok (.iload_n 1, 1) := by decide +kernel
theorem dX12_fallsAll_73 : decode cX12_fallsAll 73 = .ok (.laload, 1) := by decide +kernel
theorem dX12_fallsAll_74 : decode cX12_fallsAll 74 = .ok (.lastore, 1) := by decide +kernel
theorem dX12_fallsAll_75 : decode cX12_fallsAll 75 = .ok (.iinc 1 1, 3) := by decide +kernel
theorem dX12_fallsAll_78 : decode cX12_fallsAll 78 = .ok (.goto (-20), 3) := by decide +kernel
theorem dX12_fallsAll_81 : decode cX12_fallsAll 81 = .ok (.return_, 1) := by decide +kernel
theorem dX12_behind_0 : decode cX12_behind 0 = .ok (.iload_n 1, 1) := by decide +kernel
theorem dX12_behind_1 : decode cX12_behind 1 = .ok (.invokestatic 174, 3) := by decide +kernel
theorem dX12_behind_4 : decode cX12_behind 4 = .ok (.ifCond .eq 10, 3) := by decide +kernel
theorem dX12_behind_7 : decode cX12_behind 7 = .ok (.iload_n 3, 1) := by decide +kernel
theorem dX12_behind_8 : decode cX12_behind 8 = .ok (.invokestatic 174, 3) := by decide +kernel
theorem dX12_behind_11 : decode cX12_behind 11 = .ok (.ifCond .ne 10, 3) := by decide +kernel
theorem dX12_behind_14 : decode cX12_behind 14 = .ok (.aload_n 0, 1) := by decide +kernel
theorem dX12_behind_15 : decode cX12_behind 15 = .ok (.bipush (-2), 2) := by decide +kernel
theorem dX12_behind_17 : decode cX12_behind 17 = .ok (.invokevirtual 178, 3) := by decide +kernel
theorem dX12_behind_20 : decode cX12_behind 20 = .ok (.lreturn, 1) := by decide +kernel
theorem dX12_behind_21 : decode cX12_behind 21 = .ok (.iload_n 2, 1) := by decide +kernel
theorem dX12_behind_22 : decode cX12_behind 22 = .ok (.ifCond .ge 10, 3) := by decide +kernel
theorem dX12_behind_25 : decode cX12_behind 25 = .ok (.aload_n 0, 1) := by decide +kernel
theorem dX12_behind_26 : decode cX12_behind 26 = .ok (.bipush (-4), 2) := by decide +kernel
theorem dX12_behind_28 : decode cX12_behind 28 = .ok (.invokevirtual 178, 3) := by decide +kernel
theorem dX12_behind_31 : decode cX12_behind 31 = .ok (.lreturn, 1) := by decide +kernel
theorem dX12_behind_32 : decode cX12_behind 32 = .ok (.iload_n 2, 1) := by decide +kernel
theorem dX12_behind_33 : decode cX12_behind 33 = .ok (.bipush 15, 2) := by decide +kernel
theorem dX12_behind_35 : decode cX12_behind 35 = .ok (.if_icmp .le 10, 3) := by decide +kernel
theorem dX12_behind_38 : decode cX12_behind 38 = .ok (.aload_n 0, 1) := by decide +kernel
theorem dX12_behind_39 : decode cX12_behind 39 = .ok (.bipush (-6), 2) := by decide +kernel
theorem dX12_behind_41 : decode cX12_behind 41 = .ok (.invokevirtual 178, 3) := by decide +kernel
theorem dX12_behind_44 : decode cX12_behind 44 = .ok (.lreturn, 1) := by decide +kernel
theorem dX12_behind_45 : decode cX12_behind 45 = .ok (.aload_n 0, 1) := by decide +kernel
theorem dX12_behind_46 : decode cX12_behind 46 = .ok (.iload_n 1, 1) := by decide +kernel
theorem dX12_behind_47 : decode cX12_behind 47 = .ok (.invokevirtual 186, 3) := by decide +kernel
theorem dX12_behind_50 : decode cX12_behind 50 = .ok (.iconst 0, 1) := by decide +kernel
theorem dX12_behind_51 : decode cX12_behind 51 = .ok (.istore 4, 2) := by decide +kernel
theorem dX12_behind_53 : decode cX12_behind 53 = .ok (.iload 4, 2) := by decide +kernel
theorem dX12_behind_55 : decode cX12_behind 55 = .ok (.iload_n 2, 1) := by decide +kernel
theorem dX12_behind_56 : decode cX12_behind 56 = .ok (.if_icmp .ge 13, 3) := by decide +kernel
theorem dX12_behind_59 : decode cX12_behind 59 = .ok (.aload_n 0, 1) := by decide +kernel
theorem dX12_behind_60 : decode cX12_behind 60 = .ok (.invokevirtual 190, 3) := by decide +kernel
theorem dX12_behind_63 : decode cX12_behind 63 = .ok (.iinc 4 1, 3) := by decide +kernel
theorem dX12_behind_66 : decode cX12_behind 66 = .ok (.goto (-13), 3) := by decide +kernel
theorem dX12_behind_69 : decode cX12_behind 69 = .ok (.aload_n 0, 1) := by decide +kernel
theorem dX12_behind_70 : decode cX12_behind 70 = .ok (.getfield 51, 3) := by decide +kernel
theorem dX12_behind_73 : decode cX12_behind 73 = .ok (.iload_n 3, 1) := by decide +kernel
theorem dX12_behind_74 : decode cX12_behind 74 = .ok (.laload, 1) := by decide +kernel
theorem dX12_behind_75 : decode cX12_behind 75 = .ok (.lreturn, 1) := by decide +kernel
theorem dX12_address_0 : decode cX12_address 0 = .ok (.iload_n 1, 1) := by decide +kernel
theorem dX12_address_1 : decode cX12_address 1 = .ok (.invokestatic 174, 3) := by decide +kernel
theorem dX12_address_4 : decode cX12_address 4 = .ok (.ifCond .ne 10, 3) := by decide +kernel
theorem dX12_address_7 : decode cX12_address 7 = .ok (.aload_n 0, 1) := by decide +kernel
theorem dX12_address_8 : decode cX12_address 8 = .ok (.bipush (-2), 2) := by decide +kernel
theorem dX12_address_10 : decode cX12_address 10 = .ok (.invokevirtual 9, 3) := by decide +kernel
theorem dX12_address_13 : decode cX12_address 13 = .ok (.ireturn, 1) := by decide +kernel
theorem dX12_address_14 : decode cX12_address 14 = .ok (.iload_n 2, 1) := by decide +kernel
theorem dX12_address_15 : decode cX12_address 15 = .ok (.ifCond .lt 7, 3) := by decide +kernel
theorem dX12_address_18 : decode cX12_address 18 = .ok (.iload_n 3, 1) := by decide +kernel
theorem dX12_address_19 : decode cX12_address 19 = .ok (.ifCond .ge 10, 3) := by decide +kernel
theorem dX12_address_22 : decode cX12_address 22 = .ok (.aload_n 0, 1) := by decide +kernel
theorem dX12_address_23 : decode cX12_address 23 = .ok (.bipush (-4), 2) := by decide +kernel
theorem dX12_address_25 : decode cX12_address 25 = .ok (.invokevirtual 9, 3) := by decide +kernel
theorem dX12_address_28 : decode cX12_address 28 = .ok (.ireturn, 1) := by decide +kernel
theorem dX12_address_29 : decode cX12_address 29 = .ok (.iload_n 3, 1) := by decide +kernel
theorem dX12_address_30 : decode cX12_address 30 = .ok (.bipush 15, 2) := by decide +kernel
theorem dX12_address_32 : decode cX12_address 32 = .ok (.if_icmp .gt 12, 3) := by decide +kernel
theorem dX12_address_35 : decode cX12_address 35 = .ok (.iload_n 2, 1) := by decide +kernel
theorem dX12_address_36 : decode cX12_address 36 = .ok (.iconst 1, 1) := by decide +kernel
theorem dX12_address_37 : decode cX12_address 37 = .ok (.iconst 2, 1) := by decide +kernel
theorem dX12_address_38 : decode cX12_address 38 = .ok (.iload_n 3, 1) := by decide +kernel
theorem dX12_address_39 : decode cX12_address 39 = .ok (.imul, 1) := by decide +kernel
theorem dX12_address_40 : decode cX12_address 40 = .ok (.ishl, 1) := by decide +kernel
theorem dX12_address_41 : decode cX12_address 41 = .ok (.if_icmp .lt 10, 3) := by decide +kernel
theorem dX12_address_44 : decode cX12_address 44 = .ok (.aload_n 0, 1) := by decide +kernel
theorem dX12_address_45 : decode cX12_address 45 = .ok (.bipush (-6), 2) := by decide +kernel
theorem dX12_address_47 : decode cX12_address 47 = .ok (.invokevirtual 9, 3) := by decide +kernel
theorem dX12_address_50 : decode cX12_address 50 = .ok (.ireturn, 1) := by decide +kernel
theorem dX12_address_51 : decode cX12_address 51 = .ok (.iload_n 1, 1) := by decide +kernel
theorem dX12_address_52 : decode cX12_address 52 = .ok (.istore 4, 2) := by decide +kernel
theorem dX12_address_54 : decode cX12_address 54 = .ok (.iload_n 2, 1) := by decide +kernel
theorem dX12_address_55 : decode cX12_address 55 = .ok (.istore 5, 2) := by decide +kernel
theorem dX12_address_57 : decode cX12_address 57 = .ok (.iconst 0, 1) := by decide +kernel
theorem dX12_address_58 : decode cX12_address 58 = .ok (.istore 6, 2) := by decide +kernel
theorem dX12_address_60 : decode cX12_address 60 = .ok (.iload 6, 2) := by decide +kernel
theorem dX12_address_62 : decode cX12_address 62 = .ok (.iload_n 3, 1) := by decide +kernel
theorem dX12_address_63 : decode cX12_address 63 = .ok (.if_icmp .ge 31, 3) := by decide +kernel
theorem dX12_address_66 : decode cX12_address 66 = .ok (.aload_n 0, 1) := by decide +kernel
theorem dX12_address_67 : decode cX12_address 67 = .ok (.getfield 48, 3) := by decide +kernel
theorem dX12_address_70 : decode cX12_address 70 = .ok (.iconst 4, 1) := by decide +kernel
theorem dX12_address_71 : decode cX12_address 71 = .ok (.iload 4, 2) := by decide +kernel
theorem dX12_address_73 : decode cX12_address 73 = .ok (.imul, 1) := by decide +kernel
theorem dX12_address_74 : decode cX12_address 74 = .ok (.iload 5, 2) := by decide +kernel
theorem dX12_address_76 : decode cX12_address 76 = .ok (.iconst 4, 1) := by decide +kernel
theorem dX12_address_77 : decode cX12_address 77 = .ok (.irem, 1) := by decide +kernel
theorem dX12_address_78 : decode cX12_address 78 = .ok (.iadd, 1) := by decide +kernel
theorem dX12_address_79 : decode cX12_address 79 = .ok (.iaload, 1) := by decide +kernel
theorem dX12_address_80 : decode cX12_address 80 = .ok (.istore 4, 2) := by decide +kernel
theorem dX12_address_82 : decode cX12_address 82 = .ok (.iload 5, 2) := by decide +kernel
theorem dX12_address_84 : decode cX12_address 84 = .ok (.iconst 4, 1) := by decide +kernel
theorem dX12_address_85 : decode cX12_address 85 = .ok (.idiv, 1) := by decide +kernel
theorem dX12_address_86 : decode cX12_address 86 = .ok (.istore 5, 2) := by decide +kernel
theorem dX12_address_88 : decode cX12_address 88 = .ok (.iinc 6 1, 3) := by decide +kernel
theorem dX12_address_91 : decode cX12_address 91 = .ok (.goto (-31), 3) := by decide +kernel
theorem dX12_address_94 : decode cX12_address 94 = .ok (.iload 4, 2) := by decide +kernel
theorem dX12_address_96 : decode cX12_address 96 = .ok (.ireturn, 1) := by decide +kernel
theorem dX12_leads_0 : decode cX12_leads 0 = .ok (.iconst 0, 1) := by decide +kernel
theorem dX12_leads_1 : decode cX12_leads 1 = .ok (.istore_n 2, 1) := by decide +kernel
theorem dX12_leads_2 : decode cX12_leads 2 = .ok (.iload_n 2, 1) := by decide +kernel
theorem dX12_leads_3 : decode cX12_leads 3 = .ok (.bipush 16, 2) := by decide +kernel
theorem dX12_leads_5 : decode cX12_leads 5 = .ok (.if_icmp .ge 16, 3) := by decide +kernel
theorem dX12_leads_8 : decode cX12_leads 8 = .ok (.aload_n 0, 1) := by decide +kernel
theorem dX12_leads_9 : decode cX12_leads 9 = .ok (.getfield 61, 3) := by decide +kernel
theorem dX12_leads_12 : decode cX12_leads 12 = .ok (.iload_n 2, 1) := by decide +kernel
theorem dX12_leads_13 : decode cX12_leads 13 = .ok (.iconst (-1), 1) := by decide +kernel
theorem dX12_leads_14 : decode cX12_leads 14 = .ok (.iastore, 1) := by decide +kernel
theorem dX12_leads_15 : decode cX12_leads 15 = .ok (.iinc 2 1, 3) := by decide +kernel
theorem dX12_leads_18 : decode cX12_leads 18 = .ok (.goto (-16), 3) := by decide +kernel
theorem dX12_leads_21 : decode cX12_leads 21 = .ok (.iconst 0, 1) := by decide +kernel
theorem dX12_leads_22 : decode cX12_leads 22 = .ok (.istore_n 2, 1) := by decide +kernel
theorem dX12_leads_23 : decode cX12_leads 23 = .ok (.iload_n 2, 1) := by decide +kernel
theorem dX12_leads_24 : decode cX12_leads 24 = .ok (.bipush 16, 2) := by decide +kernel
theorem dX12_leads_26 : decode cX12_leads 26 = .ok (.if_icmp .ge 113, 3) := by decide +kernel
theorem dX12_leads_29 : decode cX12_leads 29 = .ok (.iconst 0, 1) := by decide +kernel
theorem dX12_leads_30 : decode cX12_leads 30 = .ok (.istore_n 3, 1) := by decide +kernel
theorem dX12_leads_31 : decode cX12_leads 31 = .ok (.aload_n 0, 1) := by decide +kernel
theorem dX12_leads_32 : decode cX12_leads 32 = .ok (.getfield 58, 3) := by decide +kernel
theorem dX12_leads_35 : decode cX12_leads 35 = .ok (.iload_n 2, 1) := by decide +kernel
theorem dX12_leads_36 : decode cX12_leads 36 = .ok (.iaload, 1) := by decide +kernel
theorem dX12_leads_37 : decode cX12_leads 37 = .ok (.ifCond .lt 96, 3) := by decide +kernel
theorem dX12_leads_40 : decode cX12_leads 40 = .ok (.iload_n 3, 1) := by decide +kernel
theorem dX12_leads_41 : decode cX12_leads 41 = .ok (.iconst 4, 1) := by decide +kernel
theorem dX12_leads_42 : decode cX12_leads 42 = .ok (.if_icmp .ge 91, 3) := by decide +kernel
theorem dX12_leads_45 : decode cX12_leads 45 = .ok (.iconst 4, 1) := by decide +kernel
theorem dX12_leads_46 : decode cX12_leads 46 = .ok (.aload_n 0, 1) := by decide +kernel
theorem dX12_leads_47 : decode cX12_leads 47 = .ok (.getfield 48, 3) := by decide +kernel
theorem dX12_leads_50 : decode cX12_leads 50 = .ok (.iconst 4, 1) := by decide +kernel
theorem dX12_leads_51 : decode cX12_leads 51 = .ok (.iload_n 2, 1) := by decide +kernel
theorem dX12_leads_52 : decode cX12_leads 52 = .ok (.iconst 4, 1) := by decide +kernel
theorem dX12_leads_53 : decode cX12_leads 53 = .ok (.idiv, 1) := by decide +kernel
theorem dX12_leads_54 : decode cX12_leads 54 = .ok (.imul, 1) := by decide +kernel
theorem dX12_leads_55 : decode cX12_leads 55 = .ok (.iload_n 3, 1) := by decide +kernel
theorem dX12_leads_56 : decode cX12_leads 56 = .ok (.iadd, 1) := by decide +kernel
theorem dX12_leads_57 : decode cX12_leads 57 = .ok (.iaload, 1) := by decide +kernel
theorem dX12_leads_58 : decode cX12_leads 58 = .ok (.imul, 1) := by decide +kernel
theorem dX12_leads_59 : decode cX12_leads 59 = .ok (.aload_n 0, 1) := by decide +kernel
theorem dX12_leads_60 : decode cX12_leads 60 = .ok (.getfield 48, 3) := by decide +kernel
theorem dX12_leads_63 : decode cX12_leads 63 = .ok (.iconst 4, 1) := by decide +kernel
theorem dX12_leads_64 : decode cX12_leads 64 = .ok (.iload_n 2, 1) := by decide +kernel
theorem dX12_leads_65 : decode cX12_leads 65 = .ok (.iconst 4, 1) := by decide +kernel
theorem dX12_leads_66 : decode cX12_leads 66 = .ok (.irem, 1) := by decide +kernel
theorem dX12_leads_67 : decode cX12_leads 67 = .ok (.imul, 1) := by decide +kernel
theorem dX12_leads_68 : decode cX12_leads 68 = .ok (.iload_n 3, 1) := by decide +kernel
theorem dX12_leads_69 : decode cX12_leads 69 = .ok (.iadd, 1) := by decide +kernel
theorem dX12_leads_70 : decode cX12_leads 70 = .ok (.iaload, 1) := by decide +kernel
theorem dX12_leads_71 : decode cX12_leads 71 = .ok (.iadd, 1) := by decide +kernel
theorem dX12_leads_72 : decode cX12_leads 72 = .ok (.istore 4, 2) := by decide +kernel
theorem dX12_leads_74 : decode cX12_leads 74 = .ok (.aload_n 0, 1) := by decide +kernel
theorem dX12_leads_75 : decode cX12_leads 75 = .ok (.getfield 58, 3) := by decide +kernel
theorem dX12_leads_78 : decode cX12_leads 78 = .ok (.iload_n 2, 1) := by decide +kernel
theorem dX12_leads_79 : decode cX12_leads 79 = .ok (.iaload, 1) := by decide +kernel
theorem dX12_leads_80 : decode cX12_leads 80 = .ok (.iload_n 3, 1) := by decide +kernel
theorem dX12_leads_81 : decode cX12_leads 81 = .ok (.iload_n 1, 1) := by decide +kernel
theorem dX12_leads_82 : decode cX12_leads 82 = .ok (.imul, 1) := by decide +kernel
theorem dX12_leads_83 : decode cX12_leads 83 = .ok (.iadd, 1) := by decide +kernel
theorem dX12_leads_84 : decode cX12_leads 84 = .ok (.istore 5, 2) := by decide +kernel
theorem dX12_leads_86 : decode cX12_leads 86 = .ok (.aload_n 0, 1) := by decide +kernel
theorem dX12_leads_87 : decode cX12_leads 87 = .ok (.getfield 61, 3) := by decide +kernel
theorem dX12_leads_90 : decode cX12_leads 90 = .ok (.iload 4, 2) := by decide +kernel
theorem dX12_leads_92 : decode cX12_leads 92 = .ok (.aload_n 0, 1) := by decide +kernel
theorem dX12_leads_93 : decode cX12_leads 93 = .ok (.getfield 61, 3) := by decide +kernel
theorem dX12_leads_96 : decode cX12_leads 96 = .ok (.iload 4, 2) := by decide +kernel
theorem dX12_leads_98 : decode cX12_leads 98 = .ok (.iaload, 1) := by decide +kernel
theorem dX12_leads_99 : decode cX12_leads 99 = .ok (.ifCond .lt 15, 3) := by decide +kernel
theorem dX12_leads_102 : decode cX12_leads 102 = .ok (.iload 5, 2) := by decide +kernel
theorem dX12_leads_104 : decode cX12_leads 104 = .ok (.aload_n 0, 1) := by decide +kernel
theorem dX12_leads_105 : decode cX12_leads 105 = .ok (.getfield 61, 3) := by decide +kernel
theorem dX12_leads_108 : decode cX12_leads 108 = .ok (.iload 4, 2) := by decide +kernel
theorem dX12_leads_110 : decode cX12_leads 110 = .ok (.iaload, 1) := by decide +kernel
theorem dX12_leads_111 : decode cX12_leads 111 = .ok (.if_icmp .ge 8, 3) := by decide +kernel
theorem dX12_leads_114 : decode cX12_leads 114 = .ok (.iload 5, 2) := by decide +kernel
theorem dX12_leads_116 : decode cX12_leads 116 = .ok (.goto 10, 3) := by decide +kernel
theorem dX12_leads_119 : decode cX12_leads 119 = .ok (.aload_n 0, 1) := by decide +kernel
theorem dX12_leads_120 : decode cX12_leads 120 = .ok (.getfield 61, 3) := by decide +kernel
theorem dX12_leads_123 : decode cX12_leads 123 = .ok (.iload 4, 2) := by decide +kernel
theorem dX12_leads_125 : decode cX12_leads 125 = .ok (.iaload, 1) := by decide +kernel
theorem dX12_leads_126 : decode cX12_leads 126 = .ok (.iastore, 1) := by decide +kernel
theorem dX12_leads_127 : decode cX12_leads 127 = .ok (.iinc 3 1, 3) := by decide +kernel
theorem dX12_leads_130 : decode cX12_leads 130 = .ok (.goto (-99), 3) := by decide +kernel
theorem dX12_leads_133 : decode cX12_leads 133 = .ok (.iinc 2 1, 3) := by decide +kernel
theorem dX12_leads_136 : decode cX12_leads 136 = .ok (.goto (-113), 3) := by decide +kernel
theorem dX12_leads_139 : decode cX12_leads 139 = .ok (.iconst 0, 1) := by decide +kernel
theorem dX12_leads_140 : decode cX12_leads 140 = .ok (.istore_n 2, 1) := by decide +kernel
theorem dX12_leads_141 : decode cX12_leads 141 = .ok (.iload_n 2, 1) := by decide +kernel
theorem dX12_leads_142 : decode cX12_leads 142 = .ok (.bipush 16, 2) := by decide +kernel
theorem dX12_leads_144 : decode cX12_leads 144 = .ok (.if_icmp .ge 21, 3) := by decide +kernel
theorem dX12_leads_147 : decode cX12_leads 147 = .ok (.aload_n 0, 1) := by decide +kernel
theorem dX12_leads_148 : decode cX12_leads 148 = .ok (.getfield 58, 3) := by decide +kernel
theorem dX12_leads_151 : decode cX12_leads 151 = .ok (.iload_n 2, 1) := by decide +kernel
theorem dX12_leads_152 : decode cX12_leads 152 = .ok (.aload_n 0, 1) := by decide +kernel
theorem dX12_leads_153 : decode cX12_leads 153 = .ok (.getfield 61, 3) := by decide +kernel
theorem dX12_leads_156 : decode cX12_leads 156 = .ok (.iload_n 2, 1) := by decide +kernel
theorem dX12_leads_157 : decode cX12_leads 157 = .ok (.iaload, 1) := by decide +kernel
theorem dX12_leads_158 : decode cX12_leads 158 = .ok (.iastore, 1) := by decide +kernel
theorem dX12_leads_159 : decode cX12_leads 159 = .ok (.iinc 2 1, 3) := by decide +kernel
theorem dX12_leads_162 : decode cX12_leads 162 = .ok (.goto (-21), 3) := by decide +kernel
theorem dX12_leads_165 : decode cX12_leads 165 = .ok (.return_, 1) := by decide +kernel
theorem dX12_leastAlike_0 : decode cX12_leastAlike 0 = .ok (.iconst (-1), 1) := by decide +kernel
theorem dX12_leastAlike_1 : decode cX12_leastAlike 1 = .ok (.istore_n 1, 1) := by decide +kernel
theorem dX12_leastAlike_2 : decode cX12_leastAlike 2 = .ok (.iconst 0, 1) := by decide +kernel
theorem dX12_leastAlike_3 : decode cX12_leastAlike 3 = .ok (.istore_n 2, 1) := by decide +kernel
theorem dX12_leastAlike_4 : decode cX12_leastAlike 4 = .ok (.iload_n 2, 1) := by decide +kernel
theorem dX12_leastAlike_5 : decode cX12_leastAlike 5 = .ok (.iconst 4, 1) := by decide +kernel
theorem dX12_leastAlike_6 : decode cX12_leastAlike 6 = .ok (.if_icmp .ge 37, 3) := by decide +kernel
theorem dX12_leastAlike_9 : decode cX12_leastAlike 9 = .ok (.aload_n 0, 1) := by decide +kernel
theorem dX12_leastAlike_10 : decode cX12_leastAlike 10 = .ok (.getfield 58, 3) := by decide +kernel
theorem dX12_leastAlike_13 : decode cX12_leastAlike 13 = .ok (.iconst 5, 1) := by decide +kernel
theorem dX12_leastAlike_14 : decode cX12_leastAlike 14 = .ok (.iload_n 2, 1) := by decide +kernel
theorem dX12_leastAlike_15 : decode cX12_leastAlike 15 = .ok (.imul, 1) := by decide +kernel
theorem dX12_leastAlike_16 : decode cX12_leastAlike 16 = .ok (.iaload, 1) := by decide +kernel
theorem dX12_leastAlike_17 : decode cX12_leastAlike 17 = .ok (.istore_n 3, 1) := by decide +kernel
theorem dX12_leastAlike_18 : decode cX12_leastAlike 18 = .ok (.iload_n 3, 1) := by decide +kernel
theorem dX12_leastAlike_19 : decode cX12_leastAlike 19 = .ok (.ifCond .lt 16, 3) := by decide +kernel
theorem dX12_leastAlike_22 : decode cX12_leastAlike 22 = .ok (.iload_n 1, 1) := by decide +kernel
theorem dX12_leastAlike_23 : decode cX12_leastAlike 23 = .ok (.ifCond .lt 8, 3) := by decide +kernel
theorem dX12_leastAlike_26 : decode cX12_leastAlike 26 = .ok (.iload_n 3, 1) := by decide +kernel
theorem dX12_leastAlike_27 : decode cX12_leastAlike 27 = .ok (.iload_n 1, 1) := by decide +kernel
theorem dX12_leastAlike_28 : decode cX12_leastAlike 28 = .ok (.if_icmp .ge 7, 3) := by decide +kernel
theorem dX12_leastAlike_31 : decode cX12_leastAlike 31 = .ok (.iload_n 3, 1) := by decide +kernel
theorem dX12_leastAlike_32 : decode cX12_leastAlike 32 = .ok (.goto 4, 3) := by decide +kernel
theorem dX12_leastAlike_35 : decode cX12_leastAlike 35 = .ok (.iload_n 1, 1) := by decide +kernel
theorem dX12_leastAlike_36 : decode cX12_leastAlike 36 = .ok (.istore_n 1, 1) := by decide +kernel
theorem dX12_leastAlike_37 : decode cX12_leastAlike 37 = .ok (.iinc 2 1, 3) := by decide +kernel
theorem dX12_leastAlike_40 : decode cX12_leastAlike 40 = .ok (.goto (-36), 3) := by decide +kernel
theorem dX12_leastAlike_43 : decode cX12_leastAlike 43 = .ok (.iload_n 1, 1) := by decide +kernel
theorem dX12_leastAlike_44 : decode cX12_leastAlike 44 = .ok (.ireturn, 1) := by decide +kernel
theorem dX12_meet_0 : decode cX12_meet 0 = .ok (.iload_n 1, 1) := by decide +kernel
theorem dX12_meet_1 : decode cX12_meet 1 = .ok (.invokestatic 174, 3) := by decide +kernel
theorem dX12_meet_4 : decode cX12_meet 4 = .ok (.ifCond .eq 20, 3) := by decide +kernel
theorem dX12_meet_7 : decode cX12_meet 7 = .ok (.iload_n 2, 1) := by decide +kernel
theorem dX12_meet_8 : decode cX12_meet 8 = .ok (.invokestatic 174, 3) := by decide +kernel
theorem dX12_meet_11 : decode cX12_meet 11 = .ok (.ifCond .eq 13, 3) := by decide +kernel
theorem dX12_meet_14 : decode cX12_meet 14 = .ok (.iload_n 3, 1) := by decide +kernel
theorem dX12_meet_15 : decode cX12_meet 15 = .ok (.i2l, 1) := by decide +kernel
theorem dX12_meet_16 : decode cX12_meet 16 = .ok (.lconst 0, 1) := by decide +kernel
theorem dX12_meet_17 : decode cX12_meet 17 = .ok (.lconst 1, 1) := by decide +kernel
theorem dX12_meet_18 : decode cX12_meet 18 = .ok (.invokestatic 123, 3) := by decide +kernel
theorem dX12_meet_21 : decode cX12_meet 21 = .ok (.ifCond .ne 10, 3) := by decide +kernel
theorem dX12_meet_24 : decode cX12_meet 24 = .ok (.aload_n 0, 1) := by decide +kernel
theorem dX12_meet_25 : decode cX12_meet 25 = .ok (.bipush (-2), 2) := by decide +kernel
theorem dX12_meet_27 : decode cX12_meet 27 = .ok (.invokevirtual 9, 3) := by decide +kernel
theorem dX12_meet_30 : decode cX12_meet 30 = .ok (.ireturn, 1) := by decide +kernel
theorem dX12_meet_31 : decode cX12_meet 31 = .ok (.iconst 0, 1) := by decide +kernel
theorem dX12_meet_32 : decode cX12_meet 32 = .ok (.istore 4, 2) := by decide +kernel
theorem dX12_meet_34 : decode cX12_meet 34 = .ok (.iload 4, 2) := by decide +kernel
theorem dX12_meet_36 : decode cX12_meet 36 = .ok (.bipush 16, 2) := by decide +kernel
theorem dX12_meet_38 : decode cX12_meet 38 = .ok (.if_icmp .ge 31, 3) := by decide +kernel
theorem dX12_meet_41 : decode cX12_meet 41 = .ok (.aload_n 0, 1) := by decide +kernel
theorem dX12_meet_42 : decode cX12_meet 42 = .ok (.getfield 58, 3) := by decide +kernel
theorem dX12_meet_45 : decode cX12_meet 45 = .ok (.iload 4, 2) := by decide +kernel
theorem dX12_meet_47 : decode cX12_meet 47 = .ok (.iload 4, 2) := by decide +kernel
theorem dX12_meet_49 : decode cX12_meet 49 = .ok (.iconst 4, 1) := by decide +kernel
theorem dX12_meet_50 : decode cX12_meet 50 = .ok (.iload_n 1, 1) := by decide +kernel
theorem dX12_meet_51 : decode cX12_meet 51 = .ok (.imul, 1) := by decide +kernel
theorem dX12_meet_52 : decode cX12_meet 52 = .ok (.iload_n 2, 1) := by decide +kernel
theorem dX12_meet_53 : decode cX12_meet 53 = .ok (.iadd, 1) := by decide +kernel
theorem dX12_meet_54 : decode cX12_meet 54 = .ok (.if_icmp .ne 7, 3) := by decide +kernel
theorem dX12_meet_57 : decode cX12_meet 57 = .ok (.iconst 0, 1) := by decide +kernel
theorem dX12_meet_58 : decode cX12_meet 58 = .ok (.goto 4, 3) := by decide +kernel
theorem dX12_meet_61 : decode cX12_meet 61 = .ok (.iconst (-1), 1) := by decide +kernel
theorem dX12_meet_62 : decode cX12_meet 62 = .ok (.iastore, 1) := by decide +kernel
theorem dX12_meet_63 : decode cX12_meet 63 = .ok (.iinc 4 1, 3) := by decide +kernel
theorem dX12_meet_66 : decode cX12_meet 66 = .ok (.goto (-32), 3) := by decide +kernel
theorem dX12_meet_69 : decode cX12_meet 69 = .ok (.iconst 1, 1) := by decide +kernel
theorem dX12_meet_70 : decode cX12_meet 70 = .ok (.istore 4, 2) := by decide +kernel
theorem dX12_meet_72 : decode cX12_meet 72 = .ok (.iconst 0, 1) := by decide +kernel
theorem dX12_meet_73 : decode cX12_meet 73 = .ok (.istore 5, 2) := by decide +kernel
theorem dX12_meet_75 : decode cX12_meet 75 = .ok (.iload 5, 2) := by decide +kernel
theorem dX12_meet_77 : decode cX12_meet 77 = .ok (.bipush 15, 2) := by decide +kernel
theorem dX12_meet_79 : decode cX12_meet 79 = .ok (.if_icmp .gt 51, 3) := by decide +kernel
theorem dX12_meet_82 : decode cX12_meet 82 = .ok (.aload_n 0, 1) := by decide +kernel
theorem dX12_meet_83 : decode cX12_meet 83 = .ok (.invokevirtual 193, 3) := by decide +kernel
theorem dX12_meet_86 : decode cX12_meet 86 = .ok (.istore 6, 2) := by decide +kernel
theorem dX12_meet_88 : decode cX12_meet 88 = .ok (.iload 6, 2) := by decide +kernel
theorem dX12_meet_90 : decode cX12_meet 90 = .ok (.ifCond .lt 15, 3) := by decide +kernel
theorem dX12_meet_93 : decode cX12_meet 93 = .ok (.iload_n 3, 1) := by decide +kernel
theorem dX12_meet_94 : decode cX12_meet 94 = .ok (.ifCond .ne 8, 3) := by decide +kernel
theorem dX12_meet_97 : decode cX12_meet 97 = .ok (.iload 5, 2) := by decide +kernel
theorem dX12_meet_99 : decode cX12_meet 99 = .ok (.goto 5, 3) := by decide +kernel
theorem dX12_meet_102 : decode cX12_meet 102 = .ok (.iload 6, 2) := by decide +kernel
theorem dX12_meet_104 : decode cX12_meet 104 = .ok (.ireturn, 1) := by decide +kernel
theorem dX12_meet_105 : decode cX12_meet 105 = .ok (.iload 5, 2) := by decide +kernel
theorem dX12_meet_107 : decode cX12_meet 107 = .ok (.bipush 15, 2) := by decide +kernel
theorem dX12_meet_109 : decode cX12_meet 109 = .ok (.if_icmp .ge 15, 3) := by decide +kernel
theorem dX12_meet_112 : decode cX12_meet 112 = .ok (.aload_n 0, 1) := by decide +kernel
theorem dX12_meet_113 : decode cX12_meet 113 = .ok (.iload 4, 2) := by decide +kernel
theorem dX12_meet_115 : decode cX12_meet 115 = .ok (.invokevirtual 196, 3) := by decide +kernel
theorem dX12_meet_118 : decode cX12_meet 118 = .ok (.iload 4, 2) := by decide +kernel
theorem dX12_meet_120 : decode cX12_meet 120 = .ok (.iconst 4, 1) := by decide +kernel
theorem dX12_meet_121 : decode cX12_meet 121 = .ok (.imul, 1) := by decide +kernel
theorem dX12_meet_122 : decode cX12_meet 122 = .ok (.istore 4, 2) := by decide +kernel
theorem dX12_meet_124 : decode cX12_meet 124 = .ok (.iinc 5 1, 3) := by decide +kernel
theorem dX12_meet_127 : decode cX12_meet 127 = .ok (.goto (-52), 3) := by decide +kernel
theorem dX12_meet_130 : decode cX12_meet 130 = .ok (.bipush (-9), 2) := by decide +kernel
theorem dX12_meet_132 : decode cX12_meet 132 = .ok (.ireturn, 1) := by decide +kernel
theorem dX12_steady_0 : decode cX12_steady 0 = .ok (.iload_n 1, 1) := by decide +kernel
theorem dX12_steady_1 : decode cX12_steady 1 = .ok (.invokestatic 174, 3) := by decide +kernel
theorem dX12_steady_4 : decode cX12_steady 4 = .ok (.ifCond .ne 10, 3) := by decide +kernel
theorem dX12_steady_7 : decode cX12_steady 7 = .ok (.aload_n 0, 1) := by decide +kernel
theorem dX12_steady_8 : decode cX12_steady 8 = .ok (.bipush (-2), 2) := by decide +kernel
theorem dX12_steady_10 : decode cX12_steady 10 = .ok (.invokevirtual 9, 3) := by decide +kernel
theorem dX12_steady_13 : decode cX12_steady 13 = .ok (.ireturn, 1) := by decide +kernel
theorem dX12_steady_14 : decode cX12_steady 14 = .ok (.iconst 1, 1) := by decide +kernel
theorem dX12_steady_15 : decode cX12_steady 15 = .ok (.iload_n 1, 1) := by decide +kernel
theorem dX12_steady_16 : decode cX12_steady 16 = .ok (.ishl, 1) := by decide +kernel
theorem dX12_steady_17 : decode cX12_steady 17 = .ok (.istore_n 2, 1) := by decide +kernel
theorem dX12_steady_18 : decode cX12_steady 18 = .ok (.iconst 0, 1) := by decide +kernel
theorem dX12_steady_19 : decode cX12_steady 19 = .ok (.istore_n 3, 1) := by decide +kernel
theorem dX12_steady_20 : decode cX12_steady 20 = .ok (.iconst 0, 1) := by decide +kernel
theorem dX12_steady_21 : decode cX12_steady 21 = .ok (.istore 4, 2) := by decide +kernel
theorem dX12_steady_23 : decode cX12_steady 23 = .ok (.iload 4, 2) := by decide +kernel
theorem dX12_steady_25 : decode cX12_steady 25 = .ok (.bipush 24, 2) := by decide +kernel
theorem dX12_steady_27 : decode cX12_steady 27 = .ok (.if_icmp .ge 74, 3) := by decide +kernel
theorem dX12_steady_30 : decode cX12_steady 30 = .ok (.iload_n 3, 1) := by decide +kernel
theorem dX12_steady_31 : decode cX12_steady 31 = .ok (.iload 4, 2) := by decide +kernel
theorem dX12_steady_33 : decode cX12_steady 33 = .ok (.iconst 4, 1) := by decide +kernel
theorem dX12_steady_34 : decode cX12_steady 34 = .ok (.if_icmp .lt 7, 3) := by decide +kernel
theorem dX12_steady_37 : decode cX12_steady 37 = .ok (.iload_n 2, 1) := by decide +kernel
theorem dX12_steady_38 : decode cX12_steady 38 = .ok (.goto 4, 3) := by decide +kernel
theorem dX12_steady_41 : decode cX12_steady 41 = .ok (.iconst 0, 1) := by decide +kernel
theorem dX12_steady_42 : decode cX12_steady 42 = .ok (.ior, 1) := by decide +kernel
theorem dX12_steady_43 : decode cX12_steady 43 = .ok (.istore_n 3, 1) := by decide +kernel
theorem dX12_steady_44 : decode cX12_steady 44 = .ok (.iconst 0, 1) := by decide +kernel
theorem dX12_steady_45 : decode cX12_steady 45 = .ok (.istore 5, 2) := by decide +kernel
theorem dX12_steady_47 : decode cX12_steady 47 = .ok (.iconst 0, 1) := by decide +kernel
theorem dX12_steady_48 : decode cX12_steady 48 = .ok (.istore 6, 2) := by decide +kernel
theorem dX12_steady_50 : decode cX12_steady 50 = .ok (.iload 6, 2) := by decide +kernel
theorem dX12_steady_52 : decode cX12_steady 52 = .ok (.bipush 16, 2) := by decide +kernel
theorem dX12_steady_54 : decode cX12_steady 54 = .ok (.if_icmp .ge 38, 3) := by decide +kernel
theorem dX12_steady_57 : decode cX12_steady 57 = .ok (.iload 5, 2) := by decide +kernel
theorem dX12_steady_59 : decode cX12_steady 59 = .ok (.iload_n 2, 1) := by decide +kernel
theorem dX12_steady_60 : decode cX12_steady 60 = .ok (.iload 6, 2) := by decide +kernel
theorem dX12_steady_62 : decode cX12_steady 62 = .ok (.iconst 4, 1) := by decide +kernel
theorem dX12_steady_63 : decode cX12_steady 63 = .ok (.idiv, 1) := by decide +kernel
theorem dX12_steady_64 : decode cX12_steady 64 = .ok (.invokestatic 199, 3) := by decide +kernel
theorem dX12_steady_67 : decode cX12_steady 67 = .ok (.ifCond .eq 15, 3) := by decide +kernel
theorem dX12_steady_70 : decode cX12_steady 70 = .ok (.iconst 1, 1) := by decide +kernel
theorem dX12_steady_71 : decode cX12_steady 71 = .ok (.aload_n 0, 1) := by decide +kernel
theorem dX12_steady_72 : decode cX12_steady 72 = .ok (.getfield 48, 3) := by decide +kernel
theorem dX12_steady_75 : decode cX12_steady 75 = .ok (.iload 6, 2) := by decide +kernel
theorem dX12_steady_77 : decode cX12_steady 77 = .ok (.iaload, 1) := by decide +kernel
theorem dX12_steady_78 : decode cX12_steady 78 = .ok (.ishl, 1) := by decide +kernel
theorem dX12_steady_79 : decode cX12_steady 79 = .ok (.goto 4, 3) := by decide +kernel
theorem dX12_steady_82 : decode cX12_steady 82 = .ok (.iconst 0, 1) := by decide +kernel
theorem dX12_steady_83 : decode cX12_steady 83 = .ok (.ior, 1) := by decide +kernel
theorem dX12_steady_84 : decode cX12_steady 84 = .ok (.istore 5, 2) := by decide +kernel
theorem dX12_steady_86 : decode cX12_steady 86 = .ok (.iinc 6 1, 3) := by decide +kernel
theorem dX12_steady_89 : decode cX12_steady 89 = .ok (.goto (-39), 3) := by decide +kernel
theorem dX12_steady_92 : decode cX12_steady 92 = .ok (.iload 5, 2) := by decide +kernel
theorem dX12_steady_94 : decode cX12_steady 94 = .ok (.istore_n 2, 1) := by decide +kernel
theorem dX12_steady_95 : decode cX12_steady 95 = .ok (.iinc 4 1, 3) := by decide +kernel
theorem dX12_steady_98 : decode cX12_steady 98 = .ok (.goto (-75), 3) := by decide +kernel
theorem dX12_steady_101 : decode cX12_steady 101 = .ok (.iload_n 3, 1) := by decide +kernel
theorem dX12_steady_102 : decode cX12_steady 102 = .ok (.ireturn, 1) := by decide +kernel
theorem dX12_falls_0 : decode cX12_falls 0 = .ok (.iload_n 1, 1) := by decide +kernel
theorem dX12_falls_1 : decode cX12_falls 1 = .ok (.invokestatic 174, 3) := by decide +kernel
theorem dX12_falls_4 : decode cX12_falls 4 = .ok (.ifCond .ne 10, 3) := by decide +kernel
theorem dX12_falls_7 : decode cX12_falls 7 = .ok (.aload_n 0, 1) := by decide +kernel
theorem dX12_falls_8 : decode cX12_falls 8 = .ok (.bipush (-2), 2) := by decide +kernel
theorem dX12_falls_10 : decode cX12_falls 10 = .ok (.invokevirtual 9, 3) := by decide +kernel
theorem dX12_falls_13 : decode cX12_falls 13 = .ok (.ireturn, 1) := by decide +kernel
theorem dX12_falls_14 : decode cX12_falls 14 = .ok (.aload_n 0, 1) := by decide +kernel
theorem dX12_falls_15 : decode cX12_falls 15 = .ok (.iload_n 1, 1) := by decide +kernel
theorem dX12_falls_16 : decode cX12_falls 16 = .ok (.invokevirtual 186, 3) := by decide +kernel
theorem dX12_falls_19 : decode cX12_falls 19 = .ok (.iconst 1, 1) := by decide +kernel
theorem dX12_falls_20 : decode cX12_falls 20 = .ok (.istore_n 2, 1) := by decide +kernel
theorem dX12_falls_21 : decode cX12_falls 21 = .ok (.iload_n 2, 1) := by decide +kernel
theorem dX12_falls_22 : decode cX12_falls 22 = .ok (.bipush 15, 2) := by decide +kernel
theorem dX12_falls_24 : decode cX12_falls 24 = .ok (.if_icmp .gt 63, 3) := by decide +kernel
theorem dX12_falls_27 : decode cX12_falls 27 = .ok (.aload_n 0, 1) := by decide +kernel
theorem dX12_falls_28 : decode cX12_falls 28 = .ok (.invokevirtual 190, 3) := by decide +kernel
theorem dX12_falls_31 : decode cX12_falls 31 = .ok (.aload_n 0, 1) := by decide +kernel
theorem dX12_falls_32 : decode cX12_falls 32 = .ok (.getfield 51, 3) := by decide +kernel
theorem dX12_falls_35 : decode cX12_falls 35 = .ok (.iconst 0, 1) := by decide +kernel
theorem dX12_falls_36 : decode cX12_falls 36 = .ok (.laload, 1) := by decide +kernel
theorem dX12_falls_37 : decode cX12_falls 37 = .ok (.aload_n 0, 1) := by decide +kernel
theorem dX12_falls_38 : decode cX12_falls 38 = .ok (.getfield 51, 3) := by decide +kernel
theorem dX12_falls_41 : decode cX12_falls 41 = .ok (.iconst 1, 1) := by decide +kernel
theorem dX12_falls_42 : decode cX12_falls 42 = .ok (.laload, 1) := by decide +kernel
theorem dX12_falls_43 : decode cX12_falls 43 = .ok (.lcmp, 1) := by decide +kernel
theorem dX12_falls_44 : decode cX12_falls 44 = .ok (.ifCond .ne 37, 3) := by decide +kernel
theorem dX12_falls_47 : decode cX12_falls 47 = .ok (.aload_n 0, 1) := by decide +kernel
theorem dX12_falls_48 : decode cX12_falls 48 = .ok (.getfield 51, 3) := by decide +kernel
theorem dX12_falls_51 : decode cX12_falls 51 = .ok (.iconst 1, 1) := by decide +kernel
theorem dX12_falls_52 : decode cX12_falls 52 = .ok (.laload, 1) := by decide +kernel
theorem dX12_falls_53 : decode cX12_falls 53 = .ok (.aload_n 0, 1) := by decide +kernel
theorem dX12_falls_54 : decode cX12_falls 54 = .ok (.getfield 51, 3) := by decide +kernel
theorem dX12_falls_57 : decode cX12_falls 57 = .ok (.iconst 2, 1) := by decide +kernel
theorem dX12_falls_58 : decode cX12_falls 58 = .ok (.laload, 1) := by decide +kernel
theorem dX12_falls_59 : decode cX12_falls 59 = .ok (.lcmp, 1) := by decide +kernel
theorem dX12_falls_60 : decode cX12_falls 60 = .ok (.ifCond .ne 21, 3) := by decide +kernel
theorem dX12_falls_63 : decode cX12_falls 63 = .ok (.aload_n 0, 1) := by decide +kernel
theorem dX12_falls_64 : decode cX12_falls 64 = .ok (.getfield 51, 3) := by decide +kernel
theorem dX12_falls_67 : decode cX12_falls 67 = .ok (.iconst 2, 1) := by decide +kernel
theorem dX12_falls_68 : decode cX12_falls 68 = .ok (.laload, 1) := by decide +kernel
theorem dX12_falls_69 : decode cX12_falls 69 = .ok (.aload_n 0, 1) := by decide +kernel
theorem dX12_falls_70 : decode cX12_falls 70 = .ok (.getfield 51, 3) := by decide +kernel
theorem dX12_falls_73 : decode cX12_falls 73 = .ok (.iconst 3, 1) := by decide +kernel
theorem dX12_falls_74 : decode cX12_falls 74 = .ok (.laload, 1) := by decide +kernel
theorem dX12_falls_75 : decode cX12_falls 75 = .ok (.lcmp, 1) := by decide +kernel
theorem dX12_falls_76 : decode cX12_falls 76 = .ok (.ifCond .ne 5, 3) := by decide +kernel
theorem dX12_falls_79 : decode cX12_falls 79 = .ok (.iload_n 2, 1) := by decide +kernel
theorem dX12_falls_80 : decode cX12_falls 80 = .ok (.ireturn, 1) := by decide +kernel
theorem dX12_falls_81 : decode cX12_falls 81 = .ok (.iinc 2 1, 3) := by decide +kernel
theorem dX12_falls_84 : decode cX12_falls 84 = .ok (.goto (-63), 3) := by decide +kernel
theorem dX12_falls_87 : decode cX12_falls 87 = .ok (.bipush (-9), 2) := by decide +kernel
theorem dX12_falls_89 : decode cX12_falls 89 = .ok (.ireturn, 1) := by decide +kernel
theorem dX12_lots_0 : decode cX12_lots 0 = .ok (.iload_n 1, 1) := by decide +kernel
theorem dX12_lots_1 : decode cX12_lots 1 = .ok (.invokestatic 174, 3) := by decide +kernel
theorem dX12_lots_4 : decode cX12_lots 4 = .ok (.ifCond .eq 14, 3) := by decide +kernel
theorem dX12_lots_7 : decode cX12_lots 7 = .ok (.iload 4, 2) := by decide +kernel
theorem dX12_lots_9 : decode cX12_lots 9 = .ok (.i2l, 1) := by decide +kernel
theorem dX12_lots_10 : decode cX12_lots 10 = .ok (.lconst 0, 1) := by decide +kernel
theorem dX12_lots_11 : decode cX12_lots 11 = .ok (.lconst 1, 1) := by decide +kernel
theorem dX12_lots_12 : decode cX12_lots 12 = .ok (.invokestatic 123, 3) := by decide +kernel
theorem dX12_lots_15 : decode cX12_lots 15 = .ok (.ifCond .ne 10, 3) := by decide +kernel
theorem dX12_lots_18 : decode cX12_lots 18 = .ok (.aload_n 0, 1) := by decide +kernel
theorem dX12_lots_19 : decode cX12_lots 19 = .ok (.bipush (-2), 2) := by decide +kernel
theorem dX12_lots_21 : decode cX12_lots 21 = .ok (.invokevirtual 9, 3) := by decide +kernel
theorem dX12_lots_24 : decode cX12_lots 24 = .ok (.ireturn, 1) := by decide +kernel
theorem dX12_lots_25 : decode cX12_lots 25 = .ok (.iload_n 2, 1) := by decide +kernel
theorem dX12_lots_26 : decode cX12_lots 26 = .ok (.iconst 1, 1) := by decide +kernel
theorem dX12_lots_27 : decode cX12_lots 27 = .ok (.if_icmp .ge 10, 3) := by decide +kernel
theorem dX12_lots_30 : decode cX12_lots 30 = .ok (.aload_n 0, 1) := by decide +kernel
theorem dX12_lots_31 : decode cX12_lots 31 = .ok (.bipush (-4), 2) := by decide +kernel
theorem dX12_lots_33 : decode cX12_lots 33 = .ok (.invokevirtual 9, 3) := by decide +kernel
theorem dX12_lots_36 : decode cX12_lots 36 = .ok (.ireturn, 1) := by decide +kernel
theorem dX12_lots_37 : decode cX12_lots 37 = .ok (.iload_n 2, 1) := by decide +kernel
theorem dX12_lots_38 : decode cX12_lots 38 = .ok (.bipush 50, 2) := by decide +kernel
theorem dX12_lots_40 : decode cX12_lots 40 = .ok (.if_icmp .le 10, 3) := by decide +kernel
theorem dX12_lots_43 : decode cX12_lots 43 = .ok (.aload_n 0, 1) := by decide +kernel
theorem dX12_lots_44 : decode cX12_lots 44 = .ok (.bipush (-6), 2) := by decide +kernel
theorem dX12_lots_46 : decode cX12_lots 46 = .ok (.invokevirtual 9, 3) := by decide +kernel
theorem dX12_lots_49 : decode cX12_lots 49 = .ok (.ireturn, 1) := by decide +kernel
theorem dX12_lots_50 : decode cX12_lots 50 = .ok (.iload_n 3, 1) := by decide +kernel
theorem dX12_lots_51 : decode cX12_lots 51 = .ok (.istore 5, 2) := by decide +kernel
theorem dX12_lots_53 : decode cX12_lots 53 = .ok (.iconst 0, 1) := by decide +kernel
theorem dX12_lots_54 : decode cX12_lots 54 = .ok (.istore 6, 2) := by decide +kernel
theorem dX12_lots_56 : decode cX12_lots 56 = .ok (.iconst 0, 1) := by decide +kernel
theorem dX12_lots_57 : decode cX12_lots 57 = .ok (.istore 7, 2) := by decide +kernel
theorem dX12_lots_59 : decode cX12_lots 59 = .ok (.iconst 0, 1) := by decide +kernel
theorem dX12_lots_60 : decode cX12_lots 60 = .ok (.istore 8, 2) := by decide +kernel
theorem dX12_lots_62 : decode cX12_lots 62 = .ok (.iload 8, 2) := by decide +kernel
theorem dX12_lots_64 : decode cX12_lots 64 = .ok (.iload_n 2, 1) := by decide +kernel
theorem dX12_lots_65 : decode cX12_lots 65 = .ok (.if_icmp .ge 83, 3) := by decide +kernel
theorem dX12_lots_68 : decode cX12_lots 68 = .ok (.iload_n 1, 1) := by decide +kernel
theorem dX12_lots_69 : decode cX12_lots 69 = .ok (.istore 9, 2) := by decide +kernel
theorem dX12_lots_71 : decode cX12_lots 71 = .ok (.iconst 0, 1) := by decide +kernel
theorem dX12_lots_72 : decode cX12_lots 72 = .ok (.istore 10, 2) := by decide +kernel
theorem dX12_lots_74 : decode cX12_lots 74 = .ok (.iload 10, 2) := by decide +kernel
theorem dX12_lots_76 : decode cX12_lots 76 = .ok (.bipush 8, 2) := by decide +kernel
theorem dX12_lots_78 : decode cX12_lots 78 = .ok (.if_icmp .ge 42, 3) := by decide +kernel
theorem dX12_lots_81 : decode cX12_lots 81 = .ok (.iload 5, 2) := by decide +kernel
theorem dX12_lots_83 : decode cX12_lots 83 = .ok (.ldc 202, 2) := by decide +kernel
theorem dX12_lots_85 : decode cX12_lots 85 = .ok (.imul, 1) := by decide +kernel
theorem dX12_lots_86 : decode cX12_lots 86 = .ok (.ldc 203, 2) := by decide +kernel
theorem dX12_lots_88 : decode cX12_lots 88 = .ok (.iadd, 1) := by decide +kernel
theorem dX12_lots_89 : decode cX12_lots 89 = .ok (.istore 5, 2) := by decide +kernel
theorem dX12_lots_91 : decode cX12_lots 91 = .ok (.aload_n 0, 1) := by decide +kernel
theorem dX12_lots_92 : decode cX12_lots 92 = .ok (.getfield 48, 3) := by decide +kernel
theorem dX12_lots_95 : decode cX12_lots 95 = .ok (.iconst 4, 1) := by decide +kernel
theorem dX12_lots_96 : decode cX12_lots 96 = .ok (.iload 9, 2) := by decide +kernel
theorem dX12_lots_98 : decode cX12_lots 98 = .ok (.imul, 1) := by decide +kernel
theorem dX12_lots_99 : decode cX12_lots 99 = .ok (.iload 5, 2) := by decide +kernel
theorem dX12_lots_101 : decode cX12_lots 101 = .ok (.ldc 206, 2) := by decide +kernel
theorem dX12_lots_103 : decode cX12_lots 103 = .ok (.iand, 1) := by decide +kernel
theorem dX12_lots_104 : decode cX12_lots 104 = .ok (.sipush 256, 3) := by decide +kernel
theorem dX12_lots_107 : decode cX12_lots 107 = .ok (.idiv, 1) := by decide +kernel
theorem dX12_lots_108 : decode cX12_lots 108 = .ok (.iconst 4, 1) := by decide +kernel
theorem dX12_lots_109 : decode cX12_lots 109 = .ok (.irem, 1) := by decide +kernel
theorem dX12_lots_110 : decode cX12_lots 110 = .ok (.iadd, 1) := by decide +kernel
theorem dX12_lots_111 : decode cX12_lots 111 = .ok (.iaload, 1) := by decide +kernel
theorem dX12_lots_112 : decode cX12_lots 112 = .ok (.istore 9, 2) := by decide +kernel
theorem dX12_lots_114 : decode cX12_lots 114 = .ok (.iinc 10 1, 3) := by decide +kernel
theorem dX12_lots_117 : decode cX12_lots 117 = .ok (.goto (-43), 3) := by decide +kernel
theorem dX12_lots_120 : decode cX12_lots 120 = .ok (.iload 6, 2) := by decide +kernel
theorem dX12_lots_122 : decode cX12_lots 122 = .ok (.iload 9, 2) := by decide +kernel
theorem dX12_lots_124 : decode cX12_lots 124 = .ok (.ifCond .ne 7, 3) := by decide +kernel
theorem dX12_lots_127 : decode cX12_lots 127 = .ok (.iconst 1, 1) := by decide +kernel
theorem dX12_lots_128 : decode cX12_lots 128 = .ok (.goto 4, 3) := by decide +kernel
theorem dX12_lots_131 : decode cX12_lots 131 = .ok (.iconst 0, 1) := by decide +kernel
theorem dX12_lots_132 : decode cX12_lots 132 = .ok (.iadd, 1) := by decide +kernel
theorem dX12_lots_133 : decode cX12_lots 133 = .ok (.istore 6, 2) := by decide +kernel
theorem dX12_lots_135 : decode cX12_lots 135 = .ok (.iload 7, 2) := by decide +kernel
theorem dX12_lots_137 : decode cX12_lots 137 = .ok (.iload 9, 2) := by decide +kernel
theorem dX12_lots_139 : decode cX12_lots 139 = .ok (.iadd, 1) := by decide +kernel
theorem dX12_lots_140 : decode cX12_lots 140 = .ok (.istore 7, 2) := by decide +kernel
theorem dX12_lots_142 : decode cX12_lots 142 = .ok (.iinc 8 1, 3) := by decide +kernel
theorem dX12_lots_145 : decode cX12_lots 145 = .ok (.goto (-83), 3) := by decide +kernel
theorem dX12_lots_148 : decode cX12_lots 148 = .ok (.iload 4, 2) := by decide +kernel
theorem dX12_lots_150 : decode cX12_lots 150 = .ok (.ifCond .ne 8, 3) := by decide +kernel
theorem dX12_lots_153 : decode cX12_lots 153 = .ok (.iload 6, 2) := by decide +kernel
theorem dX12_lots_155 : decode cX12_lots 155 = .ok (.goto 5, 3) := by decide +kernel
theorem dX12_lots_158 : decode cX12_lots 158 = .ok (.iload 7, 2) := by decide +kernel
theorem dX12_lots_160 : decode cX12_lots 160 = .ok (.ireturn, 1) := by decide +kernel
theorem dX12_comesPoint_0 : decode cX12_comesPoint 0 = .ok (.aload_n 0, 1) := by decide +kernel
theorem dX12_comesPoint_1 : decode cX12_comesPoint 1 = .ok (.getfield 64, 3) := by decide +kernel
theorem dX12_comesPoint_4 : decode cX12_comesPoint 4 = .ok (.iconst 4, 1) := by decide +kernel
theorem dX12_comesPoint_5 : decode cX12_comesPoint 5 = .ok (.aload_n 0, 1) := by decide +kernel
theorem dX12_comesPoint_6 : decode cX12_comesPoint 6 = .ok (.getfield 207, 3) := by decide +kernel
theorem dX12_comesPoint_9 : decode cX12_comesPoint 9 = .ok (.imul, 1) := by decide +kernel
theorem dX12_comesPoint_10 : decode cX12_comesPoint 10 = .ok (.iload_n 1, 1) := by decide +kernel
theorem dX12_comesPoint_11 : decode cX12_comesPoint 11 = .ok (.iastore, 1) := by decide +kernel
theorem dX12_comesPoint_12 : decode cX12_comesPoint 12 = .ok (.aload_n 0, 1) := by decide +kernel
theorem dX12_comesPoint_13 : decode cX12_comesPoint 13 = .ok (.getfield 64, 3) := by decide +kernel
theorem dX12_comesPoint_16 : decode cX12_comesPoint 16 = .ok (.iconst 4, 1) := by decide +kernel
theorem dX12_comesPoint_17 : decode cX12_comesPoint 17 = .ok (.aload_n 0, 1) := by decide +kernel
theorem dX12_comesPoint_18 : decode cX12_comesPoint 18 = .ok (.getfield 207, 3) := by decide +kernel
theorem dX12_comesPoint_21 : decode cX12_comesPoint 21 = .ok (.imul, 1) := by decide +kernel
theorem dX12_comesPoint_22 : decode cX12_comesPoint 22 = .ok (.iconst 1, 1) := by decide +kernel
theorem dX12_comesPoint_23 : decode cX12_comesPoint 23 = .ok (.iadd, 1) := by decide +kernel
theorem dX12_comesPoint_24 : decode cX12_comesPoint 24 = .ok (.iload_n 2, 1) := by decide +kernel
theorem dX12_comesPoint_25 : decode cX12_comesPoint 25 = .ok (.iastore, 1) := by decide +kernel
theorem dX12_comesPoint_26 : decode cX12_comesPoint 26 = .ok (.aload_n 0, 1) := by decide +kernel
theorem dX12_comesPoint_27 : decode cX12_comesPoint 27 = .ok (.getfield 64, 3) := by decide +kernel
theorem dX12_comesPoint_30 : decode cX12_comesPoint 30 = .ok (.iconst 4, 1) := by decide +kernel
theorem dX12_comesPoint_31 : decode cX12_comesPoint 31 = .ok (.aload_n 0, 1) := by decide +kernel
theorem dX12_comesPoint_32 : decode cX12_comesPoint 32 = .ok (.getfield 207, 3) := by decide +kernel
theorem dX12_comesPoint_35 : decode cX12_comesPoint 35 = .ok (.imul, 1) := by decide +kernel
theorem dX12_comesPoint_36 : decode cX12_comesPoint 36 = .ok (.iconst 2, 1) := by decide +kernel
theorem dX12_comesPoint_37 : decode cX12_comesPoint 37 = .ok (.iadd, 1) := by decide +kernel
theorem dX12_comesPoint_38 : decode cX12_comesPoint 38 = .ok (.iload_n 3, 1) := by decide +kernel
theorem dX12_comesPoint_39 : decode cX12_comesPoint 39 = .ok (.iastore, 1) := by decide +kernel
theorem dX12_comesPoint_40 : decode cX12_comesPoint 40 = .ok (.aload_n 0, 1) := by decide +kernel
theorem dX12_comesPoint_41 : decode cX12_comesPoint 41 = .ok (.getfield 64, 3) := by decide +kernel
theorem dX12_comesPoint_44 : decode cX12_comesPoint 44 = .ok (.iconst 4, 1) := by decide +kernel
theorem dX12_comesPoint_45 : decode cX12_comesPoint 45 = .ok (.aload_n 0, 1) := by decide +kernel
theorem dX12_comesPoint_46 : decode cX12_comesPoint 46 = .ok (.getfield 207, 3) := by decide +kernel
theorem dX12_comesPoint_49 : decode cX12_comesPoint 49 = .ok (.imul, 1) := by decide +kernel
theorem dX12_comesPoint_50 : decode cX12_comesPoint 50 = .ok (.iconst 3, 1) := by decide +kernel
theorem dX12_comesPoint_51 : decode cX12_comesPoint 51 = .ok (.iadd, 1) := by decide +kernel
theorem dX12_comesPoint_52 : decode cX12_comesPoint 52 = .ok (.iload 4, 2) := by decide +kernel
theorem dX12_comesPoint_54 : decode cX12_comesPoint 54 = .ok (.iastore, 1) := by decide +kernel
theorem dX12_comesPoint_55 : decode cX12_comesPoint 55 = .ok (.aload_n 0, 1) := by decide +kernel
theorem dX12_comesPoint_56 : decode cX12_comesPoint 56 = .ok (.dup, 1) := by decide +kernel
theorem dX12_comesPoint_57 : decode cX12_comesPoint 57 = .ok (.getfield 207, 3) := by decide +kernel
theorem dX12_comesPoint_60 : decode cX12_comesPoint 60 = .ok (.iconst 1, 1) := by decide +kernel
theorem dX12_comesPoint_61 : decode cX12_comesPoint 61 = .ok (.iadd, 1) := by decide +kernel
theorem dX12_comesPoint_62 : decode cX12_comesPoint 62 = .ok (.putfield 207, 3) := by decide +kernel
theorem dX12_comesPoint_65 : decode cX12_comesPoint 65 = .ok (.return_, 1) := by decide +kernel
theorem dX12_point_0 : decode cX12_point 0 = .ok (.iload_n 1, 1) := by decide +kernel
theorem dX12_point_1 : decode cX12_point 1 = .ok (.ifCond .lt 21, 3) := by decide +kernel
theorem dX12_point_4 : decode cX12_point 4 = .ok (.iload_n 2, 1) := by decide +kernel
theorem dX12_point_5 : decode cX12_point 5 = .ok (.ifCond .lt 17, 3) := by decide +kernel
theorem dX12_point_8 : decode cX12_point 8 = .ok (.iload_n 1, 1) := by decide +kernel
theorem dX12_point_9 : decode cX12_point 9 = .ok (.bipush 100, 2) := by decide +kernel
theorem dX12_point_11 : decode cX12_point 11 = .ok (.irem, 1) := by decide +kernel
theorem dX12_point_12 : decode cX12_point 12 = .ok (.ifCond .eq 10, 3) := by decide +kernel
theorem dX12_point_15 : decode cX12_point 15 = .ok (.iload_n 2, 1) := by decide +kernel
theorem dX12_point_16 : decode cX12_point 16 = .ok (.bipush 100, 2) := by decide +kernel
theorem dX12_point_18 : decode cX12_point 18 = .ok (.irem, 1) := by decide +kernel
theorem dX12_point_19 : decode cX12_point 19 = .ok (.ifCond .ne 10, 3) := by decide +kernel
theorem dX12_point_22 : decode cX12_point 22 = .ok (.aload_n 0, 1) := by decide +kernel
theorem dX12_point_23 : decode cX12_point 23 = .ok (.bipush (-4), 2) := by decide +kernel
theorem dX12_point_25 : decode cX12_point 25 = .ok (.invokevirtual 9, 3) := by decide +kernel
theorem dX12_point_28 : decode cX12_point 28 = .ok (.ireturn, 1) := by decide +kernel
theorem dX12_point_29 : decode cX12_point 29 = .ok (.iload_n 1, 1) := by decide +kernel
theorem dX12_point_30 : decode cX12_point 30 = .ok (.sipush 9999, 3) := by decide +kernel
theorem dX12_point_33 : decode cX12_point 33 = .ok (.if_icmp .gt 19, 3) := by decide +kernel
theorem dX12_point_36 : decode cX12_point 36 = .ok (.iload_n 2, 1) := by decide +kernel
theorem dX12_point_37 : decode cX12_point 37 = .ok (.sipush 9999, 3) := by decide +kernel
theorem dX12_point_40 : decode cX12_point 40 = .ok (.if_icmp .gt 12, 3) := by decide +kernel
theorem dX12_point_43 : decode cX12_point 43 = .ok (.aload_n 0, 1) := by decide +kernel
theorem dX12_point_44 : decode cX12_point 44 = .ok (.getfield 207, 3) := by decide +kernel
theorem dX12_point_47 : decode cX12_point 47 = .ok (.bipush 10, 2) := by decide +kernel
theorem dX12_point_49 : decode cX12_point 49 = .ok (.if_icmp .ne 10, 3) := by decide +kernel
theorem dX12_point_52 : decode cX12_point 52 = .ok (.aload_n 0, 1) := by decide +kernel
theorem dX12_point_53 : decode cX12_point 53 = .ok (.bipush (-6), 2) := by decide +kernel
theorem dX12_point_55 : decode cX12_point 55 = .ok (.invokevirtual 9, 3) := by decide +kernel
theorem dX12_point_58 : decode cX12_point 58 = .ok (.ireturn, 1) := by decide +kernel
theorem dX12_point_59 : decode cX12_point 59 = .ok (.aload_n 0, 1) := by decide +kernel
theorem dX12_point_60 : decode cX12_point 60 = .ok (.iload_n 1, 1) := by decide +kernel
theorem dX12_point_61 : decode cX12_point 61 = .ok (.bipush 100, 2) := by decide +kernel
theorem dX12_point_63 : decode cX12_point 63 = .ok (.idiv, 1) := by decide +kernel
theorem dX12_point_64 : decode cX12_point 64 = .ok (.iload_n 1, 1) := by decide +kernel
theorem dX12_point_65 : decode cX12_point 65 = .ok (.bipush 100, 2) := by decide +kernel
theorem dX12_point_67 : decode cX12_point 67 = .ok (.irem, 1) := by decide +kernel
theorem dX12_point_68 : decode cX12_point 68 = .ok (.iload_n 2, 1) := by decide +kernel
theorem dX12_point_69 : decode cX12_point 69 = .ok (.bipush 100, 2) := by decide +kernel
theorem dX12_point_71 : decode cX12_point 71 = .ok (.idiv, 1) := by decide +kernel
theorem dX12_point_72 : decode cX12_point 72 = .ok (.iload_n 2, 1) := by decide +kernel
theorem dX12_point_73 : decode cX12_point 73 = .ok (.bipush 100, 2) := by decide +kernel
theorem dX12_point_75 : decode cX12_point 75 = .ok (.irem, 1) := by decide +kernel
theorem dX12_point_76 : decode cX12_point 76 = .ok (.invokevirtual 210, 3) := by decide +kernel
theorem dX12_point_79 : decode cX12_point 79 = .ok (.aload_n 0, 1) := by decide +kernel
theorem dX12_point_80 : decode cX12_point 80 = .ok (.getfield 207, 3) := by decide +kernel
theorem dX12_point_83 : decode cX12_point 83 = .ok (.iconst 1, 1) := by decide +kernel
theorem dX12_point_84 : decode cX12_point 84 = .ok (.isub, 1) := by decide +kernel
theorem dX12_point_85 : decode cX12_point 85 = .ok (.ireturn, 1) := by decide +kernel
theorem dX12_twos_0 : decode cX12_twos 0 = .ok (.lload_n 0, 1) := by decide +kernel
theorem dX12_twos_1 : decode cX12_twos 1 = .ok (.invokestatic 214, 3) := by decide +kernel
theorem dX12_twos_4 : decode cX12_twos 4 = .ok (.ireturn, 1) := by decide +kernel
theorem dX12_valuation_0 : decode cX12_valuation 0 = .ok (.lload_n 0, 1) := by decide +kernel
theorem dX12_valuation_1 : decode cX12_valuation 1 = .ok (.lconst 0, 1) := by decide +kernel
theorem dX12_valuation_2 : decode cX12_valuation 2 = .ok (.lcmp, 1) := by decide +kernel
theorem dX12_valuation_3 : decode cX12_valuation 3 = .ok (.ifCond .ne 8, 3) := by decide +kernel
theorem dX12_valuation_6 : decode cX12_valuation 6 = .ok (.bipush 99, 2) := by decide +kernel
theorem dX12_valuation_8 : decode cX12_valuation 8 = .ok (.goto 12, 3) := by decide +kernel
theorem dX12_valuation_11 : decode cX12_valuation 11 = .ok (.lload_n 0, 1) := by decide +kernel
theorem dX12_valuation_12 : decode cX12_valuation 12 = .ok (.invokestatic 220, 3) := by decide +kernel
theorem dX12_valuation_15 : decode cX12_valuation 15 = .ok (.lload_n 2, 1) := by decide +kernel
theorem dX12_valuation_16 : decode cX12_valuation 16 = .ok (.invokestatic 220, 3) := by decide +kernel
theorem dX12_valuation_19 : decode cX12_valuation 19 = .ok (.isub, 1) := by decide +kernel
theorem dX12_valuation_20 : decode cX12_valuation 20 = .ok (.ireturn, 1) := by decide +kernel
theorem dX12_valuationOf_0 : decode cX12_valuationOf 0 = .ok (.aload_n 0, 1) := by decide +kernel
theorem dX12_valuationOf_1 : decode cX12_valuationOf 1 = .ok (.getfield 64, 3) := by decide +kernel
theorem dX12_valuationOf_4 : decode cX12_valuationOf 4 = .ok (.iconst 4, 1) := by decide +kernel
theorem dX12_valuationOf_5 : decode cX12_valuationOf 5 = .ok (.iload_n 1, 1) := by decide +kernel
theorem dX12_valuationOf_6 : decode cX12_valuationOf 6 = .ok (.imul, 1) := by decide +kernel
theorem dX12_valuationOf_7 : decode cX12_valuationOf 7 = .ok (.iconst 2, 1) := by decide +kernel
theorem dX12_valuationOf_8 : decode cX12_valuationOf 8 = .ok (.iload_n 2, 1) := by decide +kernel
theorem dX12_valuationOf_9 : decode cX12_valuationOf 9 = .ok (.imul, 1) := by decide +kernel
theorem dX12_valuationOf_10 : decode cX12_valuationOf 10 = .ok (.iadd, 1) := by decide +kernel
theorem dX12_valuationOf_11 : decode cX12_valuationOf 11 = .ok (.iaload, 1) := by decide +kernel
theorem dX12_valuationOf_12 : decode cX12_valuationOf 12 = .ok (.i2l, 1) := by decide +kernel
theorem dX12_valuationOf_13 : decode cX12_valuationOf 13 = .ok (.aload_n 0, 1) := by decide +kernel
theorem dX12_valuationOf_14 : decode cX12_valuationOf 14 = .ok (.getfield 64, 3) := by decide +kernel
theorem dX12_valuationOf_17 : decode cX12_valuationOf 17 = .ok (.iconst 4, 1) := by decide +kernel
theorem dX12_valuationOf_18 : decode cX12_valuationOf 18 = .ok (.iload_n 1, 1) := by decide +kernel
theorem dX12_valuationOf_19 : decode cX12_valuationOf 19 = .ok (.imul, 1) := by decide +kernel
theorem dX12_valuationOf_20 : decode cX12_valuationOf 20 = .ok (.iconst 2, 1) := by decide +kernel
theorem dX12_valuationOf_21 : decode cX12_valuationOf 21 = .ok (.iload_n 2, 1) := by decide +kernel
theorem dX12_valuationOf_22 : decode cX12_valuationOf 22 = .ok (.imul, 1) := by decide +kernel
theorem dX12_valuationOf_23 : decode cX12_valuationOf 23 = .ok (.iadd, 1) := by decide +kernel
theorem dX12_valuationOf_24 : decode cX12_valuationOf 24 = .ok (.iconst 1, 1) := by decide +kernel
theorem dX12_valuationOf_25 : decode cX12_valuationOf 25 = .ok (.iadd, 1) := by decide +kernel
theorem dX12_valuationOf_26 : decode cX12_valuationOf 26 = .ok (.iaload, 1) := by decide +kernel
theorem dX12_valuationOf_27 : decode cX12_valuationOf 27 = .ok (.i2l, 1) := by decide +kernel
theorem dX12_valuationOf_28 : decode cX12_valuationOf 28 = .ok (.invokestatic 223, 3) := by decide +kernel
theorem dX12_valuationOf_31 : decode cX12_valuationOf 31 = .ok (.ireturn, 1) := by decide +kernel
theorem dX12_colourBy_0 : decode cX12_colourBy 0 = .ok (.iload_n 0, 1) := by decide +kernel
theorem dX12_colourBy_1 : decode cX12_colourBy 1 = .ok (.ifCond .le 11, 3) := by decide +kernel
theorem dX12_colourBy_4 : decode cX12_colourBy 4 = .ok (.iload_n 1, 1) := by decide +kernel
theorem dX12_colourBy_5 : decode cX12_colourBy 5 = .ok (.ifCond .le 7, 3) := by decide +kernel
theorem dX12_colourBy_8 : decode cX12_colourBy 8 = .ok (.iconst 0, 1) := by decide +kernel
theorem dX12_colourBy_9 : decode cX12_colourBy 9 = .ok (.goto 13, 3) := by decide +kernel
theorem dX12_colourBy_12 : decode cX12_colourBy 12 = .ok (.iload_n 0, 1) := by decide +kernel
theorem dX12_colourBy_13 : decode cX12_colourBy 13 = .ok (.iload_n 1, 1) := by decide +kernel
theorem dX12_colourBy_14 : decode cX12_colourBy 14 = .ok (.if_icmp .gt 7, 3) := by decide +kernel
theorem dX12_colourBy_17 : decode cX12_colourBy 17 = .ok (.iconst 1, 1) := by decide +kernel
theorem dX12_colourBy_18 : decode cX12_colourBy 18 = .ok (.goto 4, 3) := by decide +kernel
theorem dX12_colourBy_21 : decode cX12_colourBy 21 = .ok (.iconst 2, 1) := by decide +kernel
theorem dX12_colourBy_22 : decode cX12_colourBy 22 = .ok (.ireturn, 1) := by decide +kernel
theorem dX12_isPoint_0 : decode cX12_isPoint 0 = .ok (.iload_n 1, 1) := by decide +kernel
theorem dX12_isPoint_1 : decode cX12_isPoint 1 = .ok (.i2l, 1) := by decide +kernel
theorem dX12_isPoint_2 : decode cX12_isPoint 2 = .ok (.lconst 0, 1) := by decide +kernel
theorem dX12_isPoint_3 : decode cX12_isPoint 3 = .ok (.aload_n 0, 1) := by decide +kernel
theorem dX12_isPoint_4 : decode cX12_isPoint 4 = .ok (.getfield 207, 3) := by decide +kernel
theorem dX12_isPoint_7 : decode cX12_isPoint 7 = .ok (.iconst 1, 1) := by decide +kernel
theorem dX12_isPoint_8 : decode cX12_isPoint 8 = .ok (.isub, 1) := by decide +kernel
theorem dX12_isPoint_9 : decode cX12_isPoint 9 = .ok (.i2l, 1) := by decide +kernel
theorem dX12_isPoint_10 : decode cX12_isPoint 10 = .ok (.invokestatic 123, 3) := by decide +kernel
theorem dX12_isPoint_13 : decode cX12_isPoint 13 = .ok (.ireturn, 1) := by decide +kernel
theorem dX12_colour_0 : decode cX12_colour 0 = .ok (.aload_n 0, 1) := by decide +kernel
theorem dX12_colour_1 : decode cX12_colour 1 = .ok (.iload_n 1, 1) := by decide +kernel
theorem dX12_colour_2 : decode cX12_colour 2 = .ok (.invokevirtual 227, 3) := by decide +kernel
theorem dX12_colour_5 : decode cX12_colour 5 = .ok (.ifCond .ne 9, 3) := by decide +kernel
theorem dX12_colour_8 : decode cX12_colour 8 = .ok (.aload_n 0, 1) := by decide +kernel
theorem dX12_colour_9 : decode cX12_colour 9 = .ok (.iconst (-1), 1) := by decide +kernel
theorem dX12_colour_10 : decode cX12_colour 10 = .ok (.invokevirtual 9, 3) := by decide +kernel
theorem dX12_colour_13 : decode cX12_colour 13 = .ok (.ireturn, 1) := by decide +kernel
theorem dX12_colour_14 : decode cX12_colour 14 = .ok (.iload_n 2, 1) := by decide +kernel
theorem dX12_colour_15 : decode cX12_colour 15 = .ok (.i2l, 1) := by decide +kernel
theorem dX12_colour_16 : decode cX12_colour 16 = .ok (.lconst 0, 1) := by decide +kernel
theorem dX12_colour_17 : decode cX12_colour 17 = .ok (.ldc2_w 230, 3) := by decide +kernel
theorem dX12_colour_20 : decode cX12_colour 20 = .ok (.invokestatic 123, 3) := by decide +kernel
theorem dX12_colour_23 : decode cX12_colour 23 = .ok (.ifCond .ne 10, 3) := by decide +kernel
theorem dX12_colour_26 : decode cX12_colour 26 = .ok (.aload_n 0, 1) := by decide +kernel
theorem dX12_colour_27 : decode cX12_colour 27 = .ok (.bipush (-2), 2) := by decide +kernel
theorem dX12_colour_29 : decode cX12_colour 29 = .ok (.invokevirtual 9, 3) := by decide +kernel
theorem dX12_colour_32 : decode cX12_colour 32 = .ok (.ireturn, 1) := by decide +kernel
theorem dX12_colour_33 : decode cX12_colour 33 = .ok (.iload_n 2, 1) := by decide +kernel
theorem dX12_colour_34 : decode cX12_colour 34 = .ok (.ifCond .ne 21, 3) := by decide +kernel
theorem dX12_colour_37 : decode cX12_colour 37 = .ok (.aload_n 0, 1) := by decide +kernel
theorem dX12_colour_38 : decode cX12_colour 38 = .ok (.iload_n 1, 1) := by decide +kernel
theorem dX12_colour_39 : decode cX12_colour 39 = .ok (.iconst 0, 1) := by decide +kernel
theorem dX12_colour_40 : decode cX12_colour 40 = .ok (.invokevirtual 232, 3) := by decide +kernel
theorem dX12_colour_43 : decode cX12_colour 43 = .ok (.aload_n 0, 1) := by decide +kernel
theorem dX12_colour_44 : decode cX12_colour 44 = .ok (.iload_n 1, 1) := by decide +kernel
theorem dX12_colour_45 : decode cX12_colour 45 = .ok (.iconst 1, 1) := by decide +kernel
theorem dX12_colour_46 : decode cX12_colour 46 = .ok (.invokevirtual 232, 3) := by decide +kernel
theorem dX12_colour_49 : decode cX12_colour 49 = .ok (.invokestatic 235, 3) := by decide +kernel
theorem dX12_colour_52 : decode cX12_colour 52 = .ok (.goto 14, 3) := by decide +kernel
theorem dX12_colour_55 : decode cX12_colour 55 = .ok (.bipush 100, 2) := by decide +kernel
theorem dX12_colour_57 : decode cX12_colour 57 = .ok (.aload_n 0, 1) := by decide +kernel
theorem dX12_colour_58 : decode cX12_colour 58 = .ok (.iload_n 1, 1) := by decide +kernel
theorem dX12_colour_59 : decode cX12_colour 59 = .ok (.iload_n 2, 1) := by decide +kernel
theorem dX12_colour_60 : decode cX12_colour 60 = .ok (.iconst 1, 1) := by decide +kernel
theorem dX12_colour_61 : decode cX12_colour 61 = .ok (.isub, 1) := by decide +kernel
theorem dX12_colour_62 : decode cX12_colour 62 = .ok (.invokevirtual 232, 3) := by decide +kernel
theorem dX12_colour_65 : decode cX12_colour 65 = .ok (.iadd, 1) := by decide +kernel
theorem dX12_colour_66 : decode cX12_colour 66 = .ok (.ireturn, 1) := by decide +kernel
theorem dX12_comesTriangle_0 : decode cX12_comesTriangle 0 = .ok (.aload_n 0, 1) := by decide +kernel
theorem dX12_comesTriangle_1 : decode cX12_comesTriangle 1 = .ok (.getfield 67, 3) := by decide +kernel
theorem dX12_comesTriangle_4 : decode cX12_comesTriangle 4 = .ok (.aload_n 0, 1) := by decide +kernel
theorem dX12_comesTriangle_5 : decode cX12_comesTriangle 5 = .ok (.getfield 238, 3) := by decide +kernel
theorem dX12_comesTriangle_8 : decode cX12_comesTriangle 8 = .ok (.iload_n 1, 1) := by decide +kernel
theorem dX12_comesTriangle_9 : decode cX12_comesTriangle 9 = .ok (.iastore, 1) := by decide +kernel
theorem dX12_comesTriangle_10 : decode cX12_comesTriangle 10 = .ok (.aload_n 0, 1) := by decide +kernel
theorem dX12_comesTriangle_11 : decode cX12_comesTriangle 11 = .ok (.getfield 70, 3) := by decide +kernel
theorem dX12_comesTriangle_14 : decode cX12_comesTriangle 14 = .ok (.iconst 3, 1) := by decide +kernel
theorem dX12_comesTriangle_15 : decode cX12_comesTriangle 15 = .ok (.aload_n 0, 1) := by decide +kernel
theorem dX12_comesTriangle_16 : decode cX12_comesTriangle 16 = .ok (.getfield 238, 3) := by decide +kernel
theorem dX12_comesTriangle_19 : decode cX12_comesTriangle 19 = .ok (.imul, 1) := by decide +kernel
theorem dX12_comesTriangle_20 : decode cX12_comesTriangle 20 = .ok (.iload_n 2, 1) := by decide +kernel
theorem dX12_comesTriangle_21 : decode cX12_comesTriangle 21 = .ok (.iastore, 1) := by decide +kernel
theorem dX12_comesTriangle_22 : decode cX12_comesTriangle 22 = .ok (.aload_n 0, 1) := by decide +kernel
theorem dX12_comesTriangle_23 : decode cX12_comesTriangle 23 = .ok (.getfield 70, 3) := by decide +kernel
theorem dX12_comesTriangle_26 : decode cX12_comesTriangle 26 = .ok (.iconst 3, 1) := by decide +kernel
theorem dX12_comesTriangle_27 : decode cX12_comesTriangle 27 = .ok (.aload_n 0, 1) := by decide +kernel
theorem dX12_comesTriangle_28 : decode cX12_comesTriangle 28 = .ok (.getfield 238, 3) := by decide +kernel
theorem dX12_comesTriangle_31 : decode cX12_comesTriangle 31 = .ok (.imul, 1) := by decide +kernel
theorem dX12_comesTriangle_32 : decode cX12_comesTriangle 32 = .ok (.iconst 1, 1) := by decide +kernel
theorem dX12_comesTriangle_33 : decode cX12_comesTriangle 33 = .ok (.iadd, 1) := by decide +kernel
theorem dX12_comesTriangle_34 : decode cX12_comesTriangle 34 = .ok (.iload_n 3, 1) := by decide +kernel
theorem dX12_comesTriangle_35 : decode cX12_comesTriangle 35 = .ok (.iastore, 1) := by decide +kernel
theorem dX12_comesTriangle_36 : decode cX12_comesTriangle 36 = .ok (.aload_n 0, 1) := by decide +kernel
theorem dX12_comesTriangle_37 : decode cX12_comesTriangle 37 = .ok (.getfield 70, 3) := by decide +kernel
theorem dX12_comesTriangle_40 : decode cX12_comesTriangle 40 = .ok (.iconst 3, 1) := by decide +kernel
theorem dX12_comesTriangle_41 : decode cX12_comesTriangle 41 = .ok (.aload_n 0, 1) := by decide +kernel
theorem dX12_comesTriangle_42 : decode cX12_comesTriangle 42 = .ok (.getfield 238, 3) := by decide +kernel
theorem dX12_comesTriangle_45 : decode cX12_comesTriangle 45 = .ok (.imul, 1) := by decide +kernel
theorem dX12_comesTriangle_46 : decode cX12_comesTriangle 46 = .ok (.iconst 2, 1) := by decide +kernel
theorem dX12_comesTriangle_47 : decode cX12_comesTriangle 47 = .ok (.iadd, 1) := by decide +kernel
theorem dX12_comesTriangle_48 : decode cX12_comesTriangle 48 = .ok (.iload 4, 2) := by decide +kernel
theorem dX12_comesTriangle_50 : decode cX12_comesTriangle 50 = .ok (.iastore, 1) := by decide +kernel
theorem dX12_comesTriangle_51 : decode cX12_comesTriangle 51 = .ok (.aload_n 0, 1) := by decide +kernel
theorem dX12_comesTriangle_52 : decode cX12_comesTriangle 52 = .ok (.dup, 1) := by decide +kernel
theorem dX12_comesTriangle_53 : decode cX12_comesTriangle 53 = .ok (.getfield 238, 3) := by decide +kernel
theorem dX12_comesTriangle_56 : decode cX12_comesTriangle 56 = .ok (.iconst 1, 1) := by decide +kernel
theorem dX12_comesTriangle_57 : decode cX12_comesTriangle 57 = .ok (.iadd, 1) := by decide +kernel
theorem dX12_comesTriangle_58 : decode cX12_comesTriangle 58 = .ok (.putfield 238, 3) := by decide +kernel
theorem dX12_comesTriangle_61 : decode cX12_comesTriangle 61 = .ok (.return_, 1) := by decide +kernel
theorem dX12_areThree_0 : decode cX12_areThree 0 = .ok (.aload_n 0, 1) := by decide +kernel
theorem dX12_areThree_1 : decode cX12_areThree 1 = .ok (.iload_n 1, 1) := by decide +kernel
theorem dX12_areThree_2 : decode cX12_areThree 2 = .ok (.invokevirtual 227, 3) := by decide +kernel
theorem dX12_areThree_5 : decode cX12_areThree 5 = .ok (.ifCond .eq 38, 3) := by decide +kernel
theorem dX12_areThree_8 : decode cX12_areThree 8 = .ok (.aload_n 0, 1) := by decide +kernel
theorem dX12_areThree_9 : decode cX12_areThree 9 = .ok (.iload_n 2, 1) := by decide +kernel
theorem dX12_areThree_10 : decode cX12_areThree 10 = .ok (.invokevirtual 227, 3) := by decide +kernel
theorem dX12_areThree_13 : decode cX12_areThree 13 = .ok (.ifCond .eq 30, 3) := by decide +kernel
theorem dX12_areThree_16 : decode cX12_areThree 16 = .ok (.aload_n 0, 1) := by decide +kernel
theorem dX12_areThree_17 : decode cX12_areThree 17 = .ok (.iload_n 3, 1) := by decide +kernel
theorem dX12_areThree_18 : decode cX12_areThree 18 = .ok (.invokevirtual 227, 3) := by decide +kernel
theorem dX12_areThree_21 : decode cX12_areThree 21 = .ok (.ifCond .eq 22, 3) := by decide +kernel
theorem dX12_areThree_24 : decode cX12_areThree 24 = .ok (.iload_n 1, 1) := by decide +kernel
theorem dX12_areThree_25 : decode cX12_areThree 25 = .ok (.iload_n 2, 1) := by decide +kernel
theorem dX12_areThree_26 : decode cX12_areThree 26 = .ok (.if_icmp .eq 17, 3) := by decide +kernel
theorem dX12_areThree_29 : decode cX12_areThree 29 = .ok (.iload_n 1, 1) := by decide +kernel
theorem dX12_areThree_30 : decode cX12_areThree 30 = .ok (.iload_n 3, 1) := by decide +kernel
theorem dX12_areThree_31 : decode cX12_areThree 31 = .ok (.if_icmp .eq 12, 3) := by decide +kernel
theorem dX12_areThree_34 : decode cX12_areThree 34 = .ok (.iload_n 2, 1) := by decide +kernel
theorem dX12_areThree_35 : decode cX12_areThree 35 = .ok (.iload_n 3, 1) := by decide +kernel
theorem dX12_areThree_36 : decode cX12_areThree 36 = .ok (.if_icmp .eq 7, 3) := by decide +kernel
theorem dX12_areThree_39 : decode cX12_areThree 39 = .ok (.iconst 1, 1) := by decide +kernel
theorem dX12_areThree_40 : decode cX12_areThree 40 = .ok (.goto 4, 3) := by decide +kernel
theorem dX12_areThree_43 : decode cX12_areThree 43 = .ok (.iconst 0, 1) := by decide +kernel
theorem dX12_areThree_44 : decode cX12_areThree 44 = .ok (.ireturn, 1) := by decide +kernel
theorem dX12_triangle_0 : decode cX12_triangle 0 = .ok (.iload_n 1, 1) := by decide +kernel
theorem dX12_triangle_1 : decode cX12_triangle 1 = .ok (.i2l, 1) := by decide +kernel
theorem dX12_triangle_2 : decode cX12_triangle 2 = .ok (.lconst 0, 1) := by decide +kernel
theorem dX12_triangle_3 : decode cX12_triangle 3 = .ok (.ldc2_w 241, 3) := by decide +kernel
theorem dX12_triangle_6 : decode cX12_triangle 6 = .ok (.invokestatic 123, 3) := by decide +kernel
theorem dX12_triangle_9 : decode cX12_triangle 9 = .ok (.ifCond .ne 10, 3) := by decide +kernel
theorem dX12_triangle_12 : decode cX12_triangle 12 = .ok (.aload_n 0, 1) := by decide +kernel
theorem dX12_triangle_13 : decode cX12_triangle 13 = .ok (.bipush (-2), 2) := by decide +kernel
theorem dX12_triangle_15 : decode cX12_triangle 15 = .ok (.invokevirtual 9, 3) := by decide +kernel
theorem dX12_triangle_18 : decode cX12_triangle 18 = .ok (.ireturn, 1) := by decide +kernel
theorem dX12_triangle_19 : decode cX12_triangle 19 = .ok (.aload_n 0, 1) := by decide +kernel
theorem dX12_triangle_20 : decode cX12_triangle 20 = .ok (.iload_n 2, 1) := by decide +kernel
theorem dX12_triangle_21 : decode cX12_triangle 21 = .ok (.iload_n 3, 1) := by decide +kernel
theorem dX12_triangle_22 : decode cX12_triangle 22 = .ok (.iload 4, 2) := by decide +kernel
theorem dX12_triangle_24 : decode cX12_triangle 24 = .ok (.invokevirtual 243, 3) := by decide +kernel
theorem dX12_triangle_27 : decode cX12_triangle 27 = .ok (.ifCond .ne 9, 3) := by decide +kernel
theorem dX12_triangle_30 : decode cX12_triangle 30 = .ok (.aload_n 0, 1) := by decide +kernel
theorem dX12_triangle_31 : decode cX12_triangle 31 = .ok (.iconst (-1), 1) := by decide +kernel
theorem dX12_triangle_32 : decode cX12_triangle 32 = .ok (.invokevirtual 9, 3) := by decide +kernel
theorem dX12_triangle_35 : decode cX12_triangle 35 = .ok (.ireturn, 1) := by decide +kernel
theorem dX12_triangle_36 : decode cX12_triangle 36 = .ok (.aload_n 0, 1) := by decide +kernel
theorem dX12_triangle_37 : decode cX12_triangle 37 = .ok (.getfield 238, 3) := by decide +kernel
theorem dX12_triangle_40 : decode cX12_triangle 40 = .ok (.bipush 10, 2) := by decide +kernel
theorem dX12_triangle_42 : decode cX12_triangle 42 = .ok (.if_icmp .ne 10, 3) := by decide +kernel
theorem dX12_triangle_45 : decode cX12_triangle 45 = .ok (.aload_n 0, 1) := by decide +kernel
theorem dX12_triangle_46 : decode cX12_triangle 46 = .ok (.bipush (-6), 2) := by decide +kernel
theorem dX12_triangle_48 : decode cX12_triangle 48 = .ok (.invokevirtual 9, 3) := by decide +kernel
theorem dX12_triangle_51 : decode cX12_triangle 51 = .ok (.ireturn, 1) := by decide +kernel
theorem dX12_triangle_52 : decode cX12_triangle 52 = .ok (.aload_n 0, 1) := by decide +kernel
theorem dX12_triangle_53 : decode cX12_triangle 53 = .ok (.iload_n 1, 1) := by decide +kernel
theorem dX12_triangle_54 : decode cX12_triangle 54 = .ok (.iload_n 2, 1) := by decide +kernel
theorem dX12_triangle_55 : decode cX12_triangle 55 = .ok (.iload_n 3, 1) := by decide +kernel
theorem dX12_triangle_56 : decode cX12_triangle 56 = .ok (.iload 4, 2) := by decide +kernel
theorem dX12_triangle_58 : decode cX12_triangle 58 = .ok (.invokevirtual 247, 3) := by decide +kernel
theorem dX12_triangle_61 : decode cX12_triangle 61 = .ok (.aload_n 0, 1) := by decide +kernel
theorem dX12_triangle_62 : decode cX12_triangle 62 = .ok (.getfield 238, 3) := by decide +kernel
theorem dX12_triangle_65 : decode cX12_triangle 65 = .ok (.iconst 1, 1) := by decide +kernel
theorem dX12_triangle_66 : decode cX12_triangle 66 = .ok (.isub, 1) := by decide +kernel
theorem dX12_triangle_67 : decode cX12_triangle 67 = .ok (.ireturn, 1) := by decide +kernel
theorem dX12_isUnder_0 : decode cX12_isUnder 0 = .ok (.iload_n 1, 1) := by decide +kernel
theorem dX12_isUnder_1 : decode cX12_isUnder 1 = .ok (.ifCond .eq 28, 3) := by decide +kernel
theorem dX12_isUnder_4 : decode cX12_isUnder 4 = .ok (.iload_n 0, 1) := by decide +kernel
theorem dX12_isUnder_5 : decode cX12_isUnder 5 = .ok (.iload_n 1, 1) := by decide +kernel
theorem dX12_isUnder_6 : decode cX12_isUnder 6 = .ok (.if_icmp .eq 23, 3) := by decide +kernel
theorem dX12_isUnder_9 : decode cX12_isUnder 9 = .ok (.iload_n 1, 1) := by decide +kernel
theorem dX12_isUnder_10 : decode cX12_isUnder 10 = .ok (.iconst 1, 1) := by decide +kernel
theorem dX12_isUnder_11 : decode cX12_isUnder 11 = .ok (.if_icmp .ne 8, 3) := by decide +kernel
theorem dX12_isUnder_14 : decode cX12_isUnder 14 = .ok (.iload_n 0, 1) := by decide +kernel
theorem dX12_isUnder_15 : decode cX12_isUnder 15 = .ok (.iconst 4, 1) := by decide +kernel
theorem dX12_isUnder_16 : decode cX12_isUnder 16 = .ok (.if_icmp .eq 13, 3) := by decide +kernel
theorem dX12_isUnder_19 : decode cX12_isUnder 19 = .ok (.iload_n 1, 1) := by decide +kernel
theorem dX12_isUnder_20 : decode cX12_isUnder 20 = .ok (.iconst 3, 1) := by decide +kernel
theorem dX12_isUnder_21 : decode cX12_isUnder 21 = .ok (.if_icmp .ne 12, 3) := by decide +kernel
theorem dX12_isUnder_24 : decode cX12_isUnder 24 = .ok (.iload_n 0, 1) := by decide +kernel
theorem dX12_isUnder_25 : decode cX12_isUnder 25 = .ok (.iconst 5, 1) := by decide +kernel
theorem dX12_isUnder_26 : decode cX12_isUnder 26 = .ok (.if_icmp .ne 7, 3) := by decide +kernel
theorem dX12_isUnder_29 : decode cX12_isUnder 29 = .ok (.iconst 1, 1) := by decide +kernel
theorem dX12_isUnder_30 : decode cX12_isUnder 30 = .ok (.goto 4, 3) := by decide +kernel
theorem dX12_isUnder_33 : decode cX12_isUnder 33 = .ok (.iconst 0, 1) := by decide +kernel
theorem dX12_isUnder_34 : decode cX12_isUnder 34 = .ok (.ireturn, 1) := by decide +kernel
theorem dX12_tells_0 : decode cX12_tells 0 = .ok (.lload_n 1, 1) := by decide +kernel
theorem dX12_tells_1 : decode cX12_tells 1 = .ok (.lload_n 3, 1) := by decide +kernel
theorem dX12_tells_2 : decode cX12_tells 2 = .ok (.invokestatic 19, 3) := by decide +kernel
theorem dX12_tells_5 : decode cX12_tells 5 = .ok (.lstore 5, 2) := by decide +kernel
theorem dX12_tells_7 : decode cX12_tells 7 = .ok (.aload_n 0, 1) := by decide +kernel
theorem dX12_tells_8 : decode cX12_tells 8 = .ok (.lload_n 1, 1) := by decide +kernel
theorem dX12_tells_9 : decode cX12_tells 9 = .ok (.lload 5, 2) := by decide +kernel
theorem dX12_tells_11 : decode cX12_tells 11 = .ok (.ldiv, 1) := by decide +kernel
theorem dX12_tells_12 : decode cX12_tells 12 = .ok (.putfield 250, 3) := by decide +kernel
theorem dX12_tells_15 : decode cX12_tells 15 = .ok (.aload_n 0, 1) := by decide +kernel
theorem dX12_tells_16 : decode cX12_tells 16 = .ok (.lload_n 3, 1) := by decide +kernel
theorem dX12_tells_17 : decode cX12_tells 17 = .ok (.lload 5, 2) := by decide +kernel
theorem dX12_tells_19 : decode cX12_tells 19 = .ok (.ldiv, 1) := by decide +kernel
theorem dX12_tells_20 : decode cX12_tells 20 = .ok (.putfield 254, 3) := by decide +kernel
theorem dX12_tells_23 : decode cX12_tells 23 = .ok (.return_, 1) := by decide +kernel
theorem dX12_over_0 : decode cX12_over 0 = .ok (.aload_n 0, 1) := by decide +kernel
theorem dX12_over_1 : decode cX12_over 1 = .ok (.getfield 64, 3) := by decide +kernel
theorem dX12_over_4 : decode cX12_over 4 = .ok (.iconst 4, 1) := by decide +kernel
theorem dX12_over_5 : decode cX12_over 5 = .ok (.iload_n 1, 1) := by decide +kernel
theorem dX12_over_6 : decode cX12_over 6 = .ok (.imul, 1) := by decide +kernel
theorem dX12_over_7 : decode cX12_over 7 = .ok (.iconst 2, 1) := by decide +kernel
theorem dX12_over_8 : decode cX12_over 8 = .ok (.iload_n 2, 1) := by decide +kernel
theorem dX12_over_9 : decode cX12_over 9 = .ok (.imul, 1) := by decide +kernel
theorem dX12_over_10 : decode cX12_over 10 = .ok (.iadd, 1) := by decide +kernel
theorem dX12_over_11 : decode cX12_over 11 = .ok (.iaload, 1) := by decide +kernel
theorem dX12_over_12 : decode cX12_over 12 = .ok (.i2l, 1) := by decide +kernel
theorem dX12_over_13 : decode cX12_over 13 = .ok (.lreturn, 1) := by decide +kernel
theorem dX12_under_0 : decode cX12_under 0 = .ok (.aload_n 0, 1) := by decide +kernel
theorem dX12_under_1 : decode cX12_under 1 = .ok (.getfield 64, 3) := by decide +kernel
theorem dX12_under_4 : decode cX12_under 4 = .ok (.iconst 4, 1) := by decide +kernel
theorem dX12_under_5 : decode cX12_under 5 = .ok (.iload_n 1, 1) := by decide +kernel
theorem dX12_under_6 : decode cX12_under 6 = .ok (.imul, 1) := by decide +kernel
theorem dX12_under_7 : decode cX12_under 7 = .ok (.iconst 2, 1) := by decide +kernel
theorem dX12_under_8 : decode cX12_under 8 = .ok (.iload_n 2, 1) := by decide +kernel
theorem dX12_under_9 : decode cX12_under 9 = .ok (.imul, 1) := by decide +kernel
theorem dX12_under_10 : decode cX12_under 10 = .ok (.iadd, 1) := by decide +kernel
theorem dX12_under_11 : decode cX12_under 11 = .ok (.iconst 1, 1) := by decide +kernel
theorem dX12_under_12 : decode cX12_under 12 = .ok (.iadd, 1) := by decide +kernel
theorem dX12_under_13 : decode cX12_under 13 = .ok (.iaload, 1) := by decide +kernel
theorem dX12_under_14 : decode cX12_under 14 = .ok (.i2l, 1) := by decide +kernel
theorem dX12_under_15 : decode cX12_under 15 = .ok (.lreturn, 1) := by decide +kernel
theorem dX12_more_0 : decode cX12_more 0 = .ok (.aload_n 0, 1) := by decide +kernel
theorem dX12_more_1 : decode cX12_more 1 = .ok (.iload_n 1, 1) := by decide +kernel
theorem dX12_more_2 : decode cX12_more 2 = .ok (.iload_n 3, 1) := by decide +kernel
theorem dX12_more_3 : decode cX12_more 3 = .ok (.invokevirtual 257, 3) := by decide +kernel
theorem dX12_more_6 : decode cX12_more 6 = .ok (.aload_n 0, 1) := by decide +kernel
theorem dX12_more_7 : decode cX12_more 7 = .ok (.iload_n 2, 1) := by decide +kernel
theorem dX12_more_8 : decode cX12_more 8 = .ok (.iload_n 3, 1) := by decide +kernel
theorem dX12_more_9 : decode cX12_more 9 = .ok (.invokevirtual 261, 3) := by decide +kernel
theorem dX12_more_12 : decode cX12_more 12 = .ok (.lmul, 1) := by decide +kernel
theorem dX12_more_13 : decode cX12_more 13 = .ok (.aload_n 0, 1) := by decide +kernel
theorem dX12_more_14 : decode cX12_more 14 = .ok (.iload_n 2, 1) := by decide +kernel
theorem dX12_more_15 : decode cX12_more 15 = .ok (.iload_n 3, 1) := by decide +kernel
theorem dX12_more_16 : decode cX12_more 16 = .ok (.invokevirtual 257, 3) := by decide +kernel
theorem dX12_more_19 : decode cX12_more 19 = .ok (.aload_n 0, 1) := by decide +kernel
theorem dX12_more_20 : decode cX12_more 20 = .ok (.iload_n 1, 1) := by decide +kernel
theorem dX12_more_21 : decode cX12_more 21 = .ok (.iload_n 3, 1) := by decide +kernel
theorem dX12_more_22 : decode cX12_more 22 = .ok (.invokevirtual 261, 3) := by decide +kernel
theorem dX12_more_25 : decode cX12_more 25 = .ok (.lmul, 1) := by decide +kernel
theorem dX12_more_26 : decode cX12_more 26 = .ok (.lsub, 1) := by decide +kernel
theorem dX12_more_27 : decode cX12_more 27 = .ok (.lreturn, 1) := by decide +kernel
theorem dX12_belowOf_0 : decode cX12_belowOf 0 = .ok (.aload_n 0, 1) := by decide +kernel
theorem dX12_belowOf_1 : decode cX12_belowOf 1 = .ok (.iload_n 1, 1) := by decide +kernel
theorem dX12_belowOf_2 : decode cX12_belowOf 2 = .ok (.iload_n 3, 1) := by decide +kernel
theorem dX12_belowOf_3 : decode cX12_belowOf 3 = .ok (.invokevirtual 261, 3) := by decide +kernel
theorem dX12_belowOf_6 : decode cX12_belowOf 6 = .ok (.aload_n 0, 1) := by decide +kernel
theorem dX12_belowOf_7 : decode cX12_belowOf 7 = .ok (.iload_n 2, 1) := by decide +kernel
theorem dX12_belowOf_8 : decode cX12_belowOf 8 = .ok (.iload_n 3, 1) := by decide +kernel
theorem dX12_belowOf_9 : decode cX12_belowOf 9 = .ok (.invokevirtual 261, 3) := by decide +kernel
theorem dX12_belowOf_12 : decode cX12_belowOf 12 = .ok (.lmul, 1) := by decide +kernel
theorem dX12_belowOf_13 : decode cX12_belowOf 13 = .ok (.lreturn, 1) := by decide +kernel
theorem dX12_areaOf_0 : decode cX12_areaOf 0 = .ok (.aload_n 0, 1) := by decide +kernel
theorem dX12_areaOf_1 : decode cX12_areaOf 1 = .ok (.getfield 70, 3) := by decide +kernel
theorem dX12_areaOf_4 : decode cX12_areaOf 4 = .ok (.iconst 3, 1) := by decide +kernel
theorem dX12_areaOf_5 : decode cX12_areaOf 5 = .ok (.iload_n 1, 1) := by decide +kernel
theorem dX12_areaOf_6 : decode cX12_areaOf 6 = .ok (.imul, 1) := by decide +kernel
theorem dX12_areaOf_7 : decode cX12_areaOf 7 = .ok (.iaload, 1) := by decide +kernel
theorem dX12_areaOf_8 : decode cX12_areaOf 8 = .ok (.istore_n 2, 1) := by decide +kernel
theorem dX12_areaOf_9 : decode cX12_areaOf 9 = .ok (.aload_n 0, 1) := by decide +kernel
theorem dX12_areaOf_10 : decode cX12_areaOf 10 = .ok (.getfield 70, 3) := by decide +kernel
theorem dX12_areaOf_13 : decode cX12_areaOf 13 = .ok (.iconst 3, 1) := by decide +kernel
theorem dX12_areaOf_14 : decode cX12_areaOf 14 = .ok (.iload_n 1, 1) := by decide +kernel
theorem dX12_areaOf_15 : decode cX12_areaOf 15 = .ok (.imul, 1) := by decide +kernel
theorem dX12_areaOf_16 : decode cX12_areaOf 16 = .ok (.iconst 1, 1) := by decide +kernel
theorem dX12_areaOf_17 : decode cX12_areaOf 17 = .ok (.iadd, 1) := by decide +kernel
theorem dX12_areaOf_18 : decode cX12_areaOf 18 = .ok (.iaload, 1) := by decide +kernel
theorem dX12_areaOf_19 : decode cX12_areaOf 19 = .ok (.istore_n 3, 1) := by decide +kernel
theorem dX12_areaOf_20 : decode cX12_areaOf 20 = .ok (.aload_n 0, 1) := by decide +kernel
theorem dX12_areaOf_21 : decode cX12_areaOf 21 = .ok (.getfield 70, 3) := by decide +kernel
theorem dX12_areaOf_24 : decode cX12_areaOf 24 = .ok (.iconst 3, 1) := by decide +kernel
theorem dX12_areaOf_25 : decode cX12_areaOf 25 = .ok (.iload_n 1, 1) := by decide +kernel
theorem dX12_areaOf_26 : decode cX12_areaOf 26 = .ok (.imul, 1) := by decide +kernel
theorem dX12_areaOf_27 : decode cX12_areaOf 27 = .ok (.iconst 2, 1) := by decide +kernel
theorem dX12_areaOf_28 : decode cX12_areaOf 28 = .ok (.iadd, 1) := by decide +kernel
theorem dX12_areaOf_29 : decode cX12_areaOf 29 = .ok (.iaload, 1) := by decide +kernel
theorem dX12_areaOf_30 : decode cX12_areaOf 30 = .ok (.istore 4, 2) := by decide +kernel
theorem dX12_areaOf_32 : decode cX12_areaOf 32 = .ok (.aload_n 0, 1) := by decide +kernel
theorem dX12_areaOf_33 : decode cX12_areaOf 33 = .ok (.aload_n 0, 1) := by decide +kernel
theorem dX12_areaOf_34 : decode cX12_areaOf 34 = .ok (.iload_n 3, 1) := by decide +kernel
theorem dX12_areaOf_35 : decode cX12_areaOf 35 = .ok (.iload_n 2, 1) := by decide +kernel
theorem dX12_areaOf_36 : decode cX12_areaOf 36 = .ok (.iconst 0, 1) := by decide +kernel
theorem dX12_areaOf_37 : decode cX12_areaOf 37 = .ok (.invokevirtual 264, 3) := by decide +kernel
theorem dX12_areaOf_40 : decode cX12_areaOf 40 = .ok (.aload_n 0, 1) := by decide +kernel
theorem dX12_areaOf_41 : decode cX12_areaOf 41 = .ok (.iload 4, 2) := by decide +kernel
theorem dX12_areaOf_43 : decode cX12_areaOf 43 = .ok (.iload_n 2, 1) := by decide +kernel
theorem dX12_areaOf_44 : decode cX12_areaOf 44 = .ok (.iconst 1, 1) := by decide +kernel
theorem dX12_areaOf_45 : decode cX12_areaOf 45 = .ok (.invokevirtual 264, 3) := by decide +kernel
theorem dX12_areaOf_48 : decode cX12_areaOf 48 = .ok (.lmul, 1) := by decide +kernel
theorem dX12_areaOf_49 : decode cX12_areaOf 49 = .ok (.aload_n 0, 1) := by decide +kernel
theorem dX12_areaOf_50 : decode cX12_areaOf 50 = .ok (.iload_n 3, 1) := by decide +kernel
theorem dX12_areaOf_51 : decode cX12_areaOf 51 = .ok (.iload_n 2, 1) := by decide +kernel
theorem dX12_areaOf_52 : decode cX12_areaOf 52 = .ok (.iconst 0, 1) := by decide +kernel
theorem dX12_areaOf_53 : decode cX12_areaOf 53 = .ok (.invokevirtual 268, 3) := by decide +kernel
theorem dX12_areaOf_56 : decode cX12_areaOf 56 = .ok (.aload_n 0, 1) := by decide +kernel
theorem dX12_areaOf_57 : decode cX12_areaOf 57 = .ok (.iload 4, 2) := by decide +kernel
theorem dX12_areaOf_59 : decode cX12_areaOf 59 = .ok (.iload_n 2, 1) := by decide +kernel
theorem dX12_areaOf_60 : decode cX12_areaOf 60 = .ok (.iconst 1, 1) := by decide +kernel
theorem dX12_areaOf_61 : decode cX12_areaOf 61 = .ok (.invokevirtual 268, 3) := by decide +kernel
theorem dX12_areaOf_64 : decode cX12_areaOf 64 = .ok (.lmul, 1) := by decide +kernel
theorem dX12_areaOf_65 : decode cX12_areaOf 65 = .ok (.invokevirtual 271, 3) := by decide +kernel
theorem dX12_areaOf_68 : decode cX12_areaOf 68 = .ok (.aload_n 0, 1) := by decide +kernel
theorem dX12_areaOf_69 : decode cX12_areaOf 69 = .ok (.getfield 250, 3) := by decide +kernel
theorem dX12_areaOf_72 : decode cX12_areaOf 72 = .ok (.lstore 5, 2) := by decide +kernel
theorem dX12_areaOf_74 : decode cX12_areaOf 74 = .ok (.aload_n 0, 1) := by decide +kernel
theorem dX12_areaOf_75 : decode cX12_areaOf 75 = .ok (.getfield 254, 3) := by decide +kernel
theorem dX12_areaOf_78 : decode cX12_areaOf 78 = .ok (.lstore 7, 2) := by decide +kernel
theorem dX12_areaOf_80 : decode cX12_areaOf 80 = .ok (.aload_n 0, 1) := by decide +kernel
theorem dX12_areaOf_81 : decode cX12_areaOf 81 = .ok (.aload_n 0, 1) := by decide +kernel
theorem dX12_areaOf_82 : decode cX12_areaOf 82 = .ok (.iload 4, 2) := by decide +kernel
theorem dX12_areaOf_84 : decode cX12_areaOf 84 = .ok (.iload_n 2, 1) := by decide +kernel
theorem dX12_areaOf_85 : decode cX12_areaOf 85 = .ok (.iconst 0, 1) := by decide +kernel
theorem dX12_areaOf_86 : decode cX12_areaOf 86 = .ok (.invokevirtual 264, 3) := by decide +kernel
theorem dX12_areaOf_89 : decode cX12_areaOf 89 = .ok (.aload_n 0, 1) := by decide +kernel
theorem dX12_areaOf_90 : decode cX12_areaOf 90 = .ok (.iload_n 3, 1) := by decide +kernel
theorem dX12_areaOf_91 : decode cX12_areaOf 91 = .ok (.iload_n 2, 1) := by decide +kernel
theorem dX12_areaOf_92 : decode cX12_areaOf 92 = .ok (.iconst 1, 1) := by decide +kernel
theorem dX12_areaOf_93 : decode cX12_areaOf 93 = .ok (.invokevirtual 264, 3) := by decide +kernel
theorem dX12_areaOf_96 : decode cX12_areaOf 96 = .ok (.lmul, 1) := by decide +kernel
theorem dX12_areaOf_97 : decode cX12_areaOf 97 = .ok (.aload_n 0, 1) := by decide +kernel
theorem dX12_areaOf_98 : decode cX12_areaOf 98 = .ok (.iload 4, 2) := by decide +kernel
theorem dX12_areaOf_100 : decode cX12_areaOf 100 = .ok (.iload_n 2, 1) := by decide +kernel
theorem dX12_areaOf_101 : decode cX12_areaOf 101 = .ok (.iconst 0, 1) := by decide +kernel
theorem dX12_areaOf_102 : decode cX12_areaOf 102 = .ok (.invokevirtual 268, 3) := by decide +kernel
theorem dX12_areaOf_105 : decode cX12_areaOf 105 = .ok (.aload_n 0, 1) := by decide +kernel
theorem dX12_areaOf_106 : decode cX12_areaOf 106 = .ok (.iload_n 3, 1) := by decide +kernel
theorem dX12_areaOf_107 : decode cX12_areaOf 107 = .ok (.iload_n 2, 1) := by decide +kernel
theorem dX12_areaOf_108 : decode cX12_areaOf 108 = .ok (.iconst 1, 1) := by decide +kernel
theorem dX12_areaOf_109 : decode cX12_areaOf 109 = .ok (.invokevirtual 268, 3) := by decide +kernel
theorem dX12_areaOf_112 : decode cX12_areaOf 112 = .ok (.lmul, 1) := by decide +kernel
theorem dX12_areaOf_113 : decode cX12_areaOf 113 = .ok (.invokevirtual 271, 3) := by decide +kernel
theorem dX12_areaOf_116 : decode cX12_areaOf 116 = .ok (.aload_n 0, 1) := by decide +kernel
theorem dX12_areaOf_117 : decode cX12_areaOf 117 = .ok (.lload 5, 2) := by decide +kernel
theorem dX12_areaOf_119 : decode cX12_areaOf 119 = .ok (.aload_n 0, 1) := by decide +kernel
theorem dX12_areaOf_120 : decode cX12_areaOf 120 = .ok (.getfield 254, 3) := by decide +kernel
theorem dX12_areaOf_123 : decode cX12_areaOf 123 = .ok (.lmul, 1) := by decide +kernel
theorem dX12_areaOf_124 : decode cX12_areaOf 124 = .ok (.aload_n 0, 1) := by decide +kernel
theorem dX12_areaOf_125 : decode cX12_areaOf 125 = .ok (.getfield 250, 3) := by decide +kernel
theorem dX12_areaOf_128 : decode cX12_areaOf 128 = .ok (.lload 7, 2) := by decide +kernel
theorem dX12_areaOf_130 : decode cX12_areaOf 130 = .ok (.lmul, 1) := by decide +kernel
theorem dX12_areaOf_131 : decode cX12_areaOf 131 = .ok (.lsub, 1) := by decide +kernel
theorem dX12_areaOf_132 : decode cX12_areaOf 132 = .ok (.invokestatic 13, 3) := by decide +kernel
theorem dX12_areaOf_135 : decode cX12_areaOf 135 = .ok (.lload 7, 2) := by decide +kernel
theorem dX12_areaOf_137 : decode cX12_areaOf 137 = .ok (.aload_n 0, 1) := by decide +kernel
theorem dX12_areaOf_138 : decode cX12_areaOf 138 = .ok (.getfield 254, 3) := by decide +kernel
theorem dX12_areaOf_141 : decode cX12_areaOf 141 = .ok (.lmul, 1) := by decide +kernel
theorem dX12_areaOf_142 : decode cX12_areaOf 142 = .ok (.invokevirtual 271, 3) := by decide +kernel
theorem dX12_areaOf_145 : decode cX12_areaOf 145 = .ok (.aload_n 0, 1) := by decide +kernel
theorem dX12_areaOf_146 : decode cX12_areaOf 146 = .ok (.getfield 67, 3) := by decide +kernel
theorem dX12_areaOf_149 : decode cX12_areaOf 149 = .ok (.iload_n 1, 1) := by decide +kernel
theorem dX12_areaOf_150 : decode cX12_areaOf 150 = .ok (.iaload, 1) := by decide +kernel
theorem dX12_areaOf_151 : decode cX12_areaOf 151 = .ok (.tableswitch 83 1 5 #[33, 52, 83, 55, 74], 33) := by decide +kernel
theorem dX12_areaOf_184 : decode cX12_areaOf 184 = .ok (.aload_n 0, 1) := by decide +kernel
theorem dX12_areaOf_185 : decode cX12_areaOf 185 = .ok (.aload_n 0, 1) := by decide +kernel
theorem dX12_areaOf_186 : decode cX12_areaOf 186 = .ok (.getfield 250, 3) := by decide +kernel
theorem dX12_areaOf_189 : decode cX12_areaOf 189 = .ok (.ldc2_w 275, 3) := by decide +kernel
theorem dX12_areaOf_192 : decode cX12_areaOf 192 = .ok (.aload_n 0, 1) := by decide +kernel
theorem dX12_areaOf_193 : decode cX12_areaOf 193 = .ok (.getfield 254, 3) := by decide +kernel
theorem dX12_areaOf_196 : decode cX12_areaOf 196 = .ok (.lmul, 1) := by decide +kernel
theorem dX12_areaOf_197 : decode cX12_areaOf 197 = .ok (.invokevirtual 271, 3) := by decide +kernel
theorem dX12_areaOf_200 : decode cX12_areaOf 200 = .ok (.goto 50, 3) := by decide +kernel
theorem dX12_areaOf_203 : decode cX12_areaOf 203 = .ok (.goto 47, 3) := by decide +kernel
theorem dX12_areaOf_206 : decode cX12_areaOf 206 = .ok (.aload_n 0, 1) := by decide +kernel
theorem dX12_areaOf_207 : decode cX12_areaOf 207 = .ok (.aload_n 0, 1) := by decide +kernel
theorem dX12_areaOf_208 : decode cX12_areaOf 208 = .ok (.getfield 250, 3) := by decide +kernel
theorem dX12_areaOf_211 : decode cX12_areaOf 211 = .ok (.ldc2_w 277, 3) := by decide +kernel
theorem dX12_areaOf_214 : decode cX12_areaOf 214 = .ok (.aload_n 0, 1) := by decide +kernel
theorem dX12_areaOf_215 : decode cX12_areaOf 215 = .ok (.getfield 254, 3) := by decide +kernel
theorem dX12_areaOf_218 : decode cX12_areaOf 218 = .ok (.lmul, 1) := by decide +kernel
theorem dX12_areaOf_219 : decode cX12_areaOf 219 = .ok (.invokevirtual 271, 3) := by decide +kernel
theorem dX12_areaOf_222 : decode cX12_areaOf 222 = .ok (.goto 28, 3) := by decide +kernel
theorem dX12_areaOf_225 : decode cX12_areaOf 225 = .ok (.aload_n 0, 1) := by decide +kernel
theorem dX12_areaOf_226 : decode cX12_areaOf 226 = .ok (.lconst 0, 1) := by decide +kernel
theorem dX12_areaOf_227 : decode cX12_areaOf 227 = .ok (.lconst 1, 1) := by decide +kernel
theorem dX12_areaOf_228 : decode cX12_areaOf 228 = .ok (.invokevirtual 271, 3) := by decide +kernel
theorem dX12_areaOf_231 : decode cX12_areaOf 231 = .ok (.goto 19, 3) := by decide +kernel
theorem dX12_areaOf_234 : decode cX12_areaOf 234 = .ok (.aload_n 0, 1) := by decide +kernel
theorem dX12_areaOf_235 : decode cX12_areaOf 235 = .ok (.aload_n 0, 1) := by decide +kernel
theorem dX12_areaOf_236 : decode cX12_areaOf 236 = .ok (.getfield 250, 3) := by decide +kernel
theorem dX12_areaOf_239 : decode cX12_areaOf 239 = .ok (.ldc2_w 230, 3) := by decide +kernel
theorem dX12_areaOf_242 : decode cX12_areaOf 242 = .ok (.aload_n 0, 1) := by decide +kernel
theorem dX12_areaOf_243 : decode cX12_areaOf 243 = .ok (.getfield 254, 3) := by decide +kernel
theorem dX12_areaOf_246 : decode cX12_areaOf 246 = .ok (.lmul, 1) := by decide +kernel
theorem dX12_areaOf_247 : decode cX12_areaOf 247 = .ok (.invokevirtual 271, 3) := by decide +kernel
theorem dX12_areaOf_250 : decode cX12_areaOf 250 = .ok (.return_, 1) := by decide +kernel
theorem dX12_coloursOf_0 : decode cX12_coloursOf 0 = .ok (.aload_n 0, 1) := by decide +kernel
theorem dX12_coloursOf_1 : decode cX12_coloursOf 1 = .ok (.getfield 67, 3) := by decide +kernel
theorem dX12_coloursOf_4 : decode cX12_coloursOf 4 = .ok (.iload_n 1, 1) := by decide +kernel
theorem dX12_coloursOf_5 : decode cX12_coloursOf 5 = .ok (.iaload, 1) := by decide +kernel
theorem dX12_coloursOf_6 : decode cX12_coloursOf 6 = .ok (.iconst 3, 1) := by decide +kernel
theorem dX12_coloursOf_7 : decode cX12_coloursOf 7 = .ok (.invokestatic 279, 3) := by decide +kernel
theorem dX12_coloursOf_10 : decode cX12_coloursOf 10 = .ok (.istore_n 2, 1) := by decide +kernel
theorem dX12_coloursOf_11 : decode cX12_coloursOf 11 = .ok (.iconst 0, 1) := by decide +kernel
theorem dX12_coloursOf_12 : decode cX12_coloursOf 12 = .ok (.istore_n 3, 1) := by decide +kernel
theorem dX12_coloursOf_13 : decode cX12_coloursOf 13 = .ok (.iconst 0, 1) := by decide +kernel
theorem dX12_coloursOf_14 : decode cX12_coloursOf 14 = .ok (.istore 4, 2) := by decide +kernel
theorem dX12_coloursOf_16 : decode cX12_coloursOf 16 = .ok (.iload 4, 2) := by decide +kernel
theorem dX12_coloursOf_18 : decode cX12_coloursOf 18 = .ok (.iconst 3, 1) := by decide +kernel
theorem dX12_coloursOf_19 : decode cX12_coloursOf 19 = .ok (.if_icmp .ge 68, 3) := by decide +kernel
theorem dX12_coloursOf_22 : decode cX12_coloursOf 22 = .ok (.aload_n 0, 1) := by decide +kernel
theorem dX12_coloursOf_23 : decode cX12_coloursOf 23 = .ok (.getfield 70, 3) := by decide +kernel
theorem dX12_coloursOf_26 : decode cX12_coloursOf 26 = .ok (.iconst 3, 1) := by decide +kernel
theorem dX12_coloursOf_27 : decode cX12_coloursOf 27 = .ok (.iload_n 1, 1) := by decide +kernel
theorem dX12_coloursOf_28 : decode cX12_coloursOf 28 = .ok (.imul, 1) := by decide +kernel
theorem dX12_coloursOf_29 : decode cX12_coloursOf 29 = .ok (.iload 4, 2) := by decide +kernel
theorem dX12_coloursOf_31 : decode cX12_coloursOf 31 = .ok (.iadd, 1) := by decide +kernel
theorem dX12_coloursOf_32 : decode cX12_coloursOf 32 = .ok (.iaload, 1) := by decide +kernel
theorem dX12_coloursOf_33 : decode cX12_coloursOf 33 = .ok (.istore 5, 2) := by decide +kernel
theorem dX12_coloursOf_35 : decode cX12_coloursOf 35 = .ok (.aload_n 0, 1) := by decide +kernel
theorem dX12_coloursOf_36 : decode cX12_coloursOf 36 = .ok (.iload 5, 2) := by decide +kernel
theorem dX12_coloursOf_38 : decode cX12_coloursOf 38 = .ok (.iload_n 2, 1) := by decide +kernel
theorem dX12_coloursOf_39 : decode cX12_coloursOf 39 = .ok (.ifCond .eq 7, 3) := by decide +kernel
theorem dX12_coloursOf_42 : decode cX12_coloursOf 42 = .ok (.iconst 1, 1) := by decide +kernel
theorem dX12_coloursOf_43 : decode cX12_coloursOf 43 = .ok (.goto 4, 3) := by decide +kernel
theorem dX12_coloursOf_46 : decode cX12_coloursOf 46 = .ok (.iconst 0, 1) := by decide +kernel
theorem dX12_coloursOf_47 : decode cX12_coloursOf 47 = .ok (.invokevirtual 232, 3) := by decide +kernel
theorem dX12_coloursOf_50 : decode cX12_coloursOf 50 = .ok (.istore 6, 2) := by decide +kernel
theorem dX12_coloursOf_52 : decode cX12_coloursOf 52 = .ok (.aload_n 0, 1) := by decide +kernel
theorem dX12_coloursOf_53 : decode cX12_coloursOf 53 = .ok (.iload 5, 2) := by decide +kernel
theorem dX12_coloursOf_55 : decode cX12_coloursOf 55 = .ok (.iload_n 2, 1) := by decide +kernel
theorem dX12_coloursOf_56 : decode cX12_coloursOf 56 = .ok (.ifCond .eq 7, 3) := by decide +kernel
theorem dX12_coloursOf_59 : decode cX12_coloursOf 59 = .ok (.iconst 0, 1) := by decide +kernel
theorem dX12_coloursOf_60 : decode cX12_coloursOf 60 = .ok (.goto 4, 3) := by decide +kernel
theorem dX12_coloursOf_63 : decode cX12_coloursOf 63 = .ok (.iconst 1, 1) := by decide +kernel
theorem dX12_coloursOf_64 : decode cX12_coloursOf 64 = .ok (.invokevirtual 232, 3) := by decide +kernel
theorem dX12_coloursOf_67 : decode cX12_coloursOf 67 = .ok (.istore 7, 2) := by decide +kernel
theorem dX12_coloursOf_69 : decode cX12_coloursOf 69 = .ok (.iload_n 3, 1) := by decide +kernel
theorem dX12_coloursOf_70 : decode cX12_coloursOf 70 = .ok (.iconst 1, 1) := by decide +kernel
theorem dX12_coloursOf_71 : decode cX12_coloursOf 71 = .ok (.iload 6, 2) := by decide +kernel
theorem dX12_coloursOf_73 : decode cX12_coloursOf 73 = .ok (.iload 7, 2) := by decide +kernel
theorem dX12_coloursOf_75 : decode cX12_coloursOf 75 = .ok (.invokestatic 235, 3) := by decide +kernel
theorem dX12_coloursOf_78 : decode cX12_coloursOf 78 = .ok (.ishl, 1) := by decide +kernel
theorem dX12_coloursOf_79 : decode cX12_coloursOf 79 = .ok (.ior, 1) := by decide +kernel
theorem dX12_coloursOf_80 : decode cX12_coloursOf 80 = .ok (.istore_n 3, 1) := by decide +kernel
theorem dX12_coloursOf_81 : decode cX12_coloursOf 81 = .ok (.iinc 4 1, 3) := by decide +kernel
theorem dX12_coloursOf_84 : decode cX12_coloursOf 84 = .ok (.goto (-68), 3) := by decide +kernel
theorem dX12_coloursOf_87 : decode cX12_coloursOf 87 = .ok (.iload_n 3, 1) := by decide +kernel
theorem dX12_coloursOf_88 : decode cX12_coloursOf 88 = .ok (.ireturn, 1) := by decide +kernel
theorem dX12_areaValuation_0 : decode cX12_areaValuation 0 = .ok (.aload_n 0, 1) := by decide +kernel
theorem dX12_areaValuation_1 : decode cX12_areaValuation 1 = .ok (.iload_n 1, 1) := by decide +kernel
theorem dX12_areaValuation_2 : decode cX12_areaValuation 2 = .ok (.invokevirtual 282, 3) := by decide +kernel
theorem dX12_areaValuation_5 : decode cX12_areaValuation 5 = .ok (.aload_n 0, 1) := by decide +kernel
theorem dX12_areaValuation_6 : decode cX12_areaValuation 6 = .ok (.getfield 250, 3) := by decide +kernel
theorem dX12_areaValuation_9 : decode cX12_areaValuation 9 = .ok (.aload_n 0, 1) := by decide +kernel
theorem dX12_areaValuation_10 : decode cX12_areaValuation 10 = .ok (.getfield 254, 3) := by decide +kernel
theorem dX12_areaValuation_13 : decode cX12_areaValuation 13 = .ok (.invokestatic 223, 3) := by decide +kernel
theorem dX12_areaValuation_16 : decode cX12_areaValuation 16 = .ok (.ireturn, 1) := by decide +kernel
theorem dX12_isTriangle_0 : decode cX12_isTriangle 0 = .ok (.iload_n 1, 1) := by decide +kernel
theorem dX12_isTriangle_1 : decode cX12_isTriangle 1 = .ok (.i2l, 1) := by decide +kernel
theorem dX12_isTriangle_2 : decode cX12_isTriangle 2 = .ok (.lconst 0, 1) := by decide +kernel
theorem dX12_isTriangle_3 : decode cX12_isTriangle 3 = .ok (.aload_n 0, 1) := by decide +kernel
theorem dX12_isTriangle_4 : decode cX12_isTriangle 4 = .ok (.getfield 238, 3) := by decide +kernel
theorem dX12_isTriangle_7 : decode cX12_isTriangle 7 = .ok (.iconst 1, 1) := by decide +kernel
theorem dX12_isTriangle_8 : decode cX12_isTriangle 8 = .ok (.isub, 1) := by decide +kernel
theorem dX12_isTriangle_9 : decode cX12_isTriangle 9 = .ok (.i2l, 1) := by decide +kernel
theorem dX12_isTriangle_10 : decode cX12_isTriangle 10 = .ok (.invokestatic 123, 3) := by decide +kernel
theorem dX12_isTriangle_13 : decode cX12_isTriangle 13 = .ok (.ireturn, 1) := by decide +kernel
theorem dX12_tri_0 : decode cX12_tri 0 = .ok (.aload_n 0, 1) := by decide +kernel
theorem dX12_tri_1 : decode cX12_tri 1 = .ok (.iload_n 1, 1) := by decide +kernel
theorem dX12_tri_2 : decode cX12_tri 2 = .ok (.invokevirtual 285, 3) := by decide +kernel
theorem dX12_tri_5 : decode cX12_tri 5 = .ok (.ifCond .ne 9, 3) := by decide +kernel
theorem dX12_tri_8 : decode cX12_tri 8 = .ok (.aload_n 0, 1) := by decide +kernel
theorem dX12_tri_9 : decode cX12_tri 9 = .ok (.iconst (-1), 1) := by decide +kernel
theorem dX12_tri_10 : decode cX12_tri 10 = .ok (.invokevirtual 9, 3) := by decide +kernel
theorem dX12_tri_13 : decode cX12_tri 13 = .ok (.ireturn, 1) := by decide +kernel
theorem dX12_tri_14 : decode cX12_tri 14 = .ok (.iload_n 2, 1) := by decide +kernel
theorem dX12_tri_15 : decode cX12_tri 15 = .ok (.tableswitch 92 0 6 #[41, 48, 48, 48, 61, 67, 83], 41) := by decide +kernel
theorem dX12_tri_56 : decode cX12_tri 56 = .ok (.aload_n 0, 1) := by decide +kernel
theorem dX12_tri_57 : decode cX12_tri 57 = .ok (.getfield 67, 3) := by decide +kernel
theorem dX12_tri_60 : decode cX12_tri 60 = .ok (.iload_n 1, 1) := by decide +kernel
theorem dX12_tri_61 : decode cX12_tri 61 = .ok (.iaload, 1) := by decide +kernel
theorem dX12_tri_62 : decode cX12_tri 62 = .ok (.ireturn, 1) := by decide +kernel
theorem dX12_tri_63 : decode cX12_tri 63 = .ok (.aload_n 0, 1) := by decide +kernel
theorem dX12_tri_64 : decode cX12_tri 64 = .ok (.getfield 70, 3) := by decide +kernel
theorem dX12_tri_67 : decode cX12_tri 67 = .ok (.iconst 3, 1) := by decide +kernel
theorem dX12_tri_68 : decode cX12_tri 68 = .ok (.iload_n 1, 1) := by decide +kernel
theorem dX12_tri_69 : decode cX12_tri 69 = .ok (.imul, 1) := by decide +kernel
theorem dX12_tri_70 : decode cX12_tri 70 = .ok (.iload_n 2, 1) := by decide +kernel
theorem dX12_tri_71 : decode cX12_tri 71 = .ok (.iadd, 1) := by decide +kernel
theorem dX12_tri_72 : decode cX12_tri 72 = .ok (.iconst 1, 1) := by decide +kernel
theorem dX12_tri_73 : decode cX12_tri 73 = .ok (.isub, 1) := by decide +kernel
theorem dX12_tri_74 : decode cX12_tri 74 = .ok (.iaload, 1) := by decide +kernel
theorem dX12_tri_75 : decode cX12_tri 75 = .ok (.ireturn, 1) := by decide +kernel
theorem dX12_tri_76 : decode cX12_tri 76 = .ok (.aload_n 0, 1) := by decide +kernel
theorem dX12_tri_77 : decode cX12_tri 77 = .ok (.iload_n 1, 1) := by decide +kernel
theorem dX12_tri_78 : decode cX12_tri 78 = .ok (.invokevirtual 288, 3) := by decide +kernel
theorem dX12_tri_81 : decode cX12_tri 81 = .ok (.ireturn, 1) := by decide +kernel
theorem dX12_tri_82 : decode cX12_tri 82 = .ok (.aload_n 0, 1) := by decide +kernel
theorem dX12_tri_83 : decode cX12_tri 83 = .ok (.iload_n 1, 1) := by decide +kernel
theorem dX12_tri_84 : decode cX12_tri 84 = .ok (.invokevirtual 288, 3) := by decide +kernel
theorem dX12_tri_87 : decode cX12_tri 87 = .ok (.bipush 7, 2) := by decide +kernel
theorem dX12_tri_89 : decode cX12_tri 89 = .ok (.if_icmp .ne 7, 3) := by decide +kernel
theorem dX12_tri_92 : decode cX12_tri 92 = .ok (.iconst 1, 1) := by decide +kernel
theorem dX12_tri_93 : decode cX12_tri 93 = .ok (.goto 4, 3) := by decide +kernel
theorem dX12_tri_96 : decode cX12_tri 96 = .ok (.iconst 0, 1) := by decide +kernel
theorem dX12_tri_97 : decode cX12_tri 97 = .ok (.ireturn, 1) := by decide +kernel
theorem dX12_tri_98 : decode cX12_tri 98 = .ok (.bipush 100, 2) := by decide +kernel
theorem dX12_tri_100 : decode cX12_tri 100 = .ok (.aload_n 0, 1) := by decide +kernel
theorem dX12_tri_101 : decode cX12_tri 101 = .ok (.iload_n 1, 1) := by decide +kernel
theorem dX12_tri_102 : decode cX12_tri 102 = .ok (.invokevirtual 291, 3) := by decide +kernel
theorem dX12_tri_105 : decode cX12_tri 105 = .ok (.iadd, 1) := by decide +kernel
theorem dX12_tri_106 : decode cX12_tri 106 = .ok (.ireturn, 1) := by decide +kernel
theorem dX12_tri_107 : decode cX12_tri 107 = .ok (.aload_n 0, 1) := by decide +kernel
theorem dX12_tri_108 : decode cX12_tri 108 = .ok (.bipush (-2), 2) := by decide +kernel
theorem dX12_tri_110 : decode cX12_tri 110 = .ok (.invokevirtual 9, 3) := by decide +kernel
theorem dX12_tri_113 : decode cX12_tri 113 = .ok (.ireturn, 1) := by decide +kernel
theorem dX12_area_0 : decode cX12_area 0 = .ok (.aload_n 0, 1) := by decide +kernel
theorem dX12_area_1 : decode cX12_area 1 = .ok (.iload_n 1, 1) := by decide +kernel
theorem dX12_area_2 : decode cX12_area 2 = .ok (.invokevirtual 285, 3) := by decide +kernel
theorem dX12_area_5 : decode cX12_area 5 = .ok (.ifCond .ne 9, 3) := by decide +kernel
theorem dX12_area_8 : decode cX12_area 8 = .ok (.aload_n 0, 1) := by decide +kernel
theorem dX12_area_9 : decode cX12_area 9 = .ok (.iconst (-1), 1) := by decide +kernel
theorem dX12_area_10 : decode cX12_area 10 = .ok (.invokevirtual 178, 3) := by decide +kernel
theorem dX12_area_13 : decode cX12_area 13 = .ok (.lreturn, 1) := by decide +kernel
theorem dX12_area_14 : decode cX12_area 14 = .ok (.iload_n 2, 1) := by decide +kernel
theorem dX12_area_15 : decode cX12_area 15 = .ok (.i2l, 1) := by decide +kernel
theorem dX12_area_16 : decode cX12_area 16 = .ok (.lconst 0, 1) := by decide +kernel
theorem dX12_area_17 : decode cX12_area 17 = .ok (.lconst 1, 1) := by decide +kernel
theorem dX12_area_18 : decode cX12_area 18 = .ok (.invokestatic 123, 3) := by decide +kernel
theorem dX12_area_21 : decode cX12_area 21 = .ok (.ifCond .ne 10, 3) := by decide +kernel
theorem dX12_area_24 : decode cX12_area 24 = .ok (.aload_n 0, 1) := by decide +kernel
theorem dX12_area_25 : decode cX12_area 25 = .ok (.bipush (-2), 2) := by decide +kernel
theorem dX12_area_27 : decode cX12_area 27 = .ok (.invokevirtual 178, 3) := by decide +kernel
theorem dX12_area_30 : decode cX12_area 30 = .ok (.lreturn, 1) := by decide +kernel
theorem dX12_area_31 : decode cX12_area 31 = .ok (.aload_n 0, 1) := by decide +kernel
theorem dX12_area_32 : decode cX12_area 32 = .ok (.iload_n 1, 1) := by decide +kernel
theorem dX12_area_33 : decode cX12_area 33 = .ok (.invokevirtual 282, 3) := by decide +kernel
theorem dX12_area_36 : decode cX12_area 36 = .ok (.iload_n 2, 1) := by decide +kernel
theorem dX12_area_37 : decode cX12_area 37 = .ok (.ifCond .ne 10, 3) := by decide +kernel
theorem dX12_area_40 : decode cX12_area 40 = .ok (.aload_n 0, 1) := by decide +kernel
theorem dX12_area_41 : decode cX12_area 41 = .ok (.getfield 250, 3) := by decide +kernel
theorem dX12_area_44 : decode cX12_area 44 = .ok (.goto 7, 3) := by decide +kernel
theorem dX12_area_47 : decode cX12_area 47 = .ok (.aload_n 0, 1) := by decide +kernel
theorem dX12_area_48 : decode cX12_area 48 = .ok (.getfield 254, 3) := by decide +kernel
theorem dX12_area_51 : decode cX12_area 51 = .ok (.lreturn, 1) := by decide +kernel
theorem dX12_isSet_0 : decode cX12_isSet 0 = .ok (.iload_n 1, 1) := by decide +kernel
theorem dX12_isSet_1 : decode cX12_isSet 1 = .ok (.i2l, 1) := by decide +kernel
theorem dX12_isSet_2 : decode cX12_isSet 2 = .ok (.lconst 0, 1) := by decide +kernel
theorem dX12_isSet_3 : decode cX12_isSet 3 = .ok (.iconst 1, 1) := by decide +kernel
theorem dX12_isSet_4 : decode cX12_isSet 4 = .ok (.aload_n 0, 1) := by decide +kernel
theorem dX12_isSet_5 : decode cX12_isSet 5 = .ok (.getfield 238, 3) := by decide +kernel
theorem dX12_isSet_8 : decode cX12_isSet 8 = .ok (.ishl, 1) := by decide +kernel
theorem dX12_isSet_9 : decode cX12_isSet 9 = .ok (.iconst 1, 1) := by decide +kernel
theorem dX12_isSet_10 : decode cX12_isSet 10 = .ok (.isub, 1) := by decide +kernel
theorem dX12_isSet_11 : decode cX12_isSet 11 = .ok (.i2l, 1) := by decide +kernel
theorem dX12_isSet_12 : decode cX12_isSet 12 = .ok (.invokestatic 123, 3) := by decide +kernel
theorem dX12_isSet_15 : decode cX12_isSet 15 = .ok (.ireturn, 1) := by decide +kernel
theorem dX12_isGreat_0 : decode cX12_isGreat 0 = .ok (.aload_n 0, 1) := by decide +kernel
theorem dX12_isGreat_1 : decode cX12_isGreat 1 = .ok (.getfield 250, 3) := by decide +kernel
theorem dX12_isGreat_4 : decode cX12_isGreat 4 = .ok (.ldc2_w 294, 3) := by decide +kernel
theorem dX12_isGreat_7 : decode cX12_isGreat 7 = .ok (.lcmp, 1) := by decide +kernel
theorem dX12_isGreat_8 : decode cX12_isGreat 8 = .ok (.ifCond .gt 14, 3) := by decide +kernel
theorem dX12_isGreat_11 : decode cX12_isGreat 11 = .ok (.aload_n 0, 1) := by decide +kernel
theorem dX12_isGreat_12 : decode cX12_isGreat 12 = .ok (.getfield 254, 3) := by decide +kernel
theorem dX12_isGreat_15 : decode cX12_isGreat 15 = .ok (.ldc2_w 294, 3) := by decide +kernel
theorem dX12_isGreat_18 : decode cX12_isGreat 18 = .ok (.lcmp, 1) := by decide +kernel
theorem dX12_isGreat_19 : decode cX12_isGreat 19 = .ok (.ifCond .le 7, 3) := by decide +kernel
theorem dX12_isGreat_22 : decode cX12_isGreat 22 = .ok (.iconst 1, 1) := by decide +kernel
theorem dX12_isGreat_23 : decode cX12_isGreat 23 = .ok (.goto 4, 3) := by decide +kernel
theorem dX12_isGreat_26 : decode cX12_isGreat 26 = .ok (.iconst 0, 1) := by decide +kernel
theorem dX12_isGreat_27 : decode cX12_isGreat 27 = .ok (.ireturn, 1) := by decide +kernel
theorem dX12_sum_0 : decode cX12_sum 0 = .ok (.aload_n 0, 1) := by decide +kernel
theorem dX12_sum_1 : decode cX12_sum 1 = .ok (.iload_n 1, 1) := by decide +kernel
theorem dX12_sum_2 : decode cX12_sum 2 = .ok (.invokevirtual 296, 3) := by decide +kernel
theorem dX12_sum_5 : decode cX12_sum 5 = .ok (.ifCond .ne 9, 3) := by decide +kernel
theorem dX12_sum_8 : decode cX12_sum 8 = .ok (.aload_n 0, 1) := by decide +kernel
theorem dX12_sum_9 : decode cX12_sum 9 = .ok (.iconst (-1), 1) := by decide +kernel
theorem dX12_sum_10 : decode cX12_sum 10 = .ok (.invokevirtual 178, 3) := by decide +kernel
theorem dX12_sum_13 : decode cX12_sum 13 = .ok (.lreturn, 1) := by decide +kernel
theorem dX12_sum_14 : decode cX12_sum 14 = .ok (.iload_n 2, 1) := by decide +kernel
theorem dX12_sum_15 : decode cX12_sum 15 = .ok (.i2l, 1) := by decide +kernel
theorem dX12_sum_16 : decode cX12_sum 16 = .ok (.lconst 0, 1) := by decide +kernel
theorem dX12_sum_17 : decode cX12_sum 17 = .ok (.lconst 1, 1) := by decide +kernel
theorem dX12_sum_18 : decode cX12_sum 18 = .ok (.invokestatic 123, 3) := by decide +kernel
theorem dX12_sum_21 : decode cX12_sum 21 = .ok (.ifCond .ne 10, 3) := by decide +kernel
theorem dX12_sum_24 : decode cX12_sum 24 = .ok (.aload_n 0, 1) := by decide +kernel
theorem dX12_sum_25 : decode cX12_sum 25 = .ok (.bipush (-2), 2) := by decide +kernel
theorem dX12_sum_27 : decode cX12_sum 27 = .ok (.invokevirtual 178, 3) := by decide +kernel
theorem dX12_sum_30 : decode cX12_sum 30 = .ok (.lreturn, 1) := by decide +kernel
theorem dX12_sum_31 : decode cX12_sum 31 = .ok (.lconst 0, 1) := by decide +kernel
theorem dX12_sum_32 : decode cX12_sum 32 = .ok (.lstore_n 3, 1) := by decide +kernel
theorem dX12_sum_33 : decode cX12_sum 33 = .ok (.lconst 1, 1) := by decide +kernel
theorem dX12_sum_34 : decode cX12_sum 34 = .ok (.lstore 5, 2) := by decide +kernel
theorem dX12_sum_36 : decode cX12_sum 36 = .ok (.iconst 0, 1) := by decide +kernel
theorem dX12_sum_37 : decode cX12_sum 37 = .ok (.istore 7, 2) := by decide +kernel
theorem dX12_sum_39 : decode cX12_sum 39 = .ok (.iload 7, 2) := by decide +kernel
theorem dX12_sum_41 : decode cX12_sum 41 = .ok (.aload_n 0, 1) := by decide +kernel
theorem dX12_sum_42 : decode cX12_sum 42 = .ok (.getfield 238, 3) := by decide +kernel
theorem dX12_sum_45 : decode cX12_sum 45 = .ok (.if_icmp .ge 88, 3) := by decide +kernel
theorem dX12_sum_48 : decode cX12_sum 48 = .ok (.iload_n 1, 1) := by decide +kernel
theorem dX12_sum_49 : decode cX12_sum 49 = .ok (.iload 7, 2) := by decide +kernel
theorem dX12_sum_51 : decode cX12_sum 51 = .ok (.invokestatic 199, 3) := by decide +kernel
theorem dX12_sum_54 : decode cX12_sum 54 = .ok (.ifCond .eq 73, 3) := by decide +kernel
theorem dX12_sum_57 : decode cX12_sum 57 = .ok (.aload_n 0, 1) := by decide +kernel
theorem dX12_sum_58 : decode cX12_sum 58 = .ok (.iload 7, 2) := by decide +kernel
theorem dX12_sum_60 : decode cX12_sum 60 = .ok (.invokevirtual 282, 3) := by decide +kernel
theorem dX12_sum_63 : decode cX12_sum 63 = .ok (.aload_n 0, 1) := by decide +kernel
theorem dX12_sum_64 : decode cX12_sum 64 = .ok (.invokevirtual 299, 3) := by decide +kernel
theorem dX12_sum_67 : decode cX12_sum 67 = .ok (.ifCond .eq 10, 3) := by decide +kernel
theorem dX12_sum_70 : decode cX12_sum 70 = .ok (.aload_n 0, 1) := by decide +kernel
theorem dX12_sum_71 : decode cX12_sum 71 = .ok (.bipush (-3), 2) := by decide +kernel
theorem dX12_sum_73 : decode cX12_sum 73 = .ok (.invokevirtual 178, 3) := by decide +kernel
theorem dX12_sum_76 : decode cX12_sum 76 = .ok (.lreturn, 1) := by decide +kernel
theorem dX12_sum_77 : decode cX12_sum 77 = .ok (.aload_n 0, 1) := by decide +kernel
theorem dX12_sum_78 : decode cX12_sum 78 = .ok (.lload_n 3, 1) := by decide +kernel
theorem dX12_sum_79 : decode cX12_sum 79 = .ok (.aload_n 0, 1) := by decide +kernel
theorem dX12_sum_80 : decode cX12_sum 80 = .ok (.getfield 254, 3) := by decide +kernel
theorem dX12_sum_83 : decode cX12_sum 83 = .ok (.lmul, 1) := by decide +kernel
theorem dX12_sum_84 : decode cX12_sum 84 = .ok (.aload_n 0, 1) := by decide +kernel
theorem dX12_sum_85 : decode cX12_sum 85 = .ok (.getfield 250, 3) := by decide +kernel
theorem dX12_sum_88 : decode cX12_sum 88 = .ok (.lload 5, 2) := by decide +kernel
theorem dX12_sum_90 : decode cX12_sum 90 = .ok (.lmul, 1) := by decide +kernel
theorem dX12_sum_91 : decode cX12_sum 91 = .ok (.ladd, 1) := by decide +kernel
theorem dX12_sum_92 : decode cX12_sum 92 = .ok (.lload 5, 2) := by decide +kernel
theorem dX12_sum_94 : decode cX12_sum 94 = .ok (.aload_n 0, 1) := by decide +kernel
theorem dX12_sum_95 : decode cX12_sum 95 = .ok (.getfield 254, 3) := by decide +kernel
theorem dX12_sum_98 : decode cX12_sum 98 = .ok (.lmul, 1) := by decide +kernel
theorem dX12_sum_99 : decode cX12_sum 99 = .ok (.invokevirtual 271, 3) := by decide +kernel
theorem dX12_sum_102 : decode cX12_sum 102 = .ok (.aload_n 0, 1) := by decide +kernel
theorem dX12_sum_103 : decode cX12_sum 103 = .ok (.invokevirtual 299, 3) := by decide +kernel
theorem dX12_sum_106 : decode cX12_sum 106 = .ok (.ifCond .eq 10, 3) := by decide +kernel
theorem dX12_sum_109 : decode cX12_sum 109 = .ok (.aload_n 0, 1) := by decide +kernel
theorem dX12_sum_110 : decode cX12_sum 110 = .ok (.bipush (-3), 2) := by decide +kernel
theorem dX12_sum_112 : decode cX12_sum 112 = .ok (.invokevirtual 178, 3) := by decide +kernel
theorem dX12_sum_115 : decode cX12_sum 115 = .ok (.lreturn, 1) := by decide +kernel
theorem dX12_sum_116 : decode cX12_sum 116 = .ok (.aload_n 0, 1) := by decide +kernel
theorem dX12_sum_117 : decode cX12_sum 117 = .ok (.getfield 250, 3) := by decide +kernel
theorem dX12_sum_120 : decode cX12_sum 120 = .ok (.lstore_n 3, 1) := by decide +kernel
theorem dX12_sum_121 : decode cX12_sum 121 = .ok (.aload_n 0, 1) := by decide +kernel
theorem dX12_sum_122 : decode cX12_sum 122 = .ok (.getfield 254, 3) := by decide +kernel
theorem dX12_sum_125 : decode cX12_sum 125 = .ok (.lstore 5, 2) := by decide +kernel
theorem dX12_sum_127 : decode cX12_sum 127 = .ok (.iinc 7 1, 3) := by decide +kernel
theorem dX12_sum_130 : decode cX12_sum 130 = .ok (.goto (-91), 3) := by decide +kernel
theorem dX12_sum_133 : decode cX12_sum 133 = .ok (.iload_n 2, 1) := by decide +kernel
theorem dX12_sum_134 : decode cX12_sum 134 = .ok (.ifCond .ne 7, 3) := by decide +kernel
theorem dX12_sum_137 : decode cX12_sum 137 = .ok (.lload_n 3, 1) := by decide +kernel
theorem dX12_sum_138 : decode cX12_sum 138 = .ok (.goto 5, 3) := by decide +kernel
theorem dX12_sum_141 : decode cX12_sum 141 = .ok (.lload 5, 2) := by decide +kernel
theorem dX12_sum_143 : decode cX12_sum 143 = .ok (.lreturn, 1) := by decide +kernel
theorem dX12_evens_0 : decode cX12_evens 0 = .ok (.iconst 0, 1) := by decide +kernel
theorem dX12_evens_1 : decode cX12_evens 1 = .ok (.istore_n 2, 1) := by decide +kernel
theorem dX12_evens_2 : decode cX12_evens 2 = .ok (.iconst 0, 1) := by decide +kernel
theorem dX12_evens_3 : decode cX12_evens 3 = .ok (.istore_n 3, 1) := by decide +kernel
theorem dX12_evens_4 : decode cX12_evens 4 = .ok (.iload_n 3, 1) := by decide +kernel
theorem dX12_evens_5 : decode cX12_evens 5 = .ok (.aload_n 0, 1) := by decide +kernel
theorem dX12_evens_6 : decode cX12_evens 6 = .ok (.getfield 238, 3) := by decide +kernel
theorem dX12_evens_9 : decode cX12_evens 9 = .ok (.if_icmp .ge 36, 3) := by decide +kernel
theorem dX12_evens_12 : decode cX12_evens 12 = .ok (.iload_n 2, 1) := by decide +kernel
theorem dX12_evens_13 : decode cX12_evens 13 = .ok (.iload_n 1, 1) := by decide +kernel
theorem dX12_evens_14 : decode cX12_evens 14 = .ok (.iload_n 3, 1) := by decide +kernel
theorem dX12_evens_15 : decode cX12_evens 15 = .ok (.invokestatic 199, 3) := by decide +kernel
theorem dX12_evens_18 : decode cX12_evens 18 = .ok (.ifCond .eq 18, 3) := by decide +kernel
theorem dX12_evens_21 : decode cX12_evens 21 = .ok (.aload_n 0, 1) := by decide +kernel
theorem dX12_evens_22 : decode cX12_evens 22 = .ok (.iload_n 3, 1) := by decide +kernel
theorem dX12_evens_23 : decode cX12_evens 23 = .ok (.invokevirtual 291, 3) := by decide +kernel
theorem dX12_evens_26 : decode cX12_evens 26 = .ok (.iconst (-1), 1) := by decide +kernel
theorem dX12_evens_27 : decode cX12_evens 27 = .ok (.if_icmp .gt 9, 3) := by decide +kernel
theorem dX12_evens_30 : decode cX12_evens 30 = .ok (.iconst 1, 1) := by decide +kernel
theorem dX12_evens_31 : decode cX12_evens 31 = .ok (.iload_n 3, 1) := by decide +kernel
theorem dX12_evens_32 : decode cX12_evens 32 = .ok (.ishl, 1) := by decide +kernel
theorem dX12_evens_33 : decode cX12_evens 33 = .ok (.goto 4, 3) := by decide +kernel
theorem dX12_evens_36 : decode cX12_evens 36 = .ok (.iconst 0, 1) := by decide +kernel
theorem dX12_evens_37 : decode cX12_evens 37 = .ok (.ior, 1) := by decide +kernel
theorem dX12_evens_38 : decode cX12_evens 38 = .ok (.istore_n 2, 1) := by decide +kernel
theorem dX12_evens_39 : decode cX12_evens 39 = .ok (.iinc 3 1, 3) := by decide +kernel
theorem dX12_evens_42 : decode cX12_evens 42 = .ok (.goto (-38), 3) := by decide +kernel
theorem dX12_evens_45 : decode cX12_evens 45 = .ok (.iload_n 2, 1) := by decide +kernel
theorem dX12_evens_46 : decode cX12_evens 46 = .ok (.ireturn, 1) := by decide +kernel
theorem dX12_rainbows_0 : decode cX12_rainbows 0 = .ok (.iconst 0, 1) := by decide +kernel
theorem dX12_rainbows_1 : decode cX12_rainbows 1 = .ok (.istore_n 2, 1) := by decide +kernel
theorem dX12_rainbows_2 : decode cX12_rainbows 2 = .ok (.iconst 0, 1) := by decide +kernel
theorem dX12_rainbows_3 : decode cX12_rainbows 3 = .ok (.istore_n 3, 1) := by decide +kernel
theorem dX12_rainbows_4 : decode cX12_rainbows 4 = .ok (.iload_n 3, 1) := by decide +kernel
theorem dX12_rainbows_5 : decode cX12_rainbows 5 = .ok (.aload_n 0, 1) := by decide +kernel
theorem dX12_rainbows_6 : decode cX12_rainbows 6 = .ok (.getfield 238, 3) := by decide +kernel
theorem dX12_rainbows_9 : decode cX12_rainbows 9 = .ok (.if_icmp .ge 37, 3) := by decide +kernel
theorem dX12_rainbows_12 : decode cX12_rainbows 12 = .ok (.iload_n 2, 1) := by decide +kernel
theorem dX12_rainbows_13 : decode cX12_rainbows 13 = .ok (.iload_n 1, 1) := by decide +kernel
theorem dX12_rainbows_14 : decode cX12_rainbows 14 = .ok (.iload_n 3, 1) := by decide +kernel
theorem dX12_rainbows_15 : decode cX12_rainbows 15 = .ok (.invokestatic 199, 3) := by decide +kernel
theorem dX12_rainbows_18 : decode cX12_rainbows 18 = .ok (.ifCond .eq 19, 3) := by decide +kernel
theorem dX12_rainbows_21 : decode cX12_rainbows 21 = .ok (.aload_n 0, 1) := by decide +kernel
theorem dX12_rainbows_22 : decode cX12_rainbows 22 = .ok (.iload_n 3, 1) := by decide +kernel
theorem dX12_rainbows_23 : decode cX12_rainbows 23 = .ok (.invokevirtual 288, 3) := by decide +kernel
theorem dX12_rainbows_26 : decode cX12_rainbows 26 = .ok (.bipush 7, 2) := by decide +kernel
theorem dX12_rainbows_28 : decode cX12_rainbows 28 = .ok (.if_icmp .ne 9, 3) := by decide +kernel
theorem dX12_rainbows_31 : decode cX12_rainbows 31 = .ok (.iconst 1, 1) := by decide +kernel
theorem dX12_rainbows_32 : decode cX12_rainbows 32 = .ok (.iload_n 3, 1) := by decide +kernel
theorem dX12_rainbows_33 : decode cX12_rainbows 33 = .ok (.ishl, 1) := by decide +kernel
theorem dX12_rainbows_34 : decode cX12_rainbows 34 = .ok (.goto 4, 3) := by decide +kernel
theorem dX12_rainbows_37 : decode cX12_rainbows 37 = .ok (.iconst 0, 1) := by decide +kernel
theorem dX12_rainbows_38 : decode cX12_rainbows 38 = .ok (.ior, 1) := by decide +kernel
theorem dX12_rainbows_39 : decode cX12_rainbows 39 = .ok (.istore_n 2, 1) := by decide +kernel
theorem dX12_rainbows_40 : decode cX12_rainbows 40 = .ok (.iinc 3 1, 3) := by decide +kernel
theorem dX12_rainbows_43 : decode cX12_rainbows 43 = .ok (.goto (-39), 3) := by decide +kernel
theorem dX12_rainbows_46 : decode cX12_rainbows 46 = .ok (.iload_n 2, 1) := by decide +kernel
theorem dX12_rainbows_47 : decode cX12_rainbows 47 = .ok (.ireturn, 1) := by decide +kernel
theorem dX12_isAlike_0 : decode cX12_isAlike 0 = .ok (.iconst 1, 1) := by decide +kernel
theorem dX12_isAlike_1 : decode cX12_isAlike 1 = .ok (.istore_n 2, 1) := by decide +kernel
theorem dX12_isAlike_2 : decode cX12_isAlike 2 = .ok (.iconst 1, 1) := by decide +kernel
theorem dX12_isAlike_3 : decode cX12_isAlike 3 = .ok (.istore_n 3, 1) := by decide +kernel
theorem dX12_isAlike_4 : decode cX12_isAlike 4 = .ok (.lconst 0, 1) := by decide +kernel
theorem dX12_isAlike_5 : decode cX12_isAlike 5 = .ok (.lstore 4, 2) := by decide +kernel
theorem dX12_isAlike_7 : decode cX12_isAlike 7 = .ok (.lconst 1, 1) := by decide +kernel
theorem dX12_isAlike_8 : decode cX12_isAlike 8 = .ok (.lstore 6, 2) := by decide +kernel
theorem dX12_isAlike_10 : decode cX12_isAlike 10 = .ok (.iconst 0, 1) := by decide +kernel
theorem dX12_isAlike_11 : decode cX12_isAlike 11 = .ok (.istore 8, 2) := by decide +kernel
theorem dX12_isAlike_13 : decode cX12_isAlike 13 = .ok (.iload 8, 2) := by decide +kernel
theorem dX12_isAlike_15 : decode cX12_isAlike 15 = .ok (.aload_n 0, 1) := by decide +kernel
theorem dX12_isAlike_16 : decode cX12_isAlike 16 = .ok (.getfield 238, 3) := by decide +kernel
theorem dX12_isAlike_19 : decode cX12_isAlike 19 = .ok (.if_icmp .ge 72, 3) := by decide +kernel
theorem dX12_isAlike_22 : decode cX12_isAlike 22 = .ok (.iload_n 1, 1) := by decide +kernel
theorem dX12_isAlike_23 : decode cX12_isAlike 23 = .ok (.iload 8, 2) := by decide +kernel
theorem dX12_isAlike_25 : decode cX12_isAlike 25 = .ok (.invokestatic 199, 3) := by decide +kernel
theorem dX12_isAlike_28 : decode cX12_isAlike 28 = .ok (.ifCond .eq 57, 3) := by decide +kernel
theorem dX12_isAlike_31 : decode cX12_isAlike 31 = .ok (.aload_n 0, 1) := by decide +kernel
theorem dX12_isAlike_32 : decode cX12_isAlike 32 = .ok (.iload 8, 2) := by decide +kernel
theorem dX12_isAlike_34 : decode cX12_isAlike 34 = .ok (.invokevirtual 282, 3) := by decide +kernel
theorem dX12_isAlike_37 : decode cX12_isAlike 37 = .ok (.iload_n 2, 1) := by decide +kernel
theorem dX12_isAlike_38 : decode cX12_isAlike 38 = .ok (.ifCond .eq 31, 3) := by decide +kernel
theorem dX12_isAlike_41 : decode cX12_isAlike 41 = .ok (.iload_n 3, 1) := by decide +kernel
theorem dX12_isAlike_42 : decode cX12_isAlike 42 = .ok (.ifCond .ne 23, 3) := by decide +kernel
theorem dX12_isAlike_45 : decode cX12_isAlike 45 = .ok (.aload_n 0, 1) := by decide +kernel
theorem dX12_isAlike_46 : decode cX12_isAlike 46 = .ok (.getfield 250, 3) := by decide +kernel
theorem dX12_isAlike_49 : decode cX12_isAlike 49 = .ok (.lload 4, 2) := by decide +kernel
theorem dX12_isAlike_51 : decode cX12_isAlike 51 = .ok (.lcmp, 1) := by decide +kernel
theorem dX12_isAlike_52 : decode cX12_isAlike 52 = .ok (.ifCond .ne 17, 3) := by decide +kernel
theorem dX12_isAlike_55 : decode cX12_isAlike 55 = .ok (.aload_n 0, 1) := by decide +kernel
theorem dX12_isAlike_56 : decode cX12_isAlike 56 = .ok (.getfield 254, 3) := by decide +kernel
theorem dX12_isAlike_59 : decode cX12_isAlike 59 = .ok (.lload 6, 2) := by decide +kernel
theorem dX12_isAlike_61 : decode cX12_isAlike 61 = .ok (.lcmp, 1) := by decide +kernel
theorem dX12_isAlike_62 : decode cX12_isAlike 62 = .ok (.ifCond .ne 7, 3) := by decide +kernel
theorem dX12_isAlike_65 : decode cX12_isAlike 65 = .ok (.iconst 1, 1) := by decide +kernel
theorem dX12_isAlike_66 : decode cX12_isAlike 66 = .ok (.goto 4, 3) := by decide +kernel
theorem dX12_isAlike_69 : decode cX12_isAlike 69 = .ok (.iconst 0, 1) := by decide +kernel
theorem dX12_isAlike_70 : decode cX12_isAlike 70 = .ok (.istore_n 2, 1) := by decide +kernel
theorem dX12_isAlike_71 : decode cX12_isAlike 71 = .ok (.aload_n 0, 1) := by decide +kernel
theorem dX12_isAlike_72 : decode cX12_isAlike 72 = .ok (.getfield 250, 3) := by decide +kernel
theorem dX12_isAlike_75 : decode cX12_isAlike 75 = .ok (.lstore 4, 2) := by decide +kernel
theorem dX12_isAlike_77 : decode cX12_isAlike 77 = .ok (.aload_n 0, 1) := by decide +kernel
theorem dX12_isAlike_78 : decode cX12_isAlike 78 = .ok (.getfield 254, 3) := by decide +kernel
theorem dX12_isAlike_81 : decode cX12_isAlike 81 = .ok (.lstore 6, 2) := by decide +kernel
theorem dX12_isAlike_83 : decode cX12_isAlike 83 = .ok (.iconst 0, 1) := by decide +kernel
theorem dX12_isAlike_84 : decode cX12_isAlike 84 = .ok (.istore_n 3, 1) := by decide +kernel
theorem dX12_isAlike_85 : decode cX12_isAlike 85 = .ok (.iinc 8 1, 3) := by decide +kernel
theorem dX12_isAlike_88 : decode cX12_isAlike 88 = .ok (.goto (-75), 3) := by decide +kernel
theorem dX12_isAlike_91 : decode cX12_isAlike 91 = .ok (.iload_n 2, 1) := by decide +kernel
theorem dX12_isAlike_92 : decode cX12_isAlike 92 = .ok (.ireturn, 1) := by decide +kernel
theorem dX12_even_0 : decode cX12_even 0 = .ok (.aload_n 0, 1) := by decide +kernel
theorem dX12_even_1 : decode cX12_even 1 = .ok (.iload_n 1, 1) := by decide +kernel
theorem dX12_even_2 : decode cX12_even 2 = .ok (.invokevirtual 296, 3) := by decide +kernel
theorem dX12_even_5 : decode cX12_even 5 = .ok (.ifCond .ne 9, 3) := by decide +kernel
theorem dX12_even_8 : decode cX12_even 8 = .ok (.aload_n 0, 1) := by decide +kernel
theorem dX12_even_9 : decode cX12_even 9 = .ok (.iconst (-1), 1) := by decide +kernel
theorem dX12_even_10 : decode cX12_even 10 = .ok (.invokevirtual 9, 3) := by decide +kernel
theorem dX12_even_13 : decode cX12_even 13 = .ok (.ireturn, 1) := by decide +kernel
theorem dX12_even_14 : decode cX12_even 14 = .ok (.iload_n 2, 1) := by decide +kernel
theorem dX12_even_15 : decode cX12_even 15 = .ok (.i2l, 1) := by decide +kernel
theorem dX12_even_16 : decode cX12_even 16 = .ok (.lconst 0, 1) := by decide +kernel
theorem dX12_even_17 : decode cX12_even 17 = .ok (.ldc2_w 230, 3) := by decide +kernel
theorem dX12_even_20 : decode cX12_even 20 = .ok (.invokestatic 123, 3) := by decide +kernel
theorem dX12_even_23 : decode cX12_even 23 = .ok (.ifCond .ne 10, 3) := by decide +kernel
theorem dX12_even_26 : decode cX12_even 26 = .ok (.aload_n 0, 1) := by decide +kernel
theorem dX12_even_27 : decode cX12_even 27 = .ok (.bipush (-2), 2) := by decide +kernel
theorem dX12_even_29 : decode cX12_even 29 = .ok (.invokevirtual 9, 3) := by decide +kernel
theorem dX12_even_32 : decode cX12_even 32 = .ok (.ireturn, 1) := by decide +kernel
theorem dX12_even_33 : decode cX12_even 33 = .ok (.iload_n 2, 1) := by decide +kernel
theorem dX12_even_34 : decode cX12_even 34 = .ok (.ifCond .ne 11, 3) := by decide +kernel
theorem dX12_even_37 : decode cX12_even 37 = .ok (.aload_n 0, 1) := by decide +kernel
theorem dX12_even_38 : decode cX12_even 38 = .ok (.iload_n 1, 1) := by decide +kernel
theorem dX12_even_39 : decode cX12_even 39 = .ok (.invokevirtual 303, 3) := by decide +kernel
theorem dX12_even_42 : decode cX12_even 42 = .ok (.goto 29, 3) := by decide +kernel
theorem dX12_even_45 : decode cX12_even 45 = .ok (.iload_n 2, 1) := by decide +kernel
theorem dX12_even_46 : decode cX12_even 46 = .ok (.iconst 1, 1) := by decide +kernel
theorem dX12_even_47 : decode cX12_even 47 = .ok (.if_icmp .ne 11, 3) := by decide +kernel
theorem dX12_even_50 : decode cX12_even 50 = .ok (.aload_n 0, 1) := by decide +kernel
theorem dX12_even_51 : decode cX12_even 51 = .ok (.iload_n 1, 1) := by decide +kernel
theorem dX12_even_52 : decode cX12_even 52 = .ok (.invokevirtual 306, 3) := by decide +kernel
theorem dX12_even_55 : decode cX12_even 55 = .ok (.goto 16, 3) := by decide +kernel
theorem dX12_even_58 : decode cX12_even 58 = .ok (.aload_n 0, 1) := by decide +kernel
theorem dX12_even_59 : decode cX12_even 59 = .ok (.iload_n 1, 1) := by decide +kernel
theorem dX12_even_60 : decode cX12_even 60 = .ok (.invokevirtual 309, 3) := by decide +kernel
theorem dX12_even_63 : decode cX12_even 63 = .ok (.ifCond .eq 7, 3) := by decide +kernel
theorem dX12_even_66 : decode cX12_even 66 = .ok (.iconst 1, 1) := by decide +kernel
theorem dX12_even_67 : decode cX12_even 67 = .ok (.goto 4, 3) := by decide +kernel
theorem dX12_even_70 : decode cX12_even 70 = .ok (.iconst 0, 1) := by decide +kernel
theorem dX12_even_71 : decode cX12_even 71 = .ok (.ireturn, 1) := by decide +kernel
theorem dX12_floatOf_0 : decode cX12_floatOf 0 = .ok (.aload_n 0, 1) := by decide +kernel
theorem dX12_floatOf_1 : decode cX12_floatOf 1 = .ok (.iload_n 1, 1) := by decide +kernel
theorem dX12_floatOf_2 : decode cX12_floatOf 2 = .ok (.invokevirtual 282, 3) := by decide +kernel
theorem dX12_floatOf_5 : decode cX12_floatOf 5 = .ok (.aload_n 0, 1) := by decide +kernel
theorem dX12_floatOf_6 : decode cX12_floatOf 6 = .ok (.getfield 250, 3) := by decide +kernel
theorem dX12_floatOf_9 : decode cX12_floatOf 9 = .ok (.l2f, 1) := by decide +kernel
theorem dX12_floatOf_10 : decode cX12_floatOf 10 = .ok (.aload_n 0, 1) := by decide +kernel
theorem dX12_floatOf_11 : decode cX12_floatOf 11 = .ok (.getfield 254, 3) := by decide +kernel
theorem dX12_floatOf_14 : decode cX12_floatOf 14 = .ok (.l2f, 1) := by decide +kernel
theorem dX12_floatOf_15 : decode cX12_floatOf 15 = .ok (.fdiv, 1) := by decide +kernel
theorem dX12_floatOf_16 : decode cX12_floatOf 16 = .ok (.freturn, 1) := by decide +kernel
theorem dX12_bits_0 : decode cX12_bits 0 = .ok (.aload_n 0, 1) := by decide +kernel
theorem dX12_bits_1 : decode cX12_bits 1 = .ok (.iload_n 1, 1) := by decide +kernel
theorem dX12_bits_2 : decode cX12_bits 2 = .ok (.invokevirtual 285, 3) := by decide +kernel
theorem dX12_bits_5 : decode cX12_bits 5 = .ok (.ifCond .eq 14, 3) := by decide +kernel
theorem dX12_bits_8 : decode cX12_bits 8 = .ok (.aload_n 0, 1) := by decide +kernel
theorem dX12_bits_9 : decode cX12_bits 9 = .ok (.iload_n 1, 1) := by decide +kernel
theorem dX12_bits_10 : decode cX12_bits 10 = .ok (.invokevirtual 312, 3) := by decide +kernel
theorem dX12_bits_13 : decode cX12_bits 13 = .ok (.invokestatic 316, 3) := by decide +kernel
theorem dX12_bits_16 : decode cX12_bits 16 = .ok (.goto 8, 3) := by decide +kernel
theorem dX12_bits_19 : decode cX12_bits 19 = .ok (.aload_n 0, 1) := by decide +kernel
theorem dX12_bits_20 : decode cX12_bits 20 = .ok (.iconst (-1), 1) := by decide +kernel
theorem dX12_bits_21 : decode cX12_bits 21 = .ok (.invokevirtual 9, 3) := by decide +kernel
theorem dX12_bits_24 : decode cX12_bits 24 = .ok (.ireturn, 1) := by decide +kernel
theorem dX12_bitsOf_0 : decode cX12_bitsOf 0 = .ok (.aload_n 0, 1) := by decide +kernel
theorem dX12_bitsOf_1 : decode cX12_bitsOf 1 = .ok (.iload_n 1, 1) := by decide +kernel
theorem dX12_bitsOf_2 : decode cX12_bitsOf 2 = .ok (.invokevirtual 296, 3) := by decide +kernel
theorem dX12_bitsOf_5 : decode cX12_bitsOf 5 = .ok (.ifCond .ne 9, 3) := by decide +kernel
theorem dX12_bitsOf_8 : decode cX12_bitsOf 8 = .ok (.aload_n 0, 1) := by decide +kernel
theorem dX12_bitsOf_9 : decode cX12_bitsOf 9 = .ok (.iconst (-1), 1) := by decide +kernel
theorem dX12_bitsOf_10 : decode cX12_bitsOf 10 = .ok (.invokevirtual 9, 3) := by decide +kernel
theorem dX12_bitsOf_13 : decode cX12_bitsOf 13 = .ok (.ireturn, 1) := by decide +kernel
theorem dX12_bitsOf_14 : decode cX12_bitsOf 14 = .ok (.iload_n 2, 1) := by decide +kernel
theorem dX12_bitsOf_15 : decode cX12_bitsOf 15 = .ok (.i2l, 1) := by decide +kernel
theorem dX12_bitsOf_16 : decode cX12_bitsOf 16 = .ok (.lconst 0, 1) := by decide +kernel
theorem dX12_bitsOf_17 : decode cX12_bitsOf 17 = .ok (.lconst 1, 1) := by decide +kernel
theorem dX12_bitsOf_18 : decode cX12_bitsOf 18 = .ok (.invokestatic 123, 3) := by decide +kernel
theorem dX12_bitsOf_21 : decode cX12_bitsOf 21 = .ok (.ifCond .ne 10, 3) := by decide +kernel
theorem dX12_bitsOf_24 : decode cX12_bitsOf 24 = .ok (.aload_n 0, 1) := by decide +kernel
theorem dX12_bitsOf_25 : decode cX12_bitsOf 25 = .ok (.bipush (-2), 2) := by decide +kernel
theorem dX12_bitsOf_27 : decode cX12_bitsOf 27 = .ok (.invokevirtual 9, 3) := by decide +kernel
theorem dX12_bitsOf_30 : decode cX12_bitsOf 30 = .ok (.ireturn, 1) := by decide +kernel
theorem dX12_bitsOf_31 : decode cX12_bitsOf 31 = .ok (.fconst 0, 1) := by decide +kernel
theorem dX12_bitsOf_32 : decode cX12_bitsOf 32 = .ok (.fstore_n 3, 1) := by decide +kernel
theorem dX12_bitsOf_33 : decode cX12_bitsOf 33 = .ok (.iconst 0, 1) := by decide +kernel
theorem dX12_bitsOf_34 : decode cX12_bitsOf 34 = .ok (.istore 4, 2) := by decide +kernel
theorem dX12_bitsOf_36 : decode cX12_bitsOf 36 = .ok (.iload 4, 2) := by decide +kernel
theorem dX12_bitsOf_38 : decode cX12_bitsOf 38 = .ok (.aload_n 0, 1) := by decide +kernel
theorem dX12_bitsOf_39 : decode cX12_bitsOf 39 = .ok (.getfield 238, 3) := by decide +kernel
theorem dX12_bitsOf_42 : decode cX12_bitsOf 42 = .ok (.if_icmp .ge 27, 3) := by decide +kernel
theorem dX12_bitsOf_45 : decode cX12_bitsOf 45 = .ok (.iload_n 1, 1) := by decide +kernel
theorem dX12_bitsOf_46 : decode cX12_bitsOf 46 = .ok (.iload 4, 2) := by decide +kernel
theorem dX12_bitsOf_48 : decode cX12_bitsOf 48 = .ok (.invokestatic 199, 3) := by decide +kernel
theorem dX12_bitsOf_51 : decode cX12_bitsOf 51 = .ok (.ifCond .eq 12, 3) := by decide +kernel
theorem dX12_bitsOf_54 : decode cX12_bitsOf 54 = .ok (.fload_n 3, 1) := by decide +kernel
theorem dX12_bitsOf_55 : decode cX12_bitsOf 55 = .ok (.aload_n 0, 1) := by decide +kernel
theorem dX12_bitsOf_56 : decode cX12_bitsOf 56 = .ok (.iload 4, 2) := by decide +kernel
theorem dX12_bitsOf_58 : decode cX12_bitsOf 58 = .ok (.invokevirtual 312, 3) := by decide +kernel
theorem dX12_bitsOf_61 : decode cX12_bitsOf 61 = .ok (.fadd, 1) := by decide +kernel
theorem dX12_bitsOf_62 : decode cX12_bitsOf 62 = .ok (.fstore_n 3, 1) := by decide +kernel
theorem dX12_bitsOf_63 : decode cX12_bitsOf 63 = .ok (.iinc 4 1, 3) := by decide +kernel
theorem dX12_bitsOf_66 : decode cX12_bitsOf 66 = .ok (.goto (-30), 3) := by decide +kernel
theorem dX12_bitsOf_69 : decode cX12_bitsOf 69 = .ok (.iload_n 2, 1) := by decide +kernel
theorem dX12_bitsOf_70 : decode cX12_bitsOf 70 = .ok (.ifCond .ne 10, 3) := by decide +kernel
theorem dX12_bitsOf_73 : decode cX12_bitsOf 73 = .ok (.fload_n 3, 1) := by decide +kernel
theorem dX12_bitsOf_74 : decode cX12_bitsOf 74 = .ok (.invokestatic 316, 3) := by decide +kernel
theorem dX12_bitsOf_77 : decode cX12_bitsOf 77 = .ok (.goto 9, 3) := by decide +kernel
theorem dX12_bitsOf_80 : decode cX12_bitsOf 80 = .ok (.fload_n 3, 1) := by decide +kernel
theorem dX12_bitsOf_81 : decode cX12_bitsOf 81 = .ok (.ldc_w 322, 3) := by decide +kernel
theorem dX12_bitsOf_84 : decode cX12_bitsOf 84 = .ok (.fmul, 1) := by decide +kernel
theorem dX12_bitsOf_85 : decode cX12_bitsOf 85 = .ok (.f2i, 1) := by decide +kernel
theorem dX12_bitsOf_86 : decode cX12_bitsOf 86 = .ok (.ireturn, 1) := by decide +kernel
theorem dX12_longBits_0 : decode cX12_longBits 0 = .ok (.aload_n 0, 1) := by decide +kernel
theorem dX12_longBits_1 : decode cX12_longBits 1 = .ok (.iload_n 1, 1) := by decide +kernel
theorem dX12_longBits_2 : decode cX12_longBits 2 = .ok (.invokevirtual 296, 3) := by decide +kernel
theorem dX12_longBits_5 : decode cX12_longBits 5 = .ok (.ifCond .ne 9, 3) := by decide +kernel
theorem dX12_longBits_8 : decode cX12_longBits 8 = .ok (.aload_n 0, 1) := by decide +kernel
theorem dX12_longBits_9 : decode cX12_longBits 9 = .ok (.iconst (-1), 1) := by decide +kernel
theorem dX12_longBits_10 : decode cX12_longBits 10 = .ok (.invokevirtual 178, 3) := by decide +kernel
theorem dX12_longBits_13 : decode cX12_longBits 13 = .ok (.lreturn, 1) := by decide +kernel
theorem dX12_longBits_14 : decode cX12_longBits 14 = .ok (.dconst 0, 1) := by decide +kernel
theorem dX12_longBits_15 : decode cX12_longBits 15 = .ok (.dstore_n 2, 1) := by decide +kernel
theorem dX12_longBits_16 : decode cX12_longBits 16 = .ok (.iconst 0, 1) := by decide +kernel
theorem dX12_longBits_17 : decode cX12_longBits 17 = .ok (.istore 4, 2) := by decide +kernel
theorem dX12_longBits_19 : decode cX12_longBits 19 = .ok (.iload 4, 2) := by decide +kernel
theorem dX12_longBits_21 : decode cX12_longBits 21 = .ok (.aload_n 0, 1) := by decide +kernel
theorem dX12_longBits_22 : decode cX12_longBits 22 = .ok (.getfield 238, 3) := by decide +kernel
theorem dX12_longBits_25 : decode cX12_longBits 25 = .ok (.if_icmp .ge 38, 3) := by decide +kernel
theorem dX12_longBits_28 : decode cX12_longBits 28 = .ok (.iload_n 1, 1) := by decide +kernel
theorem dX12_longBits_29 : decode cX12_longBits 29 = .ok (.iload 4, 2) := by decide +kernel
theorem dX12_longBits_31 : decode cX12_longBits 31 = .ok (.invokestatic 199, 3) := by decide +kernel
theorem dX12_longBits_34 : decode cX12_longBits 34 = .ok (.ifCond .eq 23, 3) := by decide +kernel
theorem dX12_longBits_37 : decode cX12_longBits 37 = .ok (.aload_n 0, 1) := by decide +kernel
theorem dX12_longBits_38 : decode cX12_longBits 38 = .ok (.iload 4, 2) := by decide +kernel
theorem dX12_longBits_40 : decode cX12_longBits 40 = .ok (.invokevirtual 282, 3) := by decide +kernel
theorem dX12_longBits_43 : decode cX12_longBits 43 = .ok (.dload_n 2, 1) := by decide +kernel
theorem dX12_longBits_44 : decode cX12_longBits 44 = .ok (.aload_n 0, 1) := by decide +kernel
theorem dX12_longBits_45 : decode cX12_longBits 45 = .ok (.getfield 250, 3) := by decide +kernel
theorem dX12_longBits_48 : decode cX12_longBits 48 = .ok (.l2d, 1) := by decide +kernel
theorem dX12_longBits_49 : decode cX12_longBits 49 = .ok (.aload_n 0, 1) := by decide +kernel
theorem dX12_longBits_50 : decode cX12_longBits 50 = .ok (.getfield 254, 3) := by decide +kernel
theorem dX12_longBits_53 : decode cX12_longBits 53 = .ok (.l2d, 1) := by decide +kernel
theorem dX12_longBits_54 : decode cX12_longBits 54 = .ok (.ddiv, 1) := by decide +kernel
theorem dX12_longBits_55 : decode cX12_longBits 55 = .ok (.dadd, 1) := by decide +kernel
theorem dX12_longBits_56 : decode cX12_longBits 56 = .ok (.dstore_n 2, 1) := by decide +kernel
theorem dX12_longBits_57 : decode cX12_longBits 57 = .ok (.iinc 4 1, 3) := by decide +kernel
theorem dX12_longBits_60 : decode cX12_longBits 60 = .ok (.goto (-41), 3) := by decide +kernel
theorem dX12_longBits_63 : decode cX12_longBits 63 = .ok (.dload_n 2, 1) := by decide +kernel
theorem dX12_longBits_64 : decode cX12_longBits 64 = .ok (.invokestatic 323, 3) := by decide +kernel
theorem dX12_longBits_67 : decode cX12_longBits 67 = .ok (.lreturn, 1) := by decide +kernel
theorem dX12_isRack_0 : decode cX12_isRack 0 = .ok (.iload_n 0, 1) := by decide +kernel
theorem dX12_isRack_1 : decode cX12_isRack 1 = .ok (.i2l, 1) := by decide +kernel
theorem dX12_isRack_2 : decode cX12_isRack 2 = .ok (.lconst 0, 1) := by decide +kernel
theorem dX12_isRack_3 : decode cX12_isRack 3 = .ok (.ldc2_w 230, 3) := by decide +kernel
theorem dX12_isRack_6 : decode cX12_isRack 6 = .ok (.invokestatic 123, 3) := by decide +kernel
theorem dX12_isRack_9 : decode cX12_isRack 9 = .ok (.ireturn, 1) := by decide +kernel
theorem dX12_rack_0 : decode cX12_rack 0 = .ok (.iload_n 1, 1) := by decide +kernel
theorem dX12_rack_1 : decode cX12_rack 1 = .ok (.invokestatic 329, 3) := by decide +kernel
theorem dX12_rack_4 : decode cX12_rack 4 = .ok (.ifCond .ne 9, 3) := by decide +kernel
theorem dX12_rack_7 : decode cX12_rack 7 = .ok (.aload_n 0, 1) := by decide +kernel
theorem dX12_rack_8 : decode cX12_rack 8 = .ok (.iconst (-1), 1) := by decide +kernel
theorem dX12_rack_9 : decode cX12_rack 9 = .ok (.invokevirtual 9, 3) := by decide +kernel
theorem dX12_rack_12 : decode cX12_rack 12 = .ok (.ireturn, 1) := by decide +kernel
theorem dX12_rack_13 : decode cX12_rack 13 = .ok (.iload_n 2, 1) := by decide +kernel
theorem dX12_rack_14 : decode cX12_rack 14 = .ok (.i2l, 1) := by decide +kernel
theorem dX12_rack_15 : decode cX12_rack 15 = .ok (.lconst 0, 1) := by decide +kernel
theorem dX12_rack_16 : decode cX12_rack 16 = .ok (.ldc2_w 241, 3) := by decide +kernel
theorem dX12_rack_19 : decode cX12_rack 19 = .ok (.invokestatic 123, 3) := by decide +kernel
theorem dX12_rack_22 : decode cX12_rack 22 = .ok (.ifCond .ne 10, 3) := by decide +kernel
theorem dX12_rack_25 : decode cX12_rack 25 = .ok (.aload_n 0, 1) := by decide +kernel
theorem dX12_rack_26 : decode cX12_rack 26 = .ok (.bipush (-2), 2) := by decide +kernel
theorem dX12_rack_28 : decode cX12_rack 28 = .ok (.invokevirtual 9, 3) := by decide +kernel
theorem dX12_rack_31 : decode cX12_rack 31 = .ok (.ireturn, 1) := by decide +kernel
theorem dX12_rack_32 : decode cX12_rack 32 = .ok (.iload_n 3, 1) := by decide +kernel
theorem dX12_rack_33 : decode cX12_rack 33 = .ok (.bipush 9, 2) := by decide +kernel
theorem dX12_rack_35 : decode cX12_rack 35 = .ok (.if_icmp .le 10, 3) := by decide +kernel
theorem dX12_rack_38 : decode cX12_rack 38 = .ok (.aload_n 0, 1) := by decide +kernel
theorem dX12_rack_39 : decode cX12_rack 39 = .ok (.bipush (-6), 2) := by decide +kernel
theorem dX12_rack_41 : decode cX12_rack 41 = .ok (.invokevirtual 9, 3) := by decide +kernel
theorem dX12_rack_44 : decode cX12_rack 44 = .ok (.ireturn, 1) := by decide +kernel
theorem dX12_rack_45 : decode cX12_rack 45 = .ok (.iload_n 3, 1) := by decide +kernel
theorem dX12_rack_46 : decode cX12_rack 46 = .ok (.ifCond .ge 6, 3) := by decide +kernel
theorem dX12_rack_49 : decode cX12_rack 49 = .ok (.bipush (-14), 2) := by decide +kernel
theorem dX12_rack_51 : decode cX12_rack 51 = .ok (.ireturn, 1) := by decide +kernel
theorem dX12_rack_52 : decode cX12_rack 52 = .ok (.aload_n 0, 1) := by decide +kernel
theorem dX12_rack_53 : decode cX12_rack 53 = .ok (.getfield 73, 3) := by decide +kernel
theorem dX12_rack_56 : decode cX12_rack 56 = .ok (.iload_n 1, 1) := by decide +kernel
theorem dX12_rack_57 : decode cX12_rack 57 = .ok (.iload_n 2, 1) := by decide +kernel
theorem dX12_rack_58 : decode cX12_rack 58 = .ok (.iastore, 1) := by decide +kernel
theorem dX12_rack_59 : decode cX12_rack 59 = .ok (.aload_n 0, 1) := by decide +kernel
theorem dX12_rack_60 : decode cX12_rack 60 = .ok (.getfield 76, 3) := by decide +kernel
theorem dX12_rack_63 : decode cX12_rack 63 = .ok (.iload_n 1, 1) := by decide +kernel
theorem dX12_rack_64 : decode cX12_rack 64 = .ok (.iload_n 3, 1) := by decide +kernel
theorem dX12_rack_65 : decode cX12_rack 65 = .ok (.iastore, 1) := by decide +kernel
theorem dX12_rack_66 : decode cX12_rack 66 = .ok (.iconst 0, 1) := by decide +kernel
theorem dX12_rack_67 : decode cX12_rack 67 = .ok (.istore 4, 2) := by decide +kernel
theorem dX12_rack_69 : decode cX12_rack 69 = .ok (.iload 4, 2) := by decide +kernel
theorem dX12_rack_71 : decode cX12_rack 71 = .ok (.bipush 9, 2) := by decide +kernel
theorem dX12_rack_73 : decode cX12_rack 73 = .ok (.if_icmp .ge 23, 3) := by decide +kernel
theorem dX12_rack_76 : decode cX12_rack 76 = .ok (.aload_n 0, 1) := by decide +kernel
theorem dX12_rack_77 : decode cX12_rack 77 = .ok (.getfield 79, 3) := by decide +kernel
theorem dX12_rack_80 : decode cX12_rack 80 = .ok (.bipush 9, 2) := by decide +kernel
theorem dX12_rack_82 : decode cX12_rack 82 = .ok (.iload_n 1, 1) := by decide +kernel
theorem dX12_rack_83 : decode cX12_rack 83 = .ok (.imul, 1) := by decide +kernel
theorem dX12_rack_84 : decode cX12_rack 84 = .ok (.iload 4, 2) := by decide +kernel
theorem dX12_rack_86 : decode cX12_rack 86 = .ok (.iadd, 1) := by decide +kernel
theorem dX12_rack_87 : decode cX12_rack 87 = .ok (.bipush (-9), 2) := by decide +kernel
theorem dX12_rack_89 : decode cX12_rack 89 = .ok (.iastore, 1) := by decide +kernel
theorem dX12_rack_90 : decode cX12_rack 90 = .ok (.iinc 4 1, 3) := by decide +kernel
theorem dX12_rack_93 : decode cX12_rack 93 = .ok (.goto (-24), 3) := by decide +kernel
theorem dX12_rack_96 : decode cX12_rack 96 = .ok (.iconst 1, 1) := by decide +kernel
theorem dX12_rack_97 : decode cX12_rack 97 = .ok (.ireturn, 1) := by decide +kernel
theorem dX12_racks_0 : decode cX12_racks 0 = .ok (.iload_n 1, 1) := by decide +kernel
theorem dX12_racks_1 : decode cX12_racks 1 = .ok (.invokestatic 329, 3) := by decide +kernel
theorem dX12_racks_4 : decode cX12_racks 4 = .ok (.ifCond .eq 16, 3) := by decide +kernel
theorem dX12_racks_7 : decode cX12_racks 7 = .ok (.iload_n 3, 1) := by decide +kernel
theorem dX12_racks_8 : decode cX12_racks 8 = .ok (.iconst (-1), 1) := by decide +kernel
theorem dX12_racks_9 : decode cX12_racks 9 = .ok (.if_icmp .eq 17, 3) := by decide +kernel
theorem dX12_racks_12 : decode cX12_racks 12 = .ok (.aload_n 0, 1) := by decide +kernel
theorem dX12_racks_13 : decode cX12_racks 13 = .ok (.iload_n 3, 1) := by decide +kernel
theorem dX12_racks_14 : decode cX12_racks 14 = .ok (.invokevirtual 285, 3) := by decide +kernel
theorem dX12_racks_17 : decode cX12_racks 17 = .ok (.ifCond .ne 9, 3) := by decide +kernel
theorem dX12_racks_20 : decode cX12_racks 20 = .ok (.aload_n 0, 1) := by decide +kernel
theorem dX12_racks_21 : decode cX12_racks 21 = .ok (.iconst (-1), 1) := by decide +kernel
theorem dX12_racks_22 : decode cX12_racks 22 = .ok (.invokevirtual 9, 3) := by decide +kernel
theorem dX12_racks_25 : decode cX12_racks 25 = .ok (.ireturn, 1) := by decide +kernel
theorem dX12_racks_26 : decode cX12_racks 26 = .ok (.aload_n 0, 1) := by decide +kernel
theorem dX12_racks_27 : decode cX12_racks 27 = .ok (.getfield 73, 3) := by decide +kernel
theorem dX12_racks_30 : decode cX12_racks 30 = .ok (.iload_n 1, 1) := by decide +kernel
theorem dX12_racks_31 : decode cX12_racks 31 = .ok (.iaload, 1) := by decide +kernel
theorem dX12_racks_32 : decode cX12_racks 32 = .ok (.bipush (-9), 2) := by decide +kernel
theorem dX12_racks_34 : decode cX12_racks 34 = .ok (.if_icmp .ne 6, 3) := by decide +kernel
theorem dX12_racks_37 : decode cX12_racks 37 = .ok (.bipush (-11), 2) := by decide +kernel
theorem dX12_racks_39 : decode cX12_racks 39 = .ok (.ireturn, 1) := by decide +kernel
theorem dX12_racks_40 : decode cX12_racks 40 = .ok (.iload_n 2, 1) := by decide +kernel
theorem dX12_racks_41 : decode cX12_racks 41 = .ok (.i2l, 1) := by decide +kernel
theorem dX12_racks_42 : decode cX12_racks 42 = .ok (.lconst 0, 1) := by decide +kernel
theorem dX12_racks_43 : decode cX12_racks 43 = .ok (.aload_n 0, 1) := by decide +kernel
theorem dX12_racks_44 : decode cX12_racks 44 = .ok (.getfield 76, 3) := by decide +kernel
theorem dX12_racks_47 : decode cX12_racks 47 = .ok (.iload_n 1, 1) := by decide +kernel
theorem dX12_racks_48 : decode cX12_racks 48 = .ok (.iaload, 1) := by decide +kernel
theorem dX12_racks_49 : decode cX12_racks 49 = .ok (.iconst 1, 1) := by decide +kernel
theorem dX12_racks_50 : decode cX12_racks 50 = .ok (.isub, 1) := by decide +kernel
theorem dX12_racks_51 : decode cX12_racks 51 = .ok (.i2l, 1) := by decide +kernel
theorem dX12_racks_52 : decode cX12_racks 52 = .ok (.invokestatic 123, 3) := by decide +kernel
theorem dX12_racks_55 : decode cX12_racks 55 = .ok (.ifCond .ne 6, 3) := by decide +kernel
theorem dX12_racks_58 : decode cX12_racks 58 = .ok (.bipush (-13), 2) := by decide +kernel
theorem dX12_racks_60 : decode cX12_racks 60 = .ok (.ireturn, 1) := by decide +kernel
theorem dX12_racks_61 : decode cX12_racks 61 = .ok (.iload_n 3, 1) := by decide +kernel
theorem dX12_racks_62 : decode cX12_racks 62 = .ok (.iconst (-1), 1) := by decide +kernel
theorem dX12_racks_63 : decode cX12_racks 63 = .ok (.if_icmp .eq 24, 3) := by decide +kernel
theorem dX12_racks_66 : decode cX12_racks 66 = .ok (.aload_n 0, 1) := by decide +kernel
theorem dX12_racks_67 : decode cX12_racks 67 = .ok (.getfield 67, 3) := by decide +kernel
theorem dX12_racks_70 : decode cX12_racks 70 = .ok (.iload_n 3, 1) := by decide +kernel
theorem dX12_racks_71 : decode cX12_racks 71 = .ok (.iaload, 1) := by decide +kernel
theorem dX12_racks_72 : decode cX12_racks 72 = .ok (.aload_n 0, 1) := by decide +kernel
theorem dX12_racks_73 : decode cX12_racks 73 = .ok (.getfield 73, 3) := by decide +kernel
theorem dX12_racks_76 : decode cX12_racks 76 = .ok (.iload_n 1, 1) := by decide +kernel
theorem dX12_racks_77 : decode cX12_racks 77 = .ok (.iaload, 1) := by decide +kernel
theorem dX12_racks_78 : decode cX12_racks 78 = .ok (.invokestatic 279, 3) := by decide +kernel
theorem dX12_racks_81 : decode cX12_racks 81 = .ok (.ifCond .ne 6, 3) := by decide +kernel
theorem dX12_racks_84 : decode cX12_racks 84 = .ok (.bipush (-16), 2) := by decide +kernel
theorem dX12_racks_86 : decode cX12_racks 86 = .ok (.ireturn, 1) := by decide +kernel
theorem dX12_racks_87 : decode cX12_racks 87 = .ok (.aload_n 0, 1) := by decide +kernel
theorem dX12_racks_88 : decode cX12_racks 88 = .ok (.getfield 79, 3) := by decide +kernel
theorem dX12_racks_91 : decode cX12_racks 91 = .ok (.bipush 9, 2) := by decide +kernel
theorem dX12_racks_93 : decode cX12_racks 93 = .ok (.iload_n 1, 1) := by decide +kernel
theorem dX12_racks_94 : decode cX12_racks 94 = .ok (.imul, 1) := by decide +kernel
theorem dX12_racks_95 : decode cX12_racks 95 = .ok (.iload_n 2, 1) := by decide +kernel
theorem dX12_racks_96 : decode cX12_racks 96 = .ok (.iadd, 1) := by decide +kernel
theorem dX12_racks_97 : decode cX12_racks 97 = .ok (.iload_n 3, 1) := by decide +kernel
theorem dX12_racks_98 : decode cX12_racks 98 = .ok (.iconst (-1), 1) := by decide +kernel
theorem dX12_racks_99 : decode cX12_racks 99 = .ok (.if_icmp .ne 8, 3) := by decide +kernel
theorem dX12_racks_102 : decode cX12_racks 102 = .ok (.bipush (-9), 2) := by decide +kernel
theorem dX12_racks_104 : decode cX12_racks 104 = .ok (.goto 9, 3) := by decide +kernel
theorem dX12_racks_107 : decode cX12_racks 107 = .ok (.aload_n 0, 1) := by decide +kernel
theorem dX12_racks_108 : decode cX12_racks 108 = .ok (.getfield 67, 3) := by decide +kernel
theorem dX12_racks_111 : decode cX12_racks 111 = .ok (.iload_n 3, 1) := by decide +kernel
theorem dX12_racks_112 : decode cX12_racks 112 = .ok (.iaload, 1) := by decide +kernel
theorem dX12_racks_113 : decode cX12_racks 113 = .ok (.iastore, 1) := by decide +kernel
theorem dX12_racks_114 : decode cX12_racks 114 = .ok (.aload_n 0, 1) := by decide +kernel
theorem dX12_racks_115 : decode cX12_racks 115 = .ok (.getfield 82, 3) := by decide +kernel
theorem dX12_racks_118 : decode cX12_racks 118 = .ok (.bipush 9, 2) := by decide +kernel
theorem dX12_racks_120 : decode cX12_racks 120 = .ok (.iload_n 1, 1) := by decide +kernel
theorem dX12_racks_121 : decode cX12_racks 121 = .ok (.imul, 1) := by decide +kernel
theorem dX12_racks_122 : decode cX12_racks 122 = .ok (.iload_n 2, 1) := by decide +kernel
theorem dX12_racks_123 : decode cX12_racks 123 = .ok (.iadd, 1) := by decide +kernel
theorem dX12_racks_124 : decode cX12_racks 124 = .ok (.iload_n 3, 1) := by decide +kernel
theorem dX12_racks_125 : decode cX12_racks 125 = .ok (.iconst (-1), 1) := by decide +kernel
theorem dX12_racks_126 : decode cX12_racks 126 = .ok (.if_icmp .ne 7, 3) := by decide +kernel
theorem dX12_racks_129 : decode cX12_racks 129 = .ok (.iconst 0, 1) := by decide +kernel
theorem dX12_racks_130 : decode cX12_racks 130 = .ok (.goto 8, 3) := by decide +kernel
theorem dX12_racks_133 : decode cX12_racks 133 = .ok (.aload_n 0, 1) := by decide +kernel
theorem dX12_racks_134 : decode cX12_racks 134 = .ok (.iload_n 3, 1) := by decide +kernel
theorem dX12_racks_135 : decode cX12_racks 135 = .ok (.invokevirtual 291, 3) := by decide +kernel
theorem dX12_racks_138 : decode cX12_racks 138 = .ok (.iastore, 1) := by decide +kernel
theorem dX12_racks_139 : decode cX12_racks 139 = .ok (.iconst 1, 1) := by decide +kernel
theorem dX12_racks_140 : decode cX12_racks 140 = .ok (.ireturn, 1) := by decide +kernel
theorem dX12_racked_0 : decode cX12_racked 0 = .ok (.iload_n 1, 1) := by decide +kernel
theorem dX12_racked_1 : decode cX12_racked 1 = .ok (.invokestatic 329, 3) := by decide +kernel
theorem dX12_racked_4 : decode cX12_racked 4 = .ok (.ifCond .ne 9, 3) := by decide +kernel
theorem dX12_racked_7 : decode cX12_racked 7 = .ok (.aload_n 0, 1) := by decide +kernel
theorem dX12_racked_8 : decode cX12_racked 8 = .ok (.iconst (-1), 1) := by decide +kernel
theorem dX12_racked_9 : decode cX12_racked 9 = .ok (.invokevirtual 9, 3) := by decide +kernel
theorem dX12_racked_12 : decode cX12_racked 12 = .ok (.ireturn, 1) := by decide +kernel
theorem dX12_racked_13 : decode cX12_racked 13 = .ok (.iload_n 3, 1) := by decide +kernel
theorem dX12_racked_14 : decode cX12_racked 14 = .ok (.i2l, 1) := by decide +kernel
theorem dX12_racked_15 : decode cX12_racked 15 = .ok (.lconst 0, 1) := by decide +kernel
theorem dX12_racked_16 : decode cX12_racked 16 = .ok (.lconst 1, 1) := by decide +kernel
theorem dX12_racked_17 : decode cX12_racked 17 = .ok (.invokestatic 123, 3) := by decide +kernel
theorem dX12_racked_20 : decode cX12_racked 20 = .ok (.ifCond .ne 10, 3) := by decide +kernel
theorem dX12_racked_23 : decode cX12_racked 23 = .ok (.aload_n 0, 1) := by decide +kernel
theorem dX12_racked_24 : decode cX12_racked 24 = .ok (.bipush (-2), 2) := by decide +kernel
theorem dX12_racked_26 : decode cX12_racked 26 = .ok (.invokevirtual 9, 3) := by decide +kernel
theorem dX12_racked_29 : decode cX12_racked 29 = .ok (.ireturn, 1) := by decide +kernel
theorem dX12_racked_30 : decode cX12_racked 30 = .ok (.aload_n 0, 1) := by decide +kernel
theorem dX12_racked_31 : decode cX12_racked 31 = .ok (.getfield 73, 3) := by decide +kernel
theorem dX12_racked_34 : decode cX12_racked 34 = .ok (.iload_n 1, 1) := by decide +kernel
theorem dX12_racked_35 : decode cX12_racked 35 = .ok (.iaload, 1) := by decide +kernel
theorem dX12_racked_36 : decode cX12_racked 36 = .ok (.bipush (-9), 2) := by decide +kernel
theorem dX12_racked_38 : decode cX12_racked 38 = .ok (.if_icmp .ne 6, 3) := by decide +kernel
theorem dX12_racked_41 : decode cX12_racked 41 = .ok (.bipush (-11), 2) := by decide +kernel
theorem dX12_racked_43 : decode cX12_racked 43 = .ok (.ireturn, 1) := by decide +kernel
theorem dX12_racked_44 : decode cX12_racked 44 = .ok (.iload_n 2, 1) := by decide +kernel
theorem dX12_racked_45 : decode cX12_racked 45 = .ok (.i2l, 1) := by decide +kernel
theorem dX12_racked_46 : decode cX12_racked 46 = .ok (.lconst 0, 1) := by decide +kernel
theorem dX12_racked_47 : decode cX12_racked 47 = .ok (.aload_n 0, 1) := by decide +kernel
theorem dX12_racked_48 : decode cX12_racked 48 = .ok (.getfield 76, 3) := by decide +kernel
theorem dX12_racked_51 : decode cX12_racked 51 = .ok (.iload_n 1, 1) := by decide +kernel
theorem dX12_racked_52 : decode cX12_racked 52 = .ok (.iaload, 1) := by decide +kernel
theorem dX12_racked_53 : decode cX12_racked 53 = .ok (.iconst 1, 1) := by decide +kernel
theorem dX12_racked_54 : decode cX12_racked 54 = .ok (.isub, 1) := by decide +kernel
theorem dX12_racked_55 : decode cX12_racked 55 = .ok (.i2l, 1) := by decide +kernel
theorem dX12_racked_56 : decode cX12_racked 56 = .ok (.invokestatic 123, 3) := by decide +kernel
theorem dX12_racked_59 : decode cX12_racked 59 = .ok (.ifCond .ne 6, 3) := by decide +kernel
theorem dX12_racked_62 : decode cX12_racked 62 = .ok (.bipush (-13), 2) := by decide +kernel
theorem dX12_racked_64 : decode cX12_racked 64 = .ok (.ireturn, 1) := by decide +kernel
theorem dX12_racked_65 : decode cX12_racked 65 = .ok (.aload_n 0, 1) := by decide +kernel
theorem dX12_racked_66 : decode cX12_racked 66 = .ok (.getfield 79, 3) := by decide +kernel
theorem dX12_racked_69 : decode cX12_racked 69 = .ok (.bipush 9, 2) := by decide +kernel
theorem dX12_racked_71 : decode cX12_racked 71 = .ok (.iload_n 1, 1) := by decide +kernel
theorem dX12_racked_72 : decode cX12_racked 72 = .ok (.imul, 1) := by decide +kernel
theorem dX12_racked_73 : decode cX12_racked 73 = .ok (.iload_n 2, 1) := by decide +kernel
theorem dX12_racked_74 : decode cX12_racked 74 = .ok (.iadd, 1) := by decide +kernel
theorem dX12_racked_75 : decode cX12_racked 75 = .ok (.iaload, 1) := by decide +kernel
theorem dX12_racked_76 : decode cX12_racked 76 = .ok (.istore 4, 2) := by decide +kernel
theorem dX12_racked_78 : decode cX12_racked 78 = .ok (.iload 4, 2) := by decide +kernel
theorem dX12_racked_80 : decode cX12_racked 80 = .ok (.bipush (-9), 2) := by decide +kernel
theorem dX12_racked_82 : decode cX12_racked 82 = .ok (.if_icmp .ne 8, 3) := by decide +kernel
theorem dX12_racked_85 : decode cX12_racked 85 = .ok (.bipush (-9), 2) := by decide +kernel
theorem dX12_racked_87 : decode cX12_racked 87 = .ok (.goto 26, 3) := by decide +kernel
theorem dX12_racked_90 : decode cX12_racked 90 = .ok (.iload_n 3, 1) := by decide +kernel
theorem dX12_racked_91 : decode cX12_racked 91 = .ok (.ifCond .ne 8, 3) := by decide +kernel
theorem dX12_racked_94 : decode cX12_racked 94 = .ok (.iload 4, 2) := by decide +kernel
theorem dX12_racked_96 : decode cX12_racked 96 = .ok (.goto 17, 3) := by decide +kernel
theorem dX12_racked_99 : decode cX12_racked 99 = .ok (.bipush 100, 2) := by decide +kernel
theorem dX12_racked_101 : decode cX12_racked 101 = .ok (.aload_n 0, 1) := by decide +kernel
theorem dX12_racked_102 : decode cX12_racked 102 = .ok (.getfield 82, 3) := by decide +kernel
theorem dX12_racked_105 : decode cX12_racked 105 = .ok (.bipush 9, 2) := by decide +kernel
theorem dX12_racked_107 : decode cX12_racked 107 = .ok (.iload_n 1, 1) := by decide +kernel
theorem dX12_racked_108 : decode cX12_racked 108 = .ok (.imul, 1) := by decide +kernel
theorem dX12_racked_109 : decode cX12_racked 109 = .ok (.iload_n 2, 1) := by decide +kernel
theorem dX12_racked_110 : decode cX12_racked 110 = .ok (.iadd, 1) := by decide +kernel
theorem dX12_racked_111 : decode cX12_racked 111 = .ok (.iaload, 1) := by decide +kernel
theorem dX12_racked_112 : decode cX12_racked 112 = .ok (.iadd, 1) := by decide +kernel
theorem dX12_racked_113 : decode cX12_racked 113 = .ok (.ireturn, 1) := by decide +kernel
theorem dX12_like_0 : decode cX12_like 0 = .ok (.iload_n 1, 1) := by decide +kernel
theorem dX12_like_1 : decode cX12_like 1 = .ok (.invokestatic 329, 3) := by decide +kernel
theorem dX12_like_4 : decode cX12_like 4 = .ok (.ifCond .eq 10, 3) := by decide +kernel
theorem dX12_like_7 : decode cX12_like 7 = .ok (.iload_n 2, 1) := by decide +kernel
theorem dX12_like_8 : decode cX12_like 8 = .ok (.invokestatic 329, 3) := by decide +kernel
theorem dX12_like_11 : decode cX12_like 11 = .ok (.ifCond .ne 9, 3) := by decide +kernel
theorem dX12_like_14 : decode cX12_like 14 = .ok (.aload_n 0, 1) := by decide +kernel
theorem dX12_like_15 : decode cX12_like 15 = .ok (.iconst (-1), 1) := by decide +kernel
theorem dX12_like_16 : decode cX12_like 16 = .ok (.invokevirtual 9, 3) := by decide +kernel
theorem dX12_like_19 : decode cX12_like 19 = .ok (.ireturn, 1) := by decide +kernel
theorem dX12_like_20 : decode cX12_like 20 = .ok (.aload_n 0, 1) := by decide +kernel
theorem dX12_like_21 : decode cX12_like 21 = .ok (.getfield 73, 3) := by decide +kernel
theorem dX12_like_24 : decode cX12_like 24 = .ok (.iload_n 2, 1) := by decide +kernel
theorem dX12_like_25 : decode cX12_like 25 = .ok (.iaload, 1) := by decide +kernel
theorem dX12_like_26 : decode cX12_like 26 = .ok (.bipush (-9), 2) := by decide +kernel
theorem dX12_like_28 : decode cX12_like 28 = .ok (.if_icmp .ne 6, 3) := by decide +kernel
theorem dX12_like_31 : decode cX12_like 31 = .ok (.bipush (-11), 2) := by decide +kernel
theorem dX12_like_33 : decode cX12_like 33 = .ok (.ireturn, 1) := by decide +kernel
theorem dX12_like_34 : decode cX12_like 34 = .ok (.aload_n 0, 1) := by decide +kernel
theorem dX12_like_35 : decode cX12_like 35 = .ok (.getfield 73, 3) := by decide +kernel
theorem dX12_like_38 : decode cX12_like 38 = .ok (.iload_n 1, 1) := by decide +kernel
theorem dX12_like_39 : decode cX12_like 39 = .ok (.aload_n 0, 1) := by decide +kernel
theorem dX12_like_40 : decode cX12_like 40 = .ok (.getfield 73, 3) := by decide +kernel
theorem dX12_like_43 : decode cX12_like 43 = .ok (.iload_n 2, 1) := by decide +kernel
theorem dX12_like_44 : decode cX12_like 44 = .ok (.iaload, 1) := by decide +kernel
theorem dX12_like_45 : decode cX12_like 45 = .ok (.iastore, 1) := by decide +kernel
theorem dX12_like_46 : decode cX12_like 46 = .ok (.aload_n 0, 1) := by decide +kernel
theorem dX12_like_47 : decode cX12_like 47 = .ok (.getfield 76, 3) := by decide +kernel
theorem dX12_like_50 : decode cX12_like 50 = .ok (.iload_n 1, 1) := by decide +kernel
theorem dX12_like_51 : decode cX12_like 51 = .ok (.aload_n 0, 1) := by decide +kernel
theorem dX12_like_52 : decode cX12_like 52 = .ok (.getfield 76, 3) := by decide +kernel
theorem dX12_like_55 : decode cX12_like 55 = .ok (.iload_n 2, 1) := by decide +kernel
theorem dX12_like_56 : decode cX12_like 56 = .ok (.iaload, 1) := by decide +kernel
theorem dX12_like_57 : decode cX12_like 57 = .ok (.iastore, 1) := by decide +kernel
theorem dX12_like_58 : decode cX12_like 58 = .ok (.iconst 0, 1) := by decide +kernel
theorem dX12_like_59 : decode cX12_like 59 = .ok (.istore_n 3, 1) := by decide +kernel
theorem dX12_like_60 : decode cX12_like 60 = .ok (.iload_n 3, 1) := by decide +kernel
theorem dX12_like_61 : decode cX12_like 61 = .ok (.bipush 9, 2) := by decide +kernel
theorem dX12_like_63 : decode cX12_like 63 = .ok (.if_icmp .ge 53, 3) := by decide +kernel
theorem dX12_like_66 : decode cX12_like 66 = .ok (.aload_n 0, 1) := by decide +kernel
theorem dX12_like_67 : decode cX12_like 67 = .ok (.getfield 79, 3) := by decide +kernel
theorem dX12_like_70 : decode cX12_like 70 = .ok (.bipush 9, 2) := by decide +kernel
theorem dX12_like_72 : decode cX12_like 72 = .ok (.iload_n 1, 1) := by decide +kernel
theorem dX12_like_73 : decode cX12_like 73 = .ok (.imul, 1) := by decide +kernel
theorem dX12_like_74 : decode cX12_like 74 = .ok (.iload_n 3, 1) := by decide +kernel
theorem dX12_like_75 : decode cX12_like 75 = .ok (.iadd, 1) := by decide +kernel
theorem dX12_like_76 : decode cX12_like 76 = .ok (.aload_n 0, 1) := by decide +kernel
theorem dX12_like_77 : decode cX12_like 77 = .ok (.getfield 79, 3) := by decide +kernel
theorem dX12_like_80 : decode cX12_like 80 = .ok (.bipush 9, 2) := by decide +kernel
theorem dX12_like_82 : decode cX12_like 82 = .ok (.iload_n 2, 1) := by decide +kernel
theorem dX12_like_83 : decode cX12_like 83 = .ok (.imul, 1) := by decide +kernel
theorem dX12_like_84 : decode cX12_like 84 = .ok (.iload_n 3, 1) := by decide +kernel
theorem dX12_like_85 : decode cX12_like 85 = .ok (.iadd, 1) := by decide +kernel
theorem dX12_like_86 : decode cX12_like 86 = .ok (.iaload, 1) := by decide +kernel
theorem dX12_like_87 : decode cX12_like 87 = .ok (.iastore, 1) := by decide +kernel
theorem dX12_like_88 : decode cX12_like 88 = .ok (.aload_n 0, 1) := by decide +kernel
theorem dX12_like_89 : decode cX12_like 89 = .ok (.getfield 82, 3) := by decide +kernel
theorem dX12_like_92 : decode cX12_like 92 = .ok (.bipush 9, 2) := by decide +kernel
theorem dX12_like_94 : decode cX12_like 94 = .ok (.iload_n 1, 1) := by decide +kernel
theorem dX12_like_95 : decode cX12_like 95 = .ok (.imul, 1) := by decide +kernel
theorem dX12_like_96 : decode cX12_like 96 = .ok (.iload_n 3, 1) := by decide +kernel
theorem dX12_like_97 : decode cX12_like 97 = .ok (.iadd, 1) := by decide +kernel
theorem dX12_like_98 : decode cX12_like 98 = .ok (.aload_n 0, 1) := by decide +kernel
theorem dX12_like_99 : decode cX12_like 99 = .ok (.getfield 82, 3) := by decide +kernel
theorem dX12_like_102 : decode cX12_like 102 = .ok (.bipush 9, 2) := by decide +kernel
theorem dX12_like_104 : decode cX12_like 104 = .ok (.iload_n 2, 1) := by decide +kernel
theorem dX12_like_105 : decode cX12_like 105 = .ok (.imul, 1) := by decide +kernel
theorem dX12_like_106 : decode cX12_like 106 = .ok (.iload_n 3, 1) := by decide +kernel
theorem dX12_like_107 : decode cX12_like 107 = .ok (.iadd, 1) := by decide +kernel
theorem dX12_like_108 : decode cX12_like 108 = .ok (.iaload, 1) := by decide +kernel
theorem dX12_like_109 : decode cX12_like 109 = .ok (.iastore, 1) := by decide +kernel
theorem dX12_like_110 : decode cX12_like 110 = .ok (.iinc 3 1, 3) := by decide +kernel
theorem dX12_like_113 : decode cX12_like 113 = .ok (.goto (-53), 3) := by decide +kernel
theorem dX12_like_116 : decode cX12_like 116 = .ok (.aload_n 0, 1) := by decide +kernel
theorem dX12_like_117 : decode cX12_like 117 = .ok (.getfield 76, 3) := by decide +kernel
theorem dX12_like_120 : decode cX12_like 120 = .ok (.iload_n 1, 1) := by decide +kernel
theorem dX12_like_121 : decode cX12_like 121 = .ok (.iaload, 1) := by decide +kernel
theorem dX12_like_122 : decode cX12_like 122 = .ok (.ireturn, 1) := by decide +kernel
theorem dX12_isList_0 : decode cX12_isList 0 = .ok (.iload_n 0, 1) := by decide +kernel
theorem dX12_isList_1 : decode cX12_isList 1 = .ok (.i2l, 1) := by decide +kernel
theorem dX12_isList_2 : decode cX12_isList 2 = .ok (.lconst 0, 1) := by decide +kernel
theorem dX12_isList_3 : decode cX12_isList 3 = .ok (.ldc2_w 230, 3) := by decide +kernel
theorem dX12_isList_6 : decode cX12_isList 6 = .ok (.invokestatic 123, 3) := by decide +kernel
theorem dX12_isList_9 : decode cX12_isList 9 = .ok (.ireturn, 1) := by decide +kernel
theorem dX12_list_0 : decode cX12_list 0 = .ok (.iload_n 1, 1) := by decide +kernel
theorem dX12_list_1 : decode cX12_list 1 = .ok (.invokestatic 332, 3) := by decide +kernel
theorem dX12_list_4 : decode cX12_list 4 = .ok (.ifCond .ne 9, 3) := by decide +kernel
theorem dX12_list_7 : decode cX12_list 7 = .ok (.aload_n 0, 1) := by decide +kernel
theorem dX12_list_8 : decode cX12_list 8 = .ok (.iconst (-1), 1) := by decide +kernel
theorem dX12_list_9 : decode cX12_list 9 = .ok (.invokevirtual 9, 3) := by decide +kernel
theorem dX12_list_12 : decode cX12_list 12 = .ok (.ireturn, 1) := by decide +kernel
theorem dX12_list_13 : decode cX12_list 13 = .ok (.iload_n 2, 1) := by decide +kernel
theorem dX12_list_14 : decode cX12_list 14 = .ok (.bipush 40, 2) := by decide +kernel
theorem dX12_list_16 : decode cX12_list 16 = .ok (.if_icmp .le 10, 3) := by decide +kernel
theorem dX12_list_19 : decode cX12_list 19 = .ok (.aload_n 0, 1) := by decide +kernel
theorem dX12_list_20 : decode cX12_list 20 = .ok (.bipush (-6), 2) := by decide +kernel
theorem dX12_list_22 : decode cX12_list 22 = .ok (.invokevirtual 9, 3) := by decide +kernel
theorem dX12_list_25 : decode cX12_list 25 = .ok (.ireturn, 1) := by decide +kernel
theorem dX12_list_26 : decode cX12_list 26 = .ok (.iload_n 2, 1) := by decide +kernel
theorem dX12_list_27 : decode cX12_list 27 = .ok (.ifCond .ge 6, 3) := by decide +kernel
theorem dX12_list_30 : decode cX12_list 30 = .ok (.bipush (-14), 2) := by decide +kernel
theorem dX12_list_32 : decode cX12_list 32 = .ok (.ireturn, 1) := by decide +kernel
theorem dX12_list_33 : decode cX12_list 33 = .ok (.aload_n 0, 1) := by decide +kernel
theorem dX12_list_34 : decode cX12_list 34 = .ok (.getfield 85, 3) := by decide +kernel
theorem dX12_list_37 : decode cX12_list 37 = .ok (.iload_n 1, 1) := by decide +kernel
theorem dX12_list_38 : decode cX12_list 38 = .ok (.iload_n 2, 1) := by decide +kernel
theorem dX12_list_39 : decode cX12_list 39 = .ok (.iastore, 1) := by decide +kernel
theorem dX12_list_40 : decode cX12_list 40 = .ok (.iconst 0, 1) := by decide +kernel
theorem dX12_list_41 : decode cX12_list 41 = .ok (.istore_n 3, 1) := by decide +kernel
theorem dX12_list_42 : decode cX12_list 42 = .ok (.iload_n 3, 1) := by decide +kernel
theorem dX12_list_43 : decode cX12_list 43 = .ok (.bipush 40, 2) := by decide +kernel
theorem dX12_list_45 : decode cX12_list 45 = .ok (.if_icmp .ge 21, 3) := by decide +kernel
theorem dX12_list_48 : decode cX12_list 48 = .ok (.aload_n 0, 1) := by decide +kernel
theorem dX12_list_49 : decode cX12_list 49 = .ok (.getfield 88, 3) := by decide +kernel
theorem dX12_list_52 : decode cX12_list 52 = .ok (.bipush 40, 2) := by decide +kernel
theorem dX12_list_54 : decode cX12_list 54 = .ok (.iload_n 1, 1) := by decide +kernel
theorem dX12_list_55 : decode cX12_list 55 = .ok (.imul, 1) := by decide +kernel
theorem dX12_list_56 : decode cX12_list 56 = .ok (.iload_n 3, 1) := by decide +kernel
theorem dX12_list_57 : decode cX12_list 57 = .ok (.iadd, 1) := by decide +kernel
theorem dX12_list_58 : decode cX12_list 58 = .ok (.iconst 0, 1) := by decide +kernel
theorem dX12_list_59 : decode cX12_list 59 = .ok (.iastore, 1) := by decide +kernel
theorem dX12_list_60 : decode cX12_list 60 = .ok (.iinc 3 1, 3) := by decide +kernel
theorem dX12_list_63 : decode cX12_list 63 = .ok (.goto (-21), 3) := by decide +kernel
theorem dX12_list_66 : decode cX12_list 66 = .ok (.iconst 1, 1) := by decide +kernel
theorem dX12_list_67 : decode cX12_list 67 = .ok (.ireturn, 1) := by decide +kernel
theorem dX12_put_0 : decode cX12_put 0 = .ok (.iload_n 1, 1) := by decide +kernel
theorem dX12_put_1 : decode cX12_put 1 = .ok (.invokestatic 332, 3) := by decide +kernel
theorem dX12_put_4 : decode cX12_put 4 = .ok (.ifCond .ne 9, 3) := by decide +kernel
theorem dX12_put_7 : decode cX12_put 7 = .ok (.aload_n 0, 1) := by decide +kernel
theorem dX12_put_8 : decode cX12_put 8 = .ok (.iconst (-1), 1) := by decide +kernel
theorem dX12_put_9 : decode cX12_put 9 = .ok (.invokevirtual 9, 3) := by decide +kernel
theorem dX12_put_12 : decode cX12_put 12 = .ok (.ireturn, 1) := by decide +kernel
theorem dX12_put_13 : decode cX12_put 13 = .ok (.aload_n 0, 1) := by decide +kernel
theorem dX12_put_14 : decode cX12_put 14 = .ok (.getfield 85, 3) := by decide +kernel
theorem dX12_put_17 : decode cX12_put 17 = .ok (.iload_n 1, 1) := by decide +kernel
theorem dX12_put_18 : decode cX12_put 18 = .ok (.iaload, 1) := by decide +kernel
theorem dX12_put_19 : decode cX12_put 19 = .ok (.ifCond .ge 6, 3) := by decide +kernel
theorem dX12_put_22 : decode cX12_put 22 = .ok (.bipush (-11), 2) := by decide +kernel
theorem dX12_put_24 : decode cX12_put 24 = .ok (.ireturn, 1) := by decide +kernel
theorem dX12_put_25 : decode cX12_put 25 = .ok (.iload_n 2, 1) := by decide +kernel
theorem dX12_put_26 : decode cX12_put 26 = .ok (.i2l, 1) := by decide +kernel
theorem dX12_put_27 : decode cX12_put 27 = .ok (.lconst 0, 1) := by decide +kernel
theorem dX12_put_28 : decode cX12_put 28 = .ok (.aload_n 0, 1) := by decide +kernel
theorem dX12_put_29 : decode cX12_put 29 = .ok (.getfield 85, 3) := by decide +kernel
theorem dX12_put_32 : decode cX12_put 32 = .ok (.iload_n 1, 1) := by decide +kernel
theorem dX12_put_33 : decode cX12_put 33 = .ok (.iaload, 1) := by decide +kernel
theorem dX12_put_34 : decode cX12_put 34 = .ok (.iconst 1, 1) := by decide +kernel
theorem dX12_put_35 : decode cX12_put 35 = .ok (.isub, 1) := by decide +kernel
theorem dX12_put_36 : decode cX12_put 36 = .ok (.i2l, 1) := by decide +kernel
theorem dX12_put_37 : decode cX12_put 37 = .ok (.invokestatic 123, 3) := by decide +kernel
theorem dX12_put_40 : decode cX12_put 40 = .ok (.ifCond .ne 6, 3) := by decide +kernel
theorem dX12_put_43 : decode cX12_put 43 = .ok (.bipush (-13), 2) := by decide +kernel
theorem dX12_put_45 : decode cX12_put 45 = .ok (.ireturn, 1) := by decide +kernel
theorem dX12_put_46 : decode cX12_put 46 = .ok (.aload_n 0, 1) := by decide +kernel
theorem dX12_put_47 : decode cX12_put 47 = .ok (.getfield 88, 3) := by decide +kernel
theorem dX12_put_50 : decode cX12_put 50 = .ok (.bipush 40, 2) := by decide +kernel
theorem dX12_put_52 : decode cX12_put 52 = .ok (.iload_n 1, 1) := by decide +kernel
theorem dX12_put_53 : decode cX12_put 53 = .ok (.imul, 1) := by decide +kernel
theorem dX12_put_54 : decode cX12_put 54 = .ok (.iload_n 2, 1) := by decide +kernel
theorem dX12_put_55 : decode cX12_put 55 = .ok (.iadd, 1) := by decide +kernel
theorem dX12_put_56 : decode cX12_put 56 = .ok (.iload_n 3, 1) := by decide +kernel
theorem dX12_put_57 : decode cX12_put 57 = .ok (.iastore, 1) := by decide +kernel
theorem dX12_put_58 : decode cX12_put 58 = .ok (.iconst 1, 1) := by decide +kernel
theorem dX12_put_59 : decode cX12_put 59 = .ok (.ireturn, 1) := by decide +kernel
theorem dX12_look_0 : decode cX12_look 0 = .ok (.iload_n 1, 1) := by decide +kernel
theorem dX12_look_1 : decode cX12_look 1 = .ok (.invokestatic 332, 3) := by decide +kernel
theorem dX12_look_4 : decode cX12_look 4 = .ok (.ifCond .ne 9, 3) := by decide +kernel
theorem dX12_look_7 : decode cX12_look 7 = .ok (.aload_n 0, 1) := by decide +kernel
theorem dX12_look_8 : decode cX12_look 8 = .ok (.iconst (-1), 1) := by decide +kernel
theorem dX12_look_9 : decode cX12_look 9 = .ok (.invokevirtual 178, 3) := by decide +kernel
theorem dX12_look_12 : decode cX12_look 12 = .ok (.lreturn, 1) := by decide +kernel
theorem dX12_look_13 : decode cX12_look 13 = .ok (.aload_n 0, 1) := by decide +kernel
theorem dX12_look_14 : decode cX12_look 14 = .ok (.getfield 85, 3) := by decide +kernel
theorem dX12_look_17 : decode cX12_look 17 = .ok (.iload_n 1, 1) := by decide +kernel
theorem dX12_look_18 : decode cX12_look 18 = .ok (.iaload, 1) := by decide +kernel
theorem dX12_look_19 : decode cX12_look 19 = .ok (.ifCond .ge 7, 3) := by decide +kernel
theorem dX12_look_22 : decode cX12_look 22 = .ok (.ldc2_w 335, 3) := by decide +kernel
theorem dX12_look_25 : decode cX12_look 25 = .ok (.lreturn, 1) := by decide +kernel
theorem dX12_look_26 : decode cX12_look 26 = .ok (.iload_n 2, 1) := by decide +kernel
theorem dX12_look_27 : decode cX12_look 27 = .ok (.i2l, 1) := by decide +kernel
theorem dX12_look_28 : decode cX12_look 28 = .ok (.lconst 0, 1) := by decide +kernel
theorem dX12_look_29 : decode cX12_look 29 = .ok (.aload_n 0, 1) := by decide +kernel
theorem dX12_look_30 : decode cX12_look 30 = .ok (.getfield 85, 3) := by decide +kernel
theorem dX12_look_33 : decode cX12_look 33 = .ok (.iload_n 1, 1) := by decide +kernel
theorem dX12_look_34 : decode cX12_look 34 = .ok (.iaload, 1) := by decide +kernel
theorem dX12_look_35 : decode cX12_look 35 = .ok (.iconst 1, 1) := by decide +kernel
theorem dX12_look_36 : decode cX12_look 36 = .ok (.isub, 1) := by decide +kernel
theorem dX12_look_37 : decode cX12_look 37 = .ok (.i2l, 1) := by decide +kernel
theorem dX12_look_38 : decode cX12_look 38 = .ok (.invokestatic 123, 3) := by decide +kernel
theorem dX12_look_41 : decode cX12_look 41 = .ok (.ifCond .eq 18, 3) := by decide +kernel
theorem dX12_look_44 : decode cX12_look 44 = .ok (.aload_n 0, 1) := by decide +kernel
theorem dX12_look_45 : decode cX12_look 45 = .ok (.getfield 88, 3) := by decide +kernel
theorem dX12_look_48 : decode cX12_look 48 = .ok (.bipush 40, 2) := by decide +kernel
theorem dX12_look_50 : decode cX12_look 50 = .ok (.iload_n 1, 1) := by decide +kernel
theorem dX12_look_51 : decode cX12_look 51 = .ok (.imul, 1) := by decide +kernel
theorem dX12_look_52 : decode cX12_look 52 = .ok (.iload_n 2, 1) := by decide +kernel
theorem dX12_look_53 : decode cX12_look 53 = .ok (.iadd, 1) := by decide +kernel
theorem dX12_look_54 : decode cX12_look 54 = .ok (.iaload, 1) := by decide +kernel
theorem dX12_look_55 : decode cX12_look 55 = .ok (.i2l, 1) := by decide +kernel
theorem dX12_look_56 : decode cX12_look 56 = .ok (.goto 6, 3) := by decide +kernel
theorem dX12_look_59 : decode cX12_look 59 = .ok (.ldc2_w 337, 3) := by decide +kernel
theorem dX12_look_62 : decode cX12_look 62 = .ok (.lreturn, 1) := by decide +kernel
theorem dX12_judge_0 : decode cX12_judge 0 = .ok (.iload_n 1, 1) := by decide +kernel
theorem dX12_judge_1 : decode cX12_judge 1 = .ok (.invokestatic 332, 3) := by decide +kernel
theorem dX12_judge_4 : decode cX12_judge 4 = .ok (.ifCond .ne 9, 3) := by decide +kernel
theorem dX12_judge_7 : decode cX12_judge 7 = .ok (.aload_n 0, 1) := by decide +kernel
theorem dX12_judge_8 : decode cX12_judge 8 = .ok (.iconst (-1), 1) := by decide +kernel
theorem dX12_judge_9 : decode cX12_judge 9 = .ok (.invokevirtual 9, 3) := by decide +kernel
theorem dX12_judge_12 : decode cX12_judge 12 = .ok (.ireturn, 1) := by decide +kernel
theorem dX12_judge_13 : decode cX12_judge 13 = .ok (.aload_n 0, 1) := by decide +kernel
theorem dX12_judge_14 : decode cX12_judge 14 = .ok (.getfield 85, 3) := by decide +kernel
theorem dX12_judge_17 : decode cX12_judge 17 = .ok (.iload_n 1, 1) := by decide +kernel
theorem dX12_judge_18 : decode cX12_judge 18 = .ok (.iaload, 1) := by decide +kernel
theorem dX12_judge_19 : decode cX12_judge 19 = .ok (.ifCond .ge 6, 3) := by decide +kernel
theorem dX12_judge_22 : decode cX12_judge 22 = .ok (.bipush (-11), 2) := by decide +kernel
theorem dX12_judge_24 : decode cX12_judge 24 = .ok (.ireturn, 1) := by decide +kernel
theorem dX12_judge_25 : decode cX12_judge 25 = .ok (.iconst 0, 1) := by decide +kernel
theorem dX12_judge_26 : decode cX12_judge 26 = .ok (.istore_n 2, 1) := by decide +kernel
theorem dX12_judge_27 : decode cX12_judge 27 = .ok (.iload_n 2, 1) := by decide +kernel
theorem dX12_judge_28 : decode cX12_judge 28 = .ok (.aload_n 0, 1) := by decide +kernel
theorem dX12_judge_29 : decode cX12_judge 29 = .ok (.getfield 85, 3) := by decide +kernel
theorem dX12_judge_32 : decode cX12_judge 32 = .ok (.iload_n 1, 1) := by decide +kernel
theorem dX12_judge_33 : decode cX12_judge 33 = .ok (.iaload, 1) := by decide +kernel
theorem dX12_judge_34 : decode cX12_judge 34 = .ok (.if_icmp .ge 39, 3) := by decide +kernel
theorem dX12_judge_37 : decode cX12_judge 37 = .ok (.iload_n 2, 1) := by decide +kernel
theorem dX12_judge_38 : decode cX12_judge 38 = .ok (.aload_n 0, 1) := by decide +kernel
theorem dX12_judge_39 : decode cX12_judge 39 = .ok (.getfield 133, 3) := by decide +kernel
theorem dX12_judge_42 : decode cX12_judge 42 = .ok (.if_icmp .ge 23, 3) := by decide +kernel
theorem dX12_judge_45 : decode cX12_judge 45 = .ok (.aload_n 0, 1) := by decide +kernel
theorem dX12_judge_46 : decode cX12_judge 46 = .ok (.getfield 88, 3) := by decide +kernel
theorem dX12_judge_49 : decode cX12_judge 49 = .ok (.bipush 40, 2) := by decide +kernel
theorem dX12_judge_51 : decode cX12_judge 51 = .ok (.iload_n 1, 1) := by decide +kernel
theorem dX12_judge_52 : decode cX12_judge 52 = .ok (.imul, 1) := by decide +kernel
theorem dX12_judge_53 : decode cX12_judge 53 = .ok (.iload_n 2, 1) := by decide +kernel
theorem dX12_judge_54 : decode cX12_judge 54 = .ok (.iadd, 1) := by decide +kernel
theorem dX12_judge_55 : decode cX12_judge 55 = .ok (.iaload, 1) := by decide +kernel
theorem dX12_judge_56 : decode cX12_judge 56 = .ok (.aload_n 0, 1) := by decide +kernel
theorem dX12_judge_57 : decode cX12_judge 57 = .ok (.getfield 36, 3) := by decide +kernel
theorem dX12_judge_60 : decode cX12_judge 60 = .ok (.iload_n 2, 1) := by decide +kernel
theorem dX12_judge_61 : decode cX12_judge 61 = .ok (.iaload, 1) := by decide +kernel
theorem dX12_judge_62 : decode cX12_judge 62 = .ok (.if_icmp .eq 5, 3) := by decide +kernel
theorem dX12_judge_65 : decode cX12_judge 65 = .ok (.iload_n 2, 1) := by decide +kernel
theorem dX12_judge_66 : decode cX12_judge 66 = .ok (.ireturn, 1) := by decide +kernel
theorem dX12_judge_67 : decode cX12_judge 67 = .ok (.iinc 2 1, 3) := by decide +kernel
theorem dX12_judge_70 : decode cX12_judge 70 = .ok (.goto (-43), 3) := by decide +kernel
theorem dX12_judge_73 : decode cX12_judge 73 = .ok (.bipush (-9), 2) := by decide +kernel
theorem dX12_judge_75 : decode cX12_judge 75 = .ok (.ireturn, 1) := by decide +kernel
theorem dX12_letter_0 : decode cX12_letter 0 = .ok (.iload_n 1, 1) := by decide +kernel
theorem dX12_letter_1 : decode cX12_letter 1 = .ok (.ifCond .ge 10, 3) := by decide +kernel
theorem dX12_letter_4 : decode cX12_letter 4 = .ok (.aload_n 0, 1) := by decide +kernel
theorem dX12_letter_5 : decode cX12_letter 5 = .ok (.bipush (-4), 2) := by decide +kernel
theorem dX12_letter_7 : decode cX12_letter 7 = .ok (.invokevirtual 9, 3) := by decide +kernel
theorem dX12_letter_10 : decode cX12_letter 10 = .ok (.ireturn, 1) := by decide +kernel
theorem dX12_letter_11 : decode cX12_letter 11 = .ok (.iload_n 1, 1) := by decide +kernel
theorem dX12_letter_12 : decode cX12_letter 12 = .ok (.sipush 255, 3) := by decide +kernel
theorem dX12_letter_15 : decode cX12_letter 15 = .ok (.if_icmp .gt 12, 3) := by decide +kernel
theorem dX12_letter_18 : decode cX12_letter 18 = .ok (.aload_n 0, 1) := by decide +kernel
theorem dX12_letter_19 : decode cX12_letter 19 = .ok (.getfield 339, 3) := by decide +kernel
theorem dX12_letter_22 : decode cX12_letter 22 = .ok (.bipush 72, 2) := by decide +kernel
theorem dX12_letter_24 : decode cX12_letter 24 = .ok (.if_icmp .ne 10, 3) := by decide +kernel
theorem dX12_letter_27 : decode cX12_letter 27 = .ok (.aload_n 0, 1) := by decide +kernel
theorem dX12_letter_28 : decode cX12_letter 28 = .ok (.bipush (-6), 2) := by decide +kernel
theorem dX12_letter_30 : decode cX12_letter 30 = .ok (.invokevirtual 9, 3) := by decide +kernel
theorem dX12_letter_33 : decode cX12_letter 33 = .ok (.ireturn, 1) := by decide +kernel
theorem dX12_letter_34 : decode cX12_letter 34 = .ok (.aload_n 0, 1) := by decide +kernel
theorem dX12_letter_35 : decode cX12_letter 35 = .ok (.getfield 91, 3) := by decide +kernel
theorem dX12_letter_38 : decode cX12_letter 38 = .ok (.aload_n 0, 1) := by decide +kernel
theorem dX12_letter_39 : decode cX12_letter 39 = .ok (.getfield 339, 3) := by decide +kernel
theorem dX12_letter_42 : decode cX12_letter 42 = .ok (.iload_n 1, 1) := by decide +kernel
theorem dX12_letter_43 : decode cX12_letter 43 = .ok (.iastore, 1) := by decide +kernel
theorem dX12_letter_44 : decode cX12_letter 44 = .ok (.aload_n 0, 1) := by decide +kernel
theorem dX12_letter_45 : decode cX12_letter 45 = .ok (.dup, 1) := by decide +kernel
theorem dX12_letter_46 : decode cX12_letter 46 = .ok (.getfield 339, 3) := by decide +kernel
theorem dX12_letter_49 : decode cX12_letter 49 = .ok (.iconst 1, 1) := by decide +kernel
theorem dX12_letter_50 : decode cX12_letter 50 = .ok (.iadd, 1) := by decide +kernel
theorem dX12_letter_51 : decode cX12_letter 51 = .ok (.putfield 339, 3) := by decide +kernel
theorem dX12_letter_54 : decode cX12_letter 54 = .ok (.aload_n 0, 1) := by decide +kernel
theorem dX12_letter_55 : decode cX12_letter 55 = .ok (.getfield 339, 3) := by decide +kernel
theorem dX12_letter_58 : decode cX12_letter 58 = .ok (.ireturn, 1) := by decide +kernel
theorem dX12_numbersOf_0 : decode cX12_numbersOf 0 = .ok (.iload_n 0, 1) := by decide +kernel
theorem dX12_numbersOf_1 : decode cX12_numbersOf 1 = .ok (.lookupswitch 49 #[(98, 43), (112, 47), (114, 45), (116, 47)], 43) := by decide +kernel
theorem dX12_numbersOf_44 : decode cX12_numbersOf 44 = .ok (.iconst 3, 1) := by decide +kernel
theorem dX12_numbersOf_45 : decode cX12_numbersOf 45 = .ok (.ireturn, 1) := by decide +kernel
theorem dX12_numbersOf_46 : decode cX12_numbersOf 46 = .ok (.iconst 5, 1) := by decide +kernel
theorem dX12_numbersOf_47 : decode cX12_numbersOf 47 = .ok (.ireturn, 1) := by decide +kernel
theorem dX12_numbersOf_48 : decode cX12_numbersOf 48 = .ok (.iconst 4, 1) := by decide +kernel
theorem dX12_numbersOf_49 : decode cX12_numbersOf 49 = .ok (.ireturn, 1) := by decide +kernel
theorem dX12_numbersOf_50 : decode cX12_numbersOf 50 = .ok (.iconst 0, 1) := by decide +kernel
theorem dX12_numbersOf_51 : decode cX12_numbersOf 51 = .ok (.ireturn, 1) := by decide +kernel
theorem dX12_digitsOf_0 : decode cX12_digitsOf 0 = .ok (.iload_n 0, 1) := by decide +kernel
theorem dX12_digitsOf_1 : decode cX12_digitsOf 1 = .ok (.bipush 112, 2) := by decide +kernel
theorem dX12_digitsOf_3 : decode cX12_digitsOf 3 = .ok (.if_icmp .eq 13, 3) := by decide +kernel
theorem dX12_digitsOf_6 : decode cX12_digitsOf 6 = .ok (.iload_n 0, 1) := by decide +kernel
theorem dX12_digitsOf_7 : decode cX12_digitsOf 7 = .ok (.bipush 98, 2) := by decide +kernel
theorem dX12_digitsOf_9 : decode cX12_digitsOf 9 = .ok (.if_icmp .ne 11, 3) := by decide +kernel
theorem dX12_digitsOf_12 : decode cX12_digitsOf 12 = .ok (.iload_n 1, 1) := by decide +kernel
theorem dX12_digitsOf_13 : decode cX12_digitsOf 13 = .ok (.ifCond .le 7, 3) := by decide +kernel
theorem dX12_digitsOf_16 : decode cX12_digitsOf 16 = .ok (.iconst 2, 1) := by decide +kernel
theorem dX12_digitsOf_17 : decode cX12_digitsOf 17 = .ok (.goto 4, 3) := by decide +kernel
theorem dX12_digitsOf_20 : decode cX12_digitsOf 20 = .ok (.iconst 1, 1) := by decide +kernel
theorem dX12_digitsOf_21 : decode cX12_digitsOf 21 = .ok (.ireturn, 1) := by decide +kernel
theorem dX12_statement_0 : decode cX12_statement 0 = .ok (.aload_n 0, 1) := by decide +kernel
theorem dX12_statement_1 : decode cX12_statement 1 = .ok (.getfield 342, 3) := by decide +kernel
theorem dX12_statement_4 : decode cX12_statement 4 = .ok (.aload_n 0, 1) := by decide +kernel
theorem dX12_statement_5 : decode cX12_statement 5 = .ok (.getfield 339, 3) := by decide +kernel
theorem dX12_statement_8 : decode cX12_statement 8 = .ok (.if_icmp .ge 15, 3) := by decide +kernel
theorem dX12_statement_11 : decode cX12_statement 11 = .ok (.aload_n 0, 1) := by decide +kernel
theorem dX12_statement_12 : decode cX12_statement 12 = .ok (.getfield 91, 3) := by decide +kernel
theorem dX12_statement_15 : decode cX12_statement 15 = .ok (.aload_n 0, 1) := by decide +kernel
theorem dX12_statement_16 : decode cX12_statement 16 = .ok (.getfield 342, 3) := by decide +kernel
theorem dX12_statement_19 : decode cX12_statement 19 = .ok (.iaload, 1) := by decide +kernel
theorem dX12_statement_20 : decode cX12_statement 20 = .ok (.goto 4, 3) := by decide +kernel
theorem dX12_statement_23 : decode cX12_statement 23 = .ok (.iconst 0, 1) := by decide +kernel
theorem dX12_statement_24 : decode cX12_statement 24 = .ok (.istore_n 1, 1) := by decide +kernel
theorem dX12_statement_25 : decode cX12_statement 25 = .ok (.iload_n 1, 1) := by decide +kernel
theorem dX12_statement_26 : decode cX12_statement 26 = .ok (.invokestatic 345, 3) := by decide +kernel
theorem dX12_statement_29 : decode cX12_statement 29 = .ok (.ifCond .ne 5, 3) := by decide +kernel
theorem dX12_statement_32 : decode cX12_statement 32 = .ok (.iconst 0, 1) := by decide +kernel
theorem dX12_statement_33 : decode cX12_statement 33 = .ok (.ireturn, 1) := by decide +kernel
theorem dX12_statement_34 : decode cX12_statement 34 = .ok (.aload_n 0, 1) := by decide +kernel
theorem dX12_statement_35 : decode cX12_statement 35 = .ok (.dup, 1) := by decide +kernel
theorem dX12_statement_36 : decode cX12_statement 36 = .ok (.getfield 342, 3) := by decide +kernel
theorem dX12_statement_39 : decode cX12_statement 39 = .ok (.iconst 1, 1) := by decide +kernel
theorem dX12_statement_40 : decode cX12_statement 40 = .ok (.iadd, 1) := by decide +kernel
theorem dX12_statement_41 : decode cX12_statement 41 = .ok (.putfield 342, 3) := by decide +kernel
theorem dX12_statement_44 : decode cX12_statement 44 = .ok (.iconst 0, 1) := by decide +kernel
theorem dX12_statement_45 : decode cX12_statement 45 = .ok (.istore_n 2, 1) := by decide +kernel
theorem dX12_statement_46 : decode cX12_statement 46 = .ok (.iload_n 2, 1) := by decide +kernel
theorem dX12_statement_47 : decode cX12_statement 47 = .ok (.iload_n 1, 1) := by decide +kernel
theorem dX12_statement_48 : decode cX12_statement 48 = .ok (.invokestatic 345, 3) := by decide +kernel
theorem dX12_statement_51 : decode cX12_statement 51 = .ok (.if_icmp .ge 106, 3) := by decide +kernel
theorem dX12_statement_54 : decode cX12_statement 54 = .ok (.aload_n 0, 1) := by decide +kernel
theorem dX12_statement_55 : decode cX12_statement 55 = .ok (.getfield 94, 3) := by decide +kernel
theorem dX12_statement_58 : decode cX12_statement 58 = .ok (.iload_n 2, 1) := by decide +kernel
theorem dX12_statement_59 : decode cX12_statement 59 = .ok (.iconst 0, 1) := by decide +kernel
theorem dX12_statement_60 : decode cX12_statement 60 = .ok (.iastore, 1) := by decide +kernel
theorem dX12_statement_61 : decode cX12_statement 61 = .ok (.iconst 0, 1) := by decide +kernel
theorem dX12_statement_62 : decode cX12_statement 62 = .ok (.istore_n 3, 1) := by decide +kernel
theorem dX12_statement_63 : decode cX12_statement 63 = .ok (.iload_n 3, 1) := by decide +kernel
theorem dX12_statement_64 : decode cX12_statement 64 = .ok (.iload_n 1, 1) := by decide +kernel
theorem dX12_statement_65 : decode cX12_statement 65 = .ok (.iload_n 2, 1) := by decide +kernel
theorem dX12_statement_66 : decode cX12_statement 66 = .ok (.invokestatic 348, 3) := by decide +kernel
theorem dX12_statement_69 : decode cX12_statement 69 = .ok (.if_icmp .ge 82, 3) := by decide +kernel
theorem dX12_statement_72 : decode cX12_statement 72 = .ok (.aload_n 0, 1) := by decide +kernel
theorem dX12_statement_73 : decode cX12_statement 73 = .ok (.getfield 342, 3) := by decide +kernel
theorem dX12_statement_76 : decode cX12_statement 76 = .ok (.aload_n 0, 1) := by decide +kernel
theorem dX12_statement_77 : decode cX12_statement 77 = .ok (.getfield 339, 3) := by decide +kernel
theorem dX12_statement_80 : decode cX12_statement 80 = .ok (.if_icmp .eq 25, 3) := by decide +kernel
theorem dX12_statement_83 : decode cX12_statement 83 = .ok (.aload_n 0, 1) := by decide +kernel
theorem dX12_statement_84 : decode cX12_statement 84 = .ok (.getfield 91, 3) := by decide +kernel
theorem dX12_statement_87 : decode cX12_statement 87 = .ok (.aload_n 0, 1) := by decide +kernel
theorem dX12_statement_88 : decode cX12_statement 88 = .ok (.getfield 342, 3) := by decide +kernel
theorem dX12_statement_91 : decode cX12_statement 91 = .ok (.iaload, 1) := by decide +kernel
theorem dX12_statement_92 : decode cX12_statement 92 = .ok (.i2l, 1) := by decide +kernel
theorem dX12_statement_93 : decode cX12_statement 93 = .ok (.ldc2_w 351, 3) := by decide +kernel
theorem dX12_statement_96 : decode cX12_statement 96 = .ok (.ldc2_w 353, 3) := by decide +kernel
theorem dX12_statement_99 : decode cX12_statement 99 = .ok (.invokestatic 123, 3) := by decide +kernel
theorem dX12_statement_102 : decode cX12_statement 102 = .ok (.ifCond .ne 5, 3) := by decide +kernel
theorem dX12_statement_105 : decode cX12_statement 105 = .ok (.iconst 0, 1) := by decide +kernel
theorem dX12_statement_106 : decode cX12_statement 106 = .ok (.ireturn, 1) := by decide +kernel
theorem dX12_statement_107 : decode cX12_statement 107 = .ok (.aload_n 0, 1) := by decide +kernel
theorem dX12_statement_108 : decode cX12_statement 108 = .ok (.getfield 94, 3) := by decide +kernel
theorem dX12_statement_111 : decode cX12_statement 111 = .ok (.iload_n 2, 1) := by decide +kernel
theorem dX12_statement_112 : decode cX12_statement 112 = .ok (.bipush 10, 2) := by decide +kernel
theorem dX12_statement_114 : decode cX12_statement 114 = .ok (.aload_n 0, 1) := by decide +kernel
theorem dX12_statement_115 : decode cX12_statement 115 = .ok (.getfield 94, 3) := by decide +kernel
theorem dX12_statement_118 : decode cX12_statement 118 = .ok (.iload_n 2, 1) := by decide +kernel
theorem dX12_statement_119 : decode cX12_statement 119 = .ok (.iaload, 1) := by decide +kernel
theorem dX12_statement_120 : decode cX12_statement 120 = .ok (.imul, 1) := by decide +kernel
theorem dX12_statement_121 : decode cX12_statement 121 = .ok (.aload_n 0, 1) := by decide +kernel
theorem dX12_statement_122 : decode cX12_statement 122 = .ok (.getfield 91, 3) := by decide +kernel
theorem dX12_statement_125 : decode cX12_statement 125 = .ok (.aload_n 0, 1) := by decide +kernel
theorem dX12_statement_126 : decode cX12_statement 126 = .ok (.getfield 342, 3) := by decide +kernel
theorem dX12_statement_129 : decode cX12_statement 129 = .ok (.iaload, 1) := by decide +kernel
theorem dX12_statement_130 : decode cX12_statement 130 = .ok (.iadd, 1) := by decide +kernel
theorem dX12_statement_131 : decode cX12_statement 131 = .ok (.bipush 48, 2) := by decide +kernel
theorem dX12_statement_133 : decode cX12_statement 133 = .ok (.isub, 1) := by decide +kernel
theorem dX12_statement_134 : decode cX12_statement 134 = .ok (.iastore, 1) := by decide +kernel
theorem dX12_statement_135 : decode cX12_statement 135 = .ok (.aload_n 0, 1) := by decide +kernel
theorem dX12_statement_136 : decode cX12_statement 136 = .ok (.dup, 1) := by decide +kernel
theorem dX12_statement_137 : decode cX12_statement 137 = .ok (.getfield 342, 3) := by decide +kernel
theorem dX12_statement_140 : decode cX12_statement 140 = .ok (.iconst 1, 1) := by decide +kernel
theorem dX12_statement_141 : decode cX12_statement 141 = .ok (.iadd, 1) := by decide +kernel
theorem dX12_statement_142 : decode cX12_statement 142 = .ok (.putfield 342, 3) := by decide +kernel
theorem dX12_statement_145 : decode cX12_statement 145 = .ok (.iinc 3 1, 3) := by decide +kernel
theorem dX12_statement_148 : decode cX12_statement 148 = .ok (.goto (-85), 3) := by decide +kernel
theorem dX12_statement_151 : decode cX12_statement 151 = .ok (.iinc 2 1, 3) := by decide +kernel
theorem dX12_statement_154 : decode cX12_statement 154 = .ok (.goto (-108), 3) := by decide +kernel
theorem dX12_statement_157 : decode cX12_statement 157 = .ok (.aload_n 0, 1) := by decide +kernel
theorem dX12_statement_158 : decode cX12_statement 158 = .ok (.getfield 342, 3) := by decide +kernel
theorem dX12_statement_161 : decode cX12_statement 161 = .ok (.aload_n 0, 1) := by decide +kernel
theorem dX12_statement_162 : decode cX12_statement 162 = .ok (.getfield 339, 3) := by decide +kernel
theorem dX12_statement_165 : decode cX12_statement 165 = .ok (.if_icmp .eq 17, 3) := by decide +kernel
theorem dX12_statement_168 : decode cX12_statement 168 = .ok (.aload_n 0, 1) := by decide +kernel
theorem dX12_statement_169 : decode cX12_statement 169 = .ok (.getfield 91, 3) := by decide +kernel
theorem dX12_statement_172 : decode cX12_statement 172 = .ok (.aload_n 0, 1) := by decide +kernel
theorem dX12_statement_173 : decode cX12_statement 173 = .ok (.getfield 342, 3) := by decide +kernel
theorem dX12_statement_176 : decode cX12_statement 176 = .ok (.iaload, 1) := by decide +kernel
theorem dX12_statement_177 : decode cX12_statement 177 = .ok (.bipush 59, 2) := by decide +kernel
theorem dX12_statement_179 : decode cX12_statement 179 = .ok (.if_icmp .eq 5, 3) := by decide +kernel
theorem dX12_statement_182 : decode cX12_statement 182 = .ok (.iconst 0, 1) := by decide +kernel
theorem dX12_statement_183 : decode cX12_statement 183 = .ok (.ireturn, 1) := by decide +kernel
theorem dX12_statement_184 : decode cX12_statement 184 = .ok (.aload_n 0, 1) := by decide +kernel
theorem dX12_statement_185 : decode cX12_statement 185 = .ok (.dup, 1) := by decide +kernel
theorem dX12_statement_186 : decode cX12_statement 186 = .ok (.getfield 342, 3) := by decide +kernel
theorem dX12_statement_189 : decode cX12_statement 189 = .ok (.iconst 1, 1) := by decide +kernel
theorem dX12_statement_190 : decode cX12_statement 190 = .ok (.iadd, 1) := by decide +kernel
theorem dX12_statement_191 : decode cX12_statement 191 = .ok (.putfield 342, 3) := by decide +kernel
theorem dX12_statement_194 : decode cX12_statement 194 = .ok (.iload_n 1, 1) := by decide +kernel
theorem dX12_statement_195 : decode cX12_statement 195 = .ok (.ireturn, 1) := by decide +kernel
theorem dX12_isDone_0 : decode cX12_isDone 0 = .ok (.iload_n 1, 1) := by decide +kernel
theorem dX12_isDone_1 : decode cX12_isDone 1 = .ok (.lookupswitch 169 #[(98, 35), (112, 110), (114, 105)], 35) := by decide +kernel
theorem dX12_isDone_36 : decode cX12_isDone 36 = .ok (.aload_n 0, 1) := by decide +kernel
theorem dX12_isDone_37 : decode cX12_isDone 37 = .ok (.getfield 94, 3) := by decide +kernel
theorem dX12_isDone_40 : decode cX12_isDone 40 = .ok (.iconst 0, 1) := by decide +kernel
theorem dX12_isDone_41 : decode cX12_isDone 41 = .ok (.iaload, 1) := by decide +kernel
theorem dX12_isDone_42 : decode cX12_isDone 42 = .ok (.iconst 4, 1) := by decide +kernel
theorem dX12_isDone_43 : decode cX12_isDone 43 = .ok (.if_icmp .gt 37, 3) := by decide +kernel
theorem dX12_isDone_46 : decode cX12_isDone 46 = .ok (.aload_n 0, 1) := by decide +kernel
theorem dX12_isDone_47 : decode cX12_isDone 47 = .ok (.getfield 94, 3) := by decide +kernel
theorem dX12_isDone_50 : decode cX12_isDone 50 = .ok (.iconst 1, 1) := by decide +kernel
theorem dX12_isDone_51 : decode cX12_isDone 51 = .ok (.iaload, 1) := by decide +kernel
theorem dX12_isDone_52 : decode cX12_isDone 52 = .ok (.iconst 1, 1) := by decide +kernel
theorem dX12_isDone_53 : decode cX12_isDone 53 = .ok (.aload_n 0, 1) := by decide +kernel
theorem dX12_isDone_54 : decode cX12_isDone 54 = .ok (.getfield 94, 3) := by decide +kernel
theorem dX12_isDone_57 : decode cX12_isDone 57 = .ok (.iconst 0, 1) := by decide +kernel
theorem dX12_isDone_58 : decode cX12_isDone 58 = .ok (.iaload, 1) := by decide +kernel
theorem dX12_isDone_59 : decode cX12_isDone 59 = .ok (.ishl, 1) := by decide +kernel
theorem dX12_isDone_60 : decode cX12_isDone 60 = .ok (.if_icmp .ge 20, 3) := by decide +kernel
theorem dX12_isDone_63 : decode cX12_isDone 63 = .ok (.aload_n 0, 1) := by decide +kernel
theorem dX12_isDone_64 : decode cX12_isDone 64 = .ok (.getfield 94, 3) := by decide +kernel
theorem dX12_isDone_67 : decode cX12_isDone 67 = .ok (.iconst 2, 1) := by decide +kernel
theorem dX12_isDone_68 : decode cX12_isDone 68 = .ok (.iaload, 1) := by decide +kernel
theorem dX12_isDone_69 : decode cX12_isDone 69 = .ok (.iconst 1, 1) := by decide +kernel
theorem dX12_isDone_70 : decode cX12_isDone 70 = .ok (.aload_n 0, 1) := by decide +kernel
theorem dX12_isDone_71 : decode cX12_isDone 71 = .ok (.getfield 94, 3) := by decide +kernel
theorem dX12_isDone_74 : decode cX12_isDone 74 = .ok (.iconst 0, 1) := by decide +kernel
theorem dX12_isDone_75 : decode cX12_isDone 75 = .ok (.iaload, 1) := by decide +kernel
theorem dX12_isDone_76 : decode cX12_isDone 76 = .ok (.ishl, 1) := by decide +kernel
theorem dX12_isDone_77 : decode cX12_isDone 77 = .ok (.if_icmp .lt 5, 3) := by decide +kernel
theorem dX12_isDone_80 : decode cX12_isDone 80 = .ok (.iconst 0, 1) := by decide +kernel
theorem dX12_isDone_81 : decode cX12_isDone 81 = .ok (.ireturn, 1) := by decide +kernel
theorem dX12_isDone_82 : decode cX12_isDone 82 = .ok (.aload_n 0, 1) := by decide +kernel
theorem dX12_isDone_83 : decode cX12_isDone 83 = .ok (.aload_n 0, 1) := by decide +kernel
theorem dX12_isDone_84 : decode cX12_isDone 84 = .ok (.getfield 94, 3) := by decide +kernel
theorem dX12_isDone_87 : decode cX12_isDone 87 = .ok (.iconst 0, 1) := by decide +kernel
theorem dX12_isDone_88 : decode cX12_isDone 88 = .ok (.iaload, 1) := by decide +kernel
theorem dX12_isDone_89 : decode cX12_isDone 89 = .ok (.aload_n 0, 1) := by decide +kernel
theorem dX12_isDone_90 : decode cX12_isDone 90 = .ok (.getfield 94, 3) := by decide +kernel
theorem dX12_isDone_93 : decode cX12_isDone 93 = .ok (.iconst 1, 1) := by decide +kernel
theorem dX12_isDone_94 : decode cX12_isDone 94 = .ok (.iaload, 1) := by decide +kernel
theorem dX12_isDone_95 : decode cX12_isDone 95 = .ok (.aload_n 0, 1) := by decide +kernel
theorem dX12_isDone_96 : decode cX12_isDone 96 = .ok (.getfield 94, 3) := by decide +kernel
theorem dX12_isDone_99 : decode cX12_isDone 99 = .ok (.iconst 2, 1) := by decide +kernel
theorem dX12_isDone_100 : decode cX12_isDone 100 = .ok (.iaload, 1) := by decide +kernel
theorem dX12_isDone_101 : decode cX12_isDone 101 = .ok (.invokevirtual 112, 3) := by decide +kernel
theorem dX12_isDone_104 : decode cX12_isDone 104 = .ok (.iconst 1, 1) := by decide +kernel
theorem dX12_isDone_105 : decode cX12_isDone 105 = .ok (.ireturn, 1) := by decide +kernel
theorem dX12_isDone_106 : decode cX12_isDone 106 = .ok (.aload_n 0, 1) := by decide +kernel
theorem dX12_isDone_107 : decode cX12_isDone 107 = .ok (.invokevirtual 355, 3) := by decide +kernel
theorem dX12_isDone_110 : decode cX12_isDone 110 = .ok (.ireturn, 1) := by decide +kernel
theorem dX12_isDone_111 : decode cX12_isDone 111 = .ok (.aload_n 0, 1) := by decide +kernel
theorem dX12_isDone_112 : decode cX12_isDone 112 = .ok (.getfield 94, 3) := by decide +kernel
theorem dX12_isDone_115 : decode cX12_isDone 115 = .ok (.iconst 1, 1) := by decide +kernel
theorem dX12_isDone_116 : decode cX12_isDone 116 = .ok (.iaload, 1) := by decide +kernel
theorem dX12_isDone_117 : decode cX12_isDone 117 = .ok (.ifCond .eq 21, 3) := by decide +kernel
theorem dX12_isDone_120 : decode cX12_isDone 120 = .ok (.aload_n 0, 1) := by decide +kernel
theorem dX12_isDone_121 : decode cX12_isDone 121 = .ok (.getfield 94, 3) := by decide +kernel
theorem dX12_isDone_124 : decode cX12_isDone 124 = .ok (.iconst 3, 1) := by decide +kernel
theorem dX12_isDone_125 : decode cX12_isDone 125 = .ok (.iaload, 1) := by decide +kernel
theorem dX12_isDone_126 : decode cX12_isDone 126 = .ok (.ifCond .eq 12, 3) := by decide +kernel
theorem dX12_isDone_129 : decode cX12_isDone 129 = .ok (.aload_n 0, 1) := by decide +kernel
theorem dX12_isDone_130 : decode cX12_isDone 130 = .ok (.getfield 207, 3) := by decide +kernel
theorem dX12_isDone_133 : decode cX12_isDone 133 = .ok (.bipush 10, 2) := by decide +kernel
theorem dX12_isDone_135 : decode cX12_isDone 135 = .ok (.if_icmp .ne 5, 3) := by decide +kernel
theorem dX12_isDone_138 : decode cX12_isDone 138 = .ok (.iconst 0, 1) := by decide +kernel
theorem dX12_isDone_139 : decode cX12_isDone 139 = .ok (.ireturn, 1) := by decide +kernel
theorem dX12_isDone_140 : decode cX12_isDone 140 = .ok (.aload_n 0, 1) := by decide +kernel
theorem dX12_isDone_141 : decode cX12_isDone 141 = .ok (.aload_n 0, 1) := by decide +kernel
theorem dX12_isDone_142 : decode cX12_isDone 142 = .ok (.getfield 94, 3) := by decide +kernel
theorem dX12_isDone_145 : decode cX12_isDone 145 = .ok (.iconst 0, 1) := by decide +kernel
theorem dX12_isDone_146 : decode cX12_isDone 146 = .ok (.iaload, 1) := by decide +kernel
theorem dX12_isDone_147 : decode cX12_isDone 147 = .ok (.aload_n 0, 1) := by decide +kernel
theorem dX12_isDone_148 : decode cX12_isDone 148 = .ok (.getfield 94, 3) := by decide +kernel
theorem dX12_isDone_151 : decode cX12_isDone 151 = .ok (.iconst 1, 1) := by decide +kernel
theorem dX12_isDone_152 : decode cX12_isDone 152 = .ok (.iaload, 1) := by decide +kernel
theorem dX12_isDone_153 : decode cX12_isDone 153 = .ok (.aload_n 0, 1) := by decide +kernel
theorem dX12_isDone_154 : decode cX12_isDone 154 = .ok (.getfield 94, 3) := by decide +kernel
theorem dX12_isDone_157 : decode cX12_isDone 157 = .ok (.iconst 2, 1) := by decide +kernel
theorem dX12_isDone_158 : decode cX12_isDone 158 = .ok (.iaload, 1) := by decide +kernel
theorem dX12_isDone_159 : decode cX12_isDone 159 = .ok (.aload_n 0, 1) := by decide +kernel
theorem dX12_isDone_160 : decode cX12_isDone 160 = .ok (.getfield 94, 3) := by decide +kernel
theorem dX12_isDone_163 : decode cX12_isDone 163 = .ok (.iconst 3, 1) := by decide +kernel
theorem dX12_isDone_164 : decode cX12_isDone 164 = .ok (.iaload, 1) := by decide +kernel
theorem dX12_isDone_165 : decode cX12_isDone 165 = .ok (.invokevirtual 210, 3) := by decide +kernel
theorem dX12_isDone_168 : decode cX12_isDone 168 = .ok (.iconst 1, 1) := by decide +kernel
theorem dX12_isDone_169 : decode cX12_isDone 169 = .ok (.ireturn, 1) := by decide +kernel
theorem dX12_isDone_170 : decode cX12_isDone 170 = .ok (.aload_n 0, 1) := by decide +kernel
theorem dX12_isDone_171 : decode cX12_isDone 171 = .ok (.getfield 94, 3) := by decide +kernel
theorem dX12_isDone_174 : decode cX12_isDone 174 = .ok (.iconst 0, 1) := by decide +kernel
theorem dX12_isDone_175 : decode cX12_isDone 175 = .ok (.iaload, 1) := by decide +kernel
theorem dX12_isDone_176 : decode cX12_isDone 176 = .ok (.iconst 5, 1) := by decide +kernel
theorem dX12_isDone_177 : decode cX12_isDone 177 = .ok (.if_icmp .gt 37, 3) := by decide +kernel
theorem dX12_isDone_180 : decode cX12_isDone 180 = .ok (.aload_n 0, 1) := by decide +kernel
theorem dX12_isDone_181 : decode cX12_isDone 181 = .ok (.aload_n 0, 1) := by decide +kernel
theorem dX12_isDone_182 : decode cX12_isDone 182 = .ok (.getfield 94, 3) := by decide +kernel
theorem dX12_isDone_185 : decode cX12_isDone 185 = .ok (.iconst 1, 1) := by decide +kernel
theorem dX12_isDone_186 : decode cX12_isDone 186 = .ok (.iaload, 1) := by decide +kernel
theorem dX12_isDone_187 : decode cX12_isDone 187 = .ok (.aload_n 0, 1) := by decide +kernel
theorem dX12_isDone_188 : decode cX12_isDone 188 = .ok (.getfield 94, 3) := by decide +kernel
theorem dX12_isDone_191 : decode cX12_isDone 191 = .ok (.iconst 2, 1) := by decide +kernel
theorem dX12_isDone_192 : decode cX12_isDone 192 = .ok (.iaload, 1) := by decide +kernel
theorem dX12_isDone_193 : decode cX12_isDone 193 = .ok (.aload_n 0, 1) := by decide +kernel
theorem dX12_isDone_194 : decode cX12_isDone 194 = .ok (.getfield 94, 3) := by decide +kernel
theorem dX12_isDone_197 : decode cX12_isDone 197 = .ok (.iconst 3, 1) := by decide +kernel
theorem dX12_isDone_198 : decode cX12_isDone 198 = .ok (.iaload, 1) := by decide +kernel
theorem dX12_isDone_199 : decode cX12_isDone 199 = .ok (.invokevirtual 243, 3) := by decide +kernel
theorem dX12_isDone_202 : decode cX12_isDone 202 = .ok (.ifCond .eq 12, 3) := by decide +kernel
theorem dX12_isDone_205 : decode cX12_isDone 205 = .ok (.aload_n 0, 1) := by decide +kernel
theorem dX12_isDone_206 : decode cX12_isDone 206 = .ok (.getfield 238, 3) := by decide +kernel
theorem dX12_isDone_209 : decode cX12_isDone 209 = .ok (.bipush 10, 2) := by decide +kernel
theorem dX12_isDone_211 : decode cX12_isDone 211 = .ok (.if_icmp .ne 5, 3) := by decide +kernel
theorem dX12_isDone_214 : decode cX12_isDone 214 = .ok (.iconst 0, 1) := by decide +kernel
theorem dX12_isDone_215 : decode cX12_isDone 215 = .ok (.ireturn, 1) := by decide +kernel
theorem dX12_isDone_216 : decode cX12_isDone 216 = .ok (.aload_n 0, 1) := by decide +kernel
theorem dX12_isDone_217 : decode cX12_isDone 217 = .ok (.aload_n 0, 1) := by decide +kernel
theorem dX12_isDone_218 : decode cX12_isDone 218 = .ok (.getfield 94, 3) := by decide +kernel
theorem dX12_isDone_221 : decode cX12_isDone 221 = .ok (.iconst 0, 1) := by decide +kernel
theorem dX12_isDone_222 : decode cX12_isDone 222 = .ok (.iaload, 1) := by decide +kernel
theorem dX12_isDone_223 : decode cX12_isDone 223 = .ok (.aload_n 0, 1) := by decide +kernel
theorem dX12_isDone_224 : decode cX12_isDone 224 = .ok (.getfield 94, 3) := by decide +kernel
theorem dX12_isDone_227 : decode cX12_isDone 227 = .ok (.iconst 1, 1) := by decide +kernel
theorem dX12_isDone_228 : decode cX12_isDone 228 = .ok (.iaload, 1) := by decide +kernel
theorem dX12_isDone_229 : decode cX12_isDone 229 = .ok (.aload_n 0, 1) := by decide +kernel
theorem dX12_isDone_230 : decode cX12_isDone 230 = .ok (.getfield 94, 3) := by decide +kernel
theorem dX12_isDone_233 : decode cX12_isDone 233 = .ok (.iconst 2, 1) := by decide +kernel
theorem dX12_isDone_234 : decode cX12_isDone 234 = .ok (.iaload, 1) := by decide +kernel
theorem dX12_isDone_235 : decode cX12_isDone 235 = .ok (.aload_n 0, 1) := by decide +kernel
theorem dX12_isDone_236 : decode cX12_isDone 236 = .ok (.getfield 94, 3) := by decide +kernel
theorem dX12_isDone_239 : decode cX12_isDone 239 = .ok (.iconst 3, 1) := by decide +kernel
theorem dX12_isDone_240 : decode cX12_isDone 240 = .ok (.iaload, 1) := by decide +kernel
theorem dX12_isDone_241 : decode cX12_isDone 241 = .ok (.invokevirtual 247, 3) := by decide +kernel
theorem dX12_isDone_244 : decode cX12_isDone 244 = .ok (.iconst 1, 1) := by decide +kernel
theorem dX12_isDone_245 : decode cX12_isDone 245 = .ok (.ireturn, 1) := by decide +kernel
theorem dX12_isRuled_0 : decode cX12_isRuled 0 = .ok (.iconst 1, 1) := by decide +kernel
theorem dX12_isRuled_1 : decode cX12_isRuled 1 = .ok (.istore_n 1, 1) := by decide +kernel
theorem dX12_isRuled_2 : decode cX12_isRuled 2 = .ok (.iconst 0, 1) := by decide +kernel
theorem dX12_isRuled_3 : decode cX12_isRuled 3 = .ok (.istore_n 2, 1) := by decide +kernel
theorem dX12_isRuled_4 : decode cX12_isRuled 4 = .ok (.iload_n 2, 1) := by decide +kernel
theorem dX12_isRuled_5 : decode cX12_isRuled 5 = .ok (.iconst 5, 1) := by decide +kernel
theorem dX12_isRuled_6 : decode cX12_isRuled 6 = .ok (.if_icmp .ge 31, 3) := by decide +kernel
theorem dX12_isRuled_9 : decode cX12_isRuled 9 = .ok (.iload_n 1, 1) := by decide +kernel
theorem dX12_isRuled_10 : decode cX12_isRuled 10 = .ok (.ifCond .eq 19, 3) := by decide +kernel
theorem dX12_isRuled_13 : decode cX12_isRuled 13 = .ok (.aload_n 0, 1) := by decide +kernel
theorem dX12_isRuled_14 : decode cX12_isRuled 14 = .ok (.getfield 94, 3) := by decide +kernel
theorem dX12_isRuled_17 : decode cX12_isRuled 17 = .ok (.iload_n 2, 1) := by decide +kernel
theorem dX12_isRuled_18 : decode cX12_isRuled 18 = .ok (.iaload, 1) := by decide +kernel
theorem dX12_isRuled_19 : decode cX12_isRuled 19 = .ok (.invokestatic 174, 3) := by decide +kernel
theorem dX12_isRuled_22 : decode cX12_isRuled 22 = .ok (.ifCond .eq 7, 3) := by decide +kernel
theorem dX12_isRuled_25 : decode cX12_isRuled 25 = .ok (.iconst 1, 1) := by decide +kernel
theorem dX12_isRuled_26 : decode cX12_isRuled 26 = .ok (.goto 4, 3) := by decide +kernel
theorem dX12_isRuled_29 : decode cX12_isRuled 29 = .ok (.iconst 0, 1) := by decide +kernel
theorem dX12_isRuled_30 : decode cX12_isRuled 30 = .ok (.istore_n 1, 1) := by decide +kernel
theorem dX12_isRuled_31 : decode cX12_isRuled 31 = .ok (.iinc 2 1, 3) := by decide +kernel
theorem dX12_isRuled_34 : decode cX12_isRuled 34 = .ok (.goto (-30), 3) := by decide +kernel
theorem dX12_isRuled_37 : decode cX12_isRuled 37 = .ok (.iconst 0, 1) := by decide +kernel
theorem dX12_isRuled_38 : decode cX12_isRuled 38 = .ok (.istore_n 2, 1) := by decide +kernel
theorem dX12_isRuled_39 : decode cX12_isRuled 39 = .ok (.iload_n 1, 1) := by decide +kernel
theorem dX12_isRuled_40 : decode cX12_isRuled 40 = .ok (.ifCond .eq 37, 3) := by decide +kernel
theorem dX12_isRuled_43 : decode cX12_isRuled 43 = .ok (.iload_n 2, 1) := by decide +kernel
theorem dX12_isRuled_44 : decode cX12_isRuled 44 = .ok (.iconst 4, 1) := by decide +kernel
theorem dX12_isRuled_45 : decode cX12_isRuled 45 = .ok (.if_icmp .ge 32, 3) := by decide +kernel
theorem dX12_isRuled_48 : decode cX12_isRuled 48 = .ok (.aload_n 0, 1) := by decide +kernel
theorem dX12_isRuled_49 : decode cX12_isRuled 49 = .ok (.getfield 48, 3) := by decide +kernel
theorem dX12_isRuled_52 : decode cX12_isRuled 52 = .ok (.iconst 4, 1) := by decide +kernel
theorem dX12_isRuled_53 : decode cX12_isRuled 53 = .ok (.aload_n 0, 1) := by decide +kernel
theorem dX12_isRuled_54 : decode cX12_isRuled 54 = .ok (.getfield 94, 3) := by decide +kernel
theorem dX12_isRuled_57 : decode cX12_isRuled 57 = .ok (.iconst 0, 1) := by decide +kernel
theorem dX12_isRuled_58 : decode cX12_isRuled 58 = .ok (.iaload, 1) := by decide +kernel
theorem dX12_isRuled_59 : decode cX12_isRuled 59 = .ok (.imul, 1) := by decide +kernel
theorem dX12_isRuled_60 : decode cX12_isRuled 60 = .ok (.iload_n 2, 1) := by decide +kernel
theorem dX12_isRuled_61 : decode cX12_isRuled 61 = .ok (.iadd, 1) := by decide +kernel
theorem dX12_isRuled_62 : decode cX12_isRuled 62 = .ok (.aload_n 0, 1) := by decide +kernel
theorem dX12_isRuled_63 : decode cX12_isRuled 63 = .ok (.getfield 94, 3) := by decide +kernel
theorem dX12_isRuled_66 : decode cX12_isRuled 66 = .ok (.iload_n 2, 1) := by decide +kernel
theorem dX12_isRuled_67 : decode cX12_isRuled 67 = .ok (.iconst 1, 1) := by decide +kernel
theorem dX12_isRuled_68 : decode cX12_isRuled 68 = .ok (.iadd, 1) := by decide +kernel
theorem dX12_isRuled_69 : decode cX12_isRuled 69 = .ok (.iaload, 1) := by decide +kernel
theorem dX12_isRuled_70 : decode cX12_isRuled 70 = .ok (.iastore, 1) := by decide +kernel
theorem dX12_isRuled_71 : decode cX12_isRuled 71 = .ok (.iinc 2 1, 3) := by decide +kernel
theorem dX12_isRuled_74 : decode cX12_isRuled 74 = .ok (.goto (-35), 3) := by decide +kernel
theorem dX12_isRuled_77 : decode cX12_isRuled 77 = .ok (.iload_n 1, 1) := by decide +kernel
theorem dX12_isRuled_78 : decode cX12_isRuled 78 = .ok (.ireturn, 1) := by decide +kernel
theorem dX12_text_0 : decode cX12_text 0 = .ok (.aload_n 0, 1) := by decide +kernel
theorem dX12_text_1 : decode cX12_text 1 = .ok (.iconst 0, 1) := by decide +kernel
theorem dX12_text_2 : decode cX12_text 2 = .ok (.putfield 342, 3) := by decide +kernel
theorem dX12_text_5 : decode cX12_text 5 = .ok (.iconst 0, 1) := by decide +kernel
theorem dX12_text_6 : decode cX12_text 6 = .ok (.istore_n 1, 1) := by decide +kernel
theorem dX12_text_7 : decode cX12_text 7 = .ok (.iconst 1, 1) := by decide +kernel
theorem dX12_text_8 : decode cX12_text 8 = .ok (.istore_n 2, 1) := by decide +kernel
theorem dX12_text_9 : decode cX12_text 9 = .ok (.iload_n 2, 1) := by decide +kernel
theorem dX12_text_10 : decode cX12_text 10 = .ok (.ifCond .eq 46, 3) := by decide +kernel
theorem dX12_text_13 : decode cX12_text 13 = .ok (.aload_n 0, 1) := by decide +kernel
theorem dX12_text_14 : decode cX12_text 14 = .ok (.getfield 342, 3) := by decide +kernel
theorem dX12_text_17 : decode cX12_text 17 = .ok (.aload_n 0, 1) := by decide +kernel
theorem dX12_text_18 : decode cX12_text 18 = .ok (.getfield 339, 3) := by decide +kernel
theorem dX12_text_21 : decode cX12_text 21 = .ok (.if_icmp .lt 7, 3) := by decide +kernel
theorem dX12_text_24 : decode cX12_text 24 = .ok (.iload_n 1, 1) := by decide +kernel
theorem dX12_text_25 : decode cX12_text 25 = .ok (.ifCond .ne 31, 3) := by decide +kernel
theorem dX12_text_28 : decode cX12_text 28 = .ok (.aload_n 0, 1) := by decide +kernel
theorem dX12_text_29 : decode cX12_text 29 = .ok (.invokevirtual 358, 3) := by decide +kernel
theorem dX12_text_32 : decode cX12_text 32 = .ok (.ifCond .eq 7, 3) := by decide +kernel
theorem dX12_text_35 : decode cX12_text 35 = .ok (.iconst 1, 1) := by decide +kernel
theorem dX12_text_36 : decode cX12_text 36 = .ok (.goto 4, 3) := by decide +kernel
theorem dX12_text_39 : decode cX12_text 39 = .ok (.iconst 0, 1) := by decide +kernel
theorem dX12_text_40 : decode cX12_text 40 = .ok (.istore_n 2, 1) := by decide +kernel
theorem dX12_text_41 : decode cX12_text 41 = .ok (.iload_n 1, 1) := by decide +kernel
theorem dX12_text_42 : decode cX12_text 42 = .ok (.iload_n 2, 1) := by decide +kernel
theorem dX12_text_43 : decode cX12_text 43 = .ok (.ifCond .eq 7, 3) := by decide +kernel
theorem dX12_text_46 : decode cX12_text 46 = .ok (.iconst 1, 1) := by decide +kernel
theorem dX12_text_47 : decode cX12_text 47 = .ok (.goto 4, 3) := by decide +kernel
theorem dX12_text_50 : decode cX12_text 50 = .ok (.iconst 0, 1) := by decide +kernel
theorem dX12_text_51 : decode cX12_text 51 = .ok (.iadd, 1) := by decide +kernel
theorem dX12_text_52 : decode cX12_text 52 = .ok (.istore_n 1, 1) := by decide +kernel
theorem dX12_text_53 : decode cX12_text 53 = .ok (.goto (-44), 3) := by decide +kernel
theorem dX12_text_56 : decode cX12_text 56 = .ok (.iload_n 2, 1) := by decide +kernel
theorem dX12_text_57 : decode cX12_text 57 = .ok (.ifCond .eq 7, 3) := by decide +kernel
theorem dX12_text_60 : decode cX12_text 60 = .ok (.iconst 0, 1) := by decide +kernel
theorem dX12_text_61 : decode cX12_text 61 = .ok (.goto 11, 3) := by decide +kernel
theorem dX12_text_64 : decode cX12_text 64 = .ok (.sipush (-1000), 3) := by decide +kernel
theorem dX12_text_67 : decode cX12_text 67 = .ok (.aload_n 0, 1) := by decide +kernel
theorem dX12_text_68 : decode cX12_text 68 = .ok (.getfield 342, 3) := by decide +kernel
theorem dX12_text_71 : decode cX12_text 71 = .ok (.isub, 1) := by decide +kernel
theorem dX12_text_72 : decode cX12_text 72 = .ok (.istore_n 3, 1) := by decide +kernel
theorem dX12_text_73 : decode cX12_text 73 = .ok (.iload_n 2, 1) := by decide +kernel
theorem dX12_text_74 : decode cX12_text 74 = .ok (.ifCond .eq 9, 3) := by decide +kernel
theorem dX12_text_77 : decode cX12_text 77 = .ok (.aload_n 0, 1) := by decide +kernel
theorem dX12_text_78 : decode cX12_text 78 = .ok (.iload_n 1, 1) := by decide +kernel
theorem dX12_text_79 : decode cX12_text 79 = .ok (.invokevirtual 361, 3) := by decide +kernel
theorem dX12_text_82 : decode cX12_text 82 = .ok (.istore_n 3, 1) := by decide +kernel
theorem dX12_text_83 : decode cX12_text 83 = .ok (.aload_n 0, 1) := by decide +kernel
theorem dX12_text_84 : decode cX12_text 84 = .ok (.iconst 0, 1) := by decide +kernel
theorem dX12_text_85 : decode cX12_text 85 = .ok (.putfield 339, 3) := by decide +kernel
theorem dX12_text_88 : decode cX12_text 88 = .ok (.iload_n 3, 1) := by decide +kernel
theorem dX12_text_89 : decode cX12_text 89 = .ok (.ifCond .ge 7, 3) := by decide +kernel
theorem dX12_text_92 : decode cX12_text 92 = .ok (.iload_n 3, 1) := by decide +kernel
theorem dX12_text_93 : decode cX12_text 93 = .ok (.goto 4, 3) := by decide +kernel
theorem dX12_text_96 : decode cX12_text 96 = .ok (.iload_n 1, 1) := by decide +kernel
theorem dX12_text_97 : decode cX12_text 97 = .ok (.ireturn, 1) := by decide +kernel
theorem dX12_done_0 : decode cX12_done 0 = .ok (.aload_n 0, 1) := by decide +kernel
theorem dX12_done_1 : decode cX12_done 1 = .ok (.getfield 29, 3) := by decide +kernel
theorem dX12_done_4 : decode cX12_done 4 = .ok (.istore_n 2, 1) := by decide +kernel
theorem dX12_done_5 : decode cX12_done 5 = .ok (.aload_n 0, 1) := by decide +kernel
theorem dX12_done_6 : decode cX12_done 6 = .ok (.getfield 127, 3) := by decide +kernel
theorem dX12_done_9 : decode cX12_done 9 = .ok (.istore_n 3, 1) := by decide +kernel
theorem dX12_done_10 : decode cX12_done 10 = .ok (.aload_n 0, 1) := by decide +kernel
theorem dX12_done_11 : decode cX12_done 11 = .ok (.getfield 130, 3) := by decide +kernel
theorem dX12_done_14 : decode cX12_done 14 = .ok (.istore 4, 2) := by decide +kernel
theorem dX12_done_16 : decode cX12_done 16 = .ok (.aload_n 0, 1) := by decide +kernel
theorem dX12_done_17 : decode cX12_done 17 = .ok (.getfield 207, 3) := by decide +kernel
theorem dX12_done_20 : decode cX12_done 20 = .ok (.istore 5, 2) := by decide +kernel
theorem dX12_done_22 : decode cX12_done 22 = .ok (.aload_n 0, 1) := by decide +kernel
theorem dX12_done_23 : decode cX12_done 23 = .ok (.getfield 238, 3) := by decide +kernel
theorem dX12_done_26 : decode cX12_done 26 = .ok (.istore 6, 2) := by decide +kernel
theorem dX12_done_28 : decode cX12_done 28 = .ok (.iconst 0, 1) := by decide +kernel
theorem dX12_done_29 : decode cX12_done 29 = .ok (.istore 7, 2) := by decide +kernel
theorem dX12_done_31 : decode cX12_done 31 = .ok (.iload 7, 2) := by decide +kernel
theorem dX12_done_33 : decode cX12_done 33 = .ok (.bipush 16, 2) := by decide +kernel
theorem dX12_done_35 : decode cX12_done 35 = .ok (.if_icmp .ge 23, 3) := by decide +kernel
theorem dX12_done_38 : decode cX12_done 38 = .ok (.aload_n 0, 1) := by decide +kernel
theorem dX12_done_39 : decode cX12_done 39 = .ok (.getfield 97, 3) := by decide +kernel
theorem dX12_done_42 : decode cX12_done 42 = .ok (.iload 7, 2) := by decide +kernel
theorem dX12_done_44 : decode cX12_done 44 = .ok (.aload_n 0, 1) := by decide +kernel
theorem dX12_done_45 : decode cX12_done 45 = .ok (.getfield 48, 3) := by decide +kernel
theorem dX12_done_48 : decode cX12_done 48 = .ok (.iload 7, 2) := by decide +kernel
theorem dX12_done_50 : decode cX12_done 50 = .ok (.iaload, 1) := by decide +kernel
theorem dX12_done_51 : decode cX12_done 51 = .ok (.iastore, 1) := by decide +kernel
theorem dX12_done_52 : decode cX12_done 52 = .ok (.iinc 7 1, 3) := by decide +kernel
theorem dX12_done_55 : decode cX12_done 55 = .ok (.goto (-24), 3) := by decide +kernel
theorem dX12_done_58 : decode cX12_done 58 = .ok (.aload_n 0, 1) := by decide +kernel
theorem dX12_done_59 : decode cX12_done 59 = .ok (.iconst 0, 1) := by decide +kernel
theorem dX12_done_60 : decode cX12_done 60 = .ok (.putfield 342, 3) := by decide +kernel
theorem dX12_done_63 : decode cX12_done 63 = .ok (.iconst 0, 1) := by decide +kernel
theorem dX12_done_64 : decode cX12_done 64 = .ok (.istore 7, 2) := by decide +kernel
theorem dX12_done_66 : decode cX12_done 66 = .ok (.iload 7, 2) := by decide +kernel
theorem dX12_done_68 : decode cX12_done 68 = .ok (.iload_n 1, 1) := by decide +kernel
theorem dX12_done_69 : decode cX12_done 69 = .ok (.if_icmp .ge 83, 3) := by decide +kernel
theorem dX12_done_72 : decode cX12_done 72 = .ok (.aload_n 0, 1) := by decide +kernel
theorem dX12_done_73 : decode cX12_done 73 = .ok (.getfield 342, 3) := by decide +kernel
theorem dX12_done_76 : decode cX12_done 76 = .ok (.istore 8, 2) := by decide +kernel
theorem dX12_done_78 : decode cX12_done 78 = .ok (.aload_n 0, 1) := by decide +kernel
theorem dX12_done_79 : decode cX12_done 79 = .ok (.aload_n 0, 1) := by decide +kernel
theorem dX12_done_80 : decode cX12_done 80 = .ok (.invokevirtual 358, 3) := by decide +kernel
theorem dX12_done_83 : decode cX12_done 83 = .ok (.invokevirtual 364, 3) := by decide +kernel
theorem dX12_done_86 : decode cX12_done 86 = .ok (.ifCond .ne 60, 3) := by decide +kernel
theorem dX12_done_89 : decode cX12_done 89 = .ok (.aload_n 0, 1) := by decide +kernel
theorem dX12_done_90 : decode cX12_done 90 = .ok (.iload_n 2, 1) := by decide +kernel
theorem dX12_done_91 : decode cX12_done 91 = .ok (.iload_n 3, 1) := by decide +kernel
theorem dX12_done_92 : decode cX12_done 92 = .ok (.iload 4, 2) := by decide +kernel
theorem dX12_done_94 : decode cX12_done 94 = .ok (.invokevirtual 112, 3) := by decide +kernel
theorem dX12_done_97 : decode cX12_done 97 = .ok (.aload_n 0, 1) := by decide +kernel
theorem dX12_done_98 : decode cX12_done 98 = .ok (.iload 5, 2) := by decide +kernel
theorem dX12_done_100 : decode cX12_done 100 = .ok (.putfield 207, 3) := by decide +kernel
theorem dX12_done_103 : decode cX12_done 103 = .ok (.aload_n 0, 1) := by decide +kernel
theorem dX12_done_104 : decode cX12_done 104 = .ok (.iload 6, 2) := by decide +kernel
theorem dX12_done_106 : decode cX12_done 106 = .ok (.putfield 238, 3) := by decide +kernel
theorem dX12_done_109 : decode cX12_done 109 = .ok (.iconst 0, 1) := by decide +kernel
theorem dX12_done_110 : decode cX12_done 110 = .ok (.istore 9, 2) := by decide +kernel
theorem dX12_done_112 : decode cX12_done 112 = .ok (.iload 9, 2) := by decide +kernel
theorem dX12_done_114 : decode cX12_done 114 = .ok (.bipush 16, 2) := by decide +kernel
theorem dX12_done_116 : decode cX12_done 116 = .ok (.if_icmp .ge 23, 3) := by decide +kernel
theorem dX12_done_119 : decode cX12_done 119 = .ok (.aload_n 0, 1) := by decide +kernel
theorem dX12_done_120 : decode cX12_done 120 = .ok (.getfield 48, 3) := by decide +kernel
theorem dX12_done_123 : decode cX12_done 123 = .ok (.iload 9, 2) := by decide +kernel
theorem dX12_done_125 : decode cX12_done 125 = .ok (.aload_n 0, 1) := by decide +kernel
theorem dX12_done_126 : decode cX12_done 126 = .ok (.getfield 97, 3) := by decide +kernel
theorem dX12_done_129 : decode cX12_done 129 = .ok (.iload 9, 2) := by decide +kernel
theorem dX12_done_131 : decode cX12_done 131 = .ok (.iaload, 1) := by decide +kernel
theorem dX12_done_132 : decode cX12_done 132 = .ok (.iastore, 1) := by decide +kernel
theorem dX12_done_133 : decode cX12_done 133 = .ok (.iinc 9 1, 3) := by decide +kernel
theorem dX12_done_136 : decode cX12_done 136 = .ok (.goto (-24), 3) := by decide +kernel
theorem dX12_done_139 : decode cX12_done 139 = .ok (.sipush (-2000), 3) := by decide +kernel
theorem dX12_done_142 : decode cX12_done 142 = .ok (.iload 8, 2) := by decide +kernel
theorem dX12_done_144 : decode cX12_done 144 = .ok (.isub, 1) := by decide +kernel
theorem dX12_done_145 : decode cX12_done 145 = .ok (.ireturn, 1) := by decide +kernel
theorem dX12_done_146 : decode cX12_done 146 = .ok (.iinc 7 1, 3) := by decide +kernel
theorem dX12_done_149 : decode cX12_done 149 = .ok (.goto (-83), 3) := by decide +kernel
theorem dX12_done_152 : decode cX12_done 152 = .ok (.iconst 0, 1) := by decide +kernel
theorem dX12_done_153 : decode cX12_done 153 = .ok (.ireturn, 1) := by decide +kernel
theorem dX12_image_0 : decode cX12_image 0 = .ok (.aload_n 0, 1) := by decide +kernel
theorem dX12_image_1 : decode cX12_image 1 = .ok (.iconst 1, 1) := by decide +kernel
theorem dX12_image_2 : decode cX12_image 2 = .ok (.putfield 367, 3) := by decide +kernel
theorem dX12_image_5 : decode cX12_image 5 = .ok (.aload_n 0, 1) := by decide +kernel
theorem dX12_image_6 : decode cX12_image 6 = .ok (.aload_n 0, 1) := by decide +kernel
theorem dX12_image_7 : decode cX12_image 7 = .ok (.getfield 29, 3) := by decide +kernel
theorem dX12_image_10 : decode cX12_image 10 = .ok (.putfield 371, 3) := by decide +kernel
theorem dX12_image_13 : decode cX12_image 13 = .ok (.aload_n 0, 1) := by decide +kernel
theorem dX12_image_14 : decode cX12_image 14 = .ok (.aload_n 0, 1) := by decide +kernel
theorem dX12_image_15 : decode cX12_image 15 = .ok (.getfield 127, 3) := by decide +kernel
theorem dX12_image_18 : decode cX12_image 18 = .ok (.putfield 374, 3) := by decide +kernel
theorem dX12_image_21 : decode cX12_image 21 = .ok (.aload_n 0, 1) := by decide +kernel
theorem dX12_image_22 : decode cX12_image 22 = .ok (.aload_n 0, 1) := by decide +kernel
theorem dX12_image_23 : decode cX12_image 23 = .ok (.getfield 130, 3) := by decide +kernel
theorem dX12_image_26 : decode cX12_image 26 = .ok (.putfield 377, 3) := by decide +kernel
theorem dX12_image_29 : decode cX12_image 29 = .ok (.aload_n 0, 1) := by decide +kernel
theorem dX12_image_30 : decode cX12_image 30 = .ok (.aload_n 0, 1) := by decide +kernel
theorem dX12_image_31 : decode cX12_image 31 = .ok (.getfield 207, 3) := by decide +kernel
theorem dX12_image_34 : decode cX12_image 34 = .ok (.putfield 380, 3) := by decide +kernel
theorem dX12_image_37 : decode cX12_image 37 = .ok (.aload_n 0, 1) := by decide +kernel
theorem dX12_image_38 : decode cX12_image 38 = .ok (.aload_n 0, 1) := by decide +kernel
theorem dX12_image_39 : decode cX12_image 39 = .ok (.getfield 238, 3) := by decide +kernel
theorem dX12_image_42 : decode cX12_image 42 = .ok (.putfield 383, 3) := by decide +kernel
theorem dX12_image_45 : decode cX12_image 45 = .ok (.iconst 0, 1) := by decide +kernel
theorem dX12_image_46 : decode cX12_image 46 = .ok (.istore_n 1, 1) := by decide +kernel
theorem dX12_image_47 : decode cX12_image 47 = .ok (.iload_n 1, 1) := by decide +kernel
theorem dX12_image_48 : decode cX12_image 48 = .ok (.bipush 16, 2) := by decide +kernel
theorem dX12_image_50 : decode cX12_image 50 = .ok (.if_icmp .ge 21, 3) := by decide +kernel
theorem dX12_image_53 : decode cX12_image 53 = .ok (.aload_n 0, 1) := by decide +kernel
theorem dX12_image_54 : decode cX12_image 54 = .ok (.getfield 100, 3) := by decide +kernel
theorem dX12_image_57 : decode cX12_image 57 = .ok (.iload_n 1, 1) := by decide +kernel
theorem dX12_image_58 : decode cX12_image 58 = .ok (.aload_n 0, 1) := by decide +kernel
theorem dX12_image_59 : decode cX12_image 59 = .ok (.getfield 48, 3) := by decide +kernel
theorem dX12_image_62 : decode cX12_image 62 = .ok (.iload_n 1, 1) := by decide +kernel
theorem dX12_image_63 : decode cX12_image 63 = .ok (.iaload, 1) := by decide +kernel
theorem dX12_image_64 : decode cX12_image 64 = .ok (.iastore, 1) := by decide +kernel
theorem dX12_image_65 : decode cX12_image 65 = .ok (.iinc 1 1, 3) := by decide +kernel
theorem dX12_image_68 : decode cX12_image 68 = .ok (.goto (-21), 3) := by decide +kernel
theorem dX12_image_71 : decode cX12_image 71 = .ok (.iconst 0, 1) := by decide +kernel
theorem dX12_image_72 : decode cX12_image 72 = .ok (.istore_n 1, 1) := by decide +kernel
theorem dX12_image_73 : decode cX12_image 73 = .ok (.iload_n 1, 1) := by decide +kernel
theorem dX12_image_74 : decode cX12_image 74 = .ok (.bipush 40, 2) := by decide +kernel
theorem dX12_image_76 : decode cX12_image 76 = .ok (.if_icmp .ge 21, 3) := by decide +kernel
theorem dX12_image_79 : decode cX12_image 79 = .ok (.aload_n 0, 1) := by decide +kernel
theorem dX12_image_80 : decode cX12_image 80 = .ok (.getfield 103, 3) := by decide +kernel
theorem dX12_image_83 : decode cX12_image 83 = .ok (.iload_n 1, 1) := by decide +kernel
theorem dX12_image_84 : decode cX12_image 84 = .ok (.aload_n 0, 1) := by decide +kernel
theorem dX12_image_85 : decode cX12_image 85 = .ok (.getfield 64, 3) := by decide +kernel
theorem dX12_image_88 : decode cX12_image 88 = .ok (.iload_n 1, 1) := by decide +kernel
theorem dX12_image_89 : decode cX12_image 89 = .ok (.iaload, 1) := by decide +kernel
theorem dX12_image_90 : decode cX12_image 90 = .ok (.iastore, 1) := by decide +kernel
theorem dX12_image_91 : decode cX12_image 91 = .ok (.iinc 1 1, 3) := by decide +kernel
theorem dX12_image_94 : decode cX12_image 94 = .ok (.goto (-21), 3) := by decide +kernel
theorem dX12_image_97 : decode cX12_image 97 = .ok (.iconst 0, 1) := by decide +kernel
theorem dX12_image_98 : decode cX12_image 98 = .ok (.istore_n 1, 1) := by decide +kernel
theorem dX12_image_99 : decode cX12_image 99 = .ok (.iload_n 1, 1) := by decide +kernel
theorem dX12_image_100 : decode cX12_image 100 = .ok (.bipush 10, 2) := by decide +kernel
theorem dX12_image_102 : decode cX12_image 102 = .ok (.if_icmp .ge 21, 3) := by decide +kernel
theorem dX12_image_105 : decode cX12_image 105 = .ok (.aload_n 0, 1) := by decide +kernel
theorem dX12_image_106 : decode cX12_image 106 = .ok (.getfield 106, 3) := by decide +kernel
theorem dX12_image_109 : decode cX12_image 109 = .ok (.iload_n 1, 1) := by decide +kernel
theorem dX12_image_110 : decode cX12_image 110 = .ok (.aload_n 0, 1) := by decide +kernel
theorem dX12_image_111 : decode cX12_image 111 = .ok (.getfield 67, 3) := by decide +kernel
theorem dX12_image_114 : decode cX12_image 114 = .ok (.iload_n 1, 1) := by decide +kernel
theorem dX12_image_115 : decode cX12_image 115 = .ok (.iaload, 1) := by decide +kernel
theorem dX12_image_116 : decode cX12_image 116 = .ok (.iastore, 1) := by decide +kernel
theorem dX12_image_117 : decode cX12_image 117 = .ok (.iinc 1 1, 3) := by decide +kernel
theorem dX12_image_120 : decode cX12_image 120 = .ok (.goto (-21), 3) := by decide +kernel
theorem dX12_image_123 : decode cX12_image 123 = .ok (.iconst 0, 1) := by decide +kernel
theorem dX12_image_124 : decode cX12_image 124 = .ok (.istore_n 1, 1) := by decide +kernel
theorem dX12_image_125 : decode cX12_image 125 = .ok (.iload_n 1, 1) := by decide +kernel
theorem dX12_image_126 : decode cX12_image 126 = .ok (.bipush 30, 2) := by decide +kernel
theorem dX12_image_128 : decode cX12_image 128 = .ok (.if_icmp .ge 21, 3) := by decide +kernel
theorem dX12_image_131 : decode cX12_image 131 = .ok (.aload_n 0, 1) := by decide +kernel
theorem dX12_image_132 : decode cX12_image 132 = .ok (.getfield 109, 3) := by decide +kernel
theorem dX12_image_135 : decode cX12_image 135 = .ok (.iload_n 1, 1) := by decide +kernel
theorem dX12_image_136 : decode cX12_image 136 = .ok (.aload_n 0, 1) := by decide +kernel
theorem dX12_image_137 : decode cX12_image 137 = .ok (.getfield 70, 3) := by decide +kernel
theorem dX12_image_140 : decode cX12_image 140 = .ok (.iload_n 1, 1) := by decide +kernel
theorem dX12_image_141 : decode cX12_image 141 = .ok (.iaload, 1) := by decide +kernel
theorem dX12_image_142 : decode cX12_image 142 = .ok (.iastore, 1) := by decide +kernel
theorem dX12_image_143 : decode cX12_image 143 = .ok (.iinc 1 1, 3) := by decide +kernel
theorem dX12_image_146 : decode cX12_image 146 = .ok (.goto (-21), 3) := by decide +kernel
theorem dX12_image_149 : decode cX12_image 149 = .ok (.aload_n 0, 1) := by decide +kernel
theorem dX12_image_150 : decode cX12_image 150 = .ok (.getfield 207, 3) := by decide +kernel
theorem dX12_image_153 : decode cX12_image 153 = .ok (.ireturn, 1) := by decide +kernel
theorem dX12_on_0 : decode cX12_on 0 = .ok (.aload_n 0, 1) := by decide +kernel
theorem dX12_on_1 : decode cX12_on 1 = .ok (.getfield 367, 3) := by decide +kernel
theorem dX12_on_4 : decode cX12_on 4 = .ok (.ifCond .ne 10, 3) := by decide +kernel
theorem dX12_on_7 : decode cX12_on 7 = .ok (.aload_n 0, 1) := by decide +kernel
theorem dX12_on_8 : decode cX12_on 8 = .ok (.bipush (-3), 2) := by decide +kernel
theorem dX12_on_10 : decode cX12_on 10 = .ok (.invokevirtual 9, 3) := by decide +kernel
theorem dX12_on_13 : decode cX12_on 13 = .ok (.ireturn, 1) := by decide +kernel
theorem dX12_on_14 : decode cX12_on 14 = .ok (.aload_n 0, 1) := by decide +kernel
theorem dX12_on_15 : decode cX12_on 15 = .ok (.aload_n 0, 1) := by decide +kernel
theorem dX12_on_16 : decode cX12_on 16 = .ok (.getfield 371, 3) := by decide +kernel
theorem dX12_on_19 : decode cX12_on 19 = .ok (.aload_n 0, 1) := by decide +kernel
theorem dX12_on_20 : decode cX12_on 20 = .ok (.getfield 374, 3) := by decide +kernel
theorem dX12_on_23 : decode cX12_on 23 = .ok (.aload_n 0, 1) := by decide +kernel
theorem dX12_on_24 : decode cX12_on 24 = .ok (.getfield 377, 3) := by decide +kernel
theorem dX12_on_27 : decode cX12_on 27 = .ok (.invokevirtual 112, 3) := by decide +kernel
theorem dX12_on_30 : decode cX12_on 30 = .ok (.aload_n 0, 1) := by decide +kernel
theorem dX12_on_31 : decode cX12_on 31 = .ok (.aload_n 0, 1) := by decide +kernel
theorem dX12_on_32 : decode cX12_on 32 = .ok (.getfield 380, 3) := by decide +kernel
theorem dX12_on_35 : decode cX12_on 35 = .ok (.putfield 207, 3) := by decide +kernel
theorem dX12_on_38 : decode cX12_on 38 = .ok (.aload_n 0, 1) := by decide +kernel
theorem dX12_on_39 : decode cX12_on 39 = .ok (.aload_n 0, 1) := by decide +kernel
theorem dX12_on_40 : decode cX12_on 40 = .ok (.getfield 383, 3) := by decide +kernel
theorem dX12_on_43 : decode cX12_on 43 = .ok (.putfield 238, 3) := by decide +kernel
theorem dX12_on_46 : decode cX12_on 46 = .ok (.iconst 0, 1) := by decide +kernel
theorem dX12_on_47 : decode cX12_on 47 = .ok (.istore_n 1, 1) := by decide +kernel
theorem dX12_on_48 : decode cX12_on 48 = .ok (.iload_n 1, 1) := by decide +kernel
theorem dX12_on_49 : decode cX12_on 49 = .ok (.bipush 16, 2) := by decide +kernel
theorem dX12_on_51 : decode cX12_on 51 = .ok (.if_icmp .ge 21, 3) := by decide +kernel
theorem dX12_on_54 : decode cX12_on 54 = .ok (.aload_n 0, 1) := by decide +kernel
theorem dX12_on_55 : decode cX12_on 55 = .ok (.getfield 48, 3) := by decide +kernel
theorem dX12_on_58 : decode cX12_on 58 = .ok (.iload_n 1, 1) := by decide +kernel
theorem dX12_on_59 : decode cX12_on 59 = .ok (.aload_n 0, 1) := by decide +kernel
theorem dX12_on_60 : decode cX12_on 60 = .ok (.getfield 100, 3) := by decide +kernel
theorem dX12_on_63 : decode cX12_on 63 = .ok (.iload_n 1, 1) := by decide +kernel
theorem dX12_on_64 : decode cX12_on 64 = .ok (.iaload, 1) := by decide +kernel
theorem dX12_on_65 : decode cX12_on 65 = .ok (.iastore, 1) := by decide +kernel
theorem dX12_on_66 : decode cX12_on 66 = .ok (.iinc 1 1, 3) := by decide +kernel
theorem dX12_on_69 : decode cX12_on 69 = .ok (.goto (-21), 3) := by decide +kernel
theorem dX12_on_72 : decode cX12_on 72 = .ok (.iconst 0, 1) := by decide +kernel
theorem dX12_on_73 : decode cX12_on 73 = .ok (.istore_n 1, 1) := by decide +kernel
theorem dX12_on_74 : decode cX12_on 74 = .ok (.iload_n 1, 1) := by decide +kernel
theorem dX12_on_75 : decode cX12_on 75 = .ok (.bipush 40, 2) := by decide +kernel
theorem dX12_on_77 : decode cX12_on 77 = .ok (.if_icmp .ge 21, 3) := by decide +kernel
theorem dX12_on_80 : decode cX12_on 80 = .ok (.aload_n 0, 1) := by decide +kernel
theorem dX12_on_81 : decode cX12_on 81 = .ok (.getfield 64, 3) := by decide +kernel
theorem dX12_on_84 : decode cX12_on 84 = .ok (.iload_n 1, 1) := by decide +kernel
theorem dX12_on_85 : decode cX12_on 85 = .ok (.aload_n 0, 1) := by decide +kernel
theorem dX12_on_86 : decode cX12_on 86 = .ok (.getfield 103, 3) := by decide +kernel
theorem dX12_on_89 : decode cX12_on 89 = .ok (.iload_n 1, 1) := by decide +kernel
theorem dX12_on_90 : decode cX12_on 90 = .ok (.iaload, 1) := by decide +kernel
theorem dX12_on_91 : decode cX12_on 91 = .ok (.iastore, 1) := by decide +kernel
theorem dX12_on_92 : decode cX12_on 92 = .ok (.iinc 1 1, 3) := by decide +kernel
theorem dX12_on_95 : decode cX12_on 95 = .ok (.goto (-21), 3) := by decide +kernel
theorem dX12_on_98 : decode cX12_on 98 = .ok (.iconst 0, 1) := by decide +kernel
theorem dX12_on_99 : decode cX12_on 99 = .ok (.istore_n 1, 1) := by decide +kernel
theorem dX12_on_100 : decode cX12_on 100 = .ok (.iload_n 1, 1) := by decide +kernel
theorem dX12_on_101 : decode cX12_on 101 = .ok (.bipush 10, 2) := by decide +kernel
theorem dX12_on_103 : decode cX12_on 103 = .ok (.if_icmp .ge 21, 3) := by decide +kernel
theorem dX12_on_106 : decode cX12_on 106 = .ok (.aload_n 0, 1) := by decide +kernel
theorem dX12_on_107 : decode cX12_on 107 = .ok (.getfield 67, 3) := by decide +kernel
theorem dX12_on_110 : decode cX12_on 110 = .ok (.iload_n 1, 1) := by decide +kernel
theorem dX12_on_111 : decode cX12_on 111 = .ok (.aload_n 0, 1) := by decide +kernel
theorem dX12_on_112 : decode cX12_on 112 = .ok (.getfield 106, 3) := by decide +kernel
theorem dX12_on_115 : decode cX12_on 115 = .ok (.iload_n 1, 1) := by decide +kernel
theorem dX12_on_116 : decode cX12_on 116 = .ok (.iaload, 1) := by decide +kernel
theorem dX12_on_117 : decode cX12_on 117 = .ok (.iastore, 1) := by decide +kernel
theorem dX12_on_118 : decode cX12_on 118 = .ok (.iinc 1 1, 3) := by decide +kernel
theorem dX12_on_121 : decode cX12_on 121 = .ok (.goto (-21), 3) := by decide +kernel
theorem dX12_on_124 : decode cX12_on 124 = .ok (.iconst 0, 1) := by decide +kernel
theorem dX12_on_125 : decode cX12_on 125 = .ok (.istore_n 1, 1) := by decide +kernel
theorem dX12_on_126 : decode cX12_on 126 = .ok (.iload_n 1, 1) := by decide +kernel
theorem dX12_on_127 : decode cX12_on 127 = .ok (.bipush 30, 2) := by decide +kernel
theorem dX12_on_129 : decode cX12_on 129 = .ok (.if_icmp .ge 21, 3) := by decide +kernel
theorem dX12_on_132 : decode cX12_on 132 = .ok (.aload_n 0, 1) := by decide +kernel
theorem dX12_on_133 : decode cX12_on 133 = .ok (.getfield 70, 3) := by decide +kernel
theorem dX12_on_136 : decode cX12_on 136 = .ok (.iload_n 1, 1) := by decide +kernel
theorem dX12_on_137 : decode cX12_on 137 = .ok (.aload_n 0, 1) := by decide +kernel
theorem dX12_on_138 : decode cX12_on 138 = .ok (.getfield 109, 3) := by decide +kernel
theorem dX12_on_141 : decode cX12_on 141 = .ok (.iload_n 1, 1) := by decide +kernel
theorem dX12_on_142 : decode cX12_on 142 = .ok (.iaload, 1) := by decide +kernel
theorem dX12_on_143 : decode cX12_on 143 = .ok (.iastore, 1) := by decide +kernel
theorem dX12_on_144 : decode cX12_on 144 = .ok (.iinc 1 1, 3) := by decide +kernel
theorem dX12_on_147 : decode cX12_on 147 = .ok (.goto (-21), 3) := by decide +kernel
theorem dX12_on_150 : decode cX12_on 150 = .ok (.aload_n 0, 1) := by decide +kernel
theorem dX12_on_151 : decode cX12_on 151 = .ok (.getfield 207, 3) := by decide +kernel
theorem dX12_on_154 : decode cX12_on 154 = .ok (.ireturn, 1) := by decide +kernel
theorem dX12_count_0 : decode cX12_count 0 = .ok (.iload_n 1, 1) := by decide +kernel
theorem dX12_count_1 : decode cX12_count 1 = .ok (.i2l, 1) := by decide +kernel
theorem dX12_count_2 : decode cX12_count 2 = .ok (.ldc2_w 386, 3) := by decide +kernel
theorem dX12_count_5 : decode cX12_count 5 = .ok (.ldc2_w 388, 3) := by decide +kernel
theorem dX12_count_8 : decode cX12_count 8 = .ok (.invokestatic 123, 3) := by decide +kernel
theorem dX12_count_11 : decode cX12_count 11 = .ok (.ifCond .eq 13, 3) := by decide +kernel
theorem dX12_count_14 : decode cX12_count 14 = .ok (.aload_n 0, 1) := by decide +kernel
theorem dX12_count_15 : decode cX12_count 15 = .ok (.getfield 1, 3) := by decide +kernel
theorem dX12_count_18 : decode cX12_count 18 = .ok (.iload_n 1, 1) := by decide +kernel
theorem dX12_count_19 : decode cX12_count 19 = .ok (.bipush 10, 2) := by decide +kernel
theorem dX12_count_21 : decode cX12_count 21 = .ok (.isub, 1) := by decide +kernel
theorem dX12_count_22 : decode cX12_count 22 = .ok (.iaload, 1) := by decide +kernel
theorem dX12_count_23 : decode cX12_count 23 = .ok (.ireturn, 1) := by decide +kernel
theorem dX12_count_24 : decode cX12_count 24 = .ok (.iload_n 1, 1) := by decide +kernel
theorem dX12_count_25 : decode cX12_count 25 = .ok (.tableswitch 69 0 5 #[39, 44, 49, 54, 59, 64], 39) := by decide +kernel
theorem dX12_count_64 : decode cX12_count 64 = .ok (.aload_n 0, 1) := by decide +kernel
theorem dX12_count_65 : decode cX12_count 65 = .ok (.getfield 29, 3) := by decide +kernel
theorem dX12_count_68 : decode cX12_count 68 = .ok (.ireturn, 1) := by decide +kernel
theorem dX12_count_69 : decode cX12_count 69 = .ok (.aload_n 0, 1) := by decide +kernel
theorem dX12_count_70 : decode cX12_count 70 = .ok (.getfield 207, 3) := by decide +kernel
theorem dX12_count_73 : decode cX12_count 73 = .ok (.ireturn, 1) := by decide +kernel
theorem dX12_count_74 : decode cX12_count 74 = .ok (.aload_n 0, 1) := by decide +kernel
theorem dX12_count_75 : decode cX12_count 75 = .ok (.getfield 238, 3) := by decide +kernel
theorem dX12_count_78 : decode cX12_count 78 = .ok (.ireturn, 1) := by decide +kernel
theorem dX12_count_79 : decode cX12_count 79 = .ok (.aload_n 0, 1) := by decide +kernel
theorem dX12_count_80 : decode cX12_count 80 = .ok (.getfield 339, 3) := by decide +kernel
theorem dX12_count_83 : decode cX12_count 83 = .ok (.ireturn, 1) := by decide +kernel
theorem dX12_count_84 : decode cX12_count 84 = .ok (.aload_n 0, 1) := by decide +kernel
theorem dX12_count_85 : decode cX12_count 85 = .ok (.getfield 127, 3) := by decide +kernel
theorem dX12_count_88 : decode cX12_count 88 = .ok (.ireturn, 1) := by decide +kernel
theorem dX12_count_89 : decode cX12_count 89 = .ok (.aload_n 0, 1) := by decide +kernel
theorem dX12_count_90 : decode cX12_count 90 = .ok (.getfield 130, 3) := by decide +kernel
theorem dX12_count_93 : decode cX12_count 93 = .ok (.ireturn, 1) := by decide +kernel
theorem dX12_count_94 : decode cX12_count 94 = .ok (.bipush (-9), 2) := by decide +kernel
theorem dX12_count_96 : decode cX12_count 96 = .ok (.ireturn, 1) := by decide +kernel
