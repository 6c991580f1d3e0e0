theorem dL_cell_0 : decode cL_cell 0 = .ok (.iload_n 1, 1) := by decide +kernel
theorem dL_cell_1 : decode cL_cell 1 = .ok (.aload_n 0, 1) := by decide +kernel
theorem dL_cell_2 : decode cL_cell 2 = .ok (.arraylength, 1) := by decide +kernel
theorem dL_cell_3 : decode cL_cell 3 = .ok (.if_icmp .ge 9, 3) := by decide +kernel
theorem dL_cell_6 : decode cL_cell 6 = .ok (.aload_n 0, 1) := by decide +kernel
theorem dL_cell_7 : decode cL_cell 7 = .ok (.iload_n 1, 1) := by decide +kernel
theorem dL_cell_8 : decode cL_cell 8 = .ok (.iaload, 1) := by decide +kernel
theorem dL_cell_9 : decode cL_cell 9 = .ok (.goto 11, 3) := by decide +kernel
theorem dL_cell_12 : decode cL_cell 12 = .ok (.ldc 7, 2) := by decide +kernel
theorem dL_cell_14 : decode cL_cell 14 = .ok (.iload_n 1, 1) := by decide +kernel
theorem dL_cell_15 : decode cL_cell 15 = .ok (.imul, 1) := by decide +kernel
theorem dL_cell_16 : decode cL_cell 16 = .ok (.sipush 977, 3) := by decide +kernel
theorem dL_cell_19 : decode cL_cell 19 = .ok (.iadd, 1) := by decide +kernel
theorem dL_cell_20 : decode cL_cell 20 = .ok (.ireturn, 1) := by decide +kernel
theorem dL_low_0 : decode cL_low 0 = .ok (.iload_n 0, 1) := by decide +kernel
theorem dL_low_1 : decode cL_low 1 = .ok (.ldc 8, 2) := by decide +kernel
theorem dL_low_3 : decode cL_low 3 = .ok (.iand, 1) := by decide +kernel
theorem dL_low_4 : decode cL_low 4 = .ok (.iload_n 1, 1) := by decide +kernel
theorem dL_low_5 : decode cL_low 5 = .ok (.irem, 1) := by decide +kernel
theorem dL_low_6 : decode cL_low 6 = .ok (.ireturn, 1) := by decide +kernel
set_option maxRecDepth 20000 in
theorem ggL_fits_X5_heaped : GoodIn wsL_fits wsX5_heaped := goodIn_r _ [5, 6, 7, 8, 9, 10, 11, 12, 13, 14, 15, 16, 17, 18, 19, 20, 21, 22, 23, 75, 76, 77, 78, 79, 80, 81, 82, 83, 84] (by decide +kernel) (by decide +kernel)
set_option maxRecDepth 20000 in
theorem gL_fits_X5_heaped : GoodIn wsL_fits (wsV RL 9 RX5 yX5_heaped wsX5_heaped) := goodIn_app (goodIn_of _ (by decide +kernel)) ggL_fits_X5_heaped
set_option maxRecDepth 20000 in
theorem ggL_fits_X5_sideOf : GoodIn wsL_fits wsX5_sideOf := goodIn_r _ [27, 28, 29, 30, 31, 32, 33, 34, 35, 36, 37, 38, 39, 40, 41, 42, 43, 44, 45, 46, 47, 48, 75, 76, 77, 78, 79, 80, 81, 85, 86, 87, 88] (by decide +kernel) (by decide +kernel)
set_option maxRecDepth 20000 in
theorem gL_fits_X5_sideOf : GoodIn wsL_fits (wsV RL 15 RX5 yX5_sideOf wsX5_sideOf) := goodIn_app (goodIn_of _ (by decide +kernel)) ggL_fits_X5_sideOf
set_option maxRecDepth 20000 in
theorem ggL_fits_X5_far : GoodIn wsL_fits wsX5_far := goodIn_r _ [52, 28, 29, 30, 31, 32, 33, 34, 35, 36, 37, 38, 39, 40, 41, 42, 43, 53, 54, 55, 56, 57, 45, 46, 47, 48, 58, 59, 60, 61, 62, 63, 64, 65, 66, 67, 68, 69, 70, 71, 72, 73, 74, 75, 76, 77, 78, 79, 80, 81, 85, 86, 87, 88] (by decide +kernel) (by decide +kernel)
set_option maxRecDepth 20000 in
theorem gL_fits_X5_far : GoodIn wsL_fits (wsV RL 18 RX5 yX5_far wsX5_far) := goodIn_app (goodIn_of _ (by decide +kernel)) ggL_fits_X5_far
theorem dL_fits_0 : decode cL_fits 0 = .ok (.iload_n 3, 1) := by decide +kernel
theorem dL_fits_1 : decode cL_fits 1 = .ok (.iload_n 1, 1) := by decide +kernel
theorem dL_fits_2 : decode cL_fits 2 = .ok (.irem, 1) := by decide +kernel
theorem dL_fits_3 : decode cL_fits 3 = .ok (.istore 8, 2) := by decide +kernel
theorem dL_fits_5 : decode cL_fits 5 = .ok (.iload_n 3, 1) := by decide +kernel
theorem dL_fits_6 : decode cL_fits 6 = .ok (.iload_n 1, 1) := by decide +kernel
theorem dL_fits_7 : decode cL_fits 7 = .ok (.idiv, 1) := by decide +kernel
theorem dL_fits_8 : decode cL_fits 8 = .ok (.istore 9, 2) := by decide +kernel
theorem dL_fits_10 : decode cL_fits 10 = .ok (.aload_n 0, 1) := by decide +kernel
theorem dL_fits_11 : decode cL_fits 11 = .ok (.iload 4, 2) := by decide +kernel
theorem dL_fits_13 : decode cL_fits 13 = .ok (.iconst 0, 1) := by decide +kernel
theorem dL_fits_14 : decode cL_fits 14 = .ok (.invokevirtual 9, 3) := by decide +kernel
theorem dL_fits_17 : decode cL_fits 17 = .ok (.istore 10, 2) := by decide +kernel
theorem dL_fits_19 : decode cL_fits 19 = .ok (.aload_n 0, 1) := by decide +kernel
theorem dL_fits_20 : decode cL_fits 20 = .ok (.iload 4, 2) := by decide +kernel
theorem dL_fits_22 : decode cL_fits 22 = .ok (.iconst 1, 1) := by decide +kernel
theorem dL_fits_23 : decode cL_fits 23 = .ok (.invokevirtual 9, 3) := by decide +kernel
theorem dL_fits_26 : decode cL_fits 26 = .ok (.iload 5, 2) := by decide +kernel
theorem dL_fits_28 : decode cL_fits 28 = .ok (.iadd, 1) := by decide +kernel
theorem dL_fits_29 : decode cL_fits 29 = .ok (.istore 11, 2) := by decide +kernel
theorem dL_fits_31 : decode cL_fits 31 = .ok (.iconst 0, 1) := by decide +kernel
theorem dL_fits_32 : decode cL_fits 32 = .ok (.istore 12, 2) := by decide +kernel
theorem dL_fits_34 : decode cL_fits 34 = .ok (.iload 12, 2) := by decide +kernel
theorem dL_fits_36 : decode cL_fits 36 = .ok (.iconst 4, 1) := by decide +kernel
theorem dL_fits_37 : decode cL_fits 37 = .ok (.if_icmp .ge 114, 3) := by decide +kernel
theorem dL_fits_40 : decode cL_fits 40 = .ok (.iload 12, 2) := by decide +kernel
theorem dL_fits_42 : decode cL_fits 42 = .ok (.ifCond .ne 16, 3) := by decide +kernel
theorem dL_fits_45 : decode cL_fits 45 = .ok (.iload 9, 2) := by decide +kernel
theorem dL_fits_47 : decode cL_fits 47 = .ok (.ifCond .ne 7, 3) := by decide +kernel
theorem dL_fits_50 : decode cL_fits 50 = .ok (.iconst 1, 1) := by decide +kernel
theorem dL_fits_51 : decode cL_fits 51 = .ok (.goto 61, 3) := by decide +kernel
theorem dL_fits_54 : decode cL_fits 54 = .ok (.iconst 0, 1) := by decide +kernel
theorem dL_fits_55 : decode cL_fits 55 = .ok (.goto 57, 3) := by decide +kernel
theorem dL_fits_58 : decode cL_fits 58 = .ok (.iload 12, 2) := by decide +kernel
theorem dL_fits_60 : decode cL_fits 60 = .ok (.iconst 1, 1) := by decide +kernel
theorem dL_fits_61 : decode cL_fits 61 = .ok (.if_icmp .ne 19, 3) := by decide +kernel
theorem dL_fits_64 : decode cL_fits 64 = .ok (.iload 8, 2) := by decide +kernel
theorem dL_fits_66 : decode cL_fits 66 = .ok (.iload_n 1, 1) := by decide +kernel
theorem dL_fits_67 : decode cL_fits 67 = .ok (.iconst 1, 1) := by decide +kernel
theorem dL_fits_68 : decode cL_fits 68 = .ok (.isub, 1) := by decide +kernel
theorem dL_fits_69 : decode cL_fits 69 = .ok (.if_icmp .ne 7, 3) := by decide +kernel
theorem dL_fits_72 : decode cL_fits 72 = .ok (.iconst 1, 1) := by decide +kernel
theorem dL_fits_73 : decode cL_fits 73 = .ok (.goto 39, 3) := by decide +kernel
theorem dL_fits_76 : decode cL_fits 76 = .ok (.iconst 0, 1) := by decide +kernel
theorem dL_fits_77 : decode cL_fits 77 = .ok (.goto 35, 3) := by decide +kernel
theorem dL_fits_80 : decode cL_fits 80 = .ok (.iload 12, 2) := by decide +kernel
theorem dL_fits_82 : decode cL_fits 82 = .ok (.iconst 2, 1) := by decide +kernel
theorem dL_fits_83 : decode cL_fits 83 = .ok (.if_icmp .ne 19, 3) := by decide +kernel
theorem dL_fits_86 : decode cL_fits 86 = .ok (.iload 9, 2) := by decide +kernel
theorem dL_fits_88 : decode cL_fits 88 = .ok (.iload_n 2, 1) := by decide +kernel
theorem dL_fits_89 : decode cL_fits 89 = .ok (.iconst 1, 1) := by decide +kernel
theorem dL_fits_90 : decode cL_fits 90 = .ok (.isub, 1) := by decide +kernel
theorem dL_fits_91 : decode cL_fits 91 = .ok (.if_icmp .ne 7, 3) := by decide +kernel
theorem dL_fits_94 : decode cL_fits 94 = .ok (.iconst 1, 1) := by decide +kernel
theorem dL_fits_95 : decode cL_fits 95 = .ok (.goto 17, 3) := by decide +kernel
theorem dL_fits_98 : decode cL_fits 98 = .ok (.iconst 0, 1) := by decide +kernel
theorem dL_fits_99 : decode cL_fits 99 = .ok (.goto 13, 3) := by decide +kernel
theorem dL_fits_102 : decode cL_fits 102 = .ok (.iload 8, 2) := by decide +kernel
theorem dL_fits_104 : decode cL_fits 104 = .ok (.ifCond .ne 7, 3) := by decide +kernel
theorem dL_fits_107 : decode cL_fits 107 = .ok (.iconst 1, 1) := by decide +kernel
theorem dL_fits_108 : decode cL_fits 108 = .ok (.goto 4, 3) := by decide +kernel
theorem dL_fits_111 : decode cL_fits 111 = .ok (.iconst 0, 1) := by decide +kernel
theorem dL_fits_112 : decode cL_fits 112 = .ok (.istore 13, 2) := by decide +kernel
theorem dL_fits_114 : decode cL_fits 114 = .ok (.aload_n 0, 1) := by decide +kernel
theorem dL_fits_115 : decode cL_fits 115 = .ok (.iload 10, 2) := by decide +kernel
theorem dL_fits_117 : decode cL_fits 117 = .ok (.iload 12, 2) := by decide +kernel
theorem dL_fits_119 : decode cL_fits 119 = .ok (.bipush 8, 2) := by decide +kernel
theorem dL_fits_121 : decode cL_fits 121 = .ok (.iadd, 1) := by decide +kernel
theorem dL_fits_122 : decode cL_fits 122 = .ok (.iload 11, 2) := by decide +kernel
theorem dL_fits_124 : decode cL_fits 124 = .ok (.isub, 1) := by decide +kernel
theorem dL_fits_125 : decode cL_fits 125 = .ok (.iconst 4, 1) := by decide +kernel
theorem dL_fits_126 : decode cL_fits 126 = .ok (.irem, 1) := by decide +kernel
theorem dL_fits_127 : decode cL_fits 127 = .ok (.invokevirtual 15, 3) := by decide +kernel
theorem dL_fits_130 : decode cL_fits 130 = .ok (.ifCond .ge 7, 3) := by decide +kernel
theorem dL_fits_133 : decode cL_fits 133 = .ok (.iconst 1, 1) := by decide +kernel
theorem dL_fits_134 : decode cL_fits 134 = .ok (.goto 4, 3) := by decide +kernel
theorem dL_fits_137 : decode cL_fits 137 = .ok (.iconst 0, 1) := by decide +kernel
theorem dL_fits_138 : decode cL_fits 138 = .ok (.iload 13, 2) := by decide +kernel
theorem dL_fits_140 : decode cL_fits 140 = .ok (.if_icmp .eq 5, 3) := by decide +kernel
theorem dL_fits_143 : decode cL_fits 143 = .ok (.iconst 0, 1) := by decide +kernel
theorem dL_fits_144 : decode cL_fits 144 = .ok (.ireturn, 1) := by decide +kernel
theorem dL_fits_145 : decode cL_fits 145 = .ok (.iinc 12 1, 3) := by decide +kernel
theorem dL_fits_148 : decode cL_fits 148 = .ok (.goto (-114), 3) := by decide +kernel
theorem dL_fits_151 : decode cL_fits 151 = .ok (.iconst 1, 1) := by decide +kernel
theorem dL_fits_152 : decode cL_fits 152 = .ok (.istore 12, 2) := by decide +kernel
theorem dL_fits_154 : decode cL_fits 154 = .ok (.iload 9, 2) := by decide +kernel
theorem dL_fits_156 : decode cL_fits 156 = .ok (.ifCond .le 62, 3) := by decide +kernel
theorem dL_fits_159 : decode cL_fits 159 = .ok (.iload_n 3, 1) := by decide +kernel
theorem dL_fits_160 : decode cL_fits 160 = .ok (.iload_n 1, 1) := by decide +kernel
theorem dL_fits_161 : decode cL_fits 161 = .ok (.isub, 1) := by decide +kernel
theorem dL_fits_162 : decode cL_fits 162 = .ok (.istore 13, 2) := by decide +kernel
theorem dL_fits_164 : decode cL_fits 164 = .ok (.aload_n 0, 1) := by decide +kernel
theorem dL_fits_165 : decode cL_fits 165 = .ok (.iload 10, 2) := by decide +kernel
theorem dL_fits_167 : decode cL_fits 167 = .ok (.bipush 8, 2) := by decide +kernel
theorem dL_fits_169 : decode cL_fits 169 = .ok (.iload 11, 2) := by decide +kernel
theorem dL_fits_171 : decode cL_fits 171 = .ok (.isub, 1) := by decide +kernel
theorem dL_fits_172 : decode cL_fits 172 = .ok (.iconst 4, 1) := by decide +kernel
theorem dL_fits_173 : decode cL_fits 173 = .ok (.irem, 1) := by decide +kernel
theorem dL_fits_174 : decode cL_fits 174 = .ok (.aload_n 0, 1) := by decide +kernel
theorem dL_fits_175 : decode cL_fits 175 = .ok (.aload 6, 2) := by decide +kernel
theorem dL_fits_177 : decode cL_fits 177 = .ok (.iload 13, 2) := by decide +kernel
theorem dL_fits_179 : decode cL_fits 179 = .ok (.iaload, 1) := by decide +kernel
theorem dL_fits_180 : decode cL_fits 180 = .ok (.iconst 0, 1) := by decide +kernel
theorem dL_fits_181 : decode cL_fits 181 = .ok (.invokevirtual 9, 3) := by decide +kernel
theorem dL_fits_184 : decode cL_fits 184 = .ok (.bipush 10, 2) := by decide +kernel
theorem dL_fits_186 : decode cL_fits 186 = .ok (.aload_n 0, 1) := by decide +kernel
theorem dL_fits_187 : decode cL_fits 187 = .ok (.aload 6, 2) := by decide +kernel
theorem dL_fits_189 : decode cL_fits 189 = .ok (.iload 13, 2) := by decide +kernel
theorem dL_fits_191 : decode cL_fits 191 = .ok (.iaload, 1) := by decide +kernel
theorem dL_fits_192 : decode cL_fits 192 = .ok (.iconst 1, 1) := by decide +kernel
theorem dL_fits_193 : decode cL_fits 193 = .ok (.invokevirtual 9, 3) := by decide +kernel
theorem dL_fits_196 : decode cL_fits 196 = .ok (.isub, 1) := by decide +kernel
theorem dL_fits_197 : decode cL_fits 197 = .ok (.aload 7, 2) := by decide +kernel
theorem dL_fits_199 : decode cL_fits 199 = .ok (.iload 13, 2) := by decide +kernel
theorem dL_fits_201 : decode cL_fits 201 = .ok (.iaload, 1) := by decide +kernel
theorem dL_fits_202 : decode cL_fits 202 = .ok (.isub, 1) := by decide +kernel
theorem dL_fits_203 : decode cL_fits 203 = .ok (.iconst 4, 1) := by decide +kernel
theorem dL_fits_204 : decode cL_fits 204 = .ok (.irem, 1) := by decide +kernel
theorem dL_fits_205 : decode cL_fits 205 = .ok (.invokevirtual 18, 3) := by decide +kernel
theorem dL_fits_208 : decode cL_fits 208 = .ok (.ifCond .ne 7, 3) := by decide +kernel
theorem dL_fits_211 : decode cL_fits 211 = .ok (.iconst 1, 1) := by decide +kernel
theorem dL_fits_212 : decode cL_fits 212 = .ok (.goto 4, 3) := by decide +kernel
theorem dL_fits_215 : decode cL_fits 215 = .ok (.iconst 0, 1) := by decide +kernel
theorem dL_fits_216 : decode cL_fits 216 = .ok (.istore 12, 2) := by decide +kernel
theorem dL_fits_218 : decode cL_fits 218 = .ok (.iload 8, 2) := by decide +kernel
theorem dL_fits_220 : decode cL_fits 220 = .ok (.ifCond .le 67, 3) := by decide +kernel
theorem dL_fits_223 : decode cL_fits 223 = .ok (.iload 12, 2) := by decide +kernel
theorem dL_fits_225 : decode cL_fits 225 = .ok (.ifCond .eq 62, 3) := by decide +kernel
theorem dL_fits_228 : decode cL_fits 228 = .ok (.iload_n 3, 1) := by decide +kernel
theorem dL_fits_229 : decode cL_fits 229 = .ok (.iconst 1, 1) := by decide +kernel
theorem dL_fits_230 : decode cL_fits 230 = .ok (.isub, 1) := by decide +kernel
theorem dL_fits_231 : decode cL_fits 231 = .ok (.istore 13, 2) := by decide +kernel
theorem dL_fits_233 : decode cL_fits 233 = .ok (.aload_n 0, 1) := by decide +kernel
theorem dL_fits_234 : decode cL_fits 234 = .ok (.iload 10, 2) := by decide +kernel
theorem dL_fits_236 : decode cL_fits 236 = .ok (.bipush 11, 2) := by decide +kernel
theorem dL_fits_238 : decode cL_fits 238 = .ok (.iload 11, 2) := by decide +kernel
theorem dL_fits_240 : decode cL_fits 240 = .ok (.isub, 1) := by decide +kernel
theorem dL_fits_241 : decode cL_fits 241 = .ok (.iconst 4, 1) := by decide +kernel
theorem dL_fits_242 : decode cL_fits 242 = .ok (.irem, 1) := by decide +kernel
theorem dL_fits_243 : decode cL_fits 243 = .ok (.aload_n 0, 1) := by decide +kernel
theorem dL_fits_244 : decode cL_fits 244 = .ok (.aload 6, 2) := by decide +kernel
theorem dL_fits_246 : decode cL_fits 246 = .ok (.iload 13, 2) := by decide +kernel
theorem dL_fits_248 : decode cL_fits 248 = .ok (.iaload, 1) := by decide +kernel
theorem dL_fits_249 : decode cL_fits 249 = .ok (.iconst 0, 1) := by decide +kernel
theorem dL_fits_250 : decode cL_fits 250 = .ok (.invokevirtual 9, 3) := by decide +kernel
theorem dL_fits_253 : decode cL_fits 253 = .ok (.bipush 9, 2) := by decide +kernel
theorem dL_fits_255 : decode cL_fits 255 = .ok (.aload_n 0, 1) := by decide +kernel
theorem dL_fits_256 : decode cL_fits 256 = .ok (.aload 6, 2) := by decide +kernel
theorem dL_fits_258 : decode cL_fits 258 = .ok (.iload 13, 2) := by decide +kernel
theorem dL_fits_260 : decode cL_fits 260 = .ok (.iaload, 1) := by decide +kernel
theorem dL_fits_261 : decode cL_fits 261 = .ok (.iconst 1, 1) := by decide +kernel
theorem dL_fits_262 : decode cL_fits 262 = .ok (.invokevirtual 9, 3) := by decide +kernel
theorem dL_fits_265 : decode cL_fits 265 = .ok (.isub, 1) := by decide +kernel
theorem dL_fits_266 : decode cL_fits 266 = .ok (.aload 7, 2) := by decide +kernel
theorem dL_fits_268 : decode cL_fits 268 = .ok (.iload 13, 2) := by decide +kernel
theorem dL_fits_270 : decode cL_fits 270 = .ok (.iaload, 1) := by decide +kernel
theorem dL_fits_271 : decode cL_fits 271 = .ok (.isub, 1) := by decide +kernel
theorem dL_fits_272 : decode cL_fits 272 = .ok (.iconst 4, 1) := by decide +kernel
theorem dL_fits_273 : decode cL_fits 273 = .ok (.irem, 1) := by decide +kernel
theorem dL_fits_274 : decode cL_fits 274 = .ok (.invokevirtual 18, 3) := by decide +kernel
theorem dL_fits_277 : decode cL_fits 277 = .ok (.ifCond .ne 7, 3) := by decide +kernel
theorem dL_fits_280 : decode cL_fits 280 = .ok (.iconst 1, 1) := by decide +kernel
theorem dL_fits_281 : decode cL_fits 281 = .ok (.goto 4, 3) := by decide +kernel
theorem dL_fits_284 : decode cL_fits 284 = .ok (.iconst 0, 1) := by decide +kernel
theorem dL_fits_285 : decode cL_fits 285 = .ok (.istore 12, 2) := by decide +kernel
theorem dL_fits_287 : decode cL_fits 287 = .ok (.iload 12, 2) := by decide +kernel
theorem dL_fits_289 : decode cL_fits 289 = .ok (.ireturn, 1) := by decide +kernel
