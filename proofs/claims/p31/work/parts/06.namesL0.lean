theorem dL_cell_0 : decode cL_cell 0 = .ok (.iload_n 1, 1) := by decide +kernel
theorem dL_cell_1 : decode cL_cell 1 = .ok (.aload_n 0, 1) := by decide +kernel
theorem dL_cell_2 : decode cL_cell 2 = .ok (.arraylength, 1) := by decide +kernel
theorem dL_cell_3 : decode cL_cell 3 = .ok (.if_icmp .ge 9, 3) := by decide +kernel
theorem dL_cell_6 : decode cL_cell 6 = .ok (.aload_n 0, 1) := by decide +kernel
theorem dL_cell_7 : decode cL_cell 7 = .ok (.iload_n 1, 1) := by decide +kernel
theorem dL_cell_8 : decode cL_cell 8 = .ok (.iaload, 1) := by decide +kernel
theorem dL_cell_9 : decode cL_cell 9 = .ok (.goto 9, 3) := by decide +kernel
theorem dL_cell_12 : decode cL_cell 12 = .ok (.ldc 7, 2) := by decide +kernel
theorem dL_cell_14 : decode cL_cell 14 = .ok (.iload_n 1, 1) := by decide +kernel
theorem dL_cell_15 : decode cL_cell 15 = .ok (.iconst 1, 1) := by decide +kernel
theorem dL_cell_16 : decode cL_cell 16 = .ok (.iadd, 1) := by decide +kernel
theorem dL_cell_17 : decode cL_cell 17 = .ok (.imul, 1) := by decide +kernel
theorem dL_cell_18 : decode cL_cell 18 = .ok (.ireturn, 1) := by decide +kernel
theorem dL_some_0 : decode cL_some 0 = .ok (.iload_n 0, 1) := by decide +kernel
theorem dL_some_1 : decode cL_some 1 = .ok (.ldc 8, 2) := by decide +kernel
theorem dL_some_3 : decode cL_some 3 = .ok (.iand, 1) := by decide +kernel
theorem dL_some_4 : decode cL_some 4 = .ok (.iload_n 1, 1) := by decide +kernel
theorem dL_some_5 : decode cL_some 5 = .ok (.irem, 1) := by decide +kernel
theorem dL_some_6 : decode cL_some 6 = .ok (.ireturn, 1) := by decide +kernel
set_option maxRecDepth 20000 in
theorem ggL_put_L_cell : GoodIn wsL_put wsL_cell := goodIn_r _ [4, 5] (by decide +kernel) (by decide +kernel)
set_option maxRecDepth 20000 in
theorem gL_put_L_cell : GoodIn wsL_put (va_wsS RL 9 yL_cell wsL_cell) := goodIn_app (goodIn_of _ (by decide +kernel)) ggL_put_L_cell
set_option maxRecDepth 20000 in
theorem ggL_put_L_some : GoodIn wsL_put wsL_some := goodIn_r _ [8, 9] (by decide +kernel) (by decide +kernel)
set_option maxRecDepth 20000 in
theorem gL_put_L_some : GoodIn wsL_put (va_wsS RL 15 yL_some wsL_some) := goodIn_app (goodIn_of _ (by decide +kernel)) ggL_put_L_some
set_option maxRecDepth 20000 in
theorem ggL_put_X4_sheet : GoodIn wsL_put wsX4_sheet := goodIn_r _ [14, 15, 16, 17, 18, 13, 19, 20, 21, 22, 23, 24, 25, 26, 27, 28, 29, 30, 31, 32, 33, 34, 35, 36, 37, 38, 39, 40, 41, 42, 43, 44, 45, 46, 64, 65, 66, 67, 68, 69, 70, 71, 72, 73, 74, 75, 76, 77] (by decide +kernel) (by decide +kernel)
set_option maxRecDepth 20000 in
theorem gL_put_X4_sheet : GoodIn wsL_put (wsV RL 19 RX4 yX4_sheet wsX4_sheet) := goodIn_app (goodIn_of _ (by decide +kernel)) ggL_put_X4_sheet
set_option maxRecDepth 20000 in
theorem ggL_put_X4_put : GoodIn wsL_put wsX4_put := goodIn_r _ [50, 15, 16, 51, 17, 18, 13, 19, 23, 24, 25, 26, 52, 53, 54, 30, 55, 42, 56, 57, 58, 59, 32, 60, 61, 62, 63, 34, 64, 65, 66, 67, 68, 69, 70, 71, 72, 73, 74, 75, 76, 77] (by decide +kernel) (by decide +kernel)
set_option maxRecDepth 20000 in
theorem gL_put_X4_put : GoodIn wsL_put (wsV RL 25 RX4 yX4_put wsX4_put) := goodIn_app (goodIn_of _ (by decide +kernel)) ggL_put_X4_put
theorem dL_put_0 : decode cL_put 0 = .ok (.aload_n 1, 1) := by decide +kernel
theorem dL_put_1 : decode cL_put 1 = .ok (.iload_n 2, 1) := by decide +kernel
theorem dL_put_2 : decode cL_put 2 = .ok (.invokestatic 9, 3) := by decide +kernel
theorem dL_put_5 : decode cL_put 5 = .ok (.istore 5, 2) := by decide +kernel
theorem dL_put_7 : decode cL_put 7 = .ok (.aload 4, 2) := by decide +kernel
theorem dL_put_9 : decode cL_put 9 = .ok (.iconst 0, 1) := by decide +kernel
theorem dL_put_10 : decode cL_put 10 = .ok (.iconst 2, 1) := by decide +kernel
theorem dL_put_11 : decode cL_put 11 = .ok (.iload 5, 2) := by decide +kernel
theorem dL_put_13 : decode cL_put 13 = .ok (.iload_n 3, 1) := by decide +kernel
theorem dL_put_14 : decode cL_put 14 = .ok (.iconst 1, 1) := by decide +kernel
theorem dL_put_15 : decode cL_put 15 = .ok (.isub, 1) := by decide +kernel
theorem dL_put_16 : decode cL_put 16 = .ok (.invokestatic 15, 3) := by decide +kernel
theorem dL_put_19 : decode cL_put 19 = .ok (.iadd, 1) := by decide +kernel
theorem dL_put_20 : decode cL_put 20 = .ok (.iastore, 1) := by decide +kernel
theorem dL_put_21 : decode cL_put 21 = .ok (.aload 4, 2) := by decide +kernel
theorem dL_put_23 : decode cL_put 23 = .ok (.iconst 1, 1) := by decide +kernel
theorem dL_put_24 : decode cL_put 24 = .ok (.iconst 1, 1) := by decide +kernel
theorem dL_put_25 : decode cL_put 25 = .ok (.iload 5, 2) := by decide +kernel
theorem dL_put_27 : decode cL_put 27 = .ok (.iconst 4, 1) := by decide +kernel
theorem dL_put_28 : decode cL_put 28 = .ok (.ishr, 1) := by decide +kernel
theorem dL_put_29 : decode cL_put 29 = .ok (.iconst 4, 1) := by decide +kernel
theorem dL_put_30 : decode cL_put 30 = .ok (.invokestatic 15, 3) := by decide +kernel
theorem dL_put_33 : decode cL_put 33 = .ok (.iadd, 1) := by decide +kernel
theorem dL_put_34 : decode cL_put 34 = .ok (.iastore, 1) := by decide +kernel
theorem dL_put_35 : decode cL_put 35 = .ok (.aload 4, 2) := by decide +kernel
theorem dL_put_37 : decode cL_put 37 = .ok (.iconst 2, 1) := by decide +kernel
theorem dL_put_38 : decode cL_put 38 = .ok (.iconst 1, 1) := by decide +kernel
theorem dL_put_39 : decode cL_put 39 = .ok (.iload 5, 2) := by decide +kernel
theorem dL_put_41 : decode cL_put 41 = .ok (.bipush 6, 2) := by decide +kernel
theorem dL_put_43 : decode cL_put 43 = .ok (.ishr, 1) := by decide +kernel
theorem dL_put_44 : decode cL_put 44 = .ok (.iconst 3, 1) := by decide +kernel
theorem dL_put_45 : decode cL_put 45 = .ok (.invokestatic 15, 3) := by decide +kernel
theorem dL_put_48 : decode cL_put 48 = .ok (.iadd, 1) := by decide +kernel
theorem dL_put_49 : decode cL_put 49 = .ok (.iastore, 1) := by decide +kernel
theorem dL_put_50 : decode cL_put 50 = .ok (.aload 4, 2) := by decide +kernel
theorem dL_put_52 : decode cL_put 52 = .ok (.iconst 3, 1) := by decide +kernel
theorem dL_put_53 : decode cL_put 53 = .ok (.iload 5, 2) := by decide +kernel
theorem dL_put_55 : decode cL_put 55 = .ok (.bipush 8, 2) := by decide +kernel
theorem dL_put_57 : decode cL_put 57 = .ok (.ishr, 1) := by decide +kernel
theorem dL_put_58 : decode cL_put 58 = .ok (.iconst 3, 1) := by decide +kernel
theorem dL_put_59 : decode cL_put 59 = .ok (.invokestatic 15, 3) := by decide +kernel
theorem dL_put_62 : decode cL_put 62 = .ok (.iastore, 1) := by decide +kernel
theorem dL_put_63 : decode cL_put 63 = .ok (.aload 4, 2) := by decide +kernel
theorem dL_put_65 : decode cL_put 65 = .ok (.bipush 24, 2) := by decide +kernel
theorem dL_put_67 : decode cL_put 67 = .ok (.iconst 0, 1) := by decide +kernel
theorem dL_put_68 : decode cL_put 68 = .ok (.iastore, 1) := by decide +kernel
theorem dL_put_69 : decode cL_put 69 = .ok (.aload_n 0, 1) := by decide +kernel
theorem dL_put_70 : decode cL_put 70 = .ok (.iconst 0, 1) := by decide +kernel
theorem dL_put_71 : decode cL_put 71 = .ok (.iconst 0, 1) := by decide +kernel
theorem dL_put_72 : decode cL_put 72 = .ok (.bipush 60, 2) := by decide +kernel
theorem dL_put_74 : decode cL_put 74 = .ok (.invokevirtual 19, 3) := by decide +kernel
theorem dL_put_77 : decode cL_put 77 = .ok (.iconst 1, 1) := by decide +kernel
theorem dL_put_78 : decode cL_put 78 = .ok (.if_icmp .ne 66, 3) := by decide +kernel
theorem dL_put_81 : decode cL_put 81 = .ok (.aload_n 0, 1) := by decide +kernel
theorem dL_put_82 : decode cL_put 82 = .ok (.iconst 0, 1) := by decide +kernel
theorem dL_put_83 : decode cL_put 83 = .ok (.iconst 0, 1) := by decide +kernel
theorem dL_put_84 : decode cL_put 84 = .ok (.bipush 115, 2) := by decide +kernel
theorem dL_put_86 : decode cL_put 86 = .ok (.invokevirtual 25, 3) := by decide +kernel
theorem dL_put_89 : decode cL_put 89 = .ok (.iconst 1, 1) := by decide +kernel
theorem dL_put_90 : decode cL_put 90 = .ok (.if_icmp .ne 54, 3) := by decide +kernel
theorem dL_put_93 : decode cL_put 93 = .ok (.aload_n 0, 1) := by decide +kernel
theorem dL_put_94 : decode cL_put 94 = .ok (.iconst 0, 1) := by decide +kernel
theorem dL_put_95 : decode cL_put 95 = .ok (.iconst 1, 1) := by decide +kernel
theorem dL_put_96 : decode cL_put 96 = .ok (.bipush 48, 2) := by decide +kernel
theorem dL_put_98 : decode cL_put 98 = .ok (.aload 4, 2) := by decide +kernel
theorem dL_put_100 : decode cL_put 100 = .ok (.iconst 1, 1) := by decide +kernel
theorem dL_put_101 : decode cL_put 101 = .ok (.iaload, 1) := by decide +kernel
theorem dL_put_102 : decode cL_put 102 = .ok (.iadd, 1) := by decide +kernel
theorem dL_put_103 : decode cL_put 103 = .ok (.invokevirtual 25, 3) := by decide +kernel
theorem dL_put_106 : decode cL_put 106 = .ok (.iconst 1, 1) := by decide +kernel
theorem dL_put_107 : decode cL_put 107 = .ok (.if_icmp .ne 37, 3) := by decide +kernel
theorem dL_put_110 : decode cL_put 110 = .ok (.aload_n 0, 1) := by decide +kernel
theorem dL_put_111 : decode cL_put 111 = .ok (.iconst 0, 1) := by decide +kernel
theorem dL_put_112 : decode cL_put 112 = .ok (.iconst 2, 1) := by decide +kernel
theorem dL_put_113 : decode cL_put 113 = .ok (.bipush 48, 2) := by decide +kernel
theorem dL_put_115 : decode cL_put 115 = .ok (.aload 4, 2) := by decide +kernel
theorem dL_put_117 : decode cL_put 117 = .ok (.iconst 2, 1) := by decide +kernel
theorem dL_put_118 : decode cL_put 118 = .ok (.iaload, 1) := by decide +kernel
theorem dL_put_119 : decode cL_put 119 = .ok (.iadd, 1) := by decide +kernel
theorem dL_put_120 : decode cL_put 120 = .ok (.invokevirtual 25, 3) := by decide +kernel
theorem dL_put_123 : decode cL_put 123 = .ok (.iconst 1, 1) := by decide +kernel
theorem dL_put_124 : decode cL_put 124 = .ok (.if_icmp .ne 20, 3) := by decide +kernel
theorem dL_put_127 : decode cL_put 127 = .ok (.aload_n 0, 1) := by decide +kernel
theorem dL_put_128 : decode cL_put 128 = .ok (.iconst 0, 1) := by decide +kernel
theorem dL_put_129 : decode cL_put 129 = .ok (.iconst 3, 1) := by decide +kernel
theorem dL_put_130 : decode cL_put 130 = .ok (.bipush 48, 2) := by decide +kernel
theorem dL_put_132 : decode cL_put 132 = .ok (.aload 4, 2) := by decide +kernel
theorem dL_put_134 : decode cL_put 134 = .ok (.iconst 3, 1) := by decide +kernel
theorem dL_put_135 : decode cL_put 135 = .ok (.iaload, 1) := by decide +kernel
theorem dL_put_136 : decode cL_put 136 = .ok (.iadd, 1) := by decide +kernel
theorem dL_put_137 : decode cL_put 137 = .ok (.invokevirtual 25, 3) := by decide +kernel
theorem dL_put_140 : decode cL_put 140 = .ok (.iconst 1, 1) := by decide +kernel
theorem dL_put_141 : decode cL_put 141 = .ok (.if_icmp .eq 6, 3) := by decide +kernel
theorem dL_put_144 : decode cL_put 144 = .ok (.bipush (-99), 2) := by decide +kernel
theorem dL_put_146 : decode cL_put 146 = .ok (.ireturn, 1) := by decide +kernel
theorem dL_put_147 : decode cL_put 147 = .ok (.iconst 4, 1) := by decide +kernel
theorem dL_put_148 : decode cL_put 148 = .ok (.istore 6, 2) := by decide +kernel
theorem dL_put_150 : decode cL_put 150 = .ok (.iconst 0, 1) := by decide +kernel
theorem dL_put_151 : decode cL_put 151 = .ok (.istore 7, 2) := by decide +kernel
theorem dL_put_153 : decode cL_put 153 = .ok (.iload 7, 2) := by decide +kernel
theorem dL_put_155 : decode cL_put 155 = .ok (.aload 4, 2) := by decide +kernel
theorem dL_put_157 : decode cL_put 157 = .ok (.iconst 0, 1) := by decide +kernel
theorem dL_put_158 : decode cL_put 158 = .ok (.iaload, 1) := by decide +kernel
theorem dL_put_159 : decode cL_put 159 = .ok (.if_icmp .ge 196, 3) := by decide +kernel
theorem dL_put_162 : decode cL_put 162 = .ok (.aload_n 1, 1) := by decide +kernel
theorem dL_put_163 : decode cL_put 163 = .ok (.iload_n 2, 1) := by decide +kernel
theorem dL_put_164 : decode cL_put 164 = .ok (.iconst 1, 1) := by decide +kernel
theorem dL_put_165 : decode cL_put 165 = .ok (.iadd, 1) := by decide +kernel
theorem dL_put_166 : decode cL_put 166 = .ok (.iload 7, 2) := by decide +kernel
theorem dL_put_168 : decode cL_put 168 = .ok (.iconst 3, 1) := by decide +kernel
theorem dL_put_169 : decode cL_put 169 = .ok (.irem, 1) := by decide +kernel
theorem dL_put_170 : decode cL_put 170 = .ok (.iadd, 1) := by decide +kernel
theorem dL_put_171 : decode cL_put 171 = .ok (.invokestatic 9, 3) := by decide +kernel
theorem dL_put_174 : decode cL_put 174 = .ok (.iload 7, 2) := by decide +kernel
theorem dL_put_176 : decode cL_put 176 = .ok (.iconst 3, 1) := by decide +kernel
theorem dL_put_177 : decode cL_put 177 = .ok (.idiv, 1) := by decide +kernel
theorem dL_put_178 : decode cL_put 178 = .ok (.bipush 7, 2) := by decide +kernel
theorem dL_put_180 : decode cL_put 180 = .ok (.imul, 1) := by decide +kernel
theorem dL_put_181 : decode cL_put 181 = .ok (.ishr, 1) := by decide +kernel
theorem dL_put_182 : decode cL_put 182 = .ok (.istore 8, 2) := by decide +kernel
theorem dL_put_184 : decode cL_put 184 = .ok (.aload 4, 2) := by decide +kernel
theorem dL_put_186 : decode cL_put 186 = .ok (.iconst 4, 1) := by decide +kernel
theorem dL_put_187 : decode cL_put 187 = .ok (.iload 7, 2) := by decide +kernel
theorem dL_put_189 : decode cL_put 189 = .ok (.iadd, 1) := by decide +kernel
theorem dL_put_190 : decode cL_put 190 = .ok (.iload 8, 2) := by decide +kernel
theorem dL_put_192 : decode cL_put 192 = .ok (.iconst 3, 1) := by decide +kernel
theorem dL_put_193 : decode cL_put 193 = .ok (.invokestatic 15, 3) := by decide +kernel
theorem dL_put_196 : decode cL_put 196 = .ok (.iastore, 1) := by decide +kernel
theorem dL_put_197 : decode cL_put 197 = .ok (.aload 4, 2) := by decide +kernel
theorem dL_put_199 : decode cL_put 199 = .ok (.bipush 14, 2) := by decide +kernel
theorem dL_put_201 : decode cL_put 201 = .ok (.iload 7, 2) := by decide +kernel
theorem dL_put_203 : decode cL_put 203 = .ok (.iadd, 1) := by decide +kernel
theorem dL_put_204 : decode cL_put 204 = .ok (.iload 8, 2) := by decide +kernel
theorem dL_put_206 : decode cL_put 206 = .ok (.iconst 2, 1) := by decide +kernel
theorem dL_put_207 : decode cL_put 207 = .ok (.ishr, 1) := by decide +kernel
theorem dL_put_208 : decode cL_put 208 = .ok (.iload 5, 2) := by decide +kernel
theorem dL_put_210 : decode cL_put 210 = .ok (.bipush 10, 2) := by decide +kernel
theorem dL_put_212 : decode cL_put 212 = .ok (.ishr, 1) := by decide +kernel
theorem dL_put_213 : decode cL_put 213 = .ok (.iconst 2, 1) := by decide +kernel
theorem dL_put_214 : decode cL_put 214 = .ok (.invokestatic 15, 3) := by decide +kernel
theorem dL_put_217 : decode cL_put 217 = .ok (.ifCond .ne 7, 3) := by decide +kernel
theorem dL_put_220 : decode cL_put 220 = .ok (.iconst 5, 1) := by decide +kernel
theorem dL_put_221 : decode cL_put 221 = .ok (.goto 4, 3) := by decide +kernel
theorem dL_put_224 : decode cL_put 224 = .ok (.iconst 3, 1) := by decide +kernel
theorem dL_put_225 : decode cL_put 225 = .ok (.invokestatic 15, 3) := by decide +kernel
theorem dL_put_228 : decode cL_put 228 = .ok (.iastore, 1) := by decide +kernel
theorem dL_put_229 : decode cL_put 229 = .ok (.aload_n 0, 1) := by decide +kernel
theorem dL_put_230 : decode cL_put 230 = .ok (.iconst 0, 1) := by decide +kernel
theorem dL_put_231 : decode cL_put 231 = .ok (.iload 6, 2) := by decide +kernel
theorem dL_put_233 : decode cL_put 233 = .ok (.iinc 6 1, 3) := by decide +kernel
theorem dL_put_236 : decode cL_put 236 = .ok (.aload 4, 2) := by decide +kernel
theorem dL_put_238 : decode cL_put 238 = .ok (.iconst 4, 1) := by decide +kernel
theorem dL_put_239 : decode cL_put 239 = .ok (.iload 7, 2) := by decide +kernel
theorem dL_put_241 : decode cL_put 241 = .ok (.iadd, 1) := by decide +kernel
theorem dL_put_242 : decode cL_put 242 = .ok (.iaload, 1) := by decide +kernel
theorem dL_put_243 : decode cL_put 243 = .ok (.ifCond .ne 8, 3) := by decide +kernel
theorem dL_put_246 : decode cL_put 246 = .ok (.bipush 102, 2) := by decide +kernel
theorem dL_put_248 : decode cL_put 248 = .ok (.goto 21, 3) := by decide +kernel
theorem dL_put_251 : decode cL_put 251 = .ok (.aload 4, 2) := by decide +kernel
theorem dL_put_253 : decode cL_put 253 = .ok (.iconst 4, 1) := by decide +kernel
theorem dL_put_254 : decode cL_put 254 = .ok (.iload 7, 2) := by decide +kernel
theorem dL_put_256 : decode cL_put 256 = .ok (.iadd, 1) := by decide +kernel
theorem dL_put_257 : decode cL_put 257 = .ok (.iaload, 1) := by decide +kernel
theorem dL_put_258 : decode cL_put 258 = .ok (.iconst 1, 1) := by decide +kernel
theorem dL_put_259 : decode cL_put 259 = .ok (.if_icmp .ne 8, 3) := by decide +kernel
theorem dL_put_262 : decode cL_put 262 = .ok (.bipush 104, 2) := by decide +kernel
theorem dL_put_264 : decode cL_put 264 = .ok (.goto 5, 3) := by decide +kernel
theorem dL_put_267 : decode cL_put 267 = .ok (.bipush 119, 2) := by decide +kernel
theorem dL_put_269 : decode cL_put 269 = .ok (.invokevirtual 25, 3) := by decide +kernel
theorem dL_put_272 : decode cL_put 272 = .ok (.iconst 1, 1) := by decide +kernel
theorem dL_put_273 : decode cL_put 273 = .ok (.if_icmp .ne 28, 3) := by decide +kernel
theorem dL_put_276 : decode cL_put 276 = .ok (.aload_n 0, 1) := by decide +kernel
theorem dL_put_277 : decode cL_put 277 = .ok (.iconst 0, 1) := by decide +kernel
theorem dL_put_278 : decode cL_put 278 = .ok (.iload 6, 2) := by decide +kernel
theorem dL_put_280 : decode cL_put 280 = .ok (.iinc 6 1, 3) := by decide +kernel
theorem dL_put_283 : decode cL_put 283 = .ok (.bipush 48, 2) := by decide +kernel
theorem dL_put_285 : decode cL_put 285 = .ok (.aload 4, 2) := by decide +kernel
theorem dL_put_287 : decode cL_put 287 = .ok (.bipush 14, 2) := by decide +kernel
theorem dL_put_289 : decode cL_put 289 = .ok (.iload 7, 2) := by decide +kernel
theorem dL_put_291 : decode cL_put 291 = .ok (.iadd, 1) := by decide +kernel
theorem dL_put_292 : decode cL_put 292 = .ok (.iaload, 1) := by decide +kernel
theorem dL_put_293 : decode cL_put 293 = .ok (.iadd, 1) := by decide +kernel
theorem dL_put_294 : decode cL_put 294 = .ok (.invokevirtual 25, 3) := by decide +kernel
theorem dL_put_297 : decode cL_put 297 = .ok (.iconst 1, 1) := by decide +kernel
theorem dL_put_298 : decode cL_put 298 = .ok (.if_icmp .eq 6, 3) := by decide +kernel
theorem dL_put_301 : decode cL_put 301 = .ok (.bipush (-99), 2) := by decide +kernel
theorem dL_put_303 : decode cL_put 303 = .ok (.ireturn, 1) := by decide +kernel
theorem dL_put_304 : decode cL_put 304 = .ok (.iload 8, 2) := by decide +kernel
theorem dL_put_306 : decode cL_put 306 = .ok (.iconst 4, 1) := by decide +kernel
theorem dL_put_307 : decode cL_put 307 = .ok (.ishr, 1) := by decide +kernel
theorem dL_put_308 : decode cL_put 308 = .ok (.iconst 4, 1) := by decide +kernel
theorem dL_put_309 : decode cL_put 309 = .ok (.invokestatic 15, 3) := by decide +kernel
theorem dL_put_312 : decode cL_put 312 = .ok (.ifCond .le 6, 3) := by decide +kernel
theorem dL_put_315 : decode cL_put 315 = .ok (.goto 34, 3) := by decide +kernel
theorem dL_put_318 : decode cL_put 318 = .ok (.aload 4, 2) := by decide +kernel
theorem dL_put_320 : decode cL_put 320 = .ok (.bipush 24, 2) := by decide +kernel
theorem dL_put_322 : decode cL_put 322 = .ok (.dup2, 1) := by decide +kernel
theorem dL_put_323 : decode cL_put 323 = .ok (.iaload, 1) := by decide +kernel
theorem dL_put_324 : decode cL_put 324 = .ok (.iconst 1, 1) := by decide +kernel
theorem dL_put_325 : decode cL_put 325 = .ok (.iload 7, 2) := by decide +kernel
theorem dL_put_327 : decode cL_put 327 = .ok (.ishl, 1) := by decide +kernel
theorem dL_put_328 : decode cL_put 328 = .ok (.ior, 1) := by decide +kernel
theorem dL_put_329 : decode cL_put 329 = .ok (.iastore, 1) := by decide +kernel
theorem dL_put_330 : decode cL_put 330 = .ok (.aload_n 0, 1) := by decide +kernel
theorem dL_put_331 : decode cL_put 331 = .ok (.iconst 0, 1) := by decide +kernel
theorem dL_put_332 : decode cL_put 332 = .ok (.iload 6, 2) := by decide +kernel
theorem dL_put_334 : decode cL_put 334 = .ok (.iinc 6 1, 3) := by decide +kernel
theorem dL_put_337 : decode cL_put 337 = .ok (.bipush 35, 2) := by decide +kernel
theorem dL_put_339 : decode cL_put 339 = .ok (.invokevirtual 25, 3) := by decide +kernel
theorem dL_put_342 : decode cL_put 342 = .ok (.iconst 1, 1) := by decide +kernel
theorem dL_put_343 : decode cL_put 343 = .ok (.if_icmp .eq 6, 3) := by decide +kernel
theorem dL_put_346 : decode cL_put 346 = .ok (.bipush (-99), 2) := by decide +kernel
theorem dL_put_348 : decode cL_put 348 = .ok (.ireturn, 1) := by decide +kernel
theorem dL_put_349 : decode cL_put 349 = .ok (.iinc 7 1, 3) := by decide +kernel
theorem dL_put_352 : decode cL_put 352 = .ok (.goto (-199), 3) := by decide +kernel
theorem dL_put_355 : decode cL_put 355 = .ok (.iload 6, 2) := by decide +kernel
theorem dL_put_357 : decode cL_put 357 = .ok (.ireturn, 1) := by decide +kernel
set_option maxRecDepth 20000 in
theorem ggL_change_L_some : GoodIn wsL_change wsL_some := goodIn_r _ [4, 5] (by decide +kernel) (by decide +kernel)
set_option maxRecDepth 20000 in
theorem gL_change_L_some : GoodIn wsL_change (va_wsS RL 15 yL_some wsL_some) := goodIn_app (goodIn_of _ (by decide +kernel)) ggL_change_L_some
set_option maxRecDepth 20000 in
theorem ggL_change_X4_strong : GoodIn wsL_change wsX4_strong := goodIn_r _ [10, 11, 12, 13, 14, 15, 16, 17, 18, 38, 39, 40, 41, 42, 43, 44, 45, 46, 47, 48, 49, 50, 51, 52, 53, 54] (by decide +kernel) (by decide +kernel)
set_option maxRecDepth 20000 in
theorem gL_change_X4_strong : GoodIn wsL_change (wsV RL 28 RX4 yX4_strong wsX4_strong) := goodIn_app (goodIn_of _ (by decide +kernel)) ggL_change_X4_strong
set_option maxRecDepth 20000 in
theorem ggL_change_X4_knee : GoodIn wsL_change wsX4_knee := goodIn_r _ [22, 11, 23, 13, 14, 15, 16, 17, 18, 38, 39, 40, 41, 42, 43, 44, 45, 46, 47, 48, 49, 50, 51, 52, 53, 54] (by decide +kernel) (by decide +kernel)
set_option maxRecDepth 20000 in
theorem gL_change_X4_knee : GoodIn wsL_change (wsV RL 32 RX4 yX4_knee wsX4_knee) := goodIn_app (goodIn_of _ (by decide +kernel)) ggL_change_X4_knee
set_option maxRecDepth 20000 in
theorem ggL_change_X4_sole : GoodIn wsL_change wsX4_sole := goodIn_r _ [27, 11, 28, 13, 14, 15, 16, 17, 18, 38, 39, 40, 41, 42, 43, 44, 45, 46, 47, 48, 49, 50, 51, 52, 53, 54] (by decide +kernel) (by decide +kernel)
set_option maxRecDepth 20000 in
theorem gL_change_X4_sole : GoodIn wsL_change (wsV RL 35 RX4 yX4_sole wsX4_sole) := goodIn_app (goodIn_of _ (by decide +kernel)) ggL_change_X4_sole
set_option maxRecDepth 20000 in
theorem ggL_change_X4_grating : GoodIn wsL_change wsX4_grating := goodIn_r _ [32, 11, 33, 34, 35, 36, 16, 37, 18, 38, 39, 40, 41, 42, 43, 44, 45, 46, 47, 48, 49, 50, 51, 52, 53, 54] (by decide +kernel) (by decide +kernel)
set_option maxRecDepth 20000 in
theorem gL_change_X4_grating : GoodIn wsL_change (wsV RL 38 RX4 yX4_grating wsX4_grating) := goodIn_app (goodIn_of _ (by decide +kernel)) ggL_change_X4_grating
theorem dL_change_0 : decode cL_change 0 = .ok (.iconst 1, 1) := by decide +kernel
theorem dL_change_1 : decode cL_change 1 = .ok (.iload_n 1, 1) := by decide +kernel
theorem dL_change_2 : decode cL_change 2 = .ok (.iconst 4, 1) := by decide +kernel
theorem dL_change_3 : decode cL_change 3 = .ok (.invokestatic 15, 3) := by decide +kernel
theorem dL_change_6 : decode cL_change 6 = .ok (.iadd, 1) := by decide +kernel
theorem dL_change_7 : decode cL_change 7 = .ok (.istore_n 3, 1) := by decide +kernel
theorem dL_change_8 : decode cL_change 8 = .ok (.iconst 1, 1) := by decide +kernel
theorem dL_change_9 : decode cL_change 9 = .ok (.iload_n 1, 1) := by decide +kernel
theorem dL_change_10 : decode cL_change 10 = .ok (.iconst 2, 1) := by decide +kernel
theorem dL_change_11 : decode cL_change 11 = .ok (.ishr, 1) := by decide +kernel
theorem dL_change_12 : decode cL_change 12 = .ok (.iconst 3, 1) := by decide +kernel
theorem dL_change_13 : decode cL_change 13 = .ok (.invokestatic 15, 3) := by decide +kernel
theorem dL_change_16 : decode cL_change 16 = .ok (.iadd, 1) := by decide +kernel
theorem dL_change_17 : decode cL_change 17 = .ok (.istore 4, 2) := by decide +kernel
theorem dL_change_19 : decode cL_change 19 = .ok (.iload_n 1, 1) := by decide +kernel
theorem dL_change_20 : decode cL_change 20 = .ok (.iconst 4, 1) := by decide +kernel
theorem dL_change_21 : decode cL_change 21 = .ok (.ishr, 1) := by decide +kernel
theorem dL_change_22 : decode cL_change 22 = .ok (.iconst 3, 1) := by decide +kernel
theorem dL_change_23 : decode cL_change 23 = .ok (.invokestatic 15, 3) := by decide +kernel
theorem dL_change_26 : decode cL_change 26 = .ok (.istore 5, 2) := by decide +kernel
theorem dL_change_28 : decode cL_change 28 = .ok (.iload_n 1, 1) := by decide +kernel
theorem dL_change_29 : decode cL_change 29 = .ok (.bipush 6, 2) := by decide +kernel
theorem dL_change_31 : decode cL_change 31 = .ok (.ishr, 1) := by decide +kernel
theorem dL_change_32 : decode cL_change 32 = .ok (.aload_n 2, 1) := by decide +kernel
theorem dL_change_33 : decode cL_change 33 = .ok (.iconst 0, 1) := by decide +kernel
theorem dL_change_34 : decode cL_change 34 = .ok (.iaload, 1) := by decide +kernel
theorem dL_change_35 : decode cL_change 35 = .ok (.invokestatic 15, 3) := by decide +kernel
theorem dL_change_38 : decode cL_change 38 = .ok (.istore 6, 2) := by decide +kernel
theorem dL_change_40 : decode cL_change 40 = .ok (.iload_n 1, 1) := by decide +kernel
theorem dL_change_41 : decode cL_change 41 = .ok (.bipush 9, 2) := by decide +kernel
theorem dL_change_43 : decode cL_change 43 = .ok (.ishr, 1) := by decide +kernel
theorem dL_change_44 : decode cL_change 44 = .ok (.iconst 3, 1) := by decide +kernel
theorem dL_change_45 : decode cL_change 45 = .ok (.invokestatic 15, 3) := by decide +kernel
theorem dL_change_48 : decode cL_change 48 = .ok (.ifCond .ne 7, 3) := by decide +kernel
theorem dL_change_51 : decode cL_change 51 = .ok (.iconst 1, 1) := by decide +kernel
theorem dL_change_52 : decode cL_change 52 = .ok (.goto 4, 3) := by decide +kernel
theorem dL_change_55 : decode cL_change 55 = .ok (.iconst 0, 1) := by decide +kernel
theorem dL_change_56 : decode cL_change 56 = .ok (.istore 7, 2) := by decide +kernel
theorem dL_change_58 : decode cL_change 58 = .ok (.aload_n 0, 1) := by decide +kernel
theorem dL_change_59 : decode cL_change 59 = .ok (.iload_n 3, 1) := by decide +kernel
theorem dL_change_60 : decode cL_change 60 = .ok (.invokevirtual 28, 3) := by decide +kernel
theorem dL_change_63 : decode cL_change 63 = .ok (.aload_n 2, 1) := by decide +kernel
theorem dL_change_64 : decode cL_change 64 = .ok (.iconst 1, 1) := by decide +kernel
theorem dL_change_65 : decode cL_change 65 = .ok (.iaload, 1) := by decide +kernel
theorem dL_change_66 : decode cL_change 66 = .ok (.if_icmp .ne 66, 3) := by decide +kernel
