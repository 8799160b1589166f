set_option maxRecDepth 200000 in
theorem ggL_pages_X9_page : GoodIn wsL_pages wsX9_page := goodIn_r _ [145, 7, 6, 9, 10, 4, 11, 29, 30, 31, 32, 33, 34, 35, 36, 37, 38, 39, 40, 41, 42, 43, 44, 45, 46, 47, 48, 49, 50, 51, 52, 53, 54, 55, 56, 57, 58, 59, 60, 61, 62, 63, 64, 65, 66, 27, 28, 67, 68, 69, 15, 70, 71, 72, 73, 74, 75, 23, 24, 25, 26, 17, 76, 77, 78, 79, 80, 81, 18, 19, 20, 21, 22, 82, 83, 84, 85, 86, 87, 88, 89, 90, 91, 92, 93, 94, 95, 96, 97, 98, 99, 100, 101, 146, 147, 148, 149, 150, 131, 132, 133, 151, 152, 153, 154, 155, 156, 157, 158, 159, 127, 128, 129, 160, 161, 162, 163, 164, 139, 140, 141, 165, 166, 167, 168, 169, 170, 171, 172, 173, 174, 175, 176, 177, 188, 189, 190, 191, 192, 193, 194, 195, 196, 197, 198, 178, 179, 180, 185, 186, 187, 181, 182, 183, 184] rfl (by decide +kernel)
set_option maxRecDepth 20000 in
theorem gL_pages_X9_page : GoodIn wsL_pages (wsV RL 35 RX9 yX9_page wsX9_page) := goodIn_app (goodIn_of _ (by decide +kernel)) ggL_pages_X9_page
theorem dL_pages_0 : decode cL_pages 0 = .ok (.aload_n 0, 1) := by decide +kernel
theorem dL_pages_1 : decode cL_pages 1 = .ok (.iconst 4, 1) := by decide +kernel
theorem dL_pages_2 : decode cL_pages 2 = .ok (.invokevirtual 9, 3) := by decide +kernel
theorem dL_pages_5 : decode cL_pages 5 = .ok (.istore_n 2, 1) := by decide +kernel
theorem dL_pages_6 : decode cL_pages 6 = .ok (.iconst (-1), 1) := by decide +kernel
theorem dL_pages_7 : decode cL_pages 7 = .ok (.istore_n 3, 1) := by decide +kernel
theorem dL_pages_8 : decode cL_pages 8 = .ok (.iconst 0, 1) := by decide +kernel
theorem dL_pages_9 : decode cL_pages 9 = .ok (.istore 4, 2) := by decide +kernel
theorem dL_pages_11 : decode cL_pages 11 = .ok (.iconst 0, 1) := by decide +kernel
theorem dL_pages_12 : decode cL_pages 12 = .ok (.istore 5, 2) := by decide +kernel
theorem dL_pages_14 : decode cL_pages 14 = .ok (.iconst 0, 1) := by decide +kernel
theorem dL_pages_15 : decode cL_pages 15 = .ok (.istore 6, 2) := by decide +kernel
theorem dL_pages_17 : decode cL_pages 17 = .ok (.iload 6, 2) := by decide +kernel
theorem dL_pages_19 : decode cL_pages 19 = .ok (.iload_n 2, 1) := by decide +kernel
theorem dL_pages_20 : decode cL_pages 20 = .ok (.if_icmp .ge 282, 3) := by decide +kernel
theorem dL_pages_23 : decode cL_pages 23 = .ok (.iload 5, 2) := by decide +kernel
theorem dL_pages_25 : decode cL_pages 25 = .ok (.aload_n 0, 1) := by decide +kernel
theorem dL_pages_26 : decode cL_pages 26 = .ok (.iload 6, 2) := by decide +kernel
theorem dL_pages_28 : decode cL_pages 28 = .ok (.bipush 8, 2) := by decide +kernel
theorem dL_pages_30 : decode cL_pages 30 = .ok (.invokevirtual 22, 3) := by decide +kernel
theorem dL_pages_33 : decode cL_pages 33 = .ok (.iadd, 1) := by decide +kernel
theorem dL_pages_34 : decode cL_pages 34 = .ok (.istore 7, 2) := by decide +kernel
theorem dL_pages_36 : decode cL_pages 36 = .ok (.iload_n 3, 1) := by decide +kernel
theorem dL_pages_37 : decode cL_pages 37 = .ok (.ifCond .lt 31, 3) := by decide +kernel
theorem dL_pages_40 : decode cL_pages 40 = .ok (.iload 4, 2) := by decide +kernel
theorem dL_pages_42 : decode cL_pages 42 = .ok (.aload_n 0, 1) := by decide +kernel
theorem dL_pages_43 : decode cL_pages 43 = .ok (.iload 6, 2) := by decide +kernel
theorem dL_pages_45 : decode cL_pages 45 = .ok (.iconst 5, 1) := by decide +kernel
theorem dL_pages_46 : decode cL_pages 46 = .ok (.invokevirtual 22, 3) := by decide +kernel
theorem dL_pages_49 : decode cL_pages 49 = .ok (.iadd, 1) := by decide +kernel
theorem dL_pages_50 : decode cL_pages 50 = .ok (.iload 7, 2) := by decide +kernel
theorem dL_pages_52 : decode cL_pages 52 = .ok (.ifCond .le 10, 3) := by decide +kernel
theorem dL_pages_55 : decode cL_pages 55 = .ok (.iload 7, 2) := by decide +kernel
theorem dL_pages_57 : decode cL_pages 57 = .ok (.iconst 1, 1) := by decide +kernel
theorem dL_pages_58 : decode cL_pages 58 = .ok (.iadd, 1) := by decide +kernel
theorem dL_pages_59 : decode cL_pages 59 = .ok (.goto 4, 3) := by decide +kernel
theorem dL_pages_62 : decode cL_pages 62 = .ok (.iconst 0, 1) := by decide +kernel
theorem dL_pages_63 : decode cL_pages 63 = .ok (.iadd, 1) := by decide +kernel
theorem dL_pages_64 : decode cL_pages 64 = .ok (.iload_n 1, 1) := by decide +kernel
theorem dL_pages_65 : decode cL_pages 65 = .ok (.if_icmp .le 7, 3) := by decide +kernel
theorem dL_pages_68 : decode cL_pages 68 = .ok (.iconst 1, 1) := by decide +kernel
theorem dL_pages_69 : decode cL_pages 69 = .ok (.goto 4, 3) := by decide +kernel
theorem dL_pages_72 : decode cL_pages 72 = .ok (.iconst 0, 1) := by decide +kernel
theorem dL_pages_73 : decode cL_pages 73 = .ok (.istore 8, 2) := by decide +kernel
theorem dL_pages_75 : decode cL_pages 75 = .ok (.iload 8, 2) := by decide +kernel
theorem dL_pages_77 : decode cL_pages 77 = .ok (.ifCond .eq 12, 3) := by decide +kernel
theorem dL_pages_80 : decode cL_pages 80 = .ok (.iinc 3 1, 3) := by decide +kernel
theorem dL_pages_83 : decode cL_pages 83 = .ok (.iconst 0, 1) := by decide +kernel
theorem dL_pages_84 : decode cL_pages 84 = .ok (.istore 4, 2) := by decide +kernel
theorem dL_pages_86 : decode cL_pages 86 = .ok (.iconst 0, 1) := by decide +kernel
theorem dL_pages_87 : decode cL_pages 87 = .ok (.istore 5, 2) := by decide +kernel
theorem dL_pages_89 : decode cL_pages 89 = .ok (.aload_n 0, 1) := by decide +kernel
theorem dL_pages_90 : decode cL_pages 90 = .ok (.iload 6, 2) := by decide +kernel
theorem dL_pages_92 : decode cL_pages 92 = .ok (.bipush 6, 2) := by decide +kernel
theorem dL_pages_94 : decode cL_pages 94 = .ok (.invokevirtual 22, 3) := by decide +kernel
theorem dL_pages_97 : decode cL_pages 97 = .ok (.iload_n 3, 1) := by decide +kernel
theorem dL_pages_98 : decode cL_pages 98 = .ok (.if_icmp .ne 32, 3) := by decide +kernel
theorem dL_pages_101 : decode cL_pages 101 = .ok (.aload_n 0, 1) := by decide +kernel
theorem dL_pages_102 : decode cL_pages 102 = .ok (.iload 6, 2) := by decide +kernel
theorem dL_pages_104 : decode cL_pages 104 = .ok (.bipush 7, 2) := by decide +kernel
theorem dL_pages_106 : decode cL_pages 106 = .ok (.invokevirtual 22, 3) := by decide +kernel
theorem dL_pages_109 : decode cL_pages 109 = .ok (.iload 4, 2) := by decide +kernel
theorem dL_pages_111 : decode cL_pages 111 = .ok (.if_icmp .ne 19, 3) := by decide +kernel
theorem dL_pages_114 : decode cL_pages 114 = .ok (.iload 8, 2) := by decide +kernel
theorem dL_pages_116 : decode cL_pages 116 = .ok (.ifCond .eq 16, 3) := by decide +kernel
theorem dL_pages_119 : decode cL_pages 119 = .ok (.aload_n 0, 1) := by decide +kernel
theorem dL_pages_120 : decode cL_pages 120 = .ok (.iload_n 3, 1) := by decide +kernel
theorem dL_pages_121 : decode cL_pages 121 = .ok (.iconst 0, 1) := by decide +kernel
theorem dL_pages_122 : decode cL_pages 122 = .ok (.invokevirtual 35, 3) := by decide +kernel
theorem dL_pages_125 : decode cL_pages 125 = .ok (.iload 6, 2) := by decide +kernel
theorem dL_pages_127 : decode cL_pages 127 = .ok (.if_icmp .eq 5, 3) := by decide +kernel
theorem dL_pages_130 : decode cL_pages 130 = .ok (.iconst 0, 1) := by decide +kernel
theorem dL_pages_131 : decode cL_pages 131 = .ok (.ireturn, 1) := by decide +kernel
theorem dL_pages_132 : decode cL_pages 132 = .ok (.iload 4, 2) := by decide +kernel
theorem dL_pages_134 : decode cL_pages 134 = .ok (.aload_n 0, 1) := by decide +kernel
theorem dL_pages_135 : decode cL_pages 135 = .ok (.iload 6, 2) := by decide +kernel
theorem dL_pages_137 : decode cL_pages 137 = .ok (.iconst 5, 1) := by decide +kernel
theorem dL_pages_138 : decode cL_pages 138 = .ok (.invokevirtual 22, 3) := by decide +kernel
theorem dL_pages_141 : decode cL_pages 141 = .ok (.iadd, 1) := by decide +kernel
theorem dL_pages_142 : decode cL_pages 142 = .ok (.istore 4, 2) := by decide +kernel
theorem dL_pages_144 : decode cL_pages 144 = .ok (.iload 5, 2) := by decide +kernel
theorem dL_pages_146 : decode cL_pages 146 = .ok (.aload_n 0, 1) := by decide +kernel
theorem dL_pages_147 : decode cL_pages 147 = .ok (.iload 6, 2) := by decide +kernel
theorem dL_pages_149 : decode cL_pages 149 = .ok (.bipush 8, 2) := by decide +kernel
theorem dL_pages_151 : decode cL_pages 151 = .ok (.invokevirtual 22, 3) := by decide +kernel
theorem dL_pages_154 : decode cL_pages 154 = .ok (.iadd, 1) := by decide +kernel
theorem dL_pages_155 : decode cL_pages 155 = .ok (.istore 5, 2) := by decide +kernel
theorem dL_pages_157 : decode cL_pages 157 = .ok (.iload 6, 2) := by decide +kernel
theorem dL_pages_159 : decode cL_pages 159 = .ok (.iload_n 2, 1) := by decide +kernel
theorem dL_pages_160 : decode cL_pages 160 = .ok (.iconst 1, 1) := by decide +kernel
theorem dL_pages_161 : decode cL_pages 161 = .ok (.isub, 1) := by decide +kernel
theorem dL_pages_162 : decode cL_pages 162 = .ok (.if_icmp .eq 17, 3) := by decide +kernel
theorem dL_pages_165 : decode cL_pages 165 = .ok (.aload_n 0, 1) := by decide +kernel
theorem dL_pages_166 : decode cL_pages 166 = .ok (.iload 6, 2) := by decide +kernel
theorem dL_pages_168 : decode cL_pages 168 = .ok (.iconst 1, 1) := by decide +kernel
theorem dL_pages_169 : decode cL_pages 169 = .ok (.iadd, 1) := by decide +kernel
theorem dL_pages_170 : decode cL_pages 170 = .ok (.bipush 6, 2) := by decide +kernel
theorem dL_pages_172 : decode cL_pages 172 = .ok (.invokevirtual 22, 3) := by decide +kernel
theorem dL_pages_175 : decode cL_pages 175 = .ok (.iload_n 3, 1) := by decide +kernel
theorem dL_pages_176 : decode cL_pages 176 = .ok (.if_icmp .le 7, 3) := by decide +kernel
theorem dL_pages_179 : decode cL_pages 179 = .ok (.iconst 1, 1) := by decide +kernel
theorem dL_pages_180 : decode cL_pages 180 = .ok (.goto 4, 3) := by decide +kernel
theorem dL_pages_183 : decode cL_pages 183 = .ok (.iconst 0, 1) := by decide +kernel
theorem dL_pages_184 : decode cL_pages 184 = .ok (.istore 9, 2) := by decide +kernel
theorem dL_pages_186 : decode cL_pages 186 = .ok (.iload 5, 2) := by decide +kernel
theorem dL_pages_188 : decode cL_pages 188 = .ok (.ifCond .le 10, 3) := by decide +kernel
theorem dL_pages_191 : decode cL_pages 191 = .ok (.iload 5, 2) := by decide +kernel
theorem dL_pages_193 : decode cL_pages 193 = .ok (.iconst 1, 1) := by decide +kernel
theorem dL_pages_194 : decode cL_pages 194 = .ok (.iadd, 1) := by decide +kernel
theorem dL_pages_195 : decode cL_pages 195 = .ok (.goto 4, 3) := by decide +kernel
theorem dL_pages_198 : decode cL_pages 198 = .ok (.iconst 0, 1) := by decide +kernel
theorem dL_pages_199 : decode cL_pages 199 = .ok (.istore 10, 2) := by decide +kernel
theorem dL_pages_201 : decode cL_pages 201 = .ok (.iload 9, 2) := by decide +kernel
theorem dL_pages_203 : decode cL_pages 203 = .ok (.ifCond .eq 93, 3) := by decide +kernel
theorem dL_pages_206 : decode cL_pages 206 = .ok (.aload_n 0, 1) := by decide +kernel
theorem dL_pages_207 : decode cL_pages 207 = .ok (.iload_n 3, 1) := by decide +kernel
theorem dL_pages_208 : decode cL_pages 208 = .ok (.iconst 1, 1) := by decide +kernel
theorem dL_pages_209 : decode cL_pages 209 = .ok (.invokevirtual 35, 3) := by decide +kernel
theorem dL_pages_212 : decode cL_pages 212 = .ok (.iload 6, 2) := by decide +kernel
theorem dL_pages_214 : decode cL_pages 214 = .ok (.if_icmp .ne 80, 3) := by decide +kernel
theorem dL_pages_217 : decode cL_pages 217 = .ok (.aload_n 0, 1) := by decide +kernel
theorem dL_pages_218 : decode cL_pages 218 = .ok (.iload_n 3, 1) := by decide +kernel
theorem dL_pages_219 : decode cL_pages 219 = .ok (.iconst 2, 1) := by decide +kernel
theorem dL_pages_220 : decode cL_pages 220 = .ok (.invokevirtual 35, 3) := by decide +kernel
theorem dL_pages_223 : decode cL_pages 223 = .ok (.iload 4, 2) := by decide +kernel
theorem dL_pages_225 : decode cL_pages 225 = .ok (.if_icmp .ne 69, 3) := by decide +kernel
theorem dL_pages_228 : decode cL_pages 228 = .ok (.aload_n 0, 1) := by decide +kernel
theorem dL_pages_229 : decode cL_pages 229 = .ok (.iload_n 3, 1) := by decide +kernel
theorem dL_pages_230 : decode cL_pages 230 = .ok (.iconst 3, 1) := by decide +kernel
theorem dL_pages_231 : decode cL_pages 231 = .ok (.invokevirtual 35, 3) := by decide +kernel
theorem dL_pages_234 : decode cL_pages 234 = .ok (.iload 10, 2) := by decide +kernel
theorem dL_pages_236 : decode cL_pages 236 = .ok (.if_icmp .ne 58, 3) := by decide +kernel
theorem dL_pages_239 : decode cL_pages 239 = .ok (.aload_n 0, 1) := by decide +kernel
theorem dL_pages_240 : decode cL_pages 240 = .ok (.iload_n 3, 1) := by decide +kernel
theorem dL_pages_241 : decode cL_pages 241 = .ok (.iconst 4, 1) := by decide +kernel
theorem dL_pages_242 : decode cL_pages 242 = .ok (.invokevirtual 35, 3) := by decide +kernel
theorem dL_pages_245 : decode cL_pages 245 = .ok (.iload 4, 2) := by decide +kernel
theorem dL_pages_247 : decode cL_pages 247 = .ok (.iload 10, 2) := by decide +kernel
theorem dL_pages_249 : decode cL_pages 249 = .ok (.iadd, 1) := by decide +kernel
theorem dL_pages_250 : decode cL_pages 250 = .ok (.iload_n 1, 1) := by decide +kernel
theorem dL_pages_251 : decode cL_pages 251 = .ok (.if_icmp .le 7, 3) := by decide +kernel
theorem dL_pages_254 : decode cL_pages 254 = .ok (.iconst 1, 1) := by decide +kernel
theorem dL_pages_255 : decode cL_pages 255 = .ok (.goto 4, 3) := by decide +kernel
theorem dL_pages_258 : decode cL_pages 258 = .ok (.iconst 0, 1) := by decide +kernel
theorem dL_pages_259 : decode cL_pages 259 = .ok (.if_icmp .ne 35, 3) := by decide +kernel
theorem dL_pages_262 : decode cL_pages 262 = .ok (.aload_n 0, 1) := by decide +kernel
theorem dL_pages_263 : decode cL_pages 263 = .ok (.iload_n 3, 1) := by decide +kernel
theorem dL_pages_264 : decode cL_pages 264 = .ok (.iconst 5, 1) := by decide +kernel
theorem dL_pages_265 : decode cL_pages 265 = .ok (.invokevirtual 35, 3) := by decide +kernel
theorem dL_pages_268 : decode cL_pages 268 = .ok (.bipush (-2), 2) := by decide +kernel
theorem dL_pages_270 : decode cL_pages 270 = .ok (.if_icmp .ne 24, 3) := by decide +kernel
theorem dL_pages_273 : decode cL_pages 273 = .ok (.aload_n 0, 1) := by decide +kernel
theorem dL_pages_274 : decode cL_pages 274 = .ok (.iload_n 3, 1) := by decide +kernel
theorem dL_pages_275 : decode cL_pages 275 = .ok (.iconst 4, 1) := by decide +kernel
theorem dL_pages_276 : decode cL_pages 276 = .ok (.invokevirtual 35, 3) := by decide +kernel
theorem dL_pages_279 : decode cL_pages 279 = .ok (.iconst 1, 1) := by decide +kernel
theorem dL_pages_280 : decode cL_pages 280 = .ok (.if_icmp .ne 16, 3) := by decide +kernel
theorem dL_pages_283 : decode cL_pages 283 = .ok (.aload_n 0, 1) := by decide +kernel
theorem dL_pages_284 : decode cL_pages 284 = .ok (.iload_n 3, 1) := by decide +kernel
theorem dL_pages_285 : decode cL_pages 285 = .ok (.iconst 0, 1) := by decide +kernel
theorem dL_pages_286 : decode cL_pages 286 = .ok (.invokevirtual 35, 3) := by decide +kernel
theorem dL_pages_289 : decode cL_pages 289 = .ok (.iload 6, 2) := by decide +kernel
theorem dL_pages_291 : decode cL_pages 291 = .ok (.if_icmp .eq 5, 3) := by decide +kernel
theorem dL_pages_294 : decode cL_pages 294 = .ok (.iconst 0, 1) := by decide +kernel
theorem dL_pages_295 : decode cL_pages 295 = .ok (.ireturn, 1) := by decide +kernel
theorem dL_pages_296 : decode cL_pages 296 = .ok (.iinc 6 1, 3) := by decide +kernel
theorem dL_pages_299 : decode cL_pages 299 = .ok (.goto (-282), 3) := by decide +kernel
theorem dL_pages_302 : decode cL_pages 302 = .ok (.aload_n 0, 1) := by decide +kernel
theorem dL_pages_303 : decode cL_pages 303 = .ok (.bipush 9, 2) := by decide +kernel
theorem dL_pages_305 : decode cL_pages 305 = .ok (.invokevirtual 9, 3) := by decide +kernel
theorem dL_pages_308 : decode cL_pages 308 = .ok (.iload_n 3, 1) := by decide +kernel
theorem dL_pages_309 : decode cL_pages 309 = .ok (.iconst 1, 1) := by decide +kernel
theorem dL_pages_310 : decode cL_pages 310 = .ok (.iadd, 1) := by decide +kernel
theorem dL_pages_311 : decode cL_pages 311 = .ok (.if_icmp .ne 31, 3) := by decide +kernel
theorem dL_pages_314 : decode cL_pages 314 = .ok (.aload_n 0, 1) := by decide +kernel
theorem dL_pages_315 : decode cL_pages 315 = .ok (.iload_n 3, 1) := by decide +kernel
theorem dL_pages_316 : decode cL_pages 316 = .ok (.iconst 1, 1) := by decide +kernel
theorem dL_pages_317 : decode cL_pages 317 = .ok (.iadd, 1) := by decide +kernel
theorem dL_pages_318 : decode cL_pages 318 = .ok (.iconst 0, 1) := by decide +kernel
theorem dL_pages_319 : decode cL_pages 319 = .ok (.invokevirtual 35, 3) := by decide +kernel
theorem dL_pages_322 : decode cL_pages 322 = .ok (.bipush (-5), 2) := by decide +kernel
theorem dL_pages_324 : decode cL_pages 324 = .ok (.if_icmp .ne 18, 3) := by decide +kernel
theorem dL_pages_327 : decode cL_pages 327 = .ok (.aload_n 0, 1) := by decide +kernel
theorem dL_pages_328 : decode cL_pages 328 = .ok (.iconst (-1), 1) := by decide +kernel
theorem dL_pages_329 : decode cL_pages 329 = .ok (.iconst 0, 1) := by decide +kernel
theorem dL_pages_330 : decode cL_pages 330 = .ok (.invokevirtual 35, 3) := by decide +kernel
theorem dL_pages_333 : decode cL_pages 333 = .ok (.bipush (-2), 2) := by decide +kernel
theorem dL_pages_335 : decode cL_pages 335 = .ok (.if_icmp .ne 7, 3) := by decide +kernel
theorem dL_pages_338 : decode cL_pages 338 = .ok (.iconst 1, 1) := by decide +kernel
theorem dL_pages_339 : decode cL_pages 339 = .ok (.goto 4, 3) := by decide +kernel
theorem dL_pages_342 : decode cL_pages 342 = .ok (.iconst 0, 1) := by decide +kernel
theorem dL_pages_343 : decode cL_pages 343 = .ok (.ireturn, 1) := by decide +kernel
set_option maxRecDepth 200000 in
theorem ggL_digits_X9_type : GoodIn wsL_digits wsX9_type := goodIn_r _ [5, 6, 7, 8, 9, 10, 11, 12, 13, 14, 4, 15, 16, 17, 18, 19, 20, 21, 22, 23, 24, 25, 26, 27, 28] rfl (by decide +kernel)
set_option maxRecDepth 20000 in
theorem gL_digits_X9_type : GoodIn wsL_digits (wsV RL 38 RX9 yX9_type wsX9_type) := goodIn_app (goodIn_of _ (by decide +kernel)) ggL_digits_X9_type
theorem dL_digits_0 : decode cL_digits 0 = .ok (.iconst 0, 1) := by decide +kernel
theorem dL_digits_1 : decode cL_digits 1 = .ok (.istore_n 2, 1) := by decide +kernel
theorem dL_digits_2 : decode cL_digits 2 = .ok (.iload_n 1, 1) := by decide +kernel
theorem dL_digits_3 : decode cL_digits 3 = .ok (.bipush 9, 2) := by decide +kernel
theorem dL_digits_5 : decode cL_digits 5 = .ok (.if_icmp .le 16, 3) := by decide +kernel
theorem dL_digits_8 : decode cL_digits 8 = .ok (.aload_n 0, 1) := by decide +kernel
theorem dL_digits_9 : decode cL_digits 9 = .ok (.bipush 48, 2) := by decide +kernel
theorem dL_digits_11 : decode cL_digits 11 = .ok (.iload_n 1, 1) := by decide +kernel
theorem dL_digits_12 : decode cL_digits 12 = .ok (.bipush 10, 2) := by decide +kernel
theorem dL_digits_14 : decode cL_digits 14 = .ok (.idiv, 1) := by decide +kernel
theorem dL_digits_15 : decode cL_digits 15 = .ok (.iadd, 1) := by decide +kernel
theorem dL_digits_16 : decode cL_digits 16 = .ok (.i2c, 1) := by decide +kernel
theorem dL_digits_17 : decode cL_digits 17 = .ok (.invokevirtual 38, 3) := by decide +kernel
theorem dL_digits_20 : decode cL_digits 20 = .ok (.istore_n 2, 1) := by decide +kernel
theorem dL_digits_21 : decode cL_digits 21 = .ok (.aload_n 0, 1) := by decide +kernel
theorem dL_digits_22 : decode cL_digits 22 = .ok (.bipush 48, 2) := by decide +kernel
theorem dL_digits_24 : decode cL_digits 24 = .ok (.iload_n 1, 1) := by decide +kernel
theorem dL_digits_25 : decode cL_digits 25 = .ok (.bipush 10, 2) := by decide +kernel
theorem dL_digits_27 : decode cL_digits 27 = .ok (.irem, 1) := by decide +kernel
theorem dL_digits_28 : decode cL_digits 28 = .ok (.iadd, 1) := by decide +kernel
theorem dL_digits_29 : decode cL_digits 29 = .ok (.i2c, 1) := by decide +kernel
theorem dL_digits_30 : decode cL_digits 30 = .ok (.invokevirtual 38, 3) := by decide +kernel
theorem dL_digits_33 : decode cL_digits 33 = .ok (.istore_n 2, 1) := by decide +kernel
theorem dL_digits_34 : decode cL_digits 34 = .ok (.iload_n 2, 1) := by decide +kernel
theorem dL_digits_35 : decode cL_digits 35 = .ok (.ireturn, 1) := by decide +kernel
set_option maxRecDepth 200000 in
theorem ggL_refers_X9_count : GoodIn wsL_refers wsX9_count := goodIn_r _ [5, 6, 7, 8, 9, 10, 4, 11, 12, 13, 14, 15, 16, 17, 18, 19, 20, 21, 22, 23, 24, 25, 26, 27, 28, 29, 30, 31, 32, 33, 34, 35, 36, 37, 38, 39, 40, 41, 42, 43, 44, 45, 46, 47, 48, 49, 50, 51, 52, 53, 54, 55, 56, 57, 58, 59, 60, 61, 62, 63, 64, 65, 66, 67, 68, 69, 70, 71, 72, 73, 74, 75, 76, 77, 78, 79, 80, 81, 82, 83, 84, 85, 86, 87, 88, 89, 90, 91, 92, 93, 94, 95, 96, 97, 98, 99, 100, 101, 102, 103, 104, 105, 106, 107, 108, 109, 110, 322, 323, 324, 325, 326, 327, 328, 329, 330, 331, 332, 333, 334, 335, 336, 337, 338, 339, 340, 341, 342, 343, 344, 345, 346, 347, 348, 349, 350, 351] rfl (by decide +kernel)
set_option maxRecDepth 20000 in
theorem gL_refers_X9_count : GoodIn wsL_refers (wsV RL 9 RX9 yX9_count wsX9_count) := goodIn_app (goodIn_of _ (by decide +kernel)) ggL_refers_X9_count
set_option maxRecDepth 200000 in
theorem ggL_refers_X9_clearText : GoodIn wsL_refers wsX9_clearText := goodIn_r _ [114, 115, 116, 117, 118, 119, 120, 121, 322, 323, 324, 325, 326, 327, 328, 352, 353, 354, 355, 356, 357] rfl (by decide +kernel)
set_option maxRecDepth 20000 in
theorem gL_refers_X9_clearText : GoodIn wsL_refers (wsV RL 42 RX9 yX9_clearText wsX9_clearText) := goodIn_app (goodIn_of _ (by decide +kernel)) ggL_refers_X9_clearText
set_option maxRecDepth 200000 in
theorem ggL_refers_X9_refer : GoodIn wsL_refers wsX9_refer := goodIn_r _ [125, 126, 115, 6, 127, 128, 129, 4, 130, 9, 10, 11, 131, 132, 133, 134, 135, 136, 137, 138, 139, 140, 141, 142, 143, 144, 145, 146, 147, 119, 148, 149, 150, 151, 152, 153, 154, 155, 156, 157, 158, 159, 160, 161, 162, 163, 164, 121, 165, 166, 167, 168, 169, 170, 171, 172, 173, 174, 175, 176, 177, 178, 179, 180, 181, 182, 183, 184, 185, 186, 187, 188, 189, 190, 13, 14, 15, 16, 17, 18, 19, 20, 21, 22, 23, 24, 25, 26, 27, 28, 191, 192, 193, 194, 195, 196, 197, 198, 199, 200, 201, 202, 203, 204, 205, 206, 207, 208, 209, 210, 211, 212, 213, 214, 215, 216, 217, 218, 219, 220, 221, 222, 223, 224, 225, 226, 227, 228, 229, 230, 231, 232, 233, 234, 56, 57, 58, 59, 60, 61, 62, 63, 64, 65, 66, 235, 236, 237, 238, 239, 240, 241, 242, 243, 244, 322, 323, 324, 325, 326, 327, 328, 329, 330, 331, 358, 359, 352, 353, 354, 355, 356, 357, 332, 333, 334, 335, 360, 361, 362, 363, 364, 365, 366, 336, 337, 338] rfl (by decide +kernel)
set_option maxRecDepth 20000 in
theorem gL_refers_X9_refer : GoodIn wsL_refers (wsV RL 46 RX9 yX9_refer wsX9_refer) := goodIn_app (goodIn_of _ (by decide +kernel)) ggL_refers_X9_refer
set_option maxRecDepth 200000 in
theorem ggL_refers_X9_type : GoodIn wsL_refers wsX9_type := goodIn_r _ [248, 115, 249, 250, 251, 119, 252, 121, 165, 10, 4, 11, 322, 323, 324, 325, 326, 327, 328, 352, 353, 354, 355, 356, 357] rfl (by decide +kernel)
set_option maxRecDepth 20000 in
theorem gL_refers_X9_type : GoodIn wsL_refers (wsV RL 38 RX9 yX9_type wsX9_type) := goodIn_app (goodIn_of _ (by decide +kernel)) ggL_refers_X9_type
set_option maxRecDepth 200000 in
theorem ggL_refers_L_low : GoodIn wsL_refers wsL_low := goodIn_r _ [256, 257] rfl (by decide +kernel)
set_option maxRecDepth 20000 in
theorem gL_refers_L_low : GoodIn wsL_refers (va_wsS RL 49 yL_low wsL_low) := goodIn_app (goodIn_of _ (by decide +kernel)) ggL_refers_L_low
set_option maxRecDepth 200000 in
theorem ggL_refers_X9_verse : GoodIn wsL_refers wsX9_verse := goodIn_r _ [261, 6, 7, 262, 263, 264, 4, 265, 128, 129, 130, 131, 132, 133, 134, 135, 136, 137, 266, 24, 25, 15, 26, 17, 9, 10, 11, 267, 19, 20, 21, 22, 23, 27, 28, 268, 269, 270, 271, 18, 211, 212, 213, 214, 272, 72, 73, 74, 75, 273, 87, 88, 89, 90, 274, 275, 276, 32, 277, 44, 46, 278, 76, 77, 322, 323, 324, 325, 326, 327, 328, 329, 330, 331, 332, 333, 334, 335, 339, 340, 341, 342, 343, 344, 345, 346, 347, 348, 349] rfl (by decide +kernel)
set_option maxRecDepth 20000 in
theorem gL_refers_X9_verse : GoodIn wsL_refers (wsV RL 19 RX9 yX9_verse wsX9_verse) := goodIn_app (goodIn_of _ (by decide +kernel)) ggL_refers_X9_verse
set_option maxRecDepth 200000 in
theorem ggL_refers_L_digits : GoodIn wsL_refers wsL_digits := goodIn_r _ [281, 245, 246, 247, 4, 248, 115, 249, 250, 251, 119, 252, 121, 165, 10, 11, 322, 323, 324, 325, 326, 327, 328, 352, 353, 354, 355, 356, 357] rfl (by decide +kernel)
set_option maxRecDepth 20000 in
theorem gL_refers_L_digits : GoodIn wsL_refers (va_wsS RL 52 yL_digits wsL_digits) := goodIn_app (goodIn_of _ (by decide +kernel)) ggL_refers_L_digits
set_option maxRecDepth 200000 in
theorem ggL_refers_X9_beside : GoodIn wsL_refers wsX9_beside := goodIn_r _ [285, 6, 262, 263, 264, 4, 265, 128, 129, 130, 131, 132, 133, 134, 135, 136, 137, 266, 24, 25, 15, 26, 17, 9, 10, 11, 286, 287, 288, 58, 289, 66, 110, 56, 57, 59, 60, 61, 62, 63, 64, 65, 27, 28, 290, 235, 236, 291, 292, 293, 294, 295, 322, 323, 324, 325, 326, 327, 328, 329, 330, 331, 332, 333, 334, 335, 336, 337, 338] rfl (by decide +kernel)
set_option maxRecDepth 20000 in
theorem gL_refers_X9_beside : GoodIn wsL_refers (wsV RL 32 RX9 yX9_beside wsX9_beside) := goodIn_app (goodIn_of _ (by decide +kernel)) ggL_refers_X9_beside
set_option maxRecDepth 200000 in
theorem ggL_refers_X9_group : GoodIn wsL_refers wsX9_group := goodIn_r _ [299, 6, 7, 300, 63, 64, 58, 65, 66, 9, 10, 4, 11, 29, 30, 31, 32, 33, 34, 35, 36, 37, 38, 39, 40, 41, 42, 43, 44, 45, 46, 47, 48, 49, 50, 51, 52, 53, 54, 55, 56, 57, 59, 60, 61, 62, 27, 28, 67, 68, 69, 15, 70, 71, 72, 73, 74, 75, 23, 24, 25, 26, 17, 76, 77, 78, 79, 80, 81, 18, 19, 20, 21, 22, 82, 83, 84, 85, 86, 87, 88, 89, 90, 91, 92, 93, 94, 95, 96, 97, 98, 99, 100, 101, 301, 107, 108, 109, 110, 302, 303, 304, 305, 291, 292, 293, 294, 295, 306, 307, 308, 309, 310, 311, 312, 313, 314, 315, 316, 317, 318, 319, 320, 321, 322, 323, 324, 325, 326, 327, 328, 329, 330, 331, 336, 337, 338, 339, 340, 341, 342, 343, 344, 345, 346, 347, 348, 349, 332, 333, 334, 335] rfl (by decide +kernel)
set_option maxRecDepth 20000 in
theorem gL_refers_X9_group : GoodIn wsL_refers (wsV RL 22 RX9 yX9_group wsX9_group) := goodIn_app (goodIn_of _ (by decide +kernel)) ggL_refers_X9_group
theorem dL_refers_0 : decode cL_refers 0 = .ok (.aload_n 0, 1) := by decide +kernel
theorem dL_refers_1 : decode cL_refers 1 = .ok (.iconst 2, 1) := by decide +kernel
theorem dL_refers_2 : decode cL_refers 2 = .ok (.iload_n 1, 1) := by decide +kernel
theorem dL_refers_3 : decode cL_refers 3 = .ok (.iadd, 1) := by decide +kernel
theorem dL_refers_4 : decode cL_refers 4 = .ok (.invokevirtual 9, 3) := by decide +kernel
theorem dL_refers_7 : decode cL_refers 7 = .ok (.istore 4, 2) := by decide +kernel
theorem dL_refers_9 : decode cL_refers 9 = .ok (.aload_n 0, 1) := by decide +kernel
theorem dL_refers_10 : decode cL_refers 10 = .ok (.invokevirtual 42, 3) := by decide +kernel
theorem dL_refers_13 : decode cL_refers 13 = .ok (.pop, 1) := by decide +kernel
theorem dL_refers_14 : decode cL_refers 14 = .ok (.iload 4, 2) := by decide +kernel
theorem dL_refers_16 : decode cL_refers 16 = .ok (.ifCond .ne 72, 3) := by decide +kernel
theorem dL_refers_19 : decode cL_refers 19 = .ok (.aload_n 0, 1) := by decide +kernel
theorem dL_refers_20 : decode cL_refers 20 = .ok (.iload_n 1, 1) := by decide +kernel
theorem dL_refers_21 : decode cL_refers 21 = .ok (.iconst 0, 1) := by decide +kernel
theorem dL_refers_22 : decode cL_refers 22 = .ok (.invokevirtual 46, 3) := by decide +kernel
theorem dL_refers_25 : decode cL_refers 25 = .ok (.bipush (-100), 2) := by decide +kernel
theorem dL_refers_27 : decode cL_refers 27 = .ok (.if_icmp .ne 7, 3) := by decide +kernel
theorem dL_refers_30 : decode cL_refers 30 = .ok (.iconst 1, 1) := by decide +kernel
theorem dL_refers_31 : decode cL_refers 31 = .ok (.goto 4, 3) := by decide +kernel
theorem dL_refers_34 : decode cL_refers 34 = .ok (.iconst 0, 1) := by decide +kernel
theorem dL_refers_35 : decode cL_refers 35 = .ok (.istore 5, 2) := by decide +kernel
theorem dL_refers_37 : decode cL_refers 37 = .ok (.aload_n 0, 1) := by decide +kernel
theorem dL_refers_38 : decode cL_refers 38 = .ok (.bipush 49, 2) := by decide +kernel
theorem dL_refers_40 : decode cL_refers 40 = .ok (.invokevirtual 38, 3) := by decide +kernel
theorem dL_refers_43 : decode cL_refers 43 = .ok (.pop, 1) := by decide +kernel
theorem dL_refers_44 : decode cL_refers 44 = .ok (.iload 5, 2) := by decide +kernel
theorem dL_refers_46 : decode cL_refers 46 = .ok (.ifCond .eq 40, 3) := by decide +kernel
theorem dL_refers_49 : decode cL_refers 49 = .ok (.aload_n 0, 1) := by decide +kernel
theorem dL_refers_50 : decode cL_refers 50 = .ok (.iload_n 1, 1) := by decide +kernel
theorem dL_refers_51 : decode cL_refers 51 = .ok (.iconst 0, 1) := by decide +kernel
theorem dL_refers_52 : decode cL_refers 52 = .ok (.invokevirtual 46, 3) := by decide +kernel
theorem dL_refers_55 : decode cL_refers 55 = .ok (.bipush (-100), 2) := by decide +kernel
theorem dL_refers_57 : decode cL_refers 57 = .ok (.if_icmp .ne 29, 3) := by decide +kernel
theorem dL_refers_60 : decode cL_refers 60 = .ok (.aload_n 0, 1) := by decide +kernel
theorem dL_refers_61 : decode cL_refers 61 = .ok (.iconst 2, 1) := by decide +kernel
theorem dL_refers_62 : decode cL_refers 62 = .ok (.iconst 0, 1) := by decide +kernel
theorem dL_refers_63 : decode cL_refers 63 = .ok (.invokevirtual 46, 3) := by decide +kernel
theorem dL_refers_66 : decode cL_refers 66 = .ok (.iconst (-1), 1) := by decide +kernel
theorem dL_refers_67 : decode cL_refers 67 = .ok (.if_icmp .ne 19, 3) := by decide +kernel
theorem dL_refers_70 : decode cL_refers 70 = .ok (.aload_n 0, 1) := by decide +kernel
theorem dL_refers_71 : decode cL_refers 71 = .ok (.iload_n 1, 1) := by decide +kernel
theorem dL_refers_72 : decode cL_refers 72 = .ok (.bipush 7, 2) := by decide +kernel
theorem dL_refers_74 : decode cL_refers 74 = .ok (.invokevirtual 46, 3) := by decide +kernel
theorem dL_refers_77 : decode cL_refers 77 = .ok (.bipush (-2), 2) := by decide +kernel
theorem dL_refers_79 : decode cL_refers 79 = .ok (.if_icmp .ne 7, 3) := by decide +kernel
theorem dL_refers_82 : decode cL_refers 82 = .ok (.iconst 1, 1) := by decide +kernel
theorem dL_refers_83 : decode cL_refers 83 = .ok (.goto 4, 3) := by decide +kernel
theorem dL_refers_86 : decode cL_refers 86 = .ok (.iconst 0, 1) := by decide +kernel
theorem dL_refers_87 : decode cL_refers 87 = .ok (.ireturn, 1) := by decide +kernel
theorem dL_refers_88 : decode cL_refers 88 = .ok (.iload_n 2, 1) := by decide +kernel
theorem dL_refers_89 : decode cL_refers 89 = .ok (.iload 4, 2) := by decide +kernel
theorem dL_refers_91 : decode cL_refers 91 = .ok (.invokestatic 49, 3) := by decide +kernel
theorem dL_refers_94 : decode cL_refers 94 = .ok (.istore 5, 2) := by decide +kernel
theorem dL_refers_96 : decode cL_refers 96 = .ok (.iload 5, 2) := by decide +kernel
theorem dL_refers_98 : decode cL_refers 98 = .ok (.iload_n 3, 1) := by decide +kernel
theorem dL_refers_99 : decode cL_refers 99 = .ok (.iload 4, 2) := by decide +kernel
theorem dL_refers_101 : decode cL_refers 101 = .ok (.iload 5, 2) := by decide +kernel
theorem dL_refers_103 : decode cL_refers 103 = .ok (.isub, 1) := by decide +kernel
theorem dL_refers_104 : decode cL_refers 104 = .ok (.invokestatic 49, 3) := by decide +kernel
theorem dL_refers_107 : decode cL_refers 107 = .ok (.iadd, 1) := by decide +kernel
theorem dL_refers_108 : decode cL_refers 108 = .ok (.istore 6, 2) := by decide +kernel
theorem dL_refers_110 : decode cL_refers 110 = .ok (.aload_n 0, 1) := by decide +kernel
theorem dL_refers_111 : decode cL_refers 111 = .ok (.aload_n 0, 1) := by decide +kernel
theorem dL_refers_112 : decode cL_refers 112 = .ok (.iload_n 1, 1) := by decide +kernel
theorem dL_refers_113 : decode cL_refers 113 = .ok (.iload 5, 2) := by decide +kernel
theorem dL_refers_115 : decode cL_refers 115 = .ok (.iconst 0, 1) := by decide +kernel
theorem dL_refers_116 : decode cL_refers 116 = .ok (.invokevirtual 19, 3) := by decide +kernel
theorem dL_refers_119 : decode cL_refers 119 = .ok (.invokestatic 52, 3) := by decide +kernel
theorem dL_refers_122 : decode cL_refers 122 = .ok (.pop, 1) := by decide +kernel
theorem dL_refers_123 : decode cL_refers 123 = .ok (.aload_n 0, 1) := by decide +kernel
theorem dL_refers_124 : decode cL_refers 124 = .ok (.bipush 58, 2) := by decide +kernel
theorem dL_refers_126 : decode cL_refers 126 = .ok (.invokevirtual 38, 3) := by decide +kernel
theorem dL_refers_129 : decode cL_refers 129 = .ok (.istore 7, 2) := by decide +kernel
theorem dL_refers_131 : decode cL_refers 131 = .ok (.aload_n 0, 1) := by decide +kernel
theorem dL_refers_132 : decode cL_refers 132 = .ok (.iload_n 1, 1) := by decide +kernel
theorem dL_refers_133 : decode cL_refers 133 = .ok (.iconst 0, 1) := by decide +kernel
theorem dL_refers_134 : decode cL_refers 134 = .ok (.invokevirtual 46, 3) := by decide +kernel
theorem dL_refers_137 : decode cL_refers 137 = .ok (.bipush (-100), 2) := by decide +kernel
theorem dL_refers_139 : decode cL_refers 139 = .ok (.iload 7, 2) := by decide +kernel
theorem dL_refers_141 : decode cL_refers 141 = .ok (.isub, 1) := by decide +kernel
theorem dL_refers_142 : decode cL_refers 142 = .ok (.if_icmp .ne 7, 3) := by decide +kernel
theorem dL_refers_145 : decode cL_refers 145 = .ok (.iconst 1, 1) := by decide +kernel
theorem dL_refers_146 : decode cL_refers 146 = .ok (.goto 4, 3) := by decide +kernel
theorem dL_refers_149 : decode cL_refers 149 = .ok (.iconst 0, 1) := by decide +kernel
theorem dL_refers_150 : decode cL_refers 150 = .ok (.istore 8, 2) := by decide +kernel
theorem dL_refers_152 : decode cL_refers 152 = .ok (.iload 7, 2) := by decide +kernel
theorem dL_refers_154 : decode cL_refers 154 = .ok (.istore 9, 2) := by decide +kernel
theorem dL_refers_156 : decode cL_refers 156 = .ok (.aload_n 0, 1) := by decide +kernel
theorem dL_refers_157 : decode cL_refers 157 = .ok (.aload_n 0, 1) := by decide +kernel
theorem dL_refers_158 : decode cL_refers 158 = .ok (.iload_n 1, 1) := by decide +kernel
theorem dL_refers_159 : decode cL_refers 159 = .ok (.iload 5, 2) := by decide +kernel
theorem dL_refers_161 : decode cL_refers 161 = .ok (.iconst 1, 1) := by decide +kernel
theorem dL_refers_162 : decode cL_refers 162 = .ok (.invokevirtual 19, 3) := by decide +kernel
theorem dL_refers_165 : decode cL_refers 165 = .ok (.invokestatic 52, 3) := by decide +kernel
theorem dL_refers_168 : decode cL_refers 168 = .ok (.istore 7, 2) := by decide +kernel
theorem dL_refers_170 : decode cL_refers 170 = .ok (.iload 8, 2) := by decide +kernel
theorem dL_refers_172 : decode cL_refers 172 = .ok (.ifCond .eq 35, 3) := by decide +kernel
theorem dL_refers_175 : decode cL_refers 175 = .ok (.aload_n 0, 1) := by decide +kernel
theorem dL_refers_176 : decode cL_refers 176 = .ok (.iload_n 1, 1) := by decide +kernel
theorem dL_refers_177 : decode cL_refers 177 = .ok (.iconst 0, 1) := by decide +kernel
theorem dL_refers_178 : decode cL_refers 178 = .ok (.invokevirtual 46, 3) := by decide +kernel
theorem dL_refers_181 : decode cL_refers 181 = .ok (.iload 5, 2) := by decide +kernel
theorem dL_refers_183 : decode cL_refers 183 = .ok (.if_icmp .ne 24, 3) := by decide +kernel
theorem dL_refers_186 : decode cL_refers 186 = .ok (.aload_n 0, 1) := by decide +kernel
theorem dL_refers_187 : decode cL_refers 187 = .ok (.iload_n 1, 1) := by decide +kernel
theorem dL_refers_188 : decode cL_refers 188 = .ok (.iconst 1, 1) := by decide +kernel
theorem dL_refers_189 : decode cL_refers 189 = .ok (.invokevirtual 46, 3) := by decide +kernel
theorem dL_refers_192 : decode cL_refers 192 = .ok (.iload 5, 2) := by decide +kernel
theorem dL_refers_194 : decode cL_refers 194 = .ok (.if_icmp .ne 13, 3) := by decide +kernel
theorem dL_refers_197 : decode cL_refers 197 = .ok (.aload_n 0, 1) := by decide +kernel
theorem dL_refers_198 : decode cL_refers 198 = .ok (.iload_n 1, 1) := by decide +kernel
theorem dL_refers_199 : decode cL_refers 199 = .ok (.iconst 4, 1) := by decide +kernel
theorem dL_refers_200 : decode cL_refers 200 = .ok (.invokevirtual 46, 3) := by decide +kernel
theorem dL_refers_203 : decode cL_refers 203 = .ok (.iconst 1, 1) := by decide +kernel
theorem dL_refers_204 : decode cL_refers 204 = .ok (.if_icmp .eq 5, 3) := by decide +kernel
theorem dL_refers_207 : decode cL_refers 207 = .ok (.iconst 0, 1) := by decide +kernel
theorem dL_refers_208 : decode cL_refers 208 = .ok (.ireturn, 1) := by decide +kernel
theorem dL_refers_209 : decode cL_refers 209 = .ok (.aload_n 0, 1) := by decide +kernel
theorem dL_refers_210 : decode cL_refers 210 = .ok (.bipush 45, 2) := by decide +kernel
theorem dL_refers_212 : decode cL_refers 212 = .ok (.invokevirtual 38, 3) := by decide +kernel
theorem dL_refers_215 : decode cL_refers 215 = .ok (.pop, 1) := by decide +kernel
theorem dL_refers_216 : decode cL_refers 216 = .ok (.aload_n 0, 1) := by decide +kernel
theorem dL_refers_217 : decode cL_refers 217 = .ok (.iload_n 1, 1) := by decide +kernel
theorem dL_refers_218 : decode cL_refers 218 = .ok (.iconst 0, 1) := by decide +kernel
theorem dL_refers_219 : decode cL_refers 219 = .ok (.invokevirtual 46, 3) := by decide +kernel
theorem dL_refers_222 : decode cL_refers 222 = .ok (.bipush (-101), 2) := by decide +kernel
theorem dL_refers_224 : decode cL_refers 224 = .ok (.iload 7, 2) := by decide +kernel
theorem dL_refers_226 : decode cL_refers 226 = .ok (.isub, 1) := by decide +kernel
theorem dL_refers_227 : decode cL_refers 227 = .ok (.if_icmp .ne 7, 3) := by decide +kernel
theorem dL_refers_230 : decode cL_refers 230 = .ok (.iconst 1, 1) := by decide +kernel
theorem dL_refers_231 : decode cL_refers 231 = .ok (.goto 4, 3) := by decide +kernel
theorem dL_refers_234 : decode cL_refers 234 = .ok (.iconst 0, 1) := by decide +kernel
theorem dL_refers_235 : decode cL_refers 235 = .ok (.istore 10, 2) := by decide +kernel
theorem dL_refers_237 : decode cL_refers 237 = .ok (.aload_n 0, 1) := by decide +kernel
theorem dL_refers_238 : decode cL_refers 238 = .ok (.aload_n 0, 1) := by decide +kernel
theorem dL_refers_239 : decode cL_refers 239 = .ok (.iload_n 1, 1) := by decide +kernel
theorem dL_refers_240 : decode cL_refers 240 = .ok (.iload 6, 2) := by decide +kernel
theorem dL_refers_242 : decode cL_refers 242 = .ok (.iconst 0, 1) := by decide +kernel
theorem dL_refers_243 : decode cL_refers 243 = .ok (.invokevirtual 19, 3) := by decide +kernel
theorem dL_refers_246 : decode cL_refers 246 = .ok (.invokestatic 52, 3) := by decide +kernel
theorem dL_refers_249 : decode cL_refers 249 = .ok (.pop, 1) := by decide +kernel
theorem dL_refers_250 : decode cL_refers 250 = .ok (.aload_n 0, 1) := by decide +kernel
theorem dL_refers_251 : decode cL_refers 251 = .ok (.bipush 58, 2) := by decide +kernel
theorem dL_refers_253 : decode cL_refers 253 = .ok (.invokevirtual 38, 3) := by decide +kernel
theorem dL_refers_256 : decode cL_refers 256 = .ok (.pop, 1) := by decide +kernel
theorem dL_refers_257 : decode cL_refers 257 = .ok (.aload_n 0, 1) := by decide +kernel
theorem dL_refers_258 : decode cL_refers 258 = .ok (.aload_n 0, 1) := by decide +kernel
theorem dL_refers_259 : decode cL_refers 259 = .ok (.iload_n 1, 1) := by decide +kernel
theorem dL_refers_260 : decode cL_refers 260 = .ok (.iload 6, 2) := by decide +kernel
theorem dL_refers_262 : decode cL_refers 262 = .ok (.iconst 1, 1) := by decide +kernel
theorem dL_refers_263 : decode cL_refers 263 = .ok (.invokevirtual 19, 3) := by decide +kernel
theorem dL_refers_266 : decode cL_refers 266 = .ok (.invokestatic 52, 3) := by decide +kernel
theorem dL_refers_269 : decode cL_refers 269 = .ok (.pop, 1) := by decide +kernel
theorem dL_refers_270 : decode cL_refers 270 = .ok (.aload_n 0, 1) := by decide +kernel
theorem dL_refers_271 : decode cL_refers 271 = .ok (.iload_n 1, 1) := by decide +kernel
theorem dL_refers_272 : decode cL_refers 272 = .ok (.iload 5, 2) := by decide +kernel
theorem dL_refers_274 : decode cL_refers 274 = .ok (.iconst 0, 1) := by decide +kernel
theorem dL_refers_275 : decode cL_refers 275 = .ok (.invokevirtual 32, 3) := by decide +kernel
theorem dL_refers_278 : decode cL_refers 278 = .ok (.istore 11, 2) := by decide +kernel
theorem dL_refers_280 : decode cL_refers 280 = .ok (.aload_n 0, 1) := by decide +kernel
theorem dL_refers_281 : decode cL_refers 281 = .ok (.iload_n 1, 1) := by decide +kernel
theorem dL_refers_282 : decode cL_refers 282 = .ok (.iload 6, 2) := by decide +kernel
theorem dL_refers_284 : decode cL_refers 284 = .ok (.iconst 0, 1) := by decide +kernel
theorem dL_refers_285 : decode cL_refers 285 = .ok (.invokevirtual 32, 3) := by decide +kernel
theorem dL_refers_288 : decode cL_refers 288 = .ok (.istore 12, 2) := by decide +kernel
theorem dL_refers_290 : decode cL_refers 290 = .ok (.iconst 0, 1) := by decide +kernel
theorem dL_refers_291 : decode cL_refers 291 = .ok (.istore 13, 2) := by decide +kernel
theorem dL_refers_293 : decode cL_refers 293 = .ok (.iconst 0, 1) := by decide +kernel
theorem dL_refers_294 : decode cL_refers 294 = .ok (.istore 14, 2) := by decide +kernel
theorem dL_refers_296 : decode cL_refers 296 = .ok (.iconst 0, 1) := by decide +kernel
theorem dL_refers_297 : decode cL_refers 297 = .ok (.istore 15, 2) := by decide +kernel
theorem dL_refers_299 : decode cL_refers 299 = .ok (.bipush (-5), 2) := by decide +kernel
theorem dL_refers_301 : decode cL_refers 301 = .ok (.istore 16, 2) := by decide +kernel
theorem dL_refers_303 : decode cL_refers 303 = .ok (.bipush (-5), 2) := by decide +kernel
theorem dL_refers_305 : decode cL_refers 305 = .ok (.istore 17, 2) := by decide +kernel
theorem dL_refers_307 : decode cL_refers 307 = .ok (.iload_n 1, 1) := by decide +kernel
theorem dL_refers_308 : decode cL_refers 308 = .ok (.ifCond .ne 7, 3) := by decide +kernel
theorem dL_refers_311 : decode cL_refers 311 = .ok (.iconst 3, 1) := by decide +kernel
theorem dL_refers_312 : decode cL_refers 312 = .ok (.goto 4, 3) := by decide +kernel
theorem dL_refers_315 : decode cL_refers 315 = .ok (.iconst 1, 1) := by decide +kernel
theorem dL_refers_316 : decode cL_refers 316 = .ok (.istore 18, 2) := by decide +kernel
theorem dL_refers_318 : decode cL_refers 318 = .ok (.iload 11, 2) := by decide +kernel
theorem dL_refers_320 : decode cL_refers 320 = .ok (.istore 19, 2) := by decide +kernel
theorem dL_refers_322 : decode cL_refers 322 = .ok (.iload 19, 2) := by decide +kernel
theorem dL_refers_324 : decode cL_refers 324 = .ok (.iload 12, 2) := by decide +kernel
theorem dL_refers_326 : decode cL_refers 326 = .ok (.if_icmp .gt 124, 3) := by decide +kernel
theorem dL_refers_329 : decode cL_refers 329 = .ok (.aload_n 0, 1) := by decide +kernel
theorem dL_refers_330 : decode cL_refers 330 = .ok (.iload 19, 2) := by decide +kernel
theorem dL_refers_332 : decode cL_refers 332 = .ok (.iload_n 1, 1) := by decide +kernel
theorem dL_refers_333 : decode cL_refers 333 = .ok (.ifCond .ne 7, 3) := by decide +kernel
theorem dL_refers_336 : decode cL_refers 336 = .ok (.iconst 2, 1) := by decide +kernel
theorem dL_refers_337 : decode cL_refers 337 = .ok (.goto 4, 3) := by decide +kernel
theorem dL_refers_340 : decode cL_refers 340 = .ok (.iconst 4, 1) := by decide +kernel
theorem dL_refers_341 : decode cL_refers 341 = .ok (.invokevirtual 22, 3) := by decide +kernel
theorem dL_refers_344 : decode cL_refers 344 = .ok (.ifCond .le 100, 3) := by decide +kernel
theorem dL_refers_347 : decode cL_refers 347 = .ok (.iinc 13 1, 3) := by decide +kernel
theorem dL_refers_350 : decode cL_refers 350 = .ok (.iload 15, 2) := by decide +kernel
theorem dL_refers_352 : decode cL_refers 352 = .ok (.aload_n 0, 1) := by decide +kernel
theorem dL_refers_353 : decode cL_refers 353 = .ok (.iload 19, 2) := by decide +kernel
theorem dL_refers_355 : decode cL_refers 355 = .ok (.iload_n 1, 1) := by decide +kernel
theorem dL_refers_356 : decode cL_refers 356 = .ok (.ifCond .ne 7, 3) := by decide +kernel
theorem dL_refers_359 : decode cL_refers 359 = .ok (.iconst 2, 1) := by decide +kernel
theorem dL_refers_360 : decode cL_refers 360 = .ok (.goto 4, 3) := by decide +kernel
theorem dL_refers_363 : decode cL_refers 363 = .ok (.iconst 4, 1) := by decide +kernel
theorem dL_refers_364 : decode cL_refers 364 = .ok (.invokevirtual 22, 3) := by decide +kernel
theorem dL_refers_367 : decode cL_refers 367 = .ok (.iadd, 1) := by decide +kernel
theorem dL_refers_368 : decode cL_refers 368 = .ok (.istore 15, 2) := by decide +kernel
theorem dL_refers_370 : decode cL_refers 370 = .ok (.iload 14, 2) := by decide +kernel
theorem dL_refers_372 : decode cL_refers 372 = .ok (.aload_n 0, 1) := by decide +kernel
theorem dL_refers_373 : decode cL_refers 373 = .ok (.iload 19, 2) := by decide +kernel
theorem dL_refers_375 : decode cL_refers 375 = .ok (.iload 18, 2) := by decide +kernel
theorem dL_refers_377 : decode cL_refers 377 = .ok (.iconst 1, 1) := by decide +kernel
theorem dL_refers_378 : decode cL_refers 378 = .ok (.iadd, 1) := by decide +kernel
theorem dL_refers_379 : decode cL_refers 379 = .ok (.invokevirtual 22, 3) := by decide +kernel
theorem dL_refers_382 : decode cL_refers 382 = .ok (.iadd, 1) := by decide +kernel
theorem dL_refers_383 : decode cL_refers 383 = .ok (.istore 14, 2) := by decide +kernel
theorem dL_refers_385 : decode cL_refers 385 = .ok (.iload 16, 2) := by decide +kernel
theorem dL_refers_387 : decode cL_refers 387 = .ok (.ifCond .ge 14, 3) := by decide +kernel
theorem dL_refers_390 : decode cL_refers 390 = .ok (.aload_n 0, 1) := by decide +kernel
theorem dL_refers_391 : decode cL_refers 391 = .ok (.iload 19, 2) := by decide +kernel
theorem dL_refers_393 : decode cL_refers 393 = .ok (.iload 18, 2) := by decide +kernel
theorem dL_refers_395 : decode cL_refers 395 = .ok (.invokevirtual 22, 3) := by decide +kernel
theorem dL_refers_398 : decode cL_refers 398 = .ok (.goto 5, 3) := by decide +kernel
theorem dL_refers_401 : decode cL_refers 401 = .ok (.iload 16, 2) := by decide +kernel
theorem dL_refers_403 : decode cL_refers 403 = .ok (.istore 16, 2) := by decide +kernel
theorem dL_refers_405 : decode cL_refers 405 = .ok (.aload_n 0, 1) := by decide +kernel
theorem dL_refers_406 : decode cL_refers 406 = .ok (.iload 19, 2) := by decide +kernel
theorem dL_refers_408 : decode cL_refers 408 = .ok (.iload 18, 2) := by decide +kernel
theorem dL_refers_410 : decode cL_refers 410 = .ok (.invokevirtual 22, 3) := by decide +kernel
theorem dL_refers_413 : decode cL_refers 413 = .ok (.ifCond .lt 27, 3) := by decide +kernel
theorem dL_refers_416 : decode cL_refers 416 = .ok (.aload_n 0, 1) := by decide +kernel
theorem dL_refers_417 : decode cL_refers 417 = .ok (.iload 19, 2) := by decide +kernel
theorem dL_refers_419 : decode cL_refers 419 = .ok (.iload 18, 2) := by decide +kernel
theorem dL_refers_421 : decode cL_refers 421 = .ok (.invokevirtual 22, 3) := by decide +kernel
theorem dL_refers_424 : decode cL_refers 424 = .ok (.aload_n 0, 1) := by decide +kernel
theorem dL_refers_425 : decode cL_refers 425 = .ok (.iload 19, 2) := by decide +kernel
theorem dL_refers_427 : decode cL_refers 427 = .ok (.iload 18, 2) := by decide +kernel
theorem dL_refers_429 : decode cL_refers 429 = .ok (.iconst 1, 1) := by decide +kernel
theorem dL_refers_430 : decode cL_refers 430 = .ok (.iadd, 1) := by decide +kernel
theorem dL_refers_431 : decode cL_refers 431 = .ok (.invokevirtual 22, 3) := by decide +kernel
theorem dL_refers_434 : decode cL_refers 434 = .ok (.iadd, 1) := by decide +kernel
theorem dL_refers_435 : decode cL_refers 435 = .ok (.iconst 1, 1) := by decide +kernel
theorem dL_refers_436 : decode cL_refers 436 = .ok (.isub, 1) := by decide +kernel
theorem dL_refers_437 : decode cL_refers 437 = .ok (.goto 5, 3) := by decide +kernel
theorem dL_refers_440 : decode cL_refers 440 = .ok (.iload 17, 2) := by decide +kernel
theorem dL_refers_442 : decode cL_refers 442 = .ok (.istore 17, 2) := by decide +kernel
theorem dL_refers_444 : decode cL_refers 444 = .ok (.iinc 19 1, 3) := by decide +kernel
theorem dL_refers_447 : decode cL_refers 447 = .ok (.goto (-125), 3) := by decide +kernel
theorem dL_refers_450 : decode cL_refers 450 = .ok (.aload_n 0, 1) := by decide +kernel
theorem dL_refers_451 : decode cL_refers 451 = .ok (.iload_n 1, 1) := by decide +kernel
theorem dL_refers_452 : decode cL_refers 452 = .ok (.iconst 0, 1) := by decide +kernel
theorem dL_refers_453 : decode cL_refers 453 = .ok (.invokevirtual 46, 3) := by decide +kernel
theorem dL_refers_456 : decode cL_refers 456 = .ok (.iload 5, 2) := by decide +kernel
theorem dL_refers_458 : decode cL_refers 458 = .ok (.if_icmp .ne 89, 3) := by decide +kernel
theorem dL_refers_461 : decode cL_refers 461 = .ok (.aload_n 0, 1) := by decide +kernel
theorem dL_refers_462 : decode cL_refers 462 = .ok (.iload_n 1, 1) := by decide +kernel
theorem dL_refers_463 : decode cL_refers 463 = .ok (.iconst 1, 1) := by decide +kernel
theorem dL_refers_464 : decode cL_refers 464 = .ok (.invokevirtual 46, 3) := by decide +kernel
theorem dL_refers_467 : decode cL_refers 467 = .ok (.iload 6, 2) := by decide +kernel
theorem dL_refers_469 : decode cL_refers 469 = .ok (.if_icmp .ne 78, 3) := by decide +kernel
theorem dL_refers_472 : decode cL_refers 472 = .ok (.aload_n 0, 1) := by decide +kernel
theorem dL_refers_473 : decode cL_refers 473 = .ok (.iload_n 1, 1) := by decide +kernel
theorem dL_refers_474 : decode cL_refers 474 = .ok (.iconst 2, 1) := by decide +kernel
theorem dL_refers_475 : decode cL_refers 475 = .ok (.invokevirtual 46, 3) := by decide +kernel
theorem dL_refers_478 : decode cL_refers 478 = .ok (.iload 16, 2) := by decide +kernel
theorem dL_refers_480 : decode cL_refers 480 = .ok (.if_icmp .ne 67, 3) := by decide +kernel
theorem dL_refers_483 : decode cL_refers 483 = .ok (.aload_n 0, 1) := by decide +kernel
theorem dL_refers_484 : decode cL_refers 484 = .ok (.iload_n 1, 1) := by decide +kernel
theorem dL_refers_485 : decode cL_refers 485 = .ok (.iconst 3, 1) := by decide +kernel
theorem dL_refers_486 : decode cL_refers 486 = .ok (.invokevirtual 46, 3) := by decide +kernel
theorem dL_refers_489 : decode cL_refers 489 = .ok (.iload 17, 2) := by decide +kernel
theorem dL_refers_491 : decode cL_refers 491 = .ok (.if_icmp .ne 56, 3) := by decide +kernel
theorem dL_refers_494 : decode cL_refers 494 = .ok (.aload_n 0, 1) := by decide +kernel
theorem dL_refers_495 : decode cL_refers 495 = .ok (.iload_n 1, 1) := by decide +kernel
theorem dL_refers_496 : decode cL_refers 496 = .ok (.iconst 4, 1) := by decide +kernel
theorem dL_refers_497 : decode cL_refers 497 = .ok (.invokevirtual 46, 3) := by decide +kernel
theorem dL_refers_500 : decode cL_refers 500 = .ok (.iload 13, 2) := by decide +kernel
theorem dL_refers_502 : decode cL_refers 502 = .ok (.if_icmp .ne 45, 3) := by decide +kernel
theorem dL_refers_505 : decode cL_refers 505 = .ok (.aload_n 0, 1) := by decide +kernel
theorem dL_refers_506 : decode cL_refers 506 = .ok (.iload_n 1, 1) := by decide +kernel
theorem dL_refers_507 : decode cL_refers 507 = .ok (.iconst 5, 1) := by decide +kernel
theorem dL_refers_508 : decode cL_refers 508 = .ok (.invokevirtual 46, 3) := by decide +kernel
theorem dL_refers_511 : decode cL_refers 511 = .ok (.iload 14, 2) := by decide +kernel
theorem dL_refers_513 : decode cL_refers 513 = .ok (.if_icmp .ne 34, 3) := by decide +kernel
theorem dL_refers_516 : decode cL_refers 516 = .ok (.aload_n 0, 1) := by decide +kernel
theorem dL_refers_517 : decode cL_refers 517 = .ok (.iload_n 1, 1) := by decide +kernel
theorem dL_refers_518 : decode cL_refers 518 = .ok (.bipush 6, 2) := by decide +kernel
theorem dL_refers_520 : decode cL_refers 520 = .ok (.invokevirtual 46, 3) := by decide +kernel
theorem dL_refers_523 : decode cL_refers 523 = .ok (.iload 15, 2) := by decide +kernel
theorem dL_refers_525 : decode cL_refers 525 = .ok (.iload 6, 2) := by decide +kernel
theorem dL_refers_527 : decode cL_refers 527 = .ok (.iload 5, 2) := by decide +kernel
theorem dL_refers_529 : decode cL_refers 529 = .ok (.isub, 1) := by decide +kernel
theorem dL_refers_530 : decode cL_refers 530 = .ok (.iconst 1, 1) := by decide +kernel
theorem dL_refers_531 : decode cL_refers 531 = .ok (.iadd, 1) := by decide +kernel
theorem dL_refers_532 : decode cL_refers 532 = .ok (.if_icmp .ne 7, 3) := by decide +kernel
theorem dL_refers_535 : decode cL_refers 535 = .ok (.iconst 1, 1) := by decide +kernel
theorem dL_refers_536 : decode cL_refers 536 = .ok (.goto 4, 3) := by decide +kernel
theorem dL_refers_539 : decode cL_refers 539 = .ok (.iconst 0, 1) := by decide +kernel
theorem dL_refers_540 : decode cL_refers 540 = .ok (.if_icmp .ne 7, 3) := by decide +kernel
theorem dL_refers_543 : decode cL_refers 543 = .ok (.iconst 1, 1) := by decide +kernel
theorem dL_refers_544 : decode cL_refers 544 = .ok (.goto 4, 3) := by decide +kernel
theorem dL_refers_547 : decode cL_refers 547 = .ok (.iconst 0, 1) := by decide +kernel
theorem dL_refers_548 : decode cL_refers 548 = .ok (.istore 19, 2) := by decide +kernel
theorem dL_refers_550 : decode cL_refers 550 = .ok (.aload_n 0, 1) := by decide +kernel
theorem dL_refers_551 : decode cL_refers 551 = .ok (.invokevirtual 42, 3) := by decide +kernel
theorem dL_refers_554 : decode cL_refers 554 = .ok (.pop, 1) := by decide +kernel
theorem dL_refers_555 : decode cL_refers 555 = .ok (.aload_n 0, 1) := by decide +kernel
theorem dL_refers_556 : decode cL_refers 556 = .ok (.aload_n 0, 1) := by decide +kernel
theorem dL_refers_557 : decode cL_refers 557 = .ok (.iload_n 1, 1) := by decide +kernel
theorem dL_refers_558 : decode cL_refers 558 = .ok (.iload 5, 2) := by decide +kernel
theorem dL_refers_560 : decode cL_refers 560 = .ok (.iconst 0, 1) := by decide +kernel
theorem dL_refers_561 : decode cL_refers 561 = .ok (.invokevirtual 19, 3) := by decide +kernel
theorem dL_refers_564 : decode cL_refers 564 = .ok (.invokestatic 52, 3) := by decide +kernel
theorem dL_refers_567 : decode cL_refers 567 = .ok (.pop, 1) := by decide +kernel
theorem dL_refers_568 : decode cL_refers 568 = .ok (.aload_n 0, 1) := by decide +kernel
theorem dL_refers_569 : decode cL_refers 569 = .ok (.bipush 58, 2) := by decide +kernel
theorem dL_refers_571 : decode cL_refers 571 = .ok (.invokevirtual 38, 3) := by decide +kernel
theorem dL_refers_574 : decode cL_refers 574 = .ok (.pop, 1) := by decide +kernel
theorem dL_refers_575 : decode cL_refers 575 = .ok (.aload_n 0, 1) := by decide +kernel
theorem dL_refers_576 : decode cL_refers 576 = .ok (.bipush 48, 2) := by decide +kernel
theorem dL_refers_578 : decode cL_refers 578 = .ok (.invokevirtual 38, 3) := by decide +kernel
theorem dL_refers_581 : decode cL_refers 581 = .ok (.pop, 1) := by decide +kernel
theorem dL_refers_582 : decode cL_refers 582 = .ok (.aload_n 0, 1) := by decide +kernel
theorem dL_refers_583 : decode cL_refers 583 = .ok (.iload_n 1, 1) := by decide +kernel
theorem dL_refers_584 : decode cL_refers 584 = .ok (.iconst 0, 1) := by decide +kernel
theorem dL_refers_585 : decode cL_refers 585 = .ok (.invokevirtual 46, 3) := by decide +kernel
theorem dL_refers_588 : decode cL_refers 588 = .ok (.bipush (-100), 2) := by decide +kernel
theorem dL_refers_590 : decode cL_refers 590 = .ok (.iload 9, 2) := by decide +kernel
theorem dL_refers_592 : decode cL_refers 592 = .ok (.isub, 1) := by decide +kernel
theorem dL_refers_593 : decode cL_refers 593 = .ok (.if_icmp .ne 7, 3) := by decide +kernel
theorem dL_refers_596 : decode cL_refers 596 = .ok (.iconst 1, 1) := by decide +kernel
theorem dL_refers_597 : decode cL_refers 597 = .ok (.goto 4, 3) := by decide +kernel
theorem dL_refers_600 : decode cL_refers 600 = .ok (.iconst 0, 1) := by decide +kernel
theorem dL_refers_601 : decode cL_refers 601 = .ok (.istore 20, 2) := by decide +kernel
theorem dL_refers_603 : decode cL_refers 603 = .ok (.iload 19, 2) := by decide +kernel
theorem dL_refers_605 : decode cL_refers 605 = .ok (.ifCond .eq 29, 3) := by decide +kernel
theorem dL_refers_608 : decode cL_refers 608 = .ok (.iload 10, 2) := by decide +kernel
theorem dL_refers_610 : decode cL_refers 610 = .ok (.ifCond .eq 24, 3) := by decide +kernel
theorem dL_refers_613 : decode cL_refers 613 = .ok (.iload 20, 2) := by decide +kernel
theorem dL_refers_615 : decode cL_refers 615 = .ok (.ifCond .eq 19, 3) := by decide +kernel
theorem dL_refers_618 : decode cL_refers 618 = .ok (.aload_n 0, 1) := by decide +kernel
theorem dL_refers_619 : decode cL_refers 619 = .ok (.iload_n 1, 1) := by decide +kernel
theorem dL_refers_620 : decode cL_refers 620 = .ok (.bipush 7, 2) := by decide +kernel
theorem dL_refers_622 : decode cL_refers 622 = .ok (.invokevirtual 46, 3) := by decide +kernel
theorem dL_refers_625 : decode cL_refers 625 = .ok (.bipush (-2), 2) := by decide +kernel
theorem dL_refers_627 : decode cL_refers 627 = .ok (.if_icmp .ne 7, 3) := by decide +kernel
theorem dL_refers_630 : decode cL_refers 630 = .ok (.iconst 1, 1) := by decide +kernel
theorem dL_refers_631 : decode cL_refers 631 = .ok (.goto 4, 3) := by decide +kernel
theorem dL_refers_634 : decode cL_refers 634 = .ok (.iconst 0, 1) := by decide +kernel
theorem dL_refers_635 : decode cL_refers 635 = .ok (.ireturn, 1) := by decide +kernel
