theorem dL_law_0 : decode cL_law 0 = .ok (.new 10, 3) := by decide +kernel
theorem dL_law_3 : decode cL_law 3 = .ok (.dup, 1) := by decide +kernel
theorem dL_law_4 : decode cL_law 4 = .ok (.invokespecial 90, 3) := by decide +kernel
theorem dL_law_7 : decode cL_law 7 = .ok (.astore_n 1, 1) := by decide +kernel
theorem dL_law_8 : decode cL_law 8 = .ok (.iconst 2, 1) := by decide +kernel
theorem dL_law_9 : decode cL_law 9 = .ok (.newarray .int, 2) := by decide +kernel
theorem dL_law_11 : decode cL_law 11 = .ok (.astore_n 2, 1) := by decide +kernel
theorem dL_law_12 : decode cL_law 12 = .ok (.aload_n 2, 1) := by decide +kernel
theorem dL_law_13 : decode cL_law 13 = .ok (.iconst 0, 1) := by decide +kernel
theorem dL_law_14 : decode cL_law 14 = .ok (.bipush 40, 2) := by decide +kernel
theorem dL_law_16 : decode cL_law 16 = .ok (.iastore, 1) := by decide +kernel
theorem dL_law_17 : decode cL_law 17 = .ok (.aload_n 2, 1) := by decide +kernel
theorem dL_law_18 : decode cL_law 18 = .ok (.iconst 1, 1) := by decide +kernel
theorem dL_law_19 : decode cL_law 19 = .ok (.bipush 40, 2) := by decide +kernel
theorem dL_law_21 : decode cL_law 21 = .ok (.iastore, 1) := by decide +kernel
theorem dL_law_22 : decode cL_law 22 = .ok (.bipush 40, 2) := by decide +kernel
theorem dL_law_24 : decode cL_law 24 = .ok (.istore_n 3, 1) := by decide +kernel
theorem dL_law_25 : decode cL_law 25 = .ok (.iconst 2, 1) := by decide +kernel
theorem dL_law_26 : decode cL_law 26 = .ok (.istore 4, 2) := by decide +kernel
theorem dL_law_28 : decode cL_law 28 = .ok (.aload_n 1, 1) := by decide +kernel
theorem dL_law_29 : decode cL_law 29 = .ok (.invokevirtual 59, 3) := by decide +kernel
theorem dL_law_32 : decode cL_law 32 = .ok (.bipush (-5), 2) := by decide +kernel
theorem dL_law_34 : decode cL_law 34 = .ok (.if_icmp .eq 5, 3) := by decide +kernel
theorem dL_law_37 : decode cL_law 37 = .ok (.iconst 0, 1) := by decide +kernel
theorem dL_law_38 : decode cL_law 38 = .ok (.ireturn, 1) := by decide +kernel
theorem dL_law_39 : decode cL_law 39 = .ok (.iconst 0, 1) := by decide +kernel
theorem dL_law_40 : decode cL_law 40 = .ok (.istore 5, 2) := by decide +kernel
theorem dL_law_42 : decode cL_law 42 = .ok (.iload 5, 2) := by decide +kernel
theorem dL_law_44 : decode cL_law 44 = .ok (.bipush 30, 2) := by decide +kernel
theorem dL_law_46 : decode cL_law 46 = .ok (.if_icmp .ge 787, 3) := by decide +kernel
theorem dL_law_49 : decode cL_law 49 = .ok (.aload_n 0, 1) := by decide +kernel
theorem dL_law_50 : decode cL_law 50 = .ok (.iconst 2, 1) := by decide +kernel
theorem dL_law_51 : decode cL_law 51 = .ok (.iload 5, 2) := by decide +kernel
theorem dL_law_53 : decode cL_law 53 = .ok (.imul, 1) := by decide +kernel
theorem dL_law_54 : decode cL_law 54 = .ok (.invokestatic 91, 3) := by decide +kernel
theorem dL_law_57 : decode cL_law 57 = .ok (.istore 6, 2) := by decide +kernel
theorem dL_law_59 : decode cL_law 59 = .ok (.aload_n 0, 1) := by decide +kernel
theorem dL_law_60 : decode cL_law 60 = .ok (.iconst 2, 1) := by decide +kernel
theorem dL_law_61 : decode cL_law 61 = .ok (.iload 5, 2) := by decide +kernel
theorem dL_law_63 : decode cL_law 63 = .ok (.imul, 1) := by decide +kernel
theorem dL_law_64 : decode cL_law 64 = .ok (.iconst 1, 1) := by decide +kernel
theorem dL_law_65 : decode cL_law 65 = .ok (.iadd, 1) := by decide +kernel
theorem dL_law_66 : decode cL_law 66 = .ok (.invokestatic 91, 3) := by decide +kernel
theorem dL_law_69 : decode cL_law 69 = .ok (.istore 7, 2) := by decide +kernel
theorem dL_law_71 : decode cL_law 71 = .ok (.iload 5, 2) := by decide +kernel
theorem dL_law_73 : decode cL_law 73 = .ok (.iconst 3, 1) := by decide +kernel
theorem dL_law_74 : decode cL_law 74 = .ok (.if_icmp .ge 7, 3) := by decide +kernel
theorem dL_law_77 : decode cL_law 77 = .ok (.iconst 0, 1) := by decide +kernel
theorem dL_law_78 : decode cL_law 78 = .ok (.goto 10, 3) := by decide +kernel
theorem dL_law_81 : decode cL_law 81 = .ok (.iload 6, 2) := by decide +kernel
theorem dL_law_83 : decode cL_law 83 = .ok (.bipush 13, 2) := by decide +kernel
theorem dL_law_85 : decode cL_law 85 = .ok (.invokestatic 49, 3) := by decide +kernel
theorem dL_law_88 : decode cL_law 88 = .ok (.istore 8, 2) := by decide +kernel
theorem dL_law_90 : decode cL_law 90 = .ok (.iload 6, 2) := by decide +kernel
theorem dL_law_92 : decode cL_law 92 = .ok (.iconst 4, 1) := by decide +kernel
theorem dL_law_93 : decode cL_law 93 = .ok (.ishr, 1) := by decide +kernel
theorem dL_law_94 : decode cL_law 94 = .ok (.istore 6, 2) := by decide +kernel
theorem dL_law_96 : decode cL_law 96 = .ok (.iload 6, 2) := by decide +kernel
theorem dL_law_98 : decode cL_law 98 = .ok (.iconst 1, 1) := by decide +kernel
theorem dL_law_99 : decode cL_law 99 = .ok (.iand, 1) := by decide +kernel
theorem dL_law_100 : decode cL_law 100 = .ok (.istore 9, 2) := by decide +kernel
theorem dL_law_102 : decode cL_law 102 = .ok (.aload_n 1, 1) := by decide +kernel
theorem dL_law_103 : decode cL_law 103 = .ok (.iconst 2, 1) := by decide +kernel
theorem dL_law_104 : decode cL_law 104 = .ok (.iload 9, 2) := by decide +kernel
theorem dL_law_106 : decode cL_law 106 = .ok (.iadd, 1) := by decide +kernel
theorem dL_law_107 : decode cL_law 107 = .ok (.invokevirtual 9, 3) := by decide +kernel
theorem dL_law_110 : decode cL_law 110 = .ok (.istore 10, 2) := by decide +kernel
theorem dL_law_112 : decode cL_law 112 = .ok (.iload 10, 2) := by decide +kernel
theorem dL_law_114 : decode cL_law 114 = .ok (.ifCond .ne 7, 3) := by decide +kernel
theorem dL_law_117 : decode cL_law 117 = .ok (.iconst 0, 1) := by decide +kernel
theorem dL_law_118 : decode cL_law 118 = .ok (.goto 10, 3) := by decide +kernel
theorem dL_law_121 : decode cL_law 121 = .ok (.iload 7, 2) := by decide +kernel
theorem dL_law_123 : decode cL_law 123 = .ok (.iload 10, 2) := by decide +kernel
theorem dL_law_125 : decode cL_law 125 = .ok (.invokestatic 49, 3) := by decide +kernel
theorem dL_law_128 : decode cL_law 128 = .ok (.istore 11, 2) := by decide +kernel
theorem dL_law_130 : decode cL_law 130 = .ok (.aload_n 1, 1) := by decide +kernel
theorem dL_law_131 : decode cL_law 131 = .ok (.iconst 4, 1) := by decide +kernel
theorem dL_law_132 : decode cL_law 132 = .ok (.invokevirtual 9, 3) := by decide +kernel
theorem dL_law_135 : decode cL_law 135 = .ok (.istore 12, 2) := by decide +kernel
theorem dL_law_137 : decode cL_law 137 = .ok (.iload 12, 2) := by decide +kernel
theorem dL_law_139 : decode cL_law 139 = .ok (.ifCond .ne 7, 3) := by decide +kernel
theorem dL_law_142 : decode cL_law 142 = .ok (.iconst 0, 1) := by decide +kernel
theorem dL_law_143 : decode cL_law 143 = .ok (.goto 12, 3) := by decide +kernel
theorem dL_law_146 : decode cL_law 146 = .ok (.iload 7, 2) := by decide +kernel
theorem dL_law_148 : decode cL_law 148 = .ok (.iconst 3, 1) := by decide +kernel
theorem dL_law_149 : decode cL_law 149 = .ok (.ishr, 1) := by decide +kernel
theorem dL_law_150 : decode cL_law 150 = .ok (.iload 12, 2) := by decide +kernel
theorem dL_law_152 : decode cL_law 152 = .ok (.invokestatic 49, 3) := by decide +kernel
theorem dL_law_155 : decode cL_law 155 = .ok (.istore 13, 2) := by decide +kernel
theorem dL_law_157 : decode cL_law 157 = .ok (.iload 8, 2) := by decide +kernel
theorem dL_law_159 : decode cL_law 159 = .ok (.ifCond .ne 110, 3) := by decide +kernel
theorem dL_law_162 : decode cL_law 162 = .ok (.aload_n 1, 1) := by decide +kernel
theorem dL_law_163 : decode cL_law 163 = .ok (.iload 9, 2) := by decide +kernel
theorem dL_law_165 : decode cL_law 165 = .ok (.invokevirtual 9, 3) := by decide +kernel
theorem dL_law_168 : decode cL_law 168 = .ok (.istore 14, 2) := by decide +kernel
theorem dL_law_170 : decode cL_law 170 = .ok (.iconst 1, 1) := by decide +kernel
theorem dL_law_171 : decode cL_law 171 = .ok (.iload 7, 2) := by decide +kernel
theorem dL_law_173 : decode cL_law 173 = .ok (.iconst 5, 1) := by decide +kernel
theorem dL_law_174 : decode cL_law 174 = .ok (.invokestatic 49, 3) := by decide +kernel
theorem dL_law_177 : decode cL_law 177 = .ok (.iadd, 1) := by decide +kernel
theorem dL_law_178 : decode cL_law 178 = .ok (.istore 15, 2) := by decide +kernel
theorem dL_law_180 : decode cL_law 180 = .ok (.iload 14, 2) := by decide +kernel
theorem dL_law_182 : decode cL_law 182 = .ok (.bipush 10, 2) := by decide +kernel
theorem dL_law_184 : decode cL_law 184 = .ok (.if_icmp .eq 13, 3) := by decide +kernel
theorem dL_law_187 : decode cL_law 187 = .ok (.iload 10, 2) := by decide +kernel
theorem dL_law_189 : decode cL_law 189 = .ok (.iload 15, 2) := by decide +kernel
theorem dL_law_191 : decode cL_law 191 = .ok (.iadd, 1) := by decide +kernel
theorem dL_law_192 : decode cL_law 192 = .ok (.bipush 60, 2) := by decide +kernel
theorem dL_law_194 : decode cL_law 194 = .ok (.if_icmp .le 7, 3) := by decide +kernel
theorem dL_law_197 : decode cL_law 197 = .ok (.iconst 1, 1) := by decide +kernel
theorem dL_law_198 : decode cL_law 198 = .ok (.goto 4, 3) := by decide +kernel
theorem dL_law_201 : decode cL_law 201 = .ok (.iconst 0, 1) := by decide +kernel
theorem dL_law_202 : decode cL_law 202 = .ok (.istore 16, 2) := by decide +kernel
theorem dL_law_204 : decode cL_law 204 = .ok (.aload_n 1, 1) := by decide +kernel
theorem dL_law_205 : decode cL_law 205 = .ok (.iload 9, 2) := by decide +kernel
theorem dL_law_207 : decode cL_law 207 = .ok (.iload 15, 2) := by decide +kernel
theorem dL_law_209 : decode cL_law 209 = .ok (.iconst 1, 1) := by decide +kernel
theorem dL_law_210 : decode cL_law 210 = .ok (.iload 7, 2) := by decide +kernel
theorem dL_law_212 : decode cL_law 212 = .ok (.iconst 4, 1) := by decide +kernel
theorem dL_law_213 : decode cL_law 213 = .ok (.ishr, 1) := by decide +kernel
theorem dL_law_214 : decode cL_law 214 = .ok (.sipush 200, 3) := by decide +kernel
theorem dL_law_217 : decode cL_law 217 = .ok (.invokestatic 49, 3) := by decide +kernel
theorem dL_law_220 : decode cL_law 220 = .ok (.iadd, 1) := by decide +kernel
theorem dL_law_221 : decode cL_law 221 = .ok (.invokevirtual 77, 3) := by decide +kernel
theorem dL_law_224 : decode cL_law 224 = .ok (.iload 16, 2) := by decide +kernel
theorem dL_law_226 : decode cL_law 226 = .ok (.ifCond .eq 8, 3) := by decide +kernel
theorem dL_law_229 : decode cL_law 229 = .ok (.bipush (-3), 2) := by decide +kernel
theorem dL_law_231 : decode cL_law 231 = .ok (.goto 7, 3) := by decide +kernel
theorem dL_law_234 : decode cL_law 234 = .ok (.iload 14, 2) := by decide +kernel
theorem dL_law_236 : decode cL_law 236 = .ok (.iconst 1, 1) := by decide +kernel
theorem dL_law_237 : decode cL_law 237 = .ok (.iadd, 1) := by decide +kernel
theorem dL_law_238 : decode cL_law 238 = .ok (.if_icmp .ne 26, 3) := by decide +kernel
theorem dL_law_241 : decode cL_law 241 = .ok (.aload_n 1, 1) := by decide +kernel
theorem dL_law_242 : decode cL_law 242 = .ok (.iconst 4, 1) := by decide +kernel
theorem dL_law_243 : decode cL_law 243 = .ok (.invokevirtual 9, 3) := by decide +kernel
theorem dL_law_246 : decode cL_law 246 = .ok (.iload 16, 2) := by decide +kernel
theorem dL_law_248 : decode cL_law 248 = .ok (.ifCond .eq 8, 3) := by decide +kernel
theorem dL_law_251 : decode cL_law 251 = .ok (.iload 12, 2) := by decide +kernel
theorem dL_law_253 : decode cL_law 253 = .ok (.goto 8, 3) := by decide +kernel
theorem dL_law_256 : decode cL_law 256 = .ok (.iload 12, 2) := by decide +kernel
theorem dL_law_258 : decode cL_law 258 = .ok (.iload 15, 2) := by decide +kernel
theorem dL_law_260 : decode cL_law 260 = .ok (.iadd, 1) := by decide +kernel
theorem dL_law_261 : decode cL_law 261 = .ok (.if_icmp .eq 5, 3) := by decide +kernel
theorem dL_law_264 : decode cL_law 264 = .ok (.iconst 0, 1) := by decide +kernel
theorem dL_law_265 : decode cL_law 265 = .ok (.ireturn, 1) := by decide +kernel
theorem dL_law_266 : decode cL_law 266 = .ok (.goto 534, 3) := by decide +kernel
theorem dL_law_269 : decode cL_law 269 = .ok (.iload 8, 2) := by decide +kernel
theorem dL_law_271 : decode cL_law 271 = .ok (.iconst 1, 1) := by decide +kernel
theorem dL_law_272 : decode cL_law 272 = .ok (.if_icmp .ne 126, 3) := by decide +kernel
theorem dL_law_275 : decode cL_law 275 = .ok (.iload 10, 2) := by decide +kernel
theorem dL_law_277 : decode cL_law 277 = .ok (.ifCond .le 121, 3) := by decide +kernel
theorem dL_law_280 : decode cL_law 280 = .ok (.aload_n 1, 1) := by decide +kernel
theorem dL_law_281 : decode cL_law 281 = .ok (.iload 9, 2) := by decide +kernel
theorem dL_law_283 : decode cL_law 283 = .ok (.iload 11, 2) := by decide +kernel
theorem dL_law_285 : decode cL_law 285 = .ok (.iconst 2, 1) := by decide +kernel
theorem dL_law_286 : decode cL_law 286 = .ok (.invokevirtual 19, 3) := by decide +kernel
theorem dL_law_289 : decode cL_law 289 = .ok (.istore 14, 2) := by decide +kernel
theorem dL_law_291 : decode cL_law 291 = .ok (.iconst 1, 1) := by decide +kernel
theorem dL_law_292 : decode cL_law 292 = .ok (.iload 6, 2) := by decide +kernel
theorem dL_law_294 : decode cL_law 294 = .ok (.iconst 1, 1) := by decide +kernel
theorem dL_law_295 : decode cL_law 295 = .ok (.ishr, 1) := by decide +kernel
theorem dL_law_296 : decode cL_law 296 = .ok (.sipush 600, 3) := by decide +kernel
theorem dL_law_299 : decode cL_law 299 = .ok (.invokestatic 49, 3) := by decide +kernel
theorem dL_law_302 : decode cL_law 302 = .ok (.iadd, 1) := by decide +kernel
theorem dL_law_303 : decode cL_law 303 = .ok (.istore 15, 2) := by decide +kernel
theorem dL_law_305 : decode cL_law 305 = .ok (.iload 7, 2) := by decide +kernel
theorem dL_law_307 : decode cL_law 307 = .ok (.bipush 8, 2) := by decide +kernel
theorem dL_law_309 : decode cL_law 309 = .ok (.ishr, 1) := by decide +kernel
theorem dL_law_310 : decode cL_law 310 = .ok (.bipush 11, 2) := by decide +kernel
theorem dL_law_312 : decode cL_law 312 = .ok (.invokestatic 49, 3) := by decide +kernel
theorem dL_law_315 : decode cL_law 315 = .ok (.istore 16, 2) := by decide +kernel
theorem dL_law_317 : decode cL_law 317 = .ok (.aload_n 1, 1) := by decide +kernel
theorem dL_law_318 : decode cL_law 318 = .ok (.iload 9, 2) := by decide +kernel
theorem dL_law_320 : decode cL_law 320 = .ok (.iload 11, 2) := by decide +kernel
theorem dL_law_322 : decode cL_law 322 = .ok (.iload 15, 2) := by decide +kernel
theorem dL_law_324 : decode cL_law 324 = .ok (.iload 16, 2) := by decide +kernel
theorem dL_law_326 : decode cL_law 326 = .ok (.invokevirtual 80, 3) := by decide +kernel
theorem dL_law_329 : decode cL_law 329 = .ok (.iload 14, 2) := by decide +kernel
theorem dL_law_331 : decode cL_law 331 = .ok (.if_icmp .ne 62, 3) := by decide +kernel
theorem dL_law_334 : decode cL_law 334 = .ok (.aload_n 1, 1) := by decide +kernel
theorem dL_law_335 : decode cL_law 335 = .ok (.iload 9, 2) := by decide +kernel
theorem dL_law_337 : decode cL_law 337 = .ok (.iload 11, 2) := by decide +kernel
theorem dL_law_339 : decode cL_law 339 = .ok (.iconst 2, 1) := by decide +kernel
theorem dL_law_340 : decode cL_law 340 = .ok (.invokevirtual 19, 3) := by decide +kernel
theorem dL_law_343 : decode cL_law 343 = .ok (.iload 15, 2) := by decide +kernel
theorem dL_law_345 : decode cL_law 345 = .ok (.if_icmp .ne 48, 3) := by decide +kernel
theorem dL_law_348 : decode cL_law 348 = .ok (.aload_n 1, 1) := by decide +kernel
theorem dL_law_349 : decode cL_law 349 = .ok (.iload 9, 2) := by decide +kernel
theorem dL_law_351 : decode cL_law 351 = .ok (.iload 11, 2) := by decide +kernel
theorem dL_law_353 : decode cL_law 353 = .ok (.iconst 3, 1) := by decide +kernel
theorem dL_law_354 : decode cL_law 354 = .ok (.invokevirtual 19, 3) := by decide +kernel
theorem dL_law_357 : decode cL_law 357 = .ok (.iload 16, 2) := by decide +kernel
theorem dL_law_359 : decode cL_law 359 = .ok (.if_icmp .ne 34, 3) := by decide +kernel
theorem dL_law_362 : decode cL_law 362 = .ok (.aload_n 1, 1) := by decide +kernel
theorem dL_law_363 : decode cL_law 363 = .ok (.iload 9, 2) := by decide +kernel
theorem dL_law_365 : decode cL_law 365 = .ok (.iload 11, 2) := by decide +kernel
theorem dL_law_367 : decode cL_law 367 = .ok (.iconst 0, 1) := by decide +kernel
theorem dL_law_368 : decode cL_law 368 = .ok (.iconst 0, 1) := by decide +kernel
theorem dL_law_369 : decode cL_law 369 = .ok (.invokevirtual 80, 3) := by decide +kernel
theorem dL_law_372 : decode cL_law 372 = .ok (.bipush (-2), 2) := by decide +kernel
theorem dL_law_374 : decode cL_law 374 = .ok (.if_icmp .ne 19, 3) := by decide +kernel
theorem dL_law_377 : decode cL_law 377 = .ok (.aload_n 1, 1) := by decide +kernel
theorem dL_law_378 : decode cL_law 378 = .ok (.iload 9, 2) := by decide +kernel
theorem dL_law_380 : decode cL_law 380 = .ok (.iload 11, 2) := by decide +kernel
theorem dL_law_382 : decode cL_law 382 = .ok (.iconst 1, 1) := by decide +kernel
theorem dL_law_383 : decode cL_law 383 = .ok (.bipush 11, 2) := by decide +kernel
theorem dL_law_385 : decode cL_law 385 = .ok (.invokevirtual 80, 3) := by decide +kernel
theorem dL_law_388 : decode cL_law 388 = .ok (.bipush (-2), 2) := by decide +kernel
theorem dL_law_390 : decode cL_law 390 = .ok (.if_icmp .eq 5, 3) := by decide +kernel
theorem dL_law_393 : decode cL_law 393 = .ok (.iconst 0, 1) := by decide +kernel
theorem dL_law_394 : decode cL_law 394 = .ok (.ireturn, 1) := by decide +kernel
theorem dL_law_395 : decode cL_law 395 = .ok (.goto 405, 3) := by decide +kernel
theorem dL_law_398 : decode cL_law 398 = .ok (.iload 8, 2) := by decide +kernel
theorem dL_law_400 : decode cL_law 400 = .ok (.iconst 2, 1) := by decide +kernel
theorem dL_law_401 : decode cL_law 401 = .ok (.if_icmp .ne 21, 3) := by decide +kernel
theorem dL_law_404 : decode cL_law 404 = .ok (.iload 10, 2) := by decide +kernel
theorem dL_law_406 : decode cL_law 406 = .ok (.ifCond .le 16, 3) := by decide +kernel
theorem dL_law_409 : decode cL_law 409 = .ok (.aload_n 1, 1) := by decide +kernel
theorem dL_law_410 : decode cL_law 410 = .ok (.iload 9, 2) := by decide +kernel
theorem dL_law_412 : decode cL_law 412 = .ok (.iload 11, 2) := by decide +kernel
theorem dL_law_414 : decode cL_law 414 = .ok (.invokestatic 95, 3) := by decide +kernel
theorem dL_law_417 : decode cL_law 417 = .ok (.ifCond .ne 383, 3) := by decide +kernel
theorem dL_law_420 : decode cL_law 420 = .ok (.iconst 0, 1) := by decide +kernel
theorem dL_law_421 : decode cL_law 421 = .ok (.ireturn, 1) := by decide +kernel
theorem dL_law_422 : decode cL_law 422 = .ok (.iload 8, 2) := by decide +kernel
theorem dL_law_424 : decode cL_law 424 = .ok (.iconst 3, 1) := by decide +kernel
theorem dL_law_425 : decode cL_law 425 = .ok (.if_icmp .ne 33, 3) := by decide +kernel
theorem dL_law_428 : decode cL_law 428 = .ok (.iload 10, 2) := by decide +kernel
theorem dL_law_430 : decode cL_law 430 = .ok (.ifCond .le 28, 3) := by decide +kernel
theorem dL_law_433 : decode cL_law 433 = .ok (.aload_n 1, 1) := by decide +kernel
theorem dL_law_434 : decode cL_law 434 = .ok (.iload 9, 2) := by decide +kernel
theorem dL_law_436 : decode cL_law 436 = .ok (.iload 11, 2) := by decide +kernel
theorem dL_law_438 : decode cL_law 438 = .ok (.iconst 1, 1) := by decide +kernel
theorem dL_law_439 : decode cL_law 439 = .ok (.iload 6, 2) := by decide +kernel
theorem dL_law_441 : decode cL_law 441 = .ok (.iconst 1, 1) := by decide +kernel
theorem dL_law_442 : decode cL_law 442 = .ok (.ishr, 1) := by decide +kernel
theorem dL_law_443 : decode cL_law 443 = .ok (.sipush 250, 3) := by decide +kernel
theorem dL_law_446 : decode cL_law 446 = .ok (.invokestatic 49, 3) := by decide +kernel
theorem dL_law_449 : decode cL_law 449 = .ok (.iadd, 1) := by decide +kernel
theorem dL_law_450 : decode cL_law 450 = .ok (.invokestatic 99, 3) := by decide +kernel
theorem dL_law_453 : decode cL_law 453 = .ok (.ifCond .ne 347, 3) := by decide +kernel
theorem dL_law_456 : decode cL_law 456 = .ok (.iconst 0, 1) := by decide +kernel
theorem dL_law_457 : decode cL_law 457 = .ok (.ireturn, 1) := by decide +kernel
theorem dL_law_458 : decode cL_law 458 = .ok (.iload 8, 2) := by decide +kernel
theorem dL_law_460 : decode cL_law 460 = .ok (.bipush 7, 2) := by decide +kernel
theorem dL_law_462 : decode cL_law 462 = .ok (.if_icmp .ge 69, 3) := by decide +kernel
theorem dL_law_465 : decode cL_law 465 = .ok (.iload 12, 2) := by decide +kernel
theorem dL_law_467 : decode cL_law 467 = .ok (.iconst 1, 1) := by decide +kernel
theorem dL_law_468 : decode cL_law 468 = .ok (.if_icmp .le 63, 3) := by decide +kernel
theorem dL_law_471 : decode cL_law 471 = .ok (.iload 7, 2) := by decide +kernel
theorem dL_law_473 : decode cL_law 473 = .ok (.iload 12, 2) := by decide +kernel
theorem dL_law_475 : decode cL_law 475 = .ok (.iconst 1, 1) := by decide +kernel
theorem dL_law_476 : decode cL_law 476 = .ok (.isub, 1) := by decide +kernel
theorem dL_law_477 : decode cL_law 477 = .ok (.invokestatic 49, 3) := by decide +kernel
theorem dL_law_480 : decode cL_law 480 = .ok (.istore 14, 2) := by decide +kernel
theorem dL_law_482 : decode cL_law 482 = .ok (.aload_n 1, 1) := by decide +kernel
theorem dL_law_483 : decode cL_law 483 = .ok (.iload 14, 2) := by decide +kernel
theorem dL_law_485 : decode cL_law 485 = .ok (.iconst 2, 1) := by decide +kernel
theorem dL_law_486 : decode cL_law 486 = .ok (.invokevirtual 22, 3) := by decide +kernel
theorem dL_law_489 : decode cL_law 489 = .ok (.aload_n 1, 1) := by decide +kernel
theorem dL_law_490 : decode cL_law 490 = .ok (.iload 14, 2) := by decide +kernel
theorem dL_law_492 : decode cL_law 492 = .ok (.iconst 1, 1) := by decide +kernel
theorem dL_law_493 : decode cL_law 493 = .ok (.iadd, 1) := by decide +kernel
theorem dL_law_494 : decode cL_law 494 = .ok (.iconst 2, 1) := by decide +kernel
theorem dL_law_495 : decode cL_law 495 = .ok (.invokevirtual 22, 3) := by decide +kernel
theorem dL_law_498 : decode cL_law 498 = .ok (.iadd, 1) := by decide +kernel
theorem dL_law_499 : decode cL_law 499 = .ok (.istore 15, 2) := by decide +kernel
theorem dL_law_501 : decode cL_law 501 = .ok (.aload_n 1, 1) := by decide +kernel
theorem dL_law_502 : decode cL_law 502 = .ok (.iload 14, 2) := by decide +kernel
theorem dL_law_504 : decode cL_law 504 = .ok (.invokevirtual 71, 3) := by decide +kernel
theorem dL_law_507 : decode cL_law 507 = .ok (.iload 12, 2) := by decide +kernel
theorem dL_law_509 : decode cL_law 509 = .ok (.iconst 1, 1) := by decide +kernel
theorem dL_law_510 : decode cL_law 510 = .ok (.isub, 1) := by decide +kernel
theorem dL_law_511 : decode cL_law 511 = .ok (.if_icmp .ne 15, 3) := by decide +kernel
theorem dL_law_514 : decode cL_law 514 = .ok (.aload_n 1, 1) := by decide +kernel
theorem dL_law_515 : decode cL_law 515 = .ok (.iload 14, 2) := by decide +kernel
theorem dL_law_517 : decode cL_law 517 = .ok (.iconst 2, 1) := by decide +kernel
theorem dL_law_518 : decode cL_law 518 = .ok (.invokevirtual 22, 3) := by decide +kernel
theorem dL_law_521 : decode cL_law 521 = .ok (.iload 15, 2) := by decide +kernel
theorem dL_law_523 : decode cL_law 523 = .ok (.if_icmp .eq 5, 3) := by decide +kernel
theorem dL_law_526 : decode cL_law 526 = .ok (.iconst 0, 1) := by decide +kernel
theorem dL_law_527 : decode cL_law 527 = .ok (.ireturn, 1) := by decide +kernel
theorem dL_law_528 : decode cL_law 528 = .ok (.goto 272, 3) := by decide +kernel
theorem dL_law_531 : decode cL_law 531 = .ok (.iload 8, 2) := by decide +kernel
theorem dL_law_533 : decode cL_law 533 = .ok (.bipush 7, 2) := by decide +kernel
theorem dL_law_535 : decode cL_law 535 = .ok (.if_icmp .ne 33, 3) := by decide +kernel
theorem dL_law_538 : decode cL_law 538 = .ok (.iload 12, 2) := by decide +kernel
theorem dL_law_540 : decode cL_law 540 = .ok (.ifCond .le 28, 3) := by decide +kernel
theorem dL_law_543 : decode cL_law 543 = .ok (.aload_n 1, 1) := by decide +kernel
theorem dL_law_544 : decode cL_law 544 = .ok (.iload 13, 2) := by decide +kernel
theorem dL_law_546 : decode cL_law 546 = .ok (.iload 6, 2) := by decide +kernel
theorem dL_law_548 : decode cL_law 548 = .ok (.iconst 1, 1) := by decide +kernel
theorem dL_law_549 : decode cL_law 549 = .ok (.ishr, 1) := by decide +kernel
theorem dL_law_550 : decode cL_law 550 = .ok (.iconst 4, 1) := by decide +kernel
theorem dL_law_551 : decode cL_law 551 = .ok (.invokestatic 49, 3) := by decide +kernel
theorem dL_law_554 : decode cL_law 554 = .ok (.iload 7, 2) := by decide +kernel
theorem dL_law_556 : decode cL_law 556 = .ok (.iconst 4, 1) := by decide +kernel
theorem dL_law_557 : decode cL_law 557 = .ok (.invokestatic 49, 3) := by decide +kernel
theorem dL_law_560 : decode cL_law 560 = .ok (.invokestatic 103, 3) := by decide +kernel
theorem dL_law_563 : decode cL_law 563 = .ok (.ifCond .ne 237, 3) := by decide +kernel
theorem dL_law_566 : decode cL_law 566 = .ok (.iconst 0, 1) := by decide +kernel
theorem dL_law_567 : decode cL_law 567 = .ok (.ireturn, 1) := by decide +kernel
theorem dL_law_568 : decode cL_law 568 = .ok (.iload 8, 2) := by decide +kernel
theorem dL_law_570 : decode cL_law 570 = .ok (.bipush 8, 2) := by decide +kernel
theorem dL_law_572 : decode cL_law 572 = .ok (.if_icmp .ne 43, 3) := by decide +kernel
theorem dL_law_575 : decode cL_law 575 = .ok (.aload_n 2, 1) := by decide +kernel
theorem dL_law_576 : decode cL_law 576 = .ok (.iload 9, 2) := by decide +kernel
theorem dL_law_578 : decode cL_law 578 = .ok (.iaload, 1) := by decide +kernel
theorem dL_law_579 : decode cL_law 579 = .ok (.istore 14, 2) := by decide +kernel
theorem dL_law_581 : decode cL_law 581 = .ok (.aload_n 2, 1) := by decide +kernel
theorem dL_law_582 : decode cL_law 582 = .ok (.iload 9, 2) := by decide +kernel
theorem dL_law_584 : decode cL_law 584 = .ok (.bipush 10, 2) := by decide +kernel
theorem dL_law_586 : decode cL_law 586 = .ok (.iload 7, 2) := by decide +kernel
theorem dL_law_588 : decode cL_law 588 = .ok (.bipush 60, 2) := by decide +kernel
theorem dL_law_590 : decode cL_law 590 = .ok (.invokestatic 49, 3) := by decide +kernel
theorem dL_law_593 : decode cL_law 593 = .ok (.iadd, 1) := by decide +kernel
theorem dL_law_594 : decode cL_law 594 = .ok (.iastore, 1) := by decide +kernel
theorem dL_law_595 : decode cL_law 595 = .ok (.aload_n 1, 1) := by decide +kernel
theorem dL_law_596 : decode cL_law 596 = .ok (.iload 9, 2) := by decide +kernel
theorem dL_law_598 : decode cL_law 598 = .ok (.aload_n 2, 1) := by decide +kernel
theorem dL_law_599 : decode cL_law 599 = .ok (.iload 9, 2) := by decide +kernel
theorem dL_law_601 : decode cL_law 601 = .ok (.iaload, 1) := by decide +kernel
theorem dL_law_602 : decode cL_law 602 = .ok (.invokevirtual 84, 3) := by decide +kernel
theorem dL_law_605 : decode cL_law 605 = .ok (.iload 14, 2) := by decide +kernel
theorem dL_law_607 : decode cL_law 607 = .ok (.if_icmp .eq 5, 3) := by decide +kernel
theorem dL_law_610 : decode cL_law 610 = .ok (.iconst 0, 1) := by decide +kernel
theorem dL_law_611 : decode cL_law 611 = .ok (.ireturn, 1) := by decide +kernel
theorem dL_law_612 : decode cL_law 612 = .ok (.goto 188, 3) := by decide +kernel
theorem dL_law_615 : decode cL_law 615 = .ok (.iload 8, 2) := by decide +kernel
theorem dL_law_617 : decode cL_law 617 = .ok (.bipush 9, 2) := by decide +kernel
theorem dL_law_619 : decode cL_law 619 = .ok (.if_icmp .ne 42, 3) := by decide +kernel
theorem dL_law_622 : decode cL_law 622 = .ok (.iload_n 3, 1) := by decide +kernel
theorem dL_law_623 : decode cL_law 623 = .ok (.istore 14, 2) := by decide +kernel
theorem dL_law_625 : decode cL_law 625 = .ok (.iconst 5, 1) := by decide +kernel
theorem dL_law_626 : decode cL_law 626 = .ok (.iload 7, 2) := by decide +kernel
theorem dL_law_628 : decode cL_law 628 = .ok (.bipush 60, 2) := by decide +kernel
theorem dL_law_630 : decode cL_law 630 = .ok (.invokestatic 49, 3) := by decide +kernel
theorem dL_law_633 : decode cL_law 633 = .ok (.iadd, 1) := by decide +kernel
theorem dL_law_634 : decode cL_law 634 = .ok (.istore_n 3, 1) := by decide +kernel
theorem dL_law_635 : decode cL_law 635 = .ok (.iload 6, 2) := by decide +kernel
theorem dL_law_637 : decode cL_law 637 = .ok (.bipush 6, 2) := by decide +kernel
theorem dL_law_639 : decode cL_law 639 = .ok (.invokestatic 49, 3) := by decide +kernel
theorem dL_law_642 : decode cL_law 642 = .ok (.istore 4, 2) := by decide +kernel
theorem dL_law_644 : decode cL_law 644 = .ok (.aload_n 1, 1) := by decide +kernel
theorem dL_law_645 : decode cL_law 645 = .ok (.iload_n 3, 1) := by decide +kernel
theorem dL_law_646 : decode cL_law 646 = .ok (.iload 4, 2) := by decide +kernel
theorem dL_law_648 : decode cL_law 648 = .ok (.invokevirtual 87, 3) := by decide +kernel
theorem dL_law_651 : decode cL_law 651 = .ok (.iload 14, 2) := by decide +kernel
theorem dL_law_653 : decode cL_law 653 = .ok (.if_icmp .eq 5, 3) := by decide +kernel
theorem dL_law_656 : decode cL_law 656 = .ok (.iconst 0, 1) := by decide +kernel
theorem dL_law_657 : decode cL_law 657 = .ok (.ireturn, 1) := by decide +kernel
theorem dL_law_658 : decode cL_law 658 = .ok (.goto 142, 3) := by decide +kernel
theorem dL_law_661 : decode cL_law 661 = .ok (.iload 8, 2) := by decide +kernel
theorem dL_law_663 : decode cL_law 663 = .ok (.bipush 10, 2) := by decide +kernel
theorem dL_law_665 : decode cL_law 665 = .ok (.if_icmp .ne 102, 3) := by decide +kernel
theorem dL_law_668 : decode cL_law 668 = .ok (.aload_n 1, 1) := by decide +kernel
theorem dL_law_669 : decode cL_law 669 = .ok (.iconst 2, 1) := by decide +kernel
theorem dL_law_670 : decode cL_law 670 = .ok (.invokevirtual 9, 3) := by decide +kernel
theorem dL_law_673 : decode cL_law 673 = .ok (.aload_n 1, 1) := by decide +kernel
theorem dL_law_674 : decode cL_law 674 = .ok (.iconst 3, 1) := by decide +kernel
theorem dL_law_675 : decode cL_law 675 = .ok (.invokevirtual 9, 3) := by decide +kernel
theorem dL_law_678 : decode cL_law 678 = .ok (.if_icmp .ge 11, 3) := by decide +kernel
theorem dL_law_681 : decode cL_law 681 = .ok (.aload_n 1, 1) := by decide +kernel
theorem dL_law_682 : decode cL_law 682 = .ok (.iconst 2, 1) := by decide +kernel
theorem dL_law_683 : decode cL_law 683 = .ok (.invokevirtual 9, 3) := by decide +kernel
theorem dL_law_686 : decode cL_law 686 = .ok (.goto 8, 3) := by decide +kernel
theorem dL_law_689 : decode cL_law 689 = .ok (.aload_n 1, 1) := by decide +kernel
theorem dL_law_690 : decode cL_law 690 = .ok (.iconst 3, 1) := by decide +kernel
theorem dL_law_691 : decode cL_law 691 = .ok (.invokevirtual 9, 3) := by decide +kernel
theorem dL_law_694 : decode cL_law 694 = .ok (.istore 14, 2) := by decide +kernel
theorem dL_law_696 : decode cL_law 696 = .ok (.aload_n 1, 1) := by decide +kernel
theorem dL_law_697 : decode cL_law 697 = .ok (.iconst 2, 1) := by decide +kernel
theorem dL_law_698 : decode cL_law 698 = .ok (.invokevirtual 9, 3) := by decide +kernel
theorem dL_law_701 : decode cL_law 701 = .ok (.aload_n 1, 1) := by decide +kernel
theorem dL_law_702 : decode cL_law 702 = .ok (.iconst 3, 1) := by decide +kernel
theorem dL_law_703 : decode cL_law 703 = .ok (.invokevirtual 9, 3) := by decide +kernel
theorem dL_law_706 : decode cL_law 706 = .ok (.iadd, 1) := by decide +kernel
theorem dL_law_707 : decode cL_law 707 = .ok (.iconst 2, 1) := by decide +kernel
theorem dL_law_708 : decode cL_law 708 = .ok (.iload 14, 2) := by decide +kernel
theorem dL_law_710 : decode cL_law 710 = .ok (.imul, 1) := by decide +kernel
theorem dL_law_711 : decode cL_law 711 = .ok (.isub, 1) := by decide +kernel
theorem dL_law_712 : decode cL_law 712 = .ok (.istore 15, 2) := by decide +kernel
theorem dL_law_714 : decode cL_law 714 = .ok (.iload 7, 2) := by decide +kernel
theorem dL_law_716 : decode cL_law 716 = .ok (.iconst 1, 1) := by decide +kernel
theorem dL_law_717 : decode cL_law 717 = .ok (.iand, 1) := by decide +kernel
theorem dL_law_718 : decode cL_law 718 = .ok (.ifCond .ne 13, 3) := by decide +kernel
theorem dL_law_721 : decode cL_law 721 = .ok (.aload_n 1, 1) := by decide +kernel
theorem dL_law_722 : decode cL_law 722 = .ok (.invokestatic 106, 3) := by decide +kernel
theorem dL_law_725 : decode cL_law 725 = .ok (.ifCond .ne 39, 3) := by decide +kernel
theorem dL_law_728 : decode cL_law 728 = .ok (.goto 34, 3) := by decide +kernel
theorem dL_law_731 : decode cL_law 731 = .ok (.aload_n 1, 1) := by decide +kernel
theorem dL_law_732 : decode cL_law 732 = .ok (.invokevirtual 110, 3) := by decide +kernel
theorem dL_law_735 : decode cL_law 735 = .ok (.iload 14, 2) := by decide +kernel
theorem dL_law_737 : decode cL_law 737 = .ok (.iload 15, 2) := by decide +kernel
theorem dL_law_739 : decode cL_law 739 = .ok (.iadd, 1) := by decide +kernel
theorem dL_law_740 : decode cL_law 740 = .ok (.if_icmp .ne 22, 3) := by decide +kernel
theorem dL_law_743 : decode cL_law 743 = .ok (.aload_n 1, 1) := by decide +kernel
theorem dL_law_744 : decode cL_law 744 = .ok (.iconst 5, 1) := by decide +kernel
theorem dL_law_745 : decode cL_law 745 = .ok (.invokevirtual 9, 3) := by decide +kernel
theorem dL_law_748 : decode cL_law 748 = .ok (.iload 14, 2) := by decide +kernel
theorem dL_law_750 : decode cL_law 750 = .ok (.if_icmp .ne 12, 3) := by decide +kernel
theorem dL_law_753 : decode cL_law 753 = .ok (.aload_n 1, 1) := by decide +kernel
theorem dL_law_754 : decode cL_law 754 = .ok (.bipush 8, 2) := by decide +kernel
theorem dL_law_756 : decode cL_law 756 = .ok (.invokevirtual 9, 3) := by decide +kernel
theorem dL_law_759 : decode cL_law 759 = .ok (.ifCond .eq 5, 3) := by decide +kernel
theorem dL_law_762 : decode cL_law 762 = .ok (.iconst 0, 1) := by decide +kernel
theorem dL_law_763 : decode cL_law 763 = .ok (.ireturn, 1) := by decide +kernel
theorem dL_law_764 : decode cL_law 764 = .ok (.goto 36, 3) := by decide +kernel
theorem dL_law_767 : decode cL_law 767 = .ok (.iload 8, 2) := by decide +kernel
theorem dL_law_769 : decode cL_law 769 = .ok (.bipush 11, 2) := by decide +kernel
theorem dL_law_771 : decode cL_law 771 = .ok (.if_icmp .ne 20, 3) := by decide +kernel
theorem dL_law_774 : decode cL_law 774 = .ok (.aload_n 1, 1) := by decide +kernel
theorem dL_law_775 : decode cL_law 775 = .ok (.iload 9, 2) := by decide +kernel
theorem dL_law_777 : decode cL_law 777 = .ok (.iload 6, 2) := by decide +kernel
theorem dL_law_779 : decode cL_law 779 = .ok (.iconst 1, 1) := by decide +kernel
theorem dL_law_780 : decode cL_law 780 = .ok (.ishr, 1) := by decide +kernel
theorem dL_law_781 : decode cL_law 781 = .ok (.iload 7, 2) := by decide +kernel
theorem dL_law_783 : decode cL_law 783 = .ok (.invokestatic 113, 3) := by decide +kernel
theorem dL_law_786 : decode cL_law 786 = .ok (.ifCond .ne 14, 3) := by decide +kernel
theorem dL_law_789 : decode cL_law 789 = .ok (.iconst 0, 1) := by decide +kernel
theorem dL_law_790 : decode cL_law 790 = .ok (.ireturn, 1) := by decide +kernel
theorem dL_law_791 : decode cL_law 791 = .ok (.aload_n 1, 1) := by decide +kernel
theorem dL_law_792 : decode cL_law 792 = .ok (.invokestatic 116, 3) := by decide +kernel
theorem dL_law_795 : decode cL_law 795 = .ok (.ifCond .ne 5, 3) := by decide +kernel
theorem dL_law_798 : decode cL_law 798 = .ok (.iconst 0, 1) := by decide +kernel
theorem dL_law_799 : decode cL_law 799 = .ok (.ireturn, 1) := by decide +kernel
theorem dL_law_800 : decode cL_law 800 = .ok (.aload_n 1, 1) := by decide +kernel
theorem dL_law_801 : decode cL_law 801 = .ok (.aload_n 2, 1) := by decide +kernel
theorem dL_law_802 : decode cL_law 802 = .ok (.invokestatic 119, 3) := by decide +kernel
theorem dL_law_805 : decode cL_law 805 = .ok (.ifCond .eq 20, 3) := by decide +kernel
theorem dL_law_808 : decode cL_law 808 = .ok (.aload_n 1, 1) := by decide +kernel
theorem dL_law_809 : decode cL_law 809 = .ok (.iload 4, 2) := by decide +kernel
theorem dL_law_811 : decode cL_law 811 = .ok (.invokestatic 123, 3) := by decide +kernel
theorem dL_law_814 : decode cL_law 814 = .ok (.ifCond .eq 11, 3) := by decide +kernel
theorem dL_law_817 : decode cL_law 817 = .ok (.aload_n 1, 1) := by decide +kernel
theorem dL_law_818 : decode cL_law 818 = .ok (.iload_n 3, 1) := by decide +kernel
theorem dL_law_819 : decode cL_law 819 = .ok (.invokestatic 127, 3) := by decide +kernel
theorem dL_law_822 : decode cL_law 822 = .ok (.ifCond .ne 5, 3) := by decide +kernel
theorem dL_law_825 : decode cL_law 825 = .ok (.iconst 0, 1) := by decide +kernel
theorem dL_law_826 : decode cL_law 826 = .ok (.ireturn, 1) := by decide +kernel
theorem dL_law_827 : decode cL_law 827 = .ok (.iinc 5 1, 3) := by decide +kernel
theorem dL_law_830 : decode cL_law 830 = .ok (.goto (-788), 3) := by decide +kernel
theorem dL_law_833 : decode cL_law 833 = .ok (.aload_n 1, 1) := by decide +kernel
theorem dL_law_834 : decode cL_law 834 = .ok (.invokestatic 130, 3) := by decide +kernel
theorem dL_law_837 : decode cL_law 837 = .ok (.ireturn, 1) := by decide +kernel
