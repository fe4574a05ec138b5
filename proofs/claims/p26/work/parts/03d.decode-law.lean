theorem dL_law_0 : decode cL_law 0 = .ok (.new 24, 3) := by decide +kernel
theorem dL_law_3 : decode cL_law 3 = .ok (.dup, 1) := by decide +kernel
theorem dL_law_4 : decode cL_law 4 = .ok (.invokespecial 69, 3) := by decide +kernel
theorem dL_law_7 : decode cL_law 7 = .ok (.astore_n 1, 1) := by decide +kernel
theorem dL_law_8 : decode cL_law 8 = .ok (.iconst 5, 1) := by decide +kernel
theorem dL_law_9 : decode cL_law 9 = .ok (.newarray .int, 2) := by decide +kernel
theorem dL_law_11 : decode cL_law 11 = .ok (.astore_n 2, 1) := by decide +kernel
theorem dL_law_12 : decode cL_law 12 = .ok (.bipush 40, 2) := by decide +kernel
theorem dL_law_14 : decode cL_law 14 = .ok (.newarray .int, 2) := by decide +kernel
theorem dL_law_16 : decode cL_law 16 = .ok (.astore_n 3, 1) := by decide +kernel
theorem dL_law_17 : decode cL_law 17 = .ok (.bipush 40, 2) := by decide +kernel
theorem dL_law_19 : decode cL_law 19 = .ok (.newarray .int, 2) := by decide +kernel
theorem dL_law_21 : decode cL_law 21 = .ok (.astore 4, 2) := by decide +kernel
theorem dL_law_23 : decode cL_law 23 = .ok (.bipush 36, 2) := by decide +kernel
theorem dL_law_25 : decode cL_law 25 = .ok (.newarray .int, 2) := by decide +kernel
theorem dL_law_27 : decode cL_law 27 = .ok (.astore 5, 2) := by decide +kernel
theorem dL_law_29 : decode cL_law 29 = .ok (.bipush 30, 2) := by decide +kernel
theorem dL_law_31 : decode cL_law 31 = .ok (.newarray .int, 2) := by decide +kernel
theorem dL_law_33 : decode cL_law 33 = .ok (.astore 6, 2) := by decide +kernel
theorem dL_law_35 : decode cL_law 35 = .ok (.iconst 2, 1) := by decide +kernel
theorem dL_law_36 : decode cL_law 36 = .ok (.newarray .int, 2) := by decide +kernel
theorem dL_law_38 : decode cL_law 38 = .ok (.astore 7, 2) := by decide +kernel
theorem dL_law_40 : decode cL_law 40 = .ok (.bipush 60, 2) := by decide +kernel
theorem dL_law_42 : decode cL_law 42 = .ok (.newarray .int, 2) := by decide +kernel
theorem dL_law_44 : decode cL_law 44 = .ok (.astore 8, 2) := by decide +kernel
theorem dL_law_46 : decode cL_law 46 = .ok (.iconst 5, 1) := by decide +kernel
theorem dL_law_47 : decode cL_law 47 = .ok (.newarray .int, 2) := by decide +kernel
theorem dL_law_49 : decode cL_law 49 = .ok (.astore 9, 2) := by decide +kernel
theorem dL_law_51 : decode cL_law 51 = .ok (.bipush 40, 2) := by decide +kernel
theorem dL_law_53 : decode cL_law 53 = .ok (.newarray .int, 2) := by decide +kernel
theorem dL_law_55 : decode cL_law 55 = .ok (.astore 10, 2) := by decide +kernel
theorem dL_law_57 : decode cL_law 57 = .ok (.bipush 40, 2) := by decide +kernel
theorem dL_law_59 : decode cL_law 59 = .ok (.newarray .int, 2) := by decide +kernel
theorem dL_law_61 : decode cL_law 61 = .ok (.astore 11, 2) := by decide +kernel
theorem dL_law_63 : decode cL_law 63 = .ok (.bipush 36, 2) := by decide +kernel
theorem dL_law_65 : decode cL_law 65 = .ok (.newarray .int, 2) := by decide +kernel
theorem dL_law_67 : decode cL_law 67 = .ok (.astore 12, 2) := by decide +kernel
theorem dL_law_69 : decode cL_law 69 = .ok (.bipush 30, 2) := by decide +kernel
theorem dL_law_71 : decode cL_law 71 = .ok (.newarray .int, 2) := by decide +kernel
theorem dL_law_73 : decode cL_law 73 = .ok (.astore 13, 2) := by decide +kernel
theorem dL_law_75 : decode cL_law 75 = .ok (.aload_n 2, 1) := by decide +kernel
theorem dL_law_76 : decode cL_law 76 = .ok (.iconst 0, 1) := by decide +kernel
theorem dL_law_77 : decode cL_law 77 = .ok (.bipush 80, 2) := by decide +kernel
theorem dL_law_79 : decode cL_law 79 = .ok (.iastore, 1) := by decide +kernel
theorem dL_law_80 : decode cL_law 80 = .ok (.aload_n 2, 1) := by decide +kernel
theorem dL_law_81 : decode cL_law 81 = .ok (.iconst 1, 1) := by decide +kernel
theorem dL_law_82 : decode cL_law 82 = .ok (.iconst 2, 1) := by decide +kernel
theorem dL_law_83 : decode cL_law 83 = .ok (.iastore, 1) := by decide +kernel
theorem dL_law_84 : decode cL_law 84 = .ok (.aload_n 2, 1) := by decide +kernel
theorem dL_law_85 : decode cL_law 85 = .ok (.iconst 2, 1) := by decide +kernel
theorem dL_law_86 : decode cL_law 86 = .ok (.sipush 500, 3) := by decide +kernel
theorem dL_law_89 : decode cL_law 89 = .ok (.iastore, 1) := by decide +kernel
theorem dL_law_90 : decode cL_law 90 = .ok (.aload 7, 2) := by decide +kernel
theorem dL_law_92 : decode cL_law 92 = .ok (.iconst 0, 1) := by decide +kernel
theorem dL_law_93 : decode cL_law 93 = .ok (.iconst (-1), 1) := by decide +kernel
theorem dL_law_94 : decode cL_law 94 = .ok (.iastore, 1) := by decide +kernel
theorem dL_law_95 : decode cL_law 95 = .ok (.iconst 0, 1) := by decide +kernel
theorem dL_law_96 : decode cL_law 96 = .ok (.istore 14, 2) := by decide +kernel
theorem dL_law_98 : decode cL_law 98 = .ok (.iload 14, 2) := by decide +kernel
theorem dL_law_100 : decode cL_law 100 = .ok (.bipush 24, 2) := by decide +kernel
theorem dL_law_102 : decode cL_law 102 = .ok (.if_icmp .ge 879, 3) := by decide +kernel
theorem dL_law_105 : decode cL_law 105 = .ok (.aload_n 0, 1) := by decide +kernel
theorem dL_law_106 : decode cL_law 106 = .ok (.iconst 2, 1) := by decide +kernel
theorem dL_law_107 : decode cL_law 107 = .ok (.iload 14, 2) := by decide +kernel
theorem dL_law_109 : decode cL_law 109 = .ok (.imul, 1) := by decide +kernel
theorem dL_law_110 : decode cL_law 110 = .ok (.invokestatic 70, 3) := by decide +kernel
theorem dL_law_113 : decode cL_law 113 = .ok (.istore 15, 2) := by decide +kernel
theorem dL_law_115 : decode cL_law 115 = .ok (.aload_n 0, 1) := by decide +kernel
theorem dL_law_116 : decode cL_law 116 = .ok (.iconst 2, 1) := by decide +kernel
theorem dL_law_117 : decode cL_law 117 = .ok (.iload 14, 2) := by decide +kernel
theorem dL_law_119 : decode cL_law 119 = .ok (.imul, 1) := by decide +kernel
theorem dL_law_120 : decode cL_law 120 = .ok (.iconst 1, 1) := by decide +kernel
theorem dL_law_121 : decode cL_law 121 = .ok (.iadd, 1) := by decide +kernel
theorem dL_law_122 : decode cL_law 122 = .ok (.invokestatic 70, 3) := by decide +kernel
theorem dL_law_125 : decode cL_law 125 = .ok (.istore 16, 2) := by decide +kernel
theorem dL_law_127 : decode cL_law 127 = .ok (.iload 14, 2) := by decide +kernel
theorem dL_law_129 : decode cL_law 129 = .ok (.iconst 2, 1) := by decide +kernel
theorem dL_law_130 : decode cL_law 130 = .ok (.if_icmp .ge 7, 3) := by decide +kernel
theorem dL_law_133 : decode cL_law 133 = .ok (.iconst 0, 1) := by decide +kernel
theorem dL_law_134 : decode cL_law 134 = .ok (.goto 10, 3) := by decide +kernel
theorem dL_law_137 : decode cL_law 137 = .ok (.iload 15, 2) := by decide +kernel
theorem dL_law_139 : decode cL_law 139 = .ok (.bipush 12, 2) := by decide +kernel
theorem dL_law_141 : decode cL_law 141 = .ok (.invokestatic 47, 3) := by decide +kernel
theorem dL_law_144 : decode cL_law 144 = .ok (.istore 17, 2) := by decide +kernel
theorem dL_law_146 : decode cL_law 146 = .ok (.iload 15, 2) := by decide +kernel
theorem dL_law_148 : decode cL_law 148 = .ok (.iconst 4, 1) := by decide +kernel
theorem dL_law_149 : decode cL_law 149 = .ok (.ishr, 1) := by decide +kernel
theorem dL_law_150 : decode cL_law 150 = .ok (.iload 15, 2) := by decide +kernel
theorem dL_law_152 : decode cL_law 152 = .ok (.bipush 10, 2) := by decide +kernel
theorem dL_law_154 : decode cL_law 154 = .ok (.ishr, 1) := by decide +kernel
theorem dL_law_155 : decode cL_law 155 = .ok (.iconst 2, 1) := by decide +kernel
theorem dL_law_156 : decode cL_law 156 = .ok (.invokestatic 47, 3) := by decide +kernel
theorem dL_law_159 : decode cL_law 159 = .ok (.ifCond .ne 8, 3) := by decide +kernel
theorem dL_law_162 : decode cL_law 162 = .ok (.bipush 36, 2) := by decide +kernel
theorem dL_law_164 : decode cL_law 164 = .ok (.goto 4, 3) := by decide +kernel
theorem dL_law_167 : decode cL_law 167 = .ok (.iconst 5, 1) := by decide +kernel
theorem dL_law_168 : decode cL_law 168 = .ok (.invokestatic 47, 3) := by decide +kernel
theorem dL_law_171 : decode cL_law 171 = .ok (.istore 18, 2) := by decide +kernel
theorem dL_law_173 : decode cL_law 173 = .ok (.iload 17, 2) := by decide +kernel
theorem dL_law_175 : decode cL_law 175 = .ok (.iconst 3, 1) := by decide +kernel
theorem dL_law_176 : decode cL_law 176 = .ok (.if_icmp .ge 282, 3) := by decide +kernel
theorem dL_law_179 : decode cL_law 179 = .ok (.iload 16, 2) := by decide +kernel
theorem dL_law_181 : decode cL_law 181 = .ok (.iconst 4, 1) := by decide +kernel
theorem dL_law_182 : decode cL_law 182 = .ok (.invokestatic 47, 3) := by decide +kernel
theorem dL_law_185 : decode cL_law 185 = .ok (.istore 19, 2) := by decide +kernel
theorem dL_law_187 : decode cL_law 187 = .ok (.iload 16, 2) := by decide +kernel
theorem dL_law_189 : decode cL_law 189 = .ok (.iconst 2, 1) := by decide +kernel
theorem dL_law_190 : decode cL_law 190 = .ok (.ishr, 1) := by decide +kernel
theorem dL_law_191 : decode cL_law 191 = .ok (.sipush 1999, 3) := by decide +kernel
theorem dL_law_194 : decode cL_law 194 = .ok (.invokestatic 47, 3) := by decide +kernel
theorem dL_law_197 : decode cL_law 197 = .ok (.sipush 999, 3) := by decide +kernel
theorem dL_law_200 : decode cL_law 200 = .ok (.isub, 1) := by decide +kernel
theorem dL_law_201 : decode cL_law 201 = .ok (.istore 20, 2) := by decide +kernel
theorem dL_law_203 : decode cL_law 203 = .ok (.iconst 1, 1) := by decide +kernel
theorem dL_law_204 : decode cL_law 204 = .ok (.iload 16, 2) := by decide +kernel
theorem dL_law_206 : decode cL_law 206 = .ok (.bipush 7, 2) := by decide +kernel
theorem dL_law_208 : decode cL_law 208 = .ok (.ishr, 1) := by decide +kernel
theorem dL_law_209 : decode cL_law 209 = .ok (.bipush 60, 2) := by decide +kernel
theorem dL_law_211 : decode cL_law 211 = .ok (.invokestatic 47, 3) := by decide +kernel
theorem dL_law_214 : decode cL_law 214 = .ok (.iadd, 1) := by decide +kernel
theorem dL_law_215 : decode cL_law 215 = .ok (.istore 21, 2) := by decide +kernel
theorem dL_law_217 : decode cL_law 217 = .ok (.iload 16, 2) := by decide +kernel
theorem dL_law_219 : decode cL_law 219 = .ok (.bipush 11, 2) := by decide +kernel
theorem dL_law_221 : decode cL_law 221 = .ok (.ishr, 1) := by decide +kernel
theorem dL_law_222 : decode cL_law 222 = .ok (.bipush 60, 2) := by decide +kernel
theorem dL_law_224 : decode cL_law 224 = .ok (.invokestatic 47, 3) := by decide +kernel
theorem dL_law_227 : decode cL_law 227 = .ok (.istore 22, 2) := by decide +kernel
theorem dL_law_229 : decode cL_law 229 = .ok (.aload 5, 2) := by decide +kernel
theorem dL_law_231 : decode cL_law 231 = .ok (.iload 18, 2) := by decide +kernel
theorem dL_law_233 : decode cL_law 233 = .ok (.iaload, 1) := by decide +kernel
theorem dL_law_234 : decode cL_law 234 = .ok (.ifCond .gt 11, 3) := by decide +kernel
theorem dL_law_237 : decode cL_law 237 = .ok (.aload_n 2, 1) := by decide +kernel
theorem dL_law_238 : decode cL_law 238 = .ok (.iconst 4, 1) := by decide +kernel
theorem dL_law_239 : decode cL_law 239 = .ok (.iaload, 1) := by decide +kernel
theorem dL_law_240 : decode cL_law 240 = .ok (.bipush 6, 2) := by decide +kernel
theorem dL_law_242 : decode cL_law 242 = .ok (.if_icmp .ge 7, 3) := by decide +kernel
theorem dL_law_245 : decode cL_law 245 = .ok (.iconst 1, 1) := by decide +kernel
theorem dL_law_246 : decode cL_law 246 = .ok (.goto 4, 3) := by decide +kernel
theorem dL_law_249 : decode cL_law 249 = .ok (.iconst 0, 1) := by decide +kernel
theorem dL_law_250 : decode cL_law 250 = .ok (.istore 23, 2) := by decide +kernel
theorem dL_law_252 : decode cL_law 252 = .ok (.iconst 0, 1) := by decide +kernel
theorem dL_law_253 : decode cL_law 253 = .ok (.istore 24, 2) := by decide +kernel
theorem dL_law_255 : decode cL_law 255 = .ok (.aload 5, 2) := by decide +kernel
theorem dL_law_257 : decode cL_law 257 = .ok (.iload 18, 2) := by decide +kernel
theorem dL_law_259 : decode cL_law 259 = .ok (.iaload, 1) := by decide +kernel
theorem dL_law_260 : decode cL_law 260 = .ok (.ifCond .ne 77, 3) := by decide +kernel
theorem dL_law_263 : decode cL_law 263 = .ok (.iload 23, 2) := by decide +kernel
theorem dL_law_265 : decode cL_law 265 = .ok (.ifCond .eq 72, 3) := by decide +kernel
theorem dL_law_268 : decode cL_law 268 = .ok (.iload 24, 2) := by decide +kernel
theorem dL_law_270 : decode cL_law 270 = .ok (.ifCond .lt 67, 3) := by decide +kernel
theorem dL_law_273 : decode cL_law 273 = .ok (.iconst 0, 1) := by decide +kernel
theorem dL_law_274 : decode cL_law 274 = .ok (.istore 25, 2) := by decide +kernel
theorem dL_law_276 : decode cL_law 276 = .ok (.iconst 0, 1) := by decide +kernel
theorem dL_law_277 : decode cL_law 277 = .ok (.istore 26, 2) := by decide +kernel
theorem dL_law_279 : decode cL_law 279 = .ok (.iload 26, 2) := by decide +kernel
theorem dL_law_281 : decode cL_law 281 = .ok (.bipush 36, 2) := by decide +kernel
theorem dL_law_283 : decode cL_law 283 = .ok (.if_icmp .ge 33, 3) := by decide +kernel
theorem dL_law_286 : decode cL_law 286 = .ok (.iload 25, 2) := by decide +kernel
theorem dL_law_288 : decode cL_law 288 = .ok (.ifCond .ne 15, 3) := by decide +kernel
theorem dL_law_291 : decode cL_law 291 = .ok (.aload 5, 2) := by decide +kernel
theorem dL_law_293 : decode cL_law 293 = .ok (.iload 26, 2) := by decide +kernel
theorem dL_law_295 : decode cL_law 295 = .ok (.iaload, 1) := by decide +kernel
theorem dL_law_296 : decode cL_law 296 = .ok (.iload 24, 2) := by decide +kernel
theorem dL_law_298 : decode cL_law 298 = .ok (.iconst 1, 1) := by decide +kernel
theorem dL_law_299 : decode cL_law 299 = .ok (.iadd, 1) := by decide +kernel
theorem dL_law_300 : decode cL_law 300 = .ok (.if_icmp .ne 7, 3) := by decide +kernel
theorem dL_law_303 : decode cL_law 303 = .ok (.iconst 1, 1) := by decide +kernel
theorem dL_law_304 : decode cL_law 304 = .ok (.goto 4, 3) := by decide +kernel
theorem dL_law_307 : decode cL_law 307 = .ok (.iconst 0, 1) := by decide +kernel
theorem dL_law_308 : decode cL_law 308 = .ok (.istore 25, 2) := by decide +kernel
theorem dL_law_310 : decode cL_law 310 = .ok (.iinc 26 1, 3) := by decide +kernel
theorem dL_law_313 : decode cL_law 313 = .ok (.goto (-34), 3) := by decide +kernel
theorem dL_law_316 : decode cL_law 316 = .ok (.iload 25, 2) := by decide +kernel
theorem dL_law_318 : decode cL_law 318 = .ok (.ifCond .eq 10, 3) := by decide +kernel
theorem dL_law_321 : decode cL_law 321 = .ok (.iload 24, 2) := by decide +kernel
theorem dL_law_323 : decode cL_law 323 = .ok (.iconst 1, 1) := by decide +kernel
theorem dL_law_324 : decode cL_law 324 = .ok (.iadd, 1) := by decide +kernel
theorem dL_law_325 : decode cL_law 325 = .ok (.goto 7, 3) := by decide +kernel
theorem dL_law_328 : decode cL_law 328 = .ok (.iconst (-1), 1) := by decide +kernel
theorem dL_law_329 : decode cL_law 329 = .ok (.iload 24, 2) := by decide +kernel
theorem dL_law_331 : decode cL_law 331 = .ok (.isub, 1) := by decide +kernel
theorem dL_law_332 : decode cL_law 332 = .ok (.istore 24, 2) := by decide +kernel
theorem dL_law_334 : decode cL_law 334 = .ok (.goto (-79), 3) := by decide +kernel
theorem dL_law_337 : decode cL_law 337 = .ok (.aload 5, 2) := by decide +kernel
theorem dL_law_339 : decode cL_law 339 = .ok (.iload 18, 2) := by decide +kernel
theorem dL_law_341 : decode cL_law 341 = .ok (.iaload, 1) := by decide +kernel
theorem dL_law_342 : decode cL_law 342 = .ok (.ifCond .ne 23, 3) := by decide +kernel
theorem dL_law_345 : decode cL_law 345 = .ok (.iload 23, 2) := by decide +kernel
theorem dL_law_347 : decode cL_law 347 = .ok (.ifCond .eq 18, 3) := by decide +kernel
theorem dL_law_350 : decode cL_law 350 = .ok (.aload 5, 2) := by decide +kernel
theorem dL_law_352 : decode cL_law 352 = .ok (.iload 18, 2) := by decide +kernel
theorem dL_law_354 : decode cL_law 354 = .ok (.iload 24, 2) := by decide +kernel
theorem dL_law_356 : decode cL_law 356 = .ok (.ineg, 1) := by decide +kernel
theorem dL_law_357 : decode cL_law 357 = .ok (.iastore, 1) := by decide +kernel
theorem dL_law_358 : decode cL_law 358 = .ok (.aload_n 2, 1) := by decide +kernel
theorem dL_law_359 : decode cL_law 359 = .ok (.iconst 4, 1) := by decide +kernel
theorem dL_law_360 : decode cL_law 360 = .ok (.dup2, 1) := by decide +kernel
theorem dL_law_361 : decode cL_law 361 = .ok (.iaload, 1) := by decide +kernel
theorem dL_law_362 : decode cL_law 362 = .ok (.iconst 1, 1) := by decide +kernel
theorem dL_law_363 : decode cL_law 363 = .ok (.iadd, 1) := by decide +kernel
theorem dL_law_364 : decode cL_law 364 = .ok (.iastore, 1) := by decide +kernel
theorem dL_law_365 : decode cL_law 365 = .ok (.iload 23, 2) := by decide +kernel
theorem dL_law_367 : decode cL_law 367 = .ok (.ifCond .eq 56, 3) := by decide +kernel
theorem dL_law_370 : decode cL_law 370 = .ok (.iconst 5, 1) := by decide +kernel
theorem dL_law_371 : decode cL_law 371 = .ok (.aload 5, 2) := by decide +kernel
theorem dL_law_373 : decode cL_law 373 = .ok (.iload 18, 2) := by decide +kernel
theorem dL_law_375 : decode cL_law 375 = .ok (.iaload, 1) := by decide +kernel
theorem dL_law_376 : decode cL_law 376 = .ok (.iconst 1, 1) := by decide +kernel
theorem dL_law_377 : decode cL_law 377 = .ok (.isub, 1) := by decide +kernel
theorem dL_law_378 : decode cL_law 378 = .ok (.imul, 1) := by decide +kernel
theorem dL_law_379 : decode cL_law 379 = .ok (.istore 25, 2) := by decide +kernel
theorem dL_law_381 : decode cL_law 381 = .ok (.aload 6, 2) := by decide +kernel
theorem dL_law_383 : decode cL_law 383 = .ok (.iload 25, 2) := by decide +kernel
theorem dL_law_385 : decode cL_law 385 = .ok (.iload 19, 2) := by decide +kernel
theorem dL_law_387 : decode cL_law 387 = .ok (.iastore, 1) := by decide +kernel
theorem dL_law_388 : decode cL_law 388 = .ok (.aload 6, 2) := by decide +kernel
theorem dL_law_390 : decode cL_law 390 = .ok (.iload 25, 2) := by decide +kernel
theorem dL_law_392 : decode cL_law 392 = .ok (.iconst 1, 1) := by decide +kernel
theorem dL_law_393 : decode cL_law 393 = .ok (.iadd, 1) := by decide +kernel
theorem dL_law_394 : decode cL_law 394 = .ok (.iload 20, 2) := by decide +kernel
theorem dL_law_396 : decode cL_law 396 = .ok (.iastore, 1) := by decide +kernel
theorem dL_law_397 : decode cL_law 397 = .ok (.aload 6, 2) := by decide +kernel
theorem dL_law_399 : decode cL_law 399 = .ok (.iload 25, 2) := by decide +kernel
theorem dL_law_401 : decode cL_law 401 = .ok (.iconst 2, 1) := by decide +kernel
theorem dL_law_402 : decode cL_law 402 = .ok (.iadd, 1) := by decide +kernel
theorem dL_law_403 : decode cL_law 403 = .ok (.iload 21, 2) := by decide +kernel
theorem dL_law_405 : decode cL_law 405 = .ok (.iastore, 1) := by decide +kernel
theorem dL_law_406 : decode cL_law 406 = .ok (.aload 6, 2) := by decide +kernel
theorem dL_law_408 : decode cL_law 408 = .ok (.iload 25, 2) := by decide +kernel
theorem dL_law_410 : decode cL_law 410 = .ok (.iconst 3, 1) := by decide +kernel
theorem dL_law_411 : decode cL_law 411 = .ok (.iadd, 1) := by decide +kernel
theorem dL_law_412 : decode cL_law 412 = .ok (.iload 22, 2) := by decide +kernel
theorem dL_law_414 : decode cL_law 414 = .ok (.iastore, 1) := by decide +kernel
theorem dL_law_415 : decode cL_law 415 = .ok (.aload 6, 2) := by decide +kernel
theorem dL_law_417 : decode cL_law 417 = .ok (.iload 25, 2) := by decide +kernel
theorem dL_law_419 : decode cL_law 419 = .ok (.iconst 4, 1) := by decide +kernel
theorem dL_law_420 : decode cL_law 420 = .ok (.iadd, 1) := by decide +kernel
theorem dL_law_421 : decode cL_law 421 = .ok (.iconst 1, 1) := by decide +kernel
theorem dL_law_422 : decode cL_law 422 = .ok (.iastore, 1) := by decide +kernel
theorem dL_law_423 : decode cL_law 423 = .ok (.aload_n 1, 1) := by decide +kernel
theorem dL_law_424 : decode cL_law 424 = .ok (.iload 18, 2) := by decide +kernel
theorem dL_law_426 : decode cL_law 426 = .ok (.iload 19, 2) := by decide +kernel
theorem dL_law_428 : decode cL_law 428 = .ok (.iload 20, 2) := by decide +kernel
theorem dL_law_430 : decode cL_law 430 = .ok (.iload 21, 2) := by decide +kernel
theorem dL_law_432 : decode cL_law 432 = .ok (.iload 22, 2) := by decide +kernel
theorem dL_law_434 : decode cL_law 434 = .ok (.invokevirtual 73, 3) := by decide +kernel
theorem dL_law_437 : decode cL_law 437 = .ok (.iload 23, 2) := by decide +kernel
theorem dL_law_439 : decode cL_law 439 = .ok (.ifCond .eq 9, 3) := by decide +kernel
theorem dL_law_442 : decode cL_law 442 = .ok (.aload_n 2, 1) := by decide +kernel
theorem dL_law_443 : decode cL_law 443 = .ok (.iconst 4, 1) := by decide +kernel
theorem dL_law_444 : decode cL_law 444 = .ok (.iaload, 1) := by decide +kernel
theorem dL_law_445 : decode cL_law 445 = .ok (.goto 5, 3) := by decide +kernel
theorem dL_law_448 : decode cL_law 448 = .ok (.bipush (-4), 2) := by decide +kernel
theorem dL_law_450 : decode cL_law 450 = .ok (.if_icmp .eq 5, 3) := by decide +kernel
theorem dL_law_453 : decode cL_law 453 = .ok (.iconst 0, 1) := by decide +kernel
theorem dL_law_454 : decode cL_law 454 = .ok (.ireturn, 1) := by decide +kernel
theorem dL_law_455 : decode cL_law 455 = .ok (.goto 455, 3) := by decide +kernel
theorem dL_law_458 : decode cL_law 458 = .ok (.iload 17, 2) := by decide +kernel
theorem dL_law_460 : decode cL_law 460 = .ok (.bipush 8, 2) := by decide +kernel
theorem dL_law_462 : decode cL_law 462 = .ok (.if_icmp .ge 128, 3) := by decide +kernel
theorem dL_law_465 : decode cL_law 465 = .ok (.iconst 1, 1) := by decide +kernel
theorem dL_law_466 : decode cL_law 466 = .ok (.iload 16, 2) := by decide +kernel
theorem dL_law_468 : decode cL_law 468 = .ok (.iload 15, 2) := by decide +kernel
theorem dL_law_470 : decode cL_law 470 = .ok (.bipush 11, 2) := by decide +kernel
theorem dL_law_472 : decode cL_law 472 = .ok (.ishr, 1) := by decide +kernel
theorem dL_law_473 : decode cL_law 473 = .ok (.iconst 3, 1) := by decide +kernel
theorem dL_law_474 : decode cL_law 474 = .ok (.invokestatic 47, 3) := by decide +kernel
theorem dL_law_477 : decode cL_law 477 = .ok (.ifCond .ne 8, 3) := by decide +kernel
theorem dL_law_480 : decode cL_law 480 = .ok (.bipush 99, 2) := by decide +kernel
theorem dL_law_482 : decode cL_law 482 = .ok (.goto 5, 3) := by decide +kernel
theorem dL_law_485 : decode cL_law 485 = .ok (.bipush 12, 2) := by decide +kernel
theorem dL_law_487 : decode cL_law 487 = .ok (.invokestatic 47, 3) := by decide +kernel
theorem dL_law_490 : decode cL_law 490 = .ok (.iadd, 1) := by decide +kernel
theorem dL_law_491 : decode cL_law 491 = .ok (.istore 19, 2) := by decide +kernel
theorem dL_law_493 : decode cL_law 493 = .ok (.iconst 0, 1) := by decide +kernel
theorem dL_law_494 : decode cL_law 494 = .ok (.istore 20, 2) := by decide +kernel
theorem dL_law_496 : decode cL_law 496 = .ok (.iconst 0, 1) := by decide +kernel
theorem dL_law_497 : decode cL_law 497 = .ok (.istore 21, 2) := by decide +kernel
theorem dL_law_499 : decode cL_law 499 = .ok (.iload 21, 2) := by decide +kernel
theorem dL_law_501 : decode cL_law 501 = .ok (.iload 19, 2) := by decide +kernel
theorem dL_law_503 : decode cL_law 503 = .ok (.if_icmp .ge 71, 3) := by decide +kernel
theorem dL_law_506 : decode cL_law 506 = .ok (.iload 20, 2) := by decide +kernel
theorem dL_law_508 : decode cL_law 508 = .ok (.aload_n 2, 1) := by decide +kernel
theorem dL_law_509 : decode cL_law 509 = .ok (.aload_n 3, 1) := by decide +kernel
theorem dL_law_510 : decode cL_law 510 = .ok (.aload 4, 2) := by decide +kernel
theorem dL_law_512 : decode cL_law 512 = .ok (.aload 5, 2) := by decide +kernel
theorem dL_law_514 : decode cL_law 514 = .ok (.aload 6, 2) := by decide +kernel
theorem dL_law_516 : decode cL_law 516 = .ok (.invokestatic 54, 3) := by decide +kernel
theorem dL_law_519 : decode cL_law 519 = .ok (.iadd, 1) := by decide +kernel
theorem dL_law_520 : decode cL_law 520 = .ok (.istore 20, 2) := by decide +kernel
theorem dL_law_522 : decode cL_law 522 = .ok (.aload 7, 2) := by decide +kernel
theorem dL_law_524 : decode cL_law 524 = .ok (.iconst 0, 1) := by decide +kernel
theorem dL_law_525 : decode cL_law 525 = .ok (.iaload, 1) := by decide +kernel
theorem dL_law_526 : decode cL_law 526 = .ok (.ifCond .ge 6, 3) := by decide +kernel
theorem dL_law_529 : decode cL_law 529 = .ok (.goto 39, 3) := by decide +kernel
theorem dL_law_532 : decode cL_law 532 = .ok (.aload 8, 2) := by decide +kernel
theorem dL_law_534 : decode cL_law 534 = .ok (.aload_n 2, 1) := by decide +kernel
theorem dL_law_535 : decode cL_law 535 = .ok (.iconst 3, 1) := by decide +kernel
theorem dL_law_536 : decode cL_law 536 = .ok (.iaload, 1) := by decide +kernel
theorem dL_law_537 : decode cL_law 537 = .ok (.bipush 60, 2) := by decide +kernel
theorem dL_law_539 : decode cL_law 539 = .ok (.irem, 1) := by decide +kernel
theorem dL_law_540 : decode cL_law 540 = .ok (.aload_n 3, 1) := by decide +kernel
theorem dL_law_541 : decode cL_law 541 = .ok (.aload 7, 2) := by decide +kernel
theorem dL_law_543 : decode cL_law 543 = .ok (.iconst 0, 1) := by decide +kernel
theorem dL_law_544 : decode cL_law 544 = .ok (.iaload, 1) := by decide +kernel
theorem dL_law_545 : decode cL_law 545 = .ok (.iaload, 1) := by decide +kernel
theorem dL_law_546 : decode cL_law 546 = .ok (.iastore, 1) := by decide +kernel
theorem dL_law_547 : decode cL_law 547 = .ok (.aload 7, 2) := by decide +kernel
theorem dL_law_549 : decode cL_law 549 = .ok (.iconst 1, 1) := by decide +kernel
theorem dL_law_550 : decode cL_law 550 = .ok (.dup2, 1) := by decide +kernel
theorem dL_law_551 : decode cL_law 551 = .ok (.iaload, 1) := by decide +kernel
theorem dL_law_552 : decode cL_law 552 = .ok (.aload 7, 2) := by decide +kernel
theorem dL_law_554 : decode cL_law 554 = .ok (.iconst 1, 1) := by decide +kernel
theorem dL_law_555 : decode cL_law 555 = .ok (.iaload, 1) := by decide +kernel
theorem dL_law_556 : decode cL_law 556 = .ok (.bipush 60, 2) := by decide +kernel
theorem dL_law_558 : decode cL_law 558 = .ok (.if_icmp .ge 7, 3) := by decide +kernel
theorem dL_law_561 : decode cL_law 561 = .ok (.iconst 1, 1) := by decide +kernel
theorem dL_law_562 : decode cL_law 562 = .ok (.goto 4, 3) := by decide +kernel
theorem dL_law_565 : decode cL_law 565 = .ok (.iconst 0, 1) := by decide +kernel
theorem dL_law_566 : decode cL_law 566 = .ok (.iadd, 1) := by decide +kernel
theorem dL_law_567 : decode cL_law 567 = .ok (.iastore, 1) := by decide +kernel
theorem dL_law_568 : decode cL_law 568 = .ok (.iinc 21 1, 3) := by decide +kernel
theorem dL_law_571 : decode cL_law 571 = .ok (.goto (-72), 3) := by decide +kernel
theorem dL_law_574 : decode cL_law 574 = .ok (.aload_n 1, 1) := by decide +kernel
theorem dL_law_575 : decode cL_law 575 = .ok (.iload 19, 2) := by decide +kernel
theorem dL_law_577 : decode cL_law 577 = .ok (.invokevirtual 77, 3) := by decide +kernel
theorem dL_law_580 : decode cL_law 580 = .ok (.iload 20, 2) := by decide +kernel
theorem dL_law_582 : decode cL_law 582 = .ok (.if_icmp .eq 5, 3) := by decide +kernel
theorem dL_law_585 : decode cL_law 585 = .ok (.iconst 0, 1) := by decide +kernel
theorem dL_law_586 : decode cL_law 586 = .ok (.ireturn, 1) := by decide +kernel
theorem dL_law_587 : decode cL_law 587 = .ok (.goto 323, 3) := by decide +kernel
theorem dL_law_590 : decode cL_law 590 = .ok (.iload 17, 2) := by decide +kernel
theorem dL_law_592 : decode cL_law 592 = .ok (.bipush 8, 2) := by decide +kernel
theorem dL_law_594 : decode cL_law 594 = .ok (.if_icmp .ne 58, 3) := by decide +kernel
theorem dL_law_597 : decode cL_law 597 = .ok (.iload 16, 2) := by decide +kernel
theorem dL_law_599 : decode cL_law 599 = .ok (.bipush 40, 2) := by decide +kernel
theorem dL_law_601 : decode cL_law 601 = .ok (.invokestatic 47, 3) := by decide +kernel
theorem dL_law_604 : decode cL_law 604 = .ok (.istore 19, 2) := by decide +kernel
theorem dL_law_606 : decode cL_law 606 = .ok (.iload 16, 2) := by decide +kernel
theorem dL_law_608 : decode cL_law 608 = .ok (.iconst 4, 1) := by decide +kernel
theorem dL_law_609 : decode cL_law 609 = .ok (.ishr, 1) := by decide +kernel
theorem dL_law_610 : decode cL_law 610 = .ok (.sipush 1201, 3) := by decide +kernel
theorem dL_law_613 : decode cL_law 613 = .ok (.invokestatic 47, 3) := by decide +kernel
theorem dL_law_616 : decode cL_law 616 = .ok (.sipush 600, 3) := by decide +kernel
theorem dL_law_619 : decode cL_law 619 = .ok (.isub, 1) := by decide +kernel
theorem dL_law_620 : decode cL_law 620 = .ok (.istore 20, 2) := by decide +kernel
theorem dL_law_622 : decode cL_law 622 = .ok (.aload_n 1, 1) := by decide +kernel
theorem dL_law_623 : decode cL_law 623 = .ok (.iload 19, 2) := by decide +kernel
theorem dL_law_625 : decode cL_law 625 = .ok (.iload 20, 2) := by decide +kernel
theorem dL_law_627 : decode cL_law 627 = .ok (.invokevirtual 80, 3) := by decide +kernel
theorem dL_law_630 : decode cL_law 630 = .ok (.aload_n 3, 1) := by decide +kernel
theorem dL_law_631 : decode cL_law 631 = .ok (.iload 19, 2) := by decide +kernel
theorem dL_law_633 : decode cL_law 633 = .ok (.iaload, 1) := by decide +kernel
theorem dL_law_634 : decode cL_law 634 = .ok (.sipush 10000, 3) := by decide +kernel
theorem dL_law_637 : decode cL_law 637 = .ok (.iadd, 1) := by decide +kernel
theorem dL_law_638 : decode cL_law 638 = .ok (.if_icmp .eq 5, 3) := by decide +kernel
theorem dL_law_641 : decode cL_law 641 = .ok (.iconst 0, 1) := by decide +kernel
theorem dL_law_642 : decode cL_law 642 = .ok (.ireturn, 1) := by decide +kernel
theorem dL_law_643 : decode cL_law 643 = .ok (.aload_n 3, 1) := by decide +kernel
theorem dL_law_644 : decode cL_law 644 = .ok (.iload 19, 2) := by decide +kernel
theorem dL_law_646 : decode cL_law 646 = .ok (.iload 20, 2) := by decide +kernel
theorem dL_law_648 : decode cL_law 648 = .ok (.iastore, 1) := by decide +kernel
theorem dL_law_649 : decode cL_law 649 = .ok (.goto 261, 3) := by decide +kernel
theorem dL_law_652 : decode cL_law 652 = .ok (.iload 17, 2) := by decide +kernel
theorem dL_law_654 : decode cL_law 654 = .ok (.bipush 9, 2) := by decide +kernel
theorem dL_law_656 : decode cL_law 656 = .ok (.if_icmp .ne 34, 3) := by decide +kernel
theorem dL_law_659 : decode cL_law 659 = .ok (.aload 7, 2) := by decide +kernel
theorem dL_law_661 : decode cL_law 661 = .ok (.iconst 0, 1) := by decide +kernel
theorem dL_law_662 : decode cL_law 662 = .ok (.iaload, 1) := by decide +kernel
theorem dL_law_663 : decode cL_law 663 = .ok (.ifCond .ge 27, 3) := by decide +kernel
theorem dL_law_666 : decode cL_law 666 = .ok (.aload 7, 2) := by decide +kernel
theorem dL_law_668 : decode cL_law 668 = .ok (.iconst 0, 1) := by decide +kernel
theorem dL_law_669 : decode cL_law 669 = .ok (.iload 16, 2) := by decide +kernel
theorem dL_law_671 : decode cL_law 671 = .ok (.bipush 40, 2) := by decide +kernel
theorem dL_law_673 : decode cL_law 673 = .ok (.invokestatic 47, 3) := by decide +kernel
theorem dL_law_676 : decode cL_law 676 = .ok (.iastore, 1) := by decide +kernel
theorem dL_law_677 : decode cL_law 677 = .ok (.aload_n 1, 1) := by decide +kernel
theorem dL_law_678 : decode cL_law 678 = .ok (.aload 7, 2) := by decide +kernel
theorem dL_law_680 : decode cL_law 680 = .ok (.iconst 0, 1) := by decide +kernel
theorem dL_law_681 : decode cL_law 681 = .ok (.iaload, 1) := by decide +kernel
theorem dL_law_682 : decode cL_law 682 = .ok (.invokevirtual 83, 3) := by decide +kernel
theorem dL_law_685 : decode cL_law 685 = .ok (.ifCond .eq 225, 3) := by decide +kernel
theorem dL_law_688 : decode cL_law 688 = .ok (.iconst 0, 1) := by decide +kernel
theorem dL_law_689 : decode cL_law 689 = .ok (.ireturn, 1) := by decide +kernel
theorem dL_law_690 : decode cL_law 690 = .ok (.iload 17, 2) := by decide +kernel
theorem dL_law_692 : decode cL_law 692 = .ok (.bipush 10, 2) := by decide +kernel
theorem dL_law_694 : decode cL_law 694 = .ok (.if_icmp .ne 136, 3) := by decide +kernel
theorem dL_law_697 : decode cL_law 697 = .ok (.aload 5, 2) := by decide +kernel
theorem dL_law_699 : decode cL_law 699 = .ok (.iload 18, 2) := by decide +kernel
theorem dL_law_701 : decode cL_law 701 = .ok (.iaload, 1) := by decide +kernel
theorem dL_law_702 : decode cL_law 702 = .ok (.ifCond .le 7, 3) := by decide +kernel
theorem dL_law_705 : decode cL_law 705 = .ok (.iconst 1, 1) := by decide +kernel
theorem dL_law_706 : decode cL_law 706 = .ok (.goto 4, 3) := by decide +kernel
theorem dL_law_709 : decode cL_law 709 = .ok (.iconst 0, 1) := by decide +kernel
theorem dL_law_710 : decode cL_law 710 = .ok (.istore 19, 2) := by decide +kernel
theorem dL_law_712 : decode cL_law 712 = .ok (.iload 16, 2) := by decide +kernel
theorem dL_law_714 : decode cL_law 714 = .ok (.iconst 2, 1) := by decide +kernel
theorem dL_law_715 : decode cL_law 715 = .ok (.invokestatic 47, 3) := by decide +kernel
theorem dL_law_718 : decode cL_law 718 = .ok (.ifCond .ne 62, 3) := by decide +kernel
theorem dL_law_721 : decode cL_law 721 = .ok (.aload_n 1, 1) := by decide +kernel
theorem dL_law_722 : decode cL_law 722 = .ok (.iload 18, 2) := by decide +kernel
theorem dL_law_724 : decode cL_law 724 = .ok (.invokevirtual 86, 3) := by decide +kernel
theorem dL_law_727 : decode cL_law 727 = .ok (.iload 19, 2) := by decide +kernel
theorem dL_law_729 : decode cL_law 729 = .ok (.ifCond .eq 22, 3) := by decide +kernel
theorem dL_law_732 : decode cL_law 732 = .ok (.iconst 1, 1) := by decide +kernel
theorem dL_law_733 : decode cL_law 733 = .ok (.aload 6, 2) := by decide +kernel
theorem dL_law_735 : decode cL_law 735 = .ok (.iconst 5, 1) := by decide +kernel
theorem dL_law_736 : decode cL_law 736 = .ok (.aload 5, 2) := by decide +kernel
theorem dL_law_738 : decode cL_law 738 = .ok (.iload 18, 2) := by decide +kernel
theorem dL_law_740 : decode cL_law 740 = .ok (.iaload, 1) := by decide +kernel
theorem dL_law_741 : decode cL_law 741 = .ok (.iconst 1, 1) := by decide +kernel
theorem dL_law_742 : decode cL_law 742 = .ok (.isub, 1) := by decide +kernel
theorem dL_law_743 : decode cL_law 743 = .ok (.imul, 1) := by decide +kernel
theorem dL_law_744 : decode cL_law 744 = .ok (.iconst 4, 1) := by decide +kernel
theorem dL_law_745 : decode cL_law 745 = .ok (.iadd, 1) := by decide +kernel
theorem dL_law_746 : decode cL_law 746 = .ok (.iaload, 1) := by decide +kernel
theorem dL_law_747 : decode cL_law 747 = .ok (.isub, 1) := by decide +kernel
theorem dL_law_748 : decode cL_law 748 = .ok (.goto 4, 3) := by decide +kernel
theorem dL_law_751 : decode cL_law 751 = .ok (.iconst (-1), 1) := by decide +kernel
theorem dL_law_752 : decode cL_law 752 = .ok (.if_icmp .eq 5, 3) := by decide +kernel
theorem dL_law_755 : decode cL_law 755 = .ok (.iconst 0, 1) := by decide +kernel
theorem dL_law_756 : decode cL_law 756 = .ok (.ireturn, 1) := by decide +kernel
theorem dL_law_757 : decode cL_law 757 = .ok (.iload 19, 2) := by decide +kernel
theorem dL_law_759 : decode cL_law 759 = .ok (.ifCond .eq 68, 3) := by decide +kernel
theorem dL_law_762 : decode cL_law 762 = .ok (.aload 6, 2) := by decide +kernel
theorem dL_law_764 : decode cL_law 764 = .ok (.iconst 5, 1) := by decide +kernel
theorem dL_law_765 : decode cL_law 765 = .ok (.aload 5, 2) := by decide +kernel
theorem dL_law_767 : decode cL_law 767 = .ok (.iload 18, 2) := by decide +kernel
theorem dL_law_769 : decode cL_law 769 = .ok (.iaload, 1) := by decide +kernel
theorem dL_law_770 : decode cL_law 770 = .ok (.iconst 1, 1) := by decide +kernel
theorem dL_law_771 : decode cL_law 771 = .ok (.isub, 1) := by decide +kernel
theorem dL_law_772 : decode cL_law 772 = .ok (.imul, 1) := by decide +kernel
theorem dL_law_773 : decode cL_law 773 = .ok (.iconst 4, 1) := by decide +kernel
theorem dL_law_774 : decode cL_law 774 = .ok (.iadd, 1) := by decide +kernel
theorem dL_law_775 : decode cL_law 775 = .ok (.iconst 1, 1) := by decide +kernel
theorem dL_law_776 : decode cL_law 776 = .ok (.iastore, 1) := by decide +kernel
theorem dL_law_777 : decode cL_law 777 = .ok (.goto 50, 3) := by decide +kernel
theorem dL_law_780 : decode cL_law 780 = .ok (.aload_n 1, 1) := by decide +kernel
theorem dL_law_781 : decode cL_law 781 = .ok (.iload 18, 2) := by decide +kernel
theorem dL_law_783 : decode cL_law 783 = .ok (.invokevirtual 89, 3) := by decide +kernel
theorem dL_law_786 : decode cL_law 786 = .ok (.iload 19, 2) := by decide +kernel
theorem dL_law_788 : decode cL_law 788 = .ok (.ifCond .eq 11, 3) := by decide +kernel
theorem dL_law_791 : decode cL_law 791 = .ok (.aload_n 2, 1) := by decide +kernel
theorem dL_law_792 : decode cL_law 792 = .ok (.iconst 4, 1) := by decide +kernel
theorem dL_law_793 : decode cL_law 793 = .ok (.iaload, 1) := by decide +kernel
theorem dL_law_794 : decode cL_law 794 = .ok (.iconst 1, 1) := by decide +kernel
theorem dL_law_795 : decode cL_law 795 = .ok (.isub, 1) := by decide +kernel
theorem dL_law_796 : decode cL_law 796 = .ok (.goto 4, 3) := by decide +kernel
theorem dL_law_799 : decode cL_law 799 = .ok (.iconst (-1), 1) := by decide +kernel
theorem dL_law_800 : decode cL_law 800 = .ok (.if_icmp .eq 5, 3) := by decide +kernel
theorem dL_law_803 : decode cL_law 803 = .ok (.iconst 0, 1) := by decide +kernel
theorem dL_law_804 : decode cL_law 804 = .ok (.ireturn, 1) := by decide +kernel
theorem dL_law_805 : decode cL_law 805 = .ok (.aload 5, 2) := by decide +kernel
theorem dL_law_807 : decode cL_law 807 = .ok (.iload 18, 2) := by decide +kernel
theorem dL_law_809 : decode cL_law 809 = .ok (.iconst 0, 1) := by decide +kernel
theorem dL_law_810 : decode cL_law 810 = .ok (.iastore, 1) := by decide +kernel
theorem dL_law_811 : decode cL_law 811 = .ok (.aload_n 2, 1) := by decide +kernel
theorem dL_law_812 : decode cL_law 812 = .ok (.iconst 4, 1) := by decide +kernel
theorem dL_law_813 : decode cL_law 813 = .ok (.dup2, 1) := by decide +kernel
theorem dL_law_814 : decode cL_law 814 = .ok (.iaload, 1) := by decide +kernel
theorem dL_law_815 : decode cL_law 815 = .ok (.iload 19, 2) := by decide +kernel
theorem dL_law_817 : decode cL_law 817 = .ok (.ifCond .eq 7, 3) := by decide +kernel
theorem dL_law_820 : decode cL_law 820 = .ok (.iconst 1, 1) := by decide +kernel
theorem dL_law_821 : decode cL_law 821 = .ok (.goto 4, 3) := by decide +kernel
theorem dL_law_824 : decode cL_law 824 = .ok (.iconst 0, 1) := by decide +kernel
theorem dL_law_825 : decode cL_law 825 = .ok (.isub, 1) := by decide +kernel
theorem dL_law_826 : decode cL_law 826 = .ok (.iastore, 1) := by decide +kernel
theorem dL_law_827 : decode cL_law 827 = .ok (.goto 83, 3) := by decide +kernel
theorem dL_law_830 : decode cL_law 830 = .ok (.iload 16, 2) := by decide +kernel
theorem dL_law_832 : decode cL_law 832 = .ok (.iconst 3, 1) := by decide +kernel
theorem dL_law_833 : decode cL_law 833 = .ok (.invokestatic 47, 3) := by decide +kernel
theorem dL_law_836 : decode cL_law 836 = .ok (.istore 19, 2) := by decide +kernel
theorem dL_law_838 : decode cL_law 838 = .ok (.iload 19, 2) := by decide +kernel
theorem dL_law_840 : decode cL_law 840 = .ok (.ifCond .ne 15, 3) := by decide +kernel
theorem dL_law_843 : decode cL_law 843 = .ok (.iload 16, 2) := by decide +kernel
theorem dL_law_845 : decode cL_law 845 = .ok (.iconst 2, 1) := by decide +kernel
theorem dL_law_846 : decode cL_law 846 = .ok (.ishr, 1) := by decide +kernel
theorem dL_law_847 : decode cL_law 847 = .ok (.bipush 101, 2) := by decide +kernel
theorem dL_law_849 : decode cL_law 849 = .ok (.invokestatic 47, 3) := by decide +kernel
theorem dL_law_852 : decode cL_law 852 = .ok (.goto 33, 3) := by decide +kernel
theorem dL_law_855 : decode cL_law 855 = .ok (.iload 19, 2) := by decide +kernel
theorem dL_law_857 : decode cL_law 857 = .ok (.iconst 1, 1) := by decide +kernel
theorem dL_law_858 : decode cL_law 858 = .ok (.if_icmp .ne 15, 3) := by decide +kernel
theorem dL_law_861 : decode cL_law 861 = .ok (.iload 16, 2) := by decide +kernel
theorem dL_law_863 : decode cL_law 863 = .ok (.iconst 2, 1) := by decide +kernel
theorem dL_law_864 : decode cL_law 864 = .ok (.ishr, 1) := by decide +kernel
theorem dL_law_865 : decode cL_law 865 = .ok (.bipush 51, 2) := by decide +kernel
theorem dL_law_867 : decode cL_law 867 = .ok (.invokestatic 47, 3) := by decide +kernel
theorem dL_law_870 : decode cL_law 870 = .ok (.goto 15, 3) := by decide +kernel
theorem dL_law_873 : decode cL_law 873 = .ok (.iconst 1, 1) := by decide +kernel
theorem dL_law_874 : decode cL_law 874 = .ok (.iload 16, 2) := by decide +kernel
theorem dL_law_876 : decode cL_law 876 = .ok (.iconst 2, 1) := by decide +kernel
theorem dL_law_877 : decode cL_law 877 = .ok (.ishr, 1) := by decide +kernel
theorem dL_law_878 : decode cL_law 878 = .ok (.sipush 900, 3) := by decide +kernel
theorem dL_law_881 : decode cL_law 881 = .ok (.invokestatic 47, 3) := by decide +kernel
theorem dL_law_884 : decode cL_law 884 = .ok (.iadd, 1) := by decide +kernel
theorem dL_law_885 : decode cL_law 885 = .ok (.istore 20, 2) := by decide +kernel
theorem dL_law_887 : decode cL_law 887 = .ok (.aload_n 1, 1) := by decide +kernel
theorem dL_law_888 : decode cL_law 888 = .ok (.iload 19, 2) := by decide +kernel
theorem dL_law_890 : decode cL_law 890 = .ok (.iload 20, 2) := by decide +kernel
theorem dL_law_892 : decode cL_law 892 = .ok (.invokevirtual 92, 3) := by decide +kernel
theorem dL_law_895 : decode cL_law 895 = .ok (.aload_n 2, 1) := by decide +kernel
theorem dL_law_896 : decode cL_law 896 = .ok (.iload 19, 2) := by decide +kernel
theorem dL_law_898 : decode cL_law 898 = .ok (.iaload, 1) := by decide +kernel
theorem dL_law_899 : decode cL_law 899 = .ok (.if_icmp .eq 5, 3) := by decide +kernel
theorem dL_law_902 : decode cL_law 902 = .ok (.iconst 0, 1) := by decide +kernel
theorem dL_law_903 : decode cL_law 903 = .ok (.ireturn, 1) := by decide +kernel
theorem dL_law_904 : decode cL_law 904 = .ok (.aload_n 2, 1) := by decide +kernel
theorem dL_law_905 : decode cL_law 905 = .ok (.iload 19, 2) := by decide +kernel
theorem dL_law_907 : decode cL_law 907 = .ok (.iload 20, 2) := by decide +kernel
theorem dL_law_909 : decode cL_law 909 = .ok (.iastore, 1) := by decide +kernel
theorem dL_law_910 : decode cL_law 910 = .ok (.aload_n 1, 1) := by decide +kernel
theorem dL_law_911 : decode cL_law 911 = .ok (.iload 16, 2) := by decide +kernel
theorem dL_law_913 : decode cL_law 913 = .ok (.aload_n 2, 1) := by decide +kernel
theorem dL_law_914 : decode cL_law 914 = .ok (.aload_n 3, 1) := by decide +kernel
theorem dL_law_915 : decode cL_law 915 = .ok (.aload 4, 2) := by decide +kernel
theorem dL_law_917 : decode cL_law 917 = .ok (.aload 5, 2) := by decide +kernel
theorem dL_law_919 : decode cL_law 919 = .ok (.aload 6, 2) := by decide +kernel
theorem dL_law_921 : decode cL_law 921 = .ok (.aload 7, 2) := by decide +kernel
theorem dL_law_923 : decode cL_law 923 = .ok (.aload 8, 2) := by decide +kernel
theorem dL_law_925 : decode cL_law 925 = .ok (.invokestatic 95, 3) := by decide +kernel
theorem dL_law_928 : decode cL_law 928 = .ok (.ifCond .eq 45, 3) := by decide +kernel
theorem dL_law_931 : decode cL_law 931 = .ok (.iload 16, 2) := by decide +kernel
theorem dL_law_933 : decode cL_law 933 = .ok (.bipush 13, 2) := by decide +kernel
theorem dL_law_935 : decode cL_law 935 = .ok (.ishr, 1) := by decide +kernel
theorem dL_law_936 : decode cL_law 936 = .ok (.bipush 7, 2) := by decide +kernel
theorem dL_law_938 : decode cL_law 938 = .ok (.invokestatic 47, 3) := by decide +kernel
theorem dL_law_941 : decode cL_law 941 = .ok (.ifCond .ne 34, 3) := by decide +kernel
theorem dL_law_944 : decode cL_law 944 = .ok (.aload_n 1, 1) := by decide +kernel
theorem dL_law_945 : decode cL_law 945 = .ok (.iload 15, 2) := by decide +kernel
theorem dL_law_947 : decode cL_law 947 = .ok (.iconst 2, 1) := by decide +kernel
theorem dL_law_948 : decode cL_law 948 = .ok (.ishr, 1) := by decide +kernel
theorem dL_law_949 : decode cL_law 949 = .ok (.aload_n 2, 1) := by decide +kernel
theorem dL_law_950 : decode cL_law 950 = .ok (.aload_n 3, 1) := by decide +kernel
theorem dL_law_951 : decode cL_law 951 = .ok (.aload 4, 2) := by decide +kernel
theorem dL_law_953 : decode cL_law 953 = .ok (.aload 5, 2) := by decide +kernel
theorem dL_law_955 : decode cL_law 955 = .ok (.aload 6, 2) := by decide +kernel
theorem dL_law_957 : decode cL_law 957 = .ok (.aload 9, 2) := by decide +kernel
theorem dL_law_959 : decode cL_law 959 = .ok (.aload 10, 2) := by decide +kernel
theorem dL_law_961 : decode cL_law 961 = .ok (.aload 11, 2) := by decide +kernel
theorem dL_law_963 : decode cL_law 963 = .ok (.aload 12, 2) := by decide +kernel
theorem dL_law_965 : decode cL_law 965 = .ok (.aload 13, 2) := by decide +kernel
theorem dL_law_967 : decode cL_law 967 = .ok (.invokestatic 99, 3) := by decide +kernel
theorem dL_law_970 : decode cL_law 970 = .ok (.ifCond .ne 5, 3) := by decide +kernel
theorem dL_law_973 : decode cL_law 973 = .ok (.iconst 0, 1) := by decide +kernel
theorem dL_law_974 : decode cL_law 974 = .ok (.ireturn, 1) := by decide +kernel
theorem dL_law_975 : decode cL_law 975 = .ok (.iinc 14 1, 3) := by decide +kernel
theorem dL_law_978 : decode cL_law 978 = .ok (.goto (-880), 3) := by decide +kernel
theorem dL_law_981 : decode cL_law 981 = .ok (.iconst 1, 1) := by decide +kernel
theorem dL_law_982 : decode cL_law 982 = .ok (.ireturn, 1) := by decide +kernel
