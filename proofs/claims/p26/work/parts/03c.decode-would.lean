theorem dL_would_0 : decode cL_would 0 = .ok (.iload_n 1, 1) := by decide +kernel
theorem dL_would_1 : decode cL_would 1 = .ok (.bipush 40, 2) := by decide +kernel
theorem dL_would_3 : decode cL_would 3 = .ok (.invokestatic 47, 3) := by decide +kernel
theorem dL_would_6 : decode cL_would 6 = .ok (.istore 12, 2) := by decide +kernel
theorem dL_would_8 : decode cL_would 8 = .ok (.iconst 1, 1) := by decide +kernel
theorem dL_would_9 : decode cL_would 9 = .ok (.iload_n 1, 1) := by decide +kernel
theorem dL_would_10 : decode cL_would 10 = .ok (.bipush 6, 2) := by decide +kernel
theorem dL_would_12 : decode cL_would 12 = .ok (.ishr, 1) := by decide +kernel
theorem dL_would_13 : decode cL_would 13 = .ok (.iload_n 1, 1) := by decide +kernel
theorem dL_would_14 : decode cL_would 14 = .ok (.iconst 5, 1) := by decide +kernel
theorem dL_would_15 : decode cL_would 15 = .ok (.ishr, 1) := by decide +kernel
theorem dL_would_16 : decode cL_would 16 = .ok (.iconst 2, 1) := by decide +kernel
theorem dL_would_17 : decode cL_would 17 = .ok (.invokestatic 47, 3) := by decide +kernel
theorem dL_would_20 : decode cL_would 20 = .ok (.ifCond .ne 9, 3) := by decide +kernel
theorem dL_would_23 : decode cL_would 23 = .ok (.sipush 9999, 3) := by decide +kernel
theorem dL_would_26 : decode cL_would 26 = .ok (.goto 5, 3) := by decide +kernel
theorem dL_would_29 : decode cL_would 29 = .ok (.bipush 90, 2) := by decide +kernel
theorem dL_would_31 : decode cL_would 31 = .ok (.invokestatic 47, 3) := by decide +kernel
theorem dL_would_34 : decode cL_would 34 = .ok (.iadd, 1) := by decide +kernel
theorem dL_would_35 : decode cL_would 35 = .ok (.istore 13, 2) := by decide +kernel
theorem dL_would_37 : decode cL_would 37 = .ok (.aload_n 2, 1) := by decide +kernel
theorem dL_would_38 : decode cL_would 38 = .ok (.aload 7, 2) := by decide +kernel
theorem dL_would_40 : decode cL_would 40 = .ok (.iconst 5, 1) := by decide +kernel
theorem dL_would_41 : decode cL_would 41 = .ok (.invokestatic 50, 3) := by decide +kernel
theorem dL_would_44 : decode cL_would 44 = .ok (.aload_n 3, 1) := by decide +kernel
theorem dL_would_45 : decode cL_would 45 = .ok (.aload 8, 2) := by decide +kernel
theorem dL_would_47 : decode cL_would 47 = .ok (.bipush 40, 2) := by decide +kernel
theorem dL_would_49 : decode cL_would 49 = .ok (.invokestatic 50, 3) := by decide +kernel
theorem dL_would_52 : decode cL_would 52 = .ok (.aload 4, 2) := by decide +kernel
theorem dL_would_54 : decode cL_would 54 = .ok (.aload 9, 2) := by decide +kernel
theorem dL_would_56 : decode cL_would 56 = .ok (.bipush 40, 2) := by decide +kernel
theorem dL_would_58 : decode cL_would 58 = .ok (.invokestatic 50, 3) := by decide +kernel
theorem dL_would_61 : decode cL_would 61 = .ok (.aload 6, 2) := by decide +kernel
theorem dL_would_63 : decode cL_would 63 = .ok (.aload 11, 2) := by decide +kernel
theorem dL_would_65 : decode cL_would 65 = .ok (.bipush 30, 2) := by decide +kernel
theorem dL_would_67 : decode cL_would 67 = .ok (.invokestatic 50, 3) := by decide +kernel
theorem dL_would_70 : decode cL_would 70 = .ok (.iconst 0, 1) := by decide +kernel
theorem dL_would_71 : decode cL_would 71 = .ok (.istore 14, 2) := by decide +kernel
theorem dL_would_73 : decode cL_would 73 = .ok (.iload 14, 2) := by decide +kernel
theorem dL_would_75 : decode cL_would 75 = .ok (.sipush 501, 3) := by decide +kernel
theorem dL_would_78 : decode cL_would 78 = .ok (.if_icmp .ge 36, 3) := by decide +kernel
theorem dL_would_81 : decode cL_would 81 = .ok (.aload 8, 2) := by decide +kernel
theorem dL_would_83 : decode cL_would 83 = .ok (.iload 12, 2) := by decide +kernel
theorem dL_would_85 : decode cL_would 85 = .ok (.iaload, 1) := by decide +kernel
theorem dL_would_86 : decode cL_would 86 = .ok (.invokestatic 10, 3) := by decide +kernel
theorem dL_would_89 : decode cL_would 89 = .ok (.iload 13, 2) := by decide +kernel
theorem dL_would_91 : decode cL_would 91 = .ok (.if_icmp .ge 23, 3) := by decide +kernel
theorem dL_would_94 : decode cL_would 94 = .ok (.aload 7, 2) := by decide +kernel
theorem dL_would_96 : decode cL_would 96 = .ok (.aload 8, 2) := by decide +kernel
theorem dL_would_98 : decode cL_would 98 = .ok (.aload 9, 2) := by decide +kernel
theorem dL_would_100 : decode cL_would 100 = .ok (.aload 5, 2) := by decide +kernel
theorem dL_would_102 : decode cL_would 102 = .ok (.aload 11, 2) := by decide +kernel
theorem dL_would_104 : decode cL_would 104 = .ok (.invokestatic 54, 3) := by decide +kernel
theorem dL_would_107 : decode cL_would 107 = .ok (.pop, 1) := by decide +kernel
theorem dL_would_108 : decode cL_would 108 = .ok (.iinc 14 1, 3) := by decide +kernel
theorem dL_would_111 : decode cL_would 111 = .ok (.goto (-38), 3) := by decide +kernel
theorem dL_would_114 : decode cL_would 114 = .ok (.aload_n 0, 1) := by decide +kernel
theorem dL_would_115 : decode cL_would 115 = .ok (.iload 12, 2) := by decide +kernel
theorem dL_would_117 : decode cL_would 117 = .ok (.iload 13, 2) := by decide +kernel
theorem dL_would_119 : decode cL_would 119 = .ok (.invokevirtual 58, 3) := by decide +kernel
theorem dL_would_122 : decode cL_would 122 = .ok (.iload 14, 2) := by decide +kernel
theorem dL_would_124 : decode cL_would 124 = .ok (.sipush 501, 3) := by decide +kernel
theorem dL_would_127 : decode cL_would 127 = .ok (.if_icmp .ge 8, 3) := by decide +kernel
theorem dL_would_130 : decode cL_would 130 = .ok (.iload 14, 2) := by decide +kernel
theorem dL_would_132 : decode cL_would 132 = .ok (.goto 5, 3) := by decide +kernel
theorem dL_would_135 : decode cL_would 135 = .ok (.bipush (-6), 2) := by decide +kernel
theorem dL_would_137 : decode cL_would 137 = .ok (.if_icmp .eq 5, 3) := by decide +kernel
theorem dL_would_140 : decode cL_would 140 = .ok (.iconst 0, 1) := by decide +kernel
theorem dL_would_141 : decode cL_would 141 = .ok (.ireturn, 1) := by decide +kernel
theorem dL_would_142 : decode cL_would 142 = .ok (.aload_n 3, 1) := by decide +kernel
theorem dL_would_143 : decode cL_would 143 = .ok (.aload 8, 2) := by decide +kernel
theorem dL_would_145 : decode cL_would 145 = .ok (.bipush 40, 2) := by decide +kernel
theorem dL_would_147 : decode cL_would 147 = .ok (.invokestatic 50, 3) := by decide +kernel
theorem dL_would_150 : decode cL_would 150 = .ok (.aload 4, 2) := by decide +kernel
theorem dL_would_152 : decode cL_would 152 = .ok (.aload 9, 2) := by decide +kernel
theorem dL_would_154 : decode cL_would 154 = .ok (.bipush 40, 2) := by decide +kernel
theorem dL_would_156 : decode cL_would 156 = .ok (.invokestatic 50, 3) := by decide +kernel
theorem dL_would_159 : decode cL_would 159 = .ok (.iconst 0, 1) := by decide +kernel
theorem dL_would_160 : decode cL_would 160 = .ok (.istore 15, 2) := by decide +kernel
theorem dL_would_162 : decode cL_would 162 = .ok (.iload 15, 2) := by decide +kernel
theorem dL_would_164 : decode cL_would 164 = .ok (.bipush 36, 2) := by decide +kernel
theorem dL_would_166 : decode cL_would 166 = .ok (.if_icmp .ge 15, 3) := by decide +kernel
theorem dL_would_169 : decode cL_would 169 = .ok (.aload 10, 2) := by decide +kernel
theorem dL_would_171 : decode cL_would 171 = .ok (.iload 15, 2) := by decide +kernel
theorem dL_would_173 : decode cL_would 173 = .ok (.iconst 0, 1) := by decide +kernel
theorem dL_would_174 : decode cL_would 174 = .ok (.iastore, 1) := by decide +kernel
theorem dL_would_175 : decode cL_would 175 = .ok (.iinc 15 1, 3) := by decide +kernel
theorem dL_would_178 : decode cL_would 178 = .ok (.goto (-16), 3) := by decide +kernel
theorem dL_would_181 : decode cL_would 181 = .ok (.iconst 0, 1) := by decide +kernel
theorem dL_would_182 : decode cL_would 182 = .ok (.istore 14, 2) := by decide +kernel
theorem dL_would_184 : decode cL_would 184 = .ok (.iconst 0, 1) := by decide +kernel
theorem dL_would_185 : decode cL_would 185 = .ok (.istore 15, 2) := by decide +kernel
theorem dL_would_187 : decode cL_would 187 = .ok (.iload 14, 2) := by decide +kernel
theorem dL_would_189 : decode cL_would 189 = .ok (.sipush 501, 3) := by decide +kernel
theorem dL_would_192 : decode cL_would 192 = .ok (.if_icmp .ge 80, 3) := by decide +kernel
theorem dL_would_195 : decode cL_would 195 = .ok (.iload 15, 2) := by decide +kernel
theorem dL_would_197 : decode cL_would 197 = .ok (.ifCond .ne 75, 3) := by decide +kernel
theorem dL_would_200 : decode cL_would 200 = .ok (.iconst 1, 1) := by decide +kernel
theorem dL_would_201 : decode cL_would 201 = .ok (.istore 15, 2) := by decide +kernel
theorem dL_would_203 : decode cL_would 203 = .ok (.iconst 0, 1) := by decide +kernel
theorem dL_would_204 : decode cL_would 204 = .ok (.istore 16, 2) := by decide +kernel
theorem dL_would_206 : decode cL_would 206 = .ok (.iload 16, 2) := by decide +kernel
theorem dL_would_208 : decode cL_would 208 = .ok (.bipush 40, 2) := by decide +kernel
theorem dL_would_210 : decode cL_would 210 = .ok (.if_icmp .ge 37, 3) := by decide +kernel
theorem dL_would_213 : decode cL_would 213 = .ok (.iload 15, 2) := by decide +kernel
theorem dL_would_215 : decode cL_would 215 = .ok (.ifCond .eq 23, 3) := by decide +kernel
theorem dL_would_218 : decode cL_would 218 = .ok (.aload 8, 2) := by decide +kernel
theorem dL_would_220 : decode cL_would 220 = .ok (.iload 16, 2) := by decide +kernel
theorem dL_would_222 : decode cL_would 222 = .ok (.iaload, 1) := by decide +kernel
theorem dL_would_223 : decode cL_would 223 = .ok (.ifCond .ne 15, 3) := by decide +kernel
theorem dL_would_226 : decode cL_would 226 = .ok (.aload 9, 2) := by decide +kernel
theorem dL_would_228 : decode cL_would 228 = .ok (.iload 16, 2) := by decide +kernel
theorem dL_would_230 : decode cL_would 230 = .ok (.iaload, 1) := by decide +kernel
theorem dL_would_231 : decode cL_would 231 = .ok (.ifCond .ne 7, 3) := by decide +kernel
theorem dL_would_234 : decode cL_would 234 = .ok (.iconst 1, 1) := by decide +kernel
theorem dL_would_235 : decode cL_would 235 = .ok (.goto 4, 3) := by decide +kernel
theorem dL_would_238 : decode cL_would 238 = .ok (.iconst 0, 1) := by decide +kernel
theorem dL_would_239 : decode cL_would 239 = .ok (.istore 15, 2) := by decide +kernel
theorem dL_would_241 : decode cL_would 241 = .ok (.iinc 16 1, 3) := by decide +kernel
theorem dL_would_244 : decode cL_would 244 = .ok (.goto (-38), 3) := by decide +kernel
theorem dL_would_247 : decode cL_would 247 = .ok (.iload 15, 2) := by decide +kernel
theorem dL_would_249 : decode cL_would 249 = .ok (.ifCond .ne (-62), 3) := by decide +kernel
theorem dL_would_252 : decode cL_would 252 = .ok (.aload 7, 2) := by decide +kernel
theorem dL_would_254 : decode cL_would 254 = .ok (.aload 8, 2) := by decide +kernel
theorem dL_would_256 : decode cL_would 256 = .ok (.aload 9, 2) := by decide +kernel
theorem dL_would_258 : decode cL_would 258 = .ok (.aload 10, 2) := by decide +kernel
theorem dL_would_260 : decode cL_would 260 = .ok (.aload 11, 2) := by decide +kernel
theorem dL_would_262 : decode cL_would 262 = .ok (.invokestatic 54, 3) := by decide +kernel
theorem dL_would_265 : decode cL_would 265 = .ok (.pop, 1) := by decide +kernel
theorem dL_would_266 : decode cL_would 266 = .ok (.iinc 14 1, 3) := by decide +kernel
theorem dL_would_269 : decode cL_would 269 = .ok (.goto (-82), 3) := by decide +kernel
theorem dL_would_272 : decode cL_would 272 = .ok (.aload_n 0, 1) := by decide +kernel
theorem dL_would_273 : decode cL_would 273 = .ok (.invokevirtual 61, 3) := by decide +kernel
theorem dL_would_276 : decode cL_would 276 = .ok (.iload 14, 2) := by decide +kernel
theorem dL_would_278 : decode cL_would 278 = .ok (.sipush 501, 3) := by decide +kernel
theorem dL_would_281 : decode cL_would 281 = .ok (.if_icmp .ge 8, 3) := by decide +kernel
theorem dL_would_284 : decode cL_would 284 = .ok (.iload 14, 2) := by decide +kernel
theorem dL_would_286 : decode cL_would 286 = .ok (.goto 5, 3) := by decide +kernel
theorem dL_would_289 : decode cL_would 289 = .ok (.bipush (-6), 2) := by decide +kernel
theorem dL_would_291 : decode cL_would 291 = .ok (.if_icmp .eq 5, 3) := by decide +kernel
theorem dL_would_294 : decode cL_would 294 = .ok (.iconst 0, 1) := by decide +kernel
theorem dL_would_295 : decode cL_would 295 = .ok (.ireturn, 1) := by decide +kernel
theorem dL_would_296 : decode cL_would 296 = .ok (.aload_n 2, 1) := by decide +kernel
theorem dL_would_297 : decode cL_would 297 = .ok (.iconst 4, 1) := by decide +kernel
theorem dL_would_298 : decode cL_would 298 = .ok (.iaload, 1) := by decide +kernel
theorem dL_would_299 : decode cL_would 299 = .ok (.ifCond .ne 5, 3) := by decide +kernel
theorem dL_would_302 : decode cL_would 302 = .ok (.iconst 1, 1) := by decide +kernel
theorem dL_would_303 : decode cL_would 303 = .ok (.ireturn, 1) := by decide +kernel
theorem dL_would_304 : decode cL_would 304 = .ok (.iload_n 1, 1) := by decide +kernel
theorem dL_would_305 : decode cL_would 305 = .ok (.bipush 9, 2) := by decide +kernel
theorem dL_would_307 : decode cL_would 307 = .ok (.ishr, 1) := by decide +kernel
theorem dL_would_308 : decode cL_would 308 = .ok (.aload_n 2, 1) := by decide +kernel
theorem dL_would_309 : decode cL_would 309 = .ok (.iconst 4, 1) := by decide +kernel
theorem dL_would_310 : decode cL_would 310 = .ok (.iaload, 1) := by decide +kernel
theorem dL_would_311 : decode cL_would 311 = .ok (.invokestatic 47, 3) := by decide +kernel
theorem dL_would_314 : decode cL_would 314 = .ok (.istore 16, 2) := by decide +kernel
theorem dL_would_316 : decode cL_would 316 = .ok (.iconst 1, 1) := by decide +kernel
theorem dL_would_317 : decode cL_would 317 = .ok (.iload_n 1, 1) := by decide +kernel
theorem dL_would_318 : decode cL_would 318 = .ok (.bipush 12, 2) := by decide +kernel
theorem dL_would_320 : decode cL_would 320 = .ok (.ishr, 1) := by decide +kernel
theorem dL_would_321 : decode cL_would 321 = .ok (.bipush 40, 2) := by decide +kernel
theorem dL_would_323 : decode cL_would 323 = .ok (.invokestatic 47, 3) := by decide +kernel
theorem dL_would_326 : decode cL_would 326 = .ok (.iadd, 1) := by decide +kernel
theorem dL_would_327 : decode cL_would 327 = .ok (.istore 17, 2) := by decide +kernel
theorem dL_would_329 : decode cL_would 329 = .ok (.iconst (-1), 1) := by decide +kernel
theorem dL_would_330 : decode cL_would 330 = .ok (.istore 18, 2) := by decide +kernel
theorem dL_would_332 : decode cL_would 332 = .ok (.iconst 0, 1) := by decide +kernel
theorem dL_would_333 : decode cL_would 333 = .ok (.istore 19, 2) := by decide +kernel
theorem dL_would_335 : decode cL_would 335 = .ok (.iload 19, 2) := by decide +kernel
theorem dL_would_337 : decode cL_would 337 = .ok (.bipush 36, 2) := by decide +kernel
theorem dL_would_339 : decode cL_would 339 = .ok (.if_icmp .ge 37, 3) := by decide +kernel
theorem dL_would_342 : decode cL_would 342 = .ok (.iload 16, 2) := by decide +kernel
theorem dL_would_344 : decode cL_would 344 = .ok (.ifCond .lt 32, 3) := by decide +kernel
theorem dL_would_347 : decode cL_would 347 = .ok (.aload 5, 2) := by decide +kernel
theorem dL_would_349 : decode cL_would 349 = .ok (.iload 19, 2) := by decide +kernel
theorem dL_would_351 : decode cL_would 351 = .ok (.iaload, 1) := by decide +kernel
theorem dL_would_352 : decode cL_would 352 = .ok (.ifCond .ne 6, 3) := by decide +kernel
theorem dL_would_355 : decode cL_would 355 = .ok (.goto 15, 3) := by decide +kernel
theorem dL_would_358 : decode cL_would 358 = .ok (.aload 5, 2) := by decide +kernel
theorem dL_would_360 : decode cL_would 360 = .ok (.iload 19, 2) := by decide +kernel
theorem dL_would_362 : decode cL_would 362 = .ok (.iaload, 1) := by decide +kernel
theorem dL_would_363 : decode cL_would 363 = .ok (.iconst 1, 1) := by decide +kernel
theorem dL_would_364 : decode cL_would 364 = .ok (.isub, 1) := by decide +kernel
theorem dL_would_365 : decode cL_would 365 = .ok (.istore 18, 2) := by decide +kernel
theorem dL_would_367 : decode cL_would 367 = .ok (.iinc 16 (-1), 3) := by decide +kernel
theorem dL_would_370 : decode cL_would 370 = .ok (.iinc 19 1, 3) := by decide +kernel
theorem dL_would_373 : decode cL_would 373 = .ok (.goto (-38), 3) := by decide +kernel
theorem dL_would_376 : decode cL_would 376 = .ok (.iconst 0, 1) := by decide +kernel
theorem dL_would_377 : decode cL_would 377 = .ok (.istore 19, 2) := by decide +kernel
theorem dL_would_379 : decode cL_would 379 = .ok (.iconst (-1), 1) := by decide +kernel
theorem dL_would_380 : decode cL_would 380 = .ok (.istore 20, 2) := by decide +kernel
theorem dL_would_382 : decode cL_would 382 = .ok (.bipush 60, 2) := by decide +kernel
theorem dL_would_384 : decode cL_would 384 = .ok (.istore 21, 2) := by decide +kernel
theorem dL_would_386 : decode cL_would 386 = .ok (.iload 21, 2) := by decide +kernel
theorem dL_would_388 : decode cL_would 388 = .ok (.ifCond .le 132, 3) := by decide +kernel
theorem dL_would_391 : decode cL_would 391 = .ok (.aload_n 2, 1) := by decide +kernel
theorem dL_would_392 : decode cL_would 392 = .ok (.aload 7, 2) := by decide +kernel
theorem dL_would_394 : decode cL_would 394 = .ok (.iconst 5, 1) := by decide +kernel
theorem dL_would_395 : decode cL_would 395 = .ok (.invokestatic 50, 3) := by decide +kernel
theorem dL_would_398 : decode cL_would 398 = .ok (.aload_n 3, 1) := by decide +kernel
theorem dL_would_399 : decode cL_would 399 = .ok (.aload 8, 2) := by decide +kernel
theorem dL_would_401 : decode cL_would 401 = .ok (.bipush 40, 2) := by decide +kernel
theorem dL_would_403 : decode cL_would 403 = .ok (.invokestatic 50, 3) := by decide +kernel
theorem dL_would_406 : decode cL_would 406 = .ok (.aload 4, 2) := by decide +kernel
theorem dL_would_408 : decode cL_would 408 = .ok (.aload 9, 2) := by decide +kernel
theorem dL_would_410 : decode cL_would 410 = .ok (.bipush 40, 2) := by decide +kernel
theorem dL_would_412 : decode cL_would 412 = .ok (.invokestatic 50, 3) := by decide +kernel
theorem dL_would_415 : decode cL_would 415 = .ok (.aload 6, 2) := by decide +kernel
theorem dL_would_417 : decode cL_would 417 = .ok (.aload 11, 2) := by decide +kernel
theorem dL_would_419 : decode cL_would 419 = .ok (.bipush 30, 2) := by decide +kernel
theorem dL_would_421 : decode cL_would 421 = .ok (.invokestatic 50, 3) := by decide +kernel
theorem dL_would_424 : decode cL_would 424 = .ok (.aload 11, 2) := by decide +kernel
theorem dL_would_426 : decode cL_would 426 = .ok (.iconst 5, 1) := by decide +kernel
theorem dL_would_427 : decode cL_would 427 = .ok (.iload 18, 2) := by decide +kernel
theorem dL_would_429 : decode cL_would 429 = .ok (.imul, 1) := by decide +kernel
theorem dL_would_430 : decode cL_would 430 = .ok (.iconst 2, 1) := by decide +kernel
theorem dL_would_431 : decode cL_would 431 = .ok (.iadd, 1) := by decide +kernel
theorem dL_would_432 : decode cL_would 432 = .ok (.iload 21, 2) := by decide +kernel
theorem dL_would_434 : decode cL_would 434 = .ok (.iastore, 1) := by decide +kernel
theorem dL_would_435 : decode cL_would 435 = .ok (.iconst 0, 1) := by decide +kernel
theorem dL_would_436 : decode cL_would 436 = .ok (.istore 22, 2) := by decide +kernel
theorem dL_would_438 : decode cL_would 438 = .ok (.iconst 0, 1) := by decide +kernel
theorem dL_would_439 : decode cL_would 439 = .ok (.istore 23, 2) := by decide +kernel
theorem dL_would_441 : decode cL_would 441 = .ok (.iload 23, 2) := by decide +kernel
theorem dL_would_443 : decode cL_would 443 = .ok (.iload 17, 2) := by decide +kernel
theorem dL_would_445 : decode cL_would 445 = .ok (.if_icmp .ge 51, 3) := by decide +kernel
theorem dL_would_448 : decode cL_would 448 = .ok (.aload 7, 2) := by decide +kernel
theorem dL_would_450 : decode cL_would 450 = .ok (.aload 8, 2) := by decide +kernel
theorem dL_would_452 : decode cL_would 452 = .ok (.aload 9, 2) := by decide +kernel
theorem dL_would_454 : decode cL_would 454 = .ok (.aload 5, 2) := by decide +kernel
theorem dL_would_456 : decode cL_would 456 = .ok (.aload 11, 2) := by decide +kernel
theorem dL_would_458 : decode cL_would 458 = .ok (.invokestatic 54, 3) := by decide +kernel
theorem dL_would_461 : decode cL_would 461 = .ok (.pop, 1) := by decide +kernel
theorem dL_would_462 : decode cL_would 462 = .ok (.aload 8, 2) := by decide +kernel
theorem dL_would_464 : decode cL_would 464 = .ok (.iload 12, 2) := by decide +kernel
theorem dL_would_466 : decode cL_would 466 = .ok (.iaload, 1) := by decide +kernel
theorem dL_would_467 : decode cL_would 467 = .ok (.invokestatic 10, 3) := by decide +kernel
theorem dL_would_470 : decode cL_would 470 = .ok (.iload 22, 2) := by decide +kernel
theorem dL_would_472 : decode cL_would 472 = .ok (.if_icmp .le 14, 3) := by decide +kernel
theorem dL_would_475 : decode cL_would 475 = .ok (.aload 8, 2) := by decide +kernel
theorem dL_would_477 : decode cL_would 477 = .ok (.iload 12, 2) := by decide +kernel
theorem dL_would_479 : decode cL_would 479 = .ok (.iaload, 1) := by decide +kernel
theorem dL_would_480 : decode cL_would 480 = .ok (.invokestatic 10, 3) := by decide +kernel
theorem dL_would_483 : decode cL_would 483 = .ok (.goto 5, 3) := by decide +kernel
theorem dL_would_486 : decode cL_would 486 = .ok (.iload 22, 2) := by decide +kernel
theorem dL_would_488 : decode cL_would 488 = .ok (.istore 22, 2) := by decide +kernel
theorem dL_would_490 : decode cL_would 490 = .ok (.iinc 23 1, 3) := by decide +kernel
theorem dL_would_493 : decode cL_would 493 = .ok (.goto (-52), 3) := by decide +kernel
theorem dL_would_496 : decode cL_would 496 = .ok (.iload 22, 2) := by decide +kernel
theorem dL_would_498 : decode cL_would 498 = .ok (.iload 20, 2) := by decide +kernel
theorem dL_would_500 : decode cL_would 500 = .ok (.if_icmp .ge 6, 3) := by decide +kernel
theorem dL_would_503 : decode cL_would 503 = .ok (.goto 11, 3) := by decide +kernel
theorem dL_would_506 : decode cL_would 506 = .ok (.iload 22, 2) := by decide +kernel
theorem dL_would_508 : decode cL_would 508 = .ok (.istore 20, 2) := by decide +kernel
theorem dL_would_510 : decode cL_would 510 = .ok (.iload 21, 2) := by decide +kernel
theorem dL_would_512 : decode cL_would 512 = .ok (.istore 19, 2) := by decide +kernel
theorem dL_would_514 : decode cL_would 514 = .ok (.iinc 21 (-1), 3) := by decide +kernel
theorem dL_would_517 : decode cL_would 517 = .ok (.goto (-131), 3) := by decide +kernel
theorem dL_would_520 : decode cL_would 520 = .ok (.iload_n 1, 1) := by decide +kernel
theorem dL_would_521 : decode cL_would 521 = .ok (.bipush 9, 2) := by decide +kernel
theorem dL_would_523 : decode cL_would 523 = .ok (.ishr, 1) := by decide +kernel
theorem dL_would_524 : decode cL_would 524 = .ok (.aload_n 2, 1) := by decide +kernel
theorem dL_would_525 : decode cL_would 525 = .ok (.iconst 4, 1) := by decide +kernel
theorem dL_would_526 : decode cL_would 526 = .ok (.iaload, 1) := by decide +kernel
theorem dL_would_527 : decode cL_would 527 = .ok (.invokestatic 47, 3) := by decide +kernel
theorem dL_would_530 : decode cL_would 530 = .ok (.istore 16, 2) := by decide +kernel
theorem dL_would_532 : decode cL_would 532 = .ok (.aload_n 0, 1) := by decide +kernel
theorem dL_would_533 : decode cL_would 533 = .ok (.iload 16, 2) := by decide +kernel
theorem dL_would_535 : decode cL_would 535 = .ok (.iload 12, 2) := by decide +kernel
theorem dL_would_537 : decode cL_would 537 = .ok (.iload 17, 2) := by decide +kernel
theorem dL_would_539 : decode cL_would 539 = .ok (.iconst 0, 1) := by decide +kernel
theorem dL_would_540 : decode cL_would 540 = .ok (.invokevirtual 65, 3) := by decide +kernel
theorem dL_would_543 : decode cL_would 543 = .ok (.iload 19, 2) := by decide +kernel
theorem dL_would_545 : decode cL_would 545 = .ok (.if_icmp .ne 23, 3) := by decide +kernel
theorem dL_would_548 : decode cL_would 548 = .ok (.aload_n 0, 1) := by decide +kernel
theorem dL_would_549 : decode cL_would 549 = .ok (.iload 16, 2) := by decide +kernel
theorem dL_would_551 : decode cL_would 551 = .ok (.iload 12, 2) := by decide +kernel
theorem dL_would_553 : decode cL_would 553 = .ok (.iload 17, 2) := by decide +kernel
theorem dL_would_555 : decode cL_would 555 = .ok (.iconst 1, 1) := by decide +kernel
theorem dL_would_556 : decode cL_would 556 = .ok (.invokevirtual 65, 3) := by decide +kernel
theorem dL_would_559 : decode cL_would 559 = .ok (.iload 20, 2) := by decide +kernel
theorem dL_would_561 : decode cL_would 561 = .ok (.if_icmp .ne 7, 3) := by decide +kernel
theorem dL_would_564 : decode cL_would 564 = .ok (.iconst 1, 1) := by decide +kernel
theorem dL_would_565 : decode cL_would 565 = .ok (.goto 4, 3) := by decide +kernel
theorem dL_would_568 : decode cL_would 568 = .ok (.iconst 0, 1) := by decide +kernel
theorem dL_would_569 : decode cL_would 569 = .ok (.ireturn, 1) := by decide +kernel
