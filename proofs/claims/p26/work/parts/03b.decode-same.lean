theorem dL_same_0 : decode cL_same 0 = .ok (.iconst 0, 1) := by decide +kernel
theorem dL_same_1 : decode cL_same 1 = .ok (.istore 9, 2) := by decide +kernel
theorem dL_same_3 : decode cL_same 3 = .ok (.iconst 0, 1) := by decide +kernel
theorem dL_same_4 : decode cL_same 4 = .ok (.istore 10, 2) := by decide +kernel
theorem dL_same_6 : decode cL_same 6 = .ok (.iconst 0, 1) := by decide +kernel
theorem dL_same_7 : decode cL_same 7 = .ok (.istore 11, 2) := by decide +kernel
theorem dL_same_9 : decode cL_same 9 = .ok (.iconst 0, 1) := by decide +kernel
theorem dL_same_10 : decode cL_same 10 = .ok (.istore 12, 2) := by decide +kernel
theorem dL_same_12 : decode cL_same 12 = .ok (.iconst 0, 1) := by decide +kernel
theorem dL_same_13 : decode cL_same 13 = .ok (.istore 13, 2) := by decide +kernel
theorem dL_same_15 : decode cL_same 15 = .ok (.bipush (-6), 2) := by decide +kernel
theorem dL_same_17 : decode cL_same 17 = .ok (.istore 14, 2) := by decide +kernel
theorem dL_same_19 : decode cL_same 19 = .ok (.lconst 0, 1) := by decide +kernel
theorem dL_same_20 : decode cL_same 20 = .ok (.lstore 15, 2) := by decide +kernel
theorem dL_same_22 : decode cL_same 22 = .ok (.lconst 0, 1) := by decide +kernel
theorem dL_same_23 : decode cL_same 23 = .ok (.lstore 17, 2) := by decide +kernel
theorem dL_same_25 : decode cL_same 25 = .ok (.lconst 0, 1) := by decide +kernel
theorem dL_same_26 : decode cL_same 26 = .ok (.lstore 19, 2) := by decide +kernel
theorem dL_same_28 : decode cL_same 28 = .ok (.lconst 0, 1) := by decide +kernel
theorem dL_same_29 : decode cL_same 29 = .ok (.lstore 21, 2) := by decide +kernel
theorem dL_same_31 : decode cL_same 31 = .ok (.lconst 0, 1) := by decide +kernel
theorem dL_same_32 : decode cL_same 32 = .ok (.lstore 23, 2) := by decide +kernel
theorem dL_same_34 : decode cL_same 34 = .ok (.iconst 0, 1) := by decide +kernel
theorem dL_same_35 : decode cL_same 35 = .ok (.istore 25, 2) := by decide +kernel
theorem dL_same_37 : decode cL_same 37 = .ok (.iload 25, 2) := by decide +kernel
theorem dL_same_39 : decode cL_same 39 = .ok (.bipush 40, 2) := by decide +kernel
theorem dL_same_41 : decode cL_same 41 = .ok (.if_icmp .ge 530, 3) := by decide +kernel
theorem dL_same_44 : decode cL_same 44 = .ok (.iload 25, 2) := by decide +kernel
theorem dL_same_46 : decode cL_same 46 = .ok (.ifCond .le 14, 3) := by decide +kernel
theorem dL_same_49 : decode cL_same 49 = .ok (.iload 25, 2) := by decide +kernel
theorem dL_same_51 : decode cL_same 51 = .ok (.bipush 39, 2) := by decide +kernel
theorem dL_same_53 : decode cL_same 53 = .ok (.if_icmp .ge 7, 3) := by decide +kernel
theorem dL_same_56 : decode cL_same 56 = .ok (.iconst 1, 1) := by decide +kernel
theorem dL_same_57 : decode cL_same 57 = .ok (.goto 4, 3) := by decide +kernel
theorem dL_same_60 : decode cL_same 60 = .ok (.iconst 0, 1) := by decide +kernel
theorem dL_same_61 : decode cL_same 61 = .ok (.istore 26, 2) := by decide +kernel
theorem dL_same_63 : decode cL_same 63 = .ok (.iload 26, 2) := by decide +kernel
theorem dL_same_65 : decode cL_same 65 = .ok (.ifCond .eq 33, 3) := by decide +kernel
theorem dL_same_68 : decode cL_same 68 = .ok (.aload_n 3, 1) := by decide +kernel
theorem dL_same_69 : decode cL_same 69 = .ok (.iload 25, 2) := by decide +kernel
theorem dL_same_71 : decode cL_same 71 = .ok (.iaload, 1) := by decide +kernel
theorem dL_same_72 : decode cL_same 72 = .ok (.aload_n 3, 1) := by decide +kernel
theorem dL_same_73 : decode cL_same 73 = .ok (.iload 25, 2) := by decide +kernel
theorem dL_same_75 : decode cL_same 75 = .ok (.iconst 1, 1) := by decide +kernel
theorem dL_same_76 : decode cL_same 76 = .ok (.isub, 1) := by decide +kernel
theorem dL_same_77 : decode cL_same 77 = .ok (.iaload, 1) := by decide +kernel
theorem dL_same_78 : decode cL_same 78 = .ok (.if_icmp .le 20, 3) := by decide +kernel
theorem dL_same_81 : decode cL_same 81 = .ok (.aload_n 3, 1) := by decide +kernel
theorem dL_same_82 : decode cL_same 82 = .ok (.iload 25, 2) := by decide +kernel
theorem dL_same_84 : decode cL_same 84 = .ok (.iaload, 1) := by decide +kernel
theorem dL_same_85 : decode cL_same 85 = .ok (.aload_n 3, 1) := by decide +kernel
theorem dL_same_86 : decode cL_same 86 = .ok (.iload 25, 2) := by decide +kernel
theorem dL_same_88 : decode cL_same 88 = .ok (.iconst 1, 1) := by decide +kernel
theorem dL_same_89 : decode cL_same 89 = .ok (.iadd, 1) := by decide +kernel
theorem dL_same_90 : decode cL_same 90 = .ok (.iaload, 1) := by decide +kernel
theorem dL_same_91 : decode cL_same 91 = .ok (.if_icmp .le 7, 3) := by decide +kernel
theorem dL_same_94 : decode cL_same 94 = .ok (.iconst 1, 1) := by decide +kernel
theorem dL_same_95 : decode cL_same 95 = .ok (.goto 4, 3) := by decide +kernel
theorem dL_same_98 : decode cL_same 98 = .ok (.iconst 0, 1) := by decide +kernel
theorem dL_same_99 : decode cL_same 99 = .ok (.istore 27, 2) := by decide +kernel
theorem dL_same_101 : decode cL_same 101 = .ok (.iload 26, 2) := by decide +kernel
theorem dL_same_103 : decode cL_same 103 = .ok (.ifCond .eq 33, 3) := by decide +kernel
theorem dL_same_106 : decode cL_same 106 = .ok (.aload_n 3, 1) := by decide +kernel
theorem dL_same_107 : decode cL_same 107 = .ok (.iload 25, 2) := by decide +kernel
theorem dL_same_109 : decode cL_same 109 = .ok (.iaload, 1) := by decide +kernel
theorem dL_same_110 : decode cL_same 110 = .ok (.aload_n 3, 1) := by decide +kernel
theorem dL_same_111 : decode cL_same 111 = .ok (.iload 25, 2) := by decide +kernel
theorem dL_same_113 : decode cL_same 113 = .ok (.iconst 1, 1) := by decide +kernel
theorem dL_same_114 : decode cL_same 114 = .ok (.isub, 1) := by decide +kernel
theorem dL_same_115 : decode cL_same 115 = .ok (.iaload, 1) := by decide +kernel
theorem dL_same_116 : decode cL_same 116 = .ok (.if_icmp .ge 20, 3) := by decide +kernel
theorem dL_same_119 : decode cL_same 119 = .ok (.aload_n 3, 1) := by decide +kernel
theorem dL_same_120 : decode cL_same 120 = .ok (.iload 25, 2) := by decide +kernel
theorem dL_same_122 : decode cL_same 122 = .ok (.iaload, 1) := by decide +kernel
theorem dL_same_123 : decode cL_same 123 = .ok (.aload_n 3, 1) := by decide +kernel
theorem dL_same_124 : decode cL_same 124 = .ok (.iload 25, 2) := by decide +kernel
theorem dL_same_126 : decode cL_same 126 = .ok (.iconst 1, 1) := by decide +kernel
theorem dL_same_127 : decode cL_same 127 = .ok (.iadd, 1) := by decide +kernel
theorem dL_same_128 : decode cL_same 128 = .ok (.iaload, 1) := by decide +kernel
theorem dL_same_129 : decode cL_same 129 = .ok (.if_icmp .ge 7, 3) := by decide +kernel
theorem dL_same_132 : decode cL_same 132 = .ok (.iconst 1, 1) := by decide +kernel
theorem dL_same_133 : decode cL_same 133 = .ok (.goto 4, 3) := by decide +kernel
theorem dL_same_136 : decode cL_same 136 = .ok (.iconst 0, 1) := by decide +kernel
theorem dL_same_137 : decode cL_same 137 = .ok (.istore 28, 2) := by decide +kernel
theorem dL_same_139 : decode cL_same 139 = .ok (.aload_n 0, 1) := by decide +kernel
theorem dL_same_140 : decode cL_same 140 = .ok (.iload 25, 2) := by decide +kernel
theorem dL_same_142 : decode cL_same 142 = .ok (.iconst 0, 1) := by decide +kernel
theorem dL_same_143 : decode cL_same 143 = .ok (.invokevirtual 23, 3) := by decide +kernel
theorem dL_same_146 : decode cL_same 146 = .ok (.aload_n 3, 1) := by decide +kernel
theorem dL_same_147 : decode cL_same 147 = .ok (.iload 25, 2) := by decide +kernel
theorem dL_same_149 : decode cL_same 149 = .ok (.iaload, 1) := by decide +kernel
theorem dL_same_150 : decode cL_same 150 = .ok (.sipush 10000, 3) := by decide +kernel
theorem dL_same_153 : decode cL_same 153 = .ok (.iadd, 1) := by decide +kernel
theorem dL_same_154 : decode cL_same 154 = .ok (.if_icmp .ne 62, 3) := by decide +kernel
theorem dL_same_157 : decode cL_same 157 = .ok (.aload_n 0, 1) := by decide +kernel
theorem dL_same_158 : decode cL_same 158 = .ok (.iload 25, 2) := by decide +kernel
theorem dL_same_160 : decode cL_same 160 = .ok (.iconst 1, 1) := by decide +kernel
theorem dL_same_161 : decode cL_same 161 = .ok (.invokevirtual 23, 3) := by decide +kernel
theorem dL_same_164 : decode cL_same 164 = .ok (.aload 4, 2) := by decide +kernel
theorem dL_same_166 : decode cL_same 166 = .ok (.iload 25, 2) := by decide +kernel
theorem dL_same_168 : decode cL_same 168 = .ok (.iaload, 1) := by decide +kernel
theorem dL_same_169 : decode cL_same 169 = .ok (.sipush 10000, 3) := by decide +kernel
theorem dL_same_172 : decode cL_same 172 = .ok (.iadd, 1) := by decide +kernel
theorem dL_same_173 : decode cL_same 173 = .ok (.if_icmp .ne 43, 3) := by decide +kernel
theorem dL_same_176 : decode cL_same 176 = .ok (.aload_n 0, 1) := by decide +kernel
theorem dL_same_177 : decode cL_same 177 = .ok (.iload 25, 2) := by decide +kernel
theorem dL_same_179 : decode cL_same 179 = .ok (.iconst 2, 1) := by decide +kernel
theorem dL_same_180 : decode cL_same 180 = .ok (.invokevirtual 23, 3) := by decide +kernel
theorem dL_same_183 : decode cL_same 183 = .ok (.iload 27, 2) := by decide +kernel
theorem dL_same_185 : decode cL_same 185 = .ok (.ifCond .eq 7, 3) := by decide +kernel
theorem dL_same_188 : decode cL_same 188 = .ok (.iconst 1, 1) := by decide +kernel
theorem dL_same_189 : decode cL_same 189 = .ok (.goto 4, 3) := by decide +kernel
theorem dL_same_192 : decode cL_same 192 = .ok (.iconst 0, 1) := by decide +kernel
theorem dL_same_193 : decode cL_same 193 = .ok (.if_icmp .ne 23, 3) := by decide +kernel
theorem dL_same_196 : decode cL_same 196 = .ok (.aload_n 0, 1) := by decide +kernel
theorem dL_same_197 : decode cL_same 197 = .ok (.iload 25, 2) := by decide +kernel
theorem dL_same_199 : decode cL_same 199 = .ok (.iconst 3, 1) := by decide +kernel
theorem dL_same_200 : decode cL_same 200 = .ok (.invokevirtual 23, 3) := by decide +kernel
theorem dL_same_203 : decode cL_same 203 = .ok (.iload 28, 2) := by decide +kernel
theorem dL_same_205 : decode cL_same 205 = .ok (.ifCond .eq 7, 3) := by decide +kernel
theorem dL_same_208 : decode cL_same 208 = .ok (.iconst 1, 1) := by decide +kernel
theorem dL_same_209 : decode cL_same 209 = .ok (.goto 4, 3) := by decide +kernel
theorem dL_same_212 : decode cL_same 212 = .ok (.iconst 0, 1) := by decide +kernel
theorem dL_same_213 : decode cL_same 213 = .ok (.if_icmp .eq 5, 3) := by decide +kernel
theorem dL_same_216 : decode cL_same 216 = .ok (.iconst 0, 1) := by decide +kernel
theorem dL_same_217 : decode cL_same 217 = .ok (.ireturn, 1) := by decide +kernel
theorem dL_same_218 : decode cL_same 218 = .ok (.lload 15, 2) := by decide +kernel
theorem dL_same_220 : decode cL_same 220 = .ok (.iload 27, 2) := by decide +kernel
theorem dL_same_222 : decode cL_same 222 = .ok (.ifCond .eq 10, 3) := by decide +kernel
theorem dL_same_225 : decode cL_same 225 = .ok (.lconst 1, 1) := by decide +kernel
theorem dL_same_226 : decode cL_same 226 = .ok (.iload 25, 2) := by decide +kernel
theorem dL_same_228 : decode cL_same 228 = .ok (.lshl, 1) := by decide +kernel
theorem dL_same_229 : decode cL_same 229 = .ok (.goto 4, 3) := by decide +kernel
theorem dL_same_232 : decode cL_same 232 = .ok (.lconst 0, 1) := by decide +kernel
theorem dL_same_233 : decode cL_same 233 = .ok (.lor, 1) := by decide +kernel
theorem dL_same_234 : decode cL_same 234 = .ok (.lstore 15, 2) := by decide +kernel
theorem dL_same_236 : decode cL_same 236 = .ok (.lload 17, 2) := by decide +kernel
theorem dL_same_238 : decode cL_same 238 = .ok (.iload 28, 2) := by decide +kernel
theorem dL_same_240 : decode cL_same 240 = .ok (.ifCond .eq 10, 3) := by decide +kernel
theorem dL_same_243 : decode cL_same 243 = .ok (.lconst 1, 1) := by decide +kernel
theorem dL_same_244 : decode cL_same 244 = .ok (.iload 25, 2) := by decide +kernel
theorem dL_same_246 : decode cL_same 246 = .ok (.lshl, 1) := by decide +kernel
theorem dL_same_247 : decode cL_same 247 = .ok (.goto 4, 3) := by decide +kernel
theorem dL_same_250 : decode cL_same 250 = .ok (.lconst 0, 1) := by decide +kernel
theorem dL_same_251 : decode cL_same 251 = .ok (.lor, 1) := by decide +kernel
theorem dL_same_252 : decode cL_same 252 = .ok (.lstore 17, 2) := by decide +kernel
theorem dL_same_254 : decode cL_same 254 = .ok (.lload 19, 2) := by decide +kernel
theorem dL_same_256 : decode cL_same 256 = .ok (.aload_n 3, 1) := by decide +kernel
theorem dL_same_257 : decode cL_same 257 = .ok (.iload 25, 2) := by decide +kernel
theorem dL_same_259 : decode cL_same 259 = .ok (.iaload, 1) := by decide +kernel
theorem dL_same_260 : decode cL_same 260 = .ok (.ifCond .eq 10, 3) := by decide +kernel
theorem dL_same_263 : decode cL_same 263 = .ok (.lconst 1, 1) := by decide +kernel
theorem dL_same_264 : decode cL_same 264 = .ok (.iload 25, 2) := by decide +kernel
theorem dL_same_266 : decode cL_same 266 = .ok (.lshl, 1) := by decide +kernel
theorem dL_same_267 : decode cL_same 267 = .ok (.goto 4, 3) := by decide +kernel
theorem dL_same_270 : decode cL_same 270 = .ok (.lconst 0, 1) := by decide +kernel
theorem dL_same_271 : decode cL_same 271 = .ok (.lor, 1) := by decide +kernel
theorem dL_same_272 : decode cL_same 272 = .ok (.lstore 19, 2) := by decide +kernel
theorem dL_same_274 : decode cL_same 274 = .ok (.aload_n 3, 1) := by decide +kernel
theorem dL_same_275 : decode cL_same 275 = .ok (.iload 25, 2) := by decide +kernel
theorem dL_same_277 : decode cL_same 277 = .ok (.iaload, 1) := by decide +kernel
theorem dL_same_278 : decode cL_same 278 = .ok (.ifCond .eq 8, 3) := by decide +kernel
theorem dL_same_281 : decode cL_same 281 = .ok (.iload 25, 2) := by decide +kernel
theorem dL_same_283 : decode cL_same 283 = .ok (.goto 5, 3) := by decide +kernel
theorem dL_same_286 : decode cL_same 286 = .ok (.iload 14, 2) := by decide +kernel
theorem dL_same_288 : decode cL_same 288 = .ok (.istore 14, 2) := by decide +kernel
theorem dL_same_290 : decode cL_same 290 = .ok (.iload 11, 2) := by decide +kernel
theorem dL_same_292 : decode cL_same 292 = .ok (.aload_n 3, 1) := by decide +kernel
theorem dL_same_293 : decode cL_same 293 = .ok (.iload 25, 2) := by decide +kernel
theorem dL_same_295 : decode cL_same 295 = .ok (.iaload, 1) := by decide +kernel
theorem dL_same_296 : decode cL_same 296 = .ok (.iadd, 1) := by decide +kernel
theorem dL_same_297 : decode cL_same 297 = .ok (.istore 11, 2) := by decide +kernel
theorem dL_same_299 : decode cL_same 299 = .ok (.iload 12, 2) := by decide +kernel
theorem dL_same_301 : decode cL_same 301 = .ok (.aload_n 3, 1) := by decide +kernel
theorem dL_same_302 : decode cL_same 302 = .ok (.iload 25, 2) := by decide +kernel
theorem dL_same_304 : decode cL_same 304 = .ok (.iaload, 1) := by decide +kernel
theorem dL_same_305 : decode cL_same 305 = .ok (.invokestatic 10, 3) := by decide +kernel
theorem dL_same_308 : decode cL_same 308 = .ok (.aload 4, 2) := by decide +kernel
theorem dL_same_310 : decode cL_same 310 = .ok (.iload 25, 2) := by decide +kernel
theorem dL_same_312 : decode cL_same 312 = .ok (.iaload, 1) := by decide +kernel
theorem dL_same_313 : decode cL_same 313 = .ok (.invokestatic 10, 3) := by decide +kernel
theorem dL_same_316 : decode cL_same 316 = .ok (.iadd, 1) := by decide +kernel
theorem dL_same_317 : decode cL_same 317 = .ok (.iadd, 1) := by decide +kernel
theorem dL_same_318 : decode cL_same 318 = .ok (.istore 12, 2) := by decide +kernel
theorem dL_same_320 : decode cL_same 320 = .ok (.aload_n 3, 1) := by decide +kernel
theorem dL_same_321 : decode cL_same 321 = .ok (.iload 25, 2) := by decide +kernel
theorem dL_same_323 : decode cL_same 323 = .ok (.iaload, 1) := by decide +kernel
theorem dL_same_324 : decode cL_same 324 = .ok (.invokestatic 10, 3) := by decide +kernel
theorem dL_same_327 : decode cL_same 327 = .ok (.iload 13, 2) := by decide +kernel
theorem dL_same_329 : decode cL_same 329 = .ok (.if_icmp .le 13, 3) := by decide +kernel
theorem dL_same_332 : decode cL_same 332 = .ok (.aload_n 3, 1) := by decide +kernel
theorem dL_same_333 : decode cL_same 333 = .ok (.iload 25, 2) := by decide +kernel
theorem dL_same_335 : decode cL_same 335 = .ok (.iaload, 1) := by decide +kernel
theorem dL_same_336 : decode cL_same 336 = .ok (.invokestatic 10, 3) := by decide +kernel
theorem dL_same_339 : decode cL_same 339 = .ok (.goto 5, 3) := by decide +kernel
theorem dL_same_342 : decode cL_same 342 = .ok (.iload 13, 2) := by decide +kernel
theorem dL_same_344 : decode cL_same 344 = .ok (.istore 13, 2) := by decide +kernel
theorem dL_same_346 : decode cL_same 346 = .ok (.iload 25, 2) := by decide +kernel
theorem dL_same_348 : decode cL_same 348 = .ok (.bipush 36, 2) := by decide +kernel
theorem dL_same_350 : decode cL_same 350 = .ok (.if_icmp .ge 13, 3) := by decide +kernel
theorem dL_same_353 : decode cL_same 353 = .ok (.aload 5, 2) := by decide +kernel
theorem dL_same_355 : decode cL_same 355 = .ok (.iload 25, 2) := by decide +kernel
theorem dL_same_357 : decode cL_same 357 = .ok (.iaload, 1) := by decide +kernel
theorem dL_same_358 : decode cL_same 358 = .ok (.iconst 1, 1) := by decide +kernel
theorem dL_same_359 : decode cL_same 359 = .ok (.isub, 1) := by decide +kernel
theorem dL_same_360 : decode cL_same 360 = .ok (.goto 4, 3) := by decide +kernel
theorem dL_same_363 : decode cL_same 363 = .ok (.iconst (-1), 1) := by decide +kernel
theorem dL_same_364 : decode cL_same 364 = .ok (.istore 29, 2) := by decide +kernel
theorem dL_same_366 : decode cL_same 366 = .ok (.iload 29, 2) := by decide +kernel
theorem dL_same_368 : decode cL_same 368 = .ok (.ifCond .ge 6, 3) := by decide +kernel
theorem dL_same_371 : decode cL_same 371 = .ok (.goto 194, 3) := by decide +kernel
theorem dL_same_374 : decode cL_same 374 = .ok (.lload 21, 2) := by decide +kernel
theorem dL_same_376 : decode cL_same 376 = .ok (.lconst 1, 1) := by decide +kernel
theorem dL_same_377 : decode cL_same 377 = .ok (.iload 25, 2) := by decide +kernel
theorem dL_same_379 : decode cL_same 379 = .ok (.lshl, 1) := by decide +kernel
theorem dL_same_380 : decode cL_same 380 = .ok (.lor, 1) := by decide +kernel
theorem dL_same_381 : decode cL_same 381 = .ok (.lstore 21, 2) := by decide +kernel
theorem dL_same_383 : decode cL_same 383 = .ok (.lload 23, 2) := by decide +kernel
theorem dL_same_385 : decode cL_same 385 = .ok (.aload 6, 2) := by decide +kernel
theorem dL_same_387 : decode cL_same 387 = .ok (.iconst 5, 1) := by decide +kernel
theorem dL_same_388 : decode cL_same 388 = .ok (.iload 29, 2) := by decide +kernel
theorem dL_same_390 : decode cL_same 390 = .ok (.imul, 1) := by decide +kernel
theorem dL_same_391 : decode cL_same 391 = .ok (.iconst 4, 1) := by decide +kernel
theorem dL_same_392 : decode cL_same 392 = .ok (.iadd, 1) := by decide +kernel
theorem dL_same_393 : decode cL_same 393 = .ok (.iaload, 1) := by decide +kernel
theorem dL_same_394 : decode cL_same 394 = .ok (.ifCond .ne 10, 3) := by decide +kernel
theorem dL_same_397 : decode cL_same 397 = .ok (.lconst 1, 1) := by decide +kernel
theorem dL_same_398 : decode cL_same 398 = .ok (.iload 25, 2) := by decide +kernel
theorem dL_same_400 : decode cL_same 400 = .ok (.lshl, 1) := by decide +kernel
theorem dL_same_401 : decode cL_same 401 = .ok (.goto 4, 3) := by decide +kernel
theorem dL_same_404 : decode cL_same 404 = .ok (.lconst 0, 1) := by decide +kernel
theorem dL_same_405 : decode cL_same 405 = .ok (.lor, 1) := by decide +kernel
theorem dL_same_406 : decode cL_same 406 = .ok (.lstore 23, 2) := by decide +kernel
theorem dL_same_408 : decode cL_same 408 = .ok (.iload 9, 2) := by decide +kernel
theorem dL_same_410 : decode cL_same 410 = .ok (.iconst 1, 1) := by decide +kernel
theorem dL_same_411 : decode cL_same 411 = .ok (.aload 6, 2) := by decide +kernel
theorem dL_same_413 : decode cL_same 413 = .ok (.iconst 5, 1) := by decide +kernel
theorem dL_same_414 : decode cL_same 414 = .ok (.iload 29, 2) := by decide +kernel
theorem dL_same_416 : decode cL_same 416 = .ok (.imul, 1) := by decide +kernel
theorem dL_same_417 : decode cL_same 417 = .ok (.iconst 4, 1) := by decide +kernel
theorem dL_same_418 : decode cL_same 418 = .ok (.iadd, 1) := by decide +kernel
theorem dL_same_419 : decode cL_same 419 = .ok (.iaload, 1) := by decide +kernel
theorem dL_same_420 : decode cL_same 420 = .ok (.isub, 1) := by decide +kernel
theorem dL_same_421 : decode cL_same 421 = .ok (.iadd, 1) := by decide +kernel
theorem dL_same_422 : decode cL_same 422 = .ok (.istore 9, 2) := by decide +kernel
theorem dL_same_424 : decode cL_same 424 = .ok (.iload 10, 2) := by decide +kernel
theorem dL_same_426 : decode cL_same 426 = .ok (.iinc 10 1, 3) := by decide +kernel
theorem dL_same_429 : decode cL_same 429 = .ok (.istore 30, 2) := by decide +kernel
theorem dL_same_431 : decode cL_same 431 = .ok (.aload_n 0, 1) := by decide +kernel
theorem dL_same_432 : decode cL_same 432 = .ok (.iload 30, 2) := by decide +kernel
theorem dL_same_434 : decode cL_same 434 = .ok (.iconst 0, 1) := by decide +kernel
theorem dL_same_435 : decode cL_same 435 = .ok (.invokevirtual 29, 3) := by decide +kernel
theorem dL_same_438 : decode cL_same 438 = .ok (.iload 25, 2) := by decide +kernel
theorem dL_same_440 : decode cL_same 440 = .ok (.if_icmp .ne 123, 3) := by decide +kernel
theorem dL_same_443 : decode cL_same 443 = .ok (.aload_n 0, 1) := by decide +kernel
theorem dL_same_444 : decode cL_same 444 = .ok (.iload 30, 2) := by decide +kernel
theorem dL_same_446 : decode cL_same 446 = .ok (.iconst 1, 1) := by decide +kernel
theorem dL_same_447 : decode cL_same 447 = .ok (.invokevirtual 29, 3) := by decide +kernel
theorem dL_same_450 : decode cL_same 450 = .ok (.aload 6, 2) := by decide +kernel
theorem dL_same_452 : decode cL_same 452 = .ok (.iconst 5, 1) := by decide +kernel
theorem dL_same_453 : decode cL_same 453 = .ok (.iload 29, 2) := by decide +kernel
theorem dL_same_455 : decode cL_same 455 = .ok (.imul, 1) := by decide +kernel
theorem dL_same_456 : decode cL_same 456 = .ok (.iaload, 1) := by decide +kernel
theorem dL_same_457 : decode cL_same 457 = .ok (.if_icmp .ne 106, 3) := by decide +kernel
theorem dL_same_460 : decode cL_same 460 = .ok (.aload_n 0, 1) := by decide +kernel
theorem dL_same_461 : decode cL_same 461 = .ok (.iload 30, 2) := by decide +kernel
theorem dL_same_463 : decode cL_same 463 = .ok (.iconst 2, 1) := by decide +kernel
theorem dL_same_464 : decode cL_same 464 = .ok (.invokevirtual 29, 3) := by decide +kernel
theorem dL_same_467 : decode cL_same 467 = .ok (.aload 6, 2) := by decide +kernel
theorem dL_same_469 : decode cL_same 469 = .ok (.iconst 5, 1) := by decide +kernel
theorem dL_same_470 : decode cL_same 470 = .ok (.iload 29, 2) := by decide +kernel
theorem dL_same_472 : decode cL_same 472 = .ok (.imul, 1) := by decide +kernel
theorem dL_same_473 : decode cL_same 473 = .ok (.iconst 1, 1) := by decide +kernel
theorem dL_same_474 : decode cL_same 474 = .ok (.iadd, 1) := by decide +kernel
theorem dL_same_475 : decode cL_same 475 = .ok (.iaload, 1) := by decide +kernel
theorem dL_same_476 : decode cL_same 476 = .ok (.sipush 1000, 3) := by decide +kernel
theorem dL_same_479 : decode cL_same 479 = .ok (.iadd, 1) := by decide +kernel
theorem dL_same_480 : decode cL_same 480 = .ok (.if_icmp .ne 83, 3) := by decide +kernel
theorem dL_same_483 : decode cL_same 483 = .ok (.aload_n 0, 1) := by decide +kernel
theorem dL_same_484 : decode cL_same 484 = .ok (.iload 30, 2) := by decide +kernel
theorem dL_same_486 : decode cL_same 486 = .ok (.iconst 3, 1) := by decide +kernel
theorem dL_same_487 : decode cL_same 487 = .ok (.invokevirtual 29, 3) := by decide +kernel
theorem dL_same_490 : decode cL_same 490 = .ok (.aload 6, 2) := by decide +kernel
theorem dL_same_492 : decode cL_same 492 = .ok (.iconst 5, 1) := by decide +kernel
theorem dL_same_493 : decode cL_same 493 = .ok (.iload 29, 2) := by decide +kernel
theorem dL_same_495 : decode cL_same 495 = .ok (.imul, 1) := by decide +kernel
theorem dL_same_496 : decode cL_same 496 = .ok (.iconst 2, 1) := by decide +kernel
theorem dL_same_497 : decode cL_same 497 = .ok (.iadd, 1) := by decide +kernel
theorem dL_same_498 : decode cL_same 498 = .ok (.iaload, 1) := by decide +kernel
theorem dL_same_499 : decode cL_same 499 = .ok (.if_icmp .ne 64, 3) := by decide +kernel
theorem dL_same_502 : decode cL_same 502 = .ok (.aload_n 0, 1) := by decide +kernel
theorem dL_same_503 : decode cL_same 503 = .ok (.iload 30, 2) := by decide +kernel
theorem dL_same_505 : decode cL_same 505 = .ok (.iconst 4, 1) := by decide +kernel
theorem dL_same_506 : decode cL_same 506 = .ok (.invokevirtual 29, 3) := by decide +kernel
theorem dL_same_509 : decode cL_same 509 = .ok (.aload 6, 2) := by decide +kernel
theorem dL_same_511 : decode cL_same 511 = .ok (.iconst 5, 1) := by decide +kernel
theorem dL_same_512 : decode cL_same 512 = .ok (.iload 29, 2) := by decide +kernel
theorem dL_same_514 : decode cL_same 514 = .ok (.imul, 1) := by decide +kernel
theorem dL_same_515 : decode cL_same 515 = .ok (.iconst 3, 1) := by decide +kernel
theorem dL_same_516 : decode cL_same 516 = .ok (.iadd, 1) := by decide +kernel
theorem dL_same_517 : decode cL_same 517 = .ok (.iaload, 1) := by decide +kernel
theorem dL_same_518 : decode cL_same 518 = .ok (.if_icmp .ne 45, 3) := by decide +kernel
theorem dL_same_521 : decode cL_same 521 = .ok (.aload_n 0, 1) := by decide +kernel
theorem dL_same_522 : decode cL_same 522 = .ok (.iload 30, 2) := by decide +kernel
theorem dL_same_524 : decode cL_same 524 = .ok (.iconst 5, 1) := by decide +kernel
theorem dL_same_525 : decode cL_same 525 = .ok (.invokevirtual 29, 3) := by decide +kernel
theorem dL_same_528 : decode cL_same 528 = .ok (.aload 6, 2) := by decide +kernel
theorem dL_same_530 : decode cL_same 530 = .ok (.iconst 5, 1) := by decide +kernel
theorem dL_same_531 : decode cL_same 531 = .ok (.iload 29, 2) := by decide +kernel
theorem dL_same_533 : decode cL_same 533 = .ok (.imul, 1) := by decide +kernel
theorem dL_same_534 : decode cL_same 534 = .ok (.iconst 4, 1) := by decide +kernel
theorem dL_same_535 : decode cL_same 535 = .ok (.iadd, 1) := by decide +kernel
theorem dL_same_536 : decode cL_same 536 = .ok (.iaload, 1) := by decide +kernel
theorem dL_same_537 : decode cL_same 537 = .ok (.if_icmp .ne 26, 3) := by decide +kernel
theorem dL_same_540 : decode cL_same 540 = .ok (.aload_n 0, 1) := by decide +kernel
theorem dL_same_541 : decode cL_same 541 = .ok (.iload 30, 2) := by decide +kernel
theorem dL_same_543 : decode cL_same 543 = .ok (.bipush 6, 2) := by decide +kernel
theorem dL_same_545 : decode cL_same 545 = .ok (.invokevirtual 29, 3) := by decide +kernel
theorem dL_same_548 : decode cL_same 548 = .ok (.iload 29, 2) := by decide +kernel
theorem dL_same_550 : decode cL_same 550 = .ok (.aload_n 2, 1) := by decide +kernel
theorem dL_same_551 : decode cL_same 551 = .ok (.aload 6, 2) := by decide +kernel
theorem dL_same_553 : decode cL_same 553 = .ok (.invokestatic 16, 3) := by decide +kernel
theorem dL_same_556 : decode cL_same 556 = .ok (.sipush 1000, 3) := by decide +kernel
theorem dL_same_559 : decode cL_same 559 = .ok (.iadd, 1) := by decide +kernel
theorem dL_same_560 : decode cL_same 560 = .ok (.if_icmp .eq 5, 3) := by decide +kernel
theorem dL_same_563 : decode cL_same 563 = .ok (.iconst 0, 1) := by decide +kernel
theorem dL_same_564 : decode cL_same 564 = .ok (.ireturn, 1) := by decide +kernel
theorem dL_same_565 : decode cL_same 565 = .ok (.iinc 25 1, 3) := by decide +kernel
theorem dL_same_568 : decode cL_same 568 = .ok (.goto (-531), 3) := by decide +kernel
theorem dL_same_571 : decode cL_same 571 = .ok (.aload 7, 2) := by decide +kernel
theorem dL_same_573 : decode cL_same 573 = .ok (.iconst 0, 1) := by decide +kernel
theorem dL_same_574 : decode cL_same 574 = .ok (.iaload, 1) := by decide +kernel
theorem dL_same_575 : decode cL_same 575 = .ok (.ifCond .lt 245, 3) := by decide +kernel
theorem dL_same_578 : decode cL_same 578 = .ok (.bipush (-6), 2) := by decide +kernel
theorem dL_same_580 : decode cL_same 580 = .ok (.istore 25, 2) := by decide +kernel
theorem dL_same_582 : decode cL_same 582 = .ok (.bipush (-6), 2) := by decide +kernel
theorem dL_same_584 : decode cL_same 584 = .ok (.istore 26, 2) := by decide +kernel
theorem dL_same_586 : decode cL_same 586 = .ok (.iconst 0, 1) := by decide +kernel
theorem dL_same_587 : decode cL_same 587 = .ok (.istore 27, 2) := by decide +kernel
theorem dL_same_589 : decode cL_same 589 = .ok (.iconst 0, 1) := by decide +kernel
theorem dL_same_590 : decode cL_same 590 = .ok (.istore 28, 2) := by decide +kernel
theorem dL_same_592 : decode cL_same 592 = .ok (.iload 28, 2) := by decide +kernel
theorem dL_same_594 : decode cL_same 594 = .ok (.aload 7, 2) := by decide +kernel
theorem dL_same_596 : decode cL_same 596 = .ok (.iconst 1, 1) := by decide +kernel
theorem dL_same_597 : decode cL_same 597 = .ok (.iaload, 1) := by decide +kernel
theorem dL_same_598 : decode cL_same 598 = .ok (.if_icmp .ge 148, 3) := by decide +kernel
theorem dL_same_601 : decode cL_same 601 = .ok (.aload 8, 2) := by decide +kernel
theorem dL_same_603 : decode cL_same 603 = .ok (.aload_n 2, 1) := by decide +kernel
theorem dL_same_604 : decode cL_same 604 = .ok (.iconst 3, 1) := by decide +kernel
theorem dL_same_605 : decode cL_same 605 = .ok (.iaload, 1) := by decide +kernel
theorem dL_same_606 : decode cL_same 606 = .ok (.iload 28, 2) := by decide +kernel
theorem dL_same_608 : decode cL_same 608 = .ok (.isub, 1) := by decide +kernel
theorem dL_same_609 : decode cL_same 609 = .ok (.ldc 32, 2) := by decide +kernel
theorem dL_same_611 : decode cL_same 611 = .ok (.iadd, 1) := by decide +kernel
theorem dL_same_612 : decode cL_same 612 = .ok (.bipush 60, 2) := by decide +kernel
theorem dL_same_614 : decode cL_same 614 = .ok (.irem, 1) := by decide +kernel
theorem dL_same_615 : decode cL_same 615 = .ok (.iaload, 1) := by decide +kernel
theorem dL_same_616 : decode cL_same 616 = .ok (.istore 29, 2) := by decide +kernel
theorem dL_same_618 : decode cL_same 618 = .ok (.aload_n 0, 1) := by decide +kernel
theorem dL_same_619 : decode cL_same 619 = .ok (.iconst 0, 1) := by decide +kernel
theorem dL_same_620 : decode cL_same 620 = .ok (.iload 28, 2) := by decide +kernel
theorem dL_same_622 : decode cL_same 622 = .ok (.invokevirtual 33, 3) := by decide +kernel
theorem dL_same_625 : decode cL_same 625 = .ok (.iload 29, 2) := by decide +kernel
theorem dL_same_627 : decode cL_same 627 = .ok (.sipush 10000, 3) := by decide +kernel
theorem dL_same_630 : decode cL_same 630 = .ok (.iadd, 1) := by decide +kernel
theorem dL_same_631 : decode cL_same 631 = .ok (.if_icmp .eq 5, 3) := by decide +kernel
theorem dL_same_634 : decode cL_same 634 = .ok (.iconst 0, 1) := by decide +kernel
theorem dL_same_635 : decode cL_same 635 = .ok (.ireturn, 1) := by decide +kernel
theorem dL_same_636 : decode cL_same 636 = .ok (.iload 25, 2) := by decide +kernel
theorem dL_same_638 : decode cL_same 638 = .ok (.ifCond .lt 14, 3) := by decide +kernel
theorem dL_same_641 : decode cL_same 641 = .ok (.iload 29, 2) := by decide +kernel
theorem dL_same_643 : decode cL_same 643 = .ok (.sipush 10000, 3) := by decide +kernel
theorem dL_same_646 : decode cL_same 646 = .ok (.iadd, 1) := by decide +kernel
theorem dL_same_647 : decode cL_same 647 = .ok (.iload 25, 2) := by decide +kernel
theorem dL_same_649 : decode cL_same 649 = .ok (.if_icmp .le 12, 3) := by decide +kernel
theorem dL_same_652 : decode cL_same 652 = .ok (.iload 29, 2) := by decide +kernel
theorem dL_same_654 : decode cL_same 654 = .ok (.sipush 10000, 3) := by decide +kernel
theorem dL_same_657 : decode cL_same 657 = .ok (.iadd, 1) := by decide +kernel
theorem dL_same_658 : decode cL_same 658 = .ok (.goto 5, 3) := by decide +kernel
theorem dL_same_661 : decode cL_same 661 = .ok (.iload 25, 2) := by decide +kernel
theorem dL_same_663 : decode cL_same 663 = .ok (.istore 25, 2) := by decide +kernel
theorem dL_same_665 : decode cL_same 665 = .ok (.iload 26, 2) := by decide +kernel
theorem dL_same_667 : decode cL_same 667 = .ok (.ifCond .lt 14, 3) := by decide +kernel
theorem dL_same_670 : decode cL_same 670 = .ok (.iload 29, 2) := by decide +kernel
theorem dL_same_672 : decode cL_same 672 = .ok (.sipush 10000, 3) := by decide +kernel
theorem dL_same_675 : decode cL_same 675 = .ok (.iadd, 1) := by decide +kernel
theorem dL_same_676 : decode cL_same 676 = .ok (.iload 26, 2) := by decide +kernel
theorem dL_same_678 : decode cL_same 678 = .ok (.if_icmp .ge 12, 3) := by decide +kernel
theorem dL_same_681 : decode cL_same 681 = .ok (.iload 29, 2) := by decide +kernel
theorem dL_same_683 : decode cL_same 683 = .ok (.sipush 10000, 3) := by decide +kernel
theorem dL_same_686 : decode cL_same 686 = .ok (.iadd, 1) := by decide +kernel
theorem dL_same_687 : decode cL_same 687 = .ok (.goto 5, 3) := by decide +kernel
theorem dL_same_690 : decode cL_same 690 = .ok (.iload 26, 2) := by decide +kernel
theorem dL_same_692 : decode cL_same 692 = .ok (.istore 26, 2) := by decide +kernel
theorem dL_same_694 : decode cL_same 694 = .ok (.iload 27, 2) := by decide +kernel
theorem dL_same_696 : decode cL_same 696 = .ok (.iload 28, 2) := by decide +kernel
theorem dL_same_698 : decode cL_same 698 = .ok (.iconst 1, 1) := by decide +kernel
theorem dL_same_699 : decode cL_same 699 = .ok (.iadd, 1) := by decide +kernel
theorem dL_same_700 : decode cL_same 700 = .ok (.aload 7, 2) := by decide +kernel
theorem dL_same_702 : decode cL_same 702 = .ok (.iconst 1, 1) := by decide +kernel
theorem dL_same_703 : decode cL_same 703 = .ok (.iaload, 1) := by decide +kernel
theorem dL_same_704 : decode cL_same 704 = .ok (.if_icmp .ge 32, 3) := by decide +kernel
theorem dL_same_707 : decode cL_same 707 = .ok (.iload 29, 2) := by decide +kernel
theorem dL_same_709 : decode cL_same 709 = .ok (.ifCond .lt 27, 3) := by decide +kernel
theorem dL_same_712 : decode cL_same 712 = .ok (.aload 8, 2) := by decide +kernel
theorem dL_same_714 : decode cL_same 714 = .ok (.aload_n 2, 1) := by decide +kernel
theorem dL_same_715 : decode cL_same 715 = .ok (.iconst 3, 1) := by decide +kernel
theorem dL_same_716 : decode cL_same 716 = .ok (.iaload, 1) := by decide +kernel
theorem dL_same_717 : decode cL_same 717 = .ok (.iload 28, 2) := by decide +kernel
theorem dL_same_719 : decode cL_same 719 = .ok (.isub, 1) := by decide +kernel
theorem dL_same_720 : decode cL_same 720 = .ok (.iconst 1, 1) := by decide +kernel
theorem dL_same_721 : decode cL_same 721 = .ok (.isub, 1) := by decide +kernel
theorem dL_same_722 : decode cL_same 722 = .ok (.ldc 32, 2) := by decide +kernel
theorem dL_same_724 : decode cL_same 724 = .ok (.iadd, 1) := by decide +kernel
theorem dL_same_725 : decode cL_same 725 = .ok (.bipush 60, 2) := by decide +kernel
theorem dL_same_727 : decode cL_same 727 = .ok (.irem, 1) := by decide +kernel
theorem dL_same_728 : decode cL_same 728 = .ok (.iaload, 1) := by decide +kernel
theorem dL_same_729 : decode cL_same 729 = .ok (.ifCond .ge 7, 3) := by decide +kernel
theorem dL_same_732 : decode cL_same 732 = .ok (.iconst 1, 1) := by decide +kernel
theorem dL_same_733 : decode cL_same 733 = .ok (.goto 4, 3) := by decide +kernel
theorem dL_same_736 : decode cL_same 736 = .ok (.iconst 0, 1) := by decide +kernel
theorem dL_same_737 : decode cL_same 737 = .ok (.iadd, 1) := by decide +kernel
theorem dL_same_738 : decode cL_same 738 = .ok (.istore 27, 2) := by decide +kernel
theorem dL_same_740 : decode cL_same 740 = .ok (.iinc 28 1, 3) := by decide +kernel
theorem dL_same_743 : decode cL_same 743 = .ok (.goto (-151), 3) := by decide +kernel
theorem dL_same_746 : decode cL_same 746 = .ok (.aload_n 0, 1) := by decide +kernel
theorem dL_same_747 : decode cL_same 747 = .ok (.iconst 0, 1) := by decide +kernel
theorem dL_same_748 : decode cL_same 748 = .ok (.iconst 0, 1) := by decide +kernel
theorem dL_same_749 : decode cL_same 749 = .ok (.invokevirtual 36, 3) := by decide +kernel
theorem dL_same_752 : decode cL_same 752 = .ok (.aload 7, 2) := by decide +kernel
theorem dL_same_754 : decode cL_same 754 = .ok (.iconst 0, 1) := by decide +kernel
theorem dL_same_755 : decode cL_same 755 = .ok (.iaload, 1) := by decide +kernel
theorem dL_same_756 : decode cL_same 756 = .ok (.if_icmp .ne 62, 3) := by decide +kernel
theorem dL_same_759 : decode cL_same 759 = .ok (.aload_n 0, 1) := by decide +kernel
theorem dL_same_760 : decode cL_same 760 = .ok (.iconst 0, 1) := by decide +kernel
theorem dL_same_761 : decode cL_same 761 = .ok (.iconst 1, 1) := by decide +kernel
theorem dL_same_762 : decode cL_same 762 = .ok (.invokevirtual 36, 3) := by decide +kernel
theorem dL_same_765 : decode cL_same 765 = .ok (.aload 7, 2) := by decide +kernel
theorem dL_same_767 : decode cL_same 767 = .ok (.iconst 1, 1) := by decide +kernel
theorem dL_same_768 : decode cL_same 768 = .ok (.iaload, 1) := by decide +kernel
theorem dL_same_769 : decode cL_same 769 = .ok (.if_icmp .ne 49, 3) := by decide +kernel
theorem dL_same_772 : decode cL_same 772 = .ok (.aload_n 0, 1) := by decide +kernel
theorem dL_same_773 : decode cL_same 773 = .ok (.iconst 0, 1) := by decide +kernel
theorem dL_same_774 : decode cL_same 774 = .ok (.iconst 2, 1) := by decide +kernel
theorem dL_same_775 : decode cL_same 775 = .ok (.invokevirtual 36, 3) := by decide +kernel
theorem dL_same_778 : decode cL_same 778 = .ok (.iload 25, 2) := by decide +kernel
theorem dL_same_780 : decode cL_same 780 = .ok (.if_icmp .ne 38, 3) := by decide +kernel
theorem dL_same_783 : decode cL_same 783 = .ok (.aload_n 0, 1) := by decide +kernel
theorem dL_same_784 : decode cL_same 784 = .ok (.iconst 0, 1) := by decide +kernel
theorem dL_same_785 : decode cL_same 785 = .ok (.iconst 3, 1) := by decide +kernel
theorem dL_same_786 : decode cL_same 786 = .ok (.invokevirtual 36, 3) := by decide +kernel
theorem dL_same_789 : decode cL_same 789 = .ok (.iload 26, 2) := by decide +kernel
theorem dL_same_791 : decode cL_same 791 = .ok (.if_icmp .ne 27, 3) := by decide +kernel
theorem dL_same_794 : decode cL_same 794 = .ok (.aload_n 0, 1) := by decide +kernel
theorem dL_same_795 : decode cL_same 795 = .ok (.iconst 0, 1) := by decide +kernel
theorem dL_same_796 : decode cL_same 796 = .ok (.iconst 4, 1) := by decide +kernel
theorem dL_same_797 : decode cL_same 797 = .ok (.invokevirtual 36, 3) := by decide +kernel
theorem dL_same_800 : decode cL_same 800 = .ok (.iload 27, 2) := by decide +kernel
theorem dL_same_802 : decode cL_same 802 = .ok (.if_icmp .ne 16, 3) := by decide +kernel
theorem dL_same_805 : decode cL_same 805 = .ok (.aload_n 0, 1) := by decide +kernel
theorem dL_same_806 : decode cL_same 806 = .ok (.iconst 0, 1) := by decide +kernel
theorem dL_same_807 : decode cL_same 807 = .ok (.aload 7, 2) := by decide +kernel
theorem dL_same_809 : decode cL_same 809 = .ok (.iconst 1, 1) := by decide +kernel
theorem dL_same_810 : decode cL_same 810 = .ok (.iaload, 1) := by decide +kernel
theorem dL_same_811 : decode cL_same 811 = .ok (.invokevirtual 33, 3) := by decide +kernel
theorem dL_same_814 : decode cL_same 814 = .ok (.iconst (-1), 1) := by decide +kernel
theorem dL_same_815 : decode cL_same 815 = .ok (.if_icmp .eq 5, 3) := by decide +kernel
theorem dL_same_818 : decode cL_same 818 = .ok (.iconst 0, 1) := by decide +kernel
theorem dL_same_819 : decode cL_same 819 = .ok (.ireturn, 1) := by decide +kernel
theorem dL_same_820 : decode cL_same 820 = .ok (.iload 10, 2) := by decide +kernel
theorem dL_same_822 : decode cL_same 822 = .ok (.aload_n 2, 1) := by decide +kernel
theorem dL_same_823 : decode cL_same 823 = .ok (.iconst 4, 1) := by decide +kernel
theorem dL_same_824 : decode cL_same 824 = .ok (.iaload, 1) := by decide +kernel
theorem dL_same_825 : decode cL_same 825 = .ok (.if_icmp .ne 205, 3) := by decide +kernel
theorem dL_same_828 : decode cL_same 828 = .ok (.aload_n 0, 1) := by decide +kernel
theorem dL_same_829 : decode cL_same 829 = .ok (.iconst 0, 1) := by decide +kernel
theorem dL_same_830 : decode cL_same 830 = .ok (.invokevirtual 39, 3) := by decide +kernel
theorem dL_same_833 : decode cL_same 833 = .ok (.lload 15, 2) := by decide +kernel
theorem dL_same_835 : decode cL_same 835 = .ok (.lcmp, 1) := by decide +kernel
theorem dL_same_836 : decode cL_same 836 = .ok (.ifCond .ne 194, 3) := by decide +kernel
theorem dL_same_839 : decode cL_same 839 = .ok (.aload_n 0, 1) := by decide +kernel
theorem dL_same_840 : decode cL_same 840 = .ok (.iconst 1, 1) := by decide +kernel
theorem dL_same_841 : decode cL_same 841 = .ok (.invokevirtual 39, 3) := by decide +kernel
theorem dL_same_844 : decode cL_same 844 = .ok (.lload 17, 2) := by decide +kernel
theorem dL_same_846 : decode cL_same 846 = .ok (.lcmp, 1) := by decide +kernel
theorem dL_same_847 : decode cL_same 847 = .ok (.ifCond .ne 183, 3) := by decide +kernel
theorem dL_same_850 : decode cL_same 850 = .ok (.aload_n 0, 1) := by decide +kernel
theorem dL_same_851 : decode cL_same 851 = .ok (.iconst 2, 1) := by decide +kernel
theorem dL_same_852 : decode cL_same 852 = .ok (.invokevirtual 39, 3) := by decide +kernel
theorem dL_same_855 : decode cL_same 855 = .ok (.lload 19, 2) := by decide +kernel
theorem dL_same_857 : decode cL_same 857 = .ok (.lcmp, 1) := by decide +kernel
theorem dL_same_858 : decode cL_same 858 = .ok (.ifCond .ne 172, 3) := by decide +kernel
theorem dL_same_861 : decode cL_same 861 = .ok (.aload_n 0, 1) := by decide +kernel
theorem dL_same_862 : decode cL_same 862 = .ok (.iconst 3, 1) := by decide +kernel
theorem dL_same_863 : decode cL_same 863 = .ok (.invokevirtual 39, 3) := by decide +kernel
theorem dL_same_866 : decode cL_same 866 = .ok (.lload 21, 2) := by decide +kernel
theorem dL_same_868 : decode cL_same 868 = .ok (.lcmp, 1) := by decide +kernel
theorem dL_same_869 : decode cL_same 869 = .ok (.ifCond .ne 161, 3) := by decide +kernel
theorem dL_same_872 : decode cL_same 872 = .ok (.aload_n 0, 1) := by decide +kernel
theorem dL_same_873 : decode cL_same 873 = .ok (.iconst 4, 1) := by decide +kernel
theorem dL_same_874 : decode cL_same 874 = .ok (.invokevirtual 39, 3) := by decide +kernel
theorem dL_same_877 : decode cL_same 877 = .ok (.lload 23, 2) := by decide +kernel
theorem dL_same_879 : decode cL_same 879 = .ok (.lcmp, 1) := by decide +kernel
theorem dL_same_880 : decode cL_same 880 = .ok (.ifCond .ne 150, 3) := by decide +kernel
theorem dL_same_883 : decode cL_same 883 = .ok (.aload_n 0, 1) := by decide +kernel
theorem dL_same_884 : decode cL_same 884 = .ok (.iconst 0, 1) := by decide +kernel
theorem dL_same_885 : decode cL_same 885 = .ok (.invokevirtual 43, 3) := by decide +kernel
theorem dL_same_888 : decode cL_same 888 = .ok (.aload_n 2, 1) := by decide +kernel
theorem dL_same_889 : decode cL_same 889 = .ok (.iconst 3, 1) := by decide +kernel
theorem dL_same_890 : decode cL_same 890 = .ok (.iaload, 1) := by decide +kernel
theorem dL_same_891 : decode cL_same 891 = .ok (.if_icmp .ne 139, 3) := by decide +kernel
theorem dL_same_894 : decode cL_same 894 = .ok (.aload_n 0, 1) := by decide +kernel
theorem dL_same_895 : decode cL_same 895 = .ok (.iconst 1, 1) := by decide +kernel
theorem dL_same_896 : decode cL_same 896 = .ok (.invokevirtual 43, 3) := by decide +kernel
theorem dL_same_899 : decode cL_same 899 = .ok (.iload 10, 2) := by decide +kernel
theorem dL_same_901 : decode cL_same 901 = .ok (.if_icmp .ne 129, 3) := by decide +kernel
theorem dL_same_904 : decode cL_same 904 = .ok (.aload_n 0, 1) := by decide +kernel
theorem dL_same_905 : decode cL_same 905 = .ok (.iconst 2, 1) := by decide +kernel
theorem dL_same_906 : decode cL_same 906 = .ok (.invokevirtual 43, 3) := by decide +kernel
theorem dL_same_909 : decode cL_same 909 = .ok (.iload 9, 2) := by decide +kernel
theorem dL_same_911 : decode cL_same 911 = .ok (.if_icmp .ne 119, 3) := by decide +kernel
theorem dL_same_914 : decode cL_same 914 = .ok (.aload_n 0, 1) := by decide +kernel
theorem dL_same_915 : decode cL_same 915 = .ok (.iconst 3, 1) := by decide +kernel
theorem dL_same_916 : decode cL_same 916 = .ok (.invokevirtual 43, 3) := by decide +kernel
theorem dL_same_919 : decode cL_same 919 = .ok (.aload 7, 2) := by decide +kernel
theorem dL_same_921 : decode cL_same 921 = .ok (.iconst 0, 1) := by decide +kernel
theorem dL_same_922 : decode cL_same 922 = .ok (.iaload, 1) := by decide +kernel
theorem dL_same_923 : decode cL_same 923 = .ok (.ifCond .ge 7, 3) := by decide +kernel
theorem dL_same_926 : decode cL_same 926 = .ok (.iconst 0, 1) := by decide +kernel
theorem dL_same_927 : decode cL_same 927 = .ok (.goto 4, 3) := by decide +kernel
theorem dL_same_930 : decode cL_same 930 = .ok (.iconst 1, 1) := by decide +kernel
theorem dL_same_931 : decode cL_same 931 = .ok (.if_icmp .ne 99, 3) := by decide +kernel
theorem dL_same_934 : decode cL_same 934 = .ok (.aload_n 0, 1) := by decide +kernel
theorem dL_same_935 : decode cL_same 935 = .ok (.iconst 4, 1) := by decide +kernel
theorem dL_same_936 : decode cL_same 936 = .ok (.invokevirtual 43, 3) := by decide +kernel
theorem dL_same_939 : decode cL_same 939 = .ok (.iload 11, 2) := by decide +kernel
theorem dL_same_941 : decode cL_same 941 = .ok (.ldc 46, 2) := by decide +kernel
theorem dL_same_943 : decode cL_same 943 = .ok (.iadd, 1) := by decide +kernel
theorem dL_same_944 : decode cL_same 944 = .ok (.if_icmp .ne 86, 3) := by decide +kernel
theorem dL_same_947 : decode cL_same 947 = .ok (.aload_n 0, 1) := by decide +kernel
theorem dL_same_948 : decode cL_same 948 = .ok (.iconst 5, 1) := by decide +kernel
theorem dL_same_949 : decode cL_same 949 = .ok (.invokevirtual 43, 3) := by decide +kernel
theorem dL_same_952 : decode cL_same 952 = .ok (.iload 12, 2) := by decide +kernel
theorem dL_same_954 : decode cL_same 954 = .ok (.if_icmp .ne 76, 3) := by decide +kernel
theorem dL_same_957 : decode cL_same 957 = .ok (.aload_n 0, 1) := by decide +kernel
theorem dL_same_958 : decode cL_same 958 = .ok (.bipush 6, 2) := by decide +kernel
theorem dL_same_960 : decode cL_same 960 = .ok (.invokevirtual 43, 3) := by decide +kernel
theorem dL_same_963 : decode cL_same 963 = .ok (.iload 13, 2) := by decide +kernel
theorem dL_same_965 : decode cL_same 965 = .ok (.if_icmp .ne 65, 3) := by decide +kernel
theorem dL_same_968 : decode cL_same 968 = .ok (.aload_n 0, 1) := by decide +kernel
theorem dL_same_969 : decode cL_same 969 = .ok (.bipush 7, 2) := by decide +kernel
theorem dL_same_971 : decode cL_same 971 = .ok (.invokevirtual 43, 3) := by decide +kernel
theorem dL_same_974 : decode cL_same 974 = .ok (.iload 14, 2) := by decide +kernel
theorem dL_same_976 : decode cL_same 976 = .ok (.if_icmp .ne 54, 3) := by decide +kernel
theorem dL_same_979 : decode cL_same 979 = .ok (.aload_n 0, 1) := by decide +kernel
theorem dL_same_980 : decode cL_same 980 = .ok (.bipush 8, 2) := by decide +kernel
theorem dL_same_982 : decode cL_same 982 = .ok (.invokevirtual 43, 3) := by decide +kernel
theorem dL_same_985 : decode cL_same 985 = .ok (.aload_n 2, 1) := by decide +kernel
theorem dL_same_986 : decode cL_same 986 = .ok (.iconst 0, 1) := by decide +kernel
theorem dL_same_987 : decode cL_same 987 = .ok (.iaload, 1) := by decide +kernel
theorem dL_same_988 : decode cL_same 988 = .ok (.if_icmp .ne 42, 3) := by decide +kernel
theorem dL_same_991 : decode cL_same 991 = .ok (.aload_n 0, 1) := by decide +kernel
theorem dL_same_992 : decode cL_same 992 = .ok (.bipush 9, 2) := by decide +kernel
theorem dL_same_994 : decode cL_same 994 = .ok (.invokevirtual 43, 3) := by decide +kernel
theorem dL_same_997 : decode cL_same 997 = .ok (.aload_n 2, 1) := by decide +kernel
theorem dL_same_998 : decode cL_same 998 = .ok (.iconst 1, 1) := by decide +kernel
theorem dL_same_999 : decode cL_same 999 = .ok (.iaload, 1) := by decide +kernel
theorem dL_same_1000 : decode cL_same 1000 = .ok (.if_icmp .ne 30, 3) := by decide +kernel
theorem dL_same_1003 : decode cL_same 1003 = .ok (.aload_n 0, 1) := by decide +kernel
theorem dL_same_1004 : decode cL_same 1004 = .ok (.bipush 10, 2) := by decide +kernel
theorem dL_same_1006 : decode cL_same 1006 = .ok (.invokevirtual 43, 3) := by decide +kernel
theorem dL_same_1009 : decode cL_same 1009 = .ok (.aload_n 2, 1) := by decide +kernel
theorem dL_same_1010 : decode cL_same 1010 = .ok (.iconst 2, 1) := by decide +kernel
theorem dL_same_1011 : decode cL_same 1011 = .ok (.iaload, 1) := by decide +kernel
theorem dL_same_1012 : decode cL_same 1012 = .ok (.if_icmp .ne 18, 3) := by decide +kernel
theorem dL_same_1015 : decode cL_same 1015 = .ok (.aload_n 0, 1) := by decide +kernel
theorem dL_same_1016 : decode cL_same 1016 = .ok (.iload 10, 2) := by decide +kernel
theorem dL_same_1018 : decode cL_same 1018 = .ok (.iconst 0, 1) := by decide +kernel
theorem dL_same_1019 : decode cL_same 1019 = .ok (.invokevirtual 29, 3) := by decide +kernel
theorem dL_same_1022 : decode cL_same 1022 = .ok (.iconst (-1), 1) := by decide +kernel
theorem dL_same_1023 : decode cL_same 1023 = .ok (.if_icmp .ne 7, 3) := by decide +kernel
theorem dL_same_1026 : decode cL_same 1026 = .ok (.iconst 1, 1) := by decide +kernel
theorem dL_same_1027 : decode cL_same 1027 = .ok (.goto 4, 3) := by decide +kernel
theorem dL_same_1030 : decode cL_same 1030 = .ok (.iconst 0, 1) := by decide +kernel
theorem dL_same_1031 : decode cL_same 1031 = .ok (.ireturn, 1) := by decide +kernel
