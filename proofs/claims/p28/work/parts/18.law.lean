abbrev rm_La_law : Room := room_1
theorem d_La_law_0 : decode code 0 = .ok (.new 10, 3) := by decide +kernel
theorem d_La_law_3 : decode code 3 = .ok (.dup, 1) := by decide +kernel
theorem d_La_law_4 : decode code 4 = .ok (.invokespecial 159, 3) := by decide +kernel
theorem d_La_law_7 : decode code 7 = .ok (.astore_n 1, 1) := by decide +kernel
theorem d_La_law_8 : decode code 8 = .ok (.iconst 4, 1) := by decide +kernel
theorem d_La_law_9 : decode code 9 = .ok (.newarray .int, 2) := by decide +kernel
theorem d_La_law_11 : decode code 11 = .ok (.astore_n 2, 1) := by decide +kernel
theorem d_La_law_12 : decode code 12 = .ok (.aload_n 2, 1) := by decide +kernel
theorem d_La_law_13 : decode code 13 = .ok (.iconst 0, 1) := by decide +kernel
theorem d_La_law_14 : decode code 14 = .ok (.iconst 3, 1) := by decide +kernel
theorem d_La_law_15 : decode code 15 = .ok (.iastore, 1) := by decide +kernel
theorem d_La_law_16 : decode code 16 = .ok (.aload_n 2, 1) := by decide +kernel
theorem d_La_law_17 : decode code 17 = .ok (.iconst 1, 1) := by decide +kernel
theorem d_La_law_18 : decode code 18 = .ok (.bipush 27, 2) := by decide +kernel
theorem d_La_law_20 : decode code 20 = .ok (.iastore, 1) := by decide +kernel
theorem d_La_law_21 : decode code 21 = .ok (.aload_n 2, 1) := by decide +kernel
theorem d_La_law_22 : decode code 22 = .ok (.iconst 2, 1) := by decide +kernel
theorem d_La_law_23 : decode code 23 = .ok (.bipush 50, 2) := by decide +kernel
theorem d_La_law_25 : decode code 25 = .ok (.iastore, 1) := by decide +kernel
theorem d_La_law_26 : decode code 26 = .ok (.aload_n 2, 1) := by decide +kernel
theorem d_La_law_27 : decode code 27 = .ok (.iconst 3, 1) := by decide +kernel
theorem d_La_law_28 : decode code 28 = .ok (.bipush 96, 2) := by decide +kernel
theorem d_La_law_30 : decode code 30 = .ok (.iastore, 1) := by decide +kernel
theorem d_La_law_31 : decode code 31 = .ok (.bipush 10, 2) := by decide +kernel
theorem d_La_law_33 : decode code 33 = .ok (.newarray .int, 2) := by decide +kernel
theorem d_La_law_35 : decode code 35 = .ok (.astore_n 3, 1) := by decide +kernel
theorem d_La_law_36 : decode code 36 = .ok (.iconst 0, 1) := by decide +kernel
theorem d_La_law_37 : decode code 37 = .ok (.istore 4, 2) := by decide +kernel
theorem d_La_law_39 : decode code 39 = .ok (.iconst 0, 1) := by decide +kernel
theorem d_La_law_40 : decode code 40 = .ok (.istore 5, 2) := by decide +kernel
theorem d_La_law_42 : decode code 42 = .ok (.iconst 0, 1) := by decide +kernel
theorem d_La_law_43 : decode code 43 = .ok (.istore 6, 2) := by decide +kernel
theorem d_La_law_45 : decode code 45 = .ok (.iconst 1, 1) := by decide +kernel
theorem d_La_law_46 : decode code 46 = .ok (.istore 7, 2) := by decide +kernel
theorem d_La_law_48 : decode code 48 = .ok (.iconst 0, 1) := by decide +kernel
theorem d_La_law_49 : decode code 49 = .ok (.istore 8, 2) := by decide +kernel
theorem d_La_law_51 : decode code 51 = .ok (.iload 8, 2) := by decide +kernel
theorem d_La_law_53 : decode code 53 = .ok (.iconst 4, 1) := by decide +kernel
theorem d_La_law_54 : decode code 54 = .ok (.if_icmp .ge 68, 3) := by decide +kernel
theorem d_La_law_57 : decode code 57 = .ok (.iload 7, 2) := by decide +kernel
theorem d_La_law_59 : decode code 59 = .ok (.ifCond .eq 63, 3) := by decide +kernel
theorem d_La_law_62 : decode code 62 = .ok (.aload_n 1, 1) := by decide +kernel
theorem d_La_law_63 : decode code 63 = .ok (.bipush 37, 2) := by decide +kernel
theorem d_La_law_65 : decode code 65 = .ok (.iload 8, 2) := by decide +kernel
theorem d_La_law_67 : decode code 67 = .ok (.imul, 1) := by decide +kernel
theorem d_La_law_68 : decode code 68 = .ok (.bipush 11, 2) := by decide +kernel
theorem d_La_law_70 : decode code 70 = .ok (.iadd, 1) := by decide +kernel
theorem d_La_law_71 : decode code 71 = .ok (.aload_n 0, 1) := by decide +kernel
theorem d_La_law_72 : decode code 72 = .ok (.iload 8, 2) := by decide +kernel
theorem d_La_law_74 : decode code 74 = .ok (.invokestatic 160, 3) := by decide +kernel
theorem d_La_law_77 : decode code 77 = .ok (.bipush 7, 2) := by decide +kernel
theorem d_La_law_79 : decode code 79 = .ok (.irem, 1) := by decide +kernel
theorem d_La_law_80 : decode code 80 = .ok (.iconst 5, 1) := by decide +kernel
theorem d_La_law_81 : decode code 81 = .ok (.imul, 1) := by decide +kernel
theorem d_La_law_82 : decode code 82 = .ok (.iadd, 1) := by decide +kernel
theorem d_La_law_83 : decode code 83 = .ok (.bipush 100, 2) := by decide +kernel
theorem d_La_law_85 : decode code 85 = .ok (.irem, 1) := by decide +kernel
theorem d_La_law_86 : decode code 86 = .ok (.iconst 1, 1) := by decide +kernel
theorem d_La_law_87 : decode code 87 = .ok (.aload_n 0, 1) := by decide +kernel
theorem d_La_law_88 : decode code 88 = .ok (.iload 8, 2) := by decide +kernel
theorem d_La_law_90 : decode code 90 = .ok (.invokestatic 160, 3) := by decide +kernel
theorem d_La_law_93 : decode code 93 = .ok (.bipush 8, 2) := by decide +kernel
theorem d_La_law_95 : decode code 95 = .ok (.idiv, 1) := by decide +kernel
theorem d_La_law_96 : decode code 96 = .ok (.iconst 3, 1) := by decide +kernel
theorem d_La_law_97 : decode code 97 = .ok (.irem, 1) := by decide +kernel
theorem d_La_law_98 : decode code 98 = .ok (.iadd, 1) := by decide +kernel
theorem d_La_law_99 : decode code 99 = .ok (.invokestatic 126, 3) := by decide +kernel
theorem d_La_law_102 : decode code 102 = .ok (.ldc2_w 99, 3) := by decide +kernel
theorem d_La_law_105 : decode code 105 = .ok (.lcmp, 1) := by decide +kernel
theorem d_La_law_106 : decode code 106 = .ok (.ifCond .gt 7, 3) := by decide +kernel
theorem d_La_law_109 : decode code 109 = .ok (.iconst 1, 1) := by decide +kernel
theorem d_La_law_110 : decode code 110 = .ok (.goto 4, 3) := by decide +kernel
theorem d_La_law_113 : decode code 113 = .ok (.iconst 0, 1) := by decide +kernel
theorem d_La_law_114 : decode code 114 = .ok (.istore 7, 2) := by decide +kernel
theorem d_La_law_116 : decode code 116 = .ok (.iinc 8 1, 3) := by decide +kernel
theorem d_La_law_119 : decode code 119 = .ok (.goto (-68), 3) := by decide +kernel
theorem d_La_law_122 : decode code 122 = .ok (.iconst 0, 1) := by decide +kernel
theorem d_La_law_123 : decode code 123 = .ok (.istore 8, 2) := by decide +kernel
theorem d_La_law_125 : decode code 125 = .ok (.iload 8, 2) := by decide +kernel
theorem d_La_law_127 : decode code 127 = .ok (.iconst 4, 1) := by decide +kernel
theorem d_La_law_128 : decode code 128 = .ok (.if_icmp .ge 64, 3) := by decide +kernel
theorem d_La_law_131 : decode code 131 = .ok (.iload 7, 2) := by decide +kernel
theorem d_La_law_133 : decode code 133 = .ok (.ifCond .eq 59, 3) := by decide +kernel
theorem d_La_law_136 : decode code 136 = .ok (.aload_n 1, 1) := by decide +kernel
theorem d_La_law_137 : decode code 137 = .ok (.aload_n 2, 1) := by decide +kernel
theorem d_La_law_138 : decode code 138 = .ok (.iload 8, 2) := by decide +kernel
theorem d_La_law_140 : decode code 140 = .ok (.iaload, 1) := by decide +kernel
theorem d_La_law_141 : decode code 141 = .ok (.iconst 0, 1) := by decide +kernel
theorem d_La_law_142 : decode code 142 = .ok (.invokestatic 126, 3) := by decide +kernel
theorem d_La_law_145 : decode code 145 = .ok (.pop2, 1) := by decide +kernel
theorem d_La_law_146 : decode code 146 = .ok (.aload_n 1, 1) := by decide +kernel
theorem d_La_law_147 : decode code 147 = .ok (.aload_n 2, 1) := by decide +kernel
theorem d_La_law_148 : decode code 148 = .ok (.iload 8, 2) := by decide +kernel
theorem d_La_law_150 : decode code 150 = .ok (.iaload, 1) := by decide +kernel
theorem d_La_law_151 : decode code 151 = .ok (.invokestatic 128, 3) := by decide +kernel
theorem d_La_law_154 : decode code 154 = .ok (.iload 8, 2) := by decide +kernel
theorem d_La_law_156 : decode code 156 = .ok (.iconst 1, 1) := by decide +kernel
theorem d_La_law_157 : decode code 157 = .ok (.iadd, 1) := by decide +kernel
theorem d_La_law_158 : decode code 158 = .ok (.i2l, 1) := by decide +kernel
theorem d_La_law_159 : decode code 159 = .ok (.lcmp, 1) := by decide +kernel
theorem d_La_law_160 : decode code 160 = .ok (.ifCond .ne 23, 3) := by decide +kernel
theorem d_La_law_163 : decode code 163 = .ok (.aload_n 1, 1) := by decide +kernel
theorem d_La_law_164 : decode code 164 = .ok (.aload_n 2, 1) := by decide +kernel
theorem d_La_law_165 : decode code 165 = .ok (.iload 8, 2) := by decide +kernel
theorem d_La_law_167 : decode code 167 = .ok (.iaload, 1) := by decide +kernel
theorem d_La_law_168 : decode code 168 = .ok (.iconst 1, 1) := by decide +kernel
theorem d_La_law_169 : decode code 169 = .ok (.invokestatic 126, 3) := by decide +kernel
theorem d_La_law_172 : decode code 172 = .ok (.ldc2_w 25, 3) := by decide +kernel
theorem d_La_law_175 : decode code 175 = .ok (.lcmp, 1) := by decide +kernel
theorem d_La_law_176 : decode code 176 = .ok (.ifCond .ne 7, 3) := by decide +kernel
theorem d_La_law_179 : decode code 179 = .ok (.iconst 1, 1) := by decide +kernel
theorem d_La_law_180 : decode code 180 = .ok (.goto 4, 3) := by decide +kernel
theorem d_La_law_183 : decode code 183 = .ok (.iconst 0, 1) := by decide +kernel
theorem d_La_law_184 : decode code 184 = .ok (.istore 7, 2) := by decide +kernel
theorem d_La_law_186 : decode code 186 = .ok (.iinc 8 1, 3) := by decide +kernel
theorem d_La_law_189 : decode code 189 = .ok (.goto (-64), 3) := by decide +kernel
theorem d_La_law_192 : decode code 192 = .ok (.iconst 0, 1) := by decide +kernel
theorem d_La_law_193 : decode code 193 = .ok (.istore 8, 2) := by decide +kernel
theorem d_La_law_195 : decode code 195 = .ok (.iload 8, 2) := by decide +kernel
theorem d_La_law_197 : decode code 197 = .ok (.bipush 40, 2) := by decide +kernel
theorem d_La_law_199 : decode code 199 = .ok (.if_icmp .ge 922, 3) := by decide +kernel
theorem d_La_law_202 : decode code 202 = .ok (.iload 7, 2) := by decide +kernel
theorem d_La_law_204 : decode code 204 = .ok (.ifCond .eq 917, 3) := by decide +kernel
theorem d_La_law_207 : decode code 207 = .ok (.aload_n 0, 1) := by decide +kernel
theorem d_La_law_208 : decode code 208 = .ok (.iconst 4, 1) := by decide +kernel
theorem d_La_law_209 : decode code 209 = .ok (.iconst 2, 1) := by decide +kernel
theorem d_La_law_210 : decode code 210 = .ok (.iload 8, 2) := by decide +kernel
theorem d_La_law_212 : decode code 212 = .ok (.imul, 1) := by decide +kernel
theorem d_La_law_213 : decode code 213 = .ok (.iadd, 1) := by decide +kernel
theorem d_La_law_214 : decode code 214 = .ok (.invokestatic 160, 3) := by decide +kernel
theorem d_La_law_217 : decode code 217 = .ok (.istore 9, 2) := by decide +kernel
theorem d_La_law_219 : decode code 219 = .ok (.aload_n 0, 1) := by decide +kernel
theorem d_La_law_220 : decode code 220 = .ok (.iconst 5, 1) := by decide +kernel
theorem d_La_law_221 : decode code 221 = .ok (.iconst 2, 1) := by decide +kernel
theorem d_La_law_222 : decode code 222 = .ok (.iload 8, 2) := by decide +kernel
theorem d_La_law_224 : decode code 224 = .ok (.imul, 1) := by decide +kernel
theorem d_La_law_225 : decode code 225 = .ok (.iadd, 1) := by decide +kernel
theorem d_La_law_226 : decode code 226 = .ok (.invokestatic 160, 3) := by decide +kernel
theorem d_La_law_229 : decode code 229 = .ok (.istore 10, 2) := by decide +kernel
theorem d_La_law_231 : decode code 231 = .ok (.iload 8, 2) := by decide +kernel
theorem d_La_law_233 : decode code 233 = .ok (.iconst 2, 1) := by decide +kernel
theorem d_La_law_234 : decode code 234 = .ok (.if_icmp .ge 7, 3) := by decide +kernel
theorem d_La_law_237 : decode code 237 = .ok (.iconst 0, 1) := by decide +kernel
theorem d_La_law_238 : decode code 238 = .ok (.goto 8, 3) := by decide +kernel
theorem d_La_law_241 : decode code 241 = .ok (.iload 9, 2) := by decide +kernel
theorem d_La_law_243 : decode code 243 = .ok (.bipush 12, 2) := by decide +kernel
theorem d_La_law_245 : decode code 245 = .ok (.irem, 1) := by decide +kernel
theorem d_La_law_246 : decode code 246 = .ok (.istore 11, 2) := by decide +kernel
theorem d_La_law_248 : decode code 248 = .ok (.iload 11, 2) := by decide +kernel
theorem d_La_law_250 : decode code 250 = .ok (.ifCond .ne 81, 3) := by decide +kernel
theorem d_La_law_253 : decode code 253 = .ok (.bipush 40, 2) := by decide +kernel
theorem d_La_law_255 : decode code 255 = .ok (.iload 10, 2) := by decide +kernel
theorem d_La_law_257 : decode code 257 = .ok (.iconst 4, 1) := by decide +kernel
theorem d_La_law_258 : decode code 258 = .ok (.idiv, 1) := by decide +kernel
theorem d_La_law_259 : decode code 259 = .ok (.sipush 161, 3) := by decide +kernel
theorem d_La_law_262 : decode code 262 = .ok (.irem, 1) := by decide +kernel
theorem d_La_law_263 : decode code 263 = .ok (.iadd, 1) := by decide +kernel
theorem d_La_law_264 : decode code 264 = .ok (.istore 12, 2) := by decide +kernel
theorem d_La_law_266 : decode code 266 = .ok (.aload_n 1, 1) := by decide +kernel
theorem d_La_law_267 : decode code 267 = .ok (.iload 9, 2) := by decide +kernel
theorem d_La_law_269 : decode code 269 = .ok (.bipush 16, 2) := by decide +kernel
theorem d_La_law_271 : decode code 271 = .ok (.idiv, 1) := by decide +kernel
theorem d_La_law_272 : decode code 272 = .ok (.iconst 4, 1) := by decide +kernel
theorem d_La_law_273 : decode code 273 = .ok (.irem, 1) := by decide +kernel
theorem d_La_law_274 : decode code 274 = .ok (.aload_n 2, 1) := by decide +kernel
theorem d_La_law_275 : decode code 275 = .ok (.iload 10, 2) := by decide +kernel
theorem d_La_law_277 : decode code 277 = .ok (.iconst 4, 1) := by decide +kernel
theorem d_La_law_278 : decode code 278 = .ok (.irem, 1) := by decide +kernel
theorem d_La_law_279 : decode code 279 = .ok (.iaload, 1) := by decide +kernel
theorem d_La_law_280 : decode code 280 = .ok (.iload 12, 2) := by decide +kernel
theorem d_La_law_282 : decode code 282 = .ok (.invokestatic 139, 3) := by decide +kernel
theorem d_La_law_285 : decode code 285 = .ok (.iload 4, 2) := by decide +kernel
theorem d_La_law_287 : decode code 287 = .ok (.bipush 10, 2) := by decide +kernel
theorem d_La_law_289 : decode code 289 = .ok (.if_icmp .ne 9, 3) := by decide +kernel
theorem d_La_law_292 : decode code 292 = .ok (.ldc2_w 25, 3) := by decide +kernel
theorem d_La_law_295 : decode code 295 = .ok (.goto 6, 3) := by decide +kernel
theorem d_La_law_298 : decode code 298 = .ok (.iload 4, 2) := by decide +kernel
theorem d_La_law_300 : decode code 300 = .ok (.i2l, 1) := by decide +kernel
theorem d_La_law_301 : decode code 301 = .ok (.lcmp, 1) := by decide +kernel
theorem d_La_law_302 : decode code 302 = .ok (.ifCond .ne 7, 3) := by decide +kernel
theorem d_La_law_305 : decode code 305 = .ok (.iconst 1, 1) := by decide +kernel
theorem d_La_law_306 : decode code 306 = .ok (.goto 4, 3) := by decide +kernel
theorem d_La_law_309 : decode code 309 = .ok (.iconst 0, 1) := by decide +kernel
theorem d_La_law_310 : decode code 310 = .ok (.istore 7, 2) := by decide +kernel
theorem d_La_law_312 : decode code 312 = .ok (.iload 4, 2) := by decide +kernel
theorem d_La_law_314 : decode code 314 = .ok (.bipush 10, 2) := by decide +kernel
theorem d_La_law_316 : decode code 316 = .ok (.if_icmp .ge 12, 3) := by decide +kernel
theorem d_La_law_319 : decode code 319 = .ok (.aload_n 3, 1) := by decide +kernel
theorem d_La_law_320 : decode code 320 = .ok (.iload 4, 2) := by decide +kernel
theorem d_La_law_322 : decode code 322 = .ok (.iload 12, 2) := by decide +kernel
theorem d_La_law_324 : decode code 324 = .ok (.iastore, 1) := by decide +kernel
theorem d_La_law_325 : decode code 325 = .ok (.iinc 4 1, 3) := by decide +kernel
theorem d_La_law_328 : decode code 328 = .ok (.goto 703, 3) := by decide +kernel
theorem d_La_law_331 : decode code 331 = .ok (.iload 11, 2) := by decide +kernel
theorem d_La_law_333 : decode code 333 = .ok (.iconst 5, 1) := by decide +kernel
theorem d_La_law_334 : decode code 334 = .ok (.if_icmp .ge 190, 3) := by decide +kernel
theorem d_La_law_337 : decode code 337 = .ok (.iload 9, 2) := by decide +kernel
theorem d_La_law_339 : decode code 339 = .ok (.bipush 16, 2) := by decide +kernel
theorem d_La_law_341 : decode code 341 = .ok (.idiv, 1) := by decide +kernel
theorem d_La_law_342 : decode code 342 = .ok (.iload 4, 2) := by decide +kernel
theorem d_La_law_344 : decode code 344 = .ok (.irem, 1) := by decide +kernel
theorem d_La_law_345 : decode code 345 = .ok (.istore 12, 2) := by decide +kernel
theorem d_La_law_347 : decode code 347 = .ok (.aload_n 1, 1) := by decide +kernel
theorem d_La_law_348 : decode code 348 = .ok (.aload_n 1, 1) := by decide +kernel
theorem d_La_law_349 : decode code 349 = .ok (.iload 12, 2) := by decide +kernel
theorem d_La_law_351 : decode code 351 = .ok (.iconst 1, 1) := by decide +kernel
theorem d_La_law_352 : decode code 352 = .ok (.invokestatic 92, 3) := by decide +kernel
theorem d_La_law_355 : decode code 355 = .ok (.l2i, 1) := by decide +kernel
theorem d_La_law_356 : decode code 356 = .ok (.aload_n 2, 1) := by decide +kernel
theorem d_La_law_357 : decode code 357 = .ok (.iload 10, 2) := by decide +kernel
theorem d_La_law_359 : decode code 359 = .ok (.iconst 4, 1) := by decide +kernel
theorem d_La_law_360 : decode code 360 = .ok (.irem, 1) := by decide +kernel
theorem d_La_law_361 : decode code 361 = .ok (.iaload, 1) := by decide +kernel
theorem d_La_law_362 : decode code 362 = .ok (.iload 10, 2) := by decide +kernel
theorem d_La_law_364 : decode code 364 = .ok (.iconst 4, 1) := by decide +kernel
theorem d_La_law_365 : decode code 365 = .ok (.idiv, 1) := by decide +kernel
theorem d_La_law_366 : decode code 366 = .ok (.invokestatic 164, 3) := by decide +kernel
theorem d_La_law_369 : decode code 369 = .ok (.aload_n 1, 1) := by decide +kernel
theorem d_La_law_370 : decode code 370 = .ok (.iconst 0, 1) := by decide +kernel
theorem d_La_law_371 : decode code 371 = .ok (.invokestatic 120, 3) := by decide +kernel
theorem d_La_law_374 : decode code 374 = .ok (.lstore 13, 2) := by decide +kernel
theorem d_La_law_376 : decode code 376 = .ok (.aload_n 1, 1) := by decide +kernel
theorem d_La_law_377 : decode code 377 = .ok (.iconst 1, 1) := by decide +kernel
theorem d_La_law_378 : decode code 378 = .ok (.invokestatic 120, 3) := by decide +kernel
theorem d_La_law_381 : decode code 381 = .ok (.lstore 15, 2) := by decide +kernel
theorem d_La_law_383 : decode code 383 = .ok (.aload_n 1, 1) := by decide +kernel
theorem d_La_law_384 : decode code 384 = .ok (.iload 12, 2) := by decide +kernel
theorem d_La_law_386 : decode code 386 = .ok (.aload_n 1, 1) := by decide +kernel
theorem d_La_law_387 : decode code 387 = .ok (.invokevirtual 111, 3) := by decide +kernel
theorem d_La_law_390 : decode code 390 = .ok (.iconst 1, 1) := by decide +kernel
theorem d_La_law_391 : decode code 391 = .ok (.iadd, 1) := by decide +kernel
theorem d_La_law_392 : decode code 392 = .ok (.iload 9, 2) := by decide +kernel
theorem d_La_law_394 : decode code 394 = .ok (.sipush 256, 3) := by decide +kernel
theorem d_La_law_397 : decode code 397 = .ok (.idiv, 1) := by decide +kernel
theorem d_La_law_398 : decode code 398 = .ok (.bipush 40, 2) := by decide +kernel
theorem d_La_law_400 : decode code 400 = .ok (.irem, 1) := by decide +kernel
theorem d_La_law_401 : decode code 401 = .ok (.iadd, 1) := by decide +kernel
theorem d_La_law_402 : decode code 402 = .ok (.iload 9, 2) := by decide +kernel
theorem d_La_law_404 : decode code 404 = .ok (.sipush 16384, 3) := by decide +kernel
theorem d_La_law_407 : decode code 407 = .ok (.idiv, 1) := by decide +kernel
theorem d_La_law_408 : decode code 408 = .ok (.iconst 4, 1) := by decide +kernel
theorem d_La_law_409 : decode code 409 = .ok (.irem, 1) := by decide +kernel
theorem d_La_law_410 : decode code 410 = .ok (.invokestatic 144, 3) := by decide +kernel
theorem d_La_law_413 : decode code 413 = .ok (.lstore 17, 2) := by decide +kernel
theorem d_La_law_415 : decode code 415 = .ok (.lload 13, 2) := by decide +kernel
theorem d_La_law_417 : decode code 417 = .ok (.ldc2_w 168, 3) := by decide +kernel
theorem d_La_law_420 : decode code 420 = .ok (.lcmp, 1) := by decide +kernel
theorem d_La_law_421 : decode code 421 = .ok (.ifCond .ne 20, 3) := by decide +kernel
theorem d_La_law_424 : decode code 424 = .ok (.lload 17, 2) := by decide +kernel
theorem d_La_law_426 : decode code 426 = .ok (.ldc2_w 25, 3) := by decide +kernel
theorem d_La_law_429 : decode code 429 = .ok (.lcmp, 1) := by decide +kernel
theorem d_La_law_430 : decode code 430 = .ok (.ifCond .ne 7, 3) := by decide +kernel
theorem d_La_law_433 : decode code 433 = .ok (.iconst 1, 1) := by decide +kernel
theorem d_La_law_434 : decode code 434 = .ok (.goto 85, 3) := by decide +kernel
theorem d_La_law_437 : decode code 437 = .ok (.iconst 0, 1) := by decide +kernel
theorem d_La_law_438 : decode code 438 = .ok (.goto 81, 3) := by decide +kernel
theorem d_La_law_441 : decode code 441 = .ok (.lload 17, 2) := by decide +kernel
theorem d_La_law_443 : decode code 443 = .ok (.lconst 0, 1) := by decide +kernel
theorem d_La_law_444 : decode code 444 = .ok (.lcmp, 1) := by decide +kernel
theorem d_La_law_445 : decode code 445 = .ok (.ifCond .lt 39, 3) := by decide +kernel
theorem d_La_law_448 : decode code 448 = .ok (.lload 17, 2) := by decide +kernel
theorem d_La_law_450 : decode code 450 = .ok (.lload 13, 2) := by decide +kernel
theorem d_La_law_452 : decode code 452 = .ok (.lcmp, 1) := by decide +kernel
theorem d_La_law_453 : decode code 453 = .ok (.ifCond .ne 27, 3) := by decide +kernel
theorem d_La_law_456 : decode code 456 = .ok (.aload_n 1, 1) := by decide +kernel
theorem d_La_law_457 : decode code 457 = .ok (.iconst 0, 1) := by decide +kernel
theorem d_La_law_458 : decode code 458 = .ok (.invokestatic 120, 3) := by decide +kernel
theorem d_La_law_461 : decode code 461 = .ok (.lload 13, 2) := by decide +kernel
theorem d_La_law_463 : decode code 463 = .ok (.lconst 1, 1) := by decide +kernel
theorem d_La_law_464 : decode code 464 = .ok (.ladd, 1) := by decide +kernel
theorem d_La_law_465 : decode code 465 = .ok (.lcmp, 1) := by decide +kernel
theorem d_La_law_466 : decode code 466 = .ok (.ifCond .ne 14, 3) := by decide +kernel
theorem d_La_law_469 : decode code 469 = .ok (.aload_n 1, 1) := by decide +kernel
theorem d_La_law_470 : decode code 470 = .ok (.invokevirtual 156, 3) := by decide +kernel
theorem d_La_law_473 : decode code 473 = .ok (.ifCond .ne 7, 3) := by decide +kernel
theorem d_La_law_476 : decode code 476 = .ok (.iconst 1, 1) := by decide +kernel
theorem d_La_law_477 : decode code 477 = .ok (.goto 42, 3) := by decide +kernel
theorem d_La_law_480 : decode code 480 = .ok (.iconst 0, 1) := by decide +kernel
theorem d_La_law_481 : decode code 481 = .ok (.goto 38, 3) := by decide +kernel
theorem d_La_law_484 : decode code 484 = .ok (.lload 17, 2) := by decide +kernel
theorem d_La_law_486 : decode code 486 = .ok (.ldc2_w 170, 3) := by decide +kernel
theorem d_La_law_489 : decode code 489 = .ok (.lcmp, 1) := by decide +kernel
theorem d_La_law_490 : decode code 490 = .ok (.ifCond .lt 28, 3) := by decide +kernel
theorem d_La_law_493 : decode code 493 = .ok (.aload_n 1, 1) := by decide +kernel
theorem d_La_law_494 : decode code 494 = .ok (.iconst 1, 1) := by decide +kernel
theorem d_La_law_495 : decode code 495 = .ok (.invokestatic 120, 3) := by decide +kernel
theorem d_La_law_498 : decode code 498 = .ok (.lload 15, 2) := by decide +kernel
theorem d_La_law_500 : decode code 500 = .ok (.lconst 1, 1) := by decide +kernel
theorem d_La_law_501 : decode code 501 = .ok (.ladd, 1) := by decide +kernel
theorem d_La_law_502 : decode code 502 = .ok (.lcmp, 1) := by decide +kernel
theorem d_La_law_503 : decode code 503 = .ok (.ifCond .ne 15, 3) := by decide +kernel
theorem d_La_law_506 : decode code 506 = .ok (.aload_n 1, 1) := by decide +kernel
theorem d_La_law_507 : decode code 507 = .ok (.invokevirtual 172, 3) := by decide +kernel
theorem d_La_law_510 : decode code 510 = .ok (.iconst (-1), 1) := by decide +kernel
theorem d_La_law_511 : decode code 511 = .ok (.if_icmp .lt 7, 3) := by decide +kernel
theorem d_La_law_514 : decode code 514 = .ok (.iconst 1, 1) := by decide +kernel
theorem d_La_law_515 : decode code 515 = .ok (.goto 4, 3) := by decide +kernel
theorem d_La_law_518 : decode code 518 = .ok (.iconst 0, 1) := by decide +kernel
theorem d_La_law_519 : decode code 519 = .ok (.istore 7, 2) := by decide +kernel
theorem d_La_law_521 : decode code 521 = .ok (.goto 510, 3) := by decide +kernel
theorem d_La_law_524 : decode code 524 = .ok (.iload 11, 2) := by decide +kernel
theorem d_La_law_526 : decode code 526 = .ok (.bipush 8, 2) := by decide +kernel
theorem d_La_law_528 : decode code 528 = .ok (.if_icmp .ge 44, 3) := by decide +kernel
theorem d_La_law_531 : decode code 531 = .ok (.aload_n 1, 1) := by decide +kernel
theorem d_La_law_532 : decode code 532 = .ok (.invokevirtual 111, 3) := by decide +kernel
theorem d_La_law_535 : decode code 535 = .ok (.istore 12, 2) := by decide +kernel
theorem d_La_law_537 : decode code 537 = .ok (.iconst 1, 1) := by decide +kernel
theorem d_La_law_538 : decode code 538 = .ok (.iload 10, 2) := by decide +kernel
theorem d_La_law_540 : decode code 540 = .ok (.bipush 9, 2) := by decide +kernel
theorem d_La_law_542 : decode code 542 = .ok (.irem, 1) := by decide +kernel
theorem d_La_law_543 : decode code 543 = .ok (.iadd, 1) := by decide +kernel
theorem d_La_law_544 : decode code 544 = .ok (.istore 13, 2) := by decide +kernel
theorem d_La_law_546 : decode code 546 = .ok (.aload_n 1, 1) := by decide +kernel
theorem d_La_law_547 : decode code 547 = .ok (.iload 13, 2) := by decide +kernel
theorem d_La_law_549 : decode code 549 = .ok (.invokestatic 148, 3) := by decide +kernel
theorem d_La_law_552 : decode code 552 = .ok (.iload 12, 2) := by decide +kernel
theorem d_La_law_554 : decode code 554 = .ok (.iload 13, 2) := by decide +kernel
theorem d_La_law_556 : decode code 556 = .ok (.iadd, 1) := by decide +kernel
theorem d_La_law_557 : decode code 557 = .ok (.i2l, 1) := by decide +kernel
theorem d_La_law_558 : decode code 558 = .ok (.lcmp, 1) := by decide +kernel
theorem d_La_law_559 : decode code 559 = .ok (.ifCond .ne 7, 3) := by decide +kernel
theorem d_La_law_562 : decode code 562 = .ok (.iconst 1, 1) := by decide +kernel
theorem d_La_law_563 : decode code 563 = .ok (.goto 4, 3) := by decide +kernel
theorem d_La_law_566 : decode code 566 = .ok (.iconst 0, 1) := by decide +kernel
theorem d_La_law_567 : decode code 567 = .ok (.istore 7, 2) := by decide +kernel
theorem d_La_law_569 : decode code 569 = .ok (.goto 462, 3) := by decide +kernel
theorem d_La_law_572 : decode code 572 = .ok (.iload 11, 2) := by decide +kernel
theorem d_La_law_574 : decode code 574 = .ok (.bipush 8, 2) := by decide +kernel
theorem d_La_law_576 : decode code 576 = .ok (.if_icmp .ne 60, 3) := by decide +kernel
theorem d_La_law_579 : decode code 579 = .ok (.aload_n 1, 1) := by decide +kernel
theorem d_La_law_580 : decode code 580 = .ok (.iconst 1, 1) := by decide +kernel
theorem d_La_law_581 : decode code 581 = .ok (.iload 10, 2) := by decide +kernel
theorem d_La_law_583 : decode code 583 = .ok (.iconst 3, 1) := by decide +kernel
theorem d_La_law_584 : decode code 584 = .ok (.irem, 1) := by decide +kernel
theorem d_La_law_585 : decode code 585 = .ok (.iadd, 1) := by decide +kernel
theorem d_La_law_586 : decode code 586 = .ok (.iload 10, 2) := by decide +kernel
theorem d_La_law_588 : decode code 588 = .ok (.iconst 4, 1) := by decide +kernel
theorem d_La_law_589 : decode code 589 = .ok (.idiv, 1) := by decide +kernel
theorem d_La_law_590 : decode code 590 = .ok (.iconst 4, 1) := by decide +kernel
theorem d_La_law_591 : decode code 591 = .ok (.irem, 1) := by decide +kernel
theorem d_La_law_592 : decode code 592 = .ok (.invokestatic 130, 3) := by decide +kernel
theorem d_La_law_595 : decode code 595 = .ok (.lconst 0, 1) := by decide +kernel
theorem d_La_law_596 : decode code 596 = .ok (.lcmp, 1) := by decide +kernel
theorem d_La_law_597 : decode code 597 = .ok (.ifCond .lt 33, 3) := by decide +kernel
theorem d_La_law_600 : decode code 600 = .ok (.aload_n 1, 1) := by decide +kernel
theorem d_La_law_601 : decode code 601 = .ok (.iconst 1, 1) := by decide +kernel
theorem d_La_law_602 : decode code 602 = .ok (.iload 10, 2) := by decide +kernel
theorem d_La_law_604 : decode code 604 = .ok (.bipush 16, 2) := by decide +kernel
theorem d_La_law_606 : decode code 606 = .ok (.idiv, 1) := by decide +kernel
theorem d_La_law_607 : decode code 607 = .ok (.iconst 3, 1) := by decide +kernel
theorem d_La_law_608 : decode code 608 = .ok (.irem, 1) := by decide +kernel
theorem d_La_law_609 : decode code 609 = .ok (.iadd, 1) := by decide +kernel
theorem d_La_law_610 : decode code 610 = .ok (.iload 10, 2) := by decide +kernel
theorem d_La_law_612 : decode code 612 = .ok (.bipush 64, 2) := by decide +kernel
theorem d_La_law_614 : decode code 614 = .ok (.idiv, 1) := by decide +kernel
theorem d_La_law_615 : decode code 615 = .ok (.bipush 6, 2) := by decide +kernel
theorem d_La_law_617 : decode code 617 = .ok (.irem, 1) := by decide +kernel
theorem d_La_law_618 : decode code 618 = .ok (.invokestatic 132, 3) := by decide +kernel
theorem d_La_law_621 : decode code 621 = .ok (.lconst 0, 1) := by decide +kernel
theorem d_La_law_622 : decode code 622 = .ok (.lcmp, 1) := by decide +kernel
theorem d_La_law_623 : decode code 623 = .ok (.ifCond .lt 7, 3) := by decide +kernel
theorem d_La_law_626 : decode code 626 = .ok (.iconst 1, 1) := by decide +kernel
theorem d_La_law_627 : decode code 627 = .ok (.goto 4, 3) := by decide +kernel
theorem d_La_law_630 : decode code 630 = .ok (.iconst 0, 1) := by decide +kernel
theorem d_La_law_631 : decode code 631 = .ok (.istore 7, 2) := by decide +kernel
theorem d_La_law_633 : decode code 633 = .ok (.goto 398, 3) := by decide +kernel
theorem d_La_law_636 : decode code 636 = .ok (.iload 11, 2) := by decide +kernel
theorem d_La_law_638 : decode code 638 = .ok (.bipush 9, 2) := by decide +kernel
theorem d_La_law_640 : decode code 640 = .ok (.if_icmp .ne 138, 3) := by decide +kernel
theorem d_La_law_643 : decode code 643 = .ok (.aload_n 1, 1) := by decide +kernel
theorem d_La_law_644 : decode code 644 = .ok (.invokevirtual 111, 3) := by decide +kernel
theorem d_La_law_647 : decode code 647 = .ok (.iload 10, 2) := by decide +kernel
theorem d_La_law_649 : decode code 649 = .ok (.sipush 16384, 3) := by decide +kernel
theorem d_La_law_652 : decode code 652 = .ok (.idiv, 1) := by decide +kernel
theorem d_La_law_653 : decode code 653 = .ok (.bipush 30, 2) := by decide +kernel
theorem d_La_law_655 : decode code 655 = .ok (.irem, 1) := by decide +kernel
theorem d_La_law_656 : decode code 656 = .ok (.iadd, 1) := by decide +kernel
theorem d_La_law_657 : decode code 657 = .ok (.istore 12, 2) := by decide +kernel
theorem d_La_law_659 : decode code 659 = .ok (.aload_n 1, 1) := by decide +kernel
theorem d_La_law_660 : decode code 660 = .ok (.iload 10, 2) := by decide +kernel
theorem d_La_law_662 : decode code 662 = .ok (.bipush 100, 2) := by decide +kernel
theorem d_La_law_664 : decode code 664 = .ok (.irem, 1) := by decide +kernel
theorem d_La_law_665 : decode code 665 = .ok (.iload 10, 2) := by decide +kernel
theorem d_La_law_667 : decode code 667 = .ok (.sipush 128, 3) := by decide +kernel
theorem d_La_law_670 : decode code 670 = .ok (.idiv, 1) := by decide +kernel
theorem d_La_law_671 : decode code 671 = .ok (.bipush 100, 2) := by decide +kernel
theorem d_La_law_673 : decode code 673 = .ok (.irem, 1) := by decide +kernel
theorem d_La_law_674 : decode code 674 = .ok (.iconst 1, 1) := by decide +kernel
theorem d_La_law_675 : decode code 675 = .ok (.iload 9, 2) := by decide +kernel
theorem d_La_law_677 : decode code 677 = .ok (.bipush 16, 2) := by decide +kernel
theorem d_La_law_679 : decode code 679 = .ok (.idiv, 1) := by decide +kernel
theorem d_La_law_680 : decode code 680 = .ok (.iconst 3, 1) := by decide +kernel
theorem d_La_law_681 : decode code 681 = .ok (.irem, 1) := by decide +kernel
theorem d_La_law_682 : decode code 682 = .ok (.iadd, 1) := by decide +kernel
theorem d_La_law_683 : decode code 683 = .ok (.iload 12, 2) := by decide +kernel
theorem d_La_law_685 : decode code 685 = .ok (.iload 12, 2) := by decide +kernel
theorem d_La_law_687 : decode code 687 = .ok (.iload 9, 2) := by decide +kernel
theorem d_La_law_689 : decode code 689 = .ok (.bipush 64, 2) := by decide +kernel
theorem d_La_law_691 : decode code 691 = .ok (.idiv, 1) := by decide +kernel
theorem d_La_law_692 : decode code 692 = .ok (.bipush 30, 2) := by decide +kernel
theorem d_La_law_694 : decode code 694 = .ok (.irem, 1) := by decide +kernel
theorem d_La_law_695 : decode code 695 = .ok (.iadd, 1) := by decide +kernel
theorem d_La_law_696 : decode code 696 = .ok (.invokestatic 134, 3) := by decide +kernel
theorem d_La_law_699 : decode code 699 = .ok (.iload 5, 2) := by decide +kernel
theorem d_La_law_701 : decode code 701 = .ok (.bipush 10, 2) := by decide +kernel
theorem d_La_law_703 : decode code 703 = .ok (.if_icmp .ne 9, 3) := by decide +kernel
theorem d_La_law_706 : decode code 706 = .ok (.ldc2_w 25, 3) := by decide +kernel
theorem d_La_law_709 : decode code 709 = .ok (.goto 6, 3) := by decide +kernel
theorem d_La_law_712 : decode code 712 = .ok (.iload 5, 2) := by decide +kernel
theorem d_La_law_714 : decode code 714 = .ok (.i2l, 1) := by decide +kernel
theorem d_La_law_715 : decode code 715 = .ok (.lcmp, 1) := by decide +kernel
theorem d_La_law_716 : decode code 716 = .ok (.ifCond .ne 7, 3) := by decide +kernel
theorem d_La_law_719 : decode code 719 = .ok (.iconst 1, 1) := by decide +kernel
theorem d_La_law_720 : decode code 720 = .ok (.goto 4, 3) := by decide +kernel
theorem d_La_law_723 : decode code 723 = .ok (.iconst 0, 1) := by decide +kernel
theorem d_La_law_724 : decode code 724 = .ok (.istore 7, 2) := by decide +kernel
theorem d_La_law_726 : decode code 726 = .ok (.iload 5, 2) := by decide +kernel
theorem d_La_law_728 : decode code 728 = .ok (.iload 5, 2) := by decide +kernel
theorem d_La_law_730 : decode code 730 = .ok (.bipush 10, 2) := by decide +kernel
theorem d_La_law_732 : decode code 732 = .ok (.if_icmp .ne 7, 3) := by decide +kernel
theorem d_La_law_735 : decode code 735 = .ok (.iconst 0, 1) := by decide +kernel
theorem d_La_law_736 : decode code 736 = .ok (.goto 4, 3) := by decide +kernel
theorem d_La_law_739 : decode code 739 = .ok (.iconst 1, 1) := by decide +kernel
theorem d_La_law_740 : decode code 740 = .ok (.iadd, 1) := by decide +kernel
theorem d_La_law_741 : decode code 741 = .ok (.istore 5, 2) := by decide +kernel
theorem d_La_law_743 : decode code 743 = .ok (.iload 7, 2) := by decide +kernel
theorem d_La_law_745 : decode code 745 = .ok (.ifCond .eq 27, 3) := by decide +kernel
theorem d_La_law_748 : decode code 748 = .ok (.aload_n 1, 1) := by decide +kernel
theorem d_La_law_749 : decode code 749 = .ok (.iload 9, 2) := by decide +kernel
theorem d_La_law_751 : decode code 751 = .ok (.sipush 2048, 3) := by decide +kernel
theorem d_La_law_754 : decode code 754 = .ok (.idiv, 1) := by decide +kernel
theorem d_La_law_755 : decode code 755 = .ok (.iload 5, 2) := by decide +kernel
theorem d_La_law_757 : decode code 757 = .ok (.irem, 1) := by decide +kernel
theorem d_La_law_758 : decode code 758 = .ok (.invokestatic 137, 3) := by decide +kernel
theorem d_La_law_761 : decode code 761 = .ok (.ldc2_w 25, 3) := by decide +kernel
theorem d_La_law_764 : decode code 764 = .ok (.lcmp, 1) := by decide +kernel
theorem d_La_law_765 : decode code 765 = .ok (.ifCond .lt 7, 3) := by decide +kernel
theorem d_La_law_768 : decode code 768 = .ok (.iconst 1, 1) := by decide +kernel
theorem d_La_law_769 : decode code 769 = .ok (.goto 4, 3) := by decide +kernel
theorem d_La_law_772 : decode code 772 = .ok (.iconst 0, 1) := by decide +kernel
theorem d_La_law_773 : decode code 773 = .ok (.istore 7, 2) := by decide +kernel
theorem d_La_law_775 : decode code 775 = .ok (.goto 256, 3) := by decide +kernel
theorem d_La_law_778 : decode code 778 = .ok (.iload 11, 2) := by decide +kernel
theorem d_La_law_780 : decode code 780 = .ok (.bipush 10, 2) := by decide +kernel
theorem d_La_law_782 : decode code 782 = .ok (.if_icmp .ne 121, 3) := by decide +kernel
theorem d_La_law_785 : decode code 785 = .ok (.iload 10, 2) := by decide +kernel
theorem d_La_law_787 : decode code 787 = .ok (.iload 4, 2) := by decide +kernel
theorem d_La_law_789 : decode code 789 = .ok (.irem, 1) := by decide +kernel
theorem d_La_law_790 : decode code 790 = .ok (.istore 12, 2) := by decide +kernel
theorem d_La_law_792 : decode code 792 = .ok (.aload_n 1, 1) := by decide +kernel
theorem d_La_law_793 : decode code 793 = .ok (.iload 12, 2) := by decide +kernel
theorem d_La_law_795 : decode code 795 = .ok (.iconst 0, 1) := by decide +kernel
theorem d_La_law_796 : decode code 796 = .ok (.invokestatic 92, 3) := by decide +kernel
theorem d_La_law_799 : decode code 799 = .ok (.lconst 1, 1) := by decide +kernel
theorem d_La_law_800 : decode code 800 = .ok (.lcmp, 1) := by decide +kernel
theorem d_La_law_801 : decode code 801 = .ok (.ifCond .ne 19, 3) := by decide +kernel
theorem d_La_law_804 : decode code 804 = .ok (.aload_n 1, 1) := by decide +kernel
theorem d_La_law_805 : decode code 805 = .ok (.iload 12, 2) := by decide +kernel
theorem d_La_law_807 : decode code 807 = .ok (.iconst 2, 1) := by decide +kernel
theorem d_La_law_808 : decode code 808 = .ok (.invokestatic 92, 3) := by decide +kernel
theorem d_La_law_811 : decode code 811 = .ok (.lconst 0, 1) := by decide +kernel
theorem d_La_law_812 : decode code 812 = .ok (.lcmp, 1) := by decide +kernel
theorem d_La_law_813 : decode code 813 = .ok (.ifCond .le 7, 3) := by decide +kernel
theorem d_La_law_816 : decode code 816 = .ok (.iconst 1, 1) := by decide +kernel
theorem d_La_law_817 : decode code 817 = .ok (.goto 4, 3) := by decide +kernel
theorem d_La_law_820 : decode code 820 = .ok (.iconst 0, 1) := by decide +kernel
theorem d_La_law_821 : decode code 821 = .ok (.istore 13, 2) := by decide +kernel
theorem d_La_law_823 : decode code 823 = .ok (.aload_n 1, 1) := by decide +kernel
theorem d_La_law_824 : decode code 824 = .ok (.iload 12, 2) := by decide +kernel
theorem d_La_law_826 : decode code 826 = .ok (.iconst 1, 1) := by decide +kernel
theorem d_La_law_827 : decode code 827 = .ok (.iload 10, 2) := by decide +kernel
theorem d_La_law_829 : decode code 829 = .ok (.bipush 16, 2) := by decide +kernel
theorem d_La_law_831 : decode code 831 = .ok (.idiv, 1) := by decide +kernel
theorem d_La_law_832 : decode code 832 = .ok (.bipush 10, 2) := by decide +kernel
theorem d_La_law_834 : decode code 834 = .ok (.irem, 1) := by decide +kernel
theorem d_La_law_835 : decode code 835 = .ok (.iadd, 1) := by decide +kernel
theorem d_La_law_836 : decode code 836 = .ok (.invokestatic 152, 3) := by decide +kernel
theorem d_La_law_839 : decode code 839 = .ok (.lstore 14, 2) := by decide +kernel
theorem d_La_law_841 : decode code 841 = .ok (.iload 6, 2) := by decide +kernel
theorem d_La_law_843 : decode code 843 = .ok (.ifCond .ne 10, 3) := by decide +kernel
theorem d_La_law_846 : decode code 846 = .ok (.lload 14, 2) := by decide +kernel
theorem d_La_law_848 : decode code 848 = .ok (.lconst 0, 1) := by decide +kernel
theorem d_La_law_849 : decode code 849 = .ok (.lcmp, 1) := by decide +kernel
theorem d_La_law_850 : decode code 850 = .ok (.ifCond .lt 7, 3) := by decide +kernel
theorem d_La_law_853 : decode code 853 = .ok (.iconst 1, 1) := by decide +kernel
theorem d_La_law_854 : decode code 854 = .ok (.goto 4, 3) := by decide +kernel
theorem d_La_law_857 : decode code 857 = .ok (.iconst 0, 1) := by decide +kernel
theorem d_La_law_858 : decode code 858 = .ok (.istore 6, 2) := by decide +kernel
theorem d_La_law_860 : decode code 860 = .ok (.lload 14, 2) := by decide +kernel
theorem d_La_law_862 : decode code 862 = .ok (.ldc2_w 25, 3) := by decide +kernel
theorem d_La_law_865 : decode code 865 = .ok (.lcmp, 1) := by decide +kernel
theorem d_La_law_866 : decode code 866 = .ok (.ifCond .eq 27, 3) := by decide +kernel
theorem d_La_law_869 : decode code 869 = .ok (.iload 13, 2) := by decide +kernel
theorem d_La_law_871 : decode code 871 = .ok (.ifCond .eq 26, 3) := by decide +kernel
theorem d_La_law_874 : decode code 874 = .ok (.aload_n 1, 1) := by decide +kernel
theorem d_La_law_875 : decode code 875 = .ok (.aload_n 1, 1) := by decide +kernel
theorem d_La_law_876 : decode code 876 = .ok (.iload 12, 2) := by decide +kernel
theorem d_La_law_878 : decode code 878 = .ok (.iconst 5, 1) := by decide +kernel
theorem d_La_law_879 : decode code 879 = .ok (.invokestatic 92, 3) := by decide +kernel
theorem d_La_law_882 : decode code 882 = .ok (.l2i, 1) := by decide +kernel
theorem d_La_law_883 : decode code 883 = .ok (.iconst 3, 1) := by decide +kernel
theorem d_La_law_884 : decode code 884 = .ok (.invokestatic 109, 3) := by decide +kernel
theorem d_La_law_887 : decode code 887 = .ok (.lload 14, 2) := by decide +kernel
theorem d_La_law_889 : decode code 889 = .ok (.lcmp, 1) := by decide +kernel
theorem d_La_law_890 : decode code 890 = .ok (.ifCond .ne 7, 3) := by decide +kernel
theorem d_La_law_893 : decode code 893 = .ok (.iconst 1, 1) := by decide +kernel
theorem d_La_law_894 : decode code 894 = .ok (.goto 4, 3) := by decide +kernel
theorem d_La_law_897 : decode code 897 = .ok (.iconst 0, 1) := by decide +kernel
theorem d_La_law_898 : decode code 898 = .ok (.istore 7, 2) := by decide +kernel
theorem d_La_law_900 : decode code 900 = .ok (.goto 131, 3) := by decide +kernel
theorem d_La_law_903 : decode code 903 = .ok (.iload 10, 2) := by decide +kernel
theorem d_La_law_905 : decode code 905 = .ok (.iload 4, 2) := by decide +kernel
theorem d_La_law_907 : decode code 907 = .ok (.irem, 1) := by decide +kernel
theorem d_La_law_908 : decode code 908 = .ok (.istore 12, 2) := by decide +kernel
theorem d_La_law_910 : decode code 910 = .ok (.aload_n 1, 1) := by decide +kernel
theorem d_La_law_911 : decode code 911 = .ok (.iload 12, 2) := by decide +kernel
theorem d_La_law_913 : decode code 913 = .ok (.iconst 0, 1) := by decide +kernel
theorem d_La_law_914 : decode code 914 = .ok (.invokestatic 92, 3) := by decide +kernel
theorem d_La_law_917 : decode code 917 = .ok (.lconst 1, 1) := by decide +kernel
theorem d_La_law_918 : decode code 918 = .ok (.lcmp, 1) := by decide +kernel
theorem d_La_law_919 : decode code 919 = .ok (.ifCond .ne 19, 3) := by decide +kernel
theorem d_La_law_922 : decode code 922 = .ok (.aload_n 1, 1) := by decide +kernel
theorem d_La_law_923 : decode code 923 = .ok (.iload 12, 2) := by decide +kernel
theorem d_La_law_925 : decode code 925 = .ok (.iconst 2, 1) := by decide +kernel
theorem d_La_law_926 : decode code 926 = .ok (.invokestatic 92, 3) := by decide +kernel
theorem d_La_law_929 : decode code 929 = .ok (.lconst 0, 1) := by decide +kernel
theorem d_La_law_930 : decode code 930 = .ok (.lcmp, 1) := by decide +kernel
theorem d_La_law_931 : decode code 931 = .ok (.ifCond .le 7, 3) := by decide +kernel
theorem d_La_law_934 : decode code 934 = .ok (.iconst 1, 1) := by decide +kernel
theorem d_La_law_935 : decode code 935 = .ok (.goto 4, 3) := by decide +kernel
theorem d_La_law_938 : decode code 938 = .ok (.iconst 0, 1) := by decide +kernel
theorem d_La_law_939 : decode code 939 = .ok (.istore 13, 2) := by decide +kernel
theorem d_La_law_941 : decode code 941 = .ok (.iload 10, 2) := by decide +kernel
theorem d_La_law_943 : decode code 943 = .ok (.bipush 16, 2) := by decide +kernel
theorem d_La_law_945 : decode code 945 = .ok (.idiv, 1) := by decide +kernel
theorem d_La_law_946 : decode code 946 = .ok (.iconst 3, 1) := by decide +kernel
theorem d_La_law_947 : decode code 947 = .ok (.irem, 1) := by decide +kernel
theorem d_La_law_948 : decode code 948 = .ok (.ifCond .ne 12, 3) := by decide +kernel
theorem d_La_law_951 : decode code 951 = .ok (.aload_n 1, 1) := by decide +kernel
theorem d_La_law_952 : decode code 952 = .ok (.iload 12, 2) := by decide +kernel
theorem d_La_law_954 : decode code 954 = .ok (.invokestatic 150, 3) := by decide +kernel
theorem d_La_law_957 : decode code 957 = .ok (.goto 6, 3) := by decide +kernel
theorem d_La_law_960 : decode code 960 = .ok (.ldc2_w 25, 3) := by decide +kernel
theorem d_La_law_963 : decode code 963 = .ok (.lstore 14, 2) := by decide +kernel
theorem d_La_law_965 : decode code 965 = .ok (.lload 14, 2) := by decide +kernel
theorem d_La_law_967 : decode code 967 = .ok (.ldc2_w 25, 3) := by decide +kernel
theorem d_La_law_970 : decode code 970 = .ok (.lcmp, 1) := by decide +kernel
theorem d_La_law_971 : decode code 971 = .ok (.ifCond .eq 31, 3) := by decide +kernel
theorem d_La_law_974 : decode code 974 = .ok (.iload 13, 2) := by decide +kernel
theorem d_La_law_976 : decode code 976 = .ok (.ifCond .eq 30, 3) := by decide +kernel
theorem d_La_law_979 : decode code 979 = .ok (.aload_n 2, 1) := by decide +kernel
theorem d_La_law_980 : decode code 980 = .ok (.lload 14, 2) := by decide +kernel
theorem d_La_law_982 : decode code 982 = .ok (.invokestatic 101, 3) := by decide +kernel
theorem d_La_law_985 : decode code 985 = .ok (.ifCond .eq 21, 3) := by decide +kernel
theorem d_La_law_988 : decode code 988 = .ok (.aload_n 1, 1) := by decide +kernel
theorem d_La_law_989 : decode code 989 = .ok (.iload 12, 2) := by decide +kernel
theorem d_La_law_991 : decode code 991 = .ok (.iconst 0, 1) := by decide +kernel
theorem d_La_law_992 : decode code 992 = .ok (.invokestatic 92, 3) := by decide +kernel
theorem d_La_law_995 : decode code 995 = .ok (.ldc2_w 105, 3) := by decide +kernel
theorem d_La_law_998 : decode code 998 = .ok (.lcmp, 1) := by decide +kernel
theorem d_La_law_999 : decode code 999 = .ok (.ifCond .ne 7, 3) := by decide +kernel
theorem d_La_law_1002 : decode code 1002 = .ok (.iconst 1, 1) := by decide +kernel
theorem d_La_law_1003 : decode code 1003 = .ok (.goto 4, 3) := by decide +kernel
theorem d_La_law_1006 : decode code 1006 = .ok (.iconst 0, 1) := by decide +kernel
theorem d_La_law_1007 : decode code 1007 = .ok (.istore 7, 2) := by decide +kernel
theorem d_La_law_1009 : decode code 1009 = .ok (.iload 7, 2) := by decide +kernel
theorem d_La_law_1011 : decode code 1011 = .ok (.ifCond .eq 17, 3) := by decide +kernel
theorem d_La_law_1014 : decode code 1014 = .ok (.aload_n 1, 1) := by decide +kernel
theorem d_La_law_1015 : decode code 1015 = .ok (.invokevirtual 175, 3) := by decide +kernel
theorem d_La_law_1018 : decode code 1018 = .ok (.iload 4, 2) := by decide +kernel
theorem d_La_law_1020 : decode code 1020 = .ok (.ishr, 1) := by decide +kernel
theorem d_La_law_1021 : decode code 1021 = .ok (.ifCond .ne 7, 3) := by decide +kernel
theorem d_La_law_1024 : decode code 1024 = .ok (.iconst 1, 1) := by decide +kernel
theorem d_La_law_1025 : decode code 1025 = .ok (.goto 4, 3) := by decide +kernel
theorem d_La_law_1028 : decode code 1028 = .ok (.iconst 0, 1) := by decide +kernel
theorem d_La_law_1029 : decode code 1029 = .ok (.istore 7, 2) := by decide +kernel
theorem d_La_law_1031 : decode code 1031 = .ok (.iload 7, 2) := by decide +kernel
theorem d_La_law_1033 : decode code 1033 = .ok (.ifCond .eq 18, 3) := by decide +kernel
theorem d_La_law_1036 : decode code 1036 = .ok (.aload_n 1, 1) := by decide +kernel
theorem d_La_law_1037 : decode code 1037 = .ok (.iload 4, 2) := by decide +kernel
theorem d_La_law_1039 : decode code 1039 = .ok (.aload_n 2, 1) := by decide +kernel
theorem d_La_law_1040 : decode code 1040 = .ok (.aload_n 3, 1) := by decide +kernel
theorem d_La_law_1041 : decode code 1041 = .ok (.invokestatic 178, 3) := by decide +kernel
theorem d_La_law_1044 : decode code 1044 = .ok (.ifCond .eq 7, 3) := by decide +kernel
theorem d_La_law_1047 : decode code 1047 = .ok (.iconst 1, 1) := by decide +kernel
theorem d_La_law_1048 : decode code 1048 = .ok (.goto 4, 3) := by decide +kernel
theorem d_La_law_1051 : decode code 1051 = .ok (.iconst 0, 1) := by decide +kernel
theorem d_La_law_1052 : decode code 1052 = .ok (.istore 7, 2) := by decide +kernel
theorem d_La_law_1054 : decode code 1054 = .ok (.iload 8, 2) := by decide +kernel
theorem d_La_law_1056 : decode code 1056 = .ok (.bipush 8, 2) := by decide +kernel
theorem d_La_law_1058 : decode code 1058 = .ok (.irem, 1) := by decide +kernel
theorem d_La_law_1059 : decode code 1059 = .ok (.bipush 7, 2) := by decide +kernel
theorem d_La_law_1061 : decode code 1061 = .ok (.if_icmp .ne 25, 3) := by decide +kernel
theorem d_La_law_1064 : decode code 1064 = .ok (.iload 7, 2) := by decide +kernel
theorem d_La_law_1066 : decode code 1066 = .ok (.ifCond .eq 17, 3) := by decide +kernel
theorem d_La_law_1069 : decode code 1069 = .ok (.aload_n 1, 1) := by decide +kernel
theorem d_La_law_1070 : decode code 1070 = .ok (.aload_n 2, 1) := by decide +kernel
theorem d_La_law_1071 : decode code 1071 = .ok (.iload 6, 2) := by decide +kernel
theorem d_La_law_1073 : decode code 1073 = .ok (.invokestatic 182, 3) := by decide +kernel
theorem d_La_law_1076 : decode code 1076 = .ok (.ifCond .eq 7, 3) := by decide +kernel
theorem d_La_law_1079 : decode code 1079 = .ok (.iconst 1, 1) := by decide +kernel
theorem d_La_law_1080 : decode code 1080 = .ok (.goto 4, 3) := by decide +kernel
theorem d_La_law_1083 : decode code 1083 = .ok (.iconst 0, 1) := by decide +kernel
theorem d_La_law_1084 : decode code 1084 = .ok (.istore 7, 2) := by decide +kernel
theorem d_La_law_1086 : decode code 1086 = .ok (.iload 8, 2) := by decide +kernel
theorem d_La_law_1088 : decode code 1088 = .ok (.bipush 20, 2) := by decide +kernel
theorem d_La_law_1090 : decode code 1090 = .ok (.irem, 1) := by decide +kernel
theorem d_La_law_1091 : decode code 1091 = .ok (.bipush 19, 2) := by decide +kernel
theorem d_La_law_1093 : decode code 1093 = .ok (.if_icmp .ne 22, 3) := by decide +kernel
theorem d_La_law_1096 : decode code 1096 = .ok (.iload 7, 2) := by decide +kernel
theorem d_La_law_1098 : decode code 1098 = .ok (.ifCond .eq 14, 3) := by decide +kernel
theorem d_La_law_1101 : decode code 1101 = .ok (.aload_n 1, 1) := by decide +kernel
theorem d_La_law_1102 : decode code 1102 = .ok (.invokestatic 186, 3) := by decide +kernel
theorem d_La_law_1105 : decode code 1105 = .ok (.ifCond .eq 7, 3) := by decide +kernel
theorem d_La_law_1108 : decode code 1108 = .ok (.iconst 1, 1) := by decide +kernel
theorem d_La_law_1109 : decode code 1109 = .ok (.goto 4, 3) := by decide +kernel
theorem d_La_law_1112 : decode code 1112 = .ok (.iconst 0, 1) := by decide +kernel
theorem d_La_law_1113 : decode code 1113 = .ok (.istore 7, 2) := by decide +kernel
theorem d_La_law_1115 : decode code 1115 = .ok (.iinc 8 1, 3) := by decide +kernel
theorem d_La_law_1118 : decode code 1118 = .ok (.goto (-923), 3) := by decide +kernel
theorem d_La_law_1121 : decode code 1121 = .ok (.iload 7, 2) := by decide +kernel
theorem d_La_law_1123 : decode code 1123 = .ok (.ireturn, 1) := by decide +kernel
set_option maxRecDepth 100000 in
set_option maxHeartbeats 4000000 in
theorem w_b_La_law_51 {X : CX} {KX : Int32 × MS → Prop} {b L : Nat} {xs : Nat → Int32}  {a1 : Option Nat} {a2 : Option Nat} {a3 : Option Nat} {a4 : Int32} {a5 : Int32} {a6 : Int32} {a7 : Int32} {a8 : Int32} {s : MS} {rec : Int32 → Int32 → MS → Option (Int32 × MS)} {sb : MS} {ce0 sl0 cB sB : Nat} (ok : Ok X code RL rm_La_law 19 true) (hse : SE X.2.2.2.1 X.1.2.2.2.2.1 ∧ X.1.2.1.stackTraces = false) (ht : Sc X b L xs) (hc1 : ce0 + 1 ≤ cB) (hc2 : sl0 + 6 ≤ sB) (hB1 : cB ≤ 600086) (hB2 : sB ≤ 7301442) (hexit : ∀ (e7 : Int32) (z : MS), KX (e7, z) → (∀ q, dm sb q → dm z q) → G X z cB sB 122 [(0, vW (Value.ref b)), (1, vR a1), (2, vR a2), (3, vR a3), (4, vI a4), (5, vI a5), (6, vI a6), (7, vI e7)] []) (hrec : ∀ (v7 : Int32) (v8 : Int32) (z : MS), (∀ q, dm sb q → dm z q) → ∀ y, rec v7 v8 z = some y → KX y → G X z cB sB 51 [(0, vW (Value.ref b)), (1, vR a1), (2, vR a2), (3, vR a3), (4, vI a4), (5, vI a5), (6, vI a6), (7, vI v7), (8, vI v8)] []) (mb : ∀ q, dm sb q → dm s q) {res : Int32 × MS} (h : b_La_law_51 L xs a1 a2 a3 a4 a5 a6 a7 a8 s rec = some res) (hk : KX res) : G X s ce0 sl0 51 [(0, vW (Value.ref b)), (1, vR a1), (2, vR a2), (3, vR a3), (4, vI a4), (5, vI a5), (6, vI a6), (7, vI a7), (8, vI a8)] [] := by
  unfold b_La_law_51 at h
  refine g_iload (i := 8) 8 ok d_La_law_51 rfl ?_
  refine g_iconst (v := (4 : Int32)) ok d_La_law_53 (by decide) ?_
  refine g_icmp_ge (tgt := 122) ok d_La_law_54 (by decide) (fun c52 => ?_) (fun c52 => ?_)
  · replace h := (if_pos c52).symm.trans h
    refine g_iload (i := 7) 7 ok d_La_law_57 rfl ?_
    refine g_if_eq (tgt := 122) ok d_La_law_59 (by decide) (fun c53 => ?_) (fun c53 => ?_)
    · replace h := (if_pos c53).symm.trans h
      refine g_sub [0, 1, 2, 3, 4, 5, 6, 7] rfl ?_
      refine g_widen (ce' := cB) (sl' := sB) (by omega) (by omega) ?_
      cases h
      exact hexit a7 s hk mb
    · replace h := (if_neg c53).symm.trans h
      refine g_aload_n (i := 1) 1 ok d_La_law_62 rfl rfl ?_
      refine g_bipush (v := (37 : Int32)) ok d_La_law_63 (by decide) ?_
      refine g_iload (i := 8) 8 ok d_La_law_65 rfl ?_
      refine g_imul ok d_La_law_67 ?_
      refine g_bipush (v := (11 : Int32)) ok d_La_law_68 (by decide) ?_
      refine g_iadd ok d_La_law_70 ?_
      refine g_aloadw_n (i := 0) 0 ok d_La_law_71 rfl rfl ?_
      refine g_iload (i := 8) 8 ok d_La_law_72 rfl ?_
      obtain ⟨x54, hc55, h⟩ := bnd_go h
      refine g_callD (rm2 := rm_La_draw) (As := [vW (Value.ref b), vI a8]) (rest := [vI (((37 : Int32) * a8) + (11 : Int32)), vR a1]) ok ⟨ht.1, ht.2.1, ht.2.2.1⟩ (c_La_draw X.1.2.1 hc55) cm_La_draw cs_La_draw tw_185 ⟨rfl, rfl⟩ ⟨le_t rfl, le_t rfl⟩ ⟨rfl, le_t rfl⟩ ⟨(by show _ ≤ 600086; omega), (by show _ ≤ 7301442; omega)⟩ d_La_law_74 rfl ?_
      show G X s ce0 sl0 77 [(0, vW (Value.ref b)), (1, vR a1), (2, vR a2), (3, vR a3), (4, vI a4), (5, vI a5), (6, vI a6), (7, vI a7), (8, vI a8)] [vI x54, vI (((37 : Int32) * a8) + (11 : Int32)), vR a1]
      refine g_bipush (v := (7 : Int32)) ok d_La_law_77 (by decide) ?_
      refine g_irem ok d_La_law_79 (by decide) ?_
      refine g_iconst (v := (5 : Int32)) ok d_La_law_80 (by decide) ?_
      refine g_imul ok d_La_law_81 ?_
      refine g_iadd ok d_La_law_82 ?_
      refine g_bipush (v := (100 : Int32)) ok d_La_law_83 (by decide) ?_
      refine g_irem ok d_La_law_85 (by decide) ?_
      refine g_iconst (v := (1 : Int32)) ok d_La_law_86 (by decide) ?_
      refine g_aloadw_n (i := 0) 0 ok d_La_law_87 rfl rfl ?_
      refine g_iload (i := 8) 8 ok d_La_law_88 rfl ?_
      obtain ⟨x56, hc57, h⟩ := bnd_go h
      refine g_callD (rm2 := rm_La_draw) (As := [vW (Value.ref b), vI a8]) (rest := [vI (1 : Int32), vI (((((37 : Int32) * a8) + (11 : Int32)) + ((x54 - x54 / (7 : Int32) * (7 : Int32)) * (5 : Int32))) - ((((37 : Int32) * a8) + (11 : Int32)) + ((x54 - x54 / (7 : Int32) * (7 : Int32)) * (5 : Int32))) / (100 : Int32) * (100 : Int32)), vR a1]) ok ⟨ht.1, ht.2.1, ht.2.2.1⟩ (c_La_draw X.1.2.1 hc57) cm_La_draw cs_La_draw tw_185 ⟨rfl, rfl⟩ ⟨le_t rfl, le_t rfl⟩ ⟨rfl, le_t rfl⟩ ⟨(by show _ ≤ 600086; omega), (by show _ ≤ 7301442; omega)⟩ d_La_law_90 rfl ?_
      show G X s ce0 sl0 93 [(0, vW (Value.ref b)), (1, vR a1), (2, vR a2), (3, vR a3), (4, vI a4), (5, vI a5), (6, vI a6), (7, vI a7), (8, vI a8)] [vI x56, vI (1 : Int32), vI (((((37 : Int32) * a8) + (11 : Int32)) + ((x54 - x54 / (7 : Int32) * (7 : Int32)) * (5 : Int32))) - ((((37 : Int32) * a8) + (11 : Int32)) + ((x54 - x54 / (7 : Int32) * (7 : Int32)) * (5 : Int32))) / (100 : Int32) * (100 : Int32)), vR a1]
      refine g_bipush (v := (8 : Int32)) ok d_La_law_93 (by decide) ?_
      refine g_idiv ok d_La_law_95 (by decide) ?_
      refine g_iconst (v := (3 : Int32)) ok d_La_law_96 (by decide) ?_
      refine g_irem ok d_La_law_97 (by decide) ?_
      refine g_iadd ok d_La_law_98 ?_
      refine g_sub [0, 1, 2, 3, 4, 5, 6, 8] rfl ?_
      obtain ⟨k58, hk59, h⟩ := bnd_go h
      obtain ⟨n60, hn61, h⟩ := bnd_go h
      obtain ⟨n62, hn63, h⟩ := bnd_go h
      obtain ⟨x67, s66, hc65, h⟩ := bnd2_go h
      refine g_callW (rm2 := rm_La_tower) (As := [vR a1, vI (((((37 : Int32) * a8) + (11 : Int32)) + ((x54 - x54 / (7 : Int32) * (7 : Int32)) * (5 : Int32))) - ((((37 : Int32) * a8) + (11 : Int32)) + ((x54 - x54 / (7 : Int32) * (7 : Int32)) * (5 : Int32))) / (100 : Int32) * (100 : Int32)), vI ((1 : Int32) + ((x56 / (8 : Int32)) - (x56 / (8 : Int32)) / (3 : Int32) * (3 : Int32)))]) (rest := []) ok hse.1 (c_La_tower hse.2 hc65) cm_La_tower cs_La_tower tw_190 ⟨rfl, rfl⟩ ⟨le_t rfl, le_t rfl⟩ ⟨rfl, le_t rfl⟩ ⟨(by show _ ≤ 600086; omega), (by show _ ≤ 7301442; omega)⟩ ⟨trivial, ⟨(rk_of hk59), ⟨(rk_rl hn61), ⟨(rk_rl hn63), ⟨trivial, ⟨trivial, ⟨trivial, ⟨trivial, trivial⟩⟩⟩⟩⟩⟩⟩⟩ trivial d_La_law_99 rfl (fun m64 => ?_)
      show G X s66 (ce0 + 1) (sl0 + 6) 102 [(0, vW (Value.ref b)), (1, vR a1), (2, vR a2), (3, vR a3), (4, vI a4), (5, vI a5), (6, vI a6), (8, vI a8)] [vL x67]
      refine g_ldc2 (v := (3 : Int64)) ok d_La_law_102 tw_687 ?_
      refine g_lcmp ok d_La_law_105 ?_
      refine g_if_gt (tgt := 113) ok d_La_law_106 (by decide) (fun c68 => ?_) (fun c68 => ?_)
      · replace h := (if_pos c68).symm.trans h
        refine g_iconst (v := (0 : Int32)) ok d_La_law_113 (by decide) ?_
        refine g_istore (i := 7) [(7, vI (0 : Int32)), (0, vW (Value.ref b)), (1, vR a1), (2, vR a2), (3, vR a3), (4, vI a4), (5, vI a5), (6, vI a6), (8, vI a8)] ok d_La_law_114 (by decide) rfl ?_
        obtain ⟨x69, e70⟩ : ∃ z, a8 + (1 : Int32) = z := ⟨_, rfl⟩
        replace h := lt_go h e70
        refine g_iinc (i := 8) (v := x69) 8 [(8, vI x69), (7, vI (0 : Int32)), (0, vW (Value.ref b)), (1, vR a1), (2, vR a2), (3, vR a3), (4, vI a4), (5, vI a5), (6, vI a6)] ok d_La_law_116 rfl (by rw [← e70]; rfl) (by decide) rfl ?_
        refine g_goto (tgt := 51) ok d_La_law_119 (by decide) ?_
        refine g_sub [2, 3, 4, 5, 6, 7, 8, 1, 0] rfl ?_
        refine g_widen (ce' := cB) (sl' := sB) (by omega) (by omega) ?_
        exact hrec (0 : Int32) x69 s66 (fun z hz => m64 z (mb z hz)) _ h hk
      · replace h := (if_neg c68).symm.trans h
        refine g_iconst (v := (1 : Int32)) ok d_La_law_109 (by decide) ?_
        refine g_goto (tgt := 114) ok d_La_law_110 (by decide) ?_
        refine g_istore (i := 7) [(7, vI (1 : Int32)), (0, vW (Value.ref b)), (1, vR a1), (2, vR a2), (3, vR a3), (4, vI a4), (5, vI a5), (6, vI a6), (8, vI a8)] ok d_La_law_114 (by decide) rfl ?_
        obtain ⟨x71, e72⟩ : ∃ z, a8 + (1 : Int32) = z := ⟨_, rfl⟩
        replace h := lt_go h e72
        refine g_iinc (i := 8) (v := x71) 8 [(8, vI x71), (7, vI (1 : Int32)), (0, vW (Value.ref b)), (1, vR a1), (2, vR a2), (3, vR a3), (4, vI a4), (5, vI a5), (6, vI a6)] ok d_La_law_116 rfl (by rw [← e72]; rfl) (by decide) rfl ?_
        refine g_goto (tgt := 51) ok d_La_law_119 (by decide) ?_
        refine g_sub [2, 3, 4, 5, 6, 7, 8, 1, 0] rfl ?_
        refine g_widen (ce' := cB) (sl' := sB) (by omega) (by omega) ?_
        exact hrec (1 : Int32) x71 s66 (fun z hz => m64 z (mb z hz)) _ h hk
  · replace h := (if_neg c52).symm.trans h
    refine g_sub [0, 1, 2, 3, 4, 5, 6, 7] rfl ?_
    refine g_widen (ce' := cB) (sl' := sB) (by omega) (by omega) ?_
    cases h
    exact hexit a7 s hk mb
set_option maxHeartbeats 4000000 in
theorem wx_l_La_law_51 {X : CX} {KX : Int32 × MS → Prop} {b L : Nat} {xs : Nat → Int32} {a1 : Option Nat} {a2 : Option Nat} {a3 : Option Nat} {a4 : Int32} {a5 : Int32} {a6 : Int32} {sb : MS} {c0 d0 : Nat} (ok : Ok X code RL rm_La_law 19 true) (hse : SE X.2.2.2.1 X.1.2.2.2.2.1 ∧ X.1.2.1.stackTraces = false) (ht : Sc X b L xs) (hc1 : c0 + 6 ≤ 600086) (hc2 : d0 + 36 ≤ 7301442) (hexit : ∀ (e7 : Int32) (z : MS), KX (e7, z) → (∀ q, dm sb q → dm z q) → G X z (c0 + 6) (d0 + 36) 122 [(0, vW (Value.ref b)), (1, vR a1), (2, vR a2), (3, vR a3), (4, vI a4), (5, vI a5), (6, vI a6), (7, vI e7)] []) : ∀ (n : Nat), n ≤ 6 → ∀ (a7 : Int32) (a8 : Int32) (s : MS), (∀ q, dm sb q → dm s q) → ∀ (res : Int32 × MS), l_La_law_51 L xs a1 a2 a3 a4 a5 a6 n a7 a8 s = some res → KX res → G X s (c0 + (6 - n) * 1) (d0 + (6 - n) * 6) 51 [(0, vW (Value.ref b)), (1, vR a1), (2, vR a2), (3, vR a3), (4, vI a4), (5, vI a5), (6, vI a6), (7, vI a7), (8, vI a8)] [] := by
  intro n
  induction n with
  | zero => intro _ _ _ s _ res h; cases h
  | succ n ih =>
    intro hn a7 a8 s mb res h hk
    exact w_b_La_law_51 (cB := c0 + (6 - n) * 1) (sB := d0 + (6 - n) * 6) ok hse ht (by omega) (by omega) (by omega) (by omega) (fun e7 z k1 k2 => g_widen (by omega) (by omega) (hexit e7 z k1 k2)) (fun v7 v8 z hz y h2 hk2 => ih (by omega) v7 v8 z hz y h2 hk2) mb h hk
theorem w_l_La_law_51 {X : CX} {KX : Int32 × MS → Prop} {b L : Nat} {xs : Nat → Int32} {a1 : Option Nat} {a2 : Option Nat} {a3 : Option Nat} {a4 : Int32} {a5 : Int32} {a6 : Int32} {sb : MS} {c0 d0 : Nat} (ok : Ok X code RL rm_La_law 19 true) (hse : SE X.2.2.2.1 X.1.2.2.2.2.1 ∧ X.1.2.1.stackTraces = false) (ht : Sc X b L xs) (hc1 : c0 + 6 ≤ 600086) (hc2 : d0 + 36 ≤ 7301442) (hexit : ∀ (e7 : Int32) (z : MS), KX (e7, z) → (∀ q, dm sb q → dm z q) → G X z (c0 + 6) (d0 + 36) 122 [(0, vW (Value.ref b)), (1, vR a1), (2, vR a2), (3, vR a3), (4, vI a4), (5, vI a5), (6, vI a6), (7, vI e7)] []) (a7 : Int32) (a8 : Int32) {res : Int32 × MS} (h : l_La_law_51 L xs a1 a2 a3 a4 a5 a6 6 a7 a8 sb = some res) (hk : KX res) : G X sb c0 d0 51 [(0, vW (Value.ref b)), (1, vR a1), (2, vR a2), (3, vR a3), (4, vI a4), (5, vI a5), (6, vI a6), (7, vI a7), (8, vI a8)] [] := by
  have q := wx_l_La_law_51 ok hse ht hc1 hc2 hexit 6 (Nat.le_refl _) a7 a8 sb (fun _ hz => hz) res h hk
  simp only [Nat.sub_self, Nat.zero_mul, Nat.add_zero] at q
  exact q
set_option maxRecDepth 100000 in
set_option maxHeartbeats 4000000 in
theorem w_b_La_law_125 {X : CX} {KX : Int32 × MS → Prop} {b L : Nat} {xs : Nat → Int32}  {a1 : Option Nat} {a2 : Option Nat} {a3 : Option Nat} {a4 : Int32} {a5 : Int32} {a6 : Int32} {a7 : Int32} {a8 : Int32} {s : MS} {rec : Int32 → Int32 → MS → Option (Int32 × MS)} {sb : MS} {ce0 sl0 cB sB : Nat} (ok : Ok X code RL rm_La_law 19 true) (hse : SE X.2.2.2.1 X.1.2.2.2.2.1 ∧ X.1.2.1.stackTraces = false) (ht : Sc X b L xs) (hc1 : ce0 + 3 ≤ cB) (hc2 : sl0 + 18 ≤ sB) (hB1 : cB ≤ 600086) (hB2 : sB ≤ 7301442) (hexit : ∀ (e7 : Int32) (z : MS), KX (e7, z) → (∀ q, dm sb q → dm z q) → G X z cB sB 192 [(0, vW (Value.ref b)), (1, vR a1), (2, vR a2), (3, vR a3), (4, vI a4), (5, vI a5), (6, vI a6), (7, vI e7)] []) (hrec : ∀ (v7 : Int32) (v8 : Int32) (z : MS), (∀ q, dm sb q → dm z q) → ∀ y, rec v7 v8 z = some y → KX y → G X z cB sB 125 [(0, vW (Value.ref b)), (1, vR a1), (2, vR a2), (3, vR a3), (4, vI a4), (5, vI a5), (6, vI a6), (7, vI v7), (8, vI v8)] []) (mb : ∀ q, dm sb q → dm s q) {res : Int32 × MS} (h : b_La_law_125 L xs a1 a2 a3 a4 a5 a6 a7 a8 s rec = some res) (hk : KX res) : G X s ce0 sl0 125 [(0, vW (Value.ref b)), (1, vR a1), (2, vR a2), (3, vR a3), (4, vI a4), (5, vI a5), (6, vI a6), (7, vI a7), (8, vI a8)] [] := by
  unfold b_La_law_125 at h
  refine g_iload (i := 8) 8 ok d_La_law_125 rfl ?_
  refine g_iconst (v := (4 : Int32)) ok d_La_law_127 (by decide) ?_
  refine g_icmp_ge (tgt := 192) ok d_La_law_128 (by decide) (fun c76 => ?_) (fun c76 => ?_)
  · replace h := (if_pos c76).symm.trans h
    refine g_iload (i := 7) 7 ok d_La_law_131 rfl ?_
    refine g_if_eq (tgt := 192) ok d_La_law_133 (by decide) (fun c77 => ?_) (fun c77 => ?_)
    · replace h := (if_pos c77).symm.trans h
      refine g_sub [0, 1, 2, 3, 4, 5, 6, 7] rfl ?_
      refine g_widen (ce' := cB) (sl' := sB) (by omega) (by omega) ?_
      cases h
      exact hexit a7 s hk mb
    · replace h := (if_neg c77).symm.trans h
      refine g_aload_n (i := 1) 1 ok d_La_law_136 rfl rfl ?_
      refine g_aload_n (i := 2) 2 ok d_La_law_137 rfl rfl ?_
      refine g_iload (i := 8) 8 ok d_La_law_138 rfl ?_
      obtain ⟨k78, hk79, h⟩ := bnd_go h
      refine g_iald ok hk79 d_La_law_140 ?_
      refine g_iconst (v := (0 : Int32)) ok d_La_law_141 (by decide) ?_
      refine g_sub [0, 1, 2, 3, 4, 5, 6, 8] rfl ?_
      obtain ⟨k80, hk81, h⟩ := bnd_go h
      obtain ⟨n82, hn83, h⟩ := bnd_go h
      obtain ⟨n84, hn85, h⟩ := bnd_go h
      obtain ⟨x89, s88, hc87, h⟩ := bnd2_go h
      refine g_callW (rm2 := rm_La_tower) (As := [vR a1, vI (s.1 k78 a8.toNatClampNeg), vI (0 : Int32)]) (rest := []) ok hse.1 (c_La_tower hse.2 hc87) cm_La_tower cs_La_tower tw_190 ⟨rfl, rfl⟩ ⟨le_t rfl, le_t rfl⟩ ⟨rfl, le_t rfl⟩ ⟨(by show _ ≤ 600086; omega), (by show _ ≤ 7301442; omega)⟩ ⟨trivial, ⟨(rk_of hk81), ⟨(rk_rl hn83), ⟨(rk_rl hn85), ⟨trivial, ⟨trivial, ⟨trivial, ⟨trivial, trivial⟩⟩⟩⟩⟩⟩⟩⟩ trivial d_La_law_142 rfl (fun m86 => ?_)
      show G X s88 (ce0 + 1) (sl0 + 6) 145 [(0, vW (Value.ref b)), (1, vR a1), (2, vR a2), (3, vR a3), (4, vI a4), (5, vI a5), (6, vI a6), (8, vI a8)] [vL x89]
      refine g_pop2 ok d_La_law_145 ?_
      refine g_aload_n (i := 1) 1 ok d_La_law_146 rfl rfl ?_
      refine g_aload_n (i := 2) 2 ok d_La_law_147 rfl rfl ?_
      refine g_iload (i := 8) 7 ok d_La_law_148 rfl ?_
      obtain ⟨k90, hk91, h⟩ := bnd_go h
      refine g_iald ok hk91 d_La_law_150 ?_
      obtain ⟨n92, hn93, h⟩ := bnd_go h
      obtain ⟨n94, hn95, h⟩ := bnd_go h
      obtain ⟨x99, s98, hc97, h⟩ := bnd2_go h
      refine g_callW (rm2 := rm_La_spot) (As := [vR a1, vI (s88.1 k90 a8.toNatClampNeg)]) (rest := []) ok hse.1 (c_La_spot hse.2 hc97) cm_La_spot cs_La_spot tw_318 ⟨rfl, rfl⟩ ⟨le_t rfl, le_t rfl⟩ ⟨rfl, le_t rfl⟩ ⟨(by show _ ≤ 600086; omega), (by show _ ≤ 7301442; omega)⟩ ⟨trivial, ⟨(rk_of (rf_mono m86 hk81)), ⟨(rk_rl hn93), ⟨(rk_rl hn95), ⟨trivial, ⟨trivial, ⟨trivial, ⟨trivial, trivial⟩⟩⟩⟩⟩⟩⟩⟩ trivial d_La_law_151 rfl (fun m96 => ?_)
      show G X s98 ((ce0 + 1) + 1) ((sl0 + 6) + 6) 154 [(0, vW (Value.ref b)), (1, vR a1), (2, vR a2), (3, vR a3), (4, vI a4), (5, vI a5), (6, vI a6), (8, vI a8)] [vL x99]
      refine g_iload (i := 8) 7 ok d_La_law_154 rfl ?_
      refine g_iconst (v := (1 : Int32)) ok d_La_law_156 (by decide) ?_
      refine g_iadd ok d_La_law_157 ?_
      refine g_i2l ok d_La_law_158 ?_
      refine g_lcmp ok d_La_law_159 ?_
      refine g_if_ne (tgt := 183) ok d_La_law_160 (by decide) (fun c100 => ?_) (fun c100 => ?_)
      · replace h := (if_pos c100).symm.trans h
        refine g_aload_n (i := 1) 1 ok d_La_law_163 rfl rfl ?_
        refine g_aload_n (i := 2) 2 ok d_La_law_164 rfl rfl ?_
        refine g_iload (i := 8) 7 ok d_La_law_165 rfl ?_
        obtain ⟨k101, hk102, h⟩ := bnd_go h
        refine g_iald ok hk102 d_La_law_167 ?_
        refine g_iconst (v := (1 : Int32)) ok d_La_law_168 (by decide) ?_
        obtain ⟨n103, hn104, h⟩ := bnd_go h
        obtain ⟨n105, hn106, h⟩ := bnd_go h
        obtain ⟨x110, s109, hc108, h⟩ := bnd2_go h
        refine g_callW (rm2 := rm_La_tower) (As := [vR a1, vI (s98.1 k101 a8.toNatClampNeg), vI (1 : Int32)]) (rest := []) ok hse.1 (c_La_tower hse.2 hc108) cm_La_tower cs_La_tower tw_190 ⟨rfl, rfl⟩ ⟨le_t rfl, le_t rfl⟩ ⟨rfl, le_t rfl⟩ ⟨(by show _ ≤ 600086; omega), (by show _ ≤ 7301442; omega)⟩ ⟨trivial, ⟨(rk_of (rf_mono m96 (rf_mono m86 hk81))), ⟨(rk_rl hn104), ⟨(rk_rl hn106), ⟨trivial, ⟨trivial, ⟨trivial, ⟨trivial, trivial⟩⟩⟩⟩⟩⟩⟩⟩ trivial d_La_law_169 rfl (fun m107 => ?_)
        show G X s109 (((ce0 + 1) + 1) + 1) (((sl0 + 6) + 6) + 6) 172 [(0, vW (Value.ref b)), (1, vR a1), (2, vR a2), (3, vR a3), (4, vI a4), (5, vI a5), (6, vI a6), (8, vI a8)] [vL x110]
        refine g_ldc2 (v := (-9000000000000000003 : Int64)) ok d_La_law_172 tw_317 ?_
        refine g_lcmp ok d_La_law_175 ?_
        refine g_if_ne (tgt := 183) ok d_La_law_176 (by decide) (fun c111 => ?_) (fun c111 => ?_)
        · replace h := (if_pos c111).symm.trans h
          refine g_iconst (v := (1 : Int32)) ok d_La_law_179 (by decide) ?_
          refine g_goto (tgt := 184) ok d_La_law_180 (by decide) ?_
          refine g_istore (i := 7) [(7, vI (1 : Int32)), (0, vW (Value.ref b)), (1, vR a1), (2, vR a2), (3, vR a3), (4, vI a4), (5, vI a5), (6, vI a6), (8, vI a8)] ok d_La_law_184 (by decide) rfl ?_
          obtain ⟨x112, e113⟩ : ∃ z, a8 + (1 : Int32) = z := ⟨_, rfl⟩
          replace h := lt_go h e113
          refine g_iinc (i := 8) (v := x112) 8 [(8, vI x112), (7, vI (1 : Int32)), (0, vW (Value.ref b)), (1, vR a1), (2, vR a2), (3, vR a3), (4, vI a4), (5, vI a5), (6, vI a6)] ok d_La_law_186 rfl (by rw [← e113]; rfl) (by decide) rfl ?_
          refine g_goto (tgt := 125) ok d_La_law_189 (by decide) ?_
          refine g_sub [2, 3, 4, 5, 6, 7, 8, 1, 0] rfl ?_
          refine g_widen (ce' := cB) (sl' := sB) (by omega) (by omega) ?_
          exact hrec (1 : Int32) x112 s109 (fun z hz => m107 z ((fun z hz => m96 z ((fun z hz => m86 z (mb z hz)) z hz)) z hz)) _ h hk
        · replace h := (if_neg c111).symm.trans h
          refine g_iconst (v := (0 : Int32)) ok d_La_law_183 (by decide) ?_
          refine g_istore (i := 7) [(7, vI (0 : Int32)), (0, vW (Value.ref b)), (1, vR a1), (2, vR a2), (3, vR a3), (4, vI a4), (5, vI a5), (6, vI a6), (8, vI a8)] ok d_La_law_184 (by decide) rfl ?_
          obtain ⟨x114, e115⟩ : ∃ z, a8 + (1 : Int32) = z := ⟨_, rfl⟩
          replace h := lt_go h e115
          refine g_iinc (i := 8) (v := x114) 8 [(8, vI x114), (7, vI (0 : Int32)), (0, vW (Value.ref b)), (1, vR a1), (2, vR a2), (3, vR a3), (4, vI a4), (5, vI a5), (6, vI a6)] ok d_La_law_186 rfl (by rw [← e115]; rfl) (by decide) rfl ?_
          refine g_goto (tgt := 125) ok d_La_law_189 (by decide) ?_
          refine g_sub [2, 3, 4, 5, 6, 7, 8, 1, 0] rfl ?_
          refine g_widen (ce' := cB) (sl' := sB) (by omega) (by omega) ?_
          exact hrec (0 : Int32) x114 s109 (fun z hz => m107 z ((fun z hz => m96 z ((fun z hz => m86 z (mb z hz)) z hz)) z hz)) _ h hk
      · replace h := (if_neg c100).symm.trans h
        refine g_iconst (v := (0 : Int32)) ok d_La_law_183 (by decide) ?_
        refine g_istore (i := 7) [(7, vI (0 : Int32)), (0, vW (Value.ref b)), (1, vR a1), (2, vR a2), (3, vR a3), (4, vI a4), (5, vI a5), (6, vI a6), (8, vI a8)] ok d_La_law_184 (by decide) rfl ?_
        obtain ⟨x116, e117⟩ : ∃ z, a8 + (1 : Int32) = z := ⟨_, rfl⟩
        replace h := lt_go h e117
        refine g_iinc (i := 8) (v := x116) 8 [(8, vI x116), (7, vI (0 : Int32)), (0, vW (Value.ref b)), (1, vR a1), (2, vR a2), (3, vR a3), (4, vI a4), (5, vI a5), (6, vI a6)] ok d_La_law_186 rfl (by rw [← e117]; rfl) (by decide) rfl ?_
        refine g_goto (tgt := 125) ok d_La_law_189 (by decide) ?_
        refine g_sub [2, 3, 4, 5, 6, 7, 8, 1, 0] rfl ?_
        refine g_widen (ce' := cB) (sl' := sB) (by omega) (by omega) ?_
        exact hrec (0 : Int32) x116 s98 (fun z hz => m96 z ((fun z hz => m86 z (mb z hz)) z hz)) _ h hk
  · replace h := (if_neg c76).symm.trans h
    refine g_sub [0, 1, 2, 3, 4, 5, 6, 7] rfl ?_
    refine g_widen (ce' := cB) (sl' := sB) (by omega) (by omega) ?_
    cases h
    exact hexit a7 s hk mb
set_option maxHeartbeats 4000000 in
theorem wx_l_La_law_125 {X : CX} {KX : Int32 × MS → Prop} {b L : Nat} {xs : Nat → Int32} {a1 : Option Nat} {a2 : Option Nat} {a3 : Option Nat} {a4 : Int32} {a5 : Int32} {a6 : Int32} {sb : MS} {c0 d0 : Nat} (ok : Ok X code RL rm_La_law 19 true) (hse : SE X.2.2.2.1 X.1.2.2.2.2.1 ∧ X.1.2.1.stackTraces = false) (ht : Sc X b L xs) (hc1 : c0 + 18 ≤ 600086) (hc2 : d0 + 108 ≤ 7301442) (hexit : ∀ (e7 : Int32) (z : MS), KX (e7, z) → (∀ q, dm sb q → dm z q) → G X z (c0 + 18) (d0 + 108) 192 [(0, vW (Value.ref b)), (1, vR a1), (2, vR a2), (3, vR a3), (4, vI a4), (5, vI a5), (6, vI a6), (7, vI e7)] []) : ∀ (n : Nat), n ≤ 6 → ∀ (a7 : Int32) (a8 : Int32) (s : MS), (∀ q, dm sb q → dm s q) → ∀ (res : Int32 × MS), l_La_law_125 L xs a1 a2 a3 a4 a5 a6 n a7 a8 s = some res → KX res → G X s (c0 + (6 - n) * 3) (d0 + (6 - n) * 18) 125 [(0, vW (Value.ref b)), (1, vR a1), (2, vR a2), (3, vR a3), (4, vI a4), (5, vI a5), (6, vI a6), (7, vI a7), (8, vI a8)] [] := by
  intro n
  induction n with
  | zero => intro _ _ _ s _ res h; cases h
  | succ n ih =>
    intro hn a7 a8 s mb res h hk
    exact w_b_La_law_125 (cB := c0 + (6 - n) * 3) (sB := d0 + (6 - n) * 18) ok hse ht (by omega) (by omega) (by omega) (by omega) (fun e7 z k1 k2 => g_widen (by omega) (by omega) (hexit e7 z k1 k2)) (fun v7 v8 z hz y h2 hk2 => ih (by omega) v7 v8 z hz y h2 hk2) mb h hk
theorem w_l_La_law_125 {X : CX} {KX : Int32 × MS → Prop} {b L : Nat} {xs : Nat → Int32} {a1 : Option Nat} {a2 : Option Nat} {a3 : Option Nat} {a4 : Int32} {a5 : Int32} {a6 : Int32} {sb : MS} {c0 d0 : Nat} (ok : Ok X code RL rm_La_law 19 true) (hse : SE X.2.2.2.1 X.1.2.2.2.2.1 ∧ X.1.2.1.stackTraces = false) (ht : Sc X b L xs) (hc1 : c0 + 18 ≤ 600086) (hc2 : d0 + 108 ≤ 7301442) (hexit : ∀ (e7 : Int32) (z : MS), KX (e7, z) → (∀ q, dm sb q → dm z q) → G X z (c0 + 18) (d0 + 108) 192 [(0, vW (Value.ref b)), (1, vR a1), (2, vR a2), (3, vR a3), (4, vI a4), (5, vI a5), (6, vI a6), (7, vI e7)] []) (a7 : Int32) (a8 : Int32) {res : Int32 × MS} (h : l_La_law_125 L xs a1 a2 a3 a4 a5 a6 6 a7 a8 sb = some res) (hk : KX res) : G X sb c0 d0 125 [(0, vW (Value.ref b)), (1, vR a1), (2, vR a2), (3, vR a3), (4, vI a4), (5, vI a5), (6, vI a6), (7, vI a7), (8, vI a8)] [] := by
  have q := wx_l_La_law_125 ok hse ht hc1 hc2 hexit 6 (Nat.le_refl _) a7 a8 sb (fun _ hz => hz) res h hk
  simp only [Nat.sub_self, Nat.zero_mul, Nat.add_zero] at q
  exact q
set_option maxRecDepth 100000 in
set_option maxHeartbeats 4000000 in
theorem w_j_La_law_1086 {X : CX} {KX : Int32 × MS → Prop} {b L : Nat} {xs : Nat → Int32}  {a1 : Option Nat} {a2 : Option Nat} {a3 : Option Nat} {a4 : Int32} {a5 : Int32} {a6 : Int32} {a7 : Int32} {a8 : Int32} {s : MS} {rec : Int32 → Int32 → Int32 → Int32 → Int32 → MS → Option (Int32 × MS)} {sb : MS} {ce0 sl0 cB sB : Nat} (ok : Ok X code RL rm_La_law 19 true) (hse : SE X.2.2.2.1 X.1.2.2.2.2.1 ∧ X.1.2.1.stackTraces = false) (ht : Sc X b L xs) (hc1 : ce0 + 48 ≤ cB) (hc2 : sl0 + 601 ≤ sB) (hB1 : cB ≤ 600086) (hB2 : sB ≤ 7301442) (hexit : ∀ (e7 : Int32) (z : MS), KX (e7, z) → (∀ q, dm sb q → dm z q) → G X z cB sB 1121 [(0, vW (Value.ref b)), (7, vI e7)] []) (hrec : ∀ (v4 : Int32) (v5 : Int32) (v6 : Int32) (v7 : Int32) (v8 : Int32) (z : MS), (∀ q, dm sb q → dm z q) → ∀ y, rec v4 v5 v6 v7 v8 z = some y → KX y → G X z cB sB 195 [(0, vW (Value.ref b)), (1, vR a1), (2, vR a2), (3, vR a3), (4, vI v4), (5, vI v5), (6, vI v6), (7, vI v7), (8, vI v8)] []) (mb : ∀ q, dm sb q → dm s q) {res : Int32 × MS} (h : j_La_law_1086 L xs a1 a2 a3 a4 a5 a6 a7 a8 s rec = some res) (hk : KX res) : G X s ce0 sl0 1086 [(0, vW (Value.ref b)), (1, vR a1), (2, vR a2), (3, vR a3), (4, vI a4), (5, vI a5), (6, vI a6), (7, vI a7), (8, vI a8)] [] := by
  unfold j_La_law_1086 at h
  refine g_iload (i := 8) 8 ok d_La_law_1086 rfl ?_
  refine g_bipush (v := (20 : Int32)) ok d_La_law_1088 (by decide) ?_
  refine g_irem ok d_La_law_1090 (by decide) ?_
  refine g_bipush (v := (19 : Int32)) ok d_La_law_1091 (by decide) ?_
  refine g_icmp_ne (tgt := 1115) ok d_La_law_1093 (by decide) (fun c156 => ?_) (fun c156 => ?_)
  · replace h := (if_pos c156).symm.trans h
    refine g_iload (i := 7) 7 ok d_La_law_1096 rfl ?_
    refine g_if_eq (tgt := 1112) ok d_La_law_1098 (by decide) (fun c157 => ?_) (fun c157 => ?_)
    · replace h := (if_pos c157).symm.trans h
      refine g_iconst (v := (0 : Int32)) ok d_La_law_1112 (by decide) ?_
      refine g_istore (i := 7) [(7, vI (0 : Int32)), (0, vW (Value.ref b)), (1, vR a1), (2, vR a2), (3, vR a3), (4, vI a4), (5, vI a5), (6, vI a6), (8, vI a8)] ok d_La_law_1113 (by decide) rfl ?_
      obtain ⟨x158, e159⟩ : ∃ z, a8 + (1 : Int32) = z := ⟨_, rfl⟩
      replace h := lt_go h e159
      refine g_iinc (i := 8) (v := x158) 8 [(8, vI x158), (7, vI (0 : Int32)), (0, vW (Value.ref b)), (1, vR a1), (2, vR a2), (3, vR a3), (4, vI a4), (5, vI a5), (6, vI a6)] ok d_La_law_1115 rfl (by rw [← e159]; rfl) (by decide) rfl ?_
      refine g_goto (tgt := 195) ok d_La_law_1118 (by decide) ?_
      refine g_sub [2, 3, 4, 5, 6, 7, 8, 1, 0] rfl ?_
      refine g_widen (ce' := cB) (sl' := sB) (by omega) (by omega) ?_
      exact hrec a4 a5 a6 (0 : Int32) x158 s mb _ h hk
    · replace h := (if_neg c157).symm.trans h
      refine g_aload_n (i := 1) 1 ok d_La_law_1101 rfl rfl ?_
      refine g_sub [0, 1, 2, 3, 4, 5, 6, 8] rfl ?_
      obtain ⟨k160, hk161, h⟩ := bnd_go h
      obtain ⟨n162, hn163, h⟩ := bnd_go h
      obtain ⟨n164, hn165, h⟩ := bnd_go h
      obtain ⟨x169, s168, hc167, h⟩ := bnd2_go h
      refine g_callY (rm2 := rm_La_refuses) (As := [vR a1]) (rest := []) ok hse.1 (c_La_refuses hse.2 hc167) cm_La_refuses cs_La_refuses tw_728 ⟨rfl, rfl⟩ ⟨le_t rfl, le_t rfl⟩ ⟨rfl, le_t rfl⟩ ⟨(by show _ ≤ 600086; omega), (by show _ ≤ 7301442; omega)⟩ ⟨trivial, ⟨(rk_of hk161), ⟨(rk_rl hn163), ⟨(rk_rl hn165), ⟨trivial, ⟨trivial, ⟨trivial, ⟨trivial, trivial⟩⟩⟩⟩⟩⟩⟩⟩ trivial d_La_law_1102 rfl (fun m166 => ?_)
      show G X s168 (ce0 + 48) (sl0 + 601) 1105 [(0, vW (Value.ref b)), (1, vR a1), (2, vR a2), (3, vR a3), (4, vI a4), (5, vI a5), (6, vI a6), (8, vI a8)] [vI x169]
      refine g_if_eq (tgt := 1112) ok d_La_law_1105 (by decide) (fun c170 => ?_) (fun c170 => ?_)
      · replace h := (if_pos c170).symm.trans h
        refine g_iconst (v := (0 : Int32)) ok d_La_law_1112 (by decide) ?_
        refine g_istore (i := 7) [(7, vI (0 : Int32)), (0, vW (Value.ref b)), (1, vR a1), (2, vR a2), (3, vR a3), (4, vI a4), (5, vI a5), (6, vI a6), (8, vI a8)] ok d_La_law_1113 (by decide) rfl ?_
        obtain ⟨x171, e172⟩ : ∃ z, a8 + (1 : Int32) = z := ⟨_, rfl⟩
        replace h := lt_go h e172
        refine g_iinc (i := 8) (v := x171) 8 [(8, vI x171), (7, vI (0 : Int32)), (0, vW (Value.ref b)), (1, vR a1), (2, vR a2), (3, vR a3), (4, vI a4), (5, vI a5), (6, vI a6)] ok d_La_law_1115 rfl (by rw [← e172]; rfl) (by decide) rfl ?_
        refine g_goto (tgt := 195) ok d_La_law_1118 (by decide) ?_
        refine g_sub [2, 3, 4, 5, 6, 7, 8, 1, 0] rfl ?_
        refine g_widen (ce' := cB) (sl' := sB) (by omega) (by omega) ?_
        exact hrec a4 a5 a6 (0 : Int32) x171 s168 (fun z hz => m166 z (mb z hz)) _ h hk
      · replace h := (if_neg c170).symm.trans h
        refine g_iconst (v := (1 : Int32)) ok d_La_law_1108 (by decide) ?_
        refine g_goto (tgt := 1113) ok d_La_law_1109 (by decide) ?_
        refine g_istore (i := 7) [(7, vI (1 : Int32)), (0, vW (Value.ref b)), (1, vR a1), (2, vR a2), (3, vR a3), (4, vI a4), (5, vI a5), (6, vI a6), (8, vI a8)] ok d_La_law_1113 (by decide) rfl ?_
        obtain ⟨x173, e174⟩ : ∃ z, a8 + (1 : Int32) = z := ⟨_, rfl⟩
        replace h := lt_go h e174
        refine g_iinc (i := 8) (v := x173) 8 [(8, vI x173), (7, vI (1 : Int32)), (0, vW (Value.ref b)), (1, vR a1), (2, vR a2), (3, vR a3), (4, vI a4), (5, vI a5), (6, vI a6)] ok d_La_law_1115 rfl (by rw [← e174]; rfl) (by decide) rfl ?_
        refine g_goto (tgt := 195) ok d_La_law_1118 (by decide) ?_
        refine g_sub [2, 3, 4, 5, 6, 7, 8, 1, 0] rfl ?_
        refine g_widen (ce' := cB) (sl' := sB) (by omega) (by omega) ?_
        exact hrec a4 a5 a6 (1 : Int32) x173 s168 (fun z hz => m166 z (mb z hz)) _ h hk
  · replace h := (if_neg c156).symm.trans h
    obtain ⟨x175, e176⟩ : ∃ z, a8 + (1 : Int32) = z := ⟨_, rfl⟩
    replace h := lt_go h e176
    refine g_iinc (i := 8) (v := x175) 8 [(8, vI x175), (0, vW (Value.ref b)), (1, vR a1), (2, vR a2), (3, vR a3), (4, vI a4), (5, vI a5), (6, vI a6), (7, vI a7)] ok d_La_law_1115 rfl (by rw [← e176]; rfl) (by decide) rfl ?_
    refine g_goto (tgt := 195) ok d_La_law_1118 (by decide) ?_
    refine g_sub [1, 2, 3, 4, 5, 6, 7, 8, 0] rfl ?_
    refine g_widen (ce' := cB) (sl' := sB) (by omega) (by omega) ?_
    exact hrec a4 a5 a6 a7 x175 s mb _ h hk
set_option maxRecDepth 100000 in
set_option maxHeartbeats 4000000 in
theorem w_j_La_law_1084 {X : CX} {KX : Int32 × MS → Prop} {b L : Nat} {xs : Nat → Int32}  {a1 : Option Nat} {a2 : Option Nat} {a3 : Option Nat} {a4 : Int32} {a5 : Int32} {a6 : Int32} {a8 : Int32} {t0 : Int32} {s : MS} {rec : Int32 → Int32 → Int32 → Int32 → Int32 → MS → Option (Int32 × MS)} {sb : MS} {ce0 sl0 cB sB : Nat} (ok : Ok X code RL rm_La_law 19 true) (hse : SE X.2.2.2.1 X.1.2.2.2.2.1 ∧ X.1.2.1.stackTraces = false) (ht : Sc X b L xs) (hc1 : ce0 + 48 ≤ cB) (hc2 : sl0 + 601 ≤ sB) (hB1 : cB ≤ 600086) (hB2 : sB ≤ 7301442) (hexit : ∀ (e7 : Int32) (z : MS), KX (e7, z) → (∀ q, dm sb q → dm z q) → G X z cB sB 1121 [(0, vW (Value.ref b)), (7, vI e7)] []) (hrec : ∀ (v4 : Int32) (v5 : Int32) (v6 : Int32) (v7 : Int32) (v8 : Int32) (z : MS), (∀ q, dm sb q → dm z q) → ∀ y, rec v4 v5 v6 v7 v8 z = some y → KX y → G X z cB sB 195 [(0, vW (Value.ref b)), (1, vR a1), (2, vR a2), (3, vR a3), (4, vI v4), (5, vI v5), (6, vI v6), (7, vI v7), (8, vI v8)] []) (mb : ∀ q, dm sb q → dm s q) {res : Int32 × MS} (h : j_La_law_1084 L xs a1 a2 a3 a4 a5 a6 a8 t0 s rec = some res) (hk : KX res) : G X s ce0 sl0 1084 [(0, vW (Value.ref b)), (1, vR a1), (2, vR a2), (3, vR a3), (4, vI a4), (5, vI a5), (6, vI a6), (8, vI a8)] [vI t0] := by
  unfold j_La_law_1084 at h
  refine g_istore (i := 7) [(7, vI t0), (0, vW (Value.ref b)), (1, vR a1), (2, vR a2), (3, vR a3), (4, vI a4), (5, vI a5), (6, vI a6), (8, vI a8)] ok d_La_law_1084 (by decide) rfl ?_
  refine g_sub [1, 2, 3, 4, 5, 6, 7, 0, 8] rfl ?_
  exact w_j_La_law_1086 ok hse ht (by omega) (by omega) hB1 hB2 hexit hrec mb h hk
set_option maxRecDepth 100000 in
set_option maxHeartbeats 4000000 in
theorem w_j_La_law_1083 {X : CX} {KX : Int32 × MS → Prop} {b L : Nat} {xs : Nat → Int32}  {a1 : Option Nat} {a2 : Option Nat} {a3 : Option Nat} {a4 : Int32} {a5 : Int32} {a6 : Int32} {a8 : Int32} {s : MS} {rec : Int32 → Int32 → Int32 → Int32 → Int32 → MS → Option (Int32 × MS)} {sb : MS} {ce0 sl0 cB sB : Nat} (ok : Ok X code RL rm_La_law 19 true) (hse : SE X.2.2.2.1 X.1.2.2.2.2.1 ∧ X.1.2.1.stackTraces = false) (ht : Sc X b L xs) (hc1 : ce0 + 48 ≤ cB) (hc2 : sl0 + 601 ≤ sB) (hB1 : cB ≤ 600086) (hB2 : sB ≤ 7301442) (hexit : ∀ (e7 : Int32) (z : MS), KX (e7, z) → (∀ q, dm sb q → dm z q) → G X z cB sB 1121 [(0, vW (Value.ref b)), (7, vI e7)] []) (hrec : ∀ (v4 : Int32) (v5 : Int32) (v6 : Int32) (v7 : Int32) (v8 : Int32) (z : MS), (∀ q, dm sb q → dm z q) → ∀ y, rec v4 v5 v6 v7 v8 z = some y → KX y → G X z cB sB 195 [(0, vW (Value.ref b)), (1, vR a1), (2, vR a2), (3, vR a3), (4, vI v4), (5, vI v5), (6, vI v6), (7, vI v7), (8, vI v8)] []) (mb : ∀ q, dm sb q → dm s q) {res : Int32 × MS} (h : j_La_law_1083 L xs a1 a2 a3 a4 a5 a6 a8 s rec = some res) (hk : KX res) : G X s ce0 sl0 1083 [(0, vW (Value.ref b)), (1, vR a1), (2, vR a2), (3, vR a3), (4, vI a4), (5, vI a5), (6, vI a6), (8, vI a8)] [] := by
  unfold j_La_law_1083 at h
  refine g_iconst (v := (0 : Int32)) ok d_La_law_1083 (by decide) ?_
  exact w_j_La_law_1084 ok hse ht (by omega) (by omega) hB1 hB2 hexit hrec mb h hk
set_option maxRecDepth 100000 in
set_option maxHeartbeats 4000000 in
theorem w_j_La_law_1052 {X : CX} {KX : Int32 × MS → Prop} {b L : Nat} {xs : Nat → Int32}  {a1 : Option Nat} {a2 : Option Nat} {a3 : Option Nat} {a4 : Int32} {a5 : Int32} {a6 : Int32} {a8 : Int32} {t0 : Int32} {s : MS} {rec : Int32 → Int32 → Int32 → Int32 → Int32 → MS → Option (Int32 × MS)} {sb : MS} {ce0 sl0 cB sB : Nat} (ok : Ok X code RL rm_La_law 19 true) (hse : SE X.2.2.2.1 X.1.2.2.2.2.1 ∧ X.1.2.1.stackTraces = false) (ht : Sc X b L xs) (hc1 : ce0 + 7443 ≤ cB) (hc2 : sl0 + 44971 ≤ sB) (hB1 : cB ≤ 600086) (hB2 : sB ≤ 7301442) (hexit : ∀ (e7 : Int32) (z : MS), KX (e7, z) → (∀ q, dm sb q → dm z q) → G X z cB sB 1121 [(0, vW (Value.ref b)), (7, vI e7)] []) (hrec : ∀ (v4 : Int32) (v5 : Int32) (v6 : Int32) (v7 : Int32) (v8 : Int32) (z : MS), (∀ q, dm sb q → dm z q) → ∀ y, rec v4 v5 v6 v7 v8 z = some y → KX y → G X z cB sB 195 [(0, vW (Value.ref b)), (1, vR a1), (2, vR a2), (3, vR a3), (4, vI v4), (5, vI v5), (6, vI v6), (7, vI v7), (8, vI v8)] []) (mb : ∀ q, dm sb q → dm s q) {res : Int32 × MS} (h : j_La_law_1052 L xs a1 a2 a3 a4 a5 a6 a8 t0 s rec = some res) (hk : KX res) : G X s ce0 sl0 1052 [(0, vW (Value.ref b)), (1, vR a1), (2, vR a2), (3, vR a3), (4, vI a4), (5, vI a5), (6, vI a6), (8, vI a8)] [vI t0] := by
  unfold j_La_law_1052 at h
  refine g_istore (i := 7) [(7, vI t0), (0, vW (Value.ref b)), (1, vR a1), (2, vR a2), (3, vR a3), (4, vI a4), (5, vI a5), (6, vI a6), (8, vI a8)] ok d_La_law_1052 (by decide) rfl ?_
  refine g_iload (i := 8) 8 ok d_La_law_1054 rfl ?_
  refine g_bipush (v := (8 : Int32)) ok d_La_law_1056 (by decide) ?_
  refine g_irem ok d_La_law_1058 (by decide) ?_
  refine g_bipush (v := (7 : Int32)) ok d_La_law_1059 (by decide) ?_
  refine g_icmp_ne (tgt := 1086) ok d_La_law_1061 (by decide) (fun c154 => ?_) (fun c154 => ?_)
  · replace h := (if_pos c154).symm.trans h
    refine g_iload (i := 7) 0 ok d_La_law_1064 rfl ?_
    refine g_if_eq (tgt := 1083) ok d_La_law_1066 (by decide) (fun c155 => ?_) (fun c155 => ?_)
    · replace h := (if_pos c155).symm.trans h
      refine g_sub [1, 2, 3, 4, 5, 6, 7, 8] rfl ?_
      exact w_j_La_law_1083 ok hse ht (by omega) (by omega) hB1 hB2 hexit hrec mb h hk
    · replace h := (if_neg c155).symm.trans h
      refine g_aload_n (i := 1) 2 ok d_La_law_1069 rfl rfl ?_
      refine g_aload_n (i := 2) 3 ok d_La_law_1070 rfl rfl ?_
      refine g_iload (i := 6) 7 ok d_La_law_1071 rfl ?_
      refine g_sub [1, 2, 3, 4, 5, 6, 7, 8] rfl ?_
      obtain ⟨k177, hk178, h⟩ := bnd_go h
      obtain ⟨n179, hn180, h⟩ := bnd_go h
      obtain ⟨n181, hn182, h⟩ := bnd_go h
      obtain ⟨x186, s185, hc184, h⟩ := bnd2_go h
      refine g_callY (rm2 := rm_La_pathsHold) (As := [vR a1, vR a2, vI a6]) (rest := []) ok hse.1 (c_La_pathsHold hse.2 hc184) cm_La_pathsHold cs_La_pathsHold tw_704 ⟨rfl, rfl⟩ ⟨le_t rfl, le_t rfl⟩ ⟨rfl, le_t rfl⟩ ⟨(by show _ ≤ 600086; omega), (by show _ ≤ 7301442; omega)⟩ ⟨trivial, ⟨(rk_of hk178), ⟨(rk_rl hn180), ⟨(rk_rl hn182), ⟨trivial, ⟨trivial, ⟨trivial, ⟨trivial, trivial⟩⟩⟩⟩⟩⟩⟩⟩ trivial d_La_law_1073 rfl (fun m183 => ?_)
      show G X s185 (ce0 + 7395) (sl0 + 44370) 1076 [(0, vW (Value.ref b)), (1, vR a1), (2, vR a2), (3, vR a3), (4, vI a4), (5, vI a5), (6, vI a6), (8, vI a8)] [vI x186]
      refine g_if_eq (tgt := 1083) ok d_La_law_1076 (by decide) (fun c187 => ?_) (fun c187 => ?_)
      · replace h := (if_pos c187).symm.trans h
        exact w_j_La_law_1083 ok hse ht (by omega) (by omega) hB1 hB2 hexit hrec (fun z hz => m183 z (mb z hz)) h hk
      · replace h := (if_neg c187).symm.trans h
        refine g_iconst (v := (1 : Int32)) ok d_La_law_1079 (by decide) ?_
        refine g_goto (tgt := 1084) ok d_La_law_1080 (by decide) ?_
        exact w_j_La_law_1084 ok hse ht (by omega) (by omega) hB1 hB2 hexit hrec (fun z hz => m183 z (mb z hz)) h hk
  · replace h := (if_neg c154).symm.trans h
    refine g_sub [1, 2, 3, 4, 5, 6, 7, 0, 8] rfl ?_
    exact w_j_La_law_1086 ok hse ht (by omega) (by omega) hB1 hB2 hexit hrec mb h hk
set_option maxRecDepth 100000 in
set_option maxHeartbeats 4000000 in
theorem w_j_La_law_1051 {X : CX} {KX : Int32 × MS → Prop} {b L : Nat} {xs : Nat → Int32}  {a1 : Option Nat} {a2 : Option Nat} {a3 : Option Nat} {a4 : Int32} {a5 : Int32} {a6 : Int32} {a8 : Int32} {s : MS} {rec : Int32 → Int32 → Int32 → Int32 → Int32 → MS → Option (Int32 × MS)} {sb : MS} {ce0 sl0 cB sB : Nat} (ok : Ok X code RL rm_La_law 19 true) (hse : SE X.2.2.2.1 X.1.2.2.2.2.1 ∧ X.1.2.1.stackTraces = false) (ht : Sc X b L xs) (hc1 : ce0 + 7443 ≤ cB) (hc2 : sl0 + 44971 ≤ sB) (hB1 : cB ≤ 600086) (hB2 : sB ≤ 7301442) (hexit : ∀ (e7 : Int32) (z : MS), KX (e7, z) → (∀ q, dm sb q → dm z q) → G X z cB sB 1121 [(0, vW (Value.ref b)), (7, vI e7)] []) (hrec : ∀ (v4 : Int32) (v5 : Int32) (v6 : Int32) (v7 : Int32) (v8 : Int32) (z : MS), (∀ q, dm sb q → dm z q) → ∀ y, rec v4 v5 v6 v7 v8 z = some y → KX y → G X z cB sB 195 [(0, vW (Value.ref b)), (1, vR a1), (2, vR a2), (3, vR a3), (4, vI v4), (5, vI v5), (6, vI v6), (7, vI v7), (8, vI v8)] []) (mb : ∀ q, dm sb q → dm s q) {res : Int32 × MS} (h : j_La_law_1051 L xs a1 a2 a3 a4 a5 a6 a8 s rec = some res) (hk : KX res) : G X s ce0 sl0 1051 [(0, vW (Value.ref b)), (1, vR a1), (2, vR a2), (3, vR a3), (4, vI a4), (5, vI a5), (6, vI a6), (8, vI a8)] [] := by
  unfold j_La_law_1051 at h
  refine g_iconst (v := (0 : Int32)) ok d_La_law_1051 (by decide) ?_
  exact w_j_La_law_1052 ok hse ht (by omega) (by omega) hB1 hB2 hexit hrec mb h hk
set_option maxRecDepth 100000 in
set_option maxHeartbeats 4000000 in
theorem w_j_La_law_1031 {X : CX} {KX : Int32 × MS → Prop} {b L : Nat} {xs : Nat → Int32}  {a1 : Option Nat} {a2 : Option Nat} {a3 : Option Nat} {a4 : Int32} {a5 : Int32} {a6 : Int32} {a7 : Int32} {a8 : Int32} {s : MS} {rec : Int32 → Int32 → Int32 → Int32 → Int32 → MS → Option (Int32 × MS)} {sb : MS} {ce0 sl0 cB sB : Nat} (ok : Ok X code RL rm_La_law 19 true) (hse : SE X.2.2.2.1 X.1.2.2.2.2.1 ∧ X.1.2.1.stackTraces = false) (ht : Sc X b L xs) (hc1 : ce0 + 7566 ≤ cB) (hc2 : sl0 + 45709 ≤ sB) (hB1 : cB ≤ 600086) (hB2 : sB ≤ 7301442) (hexit : ∀ (e7 : Int32) (z : MS), KX (e7, z) → (∀ q, dm sb q → dm z q) → G X z cB sB 1121 [(0, vW (Value.ref b)), (7, vI e7)] []) (hrec : ∀ (v4 : Int32) (v5 : Int32) (v6 : Int32) (v7 : Int32) (v8 : Int32) (z : MS), (∀ q, dm sb q → dm z q) → ∀ y, rec v4 v5 v6 v7 v8 z = some y → KX y → G X z cB sB 195 [(0, vW (Value.ref b)), (1, vR a1), (2, vR a2), (3, vR a3), (4, vI v4), (5, vI v5), (6, vI v6), (7, vI v7), (8, vI v8)] []) (mb : ∀ q, dm sb q → dm s q) {res : Int32 × MS} (h : j_La_law_1031 L xs a1 a2 a3 a4 a5 a6 a7 a8 s rec = some res) (hk : KX res) : G X s ce0 sl0 1031 [(0, vW (Value.ref b)), (1, vR a1), (2, vR a2), (3, vR a3), (4, vI a4), (5, vI a5), (6, vI a6), (7, vI a7), (8, vI a8)] [] := by
  unfold j_La_law_1031 at h
  refine g_iload (i := 7) 7 ok d_La_law_1031 rfl ?_
  refine g_if_eq (tgt := 1051) ok d_La_law_1033 (by decide) (fun c153 => ?_) (fun c153 => ?_)
  · replace h := (if_pos c153).symm.trans h
    refine g_sub [0, 1, 2, 3, 4, 5, 6, 8] rfl ?_
    exact w_j_La_law_1051 ok hse ht (by omega) (by omega) hB1 hB2 hexit hrec mb h hk
  · replace h := (if_neg c153).symm.trans h
    refine g_aload_n (i := 1) 1 ok d_La_law_1036 rfl rfl ?_
    refine g_iload (i := 4) 4 ok d_La_law_1037 rfl ?_
    refine g_aload_n (i := 2) 2 ok d_La_law_1039 rfl rfl ?_
    refine g_aload_n (i := 3) 3 ok d_La_law_1040 rfl rfl ?_
    refine g_sub [0, 1, 2, 3, 4, 5, 6, 8] rfl ?_
    obtain ⟨k188, hk189, h⟩ := bnd_go h
    obtain ⟨n190, hn191, h⟩ := bnd_go h
    obtain ⟨n192, hn193, h⟩ := bnd_go h
    obtain ⟨x197, s196, hc195, h⟩ := bnd2_go h
    refine g_callY (rm2 := rm_La_machinesHold) (As := [vR a1, vI a4, vR a2, vR a3]) (rest := []) ok hse.1 (c_La_machinesHold hse.2 hc195) cm_La_machinesHold cs_La_machinesHold tw_683 ⟨rfl, rfl⟩ ⟨le_t rfl, le_t rfl⟩ ⟨rfl, le_t rfl⟩ ⟨(by show _ ≤ 600086; omega), (by show _ ≤ 7301442; omega)⟩ ⟨trivial, ⟨(rk_of hk189), ⟨(rk_rl hn191), ⟨(rk_rl hn193), ⟨trivial, ⟨trivial, ⟨trivial, ⟨trivial, trivial⟩⟩⟩⟩⟩⟩⟩⟩ trivial d_La_law_1041 rfl (fun m194 => ?_)
    show G X s196 (ce0 + 123) (sl0 + 738) 1044 [(0, vW (Value.ref b)), (1, vR a1), (2, vR a2), (3, vR a3), (4, vI a4), (5, vI a5), (6, vI a6), (8, vI a8)] [vI x197]
    refine g_if_eq (tgt := 1051) ok d_La_law_1044 (by decide) (fun c198 => ?_) (fun c198 => ?_)
    · replace h := (if_pos c198).symm.trans h
      exact w_j_La_law_1051 ok hse ht (by omega) (by omega) hB1 hB2 hexit hrec (fun z hz => m194 z (mb z hz)) h hk
    · replace h := (if_neg c198).symm.trans h
      refine g_iconst (v := (1 : Int32)) ok d_La_law_1047 (by decide) ?_
      refine g_goto (tgt := 1052) ok d_La_law_1048 (by decide) ?_
      exact w_j_La_law_1052 ok hse ht (by omega) (by omega) hB1 hB2 hexit hrec (fun z hz => m194 z (mb z hz)) h hk
set_option maxRecDepth 100000 in
set_option maxHeartbeats 4000000 in
theorem w_j_La_law_328 {X : CX} {KX : Int32 × MS → Prop} {b L : Nat} {xs : Nat → Int32}  {a1 : Option Nat} {a2 : Option Nat} {a3 : Option Nat} {a4 : Int32} {a5 : Int32} {a6 : Int32} {a7 : Int32} {a8 : Int32} {s : MS} {rec : Int32 → Int32 → Int32 → Int32 → Int32 → MS → Option (Int32 × MS)} {sb : MS} {ce0 sl0 cB sB : Nat} (ok : Ok X code RL rm_La_law 19 true) (hse : SE X.2.2.2.1 X.1.2.2.2.2.1 ∧ X.1.2.1.stackTraces = false) (ht : Sc X b L xs) (hc1 : ce0 + 7566 ≤ cB) (hc2 : sl0 + 45709 ≤ sB) (hB1 : cB ≤ 600086) (hB2 : sB ≤ 7301442) (hexit : ∀ (e7 : Int32) (z : MS), KX (e7, z) → (∀ q, dm sb q → dm z q) → G X z cB sB 1121 [(0, vW (Value.ref b)), (7, vI e7)] []) (hrec : ∀ (v4 : Int32) (v5 : Int32) (v6 : Int32) (v7 : Int32) (v8 : Int32) (z : MS), (∀ q, dm sb q → dm z q) → ∀ y, rec v4 v5 v6 v7 v8 z = some y → KX y → G X z cB sB 195 [(0, vW (Value.ref b)), (1, vR a1), (2, vR a2), (3, vR a3), (4, vI v4), (5, vI v5), (6, vI v6), (7, vI v7), (8, vI v8)] []) (mb : ∀ q, dm sb q → dm s q) {res : Int32 × MS} (h : j_La_law_328 L xs a1 a2 a3 a4 a5 a6 a7 a8 s rec = some res) (hk : KX res) : G X s ce0 sl0 328 [(0, vW (Value.ref b)), (1, vR a1), (2, vR a2), (3, vR a3), (4, vI a4), (5, vI a5), (6, vI a6), (7, vI a7), (8, vI a8)] [] := by
  unfold j_La_law_328 at h
  refine g_goto (tgt := 1031) ok d_La_law_328 (by decide) ?_
  exact w_j_La_law_1031 ok hse ht (by omega) (by omega) hB1 hB2 hexit hrec mb h hk
set_option maxRecDepth 100000 in
set_option maxHeartbeats 4000000 in
theorem w_j_La_law_310 {X : CX} {KX : Int32 × MS → Prop} {b L : Nat} {xs : Nat → Int32}  {a1 : Option Nat} {a2 : Option Nat} {a3 : Option Nat} {a4 : Int32} {a5 : Int32} {a6 : Int32} {a8 : Int32} {a12 : Int32} {t0 : Int32} {s : MS} {rec : Int32 → Int32 → Int32 → Int32 → Int32 → MS → Option (Int32 × MS)} {sb : MS} {ce0 sl0 cB sB : Nat} (ok : Ok X code RL rm_La_law 19 true) (hse : SE X.2.2.2.1 X.1.2.2.2.2.1 ∧ X.1.2.1.stackTraces = false) (ht : Sc X b L xs) (hc1 : ce0 + 7566 ≤ cB) (hc2 : sl0 + 45709 ≤ sB) (hB1 : cB ≤ 600086) (hB2 : sB ≤ 7301442) (hexit : ∀ (e7 : Int32) (z : MS), KX (e7, z) → (∀ q, dm sb q → dm z q) → G X z cB sB 1121 [(0, vW (Value.ref b)), (7, vI e7)] []) (hrec : ∀ (v4 : Int32) (v5 : Int32) (v6 : Int32) (v7 : Int32) (v8 : Int32) (z : MS), (∀ q, dm sb q → dm z q) → ∀ y, rec v4 v5 v6 v7 v8 z = some y → KX y → G X z cB sB 195 [(0, vW (Value.ref b)), (1, vR a1), (2, vR a2), (3, vR a3), (4, vI v4), (5, vI v5), (6, vI v6), (7, vI v7), (8, vI v8)] []) (mb : ∀ q, dm sb q → dm s q) {res : Int32 × MS} (h : j_La_law_310 L xs a1 a2 a3 a4 a5 a6 a8 a12 t0 s rec = some res) (hk : KX res) : G X s ce0 sl0 310 [(0, vW (Value.ref b)), (1, vR a1), (2, vR a2), (3, vR a3), (4, vI a4), (5, vI a5), (6, vI a6), (8, vI a8), (12, vI a12)] [vI t0] := by
  unfold j_La_law_310 at h
  refine g_istore (i := 7) [(7, vI t0), (0, vW (Value.ref b)), (1, vR a1), (2, vR a2), (3, vR a3), (4, vI a4), (5, vI a5), (6, vI a6), (8, vI a8), (12, vI a12)] ok d_La_law_310 (by decide) rfl ?_
  refine g_iload (i := 4) 5 ok d_La_law_312 rfl ?_
  refine g_bipush (v := (10 : Int32)) ok d_La_law_314 (by decide) ?_
  refine g_icmp_ge (tgt := 328) ok d_La_law_316 (by decide) (fun c145 => ?_) (fun c145 => ?_)
  · replace h := (if_pos c145).symm.trans h
    refine g_aload_n (i := 3) 4 ok d_La_law_319 rfl rfl ?_
    refine g_iload (i := 4) 5 ok d_La_law_320 rfl ?_
    refine g_iload (i := 12) 9 ok d_La_law_322 rfl ?_
    obtain ⟨k146, hk147, h⟩ := bnd_go h
    refine g_iast ok hk147 d_La_law_324 ?_
    obtain ⟨s148, e149⟩ : ∃ z, wi s k146 a4.toNatClampNeg a12 = z := ⟨_, rfl⟩
    replace h := lt_go h e149
    have m150 := mo_wi e149
    rw [e149]
    obtain ⟨x151, e152⟩ : ∃ z, a4 + (1 : Int32) = z := ⟨_, rfl⟩
    replace h := lt_go h e152
    refine g_iinc (i := 4) (v := x151) 5 [(4, vI x151), (7, vI t0), (0, vW (Value.ref b)), (1, vR a1), (2, vR a2), (3, vR a3), (5, vI a5), (6, vI a6), (8, vI a8), (12, vI a12)] ok d_La_law_325 rfl (by rw [← e152]; rfl) (by decide) rfl ?_
    refine g_sub [2, 3, 4, 5, 0, 6, 7, 1, 8] rfl ?_
    exact w_j_La_law_328 ok hse ht (by omega) (by omega) hB1 hB2 hexit hrec (fun z hz => m150 z (mb z hz)) h hk
  · replace h := (if_neg c145).symm.trans h
    refine g_sub [1, 2, 3, 4, 5, 6, 7, 0, 8] rfl ?_
    exact w_j_La_law_328 ok hse ht (by omega) (by omega) hB1 hB2 hexit hrec mb h hk
set_option maxRecDepth 100000 in
set_option maxHeartbeats 4000000 in
theorem w_j_La_law_301 {X : CX} {KX : Int32 × MS → Prop} {b L : Nat} {xs : Nat → Int32}  {a1 : Option Nat} {a2 : Option Nat} {a3 : Option Nat} {a4 : Int32} {a5 : Int32} {a6 : Int32} {a8 : Int32} {a12 : Int32} {t0 : Int64} {t1 : Int64} {s : MS} {rec : Int32 → Int32 → Int32 → Int32 → Int32 → MS → Option (Int32 × MS)} {sb : MS} {ce0 sl0 cB sB : Nat} (ok : Ok X code RL rm_La_law 19 true) (hse : SE X.2.2.2.1 X.1.2.2.2.2.1 ∧ X.1.2.1.stackTraces = false) (ht : Sc X b L xs) (hc1 : ce0 + 7566 ≤ cB) (hc2 : sl0 + 45709 ≤ sB) (hB1 : cB ≤ 600086) (hB2 : sB ≤ 7301442) (hexit : ∀ (e7 : Int32) (z : MS), KX (e7, z) → (∀ q, dm sb q → dm z q) → G X z cB sB 1121 [(0, vW (Value.ref b)), (7, vI e7)] []) (hrec : ∀ (v4 : Int32) (v5 : Int32) (v6 : Int32) (v7 : Int32) (v8 : Int32) (z : MS), (∀ q, dm sb q → dm z q) → ∀ y, rec v4 v5 v6 v7 v8 z = some y → KX y → G X z cB sB 195 [(0, vW (Value.ref b)), (1, vR a1), (2, vR a2), (3, vR a3), (4, vI v4), (5, vI v5), (6, vI v6), (7, vI v7), (8, vI v8)] []) (mb : ∀ q, dm sb q → dm s q) {res : Int32 × MS} (h : j_La_law_301 L xs a1 a2 a3 a4 a5 a6 a8 a12 t0 t1 s rec = some res) (hk : KX res) : G X s ce0 sl0 301 [(0, vW (Value.ref b)), (1, vR a1), (2, vR a2), (3, vR a3), (4, vI a4), (5, vI a5), (6, vI a6), (8, vI a8), (12, vI a12)] [vL t0, vL t1] := by
  unfold j_La_law_301 at h
  refine g_lcmp ok d_La_law_301 ?_
  refine g_if_ne (tgt := 309) ok d_La_law_302 (by decide) (fun c144 => ?_) (fun c144 => ?_)
  · replace h := (if_pos c144).symm.trans h
    refine g_iconst (v := (1 : Int32)) ok d_La_law_305 (by decide) ?_
    refine g_goto (tgt := 310) ok d_La_law_306 (by decide) ?_
    exact w_j_La_law_310 ok hse ht (by omega) (by omega) hB1 hB2 hexit hrec mb h hk
  · replace h := (if_neg c144).symm.trans h
    refine g_iconst (v := (0 : Int32)) ok d_La_law_309 (by decide) ?_
    exact w_j_La_law_310 ok hse ht (by omega) (by omega) hB1 hB2 hexit hrec mb h hk
set_option maxRecDepth 100000 in
set_option maxHeartbeats 4000000 in
theorem w_j_La_law_519 {X : CX} {KX : Int32 × MS → Prop} {b L : Nat} {xs : Nat → Int32}  {a1 : Option Nat} {a2 : Option Nat} {a3 : Option Nat} {a4 : Int32} {a5 : Int32} {a6 : Int32} {a8 : Int32} {t0 : Int32} {s : MS} {rec : Int32 → Int32 → Int32 → Int32 → Int32 → MS → Option (Int32 × MS)} {sb : MS} {ce0 sl0 cB sB : Nat} (ok : Ok X code RL rm_La_law 19 true) (hse : SE X.2.2.2.1 X.1.2.2.2.2.1 ∧ X.1.2.1.stackTraces = false) (ht : Sc X b L xs) (hc1 : ce0 + 7566 ≤ cB) (hc2 : sl0 + 45709 ≤ sB) (hB1 : cB ≤ 600086) (hB2 : sB ≤ 7301442) (hexit : ∀ (e7 : Int32) (z : MS), KX (e7, z) → (∀ q, dm sb q → dm z q) → G X z cB sB 1121 [(0, vW (Value.ref b)), (7, vI e7)] []) (hrec : ∀ (v4 : Int32) (v5 : Int32) (v6 : Int32) (v7 : Int32) (v8 : Int32) (z : MS), (∀ q, dm sb q → dm z q) → ∀ y, rec v4 v5 v6 v7 v8 z = some y → KX y → G X z cB sB 195 [(0, vW (Value.ref b)), (1, vR a1), (2, vR a2), (3, vR a3), (4, vI v4), (5, vI v5), (6, vI v6), (7, vI v7), (8, vI v8)] []) (mb : ∀ q, dm sb q → dm s q) {res : Int32 × MS} (h : j_La_law_519 L xs a1 a2 a3 a4 a5 a6 a8 t0 s rec = some res) (hk : KX res) : G X s ce0 sl0 519 [(0, vW (Value.ref b)), (1, vR a1), (2, vR a2), (3, vR a3), (4, vI a4), (5, vI a5), (6, vI a6), (8, vI a8)] [vI t0] := by
  unfold j_La_law_519 at h
  refine g_istore (i := 7) [(7, vI t0), (0, vW (Value.ref b)), (1, vR a1), (2, vR a2), (3, vR a3), (4, vI a4), (5, vI a5), (6, vI a6), (8, vI a8)] ok d_La_law_519 (by decide) rfl ?_
  refine g_goto (tgt := 1031) ok d_La_law_521 (by decide) ?_
  refine g_sub [1, 2, 3, 4, 5, 6, 7, 0, 8] rfl ?_
  exact w_j_La_law_1031 ok hse ht (by omega) (by omega) hB1 hB2 hexit hrec mb h hk
set_option maxRecDepth 100000 in
set_option maxHeartbeats 4000000 in
theorem w_j_La_law_518 {X : CX} {KX : Int32 × MS → Prop} {b L : Nat} {xs : Nat → Int32}  {a1 : Option Nat} {a2 : Option Nat} {a3 : Option Nat} {a4 : Int32} {a5 : Int32} {a6 : Int32} {a8 : Int32} {s : MS} {rec : Int32 → Int32 → Int32 → Int32 → Int32 → MS → Option (Int32 × MS)} {sb : MS} {ce0 sl0 cB sB : Nat} (ok : Ok X code RL rm_La_law 19 true) (hse : SE X.2.2.2.1 X.1.2.2.2.2.1 ∧ X.1.2.1.stackTraces = false) (ht : Sc X b L xs) (hc1 : ce0 + 7566 ≤ cB) (hc2 : sl0 + 45709 ≤ sB) (hB1 : cB ≤ 600086) (hB2 : sB ≤ 7301442) (hexit : ∀ (e7 : Int32) (z : MS), KX (e7, z) → (∀ q, dm sb q → dm z q) → G X z cB sB 1121 [(0, vW (Value.ref b)), (7, vI e7)] []) (hrec : ∀ (v4 : Int32) (v5 : Int32) (v6 : Int32) (v7 : Int32) (v8 : Int32) (z : MS), (∀ q, dm sb q → dm z q) → ∀ y, rec v4 v5 v6 v7 v8 z = some y → KX y → G X z cB sB 195 [(0, vW (Value.ref b)), (1, vR a1), (2, vR a2), (3, vR a3), (4, vI v4), (5, vI v5), (6, vI v6), (7, vI v7), (8, vI v8)] []) (mb : ∀ q, dm sb q → dm s q) {res : Int32 × MS} (h : j_La_law_518 L xs a1 a2 a3 a4 a5 a6 a8 s rec = some res) (hk : KX res) : G X s ce0 sl0 518 [(0, vW (Value.ref b)), (1, vR a1), (2, vR a2), (3, vR a3), (4, vI a4), (5, vI a5), (6, vI a6), (8, vI a8)] [] := by
  unfold j_La_law_518 at h
  refine g_iconst (v := (0 : Int32)) ok d_La_law_518 (by decide) ?_
  exact w_j_La_law_519 ok hse ht (by omega) (by omega) hB1 hB2 hexit hrec mb h hk
set_option maxRecDepth 100000 in
set_option maxHeartbeats 4000000 in
theorem w_j_La_law_480 {X : CX} {KX : Int32 × MS → Prop} {b L : Nat} {xs : Nat → Int32}  {a1 : Option Nat} {a2 : Option Nat} {a3 : Option Nat} {a4 : Int32} {a5 : Int32} {a6 : Int32} {a8 : Int32} {s : MS} {rec : Int32 → Int32 → Int32 → Int32 → Int32 → MS → Option (Int32 × MS)} {sb : MS} {ce0 sl0 cB sB : Nat} (ok : Ok X code RL rm_La_law 19 true) (hse : SE X.2.2.2.1 X.1.2.2.2.2.1 ∧ X.1.2.1.stackTraces = false) (ht : Sc X b L xs) (hc1 : ce0 + 7566 ≤ cB) (hc2 : sl0 + 45709 ≤ sB) (hB1 : cB ≤ 600086) (hB2 : sB ≤ 7301442) (hexit : ∀ (e7 : Int32) (z : MS), KX (e7, z) → (∀ q, dm sb q → dm z q) → G X z cB sB 1121 [(0, vW (Value.ref b)), (7, vI e7)] []) (hrec : ∀ (v4 : Int32) (v5 : Int32) (v6 : Int32) (v7 : Int32) (v8 : Int32) (z : MS), (∀ q, dm sb q → dm z q) → ∀ y, rec v4 v5 v6 v7 v8 z = some y → KX y → G X z cB sB 195 [(0, vW (Value.ref b)), (1, vR a1), (2, vR a2), (3, vR a3), (4, vI v4), (5, vI v5), (6, vI v6), (7, vI v7), (8, vI v8)] []) (mb : ∀ q, dm sb q → dm s q) {res : Int32 × MS} (h : j_La_law_480 L xs a1 a2 a3 a4 a5 a6 a8 s rec = some res) (hk : KX res) : G X s ce0 sl0 480 [(0, vW (Value.ref b)), (1, vR a1), (2, vR a2), (3, vR a3), (4, vI a4), (5, vI a5), (6, vI a6), (8, vI a8)] [] := by
  unfold j_La_law_480 at h
  refine g_iconst (v := (0 : Int32)) ok d_La_law_480 (by decide) ?_
  refine g_goto (tgt := 519) ok d_La_law_481 (by decide) ?_
  exact w_j_La_law_519 ok hse ht (by omega) (by omega) hB1 hB2 hexit hrec mb h hk
set_option maxRecDepth 100000 in
set_option maxHeartbeats 4000000 in
theorem w_j_La_law_567 {X : CX} {KX : Int32 × MS → Prop} {b L : Nat} {xs : Nat → Int32}  {a1 : Option Nat} {a2 : Option Nat} {a3 : Option Nat} {a4 : Int32} {a5 : Int32} {a6 : Int32} {a8 : Int32} {t0 : Int32} {s : MS} {rec : Int32 → Int32 → Int32 → Int32 → Int32 → MS → Option (Int32 × MS)} {sb : MS} {ce0 sl0 cB sB : Nat} (ok : Ok X code RL rm_La_law 19 true) (hse : SE X.2.2.2.1 X.1.2.2.2.2.1 ∧ X.1.2.1.stackTraces = false) (ht : Sc X b L xs) (hc1 : ce0 + 7566 ≤ cB) (hc2 : sl0 + 45709 ≤ sB) (hB1 : cB ≤ 600086) (hB2 : sB ≤ 7301442) (hexit : ∀ (e7 : Int32) (z : MS), KX (e7, z) → (∀ q, dm sb q → dm z q) → G X z cB sB 1121 [(0, vW (Value.ref b)), (7, vI e7)] []) (hrec : ∀ (v4 : Int32) (v5 : Int32) (v6 : Int32) (v7 : Int32) (v8 : Int32) (z : MS), (∀ q, dm sb q → dm z q) → ∀ y, rec v4 v5 v6 v7 v8 z = some y → KX y → G X z cB sB 195 [(0, vW (Value.ref b)), (1, vR a1), (2, vR a2), (3, vR a3), (4, vI v4), (5, vI v5), (6, vI v6), (7, vI v7), (8, vI v8)] []) (mb : ∀ q, dm sb q → dm s q) {res : Int32 × MS} (h : j_La_law_567 L xs a1 a2 a3 a4 a5 a6 a8 t0 s rec = some res) (hk : KX res) : G X s ce0 sl0 567 [(0, vW (Value.ref b)), (1, vR a1), (2, vR a2), (3, vR a3), (4, vI a4), (5, vI a5), (6, vI a6), (8, vI a8)] [vI t0] := by
  unfold j_La_law_567 at h
  refine g_istore (i := 7) [(7, vI t0), (0, vW (Value.ref b)), (1, vR a1), (2, vR a2), (3, vR a3), (4, vI a4), (5, vI a5), (6, vI a6), (8, vI a8)] ok d_La_law_567 (by decide) rfl ?_
  refine g_goto (tgt := 1031) ok d_La_law_569 (by decide) ?_
  refine g_sub [1, 2, 3, 4, 5, 6, 7, 0, 8] rfl ?_
  exact w_j_La_law_1031 ok hse ht (by omega) (by omega) hB1 hB2 hexit hrec mb h hk
set_option maxRecDepth 100000 in
set_option maxHeartbeats 4000000 in
theorem w_j_La_law_631 {X : CX} {KX : Int32 × MS → Prop} {b L : Nat} {xs : Nat → Int32}  {a1 : Option Nat} {a2 : Option Nat} {a3 : Option Nat} {a4 : Int32} {a5 : Int32} {a6 : Int32} {a8 : Int32} {t0 : Int32} {s : MS} {rec : Int32 → Int32 → Int32 → Int32 → Int32 → MS → Option (Int32 × MS)} {sb : MS} {ce0 sl0 cB sB : Nat} (ok : Ok X code RL rm_La_law 19 true) (hse : SE X.2.2.2.1 X.1.2.2.2.2.1 ∧ X.1.2.1.stackTraces = false) (ht : Sc X b L xs) (hc1 : ce0 + 7566 ≤ cB) (hc2 : sl0 + 45709 ≤ sB) (hB1 : cB ≤ 600086) (hB2 : sB ≤ 7301442) (hexit : ∀ (e7 : Int32) (z : MS), KX (e7, z) → (∀ q, dm sb q → dm z q) → G X z cB sB 1121 [(0, vW (Value.ref b)), (7, vI e7)] []) (hrec : ∀ (v4 : Int32) (v5 : Int32) (v6 : Int32) (v7 : Int32) (v8 : Int32) (z : MS), (∀ q, dm sb q → dm z q) → ∀ y, rec v4 v5 v6 v7 v8 z = some y → KX y → G X z cB sB 195 [(0, vW (Value.ref b)), (1, vR a1), (2, vR a2), (3, vR a3), (4, vI v4), (5, vI v5), (6, vI v6), (7, vI v7), (8, vI v8)] []) (mb : ∀ q, dm sb q → dm s q) {res : Int32 × MS} (h : j_La_law_631 L xs a1 a2 a3 a4 a5 a6 a8 t0 s rec = some res) (hk : KX res) : G X s ce0 sl0 631 [(0, vW (Value.ref b)), (1, vR a1), (2, vR a2), (3, vR a3), (4, vI a4), (5, vI a5), (6, vI a6), (8, vI a8)] [vI t0] := by
  unfold j_La_law_631 at h
  refine g_istore (i := 7) [(7, vI t0), (0, vW (Value.ref b)), (1, vR a1), (2, vR a2), (3, vR a3), (4, vI a4), (5, vI a5), (6, vI a6), (8, vI a8)] ok d_La_law_631 (by decide) rfl ?_
  refine g_goto (tgt := 1031) ok d_La_law_633 (by decide) ?_
  refine g_sub [1, 2, 3, 4, 5, 6, 7, 0, 8] rfl ?_
  exact w_j_La_law_1031 ok hse ht (by omega) (by omega) hB1 hB2 hexit hrec mb h hk
set_option maxRecDepth 100000 in
set_option maxHeartbeats 4000000 in
theorem w_j_La_law_630 {X : CX} {KX : Int32 × MS → Prop} {b L : Nat} {xs : Nat → Int32}  {a1 : Option Nat} {a2 : Option Nat} {a3 : Option Nat} {a4 : Int32} {a5 : Int32} {a6 : Int32} {a8 : Int32} {s : MS} {rec : Int32 → Int32 → Int32 → Int32 → Int32 → MS → Option (Int32 × MS)} {sb : MS} {ce0 sl0 cB sB : Nat} (ok : Ok X code RL rm_La_law 19 true) (hse : SE X.2.2.2.1 X.1.2.2.2.2.1 ∧ X.1.2.1.stackTraces = false) (ht : Sc X b L xs) (hc1 : ce0 + 7566 ≤ cB) (hc2 : sl0 + 45709 ≤ sB) (hB1 : cB ≤ 600086) (hB2 : sB ≤ 7301442) (hexit : ∀ (e7 : Int32) (z : MS), KX (e7, z) → (∀ q, dm sb q → dm z q) → G X z cB sB 1121 [(0, vW (Value.ref b)), (7, vI e7)] []) (hrec : ∀ (v4 : Int32) (v5 : Int32) (v6 : Int32) (v7 : Int32) (v8 : Int32) (z : MS), (∀ q, dm sb q → dm z q) → ∀ y, rec v4 v5 v6 v7 v8 z = some y → KX y → G X z cB sB 195 [(0, vW (Value.ref b)), (1, vR a1), (2, vR a2), (3, vR a3), (4, vI v4), (5, vI v5), (6, vI v6), (7, vI v7), (8, vI v8)] []) (mb : ∀ q, dm sb q → dm s q) {res : Int32 × MS} (h : j_La_law_630 L xs a1 a2 a3 a4 a5 a6 a8 s rec = some res) (hk : KX res) : G X s ce0 sl0 630 [(0, vW (Value.ref b)), (1, vR a1), (2, vR a2), (3, vR a3), (4, vI a4), (5, vI a5), (6, vI a6), (8, vI a8)] [] := by
  unfold j_La_law_630 at h
  refine g_iconst (v := (0 : Int32)) ok d_La_law_630 (by decide) ?_
  exact w_j_La_law_631 ok hse ht (by omega) (by omega) hB1 hB2 hexit hrec mb h hk
set_option maxRecDepth 100000 in
set_option maxHeartbeats 4000000 in
theorem w_j_La_law_773 {X : CX} {KX : Int32 × MS → Prop} {b L : Nat} {xs : Nat → Int32}  {a1 : Option Nat} {a2 : Option Nat} {a3 : Option Nat} {a4 : Int32} {a5 : Int32} {a6 : Int32} {a8 : Int32} {t0 : Int32} {s : MS} {rec : Int32 → Int32 → Int32 → Int32 → Int32 → MS → Option (Int32 × MS)} {sb : MS} {ce0 sl0 cB sB : Nat} (ok : Ok X code RL rm_La_law 19 true) (hse : SE X.2.2.2.1 X.1.2.2.2.2.1 ∧ X.1.2.1.stackTraces = false) (ht : Sc X b L xs) (hc1 : ce0 + 7566 ≤ cB) (hc2 : sl0 + 45709 ≤ sB) (hB1 : cB ≤ 600086) (hB2 : sB ≤ 7301442) (hexit : ∀ (e7 : Int32) (z : MS), KX (e7, z) → (∀ q, dm sb q → dm z q) → G X z cB sB 1121 [(0, vW (Value.ref b)), (7, vI e7)] []) (hrec : ∀ (v4 : Int32) (v5 : Int32) (v6 : Int32) (v7 : Int32) (v8 : Int32) (z : MS), (∀ q, dm sb q → dm z q) → ∀ y, rec v4 v5 v6 v7 v8 z = some y → KX y → G X z cB sB 195 [(0, vW (Value.ref b)), (1, vR a1), (2, vR a2), (3, vR a3), (4, vI v4), (5, vI v5), (6, vI v6), (7, vI v7), (8, vI v8)] []) (mb : ∀ q, dm sb q → dm s q) {res : Int32 × MS} (h : j_La_law_773 L xs a1 a2 a3 a4 a5 a6 a8 t0 s rec = some res) (hk : KX res) : G X s ce0 sl0 773 [(0, vW (Value.ref b)), (1, vR a1), (2, vR a2), (3, vR a3), (4, vI a4), (5, vI a5), (6, vI a6), (8, vI a8)] [vI t0] := by
  unfold j_La_law_773 at h
  refine g_istore (i := 7) [(7, vI t0), (0, vW (Value.ref b)), (1, vR a1), (2, vR a2), (3, vR a3), (4, vI a4), (5, vI a5), (6, vI a6), (8, vI a8)] ok d_La_law_773 (by decide) rfl ?_
  refine g_goto (tgt := 1031) ok d_La_law_775 (by decide) ?_
  refine g_sub [1, 2, 3, 4, 5, 6, 7, 0, 8] rfl ?_
  exact w_j_La_law_1031 ok hse ht (by omega) (by omega) hB1 hB2 hexit hrec mb h hk
set_option maxRecDepth 100000 in
set_option maxHeartbeats 4000000 in
theorem w_j_La_law_772 {X : CX} {KX : Int32 × MS → Prop} {b L : Nat} {xs : Nat → Int32}  {a1 : Option Nat} {a2 : Option Nat} {a3 : Option Nat} {a4 : Int32} {a5 : Int32} {a6 : Int32} {a8 : Int32} {s : MS} {rec : Int32 → Int32 → Int32 → Int32 → Int32 → MS → Option (Int32 × MS)} {sb : MS} {ce0 sl0 cB sB : Nat} (ok : Ok X code RL rm_La_law 19 true) (hse : SE X.2.2.2.1 X.1.2.2.2.2.1 ∧ X.1.2.1.stackTraces = false) (ht : Sc X b L xs) (hc1 : ce0 + 7566 ≤ cB) (hc2 : sl0 + 45709 ≤ sB) (hB1 : cB ≤ 600086) (hB2 : sB ≤ 7301442) (hexit : ∀ (e7 : Int32) (z : MS), KX (e7, z) → (∀ q, dm sb q → dm z q) → G X z cB sB 1121 [(0, vW (Value.ref b)), (7, vI e7)] []) (hrec : ∀ (v4 : Int32) (v5 : Int32) (v6 : Int32) (v7 : Int32) (v8 : Int32) (z : MS), (∀ q, dm sb q → dm z q) → ∀ y, rec v4 v5 v6 v7 v8 z = some y → KX y → G X z cB sB 195 [(0, vW (Value.ref b)), (1, vR a1), (2, vR a2), (3, vR a3), (4, vI v4), (5, vI v5), (6, vI v6), (7, vI v7), (8, vI v8)] []) (mb : ∀ q, dm sb q → dm s q) {res : Int32 × MS} (h : j_La_law_772 L xs a1 a2 a3 a4 a5 a6 a8 s rec = some res) (hk : KX res) : G X s ce0 sl0 772 [(0, vW (Value.ref b)), (1, vR a1), (2, vR a2), (3, vR a3), (4, vI a4), (5, vI a5), (6, vI a6), (8, vI a8)] [] := by
  unfold j_La_law_772 at h
  refine g_iconst (v := (0 : Int32)) ok d_La_law_772 (by decide) ?_
  exact w_j_La_law_773 ok hse ht (by omega) (by omega) hB1 hB2 hexit hrec mb h hk
set_option maxRecDepth 100000 in
set_option maxHeartbeats 4000000 in
theorem w_j_La_law_740 {X : CX} {KX : Int32 × MS → Prop} {b L : Nat} {xs : Nat → Int32}  {a1 : Option Nat} {a2 : Option Nat} {a3 : Option Nat} {a4 : Int32} {a6 : Int32} {a7 : Int32} {a8 : Int32} {a9 : Int32} {t0 : Int32} {t1 : Int32} {s : MS} {rec : Int32 → Int32 → Int32 → Int32 → Int32 → MS → Option (Int32 × MS)} {sb : MS} {ce0 sl0 cB sB : Nat} (ok : Ok X code RL rm_La_law 19 true) (hse : SE X.2.2.2.1 X.1.2.2.2.2.1 ∧ X.1.2.1.stackTraces = false) (ht : Sc X b L xs) (hc1 : ce0 + 7567 ≤ cB) (hc2 : sl0 + 45715 ≤ sB) (hB1 : cB ≤ 600086) (hB2 : sB ≤ 7301442) (hexit : ∀ (e7 : Int32) (z : MS), KX (e7, z) → (∀ q, dm sb q → dm z q) → G X z cB sB 1121 [(0, vW (Value.ref b)), (7, vI e7)] []) (hrec : ∀ (v4 : Int32) (v5 : Int32) (v6 : Int32) (v7 : Int32) (v8 : Int32) (z : MS), (∀ q, dm sb q → dm z q) → ∀ y, rec v4 v5 v6 v7 v8 z = some y → KX y → G X z cB sB 195 [(0, vW (Value.ref b)), (1, vR a1), (2, vR a2), (3, vR a3), (4, vI v4), (5, vI v5), (6, vI v6), (7, vI v7), (8, vI v8)] []) (mb : ∀ q, dm sb q → dm s q) {res : Int32 × MS} (h : j_La_law_740 L xs a1 a2 a3 a4 a6 a7 a8 a9 t0 t1 s rec = some res) (hk : KX res) : G X s ce0 sl0 740 [(0, vW (Value.ref b)), (1, vR a1), (2, vR a2), (3, vR a3), (4, vI a4), (6, vI a6), (7, vI a7), (8, vI a8), (9, vI a9)] [vI t0, vI t1] := by
  unfold j_La_law_740 at h
  refine g_iadd ok d_La_law_740 ?_
  obtain ⟨x339, e340⟩ : ∃ z, (t1 + t0) = z := ⟨_, rfl⟩
  replace h := lt_go h e340
  rw [e340]
  refine g_istore (i := 5) [(5, vI x339), (0, vW (Value.ref b)), (1, vR a1), (2, vR a2), (3, vR a3), (4, vI a4), (6, vI a6), (7, vI a7), (8, vI a8), (9, vI a9)] ok d_La_law_741 (by decide) rfl ?_
  refine g_iload (i := 7) 7 ok d_La_law_743 rfl ?_
  refine g_if_eq (tgt := 772) ok d_La_law_745 (by decide) (fun c341 => ?_) (fun c341 => ?_)
  · replace h := (if_pos c341).symm.trans h
    refine g_sub [1, 2, 3, 4, 5, 0, 6, 8] rfl ?_
    exact w_j_La_law_772 ok hse ht (by omega) (by omega) hB1 hB2 hexit hrec mb h hk
  · replace h := (if_neg c341).symm.trans h
    refine g_aload_n (i := 1) 2 ok d_La_law_748 rfl rfl ?_
    refine g_iload (i := 9) 9 ok d_La_law_749 rfl ?_
    refine g_sipush (v := (2048 : Int32)) ok d_La_law_751 (by decide) ?_
    refine g_idiv ok d_La_law_754 (by decide) ?_
    refine g_iload (i := 5) 0 ok d_La_law_755 rfl ?_
    obtain ⟨g342, h⟩ := gd_go h
    refine g_irem ok d_La_law_757 g342 ?_
    refine g_sub [0, 1, 2, 3, 4, 5, 6, 8] rfl ?_
    obtain ⟨k343, hk344, h⟩ := bnd_go h
    obtain ⟨n345, hn346, h⟩ := bnd_go h
    obtain ⟨n347, hn348, h⟩ := bnd_go h
    obtain ⟨x352, s351, hc350, h⟩ := bnd2_go h
    refine g_callW (rm2 := rm_La_open) (As := [vR a1, vI ((a9 / (2048 : Int32)) - (a9 / (2048 : Int32)) / x339 * x339)]) (rest := []) ok hse.1 (c_La_open hse.2 hc350) cm_La_open cs_La_open tw_419 ⟨rfl, rfl⟩ ⟨le_t rfl, le_t rfl⟩ ⟨rfl, le_t rfl⟩ ⟨(by show _ ≤ 600086; omega), (by show _ ≤ 7301442; omega)⟩ ⟨trivial, ⟨trivial, ⟨(rk_of hk344), ⟨(rk_rl hn346), ⟨(rk_rl hn348), ⟨trivial, ⟨trivial, ⟨trivial, trivial⟩⟩⟩⟩⟩⟩⟩⟩ trivial d_La_law_758 rfl (fun m349 => ?_)
    show G X s351 (ce0 + 1) (sl0 + 6) 761 [(5, vI x339), (0, vW (Value.ref b)), (1, vR a1), (2, vR a2), (3, vR a3), (4, vI a4), (6, vI a6), (8, vI a8)] [vL x352]
    refine g_ldc2 (v := (-9000000000000000003 : Int64)) ok d_La_law_761 tw_317 ?_
    refine g_lcmp ok d_La_law_764 ?_
    refine g_if_lt (tgt := 772) ok d_La_law_765 (by decide) (fun c353 => ?_) (fun c353 => ?_)
    · replace h := (if_pos c353).symm.trans h
      refine g_sub [1, 2, 3, 4, 5, 0, 6, 7] rfl ?_
      exact w_j_La_law_772 ok hse ht (by omega) (by omega) hB1 hB2 hexit hrec (fun z hz => m349 z (mb z hz)) h hk
    · replace h := (if_neg c353).symm.trans h
      refine g_iconst (v := (1 : Int32)) ok d_La_law_768 (by decide) ?_
      refine g_goto (tgt := 773) ok d_La_law_769 (by decide) ?_
      refine g_sub [1, 2, 3, 4, 5, 0, 6, 7] rfl ?_
      exact w_j_La_law_773 ok hse ht (by omega) (by omega) hB1 hB2 hexit hrec (fun z hz => m349 z (mb z hz)) h hk
set_option maxRecDepth 100000 in
set_option maxHeartbeats 4000000 in
theorem w_j_La_law_724 {X : CX} {KX : Int32 × MS → Prop} {b L : Nat} {xs : Nat → Int32}  {a1 : Option Nat} {a2 : Option Nat} {a3 : Option Nat} {a4 : Int32} {a5 : Int32} {a6 : Int32} {a8 : Int32} {a9 : Int32} {t0 : Int32} {s : MS} {rec : Int32 → Int32 → Int32 → Int32 → Int32 → MS → Option (Int32 × MS)} {sb : MS} {ce0 sl0 cB sB : Nat} (ok : Ok X code RL rm_La_law 19 true) (hse : SE X.2.2.2.1 X.1.2.2.2.2.1 ∧ X.1.2.1.stackTraces = false) (ht : Sc X b L xs) (hc1 : ce0 + 7567 ≤ cB) (hc2 : sl0 + 45715 ≤ sB) (hB1 : cB ≤ 600086) (hB2 : sB ≤ 7301442) (hexit : ∀ (e7 : Int32) (z : MS), KX (e7, z) → (∀ q, dm sb q → dm z q) → G X z cB sB 1121 [(0, vW (Value.ref b)), (7, vI e7)] []) (hrec : ∀ (v4 : Int32) (v5 : Int32) (v6 : Int32) (v7 : Int32) (v8 : Int32) (z : MS), (∀ q, dm sb q → dm z q) → ∀ y, rec v4 v5 v6 v7 v8 z = some y → KX y → G X z cB sB 195 [(0, vW (Value.ref b)), (1, vR a1), (2, vR a2), (3, vR a3), (4, vI v4), (5, vI v5), (6, vI v6), (7, vI v7), (8, vI v8)] []) (mb : ∀ q, dm sb q → dm s q) {res : Int32 × MS} (h : j_La_law_724 L xs a1 a2 a3 a4 a5 a6 a8 a9 t0 s rec = some res) (hk : KX res) : G X s ce0 sl0 724 [(0, vW (Value.ref b)), (1, vR a1), (2, vR a2), (3, vR a3), (4, vI a4), (5, vI a5), (6, vI a6), (8, vI a8), (9, vI a9)] [vI t0] := by
  unfold j_La_law_724 at h
  refine g_istore (i := 7) [(7, vI t0), (0, vW (Value.ref b)), (1, vR a1), (2, vR a2), (3, vR a3), (4, vI a4), (5, vI a5), (6, vI a6), (8, vI a8), (9, vI a9)] ok d_La_law_724 (by decide) rfl ?_
  refine g_iload (i := 5) 6 ok d_La_law_726 rfl ?_
  refine g_iload (i := 5) 6 ok d_La_law_728 rfl ?_
  refine g_bipush (v := (10 : Int32)) ok d_La_law_730 (by decide) ?_
  refine g_icmp_ne (tgt := 739) ok d_La_law_732 (by decide) (fun c338 => ?_) (fun c338 => ?_)
  · replace h := (if_pos c338).symm.trans h
    refine g_iconst (v := (0 : Int32)) ok d_La_law_735 (by decide) ?_
    refine g_goto (tgt := 740) ok d_La_law_736 (by decide) ?_
    refine g_sub [1, 2, 3, 4, 5, 7, 0, 8, 9] rfl ?_
    exact w_j_La_law_740 ok hse ht (by omega) (by omega) hB1 hB2 hexit hrec mb h hk
  · replace h := (if_neg c338).symm.trans h
    refine g_iconst (v := (1 : Int32)) ok d_La_law_739 (by decide) ?_
    refine g_sub [1, 2, 3, 4, 5, 7, 0, 8, 9] rfl ?_
    exact w_j_La_law_740 ok hse ht (by omega) (by omega) hB1 hB2 hexit hrec mb h hk
set_option maxRecDepth 100000 in
set_option maxHeartbeats 4000000 in
theorem w_j_La_law_715 {X : CX} {KX : Int32 × MS → Prop} {b L : Nat} {xs : Nat → Int32}  {a1 : Option Nat} {a2 : Option Nat} {a3 : Option Nat} {a4 : Int32} {a5 : Int32} {a6 : Int32} {a8 : Int32} {a9 : Int32} {t0 : Int64} {t1 : Int64} {s : MS} {rec : Int32 → Int32 → Int32 → Int32 → Int32 → MS → Option (Int32 × MS)} {sb : MS} {ce0 sl0 cB sB : Nat} (ok : Ok X code RL rm_La_law 19 true) (hse : SE X.2.2.2.1 X.1.2.2.2.2.1 ∧ X.1.2.1.stackTraces = false) (ht : Sc X b L xs) (hc1 : ce0 + 7567 ≤ cB) (hc2 : sl0 + 45715 ≤ sB) (hB1 : cB ≤ 600086) (hB2 : sB ≤ 7301442) (hexit : ∀ (e7 : Int32) (z : MS), KX (e7, z) → (∀ q, dm sb q → dm z q) → G X z cB sB 1121 [(0, vW (Value.ref b)), (7, vI e7)] []) (hrec : ∀ (v4 : Int32) (v5 : Int32) (v6 : Int32) (v7 : Int32) (v8 : Int32) (z : MS), (∀ q, dm sb q → dm z q) → ∀ y, rec v4 v5 v6 v7 v8 z = some y → KX y → G X z cB sB 195 [(0, vW (Value.ref b)), (1, vR a1), (2, vR a2), (3, vR a3), (4, vI v4), (5, vI v5), (6, vI v6), (7, vI v7), (8, vI v8)] []) (mb : ∀ q, dm sb q → dm s q) {res : Int32 × MS} (h : j_La_law_715 L xs a1 a2 a3 a4 a5 a6 a8 a9 t0 t1 s rec = some res) (hk : KX res) : G X s ce0 sl0 715 [(0, vW (Value.ref b)), (1, vR a1), (2, vR a2), (3, vR a3), (4, vI a4), (5, vI a5), (6, vI a6), (8, vI a8), (9, vI a9)] [vL t0, vL t1] := by
  unfold j_La_law_715 at h
  refine g_lcmp ok d_La_law_715 ?_
  refine g_if_ne (tgt := 723) ok d_La_law_716 (by decide) (fun c337 => ?_) (fun c337 => ?_)
  · replace h := (if_pos c337).symm.trans h
    refine g_iconst (v := (1 : Int32)) ok d_La_law_719 (by decide) ?_
    refine g_goto (tgt := 724) ok d_La_law_720 (by decide) ?_
    exact w_j_La_law_724 ok hse ht (by omega) (by omega) hB1 hB2 hexit hrec mb h hk
  · replace h := (if_neg c337).symm.trans h
    refine g_iconst (v := (0 : Int32)) ok d_La_law_723 (by decide) ?_
    exact w_j_La_law_724 ok hse ht (by omega) (by omega) hB1 hB2 hexit hrec mb h hk
set_option maxRecDepth 100000 in
set_option maxHeartbeats 4000000 in
theorem w_j_La_law_898 {X : CX} {KX : Int32 × MS → Prop} {b L : Nat} {xs : Nat → Int32}  {a1 : Option Nat} {a2 : Option Nat} {a3 : Option Nat} {a4 : Int32} {a5 : Int32} {a6 : Int32} {a8 : Int32} {t0 : Int32} {s : MS} {rec : Int32 → Int32 → Int32 → Int32 → Int32 → MS → Option (Int32 × MS)} {sb : MS} {ce0 sl0 cB sB : Nat} (ok : Ok X code RL rm_La_law 19 true) (hse : SE X.2.2.2.1 X.1.2.2.2.2.1 ∧ X.1.2.1.stackTraces = false) (ht : Sc X b L xs) (hc1 : ce0 + 7566 ≤ cB) (hc2 : sl0 + 45709 ≤ sB) (hB1 : cB ≤ 600086) (hB2 : sB ≤ 7301442) (hexit : ∀ (e7 : Int32) (z : MS), KX (e7, z) → (∀ q, dm sb q → dm z q) → G X z cB sB 1121 [(0, vW (Value.ref b)), (7, vI e7)] []) (hrec : ∀ (v4 : Int32) (v5 : Int32) (v6 : Int32) (v7 : Int32) (v8 : Int32) (z : MS), (∀ q, dm sb q → dm z q) → ∀ y, rec v4 v5 v6 v7 v8 z = some y → KX y → G X z cB sB 195 [(0, vW (Value.ref b)), (1, vR a1), (2, vR a2), (3, vR a3), (4, vI v4), (5, vI v5), (6, vI v6), (7, vI v7), (8, vI v8)] []) (mb : ∀ q, dm sb q → dm s q) {res : Int32 × MS} (h : j_La_law_898 L xs a1 a2 a3 a4 a5 a6 a8 t0 s rec = some res) (hk : KX res) : G X s ce0 sl0 898 [(0, vW (Value.ref b)), (1, vR a1), (2, vR a2), (3, vR a3), (4, vI a4), (5, vI a5), (6, vI a6), (8, vI a8)] [vI t0] := by
  unfold j_La_law_898 at h
  refine g_istore (i := 7) [(7, vI t0), (0, vW (Value.ref b)), (1, vR a1), (2, vR a2), (3, vR a3), (4, vI a4), (5, vI a5), (6, vI a6), (8, vI a8)] ok d_La_law_898 (by decide) rfl ?_
  refine g_goto (tgt := 1031) ok d_La_law_900 (by decide) ?_
  refine g_sub [1, 2, 3, 4, 5, 6, 7, 0, 8] rfl ?_
  exact w_j_La_law_1031 ok hse ht (by omega) (by omega) hB1 hB2 hexit hrec mb h hk
set_option maxRecDepth 100000 in
set_option maxHeartbeats 4000000 in
theorem w_j_La_law_893 {X : CX} {KX : Int32 × MS → Prop} {b L : Nat} {xs : Nat → Int32}  {a1 : Option Nat} {a2 : Option Nat} {a3 : Option Nat} {a4 : Int32} {a5 : Int32} {a6 : Int32} {a8 : Int32} {s : MS} {rec : Int32 → Int32 → Int32 → Int32 → Int32 → MS → Option (Int32 × MS)} {sb : MS} {ce0 sl0 cB sB : Nat} (ok : Ok X code RL rm_La_law 19 true) (hse : SE X.2.2.2.1 X.1.2.2.2.2.1 ∧ X.1.2.1.stackTraces = false) (ht : Sc X b L xs) (hc1 : ce0 + 7566 ≤ cB) (hc2 : sl0 + 45709 ≤ sB) (hB1 : cB ≤ 600086) (hB2 : sB ≤ 7301442) (hexit : ∀ (e7 : Int32) (z : MS), KX (e7, z) → (∀ q, dm sb q → dm z q) → G X z cB sB 1121 [(0, vW (Value.ref b)), (7, vI e7)] []) (hrec : ∀ (v4 : Int32) (v5 : Int32) (v6 : Int32) (v7 : Int32) (v8 : Int32) (z : MS), (∀ q, dm sb q → dm z q) → ∀ y, rec v4 v5 v6 v7 v8 z = some y → KX y → G X z cB sB 195 [(0, vW (Value.ref b)), (1, vR a1), (2, vR a2), (3, vR a3), (4, vI v4), (5, vI v5), (6, vI v6), (7, vI v7), (8, vI v8)] []) (mb : ∀ q, dm sb q → dm s q) {res : Int32 × MS} (h : j_La_law_893 L xs a1 a2 a3 a4 a5 a6 a8 s rec = some res) (hk : KX res) : G X s ce0 sl0 893 [(0, vW (Value.ref b)), (1, vR a1), (2, vR a2), (3, vR a3), (4, vI a4), (5, vI a5), (6, vI a6), (8, vI a8)] [] := by
  unfold j_La_law_893 at h
  refine g_iconst (v := (1 : Int32)) ok d_La_law_893 (by decide) ?_
  refine g_goto (tgt := 898) ok d_La_law_894 (by decide) ?_
  exact w_j_La_law_898 ok hse ht (by omega) (by omega) hB1 hB2 hexit hrec mb h hk
set_option maxRecDepth 100000 in
set_option maxHeartbeats 4000000 in
theorem w_j_La_law_897 {X : CX} {KX : Int32 × MS → Prop} {b L : Nat} {xs : Nat → Int32}  {a1 : Option Nat} {a2 : Option Nat} {a3 : Option Nat} {a4 : Int32} {a5 : Int32} {a6 : Int32} {a8 : Int32} {s : MS} {rec : Int32 → Int32 → Int32 → Int32 → Int32 → MS → Option (Int32 × MS)} {sb : MS} {ce0 sl0 cB sB : Nat} (ok : Ok X code RL rm_La_law 19 true) (hse : SE X.2.2.2.1 X.1.2.2.2.2.1 ∧ X.1.2.1.stackTraces = false) (ht : Sc X b L xs) (hc1 : ce0 + 7566 ≤ cB) (hc2 : sl0 + 45709 ≤ sB) (hB1 : cB ≤ 600086) (hB2 : sB ≤ 7301442) (hexit : ∀ (e7 : Int32) (z : MS), KX (e7, z) → (∀ q, dm sb q → dm z q) → G X z cB sB 1121 [(0, vW (Value.ref b)), (7, vI e7)] []) (hrec : ∀ (v4 : Int32) (v5 : Int32) (v6 : Int32) (v7 : Int32) (v8 : Int32) (z : MS), (∀ q, dm sb q → dm z q) → ∀ y, rec v4 v5 v6 v7 v8 z = some y → KX y → G X z cB sB 195 [(0, vW (Value.ref b)), (1, vR a1), (2, vR a2), (3, vR a3), (4, vI v4), (5, vI v5), (6, vI v6), (7, vI v7), (8, vI v8)] []) (mb : ∀ q, dm sb q → dm s q) {res : Int32 × MS} (h : j_La_law_897 L xs a1 a2 a3 a4 a5 a6 a8 s rec = some res) (hk : KX res) : G X s ce0 sl0 897 [(0, vW (Value.ref b)), (1, vR a1), (2, vR a2), (3, vR a3), (4, vI a4), (5, vI a5), (6, vI a6), (8, vI a8)] [] := by
  unfold j_La_law_897 at h
  refine g_iconst (v := (0 : Int32)) ok d_La_law_897 (by decide) ?_
  exact w_j_La_law_898 ok hse ht (by omega) (by omega) hB1 hB2 hexit hrec mb h hk
set_option maxRecDepth 100000 in
set_option maxHeartbeats 4000000 in
theorem w_j_La_law_858 {X : CX} {KX : Int32 × MS → Prop} {b L : Nat} {xs : Nat → Int32}  {a1 : Option Nat} {a2 : Option Nat} {a3 : Option Nat} {a4 : Int32} {a5 : Int32} {a8 : Int32} {a12 : Int32} {a13 : Int32} {a14 : Int64} {t0 : Int32} {s : MS} {rec : Int32 → Int32 → Int32 → Int32 → Int32 → MS → Option (Int32 × MS)} {sb : MS} {ce0 sl0 cB sB : Nat} (ok : Ok X code RL rm_La_law 19 true) (hse : SE X.2.2.2.1 X.1.2.2.2.2.1 ∧ X.1.2.1.stackTraces = false) (ht : Sc X b L xs) (hc1 : ce0 + 7568 ≤ cB) (hc2 : sl0 + 45721 ≤ sB) (hB1 : cB ≤ 600086) (hB2 : sB ≤ 7301442) (hexit : ∀ (e7 : Int32) (z : MS), KX (e7, z) → (∀ q, dm sb q → dm z q) → G X z cB sB 1121 [(0, vW (Value.ref b)), (7, vI e7)] []) (hrec : ∀ (v4 : Int32) (v5 : Int32) (v6 : Int32) (v7 : Int32) (v8 : Int32) (z : MS), (∀ q, dm sb q → dm z q) → ∀ y, rec v4 v5 v6 v7 v8 z = some y → KX y → G X z cB sB 195 [(0, vW (Value.ref b)), (1, vR a1), (2, vR a2), (3, vR a3), (4, vI v4), (5, vI v5), (6, vI v6), (7, vI v7), (8, vI v8)] []) (mb : ∀ q, dm sb q → dm s q) {res : Int32 × MS} (h : j_La_law_858 L xs a1 a2 a3 a4 a5 a8 a12 a13 a14 t0 s rec = some res) (hk : KX res) : G X s ce0 sl0 858 [(0, vW (Value.ref b)), (1, vR a1), (2, vR a2), (3, vR a3), (4, vI a4), (5, vI a5), (8, vI a8), (12, vI a12), (13, vI a13), (14, vL a14)] [vI t0] := by
  unfold j_La_law_858 at h
  refine g_istore (i := 6) [(6, vI t0), (0, vW (Value.ref b)), (1, vR a1), (2, vR a2), (3, vR a3), (4, vI a4), (5, vI a5), (8, vI a8), (12, vI a12), (13, vI a13), (14, vL a14)] ok d_La_law_858 (by decide) rfl ?_
  refine g_lload (i := 14) 10 ok d_La_law_860 rfl ?_
  refine g_ldc2 (v := (-9000000000000000003 : Int64)) ok d_La_law_862 tw_317 ?_
  refine g_lcmp ok d_La_law_865 ?_
  refine g_if_eq (tgt := 893) ok d_La_law_866 (by decide) (fun c390 => ?_) (fun c390 => ?_)
  · replace h := (if_pos c390).symm.trans h
    refine g_sub [1, 2, 3, 4, 5, 6, 0, 7] rfl ?_
    exact w_j_La_law_893 ok hse ht (by omega) (by omega) hB1 hB2 hexit hrec mb h hk
  · replace h := (if_neg c390).symm.trans h
    refine g_iload (i := 13) 9 ok d_La_law_869 rfl ?_
    refine g_if_eq (tgt := 897) ok d_La_law_871 (by decide) (fun c391 => ?_) (fun c391 => ?_)
    · replace h := (if_pos c391).symm.trans h
      refine g_sub [1, 2, 3, 4, 5, 6, 0, 7] rfl ?_
      exact w_j_La_law_897 ok hse ht (by omega) (by omega) hB1 hB2 hexit hrec mb h hk
    · replace h := (if_neg c391).symm.trans h
      refine g_aload_n (i := 1) 2 ok d_La_law_874 rfl rfl ?_
      refine g_aload_n (i := 1) 2 ok d_La_law_875 rfl rfl ?_
      refine g_iload (i := 12) 8 ok d_La_law_876 rfl ?_
      refine g_iconst (v := (5 : Int32)) ok d_La_law_878 (by decide) ?_
      refine g_sub [0, 1, 2, 3, 4, 5, 6, 7, 10] rfl ?_
      obtain ⟨k392, hk393, h⟩ := bnd_go h
      obtain ⟨n394, hn395, h⟩ := bnd_go h
      obtain ⟨n396, hn397, h⟩ := bnd_go h
      obtain ⟨x401, s400, hc399, h⟩ := bnd2_go h
      refine g_callW (rm2 := rm_La_ofMachine) (As := [vR a1, vI a12, vI (5 : Int32)]) (rest := [vR a1]) ok hse.1 (c_La_ofMachine hse.2 hc399) cm_La_ofMachine cs_La_ofMachine tw_649 ⟨rfl, rfl⟩ ⟨le_t rfl, le_t rfl⟩ ⟨rfl, le_t rfl⟩ ⟨(by show _ ≤ 600086; omega), (by show _ ≤ 7301442; omega)⟩ ⟨trivial, ⟨trivial, ⟨(rk_of hk393), ⟨(rk_rl hn395), ⟨(rk_rl hn397), ⟨trivial, ⟨trivial, ⟨trivial, ⟨trivial, trivial⟩⟩⟩⟩⟩⟩⟩⟩⟩ ⟨(rk_of hk393), trivial⟩ d_La_law_879 rfl (fun m398 => ?_)
      show G X s400 (ce0 + 1) (sl0 + 6) 882 [(6, vI t0), (0, vW (Value.ref b)), (1, vR a1), (2, vR a2), (3, vR a3), (4, vI a4), (5, vI a5), (8, vI a8), (14, vL a14)] [vL x401, vR a1]
      refine g_l2i ok d_La_law_882 ?_
      refine g_iconst (v := (3 : Int32)) ok d_La_law_883 (by decide) ?_
      obtain ⟨n402, hn403, h⟩ := bnd_go h
      obtain ⟨n404, hn405, h⟩ := bnd_go h
      obtain ⟨x409, s408, hc407, h⟩ := bnd2_go h
      refine g_callW (rm2 := rm_La_ofPath) (As := [vR a1, vI (Int64.toInt32 x401), vI (3 : Int32)]) (rest := []) ok hse.1 (c_La_ofPath hse.2 hc407) cm_La_ofPath cs_La_ofPath tw_657 ⟨rfl, rfl⟩ ⟨le_t rfl, le_t rfl⟩ ⟨rfl, le_t rfl⟩ ⟨(by show _ ≤ 600086; omega), (by show _ ≤ 7301442; omega)⟩ ⟨trivial, ⟨trivial, ⟨(rk_of (rf_mono m398 hk393)), ⟨(rk_rl hn403), ⟨(rk_rl hn405), ⟨trivial, ⟨trivial, ⟨trivial, ⟨trivial, trivial⟩⟩⟩⟩⟩⟩⟩⟩⟩ trivial d_La_law_884 rfl (fun m406 => ?_)
      show G X s408 ((ce0 + 1) + 1) ((sl0 + 6) + 6) 887 [(6, vI t0), (0, vW (Value.ref b)), (1, vR a1), (2, vR a2), (3, vR a3), (4, vI a4), (5, vI a5), (8, vI a8), (14, vL a14)] [vL x409]
      refine g_lload (i := 14) 8 ok d_La_law_887 rfl ?_
      refine g_lcmp ok d_La_law_889 ?_
      refine g_if_ne (tgt := 897) ok d_La_law_890 (by decide) (fun c410 => ?_) (fun c410 => ?_)
      · replace h := (if_pos c410).symm.trans h
        refine g_sub [1, 2, 3, 4, 5, 6, 0, 7] rfl ?_
        exact w_j_La_law_893 ok hse ht (by omega) (by omega) hB1 hB2 hexit hrec (fun z hz => m406 z ((fun z hz => m398 z (mb z hz)) z hz)) h hk
      · replace h := (if_neg c410).symm.trans h
        refine g_sub [1, 2, 3, 4, 5, 6, 0, 7] rfl ?_
        exact w_j_La_law_897 ok hse ht (by omega) (by omega) hB1 hB2 hexit hrec (fun z hz => m406 z ((fun z hz => m398 z (mb z hz)) z hz)) h hk
set_option maxRecDepth 100000 in
set_option maxHeartbeats 4000000 in
theorem w_j_La_law_853 {X : CX} {KX : Int32 × MS → Prop} {b L : Nat} {xs : Nat → Int32}  {a1 : Option Nat} {a2 : Option Nat} {a3 : Option Nat} {a4 : Int32} {a5 : Int32} {a8 : Int32} {a12 : Int32} {a13 : Int32} {a14 : Int64} {s : MS} {rec : Int32 → Int32 → Int32 → Int32 → Int32 → MS → Option (Int32 × MS)} {sb : MS} {ce0 sl0 cB sB : Nat} (ok : Ok X code RL rm_La_law 19 true) (hse : SE X.2.2.2.1 X.1.2.2.2.2.1 ∧ X.1.2.1.stackTraces = false) (ht : Sc X b L xs) (hc1 : ce0 + 7568 ≤ cB) (hc2 : sl0 + 45721 ≤ sB) (hB1 : cB ≤ 600086) (hB2 : sB ≤ 7301442) (hexit : ∀ (e7 : Int32) (z : MS), KX (e7, z) → (∀ q, dm sb q → dm z q) → G X z cB sB 1121 [(0, vW (Value.ref b)), (7, vI e7)] []) (hrec : ∀ (v4 : Int32) (v5 : Int32) (v6 : Int32) (v7 : Int32) (v8 : Int32) (z : MS), (∀ q, dm sb q → dm z q) → ∀ y, rec v4 v5 v6 v7 v8 z = some y → KX y → G X z cB sB 195 [(0, vW (Value.ref b)), (1, vR a1), (2, vR a2), (3, vR a3), (4, vI v4), (5, vI v5), (6, vI v6), (7, vI v7), (8, vI v8)] []) (mb : ∀ q, dm sb q → dm s q) {res : Int32 × MS} (h : j_La_law_853 L xs a1 a2 a3 a4 a5 a8 a12 a13 a14 s rec = some res) (hk : KX res) : G X s ce0 sl0 853 [(0, vW (Value.ref b)), (1, vR a1), (2, vR a2), (3, vR a3), (4, vI a4), (5, vI a5), (8, vI a8), (12, vI a12), (13, vI a13), (14, vL a14)] [] := by
  unfold j_La_law_853 at h
  refine g_iconst (v := (1 : Int32)) ok d_La_law_853 (by decide) ?_
  refine g_goto (tgt := 858) ok d_La_law_854 (by decide) ?_
  exact w_j_La_law_858 ok hse ht (by omega) (by omega) hB1 hB2 hexit hrec mb h hk
set_option maxRecDepth 100000 in
set_option maxHeartbeats 4000000 in
theorem w_j_La_law_821 {X : CX} {KX : Int32 × MS → Prop} {b L : Nat} {xs : Nat → Int32}  {a1 : Option Nat} {a2 : Option Nat} {a3 : Option Nat} {a4 : Int32} {a5 : Int32} {a6 : Int32} {a8 : Int32} {a10 : Int32} {a12 : Int32} {t0 : Int32} {s : MS} {rec : Int32 → Int32 → Int32 → Int32 → Int32 → MS → Option (Int32 × MS)} {sb : MS} {ce0 sl0 cB sB : Nat} (ok : Ok X code RL rm_La_law 19 true) (hse : SE X.2.2.2.1 X.1.2.2.2.2.1 ∧ X.1.2.1.stackTraces = false) (ht : Sc X b L xs) (hc1 : ce0 + 7569 ≤ cB) (hc2 : sl0 + 45727 ≤ sB) (hB1 : cB ≤ 600086) (hB2 : sB ≤ 7301442) (hexit : ∀ (e7 : Int32) (z : MS), KX (e7, z) → (∀ q, dm sb q → dm z q) → G X z cB sB 1121 [(0, vW (Value.ref b)), (7, vI e7)] []) (hrec : ∀ (v4 : Int32) (v5 : Int32) (v6 : Int32) (v7 : Int32) (v8 : Int32) (z : MS), (∀ q, dm sb q → dm z q) → ∀ y, rec v4 v5 v6 v7 v8 z = some y → KX y → G X z cB sB 195 [(0, vW (Value.ref b)), (1, vR a1), (2, vR a2), (3, vR a3), (4, vI v4), (5, vI v5), (6, vI v6), (7, vI v7), (8, vI v8)] []) (mb : ∀ q, dm sb q → dm s q) {res : Int32 × MS} (h : j_La_law_821 L xs a1 a2 a3 a4 a5 a6 a8 a10 a12 t0 s rec = some res) (hk : KX res) : G X s ce0 sl0 821 [(0, vW (Value.ref b)), (1, vR a1), (2, vR a2), (3, vR a3), (4, vI a4), (5, vI a5), (6, vI a6), (8, vI a8), (10, vI a10), (12, vI a12)] [vI t0] := by
  unfold j_La_law_821 at h
  refine g_istore (i := 13) [(13, vI t0), (0, vW (Value.ref b)), (1, vR a1), (2, vR a2), (3, vR a3), (4, vI a4), (5, vI a5), (6, vI a6), (8, vI a8), (10, vI a10), (12, vI a12)] ok d_La_law_821 (by decide) rfl ?_
  refine g_aload_n (i := 1) 2 ok d_La_law_823 rfl rfl ?_
  refine g_iload (i := 12) 10 ok d_La_law_824 rfl ?_
  refine g_iconst (v := (1 : Int32)) ok d_La_law_826 (by decide) ?_
  refine g_iload (i := 10) 9 ok d_La_law_827 rfl ?_
  refine g_bipush (v := (16 : Int32)) ok d_La_law_829 (by decide) ?_
  refine g_idiv ok d_La_law_831 (by decide) ?_
  refine g_bipush (v := (10 : Int32)) ok d_La_law_832 (by decide) ?_
  refine g_irem ok d_La_law_834 (by decide) ?_
  refine g_iadd ok d_La_law_835 ?_
  refine g_sub [0, 1, 2, 3, 4, 5, 6, 7, 8, 10] rfl ?_
  obtain ⟨k378, hk379, h⟩ := bnd_go h
  obtain ⟨n380, hn381, h⟩ := bnd_go h
  obtain ⟨n382, hn383, h⟩ := bnd_go h
  obtain ⟨x387, s386, hc385, h⟩ := bnd2_go h
  refine g_callW (rm2 := rm_La_hold) (As := [vR a1, vI a12, vI ((1 : Int32) + ((a10 / (16 : Int32)) - (a10 / (16 : Int32)) / (10 : Int32) * (10 : Int32)))]) (rest := []) ok hse.1 (c_La_hold hse.2 hc385) cm_La_hold cs_La_hold tw_627 ⟨rfl, rfl⟩ ⟨le_t rfl, le_t rfl⟩ ⟨rfl, le_t rfl⟩ ⟨(by show _ ≤ 600086; omega), (by show _ ≤ 7301442; omega)⟩ ⟨trivial, ⟨trivial, ⟨(rk_of hk379), ⟨(rk_rl hn381), ⟨(rk_rl hn383), ⟨trivial, ⟨trivial, ⟨trivial, ⟨trivial, ⟨trivial, trivial⟩⟩⟩⟩⟩⟩⟩⟩⟩⟩ trivial d_La_law_836 rfl (fun m384 => ?_)
  show G X s386 (ce0 + 1) (sl0 + 6) 839 [(13, vI t0), (0, vW (Value.ref b)), (1, vR a1), (2, vR a2), (3, vR a3), (4, vI a4), (5, vI a5), (6, vI a6), (8, vI a8), (12, vI a12)] [vL x387]
  refine g_lstore (i := 14) [(14, vL x387), (13, vI t0), (0, vW (Value.ref b)), (1, vR a1), (2, vR a2), (3, vR a3), (4, vI a4), (5, vI a5), (6, vI a6), (8, vI a8), (12, vI a12)] ok d_La_law_839 (by decide) rfl ?_
  refine g_iload (i := 6) 8 ok d_La_law_841 rfl ?_
  refine g_if_ne (tgt := 853) ok d_La_law_843 (by decide) (fun c388 => ?_) (fun c388 => ?_)
  · replace h := (if_pos c388).symm.trans h
    refine g_lload (i := 14) 0 ok d_La_law_846 rfl ?_
    refine g_lconst (v := (0 : Int64)) ok d_La_law_848 (by decide) ?_
    refine g_lcmp ok d_La_law_849 ?_
    refine g_if_lt (tgt := 857) ok d_La_law_850 (by decide) (fun c389 => ?_) (fun c389 => ?_)
    · replace h := (if_pos c389).symm.trans h
      refine g_iconst (v := (0 : Int32)) ok d_La_law_857 (by decide) ?_
      refine g_sub [2, 3, 4, 5, 6, 7, 9, 10, 1, 0] rfl ?_
      exact w_j_La_law_858 ok hse ht (by omega) (by omega) hB1 hB2 hexit hrec (fun z hz => m384 z (mb z hz)) h hk
    · replace h := (if_neg c389).symm.trans h
      refine g_sub [2, 3, 4, 5, 6, 7, 9, 10, 1, 0] rfl ?_
      exact w_j_La_law_853 ok hse ht (by omega) (by omega) hB1 hB2 hexit hrec (fun z hz => m384 z (mb z hz)) h hk
  · replace h := (if_neg c388).symm.trans h
    refine g_sub [2, 3, 4, 5, 6, 7, 9, 10, 1, 0] rfl ?_
    exact w_j_La_law_853 ok hse ht (by omega) (by omega) hB1 hB2 hexit hrec (fun z hz => m384 z (mb z hz)) h hk
set_option maxRecDepth 100000 in
set_option maxHeartbeats 4000000 in
theorem w_j_La_law_820 {X : CX} {KX : Int32 × MS → Prop} {b L : Nat} {xs : Nat → Int32}  {a1 : Option Nat} {a2 : Option Nat} {a3 : Option Nat} {a4 : Int32} {a5 : Int32} {a6 : Int32} {a8 : Int32} {a10 : Int32} {a12 : Int32} {s : MS} {rec : Int32 → Int32 → Int32 → Int32 → Int32 → MS → Option (Int32 × MS)} {sb : MS} {ce0 sl0 cB sB : Nat} (ok : Ok X code RL rm_La_law 19 true) (hse : SE X.2.2.2.1 X.1.2.2.2.2.1 ∧ X.1.2.1.stackTraces = false) (ht : Sc X b L xs) (hc1 : ce0 + 7569 ≤ cB) (hc2 : sl0 + 45727 ≤ sB) (hB1 : cB ≤ 600086) (hB2 : sB ≤ 7301442) (hexit : ∀ (e7 : Int32) (z : MS), KX (e7, z) → (∀ q, dm sb q → dm z q) → G X z cB sB 1121 [(0, vW (Value.ref b)), (7, vI e7)] []) (hrec : ∀ (v4 : Int32) (v5 : Int32) (v6 : Int32) (v7 : Int32) (v8 : Int32) (z : MS), (∀ q, dm sb q → dm z q) → ∀ y, rec v4 v5 v6 v7 v8 z = some y → KX y → G X z cB sB 195 [(0, vW (Value.ref b)), (1, vR a1), (2, vR a2), (3, vR a3), (4, vI v4), (5, vI v5), (6, vI v6), (7, vI v7), (8, vI v8)] []) (mb : ∀ q, dm sb q → dm s q) {res : Int32 × MS} (h : j_La_law_820 L xs a1 a2 a3 a4 a5 a6 a8 a10 a12 s rec = some res) (hk : KX res) : G X s ce0 sl0 820 [(0, vW (Value.ref b)), (1, vR a1), (2, vR a2), (3, vR a3), (4, vI a4), (5, vI a5), (6, vI a6), (8, vI a8), (10, vI a10), (12, vI a12)] [] := by
  unfold j_La_law_820 at h
  refine g_iconst (v := (0 : Int32)) ok d_La_law_820 (by decide) ?_
  exact w_j_La_law_821 ok hse ht (by omega) (by omega) hB1 hB2 hexit hrec mb h hk
set_option maxRecDepth 100000 in
set_option maxHeartbeats 4000000 in
theorem w_j_La_law_1029 {X : CX} {KX : Int32 × MS → Prop} {b L : Nat} {xs : Nat → Int32}  {a1 : Option Nat} {a2 : Option Nat} {a3 : Option Nat} {a4 : Int32} {a5 : Int32} {a6 : Int32} {a8 : Int32} {t0 : Int32} {s : MS} {rec : Int32 → Int32 → Int32 → Int32 → Int32 → MS → Option (Int32 × MS)} {sb : MS} {ce0 sl0 cB sB : Nat} (ok : Ok X code RL rm_La_law 19 true) (hse : SE X.2.2.2.1 X.1.2.2.2.2.1 ∧ X.1.2.1.stackTraces = false) (ht : Sc X b L xs) (hc1 : ce0 + 7566 ≤ cB) (hc2 : sl0 + 45709 ≤ sB) (hB1 : cB ≤ 600086) (hB2 : sB ≤ 7301442) (hexit : ∀ (e7 : Int32) (z : MS), KX (e7, z) → (∀ q, dm sb q → dm z q) → G X z cB sB 1121 [(0, vW (Value.ref b)), (7, vI e7)] []) (hrec : ∀ (v4 : Int32) (v5 : Int32) (v6 : Int32) (v7 : Int32) (v8 : Int32) (z : MS), (∀ q, dm sb q → dm z q) → ∀ y, rec v4 v5 v6 v7 v8 z = some y → KX y → G X z cB sB 195 [(0, vW (Value.ref b)), (1, vR a1), (2, vR a2), (3, vR a3), (4, vI v4), (5, vI v5), (6, vI v6), (7, vI v7), (8, vI v8)] []) (mb : ∀ q, dm sb q → dm s q) {res : Int32 × MS} (h : j_La_law_1029 L xs a1 a2 a3 a4 a5 a6 a8 t0 s rec = some res) (hk : KX res) : G X s ce0 sl0 1029 [(0, vW (Value.ref b)), (1, vR a1), (2, vR a2), (3, vR a3), (4, vI a4), (5, vI a5), (6, vI a6), (8, vI a8)] [vI t0] := by
  unfold j_La_law_1029 at h
  refine g_istore (i := 7) [(7, vI t0), (0, vW (Value.ref b)), (1, vR a1), (2, vR a2), (3, vR a3), (4, vI a4), (5, vI a5), (6, vI a6), (8, vI a8)] ok d_La_law_1029 (by decide) rfl ?_
  refine g_sub [1, 2, 3, 4, 5, 6, 7, 0, 8] rfl ?_
  exact w_j_La_law_1031 ok hse ht (by omega) (by omega) hB1 hB2 hexit hrec mb h hk
set_option maxRecDepth 100000 in
set_option maxHeartbeats 4000000 in
theorem w_j_La_law_1028 {X : CX} {KX : Int32 × MS → Prop} {b L : Nat} {xs : Nat → Int32}  {a1 : Option Nat} {a2 : Option Nat} {a3 : Option Nat} {a4 : Int32} {a5 : Int32} {a6 : Int32} {a8 : Int32} {s : MS} {rec : Int32 → Int32 → Int32 → Int32 → Int32 → MS → Option (Int32 × MS)} {sb : MS} {ce0 sl0 cB sB : Nat} (ok : Ok X code RL rm_La_law 19 true) (hse : SE X.2.2.2.1 X.1.2.2.2.2.1 ∧ X.1.2.1.stackTraces = false) (ht : Sc X b L xs) (hc1 : ce0 + 7566 ≤ cB) (hc2 : sl0 + 45709 ≤ sB) (hB1 : cB ≤ 600086) (hB2 : sB ≤ 7301442) (hexit : ∀ (e7 : Int32) (z : MS), KX (e7, z) → (∀ q, dm sb q → dm z q) → G X z cB sB 1121 [(0, vW (Value.ref b)), (7, vI e7)] []) (hrec : ∀ (v4 : Int32) (v5 : Int32) (v6 : Int32) (v7 : Int32) (v8 : Int32) (z : MS), (∀ q, dm sb q → dm z q) → ∀ y, rec v4 v5 v6 v7 v8 z = some y → KX y → G X z cB sB 195 [(0, vW (Value.ref b)), (1, vR a1), (2, vR a2), (3, vR a3), (4, vI v4), (5, vI v5), (6, vI v6), (7, vI v7), (8, vI v8)] []) (mb : ∀ q, dm sb q → dm s q) {res : Int32 × MS} (h : j_La_law_1028 L xs a1 a2 a3 a4 a5 a6 a8 s rec = some res) (hk : KX res) : G X s ce0 sl0 1028 [(0, vW (Value.ref b)), (1, vR a1), (2, vR a2), (3, vR a3), (4, vI a4), (5, vI a5), (6, vI a6), (8, vI a8)] [] := by
  unfold j_La_law_1028 at h
  refine g_iconst (v := (0 : Int32)) ok d_La_law_1028 (by decide) ?_
  exact w_j_La_law_1029 ok hse ht (by omega) (by omega) hB1 hB2 hexit hrec mb h hk
set_option maxRecDepth 100000 in
set_option maxHeartbeats 4000000 in
theorem w_j_La_law_1007 {X : CX} {KX : Int32 × MS → Prop} {b L : Nat} {xs : Nat → Int32}  {a1 : Option Nat} {a2 : Option Nat} {a3 : Option Nat} {a4 : Int32} {a5 : Int32} {a6 : Int32} {a8 : Int32} {t0 : Int32} {s : MS} {rec : Int32 → Int32 → Int32 → Int32 → Int32 → MS → Option (Int32 × MS)} {sb : MS} {ce0 sl0 cB sB : Nat} (ok : Ok X code RL rm_La_law 19 true) (hse : SE X.2.2.2.1 X.1.2.2.2.2.1 ∧ X.1.2.1.stackTraces = false) (ht : Sc X b L xs) (hc1 : ce0 + 7566 ≤ cB) (hc2 : sl0 + 45709 ≤ sB) (hB1 : cB ≤ 600086) (hB2 : sB ≤ 7301442) (hexit : ∀ (e7 : Int32) (z : MS), KX (e7, z) → (∀ q, dm sb q → dm z q) → G X z cB sB 1121 [(0, vW (Value.ref b)), (7, vI e7)] []) (hrec : ∀ (v4 : Int32) (v5 : Int32) (v6 : Int32) (v7 : Int32) (v8 : Int32) (z : MS), (∀ q, dm sb q → dm z q) → ∀ y, rec v4 v5 v6 v7 v8 z = some y → KX y → G X z cB sB 195 [(0, vW (Value.ref b)), (1, vR a1), (2, vR a2), (3, vR a3), (4, vI v4), (5, vI v5), (6, vI v6), (7, vI v7), (8, vI v8)] []) (mb : ∀ q, dm sb q → dm s q) {res : Int32 × MS} (h : j_La_law_1007 L xs a1 a2 a3 a4 a5 a6 a8 t0 s rec = some res) (hk : KX res) : G X s ce0 sl0 1007 [(0, vW (Value.ref b)), (1, vR a1), (2, vR a2), (3, vR a3), (4, vI a4), (5, vI a5), (6, vI a6), (8, vI a8)] [vI t0] := by
  unfold j_La_law_1007 at h
  refine g_istore (i := 7) [(7, vI t0), (0, vW (Value.ref b)), (1, vR a1), (2, vR a2), (3, vR a3), (4, vI a4), (5, vI a5), (6, vI a6), (8, vI a8)] ok d_La_law_1007 (by decide) rfl ?_
  refine g_iload (i := 7) 0 ok d_La_law_1009 rfl ?_
  refine g_if_eq (tgt := 1028) ok d_La_law_1011 (by decide) (fun c446 => ?_) (fun c446 => ?_)
  · replace h := (if_pos c446).symm.trans h
    refine g_sub [1, 2, 3, 4, 5, 6, 7, 8] rfl ?_
    exact w_j_La_law_1028 ok hse ht (by omega) (by omega) hB1 hB2 hexit hrec mb h hk
  · replace h := (if_neg c446).symm.trans h
    refine g_aload_n (i := 1) 2 ok d_La_law_1014 rfl rfl ?_
    obtain ⟨k447, hk448, h⟩ := bnd_go h
    obtain ⟨x450, hc451, h⟩ := bnd_go h
    refine g_invV (rm2 := rm_Sk_alerts) (As := []) (rest := []) ok hk448 lay_0 rfl (c_Sk_alerts X.1.2.1 (rf_self hk448) hc451) cm_Sk_alerts cv_Sk_alerts tw_137 ⟨rfl, rfl⟩ ⟨le_t rfl, le_t rfl⟩ ⟨rfl, le_t rfl⟩ ⟨(by show _ ≤ 600086; omega), (by show _ ≤ 7301442; omega)⟩ d_La_law_1015 rfl (fun m449 => ?_)
    show G X s ce0 sl0 1018 [(7, vI t0), (0, vW (Value.ref b)), (1, vR a1), (2, vR a2), (3, vR a3), (4, vI a4), (5, vI a5), (6, vI a6), (8, vI a8)] [vI x450]
    refine g_iload (i := 4) 5 ok d_La_law_1018 rfl ?_
    refine g_ishr ok d_La_law_1020 ?_
    refine g_if_ne (tgt := 1028) ok d_La_law_1021 (by decide) (fun c452 => ?_) (fun c452 => ?_)
    · replace h := (if_pos c452).symm.trans h
      refine g_iconst (v := (1 : Int32)) ok d_La_law_1024 (by decide) ?_
      refine g_goto (tgt := 1029) ok d_La_law_1025 (by decide) ?_
      refine g_sub [1, 2, 3, 4, 5, 6, 7, 8] rfl ?_
      exact w_j_La_law_1029 ok hse ht (by omega) (by omega) hB1 hB2 hexit hrec mb h hk
    · replace h := (if_neg c452).symm.trans h
      refine g_sub [1, 2, 3, 4, 5, 6, 7, 8] rfl ?_
      exact w_j_La_law_1028 ok hse ht (by omega) (by omega) hB1 hB2 hexit hrec mb h hk
set_option maxRecDepth 100000 in
set_option maxHeartbeats 4000000 in
theorem w_j_La_law_1002 {X : CX} {KX : Int32 × MS → Prop} {b L : Nat} {xs : Nat → Int32}  {a1 : Option Nat} {a2 : Option Nat} {a3 : Option Nat} {a4 : Int32} {a5 : Int32} {a6 : Int32} {a8 : Int32} {s : MS} {rec : Int32 → Int32 → Int32 → Int32 → Int32 → MS → Option (Int32 × MS)} {sb : MS} {ce0 sl0 cB sB : Nat} (ok : Ok X code RL rm_La_law 19 true) (hse : SE X.2.2.2.1 X.1.2.2.2.2.1 ∧ X.1.2.1.stackTraces = false) (ht : Sc X b L xs) (hc1 : ce0 + 7566 ≤ cB) (hc2 : sl0 + 45709 ≤ sB) (hB1 : cB ≤ 600086) (hB2 : sB ≤ 7301442) (hexit : ∀ (e7 : Int32) (z : MS), KX (e7, z) → (∀ q, dm sb q → dm z q) → G X z cB sB 1121 [(0, vW (Value.ref b)), (7, vI e7)] []) (hrec : ∀ (v4 : Int32) (v5 : Int32) (v6 : Int32) (v7 : Int32) (v8 : Int32) (z : MS), (∀ q, dm sb q → dm z q) → ∀ y, rec v4 v5 v6 v7 v8 z = some y → KX y → G X z cB sB 195 [(0, vW (Value.ref b)), (1, vR a1), (2, vR a2), (3, vR a3), (4, vI v4), (5, vI v5), (6, vI v6), (7, vI v7), (8, vI v8)] []) (mb : ∀ q, dm sb q → dm s q) {res : Int32 × MS} (h : j_La_law_1002 L xs a1 a2 a3 a4 a5 a6 a8 s rec = some res) (hk : KX res) : G X s ce0 sl0 1002 [(0, vW (Value.ref b)), (1, vR a1), (2, vR a2), (3, vR a3), (4, vI a4), (5, vI a5), (6, vI a6), (8, vI a8)] [] := by
  unfold j_La_law_1002 at h
  refine g_iconst (v := (1 : Int32)) ok d_La_law_1002 (by decide) ?_
  refine g_goto (tgt := 1007) ok d_La_law_1003 (by decide) ?_
  exact w_j_La_law_1007 ok hse ht (by omega) (by omega) hB1 hB2 hexit hrec mb h hk
set_option maxRecDepth 100000 in
set_option maxHeartbeats 4000000 in
theorem w_j_La_law_1006 {X : CX} {KX : Int32 × MS → Prop} {b L : Nat} {xs : Nat → Int32}  {a1 : Option Nat} {a2 : Option Nat} {a3 : Option Nat} {a4 : Int32} {a5 : Int32} {a6 : Int32} {a8 : Int32} {s : MS} {rec : Int32 → Int32 → Int32 → Int32 → Int32 → MS → Option (Int32 × MS)} {sb : MS} {ce0 sl0 cB sB : Nat} (ok : Ok X code RL rm_La_law 19 true) (hse : SE X.2.2.2.1 X.1.2.2.2.2.1 ∧ X.1.2.1.stackTraces = false) (ht : Sc X b L xs) (hc1 : ce0 + 7566 ≤ cB) (hc2 : sl0 + 45709 ≤ sB) (hB1 : cB ≤ 600086) (hB2 : sB ≤ 7301442) (hexit : ∀ (e7 : Int32) (z : MS), KX (e7, z) → (∀ q, dm sb q → dm z q) → G X z cB sB 1121 [(0, vW (Value.ref b)), (7, vI e7)] []) (hrec : ∀ (v4 : Int32) (v5 : Int32) (v6 : Int32) (v7 : Int32) (v8 : Int32) (z : MS), (∀ q, dm sb q → dm z q) → ∀ y, rec v4 v5 v6 v7 v8 z = some y → KX y → G X z cB sB 195 [(0, vW (Value.ref b)), (1, vR a1), (2, vR a2), (3, vR a3), (4, vI v4), (5, vI v5), (6, vI v6), (7, vI v7), (8, vI v8)] []) (mb : ∀ q, dm sb q → dm s q) {res : Int32 × MS} (h : j_La_law_1006 L xs a1 a2 a3 a4 a5 a6 a8 s rec = some res) (hk : KX res) : G X s ce0 sl0 1006 [(0, vW (Value.ref b)), (1, vR a1), (2, vR a2), (3, vR a3), (4, vI a4), (5, vI a5), (6, vI a6), (8, vI a8)] [] := by
  unfold j_La_law_1006 at h
  refine g_iconst (v := (0 : Int32)) ok d_La_law_1006 (by decide) ?_
  exact w_j_La_law_1007 ok hse ht (by omega) (by omega) hB1 hB2 hexit hrec mb h hk
set_option maxRecDepth 100000 in
set_option maxHeartbeats 4000000 in
theorem w_j_La_law_963 {X : CX} {KX : Int32 × MS → Prop} {b L : Nat} {xs : Nat → Int32}  {a1 : Option Nat} {a2 : Option Nat} {a3 : Option Nat} {a4 : Int32} {a5 : Int32} {a6 : Int32} {a8 : Int32} {a12 : Int32} {a13 : Int32} {t0 : Int64} {s : MS} {rec : Int32 → Int32 → Int32 → Int32 → Int32 → MS → Option (Int32 × MS)} {sb : MS} {ce0 sl0 cB sB : Nat} (ok : Ok X code RL rm_La_law 19 true) (hse : SE X.2.2.2.1 X.1.2.2.2.2.1 ∧ X.1.2.1.stackTraces = false) (ht : Sc X b L xs) (hc1 : ce0 + 7567 ≤ cB) (hc2 : sl0 + 45715 ≤ sB) (hB1 : cB ≤ 600086) (hB2 : sB ≤ 7301442) (hexit : ∀ (e7 : Int32) (z : MS), KX (e7, z) → (∀ q, dm sb q → dm z q) → G X z cB sB 1121 [(0, vW (Value.ref b)), (7, vI e7)] []) (hrec : ∀ (v4 : Int32) (v5 : Int32) (v6 : Int32) (v7 : Int32) (v8 : Int32) (z : MS), (∀ q, dm sb q → dm z q) → ∀ y, rec v4 v5 v6 v7 v8 z = some y → KX y → G X z cB sB 195 [(0, vW (Value.ref b)), (1, vR a1), (2, vR a2), (3, vR a3), (4, vI v4), (5, vI v5), (6, vI v6), (7, vI v7), (8, vI v8)] []) (mb : ∀ q, dm sb q → dm s q) {res : Int32 × MS} (h : j_La_law_963 L xs a1 a2 a3 a4 a5 a6 a8 a12 a13 t0 s rec = some res) (hk : KX res) : G X s ce0 sl0 963 [(0, vW (Value.ref b)), (1, vR a1), (2, vR a2), (3, vR a3), (4, vI a4), (5, vI a5), (6, vI a6), (8, vI a8), (12, vI a12), (13, vI a13)] [vL t0] := by
  unfold j_La_law_963 at h
  refine g_lstore (i := 14) [(14, vL t0), (0, vW (Value.ref b)), (1, vR a1), (2, vR a2), (3, vR a3), (4, vI a4), (5, vI a5), (6, vI a6), (8, vI a8), (12, vI a12), (13, vI a13)] ok d_La_law_963 (by decide) rfl ?_
  refine g_lload (i := 14) 0 ok d_La_law_965 rfl ?_
  refine g_ldc2 (v := (-9000000000000000003 : Int64)) ok d_La_law_967 tw_317 ?_
  refine g_lcmp ok d_La_law_970 ?_
  refine g_if_eq (tgt := 1002) ok d_La_law_971 (by decide) (fun c445 => ?_) (fun c445 => ?_)
  · replace h := (if_pos c445).symm.trans h
    refine g_sub [1, 2, 3, 4, 5, 6, 7, 8] rfl ?_
    exact w_j_La_law_1002 ok hse ht (by omega) (by omega) hB1 hB2 hexit hrec mb h hk
  · replace h := (if_neg c445).symm.trans h
    refine g_iload (i := 13) 10 ok d_La_law_974 rfl ?_
    refine g_if_eq (tgt := 1006) ok d_La_law_976 (by decide) (fun c453 => ?_) (fun c453 => ?_)
    · replace h := (if_pos c453).symm.trans h
      refine g_sub [1, 2, 3, 4, 5, 6, 7, 8] rfl ?_
      exact w_j_La_law_1006 ok hse ht (by omega) (by omega) hB1 hB2 hexit hrec mb h hk
    · replace h := (if_neg c453).symm.trans h
      refine g_aload_n (i := 2) 3 ok d_La_law_979 rfl rfl ?_
      refine g_lload (i := 14) 0 ok d_La_law_980 rfl ?_
      obtain ⟨x455, hc456, h⟩ := bnd_go h
      refine g_invS (rm2 := rm_La_isSpot) (As := [vR a2, vL t0]) (rest := []) ok (c_La_isSpot X.1.2.1 hc456) cm_La_isSpot cs_La_isSpot tw_680 ⟨rfl, rfl⟩ ⟨le_t rfl, le_t rfl⟩ ⟨rfl, le_t rfl⟩ ⟨(by show _ ≤ 600086; omega), (by show _ ≤ 7301442; omega)⟩ d_La_law_982 rfl (fun m454 => ?_)
      show G X s ce0 sl0 985 [(14, vL t0), (0, vW (Value.ref b)), (1, vR a1), (2, vR a2), (3, vR a3), (4, vI a4), (5, vI a5), (6, vI a6), (8, vI a8), (12, vI a12), (13, vI a13)] [vI x455]
      refine g_if_eq (tgt := 1006) ok d_La_law_985 (by decide) (fun c457 => ?_) (fun c457 => ?_)
      · replace h := (if_pos c457).symm.trans h
        refine g_sub [1, 2, 3, 4, 5, 6, 7, 8] rfl ?_
        exact w_j_La_law_1006 ok hse ht (by omega) (by omega) hB1 hB2 hexit hrec mb h hk
      · replace h := (if_neg c457).symm.trans h
        refine g_aload_n (i := 1) 2 ok d_La_law_988 rfl rfl ?_
        refine g_iload (i := 12) 9 ok d_La_law_989 rfl ?_
        refine g_iconst (v := (0 : Int32)) ok d_La_law_991 (by decide) ?_
        refine g_sub [1, 2, 3, 4, 5, 6, 7, 8] rfl ?_
        obtain ⟨k458, hk459, h⟩ := bnd_go h
        obtain ⟨n460, hn461, h⟩ := bnd_go h
        obtain ⟨n462, hn463, h⟩ := bnd_go h
        obtain ⟨x467, s466, hc465, h⟩ := bnd2_go h
        refine g_callW (rm2 := rm_La_ofMachine) (As := [vR a1, vI a12, vI (0 : Int32)]) (rest := []) ok hse.1 (c_La_ofMachine hse.2 hc465) cm_La_ofMachine cs_La_ofMachine tw_649 ⟨rfl, rfl⟩ ⟨le_t rfl, le_t rfl⟩ ⟨rfl, le_t rfl⟩ ⟨(by show _ ≤ 600086; omega), (by show _ ≤ 7301442; omega)⟩ ⟨trivial, ⟨(rk_of hk459), ⟨(rk_rl hn461), ⟨(rk_rl hn463), ⟨trivial, ⟨trivial, ⟨trivial, ⟨trivial, trivial⟩⟩⟩⟩⟩⟩⟩⟩ trivial d_La_law_992 rfl (fun m464 => ?_)
        show G X s466 (ce0 + 1) (sl0 + 6) 995 [(0, vW (Value.ref b)), (1, vR a1), (2, vR a2), (3, vR a3), (4, vI a4), (5, vI a5), (6, vI a6), (8, vI a8)] [vL x467]
        refine g_ldc2 (v := (2 : Int64)) ok d_La_law_995 tw_688 ?_
        refine g_lcmp ok d_La_law_998 ?_
        refine g_if_ne (tgt := 1006) ok d_La_law_999 (by decide) (fun c468 => ?_) (fun c468 => ?_)
        · replace h := (if_pos c468).symm.trans h
          exact w_j_La_law_1002 ok hse ht (by omega) (by omega) hB1 hB2 hexit hrec (fun z hz => m464 z (mb z hz)) h hk
        · replace h := (if_neg c468).symm.trans h
          exact w_j_La_law_1006 ok hse ht (by omega) (by omega) hB1 hB2 hexit hrec (fun z hz => m464 z (mb z hz)) h hk
set_option maxRecDepth 100000 in
set_option maxHeartbeats 4000000 in
theorem w_j_La_law_939 {X : CX} {KX : Int32 × MS → Prop} {b L : Nat} {xs : Nat → Int32}  {a1 : Option Nat} {a2 : Option Nat} {a3 : Option Nat} {a4 : Int32} {a5 : Int32} {a6 : Int32} {a8 : Int32} {a10 : Int32} {a12 : Int32} {t0 : Int32} {s : MS} {rec : Int32 → Int32 → Int32 → Int32 → Int32 → MS → Option (Int32 × MS)} {sb : MS} {ce0 sl0 cB sB : Nat} (ok : Ok X code RL rm_La_law 19 true) (hse : SE X.2.2.2.1 X.1.2.2.2.2.1 ∧ X.1.2.1.stackTraces = false) (ht : Sc X b L xs) (hc1 : ce0 + 7568 ≤ cB) (hc2 : sl0 + 45721 ≤ sB) (hB1 : cB ≤ 600086) (hB2 : sB ≤ 7301442) (hexit : ∀ (e7 : Int32) (z : MS), KX (e7, z) → (∀ q, dm sb q → dm z q) → G X z cB sB 1121 [(0, vW (Value.ref b)), (7, vI e7)] []) (hrec : ∀ (v4 : Int32) (v5 : Int32) (v6 : Int32) (v7 : Int32) (v8 : Int32) (z : MS), (∀ q, dm sb q → dm z q) → ∀ y, rec v4 v5 v6 v7 v8 z = some y → KX y → G X z cB sB 195 [(0, vW (Value.ref b)), (1, vR a1), (2, vR a2), (3, vR a3), (4, vI v4), (5, vI v5), (6, vI v6), (7, vI v7), (8, vI v8)] []) (mb : ∀ q, dm sb q → dm s q) {res : Int32 × MS} (h : j_La_law_939 L xs a1 a2 a3 a4 a5 a6 a8 a10 a12 t0 s rec = some res) (hk : KX res) : G X s ce0 sl0 939 [(0, vW (Value.ref b)), (1, vR a1), (2, vR a2), (3, vR a3), (4, vI a4), (5, vI a5), (6, vI a6), (8, vI a8), (10, vI a10), (12, vI a12)] [vI t0] := by
  unfold j_La_law_939 at h
  refine g_istore (i := 13) [(13, vI t0), (0, vW (Value.ref b)), (1, vR a1), (2, vR a2), (3, vR a3), (4, vI a4), (5, vI a5), (6, vI a6), (8, vI a8), (10, vI a10), (12, vI a12)] ok d_La_law_939 (by decide) rfl ?_
  refine g_iload (i := 10) 9 ok d_La_law_941 rfl ?_
  refine g_bipush (v := (16 : Int32)) ok d_La_law_943 (by decide) ?_
  refine g_idiv ok d_La_law_945 (by decide) ?_
  refine g_iconst (v := (3 : Int32)) ok d_La_law_946 (by decide) ?_
  refine g_irem ok d_La_law_947 (by decide) ?_
  refine g_if_ne (tgt := 960) ok d_La_law_948 (by decide) (fun c434 => ?_) (fun c434 => ?_)
  · replace h := (if_pos c434).symm.trans h
    refine g_aload_n (i := 1) 2 ok d_La_law_951 rfl rfl ?_
    refine g_iload (i := 12) 10 ok d_La_law_952 rfl ?_
    refine g_sub [0, 1, 2, 3, 4, 5, 6, 7, 8, 10] rfl ?_
    obtain ⟨k435, hk436, h⟩ := bnd_go h
    obtain ⟨n437, hn438, h⟩ := bnd_go h
    obtain ⟨n439, hn440, h⟩ := bnd_go h
    obtain ⟨x444, s443, hc442, h⟩ := bnd2_go h
    refine g_callW (rm2 := rm_La_lose) (As := [vR a1, vI a12]) (rest := []) ok hse.1 (c_La_lose hse.2 hc442) cm_La_lose cs_La_lose tw_618 ⟨rfl, rfl⟩ ⟨le_t rfl, le_t rfl⟩ ⟨rfl, le_t rfl⟩ ⟨(by show _ ≤ 600086; omega), (by show _ ≤ 7301442; omega)⟩ ⟨trivial, ⟨trivial, ⟨(rk_of hk436), ⟨(rk_rl hn438), ⟨(rk_rl hn440), ⟨trivial, ⟨trivial, ⟨trivial, ⟨trivial, ⟨trivial, trivial⟩⟩⟩⟩⟩⟩⟩⟩⟩⟩ trivial d_La_law_954 rfl (fun m441 => ?_)
    show G X s443 (ce0 + 1) (sl0 + 6) 957 [(13, vI t0), (0, vW (Value.ref b)), (1, vR a1), (2, vR a2), (3, vR a3), (4, vI a4), (5, vI a5), (6, vI a6), (8, vI a8), (12, vI a12)] [vL x444]
    refine g_goto (tgt := 963) ok d_La_law_957 (by decide) ?_
    refine g_sub [1, 2, 3, 4, 5, 6, 7, 8, 9, 0] rfl ?_
    exact w_j_La_law_963 ok hse ht (by omega) (by omega) hB1 hB2 hexit hrec (fun z hz => m441 z (mb z hz)) h hk
  · replace h := (if_neg c434).symm.trans h
    refine g_ldc2 (v := (-9000000000000000003 : Int64)) ok d_La_law_960 tw_317 ?_
    refine g_sub [1, 2, 3, 4, 5, 6, 7, 8, 10, 0] rfl ?_
    exact w_j_La_law_963 ok hse ht (by omega) (by omega) hB1 hB2 hexit hrec mb h hk
set_option maxRecDepth 100000 in
set_option maxHeartbeats 4000000 in
theorem w_j_La_law_938 {X : CX} {KX : Int32 × MS → Prop} {b L : Nat} {xs : Nat → Int32}  {a1 : Option Nat} {a2 : Option Nat} {a3 : Option Nat} {a4 : Int32} {a5 : Int32} {a6 : Int32} {a8 : Int32} {a10 : Int32} {a12 : Int32} {s : MS} {rec : Int32 → Int32 → Int32 → Int32 → Int32 → MS → Option (Int32 × MS)} {sb : MS} {ce0 sl0 cB sB : Nat} (ok : Ok X code RL rm_La_law 19 true) (hse : SE X.2.2.2.1 X.1.2.2.2.2.1 ∧ X.1.2.1.stackTraces = false) (ht : Sc X b L xs) (hc1 : ce0 + 7568 ≤ cB) (hc2 : sl0 + 45721 ≤ sB) (hB1 : cB ≤ 600086) (hB2 : sB ≤ 7301442) (hexit : ∀ (e7 : Int32) (z : MS), KX (e7, z) → (∀ q, dm sb q → dm z q) → G X z cB sB 1121 [(0, vW (Value.ref b)), (7, vI e7)] []) (hrec : ∀ (v4 : Int32) (v5 : Int32) (v6 : Int32) (v7 : Int32) (v8 : Int32) (z : MS), (∀ q, dm sb q → dm z q) → ∀ y, rec v4 v5 v6 v7 v8 z = some y → KX y → G X z cB sB 195 [(0, vW (Value.ref b)), (1, vR a1), (2, vR a2), (3, vR a3), (4, vI v4), (5, vI v5), (6, vI v6), (7, vI v7), (8, vI v8)] []) (mb : ∀ q, dm sb q → dm s q) {res : Int32 × MS} (h : j_La_law_938 L xs a1 a2 a3 a4 a5 a6 a8 a10 a12 s rec = some res) (hk : KX res) : G X s ce0 sl0 938 [(0, vW (Value.ref b)), (1, vR a1), (2, vR a2), (3, vR a3), (4, vI a4), (5, vI a5), (6, vI a6), (8, vI a8), (10, vI a10), (12, vI a12)] [] := by
  unfold j_La_law_938 at h
  refine g_iconst (v := (0 : Int32)) ok d_La_law_938 (by decide) ?_
  exact w_j_La_law_939 ok hse ht (by omega) (by omega) hB1 hB2 hexit hrec mb h hk
set_option maxRecDepth 100000 in
set_option maxHeartbeats 4000000 in
theorem w_j_La_law_246 {X : CX} {KX : Int32 × MS → Prop} {b L : Nat} {xs : Nat → Int32}  {a1 : Option Nat} {a2 : Option Nat} {a3 : Option Nat} {a4 : Int32} {a5 : Int32} {a6 : Int32} {a8 : Int32} {a9 : Int32} {a10 : Int32} {t0 : Int32} {s : MS} {rec : Int32 → Int32 → Int32 → Int32 → Int32 → MS → Option (Int32 × MS)} {sb : MS} {ce0 sl0 cB sB : Nat} (ok : Ok X code RL rm_La_law 19 true) (hse : SE X.2.2.2.1 X.1.2.2.2.2.1 ∧ X.1.2.1.stackTraces = false) (ht : Sc X b L xs) (hc1 : ce0 + 7578 ≤ cB) (hc2 : sl0 + 45857 ≤ sB) (hB1 : cB ≤ 600086) (hB2 : sB ≤ 7301442) (hexit : ∀ (e7 : Int32) (z : MS), KX (e7, z) → (∀ q, dm sb q → dm z q) → G X z cB sB 1121 [(0, vW (Value.ref b)), (7, vI e7)] []) (hrec : ∀ (v4 : Int32) (v5 : Int32) (v6 : Int32) (v7 : Int32) (v8 : Int32) (z : MS), (∀ q, dm sb q → dm z q) → ∀ y, rec v4 v5 v6 v7 v8 z = some y → KX y → G X z cB sB 195 [(0, vW (Value.ref b)), (1, vR a1), (2, vR a2), (3, vR a3), (4, vI v4), (5, vI v5), (6, vI v6), (7, vI v7), (8, vI v8)] []) (mb : ∀ q, dm sb q → dm s q) {res : Int32 × MS} (h : j_La_law_246 L xs a1 a2 a3 a4 a5 a6 a8 a9 a10 t0 s rec = some res) (hk : KX res) : G X s ce0 sl0 246 [(0, vW (Value.ref b)), (1, vR a1), (2, vR a2), (3, vR a3), (4, vI a4), (5, vI a5), (6, vI a6), (8, vI a8), (9, vI a9), (10, vI a10)] [vI t0] := by
  unfold j_La_law_246 at h
  refine g_istore (i := 11) [(11, vI t0), (0, vW (Value.ref b)), (1, vR a1), (2, vR a2), (3, vR a3), (4, vI a4), (5, vI a5), (6, vI a6), (8, vI a8), (9, vI a9), (10, vI a10)] ok d_La_law_246 (by decide) rfl ?_
  refine g_iload (i := 11) 0 ok d_La_law_248 rfl ?_
  refine g_if_ne (tgt := 331) ok d_La_law_250 (by decide) (fun c128 => ?_) (fun c128 => ?_)
  · replace h := (if_pos c128).symm.trans h
    refine g_bipush (v := (40 : Int32)) ok d_La_law_253 (by decide) ?_
    refine g_iload (i := 10) 10 ok d_La_law_255 rfl ?_
    refine g_iconst (v := (4 : Int32)) ok d_La_law_257 (by decide) ?_
    refine g_idiv ok d_La_law_258 (by decide) ?_
    refine g_sipush (v := (161 : Int32)) ok d_La_law_259 (by decide) ?_
    refine g_irem ok d_La_law_262 (by decide) ?_
    refine g_iadd ok d_La_law_263 ?_
    obtain ⟨x129, e130⟩ : ∃ z, ((40 : Int32) + ((a10 / (4 : Int32)) - (a10 / (4 : Int32)) / (161 : Int32) * (161 : Int32))) = z := ⟨_, rfl⟩
    replace h := lt_go h e130
    rw [e130]
    refine g_istore (i := 12) [(12, vI x129), (11, vI t0), (0, vW (Value.ref b)), (1, vR a1), (2, vR a2), (3, vR a3), (4, vI a4), (5, vI a5), (6, vI a6), (8, vI a8), (9, vI a9), (10, vI a10)] ok d_La_law_264 (by decide) rfl ?_
    refine g_aload_n (i := 1) 3 ok d_La_law_266 rfl rfl ?_
    refine g_iload (i := 9) 10 ok d_La_law_267 rfl ?_
    refine g_bipush (v := (16 : Int32)) ok d_La_law_269 (by decide) ?_
    refine g_idiv ok d_La_law_271 (by decide) ?_
    refine g_iconst (v := (4 : Int32)) ok d_La_law_272 (by decide) ?_
    refine g_irem ok d_La_law_273 (by decide) ?_
    refine g_aload_n (i := 2) 4 ok d_La_law_274 rfl rfl ?_
    refine g_iload (i := 10) 11 ok d_La_law_275 rfl ?_
    refine g_iconst (v := (4 : Int32)) ok d_La_law_277 (by decide) ?_
    refine g_irem ok d_La_law_278 (by decide) ?_
    obtain ⟨k131, hk132, h⟩ := bnd_go h
    refine g_iald ok hk132 d_La_law_279 ?_
    refine g_iload (i := 12) 0 ok d_La_law_280 rfl ?_
    refine g_sub [0, 2, 3, 4, 5, 6, 7, 8, 9] rfl ?_
    obtain ⟨k133, hk134, h⟩ := bnd_go h
    obtain ⟨n135, hn136, h⟩ := bnd_go h
    obtain ⟨n137, hn138, h⟩ := bnd_go h
    obtain ⟨x142, s141, hc140, h⟩ := bnd2_go h
    refine g_callW (rm2 := rm_La_machine) (As := [vR a1, vI ((a9 / (16 : Int32)) - (a9 / (16 : Int32)) / (4 : Int32) * (4 : Int32)), vI (s.1 k131 (a10 - a10 / (4 : Int32) * (4 : Int32)).toNatClampNeg), vI x129]) (rest := []) ok hse.1 (c_La_machine hse.2 hc140) cm_La_machine cs_La_machine tw_432 ⟨rfl, rfl⟩ ⟨le_t rfl, le_t rfl⟩ ⟨rfl, le_t rfl⟩ ⟨(by show _ ≤ 600086; omega), (by show _ ≤ 7301442; omega)⟩ ⟨trivial, ⟨trivial, ⟨(rk_of hk134), ⟨(rk_rl hn136), ⟨(rk_rl hn138), ⟨trivial, ⟨trivial, ⟨trivial, ⟨trivial, trivial⟩⟩⟩⟩⟩⟩⟩⟩⟩ trivial d_La_law_282 rfl (fun m139 => ?_)
    show G X s141 (ce0 + 2) (sl0 + 13) 285 [(12, vI x129), (0, vW (Value.ref b)), (1, vR a1), (2, vR a2), (3, vR a3), (4, vI a4), (5, vI a5), (6, vI a6), (8, vI a8)] [vL x142]
    refine g_iload (i := 4) 5 ok d_La_law_285 rfl ?_
    refine g_bipush (v := (10 : Int32)) ok d_La_law_287 (by decide) ?_
    refine g_icmp_ne (tgt := 298) ok d_La_law_289 (by decide) (fun c143 => ?_) (fun c143 => ?_)
    · replace h := (if_pos c143).symm.trans h
      refine g_ldc2 (v := (-9000000000000000003 : Int64)) ok d_La_law_292 tw_317 ?_
      refine g_goto (tgt := 301) ok d_La_law_295 (by decide) ?_
      refine g_sub [1, 2, 3, 4, 5, 6, 7, 8, 0] rfl ?_
      exact w_j_La_law_301 ok hse ht (by omega) (by omega) hB1 hB2 hexit hrec (fun z hz => m139 z (mb z hz)) h hk
    · replace h := (if_neg c143).symm.trans h
      refine g_iload (i := 4) 5 ok d_La_law_298 rfl ?_
      refine g_i2l ok d_La_law_300 ?_
      refine g_sub [1, 2, 3, 4, 5, 6, 7, 8, 0] rfl ?_
      exact w_j_La_law_301 ok hse ht (by omega) (by omega) hB1 hB2 hexit hrec (fun z hz => m139 z (mb z hz)) h hk
  · replace h := (if_neg c128).symm.trans h
    refine g_iload (i := 11) 0 ok d_La_law_331 rfl ?_
    refine g_iconst (v := (5 : Int32)) ok d_La_law_333 (by decide) ?_
    refine g_icmp_ge (tgt := 524) ok d_La_law_334 (by decide) (fun c199 => ?_) (fun c199 => ?_)
    · replace h := (if_pos c199).symm.trans h
      refine g_iload (i := 9) 9 ok d_La_law_337 rfl ?_
      refine g_bipush (v := (16 : Int32)) ok d_La_law_339 (by decide) ?_
      refine g_idiv ok d_La_law_341 (by decide) ?_
      refine g_iload (i := 4) 5 ok d_La_law_342 rfl ?_
      obtain ⟨g200, h⟩ := gd_go h
      refine g_irem ok d_La_law_344 g200 ?_
      obtain ⟨x201, e202⟩ : ∃ z, ((a9 / (16 : Int32)) - (a9 / (16 : Int32)) / a4 * a4) = z := ⟨_, rfl⟩
      replace h := lt_go h e202
      rw [e202]
      refine g_istore (i := 12) [(12, vI x201), (11, vI t0), (0, vW (Value.ref b)), (1, vR a1), (2, vR a2), (3, vR a3), (4, vI a4), (5, vI a5), (6, vI a6), (8, vI a8), (9, vI a9), (10, vI a10)] ok d_La_law_345 (by decide) rfl ?_
      refine g_aload_n (i := 1) 3 ok d_La_law_347 rfl rfl ?_
      refine g_aload_n (i := 1) 3 ok d_La_law_348 rfl rfl ?_
      refine g_iload (i := 12) 0 ok d_La_law_349 rfl ?_
      refine g_iconst (v := (1 : Int32)) ok d_La_law_351 (by decide) ?_
      refine g_sub [0, 2, 3, 4, 5, 6, 7, 8, 9, 10, 11] rfl ?_
      obtain ⟨k203, hk204, h⟩ := bnd_go h
      obtain ⟨n205, hn206, h⟩ := bnd_go h
      obtain ⟨n207, hn208, h⟩ := bnd_go h
      obtain ⟨x212, s211, hc210, h⟩ := bnd2_go h
      refine g_callW (rm2 := rm_La_ofMachine) (As := [vR a1, vI x201, vI (1 : Int32)]) (rest := [vR a1]) ok hse.1 (c_La_ofMachine hse.2 hc210) cm_La_ofMachine cs_La_ofMachine tw_649 ⟨rfl, rfl⟩ ⟨le_t rfl, le_t rfl⟩ ⟨rfl, le_t rfl⟩ ⟨(by show _ ≤ 600086; omega), (by show _ ≤ 7301442; omega)⟩ ⟨trivial, ⟨trivial, ⟨(rk_of hk204), ⟨(rk_rl hn206), ⟨(rk_rl hn208), ⟨trivial, ⟨trivial, ⟨trivial, ⟨trivial, ⟨trivial, ⟨trivial, trivial⟩⟩⟩⟩⟩⟩⟩⟩⟩⟩⟩ ⟨(rk_of hk204), trivial⟩ d_La_law_352 rfl (fun m209 => ?_)
      show G X s211 (ce0 + 1) (sl0 + 6) 355 [(12, vI x201), (0, vW (Value.ref b)), (1, vR a1), (2, vR a2), (3, vR a3), (4, vI a4), (5, vI a5), (6, vI a6), (8, vI a8), (9, vI a9), (10, vI a10)] [vL x212, vR a1]
      refine g_l2i ok d_La_law_355 ?_
      refine g_aload_n (i := 2) 3 ok d_La_law_356 rfl rfl ?_
      refine g_iload (i := 10) 10 ok d_La_law_357 rfl ?_
      refine g_iconst (v := (4 : Int32)) ok d_La_law_359 (by decide) ?_
      refine g_irem ok d_La_law_360 (by decide) ?_
      obtain ⟨k213, hk214, h⟩ := bnd_go h
      refine g_iald ok hk214 d_La_law_361 ?_
      refine g_iload (i := 10) 10 ok d_La_law_362 rfl ?_
      refine g_iconst (v := (4 : Int32)) ok d_La_law_364 (by decide) ?_
      refine g_idiv ok d_La_law_365 (by decide) ?_
      refine g_sub [0, 1, 2, 3, 4, 5, 6, 7, 8, 9] rfl ?_
      obtain ⟨n215, hn216, h⟩ := bnd_go h
      obtain ⟨n217, hn218, h⟩ := bnd_go h
      obtain ⟨s221, hc220, h⟩ := bnd_go h
      refine g_callY (rm2 := rm_La_drafts) (As := [vR a1, vI (Int64.toInt32 x212), vI (s211.1 k213 (a10 - a10 / (4 : Int32) * (4 : Int32)).toNatClampNeg), vI (a10 / (4 : Int32))]) (rest := []) ok hse.1 (c_La_drafts hse.2 hc220) cm_La_drafts cs_La_drafts tw_755 ⟨rfl, rfl⟩ ⟨le_t rfl, le_t rfl⟩ ⟨rfl, le_t rfl⟩ ⟨(by show _ ≤ 600086; omega), (by show _ ≤ 7301442; omega)⟩ ⟨trivial, ⟨trivial, ⟨(rk_of (rf_mono m209 hk204)), ⟨(rk_rl hn216), ⟨(rk_rl hn218), ⟨trivial, ⟨trivial, ⟨trivial, ⟨trivial, ⟨trivial, trivial⟩⟩⟩⟩⟩⟩⟩⟩⟩⟩ trivial d_La_law_366 rfl (fun m219 => ?_)
      show G X s221 ((ce0 + 1) + 5) ((sl0 + 6) + 30) 369 [(12, vI x201), (0, vW (Value.ref b)), (1, vR a1), (2, vR a2), (3, vR a3), (4, vI a4), (5, vI a5), (6, vI a6), (8, vI a8), (9, vI a9)] []
      refine g_aload_n (i := 1) 2 ok d_La_law_369 rfl rfl ?_
      refine g_iconst (v := (0 : Int32)) ok d_La_law_370 (by decide) ?_
      obtain ⟨n223, hn224, h⟩ := bnd_go h
      obtain ⟨n225, hn226, h⟩ := bnd_go h
      obtain ⟨x230, s229, hc228, h⟩ := bnd2_go h
      refine g_callW (rm2 := rm_La_count) (As := [vR a1, vI (0 : Int32)]) (rest := []) ok hse.1 (c_La_count hse.2 hc228) cm_La_count cs_La_count tw_665 ⟨rfl, rfl⟩ ⟨le_t rfl, le_t rfl⟩ ⟨rfl, le_t rfl⟩ ⟨(by show _ ≤ 600086; omega), (by show _ ≤ 7301442; omega)⟩ ⟨trivial, ⟨trivial, ⟨(rk_of (rf_mono m219 (rf_mono m209 hk204))), ⟨(rk_rl hn224), ⟨(rk_rl hn226), ⟨trivial, ⟨trivial, ⟨trivial, ⟨trivial, ⟨trivial, trivial⟩⟩⟩⟩⟩⟩⟩⟩⟩⟩ trivial d_La_law_371 rfl (fun m227 => ?_)
      show G X s229 (((ce0 + 1) + 5) + 1) (((sl0 + 6) + 30) + 6) 374 [(12, vI x201), (0, vW (Value.ref b)), (1, vR a1), (2, vR a2), (3, vR a3), (4, vI a4), (5, vI a5), (6, vI a6), (8, vI a8), (9, vI a9)] [vL x230]
      refine g_lstore (i := 13) [(13, vL x230), (12, vI x201), (0, vW (Value.ref b)), (1, vR a1), (2, vR a2), (3, vR a3), (4, vI a4), (5, vI a5), (6, vI a6), (8, vI a8), (9, vI a9)] ok d_La_law_374 (by decide) rfl ?_
      refine g_aload_n (i := 1) 3 ok d_La_law_376 rfl rfl ?_
      refine g_iconst (v := (1 : Int32)) ok d_La_law_377 (by decide) ?_
      obtain ⟨n231, hn232, h⟩ := bnd_go h
      obtain ⟨n233, hn234, h⟩ := bnd_go h
      obtain ⟨x238, s237, hc236, h⟩ := bnd2_go h
      refine g_callW (rm2 := rm_La_count) (As := [vR a1, vI (1 : Int32)]) (rest := []) ok hse.1 (c_La_count hse.2 hc236) cm_La_count cs_La_count tw_665 ⟨rfl, rfl⟩ ⟨le_t rfl, le_t rfl⟩ ⟨rfl, le_t rfl⟩ ⟨(by show _ ≤ 600086; omega), (by show _ ≤ 7301442; omega)⟩ ⟨trivial, ⟨trivial, ⟨trivial, ⟨(rk_of (rf_mono m227 (rf_mono m219 (rf_mono m209 hk204)))), ⟨(rk_rl hn232), ⟨(rk_rl hn234), ⟨trivial, ⟨trivial, ⟨trivial, ⟨trivial, ⟨trivial, trivial⟩⟩⟩⟩⟩⟩⟩⟩⟩⟩⟩ trivial d_La_law_378 rfl (fun m235 => ?_)
      show G X s237 ((((ce0 + 1) + 5) + 1) + 1) ((((sl0 + 6) + 30) + 6) + 6) 381 [(13, vL x230), (12, vI x201), (0, vW (Value.ref b)), (1, vR a1), (2, vR a2), (3, vR a3), (4, vI a4), (5, vI a5), (6, vI a6), (8, vI a8), (9, vI a9)] [vL x238]
      refine g_lstore (i := 15) [(15, vL x238), (13, vL x230), (12, vI x201), (0, vW (Value.ref b)), (1, vR a1), (2, vR a2), (3, vR a3), (4, vI a4), (5, vI a5), (6, vI a6), (8, vI a8), (9, vI a9)] ok d_La_law_381 (by decide) rfl ?_
      refine g_aload_n (i := 1) 4 ok d_La_law_383 rfl rfl ?_
      refine g_iload (i := 12) 2 ok d_La_law_384 rfl ?_
      refine g_aload_n (i := 1) 4 ok d_La_law_386 rfl rfl ?_
      obtain ⟨x240, hc241, h⟩ := bnd_go h
      refine g_invV (rm2 := rm_Sk_time) (As := []) (rest := [vI x201, vR a1]) ok (rf_mono m235 (rf_mono m227 (rf_mono m219 (rf_mono m209 hk204)))) lay_0 rfl (c_Sk_time X.1.2.1 (rf_self (rf_mono m235 (rf_mono m227 (rf_mono m219 (rf_mono m209 hk204))))) hc241) cm_Sk_time cv_Sk_time tw_133 ⟨rfl, rfl⟩ ⟨le_t rfl, le_t rfl⟩ ⟨rfl, le_t rfl⟩ ⟨(by show _ ≤ 600086; omega), (by show _ ≤ 7301442; omega)⟩ d_La_law_387 rfl (fun m239 => ?_)
      show G X s237 ((((ce0 + 1) + 5) + 1) + 1) ((((sl0 + 6) + 30) + 6) + 6) 390 [(15, vL x238), (13, vL x230), (12, vI x201), (0, vW (Value.ref b)), (1, vR a1), (2, vR a2), (3, vR a3), (4, vI a4), (5, vI a5), (6, vI a6), (8, vI a8), (9, vI a9)] [vI x240, vI x201, vR a1]
      refine g_iconst (v := (1 : Int32)) ok d_La_law_390 (by decide) ?_
      refine g_iadd ok d_La_law_391 ?_
      refine g_iload (i := 9) 11 ok d_La_law_392 rfl ?_
      refine g_sipush (v := (256 : Int32)) ok d_La_law_394 (by decide) ?_
      refine g_idiv ok d_La_law_397 (by decide) ?_
      refine g_bipush (v := (40 : Int32)) ok d_La_law_398 (by decide) ?_
      refine g_irem ok d_La_law_400 (by decide) ?_
      refine g_iadd ok d_La_law_401 ?_
      refine g_iload (i := 9) 11 ok d_La_law_402 rfl ?_
      refine g_sipush (v := (16384 : Int32)) ok d_La_law_404 (by decide) ?_
      refine g_idiv ok d_La_law_407 (by decide) ?_
      refine g_iconst (v := (4 : Int32)) ok d_La_law_408 (by decide) ?_
      refine g_irem ok d_La_law_409 (by decide) ?_
      refine g_sub [0, 1, 3, 4, 5, 6, 7, 8, 9, 10] rfl ?_
      obtain ⟨n242, hn243, h⟩ := bnd_go h
      obtain ⟨n244, hn245, h⟩ := bnd_go h
      obtain ⟨x249, s248, hc247, h⟩ := bnd2_go h
      refine g_callW (rm2 := rm_La_file) (As := [vR a1, vI x201, vI ((x240 + (1 : Int32)) + ((a9 / (256 : Int32)) - (a9 / (256 : Int32)) / (40 : Int32) * (40 : Int32))), vI ((a9 / (16384 : Int32)) - (a9 / (16384 : Int32)) / (4 : Int32) * (4 : Int32))]) (rest := []) ok hse.1 (c_La_file hse.2 hc247) cm_La_file cs_La_file tw_474 ⟨rfl, rfl⟩ ⟨le_t rfl, le_t rfl⟩ ⟨rfl, le_t rfl⟩ ⟨(by show _ ≤ 600086; omega), (by show _ ≤ 7301442; omega)⟩ ⟨trivial, ⟨trivial, ⟨trivial, ⟨(rk_of (rf_mono m235 (rf_mono m227 (rf_mono m219 (rf_mono m209 hk204))))), ⟨(rk_rl hn243), ⟨(rk_rl hn245), ⟨trivial, ⟨trivial, ⟨trivial, ⟨trivial, trivial⟩⟩⟩⟩⟩⟩⟩⟩⟩⟩ trivial d_La_law_410 rfl (fun m246 => ?_)
      show G X s248 (((((ce0 + 1) + 5) + 1) + 1) + 3) (((((sl0 + 6) + 30) + 6) + 6) + 94) 413 [(15, vL x238), (13, vL x230), (0, vW (Value.ref b)), (1, vR a1), (2, vR a2), (3, vR a3), (4, vI a4), (5, vI a5), (6, vI a6), (8, vI a8)] [vL x249]
      refine g_lstore (i := 17) [(17, vL x249), (15, vL x238), (13, vL x230), (0, vW (Value.ref b)), (1, vR a1), (2, vR a2), (3, vR a3), (4, vI a4), (5, vI a5), (6, vI a6), (8, vI a8)] ok d_La_law_413 (by decide) rfl ?_
      refine g_lload (i := 13) 2 ok d_La_law_415 rfl ?_
      refine g_ldc2 (v := (40 : Int64)) ok d_La_law_417 tw_758 ?_
      refine g_lcmp ok d_La_law_420 ?_
      refine g_if_ne (tgt := 441) ok d_La_law_421 (by decide) (fun c250 => ?_) (fun c250 => ?_)
      · replace h := (if_pos c250).symm.trans h
        refine g_lload (i := 17) 0 ok d_La_law_424 rfl ?_
        refine g_ldc2 (v := (-9000000000000000003 : Int64)) ok d_La_law_426 tw_317 ?_
        refine g_lcmp ok d_La_law_429 ?_
        refine g_if_ne (tgt := 437) ok d_La_law_430 (by decide) (fun c251 => ?_) (fun c251 => ?_)
        · replace h := (if_pos c251).symm.trans h
          refine g_iconst (v := (1 : Int32)) ok d_La_law_433 (by decide) ?_
          refine g_goto (tgt := 519) ok d_La_law_434 (by decide) ?_
          refine g_sub [3, 4, 5, 6, 7, 8, 9, 10] rfl ?_
          exact w_j_La_law_519 ok hse ht (by omega) (by omega) hB1 hB2 hexit hrec (fun z hz => m246 z ((fun z hz => m235 z ((fun z hz => m227 z ((fun z hz => m219 z ((fun z hz => m209 z (mb z hz)) z hz)) z hz)) z hz)) z hz)) h hk
        · replace h := (if_neg c251).symm.trans h
          refine g_iconst (v := (0 : Int32)) ok d_La_law_437 (by decide) ?_
          refine g_goto (tgt := 519) ok d_La_law_438 (by decide) ?_
          refine g_sub [3, 4, 5, 6, 7, 8, 9, 10] rfl ?_
          exact w_j_La_law_519 ok hse ht (by omega) (by omega) hB1 hB2 hexit hrec (fun z hz => m246 z ((fun z hz => m235 z ((fun z hz => m227 z ((fun z hz => m219 z ((fun z hz => m209 z (mb z hz)) z hz)) z hz)) z hz)) z hz)) h hk
      · replace h := (if_neg c250).symm.trans h
        refine g_lload (i := 17) 0 ok d_La_law_441 rfl ?_
        refine g_lconst (v := (0 : Int64)) ok d_La_law_443 (by decide) ?_
        refine g_lcmp ok d_La_law_444 ?_
        refine g_if_lt (tgt := 484) ok d_La_law_445 (by decide) (fun c252 => ?_) (fun c252 => ?_)
        · replace h := (if_pos c252).symm.trans h
          refine g_lload (i := 17) 0 ok d_La_law_484 rfl ?_
          refine g_ldc2 (v := (-6 : Int64)) ok d_La_law_486 tw_759 ?_
          refine g_lcmp ok d_La_law_489 ?_
          refine g_if_lt (tgt := 518) ok d_La_law_490 (by decide) (fun c253 => ?_) (fun c253 => ?_)
          · replace h := (if_pos c253).symm.trans h
            refine g_sub [3, 4, 5, 6, 7, 8, 9, 10] rfl ?_
            exact w_j_La_law_518 ok hse ht (by omega) (by omega) hB1 hB2 hexit hrec (fun z hz => m246 z ((fun z hz => m235 z ((fun z hz => m227 z ((fun z hz => m219 z ((fun z hz => m209 z (mb z hz)) z hz)) z hz)) z hz)) z hz)) h hk
          · replace h := (if_neg c253).symm.trans h
            refine g_aload_n (i := 1) 4 ok d_La_law_493 rfl rfl ?_
            refine g_iconst (v := (1 : Int32)) ok d_La_law_494 (by decide) ?_
            refine g_sub [1, 3, 4, 5, 6, 7, 8, 9, 10] rfl ?_
            obtain ⟨n254, hn255, h⟩ := bnd_go h
            obtain ⟨n256, hn257, h⟩ := bnd_go h
            obtain ⟨x261, s260, hc259, h⟩ := bnd2_go h
            refine g_callW (rm2 := rm_La_count) (As := [vR a1, vI (1 : Int32)]) (rest := []) ok hse.1 (c_La_count hse.2 hc259) cm_La_count cs_La_count tw_665 ⟨rfl, rfl⟩ ⟨le_t rfl, le_t rfl⟩ ⟨rfl, le_t rfl⟩ ⟨(by show _ ≤ 600086; omega), (by show _ ≤ 7301442; omega)⟩ ⟨trivial, ⟨trivial, ⟨(rk_of (rf_mono m246 (rf_mono m235 (rf_mono m227 (rf_mono m219 (rf_mono m209 hk204)))))), ⟨(rk_rl hn255), ⟨(rk_rl hn257), ⟨trivial, ⟨trivial, ⟨trivial, ⟨trivial, trivial⟩⟩⟩⟩⟩⟩⟩⟩⟩ trivial d_La_law_495 rfl (fun m258 => ?_)
            show G X s260 ((((((ce0 + 1) + 5) + 1) + 1) + 3) + 1) ((((((sl0 + 6) + 30) + 6) + 6) + 94) + 6) 498 [(15, vL x238), (0, vW (Value.ref b)), (1, vR a1), (2, vR a2), (3, vR a3), (4, vI a4), (5, vI a5), (6, vI a6), (8, vI a8)] [vL x261]
            refine g_lload (i := 15) 0 ok d_La_law_498 rfl ?_
            refine g_lconst (v := (1 : Int64)) ok d_La_law_500 (by decide) ?_
            refine g_ladd ok d_La_law_501 ?_
            refine g_lcmp ok d_La_law_502 ?_
            refine g_if_ne (tgt := 518) ok d_La_law_503 (by decide) (fun c262 => ?_) (fun c262 => ?_)
            · replace h := (if_pos c262).symm.trans h
              refine g_aload_n (i := 1) 2 ok d_La_law_506 rfl rfl ?_
              obtain ⟨x264, hc265, h⟩ := bnd_go h
              refine g_invV (rm2 := rm_Sk_why) (As := []) (rest := []) ok (rf_mono m258 (rf_mono m246 (rf_mono m235 (rf_mono m227 (rf_mono m219 (rf_mono m209 hk204)))))) lay_0 rfl (c_Sk_why X.1.2.1 (rf_self (rf_mono m258 (rf_mono m246 (rf_mono m235 (rf_mono m227 (rf_mono m219 (rf_mono m209 hk204))))))) hc265) cm_Sk_why cv_Sk_why tw_129 ⟨rfl, rfl⟩ ⟨le_t rfl, le_t rfl⟩ ⟨rfl, le_t rfl⟩ ⟨(by show _ ≤ 600086; omega), (by show _ ≤ 7301442; omega)⟩ d_La_law_507 rfl (fun m263 => ?_)
              show G X s260 ((((((ce0 + 1) + 5) + 1) + 1) + 3) + 1) ((((((sl0 + 6) + 30) + 6) + 6) + 94) + 6) 510 [(15, vL x238), (0, vW (Value.ref b)), (1, vR a1), (2, vR a2), (3, vR a3), (4, vI a4), (5, vI a5), (6, vI a6), (8, vI a8)] [vI x264]
              refine g_iconst (v := (-1 : Int32)) ok d_La_law_510 (by decide) ?_
              refine g_icmp_lt (tgt := 518) ok d_La_law_511 (by decide) (fun c266 => ?_) (fun c266 => ?_)
              · replace h := (if_pos c266).symm.trans h
                refine g_sub [1, 2, 3, 4, 5, 6, 7, 8] rfl ?_
                exact w_j_La_law_518 ok hse ht (by omega) (by omega) hB1 hB2 hexit hrec (fun z hz => m258 z ((fun z hz => m246 z ((fun z hz => m235 z ((fun z hz => m227 z ((fun z hz => m219 z ((fun z hz => m209 z (mb z hz)) z hz)) z hz)) z hz)) z hz)) z hz)) h hk
              · replace h := (if_neg c266).symm.trans h
                refine g_iconst (v := (1 : Int32)) ok d_La_law_514 (by decide) ?_
                refine g_goto (tgt := 519) ok d_La_law_515 (by decide) ?_
                refine g_sub [1, 2, 3, 4, 5, 6, 7, 8] rfl ?_
                exact w_j_La_law_519 ok hse ht (by omega) (by omega) hB1 hB2 hexit hrec (fun z hz => m258 z ((fun z hz => m246 z ((fun z hz => m235 z ((fun z hz => m227 z ((fun z hz => m219 z ((fun z hz => m209 z (mb z hz)) z hz)) z hz)) z hz)) z hz)) z hz)) h hk
            · replace h := (if_neg c262).symm.trans h
              refine g_sub [1, 2, 3, 4, 5, 6, 7, 8] rfl ?_
              exact w_j_La_law_518 ok hse ht (by omega) (by omega) hB1 hB2 hexit hrec (fun z hz => m258 z ((fun z hz => m246 z ((fun z hz => m235 z ((fun z hz => m227 z ((fun z hz => m219 z ((fun z hz => m209 z (mb z hz)) z hz)) z hz)) z hz)) z hz)) z hz)) h hk
        · replace h := (if_neg c252).symm.trans h
          refine g_lload (i := 17) 0 ok d_La_law_448 rfl ?_
          refine g_lload (i := 13) 2 ok d_La_law_450 rfl ?_
          refine g_lcmp ok d_La_law_452 ?_
          refine g_if_ne (tgt := 480) ok d_La_law_453 (by decide) (fun c267 => ?_) (fun c267 => ?_)
          · replace h := (if_pos c267).symm.trans h
            refine g_aload_n (i := 1) 4 ok d_La_law_456 rfl rfl ?_
            refine g_iconst (v := (0 : Int32)) ok d_La_law_457 (by decide) ?_
            refine g_sub [2, 3, 4, 5, 6, 7, 8, 9, 10] rfl ?_
            obtain ⟨n268, hn269, h⟩ := bnd_go h
            obtain ⟨n270, hn271, h⟩ := bnd_go h
            obtain ⟨x275, s274, hc273, h⟩ := bnd2_go h
            refine g_callW (rm2 := rm_La_count) (As := [vR a1, vI (0 : Int32)]) (rest := []) ok hse.1 (c_La_count hse.2 hc273) cm_La_count cs_La_count tw_665 ⟨rfl, rfl⟩ ⟨le_t rfl, le_t rfl⟩ ⟨rfl, le_t rfl⟩ ⟨(by show _ ≤ 600086; omega), (by show _ ≤ 7301442; omega)⟩ ⟨trivial, ⟨trivial, ⟨(rk_of (rf_mono m246 (rf_mono m235 (rf_mono m227 (rf_mono m219 (rf_mono m209 hk204)))))), ⟨(rk_rl hn269), ⟨(rk_rl hn271), ⟨trivial, ⟨trivial, ⟨trivial, ⟨trivial, trivial⟩⟩⟩⟩⟩⟩⟩⟩⟩ trivial d_La_law_458 rfl (fun m272 => ?_)
            show G X s274 ((((((ce0 + 1) + 5) + 1) + 1) + 3) + 1) ((((((sl0 + 6) + 30) + 6) + 6) + 94) + 6) 461 [(13, vL x230), (0, vW (Value.ref b)), (1, vR a1), (2, vR a2), (3, vR a3), (4, vI a4), (5, vI a5), (6, vI a6), (8, vI a8)] [vL x275]
            refine g_lload (i := 13) 0 ok d_La_law_461 rfl ?_
            refine g_lconst (v := (1 : Int64)) ok d_La_law_463 (by decide) ?_
            refine g_ladd ok d_La_law_464 ?_
            refine g_lcmp ok d_La_law_465 ?_
            refine g_if_ne (tgt := 480) ok d_La_law_466 (by decide) (fun c276 => ?_) (fun c276 => ?_)
            · replace h := (if_pos c276).symm.trans h
              refine g_aload_n (i := 1) 2 ok d_La_law_469 rfl rfl ?_
              obtain ⟨x280, s279, hc278, h⟩ := bnd2_go h
              refine g_invV (rm2 := rm_Sk_clear) (As := []) (rest := []) ok (rf_mono m272 (rf_mono m246 (rf_mono m235 (rf_mono m227 (rf_mono m219 (rf_mono m209 hk204)))))) lay_0 rfl (c_Sk_clear X.1.2.1 (rf_self (rf_mono m272 (rf_mono m246 (rf_mono m235 (rf_mono m227 (rf_mono m219 (rf_mono m209 hk204))))))) hc278) cm_Sk_clear cv_Sk_clear tw_125 ⟨rfl, rfl⟩ ⟨le_t rfl, le_t rfl⟩ ⟨rfl, le_t rfl⟩ ⟨(by show _ ≤ 600086; omega), (by show _ ≤ 7301442; omega)⟩ d_La_law_470 rfl (fun m277 => ?_)
              show G X s279 ((((((ce0 + 1) + 5) + 1) + 1) + 3) + 1) ((((((sl0 + 6) + 30) + 6) + 6) + 94) + 6) 473 [(13, vL x230), (0, vW (Value.ref b)), (1, vR a1), (2, vR a2), (3, vR a3), (4, vI a4), (5, vI a5), (6, vI a6), (8, vI a8)] [vI x280]
              refine g_if_ne (tgt := 480) ok d_La_law_473 (by decide) (fun c281 => ?_) (fun c281 => ?_)
              · replace h := (if_pos c281).symm.trans h
                refine g_iconst (v := (1 : Int32)) ok d_La_law_476 (by decide) ?_
                refine g_goto (tgt := 519) ok d_La_law_477 (by decide) ?_
                refine g_sub [1, 2, 3, 4, 5, 6, 7, 8] rfl ?_
                exact w_j_La_law_519 ok hse ht (by omega) (by omega) hB1 hB2 hexit hrec (fun z hz => m277 z ((fun z hz => m272 z ((fun z hz => m246 z ((fun z hz => m235 z ((fun z hz => m227 z ((fun z hz => m219 z ((fun z hz => m209 z (mb z hz)) z hz)) z hz)) z hz)) z hz)) z hz)) z hz)) h hk
              · replace h := (if_neg c281).symm.trans h
                refine g_sub [1, 2, 3, 4, 5, 6, 7, 8] rfl ?_
                exact w_j_La_law_480 ok hse ht (by omega) (by omega) hB1 hB2 hexit hrec (fun z hz => m277 z ((fun z hz => m272 z ((fun z hz => m246 z ((fun z hz => m235 z ((fun z hz => m227 z ((fun z hz => m219 z ((fun z hz => m209 z (mb z hz)) z hz)) z hz)) z hz)) z hz)) z hz)) z hz)) h hk
            · replace h := (if_neg c276).symm.trans h
              refine g_sub [1, 2, 3, 4, 5, 6, 7, 8] rfl ?_
              exact w_j_La_law_480 ok hse ht (by omega) (by omega) hB1 hB2 hexit hrec (fun z hz => m272 z ((fun z hz => m246 z ((fun z hz => m235 z ((fun z hz => m227 z ((fun z hz => m219 z ((fun z hz => m209 z (mb z hz)) z hz)) z hz)) z hz)) z hz)) z hz)) h hk
          · replace h := (if_neg c267).symm.trans h
            refine g_sub [3, 4, 5, 6, 7, 8, 9, 10] rfl ?_
            exact w_j_La_law_480 ok hse ht (by omega) (by omega) hB1 hB2 hexit hrec (fun z hz => m246 z ((fun z hz => m235 z ((fun z hz => m227 z ((fun z hz => m219 z ((fun z hz => m209 z (mb z hz)) z hz)) z hz)) z hz)) z hz)) h hk
    · replace h := (if_neg c199).symm.trans h
      refine g_iload (i := 11) 0 ok d_La_law_524 rfl ?_
      refine g_bipush (v := (8 : Int32)) ok d_La_law_526 (by decide) ?_
      refine g_icmp_ge (tgt := 572) ok d_La_law_528 (by decide) (fun c282 => ?_) (fun c282 => ?_)
      · replace h := (if_pos c282).symm.trans h
        refine g_aload_n (i := 1) 2 ok d_La_law_531 rfl rfl ?_
        obtain ⟨k283, hk284, h⟩ := bnd_go h
        obtain ⟨x286, hc287, h⟩ := bnd_go h
        refine g_invV (rm2 := rm_Sk_time) (As := []) (rest := []) ok hk284 lay_0 rfl (c_Sk_time X.1.2.1 (rf_self hk284) hc287) cm_Sk_time cv_Sk_time tw_133 ⟨rfl, rfl⟩ ⟨le_t rfl, le_t rfl⟩ ⟨rfl, le_t rfl⟩ ⟨(by show _ ≤ 600086; omega), (by show _ ≤ 7301442; omega)⟩ d_La_law_532 rfl (fun m285 => ?_)
        show G X s ce0 sl0 535 [(11, vI t0), (0, vW (Value.ref b)), (1, vR a1), (2, vR a2), (3, vR a3), (4, vI a4), (5, vI a5), (6, vI a6), (8, vI a8), (9, vI a9), (10, vI a10)] [vI x286]
        refine g_istore (i := 12) [(12, vI x286), (11, vI t0), (0, vW (Value.ref b)), (1, vR a1), (2, vR a2), (3, vR a3), (4, vI a4), (5, vI a5), (6, vI a6), (8, vI a8), (9, vI a9), (10, vI a10)] ok d_La_law_535 (by decide) rfl ?_
        refine g_iconst (v := (1 : Int32)) ok d_La_law_537 (by decide) ?_
        refine g_iload (i := 10) 11 ok d_La_law_538 rfl ?_
        refine g_bipush (v := (9 : Int32)) ok d_La_law_540 (by decide) ?_
        refine g_irem ok d_La_law_542 (by decide) ?_
        refine g_iadd ok d_La_law_543 ?_
        obtain ⟨x288, e289⟩ : ∃ z, ((1 : Int32) + (a10 - a10 / (9 : Int32) * (9 : Int32))) = z := ⟨_, rfl⟩
        replace h := lt_go h e289
        rw [e289]
        refine g_istore (i := 13) [(13, vI x288), (12, vI x286), (11, vI t0), (0, vW (Value.ref b)), (1, vR a1), (2, vR a2), (3, vR a3), (4, vI a4), (5, vI a5), (6, vI a6), (8, vI a8), (9, vI a9), (10, vI a10)] ok d_La_law_544 (by decide) rfl ?_
        refine g_aload_n (i := 1) 4 ok d_La_law_546 rfl rfl ?_
        refine g_iload (i := 13) 0 ok d_La_law_547 rfl ?_
        refine g_sub [0, 1, 3, 4, 5, 6, 7, 8, 9, 10] rfl ?_
        obtain ⟨n290, hn291, h⟩ := bnd_go h
        obtain ⟨n292, hn293, h⟩ := bnd_go h
        obtain ⟨x297, s296, hc295, h⟩ := bnd2_go h
        refine g_callW (rm2 := rm_La_tick) (As := [vR a1, vI x288]) (rest := []) ok hse.1 (c_La_tick hse.2 hc295) cm_La_tick cs_La_tick tw_566 ⟨rfl, rfl⟩ ⟨le_t rfl, le_t rfl⟩ ⟨rfl, le_t rfl⟩ ⟨(by show _ ≤ 600086; omega), (by show _ ≤ 7301442; omega)⟩ ⟨trivial, ⟨trivial, ⟨trivial, ⟨(rk_of hk284), ⟨(rk_rl hn291), ⟨(rk_rl hn293), ⟨trivial, ⟨trivial, ⟨trivial, ⟨trivial, trivial⟩⟩⟩⟩⟩⟩⟩⟩⟩⟩ trivial d_La_law_549 rfl (fun m294 => ?_)
        show G X s296 (ce0 + 1) (sl0 + 6) 552 [(13, vI x288), (12, vI x286), (0, vW (Value.ref b)), (1, vR a1), (2, vR a2), (3, vR a3), (4, vI a4), (5, vI a5), (6, vI a6), (8, vI a8)] [vL x297]
        refine g_iload (i := 12) 1 ok d_La_law_552 rfl ?_
        refine g_iload (i := 13) 0 ok d_La_law_554 rfl ?_
        refine g_iadd ok d_La_law_556 ?_
        refine g_i2l ok d_La_law_557 ?_
        refine g_lcmp ok d_La_law_558 ?_
        refine g_if_ne (tgt := 566) ok d_La_law_559 (by decide) (fun c298 => ?_) (fun c298 => ?_)
        · replace h := (if_pos c298).symm.trans h
          refine g_iconst (v := (1 : Int32)) ok d_La_law_562 (by decide) ?_
          refine g_goto (tgt := 567) ok d_La_law_563 (by decide) ?_
          refine g_sub [2, 3, 4, 5, 6, 7, 8, 9] rfl ?_
          exact w_j_La_law_567 ok hse ht (by omega) (by omega) hB1 hB2 hexit hrec (fun z hz => m294 z (mb z hz)) h hk
        · replace h := (if_neg c298).symm.trans h
          refine g_iconst (v := (0 : Int32)) ok d_La_law_566 (by decide) ?_
          refine g_sub [2, 3, 4, 5, 6, 7, 8, 9] rfl ?_
          exact w_j_La_law_567 ok hse ht (by omega) (by omega) hB1 hB2 hexit hrec (fun z hz => m294 z (mb z hz)) h hk
      · replace h := (if_neg c282).symm.trans h
        refine g_iload (i := 11) 0 ok d_La_law_572 rfl ?_
        refine g_bipush (v := (8 : Int32)) ok d_La_law_574 (by decide) ?_
        refine g_icmp_ne (tgt := 636) ok d_La_law_576 (by decide) (fun c299 => ?_) (fun c299 => ?_)
        · replace h := (if_pos c299).symm.trans h
          refine g_aload_n (i := 1) 2 ok d_La_law_579 rfl rfl ?_
          refine g_iconst (v := (1 : Int32)) ok d_La_law_580 (by decide) ?_
          refine g_iload (i := 10) 10 ok d_La_law_581 rfl ?_
          refine g_iconst (v := (3 : Int32)) ok d_La_law_583 (by decide) ?_
          refine g_irem ok d_La_law_584 (by decide) ?_
          refine g_iadd ok d_La_law_585 ?_
          refine g_iload (i := 10) 10 ok d_La_law_586 rfl ?_
          refine g_iconst (v := (4 : Int32)) ok d_La_law_588 (by decide) ?_
          refine g_idiv ok d_La_law_589 (by decide) ?_
          refine g_iconst (v := (4 : Int32)) ok d_La_law_590 (by decide) ?_
          refine g_irem ok d_La_law_591 (by decide) ?_
          refine g_sub [1, 2, 3, 4, 5, 6, 7, 8, 10] rfl ?_
          obtain ⟨k300, hk301, h⟩ := bnd_go h
          obtain ⟨n302, hn303, h⟩ := bnd_go h
          obtain ⟨n304, hn305, h⟩ := bnd_go h
          obtain ⟨x309, s308, hc307, h⟩ := bnd2_go h
          refine g_callW (rm2 := rm_La_wind) (As := [vR a1, vI ((1 : Int32) + (a10 - a10 / (3 : Int32) * (3 : Int32))), vI ((a10 / (4 : Int32)) - (a10 / (4 : Int32)) / (4 : Int32) * (4 : Int32))]) (rest := []) ok hse.1 (c_La_wind hse.2 hc307) cm_La_wind cs_La_wind tw_330 ⟨rfl, rfl⟩ ⟨le_t rfl, le_t rfl⟩ ⟨rfl, le_t rfl⟩ ⟨(by show _ ≤ 600086; omega), (by show _ ≤ 7301442; omega)⟩ ⟨trivial, ⟨(rk_of hk301), ⟨(rk_rl hn303), ⟨(rk_rl hn305), ⟨trivial, ⟨trivial, ⟨trivial, ⟨trivial, ⟨trivial, trivial⟩⟩⟩⟩⟩⟩⟩⟩⟩ trivial d_La_law_592 rfl (fun m306 => ?_)
          show G X s308 (ce0 + 1) (sl0 + 6) 595 [(0, vW (Value.ref b)), (1, vR a1), (2, vR a2), (3, vR a3), (4, vI a4), (5, vI a5), (6, vI a6), (8, vI a8), (10, vI a10)] [vL x309]
          refine g_lconst (v := (0 : Int64)) ok d_La_law_595 (by decide) ?_
          refine g_lcmp ok d_La_law_596 ?_
          refine g_if_lt (tgt := 630) ok d_La_law_597 (by decide) (fun c310 => ?_) (fun c310 => ?_)
          · replace h := (if_pos c310).symm.trans h
            refine g_sub [0, 1, 2, 3, 4, 5, 6, 7] rfl ?_
            exact w_j_La_law_630 ok hse ht (by omega) (by omega) hB1 hB2 hexit hrec (fun z hz => m306 z (mb z hz)) h hk
          · replace h := (if_neg c310).symm.trans h
            refine g_aload_n (i := 1) 1 ok d_La_law_600 rfl rfl ?_
            refine g_iconst (v := (1 : Int32)) ok d_La_law_601 (by decide) ?_
            refine g_iload (i := 10) 8 ok d_La_law_602 rfl ?_
            refine g_bipush (v := (16 : Int32)) ok d_La_law_604 (by decide) ?_
            refine g_idiv ok d_La_law_606 (by decide) ?_
            refine g_iconst (v := (3 : Int32)) ok d_La_law_607 (by decide) ?_
            refine g_irem ok d_La_law_608 (by decide) ?_
            refine g_iadd ok d_La_law_609 ?_
            refine g_iload (i := 10) 8 ok d_La_law_610 rfl ?_
            refine g_bipush (v := (64 : Int32)) ok d_La_law_612 (by decide) ?_
            refine g_idiv ok d_La_law_614 (by decide) ?_
            refine g_bipush (v := (6 : Int32)) ok d_La_law_615 (by decide) ?_
            refine g_irem ok d_La_law_617 (by decide) ?_
            refine g_sub [0, 1, 2, 3, 4, 5, 6, 7] rfl ?_
            obtain ⟨n311, hn312, h⟩ := bnd_go h
            obtain ⟨n313, hn314, h⟩ := bnd_go h
            obtain ⟨x318, s317, hc316, h⟩ := bnd2_go h
            refine g_callW (rm2 := rm_La_gust) (As := [vR a1, vI ((1 : Int32) + ((a10 / (16 : Int32)) - (a10 / (16 : Int32)) / (3 : Int32) * (3 : Int32))), vI ((a10 / (64 : Int32)) - (a10 / (64 : Int32)) / (6 : Int32) * (6 : Int32))]) (rest := []) ok hse.1 (c_La_gust hse.2 hc316) cm_La_gust cs_La_gust tw_347 ⟨rfl, rfl⟩ ⟨le_t rfl, le_t rfl⟩ ⟨rfl, le_t rfl⟩ ⟨(by show _ ≤ 600086; omega), (by show _ ≤ 7301442; omega)⟩ ⟨trivial, ⟨(rk_of (rf_mono m306 hk301)), ⟨(rk_rl hn312), ⟨(rk_rl hn314), ⟨trivial, ⟨trivial, ⟨trivial, ⟨trivial, trivial⟩⟩⟩⟩⟩⟩⟩⟩ trivial d_La_law_618 rfl (fun m315 => ?_)
            show G X s317 ((ce0 + 1) + 1) ((sl0 + 6) + 6) 621 [(0, vW (Value.ref b)), (1, vR a1), (2, vR a2), (3, vR a3), (4, vI a4), (5, vI a5), (6, vI a6), (8, vI a8)] [vL x318]
            refine g_lconst (v := (0 : Int64)) ok d_La_law_621 (by decide) ?_
            refine g_lcmp ok d_La_law_622 ?_
            refine g_if_lt (tgt := 630) ok d_La_law_623 (by decide) (fun c319 => ?_) (fun c319 => ?_)
            · replace h := (if_pos c319).symm.trans h
              exact w_j_La_law_630 ok hse ht (by omega) (by omega) hB1 hB2 hexit hrec (fun z hz => m315 z ((fun z hz => m306 z (mb z hz)) z hz)) h hk
            · replace h := (if_neg c319).symm.trans h
              refine g_iconst (v := (1 : Int32)) ok d_La_law_626 (by decide) ?_
              refine g_goto (tgt := 631) ok d_La_law_627 (by decide) ?_
              exact w_j_La_law_631 ok hse ht (by omega) (by omega) hB1 hB2 hexit hrec (fun z hz => m315 z ((fun z hz => m306 z (mb z hz)) z hz)) h hk
        · replace h := (if_neg c299).symm.trans h
          refine g_iload (i := 11) 0 ok d_La_law_636 rfl ?_
          refine g_bipush (v := (9 : Int32)) ok d_La_law_638 (by decide) ?_
          refine g_icmp_ne (tgt := 778) ok d_La_law_640 (by decide) (fun c320 => ?_) (fun c320 => ?_)
          · replace h := (if_pos c320).symm.trans h
            refine g_aload_n (i := 1) 2 ok d_La_law_643 rfl rfl ?_
            obtain ⟨k321, hk322, h⟩ := bnd_go h
            obtain ⟨x324, hc325, h⟩ := bnd_go h
            refine g_invV (rm2 := rm_Sk_time) (As := []) (rest := []) ok hk322 lay_0 rfl (c_Sk_time X.1.2.1 (rf_self hk322) hc325) cm_Sk_time cv_Sk_time tw_133 ⟨rfl, rfl⟩ ⟨le_t rfl, le_t rfl⟩ ⟨rfl, le_t rfl⟩ ⟨(by show _ ≤ 600086; omega), (by show _ ≤ 7301442; omega)⟩ d_La_law_644 rfl (fun m323 => ?_)
            show G X s ce0 sl0 647 [(11, vI t0), (0, vW (Value.ref b)), (1, vR a1), (2, vR a2), (3, vR a3), (4, vI a4), (5, vI a5), (6, vI a6), (8, vI a8), (9, vI a9), (10, vI a10)] [vI x324]
            refine g_iload (i := 10) 10 ok d_La_law_647 rfl ?_
            refine g_sipush (v := (16384 : Int32)) ok d_La_law_649 (by decide) ?_
            refine g_idiv ok d_La_law_652 (by decide) ?_
            refine g_bipush (v := (30 : Int32)) ok d_La_law_653 (by decide) ?_
            refine g_irem ok d_La_law_655 (by decide) ?_
            refine g_iadd ok d_La_law_656 ?_
            obtain ⟨x326, e327⟩ : ∃ z, (x324 + ((a10 / (16384 : Int32)) - (a10 / (16384 : Int32)) / (30 : Int32) * (30 : Int32))) = z := ⟨_, rfl⟩
            replace h := lt_go h e327
            rw [e327]
            refine g_istore (i := 12) [(12, vI x326), (11, vI t0), (0, vW (Value.ref b)), (1, vR a1), (2, vR a2), (3, vR a3), (4, vI a4), (5, vI a5), (6, vI a6), (8, vI a8), (9, vI a9), (10, vI a10)] ok d_La_law_657 (by decide) rfl ?_
            refine g_aload_n (i := 1) 3 ok d_La_law_659 rfl rfl ?_
            refine g_iload (i := 10) 11 ok d_La_law_660 rfl ?_
            refine g_bipush (v := (100 : Int32)) ok d_La_law_662 (by decide) ?_
            refine g_irem ok d_La_law_664 (by decide) ?_
            refine g_iload (i := 10) 11 ok d_La_law_665 rfl ?_
            refine g_sipush (v := (128 : Int32)) ok d_La_law_667 (by decide) ?_
            refine g_idiv ok d_La_law_670 (by decide) ?_
            refine g_bipush (v := (100 : Int32)) ok d_La_law_671 (by decide) ?_
            refine g_irem ok d_La_law_673 (by decide) ?_
            refine g_iconst (v := (1 : Int32)) ok d_La_law_674 (by decide) ?_
            refine g_iload (i := 9) 10 ok d_La_law_675 rfl ?_
            refine g_bipush (v := (16 : Int32)) ok d_La_law_677 (by decide) ?_
            refine g_idiv ok d_La_law_679 (by decide) ?_
            refine g_iconst (v := (3 : Int32)) ok d_La_law_680 (by decide) ?_
            refine g_irem ok d_La_law_681 (by decide) ?_
            refine g_iadd ok d_La_law_682 ?_
            refine g_iload (i := 12) 0 ok d_La_law_683 rfl ?_
            refine g_iload (i := 12) 0 ok d_La_law_685 rfl ?_
            refine g_iload (i := 9) 10 ok d_La_law_687 rfl ?_
            refine g_bipush (v := (64 : Int32)) ok d_La_law_689 (by decide) ?_
            refine g_idiv ok d_La_law_691 (by decide) ?_
            refine g_bipush (v := (30 : Int32)) ok d_La_law_692 (by decide) ?_
            refine g_irem ok d_La_law_694 (by decide) ?_
            refine g_iadd ok d_La_law_695 ?_
            refine g_sub [2, 3, 4, 5, 6, 7, 8, 9, 10] rfl ?_
            obtain ⟨n328, hn329, h⟩ := bnd_go h
            obtain ⟨n330, hn331, h⟩ := bnd_go h
            obtain ⟨x335, s334, hc333, h⟩ := bnd2_go h
            refine g_callW (rm2 := rm_La_close) (As := [vR a1, vI (a10 - a10 / (100 : Int32) * (100 : Int32)), vI ((a10 / (128 : Int32)) - (a10 / (128 : Int32)) / (100 : Int32) * (100 : Int32)), vI ((1 : Int32) + ((a9 / (16 : Int32)) - (a9 / (16 : Int32)) / (3 : Int32) * (3 : Int32))), vI x326, vI (x326 + ((a9 / (64 : Int32)) - (a9 / (64 : Int32)) / (30 : Int32) * (30 : Int32)))]) (rest := []) ok hse.1 (c_La_close hse.2 hc333) cm_La_close cs_La_close tw_355 ⟨rfl, rfl⟩ ⟨le_t rfl, le_t rfl⟩ ⟨rfl, le_t rfl⟩ ⟨(by show _ ≤ 600086; omega), (by show _ ≤ 7301442; omega)⟩ ⟨trivial, ⟨(rk_of hk322), ⟨(rk_rl hn329), ⟨(rk_rl hn331), ⟨trivial, ⟨trivial, ⟨trivial, ⟨trivial, ⟨trivial, trivial⟩⟩⟩⟩⟩⟩⟩⟩⟩ trivial d_La_law_696 rfl (fun m332 => ?_)
            show G X s334 (ce0 + 2) (sl0 + 14) 699 [(0, vW (Value.ref b)), (1, vR a1), (2, vR a2), (3, vR a3), (4, vI a4), (5, vI a5), (6, vI a6), (8, vI a8), (9, vI a9)] [vL x335]
            refine g_iload (i := 5) 5 ok d_La_law_699 rfl ?_
            refine g_bipush (v := (10 : Int32)) ok d_La_law_701 (by decide) ?_
            refine g_icmp_ne (tgt := 712) ok d_La_law_703 (by decide) (fun c336 => ?_) (fun c336 => ?_)
            · replace h := (if_pos c336).symm.trans h
              refine g_ldc2 (v := (-9000000000000000003 : Int64)) ok d_La_law_706 tw_317 ?_
              refine g_goto (tgt := 715) ok d_La_law_709 (by decide) ?_
              exact w_j_La_law_715 ok hse ht (by omega) (by omega) hB1 hB2 hexit hrec (fun z hz => m332 z (mb z hz)) h hk
            · replace h := (if_neg c336).symm.trans h
              refine g_iload (i := 5) 5 ok d_La_law_712 rfl ?_
              refine g_i2l ok d_La_law_714 ?_
              exact w_j_La_law_715 ok hse ht (by omega) (by omega) hB1 hB2 hexit hrec (fun z hz => m332 z (mb z hz)) h hk
          · replace h := (if_neg c320).symm.trans h
            refine g_iload (i := 11) 0 ok d_La_law_778 rfl ?_
            refine g_bipush (v := (10 : Int32)) ok d_La_law_780 (by decide) ?_
            refine g_icmp_ne (tgt := 903) ok d_La_law_782 (by decide) (fun c354 => ?_) (fun c354 => ?_)
            · replace h := (if_pos c354).symm.trans h
              refine g_iload (i := 10) 10 ok d_La_law_785 rfl ?_
              refine g_iload (i := 4) 5 ok d_La_law_787 rfl ?_
              obtain ⟨g355, h⟩ := gd_go h
              refine g_irem ok d_La_law_789 g355 ?_
              obtain ⟨x356, e357⟩ : ∃ z, (a10 - a10 / a4 * a4) = z := ⟨_, rfl⟩
              replace h := lt_go h e357
              rw [e357]
              refine g_istore (i := 12) [(12, vI x356), (11, vI t0), (0, vW (Value.ref b)), (1, vR a1), (2, vR a2), (3, vR a3), (4, vI a4), (5, vI a5), (6, vI a6), (8, vI a8), (9, vI a9), (10, vI a10)] ok d_La_law_790 (by decide) rfl ?_
              refine g_aload_n (i := 1) 3 ok d_La_law_792 rfl rfl ?_
              refine g_iload (i := 12) 0 ok d_La_law_793 rfl ?_
              refine g_iconst (v := (0 : Int32)) ok d_La_law_795 (by decide) ?_
              refine g_sub [0, 2, 3, 4, 5, 6, 7, 8, 9, 11] rfl ?_
              obtain ⟨k358, hk359, h⟩ := bnd_go h
              obtain ⟨n360, hn361, h⟩ := bnd_go h
              obtain ⟨n362, hn363, h⟩ := bnd_go h
              obtain ⟨x367, s366, hc365, h⟩ := bnd2_go h
              refine g_callW (rm2 := rm_La_ofMachine) (As := [vR a1, vI x356, vI (0 : Int32)]) (rest := []) ok hse.1 (c_La_ofMachine hse.2 hc365) cm_La_ofMachine cs_La_ofMachine tw_649 ⟨rfl, rfl⟩ ⟨le_t rfl, le_t rfl⟩ ⟨rfl, le_t rfl⟩ ⟨(by show _ ≤ 600086; omega), (by show _ ≤ 7301442; omega)⟩ ⟨trivial, ⟨trivial, ⟨(rk_of hk359), ⟨(rk_rl hn361), ⟨(rk_rl hn363), ⟨trivial, ⟨trivial, ⟨trivial, ⟨trivial, ⟨trivial, trivial⟩⟩⟩⟩⟩⟩⟩⟩⟩⟩ trivial d_La_law_796 rfl (fun m364 => ?_)
              show G X s366 (ce0 + 1) (sl0 + 6) 799 [(12, vI x356), (0, vW (Value.ref b)), (1, vR a1), (2, vR a2), (3, vR a3), (4, vI a4), (5, vI a5), (6, vI a6), (8, vI a8), (10, vI a10)] [vL x367]
              refine g_lconst (v := (1 : Int64)) ok d_La_law_799 (by decide) ?_
              refine g_lcmp ok d_La_law_800 ?_
              refine g_if_ne (tgt := 820) ok d_La_law_801 (by decide) (fun c368 => ?_) (fun c368 => ?_)
              · replace h := (if_pos c368).symm.trans h
                refine g_aload_n (i := 1) 2 ok d_La_law_804 rfl rfl ?_
                refine g_iload (i := 12) 0 ok d_La_law_805 rfl ?_
                refine g_iconst (v := (2 : Int32)) ok d_La_law_807 (by decide) ?_
                obtain ⟨n369, hn370, h⟩ := bnd_go h
                obtain ⟨n371, hn372, h⟩ := bnd_go h
                obtain ⟨x376, s375, hc374, h⟩ := bnd2_go h
                refine g_callW (rm2 := rm_La_ofMachine) (As := [vR a1, vI x356, vI (2 : Int32)]) (rest := []) ok hse.1 (c_La_ofMachine hse.2 hc374) cm_La_ofMachine cs_La_ofMachine tw_649 ⟨rfl, rfl⟩ ⟨le_t rfl, le_t rfl⟩ ⟨rfl, le_t rfl⟩ ⟨(by show _ ≤ 600086; omega), (by show _ ≤ 7301442; omega)⟩ ⟨trivial, ⟨trivial, ⟨(rk_of (rf_mono m364 hk359)), ⟨(rk_rl hn370), ⟨(rk_rl hn372), ⟨trivial, ⟨trivial, ⟨trivial, ⟨trivial, ⟨trivial, trivial⟩⟩⟩⟩⟩⟩⟩⟩⟩⟩ trivial d_La_law_808 rfl (fun m373 => ?_)
                show G X s375 ((ce0 + 1) + 1) ((sl0 + 6) + 6) 811 [(12, vI x356), (0, vW (Value.ref b)), (1, vR a1), (2, vR a2), (3, vR a3), (4, vI a4), (5, vI a5), (6, vI a6), (8, vI a8), (10, vI a10)] [vL x376]
                refine g_lconst (v := (0 : Int64)) ok d_La_law_811 (by decide) ?_
                refine g_lcmp ok d_La_law_812 ?_
                refine g_if_le (tgt := 820) ok d_La_law_813 (by decide) (fun c377 => ?_) (fun c377 => ?_)
                · replace h := (if_pos c377).symm.trans h
                  refine g_iconst (v := (1 : Int32)) ok d_La_law_816 (by decide) ?_
                  refine g_goto (tgt := 821) ok d_La_law_817 (by decide) ?_
                  refine g_sub [1, 2, 3, 4, 5, 6, 7, 8, 9, 0] rfl ?_
                  exact w_j_La_law_821 ok hse ht (by omega) (by omega) hB1 hB2 hexit hrec (fun z hz => m373 z ((fun z hz => m364 z (mb z hz)) z hz)) h hk
                · replace h := (if_neg c377).symm.trans h
                  refine g_sub [1, 2, 3, 4, 5, 6, 7, 8, 9, 0] rfl ?_
                  exact w_j_La_law_820 ok hse ht (by omega) (by omega) hB1 hB2 hexit hrec (fun z hz => m373 z ((fun z hz => m364 z (mb z hz)) z hz)) h hk
              · replace h := (if_neg c368).symm.trans h
                refine g_sub [1, 2, 3, 4, 5, 6, 7, 8, 9, 0] rfl ?_
                exact w_j_La_law_820 ok hse ht (by omega) (by omega) hB1 hB2 hexit hrec (fun z hz => m364 z (mb z hz)) h hk
            · replace h := (if_neg c354).symm.trans h
              refine g_iload (i := 10) 10 ok d_La_law_903 rfl ?_
              refine g_iload (i := 4) 5 ok d_La_law_905 rfl ?_
              obtain ⟨g411, h⟩ := gd_go h
              refine g_irem ok d_La_law_907 g411 ?_
              obtain ⟨x412, e413⟩ : ∃ z, (a10 - a10 / a4 * a4) = z := ⟨_, rfl⟩
              replace h := lt_go h e413
              rw [e413]
              refine g_istore (i := 12) [(12, vI x412), (11, vI t0), (0, vW (Value.ref b)), (1, vR a1), (2, vR a2), (3, vR a3), (4, vI a4), (5, vI a5), (6, vI a6), (8, vI a8), (9, vI a9), (10, vI a10)] ok d_La_law_908 (by decide) rfl ?_
              refine g_aload_n (i := 1) 3 ok d_La_law_910 rfl rfl ?_
              refine g_iload (i := 12) 0 ok d_La_law_911 rfl ?_
              refine g_iconst (v := (0 : Int32)) ok d_La_law_913 (by decide) ?_
              refine g_sub [0, 2, 3, 4, 5, 6, 7, 8, 9, 11] rfl ?_
              obtain ⟨k414, hk415, h⟩ := bnd_go h
              obtain ⟨n416, hn417, h⟩ := bnd_go h
              obtain ⟨n418, hn419, h⟩ := bnd_go h
              obtain ⟨x423, s422, hc421, h⟩ := bnd2_go h
              refine g_callW (rm2 := rm_La_ofMachine) (As := [vR a1, vI x412, vI (0 : Int32)]) (rest := []) ok hse.1 (c_La_ofMachine hse.2 hc421) cm_La_ofMachine cs_La_ofMachine tw_649 ⟨rfl, rfl⟩ ⟨le_t rfl, le_t rfl⟩ ⟨rfl, le_t rfl⟩ ⟨(by show _ ≤ 600086; omega), (by show _ ≤ 7301442; omega)⟩ ⟨trivial, ⟨trivial, ⟨(rk_of hk415), ⟨(rk_rl hn417), ⟨(rk_rl hn419), ⟨trivial, ⟨trivial, ⟨trivial, ⟨trivial, ⟨trivial, trivial⟩⟩⟩⟩⟩⟩⟩⟩⟩⟩ trivial d_La_law_914 rfl (fun m420 => ?_)
              show G X s422 (ce0 + 1) (sl0 + 6) 917 [(12, vI x412), (0, vW (Value.ref b)), (1, vR a1), (2, vR a2), (3, vR a3), (4, vI a4), (5, vI a5), (6, vI a6), (8, vI a8), (10, vI a10)] [vL x423]
              refine g_lconst (v := (1 : Int64)) ok d_La_law_917 (by decide) ?_
              refine g_lcmp ok d_La_law_918 ?_
              refine g_if_ne (tgt := 938) ok d_La_law_919 (by decide) (fun c424 => ?_) (fun c424 => ?_)
              · replace h := (if_pos c424).symm.trans h
                refine g_aload_n (i := 1) 2 ok d_La_law_922 rfl rfl ?_
                refine g_iload (i := 12) 0 ok d_La_law_923 rfl ?_
                refine g_iconst (v := (2 : Int32)) ok d_La_law_925 (by decide) ?_
                obtain ⟨n425, hn426, h⟩ := bnd_go h
                obtain ⟨n427, hn428, h⟩ := bnd_go h
                obtain ⟨x432, s431, hc430, h⟩ := bnd2_go h
                refine g_callW (rm2 := rm_La_ofMachine) (As := [vR a1, vI x412, vI (2 : Int32)]) (rest := []) ok hse.1 (c_La_ofMachine hse.2 hc430) cm_La_ofMachine cs_La_ofMachine tw_649 ⟨rfl, rfl⟩ ⟨le_t rfl, le_t rfl⟩ ⟨rfl, le_t rfl⟩ ⟨(by show _ ≤ 600086; omega), (by show _ ≤ 7301442; omega)⟩ ⟨trivial, ⟨trivial, ⟨(rk_of (rf_mono m420 hk415)), ⟨(rk_rl hn426), ⟨(rk_rl hn428), ⟨trivial, ⟨trivial, ⟨trivial, ⟨trivial, ⟨trivial, trivial⟩⟩⟩⟩⟩⟩⟩⟩⟩⟩ trivial d_La_law_926 rfl (fun m429 => ?_)
                show G X s431 ((ce0 + 1) + 1) ((sl0 + 6) + 6) 929 [(12, vI x412), (0, vW (Value.ref b)), (1, vR a1), (2, vR a2), (3, vR a3), (4, vI a4), (5, vI a5), (6, vI a6), (8, vI a8), (10, vI a10)] [vL x432]
                refine g_lconst (v := (0 : Int64)) ok d_La_law_929 (by decide) ?_
                refine g_lcmp ok d_La_law_930 ?_
                refine g_if_le (tgt := 938) ok d_La_law_931 (by decide) (fun c433 => ?_) (fun c433 => ?_)
                · replace h := (if_pos c433).symm.trans h
                  refine g_iconst (v := (1 : Int32)) ok d_La_law_934 (by decide) ?_
                  refine g_goto (tgt := 939) ok d_La_law_935 (by decide) ?_
                  refine g_sub [1, 2, 3, 4, 5, 6, 7, 8, 9, 0] rfl ?_
                  exact w_j_La_law_939 ok hse ht (by omega) (by omega) hB1 hB2 hexit hrec (fun z hz => m429 z ((fun z hz => m420 z (mb z hz)) z hz)) h hk
                · replace h := (if_neg c433).symm.trans h
                  refine g_sub [1, 2, 3, 4, 5, 6, 7, 8, 9, 0] rfl ?_
                  exact w_j_La_law_938 ok hse ht (by omega) (by omega) hB1 hB2 hexit hrec (fun z hz => m429 z ((fun z hz => m420 z (mb z hz)) z hz)) h hk
              · replace h := (if_neg c424).symm.trans h
                refine g_sub [1, 2, 3, 4, 5, 6, 7, 8, 9, 0] rfl ?_
                exact w_j_La_law_938 ok hse ht (by omega) (by omega) hB1 hB2 hexit hrec (fun z hz => m420 z (mb z hz)) h hk
set_option maxRecDepth 100000 in
set_option maxHeartbeats 4000000 in
theorem w_b_La_law_195 {X : CX} {KX : Int32 × MS → Prop} {b L : Nat} {xs : Nat → Int32}  {a1 : Option Nat} {a2 : Option Nat} {a3 : Option Nat} {a4 : Int32} {a5 : Int32} {a6 : Int32} {a7 : Int32} {a8 : Int32} {s : MS} {rec : Int32 → Int32 → Int32 → Int32 → Int32 → MS → Option (Int32 × MS)} {sb : MS} {ce0 sl0 cB sB : Nat} (ok : Ok X code RL rm_La_law 19 true) (hse : SE X.2.2.2.1 X.1.2.2.2.2.1 ∧ X.1.2.1.stackTraces = false) (ht : Sc X b L xs) (hc1 : ce0 + 7578 ≤ cB) (hc2 : sl0 + 45857 ≤ sB) (hB1 : cB ≤ 600086) (hB2 : sB ≤ 7301442) (hexit : ∀ (e7 : Int32) (z : MS), KX (e7, z) → (∀ q, dm sb q → dm z q) → G X z cB sB 1121 [(0, vW (Value.ref b)), (7, vI e7)] []) (hrec : ∀ (v4 : Int32) (v5 : Int32) (v6 : Int32) (v7 : Int32) (v8 : Int32) (z : MS), (∀ q, dm sb q → dm z q) → ∀ y, rec v4 v5 v6 v7 v8 z = some y → KX y → G X z cB sB 195 [(0, vW (Value.ref b)), (1, vR a1), (2, vR a2), (3, vR a3), (4, vI v4), (5, vI v5), (6, vI v6), (7, vI v7), (8, vI v8)] []) (mb : ∀ q, dm sb q → dm s q) {res : Int32 × MS} (h : b_La_law_195 L xs a1 a2 a3 a4 a5 a6 a7 a8 s rec = some res) (hk : KX res) : G X s ce0 sl0 195 [(0, vW (Value.ref b)), (1, vR a1), (2, vR a2), (3, vR a3), (4, vI a4), (5, vI a5), (6, vI a6), (7, vI a7), (8, vI a8)] [] := by
  unfold b_La_law_195 at h
  refine g_iload (i := 8) 8 ok d_La_law_195 rfl ?_
  refine g_bipush (v := (40 : Int32)) ok d_La_law_197 (by decide) ?_
  refine g_icmp_ge (tgt := 1121) ok d_La_law_199 (by decide) (fun c121 => ?_) (fun c121 => ?_)
  · replace h := (if_pos c121).symm.trans h
    refine g_iload (i := 7) 7 ok d_La_law_202 rfl ?_
    refine g_if_eq (tgt := 1121) ok d_La_law_204 (by decide) (fun c122 => ?_) (fun c122 => ?_)
    · replace h := (if_pos c122).symm.trans h
      refine g_sub [0, 7] rfl ?_
      refine g_widen (ce' := cB) (sl' := sB) (by omega) (by omega) ?_
      cases h
      exact hexit a7 s hk mb
    · replace h := (if_neg c122).symm.trans h
      refine g_aloadw_n (i := 0) 0 ok d_La_law_207 rfl rfl ?_
      refine g_iconst (v := (4 : Int32)) ok d_La_law_208 (by decide) ?_
      refine g_iconst (v := (2 : Int32)) ok d_La_law_209 (by decide) ?_
      refine g_iload (i := 8) 8 ok d_La_law_210 rfl ?_
      refine g_imul ok d_La_law_212 ?_
      refine g_iadd ok d_La_law_213 ?_
      obtain ⟨x123, hc124, h⟩ := bnd_go h
      refine g_callD (rm2 := rm_La_draw) (As := [vW (Value.ref b), vI ((4 : Int32) + ((2 : Int32) * a8))]) (rest := []) ok ⟨ht.1, ht.2.1, ht.2.2.1⟩ (c_La_draw X.1.2.1 hc124) cm_La_draw cs_La_draw tw_185 ⟨rfl, rfl⟩ ⟨le_t rfl, le_t rfl⟩ ⟨rfl, le_t rfl⟩ ⟨(by show _ ≤ 600086; omega), (by show _ ≤ 7301442; omega)⟩ d_La_law_214 rfl ?_
      show G X s ce0 sl0 217 [(0, vW (Value.ref b)), (1, vR a1), (2, vR a2), (3, vR a3), (4, vI a4), (5, vI a5), (6, vI a6), (7, vI a7), (8, vI a8)] [vI x123]
      refine g_istore (i := 9) [(9, vI x123), (0, vW (Value.ref b)), (1, vR a1), (2, vR a2), (3, vR a3), (4, vI a4), (5, vI a5), (6, vI a6), (7, vI a7), (8, vI a8)] ok d_La_law_217 (by decide) rfl ?_
      refine g_aloadw_n (i := 0) 1 ok d_La_law_219 rfl rfl ?_
      refine g_iconst (v := (5 : Int32)) ok d_La_law_220 (by decide) ?_
      refine g_iconst (v := (2 : Int32)) ok d_La_law_221 (by decide) ?_
      refine g_iload (i := 8) 9 ok d_La_law_222 rfl ?_
      refine g_imul ok d_La_law_224 ?_
      refine g_iadd ok d_La_law_225 ?_
      obtain ⟨x125, hc126, h⟩ := bnd_go h
      refine g_callD (rm2 := rm_La_draw) (As := [vW (Value.ref b), vI ((5 : Int32) + ((2 : Int32) * a8))]) (rest := []) ok ⟨ht.1, ht.2.1, ht.2.2.1⟩ (c_La_draw X.1.2.1 hc126) cm_La_draw cs_La_draw tw_185 ⟨rfl, rfl⟩ ⟨le_t rfl, le_t rfl⟩ ⟨rfl, le_t rfl⟩ ⟨(by show _ ≤ 600086; omega), (by show _ ≤ 7301442; omega)⟩ d_La_law_226 rfl ?_
      show G X s ce0 sl0 229 [(9, vI x123), (0, vW (Value.ref b)), (1, vR a1), (2, vR a2), (3, vR a3), (4, vI a4), (5, vI a5), (6, vI a6), (7, vI a7), (8, vI a8)] [vI x125]
      refine g_istore (i := 10) [(10, vI x125), (9, vI x123), (0, vW (Value.ref b)), (1, vR a1), (2, vR a2), (3, vR a3), (4, vI a4), (5, vI a5), (6, vI a6), (7, vI a7), (8, vI a8)] ok d_La_law_229 (by decide) rfl ?_
      refine g_iload (i := 8) 10 ok d_La_law_231 rfl ?_
      refine g_iconst (v := (2 : Int32)) ok d_La_law_233 (by decide) ?_
      refine g_icmp_ge (tgt := 241) ok d_La_law_234 (by decide) (fun c127 => ?_) (fun c127 => ?_)
      · replace h := (if_pos c127).symm.trans h
        refine g_iconst (v := (0 : Int32)) ok d_La_law_237 (by decide) ?_
        refine g_goto (tgt := 246) ok d_La_law_238 (by decide) ?_
        refine g_sub [2, 3, 4, 5, 6, 7, 8, 10, 1, 0] rfl ?_
        exact w_j_La_law_246 ok hse ht (by omega) (by omega) hB1 hB2 hexit hrec mb h hk
      · replace h := (if_neg c127).symm.trans h
        refine g_iload (i := 9) 1 ok d_La_law_241 rfl ?_
        refine g_bipush (v := (12 : Int32)) ok d_La_law_243 (by decide) ?_
        refine g_irem ok d_La_law_245 (by decide) ?_
        refine g_sub [2, 3, 4, 5, 6, 7, 8, 10, 1, 0] rfl ?_
        exact w_j_La_law_246 ok hse ht (by omega) (by omega) hB1 hB2 hexit hrec mb h hk
  · replace h := (if_neg c121).symm.trans h
    refine g_sub [0, 7] rfl ?_
    refine g_widen (ce' := cB) (sl' := sB) (by omega) (by omega) ?_
    cases h
    exact hexit a7 s hk mb
set_option maxHeartbeats 4000000 in
theorem wx_l_La_law_195 {X : CX} {KX : Int32 × MS → Prop} {b L : Nat} {xs : Nat → Int32} {a1 : Option Nat} {a2 : Option Nat} {a3 : Option Nat} {sb : MS} {c0 d0 : Nat} (ok : Ok X code RL rm_La_law 19 true) (hse : SE X.2.2.2.1 X.1.2.2.2.2.1 ∧ X.1.2.1.stackTraces = false) (ht : Sc X b L xs) (hc1 : c0 + 318276 ≤ 600086) (hc2 : d0 + 1925994 ≤ 7301442) (hexit : ∀ (e7 : Int32) (z : MS), KX (e7, z) → (∀ q, dm sb q → dm z q) → G X z (c0 + 318276) (d0 + 1925994) 1121 [(0, vW (Value.ref b)), (7, vI e7)] []) : ∀ (n : Nat), n ≤ 42 → ∀ (a4 : Int32) (a5 : Int32) (a6 : Int32) (a7 : Int32) (a8 : Int32) (s : MS), (∀ q, dm sb q → dm s q) → ∀ (res : Int32 × MS), l_La_law_195 L xs a1 a2 a3 n a4 a5 a6 a7 a8 s = some res → KX res → G X s (c0 + (42 - n) * 7578) (d0 + (42 - n) * 45857) 195 [(0, vW (Value.ref b)), (1, vR a1), (2, vR a2), (3, vR a3), (4, vI a4), (5, vI a5), (6, vI a6), (7, vI a7), (8, vI a8)] [] := by
  intro n
  induction n with
  | zero => intro _ _ _ _ _ _ s _ res h; cases h
  | succ n ih =>
    intro hn a4 a5 a6 a7 a8 s mb res h hk
    exact w_b_La_law_195 (cB := c0 + (42 - n) * 7578) (sB := d0 + (42 - n) * 45857) ok hse ht (by omega) (by omega) (by omega) (by omega) (fun e7 z k1 k2 => g_widen (by omega) (by omega) (hexit e7 z k1 k2)) (fun v4 v5 v6 v7 v8 z hz y h2 hk2 => ih (by omega) v4 v5 v6 v7 v8 z hz y h2 hk2) mb h hk
theorem w_l_La_law_195 {X : CX} {KX : Int32 × MS → Prop} {b L : Nat} {xs : Nat → Int32} {a1 : Option Nat} {a2 : Option Nat} {a3 : Option Nat} {sb : MS} {c0 d0 : Nat} (ok : Ok X code RL rm_La_law 19 true) (hse : SE X.2.2.2.1 X.1.2.2.2.2.1 ∧ X.1.2.1.stackTraces = false) (ht : Sc X b L xs) (hc1 : c0 + 318276 ≤ 600086) (hc2 : d0 + 1925994 ≤ 7301442) (hexit : ∀ (e7 : Int32) (z : MS), KX (e7, z) → (∀ q, dm sb q → dm z q) → G X z (c0 + 318276) (d0 + 1925994) 1121 [(0, vW (Value.ref b)), (7, vI e7)] []) (a4 : Int32) (a5 : Int32) (a6 : Int32) (a7 : Int32) (a8 : Int32) {res : Int32 × MS} (h : l_La_law_195 L xs a1 a2 a3 42 a4 a5 a6 a7 a8 sb = some res) (hk : KX res) : G X sb c0 d0 195 [(0, vW (Value.ref b)), (1, vR a1), (2, vR a2), (3, vR a3), (4, vI a4), (5, vI a5), (6, vI a6), (7, vI a7), (8, vI a8)] [] := by
  have q := wx_l_La_law_195 ok hse ht hc1 hc2 hexit 42 (Nat.le_refl _) a4 a5 a6 a7 a8 sb (fun _ hz => hz) res h hk
  simp only [Nat.sub_self, Nat.zero_mul, Nat.add_zero] at q
  exact q
set_option maxRecDepth 100000 in
set_option maxHeartbeats 4000000 in
theorem w_La_law {X : CX} {KX : Int32 → Prop} {b L : Nat} {xs : Nat → Int32} {s : MS} (ok : Ok X code RL rm_La_law 19 true) (ht : Sc X b L xs) (hret : ∀ r : Int32, KX r → r = 1) {res : Int32} (h : f_La_law L xs s = some res) (hk : KX res) : G X s 0 0 0 [(0, vW (Value.ref b))] [] := by
  have hse : SE X.2.2.2.1 X.1.2.2.2.2.1 ∧ X.1.2.1.stackTraces = false := ⟨ht.2.2.2.1, ht.2.2.2.2.1⟩
  unfold f_La_law at h
  obtain ⟨o1, e2⟩ : ∃ z, nid s 0 = z := ⟨_, rfl⟩
  replace h := lt_go h e2
  refine g_new (s0 := 0) (ci := 4) (C := RX4) (T := TX4) (N := 14) (ty := tyX4) ok (by decide) lay_0 rfl inX4 tyX4_ok hdfX4 tw_13 tw_14 tw_1 ⟨trivial, trivial⟩ trivial (by show _ ≤ 600086; omega) (by show _ ≤ 7301442; omega) d_La_law_0 ?_
  rw [e2]
  obtain ⟨s3, e4⟩ : ∃ z, nw s 0 = z := ⟨_, rfl⟩
  replace h := lt_go h e4
  have m5 := mo_nw (by decide) e4
  rw [e4]
  have hk6 : rf s3.2.2 0 (some o1) = some o1 := by rw [← e2]; exact rf_new (by decide) e4
  refine g_dup ok d_La_law_3 rfl ?_
  obtain ⟨s9, hc8, h⟩ := bnd_go h
  refine g_invIA (rm2 := rm_Sk_init) (As := []) (rest := [vR (some o1)]) ok hk6 (c_Sk_init X.1.2.1 (rf_self hk6) hc8) cm_Sk_init ci_Sk_init tw_15 ⟨rfl, rfl⟩ ⟨le_t rfl, le_t rfl⟩ ⟨rfl, le_t rfl⟩ ⟨(by show _ ≤ 600086; omega), (by show _ ≤ 7301442; omega)⟩ ⟨trivial, trivial⟩ ⟨(rk_of hk6), trivial⟩ d_La_law_4 rfl (fun m7 => ?_)
  show G X s9 ((0 + 1) + 11) ((0 + 14) + 311) 7 [(0, vW (Value.ref b))] [vR (some o1)]
  obtain ⟨x10, e11⟩ : ∃ z, (some o1) = z := ⟨_, rfl⟩
  replace h := lt_go h e11
  rw [e11]
  refine g_astore_n (i := 1) [(1, vR x10), (0, vW (Value.ref b))] ok d_La_law_7 rfl (by decide) rfl ?_
  refine g_iconst (v := (4 : Int32)) ok d_La_law_8 (by decide) ?_
  obtain ⟨k12, hk13, h⟩ := bnd_go h
  obtain ⟨o14, e15⟩ : ∃ z, nid s9 50 = z := ⟨_, rfl⟩
  replace h := lt_go h e15
  refine g_newa0 (s0 := 50) (n := 4) ok (by decide) lay_50 (by decide) (by decide) (by decide) tw_46 ⟨(rk_of hk13), ⟨trivial, trivial⟩⟩ trivial (by show _ ≤ 600086; omega) (by show _ ≤ 7301442; omega) d_La_law_9 ?_
  rw [e15]
  obtain ⟨s16, e17⟩ : ∃ z, nw s9 50 = z := ⟨_, rfl⟩
  replace h := lt_go h e17
  have m18 := mo_nw (by decide) e17
  rw [e17]
  have hk19 : rf s16.2.2 50 (some o14) = some o14 := by rw [← e15]; exact rf_new (by decide) e17
  obtain ⟨x20, e21⟩ : ∃ z, (some o14) = z := ⟨_, rfl⟩
  replace h := lt_go h e21
  rw [e21]
  refine g_astore_n (i := 2) [(2, vR x20), (1, vR x10), (0, vW (Value.ref b))] ok d_La_law_11 rfl (by decide) rfl ?_
  refine g_aload_n (i := 2) 0 ok d_La_law_12 rfl rfl ?_
  refine g_iconst (v := (0 : Int32)) ok d_La_law_13 (by decide) ?_
  refine g_iconst (v := (3 : Int32)) ok d_La_law_14 (by decide) ?_
  obtain ⟨k22, hk23, h⟩ := bnd_go h
  refine g_iast ok hk23 d_La_law_15 ?_
  obtain ⟨s24, e25⟩ : ∃ z, wi s16 k22 (0 : Int32).toNatClampNeg (3 : Int32) = z := ⟨_, rfl⟩
  replace h := lt_go h e25
  have m26 := mo_wi e25
  rw [e25]
  refine g_aload_n (i := 2) 0 ok d_La_law_16 rfl rfl ?_
  refine g_iconst (v := (1 : Int32)) ok d_La_law_17 (by decide) ?_
  refine g_bipush (v := (27 : Int32)) ok d_La_law_18 (by decide) ?_
  obtain ⟨k27, hk28, h⟩ := bnd_go h
  refine g_iast ok hk28 d_La_law_20 ?_
  obtain ⟨s29, e30⟩ : ∃ z, wi s24 k27 (1 : Int32).toNatClampNeg (27 : Int32) = z := ⟨_, rfl⟩
  replace h := lt_go h e30
  have m31 := mo_wi e30
  rw [e30]
  refine g_aload_n (i := 2) 0 ok d_La_law_21 rfl rfl ?_
  refine g_iconst (v := (2 : Int32)) ok d_La_law_22 (by decide) ?_
  refine g_bipush (v := (50 : Int32)) ok d_La_law_23 (by decide) ?_
  obtain ⟨k32, hk33, h⟩ := bnd_go h
  refine g_iast ok hk33 d_La_law_25 ?_
  obtain ⟨s34, e35⟩ : ∃ z, wi s29 k32 (2 : Int32).toNatClampNeg (50 : Int32) = z := ⟨_, rfl⟩
  replace h := lt_go h e35
  have m36 := mo_wi e35
  rw [e35]
  refine g_aload_n (i := 2) 0 ok d_La_law_26 rfl rfl ?_
  refine g_iconst (v := (3 : Int32)) ok d_La_law_27 (by decide) ?_
  refine g_bipush (v := (96 : Int32)) ok d_La_law_28 (by decide) ?_
  obtain ⟨k37, hk38, h⟩ := bnd_go h
  refine g_iast ok hk38 d_La_law_30 ?_
  obtain ⟨s39, e40⟩ : ∃ z, wi s34 k37 (3 : Int32).toNatClampNeg (96 : Int32) = z := ⟨_, rfl⟩
  replace h := lt_go h e40
  have m41 := mo_wi e40
  rw [e40]
  refine g_bipush (v := (10 : Int32)) ok d_La_law_31 (by decide) ?_
  obtain ⟨n42, hn43, h⟩ := bnd_go h
  obtain ⟨o44, e45⟩ : ∃ z, nid s39 51 = z := ⟨_, rfl⟩
  replace h := lt_go h e45
  refine g_newa0 (s0 := 51) (n := 10) ok (by decide) lay_51 (by decide) (by decide) (by decide) tw_46 ⟨(rk_rl hn43), ⟨(rk_of (rf_mono m41 (rf_mono m36 (rf_mono m31 (rf_mono m26 (rf_mono m18 hk13)))))), ⟨trivial, trivial⟩⟩⟩ trivial (by show _ ≤ 600086; omega) (by show _ ≤ 7301442; omega) d_La_law_33 ?_
  rw [e45]
  obtain ⟨s46, e47⟩ : ∃ z, nw s39 51 = z := ⟨_, rfl⟩
  replace h := lt_go h e47
  have m48 := mo_nw (by decide) e47
  rw [e47]
  have hk49 : rf s46.2.2 51 (some o44) = some o44 := by rw [← e45]; exact rf_new (by decide) e47
  obtain ⟨x50, e51⟩ : ∃ z, (some o44) = z := ⟨_, rfl⟩
  replace h := lt_go h e51
  rw [e51]
  refine g_astore_n (i := 3) [(3, vR x50), (2, vR x20), (1, vR x10), (0, vW (Value.ref b))] ok d_La_law_35 rfl (by decide) rfl ?_
  refine g_iconst (v := (0 : Int32)) ok d_La_law_36 (by decide) ?_
  refine g_istore (i := 4) [(4, vI (0 : Int32)), (3, vR x50), (2, vR x20), (1, vR x10), (0, vW (Value.ref b))] ok d_La_law_37 (by decide) rfl ?_
  refine g_iconst (v := (0 : Int32)) ok d_La_law_39 (by decide) ?_
  refine g_istore (i := 5) [(5, vI (0 : Int32)), (4, vI (0 : Int32)), (3, vR x50), (2, vR x20), (1, vR x10), (0, vW (Value.ref b))] ok d_La_law_40 (by decide) rfl ?_
  refine g_iconst (v := (0 : Int32)) ok d_La_law_42 (by decide) ?_
  refine g_istore (i := 6) [(6, vI (0 : Int32)), (5, vI (0 : Int32)), (4, vI (0 : Int32)), (3, vR x50), (2, vR x20), (1, vR x10), (0, vW (Value.ref b))] ok d_La_law_43 (by decide) rfl ?_
  refine g_iconst (v := (1 : Int32)) ok d_La_law_45 (by decide) ?_
  refine g_istore (i := 7) [(7, vI (1 : Int32)), (6, vI (0 : Int32)), (5, vI (0 : Int32)), (4, vI (0 : Int32)), (3, vR x50), (2, vR x20), (1, vR x10), (0, vW (Value.ref b))] ok d_La_law_46 (by decide) rfl ?_
  refine g_iconst (v := (0 : Int32)) ok d_La_law_48 (by decide) ?_
  refine g_istore (i := 8) [(8, vI (0 : Int32)), (7, vI (1 : Int32)), (6, vI (0 : Int32)), (5, vI (0 : Int32)), (4, vI (0 : Int32)), (3, vR x50), (2, vR x20), (1, vR x10), (0, vW (Value.ref b))] ok d_La_law_49 (by decide) rfl ?_
  refine g_sub [8, 7, 6, 5, 4, 3, 2, 1, 0] rfl ?_
  obtain ⟨e73, s75, hx, h⟩ := bnd2_go h
  refine w_l_La_law_51 (KX := fun y => y = (e73, s75)) (c0 := ((((0 + 1) + 11) + 1) + 1)) (d0 := ((((0 + 14) + 311) + 4) + 10)) ok hse ht (by omega) (by omega) (fun y0 y1 he m74 => ?_) _ _ hx rfl
  cases he
  refine g_iconst (v := (0 : Int32)) ok d_La_law_122 (by decide) ?_
  refine g_istore (i := 8) [(8, vI (0 : Int32)), (0, vW (Value.ref b)), (1, vR x10), (2, vR x20), (3, vR x50), (4, vI (0 : Int32)), (5, vI (0 : Int32)), (6, vI (0 : Int32)), (7, vI e73)] ok d_La_law_123 (by decide) rfl ?_
  refine g_sub [1, 2, 3, 4, 5, 6, 7, 8, 0] rfl ?_
  obtain ⟨e118, s120, hx, h⟩ := bnd2_go h
  refine w_l_La_law_125 (KX := fun y => y = (e118, s120)) (c0 := (((((0 + 1) + 11) + 1) + 1) + 6)) (d0 := (((((0 + 14) + 311) + 4) + 10) + 36)) ok hse ht (by omega) (by omega) (fun y0 y1 he m119 => ?_) _ _ hx rfl
  cases he
  refine g_iconst (v := (0 : Int32)) ok d_La_law_192 (by decide) ?_
  refine g_istore (i := 8) [(8, vI (0 : Int32)), (0, vW (Value.ref b)), (1, vR x10), (2, vR x20), (3, vR x50), (4, vI (0 : Int32)), (5, vI (0 : Int32)), (6, vI (0 : Int32)), (7, vI e118)] ok d_La_law_193 (by decide) rfl ?_
  refine g_sub [1, 2, 3, 4, 5, 6, 7, 8, 0] rfl ?_
  obtain ⟨e469, s471, hx, h⟩ := bnd2_go h
  refine w_l_La_law_195 (KX := fun y => y = (e469, s471)) (c0 := ((((((0 + 1) + 11) + 1) + 1) + 6) + 18)) (d0 := ((((((0 + 14) + 311) + 4) + 10) + 36) + 108)) ok hse ht (by omega) (by omega) (fun y0 y1 he m470 => ?_) _ _ _ _ _ hx rfl
  cases he
  refine g_iload (i := 7) 1 ok d_La_law_1121 rfl ?_
  have e0 := Option.some.inj h
  rw [← e0] at hk
  have e1 : e469 = 1 := hret _ hk
  rw [e1]
  exact g_lret ok ht (by omega) (by omega) d_La_law_1123
