abbrev rm_La_law : Room := room_1
theorem d_La_law_0 : decode code 0 = .ok (.new 8, 3) := by decide +kernel
theorem d_La_law_3 : decode code 3 = .ok (.dup, 1) := by decide +kernel
theorem d_La_law_4 : decode code 4 = .ok (.invokespecial 84, 3) := by decide +kernel
theorem d_La_law_7 : decode code 7 = .ok (.astore_n 1, 1) := by decide +kernel
theorem d_La_law_8 : decode code 8 = .ok (.new 85, 3) := by decide +kernel
theorem d_La_law_11 : decode code 11 = .ok (.dup, 1) := by decide +kernel
theorem d_La_law_12 : decode code 12 = .ok (.invokespecial 87, 3) := by decide +kernel
theorem d_La_law_15 : decode code 15 = .ok (.astore_n 2, 1) := by decide +kernel
theorem d_La_law_16 : decode code 16 = .ok (.iconst 1, 1) := by decide +kernel
theorem d_La_law_17 : decode code 17 = .ok (.newarray .long, 2) := by decide +kernel
theorem d_La_law_19 : decode code 19 = .ok (.astore_n 3, 1) := by decide +kernel
theorem d_La_law_20 : decode code 20 = .ok (.iconst 0, 1) := by decide +kernel
theorem d_La_law_21 : decode code 21 = .ok (.istore 4, 2) := by decide +kernel
theorem d_La_law_23 : decode code 23 = .ok (.iload 4, 2) := by decide +kernel
theorem d_La_law_25 : decode code 25 = .ok (.aload_n 0, 1) := by decide +kernel
theorem d_La_law_26 : decode code 26 = .ok (.arraylength, 1) := by decide +kernel
theorem d_La_law_27 : decode code 27 = .ok (.bipush 6, 2) := by decide +kernel
theorem d_La_law_29 : decode code 29 = .ok (.isub, 1) := by decide +kernel
theorem d_La_law_30 : decode code 30 = .ok (.if_icmp .gt 1550, 3) := by decide +kernel
theorem d_La_law_33 : decode code 33 = .ok (.aload_n 0, 1) := by decide +kernel
theorem d_La_law_34 : decode code 34 = .ok (.iload 4, 2) := by decide +kernel
theorem d_La_law_36 : decode code 36 = .ok (.iaload, 1) := by decide +kernel
theorem d_La_law_37 : decode code 37 = .ok (.bipush 31, 2) := by decide +kernel
theorem d_La_law_39 : decode code 39 = .ok (.iand, 1) := by decide +kernel
theorem d_La_law_40 : decode code 40 = .ok (.tableswitch 1534 0 24 #[116, 184, 240, 308, 376, 480, 516, 596, 664, 677, 733, 813, 826, 862, 918, 974, 1042, 1055, 1068, 1124, 1192, 1267, 1342, 1410, 1478], 116) := by decide +kernel
theorem d_La_law_156 : decode code 156 = .ok (.aload_n 1, 1) := by decide +kernel
theorem d_La_law_157 : decode code 157 = .ok (.aload_n 0, 1) := by decide +kernel
theorem d_La_law_158 : decode code 158 = .ok (.iload 4, 2) := by decide +kernel
theorem d_La_law_160 : decode code 160 = .ok (.iconst 1, 1) := by decide +kernel
theorem d_La_law_161 : decode code 161 = .ok (.iadd, 1) := by decide +kernel
theorem d_La_law_162 : decode code 162 = .ok (.iaload, 1) := by decide +kernel
theorem d_La_law_163 : decode code 163 = .ok (.aload_n 0, 1) := by decide +kernel
theorem d_La_law_164 : decode code 164 = .ok (.iload 4, 2) := by decide +kernel
theorem d_La_law_166 : decode code 166 = .ok (.iconst 2, 1) := by decide +kernel
theorem d_La_law_167 : decode code 167 = .ok (.iadd, 1) := by decide +kernel
theorem d_La_law_168 : decode code 168 = .ok (.iaload, 1) := by decide +kernel
theorem d_La_law_169 : decode code 169 = .ok (.aload_n 3, 1) := by decide +kernel
theorem d_La_law_170 : decode code 170 = .ok (.invokestatic 88, 3) := by decide +kernel
theorem d_La_law_173 : decode code 173 = .ok (.istore 5, 2) := by decide +kernel
theorem d_La_law_175 : decode code 175 = .ok (.aload_n 2, 1) := by decide +kernel
theorem d_La_law_176 : decode code 176 = .ok (.aload_n 0, 1) := by decide +kernel
theorem d_La_law_177 : decode code 177 = .ok (.iload 4, 2) := by decide +kernel
theorem d_La_law_179 : decode code 179 = .ok (.iconst 1, 1) := by decide +kernel
theorem d_La_law_180 : decode code 180 = .ok (.iadd, 1) := by decide +kernel
theorem d_La_law_181 : decode code 181 = .ok (.iaload, 1) := by decide +kernel
theorem d_La_law_182 : decode code 182 = .ok (.aload_n 0, 1) := by decide +kernel
theorem d_La_law_183 : decode code 183 = .ok (.iload 4, 2) := by decide +kernel
theorem d_La_law_185 : decode code 185 = .ok (.iconst 2, 1) := by decide +kernel
theorem d_La_law_186 : decode code 186 = .ok (.iadd, 1) := by decide +kernel
theorem d_La_law_187 : decode code 187 = .ok (.iaload, 1) := by decide +kernel
theorem d_La_law_188 : decode code 188 = .ok (.invokevirtual 93, 3) := by decide +kernel
theorem d_La_law_191 : decode code 191 = .ok (.istore 6, 2) := by decide +kernel
theorem d_La_law_193 : decode code 193 = .ok (.aload_n 2, 1) := by decide +kernel
theorem d_La_law_194 : decode code 194 = .ok (.invokevirtual 94, 3) := by decide +kernel
theorem d_La_law_197 : decode code 197 = .ok (.iload 5, 2) := by decide +kernel
theorem d_La_law_199 : decode code 199 = .ok (.if_icmp .eq 5, 3) := by decide +kernel
theorem d_La_law_202 : decode code 202 = .ok (.iconst 0, 1) := by decide +kernel
theorem d_La_law_203 : decode code 203 = .ok (.ireturn, 1) := by decide +kernel
theorem d_La_law_204 : decode code 204 = .ok (.iload 5, 2) := by decide +kernel
theorem d_La_law_206 : decode code 206 = .ok (.ifCond .ne 15, 3) := by decide +kernel
theorem d_La_law_209 : decode code 209 = .ok (.aload_n 3, 1) := by decide +kernel
theorem d_La_law_210 : decode code 210 = .ok (.iconst 0, 1) := by decide +kernel
theorem d_La_law_211 : decode code 211 = .ok (.laload, 1) := by decide +kernel
theorem d_La_law_212 : decode code 212 = .ok (.iload 6, 2) := by decide +kernel
theorem d_La_law_214 : decode code 214 = .ok (.i2l, 1) := by decide +kernel
theorem d_La_law_215 : decode code 215 = .ok (.lcmp, 1) := by decide +kernel
theorem d_La_law_216 : decode code 216 = .ok (.ifCond .eq 5, 3) := by decide +kernel
theorem d_La_law_219 : decode code 219 = .ok (.iconst 0, 1) := by decide +kernel
theorem d_La_law_220 : decode code 220 = .ok (.ireturn, 1) := by decide +kernel
theorem d_La_law_221 : decode code 221 = .ok (.goto 1353, 3) := by decide +kernel
theorem d_La_law_224 : decode code 224 = .ok (.aload_n 1, 1) := by decide +kernel
theorem d_La_law_225 : decode code 225 = .ok (.aload_n 0, 1) := by decide +kernel
theorem d_La_law_226 : decode code 226 = .ok (.iload 4, 2) := by decide +kernel
theorem d_La_law_228 : decode code 228 = .ok (.iconst 1, 1) := by decide +kernel
theorem d_La_law_229 : decode code 229 = .ok (.iadd, 1) := by decide +kernel
theorem d_La_law_230 : decode code 230 = .ok (.iaload, 1) := by decide +kernel
theorem d_La_law_231 : decode code 231 = .ok (.aload_n 3, 1) := by decide +kernel
theorem d_La_law_232 : decode code 232 = .ok (.invokestatic 98, 3) := by decide +kernel
theorem d_La_law_235 : decode code 235 = .ok (.istore 5, 2) := by decide +kernel
theorem d_La_law_237 : decode code 237 = .ok (.aload_n 2, 1) := by decide +kernel
theorem d_La_law_238 : decode code 238 = .ok (.aload_n 0, 1) := by decide +kernel
theorem d_La_law_239 : decode code 239 = .ok (.iload 4, 2) := by decide +kernel
theorem d_La_law_241 : decode code 241 = .ok (.iconst 1, 1) := by decide +kernel
theorem d_La_law_242 : decode code 242 = .ok (.iadd, 1) := by decide +kernel
theorem d_La_law_243 : decode code 243 = .ok (.iaload, 1) := by decide +kernel
theorem d_La_law_244 : decode code 244 = .ok (.invokevirtual 101, 3) := by decide +kernel
theorem d_La_law_247 : decode code 247 = .ok (.istore 6, 2) := by decide +kernel
theorem d_La_law_249 : decode code 249 = .ok (.aload_n 2, 1) := by decide +kernel
theorem d_La_law_250 : decode code 250 = .ok (.invokevirtual 94, 3) := by decide +kernel
theorem d_La_law_253 : decode code 253 = .ok (.iload 5, 2) := by decide +kernel
theorem d_La_law_255 : decode code 255 = .ok (.if_icmp .eq 5, 3) := by decide +kernel
theorem d_La_law_258 : decode code 258 = .ok (.iconst 0, 1) := by decide +kernel
theorem d_La_law_259 : decode code 259 = .ok (.ireturn, 1) := by decide +kernel
theorem d_La_law_260 : decode code 260 = .ok (.iload 5, 2) := by decide +kernel
theorem d_La_law_262 : decode code 262 = .ok (.ifCond .ne 15, 3) := by decide +kernel
theorem d_La_law_265 : decode code 265 = .ok (.aload_n 3, 1) := by decide +kernel
theorem d_La_law_266 : decode code 266 = .ok (.iconst 0, 1) := by decide +kernel
theorem d_La_law_267 : decode code 267 = .ok (.laload, 1) := by decide +kernel
theorem d_La_law_268 : decode code 268 = .ok (.iload 6, 2) := by decide +kernel
theorem d_La_law_270 : decode code 270 = .ok (.i2l, 1) := by decide +kernel
theorem d_La_law_271 : decode code 271 = .ok (.lcmp, 1) := by decide +kernel
theorem d_La_law_272 : decode code 272 = .ok (.ifCond .eq 5, 3) := by decide +kernel
theorem d_La_law_275 : decode code 275 = .ok (.iconst 0, 1) := by decide +kernel
theorem d_La_law_276 : decode code 276 = .ok (.ireturn, 1) := by decide +kernel
theorem d_La_law_277 : decode code 277 = .ok (.goto 1297, 3) := by decide +kernel
theorem d_La_law_280 : decode code 280 = .ok (.aload_n 1, 1) := by decide +kernel
theorem d_La_law_281 : decode code 281 = .ok (.aload_n 0, 1) := by decide +kernel
theorem d_La_law_282 : decode code 282 = .ok (.iload 4, 2) := by decide +kernel
theorem d_La_law_284 : decode code 284 = .ok (.iconst 1, 1) := by decide +kernel
theorem d_La_law_285 : decode code 285 = .ok (.iadd, 1) := by decide +kernel
theorem d_La_law_286 : decode code 286 = .ok (.iaload, 1) := by decide +kernel
theorem d_La_law_287 : decode code 287 = .ok (.aload_n 0, 1) := by decide +kernel
theorem d_La_law_288 : decode code 288 = .ok (.iload 4, 2) := by decide +kernel
theorem d_La_law_290 : decode code 290 = .ok (.iconst 2, 1) := by decide +kernel
theorem d_La_law_291 : decode code 291 = .ok (.iadd, 1) := by decide +kernel
theorem d_La_law_292 : decode code 292 = .ok (.iaload, 1) := by decide +kernel
theorem d_La_law_293 : decode code 293 = .ok (.aload_n 3, 1) := by decide +kernel
theorem d_La_law_294 : decode code 294 = .ok (.invokestatic 102, 3) := by decide +kernel
theorem d_La_law_297 : decode code 297 = .ok (.istore 5, 2) := by decide +kernel
theorem d_La_law_299 : decode code 299 = .ok (.aload_n 2, 1) := by decide +kernel
theorem d_La_law_300 : decode code 300 = .ok (.aload_n 0, 1) := by decide +kernel
theorem d_La_law_301 : decode code 301 = .ok (.iload 4, 2) := by decide +kernel
theorem d_La_law_303 : decode code 303 = .ok (.iconst 1, 1) := by decide +kernel
theorem d_La_law_304 : decode code 304 = .ok (.iadd, 1) := by decide +kernel
theorem d_La_law_305 : decode code 305 = .ok (.iaload, 1) := by decide +kernel
theorem d_La_law_306 : decode code 306 = .ok (.aload_n 0, 1) := by decide +kernel
theorem d_La_law_307 : decode code 307 = .ok (.iload 4, 2) := by decide +kernel
theorem d_La_law_309 : decode code 309 = .ok (.iconst 2, 1) := by decide +kernel
theorem d_La_law_310 : decode code 310 = .ok (.iadd, 1) := by decide +kernel
theorem d_La_law_311 : decode code 311 = .ok (.iaload, 1) := by decide +kernel
theorem d_La_law_312 : decode code 312 = .ok (.invokevirtual 104, 3) := by decide +kernel
theorem d_La_law_315 : decode code 315 = .ok (.istore 6, 2) := by decide +kernel
theorem d_La_law_317 : decode code 317 = .ok (.aload_n 2, 1) := by decide +kernel
theorem d_La_law_318 : decode code 318 = .ok (.invokevirtual 94, 3) := by decide +kernel
theorem d_La_law_321 : decode code 321 = .ok (.iload 5, 2) := by decide +kernel
theorem d_La_law_323 : decode code 323 = .ok (.if_icmp .eq 5, 3) := by decide +kernel
theorem d_La_law_326 : decode code 326 = .ok (.iconst 0, 1) := by decide +kernel
theorem d_La_law_327 : decode code 327 = .ok (.ireturn, 1) := by decide +kernel
theorem d_La_law_328 : decode code 328 = .ok (.iload 5, 2) := by decide +kernel
theorem d_La_law_330 : decode code 330 = .ok (.ifCond .ne 15, 3) := by decide +kernel
theorem d_La_law_333 : decode code 333 = .ok (.aload_n 3, 1) := by decide +kernel
theorem d_La_law_334 : decode code 334 = .ok (.iconst 0, 1) := by decide +kernel
theorem d_La_law_335 : decode code 335 = .ok (.laload, 1) := by decide +kernel
theorem d_La_law_336 : decode code 336 = .ok (.iload 6, 2) := by decide +kernel
theorem d_La_law_338 : decode code 338 = .ok (.i2l, 1) := by decide +kernel
theorem d_La_law_339 : decode code 339 = .ok (.lcmp, 1) := by decide +kernel
theorem d_La_law_340 : decode code 340 = .ok (.ifCond .eq 5, 3) := by decide +kernel
theorem d_La_law_343 : decode code 343 = .ok (.iconst 0, 1) := by decide +kernel
theorem d_La_law_344 : decode code 344 = .ok (.ireturn, 1) := by decide +kernel
theorem d_La_law_345 : decode code 345 = .ok (.goto 1229, 3) := by decide +kernel
theorem d_La_law_348 : decode code 348 = .ok (.aload_n 1, 1) := by decide +kernel
theorem d_La_law_349 : decode code 349 = .ok (.aload_n 0, 1) := by decide +kernel
theorem d_La_law_350 : decode code 350 = .ok (.iload 4, 2) := by decide +kernel
theorem d_La_law_352 : decode code 352 = .ok (.iconst 1, 1) := by decide +kernel
theorem d_La_law_353 : decode code 353 = .ok (.iadd, 1) := by decide +kernel
theorem d_La_law_354 : decode code 354 = .ok (.iaload, 1) := by decide +kernel
theorem d_La_law_355 : decode code 355 = .ok (.aload_n 0, 1) := by decide +kernel
theorem d_La_law_356 : decode code 356 = .ok (.iload 4, 2) := by decide +kernel
theorem d_La_law_358 : decode code 358 = .ok (.iconst 2, 1) := by decide +kernel
theorem d_La_law_359 : decode code 359 = .ok (.iadd, 1) := by decide +kernel
theorem d_La_law_360 : decode code 360 = .ok (.iaload, 1) := by decide +kernel
theorem d_La_law_361 : decode code 361 = .ok (.aload_n 3, 1) := by decide +kernel
theorem d_La_law_362 : decode code 362 = .ok (.invokestatic 105, 3) := by decide +kernel
theorem d_La_law_365 : decode code 365 = .ok (.istore 5, 2) := by decide +kernel
theorem d_La_law_367 : decode code 367 = .ok (.aload_n 2, 1) := by decide +kernel
theorem d_La_law_368 : decode code 368 = .ok (.aload_n 0, 1) := by decide +kernel
theorem d_La_law_369 : decode code 369 = .ok (.iload 4, 2) := by decide +kernel
theorem d_La_law_371 : decode code 371 = .ok (.iconst 1, 1) := by decide +kernel
theorem d_La_law_372 : decode code 372 = .ok (.iadd, 1) := by decide +kernel
theorem d_La_law_373 : decode code 373 = .ok (.iaload, 1) := by decide +kernel
theorem d_La_law_374 : decode code 374 = .ok (.aload_n 0, 1) := by decide +kernel
theorem d_La_law_375 : decode code 375 = .ok (.iload 4, 2) := by decide +kernel
theorem d_La_law_377 : decode code 377 = .ok (.iconst 2, 1) := by decide +kernel
theorem d_La_law_378 : decode code 378 = .ok (.iadd, 1) := by decide +kernel
theorem d_La_law_379 : decode code 379 = .ok (.iaload, 1) := by decide +kernel
theorem d_La_law_380 : decode code 380 = .ok (.invokevirtual 107, 3) := by decide +kernel
theorem d_La_law_383 : decode code 383 = .ok (.istore 6, 2) := by decide +kernel
theorem d_La_law_385 : decode code 385 = .ok (.aload_n 2, 1) := by decide +kernel
theorem d_La_law_386 : decode code 386 = .ok (.invokevirtual 94, 3) := by decide +kernel
theorem d_La_law_389 : decode code 389 = .ok (.iload 5, 2) := by decide +kernel
theorem d_La_law_391 : decode code 391 = .ok (.if_icmp .eq 5, 3) := by decide +kernel
theorem d_La_law_394 : decode code 394 = .ok (.iconst 0, 1) := by decide +kernel
theorem d_La_law_395 : decode code 395 = .ok (.ireturn, 1) := by decide +kernel
theorem d_La_law_396 : decode code 396 = .ok (.iload 5, 2) := by decide +kernel
theorem d_La_law_398 : decode code 398 = .ok (.ifCond .ne 15, 3) := by decide +kernel
theorem d_La_law_401 : decode code 401 = .ok (.aload_n 3, 1) := by decide +kernel
theorem d_La_law_402 : decode code 402 = .ok (.iconst 0, 1) := by decide +kernel
theorem d_La_law_403 : decode code 403 = .ok (.laload, 1) := by decide +kernel
theorem d_La_law_404 : decode code 404 = .ok (.iload 6, 2) := by decide +kernel
theorem d_La_law_406 : decode code 406 = .ok (.i2l, 1) := by decide +kernel
theorem d_La_law_407 : decode code 407 = .ok (.lcmp, 1) := by decide +kernel
theorem d_La_law_408 : decode code 408 = .ok (.ifCond .eq 5, 3) := by decide +kernel
theorem d_La_law_411 : decode code 411 = .ok (.iconst 0, 1) := by decide +kernel
theorem d_La_law_412 : decode code 412 = .ok (.ireturn, 1) := by decide +kernel
theorem d_La_law_413 : decode code 413 = .ok (.goto 1161, 3) := by decide +kernel
theorem d_La_law_416 : decode code 416 = .ok (.aload_n 1, 1) := by decide +kernel
theorem d_La_law_417 : decode code 417 = .ok (.aload_n 0, 1) := by decide +kernel
theorem d_La_law_418 : decode code 418 = .ok (.iload 4, 2) := by decide +kernel
theorem d_La_law_420 : decode code 420 = .ok (.iconst 1, 1) := by decide +kernel
theorem d_La_law_421 : decode code 421 = .ok (.iadd, 1) := by decide +kernel
theorem d_La_law_422 : decode code 422 = .ok (.iaload, 1) := by decide +kernel
theorem d_La_law_423 : decode code 423 = .ok (.aload_n 0, 1) := by decide +kernel
theorem d_La_law_424 : decode code 424 = .ok (.iload 4, 2) := by decide +kernel
theorem d_La_law_426 : decode code 426 = .ok (.iconst 2, 1) := by decide +kernel
theorem d_La_law_427 : decode code 427 = .ok (.iadd, 1) := by decide +kernel
theorem d_La_law_428 : decode code 428 = .ok (.iaload, 1) := by decide +kernel
theorem d_La_law_429 : decode code 429 = .ok (.aload_n 0, 1) := by decide +kernel
theorem d_La_law_430 : decode code 430 = .ok (.iload 4, 2) := by decide +kernel
theorem d_La_law_432 : decode code 432 = .ok (.iconst 3, 1) := by decide +kernel
theorem d_La_law_433 : decode code 433 = .ok (.iadd, 1) := by decide +kernel
theorem d_La_law_434 : decode code 434 = .ok (.iaload, 1) := by decide +kernel
theorem d_La_law_435 : decode code 435 = .ok (.aload_n 0, 1) := by decide +kernel
theorem d_La_law_436 : decode code 436 = .ok (.iload 4, 2) := by decide +kernel
theorem d_La_law_438 : decode code 438 = .ok (.iconst 4, 1) := by decide +kernel
theorem d_La_law_439 : decode code 439 = .ok (.iadd, 1) := by decide +kernel
theorem d_La_law_440 : decode code 440 = .ok (.iaload, 1) := by decide +kernel
theorem d_La_law_441 : decode code 441 = .ok (.aload_n 0, 1) := by decide +kernel
theorem d_La_law_442 : decode code 442 = .ok (.iload 4, 2) := by decide +kernel
theorem d_La_law_444 : decode code 444 = .ok (.iconst 5, 1) := by decide +kernel
theorem d_La_law_445 : decode code 445 = .ok (.iadd, 1) := by decide +kernel
theorem d_La_law_446 : decode code 446 = .ok (.iaload, 1) := by decide +kernel
theorem d_La_law_447 : decode code 447 = .ok (.aload_n 3, 1) := by decide +kernel
theorem d_La_law_448 : decode code 448 = .ok (.invokestatic 108, 3) := by decide +kernel
theorem d_La_law_451 : decode code 451 = .ok (.istore 5, 2) := by decide +kernel
theorem d_La_law_453 : decode code 453 = .ok (.aload_n 2, 1) := by decide +kernel
theorem d_La_law_454 : decode code 454 = .ok (.aload_n 0, 1) := by decide +kernel
theorem d_La_law_455 : decode code 455 = .ok (.iload 4, 2) := by decide +kernel
theorem d_La_law_457 : decode code 457 = .ok (.iconst 1, 1) := by decide +kernel
theorem d_La_law_458 : decode code 458 = .ok (.iadd, 1) := by decide +kernel
theorem d_La_law_459 : decode code 459 = .ok (.iaload, 1) := by decide +kernel
theorem d_La_law_460 : decode code 460 = .ok (.aload_n 0, 1) := by decide +kernel
theorem d_La_law_461 : decode code 461 = .ok (.iload 4, 2) := by decide +kernel
theorem d_La_law_463 : decode code 463 = .ok (.iconst 2, 1) := by decide +kernel
theorem d_La_law_464 : decode code 464 = .ok (.iadd, 1) := by decide +kernel
theorem d_La_law_465 : decode code 465 = .ok (.iaload, 1) := by decide +kernel
theorem d_La_law_466 : decode code 466 = .ok (.aload_n 0, 1) := by decide +kernel
theorem d_La_law_467 : decode code 467 = .ok (.iload 4, 2) := by decide +kernel
theorem d_La_law_469 : decode code 469 = .ok (.iconst 3, 1) := by decide +kernel
theorem d_La_law_470 : decode code 470 = .ok (.iadd, 1) := by decide +kernel
theorem d_La_law_471 : decode code 471 = .ok (.iaload, 1) := by decide +kernel
theorem d_La_law_472 : decode code 472 = .ok (.aload_n 0, 1) := by decide +kernel
theorem d_La_law_473 : decode code 473 = .ok (.iload 4, 2) := by decide +kernel
theorem d_La_law_475 : decode code 475 = .ok (.iconst 4, 1) := by decide +kernel
theorem d_La_law_476 : decode code 476 = .ok (.iadd, 1) := by decide +kernel
theorem d_La_law_477 : decode code 477 = .ok (.iaload, 1) := by decide +kernel
theorem d_La_law_478 : decode code 478 = .ok (.aload_n 0, 1) := by decide +kernel
theorem d_La_law_479 : decode code 479 = .ok (.iload 4, 2) := by decide +kernel
theorem d_La_law_481 : decode code 481 = .ok (.iconst 5, 1) := by decide +kernel
theorem d_La_law_482 : decode code 482 = .ok (.iadd, 1) := by decide +kernel
theorem d_La_law_483 : decode code 483 = .ok (.iaload, 1) := by decide +kernel
theorem d_La_law_484 : decode code 484 = .ok (.invokevirtual 111, 3) := by decide +kernel
theorem d_La_law_487 : decode code 487 = .ok (.istore 6, 2) := by decide +kernel
theorem d_La_law_489 : decode code 489 = .ok (.aload_n 2, 1) := by decide +kernel
theorem d_La_law_490 : decode code 490 = .ok (.invokevirtual 94, 3) := by decide +kernel
theorem d_La_law_493 : decode code 493 = .ok (.iload 5, 2) := by decide +kernel
theorem d_La_law_495 : decode code 495 = .ok (.if_icmp .eq 5, 3) := by decide +kernel
theorem d_La_law_498 : decode code 498 = .ok (.iconst 0, 1) := by decide +kernel
theorem d_La_law_499 : decode code 499 = .ok (.ireturn, 1) := by decide +kernel
theorem d_La_law_500 : decode code 500 = .ok (.iload 5, 2) := by decide +kernel
theorem d_La_law_502 : decode code 502 = .ok (.ifCond .ne 15, 3) := by decide +kernel
theorem d_La_law_505 : decode code 505 = .ok (.aload_n 3, 1) := by decide +kernel
theorem d_La_law_506 : decode code 506 = .ok (.iconst 0, 1) := by decide +kernel
theorem d_La_law_507 : decode code 507 = .ok (.laload, 1) := by decide +kernel
theorem d_La_law_508 : decode code 508 = .ok (.iload 6, 2) := by decide +kernel
theorem d_La_law_510 : decode code 510 = .ok (.i2l, 1) := by decide +kernel
theorem d_La_law_511 : decode code 511 = .ok (.lcmp, 1) := by decide +kernel
theorem d_La_law_512 : decode code 512 = .ok (.ifCond .eq 5, 3) := by decide +kernel
theorem d_La_law_515 : decode code 515 = .ok (.iconst 0, 1) := by decide +kernel
theorem d_La_law_516 : decode code 516 = .ok (.ireturn, 1) := by decide +kernel
theorem d_La_law_517 : decode code 517 = .ok (.goto 1057, 3) := by decide +kernel
theorem d_La_law_520 : decode code 520 = .ok (.aload_n 1, 1) := by decide +kernel
theorem d_La_law_521 : decode code 521 = .ok (.aload_n 0, 1) := by decide +kernel
theorem d_La_law_522 : decode code 522 = .ok (.iload 4, 2) := by decide +kernel
theorem d_La_law_524 : decode code 524 = .ok (.iconst 1, 1) := by decide +kernel
theorem d_La_law_525 : decode code 525 = .ok (.iadd, 1) := by decide +kernel
theorem d_La_law_526 : decode code 526 = .ok (.iaload, 1) := by decide +kernel
theorem d_La_law_527 : decode code 527 = .ok (.invokestatic 112, 3) := by decide +kernel
theorem d_La_law_530 : decode code 530 = .ok (.istore 5, 2) := by decide +kernel
theorem d_La_law_532 : decode code 532 = .ok (.aload_n 2, 1) := by decide +kernel
theorem d_La_law_533 : decode code 533 = .ok (.aload_n 0, 1) := by decide +kernel
theorem d_La_law_534 : decode code 534 = .ok (.iload 4, 2) := by decide +kernel
theorem d_La_law_536 : decode code 536 = .ok (.iconst 1, 1) := by decide +kernel
theorem d_La_law_537 : decode code 537 = .ok (.iadd, 1) := by decide +kernel
theorem d_La_law_538 : decode code 538 = .ok (.iaload, 1) := by decide +kernel
theorem d_La_law_539 : decode code 539 = .ok (.invokevirtual 115, 3) := by decide +kernel
theorem d_La_law_542 : decode code 542 = .ok (.aload_n 2, 1) := by decide +kernel
theorem d_La_law_543 : decode code 543 = .ok (.invokevirtual 94, 3) := by decide +kernel
theorem d_La_law_546 : decode code 546 = .ok (.iload 5, 2) := by decide +kernel
theorem d_La_law_548 : decode code 548 = .ok (.if_icmp .eq 5, 3) := by decide +kernel
theorem d_La_law_551 : decode code 551 = .ok (.iconst 0, 1) := by decide +kernel
theorem d_La_law_552 : decode code 552 = .ok (.ireturn, 1) := by decide +kernel
theorem d_La_law_553 : decode code 553 = .ok (.goto 1021, 3) := by decide +kernel
theorem d_La_law_556 : decode code 556 = .ok (.aload_n 1, 1) := by decide +kernel
theorem d_La_law_557 : decode code 557 = .ok (.aload_n 0, 1) := by decide +kernel
theorem d_La_law_558 : decode code 558 = .ok (.iload 4, 2) := by decide +kernel
theorem d_La_law_560 : decode code 560 = .ok (.iconst 1, 1) := by decide +kernel
theorem d_La_law_561 : decode code 561 = .ok (.iadd, 1) := by decide +kernel
theorem d_La_law_562 : decode code 562 = .ok (.iaload, 1) := by decide +kernel
theorem d_La_law_563 : decode code 563 = .ok (.aload_n 0, 1) := by decide +kernel
theorem d_La_law_564 : decode code 564 = .ok (.iload 4, 2) := by decide +kernel
theorem d_La_law_566 : decode code 566 = .ok (.iconst 2, 1) := by decide +kernel
theorem d_La_law_567 : decode code 567 = .ok (.iadd, 1) := by decide +kernel
theorem d_La_law_568 : decode code 568 = .ok (.iaload, 1) := by decide +kernel
theorem d_La_law_569 : decode code 569 = .ok (.aload_n 0, 1) := by decide +kernel
theorem d_La_law_570 : decode code 570 = .ok (.iload 4, 2) := by decide +kernel
theorem d_La_law_572 : decode code 572 = .ok (.iconst 3, 1) := by decide +kernel
theorem d_La_law_573 : decode code 573 = .ok (.iadd, 1) := by decide +kernel
theorem d_La_law_574 : decode code 574 = .ok (.iaload, 1) := by decide +kernel
theorem d_La_law_575 : decode code 575 = .ok (.aload_n 3, 1) := by decide +kernel
theorem d_La_law_576 : decode code 576 = .ok (.invokestatic 116, 3) := by decide +kernel
theorem d_La_law_579 : decode code 579 = .ok (.istore 5, 2) := by decide +kernel
theorem d_La_law_581 : decode code 581 = .ok (.aload_n 2, 1) := by decide +kernel
theorem d_La_law_582 : decode code 582 = .ok (.aload_n 0, 1) := by decide +kernel
theorem d_La_law_583 : decode code 583 = .ok (.iload 4, 2) := by decide +kernel
theorem d_La_law_585 : decode code 585 = .ok (.iconst 1, 1) := by decide +kernel
theorem d_La_law_586 : decode code 586 = .ok (.iadd, 1) := by decide +kernel
theorem d_La_law_587 : decode code 587 = .ok (.iaload, 1) := by decide +kernel
theorem d_La_law_588 : decode code 588 = .ok (.aload_n 0, 1) := by decide +kernel
theorem d_La_law_589 : decode code 589 = .ok (.iload 4, 2) := by decide +kernel
theorem d_La_law_591 : decode code 591 = .ok (.iconst 2, 1) := by decide +kernel
theorem d_La_law_592 : decode code 592 = .ok (.iadd, 1) := by decide +kernel
theorem d_La_law_593 : decode code 593 = .ok (.iaload, 1) := by decide +kernel
theorem d_La_law_594 : decode code 594 = .ok (.aload_n 0, 1) := by decide +kernel
theorem d_La_law_595 : decode code 595 = .ok (.iload 4, 2) := by decide +kernel
theorem d_La_law_597 : decode code 597 = .ok (.iconst 3, 1) := by decide +kernel
theorem d_La_law_598 : decode code 598 = .ok (.iadd, 1) := by decide +kernel
theorem d_La_law_599 : decode code 599 = .ok (.iaload, 1) := by decide +kernel
theorem d_La_law_600 : decode code 600 = .ok (.invokevirtual 119, 3) := by decide +kernel
theorem d_La_law_603 : decode code 603 = .ok (.istore 6, 2) := by decide +kernel
theorem d_La_law_605 : decode code 605 = .ok (.aload_n 2, 1) := by decide +kernel
theorem d_La_law_606 : decode code 606 = .ok (.invokevirtual 94, 3) := by decide +kernel
theorem d_La_law_609 : decode code 609 = .ok (.iload 5, 2) := by decide +kernel
theorem d_La_law_611 : decode code 611 = .ok (.if_icmp .eq 5, 3) := by decide +kernel
theorem d_La_law_614 : decode code 614 = .ok (.iconst 0, 1) := by decide +kernel
theorem d_La_law_615 : decode code 615 = .ok (.ireturn, 1) := by decide +kernel
theorem d_La_law_616 : decode code 616 = .ok (.iload 5, 2) := by decide +kernel
theorem d_La_law_618 : decode code 618 = .ok (.ifCond .ne 15, 3) := by decide +kernel
theorem d_La_law_621 : decode code 621 = .ok (.aload_n 3, 1) := by decide +kernel
theorem d_La_law_622 : decode code 622 = .ok (.iconst 0, 1) := by decide +kernel
theorem d_La_law_623 : decode code 623 = .ok (.laload, 1) := by decide +kernel
theorem d_La_law_624 : decode code 624 = .ok (.iload 6, 2) := by decide +kernel
theorem d_La_law_626 : decode code 626 = .ok (.i2l, 1) := by decide +kernel
theorem d_La_law_627 : decode code 627 = .ok (.lcmp, 1) := by decide +kernel
theorem d_La_law_628 : decode code 628 = .ok (.ifCond .eq 5, 3) := by decide +kernel
theorem d_La_law_631 : decode code 631 = .ok (.iconst 0, 1) := by decide +kernel
theorem d_La_law_632 : decode code 632 = .ok (.ireturn, 1) := by decide +kernel
theorem d_La_law_633 : decode code 633 = .ok (.goto 941, 3) := by decide +kernel
theorem d_La_law_636 : decode code 636 = .ok (.aload_n 1, 1) := by decide +kernel
theorem d_La_law_637 : decode code 637 = .ok (.aload_n 0, 1) := by decide +kernel
theorem d_La_law_638 : decode code 638 = .ok (.iload 4, 2) := by decide +kernel
theorem d_La_law_640 : decode code 640 = .ok (.iconst 1, 1) := by decide +kernel
theorem d_La_law_641 : decode code 641 = .ok (.iadd, 1) := by decide +kernel
theorem d_La_law_642 : decode code 642 = .ok (.iaload, 1) := by decide +kernel
theorem d_La_law_643 : decode code 643 = .ok (.aload_n 0, 1) := by decide +kernel
theorem d_La_law_644 : decode code 644 = .ok (.iload 4, 2) := by decide +kernel
theorem d_La_law_646 : decode code 646 = .ok (.iconst 2, 1) := by decide +kernel
theorem d_La_law_647 : decode code 647 = .ok (.iadd, 1) := by decide +kernel
theorem d_La_law_648 : decode code 648 = .ok (.iaload, 1) := by decide +kernel
theorem d_La_law_649 : decode code 649 = .ok (.aload_n 3, 1) := by decide +kernel
theorem d_La_law_650 : decode code 650 = .ok (.invokestatic 120, 3) := by decide +kernel
theorem d_La_law_653 : decode code 653 = .ok (.istore 5, 2) := by decide +kernel
theorem d_La_law_655 : decode code 655 = .ok (.aload_n 2, 1) := by decide +kernel
theorem d_La_law_656 : decode code 656 = .ok (.aload_n 0, 1) := by decide +kernel
theorem d_La_law_657 : decode code 657 = .ok (.iload 4, 2) := by decide +kernel
theorem d_La_law_659 : decode code 659 = .ok (.iconst 1, 1) := by decide +kernel
theorem d_La_law_660 : decode code 660 = .ok (.iadd, 1) := by decide +kernel
theorem d_La_law_661 : decode code 661 = .ok (.iaload, 1) := by decide +kernel
theorem d_La_law_662 : decode code 662 = .ok (.aload_n 0, 1) := by decide +kernel
theorem d_La_law_663 : decode code 663 = .ok (.iload 4, 2) := by decide +kernel
theorem d_La_law_665 : decode code 665 = .ok (.iconst 2, 1) := by decide +kernel
theorem d_La_law_666 : decode code 666 = .ok (.iadd, 1) := by decide +kernel
theorem d_La_law_667 : decode code 667 = .ok (.iaload, 1) := by decide +kernel
theorem d_La_law_668 : decode code 668 = .ok (.invokevirtual 122, 3) := by decide +kernel
theorem d_La_law_671 : decode code 671 = .ok (.istore 6, 2) := by decide +kernel
theorem d_La_law_673 : decode code 673 = .ok (.aload_n 2, 1) := by decide +kernel
theorem d_La_law_674 : decode code 674 = .ok (.invokevirtual 94, 3) := by decide +kernel
theorem d_La_law_677 : decode code 677 = .ok (.iload 5, 2) := by decide +kernel
theorem d_La_law_679 : decode code 679 = .ok (.if_icmp .eq 5, 3) := by decide +kernel
theorem d_La_law_682 : decode code 682 = .ok (.iconst 0, 1) := by decide +kernel
theorem d_La_law_683 : decode code 683 = .ok (.ireturn, 1) := by decide +kernel
theorem d_La_law_684 : decode code 684 = .ok (.iload 5, 2) := by decide +kernel
theorem d_La_law_686 : decode code 686 = .ok (.ifCond .ne 15, 3) := by decide +kernel
theorem d_La_law_689 : decode code 689 = .ok (.aload_n 3, 1) := by decide +kernel
theorem d_La_law_690 : decode code 690 = .ok (.iconst 0, 1) := by decide +kernel
theorem d_La_law_691 : decode code 691 = .ok (.laload, 1) := by decide +kernel
theorem d_La_law_692 : decode code 692 = .ok (.iload 6, 2) := by decide +kernel
theorem d_La_law_694 : decode code 694 = .ok (.i2l, 1) := by decide +kernel
theorem d_La_law_695 : decode code 695 = .ok (.lcmp, 1) := by decide +kernel
theorem d_La_law_696 : decode code 696 = .ok (.ifCond .eq 5, 3) := by decide +kernel
theorem d_La_law_699 : decode code 699 = .ok (.iconst 0, 1) := by decide +kernel
theorem d_La_law_700 : decode code 700 = .ok (.ireturn, 1) := by decide +kernel
theorem d_La_law_701 : decode code 701 = .ok (.goto 873, 3) := by decide +kernel
theorem d_La_law_704 : decode code 704 = .ok (.aload_n 1, 1) := by decide +kernel
theorem d_La_law_705 : decode code 705 = .ok (.invokevirtual 123, 3) := by decide +kernel
theorem d_La_law_708 : decode code 708 = .ok (.aload_n 2, 1) := by decide +kernel
theorem d_La_law_709 : decode code 709 = .ok (.invokevirtual 126, 3) := by decide +kernel
theorem d_La_law_712 : decode code 712 = .ok (.if_icmp .eq 862, 3) := by decide +kernel
theorem d_La_law_715 : decode code 715 = .ok (.iconst 0, 1) := by decide +kernel
theorem d_La_law_716 : decode code 716 = .ok (.ireturn, 1) := by decide +kernel
theorem d_La_law_717 : decode code 717 = .ok (.aload_n 1, 1) := by decide +kernel
theorem d_La_law_718 : decode code 718 = .ok (.aload_n 0, 1) := by decide +kernel
theorem d_La_law_719 : decode code 719 = .ok (.iload 4, 2) := by decide +kernel
theorem d_La_law_721 : decode code 721 = .ok (.iconst 1, 1) := by decide +kernel
theorem d_La_law_722 : decode code 722 = .ok (.iadd, 1) := by decide +kernel
theorem d_La_law_723 : decode code 723 = .ok (.iaload, 1) := by decide +kernel
theorem d_La_law_724 : decode code 724 = .ok (.aload_n 3, 1) := by decide +kernel
theorem d_La_law_725 : decode code 725 = .ok (.invokestatic 127, 3) := by decide +kernel
theorem d_La_law_728 : decode code 728 = .ok (.istore 5, 2) := by decide +kernel
theorem d_La_law_730 : decode code 730 = .ok (.aload_n 2, 1) := by decide +kernel
theorem d_La_law_731 : decode code 731 = .ok (.aload_n 0, 1) := by decide +kernel
theorem d_La_law_732 : decode code 732 = .ok (.iload 4, 2) := by decide +kernel
theorem d_La_law_734 : decode code 734 = .ok (.iconst 1, 1) := by decide +kernel
theorem d_La_law_735 : decode code 735 = .ok (.iadd, 1) := by decide +kernel
theorem d_La_law_736 : decode code 736 = .ok (.iaload, 1) := by decide +kernel
theorem d_La_law_737 : decode code 737 = .ok (.invokevirtual 129, 3) := by decide +kernel
theorem d_La_law_740 : decode code 740 = .ok (.istore 6, 2) := by decide +kernel
theorem d_La_law_742 : decode code 742 = .ok (.aload_n 2, 1) := by decide +kernel
theorem d_La_law_743 : decode code 743 = .ok (.invokevirtual 94, 3) := by decide +kernel
theorem d_La_law_746 : decode code 746 = .ok (.iload 5, 2) := by decide +kernel
theorem d_La_law_748 : decode code 748 = .ok (.if_icmp .eq 5, 3) := by decide +kernel
theorem d_La_law_751 : decode code 751 = .ok (.iconst 0, 1) := by decide +kernel
theorem d_La_law_752 : decode code 752 = .ok (.ireturn, 1) := by decide +kernel
theorem d_La_law_753 : decode code 753 = .ok (.iload 5, 2) := by decide +kernel
theorem d_La_law_755 : decode code 755 = .ok (.ifCond .ne 15, 3) := by decide +kernel
theorem d_La_law_758 : decode code 758 = .ok (.aload_n 3, 1) := by decide +kernel
theorem d_La_law_759 : decode code 759 = .ok (.iconst 0, 1) := by decide +kernel
theorem d_La_law_760 : decode code 760 = .ok (.laload, 1) := by decide +kernel
theorem d_La_law_761 : decode code 761 = .ok (.iload 6, 2) := by decide +kernel
theorem d_La_law_763 : decode code 763 = .ok (.i2l, 1) := by decide +kernel
theorem d_La_law_764 : decode code 764 = .ok (.lcmp, 1) := by decide +kernel
theorem d_La_law_765 : decode code 765 = .ok (.ifCond .eq 5, 3) := by decide +kernel
theorem d_La_law_768 : decode code 768 = .ok (.iconst 0, 1) := by decide +kernel
theorem d_La_law_769 : decode code 769 = .ok (.ireturn, 1) := by decide +kernel
theorem d_La_law_770 : decode code 770 = .ok (.goto 804, 3) := by decide +kernel
theorem d_La_law_773 : decode code 773 = .ok (.aload_n 1, 1) := by decide +kernel
theorem d_La_law_774 : decode code 774 = .ok (.aload_n 0, 1) := by decide +kernel
theorem d_La_law_775 : decode code 775 = .ok (.iload 4, 2) := by decide +kernel
theorem d_La_law_777 : decode code 777 = .ok (.iconst 1, 1) := by decide +kernel
theorem d_La_law_778 : decode code 778 = .ok (.iadd, 1) := by decide +kernel
theorem d_La_law_779 : decode code 779 = .ok (.iaload, 1) := by decide +kernel
theorem d_La_law_780 : decode code 780 = .ok (.aload_n 0, 1) := by decide +kernel
theorem d_La_law_781 : decode code 781 = .ok (.iload 4, 2) := by decide +kernel
theorem d_La_law_783 : decode code 783 = .ok (.iconst 2, 1) := by decide +kernel
theorem d_La_law_784 : decode code 784 = .ok (.iadd, 1) := by decide +kernel
theorem d_La_law_785 : decode code 785 = .ok (.iaload, 1) := by decide +kernel
theorem d_La_law_786 : decode code 786 = .ok (.aload_n 0, 1) := by decide +kernel
theorem d_La_law_787 : decode code 787 = .ok (.iload 4, 2) := by decide +kernel
theorem d_La_law_789 : decode code 789 = .ok (.iconst 3, 1) := by decide +kernel
theorem d_La_law_790 : decode code 790 = .ok (.iadd, 1) := by decide +kernel
theorem d_La_law_791 : decode code 791 = .ok (.iaload, 1) := by decide +kernel
theorem d_La_law_792 : decode code 792 = .ok (.aload_n 3, 1) := by decide +kernel
theorem d_La_law_793 : decode code 793 = .ok (.invokestatic 130, 3) := by decide +kernel
theorem d_La_law_796 : decode code 796 = .ok (.istore 5, 2) := by decide +kernel
theorem d_La_law_798 : decode code 798 = .ok (.aload_n 2, 1) := by decide +kernel
theorem d_La_law_799 : decode code 799 = .ok (.aload_n 0, 1) := by decide +kernel
theorem d_La_law_800 : decode code 800 = .ok (.iload 4, 2) := by decide +kernel
theorem d_La_law_802 : decode code 802 = .ok (.iconst 1, 1) := by decide +kernel
theorem d_La_law_803 : decode code 803 = .ok (.iadd, 1) := by decide +kernel
theorem d_La_law_804 : decode code 804 = .ok (.iaload, 1) := by decide +kernel
theorem d_La_law_805 : decode code 805 = .ok (.aload_n 0, 1) := by decide +kernel
theorem d_La_law_806 : decode code 806 = .ok (.iload 4, 2) := by decide +kernel
theorem d_La_law_808 : decode code 808 = .ok (.iconst 2, 1) := by decide +kernel
theorem d_La_law_809 : decode code 809 = .ok (.iadd, 1) := by decide +kernel
theorem d_La_law_810 : decode code 810 = .ok (.iaload, 1) := by decide +kernel
theorem d_La_law_811 : decode code 811 = .ok (.aload_n 0, 1) := by decide +kernel
theorem d_La_law_812 : decode code 812 = .ok (.iload 4, 2) := by decide +kernel
theorem d_La_law_814 : decode code 814 = .ok (.iconst 3, 1) := by decide +kernel
theorem d_La_law_815 : decode code 815 = .ok (.iadd, 1) := by decide +kernel
theorem d_La_law_816 : decode code 816 = .ok (.iaload, 1) := by decide +kernel
theorem d_La_law_817 : decode code 817 = .ok (.invokevirtual 132, 3) := by decide +kernel
theorem d_La_law_820 : decode code 820 = .ok (.istore 6, 2) := by decide +kernel
theorem d_La_law_822 : decode code 822 = .ok (.aload_n 2, 1) := by decide +kernel
theorem d_La_law_823 : decode code 823 = .ok (.invokevirtual 94, 3) := by decide +kernel
theorem d_La_law_826 : decode code 826 = .ok (.iload 5, 2) := by decide +kernel
theorem d_La_law_828 : decode code 828 = .ok (.if_icmp .eq 5, 3) := by decide +kernel
theorem d_La_law_831 : decode code 831 = .ok (.iconst 0, 1) := by decide +kernel
theorem d_La_law_832 : decode code 832 = .ok (.ireturn, 1) := by decide +kernel
theorem d_La_law_833 : decode code 833 = .ok (.iload 5, 2) := by decide +kernel
theorem d_La_law_835 : decode code 835 = .ok (.ifCond .ne 15, 3) := by decide +kernel
theorem d_La_law_838 : decode code 838 = .ok (.aload_n 3, 1) := by decide +kernel
theorem d_La_law_839 : decode code 839 = .ok (.iconst 0, 1) := by decide +kernel
theorem d_La_law_840 : decode code 840 = .ok (.laload, 1) := by decide +kernel
theorem d_La_law_841 : decode code 841 = .ok (.iload 6, 2) := by decide +kernel
theorem d_La_law_843 : decode code 843 = .ok (.i2l, 1) := by decide +kernel
theorem d_La_law_844 : decode code 844 = .ok (.lcmp, 1) := by decide +kernel
theorem d_La_law_845 : decode code 845 = .ok (.ifCond .eq 5, 3) := by decide +kernel
theorem d_La_law_848 : decode code 848 = .ok (.iconst 0, 1) := by decide +kernel
theorem d_La_law_849 : decode code 849 = .ok (.ireturn, 1) := by decide +kernel
theorem d_La_law_850 : decode code 850 = .ok (.goto 724, 3) := by decide +kernel
theorem d_La_law_853 : decode code 853 = .ok (.aload_n 1, 1) := by decide +kernel
theorem d_La_law_854 : decode code 854 = .ok (.invokevirtual 133, 3) := by decide +kernel
theorem d_La_law_857 : decode code 857 = .ok (.aload_n 2, 1) := by decide +kernel
theorem d_La_law_858 : decode code 858 = .ok (.invokevirtual 136, 3) := by decide +kernel
theorem d_La_law_861 : decode code 861 = .ok (.if_icmp .eq 713, 3) := by decide +kernel
theorem d_La_law_864 : decode code 864 = .ok (.iconst 0, 1) := by decide +kernel
theorem d_La_law_865 : decode code 865 = .ok (.ireturn, 1) := by decide +kernel
theorem d_La_law_866 : decode code 866 = .ok (.aload_n 1, 1) := by decide +kernel
theorem d_La_law_867 : decode code 867 = .ok (.aload_n 0, 1) := by decide +kernel
theorem d_La_law_868 : decode code 868 = .ok (.iload 4, 2) := by decide +kernel
theorem d_La_law_870 : decode code 870 = .ok (.iconst 1, 1) := by decide +kernel
theorem d_La_law_871 : decode code 871 = .ok (.iadd, 1) := by decide +kernel
theorem d_La_law_872 : decode code 872 = .ok (.iaload, 1) := by decide +kernel
theorem d_La_law_873 : decode code 873 = .ok (.invokestatic 137, 3) := by decide +kernel
theorem d_La_law_876 : decode code 876 = .ok (.istore 5, 2) := by decide +kernel
theorem d_La_law_878 : decode code 878 = .ok (.aload_n 2, 1) := by decide +kernel
theorem d_La_law_879 : decode code 879 = .ok (.aload_n 0, 1) := by decide +kernel
theorem d_La_law_880 : decode code 880 = .ok (.iload 4, 2) := by decide +kernel
theorem d_La_law_882 : decode code 882 = .ok (.iconst 1, 1) := by decide +kernel
theorem d_La_law_883 : decode code 883 = .ok (.iadd, 1) := by decide +kernel
theorem d_La_law_884 : decode code 884 = .ok (.iaload, 1) := by decide +kernel
theorem d_La_law_885 : decode code 885 = .ok (.invokevirtual 139, 3) := by decide +kernel
theorem d_La_law_888 : decode code 888 = .ok (.aload_n 2, 1) := by decide +kernel
theorem d_La_law_889 : decode code 889 = .ok (.invokevirtual 94, 3) := by decide +kernel
theorem d_La_law_892 : decode code 892 = .ok (.iload 5, 2) := by decide +kernel
theorem d_La_law_894 : decode code 894 = .ok (.if_icmp .eq 5, 3) := by decide +kernel
theorem d_La_law_897 : decode code 897 = .ok (.iconst 0, 1) := by decide +kernel
theorem d_La_law_898 : decode code 898 = .ok (.ireturn, 1) := by decide +kernel
theorem d_La_law_899 : decode code 899 = .ok (.goto 675, 3) := by decide +kernel
theorem d_La_law_902 : decode code 902 = .ok (.aload_n 1, 1) := by decide +kernel
theorem d_La_law_903 : decode code 903 = .ok (.aload_n 0, 1) := by decide +kernel
theorem d_La_law_904 : decode code 904 = .ok (.iload 4, 2) := by decide +kernel
theorem d_La_law_906 : decode code 906 = .ok (.iconst 1, 1) := by decide +kernel
theorem d_La_law_907 : decode code 907 = .ok (.iadd, 1) := by decide +kernel
theorem d_La_law_908 : decode code 908 = .ok (.iaload, 1) := by decide +kernel
theorem d_La_law_909 : decode code 909 = .ok (.aload_n 3, 1) := by decide +kernel
theorem d_La_law_910 : decode code 910 = .ok (.invokestatic 140, 3) := by decide +kernel
theorem d_La_law_913 : decode code 913 = .ok (.istore 5, 2) := by decide +kernel
theorem d_La_law_915 : decode code 915 = .ok (.aload_n 2, 1) := by decide +kernel
theorem d_La_law_916 : decode code 916 = .ok (.aload_n 0, 1) := by decide +kernel
theorem d_La_law_917 : decode code 917 = .ok (.iload 4, 2) := by decide +kernel
theorem d_La_law_919 : decode code 919 = .ok (.iconst 1, 1) := by decide +kernel
theorem d_La_law_920 : decode code 920 = .ok (.iadd, 1) := by decide +kernel
theorem d_La_law_921 : decode code 921 = .ok (.iaload, 1) := by decide +kernel
theorem d_La_law_922 : decode code 922 = .ok (.invokevirtual 142, 3) := by decide +kernel
theorem d_La_law_925 : decode code 925 = .ok (.istore 6, 2) := by decide +kernel
theorem d_La_law_927 : decode code 927 = .ok (.aload_n 2, 1) := by decide +kernel
theorem d_La_law_928 : decode code 928 = .ok (.invokevirtual 94, 3) := by decide +kernel
theorem d_La_law_931 : decode code 931 = .ok (.iload 5, 2) := by decide +kernel
theorem d_La_law_933 : decode code 933 = .ok (.if_icmp .eq 5, 3) := by decide +kernel
theorem d_La_law_936 : decode code 936 = .ok (.iconst 0, 1) := by decide +kernel
theorem d_La_law_937 : decode code 937 = .ok (.ireturn, 1) := by decide +kernel
theorem d_La_law_938 : decode code 938 = .ok (.iload 5, 2) := by decide +kernel
theorem d_La_law_940 : decode code 940 = .ok (.ifCond .ne 15, 3) := by decide +kernel
theorem d_La_law_943 : decode code 943 = .ok (.aload_n 3, 1) := by decide +kernel
theorem d_La_law_944 : decode code 944 = .ok (.iconst 0, 1) := by decide +kernel
theorem d_La_law_945 : decode code 945 = .ok (.laload, 1) := by decide +kernel
theorem d_La_law_946 : decode code 946 = .ok (.iload 6, 2) := by decide +kernel
theorem d_La_law_948 : decode code 948 = .ok (.i2l, 1) := by decide +kernel
theorem d_La_law_949 : decode code 949 = .ok (.lcmp, 1) := by decide +kernel
theorem d_La_law_950 : decode code 950 = .ok (.ifCond .eq 5, 3) := by decide +kernel
theorem d_La_law_953 : decode code 953 = .ok (.iconst 0, 1) := by decide +kernel
theorem d_La_law_954 : decode code 954 = .ok (.ireturn, 1) := by decide +kernel
theorem d_La_law_955 : decode code 955 = .ok (.goto 619, 3) := by decide +kernel
theorem d_La_law_958 : decode code 958 = .ok (.aload_n 1, 1) := by decide +kernel
theorem d_La_law_959 : decode code 959 = .ok (.aload_n 0, 1) := by decide +kernel
theorem d_La_law_960 : decode code 960 = .ok (.iload 4, 2) := by decide +kernel
theorem d_La_law_962 : decode code 962 = .ok (.iconst 1, 1) := by decide +kernel
theorem d_La_law_963 : decode code 963 = .ok (.iadd, 1) := by decide +kernel
theorem d_La_law_964 : decode code 964 = .ok (.iaload, 1) := by decide +kernel
theorem d_La_law_965 : decode code 965 = .ok (.aload_n 3, 1) := by decide +kernel
theorem d_La_law_966 : decode code 966 = .ok (.invokestatic 143, 3) := by decide +kernel
theorem d_La_law_969 : decode code 969 = .ok (.istore 5, 2) := by decide +kernel
theorem d_La_law_971 : decode code 971 = .ok (.aload_n 2, 1) := by decide +kernel
theorem d_La_law_972 : decode code 972 = .ok (.aload_n 0, 1) := by decide +kernel
theorem d_La_law_973 : decode code 973 = .ok (.iload 4, 2) := by decide +kernel
theorem d_La_law_975 : decode code 975 = .ok (.iconst 1, 1) := by decide +kernel
theorem d_La_law_976 : decode code 976 = .ok (.iadd, 1) := by decide +kernel
theorem d_La_law_977 : decode code 977 = .ok (.iaload, 1) := by decide +kernel
theorem d_La_law_978 : decode code 978 = .ok (.invokevirtual 145, 3) := by decide +kernel
theorem d_La_law_981 : decode code 981 = .ok (.istore 6, 2) := by decide +kernel
theorem d_La_law_983 : decode code 983 = .ok (.aload_n 2, 1) := by decide +kernel
theorem d_La_law_984 : decode code 984 = .ok (.invokevirtual 94, 3) := by decide +kernel
theorem d_La_law_987 : decode code 987 = .ok (.iload 5, 2) := by decide +kernel
theorem d_La_law_989 : decode code 989 = .ok (.if_icmp .eq 5, 3) := by decide +kernel
theorem d_La_law_992 : decode code 992 = .ok (.iconst 0, 1) := by decide +kernel
theorem d_La_law_993 : decode code 993 = .ok (.ireturn, 1) := by decide +kernel
theorem d_La_law_994 : decode code 994 = .ok (.iload 5, 2) := by decide +kernel
theorem d_La_law_996 : decode code 996 = .ok (.ifCond .ne 15, 3) := by decide +kernel
theorem d_La_law_999 : decode code 999 = .ok (.aload_n 3, 1) := by decide +kernel
theorem d_La_law_1000 : decode code 1000 = .ok (.iconst 0, 1) := by decide +kernel
theorem d_La_law_1001 : decode code 1001 = .ok (.laload, 1) := by decide +kernel
theorem d_La_law_1002 : decode code 1002 = .ok (.iload 6, 2) := by decide +kernel
theorem d_La_law_1004 : decode code 1004 = .ok (.i2l, 1) := by decide +kernel
theorem d_La_law_1005 : decode code 1005 = .ok (.lcmp, 1) := by decide +kernel
theorem d_La_law_1006 : decode code 1006 = .ok (.ifCond .eq 5, 3) := by decide +kernel
theorem d_La_law_1009 : decode code 1009 = .ok (.iconst 0, 1) := by decide +kernel
theorem d_La_law_1010 : decode code 1010 = .ok (.ireturn, 1) := by decide +kernel
theorem d_La_law_1011 : decode code 1011 = .ok (.goto 563, 3) := by decide +kernel
theorem d_La_law_1014 : decode code 1014 = .ok (.aload_n 1, 1) := by decide +kernel
theorem d_La_law_1015 : decode code 1015 = .ok (.aload_n 0, 1) := by decide +kernel
theorem d_La_law_1016 : decode code 1016 = .ok (.iload 4, 2) := by decide +kernel
theorem d_La_law_1018 : decode code 1018 = .ok (.iconst 1, 1) := by decide +kernel
theorem d_La_law_1019 : decode code 1019 = .ok (.iadd, 1) := by decide +kernel
theorem d_La_law_1020 : decode code 1020 = .ok (.iaload, 1) := by decide +kernel
theorem d_La_law_1021 : decode code 1021 = .ok (.aload_n 0, 1) := by decide +kernel
theorem d_La_law_1022 : decode code 1022 = .ok (.iload 4, 2) := by decide +kernel
theorem d_La_law_1024 : decode code 1024 = .ok (.iconst 2, 1) := by decide +kernel
theorem d_La_law_1025 : decode code 1025 = .ok (.iadd, 1) := by decide +kernel
theorem d_La_law_1026 : decode code 1026 = .ok (.iaload, 1) := by decide +kernel
theorem d_La_law_1027 : decode code 1027 = .ok (.aload_n 3, 1) := by decide +kernel
theorem d_La_law_1028 : decode code 1028 = .ok (.invokestatic 146, 3) := by decide +kernel
theorem d_La_law_1031 : decode code 1031 = .ok (.istore 5, 2) := by decide +kernel
theorem d_La_law_1033 : decode code 1033 = .ok (.aload_n 2, 1) := by decide +kernel
theorem d_La_law_1034 : decode code 1034 = .ok (.aload_n 0, 1) := by decide +kernel
theorem d_La_law_1035 : decode code 1035 = .ok (.iload 4, 2) := by decide +kernel
theorem d_La_law_1037 : decode code 1037 = .ok (.iconst 1, 1) := by decide +kernel
theorem d_La_law_1038 : decode code 1038 = .ok (.iadd, 1) := by decide +kernel
theorem d_La_law_1039 : decode code 1039 = .ok (.iaload, 1) := by decide +kernel
theorem d_La_law_1040 : decode code 1040 = .ok (.aload_n 0, 1) := by decide +kernel
theorem d_La_law_1041 : decode code 1041 = .ok (.iload 4, 2) := by decide +kernel
theorem d_La_law_1043 : decode code 1043 = .ok (.iconst 2, 1) := by decide +kernel
theorem d_La_law_1044 : decode code 1044 = .ok (.iadd, 1) := by decide +kernel
theorem d_La_law_1045 : decode code 1045 = .ok (.iaload, 1) := by decide +kernel
theorem d_La_law_1046 : decode code 1046 = .ok (.invokevirtual 148, 3) := by decide +kernel
theorem d_La_law_1049 : decode code 1049 = .ok (.istore 6, 2) := by decide +kernel
theorem d_La_law_1051 : decode code 1051 = .ok (.aload_n 2, 1) := by decide +kernel
theorem d_La_law_1052 : decode code 1052 = .ok (.invokevirtual 94, 3) := by decide +kernel
theorem d_La_law_1055 : decode code 1055 = .ok (.iload 5, 2) := by decide +kernel
theorem d_La_law_1057 : decode code 1057 = .ok (.if_icmp .eq 5, 3) := by decide +kernel
theorem d_La_law_1060 : decode code 1060 = .ok (.iconst 0, 1) := by decide +kernel
theorem d_La_law_1061 : decode code 1061 = .ok (.ireturn, 1) := by decide +kernel
theorem d_La_law_1062 : decode code 1062 = .ok (.iload 5, 2) := by decide +kernel
theorem d_La_law_1064 : decode code 1064 = .ok (.ifCond .ne 15, 3) := by decide +kernel
theorem d_La_law_1067 : decode code 1067 = .ok (.aload_n 3, 1) := by decide +kernel
theorem d_La_law_1068 : decode code 1068 = .ok (.iconst 0, 1) := by decide +kernel
theorem d_La_law_1069 : decode code 1069 = .ok (.laload, 1) := by decide +kernel
theorem d_La_law_1070 : decode code 1070 = .ok (.iload 6, 2) := by decide +kernel
theorem d_La_law_1072 : decode code 1072 = .ok (.i2l, 1) := by decide +kernel
theorem d_La_law_1073 : decode code 1073 = .ok (.lcmp, 1) := by decide +kernel
theorem d_La_law_1074 : decode code 1074 = .ok (.ifCond .eq 5, 3) := by decide +kernel
theorem d_La_law_1077 : decode code 1077 = .ok (.iconst 0, 1) := by decide +kernel
theorem d_La_law_1078 : decode code 1078 = .ok (.ireturn, 1) := by decide +kernel
theorem d_La_law_1079 : decode code 1079 = .ok (.goto 495, 3) := by decide +kernel
theorem d_La_law_1082 : decode code 1082 = .ok (.aload_n 1, 1) := by decide +kernel
theorem d_La_law_1083 : decode code 1083 = .ok (.invokevirtual 149, 3) := by decide +kernel
theorem d_La_law_1086 : decode code 1086 = .ok (.aload_n 2, 1) := by decide +kernel
theorem d_La_law_1087 : decode code 1087 = .ok (.invokevirtual 152, 3) := by decide +kernel
theorem d_La_law_1090 : decode code 1090 = .ok (.if_icmp .eq 484, 3) := by decide +kernel
theorem d_La_law_1093 : decode code 1093 = .ok (.iconst 0, 1) := by decide +kernel
theorem d_La_law_1094 : decode code 1094 = .ok (.ireturn, 1) := by decide +kernel
theorem d_La_law_1095 : decode code 1095 = .ok (.aload_n 1, 1) := by decide +kernel
theorem d_La_law_1096 : decode code 1096 = .ok (.invokevirtual 153, 3) := by decide +kernel
theorem d_La_law_1099 : decode code 1099 = .ok (.aload_n 2, 1) := by decide +kernel
theorem d_La_law_1100 : decode code 1100 = .ok (.invokevirtual 156, 3) := by decide +kernel
theorem d_La_law_1103 : decode code 1103 = .ok (.if_icmp .eq 471, 3) := by decide +kernel
theorem d_La_law_1106 : decode code 1106 = .ok (.iconst 0, 1) := by decide +kernel
theorem d_La_law_1107 : decode code 1107 = .ok (.ireturn, 1) := by decide +kernel
theorem d_La_law_1108 : decode code 1108 = .ok (.aload_n 1, 1) := by decide +kernel
theorem d_La_law_1109 : decode code 1109 = .ok (.aload_n 0, 1) := by decide +kernel
theorem d_La_law_1110 : decode code 1110 = .ok (.iload 4, 2) := by decide +kernel
theorem d_La_law_1112 : decode code 1112 = .ok (.iconst 1, 1) := by decide +kernel
theorem d_La_law_1113 : decode code 1113 = .ok (.iadd, 1) := by decide +kernel
theorem d_La_law_1114 : decode code 1114 = .ok (.iaload, 1) := by decide +kernel
theorem d_La_law_1115 : decode code 1115 = .ok (.aload_n 3, 1) := by decide +kernel
theorem d_La_law_1116 : decode code 1116 = .ok (.invokestatic 157, 3) := by decide +kernel
theorem d_La_law_1119 : decode code 1119 = .ok (.istore 5, 2) := by decide +kernel
theorem d_La_law_1121 : decode code 1121 = .ok (.aload_n 2, 1) := by decide +kernel
theorem d_La_law_1122 : decode code 1122 = .ok (.aload_n 0, 1) := by decide +kernel
theorem d_La_law_1123 : decode code 1123 = .ok (.iload 4, 2) := by decide +kernel
theorem d_La_law_1125 : decode code 1125 = .ok (.iconst 1, 1) := by decide +kernel
theorem d_La_law_1126 : decode code 1126 = .ok (.iadd, 1) := by decide +kernel
theorem d_La_law_1127 : decode code 1127 = .ok (.iaload, 1) := by decide +kernel
theorem d_La_law_1128 : decode code 1128 = .ok (.invokevirtual 159, 3) := by decide +kernel
theorem d_La_law_1131 : decode code 1131 = .ok (.istore 6, 2) := by decide +kernel
theorem d_La_law_1133 : decode code 1133 = .ok (.aload_n 2, 1) := by decide +kernel
theorem d_La_law_1134 : decode code 1134 = .ok (.invokevirtual 94, 3) := by decide +kernel
theorem d_La_law_1137 : decode code 1137 = .ok (.iload 5, 2) := by decide +kernel
theorem d_La_law_1139 : decode code 1139 = .ok (.if_icmp .eq 5, 3) := by decide +kernel
theorem d_La_law_1142 : decode code 1142 = .ok (.iconst 0, 1) := by decide +kernel
theorem d_La_law_1143 : decode code 1143 = .ok (.ireturn, 1) := by decide +kernel
theorem d_La_law_1144 : decode code 1144 = .ok (.iload 5, 2) := by decide +kernel
theorem d_La_law_1146 : decode code 1146 = .ok (.ifCond .ne 15, 3) := by decide +kernel
theorem d_La_law_1149 : decode code 1149 = .ok (.aload_n 3, 1) := by decide +kernel
theorem d_La_law_1150 : decode code 1150 = .ok (.iconst 0, 1) := by decide +kernel
theorem d_La_law_1151 : decode code 1151 = .ok (.laload, 1) := by decide +kernel
theorem d_La_law_1152 : decode code 1152 = .ok (.iload 6, 2) := by decide +kernel
theorem d_La_law_1154 : decode code 1154 = .ok (.i2l, 1) := by decide +kernel
theorem d_La_law_1155 : decode code 1155 = .ok (.lcmp, 1) := by decide +kernel
theorem d_La_law_1156 : decode code 1156 = .ok (.ifCond .eq 5, 3) := by decide +kernel
theorem d_La_law_1159 : decode code 1159 = .ok (.iconst 0, 1) := by decide +kernel
theorem d_La_law_1160 : decode code 1160 = .ok (.ireturn, 1) := by decide +kernel
theorem d_La_law_1161 : decode code 1161 = .ok (.goto 413, 3) := by decide +kernel
theorem d_La_law_1164 : decode code 1164 = .ok (.aload_n 1, 1) := by decide +kernel
theorem d_La_law_1165 : decode code 1165 = .ok (.aload_n 0, 1) := by decide +kernel
theorem d_La_law_1166 : decode code 1166 = .ok (.iload 4, 2) := by decide +kernel
theorem d_La_law_1168 : decode code 1168 = .ok (.iconst 1, 1) := by decide +kernel
theorem d_La_law_1169 : decode code 1169 = .ok (.iadd, 1) := by decide +kernel
theorem d_La_law_1170 : decode code 1170 = .ok (.iaload, 1) := by decide +kernel
theorem d_La_law_1171 : decode code 1171 = .ok (.aload_n 0, 1) := by decide +kernel
theorem d_La_law_1172 : decode code 1172 = .ok (.iload 4, 2) := by decide +kernel
theorem d_La_law_1174 : decode code 1174 = .ok (.iconst 2, 1) := by decide +kernel
theorem d_La_law_1175 : decode code 1175 = .ok (.iadd, 1) := by decide +kernel
theorem d_La_law_1176 : decode code 1176 = .ok (.iaload, 1) := by decide +kernel
theorem d_La_law_1177 : decode code 1177 = .ok (.aload_n 3, 1) := by decide +kernel
theorem d_La_law_1178 : decode code 1178 = .ok (.invokestatic 160, 3) := by decide +kernel
theorem d_La_law_1181 : decode code 1181 = .ok (.istore 5, 2) := by decide +kernel
theorem d_La_law_1183 : decode code 1183 = .ok (.aload_n 2, 1) := by decide +kernel
theorem d_La_law_1184 : decode code 1184 = .ok (.aload_n 0, 1) := by decide +kernel
theorem d_La_law_1185 : decode code 1185 = .ok (.iload 4, 2) := by decide +kernel
theorem d_La_law_1187 : decode code 1187 = .ok (.iconst 1, 1) := by decide +kernel
theorem d_La_law_1188 : decode code 1188 = .ok (.iadd, 1) := by decide +kernel
theorem d_La_law_1189 : decode code 1189 = .ok (.iaload, 1) := by decide +kernel
theorem d_La_law_1190 : decode code 1190 = .ok (.aload_n 0, 1) := by decide +kernel
theorem d_La_law_1191 : decode code 1191 = .ok (.iload 4, 2) := by decide +kernel
theorem d_La_law_1193 : decode code 1193 = .ok (.iconst 2, 1) := by decide +kernel
theorem d_La_law_1194 : decode code 1194 = .ok (.iadd, 1) := by decide +kernel
theorem d_La_law_1195 : decode code 1195 = .ok (.iaload, 1) := by decide +kernel
theorem d_La_law_1196 : decode code 1196 = .ok (.invokevirtual 162, 3) := by decide +kernel
theorem d_La_law_1199 : decode code 1199 = .ok (.istore 6, 2) := by decide +kernel
theorem d_La_law_1201 : decode code 1201 = .ok (.aload_n 2, 1) := by decide +kernel
theorem d_La_law_1202 : decode code 1202 = .ok (.invokevirtual 94, 3) := by decide +kernel
theorem d_La_law_1205 : decode code 1205 = .ok (.iload 5, 2) := by decide +kernel
theorem d_La_law_1207 : decode code 1207 = .ok (.if_icmp .eq 5, 3) := by decide +kernel
theorem d_La_law_1210 : decode code 1210 = .ok (.iconst 0, 1) := by decide +kernel
theorem d_La_law_1211 : decode code 1211 = .ok (.ireturn, 1) := by decide +kernel
theorem d_La_law_1212 : decode code 1212 = .ok (.iload 5, 2) := by decide +kernel
theorem d_La_law_1214 : decode code 1214 = .ok (.ifCond .ne 15, 3) := by decide +kernel
theorem d_La_law_1217 : decode code 1217 = .ok (.aload_n 3, 1) := by decide +kernel
theorem d_La_law_1218 : decode code 1218 = .ok (.iconst 0, 1) := by decide +kernel
theorem d_La_law_1219 : decode code 1219 = .ok (.laload, 1) := by decide +kernel
theorem d_La_law_1220 : decode code 1220 = .ok (.iload 6, 2) := by decide +kernel
theorem d_La_law_1222 : decode code 1222 = .ok (.i2l, 1) := by decide +kernel
theorem d_La_law_1223 : decode code 1223 = .ok (.lcmp, 1) := by decide +kernel
theorem d_La_law_1224 : decode code 1224 = .ok (.ifCond .eq 5, 3) := by decide +kernel
theorem d_La_law_1227 : decode code 1227 = .ok (.iconst 0, 1) := by decide +kernel
theorem d_La_law_1228 : decode code 1228 = .ok (.ireturn, 1) := by decide +kernel
theorem d_La_law_1229 : decode code 1229 = .ok (.goto 345, 3) := by decide +kernel
theorem d_La_law_1232 : decode code 1232 = .ok (.aload_n 1, 1) := by decide +kernel
theorem d_La_law_1233 : decode code 1233 = .ok (.aload_n 0, 1) := by decide +kernel
theorem d_La_law_1234 : decode code 1234 = .ok (.iload 4, 2) := by decide +kernel
theorem d_La_law_1236 : decode code 1236 = .ok (.iconst 1, 1) := by decide +kernel
theorem d_La_law_1237 : decode code 1237 = .ok (.iadd, 1) := by decide +kernel
theorem d_La_law_1238 : decode code 1238 = .ok (.iaload, 1) := by decide +kernel
theorem d_La_law_1239 : decode code 1239 = .ok (.aload_n 0, 1) := by decide +kernel
theorem d_La_law_1240 : decode code 1240 = .ok (.iload 4, 2) := by decide +kernel
theorem d_La_law_1242 : decode code 1242 = .ok (.iconst 2, 1) := by decide +kernel
theorem d_La_law_1243 : decode code 1243 = .ok (.iadd, 1) := by decide +kernel
theorem d_La_law_1244 : decode code 1244 = .ok (.iaload, 1) := by decide +kernel
theorem d_La_law_1245 : decode code 1245 = .ok (.aload_n 3, 1) := by decide +kernel
theorem d_La_law_1246 : decode code 1246 = .ok (.invokestatic 163, 3) := by decide +kernel
theorem d_La_law_1249 : decode code 1249 = .ok (.istore 5, 2) := by decide +kernel
theorem d_La_law_1251 : decode code 1251 = .ok (.aload_n 2, 1) := by decide +kernel
theorem d_La_law_1252 : decode code 1252 = .ok (.aload_n 0, 1) := by decide +kernel
theorem d_La_law_1253 : decode code 1253 = .ok (.iload 4, 2) := by decide +kernel
theorem d_La_law_1255 : decode code 1255 = .ok (.iconst 1, 1) := by decide +kernel
theorem d_La_law_1256 : decode code 1256 = .ok (.iadd, 1) := by decide +kernel
theorem d_La_law_1257 : decode code 1257 = .ok (.iaload, 1) := by decide +kernel
theorem d_La_law_1258 : decode code 1258 = .ok (.aload_n 0, 1) := by decide +kernel
theorem d_La_law_1259 : decode code 1259 = .ok (.iload 4, 2) := by decide +kernel
theorem d_La_law_1261 : decode code 1261 = .ok (.iconst 2, 1) := by decide +kernel
theorem d_La_law_1262 : decode code 1262 = .ok (.iadd, 1) := by decide +kernel
theorem d_La_law_1263 : decode code 1263 = .ok (.iaload, 1) := by decide +kernel
theorem d_La_law_1264 : decode code 1264 = .ok (.invokevirtual 165, 3) := by decide +kernel
theorem d_La_law_1267 : decode code 1267 = .ok (.istore 6, 2) := by decide +kernel
theorem d_La_law_1269 : decode code 1269 = .ok (.aload_n 2, 1) := by decide +kernel
theorem d_La_law_1270 : decode code 1270 = .ok (.invokevirtual 94, 3) := by decide +kernel
theorem d_La_law_1273 : decode code 1273 = .ok (.iload 5, 2) := by decide +kernel
theorem d_La_law_1275 : decode code 1275 = .ok (.if_icmp .eq 5, 3) := by decide +kernel
theorem d_La_law_1278 : decode code 1278 = .ok (.iconst 0, 1) := by decide +kernel
theorem d_La_law_1279 : decode code 1279 = .ok (.ireturn, 1) := by decide +kernel
theorem d_La_law_1280 : decode code 1280 = .ok (.iload 5, 2) := by decide +kernel
theorem d_La_law_1282 : decode code 1282 = .ok (.ifCond .ne 22, 3) := by decide +kernel
theorem d_La_law_1285 : decode code 1285 = .ok (.aload_n 3, 1) := by decide +kernel
theorem d_La_law_1286 : decode code 1286 = .ok (.iconst 0, 1) := by decide +kernel
theorem d_La_law_1287 : decode code 1287 = .ok (.laload, 1) := by decide +kernel
theorem d_La_law_1288 : decode code 1288 = .ok (.iload 6, 2) := by decide +kernel
theorem d_La_law_1290 : decode code 1290 = .ok (.ifCond .eq 7, 3) := by decide +kernel
theorem d_La_law_1293 : decode code 1293 = .ok (.lconst 1, 1) := by decide +kernel
theorem d_La_law_1294 : decode code 1294 = .ok (.goto 4, 3) := by decide +kernel
theorem d_La_law_1297 : decode code 1297 = .ok (.lconst 0, 1) := by decide +kernel
theorem d_La_law_1298 : decode code 1298 = .ok (.lcmp, 1) := by decide +kernel
theorem d_La_law_1299 : decode code 1299 = .ok (.ifCond .eq 5, 3) := by decide +kernel
theorem d_La_law_1302 : decode code 1302 = .ok (.iconst 0, 1) := by decide +kernel
theorem d_La_law_1303 : decode code 1303 = .ok (.ireturn, 1) := by decide +kernel
theorem d_La_law_1304 : decode code 1304 = .ok (.goto 270, 3) := by decide +kernel
theorem d_La_law_1307 : decode code 1307 = .ok (.aload_n 1, 1) := by decide +kernel
theorem d_La_law_1308 : decode code 1308 = .ok (.aload_n 0, 1) := by decide +kernel
theorem d_La_law_1309 : decode code 1309 = .ok (.iload 4, 2) := by decide +kernel
theorem d_La_law_1311 : decode code 1311 = .ok (.iconst 1, 1) := by decide +kernel
theorem d_La_law_1312 : decode code 1312 = .ok (.iadd, 1) := by decide +kernel
theorem d_La_law_1313 : decode code 1313 = .ok (.iaload, 1) := by decide +kernel
theorem d_La_law_1314 : decode code 1314 = .ok (.aload_n 0, 1) := by decide +kernel
theorem d_La_law_1315 : decode code 1315 = .ok (.iload 4, 2) := by decide +kernel
theorem d_La_law_1317 : decode code 1317 = .ok (.iconst 2, 1) := by decide +kernel
theorem d_La_law_1318 : decode code 1318 = .ok (.iadd, 1) := by decide +kernel
theorem d_La_law_1319 : decode code 1319 = .ok (.iaload, 1) := by decide +kernel
theorem d_La_law_1320 : decode code 1320 = .ok (.aload_n 3, 1) := by decide +kernel
theorem d_La_law_1321 : decode code 1321 = .ok (.invokestatic 166, 3) := by decide +kernel
theorem d_La_law_1324 : decode code 1324 = .ok (.istore 5, 2) := by decide +kernel
theorem d_La_law_1326 : decode code 1326 = .ok (.aload_n 2, 1) := by decide +kernel
theorem d_La_law_1327 : decode code 1327 = .ok (.aload_n 0, 1) := by decide +kernel
theorem d_La_law_1328 : decode code 1328 = .ok (.iload 4, 2) := by decide +kernel
theorem d_La_law_1330 : decode code 1330 = .ok (.iconst 1, 1) := by decide +kernel
theorem d_La_law_1331 : decode code 1331 = .ok (.iadd, 1) := by decide +kernel
theorem d_La_law_1332 : decode code 1332 = .ok (.iaload, 1) := by decide +kernel
theorem d_La_law_1333 : decode code 1333 = .ok (.aload_n 0, 1) := by decide +kernel
theorem d_La_law_1334 : decode code 1334 = .ok (.iload 4, 2) := by decide +kernel
theorem d_La_law_1336 : decode code 1336 = .ok (.iconst 2, 1) := by decide +kernel
theorem d_La_law_1337 : decode code 1337 = .ok (.iadd, 1) := by decide +kernel
theorem d_La_law_1338 : decode code 1338 = .ok (.iaload, 1) := by decide +kernel
theorem d_La_law_1339 : decode code 1339 = .ok (.invokevirtual 168, 3) := by decide +kernel
theorem d_La_law_1342 : decode code 1342 = .ok (.istore 6, 2) := by decide +kernel
theorem d_La_law_1344 : decode code 1344 = .ok (.aload_n 2, 1) := by decide +kernel
theorem d_La_law_1345 : decode code 1345 = .ok (.invokevirtual 94, 3) := by decide +kernel
theorem d_La_law_1348 : decode code 1348 = .ok (.iload 5, 2) := by decide +kernel
theorem d_La_law_1350 : decode code 1350 = .ok (.if_icmp .eq 5, 3) := by decide +kernel
theorem d_La_law_1353 : decode code 1353 = .ok (.iconst 0, 1) := by decide +kernel
theorem d_La_law_1354 : decode code 1354 = .ok (.ireturn, 1) := by decide +kernel
theorem d_La_law_1355 : decode code 1355 = .ok (.iload 5, 2) := by decide +kernel
theorem d_La_law_1357 : decode code 1357 = .ok (.ifCond .ne 22, 3) := by decide +kernel
theorem d_La_law_1360 : decode code 1360 = .ok (.aload_n 3, 1) := by decide +kernel
theorem d_La_law_1361 : decode code 1361 = .ok (.iconst 0, 1) := by decide +kernel
theorem d_La_law_1362 : decode code 1362 = .ok (.laload, 1) := by decide +kernel
theorem d_La_law_1363 : decode code 1363 = .ok (.iload 6, 2) := by decide +kernel
theorem d_La_law_1365 : decode code 1365 = .ok (.ifCond .eq 7, 3) := by decide +kernel
theorem d_La_law_1368 : decode code 1368 = .ok (.lconst 1, 1) := by decide +kernel
theorem d_La_law_1369 : decode code 1369 = .ok (.goto 4, 3) := by decide +kernel
theorem d_La_law_1372 : decode code 1372 = .ok (.lconst 0, 1) := by decide +kernel
theorem d_La_law_1373 : decode code 1373 = .ok (.lcmp, 1) := by decide +kernel
theorem d_La_law_1374 : decode code 1374 = .ok (.ifCond .eq 5, 3) := by decide +kernel
theorem d_La_law_1377 : decode code 1377 = .ok (.iconst 0, 1) := by decide +kernel
theorem d_La_law_1378 : decode code 1378 = .ok (.ireturn, 1) := by decide +kernel
theorem d_La_law_1379 : decode code 1379 = .ok (.goto 195, 3) := by decide +kernel
theorem d_La_law_1382 : decode code 1382 = .ok (.aload_n 1, 1) := by decide +kernel
theorem d_La_law_1383 : decode code 1383 = .ok (.aload_n 0, 1) := by decide +kernel
theorem d_La_law_1384 : decode code 1384 = .ok (.iload 4, 2) := by decide +kernel
theorem d_La_law_1386 : decode code 1386 = .ok (.iconst 1, 1) := by decide +kernel
theorem d_La_law_1387 : decode code 1387 = .ok (.iadd, 1) := by decide +kernel
theorem d_La_law_1388 : decode code 1388 = .ok (.iaload, 1) := by decide +kernel
theorem d_La_law_1389 : decode code 1389 = .ok (.aload_n 0, 1) := by decide +kernel
theorem d_La_law_1390 : decode code 1390 = .ok (.iload 4, 2) := by decide +kernel
theorem d_La_law_1392 : decode code 1392 = .ok (.iconst 2, 1) := by decide +kernel
theorem d_La_law_1393 : decode code 1393 = .ok (.iadd, 1) := by decide +kernel
theorem d_La_law_1394 : decode code 1394 = .ok (.iaload, 1) := by decide +kernel
theorem d_La_law_1395 : decode code 1395 = .ok (.aload_n 3, 1) := by decide +kernel
theorem d_La_law_1396 : decode code 1396 = .ok (.invokestatic 169, 3) := by decide +kernel
theorem d_La_law_1399 : decode code 1399 = .ok (.istore 5, 2) := by decide +kernel
theorem d_La_law_1401 : decode code 1401 = .ok (.aload_n 2, 1) := by decide +kernel
theorem d_La_law_1402 : decode code 1402 = .ok (.aload_n 0, 1) := by decide +kernel
theorem d_La_law_1403 : decode code 1403 = .ok (.iload 4, 2) := by decide +kernel
theorem d_La_law_1405 : decode code 1405 = .ok (.iconst 1, 1) := by decide +kernel
theorem d_La_law_1406 : decode code 1406 = .ok (.iadd, 1) := by decide +kernel
theorem d_La_law_1407 : decode code 1407 = .ok (.iaload, 1) := by decide +kernel
theorem d_La_law_1408 : decode code 1408 = .ok (.aload_n 0, 1) := by decide +kernel
theorem d_La_law_1409 : decode code 1409 = .ok (.iload 4, 2) := by decide +kernel
theorem d_La_law_1411 : decode code 1411 = .ok (.iconst 2, 1) := by decide +kernel
theorem d_La_law_1412 : decode code 1412 = .ok (.iadd, 1) := by decide +kernel
theorem d_La_law_1413 : decode code 1413 = .ok (.iaload, 1) := by decide +kernel
theorem d_La_law_1414 : decode code 1414 = .ok (.invokevirtual 171, 3) := by decide +kernel
theorem d_La_law_1417 : decode code 1417 = .ok (.istore 6, 2) := by decide +kernel
theorem d_La_law_1419 : decode code 1419 = .ok (.aload_n 2, 1) := by decide +kernel
theorem d_La_law_1420 : decode code 1420 = .ok (.invokevirtual 94, 3) := by decide +kernel
theorem d_La_law_1423 : decode code 1423 = .ok (.iload 5, 2) := by decide +kernel
theorem d_La_law_1425 : decode code 1425 = .ok (.if_icmp .eq 5, 3) := by decide +kernel
theorem d_La_law_1428 : decode code 1428 = .ok (.iconst 0, 1) := by decide +kernel
theorem d_La_law_1429 : decode code 1429 = .ok (.ireturn, 1) := by decide +kernel
theorem d_La_law_1430 : decode code 1430 = .ok (.iload 5, 2) := by decide +kernel
theorem d_La_law_1432 : decode code 1432 = .ok (.ifCond .ne 15, 3) := by decide +kernel
theorem d_La_law_1435 : decode code 1435 = .ok (.aload_n 3, 1) := by decide +kernel
theorem d_La_law_1436 : decode code 1436 = .ok (.iconst 0, 1) := by decide +kernel
theorem d_La_law_1437 : decode code 1437 = .ok (.laload, 1) := by decide +kernel
theorem d_La_law_1438 : decode code 1438 = .ok (.iload 6, 2) := by decide +kernel
theorem d_La_law_1440 : decode code 1440 = .ok (.i2l, 1) := by decide +kernel
theorem d_La_law_1441 : decode code 1441 = .ok (.lcmp, 1) := by decide +kernel
theorem d_La_law_1442 : decode code 1442 = .ok (.ifCond .eq 5, 3) := by decide +kernel
theorem d_La_law_1445 : decode code 1445 = .ok (.iconst 0, 1) := by decide +kernel
theorem d_La_law_1446 : decode code 1446 = .ok (.ireturn, 1) := by decide +kernel
theorem d_La_law_1447 : decode code 1447 = .ok (.goto 127, 3) := by decide +kernel
theorem d_La_law_1450 : decode code 1450 = .ok (.aload_n 1, 1) := by decide +kernel
theorem d_La_law_1451 : decode code 1451 = .ok (.aload_n 0, 1) := by decide +kernel
theorem d_La_law_1452 : decode code 1452 = .ok (.iload 4, 2) := by decide +kernel
theorem d_La_law_1454 : decode code 1454 = .ok (.iconst 1, 1) := by decide +kernel
theorem d_La_law_1455 : decode code 1455 = .ok (.iadd, 1) := by decide +kernel
theorem d_La_law_1456 : decode code 1456 = .ok (.iaload, 1) := by decide +kernel
theorem d_La_law_1457 : decode code 1457 = .ok (.aload_n 0, 1) := by decide +kernel
theorem d_La_law_1458 : decode code 1458 = .ok (.iload 4, 2) := by decide +kernel
theorem d_La_law_1460 : decode code 1460 = .ok (.iconst 2, 1) := by decide +kernel
theorem d_La_law_1461 : decode code 1461 = .ok (.iadd, 1) := by decide +kernel
theorem d_La_law_1462 : decode code 1462 = .ok (.iaload, 1) := by decide +kernel
theorem d_La_law_1463 : decode code 1463 = .ok (.aload_n 3, 1) := by decide +kernel
theorem d_La_law_1464 : decode code 1464 = .ok (.invokestatic 172, 3) := by decide +kernel
theorem d_La_law_1467 : decode code 1467 = .ok (.istore 5, 2) := by decide +kernel
theorem d_La_law_1469 : decode code 1469 = .ok (.aload_n 2, 1) := by decide +kernel
theorem d_La_law_1470 : decode code 1470 = .ok (.aload_n 0, 1) := by decide +kernel
theorem d_La_law_1471 : decode code 1471 = .ok (.iload 4, 2) := by decide +kernel
theorem d_La_law_1473 : decode code 1473 = .ok (.iconst 1, 1) := by decide +kernel
theorem d_La_law_1474 : decode code 1474 = .ok (.iadd, 1) := by decide +kernel
theorem d_La_law_1475 : decode code 1475 = .ok (.iaload, 1) := by decide +kernel
theorem d_La_law_1476 : decode code 1476 = .ok (.aload_n 0, 1) := by decide +kernel
theorem d_La_law_1477 : decode code 1477 = .ok (.iload 4, 2) := by decide +kernel
theorem d_La_law_1479 : decode code 1479 = .ok (.iconst 2, 1) := by decide +kernel
theorem d_La_law_1480 : decode code 1480 = .ok (.iadd, 1) := by decide +kernel
theorem d_La_law_1481 : decode code 1481 = .ok (.iaload, 1) := by decide +kernel
theorem d_La_law_1482 : decode code 1482 = .ok (.invokevirtual 174, 3) := by decide +kernel
theorem d_La_law_1485 : decode code 1485 = .ok (.istore 6, 2) := by decide +kernel
theorem d_La_law_1487 : decode code 1487 = .ok (.aload_n 2, 1) := by decide +kernel
theorem d_La_law_1488 : decode code 1488 = .ok (.invokevirtual 94, 3) := by decide +kernel
theorem d_La_law_1491 : decode code 1491 = .ok (.iload 5, 2) := by decide +kernel
theorem d_La_law_1493 : decode code 1493 = .ok (.if_icmp .eq 5, 3) := by decide +kernel
theorem d_La_law_1496 : decode code 1496 = .ok (.iconst 0, 1) := by decide +kernel
theorem d_La_law_1497 : decode code 1497 = .ok (.ireturn, 1) := by decide +kernel
theorem d_La_law_1498 : decode code 1498 = .ok (.iload 5, 2) := by decide +kernel
theorem d_La_law_1500 : decode code 1500 = .ok (.ifCond .ne 15, 3) := by decide +kernel
theorem d_La_law_1503 : decode code 1503 = .ok (.aload_n 3, 1) := by decide +kernel
theorem d_La_law_1504 : decode code 1504 = .ok (.iconst 0, 1) := by decide +kernel
theorem d_La_law_1505 : decode code 1505 = .ok (.laload, 1) := by decide +kernel
theorem d_La_law_1506 : decode code 1506 = .ok (.iload 6, 2) := by decide +kernel
theorem d_La_law_1508 : decode code 1508 = .ok (.i2l, 1) := by decide +kernel
theorem d_La_law_1509 : decode code 1509 = .ok (.lcmp, 1) := by decide +kernel
theorem d_La_law_1510 : decode code 1510 = .ok (.ifCond .eq 5, 3) := by decide +kernel
theorem d_La_law_1513 : decode code 1513 = .ok (.iconst 0, 1) := by decide +kernel
theorem d_La_law_1514 : decode code 1514 = .ok (.ireturn, 1) := by decide +kernel
theorem d_La_law_1515 : decode code 1515 = .ok (.goto 59, 3) := by decide +kernel
theorem d_La_law_1518 : decode code 1518 = .ok (.aload_n 1, 1) := by decide +kernel
theorem d_La_law_1519 : decode code 1519 = .ok (.aload_n 0, 1) := by decide +kernel
theorem d_La_law_1520 : decode code 1520 = .ok (.iload 4, 2) := by decide +kernel
theorem d_La_law_1522 : decode code 1522 = .ok (.iconst 1, 1) := by decide +kernel
theorem d_La_law_1523 : decode code 1523 = .ok (.iadd, 1) := by decide +kernel
theorem d_La_law_1524 : decode code 1524 = .ok (.iaload, 1) := by decide +kernel
theorem d_La_law_1525 : decode code 1525 = .ok (.aload_n 3, 1) := by decide +kernel
theorem d_La_law_1526 : decode code 1526 = .ok (.invokestatic 175, 3) := by decide +kernel
theorem d_La_law_1529 : decode code 1529 = .ok (.istore 5, 2) := by decide +kernel
theorem d_La_law_1531 : decode code 1531 = .ok (.aload_n 2, 1) := by decide +kernel
theorem d_La_law_1532 : decode code 1532 = .ok (.aload_n 0, 1) := by decide +kernel
theorem d_La_law_1533 : decode code 1533 = .ok (.iload 4, 2) := by decide +kernel
theorem d_La_law_1535 : decode code 1535 = .ok (.iconst 1, 1) := by decide +kernel
theorem d_La_law_1536 : decode code 1536 = .ok (.iadd, 1) := by decide +kernel
theorem d_La_law_1537 : decode code 1537 = .ok (.iaload, 1) := by decide +kernel
theorem d_La_law_1538 : decode code 1538 = .ok (.invokevirtual 177, 3) := by decide +kernel
theorem d_La_law_1541 : decode code 1541 = .ok (.istore 6, 2) := by decide +kernel
theorem d_La_law_1543 : decode code 1543 = .ok (.aload_n 2, 1) := by decide +kernel
theorem d_La_law_1544 : decode code 1544 = .ok (.invokevirtual 94, 3) := by decide +kernel
theorem d_La_law_1547 : decode code 1547 = .ok (.iload 5, 2) := by decide +kernel
theorem d_La_law_1549 : decode code 1549 = .ok (.if_icmp .eq 5, 3) := by decide +kernel
theorem d_La_law_1552 : decode code 1552 = .ok (.iconst 0, 1) := by decide +kernel
theorem d_La_law_1553 : decode code 1553 = .ok (.ireturn, 1) := by decide +kernel
theorem d_La_law_1554 : decode code 1554 = .ok (.iload 5, 2) := by decide +kernel
theorem d_La_law_1556 : decode code 1556 = .ok (.ifCond .ne 15, 3) := by decide +kernel
theorem d_La_law_1559 : decode code 1559 = .ok (.aload_n 3, 1) := by decide +kernel
theorem d_La_law_1560 : decode code 1560 = .ok (.iconst 0, 1) := by decide +kernel
theorem d_La_law_1561 : decode code 1561 = .ok (.laload, 1) := by decide +kernel
theorem d_La_law_1562 : decode code 1562 = .ok (.iload 6, 2) := by decide +kernel
theorem d_La_law_1564 : decode code 1564 = .ok (.i2l, 1) := by decide +kernel
theorem d_La_law_1565 : decode code 1565 = .ok (.lcmp, 1) := by decide +kernel
theorem d_La_law_1566 : decode code 1566 = .ok (.ifCond .eq 5, 3) := by decide +kernel
theorem d_La_law_1569 : decode code 1569 = .ok (.iconst 0, 1) := by decide +kernel
theorem d_La_law_1570 : decode code 1570 = .ok (.ireturn, 1) := by decide +kernel
theorem d_La_law_1571 : decode code 1571 = .ok (.goto 3, 3) := by decide +kernel
theorem d_La_law_1574 : decode code 1574 = .ok (.iinc 4 6, 3) := by decide +kernel
theorem d_La_law_1577 : decode code 1577 = .ok (.goto (-1554), 3) := by decide +kernel
theorem d_La_law_1580 : decode code 1580 = .ok (.iconst 1, 1) := by decide +kernel
theorem d_La_law_1581 : decode code 1581 = .ok (.ireturn, 1) := by decide +kernel
set_option maxRecDepth 100000 in
set_option maxHeartbeats 4000000 in
theorem w_j_La_law_156 {X : CX} {b L : Nat} {xs : Nat → Int32} {a1 a2 a3 : Option Nat} {a4 : Int32} {s : MS} {rec : Int32 → MS → Option Int32} {ce0 sl0 : Nat} (ok : Ok X code RL rm_La_law 7 true) (ht : Sc X b L xs) (hc1 : ce0 + 100 ≤ 601024) (hc2 : sl0 + 1200 ≤ 7293034) (hrec : ∀ (v4 : Int32) (z : MS), rec v4 z = some 1 → G X z (ce0 + 100) (sl0 + 1200) 23 [(0, vW (Value.ref b)), (1, vR a1), (2, vR a2), (3, vR a3), (4, vI v4)] []) (h : j_La_law_156 L xs a1 a2 a3 a4 s rec = some 1) : G X s ce0 sl0 156 [(0, vW (Value.ref b)), (1, vR a1), (2, vR a2), (3, vR a3), (4, vI a4)] [] := by
  unfold j_La_law_156 at h
  refine g_aload_n (i := 1) 1 ok d_La_law_156 rfl rfl ?_
  refine g_aloadw_n (i := 0) 0 ok d_La_law_157 rfl rfl ?_
  refine g_iload (i := 4) 4 ok d_La_law_158 rfl ?_
  refine g_iconst (v := (1 : Int32)) ok d_La_law_160 (by decide) ?_
  refine g_iadd ok d_La_law_161 ?_
  obtain ⟨x6, hx7, h⟩ := bnd_go h
  refine g_sld ok ht hx7 d_La_law_162 ?_
  refine g_aloadw_n (i := 0) 0 ok d_La_law_163 rfl rfl ?_
  refine g_iload (i := 4) 4 ok d_La_law_164 rfl ?_
  refine g_iconst (v := (2 : Int32)) ok d_La_law_166 (by decide) ?_
  refine g_iadd ok d_La_law_167 ?_
  obtain ⟨x8, hx9, h⟩ := bnd_go h
  refine g_sld ok ht hx9 d_La_law_168 ?_
  refine g_aload_n (i := 3) 3 ok d_La_law_169 rfl rfl ?_
  obtain ⟨k10, hk11, h⟩ := bnd_go h
  obtain ⟨k12, hk13, h⟩ := bnd_go h
  obtain ⟨n14, hn15, h⟩ := bnd_go h
  obtain ⟨x19, s18, hc17, h⟩ := bnd2_go h
  refine g_callW (rm2 := rm_La_tower) (As := [vR a1, vI x6, vI x8, vR a3]) (rest := []) ok ht.2.2.2.1 (c_La_tower ht.2.2.2.2.1 hc17) cm_La_tower cs_La_tower tw_186 ⟨rfl, rfl⟩ ⟨le_t rfl, le_t rfl⟩ ⟨rfl, le_t rfl⟩ ⟨(by show _ ≤ 601024; omega), (by show _ ≤ 7293034; omega)⟩ ⟨trivial, ⟨(rk_of hk11), ⟨(rk_of hk13), ⟨(rk_rl hn15), ⟨trivial, trivial⟩⟩⟩⟩⟩ trivial d_La_law_170 rfl (fun m16 => ?_)
  show G X s18 (ce0 + 1) (sl0 + 6) 173 [(0, vW (Value.ref b)), (1, vR a1), (2, vR a2), (3, vR a3), (4, vI a4)] [vI x19]
  refine g_istore (i := 5) [(5, vI x19), (0, vW (Value.ref b)), (1, vR a1), (2, vR a2), (3, vR a3), (4, vI a4)] ok d_La_law_173 (by decide) rfl ?_
  refine g_aload_n (i := 2) 3 ok d_La_law_175 rfl rfl ?_
  refine g_aloadw_n (i := 0) 1 ok d_La_law_176 rfl rfl ?_
  refine g_iload (i := 4) 5 ok d_La_law_177 rfl ?_
  refine g_iconst (v := (1 : Int32)) ok d_La_law_179 (by decide) ?_
  refine g_iadd ok d_La_law_180 ?_
  obtain ⟨x20, hx21, h⟩ := bnd_go h
  refine g_sld ok ht hx21 d_La_law_181 ?_
  refine g_aloadw_n (i := 0) 1 ok d_La_law_182 rfl rfl ?_
  refine g_iload (i := 4) 5 ok d_La_law_183 rfl ?_
  refine g_iconst (v := (2 : Int32)) ok d_La_law_185 (by decide) ?_
  refine g_iadd ok d_La_law_186 ?_
  obtain ⟨x22, hx23, h⟩ := bnd_go h
  refine g_sld ok ht hx23 d_La_law_187 ?_
  obtain ⟨x27, s26, hc25, h⟩ := bnd2_go h
  refine g_invV (rm2 := rm_Mo_tower) (As := [vI x20, vI x22]) (rest := []) ok (rf_mono m16 hk13) lay_20 rfl (c_Mo_tower X.1.2.1 (rf_self (rf_mono m16 hk13)) hc25) cm_Mo_tower cv_Mo_tower tw_831 ⟨rfl, rfl⟩ ⟨le_t rfl, le_t rfl⟩ ⟨rfl, le_t rfl⟩ ⟨(by show _ ≤ 601024; omega), (by show _ ≤ 7293034; omega)⟩ d_La_law_188 rfl (fun m24 => ?_)
  show G X s26 (ce0 + 1) (sl0 + 6) 191 [(5, vI x19), (0, vW (Value.ref b)), (1, vR a1), (2, vR a2), (3, vR a3), (4, vI a4)] [vI x27]
  refine g_istore (i := 6) [(6, vI x27), (5, vI x19), (0, vW (Value.ref b)), (1, vR a1), (2, vR a2), (3, vR a3), (4, vI a4)] ok d_La_law_191 (by decide) rfl ?_
  refine g_aload_n (i := 2) 4 ok d_La_law_193 rfl rfl ?_
  obtain ⟨x29, hc30, h⟩ := bnd_go h
  refine g_invV (rm2 := rm_Mo_thrown) (As := []) (rest := []) ok (rf_mono m24 (rf_mono m16 hk13)) lay_20 rfl (c_Mo_thrown X.1.2.1 (rf_self (rf_mono m24 (rf_mono m16 hk13))) hc30) cm_Mo_thrown cv_Mo_thrown tw_827 ⟨rfl, rfl⟩ ⟨le_t rfl, le_t rfl⟩ ⟨rfl, le_t rfl⟩ ⟨(by show _ ≤ 601024; omega), (by show _ ≤ 7293034; omega)⟩ d_La_law_194 rfl (fun m28 => ?_)
  show G X s26 (ce0 + 1) (sl0 + 6) 197 [(6, vI x27), (5, vI x19), (0, vW (Value.ref b)), (1, vR a1), (2, vR a2), (3, vR a3), (4, vI a4)] [vI x29]
  refine g_iload (i := 5) 1 ok d_La_law_197 rfl ?_
  refine g_icmp_eq (tgt := 204) ok d_La_law_199 (by decide) (fun c31 => ?_) (fun c31 => ?_)
  · replace h := (if_pos c31).symm.trans h
    refine g_iload (i := 5) 1 ok d_La_law_204 rfl ?_
    refine g_if_ne (tgt := 221) ok d_La_law_206 (by decide) (fun c32 => ?_) (fun c32 => ?_)
    · replace h := (if_pos c32).symm.trans h
      refine g_aload_n (i := 3) 5 ok d_La_law_209 rfl rfl ?_
      refine g_iconst (v := (0 : Int32)) ok d_La_law_210 (by decide) ?_
      obtain ⟨k33, hk34, h⟩ := bnd_go h
      refine g_lald ok hk34 d_La_law_211 ?_
      refine g_iload (i := 6) 0 ok d_La_law_212 rfl ?_
      refine g_i2l ok d_La_law_214 ?_
      refine g_lcmp ok d_La_law_215 ?_
      refine g_if_eq (tgt := 221) ok d_La_law_216 (by decide) (fun c35 => ?_) (fun c35 => ?_)
      · replace h := (if_pos c35).symm.trans h
        refine g_goto (tgt := 1574) ok d_La_law_221 (by decide) ?_
        obtain ⟨x36, e37⟩ : ∃ z, a4 + (6 : Int32) = z := ⟨_, rfl⟩
        replace h := lt_go h e37
        refine g_iinc (i := 4) (v := x36) 6 [(4, vI x36), (6, vI x27), (5, vI x19), (0, vW (Value.ref b)), (1, vR a1), (2, vR a2), (3, vR a3)] ok d_La_law_1574 rfl (by rw [← e37]; rfl) (by decide) rfl ?_
        refine g_goto (tgt := 23) ok d_La_law_1577 (by decide) ?_
        refine g_sub [3, 4, 5, 6, 0] rfl ?_
        refine g_widen (ce' := (ce0 + 100)) (sl' := (sl0 + 1200)) (by omega) (by omega) ?_
        exact hrec x36 s26 h
      · replace h := (if_neg c35).symm.trans h
        refine g_iconst (v := (0 : Int32)) ok d_La_law_219 (by decide) ?_
        exact absurd (Option.some.inj h) (by decide)
    · replace h := (if_neg c32).symm.trans h
      refine g_goto (tgt := 1574) ok d_La_law_221 (by decide) ?_
      obtain ⟨x38, e39⟩ : ∃ z, a4 + (6 : Int32) = z := ⟨_, rfl⟩
      replace h := lt_go h e39
      refine g_iinc (i := 4) (v := x38) 6 [(4, vI x38), (6, vI x27), (5, vI x19), (0, vW (Value.ref b)), (1, vR a1), (2, vR a2), (3, vR a3)] ok d_La_law_1574 rfl (by rw [← e39]; rfl) (by decide) rfl ?_
      refine g_goto (tgt := 23) ok d_La_law_1577 (by decide) ?_
      refine g_sub [3, 4, 5, 6, 0] rfl ?_
      refine g_widen (ce' := (ce0 + 100)) (sl' := (sl0 + 1200)) (by omega) (by omega) ?_
      exact hrec x38 s26 h
  · replace h := (if_neg c31).symm.trans h
    refine g_iconst (v := (0 : Int32)) ok d_La_law_202 (by decide) ?_
    exact absurd (Option.some.inj h) (by decide)
set_option maxRecDepth 100000 in
set_option maxHeartbeats 4000000 in
theorem w_j_La_law_224 {X : CX} {b L : Nat} {xs : Nat → Int32} {a1 a2 a3 : Option Nat} {a4 : Int32} {s : MS} {rec : Int32 → MS → Option Int32} {ce0 sl0 : Nat} (ok : Ok X code RL rm_La_law 7 true) (ht : Sc X b L xs) (hc1 : ce0 + 100 ≤ 601024) (hc2 : sl0 + 1200 ≤ 7293034) (hrec : ∀ (v4 : Int32) (z : MS), rec v4 z = some 1 → G X z (ce0 + 100) (sl0 + 1200) 23 [(0, vW (Value.ref b)), (1, vR a1), (2, vR a2), (3, vR a3), (4, vI v4)] []) (h : j_La_law_224 L xs a1 a2 a3 a4 s rec = some 1) : G X s ce0 sl0 224 [(0, vW (Value.ref b)), (1, vR a1), (2, vR a2), (3, vR a3), (4, vI a4)] [] := by
  unfold j_La_law_224 at h
  refine g_aload_n (i := 1) 1 ok d_La_law_224 rfl rfl ?_
  refine g_aloadw_n (i := 0) 0 ok d_La_law_225 rfl rfl ?_
  refine g_iload (i := 4) 4 ok d_La_law_226 rfl ?_
  refine g_iconst (v := (1 : Int32)) ok d_La_law_228 (by decide) ?_
  refine g_iadd ok d_La_law_229 ?_
  obtain ⟨x40, hx41, h⟩ := bnd_go h
  refine g_sld ok ht hx41 d_La_law_230 ?_
  refine g_aload_n (i := 3) 3 ok d_La_law_231 rfl rfl ?_
  obtain ⟨k42, hk43, h⟩ := bnd_go h
  obtain ⟨k44, hk45, h⟩ := bnd_go h
  obtain ⟨n46, hn47, h⟩ := bnd_go h
  obtain ⟨x51, s50, hc49, h⟩ := bnd2_go h
  refine g_callW (rm2 := rm_La_spot) (As := [vR a1, vI x40, vR a3]) (rest := []) ok ht.2.2.2.1 (c_La_spot ht.2.2.2.2.1 hc49) cm_La_spot cs_La_spot tw_311 ⟨rfl, rfl⟩ ⟨le_t rfl, le_t rfl⟩ ⟨rfl, le_t rfl⟩ ⟨(by show _ ≤ 601024; omega), (by show _ ≤ 7293034; omega)⟩ ⟨trivial, ⟨(rk_of hk43), ⟨(rk_of hk45), ⟨(rk_rl hn47), ⟨trivial, trivial⟩⟩⟩⟩⟩ trivial d_La_law_232 rfl (fun m48 => ?_)
  show G X s50 (ce0 + 1) (sl0 + 6) 235 [(0, vW (Value.ref b)), (1, vR a1), (2, vR a2), (3, vR a3), (4, vI a4)] [vI x51]
  refine g_istore (i := 5) [(5, vI x51), (0, vW (Value.ref b)), (1, vR a1), (2, vR a2), (3, vR a3), (4, vI a4)] ok d_La_law_235 (by decide) rfl ?_
  refine g_aload_n (i := 2) 3 ok d_La_law_237 rfl rfl ?_
  refine g_aloadw_n (i := 0) 1 ok d_La_law_238 rfl rfl ?_
  refine g_iload (i := 4) 5 ok d_La_law_239 rfl ?_
  refine g_iconst (v := (1 : Int32)) ok d_La_law_241 (by decide) ?_
  refine g_iadd ok d_La_law_242 ?_
  obtain ⟨x52, hx53, h⟩ := bnd_go h
  refine g_sld ok ht hx53 d_La_law_243 ?_
  obtain ⟨x57, s56, hc55, h⟩ := bnd2_go h
  refine g_invV (rm2 := rm_Mo_spot) (As := [vI x52]) (rest := []) ok (rf_mono m48 hk45) lay_20 rfl (c_Mo_spot X.1.2.1 (rf_self (rf_mono m48 hk45)) hc55) cm_Mo_spot cv_Mo_spot tw_845 ⟨rfl, rfl⟩ ⟨le_t rfl, le_t rfl⟩ ⟨rfl, le_t rfl⟩ ⟨(by show _ ≤ 601024; omega), (by show _ ≤ 7293034; omega)⟩ d_La_law_244 rfl (fun m54 => ?_)
  show G X s56 (ce0 + 1) (sl0 + 6) 247 [(5, vI x51), (0, vW (Value.ref b)), (1, vR a1), (2, vR a2), (3, vR a3), (4, vI a4)] [vI x57]
  refine g_istore (i := 6) [(6, vI x57), (5, vI x51), (0, vW (Value.ref b)), (1, vR a1), (2, vR a2), (3, vR a3), (4, vI a4)] ok d_La_law_247 (by decide) rfl ?_
  refine g_aload_n (i := 2) 4 ok d_La_law_249 rfl rfl ?_
  obtain ⟨x59, hc60, h⟩ := bnd_go h
  refine g_invV (rm2 := rm_Mo_thrown) (As := []) (rest := []) ok (rf_mono m54 (rf_mono m48 hk45)) lay_20 rfl (c_Mo_thrown X.1.2.1 (rf_self (rf_mono m54 (rf_mono m48 hk45))) hc60) cm_Mo_thrown cv_Mo_thrown tw_827 ⟨rfl, rfl⟩ ⟨le_t rfl, le_t rfl⟩ ⟨rfl, le_t rfl⟩ ⟨(by show _ ≤ 601024; omega), (by show _ ≤ 7293034; omega)⟩ d_La_law_250 rfl (fun m58 => ?_)
  show G X s56 (ce0 + 1) (sl0 + 6) 253 [(6, vI x57), (5, vI x51), (0, vW (Value.ref b)), (1, vR a1), (2, vR a2), (3, vR a3), (4, vI a4)] [vI x59]
  refine g_iload (i := 5) 1 ok d_La_law_253 rfl ?_
  refine g_icmp_eq (tgt := 260) ok d_La_law_255 (by decide) (fun c61 => ?_) (fun c61 => ?_)
  · replace h := (if_pos c61).symm.trans h
    refine g_iload (i := 5) 1 ok d_La_law_260 rfl ?_
    refine g_if_ne (tgt := 277) ok d_La_law_262 (by decide) (fun c62 => ?_) (fun c62 => ?_)
    · replace h := (if_pos c62).symm.trans h
      refine g_aload_n (i := 3) 5 ok d_La_law_265 rfl rfl ?_
      refine g_iconst (v := (0 : Int32)) ok d_La_law_266 (by decide) ?_
      obtain ⟨k63, hk64, h⟩ := bnd_go h
      refine g_lald ok hk64 d_La_law_267 ?_
      refine g_iload (i := 6) 0 ok d_La_law_268 rfl ?_
      refine g_i2l ok d_La_law_270 ?_
      refine g_lcmp ok d_La_law_271 ?_
      refine g_if_eq (tgt := 277) ok d_La_law_272 (by decide) (fun c65 => ?_) (fun c65 => ?_)
      · replace h := (if_pos c65).symm.trans h
        refine g_goto (tgt := 1574) ok d_La_law_277 (by decide) ?_
        obtain ⟨x66, e67⟩ : ∃ z, a4 + (6 : Int32) = z := ⟨_, rfl⟩
        replace h := lt_go h e67
        refine g_iinc (i := 4) (v := x66) 6 [(4, vI x66), (6, vI x57), (5, vI x51), (0, vW (Value.ref b)), (1, vR a1), (2, vR a2), (3, vR a3)] ok d_La_law_1574 rfl (by rw [← e67]; rfl) (by decide) rfl ?_
        refine g_goto (tgt := 23) ok d_La_law_1577 (by decide) ?_
        refine g_sub [3, 4, 5, 6, 0] rfl ?_
        refine g_widen (ce' := (ce0 + 100)) (sl' := (sl0 + 1200)) (by omega) (by omega) ?_
        exact hrec x66 s56 h
      · replace h := (if_neg c65).symm.trans h
        refine g_iconst (v := (0 : Int32)) ok d_La_law_275 (by decide) ?_
        exact absurd (Option.some.inj h) (by decide)
    · replace h := (if_neg c62).symm.trans h
      refine g_goto (tgt := 1574) ok d_La_law_277 (by decide) ?_
      obtain ⟨x68, e69⟩ : ∃ z, a4 + (6 : Int32) = z := ⟨_, rfl⟩
      replace h := lt_go h e69
      refine g_iinc (i := 4) (v := x68) 6 [(4, vI x68), (6, vI x57), (5, vI x51), (0, vW (Value.ref b)), (1, vR a1), (2, vR a2), (3, vR a3)] ok d_La_law_1574 rfl (by rw [← e69]; rfl) (by decide) rfl ?_
      refine g_goto (tgt := 23) ok d_La_law_1577 (by decide) ?_
      refine g_sub [3, 4, 5, 6, 0] rfl ?_
      refine g_widen (ce' := (ce0 + 100)) (sl' := (sl0 + 1200)) (by omega) (by omega) ?_
      exact hrec x68 s56 h
  · replace h := (if_neg c61).symm.trans h
    refine g_iconst (v := (0 : Int32)) ok d_La_law_258 (by decide) ?_
    exact absurd (Option.some.inj h) (by decide)
set_option maxRecDepth 100000 in
set_option maxHeartbeats 4000000 in
theorem w_j_La_law_280 {X : CX} {b L : Nat} {xs : Nat → Int32} {a1 a2 a3 : Option Nat} {a4 : Int32} {s : MS} {rec : Int32 → MS → Option Int32} {ce0 sl0 : Nat} (ok : Ok X code RL rm_La_law 7 true) (ht : Sc X b L xs) (hc1 : ce0 + 100 ≤ 601024) (hc2 : sl0 + 1200 ≤ 7293034) (hrec : ∀ (v4 : Int32) (z : MS), rec v4 z = some 1 → G X z (ce0 + 100) (sl0 + 1200) 23 [(0, vW (Value.ref b)), (1, vR a1), (2, vR a2), (3, vR a3), (4, vI v4)] []) (h : j_La_law_280 L xs a1 a2 a3 a4 s rec = some 1) : G X s ce0 sl0 280 [(0, vW (Value.ref b)), (1, vR a1), (2, vR a2), (3, vR a3), (4, vI a4)] [] := by
  unfold j_La_law_280 at h
  refine g_aload_n (i := 1) 1 ok d_La_law_280 rfl rfl ?_
  refine g_aloadw_n (i := 0) 0 ok d_La_law_281 rfl rfl ?_
  refine g_iload (i := 4) 4 ok d_La_law_282 rfl ?_
  refine g_iconst (v := (1 : Int32)) ok d_La_law_284 (by decide) ?_
  refine g_iadd ok d_La_law_285 ?_
  obtain ⟨x70, hx71, h⟩ := bnd_go h
  refine g_sld ok ht hx71 d_La_law_286 ?_
  refine g_aloadw_n (i := 0) 0 ok d_La_law_287 rfl rfl ?_
  refine g_iload (i := 4) 4 ok d_La_law_288 rfl ?_
  refine g_iconst (v := (2 : Int32)) ok d_La_law_290 (by decide) ?_
  refine g_iadd ok d_La_law_291 ?_
  obtain ⟨x72, hx73, h⟩ := bnd_go h
  refine g_sld ok ht hx73 d_La_law_292 ?_
  refine g_aload_n (i := 3) 3 ok d_La_law_293 rfl rfl ?_
  obtain ⟨k74, hk75, h⟩ := bnd_go h
  obtain ⟨k76, hk77, h⟩ := bnd_go h
  obtain ⟨n78, hn79, h⟩ := bnd_go h
  obtain ⟨x83, s82, hc81, h⟩ := bnd2_go h
  refine g_callW (rm2 := rm_La_wind) (As := [vR a1, vI x70, vI x72, vR a3]) (rest := []) ok ht.2.2.2.1 (c_La_wind ht.2.2.2.2.1 hc81) cm_La_wind cs_La_wind tw_323 ⟨rfl, rfl⟩ ⟨le_t rfl, le_t rfl⟩ ⟨rfl, le_t rfl⟩ ⟨(by show _ ≤ 601024; omega), (by show _ ≤ 7293034; omega)⟩ ⟨trivial, ⟨(rk_of hk75), ⟨(rk_of hk77), ⟨(rk_rl hn79), ⟨trivial, trivial⟩⟩⟩⟩⟩ trivial d_La_law_294 rfl (fun m80 => ?_)
  show G X s82 (ce0 + 1) (sl0 + 6) 297 [(0, vW (Value.ref b)), (1, vR a1), (2, vR a2), (3, vR a3), (4, vI a4)] [vI x83]
  refine g_istore (i := 5) [(5, vI x83), (0, vW (Value.ref b)), (1, vR a1), (2, vR a2), (3, vR a3), (4, vI a4)] ok d_La_law_297 (by decide) rfl ?_
  refine g_aload_n (i := 2) 3 ok d_La_law_299 rfl rfl ?_
  refine g_aloadw_n (i := 0) 1 ok d_La_law_300 rfl rfl ?_
  refine g_iload (i := 4) 5 ok d_La_law_301 rfl ?_
  refine g_iconst (v := (1 : Int32)) ok d_La_law_303 (by decide) ?_
  refine g_iadd ok d_La_law_304 ?_
  obtain ⟨x84, hx85, h⟩ := bnd_go h
  refine g_sld ok ht hx85 d_La_law_305 ?_
  refine g_aloadw_n (i := 0) 1 ok d_La_law_306 rfl rfl ?_
  refine g_iload (i := 4) 5 ok d_La_law_307 rfl ?_
  refine g_iconst (v := (2 : Int32)) ok d_La_law_309 (by decide) ?_
  refine g_iadd ok d_La_law_310 ?_
  obtain ⟨x86, hx87, h⟩ := bnd_go h
  refine g_sld ok ht hx87 d_La_law_311 ?_
  obtain ⟨x91, s90, hc89, h⟩ := bnd2_go h
  refine g_invV (rm2 := rm_Mo_wind) (As := [vI x84, vI x86]) (rest := []) ok (rf_mono m80 hk77) lay_20 rfl (c_Mo_wind X.1.2.1 (rf_self (rf_mono m80 hk77)) hc89) cm_Mo_wind cv_Mo_wind tw_849 ⟨rfl, rfl⟩ ⟨le_t rfl, le_t rfl⟩ ⟨rfl, le_t rfl⟩ ⟨(by show _ ≤ 601024; omega), (by show _ ≤ 7293034; omega)⟩ d_La_law_312 rfl (fun m88 => ?_)
  show G X s90 (ce0 + 1) (sl0 + 6) 315 [(5, vI x83), (0, vW (Value.ref b)), (1, vR a1), (2, vR a2), (3, vR a3), (4, vI a4)] [vI x91]
  refine g_istore (i := 6) [(6, vI x91), (5, vI x83), (0, vW (Value.ref b)), (1, vR a1), (2, vR a2), (3, vR a3), (4, vI a4)] ok d_La_law_315 (by decide) rfl ?_
  refine g_aload_n (i := 2) 4 ok d_La_law_317 rfl rfl ?_
  obtain ⟨x93, hc94, h⟩ := bnd_go h
  refine g_invV (rm2 := rm_Mo_thrown) (As := []) (rest := []) ok (rf_mono m88 (rf_mono m80 hk77)) lay_20 rfl (c_Mo_thrown X.1.2.1 (rf_self (rf_mono m88 (rf_mono m80 hk77))) hc94) cm_Mo_thrown cv_Mo_thrown tw_827 ⟨rfl, rfl⟩ ⟨le_t rfl, le_t rfl⟩ ⟨rfl, le_t rfl⟩ ⟨(by show _ ≤ 601024; omega), (by show _ ≤ 7293034; omega)⟩ d_La_law_318 rfl (fun m92 => ?_)
  show G X s90 (ce0 + 1) (sl0 + 6) 321 [(6, vI x91), (5, vI x83), (0, vW (Value.ref b)), (1, vR a1), (2, vR a2), (3, vR a3), (4, vI a4)] [vI x93]
  refine g_iload (i := 5) 1 ok d_La_law_321 rfl ?_
  refine g_icmp_eq (tgt := 328) ok d_La_law_323 (by decide) (fun c95 => ?_) (fun c95 => ?_)
  · replace h := (if_pos c95).symm.trans h
    refine g_iload (i := 5) 1 ok d_La_law_328 rfl ?_
    refine g_if_ne (tgt := 345) ok d_La_law_330 (by decide) (fun c96 => ?_) (fun c96 => ?_)
    · replace h := (if_pos c96).symm.trans h
      refine g_aload_n (i := 3) 5 ok d_La_law_333 rfl rfl ?_
      refine g_iconst (v := (0 : Int32)) ok d_La_law_334 (by decide) ?_
      obtain ⟨k97, hk98, h⟩ := bnd_go h
      refine g_lald ok hk98 d_La_law_335 ?_
      refine g_iload (i := 6) 0 ok d_La_law_336 rfl ?_
      refine g_i2l ok d_La_law_338 ?_
      refine g_lcmp ok d_La_law_339 ?_
      refine g_if_eq (tgt := 345) ok d_La_law_340 (by decide) (fun c99 => ?_) (fun c99 => ?_)
      · replace h := (if_pos c99).symm.trans h
        refine g_goto (tgt := 1574) ok d_La_law_345 (by decide) ?_
        obtain ⟨x100, e101⟩ : ∃ z, a4 + (6 : Int32) = z := ⟨_, rfl⟩
        replace h := lt_go h e101
        refine g_iinc (i := 4) (v := x100) 6 [(4, vI x100), (6, vI x91), (5, vI x83), (0, vW (Value.ref b)), (1, vR a1), (2, vR a2), (3, vR a3)] ok d_La_law_1574 rfl (by rw [← e101]; rfl) (by decide) rfl ?_
        refine g_goto (tgt := 23) ok d_La_law_1577 (by decide) ?_
        refine g_sub [3, 4, 5, 6, 0] rfl ?_
        refine g_widen (ce' := (ce0 + 100)) (sl' := (sl0 + 1200)) (by omega) (by omega) ?_
        exact hrec x100 s90 h
      · replace h := (if_neg c99).symm.trans h
        refine g_iconst (v := (0 : Int32)) ok d_La_law_343 (by decide) ?_
        exact absurd (Option.some.inj h) (by decide)
    · replace h := (if_neg c96).symm.trans h
      refine g_goto (tgt := 1574) ok d_La_law_345 (by decide) ?_
      obtain ⟨x102, e103⟩ : ∃ z, a4 + (6 : Int32) = z := ⟨_, rfl⟩
      replace h := lt_go h e103
      refine g_iinc (i := 4) (v := x102) 6 [(4, vI x102), (6, vI x91), (5, vI x83), (0, vW (Value.ref b)), (1, vR a1), (2, vR a2), (3, vR a3)] ok d_La_law_1574 rfl (by rw [← e103]; rfl) (by decide) rfl ?_
      refine g_goto (tgt := 23) ok d_La_law_1577 (by decide) ?_
      refine g_sub [3, 4, 5, 6, 0] rfl ?_
      refine g_widen (ce' := (ce0 + 100)) (sl' := (sl0 + 1200)) (by omega) (by omega) ?_
      exact hrec x102 s90 h
  · replace h := (if_neg c95).symm.trans h
    refine g_iconst (v := (0 : Int32)) ok d_La_law_326 (by decide) ?_
    exact absurd (Option.some.inj h) (by decide)
set_option maxRecDepth 100000 in
set_option maxHeartbeats 4000000 in
theorem w_j_La_law_348 {X : CX} {b L : Nat} {xs : Nat → Int32} {a1 a2 a3 : Option Nat} {a4 : Int32} {s : MS} {rec : Int32 → MS → Option Int32} {ce0 sl0 : Nat} (ok : Ok X code RL rm_La_law 7 true) (ht : Sc X b L xs) (hc1 : ce0 + 100 ≤ 601024) (hc2 : sl0 + 1200 ≤ 7293034) (hrec : ∀ (v4 : Int32) (z : MS), rec v4 z = some 1 → G X z (ce0 + 100) (sl0 + 1200) 23 [(0, vW (Value.ref b)), (1, vR a1), (2, vR a2), (3, vR a3), (4, vI v4)] []) (h : j_La_law_348 L xs a1 a2 a3 a4 s rec = some 1) : G X s ce0 sl0 348 [(0, vW (Value.ref b)), (1, vR a1), (2, vR a2), (3, vR a3), (4, vI a4)] [] := by
  unfold j_La_law_348 at h
  refine g_aload_n (i := 1) 1 ok d_La_law_348 rfl rfl ?_
  refine g_aloadw_n (i := 0) 0 ok d_La_law_349 rfl rfl ?_
  refine g_iload (i := 4) 4 ok d_La_law_350 rfl ?_
  refine g_iconst (v := (1 : Int32)) ok d_La_law_352 (by decide) ?_
  refine g_iadd ok d_La_law_353 ?_
  obtain ⟨x104, hx105, h⟩ := bnd_go h
  refine g_sld ok ht hx105 d_La_law_354 ?_
  refine g_aloadw_n (i := 0) 0 ok d_La_law_355 rfl rfl ?_
  refine g_iload (i := 4) 4 ok d_La_law_356 rfl ?_
  refine g_iconst (v := (2 : Int32)) ok d_La_law_358 (by decide) ?_
  refine g_iadd ok d_La_law_359 ?_
  obtain ⟨x106, hx107, h⟩ := bnd_go h
  refine g_sld ok ht hx107 d_La_law_360 ?_
  refine g_aload_n (i := 3) 3 ok d_La_law_361 rfl rfl ?_
  obtain ⟨k108, hk109, h⟩ := bnd_go h
  obtain ⟨k110, hk111, h⟩ := bnd_go h
  obtain ⟨n112, hn113, h⟩ := bnd_go h
  obtain ⟨x117, s116, hc115, h⟩ := bnd2_go h
  refine g_callW (rm2 := rm_La_gust) (As := [vR a1, vI x104, vI x106, vR a3]) (rest := []) ok ht.2.2.2.1 (c_La_gust ht.2.2.2.2.1 hc115) cm_La_gust cs_La_gust tw_340 ⟨rfl, rfl⟩ ⟨le_t rfl, le_t rfl⟩ ⟨rfl, le_t rfl⟩ ⟨(by show _ ≤ 601024; omega), (by show _ ≤ 7293034; omega)⟩ ⟨trivial, ⟨(rk_of hk109), ⟨(rk_of hk111), ⟨(rk_rl hn113), ⟨trivial, trivial⟩⟩⟩⟩⟩ trivial d_La_law_362 rfl (fun m114 => ?_)
  show G X s116 (ce0 + 1) (sl0 + 6) 365 [(0, vW (Value.ref b)), (1, vR a1), (2, vR a2), (3, vR a3), (4, vI a4)] [vI x117]
  refine g_istore (i := 5) [(5, vI x117), (0, vW (Value.ref b)), (1, vR a1), (2, vR a2), (3, vR a3), (4, vI a4)] ok d_La_law_365 (by decide) rfl ?_
  refine g_aload_n (i := 2) 3 ok d_La_law_367 rfl rfl ?_
  refine g_aloadw_n (i := 0) 1 ok d_La_law_368 rfl rfl ?_
  refine g_iload (i := 4) 5 ok d_La_law_369 rfl ?_
  refine g_iconst (v := (1 : Int32)) ok d_La_law_371 (by decide) ?_
  refine g_iadd ok d_La_law_372 ?_
  obtain ⟨x118, hx119, h⟩ := bnd_go h
  refine g_sld ok ht hx119 d_La_law_373 ?_
  refine g_aloadw_n (i := 0) 1 ok d_La_law_374 rfl rfl ?_
  refine g_iload (i := 4) 5 ok d_La_law_375 rfl ?_
  refine g_iconst (v := (2 : Int32)) ok d_La_law_377 (by decide) ?_
  refine g_iadd ok d_La_law_378 ?_
  obtain ⟨x120, hx121, h⟩ := bnd_go h
  refine g_sld ok ht hx121 d_La_law_379 ?_
  obtain ⟨x125, s124, hc123, h⟩ := bnd2_go h
  refine g_invV (rm2 := rm_Mo_gust) (As := [vI x118, vI x120]) (rest := []) ok (rf_mono m114 hk111) lay_20 rfl (c_Mo_gust X.1.2.1 (rf_self (rf_mono m114 hk111)) hc123) cm_Mo_gust cv_Mo_gust tw_853 ⟨rfl, rfl⟩ ⟨le_t rfl, le_t rfl⟩ ⟨rfl, le_t rfl⟩ ⟨(by show _ ≤ 601024; omega), (by show _ ≤ 7293034; omega)⟩ d_La_law_380 rfl (fun m122 => ?_)
  show G X s124 (ce0 + 1) (sl0 + 6) 383 [(5, vI x117), (0, vW (Value.ref b)), (1, vR a1), (2, vR a2), (3, vR a3), (4, vI a4)] [vI x125]
  refine g_istore (i := 6) [(6, vI x125), (5, vI x117), (0, vW (Value.ref b)), (1, vR a1), (2, vR a2), (3, vR a3), (4, vI a4)] ok d_La_law_383 (by decide) rfl ?_
  refine g_aload_n (i := 2) 4 ok d_La_law_385 rfl rfl ?_
  obtain ⟨x127, hc128, h⟩ := bnd_go h
  refine g_invV (rm2 := rm_Mo_thrown) (As := []) (rest := []) ok (rf_mono m122 (rf_mono m114 hk111)) lay_20 rfl (c_Mo_thrown X.1.2.1 (rf_self (rf_mono m122 (rf_mono m114 hk111))) hc128) cm_Mo_thrown cv_Mo_thrown tw_827 ⟨rfl, rfl⟩ ⟨le_t rfl, le_t rfl⟩ ⟨rfl, le_t rfl⟩ ⟨(by show _ ≤ 601024; omega), (by show _ ≤ 7293034; omega)⟩ d_La_law_386 rfl (fun m126 => ?_)
  show G X s124 (ce0 + 1) (sl0 + 6) 389 [(6, vI x125), (5, vI x117), (0, vW (Value.ref b)), (1, vR a1), (2, vR a2), (3, vR a3), (4, vI a4)] [vI x127]
  refine g_iload (i := 5) 1 ok d_La_law_389 rfl ?_
  refine g_icmp_eq (tgt := 396) ok d_La_law_391 (by decide) (fun c129 => ?_) (fun c129 => ?_)
  · replace h := (if_pos c129).symm.trans h
    refine g_iload (i := 5) 1 ok d_La_law_396 rfl ?_
    refine g_if_ne (tgt := 413) ok d_La_law_398 (by decide) (fun c130 => ?_) (fun c130 => ?_)
    · replace h := (if_pos c130).symm.trans h
      refine g_aload_n (i := 3) 5 ok d_La_law_401 rfl rfl ?_
      refine g_iconst (v := (0 : Int32)) ok d_La_law_402 (by decide) ?_
      obtain ⟨k131, hk132, h⟩ := bnd_go h
      refine g_lald ok hk132 d_La_law_403 ?_
      refine g_iload (i := 6) 0 ok d_La_law_404 rfl ?_
      refine g_i2l ok d_La_law_406 ?_
      refine g_lcmp ok d_La_law_407 ?_
      refine g_if_eq (tgt := 413) ok d_La_law_408 (by decide) (fun c133 => ?_) (fun c133 => ?_)
      · replace h := (if_pos c133).symm.trans h
        refine g_goto (tgt := 1574) ok d_La_law_413 (by decide) ?_
        obtain ⟨x134, e135⟩ : ∃ z, a4 + (6 : Int32) = z := ⟨_, rfl⟩
        replace h := lt_go h e135
        refine g_iinc (i := 4) (v := x134) 6 [(4, vI x134), (6, vI x125), (5, vI x117), (0, vW (Value.ref b)), (1, vR a1), (2, vR a2), (3, vR a3)] ok d_La_law_1574 rfl (by rw [← e135]; rfl) (by decide) rfl ?_
        refine g_goto (tgt := 23) ok d_La_law_1577 (by decide) ?_
        refine g_sub [3, 4, 5, 6, 0] rfl ?_
        refine g_widen (ce' := (ce0 + 100)) (sl' := (sl0 + 1200)) (by omega) (by omega) ?_
        exact hrec x134 s124 h
      · replace h := (if_neg c133).symm.trans h
        refine g_iconst (v := (0 : Int32)) ok d_La_law_411 (by decide) ?_
        exact absurd (Option.some.inj h) (by decide)
    · replace h := (if_neg c130).symm.trans h
      refine g_goto (tgt := 1574) ok d_La_law_413 (by decide) ?_
      obtain ⟨x136, e137⟩ : ∃ z, a4 + (6 : Int32) = z := ⟨_, rfl⟩
      replace h := lt_go h e137
      refine g_iinc (i := 4) (v := x136) 6 [(4, vI x136), (6, vI x125), (5, vI x117), (0, vW (Value.ref b)), (1, vR a1), (2, vR a2), (3, vR a3)] ok d_La_law_1574 rfl (by rw [← e137]; rfl) (by decide) rfl ?_
      refine g_goto (tgt := 23) ok d_La_law_1577 (by decide) ?_
      refine g_sub [3, 4, 5, 6, 0] rfl ?_
      refine g_widen (ce' := (ce0 + 100)) (sl' := (sl0 + 1200)) (by omega) (by omega) ?_
      exact hrec x136 s124 h
  · replace h := (if_neg c129).symm.trans h
    refine g_iconst (v := (0 : Int32)) ok d_La_law_394 (by decide) ?_
    exact absurd (Option.some.inj h) (by decide)
set_option maxRecDepth 100000 in
set_option maxHeartbeats 4000000 in
theorem w_j_La_law_416 {X : CX} {b L : Nat} {xs : Nat → Int32} {a1 a2 a3 : Option Nat} {a4 : Int32} {s : MS} {rec : Int32 → MS → Option Int32} {ce0 sl0 : Nat} (ok : Ok X code RL rm_La_law 7 true) (ht : Sc X b L xs) (hc1 : ce0 + 100 ≤ 601024) (hc2 : sl0 + 1200 ≤ 7293034) (hrec : ∀ (v4 : Int32) (z : MS), rec v4 z = some 1 → G X z (ce0 + 100) (sl0 + 1200) 23 [(0, vW (Value.ref b)), (1, vR a1), (2, vR a2), (3, vR a3), (4, vI v4)] []) (h : j_La_law_416 L xs a1 a2 a3 a4 s rec = some 1) : G X s ce0 sl0 416 [(0, vW (Value.ref b)), (1, vR a1), (2, vR a2), (3, vR a3), (4, vI a4)] [] := by
  unfold j_La_law_416 at h
  refine g_aload_n (i := 1) 1 ok d_La_law_416 rfl rfl ?_
  refine g_aloadw_n (i := 0) 0 ok d_La_law_417 rfl rfl ?_
  refine g_iload (i := 4) 4 ok d_La_law_418 rfl ?_
  refine g_iconst (v := (1 : Int32)) ok d_La_law_420 (by decide) ?_
  refine g_iadd ok d_La_law_421 ?_
  obtain ⟨x138, hx139, h⟩ := bnd_go h
  refine g_sld ok ht hx139 d_La_law_422 ?_
  refine g_aloadw_n (i := 0) 0 ok d_La_law_423 rfl rfl ?_
  refine g_iload (i := 4) 4 ok d_La_law_424 rfl ?_
  refine g_iconst (v := (2 : Int32)) ok d_La_law_426 (by decide) ?_
  refine g_iadd ok d_La_law_427 ?_
  obtain ⟨x140, hx141, h⟩ := bnd_go h
  refine g_sld ok ht hx141 d_La_law_428 ?_
  refine g_aloadw_n (i := 0) 0 ok d_La_law_429 rfl rfl ?_
  refine g_iload (i := 4) 4 ok d_La_law_430 rfl ?_
  refine g_iconst (v := (3 : Int32)) ok d_La_law_432 (by decide) ?_
  refine g_iadd ok d_La_law_433 ?_
  obtain ⟨x142, hx143, h⟩ := bnd_go h
  refine g_sld ok ht hx143 d_La_law_434 ?_
  refine g_aloadw_n (i := 0) 0 ok d_La_law_435 rfl rfl ?_
  refine g_iload (i := 4) 4 ok d_La_law_436 rfl ?_
  refine g_iconst (v := (4 : Int32)) ok d_La_law_438 (by decide) ?_
  refine g_iadd ok d_La_law_439 ?_
  obtain ⟨x144, hx145, h⟩ := bnd_go h
  refine g_sld ok ht hx145 d_La_law_440 ?_
  refine g_aloadw_n (i := 0) 0 ok d_La_law_441 rfl rfl ?_
  refine g_iload (i := 4) 4 ok d_La_law_442 rfl ?_
  refine g_iconst (v := (5 : Int32)) ok d_La_law_444 (by decide) ?_
  refine g_iadd ok d_La_law_445 ?_
  obtain ⟨x146, hx147, h⟩ := bnd_go h
  refine g_sld ok ht hx147 d_La_law_446 ?_
  refine g_aload_n (i := 3) 3 ok d_La_law_447 rfl rfl ?_
  obtain ⟨k148, hk149, h⟩ := bnd_go h
  obtain ⟨k150, hk151, h⟩ := bnd_go h
  obtain ⟨n152, hn153, h⟩ := bnd_go h
  obtain ⟨x157, s156, hc155, h⟩ := bnd2_go h
  refine g_callW (rm2 := rm_La_close) (As := [vR a1, vI x138, vI x140, vI x142, vI x144, vI x146, vR a3]) (rest := []) ok ht.2.2.2.1 (c_La_close ht.2.2.2.2.1 hc155) cm_La_close cs_La_close tw_348 ⟨rfl, rfl⟩ ⟨le_t rfl, le_t rfl⟩ ⟨rfl, le_t rfl⟩ ⟨(by show _ ≤ 601024; omega), (by show _ ≤ 7293034; omega)⟩ ⟨trivial, ⟨(rk_of hk149), ⟨(rk_of hk151), ⟨(rk_rl hn153), ⟨trivial, trivial⟩⟩⟩⟩⟩ trivial d_La_law_448 rfl (fun m154 => ?_)
  show G X s156 (ce0 + 2) (sl0 + 14) 451 [(0, vW (Value.ref b)), (1, vR a1), (2, vR a2), (3, vR a3), (4, vI a4)] [vI x157]
  refine g_istore (i := 5) [(5, vI x157), (0, vW (Value.ref b)), (1, vR a1), (2, vR a2), (3, vR a3), (4, vI a4)] ok d_La_law_451 (by decide) rfl ?_
  refine g_aload_n (i := 2) 3 ok d_La_law_453 rfl rfl ?_
  refine g_aloadw_n (i := 0) 1 ok d_La_law_454 rfl rfl ?_
  refine g_iload (i := 4) 5 ok d_La_law_455 rfl ?_
  refine g_iconst (v := (1 : Int32)) ok d_La_law_457 (by decide) ?_
  refine g_iadd ok d_La_law_458 ?_
  obtain ⟨x158, hx159, h⟩ := bnd_go h
  refine g_sld ok ht hx159 d_La_law_459 ?_
  refine g_aloadw_n (i := 0) 1 ok d_La_law_460 rfl rfl ?_
  refine g_iload (i := 4) 5 ok d_La_law_461 rfl ?_
  refine g_iconst (v := (2 : Int32)) ok d_La_law_463 (by decide) ?_
  refine g_iadd ok d_La_law_464 ?_
  obtain ⟨x160, hx161, h⟩ := bnd_go h
  refine g_sld ok ht hx161 d_La_law_465 ?_
  refine g_aloadw_n (i := 0) 1 ok d_La_law_466 rfl rfl ?_
  refine g_iload (i := 4) 5 ok d_La_law_467 rfl ?_
  refine g_iconst (v := (3 : Int32)) ok d_La_law_469 (by decide) ?_
  refine g_iadd ok d_La_law_470 ?_
  obtain ⟨x162, hx163, h⟩ := bnd_go h
  refine g_sld ok ht hx163 d_La_law_471 ?_
  refine g_aloadw_n (i := 0) 1 ok d_La_law_472 rfl rfl ?_
  refine g_iload (i := 4) 5 ok d_La_law_473 rfl ?_
  refine g_iconst (v := (4 : Int32)) ok d_La_law_475 (by decide) ?_
  refine g_iadd ok d_La_law_476 ?_
  obtain ⟨x164, hx165, h⟩ := bnd_go h
  refine g_sld ok ht hx165 d_La_law_477 ?_
  refine g_aloadw_n (i := 0) 1 ok d_La_law_478 rfl rfl ?_
  refine g_iload (i := 4) 5 ok d_La_law_479 rfl ?_
  refine g_iconst (v := (5 : Int32)) ok d_La_law_481 (by decide) ?_
  refine g_iadd ok d_La_law_482 ?_
  obtain ⟨x166, hx167, h⟩ := bnd_go h
  refine g_sld ok ht hx167 d_La_law_483 ?_
  obtain ⟨x171, s170, hc169, h⟩ := bnd2_go h
  refine g_invV (rm2 := rm_Mo_close) (As := [vI x158, vI x160, vI x162, vI x164, vI x166]) (rest := []) ok (rf_mono m154 hk151) lay_20 rfl (c_Mo_close X.1.2.1 (rf_self (rf_mono m154 hk151)) hc169) cm_Mo_close cv_Mo_close tw_857 ⟨rfl, rfl⟩ ⟨le_t rfl, le_t rfl⟩ ⟨rfl, le_t rfl⟩ ⟨(by show _ ≤ 601024; omega), (by show _ ≤ 7293034; omega)⟩ d_La_law_484 rfl (fun m168 => ?_)
  show G X s170 (ce0 + 2) (sl0 + 14) 487 [(5, vI x157), (0, vW (Value.ref b)), (1, vR a1), (2, vR a2), (3, vR a3), (4, vI a4)] [vI x171]
  refine g_istore (i := 6) [(6, vI x171), (5, vI x157), (0, vW (Value.ref b)), (1, vR a1), (2, vR a2), (3, vR a3), (4, vI a4)] ok d_La_law_487 (by decide) rfl ?_
  refine g_aload_n (i := 2) 4 ok d_La_law_489 rfl rfl ?_
  obtain ⟨x173, hc174, h⟩ := bnd_go h
  refine g_invV (rm2 := rm_Mo_thrown) (As := []) (rest := []) ok (rf_mono m168 (rf_mono m154 hk151)) lay_20 rfl (c_Mo_thrown X.1.2.1 (rf_self (rf_mono m168 (rf_mono m154 hk151))) hc174) cm_Mo_thrown cv_Mo_thrown tw_827 ⟨rfl, rfl⟩ ⟨le_t rfl, le_t rfl⟩ ⟨rfl, le_t rfl⟩ ⟨(by show _ ≤ 601024; omega), (by show _ ≤ 7293034; omega)⟩ d_La_law_490 rfl (fun m172 => ?_)
  show G X s170 (ce0 + 2) (sl0 + 14) 493 [(6, vI x171), (5, vI x157), (0, vW (Value.ref b)), (1, vR a1), (2, vR a2), (3, vR a3), (4, vI a4)] [vI x173]
  refine g_iload (i := 5) 1 ok d_La_law_493 rfl ?_
  refine g_icmp_eq (tgt := 500) ok d_La_law_495 (by decide) (fun c175 => ?_) (fun c175 => ?_)
  · replace h := (if_pos c175).symm.trans h
    refine g_iload (i := 5) 1 ok d_La_law_500 rfl ?_
    refine g_if_ne (tgt := 517) ok d_La_law_502 (by decide) (fun c176 => ?_) (fun c176 => ?_)
    · replace h := (if_pos c176).symm.trans h
      refine g_aload_n (i := 3) 5 ok d_La_law_505 rfl rfl ?_
      refine g_iconst (v := (0 : Int32)) ok d_La_law_506 (by decide) ?_
      obtain ⟨k177, hk178, h⟩ := bnd_go h
      refine g_lald ok hk178 d_La_law_507 ?_
      refine g_iload (i := 6) 0 ok d_La_law_508 rfl ?_
      refine g_i2l ok d_La_law_510 ?_
      refine g_lcmp ok d_La_law_511 ?_
      refine g_if_eq (tgt := 517) ok d_La_law_512 (by decide) (fun c179 => ?_) (fun c179 => ?_)
      · replace h := (if_pos c179).symm.trans h
        refine g_goto (tgt := 1574) ok d_La_law_517 (by decide) ?_
        obtain ⟨x180, e181⟩ : ∃ z, a4 + (6 : Int32) = z := ⟨_, rfl⟩
        replace h := lt_go h e181
        refine g_iinc (i := 4) (v := x180) 6 [(4, vI x180), (6, vI x171), (5, vI x157), (0, vW (Value.ref b)), (1, vR a1), (2, vR a2), (3, vR a3)] ok d_La_law_1574 rfl (by rw [← e181]; rfl) (by decide) rfl ?_
        refine g_goto (tgt := 23) ok d_La_law_1577 (by decide) ?_
        refine g_sub [3, 4, 5, 6, 0] rfl ?_
        refine g_widen (ce' := (ce0 + 100)) (sl' := (sl0 + 1200)) (by omega) (by omega) ?_
        exact hrec x180 s170 h
      · replace h := (if_neg c179).symm.trans h
        refine g_iconst (v := (0 : Int32)) ok d_La_law_515 (by decide) ?_
        exact absurd (Option.some.inj h) (by decide)
    · replace h := (if_neg c176).symm.trans h
      refine g_goto (tgt := 1574) ok d_La_law_517 (by decide) ?_
      obtain ⟨x182, e183⟩ : ∃ z, a4 + (6 : Int32) = z := ⟨_, rfl⟩
      replace h := lt_go h e183
      refine g_iinc (i := 4) (v := x182) 6 [(4, vI x182), (6, vI x171), (5, vI x157), (0, vW (Value.ref b)), (1, vR a1), (2, vR a2), (3, vR a3)] ok d_La_law_1574 rfl (by rw [← e183]; rfl) (by decide) rfl ?_
      refine g_goto (tgt := 23) ok d_La_law_1577 (by decide) ?_
      refine g_sub [3, 4, 5, 6, 0] rfl ?_
      refine g_widen (ce' := (ce0 + 100)) (sl' := (sl0 + 1200)) (by omega) (by omega) ?_
      exact hrec x182 s170 h
  · replace h := (if_neg c175).symm.trans h
    refine g_iconst (v := (0 : Int32)) ok d_La_law_498 (by decide) ?_
    exact absurd (Option.some.inj h) (by decide)
set_option maxRecDepth 100000 in
set_option maxHeartbeats 4000000 in
theorem w_j_La_law_520 {X : CX} {b L : Nat} {xs : Nat → Int32} {a1 a2 a3 : Option Nat} {a4 : Int32} {s : MS} {rec : Int32 → MS → Option Int32} {ce0 sl0 : Nat} (ok : Ok X code RL rm_La_law 7 true) (ht : Sc X b L xs) (hc1 : ce0 + 100 ≤ 601024) (hc2 : sl0 + 1200 ≤ 7293034) (hrec : ∀ (v4 : Int32) (z : MS), rec v4 z = some 1 → G X z (ce0 + 100) (sl0 + 1200) 23 [(0, vW (Value.ref b)), (1, vR a1), (2, vR a2), (3, vR a3), (4, vI v4)] []) (h : j_La_law_520 L xs a1 a2 a3 a4 s rec = some 1) : G X s ce0 sl0 520 [(0, vW (Value.ref b)), (1, vR a1), (2, vR a2), (3, vR a3), (4, vI a4)] [] := by
  unfold j_La_law_520 at h
  refine g_aload_n (i := 1) 1 ok d_La_law_520 rfl rfl ?_
  refine g_aloadw_n (i := 0) 0 ok d_La_law_521 rfl rfl ?_
  refine g_iload (i := 4) 4 ok d_La_law_522 rfl ?_
  refine g_iconst (v := (1 : Int32)) ok d_La_law_524 (by decide) ?_
  refine g_iadd ok d_La_law_525 ?_
  obtain ⟨x184, hx185, h⟩ := bnd_go h
  refine g_sld ok ht hx185 d_La_law_526 ?_
  obtain ⟨k186, hk187, h⟩ := bnd_go h
  obtain ⟨k188, hk189, h⟩ := bnd_go h
  obtain ⟨n190, hn191, h⟩ := bnd_go h
  obtain ⟨x195, s194, hc193, h⟩ := bnd2_go h
  refine g_callW (rm2 := rm_La_open) (As := [vR a1, vI x184]) (rest := []) ok ht.2.2.2.1 (c_La_open ht.2.2.2.2.1 hc193) cm_La_open cs_La_open tw_412 ⟨rfl, rfl⟩ ⟨le_t rfl, le_t rfl⟩ ⟨rfl, le_t rfl⟩ ⟨(by show _ ≤ 601024; omega), (by show _ ≤ 7293034; omega)⟩ ⟨trivial, ⟨(rk_of hk187), ⟨(rk_of hk189), ⟨(rk_rl hn191), ⟨trivial, trivial⟩⟩⟩⟩⟩ trivial d_La_law_527 rfl (fun m192 => ?_)
  show G X s194 (ce0 + 1) (sl0 + 6) 530 [(0, vW (Value.ref b)), (1, vR a1), (2, vR a2), (3, vR a3), (4, vI a4)] [vI x195]
  refine g_istore (i := 5) [(5, vI x195), (0, vW (Value.ref b)), (1, vR a1), (2, vR a2), (3, vR a3), (4, vI a4)] ok d_La_law_530 (by decide) rfl ?_
  refine g_aload_n (i := 2) 3 ok d_La_law_532 rfl rfl ?_
  refine g_aloadw_n (i := 0) 1 ok d_La_law_533 rfl rfl ?_
  refine g_iload (i := 4) 5 ok d_La_law_534 rfl ?_
  refine g_iconst (v := (1 : Int32)) ok d_La_law_536 (by decide) ?_
  refine g_iadd ok d_La_law_537 ?_
  obtain ⟨x196, hx197, h⟩ := bnd_go h
  refine g_sld ok ht hx197 d_La_law_538 ?_
  obtain ⟨s200, hc199, h⟩ := bnd_go h
  refine g_invV (rm2 := rm_Mo_open) (As := [vI x196]) (rest := []) ok (rf_mono m192 hk189) lay_20 rfl (c_Mo_open X.1.2.1 (rf_self (rf_mono m192 hk189)) hc199) cm_Mo_open cv_Mo_open tw_870 ⟨rfl, rfl⟩ ⟨le_t rfl, le_t rfl⟩ ⟨rfl, le_t rfl⟩ ⟨(by show _ ≤ 601024; omega), (by show _ ≤ 7293034; omega)⟩ d_La_law_539 rfl (fun m198 => ?_)
  show G X s200 (ce0 + 1) (sl0 + 6) 542 [(5, vI x195), (0, vW (Value.ref b)), (1, vR a1), (2, vR a2), (3, vR a3), (4, vI a4)] []
  refine g_aload_n (i := 2) 3 ok d_La_law_542 rfl rfl ?_
  obtain ⟨x202, hc203, h⟩ := bnd_go h
  refine g_invV (rm2 := rm_Mo_thrown) (As := []) (rest := []) ok (rf_mono m198 (rf_mono m192 hk189)) lay_20 rfl (c_Mo_thrown X.1.2.1 (rf_self (rf_mono m198 (rf_mono m192 hk189))) hc203) cm_Mo_thrown cv_Mo_thrown tw_827 ⟨rfl, rfl⟩ ⟨le_t rfl, le_t rfl⟩ ⟨rfl, le_t rfl⟩ ⟨(by show _ ≤ 601024; omega), (by show _ ≤ 7293034; omega)⟩ d_La_law_543 rfl (fun m201 => ?_)
  show G X s200 (ce0 + 1) (sl0 + 6) 546 [(5, vI x195), (0, vW (Value.ref b)), (1, vR a1), (2, vR a2), (3, vR a3), (4, vI a4)] [vI x202]
  refine g_iload (i := 5) 0 ok d_La_law_546 rfl ?_
  refine g_icmp_eq (tgt := 553) ok d_La_law_548 (by decide) (fun c204 => ?_) (fun c204 => ?_)
  · replace h := (if_pos c204).symm.trans h
    refine g_goto (tgt := 1574) ok d_La_law_553 (by decide) ?_
    obtain ⟨x205, e206⟩ : ∃ z, a4 + (6 : Int32) = z := ⟨_, rfl⟩
    replace h := lt_go h e206
    refine g_iinc (i := 4) (v := x205) 5 [(4, vI x205), (5, vI x195), (0, vW (Value.ref b)), (1, vR a1), (2, vR a2), (3, vR a3)] ok d_La_law_1574 rfl (by rw [← e206]; rfl) (by decide) rfl ?_
    refine g_goto (tgt := 23) ok d_La_law_1577 (by decide) ?_
    refine g_sub [2, 3, 4, 5, 0] rfl ?_
    refine g_widen (ce' := (ce0 + 100)) (sl' := (sl0 + 1200)) (by omega) (by omega) ?_
    exact hrec x205 s200 h
  · replace h := (if_neg c204).symm.trans h
    refine g_iconst (v := (0 : Int32)) ok d_La_law_551 (by decide) ?_
    exact absurd (Option.some.inj h) (by decide)
set_option maxRecDepth 100000 in
set_option maxHeartbeats 4000000 in
theorem w_j_La_law_556 {X : CX} {b L : Nat} {xs : Nat → Int32} {a1 a2 a3 : Option Nat} {a4 : Int32} {s : MS} {rec : Int32 → MS → Option Int32} {ce0 sl0 : Nat} (ok : Ok X code RL rm_La_law 7 true) (ht : Sc X b L xs) (hc1 : ce0 + 100 ≤ 601024) (hc2 : sl0 + 1200 ≤ 7293034) (hrec : ∀ (v4 : Int32) (z : MS), rec v4 z = some 1 → G X z (ce0 + 100) (sl0 + 1200) 23 [(0, vW (Value.ref b)), (1, vR a1), (2, vR a2), (3, vR a3), (4, vI v4)] []) (h : j_La_law_556 L xs a1 a2 a3 a4 s rec = some 1) : G X s ce0 sl0 556 [(0, vW (Value.ref b)), (1, vR a1), (2, vR a2), (3, vR a3), (4, vI a4)] [] := by
  unfold j_La_law_556 at h
  refine g_aload_n (i := 1) 1 ok d_La_law_556 rfl rfl ?_
  refine g_aloadw_n (i := 0) 0 ok d_La_law_557 rfl rfl ?_
  refine g_iload (i := 4) 4 ok d_La_law_558 rfl ?_
  refine g_iconst (v := (1 : Int32)) ok d_La_law_560 (by decide) ?_
  refine g_iadd ok d_La_law_561 ?_
  obtain ⟨x207, hx208, h⟩ := bnd_go h
  refine g_sld ok ht hx208 d_La_law_562 ?_
  refine g_aloadw_n (i := 0) 0 ok d_La_law_563 rfl rfl ?_
  refine g_iload (i := 4) 4 ok d_La_law_564 rfl ?_
  refine g_iconst (v := (2 : Int32)) ok d_La_law_566 (by decide) ?_
  refine g_iadd ok d_La_law_567 ?_
  obtain ⟨x209, hx210, h⟩ := bnd_go h
  refine g_sld ok ht hx210 d_La_law_568 ?_
  refine g_aloadw_n (i := 0) 0 ok d_La_law_569 rfl rfl ?_
  refine g_iload (i := 4) 4 ok d_La_law_570 rfl ?_
  refine g_iconst (v := (3 : Int32)) ok d_La_law_572 (by decide) ?_
  refine g_iadd ok d_La_law_573 ?_
  obtain ⟨x211, hx212, h⟩ := bnd_go h
  refine g_sld ok ht hx212 d_La_law_574 ?_
  refine g_aload_n (i := 3) 3 ok d_La_law_575 rfl rfl ?_
  obtain ⟨k213, hk214, h⟩ := bnd_go h
  obtain ⟨k215, hk216, h⟩ := bnd_go h
  obtain ⟨n217, hn218, h⟩ := bnd_go h
  obtain ⟨x222, s221, hc220, h⟩ := bnd2_go h
  refine g_callW (rm2 := rm_La_machine) (As := [vR a1, vI x207, vI x209, vI x211, vR a3]) (rest := []) ok ht.2.2.2.1 (c_La_machine ht.2.2.2.2.1 hc220) cm_La_machine cs_La_machine tw_425 ⟨rfl, rfl⟩ ⟨le_t rfl, le_t rfl⟩ ⟨rfl, le_t rfl⟩ ⟨(by show _ ≤ 601024; omega), (by show _ ≤ 7293034; omega)⟩ ⟨trivial, ⟨(rk_of hk214), ⟨(rk_of hk216), ⟨(rk_rl hn218), ⟨trivial, trivial⟩⟩⟩⟩⟩ trivial d_La_law_576 rfl (fun m219 => ?_)
  show G X s221 (ce0 + 2) (sl0 + 13) 579 [(0, vW (Value.ref b)), (1, vR a1), (2, vR a2), (3, vR a3), (4, vI a4)] [vI x222]
  refine g_istore (i := 5) [(5, vI x222), (0, vW (Value.ref b)), (1, vR a1), (2, vR a2), (3, vR a3), (4, vI a4)] ok d_La_law_579 (by decide) rfl ?_
  refine g_aload_n (i := 2) 3 ok d_La_law_581 rfl rfl ?_
  refine g_aloadw_n (i := 0) 1 ok d_La_law_582 rfl rfl ?_
  refine g_iload (i := 4) 5 ok d_La_law_583 rfl ?_
  refine g_iconst (v := (1 : Int32)) ok d_La_law_585 (by decide) ?_
  refine g_iadd ok d_La_law_586 ?_
  obtain ⟨x223, hx224, h⟩ := bnd_go h
  refine g_sld ok ht hx224 d_La_law_587 ?_
  refine g_aloadw_n (i := 0) 1 ok d_La_law_588 rfl rfl ?_
  refine g_iload (i := 4) 5 ok d_La_law_589 rfl ?_
  refine g_iconst (v := (2 : Int32)) ok d_La_law_591 (by decide) ?_
  refine g_iadd ok d_La_law_592 ?_
  obtain ⟨x225, hx226, h⟩ := bnd_go h
  refine g_sld ok ht hx226 d_La_law_593 ?_
  refine g_aloadw_n (i := 0) 1 ok d_La_law_594 rfl rfl ?_
  refine g_iload (i := 4) 5 ok d_La_law_595 rfl ?_
  refine g_iconst (v := (3 : Int32)) ok d_La_law_597 (by decide) ?_
  refine g_iadd ok d_La_law_598 ?_
  obtain ⟨x227, hx228, h⟩ := bnd_go h
  refine g_sld ok ht hx228 d_La_law_599 ?_
  obtain ⟨x232, s231, hc230, h⟩ := bnd2_go h
  refine g_invV (rm2 := rm_Mo_machine) (As := [vI x223, vI x225, vI x227]) (rest := []) ok (rf_mono m219 hk216) lay_20 rfl (c_Mo_machine X.1.2.1 (rf_self (rf_mono m219 hk216)) hc230) cm_Mo_machine cv_Mo_machine tw_874 ⟨rfl, rfl⟩ ⟨le_t rfl, le_t rfl⟩ ⟨rfl, le_t rfl⟩ ⟨(by show _ ≤ 601024; omega), (by show _ ≤ 7293034; omega)⟩ d_La_law_600 rfl (fun m229 => ?_)
  show G X s231 (ce0 + 2) (sl0 + 13) 603 [(5, vI x222), (0, vW (Value.ref b)), (1, vR a1), (2, vR a2), (3, vR a3), (4, vI a4)] [vI x232]
  refine g_istore (i := 6) [(6, vI x232), (5, vI x222), (0, vW (Value.ref b)), (1, vR a1), (2, vR a2), (3, vR a3), (4, vI a4)] ok d_La_law_603 (by decide) rfl ?_
  refine g_aload_n (i := 2) 4 ok d_La_law_605 rfl rfl ?_
  obtain ⟨x234, hc235, h⟩ := bnd_go h
  refine g_invV (rm2 := rm_Mo_thrown) (As := []) (rest := []) ok (rf_mono m229 (rf_mono m219 hk216)) lay_20 rfl (c_Mo_thrown X.1.2.1 (rf_self (rf_mono m229 (rf_mono m219 hk216))) hc235) cm_Mo_thrown cv_Mo_thrown tw_827 ⟨rfl, rfl⟩ ⟨le_t rfl, le_t rfl⟩ ⟨rfl, le_t rfl⟩ ⟨(by show _ ≤ 601024; omega), (by show _ ≤ 7293034; omega)⟩ d_La_law_606 rfl (fun m233 => ?_)
  show G X s231 (ce0 + 2) (sl0 + 13) 609 [(6, vI x232), (5, vI x222), (0, vW (Value.ref b)), (1, vR a1), (2, vR a2), (3, vR a3), (4, vI a4)] [vI x234]
  refine g_iload (i := 5) 1 ok d_La_law_609 rfl ?_
  refine g_icmp_eq (tgt := 616) ok d_La_law_611 (by decide) (fun c236 => ?_) (fun c236 => ?_)
  · replace h := (if_pos c236).symm.trans h
    refine g_iload (i := 5) 1 ok d_La_law_616 rfl ?_
    refine g_if_ne (tgt := 633) ok d_La_law_618 (by decide) (fun c237 => ?_) (fun c237 => ?_)
    · replace h := (if_pos c237).symm.trans h
      refine g_aload_n (i := 3) 5 ok d_La_law_621 rfl rfl ?_
      refine g_iconst (v := (0 : Int32)) ok d_La_law_622 (by decide) ?_
      obtain ⟨k238, hk239, h⟩ := bnd_go h
      refine g_lald ok hk239 d_La_law_623 ?_
      refine g_iload (i := 6) 0 ok d_La_law_624 rfl ?_
      refine g_i2l ok d_La_law_626 ?_
      refine g_lcmp ok d_La_law_627 ?_
      refine g_if_eq (tgt := 633) ok d_La_law_628 (by decide) (fun c240 => ?_) (fun c240 => ?_)
      · replace h := (if_pos c240).symm.trans h
        refine g_goto (tgt := 1574) ok d_La_law_633 (by decide) ?_
        obtain ⟨x241, e242⟩ : ∃ z, a4 + (6 : Int32) = z := ⟨_, rfl⟩
        replace h := lt_go h e242
        refine g_iinc (i := 4) (v := x241) 6 [(4, vI x241), (6, vI x232), (5, vI x222), (0, vW (Value.ref b)), (1, vR a1), (2, vR a2), (3, vR a3)] ok d_La_law_1574 rfl (by rw [← e242]; rfl) (by decide) rfl ?_
        refine g_goto (tgt := 23) ok d_La_law_1577 (by decide) ?_
        refine g_sub [3, 4, 5, 6, 0] rfl ?_
        refine g_widen (ce' := (ce0 + 100)) (sl' := (sl0 + 1200)) (by omega) (by omega) ?_
        exact hrec x241 s231 h
      · replace h := (if_neg c240).symm.trans h
        refine g_iconst (v := (0 : Int32)) ok d_La_law_631 (by decide) ?_
        exact absurd (Option.some.inj h) (by decide)
    · replace h := (if_neg c237).symm.trans h
      refine g_goto (tgt := 1574) ok d_La_law_633 (by decide) ?_
      obtain ⟨x243, e244⟩ : ∃ z, a4 + (6 : Int32) = z := ⟨_, rfl⟩
      replace h := lt_go h e244
      refine g_iinc (i := 4) (v := x243) 6 [(4, vI x243), (6, vI x232), (5, vI x222), (0, vW (Value.ref b)), (1, vR a1), (2, vR a2), (3, vR a3)] ok d_La_law_1574 rfl (by rw [← e244]; rfl) (by decide) rfl ?_
      refine g_goto (tgt := 23) ok d_La_law_1577 (by decide) ?_
      refine g_sub [3, 4, 5, 6, 0] rfl ?_
      refine g_widen (ce' := (ce0 + 100)) (sl' := (sl0 + 1200)) (by omega) (by omega) ?_
      exact hrec x243 s231 h
  · replace h := (if_neg c236).symm.trans h
    refine g_iconst (v := (0 : Int32)) ok d_La_law_614 (by decide) ?_
    exact absurd (Option.some.inj h) (by decide)
set_option maxRecDepth 100000 in
set_option maxHeartbeats 4000000 in
theorem w_j_La_law_636 {X : CX} {b L : Nat} {xs : Nat → Int32} {a1 a2 a3 : Option Nat} {a4 : Int32} {s : MS} {rec : Int32 → MS → Option Int32} {ce0 sl0 : Nat} (ok : Ok X code RL rm_La_law 7 true) (ht : Sc X b L xs) (hc1 : ce0 + 100 ≤ 601024) (hc2 : sl0 + 1200 ≤ 7293034) (hrec : ∀ (v4 : Int32) (z : MS), rec v4 z = some 1 → G X z (ce0 + 100) (sl0 + 1200) 23 [(0, vW (Value.ref b)), (1, vR a1), (2, vR a2), (3, vR a3), (4, vI v4)] []) (h : j_La_law_636 L xs a1 a2 a3 a4 s rec = some 1) : G X s ce0 sl0 636 [(0, vW (Value.ref b)), (1, vR a1), (2, vR a2), (3, vR a3), (4, vI a4)] [] := by
  unfold j_La_law_636 at h
  refine g_aload_n (i := 1) 1 ok d_La_law_636 rfl rfl ?_
  refine g_aloadw_n (i := 0) 0 ok d_La_law_637 rfl rfl ?_
  refine g_iload (i := 4) 4 ok d_La_law_638 rfl ?_
  refine g_iconst (v := (1 : Int32)) ok d_La_law_640 (by decide) ?_
  refine g_iadd ok d_La_law_641 ?_
  obtain ⟨x245, hx246, h⟩ := bnd_go h
  refine g_sld ok ht hx246 d_La_law_642 ?_
  refine g_aloadw_n (i := 0) 0 ok d_La_law_643 rfl rfl ?_
  refine g_iload (i := 4) 4 ok d_La_law_644 rfl ?_
  refine g_iconst (v := (2 : Int32)) ok d_La_law_646 (by decide) ?_
  refine g_iadd ok d_La_law_647 ?_
  obtain ⟨x247, hx248, h⟩ := bnd_go h
  refine g_sld ok ht hx248 d_La_law_648 ?_
  refine g_aload_n (i := 3) 3 ok d_La_law_649 rfl rfl ?_
  obtain ⟨k249, hk250, h⟩ := bnd_go h
  obtain ⟨k251, hk252, h⟩ := bnd_go h
  obtain ⟨n253, hn254, h⟩ := bnd_go h
  obtain ⟨x258, s257, hc256, h⟩ := bnd2_go h
  refine g_callW (rm2 := rm_La_move) (As := [vR a1, vI x245, vI x247, vR a3]) (rest := []) ok ht.2.2.2.1 (c_La_move ht.2.2.2.2.1 hc256) cm_La_move cs_La_move tw_467 ⟨rfl, rfl⟩ ⟨le_t rfl, le_t rfl⟩ ⟨rfl, le_t rfl⟩ ⟨(by show _ ≤ 601024; omega), (by show _ ≤ 7293034; omega)⟩ ⟨trivial, ⟨(rk_of hk250), ⟨(rk_of hk252), ⟨(rk_rl hn254), ⟨trivial, trivial⟩⟩⟩⟩⟩ trivial d_La_law_650 rfl (fun m255 => ?_)
  show G X s257 (ce0 + 1) (sl0 + 6) 653 [(0, vW (Value.ref b)), (1, vR a1), (2, vR a2), (3, vR a3), (4, vI a4)] [vI x258]
  refine g_istore (i := 5) [(5, vI x258), (0, vW (Value.ref b)), (1, vR a1), (2, vR a2), (3, vR a3), (4, vI a4)] ok d_La_law_653 (by decide) rfl ?_
  refine g_aload_n (i := 2) 3 ok d_La_law_655 rfl rfl ?_
  refine g_aloadw_n (i := 0) 1 ok d_La_law_656 rfl rfl ?_
  refine g_iload (i := 4) 5 ok d_La_law_657 rfl ?_
  refine g_iconst (v := (1 : Int32)) ok d_La_law_659 (by decide) ?_
  refine g_iadd ok d_La_law_660 ?_
  obtain ⟨x259, hx260, h⟩ := bnd_go h
  refine g_sld ok ht hx260 d_La_law_661 ?_
  refine g_aloadw_n (i := 0) 1 ok d_La_law_662 rfl rfl ?_
  refine g_iload (i := 4) 5 ok d_La_law_663 rfl ?_
  refine g_iconst (v := (2 : Int32)) ok d_La_law_665 (by decide) ?_
  refine g_iadd ok d_La_law_666 ?_
  obtain ⟨x261, hx262, h⟩ := bnd_go h
  refine g_sld ok ht hx262 d_La_law_667 ?_
  obtain ⟨x266, s265, hc264, h⟩ := bnd2_go h
  refine g_invV (rm2 := rm_Mo_move) (As := [vI x259, vI x261]) (rest := []) ok (rf_mono m255 hk252) lay_20 rfl (c_Mo_move X.1.2.1 (rf_self (rf_mono m255 hk252)) hc264) cm_Mo_move cv_Mo_move tw_878 ⟨rfl, rfl⟩ ⟨le_t rfl, le_t rfl⟩ ⟨rfl, le_t rfl⟩ ⟨(by show _ ≤ 601024; omega), (by show _ ≤ 7293034; omega)⟩ d_La_law_668 rfl (fun m263 => ?_)
  show G X s265 (ce0 + 1) (sl0 + 6) 671 [(5, vI x258), (0, vW (Value.ref b)), (1, vR a1), (2, vR a2), (3, vR a3), (4, vI a4)] [vI x266]
  refine g_istore (i := 6) [(6, vI x266), (5, vI x258), (0, vW (Value.ref b)), (1, vR a1), (2, vR a2), (3, vR a3), (4, vI a4)] ok d_La_law_671 (by decide) rfl ?_
  refine g_aload_n (i := 2) 4 ok d_La_law_673 rfl rfl ?_
  obtain ⟨x268, hc269, h⟩ := bnd_go h
  refine g_invV (rm2 := rm_Mo_thrown) (As := []) (rest := []) ok (rf_mono m263 (rf_mono m255 hk252)) lay_20 rfl (c_Mo_thrown X.1.2.1 (rf_self (rf_mono m263 (rf_mono m255 hk252))) hc269) cm_Mo_thrown cv_Mo_thrown tw_827 ⟨rfl, rfl⟩ ⟨le_t rfl, le_t rfl⟩ ⟨rfl, le_t rfl⟩ ⟨(by show _ ≤ 601024; omega), (by show _ ≤ 7293034; omega)⟩ d_La_law_674 rfl (fun m267 => ?_)
  show G X s265 (ce0 + 1) (sl0 + 6) 677 [(6, vI x266), (5, vI x258), (0, vW (Value.ref b)), (1, vR a1), (2, vR a2), (3, vR a3), (4, vI a4)] [vI x268]
  refine g_iload (i := 5) 1 ok d_La_law_677 rfl ?_
  refine g_icmp_eq (tgt := 684) ok d_La_law_679 (by decide) (fun c270 => ?_) (fun c270 => ?_)
  · replace h := (if_pos c270).symm.trans h
    refine g_iload (i := 5) 1 ok d_La_law_684 rfl ?_
    refine g_if_ne (tgt := 701) ok d_La_law_686 (by decide) (fun c271 => ?_) (fun c271 => ?_)
    · replace h := (if_pos c271).symm.trans h
      refine g_aload_n (i := 3) 5 ok d_La_law_689 rfl rfl ?_
      refine g_iconst (v := (0 : Int32)) ok d_La_law_690 (by decide) ?_
      obtain ⟨k272, hk273, h⟩ := bnd_go h
      refine g_lald ok hk273 d_La_law_691 ?_
      refine g_iload (i := 6) 0 ok d_La_law_692 rfl ?_
      refine g_i2l ok d_La_law_694 ?_
      refine g_lcmp ok d_La_law_695 ?_
      refine g_if_eq (tgt := 701) ok d_La_law_696 (by decide) (fun c274 => ?_) (fun c274 => ?_)
      · replace h := (if_pos c274).symm.trans h
        refine g_goto (tgt := 1574) ok d_La_law_701 (by decide) ?_
        obtain ⟨x275, e276⟩ : ∃ z, a4 + (6 : Int32) = z := ⟨_, rfl⟩
        replace h := lt_go h e276
        refine g_iinc (i := 4) (v := x275) 6 [(4, vI x275), (6, vI x266), (5, vI x258), (0, vW (Value.ref b)), (1, vR a1), (2, vR a2), (3, vR a3)] ok d_La_law_1574 rfl (by rw [← e276]; rfl) (by decide) rfl ?_
        refine g_goto (tgt := 23) ok d_La_law_1577 (by decide) ?_
        refine g_sub [3, 4, 5, 6, 0] rfl ?_
        refine g_widen (ce' := (ce0 + 100)) (sl' := (sl0 + 1200)) (by omega) (by omega) ?_
        exact hrec x275 s265 h
      · replace h := (if_neg c274).symm.trans h
        refine g_iconst (v := (0 : Int32)) ok d_La_law_699 (by decide) ?_
        exact absurd (Option.some.inj h) (by decide)
    · replace h := (if_neg c271).symm.trans h
      refine g_goto (tgt := 1574) ok d_La_law_701 (by decide) ?_
      obtain ⟨x277, e278⟩ : ∃ z, a4 + (6 : Int32) = z := ⟨_, rfl⟩
      replace h := lt_go h e278
      refine g_iinc (i := 4) (v := x277) 6 [(4, vI x277), (6, vI x266), (5, vI x258), (0, vW (Value.ref b)), (1, vR a1), (2, vR a2), (3, vR a3)] ok d_La_law_1574 rfl (by rw [← e278]; rfl) (by decide) rfl ?_
      refine g_goto (tgt := 23) ok d_La_law_1577 (by decide) ?_
      refine g_sub [3, 4, 5, 6, 0] rfl ?_
      refine g_widen (ce' := (ce0 + 100)) (sl' := (sl0 + 1200)) (by omega) (by omega) ?_
      exact hrec x277 s265 h
  · replace h := (if_neg c270).symm.trans h
    refine g_iconst (v := (0 : Int32)) ok d_La_law_682 (by decide) ?_
    exact absurd (Option.some.inj h) (by decide)
set_option maxRecDepth 100000 in
set_option maxHeartbeats 4000000 in
theorem w_j_La_law_704 {X : CX} {b L : Nat} {xs : Nat → Int32} {a1 a2 a3 : Option Nat} {a4 : Int32} {s : MS} {rec : Int32 → MS → Option Int32} {ce0 sl0 : Nat} (ok : Ok X code RL rm_La_law 7 true) (ht : Sc X b L xs) (hc1 : ce0 + 100 ≤ 601024) (hc2 : sl0 + 1200 ≤ 7293034) (hrec : ∀ (v4 : Int32) (z : MS), rec v4 z = some 1 → G X z (ce0 + 100) (sl0 + 1200) 23 [(0, vW (Value.ref b)), (1, vR a1), (2, vR a2), (3, vR a3), (4, vI v4)] []) (h : j_La_law_704 L xs a1 a2 a3 a4 s rec = some 1) : G X s ce0 sl0 704 [(0, vW (Value.ref b)), (1, vR a1), (2, vR a2), (3, vR a3), (4, vI a4)] [] := by
  unfold j_La_law_704 at h
  refine g_aload_n (i := 1) 1 ok d_La_law_704 rfl rfl ?_
  obtain ⟨k279, hk280, h⟩ := bnd_go h
  obtain ⟨x284, s283, hc282, h⟩ := bnd2_go h
  refine g_invV (rm2 := rm_Sk_clear) (As := []) (rest := []) ok hk280 lay_0 rfl (c_Sk_clear X.1.2.1 (rf_self hk280) hc282) cm_Sk_clear cv_Sk_clear tw_126 ⟨rfl, rfl⟩ ⟨le_t rfl, le_t rfl⟩ ⟨rfl, le_t rfl⟩ ⟨(by show _ ≤ 601024; omega), (by show _ ≤ 7293034; omega)⟩ d_La_law_705 rfl (fun m281 => ?_)
  show G X s283 ce0 sl0 708 [(0, vW (Value.ref b)), (1, vR a1), (2, vR a2), (3, vR a3), (4, vI a4)] [vI x284]
  refine g_aload_n (i := 2) 2 ok d_La_law_708 rfl rfl ?_
  obtain ⟨k285, hk286, h⟩ := bnd_go h
  obtain ⟨x290, s289, hc288, h⟩ := bnd2_go h
  refine g_invV (rm2 := rm_Mo_clear) (As := []) (rest := [vI x284]) ok hk286 lay_20 rfl (c_Mo_clear X.1.2.1 (rf_self hk286) hc288) cm_Mo_clear cv_Mo_clear tw_882 ⟨rfl, rfl⟩ ⟨le_t rfl, le_t rfl⟩ ⟨rfl, le_t rfl⟩ ⟨(by show _ ≤ 601024; omega), (by show _ ≤ 7293034; omega)⟩ d_La_law_709 rfl (fun m287 => ?_)
  show G X s289 ce0 sl0 712 [(0, vW (Value.ref b)), (1, vR a1), (2, vR a2), (3, vR a3), (4, vI a4)] [vI x290, vI x284]
  refine g_icmp_eq (tgt := 1574) ok d_La_law_712 (by decide) (fun c291 => ?_) (fun c291 => ?_)
  · replace h := (if_pos c291).symm.trans h
    obtain ⟨x292, e293⟩ : ∃ z, a4 + (6 : Int32) = z := ⟨_, rfl⟩
    replace h := lt_go h e293
    refine g_iinc (i := 4) (v := x292) 4 [(4, vI x292), (0, vW (Value.ref b)), (1, vR a1), (2, vR a2), (3, vR a3)] ok d_La_law_1574 rfl (by rw [← e293]; rfl) (by decide) rfl ?_
    refine g_goto (tgt := 23) ok d_La_law_1577 (by decide) ?_
    refine g_sub [1, 2, 3, 4, 0] rfl ?_
    refine g_widen (ce' := (ce0 + 100)) (sl' := (sl0 + 1200)) (by omega) (by omega) ?_
    exact hrec x292 s289 h
  · replace h := (if_neg c291).symm.trans h
    refine g_iconst (v := (0 : Int32)) ok d_La_law_715 (by decide) ?_
    exact absurd (Option.some.inj h) (by decide)
set_option maxRecDepth 100000 in
set_option maxHeartbeats 4000000 in
theorem w_j_La_law_717 {X : CX} {b L : Nat} {xs : Nat → Int32} {a1 a2 a3 : Option Nat} {a4 : Int32} {s : MS} {rec : Int32 → MS → Option Int32} {ce0 sl0 : Nat} (ok : Ok X code RL rm_La_law 7 true) (ht : Sc X b L xs) (hc1 : ce0 + 100 ≤ 601024) (hc2 : sl0 + 1200 ≤ 7293034) (hrec : ∀ (v4 : Int32) (z : MS), rec v4 z = some 1 → G X z (ce0 + 100) (sl0 + 1200) 23 [(0, vW (Value.ref b)), (1, vR a1), (2, vR a2), (3, vR a3), (4, vI v4)] []) (h : j_La_law_717 L xs a1 a2 a3 a4 s rec = some 1) : G X s ce0 sl0 717 [(0, vW (Value.ref b)), (1, vR a1), (2, vR a2), (3, vR a3), (4, vI a4)] [] := by
  unfold j_La_law_717 at h
  refine g_aload_n (i := 1) 1 ok d_La_law_717 rfl rfl ?_
  refine g_aloadw_n (i := 0) 0 ok d_La_law_718 rfl rfl ?_
  refine g_iload (i := 4) 4 ok d_La_law_719 rfl ?_
  refine g_iconst (v := (1 : Int32)) ok d_La_law_721 (by decide) ?_
  refine g_iadd ok d_La_law_722 ?_
  obtain ⟨x294, hx295, h⟩ := bnd_go h
  refine g_sld ok ht hx295 d_La_law_723 ?_
  refine g_aload_n (i := 3) 3 ok d_La_law_724 rfl rfl ?_
  obtain ⟨k296, hk297, h⟩ := bnd_go h
  obtain ⟨k298, hk299, h⟩ := bnd_go h
  obtain ⟨n300, hn301, h⟩ := bnd_go h
  obtain ⟨x305, s304, hc303, h⟩ := bnd2_go h
  refine g_callW (rm2 := rm_La_takes) (As := [vR a1, vI x294, vR a3]) (rest := []) ok ht.2.2.2.1 (c_La_takes ht.2.2.2.2.1 hc303) cm_La_takes cs_La_takes tw_476 ⟨rfl, rfl⟩ ⟨le_t rfl, le_t rfl⟩ ⟨rfl, le_t rfl⟩ ⟨(by show _ ≤ 601024; omega), (by show _ ≤ 7293034; omega)⟩ ⟨trivial, ⟨(rk_of hk297), ⟨(rk_of hk299), ⟨(rk_rl hn301), ⟨trivial, trivial⟩⟩⟩⟩⟩ trivial d_La_law_725 rfl (fun m302 => ?_)
  show G X s304 (ce0 + 1) (sl0 + 6) 728 [(0, vW (Value.ref b)), (1, vR a1), (2, vR a2), (3, vR a3), (4, vI a4)] [vI x305]
  refine g_istore (i := 5) [(5, vI x305), (0, vW (Value.ref b)), (1, vR a1), (2, vR a2), (3, vR a3), (4, vI a4)] ok d_La_law_728 (by decide) rfl ?_
  refine g_aload_n (i := 2) 3 ok d_La_law_730 rfl rfl ?_
  refine g_aloadw_n (i := 0) 1 ok d_La_law_731 rfl rfl ?_
  refine g_iload (i := 4) 5 ok d_La_law_732 rfl ?_
  refine g_iconst (v := (1 : Int32)) ok d_La_law_734 (by decide) ?_
  refine g_iadd ok d_La_law_735 ?_
  obtain ⟨x306, hx307, h⟩ := bnd_go h
  refine g_sld ok ht hx307 d_La_law_736 ?_
  obtain ⟨x311, s310, hc309, h⟩ := bnd2_go h
  refine g_invV (rm2 := rm_Mo_takes) (As := [vI x306]) (rest := []) ok (rf_mono m302 hk299) lay_20 rfl (c_Mo_takes X.1.2.1 (rf_self (rf_mono m302 hk299)) hc309) cm_Mo_takes cv_Mo_takes tw_886 ⟨rfl, rfl⟩ ⟨le_t rfl, le_t rfl⟩ ⟨rfl, le_t rfl⟩ ⟨(by show _ ≤ 601024; omega), (by show _ ≤ 7293034; omega)⟩ d_La_law_737 rfl (fun m308 => ?_)
  show G X s310 (ce0 + 1) (sl0 + 6) 740 [(5, vI x305), (0, vW (Value.ref b)), (1, vR a1), (2, vR a2), (3, vR a3), (4, vI a4)] [vI x311]
  refine g_istore (i := 6) [(6, vI x311), (5, vI x305), (0, vW (Value.ref b)), (1, vR a1), (2, vR a2), (3, vR a3), (4, vI a4)] ok d_La_law_740 (by decide) rfl ?_
  refine g_aload_n (i := 2) 4 ok d_La_law_742 rfl rfl ?_
  obtain ⟨x313, hc314, h⟩ := bnd_go h
  refine g_invV (rm2 := rm_Mo_thrown) (As := []) (rest := []) ok (rf_mono m308 (rf_mono m302 hk299)) lay_20 rfl (c_Mo_thrown X.1.2.1 (rf_self (rf_mono m308 (rf_mono m302 hk299))) hc314) cm_Mo_thrown cv_Mo_thrown tw_827 ⟨rfl, rfl⟩ ⟨le_t rfl, le_t rfl⟩ ⟨rfl, le_t rfl⟩ ⟨(by show _ ≤ 601024; omega), (by show _ ≤ 7293034; omega)⟩ d_La_law_743 rfl (fun m312 => ?_)
  show G X s310 (ce0 + 1) (sl0 + 6) 746 [(6, vI x311), (5, vI x305), (0, vW (Value.ref b)), (1, vR a1), (2, vR a2), (3, vR a3), (4, vI a4)] [vI x313]
  refine g_iload (i := 5) 1 ok d_La_law_746 rfl ?_
  refine g_icmp_eq (tgt := 753) ok d_La_law_748 (by decide) (fun c315 => ?_) (fun c315 => ?_)
  · replace h := (if_pos c315).symm.trans h
    refine g_iload (i := 5) 1 ok d_La_law_753 rfl ?_
    refine g_if_ne (tgt := 770) ok d_La_law_755 (by decide) (fun c316 => ?_) (fun c316 => ?_)
    · replace h := (if_pos c316).symm.trans h
      refine g_aload_n (i := 3) 5 ok d_La_law_758 rfl rfl ?_
      refine g_iconst (v := (0 : Int32)) ok d_La_law_759 (by decide) ?_
      obtain ⟨k317, hk318, h⟩ := bnd_go h
      refine g_lald ok hk318 d_La_law_760 ?_
      refine g_iload (i := 6) 0 ok d_La_law_761 rfl ?_
      refine g_i2l ok d_La_law_763 ?_
      refine g_lcmp ok d_La_law_764 ?_
      refine g_if_eq (tgt := 770) ok d_La_law_765 (by decide) (fun c319 => ?_) (fun c319 => ?_)
      · replace h := (if_pos c319).symm.trans h
        refine g_goto (tgt := 1574) ok d_La_law_770 (by decide) ?_
        obtain ⟨x320, e321⟩ : ∃ z, a4 + (6 : Int32) = z := ⟨_, rfl⟩
        replace h := lt_go h e321
        refine g_iinc (i := 4) (v := x320) 6 [(4, vI x320), (6, vI x311), (5, vI x305), (0, vW (Value.ref b)), (1, vR a1), (2, vR a2), (3, vR a3)] ok d_La_law_1574 rfl (by rw [← e321]; rfl) (by decide) rfl ?_
        refine g_goto (tgt := 23) ok d_La_law_1577 (by decide) ?_
        refine g_sub [3, 4, 5, 6, 0] rfl ?_
        refine g_widen (ce' := (ce0 + 100)) (sl' := (sl0 + 1200)) (by omega) (by omega) ?_
        exact hrec x320 s310 h
      · replace h := (if_neg c319).symm.trans h
        refine g_iconst (v := (0 : Int32)) ok d_La_law_768 (by decide) ?_
        exact absurd (Option.some.inj h) (by decide)
    · replace h := (if_neg c316).symm.trans h
      refine g_goto (tgt := 1574) ok d_La_law_770 (by decide) ?_
      obtain ⟨x322, e323⟩ : ∃ z, a4 + (6 : Int32) = z := ⟨_, rfl⟩
      replace h := lt_go h e323
      refine g_iinc (i := 4) (v := x322) 6 [(4, vI x322), (6, vI x311), (5, vI x305), (0, vW (Value.ref b)), (1, vR a1), (2, vR a2), (3, vR a3)] ok d_La_law_1574 rfl (by rw [← e323]; rfl) (by decide) rfl ?_
      refine g_goto (tgt := 23) ok d_La_law_1577 (by decide) ?_
      refine g_sub [3, 4, 5, 6, 0] rfl ?_
      refine g_widen (ce' := (ce0 + 100)) (sl' := (sl0 + 1200)) (by omega) (by omega) ?_
      exact hrec x322 s310 h
  · replace h := (if_neg c315).symm.trans h
    refine g_iconst (v := (0 : Int32)) ok d_La_law_751 (by decide) ?_
    exact absurd (Option.some.inj h) (by decide)
set_option maxRecDepth 100000 in
set_option maxHeartbeats 4000000 in
theorem w_j_La_law_773 {X : CX} {b L : Nat} {xs : Nat → Int32} {a1 a2 a3 : Option Nat} {a4 : Int32} {s : MS} {rec : Int32 → MS → Option Int32} {ce0 sl0 : Nat} (ok : Ok X code RL rm_La_law 7 true) (ht : Sc X b L xs) (hc1 : ce0 + 100 ≤ 601024) (hc2 : sl0 + 1200 ≤ 7293034) (hrec : ∀ (v4 : Int32) (z : MS), rec v4 z = some 1 → G X z (ce0 + 100) (sl0 + 1200) 23 [(0, vW (Value.ref b)), (1, vR a1), (2, vR a2), (3, vR a3), (4, vI v4)] []) (h : j_La_law_773 L xs a1 a2 a3 a4 s rec = some 1) : G X s ce0 sl0 773 [(0, vW (Value.ref b)), (1, vR a1), (2, vR a2), (3, vR a3), (4, vI a4)] [] := by
  unfold j_La_law_773 at h
  refine g_aload_n (i := 1) 1 ok d_La_law_773 rfl rfl ?_
  refine g_aloadw_n (i := 0) 0 ok d_La_law_774 rfl rfl ?_
  refine g_iload (i := 4) 4 ok d_La_law_775 rfl ?_
  refine g_iconst (v := (1 : Int32)) ok d_La_law_777 (by decide) ?_
  refine g_iadd ok d_La_law_778 ?_
  obtain ⟨x324, hx325, h⟩ := bnd_go h
  refine g_sld ok ht hx325 d_La_law_779 ?_
  refine g_aloadw_n (i := 0) 0 ok d_La_law_780 rfl rfl ?_
  refine g_iload (i := 4) 4 ok d_La_law_781 rfl ?_
  refine g_iconst (v := (2 : Int32)) ok d_La_law_783 (by decide) ?_
  refine g_iadd ok d_La_law_784 ?_
  obtain ⟨x326, hx327, h⟩ := bnd_go h
  refine g_sld ok ht hx327 d_La_law_785 ?_
  refine g_aloadw_n (i := 0) 0 ok d_La_law_786 rfl rfl ?_
  refine g_iload (i := 4) 4 ok d_La_law_787 rfl ?_
  refine g_iconst (v := (3 : Int32)) ok d_La_law_789 (by decide) ?_
  refine g_iadd ok d_La_law_790 ?_
  obtain ⟨x328, hx329, h⟩ := bnd_go h
  refine g_sld ok ht hx329 d_La_law_791 ?_
  refine g_aload_n (i := 3) 3 ok d_La_law_792 rfl rfl ?_
  obtain ⟨k330, hk331, h⟩ := bnd_go h
  obtain ⟨k332, hk333, h⟩ := bnd_go h
  obtain ⟨n334, hn335, h⟩ := bnd_go h
  obtain ⟨x339, s338, hc337, h⟩ := bnd2_go h
  refine g_callW (rm2 := rm_La_file) (As := [vR a1, vI x324, vI x326, vI x328, vR a3]) (rest := []) ok ht.2.2.2.1 (c_La_file ht.2.2.2.2.1 hc337) cm_La_file cs_La_file tw_506 ⟨rfl, rfl⟩ ⟨le_t rfl, le_t rfl⟩ ⟨rfl, le_t rfl⟩ ⟨(by show _ ≤ 601024; omega), (by show _ ≤ 7293034; omega)⟩ ⟨trivial, ⟨(rk_of hk331), ⟨(rk_of hk333), ⟨(rk_rl hn335), ⟨trivial, trivial⟩⟩⟩⟩⟩ trivial d_La_law_793 rfl (fun m336 => ?_)
  show G X s338 (ce0 + 3) (sl0 + 94) 796 [(0, vW (Value.ref b)), (1, vR a1), (2, vR a2), (3, vR a3), (4, vI a4)] [vI x339]
  refine g_istore (i := 5) [(5, vI x339), (0, vW (Value.ref b)), (1, vR a1), (2, vR a2), (3, vR a3), (4, vI a4)] ok d_La_law_796 (by decide) rfl ?_
  refine g_aload_n (i := 2) 3 ok d_La_law_798 rfl rfl ?_
  refine g_aloadw_n (i := 0) 1 ok d_La_law_799 rfl rfl ?_
  refine g_iload (i := 4) 5 ok d_La_law_800 rfl ?_
  refine g_iconst (v := (1 : Int32)) ok d_La_law_802 (by decide) ?_
  refine g_iadd ok d_La_law_803 ?_
  obtain ⟨x340, hx341, h⟩ := bnd_go h
  refine g_sld ok ht hx341 d_La_law_804 ?_
  refine g_aloadw_n (i := 0) 1 ok d_La_law_805 rfl rfl ?_
  refine g_iload (i := 4) 5 ok d_La_law_806 rfl ?_
  refine g_iconst (v := (2 : Int32)) ok d_La_law_808 (by decide) ?_
  refine g_iadd ok d_La_law_809 ?_
  obtain ⟨x342, hx343, h⟩ := bnd_go h
  refine g_sld ok ht hx343 d_La_law_810 ?_
  refine g_aloadw_n (i := 0) 1 ok d_La_law_811 rfl rfl ?_
  refine g_iload (i := 4) 5 ok d_La_law_812 rfl ?_
  refine g_iconst (v := (3 : Int32)) ok d_La_law_814 (by decide) ?_
  refine g_iadd ok d_La_law_815 ?_
  obtain ⟨x344, hx345, h⟩ := bnd_go h
  refine g_sld ok ht hx345 d_La_law_816 ?_
  obtain ⟨x349, s348, hc347, h⟩ := bnd2_go h
  refine g_invV (rm2 := rm_Mo_file) (As := [vI x340, vI x342, vI x344]) (rest := []) ok (rf_mono m336 hk333) lay_20 rfl (c_Mo_file X.1.2.1 (rf_self (rf_mono m336 hk333)) hc347) cm_Mo_file cv_Mo_file tw_905 ⟨rfl, rfl⟩ ⟨le_t rfl, le_t rfl⟩ ⟨rfl, le_t rfl⟩ ⟨(by show _ ≤ 601024; omega), (by show _ ≤ 7293034; omega)⟩ d_La_law_817 rfl (fun m346 => ?_)
  show G X s348 (ce0 + 3) (sl0 + 94) 820 [(5, vI x339), (0, vW (Value.ref b)), (1, vR a1), (2, vR a2), (3, vR a3), (4, vI a4)] [vI x349]
  refine g_istore (i := 6) [(6, vI x349), (5, vI x339), (0, vW (Value.ref b)), (1, vR a1), (2, vR a2), (3, vR a3), (4, vI a4)] ok d_La_law_820 (by decide) rfl ?_
  refine g_aload_n (i := 2) 4 ok d_La_law_822 rfl rfl ?_
  obtain ⟨x351, hc352, h⟩ := bnd_go h
  refine g_invV (rm2 := rm_Mo_thrown) (As := []) (rest := []) ok (rf_mono m346 (rf_mono m336 hk333)) lay_20 rfl (c_Mo_thrown X.1.2.1 (rf_self (rf_mono m346 (rf_mono m336 hk333))) hc352) cm_Mo_thrown cv_Mo_thrown tw_827 ⟨rfl, rfl⟩ ⟨le_t rfl, le_t rfl⟩ ⟨rfl, le_t rfl⟩ ⟨(by show _ ≤ 601024; omega), (by show _ ≤ 7293034; omega)⟩ d_La_law_823 rfl (fun m350 => ?_)
  show G X s348 (ce0 + 3) (sl0 + 94) 826 [(6, vI x349), (5, vI x339), (0, vW (Value.ref b)), (1, vR a1), (2, vR a2), (3, vR a3), (4, vI a4)] [vI x351]
  refine g_iload (i := 5) 1 ok d_La_law_826 rfl ?_
  refine g_icmp_eq (tgt := 833) ok d_La_law_828 (by decide) (fun c353 => ?_) (fun c353 => ?_)
  · replace h := (if_pos c353).symm.trans h
    refine g_iload (i := 5) 1 ok d_La_law_833 rfl ?_
    refine g_if_ne (tgt := 850) ok d_La_law_835 (by decide) (fun c354 => ?_) (fun c354 => ?_)
    · replace h := (if_pos c354).symm.trans h
      refine g_aload_n (i := 3) 5 ok d_La_law_838 rfl rfl ?_
      refine g_iconst (v := (0 : Int32)) ok d_La_law_839 (by decide) ?_
      obtain ⟨k355, hk356, h⟩ := bnd_go h
      refine g_lald ok hk356 d_La_law_840 ?_
      refine g_iload (i := 6) 0 ok d_La_law_841 rfl ?_
      refine g_i2l ok d_La_law_843 ?_
      refine g_lcmp ok d_La_law_844 ?_
      refine g_if_eq (tgt := 850) ok d_La_law_845 (by decide) (fun c357 => ?_) (fun c357 => ?_)
      · replace h := (if_pos c357).symm.trans h
        refine g_goto (tgt := 1574) ok d_La_law_850 (by decide) ?_
        obtain ⟨x358, e359⟩ : ∃ z, a4 + (6 : Int32) = z := ⟨_, rfl⟩
        replace h := lt_go h e359
        refine g_iinc (i := 4) (v := x358) 6 [(4, vI x358), (6, vI x349), (5, vI x339), (0, vW (Value.ref b)), (1, vR a1), (2, vR a2), (3, vR a3)] ok d_La_law_1574 rfl (by rw [← e359]; rfl) (by decide) rfl ?_
        refine g_goto (tgt := 23) ok d_La_law_1577 (by decide) ?_
        refine g_sub [3, 4, 5, 6, 0] rfl ?_
        refine g_widen (ce' := (ce0 + 100)) (sl' := (sl0 + 1200)) (by omega) (by omega) ?_
        exact hrec x358 s348 h
      · replace h := (if_neg c357).symm.trans h
        refine g_iconst (v := (0 : Int32)) ok d_La_law_848 (by decide) ?_
        exact absurd (Option.some.inj h) (by decide)
    · replace h := (if_neg c354).symm.trans h
      refine g_goto (tgt := 1574) ok d_La_law_850 (by decide) ?_
      obtain ⟨x360, e361⟩ : ∃ z, a4 + (6 : Int32) = z := ⟨_, rfl⟩
      replace h := lt_go h e361
      refine g_iinc (i := 4) (v := x360) 6 [(4, vI x360), (6, vI x349), (5, vI x339), (0, vW (Value.ref b)), (1, vR a1), (2, vR a2), (3, vR a3)] ok d_La_law_1574 rfl (by rw [← e361]; rfl) (by decide) rfl ?_
      refine g_goto (tgt := 23) ok d_La_law_1577 (by decide) ?_
      refine g_sub [3, 4, 5, 6, 0] rfl ?_
      refine g_widen (ce' := (ce0 + 100)) (sl' := (sl0 + 1200)) (by omega) (by omega) ?_
      exact hrec x360 s348 h
  · replace h := (if_neg c353).symm.trans h
    refine g_iconst (v := (0 : Int32)) ok d_La_law_831 (by decide) ?_
    exact absurd (Option.some.inj h) (by decide)
set_option maxRecDepth 100000 in
set_option maxHeartbeats 4000000 in
theorem w_j_La_law_853 {X : CX} {b L : Nat} {xs : Nat → Int32} {a1 a2 a3 : Option Nat} {a4 : Int32} {s : MS} {rec : Int32 → MS → Option Int32} {ce0 sl0 : Nat} (ok : Ok X code RL rm_La_law 7 true) (ht : Sc X b L xs) (hc1 : ce0 + 100 ≤ 601024) (hc2 : sl0 + 1200 ≤ 7293034) (hrec : ∀ (v4 : Int32) (z : MS), rec v4 z = some 1 → G X z (ce0 + 100) (sl0 + 1200) 23 [(0, vW (Value.ref b)), (1, vR a1), (2, vR a2), (3, vR a3), (4, vI v4)] []) (h : j_La_law_853 L xs a1 a2 a3 a4 s rec = some 1) : G X s ce0 sl0 853 [(0, vW (Value.ref b)), (1, vR a1), (2, vR a2), (3, vR a3), (4, vI a4)] [] := by
  unfold j_La_law_853 at h
  refine g_aload_n (i := 1) 1 ok d_La_law_853 rfl rfl ?_
  obtain ⟨k362, hk363, h⟩ := bnd_go h
  obtain ⟨x365, hc366, h⟩ := bnd_go h
  refine g_invV (rm2 := rm_Sk_why) (As := []) (rest := []) ok hk363 lay_0 rfl (c_Sk_why X.1.2.1 (rf_self hk363) hc366) cm_Sk_why cv_Sk_why tw_130 ⟨rfl, rfl⟩ ⟨le_t rfl, le_t rfl⟩ ⟨rfl, le_t rfl⟩ ⟨(by show _ ≤ 601024; omega), (by show _ ≤ 7293034; omega)⟩ d_La_law_854 rfl (fun m364 => ?_)
  show G X s ce0 sl0 857 [(0, vW (Value.ref b)), (1, vR a1), (2, vR a2), (3, vR a3), (4, vI a4)] [vI x365]
  refine g_aload_n (i := 2) 2 ok d_La_law_857 rfl rfl ?_
  obtain ⟨k367, hk368, h⟩ := bnd_go h
  obtain ⟨x372, s371, hc370, h⟩ := bnd2_go h
  refine g_invV (rm2 := rm_Mo_why) (As := []) (rest := [vI x365]) ok hk368 lay_20 rfl (c_Mo_why X.1.2.1 (rf_self hk368) hc370) cm_Mo_why cv_Mo_why tw_943 ⟨rfl, rfl⟩ ⟨le_t rfl, le_t rfl⟩ ⟨rfl, le_t rfl⟩ ⟨(by show _ ≤ 601024; omega), (by show _ ≤ 7293034; omega)⟩ d_La_law_858 rfl (fun m369 => ?_)
  show G X s371 ce0 sl0 861 [(0, vW (Value.ref b)), (1, vR a1), (2, vR a2), (3, vR a3), (4, vI a4)] [vI x372, vI x365]
  refine g_icmp_eq (tgt := 1574) ok d_La_law_861 (by decide) (fun c373 => ?_) (fun c373 => ?_)
  · replace h := (if_pos c373).symm.trans h
    obtain ⟨x374, e375⟩ : ∃ z, a4 + (6 : Int32) = z := ⟨_, rfl⟩
    replace h := lt_go h e375
    refine g_iinc (i := 4) (v := x374) 4 [(4, vI x374), (0, vW (Value.ref b)), (1, vR a1), (2, vR a2), (3, vR a3)] ok d_La_law_1574 rfl (by rw [← e375]; rfl) (by decide) rfl ?_
    refine g_goto (tgt := 23) ok d_La_law_1577 (by decide) ?_
    refine g_sub [1, 2, 3, 4, 0] rfl ?_
    refine g_widen (ce' := (ce0 + 100)) (sl' := (sl0 + 1200)) (by omega) (by omega) ?_
    exact hrec x374 s371 h
  · replace h := (if_neg c373).symm.trans h
    refine g_iconst (v := (0 : Int32)) ok d_La_law_864 (by decide) ?_
    exact absurd (Option.some.inj h) (by decide)
set_option maxRecDepth 100000 in
set_option maxHeartbeats 4000000 in
theorem w_j_La_law_866 {X : CX} {b L : Nat} {xs : Nat → Int32} {a1 a2 a3 : Option Nat} {a4 : Int32} {s : MS} {rec : Int32 → MS → Option Int32} {ce0 sl0 : Nat} (ok : Ok X code RL rm_La_law 7 true) (ht : Sc X b L xs) (hc1 : ce0 + 100 ≤ 601024) (hc2 : sl0 + 1200 ≤ 7293034) (hrec : ∀ (v4 : Int32) (z : MS), rec v4 z = some 1 → G X z (ce0 + 100) (sl0 + 1200) 23 [(0, vW (Value.ref b)), (1, vR a1), (2, vR a2), (3, vR a3), (4, vI v4)] []) (h : j_La_law_866 L xs a1 a2 a3 a4 s rec = some 1) : G X s ce0 sl0 866 [(0, vW (Value.ref b)), (1, vR a1), (2, vR a2), (3, vR a3), (4, vI a4)] [] := by
  unfold j_La_law_866 at h
  refine g_aload_n (i := 1) 1 ok d_La_law_866 rfl rfl ?_
  refine g_aloadw_n (i := 0) 0 ok d_La_law_867 rfl rfl ?_
  refine g_iload (i := 4) 4 ok d_La_law_868 rfl ?_
  refine g_iconst (v := (1 : Int32)) ok d_La_law_870 (by decide) ?_
  refine g_iadd ok d_La_law_871 ?_
  obtain ⟨x376, hx377, h⟩ := bnd_go h
  refine g_sld ok ht hx377 d_La_law_872 ?_
  obtain ⟨k378, hk379, h⟩ := bnd_go h
  obtain ⟨k380, hk381, h⟩ := bnd_go h
  obtain ⟨n382, hn383, h⟩ := bnd_go h
  obtain ⟨x387, s386, hc385, h⟩ := bnd2_go h
  refine g_callW (rm2 := rm_La_withdraw) (As := [vR a1, vI x376]) (rest := []) ok ht.2.2.2.1 (c_La_withdraw ht.2.2.2.2.1 hc385) cm_La_withdraw cs_La_withdraw tw_575 ⟨rfl, rfl⟩ ⟨le_t rfl, le_t rfl⟩ ⟨rfl, le_t rfl⟩ ⟨(by show _ ≤ 601024; omega), (by show _ ≤ 7293034; omega)⟩ ⟨trivial, ⟨(rk_of hk379), ⟨(rk_of hk381), ⟨(rk_rl hn383), ⟨trivial, trivial⟩⟩⟩⟩⟩ trivial d_La_law_873 rfl (fun m384 => ?_)
  show G X s386 (ce0 + 1) (sl0 + 6) 876 [(0, vW (Value.ref b)), (1, vR a1), (2, vR a2), (3, vR a3), (4, vI a4)] [vI x387]
  refine g_istore (i := 5) [(5, vI x387), (0, vW (Value.ref b)), (1, vR a1), (2, vR a2), (3, vR a3), (4, vI a4)] ok d_La_law_876 (by decide) rfl ?_
  refine g_aload_n (i := 2) 3 ok d_La_law_878 rfl rfl ?_
  refine g_aloadw_n (i := 0) 1 ok d_La_law_879 rfl rfl ?_
  refine g_iload (i := 4) 5 ok d_La_law_880 rfl ?_
  refine g_iconst (v := (1 : Int32)) ok d_La_law_882 (by decide) ?_
  refine g_iadd ok d_La_law_883 ?_
  obtain ⟨x388, hx389, h⟩ := bnd_go h
  refine g_sld ok ht hx389 d_La_law_884 ?_
  obtain ⟨s392, hc391, h⟩ := bnd_go h
  refine g_invV (rm2 := rm_Mo_withdraw) (As := [vI x388]) (rest := []) ok (rf_mono m384 hk381) lay_20 rfl (c_Mo_withdraw X.1.2.1 (rf_self (rf_mono m384 hk381)) hc391) cm_Mo_withdraw cv_Mo_withdraw tw_947 ⟨rfl, rfl⟩ ⟨le_t rfl, le_t rfl⟩ ⟨rfl, le_t rfl⟩ ⟨(by show _ ≤ 601024; omega), (by show _ ≤ 7293034; omega)⟩ d_La_law_885 rfl (fun m390 => ?_)
  show G X s392 (ce0 + 1) (sl0 + 6) 888 [(5, vI x387), (0, vW (Value.ref b)), (1, vR a1), (2, vR a2), (3, vR a3), (4, vI a4)] []
  refine g_aload_n (i := 2) 3 ok d_La_law_888 rfl rfl ?_
  obtain ⟨x394, hc395, h⟩ := bnd_go h
  refine g_invV (rm2 := rm_Mo_thrown) (As := []) (rest := []) ok (rf_mono m390 (rf_mono m384 hk381)) lay_20 rfl (c_Mo_thrown X.1.2.1 (rf_self (rf_mono m390 (rf_mono m384 hk381))) hc395) cm_Mo_thrown cv_Mo_thrown tw_827 ⟨rfl, rfl⟩ ⟨le_t rfl, le_t rfl⟩ ⟨rfl, le_t rfl⟩ ⟨(by show _ ≤ 601024; omega), (by show _ ≤ 7293034; omega)⟩ d_La_law_889 rfl (fun m393 => ?_)
  show G X s392 (ce0 + 1) (sl0 + 6) 892 [(5, vI x387), (0, vW (Value.ref b)), (1, vR a1), (2, vR a2), (3, vR a3), (4, vI a4)] [vI x394]
  refine g_iload (i := 5) 0 ok d_La_law_892 rfl ?_
  refine g_icmp_eq (tgt := 899) ok d_La_law_894 (by decide) (fun c396 => ?_) (fun c396 => ?_)
  · replace h := (if_pos c396).symm.trans h
    refine g_goto (tgt := 1574) ok d_La_law_899 (by decide) ?_
    obtain ⟨x397, e398⟩ : ∃ z, a4 + (6 : Int32) = z := ⟨_, rfl⟩
    replace h := lt_go h e398
    refine g_iinc (i := 4) (v := x397) 5 [(4, vI x397), (5, vI x387), (0, vW (Value.ref b)), (1, vR a1), (2, vR a2), (3, vR a3)] ok d_La_law_1574 rfl (by rw [← e398]; rfl) (by decide) rfl ?_
    refine g_goto (tgt := 23) ok d_La_law_1577 (by decide) ?_
    refine g_sub [2, 3, 4, 5, 0] rfl ?_
    refine g_widen (ce' := (ce0 + 100)) (sl' := (sl0 + 1200)) (by omega) (by omega) ?_
    exact hrec x397 s392 h
  · replace h := (if_neg c396).symm.trans h
    refine g_iconst (v := (0 : Int32)) ok d_La_law_897 (by decide) ?_
    exact absurd (Option.some.inj h) (by decide)
set_option maxRecDepth 100000 in
set_option maxHeartbeats 4000000 in
theorem w_j_La_law_902 {X : CX} {b L : Nat} {xs : Nat → Int32} {a1 a2 a3 : Option Nat} {a4 : Int32} {s : MS} {rec : Int32 → MS → Option Int32} {ce0 sl0 : Nat} (ok : Ok X code RL rm_La_law 7 true) (ht : Sc X b L xs) (hc1 : ce0 + 100 ≤ 601024) (hc2 : sl0 + 1200 ≤ 7293034) (hrec : ∀ (v4 : Int32) (z : MS), rec v4 z = some 1 → G X z (ce0 + 100) (sl0 + 1200) 23 [(0, vW (Value.ref b)), (1, vR a1), (2, vR a2), (3, vR a3), (4, vI v4)] []) (h : j_La_law_902 L xs a1 a2 a3 a4 s rec = some 1) : G X s ce0 sl0 902 [(0, vW (Value.ref b)), (1, vR a1), (2, vR a2), (3, vR a3), (4, vI a4)] [] := by
  unfold j_La_law_902 at h
  refine g_aload_n (i := 1) 1 ok d_La_law_902 rfl rfl ?_
  refine g_aloadw_n (i := 0) 0 ok d_La_law_903 rfl rfl ?_
  refine g_iload (i := 4) 4 ok d_La_law_904 rfl ?_
  refine g_iconst (v := (1 : Int32)) ok d_La_law_906 (by decide) ?_
  refine g_iadd ok d_La_law_907 ?_
  obtain ⟨x399, hx400, h⟩ := bnd_go h
  refine g_sld ok ht hx400 d_La_law_908 ?_
  refine g_aload_n (i := 3) 3 ok d_La_law_909 rfl rfl ?_
  obtain ⟨k401, hk402, h⟩ := bnd_go h
  obtain ⟨k403, hk404, h⟩ := bnd_go h
  obtain ⟨n405, hn406, h⟩ := bnd_go h
  obtain ⟨x410, s409, hc408, h⟩ := bnd2_go h
  refine g_callW (rm2 := rm_La_tick) (As := [vR a1, vI x399, vR a3]) (rest := []) ok ht.2.2.2.1 (c_La_tick ht.2.2.2.2.1 hc408) cm_La_tick cs_La_tick tw_584 ⟨rfl, rfl⟩ ⟨le_t rfl, le_t rfl⟩ ⟨rfl, le_t rfl⟩ ⟨(by show _ ≤ 601024; omega), (by show _ ≤ 7293034; omega)⟩ ⟨trivial, ⟨(rk_of hk402), ⟨(rk_of hk404), ⟨(rk_rl hn406), ⟨trivial, trivial⟩⟩⟩⟩⟩ trivial d_La_law_910 rfl (fun m407 => ?_)
  show G X s409 (ce0 + 1) (sl0 + 6) 913 [(0, vW (Value.ref b)), (1, vR a1), (2, vR a2), (3, vR a3), (4, vI a4)] [vI x410]
  refine g_istore (i := 5) [(5, vI x410), (0, vW (Value.ref b)), (1, vR a1), (2, vR a2), (3, vR a3), (4, vI a4)] ok d_La_law_913 (by decide) rfl ?_
  refine g_aload_n (i := 2) 3 ok d_La_law_915 rfl rfl ?_
  refine g_aloadw_n (i := 0) 1 ok d_La_law_916 rfl rfl ?_
  refine g_iload (i := 4) 5 ok d_La_law_917 rfl ?_
  refine g_iconst (v := (1 : Int32)) ok d_La_law_919 (by decide) ?_
  refine g_iadd ok d_La_law_920 ?_
  obtain ⟨x411, hx412, h⟩ := bnd_go h
  refine g_sld ok ht hx412 d_La_law_921 ?_
  obtain ⟨x416, s415, hc414, h⟩ := bnd2_go h
  refine g_invV (rm2 := rm_Mo_tick) (As := [vI x411]) (rest := []) ok (rf_mono m407 hk404) lay_20 rfl (c_Mo_tick X.1.2.1 (rf_self (rf_mono m407 hk404)) hc414) cm_Mo_tick cv_Mo_tick tw_955 ⟨rfl, rfl⟩ ⟨le_t rfl, le_t rfl⟩ ⟨rfl, le_t rfl⟩ ⟨(by show _ ≤ 601024; omega), (by show _ ≤ 7293034; omega)⟩ d_La_law_922 rfl (fun m413 => ?_)
  show G X s415 (ce0 + 1) (sl0 + 6) 925 [(5, vI x410), (0, vW (Value.ref b)), (1, vR a1), (2, vR a2), (3, vR a3), (4, vI a4)] [vI x416]
  refine g_istore (i := 6) [(6, vI x416), (5, vI x410), (0, vW (Value.ref b)), (1, vR a1), (2, vR a2), (3, vR a3), (4, vI a4)] ok d_La_law_925 (by decide) rfl ?_
  refine g_aload_n (i := 2) 4 ok d_La_law_927 rfl rfl ?_
  obtain ⟨x418, hc419, h⟩ := bnd_go h
  refine g_invV (rm2 := rm_Mo_thrown) (As := []) (rest := []) ok (rf_mono m413 (rf_mono m407 hk404)) lay_20 rfl (c_Mo_thrown X.1.2.1 (rf_self (rf_mono m413 (rf_mono m407 hk404))) hc419) cm_Mo_thrown cv_Mo_thrown tw_827 ⟨rfl, rfl⟩ ⟨le_t rfl, le_t rfl⟩ ⟨rfl, le_t rfl⟩ ⟨(by show _ ≤ 601024; omega), (by show _ ≤ 7293034; omega)⟩ d_La_law_928 rfl (fun m417 => ?_)
  show G X s415 (ce0 + 1) (sl0 + 6) 931 [(6, vI x416), (5, vI x410), (0, vW (Value.ref b)), (1, vR a1), (2, vR a2), (3, vR a3), (4, vI a4)] [vI x418]
  refine g_iload (i := 5) 1 ok d_La_law_931 rfl ?_
  refine g_icmp_eq (tgt := 938) ok d_La_law_933 (by decide) (fun c420 => ?_) (fun c420 => ?_)
  · replace h := (if_pos c420).symm.trans h
    refine g_iload (i := 5) 1 ok d_La_law_938 rfl ?_
    refine g_if_ne (tgt := 955) ok d_La_law_940 (by decide) (fun c421 => ?_) (fun c421 => ?_)
    · replace h := (if_pos c421).symm.trans h
      refine g_aload_n (i := 3) 5 ok d_La_law_943 rfl rfl ?_
      refine g_iconst (v := (0 : Int32)) ok d_La_law_944 (by decide) ?_
      obtain ⟨k422, hk423, h⟩ := bnd_go h
      refine g_lald ok hk423 d_La_law_945 ?_
      refine g_iload (i := 6) 0 ok d_La_law_946 rfl ?_
      refine g_i2l ok d_La_law_948 ?_
      refine g_lcmp ok d_La_law_949 ?_
      refine g_if_eq (tgt := 955) ok d_La_law_950 (by decide) (fun c424 => ?_) (fun c424 => ?_)
      · replace h := (if_pos c424).symm.trans h
        refine g_goto (tgt := 1574) ok d_La_law_955 (by decide) ?_
        obtain ⟨x425, e426⟩ : ∃ z, a4 + (6 : Int32) = z := ⟨_, rfl⟩
        replace h := lt_go h e426
        refine g_iinc (i := 4) (v := x425) 6 [(4, vI x425), (6, vI x416), (5, vI x410), (0, vW (Value.ref b)), (1, vR a1), (2, vR a2), (3, vR a3)] ok d_La_law_1574 rfl (by rw [← e426]; rfl) (by decide) rfl ?_
        refine g_goto (tgt := 23) ok d_La_law_1577 (by decide) ?_
        refine g_sub [3, 4, 5, 6, 0] rfl ?_
        refine g_widen (ce' := (ce0 + 100)) (sl' := (sl0 + 1200)) (by omega) (by omega) ?_
        exact hrec x425 s415 h
      · replace h := (if_neg c424).symm.trans h
        refine g_iconst (v := (0 : Int32)) ok d_La_law_953 (by decide) ?_
        exact absurd (Option.some.inj h) (by decide)
    · replace h := (if_neg c421).symm.trans h
      refine g_goto (tgt := 1574) ok d_La_law_955 (by decide) ?_
      obtain ⟨x427, e428⟩ : ∃ z, a4 + (6 : Int32) = z := ⟨_, rfl⟩
      replace h := lt_go h e428
      refine g_iinc (i := 4) (v := x427) 6 [(4, vI x427), (6, vI x416), (5, vI x410), (0, vW (Value.ref b)), (1, vR a1), (2, vR a2), (3, vR a3)] ok d_La_law_1574 rfl (by rw [← e428]; rfl) (by decide) rfl ?_
      refine g_goto (tgt := 23) ok d_La_law_1577 (by decide) ?_
      refine g_sub [3, 4, 5, 6, 0] rfl ?_
      refine g_widen (ce' := (ce0 + 100)) (sl' := (sl0 + 1200)) (by omega) (by omega) ?_
      exact hrec x427 s415 h
  · replace h := (if_neg c420).symm.trans h
    refine g_iconst (v := (0 : Int32)) ok d_La_law_936 (by decide) ?_
    exact absurd (Option.some.inj h) (by decide)
set_option maxRecDepth 100000 in
set_option maxHeartbeats 4000000 in
theorem w_j_La_law_958 {X : CX} {b L : Nat} {xs : Nat → Int32} {a1 a2 a3 : Option Nat} {a4 : Int32} {s : MS} {rec : Int32 → MS → Option Int32} {ce0 sl0 : Nat} (ok : Ok X code RL rm_La_law 7 true) (ht : Sc X b L xs) (hc1 : ce0 + 100 ≤ 601024) (hc2 : sl0 + 1200 ≤ 7293034) (hrec : ∀ (v4 : Int32) (z : MS), rec v4 z = some 1 → G X z (ce0 + 100) (sl0 + 1200) 23 [(0, vW (Value.ref b)), (1, vR a1), (2, vR a2), (3, vR a3), (4, vI v4)] []) (h : j_La_law_958 L xs a1 a2 a3 a4 s rec = some 1) : G X s ce0 sl0 958 [(0, vW (Value.ref b)), (1, vR a1), (2, vR a2), (3, vR a3), (4, vI a4)] [] := by
  unfold j_La_law_958 at h
  refine g_aload_n (i := 1) 1 ok d_La_law_958 rfl rfl ?_
  refine g_aloadw_n (i := 0) 0 ok d_La_law_959 rfl rfl ?_
  refine g_iload (i := 4) 4 ok d_La_law_960 rfl ?_
  refine g_iconst (v := (1 : Int32)) ok d_La_law_962 (by decide) ?_
  refine g_iadd ok d_La_law_963 ?_
  obtain ⟨x429, hx430, h⟩ := bnd_go h
  refine g_sld ok ht hx430 d_La_law_964 ?_
  refine g_aload_n (i := 3) 3 ok d_La_law_965 rfl rfl ?_
  obtain ⟨k431, hk432, h⟩ := bnd_go h
  obtain ⟨k433, hk434, h⟩ := bnd_go h
  obtain ⟨n435, hn436, h⟩ := bnd_go h
  obtain ⟨x440, s439, hc438, h⟩ := bnd2_go h
  refine g_callW (rm2 := rm_La_lose) (As := [vR a1, vI x429, vR a3]) (rest := []) ok ht.2.2.2.1 (c_La_lose ht.2.2.2.2.1 hc438) cm_La_lose cs_La_lose tw_636 ⟨rfl, rfl⟩ ⟨le_t rfl, le_t rfl⟩ ⟨rfl, le_t rfl⟩ ⟨(by show _ ≤ 601024; omega), (by show _ ≤ 7293034; omega)⟩ ⟨trivial, ⟨(rk_of hk432), ⟨(rk_of hk434), ⟨(rk_rl hn436), ⟨trivial, trivial⟩⟩⟩⟩⟩ trivial d_La_law_966 rfl (fun m437 => ?_)
  show G X s439 (ce0 + 1) (sl0 + 6) 969 [(0, vW (Value.ref b)), (1, vR a1), (2, vR a2), (3, vR a3), (4, vI a4)] [vI x440]
  refine g_istore (i := 5) [(5, vI x440), (0, vW (Value.ref b)), (1, vR a1), (2, vR a2), (3, vR a3), (4, vI a4)] ok d_La_law_969 (by decide) rfl ?_
  refine g_aload_n (i := 2) 3 ok d_La_law_971 rfl rfl ?_
  refine g_aloadw_n (i := 0) 1 ok d_La_law_972 rfl rfl ?_
  refine g_iload (i := 4) 5 ok d_La_law_973 rfl ?_
  refine g_iconst (v := (1 : Int32)) ok d_La_law_975 (by decide) ?_
  refine g_iadd ok d_La_law_976 ?_
  obtain ⟨x441, hx442, h⟩ := bnd_go h
  refine g_sld ok ht hx442 d_La_law_977 ?_
  obtain ⟨x446, s445, hc444, h⟩ := bnd2_go h
  refine g_invV (rm2 := rm_Mo_lose) (As := [vI x441]) (rest := []) ok (rf_mono m437 hk434) lay_20 rfl (c_Mo_lose X.1.2.1 (rf_self (rf_mono m437 hk434)) hc444) cm_Mo_lose cv_Mo_lose tw_982 ⟨rfl, rfl⟩ ⟨le_t rfl, le_t rfl⟩ ⟨rfl, le_t rfl⟩ ⟨(by show _ ≤ 601024; omega), (by show _ ≤ 7293034; omega)⟩ d_La_law_978 rfl (fun m443 => ?_)
  show G X s445 (ce0 + 1) (sl0 + 6) 981 [(5, vI x440), (0, vW (Value.ref b)), (1, vR a1), (2, vR a2), (3, vR a3), (4, vI a4)] [vI x446]
  refine g_istore (i := 6) [(6, vI x446), (5, vI x440), (0, vW (Value.ref b)), (1, vR a1), (2, vR a2), (3, vR a3), (4, vI a4)] ok d_La_law_981 (by decide) rfl ?_
  refine g_aload_n (i := 2) 4 ok d_La_law_983 rfl rfl ?_
  obtain ⟨x448, hc449, h⟩ := bnd_go h
  refine g_invV (rm2 := rm_Mo_thrown) (As := []) (rest := []) ok (rf_mono m443 (rf_mono m437 hk434)) lay_20 rfl (c_Mo_thrown X.1.2.1 (rf_self (rf_mono m443 (rf_mono m437 hk434))) hc449) cm_Mo_thrown cv_Mo_thrown tw_827 ⟨rfl, rfl⟩ ⟨le_t rfl, le_t rfl⟩ ⟨rfl, le_t rfl⟩ ⟨(by show _ ≤ 601024; omega), (by show _ ≤ 7293034; omega)⟩ d_La_law_984 rfl (fun m447 => ?_)
  show G X s445 (ce0 + 1) (sl0 + 6) 987 [(6, vI x446), (5, vI x440), (0, vW (Value.ref b)), (1, vR a1), (2, vR a2), (3, vR a3), (4, vI a4)] [vI x448]
  refine g_iload (i := 5) 1 ok d_La_law_987 rfl ?_
  refine g_icmp_eq (tgt := 994) ok d_La_law_989 (by decide) (fun c450 => ?_) (fun c450 => ?_)
  · replace h := (if_pos c450).symm.trans h
    refine g_iload (i := 5) 1 ok d_La_law_994 rfl ?_
    refine g_if_ne (tgt := 1011) ok d_La_law_996 (by decide) (fun c451 => ?_) (fun c451 => ?_)
    · replace h := (if_pos c451).symm.trans h
      refine g_aload_n (i := 3) 5 ok d_La_law_999 rfl rfl ?_
      refine g_iconst (v := (0 : Int32)) ok d_La_law_1000 (by decide) ?_
      obtain ⟨k452, hk453, h⟩ := bnd_go h
      refine g_lald ok hk453 d_La_law_1001 ?_
      refine g_iload (i := 6) 0 ok d_La_law_1002 rfl ?_
      refine g_i2l ok d_La_law_1004 ?_
      refine g_lcmp ok d_La_law_1005 ?_
      refine g_if_eq (tgt := 1011) ok d_La_law_1006 (by decide) (fun c454 => ?_) (fun c454 => ?_)
      · replace h := (if_pos c454).symm.trans h
        refine g_goto (tgt := 1574) ok d_La_law_1011 (by decide) ?_
        obtain ⟨x455, e456⟩ : ∃ z, a4 + (6 : Int32) = z := ⟨_, rfl⟩
        replace h := lt_go h e456
        refine g_iinc (i := 4) (v := x455) 6 [(4, vI x455), (6, vI x446), (5, vI x440), (0, vW (Value.ref b)), (1, vR a1), (2, vR a2), (3, vR a3)] ok d_La_law_1574 rfl (by rw [← e456]; rfl) (by decide) rfl ?_
        refine g_goto (tgt := 23) ok d_La_law_1577 (by decide) ?_
        refine g_sub [3, 4, 5, 6, 0] rfl ?_
        refine g_widen (ce' := (ce0 + 100)) (sl' := (sl0 + 1200)) (by omega) (by omega) ?_
        exact hrec x455 s445 h
      · replace h := (if_neg c454).symm.trans h
        refine g_iconst (v := (0 : Int32)) ok d_La_law_1009 (by decide) ?_
        exact absurd (Option.some.inj h) (by decide)
    · replace h := (if_neg c451).symm.trans h
      refine g_goto (tgt := 1574) ok d_La_law_1011 (by decide) ?_
      obtain ⟨x457, e458⟩ : ∃ z, a4 + (6 : Int32) = z := ⟨_, rfl⟩
      replace h := lt_go h e458
      refine g_iinc (i := 4) (v := x457) 6 [(4, vI x457), (6, vI x446), (5, vI x440), (0, vW (Value.ref b)), (1, vR a1), (2, vR a2), (3, vR a3)] ok d_La_law_1574 rfl (by rw [← e458]; rfl) (by decide) rfl ?_
      refine g_goto (tgt := 23) ok d_La_law_1577 (by decide) ?_
      refine g_sub [3, 4, 5, 6, 0] rfl ?_
      refine g_widen (ce' := (ce0 + 100)) (sl' := (sl0 + 1200)) (by omega) (by omega) ?_
      exact hrec x457 s445 h
  · replace h := (if_neg c450).symm.trans h
    refine g_iconst (v := (0 : Int32)) ok d_La_law_992 (by decide) ?_
    exact absurd (Option.some.inj h) (by decide)
set_option maxRecDepth 100000 in
set_option maxHeartbeats 4000000 in
theorem w_j_La_law_1014 {X : CX} {b L : Nat} {xs : Nat → Int32} {a1 a2 a3 : Option Nat} {a4 : Int32} {s : MS} {rec : Int32 → MS → Option Int32} {ce0 sl0 : Nat} (ok : Ok X code RL rm_La_law 7 true) (ht : Sc X b L xs) (hc1 : ce0 + 100 ≤ 601024) (hc2 : sl0 + 1200 ≤ 7293034) (hrec : ∀ (v4 : Int32) (z : MS), rec v4 z = some 1 → G X z (ce0 + 100) (sl0 + 1200) 23 [(0, vW (Value.ref b)), (1, vR a1), (2, vR a2), (3, vR a3), (4, vI v4)] []) (h : j_La_law_1014 L xs a1 a2 a3 a4 s rec = some 1) : G X s ce0 sl0 1014 [(0, vW (Value.ref b)), (1, vR a1), (2, vR a2), (3, vR a3), (4, vI a4)] [] := by
  unfold j_La_law_1014 at h
  refine g_aload_n (i := 1) 1 ok d_La_law_1014 rfl rfl ?_
  refine g_aloadw_n (i := 0) 0 ok d_La_law_1015 rfl rfl ?_
  refine g_iload (i := 4) 4 ok d_La_law_1016 rfl ?_
  refine g_iconst (v := (1 : Int32)) ok d_La_law_1018 (by decide) ?_
  refine g_iadd ok d_La_law_1019 ?_
  obtain ⟨x459, hx460, h⟩ := bnd_go h
  refine g_sld ok ht hx460 d_La_law_1020 ?_
  refine g_aloadw_n (i := 0) 0 ok d_La_law_1021 rfl rfl ?_
  refine g_iload (i := 4) 4 ok d_La_law_1022 rfl ?_
  refine g_iconst (v := (2 : Int32)) ok d_La_law_1024 (by decide) ?_
  refine g_iadd ok d_La_law_1025 ?_
  obtain ⟨x461, hx462, h⟩ := bnd_go h
  refine g_sld ok ht hx462 d_La_law_1026 ?_
  refine g_aload_n (i := 3) 3 ok d_La_law_1027 rfl rfl ?_
  obtain ⟨k463, hk464, h⟩ := bnd_go h
  obtain ⟨k465, hk466, h⟩ := bnd_go h
  obtain ⟨n467, hn468, h⟩ := bnd_go h
  obtain ⟨x472, s471, hc470, h⟩ := bnd2_go h
  refine g_callW (rm2 := rm_La_hold) (As := [vR a1, vI x459, vI x461, vR a3]) (rest := []) ok ht.2.2.2.1 (c_La_hold ht.2.2.2.2.1 hc470) cm_La_hold cs_La_hold tw_645 ⟨rfl, rfl⟩ ⟨le_t rfl, le_t rfl⟩ ⟨rfl, le_t rfl⟩ ⟨(by show _ ≤ 601024; omega), (by show _ ≤ 7293034; omega)⟩ ⟨trivial, ⟨(rk_of hk464), ⟨(rk_of hk466), ⟨(rk_rl hn468), ⟨trivial, trivial⟩⟩⟩⟩⟩ trivial d_La_law_1028 rfl (fun m469 => ?_)
  show G X s471 (ce0 + 1) (sl0 + 6) 1031 [(0, vW (Value.ref b)), (1, vR a1), (2, vR a2), (3, vR a3), (4, vI a4)] [vI x472]
  refine g_istore (i := 5) [(5, vI x472), (0, vW (Value.ref b)), (1, vR a1), (2, vR a2), (3, vR a3), (4, vI a4)] ok d_La_law_1031 (by decide) rfl ?_
  refine g_aload_n (i := 2) 3 ok d_La_law_1033 rfl rfl ?_
  refine g_aloadw_n (i := 0) 1 ok d_La_law_1034 rfl rfl ?_
  refine g_iload (i := 4) 5 ok d_La_law_1035 rfl ?_
  refine g_iconst (v := (1 : Int32)) ok d_La_law_1037 (by decide) ?_
  refine g_iadd ok d_La_law_1038 ?_
  obtain ⟨x473, hx474, h⟩ := bnd_go h
  refine g_sld ok ht hx474 d_La_law_1039 ?_
  refine g_aloadw_n (i := 0) 1 ok d_La_law_1040 rfl rfl ?_
  refine g_iload (i := 4) 5 ok d_La_law_1041 rfl ?_
  refine g_iconst (v := (2 : Int32)) ok d_La_law_1043 (by decide) ?_
  refine g_iadd ok d_La_law_1044 ?_
  obtain ⟨x475, hx476, h⟩ := bnd_go h
  refine g_sld ok ht hx476 d_La_law_1045 ?_
  obtain ⟨x480, s479, hc478, h⟩ := bnd2_go h
  refine g_invV (rm2 := rm_Mo_hold) (As := [vI x473, vI x475]) (rest := []) ok (rf_mono m469 hk466) lay_20 rfl (c_Mo_hold X.1.2.1 (rf_self (rf_mono m469 hk466)) hc478) cm_Mo_hold cv_Mo_hold tw_986 ⟨rfl, rfl⟩ ⟨le_t rfl, le_t rfl⟩ ⟨rfl, le_t rfl⟩ ⟨(by show _ ≤ 601024; omega), (by show _ ≤ 7293034; omega)⟩ d_La_law_1046 rfl (fun m477 => ?_)
  show G X s479 (ce0 + 1) (sl0 + 6) 1049 [(5, vI x472), (0, vW (Value.ref b)), (1, vR a1), (2, vR a2), (3, vR a3), (4, vI a4)] [vI x480]
  refine g_istore (i := 6) [(6, vI x480), (5, vI x472), (0, vW (Value.ref b)), (1, vR a1), (2, vR a2), (3, vR a3), (4, vI a4)] ok d_La_law_1049 (by decide) rfl ?_
  refine g_aload_n (i := 2) 4 ok d_La_law_1051 rfl rfl ?_
  obtain ⟨x482, hc483, h⟩ := bnd_go h
  refine g_invV (rm2 := rm_Mo_thrown) (As := []) (rest := []) ok (rf_mono m477 (rf_mono m469 hk466)) lay_20 rfl (c_Mo_thrown X.1.2.1 (rf_self (rf_mono m477 (rf_mono m469 hk466))) hc483) cm_Mo_thrown cv_Mo_thrown tw_827 ⟨rfl, rfl⟩ ⟨le_t rfl, le_t rfl⟩ ⟨rfl, le_t rfl⟩ ⟨(by show _ ≤ 601024; omega), (by show _ ≤ 7293034; omega)⟩ d_La_law_1052 rfl (fun m481 => ?_)
  show G X s479 (ce0 + 1) (sl0 + 6) 1055 [(6, vI x480), (5, vI x472), (0, vW (Value.ref b)), (1, vR a1), (2, vR a2), (3, vR a3), (4, vI a4)] [vI x482]
  refine g_iload (i := 5) 1 ok d_La_law_1055 rfl ?_
  refine g_icmp_eq (tgt := 1062) ok d_La_law_1057 (by decide) (fun c484 => ?_) (fun c484 => ?_)
  · replace h := (if_pos c484).symm.trans h
    refine g_iload (i := 5) 1 ok d_La_law_1062 rfl ?_
    refine g_if_ne (tgt := 1079) ok d_La_law_1064 (by decide) (fun c485 => ?_) (fun c485 => ?_)
    · replace h := (if_pos c485).symm.trans h
      refine g_aload_n (i := 3) 5 ok d_La_law_1067 rfl rfl ?_
      refine g_iconst (v := (0 : Int32)) ok d_La_law_1068 (by decide) ?_
      obtain ⟨k486, hk487, h⟩ := bnd_go h
      refine g_lald ok hk487 d_La_law_1069 ?_
      refine g_iload (i := 6) 0 ok d_La_law_1070 rfl ?_
      refine g_i2l ok d_La_law_1072 ?_
      refine g_lcmp ok d_La_law_1073 ?_
      refine g_if_eq (tgt := 1079) ok d_La_law_1074 (by decide) (fun c488 => ?_) (fun c488 => ?_)
      · replace h := (if_pos c488).symm.trans h
        refine g_goto (tgt := 1574) ok d_La_law_1079 (by decide) ?_
        obtain ⟨x489, e490⟩ : ∃ z, a4 + (6 : Int32) = z := ⟨_, rfl⟩
        replace h := lt_go h e490
        refine g_iinc (i := 4) (v := x489) 6 [(4, vI x489), (6, vI x480), (5, vI x472), (0, vW (Value.ref b)), (1, vR a1), (2, vR a2), (3, vR a3)] ok d_La_law_1574 rfl (by rw [← e490]; rfl) (by decide) rfl ?_
        refine g_goto (tgt := 23) ok d_La_law_1577 (by decide) ?_
        refine g_sub [3, 4, 5, 6, 0] rfl ?_
        refine g_widen (ce' := (ce0 + 100)) (sl' := (sl0 + 1200)) (by omega) (by omega) ?_
        exact hrec x489 s479 h
      · replace h := (if_neg c488).symm.trans h
        refine g_iconst (v := (0 : Int32)) ok d_La_law_1077 (by decide) ?_
        exact absurd (Option.some.inj h) (by decide)
    · replace h := (if_neg c485).symm.trans h
      refine g_goto (tgt := 1574) ok d_La_law_1079 (by decide) ?_
      obtain ⟨x491, e492⟩ : ∃ z, a4 + (6 : Int32) = z := ⟨_, rfl⟩
      replace h := lt_go h e492
      refine g_iinc (i := 4) (v := x491) 6 [(4, vI x491), (6, vI x480), (5, vI x472), (0, vW (Value.ref b)), (1, vR a1), (2, vR a2), (3, vR a3)] ok d_La_law_1574 rfl (by rw [← e492]; rfl) (by decide) rfl ?_
      refine g_goto (tgt := 23) ok d_La_law_1577 (by decide) ?_
      refine g_sub [3, 4, 5, 6, 0] rfl ?_
      refine g_widen (ce' := (ce0 + 100)) (sl' := (sl0 + 1200)) (by omega) (by omega) ?_
      exact hrec x491 s479 h
  · replace h := (if_neg c484).symm.trans h
    refine g_iconst (v := (0 : Int32)) ok d_La_law_1060 (by decide) ?_
    exact absurd (Option.some.inj h) (by decide)
set_option maxRecDepth 100000 in
set_option maxHeartbeats 4000000 in
theorem w_j_La_law_1082 {X : CX} {b L : Nat} {xs : Nat → Int32} {a1 a2 a3 : Option Nat} {a4 : Int32} {s : MS} {rec : Int32 → MS → Option Int32} {ce0 sl0 : Nat} (ok : Ok X code RL rm_La_law 7 true) (ht : Sc X b L xs) (hc1 : ce0 + 100 ≤ 601024) (hc2 : sl0 + 1200 ≤ 7293034) (hrec : ∀ (v4 : Int32) (z : MS), rec v4 z = some 1 → G X z (ce0 + 100) (sl0 + 1200) 23 [(0, vW (Value.ref b)), (1, vR a1), (2, vR a2), (3, vR a3), (4, vI v4)] []) (h : j_La_law_1082 L xs a1 a2 a3 a4 s rec = some 1) : G X s ce0 sl0 1082 [(0, vW (Value.ref b)), (1, vR a1), (2, vR a2), (3, vR a3), (4, vI a4)] [] := by
  unfold j_La_law_1082 at h
  refine g_aload_n (i := 1) 1 ok d_La_law_1082 rfl rfl ?_
  obtain ⟨k493, hk494, h⟩ := bnd_go h
  obtain ⟨x496, hc497, h⟩ := bnd_go h
  refine g_invV (rm2 := rm_Sk_time) (As := []) (rest := []) ok hk494 lay_0 rfl (c_Sk_time X.1.2.1 (rf_self hk494) hc497) cm_Sk_time cv_Sk_time tw_134 ⟨rfl, rfl⟩ ⟨le_t rfl, le_t rfl⟩ ⟨rfl, le_t rfl⟩ ⟨(by show _ ≤ 601024; omega), (by show _ ≤ 7293034; omega)⟩ d_La_law_1083 rfl (fun m495 => ?_)
  show G X s ce0 sl0 1086 [(0, vW (Value.ref b)), (1, vR a1), (2, vR a2), (3, vR a3), (4, vI a4)] [vI x496]
  refine g_aload_n (i := 2) 2 ok d_La_law_1086 rfl rfl ?_
  obtain ⟨k498, hk499, h⟩ := bnd_go h
  obtain ⟨x503, s502, hc501, h⟩ := bnd2_go h
  refine g_invV (rm2 := rm_Mo_time) (As := []) (rest := [vI x496]) ok hk499 lay_20 rfl (c_Mo_time X.1.2.1 (rf_self hk499) hc501) cm_Mo_time cv_Mo_time tw_994 ⟨rfl, rfl⟩ ⟨le_t rfl, le_t rfl⟩ ⟨rfl, le_t rfl⟩ ⟨(by show _ ≤ 601024; omega), (by show _ ≤ 7293034; omega)⟩ d_La_law_1087 rfl (fun m500 => ?_)
  show G X s502 ce0 sl0 1090 [(0, vW (Value.ref b)), (1, vR a1), (2, vR a2), (3, vR a3), (4, vI a4)] [vI x503, vI x496]
  refine g_icmp_eq (tgt := 1574) ok d_La_law_1090 (by decide) (fun c504 => ?_) (fun c504 => ?_)
  · replace h := (if_pos c504).symm.trans h
    obtain ⟨x505, e506⟩ : ∃ z, a4 + (6 : Int32) = z := ⟨_, rfl⟩
    replace h := lt_go h e506
    refine g_iinc (i := 4) (v := x505) 4 [(4, vI x505), (0, vW (Value.ref b)), (1, vR a1), (2, vR a2), (3, vR a3)] ok d_La_law_1574 rfl (by rw [← e506]; rfl) (by decide) rfl ?_
    refine g_goto (tgt := 23) ok d_La_law_1577 (by decide) ?_
    refine g_sub [1, 2, 3, 4, 0] rfl ?_
    refine g_widen (ce' := (ce0 + 100)) (sl' := (sl0 + 1200)) (by omega) (by omega) ?_
    exact hrec x505 s502 h
  · replace h := (if_neg c504).symm.trans h
    refine g_iconst (v := (0 : Int32)) ok d_La_law_1093 (by decide) ?_
    exact absurd (Option.some.inj h) (by decide)
set_option maxRecDepth 100000 in
set_option maxHeartbeats 4000000 in
theorem w_j_La_law_1095 {X : CX} {b L : Nat} {xs : Nat → Int32} {a1 a2 a3 : Option Nat} {a4 : Int32} {s : MS} {rec : Int32 → MS → Option Int32} {ce0 sl0 : Nat} (ok : Ok X code RL rm_La_law 7 true) (ht : Sc X b L xs) (hc1 : ce0 + 100 ≤ 601024) (hc2 : sl0 + 1200 ≤ 7293034) (hrec : ∀ (v4 : Int32) (z : MS), rec v4 z = some 1 → G X z (ce0 + 100) (sl0 + 1200) 23 [(0, vW (Value.ref b)), (1, vR a1), (2, vR a2), (3, vR a3), (4, vI v4)] []) (h : j_La_law_1095 L xs a1 a2 a3 a4 s rec = some 1) : G X s ce0 sl0 1095 [(0, vW (Value.ref b)), (1, vR a1), (2, vR a2), (3, vR a3), (4, vI a4)] [] := by
  unfold j_La_law_1095 at h
  refine g_aload_n (i := 1) 1 ok d_La_law_1095 rfl rfl ?_
  obtain ⟨k507, hk508, h⟩ := bnd_go h
  obtain ⟨x510, hc511, h⟩ := bnd_go h
  refine g_invV (rm2 := rm_Sk_alerts) (As := []) (rest := []) ok hk508 lay_0 rfl (c_Sk_alerts X.1.2.1 (rf_self hk508) hc511) cm_Sk_alerts cv_Sk_alerts tw_138 ⟨rfl, rfl⟩ ⟨le_t rfl, le_t rfl⟩ ⟨rfl, le_t rfl⟩ ⟨(by show _ ≤ 601024; omega), (by show _ ≤ 7293034; omega)⟩ d_La_law_1096 rfl (fun m509 => ?_)
  show G X s ce0 sl0 1099 [(0, vW (Value.ref b)), (1, vR a1), (2, vR a2), (3, vR a3), (4, vI a4)] [vI x510]
  refine g_aload_n (i := 2) 2 ok d_La_law_1099 rfl rfl ?_
  obtain ⟨k512, hk513, h⟩ := bnd_go h
  obtain ⟨n514, hn515, h⟩ := bnd_go h
  obtain ⟨x519, s518, hc517, h⟩ := bnd2_go h
  refine g_invVA (rm2 := rm_Mo_alerts) (As := []) (rest := [vI x510]) ok hk513 lay_20 rfl (c_Mo_alerts X.1.2.1 (rf_self hk513) hc517) cm_Mo_alerts cv_Mo_alerts tw_998 ⟨rfl, rfl⟩ ⟨le_t rfl, le_t rfl⟩ ⟨rfl, le_t rfl⟩ ⟨(by show _ ≤ 601024; omega), (by show _ ≤ 7293034; omega)⟩ ⟨trivial, ⟨(rk_of hk508), ⟨(rk_of hk513), ⟨(rk_rl hn515), ⟨trivial, trivial⟩⟩⟩⟩⟩ ⟨trivial, trivial⟩ d_La_law_1100 rfl (fun m516 => ?_)
  show G X s518 (ce0 + 100) (sl0 + 1200) 1103 [(0, vW (Value.ref b)), (1, vR a1), (2, vR a2), (3, vR a3), (4, vI a4)] [vI x519, vI x510]
  refine g_icmp_eq (tgt := 1574) ok d_La_law_1103 (by decide) (fun c520 => ?_) (fun c520 => ?_)
  · replace h := (if_pos c520).symm.trans h
    obtain ⟨x521, e522⟩ : ∃ z, a4 + (6 : Int32) = z := ⟨_, rfl⟩
    replace h := lt_go h e522
    refine g_iinc (i := 4) (v := x521) 4 [(4, vI x521), (0, vW (Value.ref b)), (1, vR a1), (2, vR a2), (3, vR a3)] ok d_La_law_1574 rfl (by rw [← e522]; rfl) (by decide) rfl ?_
    refine g_goto (tgt := 23) ok d_La_law_1577 (by decide) ?_
    refine g_sub [1, 2, 3, 4, 0] rfl ?_
    refine g_widen (ce' := (ce0 + 100)) (sl' := (sl0 + 1200)) (by omega) (by omega) ?_
    exact hrec x521 s518 h
  · replace h := (if_neg c520).symm.trans h
    refine g_iconst (v := (0 : Int32)) ok d_La_law_1106 (by decide) ?_
    exact absurd (Option.some.inj h) (by decide)
set_option maxRecDepth 100000 in
set_option maxHeartbeats 4000000 in
theorem w_j_La_law_1108 {X : CX} {b L : Nat} {xs : Nat → Int32} {a1 a2 a3 : Option Nat} {a4 : Int32} {s : MS} {rec : Int32 → MS → Option Int32} {ce0 sl0 : Nat} (ok : Ok X code RL rm_La_law 7 true) (ht : Sc X b L xs) (hc1 : ce0 + 100 ≤ 601024) (hc2 : sl0 + 1200 ≤ 7293034) (hrec : ∀ (v4 : Int32) (z : MS), rec v4 z = some 1 → G X z (ce0 + 100) (sl0 + 1200) 23 [(0, vW (Value.ref b)), (1, vR a1), (2, vR a2), (3, vR a3), (4, vI v4)] []) (h : j_La_law_1108 L xs a1 a2 a3 a4 s rec = some 1) : G X s ce0 sl0 1108 [(0, vW (Value.ref b)), (1, vR a1), (2, vR a2), (3, vR a3), (4, vI a4)] [] := by
  unfold j_La_law_1108 at h
  refine g_aload_n (i := 1) 1 ok d_La_law_1108 rfl rfl ?_
  refine g_aloadw_n (i := 0) 0 ok d_La_law_1109 rfl rfl ?_
  refine g_iload (i := 4) 4 ok d_La_law_1110 rfl ?_
  refine g_iconst (v := (1 : Int32)) ok d_La_law_1112 (by decide) ?_
  refine g_iadd ok d_La_law_1113 ?_
  obtain ⟨x523, hx524, h⟩ := bnd_go h
  refine g_sld ok ht hx524 d_La_law_1114 ?_
  refine g_aload_n (i := 3) 3 ok d_La_law_1115 rfl rfl ?_
  obtain ⟨k525, hk526, h⟩ := bnd_go h
  obtain ⟨k527, hk528, h⟩ := bnd_go h
  obtain ⟨n529, hn530, h⟩ := bnd_go h
  obtain ⟨x534, s533, hc532, h⟩ := bnd2_go h
  refine g_callW (rm2 := rm_La_home) (As := [vR a1, vI x523, vR a3]) (rest := []) ok ht.2.2.2.1 (c_La_home ht.2.2.2.2.1 hc532) cm_La_home cs_La_home tw_667 ⟨rfl, rfl⟩ ⟨le_t rfl, le_t rfl⟩ ⟨rfl, le_t rfl⟩ ⟨(by show _ ≤ 601024; omega), (by show _ ≤ 7293034; omega)⟩ ⟨trivial, ⟨(rk_of hk526), ⟨(rk_of hk528), ⟨(rk_rl hn530), ⟨trivial, trivial⟩⟩⟩⟩⟩ trivial d_La_law_1116 rfl (fun m531 => ?_)
  show G X s533 (ce0 + 1) (sl0 + 6) 1119 [(0, vW (Value.ref b)), (1, vR a1), (2, vR a2), (3, vR a3), (4, vI a4)] [vI x534]
  refine g_istore (i := 5) [(5, vI x534), (0, vW (Value.ref b)), (1, vR a1), (2, vR a2), (3, vR a3), (4, vI a4)] ok d_La_law_1119 (by decide) rfl ?_
  refine g_aload_n (i := 2) 3 ok d_La_law_1121 rfl rfl ?_
  refine g_aloadw_n (i := 0) 1 ok d_La_law_1122 rfl rfl ?_
  refine g_iload (i := 4) 5 ok d_La_law_1123 rfl ?_
  refine g_iconst (v := (1 : Int32)) ok d_La_law_1125 (by decide) ?_
  refine g_iadd ok d_La_law_1126 ?_
  obtain ⟨x535, hx536, h⟩ := bnd_go h
  refine g_sld ok ht hx536 d_La_law_1127 ?_
  obtain ⟨x540, s539, hc538, h⟩ := bnd2_go h
  refine g_invV (rm2 := rm_Mo_home) (As := [vI x535]) (rest := []) ok (rf_mono m531 hk528) lay_20 rfl (c_Mo_home X.1.2.1 (rf_self (rf_mono m531 hk528)) hc538) cm_Mo_home cv_Mo_home tw_1010 ⟨rfl, rfl⟩ ⟨le_t rfl, le_t rfl⟩ ⟨rfl, le_t rfl⟩ ⟨(by show _ ≤ 601024; omega), (by show _ ≤ 7293034; omega)⟩ d_La_law_1128 rfl (fun m537 => ?_)
  show G X s539 (ce0 + 1) (sl0 + 6) 1131 [(5, vI x534), (0, vW (Value.ref b)), (1, vR a1), (2, vR a2), (3, vR a3), (4, vI a4)] [vI x540]
  refine g_istore (i := 6) [(6, vI x540), (5, vI x534), (0, vW (Value.ref b)), (1, vR a1), (2, vR a2), (3, vR a3), (4, vI a4)] ok d_La_law_1131 (by decide) rfl ?_
  refine g_aload_n (i := 2) 4 ok d_La_law_1133 rfl rfl ?_
  obtain ⟨x542, hc543, h⟩ := bnd_go h
  refine g_invV (rm2 := rm_Mo_thrown) (As := []) (rest := []) ok (rf_mono m537 (rf_mono m531 hk528)) lay_20 rfl (c_Mo_thrown X.1.2.1 (rf_self (rf_mono m537 (rf_mono m531 hk528))) hc543) cm_Mo_thrown cv_Mo_thrown tw_827 ⟨rfl, rfl⟩ ⟨le_t rfl, le_t rfl⟩ ⟨rfl, le_t rfl⟩ ⟨(by show _ ≤ 601024; omega), (by show _ ≤ 7293034; omega)⟩ d_La_law_1134 rfl (fun m541 => ?_)
  show G X s539 (ce0 + 1) (sl0 + 6) 1137 [(6, vI x540), (5, vI x534), (0, vW (Value.ref b)), (1, vR a1), (2, vR a2), (3, vR a3), (4, vI a4)] [vI x542]
  refine g_iload (i := 5) 1 ok d_La_law_1137 rfl ?_
  refine g_icmp_eq (tgt := 1144) ok d_La_law_1139 (by decide) (fun c544 => ?_) (fun c544 => ?_)
  · replace h := (if_pos c544).symm.trans h
    refine g_iload (i := 5) 1 ok d_La_law_1144 rfl ?_
    refine g_if_ne (tgt := 1161) ok d_La_law_1146 (by decide) (fun c545 => ?_) (fun c545 => ?_)
    · replace h := (if_pos c545).symm.trans h
      refine g_aload_n (i := 3) 5 ok d_La_law_1149 rfl rfl ?_
      refine g_iconst (v := (0 : Int32)) ok d_La_law_1150 (by decide) ?_
      obtain ⟨k546, hk547, h⟩ := bnd_go h
      refine g_lald ok hk547 d_La_law_1151 ?_
      refine g_iload (i := 6) 0 ok d_La_law_1152 rfl ?_
      refine g_i2l ok d_La_law_1154 ?_
      refine g_lcmp ok d_La_law_1155 ?_
      refine g_if_eq (tgt := 1161) ok d_La_law_1156 (by decide) (fun c548 => ?_) (fun c548 => ?_)
      · replace h := (if_pos c548).symm.trans h
        refine g_goto (tgt := 1574) ok d_La_law_1161 (by decide) ?_
        obtain ⟨x549, e550⟩ : ∃ z, a4 + (6 : Int32) = z := ⟨_, rfl⟩
        replace h := lt_go h e550
        refine g_iinc (i := 4) (v := x549) 6 [(4, vI x549), (6, vI x540), (5, vI x534), (0, vW (Value.ref b)), (1, vR a1), (2, vR a2), (3, vR a3)] ok d_La_law_1574 rfl (by rw [← e550]; rfl) (by decide) rfl ?_
        refine g_goto (tgt := 23) ok d_La_law_1577 (by decide) ?_
        refine g_sub [3, 4, 5, 6, 0] rfl ?_
        refine g_widen (ce' := (ce0 + 100)) (sl' := (sl0 + 1200)) (by omega) (by omega) ?_
        exact hrec x549 s539 h
      · replace h := (if_neg c548).symm.trans h
        refine g_iconst (v := (0 : Int32)) ok d_La_law_1159 (by decide) ?_
        exact absurd (Option.some.inj h) (by decide)
    · replace h := (if_neg c545).symm.trans h
      refine g_goto (tgt := 1574) ok d_La_law_1161 (by decide) ?_
      obtain ⟨x551, e552⟩ : ∃ z, a4 + (6 : Int32) = z := ⟨_, rfl⟩
      replace h := lt_go h e552
      refine g_iinc (i := 4) (v := x551) 6 [(4, vI x551), (6, vI x540), (5, vI x534), (0, vW (Value.ref b)), (1, vR a1), (2, vR a2), (3, vR a3)] ok d_La_law_1574 rfl (by rw [← e552]; rfl) (by decide) rfl ?_
      refine g_goto (tgt := 23) ok d_La_law_1577 (by decide) ?_
      refine g_sub [3, 4, 5, 6, 0] rfl ?_
      refine g_widen (ce' := (ce0 + 100)) (sl' := (sl0 + 1200)) (by omega) (by omega) ?_
      exact hrec x551 s539 h
  · replace h := (if_neg c544).symm.trans h
    refine g_iconst (v := (0 : Int32)) ok d_La_law_1142 (by decide) ?_
    exact absurd (Option.some.inj h) (by decide)
set_option maxRecDepth 100000 in
set_option maxHeartbeats 4000000 in
theorem w_j_La_law_1164 {X : CX} {b L : Nat} {xs : Nat → Int32} {a1 a2 a3 : Option Nat} {a4 : Int32} {s : MS} {rec : Int32 → MS → Option Int32} {ce0 sl0 : Nat} (ok : Ok X code RL rm_La_law 7 true) (ht : Sc X b L xs) (hc1 : ce0 + 100 ≤ 601024) (hc2 : sl0 + 1200 ≤ 7293034) (hrec : ∀ (v4 : Int32) (z : MS), rec v4 z = some 1 → G X z (ce0 + 100) (sl0 + 1200) 23 [(0, vW (Value.ref b)), (1, vR a1), (2, vR a2), (3, vR a3), (4, vI v4)] []) (h : j_La_law_1164 L xs a1 a2 a3 a4 s rec = some 1) : G X s ce0 sl0 1164 [(0, vW (Value.ref b)), (1, vR a1), (2, vR a2), (3, vR a3), (4, vI a4)] [] := by
  unfold j_La_law_1164 at h
  refine g_aload_n (i := 1) 1 ok d_La_law_1164 rfl rfl ?_
  refine g_aloadw_n (i := 0) 0 ok d_La_law_1165 rfl rfl ?_
  refine g_iload (i := 4) 4 ok d_La_law_1166 rfl ?_
  refine g_iconst (v := (1 : Int32)) ok d_La_law_1168 (by decide) ?_
  refine g_iadd ok d_La_law_1169 ?_
  obtain ⟨x553, hx554, h⟩ := bnd_go h
  refine g_sld ok ht hx554 d_La_law_1170 ?_
  refine g_aloadw_n (i := 0) 0 ok d_La_law_1171 rfl rfl ?_
  refine g_iload (i := 4) 4 ok d_La_law_1172 rfl ?_
  refine g_iconst (v := (2 : Int32)) ok d_La_law_1174 (by decide) ?_
  refine g_iadd ok d_La_law_1175 ?_
  obtain ⟨x555, hx556, h⟩ := bnd_go h
  refine g_sld ok ht hx556 d_La_law_1176 ?_
  refine g_aload_n (i := 3) 3 ok d_La_law_1177 rfl rfl ?_
  obtain ⟨k557, hk558, h⟩ := bnd_go h
  obtain ⟨k559, hk560, h⟩ := bnd_go h
  obtain ⟨n561, hn562, h⟩ := bnd_go h
  obtain ⟨x566, s565, hc564, h⟩ := bnd2_go h
  refine g_callW (rm2 := rm_La_placeAt) (As := [vR a1, vI x553, vI x555, vR a3]) (rest := []) ok ht.2.2.2.1 (c_La_placeAt ht.2.2.2.2.1 hc564) cm_La_placeAt cs_La_placeAt tw_674 ⟨rfl, rfl⟩ ⟨le_t rfl, le_t rfl⟩ ⟨rfl, le_t rfl⟩ ⟨(by show _ ≤ 601024; omega), (by show _ ≤ 7293034; omega)⟩ ⟨trivial, ⟨(rk_of hk558), ⟨(rk_of hk560), ⟨(rk_rl hn562), ⟨trivial, trivial⟩⟩⟩⟩⟩ trivial d_La_law_1178 rfl (fun m563 => ?_)
  show G X s565 (ce0 + 1) (sl0 + 6) 1181 [(0, vW (Value.ref b)), (1, vR a1), (2, vR a2), (3, vR a3), (4, vI a4)] [vI x566]
  refine g_istore (i := 5) [(5, vI x566), (0, vW (Value.ref b)), (1, vR a1), (2, vR a2), (3, vR a3), (4, vI a4)] ok d_La_law_1181 (by decide) rfl ?_
  refine g_aload_n (i := 2) 3 ok d_La_law_1183 rfl rfl ?_
  refine g_aloadw_n (i := 0) 1 ok d_La_law_1184 rfl rfl ?_
  refine g_iload (i := 4) 5 ok d_La_law_1185 rfl ?_
  refine g_iconst (v := (1 : Int32)) ok d_La_law_1187 (by decide) ?_
  refine g_iadd ok d_La_law_1188 ?_
  obtain ⟨x567, hx568, h⟩ := bnd_go h
  refine g_sld ok ht hx568 d_La_law_1189 ?_
  refine g_aloadw_n (i := 0) 1 ok d_La_law_1190 rfl rfl ?_
  refine g_iload (i := 4) 5 ok d_La_law_1191 rfl ?_
  refine g_iconst (v := (2 : Int32)) ok d_La_law_1193 (by decide) ?_
  refine g_iadd ok d_La_law_1194 ?_
  obtain ⟨x569, hx570, h⟩ := bnd_go h
  refine g_sld ok ht hx570 d_La_law_1195 ?_
  obtain ⟨x574, s573, hc572, h⟩ := bnd2_go h
  refine g_invV (rm2 := rm_Mo_placeAt) (As := [vI x567, vI x569]) (rest := []) ok (rf_mono m563 hk560) lay_20 rfl (c_Mo_placeAt X.1.2.1 (rf_self (rf_mono m563 hk560)) hc572) cm_Mo_placeAt cv_Mo_placeAt tw_1014 ⟨rfl, rfl⟩ ⟨le_t rfl, le_t rfl⟩ ⟨rfl, le_t rfl⟩ ⟨(by show _ ≤ 601024; omega), (by show _ ≤ 7293034; omega)⟩ d_La_law_1196 rfl (fun m571 => ?_)
  show G X s573 (ce0 + 1) (sl0 + 6) 1199 [(5, vI x566), (0, vW (Value.ref b)), (1, vR a1), (2, vR a2), (3, vR a3), (4, vI a4)] [vI x574]
  refine g_istore (i := 6) [(6, vI x574), (5, vI x566), (0, vW (Value.ref b)), (1, vR a1), (2, vR a2), (3, vR a3), (4, vI a4)] ok d_La_law_1199 (by decide) rfl ?_
  refine g_aload_n (i := 2) 4 ok d_La_law_1201 rfl rfl ?_
  obtain ⟨x576, hc577, h⟩ := bnd_go h
  refine g_invV (rm2 := rm_Mo_thrown) (As := []) (rest := []) ok (rf_mono m571 (rf_mono m563 hk560)) lay_20 rfl (c_Mo_thrown X.1.2.1 (rf_self (rf_mono m571 (rf_mono m563 hk560))) hc577) cm_Mo_thrown cv_Mo_thrown tw_827 ⟨rfl, rfl⟩ ⟨le_t rfl, le_t rfl⟩ ⟨rfl, le_t rfl⟩ ⟨(by show _ ≤ 601024; omega), (by show _ ≤ 7293034; omega)⟩ d_La_law_1202 rfl (fun m575 => ?_)
  show G X s573 (ce0 + 1) (sl0 + 6) 1205 [(6, vI x574), (5, vI x566), (0, vW (Value.ref b)), (1, vR a1), (2, vR a2), (3, vR a3), (4, vI a4)] [vI x576]
  refine g_iload (i := 5) 1 ok d_La_law_1205 rfl ?_
  refine g_icmp_eq (tgt := 1212) ok d_La_law_1207 (by decide) (fun c578 => ?_) (fun c578 => ?_)
  · replace h := (if_pos c578).symm.trans h
    refine g_iload (i := 5) 1 ok d_La_law_1212 rfl ?_
    refine g_if_ne (tgt := 1229) ok d_La_law_1214 (by decide) (fun c579 => ?_) (fun c579 => ?_)
    · replace h := (if_pos c579).symm.trans h
      refine g_aload_n (i := 3) 5 ok d_La_law_1217 rfl rfl ?_
      refine g_iconst (v := (0 : Int32)) ok d_La_law_1218 (by decide) ?_
      obtain ⟨k580, hk581, h⟩ := bnd_go h
      refine g_lald ok hk581 d_La_law_1219 ?_
      refine g_iload (i := 6) 0 ok d_La_law_1220 rfl ?_
      refine g_i2l ok d_La_law_1222 ?_
      refine g_lcmp ok d_La_law_1223 ?_
      refine g_if_eq (tgt := 1229) ok d_La_law_1224 (by decide) (fun c582 => ?_) (fun c582 => ?_)
      · replace h := (if_pos c582).symm.trans h
        refine g_goto (tgt := 1574) ok d_La_law_1229 (by decide) ?_
        obtain ⟨x583, e584⟩ : ∃ z, a4 + (6 : Int32) = z := ⟨_, rfl⟩
        replace h := lt_go h e584
        refine g_iinc (i := 4) (v := x583) 6 [(4, vI x583), (6, vI x574), (5, vI x566), (0, vW (Value.ref b)), (1, vR a1), (2, vR a2), (3, vR a3)] ok d_La_law_1574 rfl (by rw [← e584]; rfl) (by decide) rfl ?_
        refine g_goto (tgt := 23) ok d_La_law_1577 (by decide) ?_
        refine g_sub [3, 4, 5, 6, 0] rfl ?_
        refine g_widen (ce' := (ce0 + 100)) (sl' := (sl0 + 1200)) (by omega) (by omega) ?_
        exact hrec x583 s573 h
      · replace h := (if_neg c582).symm.trans h
        refine g_iconst (v := (0 : Int32)) ok d_La_law_1227 (by decide) ?_
        exact absurd (Option.some.inj h) (by decide)
    · replace h := (if_neg c579).symm.trans h
      refine g_goto (tgt := 1574) ok d_La_law_1229 (by decide) ?_
      obtain ⟨x585, e586⟩ : ∃ z, a4 + (6 : Int32) = z := ⟨_, rfl⟩
      replace h := lt_go h e586
      refine g_iinc (i := 4) (v := x585) 6 [(4, vI x585), (6, vI x574), (5, vI x566), (0, vW (Value.ref b)), (1, vR a1), (2, vR a2), (3, vR a3)] ok d_La_law_1574 rfl (by rw [← e586]; rfl) (by decide) rfl ?_
      refine g_goto (tgt := 23) ok d_La_law_1577 (by decide) ?_
      refine g_sub [3, 4, 5, 6, 0] rfl ?_
      refine g_widen (ce' := (ce0 + 100)) (sl' := (sl0 + 1200)) (by omega) (by omega) ?_
      exact hrec x585 s573 h
  · replace h := (if_neg c578).symm.trans h
    refine g_iconst (v := (0 : Int32)) ok d_La_law_1210 (by decide) ?_
    exact absurd (Option.some.inj h) (by decide)
set_option maxRecDepth 100000 in
set_option maxHeartbeats 4000000 in
theorem w_j_La_law_1232 {X : CX} {b L : Nat} {xs : Nat → Int32} {a1 a2 a3 : Option Nat} {a4 : Int32} {s : MS} {rec : Int32 → MS → Option Int32} {ce0 sl0 : Nat} (ok : Ok X code RL rm_La_law 7 true) (ht : Sc X b L xs) (hc1 : ce0 + 100 ≤ 601024) (hc2 : sl0 + 1200 ≤ 7293034) (hrec : ∀ (v4 : Int32) (z : MS), rec v4 z = some 1 → G X z (ce0 + 100) (sl0 + 1200) 23 [(0, vW (Value.ref b)), (1, vR a1), (2, vR a2), (3, vR a3), (4, vI v4)] []) (h : j_La_law_1232 L xs a1 a2 a3 a4 s rec = some 1) : G X s ce0 sl0 1232 [(0, vW (Value.ref b)), (1, vR a1), (2, vR a2), (3, vR a3), (4, vI a4)] [] := by
  unfold j_La_law_1232 at h
  refine g_aload_n (i := 1) 1 ok d_La_law_1232 rfl rfl ?_
  refine g_aloadw_n (i := 0) 0 ok d_La_law_1233 rfl rfl ?_
  refine g_iload (i := 4) 4 ok d_La_law_1234 rfl ?_
  refine g_iconst (v := (1 : Int32)) ok d_La_law_1236 (by decide) ?_
  refine g_iadd ok d_La_law_1237 ?_
  obtain ⟨x587, hx588, h⟩ := bnd_go h
  refine g_sld ok ht hx588 d_La_law_1238 ?_
  refine g_aloadw_n (i := 0) 0 ok d_La_law_1239 rfl rfl ?_
  refine g_iload (i := 4) 4 ok d_La_law_1240 rfl ?_
  refine g_iconst (v := (2 : Int32)) ok d_La_law_1242 (by decide) ?_
  refine g_iadd ok d_La_law_1243 ?_
  obtain ⟨x589, hx590, h⟩ := bnd_go h
  refine g_sld ok ht hx590 d_La_law_1244 ?_
  refine g_aload_n (i := 3) 3 ok d_La_law_1245 rfl rfl ?_
  obtain ⟨k591, hk592, h⟩ := bnd_go h
  obtain ⟨k593, hk594, h⟩ := bnd_go h
  obtain ⟨n595, hn596, h⟩ := bnd_go h
  obtain ⟨x600, s599, hc598, h⟩ := bnd2_go h
  refine g_callW (rm2 := rm_La_meets) (As := [vR a1, vI x587, vI x589, vR a3]) (rest := []) ok ht.2.2.2.1 (c_La_meets ht.2.2.2.2.1 hc598) cm_La_meets cs_La_meets tw_681 ⟨rfl, rfl⟩ ⟨le_t rfl, le_t rfl⟩ ⟨rfl, le_t rfl⟩ ⟨(by show _ ≤ 601024; omega), (by show _ ≤ 7293034; omega)⟩ ⟨trivial, ⟨(rk_of hk592), ⟨(rk_of hk594), ⟨(rk_rl hn596), ⟨trivial, trivial⟩⟩⟩⟩⟩ trivial d_La_law_1246 rfl (fun m597 => ?_)
  show G X s599 (ce0 + 1) (sl0 + 6) 1249 [(0, vW (Value.ref b)), (1, vR a1), (2, vR a2), (3, vR a3), (4, vI a4)] [vI x600]
  refine g_istore (i := 5) [(5, vI x600), (0, vW (Value.ref b)), (1, vR a1), (2, vR a2), (3, vR a3), (4, vI a4)] ok d_La_law_1249 (by decide) rfl ?_
  refine g_aload_n (i := 2) 3 ok d_La_law_1251 rfl rfl ?_
  refine g_aloadw_n (i := 0) 1 ok d_La_law_1252 rfl rfl ?_
  refine g_iload (i := 4) 5 ok d_La_law_1253 rfl ?_
  refine g_iconst (v := (1 : Int32)) ok d_La_law_1255 (by decide) ?_
  refine g_iadd ok d_La_law_1256 ?_
  obtain ⟨x601, hx602, h⟩ := bnd_go h
  refine g_sld ok ht hx602 d_La_law_1257 ?_
  refine g_aloadw_n (i := 0) 1 ok d_La_law_1258 rfl rfl ?_
  refine g_iload (i := 4) 5 ok d_La_law_1259 rfl ?_
  refine g_iconst (v := (2 : Int32)) ok d_La_law_1261 (by decide) ?_
  refine g_iadd ok d_La_law_1262 ?_
  obtain ⟨x603, hx604, h⟩ := bnd_go h
  refine g_sld ok ht hx604 d_La_law_1263 ?_
  obtain ⟨x608, s607, hc606, h⟩ := bnd2_go h
  refine g_invV (rm2 := rm_Mo_meets) (As := [vI x601, vI x603]) (rest := []) ok (rf_mono m597 hk594) lay_20 rfl (c_Mo_meets X.1.2.1 (rf_self (rf_mono m597 hk594)) hc606) cm_Mo_meets cv_Mo_meets tw_1018 ⟨rfl, rfl⟩ ⟨le_t rfl, le_t rfl⟩ ⟨rfl, le_t rfl⟩ ⟨(by show _ ≤ 601024; omega), (by show _ ≤ 7293034; omega)⟩ d_La_law_1264 rfl (fun m605 => ?_)
  show G X s607 (ce0 + 1) (sl0 + 6) 1267 [(5, vI x600), (0, vW (Value.ref b)), (1, vR a1), (2, vR a2), (3, vR a3), (4, vI a4)] [vI x608]
  refine g_istore (i := 6) [(6, vI x608), (5, vI x600), (0, vW (Value.ref b)), (1, vR a1), (2, vR a2), (3, vR a3), (4, vI a4)] ok d_La_law_1267 (by decide) rfl ?_
  refine g_aload_n (i := 2) 4 ok d_La_law_1269 rfl rfl ?_
  obtain ⟨x610, hc611, h⟩ := bnd_go h
  refine g_invV (rm2 := rm_Mo_thrown) (As := []) (rest := []) ok (rf_mono m605 (rf_mono m597 hk594)) lay_20 rfl (c_Mo_thrown X.1.2.1 (rf_self (rf_mono m605 (rf_mono m597 hk594))) hc611) cm_Mo_thrown cv_Mo_thrown tw_827 ⟨rfl, rfl⟩ ⟨le_t rfl, le_t rfl⟩ ⟨rfl, le_t rfl⟩ ⟨(by show _ ≤ 601024; omega), (by show _ ≤ 7293034; omega)⟩ d_La_law_1270 rfl (fun m609 => ?_)
  show G X s607 (ce0 + 1) (sl0 + 6) 1273 [(6, vI x608), (5, vI x600), (0, vW (Value.ref b)), (1, vR a1), (2, vR a2), (3, vR a3), (4, vI a4)] [vI x610]
  refine g_iload (i := 5) 1 ok d_La_law_1273 rfl ?_
  refine g_icmp_eq (tgt := 1280) ok d_La_law_1275 (by decide) (fun c612 => ?_) (fun c612 => ?_)
  · replace h := (if_pos c612).symm.trans h
    refine g_iload (i := 5) 1 ok d_La_law_1280 rfl ?_
    refine g_if_ne (tgt := 1304) ok d_La_law_1282 (by decide) (fun c613 => ?_) (fun c613 => ?_)
    · replace h := (if_pos c613).symm.trans h
      refine g_aload_n (i := 3) 5 ok d_La_law_1285 rfl rfl ?_
      refine g_iconst (v := (0 : Int32)) ok d_La_law_1286 (by decide) ?_
      obtain ⟨k614, hk615, h⟩ := bnd_go h
      refine g_lald ok hk615 d_La_law_1287 ?_
      refine g_iload (i := 6) 0 ok d_La_law_1288 rfl ?_
      refine g_if_eq (tgt := 1297) ok d_La_law_1290 (by decide) (fun c616 => ?_) (fun c616 => ?_)
      · replace h := (if_pos c616).symm.trans h
        refine g_lconst (v := (0 : Int32)) ok d_La_law_1297 (by decide) ?_
        refine g_lcmp ok d_La_law_1298 ?_
        refine g_if_eq (tgt := 1304) ok d_La_law_1299 (by decide) (fun c617 => ?_) (fun c617 => ?_)
        · replace h := (if_pos c617).symm.trans h
          refine g_goto (tgt := 1574) ok d_La_law_1304 (by decide) ?_
          obtain ⟨x618, e619⟩ : ∃ z, a4 + (6 : Int32) = z := ⟨_, rfl⟩
          replace h := lt_go h e619
          refine g_iinc (i := 4) (v := x618) 6 [(4, vI x618), (6, vI x608), (5, vI x600), (0, vW (Value.ref b)), (1, vR a1), (2, vR a2), (3, vR a3)] ok d_La_law_1574 rfl (by rw [← e619]; rfl) (by decide) rfl ?_
          refine g_goto (tgt := 23) ok d_La_law_1577 (by decide) ?_
          refine g_sub [3, 4, 5, 6, 0] rfl ?_
          refine g_widen (ce' := (ce0 + 100)) (sl' := (sl0 + 1200)) (by omega) (by omega) ?_
          exact hrec x618 s607 h
        · replace h := (if_neg c617).symm.trans h
          refine g_iconst (v := (0 : Int32)) ok d_La_law_1302 (by decide) ?_
          exact absurd (Option.some.inj h) (by decide)
      · replace h := (if_neg c616).symm.trans h
        refine g_lconst (v := (1 : Int32)) ok d_La_law_1293 (by decide) ?_
        refine g_goto (tgt := 1298) ok d_La_law_1294 (by decide) ?_
        refine g_lcmp ok d_La_law_1298 ?_
        refine g_if_eq (tgt := 1304) ok d_La_law_1299 (by decide) (fun c620 => ?_) (fun c620 => ?_)
        · replace h := (if_pos c620).symm.trans h
          refine g_goto (tgt := 1574) ok d_La_law_1304 (by decide) ?_
          obtain ⟨x621, e622⟩ : ∃ z, a4 + (6 : Int32) = z := ⟨_, rfl⟩
          replace h := lt_go h e622
          refine g_iinc (i := 4) (v := x621) 6 [(4, vI x621), (6, vI x608), (5, vI x600), (0, vW (Value.ref b)), (1, vR a1), (2, vR a2), (3, vR a3)] ok d_La_law_1574 rfl (by rw [← e622]; rfl) (by decide) rfl ?_
          refine g_goto (tgt := 23) ok d_La_law_1577 (by decide) ?_
          refine g_sub [3, 4, 5, 6, 0] rfl ?_
          refine g_widen (ce' := (ce0 + 100)) (sl' := (sl0 + 1200)) (by omega) (by omega) ?_
          exact hrec x621 s607 h
        · replace h := (if_neg c620).symm.trans h
          refine g_iconst (v := (0 : Int32)) ok d_La_law_1302 (by decide) ?_
          exact absurd (Option.some.inj h) (by decide)
    · replace h := (if_neg c613).symm.trans h
      refine g_goto (tgt := 1574) ok d_La_law_1304 (by decide) ?_
      obtain ⟨x623, e624⟩ : ∃ z, a4 + (6 : Int32) = z := ⟨_, rfl⟩
      replace h := lt_go h e624
      refine g_iinc (i := 4) (v := x623) 6 [(4, vI x623), (6, vI x608), (5, vI x600), (0, vW (Value.ref b)), (1, vR a1), (2, vR a2), (3, vR a3)] ok d_La_law_1574 rfl (by rw [← e624]; rfl) (by decide) rfl ?_
      refine g_goto (tgt := 23) ok d_La_law_1577 (by decide) ?_
      refine g_sub [3, 4, 5, 6, 0] rfl ?_
      refine g_widen (ce' := (ce0 + 100)) (sl' := (sl0 + 1200)) (by omega) (by omega) ?_
      exact hrec x623 s607 h
  · replace h := (if_neg c612).symm.trans h
    refine g_iconst (v := (0 : Int32)) ok d_La_law_1278 (by decide) ?_
    exact absurd (Option.some.inj h) (by decide)
set_option maxRecDepth 100000 in
set_option maxHeartbeats 4000000 in
theorem w_j_La_law_1307 {X : CX} {b L : Nat} {xs : Nat → Int32} {a1 a2 a3 : Option Nat} {a4 : Int32} {s : MS} {rec : Int32 → MS → Option Int32} {ce0 sl0 : Nat} (ok : Ok X code RL rm_La_law 7 true) (ht : Sc X b L xs) (hc1 : ce0 + 100 ≤ 601024) (hc2 : sl0 + 1200 ≤ 7293034) (hrec : ∀ (v4 : Int32) (z : MS), rec v4 z = some 1 → G X z (ce0 + 100) (sl0 + 1200) 23 [(0, vW (Value.ref b)), (1, vR a1), (2, vR a2), (3, vR a3), (4, vI v4)] []) (h : j_La_law_1307 L xs a1 a2 a3 a4 s rec = some 1) : G X s ce0 sl0 1307 [(0, vW (Value.ref b)), (1, vR a1), (2, vR a2), (3, vR a3), (4, vI a4)] [] := by
  unfold j_La_law_1307 at h
  refine g_aload_n (i := 1) 1 ok d_La_law_1307 rfl rfl ?_
  refine g_aloadw_n (i := 0) 0 ok d_La_law_1308 rfl rfl ?_
  refine g_iload (i := 4) 4 ok d_La_law_1309 rfl ?_
  refine g_iconst (v := (1 : Int32)) ok d_La_law_1311 (by decide) ?_
  refine g_iadd ok d_La_law_1312 ?_
  obtain ⟨x625, hx626, h⟩ := bnd_go h
  refine g_sld ok ht hx626 d_La_law_1313 ?_
  refine g_aloadw_n (i := 0) 0 ok d_La_law_1314 rfl rfl ?_
  refine g_iload (i := 4) 4 ok d_La_law_1315 rfl ?_
  refine g_iconst (v := (2 : Int32)) ok d_La_law_1317 (by decide) ?_
  refine g_iadd ok d_La_law_1318 ?_
  obtain ⟨x627, hx628, h⟩ := bnd_go h
  refine g_sld ok ht hx628 d_La_law_1319 ?_
  refine g_aload_n (i := 3) 3 ok d_La_law_1320 rfl rfl ?_
  obtain ⟨k629, hk630, h⟩ := bnd_go h
  obtain ⟨k631, hk632, h⟩ := bnd_go h
  obtain ⟨n633, hn634, h⟩ := bnd_go h
  obtain ⟨x638, s637, hc636, h⟩ := bnd2_go h
  refine g_callW (rm2 := rm_La_meetsAnew) (As := [vR a1, vI x625, vI x627, vR a3]) (rest := []) ok ht.2.2.2.1 (c_La_meetsAnew ht.2.2.2.2.1 hc636) cm_La_meetsAnew cs_La_meetsAnew tw_688 ⟨rfl, rfl⟩ ⟨le_t rfl, le_t rfl⟩ ⟨rfl, le_t rfl⟩ ⟨(by show _ ≤ 601024; omega), (by show _ ≤ 7293034; omega)⟩ ⟨trivial, ⟨(rk_of hk630), ⟨(rk_of hk632), ⟨(rk_rl hn634), ⟨trivial, trivial⟩⟩⟩⟩⟩ trivial d_La_law_1321 rfl (fun m635 => ?_)
  show G X s637 (ce0 + 1) (sl0 + 6) 1324 [(0, vW (Value.ref b)), (1, vR a1), (2, vR a2), (3, vR a3), (4, vI a4)] [vI x638]
  refine g_istore (i := 5) [(5, vI x638), (0, vW (Value.ref b)), (1, vR a1), (2, vR a2), (3, vR a3), (4, vI a4)] ok d_La_law_1324 (by decide) rfl ?_
  refine g_aload_n (i := 2) 3 ok d_La_law_1326 rfl rfl ?_
  refine g_aloadw_n (i := 0) 1 ok d_La_law_1327 rfl rfl ?_
  refine g_iload (i := 4) 5 ok d_La_law_1328 rfl ?_
  refine g_iconst (v := (1 : Int32)) ok d_La_law_1330 (by decide) ?_
  refine g_iadd ok d_La_law_1331 ?_
  obtain ⟨x639, hx640, h⟩ := bnd_go h
  refine g_sld ok ht hx640 d_La_law_1332 ?_
  refine g_aloadw_n (i := 0) 1 ok d_La_law_1333 rfl rfl ?_
  refine g_iload (i := 4) 5 ok d_La_law_1334 rfl ?_
  refine g_iconst (v := (2 : Int32)) ok d_La_law_1336 (by decide) ?_
  refine g_iadd ok d_La_law_1337 ?_
  obtain ⟨x641, hx642, h⟩ := bnd_go h
  refine g_sld ok ht hx642 d_La_law_1338 ?_
  obtain ⟨x646, s645, hc644, h⟩ := bnd2_go h
  refine g_invV (rm2 := rm_Mo_meetsAnew) (As := [vI x639, vI x641]) (rest := []) ok (rf_mono m635 hk632) lay_20 rfl (c_Mo_meetsAnew X.1.2.1 (rf_self (rf_mono m635 hk632)) hc644) cm_Mo_meetsAnew cv_Mo_meetsAnew tw_1022 ⟨rfl, rfl⟩ ⟨le_t rfl, le_t rfl⟩ ⟨rfl, le_t rfl⟩ ⟨(by show _ ≤ 601024; omega), (by show _ ≤ 7293034; omega)⟩ d_La_law_1339 rfl (fun m643 => ?_)
  show G X s645 (ce0 + 1) (sl0 + 6) 1342 [(5, vI x638), (0, vW (Value.ref b)), (1, vR a1), (2, vR a2), (3, vR a3), (4, vI a4)] [vI x646]
  refine g_istore (i := 6) [(6, vI x646), (5, vI x638), (0, vW (Value.ref b)), (1, vR a1), (2, vR a2), (3, vR a3), (4, vI a4)] ok d_La_law_1342 (by decide) rfl ?_
  refine g_aload_n (i := 2) 4 ok d_La_law_1344 rfl rfl ?_
  obtain ⟨x648, hc649, h⟩ := bnd_go h
  refine g_invV (rm2 := rm_Mo_thrown) (As := []) (rest := []) ok (rf_mono m643 (rf_mono m635 hk632)) lay_20 rfl (c_Mo_thrown X.1.2.1 (rf_self (rf_mono m643 (rf_mono m635 hk632))) hc649) cm_Mo_thrown cv_Mo_thrown tw_827 ⟨rfl, rfl⟩ ⟨le_t rfl, le_t rfl⟩ ⟨rfl, le_t rfl⟩ ⟨(by show _ ≤ 601024; omega), (by show _ ≤ 7293034; omega)⟩ d_La_law_1345 rfl (fun m647 => ?_)
  show G X s645 (ce0 + 1) (sl0 + 6) 1348 [(6, vI x646), (5, vI x638), (0, vW (Value.ref b)), (1, vR a1), (2, vR a2), (3, vR a3), (4, vI a4)] [vI x648]
  refine g_iload (i := 5) 1 ok d_La_law_1348 rfl ?_
  refine g_icmp_eq (tgt := 1355) ok d_La_law_1350 (by decide) (fun c650 => ?_) (fun c650 => ?_)
  · replace h := (if_pos c650).symm.trans h
    refine g_iload (i := 5) 1 ok d_La_law_1355 rfl ?_
    refine g_if_ne (tgt := 1379) ok d_La_law_1357 (by decide) (fun c651 => ?_) (fun c651 => ?_)
    · replace h := (if_pos c651).symm.trans h
      refine g_aload_n (i := 3) 5 ok d_La_law_1360 rfl rfl ?_
      refine g_iconst (v := (0 : Int32)) ok d_La_law_1361 (by decide) ?_
      obtain ⟨k652, hk653, h⟩ := bnd_go h
      refine g_lald ok hk653 d_La_law_1362 ?_
      refine g_iload (i := 6) 0 ok d_La_law_1363 rfl ?_
      refine g_if_eq (tgt := 1372) ok d_La_law_1365 (by decide) (fun c654 => ?_) (fun c654 => ?_)
      · replace h := (if_pos c654).symm.trans h
        refine g_lconst (v := (0 : Int32)) ok d_La_law_1372 (by decide) ?_
        refine g_lcmp ok d_La_law_1373 ?_
        refine g_if_eq (tgt := 1379) ok d_La_law_1374 (by decide) (fun c655 => ?_) (fun c655 => ?_)
        · replace h := (if_pos c655).symm.trans h
          refine g_goto (tgt := 1574) ok d_La_law_1379 (by decide) ?_
          obtain ⟨x656, e657⟩ : ∃ z, a4 + (6 : Int32) = z := ⟨_, rfl⟩
          replace h := lt_go h e657
          refine g_iinc (i := 4) (v := x656) 6 [(4, vI x656), (6, vI x646), (5, vI x638), (0, vW (Value.ref b)), (1, vR a1), (2, vR a2), (3, vR a3)] ok d_La_law_1574 rfl (by rw [← e657]; rfl) (by decide) rfl ?_
          refine g_goto (tgt := 23) ok d_La_law_1577 (by decide) ?_
          refine g_sub [3, 4, 5, 6, 0] rfl ?_
          refine g_widen (ce' := (ce0 + 100)) (sl' := (sl0 + 1200)) (by omega) (by omega) ?_
          exact hrec x656 s645 h
        · replace h := (if_neg c655).symm.trans h
          refine g_iconst (v := (0 : Int32)) ok d_La_law_1377 (by decide) ?_
          exact absurd (Option.some.inj h) (by decide)
      · replace h := (if_neg c654).symm.trans h
        refine g_lconst (v := (1 : Int32)) ok d_La_law_1368 (by decide) ?_
        refine g_goto (tgt := 1373) ok d_La_law_1369 (by decide) ?_
        refine g_lcmp ok d_La_law_1373 ?_
        refine g_if_eq (tgt := 1379) ok d_La_law_1374 (by decide) (fun c658 => ?_) (fun c658 => ?_)
        · replace h := (if_pos c658).symm.trans h
          refine g_goto (tgt := 1574) ok d_La_law_1379 (by decide) ?_
          obtain ⟨x659, e660⟩ : ∃ z, a4 + (6 : Int32) = z := ⟨_, rfl⟩
          replace h := lt_go h e660
          refine g_iinc (i := 4) (v := x659) 6 [(4, vI x659), (6, vI x646), (5, vI x638), (0, vW (Value.ref b)), (1, vR a1), (2, vR a2), (3, vR a3)] ok d_La_law_1574 rfl (by rw [← e660]; rfl) (by decide) rfl ?_
          refine g_goto (tgt := 23) ok d_La_law_1577 (by decide) ?_
          refine g_sub [3, 4, 5, 6, 0] rfl ?_
          refine g_widen (ce' := (ce0 + 100)) (sl' := (sl0 + 1200)) (by omega) (by omega) ?_
          exact hrec x659 s645 h
        · replace h := (if_neg c658).symm.trans h
          refine g_iconst (v := (0 : Int32)) ok d_La_law_1377 (by decide) ?_
          exact absurd (Option.some.inj h) (by decide)
    · replace h := (if_neg c651).symm.trans h
      refine g_goto (tgt := 1574) ok d_La_law_1379 (by decide) ?_
      obtain ⟨x661, e662⟩ : ∃ z, a4 + (6 : Int32) = z := ⟨_, rfl⟩
      replace h := lt_go h e662
      refine g_iinc (i := 4) (v := x661) 6 [(4, vI x661), (6, vI x646), (5, vI x638), (0, vW (Value.ref b)), (1, vR a1), (2, vR a2), (3, vR a3)] ok d_La_law_1574 rfl (by rw [← e662]; rfl) (by decide) rfl ?_
      refine g_goto (tgt := 23) ok d_La_law_1577 (by decide) ?_
      refine g_sub [3, 4, 5, 6, 0] rfl ?_
      refine g_widen (ce' := (ce0 + 100)) (sl' := (sl0 + 1200)) (by omega) (by omega) ?_
      exact hrec x661 s645 h
  · replace h := (if_neg c650).symm.trans h
    refine g_iconst (v := (0 : Int32)) ok d_La_law_1353 (by decide) ?_
    exact absurd (Option.some.inj h) (by decide)
set_option maxRecDepth 100000 in
set_option maxHeartbeats 4000000 in
theorem w_j_La_law_1382 {X : CX} {b L : Nat} {xs : Nat → Int32} {a1 a2 a3 : Option Nat} {a4 : Int32} {s : MS} {rec : Int32 → MS → Option Int32} {ce0 sl0 : Nat} (ok : Ok X code RL rm_La_law 7 true) (ht : Sc X b L xs) (hc1 : ce0 + 100 ≤ 601024) (hc2 : sl0 + 1200 ≤ 7293034) (hrec : ∀ (v4 : Int32) (z : MS), rec v4 z = some 1 → G X z (ce0 + 100) (sl0 + 1200) 23 [(0, vW (Value.ref b)), (1, vR a1), (2, vR a2), (3, vR a3), (4, vI v4)] []) (h : j_La_law_1382 L xs a1 a2 a3 a4 s rec = some 1) : G X s ce0 sl0 1382 [(0, vW (Value.ref b)), (1, vR a1), (2, vR a2), (3, vR a3), (4, vI a4)] [] := by
  unfold j_La_law_1382 at h
  refine g_aload_n (i := 1) 1 ok d_La_law_1382 rfl rfl ?_
  refine g_aloadw_n (i := 0) 0 ok d_La_law_1383 rfl rfl ?_
  refine g_iload (i := 4) 4 ok d_La_law_1384 rfl ?_
  refine g_iconst (v := (1 : Int32)) ok d_La_law_1386 (by decide) ?_
  refine g_iadd ok d_La_law_1387 ?_
  obtain ⟨x663, hx664, h⟩ := bnd_go h
  refine g_sld ok ht hx664 d_La_law_1388 ?_
  refine g_aloadw_n (i := 0) 0 ok d_La_law_1389 rfl rfl ?_
  refine g_iload (i := 4) 4 ok d_La_law_1390 rfl ?_
  refine g_iconst (v := (2 : Int32)) ok d_La_law_1392 (by decide) ?_
  refine g_iadd ok d_La_law_1393 ?_
  obtain ⟨x665, hx666, h⟩ := bnd_go h
  refine g_sld ok ht hx666 d_La_law_1394 ?_
  refine g_aload_n (i := 3) 3 ok d_La_law_1395 rfl rfl ?_
  obtain ⟨k667, hk668, h⟩ := bnd_go h
  obtain ⟨k669, hk670, h⟩ := bnd_go h
  obtain ⟨n671, hn672, h⟩ := bnd_go h
  obtain ⟨x676, s675, hc674, h⟩ := bnd2_go h
  refine g_callW (rm2 := rm_La_ofMachine) (As := [vR a1, vI x663, vI x665, vR a3]) (rest := []) ok ht.2.2.2.1 (c_La_ofMachine ht.2.2.2.2.1 hc674) cm_La_ofMachine cs_La_ofMachine tw_702 ⟨rfl, rfl⟩ ⟨le_t rfl, le_t rfl⟩ ⟨rfl, le_t rfl⟩ ⟨(by show _ ≤ 601024; omega), (by show _ ≤ 7293034; omega)⟩ ⟨trivial, ⟨(rk_of hk668), ⟨(rk_of hk670), ⟨(rk_rl hn672), ⟨trivial, trivial⟩⟩⟩⟩⟩ trivial d_La_law_1396 rfl (fun m673 => ?_)
  show G X s675 (ce0 + 1) (sl0 + 6) 1399 [(0, vW (Value.ref b)), (1, vR a1), (2, vR a2), (3, vR a3), (4, vI a4)] [vI x676]
  refine g_istore (i := 5) [(5, vI x676), (0, vW (Value.ref b)), (1, vR a1), (2, vR a2), (3, vR a3), (4, vI a4)] ok d_La_law_1399 (by decide) rfl ?_
  refine g_aload_n (i := 2) 3 ok d_La_law_1401 rfl rfl ?_
  refine g_aloadw_n (i := 0) 1 ok d_La_law_1402 rfl rfl ?_
  refine g_iload (i := 4) 5 ok d_La_law_1403 rfl ?_
  refine g_iconst (v := (1 : Int32)) ok d_La_law_1405 (by decide) ?_
  refine g_iadd ok d_La_law_1406 ?_
  obtain ⟨x677, hx678, h⟩ := bnd_go h
  refine g_sld ok ht hx678 d_La_law_1407 ?_
  refine g_aloadw_n (i := 0) 1 ok d_La_law_1408 rfl rfl ?_
  refine g_iload (i := 4) 5 ok d_La_law_1409 rfl ?_
  refine g_iconst (v := (2 : Int32)) ok d_La_law_1411 (by decide) ?_
  refine g_iadd ok d_La_law_1412 ?_
  obtain ⟨x679, hx680, h⟩ := bnd_go h
  refine g_sld ok ht hx680 d_La_law_1413 ?_
  obtain ⟨x684, s683, hc682, h⟩ := bnd2_go h
  refine g_invV (rm2 := rm_Mo_ofMachine) (As := [vI x677, vI x679]) (rest := []) ok (rf_mono m673 hk670) lay_20 rfl (c_Mo_ofMachine X.1.2.1 (rf_self (rf_mono m673 hk670)) hc682) cm_Mo_ofMachine cv_Mo_ofMachine tw_1027 ⟨rfl, rfl⟩ ⟨le_t rfl, le_t rfl⟩ ⟨rfl, le_t rfl⟩ ⟨(by show _ ≤ 601024; omega), (by show _ ≤ 7293034; omega)⟩ d_La_law_1414 rfl (fun m681 => ?_)
  show G X s683 (ce0 + 1) (sl0 + 6) 1417 [(5, vI x676), (0, vW (Value.ref b)), (1, vR a1), (2, vR a2), (3, vR a3), (4, vI a4)] [vI x684]
  refine g_istore (i := 6) [(6, vI x684), (5, vI x676), (0, vW (Value.ref b)), (1, vR a1), (2, vR a2), (3, vR a3), (4, vI a4)] ok d_La_law_1417 (by decide) rfl ?_
  refine g_aload_n (i := 2) 4 ok d_La_law_1419 rfl rfl ?_
  obtain ⟨x686, hc687, h⟩ := bnd_go h
  refine g_invV (rm2 := rm_Mo_thrown) (As := []) (rest := []) ok (rf_mono m681 (rf_mono m673 hk670)) lay_20 rfl (c_Mo_thrown X.1.2.1 (rf_self (rf_mono m681 (rf_mono m673 hk670))) hc687) cm_Mo_thrown cv_Mo_thrown tw_827 ⟨rfl, rfl⟩ ⟨le_t rfl, le_t rfl⟩ ⟨rfl, le_t rfl⟩ ⟨(by show _ ≤ 601024; omega), (by show _ ≤ 7293034; omega)⟩ d_La_law_1420 rfl (fun m685 => ?_)
  show G X s683 (ce0 + 1) (sl0 + 6) 1423 [(6, vI x684), (5, vI x676), (0, vW (Value.ref b)), (1, vR a1), (2, vR a2), (3, vR a3), (4, vI a4)] [vI x686]
  refine g_iload (i := 5) 1 ok d_La_law_1423 rfl ?_
  refine g_icmp_eq (tgt := 1430) ok d_La_law_1425 (by decide) (fun c688 => ?_) (fun c688 => ?_)
  · replace h := (if_pos c688).symm.trans h
    refine g_iload (i := 5) 1 ok d_La_law_1430 rfl ?_
    refine g_if_ne (tgt := 1447) ok d_La_law_1432 (by decide) (fun c689 => ?_) (fun c689 => ?_)
    · replace h := (if_pos c689).symm.trans h
      refine g_aload_n (i := 3) 5 ok d_La_law_1435 rfl rfl ?_
      refine g_iconst (v := (0 : Int32)) ok d_La_law_1436 (by decide) ?_
      obtain ⟨k690, hk691, h⟩ := bnd_go h
      refine g_lald ok hk691 d_La_law_1437 ?_
      refine g_iload (i := 6) 0 ok d_La_law_1438 rfl ?_
      refine g_i2l ok d_La_law_1440 ?_
      refine g_lcmp ok d_La_law_1441 ?_
      refine g_if_eq (tgt := 1447) ok d_La_law_1442 (by decide) (fun c692 => ?_) (fun c692 => ?_)
      · replace h := (if_pos c692).symm.trans h
        refine g_goto (tgt := 1574) ok d_La_law_1447 (by decide) ?_
        obtain ⟨x693, e694⟩ : ∃ z, a4 + (6 : Int32) = z := ⟨_, rfl⟩
        replace h := lt_go h e694
        refine g_iinc (i := 4) (v := x693) 6 [(4, vI x693), (6, vI x684), (5, vI x676), (0, vW (Value.ref b)), (1, vR a1), (2, vR a2), (3, vR a3)] ok d_La_law_1574 rfl (by rw [← e694]; rfl) (by decide) rfl ?_
        refine g_goto (tgt := 23) ok d_La_law_1577 (by decide) ?_
        refine g_sub [3, 4, 5, 6, 0] rfl ?_
        refine g_widen (ce' := (ce0 + 100)) (sl' := (sl0 + 1200)) (by omega) (by omega) ?_
        exact hrec x693 s683 h
      · replace h := (if_neg c692).symm.trans h
        refine g_iconst (v := (0 : Int32)) ok d_La_law_1445 (by decide) ?_
        exact absurd (Option.some.inj h) (by decide)
    · replace h := (if_neg c689).symm.trans h
      refine g_goto (tgt := 1574) ok d_La_law_1447 (by decide) ?_
      obtain ⟨x695, e696⟩ : ∃ z, a4 + (6 : Int32) = z := ⟨_, rfl⟩
      replace h := lt_go h e696
      refine g_iinc (i := 4) (v := x695) 6 [(4, vI x695), (6, vI x684), (5, vI x676), (0, vW (Value.ref b)), (1, vR a1), (2, vR a2), (3, vR a3)] ok d_La_law_1574 rfl (by rw [← e696]; rfl) (by decide) rfl ?_
      refine g_goto (tgt := 23) ok d_La_law_1577 (by decide) ?_
      refine g_sub [3, 4, 5, 6, 0] rfl ?_
      refine g_widen (ce' := (ce0 + 100)) (sl' := (sl0 + 1200)) (by omega) (by omega) ?_
      exact hrec x695 s683 h
  · replace h := (if_neg c688).symm.trans h
    refine g_iconst (v := (0 : Int32)) ok d_La_law_1428 (by decide) ?_
    exact absurd (Option.some.inj h) (by decide)
set_option maxRecDepth 100000 in
set_option maxHeartbeats 4000000 in
theorem w_j_La_law_1450 {X : CX} {b L : Nat} {xs : Nat → Int32} {a1 a2 a3 : Option Nat} {a4 : Int32} {s : MS} {rec : Int32 → MS → Option Int32} {ce0 sl0 : Nat} (ok : Ok X code RL rm_La_law 7 true) (ht : Sc X b L xs) (hc1 : ce0 + 100 ≤ 601024) (hc2 : sl0 + 1200 ≤ 7293034) (hrec : ∀ (v4 : Int32) (z : MS), rec v4 z = some 1 → G X z (ce0 + 100) (sl0 + 1200) 23 [(0, vW (Value.ref b)), (1, vR a1), (2, vR a2), (3, vR a3), (4, vI v4)] []) (h : j_La_law_1450 L xs a1 a2 a3 a4 s rec = some 1) : G X s ce0 sl0 1450 [(0, vW (Value.ref b)), (1, vR a1), (2, vR a2), (3, vR a3), (4, vI a4)] [] := by
  unfold j_La_law_1450 at h
  refine g_aload_n (i := 1) 1 ok d_La_law_1450 rfl rfl ?_
  refine g_aloadw_n (i := 0) 0 ok d_La_law_1451 rfl rfl ?_
  refine g_iload (i := 4) 4 ok d_La_law_1452 rfl ?_
  refine g_iconst (v := (1 : Int32)) ok d_La_law_1454 (by decide) ?_
  refine g_iadd ok d_La_law_1455 ?_
  obtain ⟨x697, hx698, h⟩ := bnd_go h
  refine g_sld ok ht hx698 d_La_law_1456 ?_
  refine g_aloadw_n (i := 0) 0 ok d_La_law_1457 rfl rfl ?_
  refine g_iload (i := 4) 4 ok d_La_law_1458 rfl ?_
  refine g_iconst (v := (2 : Int32)) ok d_La_law_1460 (by decide) ?_
  refine g_iadd ok d_La_law_1461 ?_
  obtain ⟨x699, hx700, h⟩ := bnd_go h
  refine g_sld ok ht hx700 d_La_law_1462 ?_
  refine g_aload_n (i := 3) 3 ok d_La_law_1463 rfl rfl ?_
  obtain ⟨k701, hk702, h⟩ := bnd_go h
  obtain ⟨k703, hk704, h⟩ := bnd_go h
  obtain ⟨n705, hn706, h⟩ := bnd_go h
  obtain ⟨x710, s709, hc708, h⟩ := bnd2_go h
  refine g_callW (rm2 := rm_La_ofPath) (As := [vR a1, vI x697, vI x699, vR a3]) (rest := []) ok ht.2.2.2.1 (c_La_ofPath ht.2.2.2.2.1 hc708) cm_La_ofPath cs_La_ofPath tw_710 ⟨rfl, rfl⟩ ⟨le_t rfl, le_t rfl⟩ ⟨rfl, le_t rfl⟩ ⟨(by show _ ≤ 601024; omega), (by show _ ≤ 7293034; omega)⟩ ⟨trivial, ⟨(rk_of hk702), ⟨(rk_of hk704), ⟨(rk_rl hn706), ⟨trivial, trivial⟩⟩⟩⟩⟩ trivial d_La_law_1464 rfl (fun m707 => ?_)
  show G X s709 (ce0 + 1) (sl0 + 6) 1467 [(0, vW (Value.ref b)), (1, vR a1), (2, vR a2), (3, vR a3), (4, vI a4)] [vI x710]
  refine g_istore (i := 5) [(5, vI x710), (0, vW (Value.ref b)), (1, vR a1), (2, vR a2), (3, vR a3), (4, vI a4)] ok d_La_law_1467 (by decide) rfl ?_
  refine g_aload_n (i := 2) 3 ok d_La_law_1469 rfl rfl ?_
  refine g_aloadw_n (i := 0) 1 ok d_La_law_1470 rfl rfl ?_
  refine g_iload (i := 4) 5 ok d_La_law_1471 rfl ?_
  refine g_iconst (v := (1 : Int32)) ok d_La_law_1473 (by decide) ?_
  refine g_iadd ok d_La_law_1474 ?_
  obtain ⟨x711, hx712, h⟩ := bnd_go h
  refine g_sld ok ht hx712 d_La_law_1475 ?_
  refine g_aloadw_n (i := 0) 1 ok d_La_law_1476 rfl rfl ?_
  refine g_iload (i := 4) 5 ok d_La_law_1477 rfl ?_
  refine g_iconst (v := (2 : Int32)) ok d_La_law_1479 (by decide) ?_
  refine g_iadd ok d_La_law_1480 ?_
  obtain ⟨x713, hx714, h⟩ := bnd_go h
  refine g_sld ok ht hx714 d_La_law_1481 ?_
  obtain ⟨x718, s717, hc716, h⟩ := bnd2_go h
  refine g_invV (rm2 := rm_Mo_ofPath) (As := [vI x711, vI x713]) (rest := []) ok (rf_mono m707 hk704) lay_20 rfl (c_Mo_ofPath X.1.2.1 (rf_self (rf_mono m707 hk704)) hc716) cm_Mo_ofPath cv_Mo_ofPath tw_1031 ⟨rfl, rfl⟩ ⟨le_t rfl, le_t rfl⟩ ⟨rfl, le_t rfl⟩ ⟨(by show _ ≤ 601024; omega), (by show _ ≤ 7293034; omega)⟩ d_La_law_1482 rfl (fun m715 => ?_)
  show G X s717 (ce0 + 1) (sl0 + 6) 1485 [(5, vI x710), (0, vW (Value.ref b)), (1, vR a1), (2, vR a2), (3, vR a3), (4, vI a4)] [vI x718]
  refine g_istore (i := 6) [(6, vI x718), (5, vI x710), (0, vW (Value.ref b)), (1, vR a1), (2, vR a2), (3, vR a3), (4, vI a4)] ok d_La_law_1485 (by decide) rfl ?_
  refine g_aload_n (i := 2) 4 ok d_La_law_1487 rfl rfl ?_
  obtain ⟨x720, hc721, h⟩ := bnd_go h
  refine g_invV (rm2 := rm_Mo_thrown) (As := []) (rest := []) ok (rf_mono m715 (rf_mono m707 hk704)) lay_20 rfl (c_Mo_thrown X.1.2.1 (rf_self (rf_mono m715 (rf_mono m707 hk704))) hc721) cm_Mo_thrown cv_Mo_thrown tw_827 ⟨rfl, rfl⟩ ⟨le_t rfl, le_t rfl⟩ ⟨rfl, le_t rfl⟩ ⟨(by show _ ≤ 601024; omega), (by show _ ≤ 7293034; omega)⟩ d_La_law_1488 rfl (fun m719 => ?_)
  show G X s717 (ce0 + 1) (sl0 + 6) 1491 [(6, vI x718), (5, vI x710), (0, vW (Value.ref b)), (1, vR a1), (2, vR a2), (3, vR a3), (4, vI a4)] [vI x720]
  refine g_iload (i := 5) 1 ok d_La_law_1491 rfl ?_
  refine g_icmp_eq (tgt := 1498) ok d_La_law_1493 (by decide) (fun c722 => ?_) (fun c722 => ?_)
  · replace h := (if_pos c722).symm.trans h
    refine g_iload (i := 5) 1 ok d_La_law_1498 rfl ?_
    refine g_if_ne (tgt := 1515) ok d_La_law_1500 (by decide) (fun c723 => ?_) (fun c723 => ?_)
    · replace h := (if_pos c723).symm.trans h
      refine g_aload_n (i := 3) 5 ok d_La_law_1503 rfl rfl ?_
      refine g_iconst (v := (0 : Int32)) ok d_La_law_1504 (by decide) ?_
      obtain ⟨k724, hk725, h⟩ := bnd_go h
      refine g_lald ok hk725 d_La_law_1505 ?_
      refine g_iload (i := 6) 0 ok d_La_law_1506 rfl ?_
      refine g_i2l ok d_La_law_1508 ?_
      refine g_lcmp ok d_La_law_1509 ?_
      refine g_if_eq (tgt := 1515) ok d_La_law_1510 (by decide) (fun c726 => ?_) (fun c726 => ?_)
      · replace h := (if_pos c726).symm.trans h
        refine g_goto (tgt := 1574) ok d_La_law_1515 (by decide) ?_
        obtain ⟨x727, e728⟩ : ∃ z, a4 + (6 : Int32) = z := ⟨_, rfl⟩
        replace h := lt_go h e728
        refine g_iinc (i := 4) (v := x727) 6 [(4, vI x727), (6, vI x718), (5, vI x710), (0, vW (Value.ref b)), (1, vR a1), (2, vR a2), (3, vR a3)] ok d_La_law_1574 rfl (by rw [← e728]; rfl) (by decide) rfl ?_
        refine g_goto (tgt := 23) ok d_La_law_1577 (by decide) ?_
        refine g_sub [3, 4, 5, 6, 0] rfl ?_
        refine g_widen (ce' := (ce0 + 100)) (sl' := (sl0 + 1200)) (by omega) (by omega) ?_
        exact hrec x727 s717 h
      · replace h := (if_neg c726).symm.trans h
        refine g_iconst (v := (0 : Int32)) ok d_La_law_1513 (by decide) ?_
        exact absurd (Option.some.inj h) (by decide)
    · replace h := (if_neg c723).symm.trans h
      refine g_goto (tgt := 1574) ok d_La_law_1515 (by decide) ?_
      obtain ⟨x729, e730⟩ : ∃ z, a4 + (6 : Int32) = z := ⟨_, rfl⟩
      replace h := lt_go h e730
      refine g_iinc (i := 4) (v := x729) 6 [(4, vI x729), (6, vI x718), (5, vI x710), (0, vW (Value.ref b)), (1, vR a1), (2, vR a2), (3, vR a3)] ok d_La_law_1574 rfl (by rw [← e730]; rfl) (by decide) rfl ?_
      refine g_goto (tgt := 23) ok d_La_law_1577 (by decide) ?_
      refine g_sub [3, 4, 5, 6, 0] rfl ?_
      refine g_widen (ce' := (ce0 + 100)) (sl' := (sl0 + 1200)) (by omega) (by omega) ?_
      exact hrec x729 s717 h
  · replace h := (if_neg c722).symm.trans h
    refine g_iconst (v := (0 : Int32)) ok d_La_law_1496 (by decide) ?_
    exact absurd (Option.some.inj h) (by decide)
set_option maxRecDepth 100000 in
set_option maxHeartbeats 4000000 in
theorem w_j_La_law_1518 {X : CX} {b L : Nat} {xs : Nat → Int32} {a1 a2 a3 : Option Nat} {a4 : Int32} {s : MS} {rec : Int32 → MS → Option Int32} {ce0 sl0 : Nat} (ok : Ok X code RL rm_La_law 7 true) (ht : Sc X b L xs) (hc1 : ce0 + 100 ≤ 601024) (hc2 : sl0 + 1200 ≤ 7293034) (hrec : ∀ (v4 : Int32) (z : MS), rec v4 z = some 1 → G X z (ce0 + 100) (sl0 + 1200) 23 [(0, vW (Value.ref b)), (1, vR a1), (2, vR a2), (3, vR a3), (4, vI v4)] []) (h : j_La_law_1518 L xs a1 a2 a3 a4 s rec = some 1) : G X s ce0 sl0 1518 [(0, vW (Value.ref b)), (1, vR a1), (2, vR a2), (3, vR a3), (4, vI a4)] [] := by
  unfold j_La_law_1518 at h
  refine g_aload_n (i := 1) 1 ok d_La_law_1518 rfl rfl ?_
  refine g_aloadw_n (i := 0) 0 ok d_La_law_1519 rfl rfl ?_
  refine g_iload (i := 4) 4 ok d_La_law_1520 rfl ?_
  refine g_iconst (v := (1 : Int32)) ok d_La_law_1522 (by decide) ?_
  refine g_iadd ok d_La_law_1523 ?_
  obtain ⟨x731, hx732, h⟩ := bnd_go h
  refine g_sld ok ht hx732 d_La_law_1524 ?_
  refine g_aload_n (i := 3) 3 ok d_La_law_1525 rfl rfl ?_
  obtain ⟨k733, hk734, h⟩ := bnd_go h
  obtain ⟨k735, hk736, h⟩ := bnd_go h
  obtain ⟨n737, hn738, h⟩ := bnd_go h
  obtain ⟨x742, s741, hc740, h⟩ := bnd2_go h
  refine g_callW (rm2 := rm_La_count) (As := [vR a1, vI x731, vR a3]) (rest := []) ok ht.2.2.2.1 (c_La_count ht.2.2.2.2.1 hc740) cm_La_count cs_La_count tw_717 ⟨rfl, rfl⟩ ⟨le_t rfl, le_t rfl⟩ ⟨rfl, le_t rfl⟩ ⟨(by show _ ≤ 601024; omega), (by show _ ≤ 7293034; omega)⟩ ⟨trivial, ⟨(rk_of hk734), ⟨(rk_of hk736), ⟨(rk_rl hn738), ⟨trivial, trivial⟩⟩⟩⟩⟩ trivial d_La_law_1526 rfl (fun m739 => ?_)
  show G X s741 (ce0 + 1) (sl0 + 6) 1529 [(0, vW (Value.ref b)), (1, vR a1), (2, vR a2), (3, vR a3), (4, vI a4)] [vI x742]
  refine g_istore (i := 5) [(5, vI x742), (0, vW (Value.ref b)), (1, vR a1), (2, vR a2), (3, vR a3), (4, vI a4)] ok d_La_law_1529 (by decide) rfl ?_
  refine g_aload_n (i := 2) 3 ok d_La_law_1531 rfl rfl ?_
  refine g_aloadw_n (i := 0) 1 ok d_La_law_1532 rfl rfl ?_
  refine g_iload (i := 4) 5 ok d_La_law_1533 rfl ?_
  refine g_iconst (v := (1 : Int32)) ok d_La_law_1535 (by decide) ?_
  refine g_iadd ok d_La_law_1536 ?_
  obtain ⟨x743, hx744, h⟩ := bnd_go h
  refine g_sld ok ht hx744 d_La_law_1537 ?_
  obtain ⟨x748, s747, hc746, h⟩ := bnd2_go h
  refine g_invV (rm2 := rm_Mo_count) (As := [vI x743]) (rest := []) ok (rf_mono m739 hk736) lay_20 rfl (c_Mo_count X.1.2.1 (rf_self (rf_mono m739 hk736)) hc746) cm_Mo_count cv_Mo_count tw_1035 ⟨rfl, rfl⟩ ⟨le_t rfl, le_t rfl⟩ ⟨rfl, le_t rfl⟩ ⟨(by show _ ≤ 601024; omega), (by show _ ≤ 7293034; omega)⟩ d_La_law_1538 rfl (fun m745 => ?_)
  show G X s747 (ce0 + 1) (sl0 + 6) 1541 [(5, vI x742), (0, vW (Value.ref b)), (1, vR a1), (2, vR a2), (3, vR a3), (4, vI a4)] [vI x748]
  refine g_istore (i := 6) [(6, vI x748), (5, vI x742), (0, vW (Value.ref b)), (1, vR a1), (2, vR a2), (3, vR a3), (4, vI a4)] ok d_La_law_1541 (by decide) rfl ?_
  refine g_aload_n (i := 2) 4 ok d_La_law_1543 rfl rfl ?_
  obtain ⟨x750, hc751, h⟩ := bnd_go h
  refine g_invV (rm2 := rm_Mo_thrown) (As := []) (rest := []) ok (rf_mono m745 (rf_mono m739 hk736)) lay_20 rfl (c_Mo_thrown X.1.2.1 (rf_self (rf_mono m745 (rf_mono m739 hk736))) hc751) cm_Mo_thrown cv_Mo_thrown tw_827 ⟨rfl, rfl⟩ ⟨le_t rfl, le_t rfl⟩ ⟨rfl, le_t rfl⟩ ⟨(by show _ ≤ 601024; omega), (by show _ ≤ 7293034; omega)⟩ d_La_law_1544 rfl (fun m749 => ?_)
  show G X s747 (ce0 + 1) (sl0 + 6) 1547 [(6, vI x748), (5, vI x742), (0, vW (Value.ref b)), (1, vR a1), (2, vR a2), (3, vR a3), (4, vI a4)] [vI x750]
  refine g_iload (i := 5) 1 ok d_La_law_1547 rfl ?_
  refine g_icmp_eq (tgt := 1554) ok d_La_law_1549 (by decide) (fun c752 => ?_) (fun c752 => ?_)
  · replace h := (if_pos c752).symm.trans h
    refine g_iload (i := 5) 1 ok d_La_law_1554 rfl ?_
    refine g_if_ne (tgt := 1571) ok d_La_law_1556 (by decide) (fun c753 => ?_) (fun c753 => ?_)
    · replace h := (if_pos c753).symm.trans h
      refine g_aload_n (i := 3) 5 ok d_La_law_1559 rfl rfl ?_
      refine g_iconst (v := (0 : Int32)) ok d_La_law_1560 (by decide) ?_
      obtain ⟨k754, hk755, h⟩ := bnd_go h
      refine g_lald ok hk755 d_La_law_1561 ?_
      refine g_iload (i := 6) 0 ok d_La_law_1562 rfl ?_
      refine g_i2l ok d_La_law_1564 ?_
      refine g_lcmp ok d_La_law_1565 ?_
      refine g_if_eq (tgt := 1571) ok d_La_law_1566 (by decide) (fun c756 => ?_) (fun c756 => ?_)
      · replace h := (if_pos c756).symm.trans h
        refine g_goto (tgt := 1574) ok d_La_law_1571 (by decide) ?_
        obtain ⟨x757, e758⟩ : ∃ z, a4 + (6 : Int32) = z := ⟨_, rfl⟩
        replace h := lt_go h e758
        refine g_iinc (i := 4) (v := x757) 6 [(4, vI x757), (6, vI x748), (5, vI x742), (0, vW (Value.ref b)), (1, vR a1), (2, vR a2), (3, vR a3)] ok d_La_law_1574 rfl (by rw [← e758]; rfl) (by decide) rfl ?_
        refine g_goto (tgt := 23) ok d_La_law_1577 (by decide) ?_
        refine g_sub [3, 4, 5, 6, 0] rfl ?_
        refine g_widen (ce' := (ce0 + 100)) (sl' := (sl0 + 1200)) (by omega) (by omega) ?_
        exact hrec x757 s747 h
      · replace h := (if_neg c756).symm.trans h
        refine g_iconst (v := (0 : Int32)) ok d_La_law_1569 (by decide) ?_
        exact absurd (Option.some.inj h) (by decide)
    · replace h := (if_neg c753).symm.trans h
      refine g_goto (tgt := 1574) ok d_La_law_1571 (by decide) ?_
      obtain ⟨x759, e760⟩ : ∃ z, a4 + (6 : Int32) = z := ⟨_, rfl⟩
      replace h := lt_go h e760
      refine g_iinc (i := 4) (v := x759) 6 [(4, vI x759), (6, vI x748), (5, vI x742), (0, vW (Value.ref b)), (1, vR a1), (2, vR a2), (3, vR a3)] ok d_La_law_1574 rfl (by rw [← e760]; rfl) (by decide) rfl ?_
      refine g_goto (tgt := 23) ok d_La_law_1577 (by decide) ?_
      refine g_sub [3, 4, 5, 6, 0] rfl ?_
      refine g_widen (ce' := (ce0 + 100)) (sl' := (sl0 + 1200)) (by omega) (by omega) ?_
      exact hrec x759 s747 h
  · replace h := (if_neg c752).symm.trans h
    refine g_iconst (v := (0 : Int32)) ok d_La_law_1552 (by decide) ?_
    exact absurd (Option.some.inj h) (by decide)
set_option maxRecDepth 100000 in
set_option maxHeartbeats 4000000 in
theorem w_b_La_law_23 {X : CX} {b L : Nat} {xs : Nat → Int32} {a1 a2 a3 : Option Nat} {a4 : Int32} {s : MS} {rec : Int32 → MS → Option Int32} {ce0 sl0 : Nat} (ok : Ok X code RL rm_La_law 7 true) (ht : Sc X b L xs) (hc1 : ce0 + 100 ≤ 601024) (hc2 : sl0 + 1200 ≤ 7293034) (hrec : ∀ (v4 : Int32) (z : MS), rec v4 z = some 1 → G X z (ce0 + 100) (sl0 + 1200) 23 [(0, vW (Value.ref b)), (1, vR a1), (2, vR a2), (3, vR a3), (4, vI v4)] []) (h : b_La_law_23 L xs a1 a2 a3 a4 s rec = some 1) : G X s ce0 sl0 23 [(0, vW (Value.ref b)), (1, vR a1), (2, vR a2), (3, vR a3), (4, vI a4)] [] := by
  unfold b_La_law_23 at h
  refine g_iload (i := 4) 4 ok d_La_law_23 rfl ?_
  refine g_aloadw_n (i := 0) 0 ok d_La_law_25 rfl rfl ?_
  refine g_slen ok ht d_La_law_26 ?_
  refine g_bipush (v := (6 : Int32)) ok d_La_law_27 (by decide) ?_
  refine g_isub ok d_La_law_29 ?_
  refine g_icmp_gt (tgt := 1580) ok d_La_law_30 (by decide) (fun c1 => ?_) (fun c1 => ?_)
  · replace h := (if_pos c1).symm.trans h
    refine g_iconst (v := (1 : Int32)) ok d_La_law_1580 (by decide) ?_
    exact g_lret ok ht (by omega) (by omega) d_La_law_1581
  · replace h := (if_neg c1).symm.trans h
    refine g_aloadw_n (i := 0) 0 ok d_La_law_33 rfl rfl ?_
    refine g_iload (i := 4) 4 ok d_La_law_34 rfl ?_
    obtain ⟨x2, hx3, h⟩ := bnd_go h
    refine g_sld ok ht hx3 d_La_law_36 ?_
    refine g_bipush (v := (31 : Int32)) ok d_La_law_37 (by decide) ?_
    refine g_iand ok d_La_law_39 ?_
    obtain ⟨x4, e5⟩ : ∃ z, (x2 &&& (31 : Int32)) = z := ⟨_, rfl⟩
    replace h := lt_go h e5
    rw [e5]
    by_cases c40_0 : x4 = (0 : Int32)
    · replace h := (if_pos c40_0).symm.trans h
      refine g_tabIn (off := 116) (tgt := 156) ok d_La_law_40 (by rw [c40_0]; decide) (by rw [c40_0]; decide) (by rw [c40_0]; rfl) (by decide) ?_
      exact w_j_La_law_156 ok ht hc1 hc2 hrec h
    · replace h := (if_neg c40_0).symm.trans h
      by_cases c40_1 : x4 = (1 : Int32)
      · replace h := (if_pos c40_1).symm.trans h
        refine g_tabIn (off := 184) (tgt := 224) ok d_La_law_40 (by rw [c40_1]; decide) (by rw [c40_1]; decide) (by rw [c40_1]; rfl) (by decide) ?_
        exact w_j_La_law_224 ok ht hc1 hc2 hrec h
      · replace h := (if_neg c40_1).symm.trans h
        by_cases c40_2 : x4 = (2 : Int32)
        · replace h := (if_pos c40_2).symm.trans h
          refine g_tabIn (off := 240) (tgt := 280) ok d_La_law_40 (by rw [c40_2]; decide) (by rw [c40_2]; decide) (by rw [c40_2]; rfl) (by decide) ?_
          exact w_j_La_law_280 ok ht hc1 hc2 hrec h
        · replace h := (if_neg c40_2).symm.trans h
          by_cases c40_3 : x4 = (3 : Int32)
          · replace h := (if_pos c40_3).symm.trans h
            refine g_tabIn (off := 308) (tgt := 348) ok d_La_law_40 (by rw [c40_3]; decide) (by rw [c40_3]; decide) (by rw [c40_3]; rfl) (by decide) ?_
            exact w_j_La_law_348 ok ht hc1 hc2 hrec h
          · replace h := (if_neg c40_3).symm.trans h
            by_cases c40_4 : x4 = (4 : Int32)
            · replace h := (if_pos c40_4).symm.trans h
              refine g_tabIn (off := 376) (tgt := 416) ok d_La_law_40 (by rw [c40_4]; decide) (by rw [c40_4]; decide) (by rw [c40_4]; rfl) (by decide) ?_
              exact w_j_La_law_416 ok ht hc1 hc2 hrec h
            · replace h := (if_neg c40_4).symm.trans h
              by_cases c40_5 : x4 = (5 : Int32)
              · replace h := (if_pos c40_5).symm.trans h
                refine g_tabIn (off := 480) (tgt := 520) ok d_La_law_40 (by rw [c40_5]; decide) (by rw [c40_5]; decide) (by rw [c40_5]; rfl) (by decide) ?_
                exact w_j_La_law_520 ok ht hc1 hc2 hrec h
              · replace h := (if_neg c40_5).symm.trans h
                by_cases c40_6 : x4 = (6 : Int32)
                · replace h := (if_pos c40_6).symm.trans h
                  refine g_tabIn (off := 516) (tgt := 556) ok d_La_law_40 (by rw [c40_6]; decide) (by rw [c40_6]; decide) (by rw [c40_6]; rfl) (by decide) ?_
                  exact w_j_La_law_556 ok ht hc1 hc2 hrec h
                · replace h := (if_neg c40_6).symm.trans h
                  by_cases c40_7 : x4 = (7 : Int32)
                  · replace h := (if_pos c40_7).symm.trans h
                    refine g_tabIn (off := 596) (tgt := 636) ok d_La_law_40 (by rw [c40_7]; decide) (by rw [c40_7]; decide) (by rw [c40_7]; rfl) (by decide) ?_
                    exact w_j_La_law_636 ok ht hc1 hc2 hrec h
                  · replace h := (if_neg c40_7).symm.trans h
                    by_cases c40_8 : x4 = (8 : Int32)
                    · replace h := (if_pos c40_8).symm.trans h
                      refine g_tabIn (off := 664) (tgt := 704) ok d_La_law_40 (by rw [c40_8]; decide) (by rw [c40_8]; decide) (by rw [c40_8]; rfl) (by decide) ?_
                      exact w_j_La_law_704 ok ht hc1 hc2 hrec h
                    · replace h := (if_neg c40_8).symm.trans h
                      by_cases c40_9 : x4 = (9 : Int32)
                      · replace h := (if_pos c40_9).symm.trans h
                        refine g_tabIn (off := 677) (tgt := 717) ok d_La_law_40 (by rw [c40_9]; decide) (by rw [c40_9]; decide) (by rw [c40_9]; rfl) (by decide) ?_
                        exact w_j_La_law_717 ok ht hc1 hc2 hrec h
                      · replace h := (if_neg c40_9).symm.trans h
                        by_cases c40_10 : x4 = (10 : Int32)
                        · replace h := (if_pos c40_10).symm.trans h
                          refine g_tabIn (off := 733) (tgt := 773) ok d_La_law_40 (by rw [c40_10]; decide) (by rw [c40_10]; decide) (by rw [c40_10]; rfl) (by decide) ?_
                          exact w_j_La_law_773 ok ht hc1 hc2 hrec h
                        · replace h := (if_neg c40_10).symm.trans h
                          by_cases c40_11 : x4 = (11 : Int32)
                          · replace h := (if_pos c40_11).symm.trans h
                            refine g_tabIn (off := 813) (tgt := 853) ok d_La_law_40 (by rw [c40_11]; decide) (by rw [c40_11]; decide) (by rw [c40_11]; rfl) (by decide) ?_
                            exact w_j_La_law_853 ok ht hc1 hc2 hrec h
                          · replace h := (if_neg c40_11).symm.trans h
                            by_cases c40_12 : x4 = (12 : Int32)
                            · replace h := (if_pos c40_12).symm.trans h
                              refine g_tabIn (off := 826) (tgt := 866) ok d_La_law_40 (by rw [c40_12]; decide) (by rw [c40_12]; decide) (by rw [c40_12]; rfl) (by decide) ?_
                              exact w_j_La_law_866 ok ht hc1 hc2 hrec h
                            · replace h := (if_neg c40_12).symm.trans h
                              by_cases c40_13 : x4 = (13 : Int32)
                              · replace h := (if_pos c40_13).symm.trans h
                                refine g_tabIn (off := 862) (tgt := 902) ok d_La_law_40 (by rw [c40_13]; decide) (by rw [c40_13]; decide) (by rw [c40_13]; rfl) (by decide) ?_
                                exact w_j_La_law_902 ok ht hc1 hc2 hrec h
                              · replace h := (if_neg c40_13).symm.trans h
                                by_cases c40_14 : x4 = (14 : Int32)
                                · replace h := (if_pos c40_14).symm.trans h
                                  refine g_tabIn (off := 918) (tgt := 958) ok d_La_law_40 (by rw [c40_14]; decide) (by rw [c40_14]; decide) (by rw [c40_14]; rfl) (by decide) ?_
                                  exact w_j_La_law_958 ok ht hc1 hc2 hrec h
                                · replace h := (if_neg c40_14).symm.trans h
                                  by_cases c40_15 : x4 = (15 : Int32)
                                  · replace h := (if_pos c40_15).symm.trans h
                                    refine g_tabIn (off := 974) (tgt := 1014) ok d_La_law_40 (by rw [c40_15]; decide) (by rw [c40_15]; decide) (by rw [c40_15]; rfl) (by decide) ?_
                                    exact w_j_La_law_1014 ok ht hc1 hc2 hrec h
                                  · replace h := (if_neg c40_15).symm.trans h
                                    by_cases c40_16 : x4 = (16 : Int32)
                                    · replace h := (if_pos c40_16).symm.trans h
                                      refine g_tabIn (off := 1042) (tgt := 1082) ok d_La_law_40 (by rw [c40_16]; decide) (by rw [c40_16]; decide) (by rw [c40_16]; rfl) (by decide) ?_
                                      exact w_j_La_law_1082 ok ht hc1 hc2 hrec h
                                    · replace h := (if_neg c40_16).symm.trans h
                                      by_cases c40_17 : x4 = (17 : Int32)
                                      · replace h := (if_pos c40_17).symm.trans h
                                        refine g_tabIn (off := 1055) (tgt := 1095) ok d_La_law_40 (by rw [c40_17]; decide) (by rw [c40_17]; decide) (by rw [c40_17]; rfl) (by decide) ?_
                                        exact w_j_La_law_1095 ok ht hc1 hc2 hrec h
                                      · replace h := (if_neg c40_17).symm.trans h
                                        by_cases c40_18 : x4 = (18 : Int32)
                                        · replace h := (if_pos c40_18).symm.trans h
                                          refine g_tabIn (off := 1068) (tgt := 1108) ok d_La_law_40 (by rw [c40_18]; decide) (by rw [c40_18]; decide) (by rw [c40_18]; rfl) (by decide) ?_
                                          exact w_j_La_law_1108 ok ht hc1 hc2 hrec h
                                        · replace h := (if_neg c40_18).symm.trans h
                                          by_cases c40_19 : x4 = (19 : Int32)
                                          · replace h := (if_pos c40_19).symm.trans h
                                            refine g_tabIn (off := 1124) (tgt := 1164) ok d_La_law_40 (by rw [c40_19]; decide) (by rw [c40_19]; decide) (by rw [c40_19]; rfl) (by decide) ?_
                                            exact w_j_La_law_1164 ok ht hc1 hc2 hrec h
                                          · replace h := (if_neg c40_19).symm.trans h
                                            by_cases c40_20 : x4 = (20 : Int32)
                                            · replace h := (if_pos c40_20).symm.trans h
                                              refine g_tabIn (off := 1192) (tgt := 1232) ok d_La_law_40 (by rw [c40_20]; decide) (by rw [c40_20]; decide) (by rw [c40_20]; rfl) (by decide) ?_
                                              exact w_j_La_law_1232 ok ht hc1 hc2 hrec h
                                            · replace h := (if_neg c40_20).symm.trans h
                                              by_cases c40_21 : x4 = (21 : Int32)
                                              · replace h := (if_pos c40_21).symm.trans h
                                                refine g_tabIn (off := 1267) (tgt := 1307) ok d_La_law_40 (by rw [c40_21]; decide) (by rw [c40_21]; decide) (by rw [c40_21]; rfl) (by decide) ?_
                                                exact w_j_La_law_1307 ok ht hc1 hc2 hrec h
                                              · replace h := (if_neg c40_21).symm.trans h
                                                by_cases c40_22 : x4 = (22 : Int32)
                                                · replace h := (if_pos c40_22).symm.trans h
                                                  refine g_tabIn (off := 1342) (tgt := 1382) ok d_La_law_40 (by rw [c40_22]; decide) (by rw [c40_22]; decide) (by rw [c40_22]; rfl) (by decide) ?_
                                                  exact w_j_La_law_1382 ok ht hc1 hc2 hrec h
                                                · replace h := (if_neg c40_22).symm.trans h
                                                  by_cases c40_23 : x4 = (23 : Int32)
                                                  · replace h := (if_pos c40_23).symm.trans h
                                                    refine g_tabIn (off := 1410) (tgt := 1450) ok d_La_law_40 (by rw [c40_23]; decide) (by rw [c40_23]; decide) (by rw [c40_23]; rfl) (by decide) ?_
                                                    exact w_j_La_law_1450 ok ht hc1 hc2 hrec h
                                                  · replace h := (if_neg c40_23).symm.trans h
                                                    by_cases c40_24 : x4 = (24 : Int32)
                                                    · replace h := (if_pos c40_24).symm.trans h
                                                      refine g_tabIn (off := 1478) (tgt := 1518) ok d_La_law_40 (by rw [c40_24]; decide) (by rw [c40_24]; decide) (by rw [c40_24]; rfl) (by decide) ?_
                                                      exact w_j_La_law_1518 ok ht hc1 hc2 hrec h
                                                    · replace h := (if_neg c40_24).symm.trans h
                                                      refine g_tabOut (tgt := 1574) ok d_La_law_40 (tab_out (fun z h1 h2 => ?_)) (by decide) ?_
                                                      · rcases (show z = 0 ∨ z = 1 ∨ z = 2 ∨ z = 3 ∨ z = 4 ∨ z = 5 ∨ z = 6 ∨ z = 7 ∨ z = 8 ∨ z = 9 ∨ z = 10 ∨ z = 11 ∨ z = 12 ∨ z = 13 ∨ z = 14 ∨ z = 15 ∨ z = 16 ∨ z = 17 ∨ z = 18 ∨ z = 19 ∨ z = 20 ∨ z = 21 ∨ z = 22 ∨ z = 23 ∨ z = 24 by omega) with rfl | rfl | rfl | rfl | rfl | rfl | rfl | rfl | rfl | rfl | rfl | rfl | rfl | rfl | rfl | rfl | rfl | rfl | rfl | rfl | rfl | rfl | rfl | rfl | rfl
                                                        · exact c40_0
                                                        · exact c40_1
                                                        · exact c40_2
                                                        · exact c40_3
                                                        · exact c40_4
                                                        · exact c40_5
                                                        · exact c40_6
                                                        · exact c40_7
                                                        · exact c40_8
                                                        · exact c40_9
                                                        · exact c40_10
                                                        · exact c40_11
                                                        · exact c40_12
                                                        · exact c40_13
                                                        · exact c40_14
                                                        · exact c40_15
                                                        · exact c40_16
                                                        · exact c40_17
                                                        · exact c40_18
                                                        · exact c40_19
                                                        · exact c40_20
                                                        · exact c40_21
                                                        · exact c40_22
                                                        · exact c40_23
                                                        · exact c40_24
                                                      · obtain ⟨x761, e762⟩ : ∃ z, a4 + (6 : Int32) = z := ⟨_, rfl⟩
                                                        replace h := lt_go h e762
                                                        refine g_iinc (i := 4) (v := x761) 4 [(4, vI x761), (0, vW (Value.ref b)), (1, vR a1), (2, vR a2), (3, vR a3)] ok d_La_law_1574 rfl (by rw [← e762]; rfl) (by decide) rfl ?_
                                                        refine g_goto (tgt := 23) ok d_La_law_1577 (by decide) ?_
                                                        refine g_sub [1, 2, 3, 4, 0] rfl ?_
                                                        refine g_widen (ce' := (ce0 + 100)) (sl' := (sl0 + 1200)) (by omega) (by omega) ?_
                                                        exact hrec x761 s h
theorem w_l_La_law_23 {X : CX} {b L : Nat} {xs : Nat → Int32} {a1 a2 a3 : Option Nat} (ok : Ok X code RL rm_La_law 7 true) (ht : Sc X b L xs) {c0 d0 : Nat} (hc : c0 + 51300 ≤ 601024 ∧ d0 + 615600 ≤ 7293034) : ∀ (n : Nat), n ≤ 513 → ∀ (a4 : Int32) (s : MS), l_La_law_23 L xs a1 a2 a3 n a4 s = some 1 → G X s (c0 + (513 - n) * 100) (d0 + (513 - n) * 1200) 23 [(0, vW (Value.ref b)), (1, vR a1), (2, vR a2), (3, vR a3), (4, vI a4)] [] := by
  intro n
  induction n with
  | zero => intro _ a4 s h; cases h
  | succ n ih =>
    intro hn a4 s h
    refine w_b_La_law_23 ok ht (by omega) (by omega) (fun v4 z h2 => ?_) h
    have q := ih (by omega) v4 z h2
    rw [show c0 + (513 - (n + 1)) * 100 + 100 = c0 + (513 - n) * 100 by omega, show d0 + (513 - (n + 1)) * 1200 + 1200 = d0 + (513 - n) * 1200 by omega]
    exact q
set_option maxRecDepth 100000 in
set_option maxHeartbeats 4000000 in
theorem w_La_law {X : CX} {b L : Nat} {xs : Nat → Int32} {s : MS} (ok : Ok X code RL rm_La_law 7 true) (ht : Sc X b L xs) (h : f_La_law L xs s = some 1) : G X s 0 0 0 [(0, vW (Value.ref b))] [] := by
  unfold f_La_law at h
  obtain ⟨o763, e764⟩ : ∃ z, nid s 0 = z := ⟨_, rfl⟩
  replace h := lt_go h e764
  refine g_new (s0 := 0) (ci := 4) (C := RX4) (T := TX4) (N := 14) (ty := tyX4) ok (by decide) lay_0 rfl inX4 tyX4_ok hdfX4 tw_14 tw_15 tw_1 ⟨trivial, trivial⟩ trivial (by decide) (by decide) d_La_law_0 ?_
  rw [e764]
  obtain ⟨s765, e766⟩ : ∃ z, nw s 0 = z := ⟨_, rfl⟩
  replace h := lt_go h e766
  have m767 := mo_nw (by decide) e766
  rw [e766]
  have hk768 : rf s765.2.2 0 (some o763) = some o763 := by rw [← e764]; exact rf_new (by decide) e766
  refine g_dup ok d_La_law_3 rfl ?_
  obtain ⟨s771, hc770, h⟩ := bnd_go h
  refine g_invIA (rm2 := rm_Sk_init) (As := []) (rest := [vR (some o763)]) ok hk768 (c_Sk_init X.1.2.1 (rf_self hk768) hc770) cm_Sk_init ci_Sk_init tw_16 ⟨rfl, rfl⟩ ⟨le_t rfl, le_t rfl⟩ ⟨rfl, le_t rfl⟩ ⟨le_t rfl, le_t rfl⟩ ⟨trivial, trivial⟩ ⟨(rk_of hk768), trivial⟩ d_La_law_4 rfl (fun m769 => ?_)
  show G X s771 12 325 7 [(0, vW (Value.ref b))] [vR (some o763)]
  obtain ⟨x772, e773⟩ : ∃ z, (some o763) = z := ⟨_, rfl⟩
  replace h := lt_go h e773
  rw [e773]
  refine g_astore_n (i := 1) [(1, vR x772), (0, vW (Value.ref b))] ok d_La_law_7 rfl (by decide) rfl ?_
  obtain ⟨k774, hk775, h⟩ := bnd_go h
  obtain ⟨o776, e777⟩ : ∃ z, nid s771 20 = z := ⟨_, rfl⟩
  replace h := lt_go h e777
  refine g_new (s0 := 20) (ci := 5) (C := RX5) (T := TX5) (N := 29) (ty := tyX5) ok (by decide) lay_20 rfl inX5 tyX5_ok hdfX5 tw_732 tw_733 tw_4 ⟨(rk_of hk775), ⟨trivial, trivial⟩⟩ trivial (by decide) (by decide) d_La_law_8 ?_
  rw [e777]
  obtain ⟨s778, e779⟩ : ∃ z, nw s771 20 = z := ⟨_, rfl⟩
  replace h := lt_go h e779
  have m780 := mo_nw (by decide) e779
  rw [e779]
  have hk781 : rf s778.2.2 20 (some o776) = some o776 := by rw [← e777]; exact rf_new (by decide) e779
  refine g_dup ok d_La_law_11 rfl ?_
  obtain ⟨s784, hc783, h⟩ := bnd_go h
  refine g_invIA (rm2 := rm_Mo_init) (As := []) (rest := [vR (some o776)]) ok hk781 (c_Mo_init X.1.2.1 (rf_self hk781) hc783) cm_Mo_init ci_Mo_init tw_734 ⟨rfl, rfl⟩ ⟨le_t rfl, le_t rfl⟩ ⟨rfl, le_t rfl⟩ ⟨le_t rfl, le_t rfl⟩ ⟨(rk_of (rf_mono m780 hk775)), ⟨trivial, trivial⟩⟩ ⟨(rk_of hk781), trivial⟩ d_La_law_12 rfl (fun m782 => ?_)
  show G X s784 32 4275 15 [(1, vR x772), (0, vW (Value.ref b))] [vR (some o776)]
  obtain ⟨x785, e786⟩ : ∃ z, (some o776) = z := ⟨_, rfl⟩
  replace h := lt_go h e786
  rw [e786]
  refine g_astore_n (i := 2) [(2, vR x785), (1, vR x772), (0, vW (Value.ref b))] ok d_La_law_15 rfl (by decide) rfl ?_
  refine g_iconst (v := (1 : Int32)) ok d_La_law_16 (by decide) ?_
  obtain ⟨k787, hk788, h⟩ := bnd_go h
  obtain ⟨o789, e790⟩ : ∃ z, nid s784 50 = z := ⟨_, rfl⟩
  replace h := lt_go h e790
  refine g_newa2 (s0 := 50) (n := 1) ok (by decide) lay_50 (by decide) (by decide) (by decide) tw_1039 ⟨(rk_of hk788), ⟨(rk_of (rf_mono m782 (rf_mono m780 hk775))), ⟨trivial, trivial⟩⟩⟩ trivial (by decide) (by decide) d_La_law_17 ?_
  rw [e790]
  obtain ⟨s791, e792⟩ : ∃ z, nw s784 50 = z := ⟨_, rfl⟩
  replace h := lt_go h e792
  have m793 := mo_nw (by decide) e792
  rw [e792]
  have hk794 : rf s791.2.2 50 (some o789) = some o789 := by rw [← e790]; exact rf_new (by decide) e792
  obtain ⟨x795, e796⟩ : ∃ z, (some o789) = z := ⟨_, rfl⟩
  replace h := lt_go h e796
  rw [e796]
  refine g_astore_n (i := 3) [(3, vR x795), (2, vR x785), (1, vR x772), (0, vW (Value.ref b))] ok d_La_law_19 rfl (by decide) rfl ?_
  refine g_iconst (v := (0 : Int32)) ok d_La_law_20 (by decide) ?_
  refine g_istore (i := 4) [(4, vI (0 : Int32)), (3, vR x795), (2, vR x785), (1, vR x772), (0, vW (Value.ref b))] ok d_La_law_21 (by decide) rfl ?_
  refine g_sub [4, 3, 2, 1, 0] rfl ?_
  have q := w_l_La_law_23 ok ht (c0 := 33) (d0 := 4276) ⟨le_t rfl, le_t rfl⟩ 513 (Nat.le_refl _) _ _ h
  exact q
