abbrev rm_La_machinesHold : Room := { frames := 8, cells := 123, slots := 738, locals := 136 }
theorem cm_La_machinesHold : cfM yL_machinesHold cL_machinesHold 15 (some .boolean) 4 := ⟨tw_685, tw_0, by decide, by decide, by decide +kernel⟩
theorem cs_La_machinesHold : cfS yL_machinesHold := tw_684
theorem d_La_machinesHold_0 : decode cL_machinesHold 0 = .ok (.lconst 0, 1) := by decide +kernel
theorem d_La_machinesHold_1 : decode cL_machinesHold 1 = .ok (.lstore 4, 2) := by decide +kernel
theorem d_La_machinesHold_3 : decode cL_machinesHold 3 = .ok (.aload_n 0, 1) := by decide +kernel
theorem d_La_machinesHold_4 : decode cL_machinesHold 4 = .ok (.iload_n 1, 1) := by decide +kernel
theorem d_La_machinesHold_5 : decode cL_machinesHold 5 = .ok (.iconst 0, 1) := by decide +kernel
theorem d_La_machinesHold_6 : decode cL_machinesHold 6 = .ok (.invokestatic 92, 3) := by decide +kernel
theorem d_La_machinesHold_9 : decode cL_machinesHold 9 = .ok (.ldc2_w 17, 3) := by decide +kernel
theorem d_La_machinesHold_12 : decode cL_machinesHold 12 = .ok (.lcmp, 1) := by decide +kernel
theorem d_La_machinesHold_13 : decode cL_machinesHold 13 = .ok (.ifCond .ne 7, 3) := by decide +kernel
theorem d_La_machinesHold_16 : decode cL_machinesHold 16 = .ok (.iconst 1, 1) := by decide +kernel
theorem d_La_machinesHold_17 : decode cL_machinesHold 17 = .ok (.goto 4, 3) := by decide +kernel
theorem d_La_machinesHold_20 : decode cL_machinesHold 20 = .ok (.iconst 0, 1) := by decide +kernel
theorem d_La_machinesHold_21 : decode cL_machinesHold 21 = .ok (.istore 6, 2) := by decide +kernel
theorem d_La_machinesHold_23 : decode cL_machinesHold 23 = .ok (.iconst 0, 1) := by decide +kernel
theorem d_La_machinesHold_24 : decode cL_machinesHold 24 = .ok (.istore 7, 2) := by decide +kernel
theorem d_La_machinesHold_26 : decode cL_machinesHold 26 = .ok (.iload 7, 2) := by decide +kernel
theorem d_La_machinesHold_28 : decode cL_machinesHold 28 = .ok (.iload_n 1, 1) := by decide +kernel
theorem d_La_machinesHold_29 : decode cL_machinesHold 29 = .ok (.if_icmp .ge 316, 3) := by decide +kernel
theorem d_La_machinesHold_32 : decode cL_machinesHold 32 = .ok (.iload 6, 2) := by decide +kernel
theorem d_La_machinesHold_34 : decode cL_machinesHold 34 = .ok (.ifCond .eq 311, 3) := by decide +kernel
theorem d_La_machinesHold_37 : decode cL_machinesHold 37 = .ok (.aload_n 0, 1) := by decide +kernel
theorem d_La_machinesHold_38 : decode cL_machinesHold 38 = .ok (.iload 7, 2) := by decide +kernel
theorem d_La_machinesHold_40 : decode cL_machinesHold 40 = .ok (.iconst 0, 1) := by decide +kernel
theorem d_La_machinesHold_41 : decode cL_machinesHold 41 = .ok (.invokestatic 92, 3) := by decide +kernel
theorem d_La_machinesHold_44 : decode cL_machinesHold 44 = .ok (.lstore 8, 2) := by decide +kernel
theorem d_La_machinesHold_46 : decode cL_machinesHold 46 = .ok (.aload_n 0, 1) := by decide +kernel
theorem d_La_machinesHold_47 : decode cL_machinesHold 47 = .ok (.iload 7, 2) := by decide +kernel
theorem d_La_machinesHold_49 : decode cL_machinesHold 49 = .ok (.iconst 5, 1) := by decide +kernel
theorem d_La_machinesHold_50 : decode cL_machinesHold 50 = .ok (.invokestatic 92, 3) := by decide +kernel
theorem d_La_machinesHold_53 : decode cL_machinesHold 53 = .ok (.lstore 10, 2) := by decide +kernel
theorem d_La_machinesHold_55 : decode cL_machinesHold 55 = .ok (.ldc2_w 97, 3) := by decide +kernel
theorem d_La_machinesHold_58 : decode cL_machinesHold 58 = .ok (.aload_n 0, 1) := by decide +kernel
theorem d_La_machinesHold_59 : decode cL_machinesHold 59 = .ok (.iload 7, 2) := by decide +kernel
theorem d_La_machinesHold_61 : decode cL_machinesHold 61 = .ok (.iconst 2, 1) := by decide +kernel
theorem d_La_machinesHold_62 : decode cL_machinesHold 62 = .ok (.invokestatic 92, 3) := by decide +kernel
theorem d_La_machinesHold_65 : decode cL_machinesHold 65 = .ok (.lmul, 1) := by decide +kernel
theorem d_La_machinesHold_66 : decode cL_machinesHold 66 = .ok (.aload_n 0, 1) := by decide +kernel
theorem d_La_machinesHold_67 : decode cL_machinesHold 67 = .ok (.iload 7, 2) := by decide +kernel
theorem d_La_machinesHold_69 : decode cL_machinesHold 69 = .ok (.iconst 1, 1) := by decide +kernel
theorem d_La_machinesHold_70 : decode cL_machinesHold 70 = .ok (.invokestatic 92, 3) := by decide +kernel
theorem d_La_machinesHold_73 : decode cL_machinesHold 73 = .ok (.ladd, 1) := by decide +kernel
theorem d_La_machinesHold_74 : decode cL_machinesHold 74 = .ok (.lstore 12, 2) := by decide +kernel
theorem d_La_machinesHold_76 : decode cL_machinesHold 76 = .ok (.lload 4, 2) := by decide +kernel
theorem d_La_machinesHold_78 : decode cL_machinesHold 78 = .ok (.lload 8, 2) := by decide +kernel
theorem d_La_machinesHold_80 : decode cL_machinesHold 80 = .ok (.ldc2_w 99, 3) := by decide +kernel
theorem d_La_machinesHold_83 : decode cL_machinesHold 83 = .ok (.lcmp, 1) := by decide +kernel
theorem d_La_machinesHold_84 : decode cL_machinesHold 84 = .ok (.ifCond .ne 7, 3) := by decide +kernel
theorem d_La_machinesHold_87 : decode cL_machinesHold 87 = .ok (.lconst 1, 1) := by decide +kernel
theorem d_La_machinesHold_88 : decode cL_machinesHold 88 = .ok (.goto 4, 3) := by decide +kernel
theorem d_La_machinesHold_91 : decode cL_machinesHold 91 = .ok (.lconst 0, 1) := by decide +kernel
theorem d_La_machinesHold_92 : decode cL_machinesHold 92 = .ok (.ladd, 1) := by decide +kernel
theorem d_La_machinesHold_93 : decode cL_machinesHold 93 = .ok (.lstore 4, 2) := by decide +kernel
theorem d_La_machinesHold_95 : decode cL_machinesHold 95 = .ok (.aload_n 0, 1) := by decide +kernel
theorem d_La_machinesHold_96 : decode cL_machinesHold 96 = .ok (.iload 7, 2) := by decide +kernel
theorem d_La_machinesHold_98 : decode cL_machinesHold 98 = .ok (.iconst 3, 1) := by decide +kernel
theorem d_La_machinesHold_99 : decode cL_machinesHold 99 = .ok (.invokestatic 92, 3) := by decide +kernel
theorem d_La_machinesHold_102 : decode cL_machinesHold 102 = .ok (.aload_n 3, 1) := by decide +kernel
theorem d_La_machinesHold_103 : decode cL_machinesHold 103 = .ok (.iload 7, 2) := by decide +kernel
theorem d_La_machinesHold_105 : decode cL_machinesHold 105 = .ok (.iaload, 1) := by decide +kernel
theorem d_La_machinesHold_106 : decode cL_machinesHold 106 = .ok (.i2l, 1) := by decide +kernel
theorem d_La_machinesHold_107 : decode cL_machinesHold 107 = .ok (.lcmp, 1) := by decide +kernel
theorem d_La_machinesHold_108 : decode cL_machinesHold 108 = .ok (.ifCond .gt 89, 3) := by decide +kernel
theorem d_La_machinesHold_111 : decode cL_machinesHold 111 = .ok (.lload 8, 2) := by decide +kernel
theorem d_La_machinesHold_113 : decode cL_machinesHold 113 = .ok (.ldc2_w 99, 3) := by decide +kernel
theorem d_La_machinesHold_116 : decode cL_machinesHold 116 = .ok (.lcmp, 1) := by decide +kernel
theorem d_La_machinesHold_117 : decode cL_machinesHold 117 = .ok (.ifCond .eq 15, 3) := by decide +kernel
theorem d_La_machinesHold_120 : decode cL_machinesHold 120 = .ok (.aload_n 0, 1) := by decide +kernel
theorem d_La_machinesHold_121 : decode cL_machinesHold 121 = .ok (.iload 7, 2) := by decide +kernel
theorem d_La_machinesHold_123 : decode cL_machinesHold 123 = .ok (.iconst 3, 1) := by decide +kernel
theorem d_La_machinesHold_124 : decode cL_machinesHold 124 = .ok (.invokestatic 92, 3) := by decide +kernel
theorem d_La_machinesHold_127 : decode cL_machinesHold 127 = .ok (.lconst 0, 1) := by decide +kernel
theorem d_La_machinesHold_128 : decode cL_machinesHold 128 = .ok (.lcmp, 1) := by decide +kernel
theorem d_La_machinesHold_129 : decode cL_machinesHold 129 = .ok (.ifCond .lt 68, 3) := by decide +kernel
theorem d_La_machinesHold_132 : decode cL_machinesHold 132 = .ok (.lload 8, 2) := by decide +kernel
theorem d_La_machinesHold_134 : decode cL_machinesHold 134 = .ok (.lconst 0, 1) := by decide +kernel
theorem d_La_machinesHold_135 : decode cL_machinesHold 135 = .ok (.lcmp, 1) := by decide +kernel
theorem d_La_machinesHold_136 : decode cL_machinesHold 136 = .ok (.ifCond .ne 21, 3) := by decide +kernel
theorem d_La_machinesHold_139 : decode cL_machinesHold 139 = .ok (.lload 12, 2) := by decide +kernel
theorem d_La_machinesHold_141 : decode cL_machinesHold 141 = .ok (.ldc2_w 97, 3) := by decide +kernel
theorem d_La_machinesHold_144 : decode cL_machinesHold 144 = .ok (.lcmp, 1) := by decide +kernel
theorem d_La_machinesHold_145 : decode cL_machinesHold 145 = .ok (.ifCond .ge 52, 3) := by decide +kernel
theorem d_La_machinesHold_148 : decode cL_machinesHold 148 = .ok (.aload_n 2, 1) := by decide +kernel
theorem d_La_machinesHold_149 : decode cL_machinesHold 149 = .ok (.lload 12, 2) := by decide +kernel
theorem d_La_machinesHold_151 : decode cL_machinesHold 151 = .ok (.invokestatic 101, 3) := by decide +kernel
theorem d_La_machinesHold_154 : decode cL_machinesHold 154 = .ok (.ifCond .eq 43, 3) := by decide +kernel
theorem d_La_machinesHold_157 : decode cL_machinesHold 157 = .ok (.lload 8, 2) := by decide +kernel
theorem d_La_machinesHold_159 : decode cL_machinesHold 159 = .ok (.ldc2_w 105, 3) := by decide +kernel
theorem d_La_machinesHold_162 : decode cL_machinesHold 162 = .ok (.lcmp, 1) := by decide +kernel
theorem d_La_machinesHold_163 : decode cL_machinesHold 163 = .ok (.ifCond .ne 12, 3) := by decide +kernel
theorem d_La_machinesHold_166 : decode cL_machinesHold 166 = .ok (.lload 12, 2) := by decide +kernel
theorem d_La_machinesHold_168 : decode cL_machinesHold 168 = .ok (.ldc2_w 97, 3) := by decide +kernel
theorem d_La_machinesHold_171 : decode cL_machinesHold 171 = .ok (.lcmp, 1) := by decide +kernel
theorem d_La_machinesHold_172 : decode cL_machinesHold 172 = .ok (.ifCond .lt 25, 3) := by decide +kernel
theorem d_La_machinesHold_175 : decode cL_machinesHold 175 = .ok (.lload 8, 2) := by decide +kernel
theorem d_La_machinesHold_177 : decode cL_machinesHold 177 = .ok (.ldc2_w 105, 3) := by decide +kernel
theorem d_La_machinesHold_180 : decode cL_machinesHold 180 = .ok (.lcmp, 1) := by decide +kernel
theorem d_La_machinesHold_181 : decode cL_machinesHold 181 = .ok (.ifCond .lt 12, 3) := by decide +kernel
theorem d_La_machinesHold_184 : decode cL_machinesHold 184 = .ok (.lload 10, 2) := by decide +kernel
theorem d_La_machinesHold_186 : decode cL_machinesHold 186 = .ok (.ldc2_w 107, 3) := by decide +kernel
theorem d_La_machinesHold_189 : decode cL_machinesHold 189 = .ok (.lcmp, 1) := by decide +kernel
theorem d_La_machinesHold_190 : decode cL_machinesHold 190 = .ok (.ifCond .ne 7, 3) := by decide +kernel
theorem d_La_machinesHold_193 : decode cL_machinesHold 193 = .ok (.iconst 1, 1) := by decide +kernel
theorem d_La_machinesHold_194 : decode cL_machinesHold 194 = .ok (.goto 4, 3) := by decide +kernel
theorem d_La_machinesHold_197 : decode cL_machinesHold 197 = .ok (.iconst 0, 1) := by decide +kernel
theorem d_La_machinesHold_198 : decode cL_machinesHold 198 = .ok (.istore 6, 2) := by decide +kernel
theorem d_La_machinesHold_200 : decode cL_machinesHold 200 = .ok (.iload 6, 2) := by decide +kernel
theorem d_La_machinesHold_202 : decode cL_machinesHold 202 = .ok (.ifCond .eq 91, 3) := by decide +kernel
theorem d_La_machinesHold_205 : decode cL_machinesHold 205 = .ok (.lload 10, 2) := by decide +kernel
theorem d_La_machinesHold_207 : decode cL_machinesHold 207 = .ok (.lconst 0, 1) := by decide +kernel
theorem d_La_machinesHold_208 : decode cL_machinesHold 208 = .ok (.lcmp, 1) := by decide +kernel
theorem d_La_machinesHold_209 : decode cL_machinesHold 209 = .ok (.ifCond .lt 84, 3) := by decide +kernel
theorem d_La_machinesHold_212 : decode cL_machinesHold 212 = .ok (.lload 10, 2) := by decide +kernel
theorem d_La_machinesHold_214 : decode cL_machinesHold 214 = .ok (.l2i, 1) := by decide +kernel
theorem d_La_machinesHold_215 : decode cL_machinesHold 215 = .ok (.istore 14, 2) := by decide +kernel
theorem d_La_machinesHold_217 : decode cL_machinesHold 217 = .ok (.aload_n 0, 1) := by decide +kernel
theorem d_La_machinesHold_218 : decode cL_machinesHold 218 = .ok (.iload 14, 2) := by decide +kernel
theorem d_La_machinesHold_220 : decode cL_machinesHold 220 = .ok (.iconst 1, 1) := by decide +kernel
theorem d_La_machinesHold_221 : decode cL_machinesHold 221 = .ok (.invokestatic 109, 3) := by decide +kernel
theorem d_La_machinesHold_224 : decode cL_machinesHold 224 = .ok (.iload 7, 2) := by decide +kernel
theorem d_La_machinesHold_226 : decode cL_machinesHold 226 = .ok (.i2l, 1) := by decide +kernel
theorem d_La_machinesHold_227 : decode cL_machinesHold 227 = .ok (.lcmp, 1) := by decide +kernel
theorem d_La_machinesHold_228 : decode cL_machinesHold 228 = .ok (.ifCond .ne 62, 3) := by decide +kernel
theorem d_La_machinesHold_231 : decode cL_machinesHold 231 = .ok (.aload_n 0, 1) := by decide +kernel
theorem d_La_machinesHold_232 : decode cL_machinesHold 232 = .ok (.iload 14, 2) := by decide +kernel
theorem d_La_machinesHold_234 : decode cL_machinesHold 234 = .ok (.iconst 0, 1) := by decide +kernel
theorem d_La_machinesHold_235 : decode cL_machinesHold 235 = .ok (.invokestatic 109, 3) := by decide +kernel
theorem d_La_machinesHold_238 : decode cL_machinesHold 238 = .ok (.lload 8, 2) := by decide +kernel
theorem d_La_machinesHold_240 : decode cL_machinesHold 240 = .ok (.lcmp, 1) := by decide +kernel
theorem d_La_machinesHold_241 : decode cL_machinesHold 241 = .ok (.ifCond .ne 49, 3) := by decide +kernel
theorem d_La_machinesHold_244 : decode cL_machinesHold 244 = .ok (.lload 8, 2) := by decide +kernel
theorem d_La_machinesHold_246 : decode cL_machinesHold 246 = .ok (.lconst 1, 1) := by decide +kernel
theorem d_La_machinesHold_247 : decode cL_machinesHold 247 = .ok (.lcmp, 1) := by decide +kernel
theorem d_La_machinesHold_248 : decode cL_machinesHold 248 = .ok (.ifCond .ne 22, 3) := by decide +kernel
theorem d_La_machinesHold_251 : decode cL_machinesHold 251 = .ok (.aload_n 0, 1) := by decide +kernel
theorem d_La_machinesHold_252 : decode cL_machinesHold 252 = .ok (.iload 14, 2) := by decide +kernel
theorem d_La_machinesHold_254 : decode cL_machinesHold 254 = .ok (.aload_n 0, 1) := by decide +kernel
theorem d_La_machinesHold_255 : decode cL_machinesHold 255 = .ok (.invokevirtual 111, 3) := by decide +kernel
theorem d_La_machinesHold_258 : decode cL_machinesHold 258 = .ok (.invokestatic 115, 3) := by decide +kernel
theorem d_La_machinesHold_261 : decode cL_machinesHold 261 = .ok (.lload 12, 2) := by decide +kernel
theorem d_La_machinesHold_263 : decode cL_machinesHold 263 = .ok (.lcmp, 1) := by decide +kernel
theorem d_La_machinesHold_264 : decode cL_machinesHold 264 = .ok (.ifCond .ne 26, 3) := by decide +kernel
theorem d_La_machinesHold_267 : decode cL_machinesHold 267 = .ok (.goto 19, 3) := by decide +kernel
theorem d_La_machinesHold_270 : decode cL_machinesHold 270 = .ok (.aload_n 0, 1) := by decide +kernel
theorem d_La_machinesHold_271 : decode cL_machinesHold 271 = .ok (.iload 14, 2) := by decide +kernel
theorem d_La_machinesHold_273 : decode cL_machinesHold 273 = .ok (.iconst 2, 1) := by decide +kernel
theorem d_La_machinesHold_274 : decode cL_machinesHold 274 = .ok (.invokestatic 109, 3) := by decide +kernel
theorem d_La_machinesHold_277 : decode cL_machinesHold 277 = .ok (.aload_n 0, 1) := by decide +kernel
theorem d_La_machinesHold_278 : decode cL_machinesHold 278 = .ok (.invokevirtual 111, 3) := by decide +kernel
theorem d_La_machinesHold_281 : decode cL_machinesHold 281 = .ok (.i2l, 1) := by decide +kernel
theorem d_La_machinesHold_282 : decode cL_machinesHold 282 = .ok (.lcmp, 1) := by decide +kernel
theorem d_La_machinesHold_283 : decode cL_machinesHold 283 = .ok (.ifCond .le 7, 3) := by decide +kernel
theorem d_La_machinesHold_286 : decode cL_machinesHold 286 = .ok (.iconst 1, 1) := by decide +kernel
theorem d_La_machinesHold_287 : decode cL_machinesHold 287 = .ok (.goto 4, 3) := by decide +kernel
theorem d_La_machinesHold_290 : decode cL_machinesHold 290 = .ok (.iconst 0, 1) := by decide +kernel
theorem d_La_machinesHold_291 : decode cL_machinesHold 291 = .ok (.istore 6, 2) := by decide +kernel
theorem d_La_machinesHold_293 : decode cL_machinesHold 293 = .ok (.iload 6, 2) := by decide +kernel
theorem d_La_machinesHold_295 : decode cL_machinesHold 295 = .ok (.ifCond .eq 41, 3) := by decide +kernel
theorem d_La_machinesHold_298 : decode cL_machinesHold 298 = .ok (.lload 8, 2) := by decide +kernel
theorem d_La_machinesHold_300 : decode cL_machinesHold 300 = .ok (.lconst 1, 1) := by decide +kernel
theorem d_La_machinesHold_301 : decode cL_machinesHold 301 = .ok (.lcmp, 1) := by decide +kernel
theorem d_La_machinesHold_302 : decode cL_machinesHold 302 = .ok (.ifCond .ne 10, 3) := by decide +kernel
theorem d_La_machinesHold_305 : decode cL_machinesHold 305 = .ok (.lload 10, 2) := by decide +kernel
theorem d_La_machinesHold_307 : decode cL_machinesHold 307 = .ok (.lconst 0, 1) := by decide +kernel
theorem d_La_machinesHold_308 : decode cL_machinesHold 308 = .ok (.lcmp, 1) := by decide +kernel
theorem d_La_machinesHold_309 : decode cL_machinesHold 309 = .ok (.ifCond .lt 27, 3) := by decide +kernel
theorem d_La_machinesHold_312 : decode cL_machinesHold 312 = .ok (.lload 8, 2) := by decide +kernel
theorem d_La_machinesHold_314 : decode cL_machinesHold 314 = .ok (.lconst 0, 1) := by decide +kernel
theorem d_La_machinesHold_315 : decode cL_machinesHold 315 = .ok (.lcmp, 1) := by decide +kernel
theorem d_La_machinesHold_316 : decode cL_machinesHold 316 = .ok (.ifCond .eq 16, 3) := by decide +kernel
theorem d_La_machinesHold_319 : decode cL_machinesHold 319 = .ok (.aload_n 0, 1) := by decide +kernel
theorem d_La_machinesHold_320 : decode cL_machinesHold 320 = .ok (.iload 7, 2) := by decide +kernel
theorem d_La_machinesHold_322 : decode cL_machinesHold 322 = .ok (.invokestatic 117, 3) := by decide +kernel
theorem d_La_machinesHold_325 : decode cL_machinesHold 325 = .ok (.ldc2_w 107, 3) := by decide +kernel
theorem d_La_machinesHold_328 : decode cL_machinesHold 328 = .ok (.lcmp, 1) := by decide +kernel
theorem d_La_machinesHold_329 : decode cL_machinesHold 329 = .ok (.ifCond .ne 7, 3) := by decide +kernel
theorem d_La_machinesHold_332 : decode cL_machinesHold 332 = .ok (.iconst 1, 1) := by decide +kernel
theorem d_La_machinesHold_333 : decode cL_machinesHold 333 = .ok (.goto 4, 3) := by decide +kernel
theorem d_La_machinesHold_336 : decode cL_machinesHold 336 = .ok (.iconst 0, 1) := by decide +kernel
theorem d_La_machinesHold_337 : decode cL_machinesHold 337 = .ok (.istore 6, 2) := by decide +kernel
theorem d_La_machinesHold_339 : decode cL_machinesHold 339 = .ok (.iinc 7 1, 3) := by decide +kernel
theorem d_La_machinesHold_342 : decode cL_machinesHold 342 = .ok (.goto (-316), 3) := by decide +kernel
theorem d_La_machinesHold_345 : decode cL_machinesHold 345 = .ok (.iload 6, 2) := by decide +kernel
theorem d_La_machinesHold_347 : decode cL_machinesHold 347 = .ok (.ifCond .eq 29, 3) := by decide +kernel
theorem d_La_machinesHold_350 : decode cL_machinesHold 350 = .ok (.aload_n 0, 1) := by decide +kernel
theorem d_La_machinesHold_351 : decode cL_machinesHold 351 = .ok (.iconst 3, 1) := by decide +kernel
theorem d_La_machinesHold_352 : decode cL_machinesHold 352 = .ok (.invokestatic 120, 3) := by decide +kernel
theorem d_La_machinesHold_355 : decode cL_machinesHold 355 = .ok (.lload 4, 2) := by decide +kernel
theorem d_La_machinesHold_357 : decode cL_machinesHold 357 = .ok (.lcmp, 1) := by decide +kernel
theorem d_La_machinesHold_358 : decode cL_machinesHold 358 = .ok (.ifCond .ne 18, 3) := by decide +kernel
theorem d_La_machinesHold_361 : decode cL_machinesHold 361 = .ok (.aload_n 0, 1) := by decide +kernel
theorem d_La_machinesHold_362 : decode cL_machinesHold 362 = .ok (.iconst 4, 1) := by decide +kernel
theorem d_La_machinesHold_363 : decode cL_machinesHold 363 = .ok (.invokestatic 120, 3) := by decide +kernel
theorem d_La_machinesHold_366 : decode cL_machinesHold 366 = .ok (.lload 4, 2) := by decide +kernel
theorem d_La_machinesHold_368 : decode cL_machinesHold 368 = .ok (.lcmp, 1) := by decide +kernel
theorem d_La_machinesHold_369 : decode cL_machinesHold 369 = .ok (.ifCond .gt 7, 3) := by decide +kernel
theorem d_La_machinesHold_372 : decode cL_machinesHold 372 = .ok (.iconst 1, 1) := by decide +kernel
theorem d_La_machinesHold_373 : decode cL_machinesHold 373 = .ok (.goto 4, 3) := by decide +kernel
theorem d_La_machinesHold_376 : decode cL_machinesHold 376 = .ok (.iconst 0, 1) := by decide +kernel
theorem d_La_machinesHold_377 : decode cL_machinesHold 377 = .ok (.ireturn, 1) := by decide +kernel
set_option maxRecDepth 100000 in
set_option maxHeartbeats 4000000 in
theorem w_j_La_machinesHold_312 {X : CX} {KX : Int64 × Int32 × MS → Prop}  {a0 : Option Nat} {a1 : Int32} {a2 : Option Nat} {a3 : Option Nat} {a4 : Int64} {a7 : Int32} {a8 : Int64} {s : MS} {rec : Int64 → Int32 → Int32 → MS → Option (Int64 × Int32 × MS)} {sb : MS} {ce0 sl0 cB sB : Nat} (ok : Ok X cL_machinesHold RL rm_La_machinesHold 15 true) (hse : SE X.2.2.2.1 X.1.2.2.2.2.1 ∧ X.1.2.1.stackTraces = false) (hc1 : ce0 + 1 ≤ cB) (hc2 : sl0 + 6 ≤ sB) (hB1 : cB ≤ 123) (hB2 : sB ≤ 738) (hexit : ∀ (e4 : Int64) (e6 : Int32) (z : MS), KX (e4, e6, z) → (∀ q, dm sb q → dm z q) → G X z cB sB 345 [(0, vR a0), (4, vL e4), (6, vI e6)] []) (hrec : ∀ (v4 : Int64) (v6 : Int32) (v7 : Int32) (z : MS), (∀ q, dm sb q → dm z q) → ∀ y, rec v4 v6 v7 z = some y → KX y → G X z cB sB 26 [(0, vR a0), (1, vI a1), (2, vR a2), (3, vR a3), (4, vL v4), (6, vI v6), (7, vI v7)] []) (mb : ∀ q, dm sb q → dm s q) {res : Int64 × Int32 × MS} (h : j_La_machinesHold_312 a0 a1 a2 a3 a4 a7 a8 s rec = some res) (hk : KX res) : G X s ce0 sl0 312 [(0, vR a0), (1, vI a1), (2, vR a2), (3, vR a3), (4, vL a4), (7, vI a7), (8, vL a8)] [] := by
  unfold j_La_machinesHold_312 at h
  refine g_lload (i := 8) 6 ok d_La_machinesHold_312 rfl ?_
  refine g_lconst (v := (0 : Int64)) ok d_La_machinesHold_314 (by decide) ?_
  refine g_lcmp ok d_La_machinesHold_315 ?_
  refine g_if_eq (tgt := 332) ok d_La_machinesHold_316 (by decide) (fun c74 => ?_) (fun c74 => ?_)
  · replace h := (if_pos c74).symm.trans h
    refine g_iconst (v := (1 : Int32)) ok d_La_machinesHold_332 (by decide) ?_
    refine g_goto (tgt := 337) ok d_La_machinesHold_333 (by decide) ?_
    refine g_istore (i := 6) [(6, vI (1 : Int32)), (0, vR a0), (1, vI a1), (2, vR a2), (3, vR a3), (4, vL a4), (7, vI a7), (8, vL a8)] ok d_La_machinesHold_337 (by decide) rfl ?_
    obtain ⟨x75, e76⟩ : ∃ z, a7 + (1 : Int32) = z := ⟨_, rfl⟩
    replace h := lt_go h e76
    refine g_iinc (i := 7) (v := x75) 6 [(7, vI x75), (6, vI (1 : Int32)), (0, vR a0), (1, vI a1), (2, vR a2), (3, vR a3), (4, vL a4), (8, vL a8)] ok d_La_machinesHold_339 rfl (by rw [← e76]; rfl) (by decide) rfl ?_
    refine g_goto (tgt := 26) ok d_La_machinesHold_342 (by decide) ?_
    refine g_sub [2, 3, 4, 5, 6, 1, 0] rfl ?_
    refine g_widen (ce' := cB) (sl' := sB) (by omega) (by omega) ?_
    exact hrec a4 (1 : Int32) x75 s mb _ h hk
  · replace h := (if_neg c74).symm.trans h
    refine g_aload_n (i := 0) 0 ok d_La_machinesHold_319 rfl rfl ?_
    refine g_iload (i := 7) 5 ok d_La_machinesHold_320 rfl ?_
    refine g_sub [0, 1, 2, 3, 4, 5] rfl ?_
    obtain ⟨k77, hk78, h⟩ := bnd_go h
    obtain ⟨n79, hn80, h⟩ := bnd_go h
    obtain ⟨n81, hn82, h⟩ := bnd_go h
    obtain ⟨x86, s85, hc84, h⟩ := bnd2_go h
    refine g_callW (rm2 := rm_La_takes) (As := [vR a0, vI a7]) (rest := []) ok hse.1 (c_La_takes hse.2 hc84) cm_La_takes cs_La_takes tw_697 ⟨rfl, rfl⟩ ⟨le_t rfl, le_t rfl⟩ ⟨rfl, le_t rfl⟩ ⟨(by show _ ≤ 123; omega), (by show _ ≤ 738; omega)⟩ ⟨(rk_of hk78), ⟨trivial, ⟨(rk_rl hn80), ⟨(rk_rl hn82), ⟨trivial, ⟨trivial, trivial⟩⟩⟩⟩⟩⟩ trivial d_La_machinesHold_322 rfl (fun m83 => ?_)
    show G X s85 (ce0 + 1) (sl0 + 6) 325 [(0, vR a0), (1, vI a1), (2, vR a2), (3, vR a3), (4, vL a4), (7, vI a7)] [vL x86]
    refine g_ldc2 (v := (-1 : Int64)) ok d_La_machinesHold_325 tw_689 ?_
    refine g_lcmp ok d_La_machinesHold_328 ?_
    refine g_if_ne (tgt := 336) ok d_La_machinesHold_329 (by decide) (fun c87 => ?_) (fun c87 => ?_)
    · replace h := (if_pos c87).symm.trans h
      refine g_iconst (v := (1 : Int32)) ok d_La_machinesHold_332 (by decide) ?_
      refine g_goto (tgt := 337) ok d_La_machinesHold_333 (by decide) ?_
      refine g_istore (i := 6) [(6, vI (1 : Int32)), (0, vR a0), (1, vI a1), (2, vR a2), (3, vR a3), (4, vL a4), (7, vI a7)] ok d_La_machinesHold_337 (by decide) rfl ?_
      obtain ⟨x88, e89⟩ : ∃ z, a7 + (1 : Int32) = z := ⟨_, rfl⟩
      replace h := lt_go h e89
      refine g_iinc (i := 7) (v := x88) 6 [(7, vI x88), (6, vI (1 : Int32)), (0, vR a0), (1, vI a1), (2, vR a2), (3, vR a3), (4, vL a4)] ok d_La_machinesHold_339 rfl (by rw [← e89]; rfl) (by decide) rfl ?_
      refine g_goto (tgt := 26) ok d_La_machinesHold_342 (by decide) ?_
      refine g_sub [2, 3, 4, 5, 6, 1, 0] rfl ?_
      refine g_widen (ce' := cB) (sl' := sB) (by omega) (by omega) ?_
      exact hrec a4 (1 : Int32) x88 s85 (fun z hz => m83 z (mb z hz)) _ h hk
    · replace h := (if_neg c87).symm.trans h
      refine g_iconst (v := (0 : Int32)) ok d_La_machinesHold_336 (by decide) ?_
      refine g_istore (i := 6) [(6, vI (0 : Int32)), (0, vR a0), (1, vI a1), (2, vR a2), (3, vR a3), (4, vL a4), (7, vI a7)] ok d_La_machinesHold_337 (by decide) rfl ?_
      obtain ⟨x90, e91⟩ : ∃ z, a7 + (1 : Int32) = z := ⟨_, rfl⟩
      replace h := lt_go h e91
      refine g_iinc (i := 7) (v := x90) 6 [(7, vI x90), (6, vI (0 : Int32)), (0, vR a0), (1, vI a1), (2, vR a2), (3, vR a3), (4, vL a4)] ok d_La_machinesHold_339 rfl (by rw [← e91]; rfl) (by decide) rfl ?_
      refine g_goto (tgt := 26) ok d_La_machinesHold_342 (by decide) ?_
      refine g_sub [2, 3, 4, 5, 6, 1, 0] rfl ?_
      refine g_widen (ce' := cB) (sl' := sB) (by omega) (by omega) ?_
      exact hrec a4 (0 : Int32) x90 s85 (fun z hz => m83 z (mb z hz)) _ h hk
set_option maxRecDepth 100000 in
set_option maxHeartbeats 4000000 in
theorem w_j_La_machinesHold_293 {X : CX} {KX : Int64 × Int32 × MS → Prop}  {a0 : Option Nat} {a1 : Int32} {a2 : Option Nat} {a3 : Option Nat} {a4 : Int64} {a6 : Int32} {a7 : Int32} {a8 : Int64} {a10 : Int64} {s : MS} {rec : Int64 → Int32 → Int32 → MS → Option (Int64 × Int32 × MS)} {sb : MS} {ce0 sl0 cB sB : Nat} (ok : Ok X cL_machinesHold RL rm_La_machinesHold 15 true) (hse : SE X.2.2.2.1 X.1.2.2.2.2.1 ∧ X.1.2.1.stackTraces = false) (hc1 : ce0 + 1 ≤ cB) (hc2 : sl0 + 6 ≤ sB) (hB1 : cB ≤ 123) (hB2 : sB ≤ 738) (hexit : ∀ (e4 : Int64) (e6 : Int32) (z : MS), KX (e4, e6, z) → (∀ q, dm sb q → dm z q) → G X z cB sB 345 [(0, vR a0), (4, vL e4), (6, vI e6)] []) (hrec : ∀ (v4 : Int64) (v6 : Int32) (v7 : Int32) (z : MS), (∀ q, dm sb q → dm z q) → ∀ y, rec v4 v6 v7 z = some y → KX y → G X z cB sB 26 [(0, vR a0), (1, vI a1), (2, vR a2), (3, vR a3), (4, vL v4), (6, vI v6), (7, vI v7)] []) (mb : ∀ q, dm sb q → dm s q) {res : Int64 × Int32 × MS} (h : j_La_machinesHold_293 a0 a1 a2 a3 a4 a6 a7 a8 a10 s rec = some res) (hk : KX res) : G X s ce0 sl0 293 [(0, vR a0), (1, vI a1), (2, vR a2), (3, vR a3), (4, vL a4), (6, vI a6), (7, vI a7), (8, vL a8), (10, vL a10)] [] := by
  unfold j_La_machinesHold_293 at h
  refine g_iload (i := 6) 5 ok d_La_machinesHold_293 rfl ?_
  refine g_if_eq (tgt := 336) ok d_La_machinesHold_295 (by decide) (fun c67 => ?_) (fun c67 => ?_)
  · replace h := (if_pos c67).symm.trans h
    refine g_iconst (v := (0 : Int32)) ok d_La_machinesHold_336 (by decide) ?_
    refine g_istore (i := 6) [(6, vI (0 : Int32)), (0, vR a0), (1, vI a1), (2, vR a2), (3, vR a3), (4, vL a4), (7, vI a7), (8, vL a8), (10, vL a10)] ok d_La_machinesHold_337 (by decide) rfl ?_
    obtain ⟨x68, e69⟩ : ∃ z, a7 + (1 : Int32) = z := ⟨_, rfl⟩
    replace h := lt_go h e69
    refine g_iinc (i := 7) (v := x68) 6 [(7, vI x68), (6, vI (0 : Int32)), (0, vR a0), (1, vI a1), (2, vR a2), (3, vR a3), (4, vL a4), (8, vL a8), (10, vL a10)] ok d_La_machinesHold_339 rfl (by rw [← e69]; rfl) (by decide) rfl ?_
    refine g_goto (tgt := 26) ok d_La_machinesHold_342 (by decide) ?_
    refine g_sub [2, 3, 4, 5, 6, 1, 0] rfl ?_
    refine g_widen (ce' := cB) (sl' := sB) (by omega) (by omega) ?_
    exact hrec a4 (0 : Int32) x68 s mb _ h hk
  · replace h := (if_neg c67).symm.trans h
    refine g_lload (i := 8) 7 ok d_La_machinesHold_298 rfl ?_
    refine g_lconst (v := (1 : Int64)) ok d_La_machinesHold_300 (by decide) ?_
    refine g_lcmp ok d_La_machinesHold_301 ?_
    refine g_if_ne (tgt := 312) ok d_La_machinesHold_302 (by decide) (fun c70 => ?_) (fun c70 => ?_)
    · replace h := (if_pos c70).symm.trans h
      refine g_lload (i := 10) 8 ok d_La_machinesHold_305 rfl ?_
      refine g_lconst (v := (0 : Int64)) ok d_La_machinesHold_307 (by decide) ?_
      refine g_lcmp ok d_La_machinesHold_308 ?_
      refine g_if_lt (tgt := 336) ok d_La_machinesHold_309 (by decide) (fun c71 => ?_) (fun c71 => ?_)
      · replace h := (if_pos c71).symm.trans h
        refine g_iconst (v := (0 : Int32)) ok d_La_machinesHold_336 (by decide) ?_
        refine g_istore (i := 6) [(6, vI (0 : Int32)), (0, vR a0), (1, vI a1), (2, vR a2), (3, vR a3), (4, vL a4), (7, vI a7), (8, vL a8), (10, vL a10)] ok d_La_machinesHold_337 (by decide) rfl ?_
        obtain ⟨x72, e73⟩ : ∃ z, a7 + (1 : Int32) = z := ⟨_, rfl⟩
        replace h := lt_go h e73
        refine g_iinc (i := 7) (v := x72) 6 [(7, vI x72), (6, vI (0 : Int32)), (0, vR a0), (1, vI a1), (2, vR a2), (3, vR a3), (4, vL a4), (8, vL a8), (10, vL a10)] ok d_La_machinesHold_339 rfl (by rw [← e73]; rfl) (by decide) rfl ?_
        refine g_goto (tgt := 26) ok d_La_machinesHold_342 (by decide) ?_
        refine g_sub [2, 3, 4, 5, 6, 1, 0] rfl ?_
        refine g_widen (ce' := cB) (sl' := sB) (by omega) (by omega) ?_
        exact hrec a4 (0 : Int32) x72 s mb _ h hk
      · replace h := (if_neg c71).symm.trans h
        refine g_sub [0, 1, 2, 3, 4, 6, 7] rfl ?_
        exact w_j_La_machinesHold_312 ok hse (by omega) (by omega) hB1 hB2 hexit hrec mb h hk
    · replace h := (if_neg c70).symm.trans h
      refine g_sub [0, 1, 2, 3, 4, 6, 7] rfl ?_
      exact w_j_La_machinesHold_312 ok hse (by omega) (by omega) hB1 hB2 hexit hrec mb h hk
set_option maxRecDepth 100000 in
set_option maxHeartbeats 4000000 in
theorem w_j_La_machinesHold_291 {X : CX} {KX : Int64 × Int32 × MS → Prop}  {a0 : Option Nat} {a1 : Int32} {a2 : Option Nat} {a3 : Option Nat} {a4 : Int64} {a7 : Int32} {a8 : Int64} {a10 : Int64} {t0 : Int32} {s : MS} {rec : Int64 → Int32 → Int32 → MS → Option (Int64 × Int32 × MS)} {sb : MS} {ce0 sl0 cB sB : Nat} (ok : Ok X cL_machinesHold RL rm_La_machinesHold 15 true) (hse : SE X.2.2.2.1 X.1.2.2.2.2.1 ∧ X.1.2.1.stackTraces = false) (hc1 : ce0 + 1 ≤ cB) (hc2 : sl0 + 6 ≤ sB) (hB1 : cB ≤ 123) (hB2 : sB ≤ 738) (hexit : ∀ (e4 : Int64) (e6 : Int32) (z : MS), KX (e4, e6, z) → (∀ q, dm sb q → dm z q) → G X z cB sB 345 [(0, vR a0), (4, vL e4), (6, vI e6)] []) (hrec : ∀ (v4 : Int64) (v6 : Int32) (v7 : Int32) (z : MS), (∀ q, dm sb q → dm z q) → ∀ y, rec v4 v6 v7 z = some y → KX y → G X z cB sB 26 [(0, vR a0), (1, vI a1), (2, vR a2), (3, vR a3), (4, vL v4), (6, vI v6), (7, vI v7)] []) (mb : ∀ q, dm sb q → dm s q) {res : Int64 × Int32 × MS} (h : j_La_machinesHold_291 a0 a1 a2 a3 a4 a7 a8 a10 t0 s rec = some res) (hk : KX res) : G X s ce0 sl0 291 [(0, vR a0), (1, vI a1), (2, vR a2), (3, vR a3), (4, vL a4), (7, vI a7), (8, vL a8), (10, vL a10)] [vI t0] := by
  unfold j_La_machinesHold_291 at h
  refine g_istore (i := 6) [(6, vI t0), (0, vR a0), (1, vI a1), (2, vR a2), (3, vR a3), (4, vL a4), (7, vI a7), (8, vL a8), (10, vL a10)] ok d_La_machinesHold_291 (by decide) rfl ?_
  refine g_sub [1, 2, 3, 4, 5, 0, 6, 7, 8] rfl ?_
  exact w_j_La_machinesHold_293 ok hse (by omega) (by omega) hB1 hB2 hexit hrec mb h hk
set_option maxRecDepth 100000 in
set_option maxHeartbeats 4000000 in
theorem w_j_La_machinesHold_286 {X : CX} {KX : Int64 × Int32 × MS → Prop}  {a0 : Option Nat} {a1 : Int32} {a2 : Option Nat} {a3 : Option Nat} {a4 : Int64} {a7 : Int32} {a8 : Int64} {a10 : Int64} {s : MS} {rec : Int64 → Int32 → Int32 → MS → Option (Int64 × Int32 × MS)} {sb : MS} {ce0 sl0 cB sB : Nat} (ok : Ok X cL_machinesHold RL rm_La_machinesHold 15 true) (hse : SE X.2.2.2.1 X.1.2.2.2.2.1 ∧ X.1.2.1.stackTraces = false) (hc1 : ce0 + 1 ≤ cB) (hc2 : sl0 + 6 ≤ sB) (hB1 : cB ≤ 123) (hB2 : sB ≤ 738) (hexit : ∀ (e4 : Int64) (e6 : Int32) (z : MS), KX (e4, e6, z) → (∀ q, dm sb q → dm z q) → G X z cB sB 345 [(0, vR a0), (4, vL e4), (6, vI e6)] []) (hrec : ∀ (v4 : Int64) (v6 : Int32) (v7 : Int32) (z : MS), (∀ q, dm sb q → dm z q) → ∀ y, rec v4 v6 v7 z = some y → KX y → G X z cB sB 26 [(0, vR a0), (1, vI a1), (2, vR a2), (3, vR a3), (4, vL v4), (6, vI v6), (7, vI v7)] []) (mb : ∀ q, dm sb q → dm s q) {res : Int64 × Int32 × MS} (h : j_La_machinesHold_286 a0 a1 a2 a3 a4 a7 a8 a10 s rec = some res) (hk : KX res) : G X s ce0 sl0 286 [(0, vR a0), (1, vI a1), (2, vR a2), (3, vR a3), (4, vL a4), (7, vI a7), (8, vL a8), (10, vL a10)] [] := by
  unfold j_La_machinesHold_286 at h
  refine g_iconst (v := (1 : Int32)) ok d_La_machinesHold_286 (by decide) ?_
  refine g_goto (tgt := 291) ok d_La_machinesHold_287 (by decide) ?_
  exact w_j_La_machinesHold_291 ok hse (by omega) (by omega) hB1 hB2 hexit hrec mb h hk
set_option maxRecDepth 100000 in
set_option maxHeartbeats 4000000 in
theorem w_j_La_machinesHold_290 {X : CX} {KX : Int64 × Int32 × MS → Prop}  {a0 : Option Nat} {a1 : Int32} {a2 : Option Nat} {a3 : Option Nat} {a4 : Int64} {a7 : Int32} {a8 : Int64} {a10 : Int64} {s : MS} {rec : Int64 → Int32 → Int32 → MS → Option (Int64 × Int32 × MS)} {sb : MS} {ce0 sl0 cB sB : Nat} (ok : Ok X cL_machinesHold RL rm_La_machinesHold 15 true) (hse : SE X.2.2.2.1 X.1.2.2.2.2.1 ∧ X.1.2.1.stackTraces = false) (hc1 : ce0 + 1 ≤ cB) (hc2 : sl0 + 6 ≤ sB) (hB1 : cB ≤ 123) (hB2 : sB ≤ 738) (hexit : ∀ (e4 : Int64) (e6 : Int32) (z : MS), KX (e4, e6, z) → (∀ q, dm sb q → dm z q) → G X z cB sB 345 [(0, vR a0), (4, vL e4), (6, vI e6)] []) (hrec : ∀ (v4 : Int64) (v6 : Int32) (v7 : Int32) (z : MS), (∀ q, dm sb q → dm z q) → ∀ y, rec v4 v6 v7 z = some y → KX y → G X z cB sB 26 [(0, vR a0), (1, vI a1), (2, vR a2), (3, vR a3), (4, vL v4), (6, vI v6), (7, vI v7)] []) (mb : ∀ q, dm sb q → dm s q) {res : Int64 × Int32 × MS} (h : j_La_machinesHold_290 a0 a1 a2 a3 a4 a7 a8 a10 s rec = some res) (hk : KX res) : G X s ce0 sl0 290 [(0, vR a0), (1, vI a1), (2, vR a2), (3, vR a3), (4, vL a4), (7, vI a7), (8, vL a8), (10, vL a10)] [] := by
  unfold j_La_machinesHold_290 at h
  refine g_iconst (v := (0 : Int32)) ok d_La_machinesHold_290 (by decide) ?_
  exact w_j_La_machinesHold_291 ok hse (by omega) (by omega) hB1 hB2 hexit hrec mb h hk
set_option maxRecDepth 100000 in
set_option maxHeartbeats 4000000 in
theorem w_j_La_machinesHold_198 {X : CX} {KX : Int64 × Int32 × MS → Prop}  {a0 : Option Nat} {a1 : Int32} {a2 : Option Nat} {a3 : Option Nat} {a4 : Int64} {a7 : Int32} {a8 : Int64} {a10 : Int64} {a12 : Int64} {t0 : Int32} {s : MS} {rec : Int64 → Int32 → Int32 → MS → Option (Int64 × Int32 × MS)} {sb : MS} {ce0 sl0 cB sB : Nat} (ok : Ok X cL_machinesHold RL rm_La_machinesHold 15 true) (hse : SE X.2.2.2.1 X.1.2.2.2.2.1 ∧ X.1.2.1.stackTraces = false) (hc1 : ce0 + 4 ≤ cB) (hc2 : sl0 + 24 ≤ sB) (hB1 : cB ≤ 123) (hB2 : sB ≤ 738) (hexit : ∀ (e4 : Int64) (e6 : Int32) (z : MS), KX (e4, e6, z) → (∀ q, dm sb q → dm z q) → G X z cB sB 345 [(0, vR a0), (4, vL e4), (6, vI e6)] []) (hrec : ∀ (v4 : Int64) (v6 : Int32) (v7 : Int32) (z : MS), (∀ q, dm sb q → dm z q) → ∀ y, rec v4 v6 v7 z = some y → KX y → G X z cB sB 26 [(0, vR a0), (1, vI a1), (2, vR a2), (3, vR a3), (4, vL v4), (6, vI v6), (7, vI v7)] []) (mb : ∀ q, dm sb q → dm s q) {res : Int64 × Int32 × MS} (h : j_La_machinesHold_198 a0 a1 a2 a3 a4 a7 a8 a10 a12 t0 s rec = some res) (hk : KX res) : G X s ce0 sl0 198 [(0, vR a0), (1, vI a1), (2, vR a2), (3, vR a3), (4, vL a4), (7, vI a7), (8, vL a8), (10, vL a10), (12, vL a12)] [vI t0] := by
  unfold j_La_machinesHold_198 at h
  refine g_istore (i := 6) [(6, vI t0), (0, vR a0), (1, vI a1), (2, vR a2), (3, vR a3), (4, vL a4), (7, vI a7), (8, vL a8), (10, vL a10), (12, vL a12)] ok d_La_machinesHold_198 (by decide) rfl ?_
  refine g_iload (i := 6) 0 ok d_La_machinesHold_200 rfl ?_
  refine g_if_eq (tgt := 293) ok d_La_machinesHold_202 (by decide) (fun c66 => ?_) (fun c66 => ?_)
  · replace h := (if_pos c66).symm.trans h
    refine g_sub [1, 2, 3, 4, 5, 0, 6, 7, 8] rfl ?_
    exact w_j_La_machinesHold_293 ok hse (by omega) (by omega) hB1 hB2 hexit hrec mb h hk
  · replace h := (if_neg c66).symm.trans h
    refine g_lload (i := 10) 8 ok d_La_machinesHold_205 rfl ?_
    refine g_lconst (v := (0 : Int64)) ok d_La_machinesHold_207 (by decide) ?_
    refine g_lcmp ok d_La_machinesHold_208 ?_
    refine g_if_lt (tgt := 293) ok d_La_machinesHold_209 (by decide) (fun c92 => ?_) (fun c92 => ?_)
    · replace h := (if_pos c92).symm.trans h
      refine g_sub [1, 2, 3, 4, 5, 0, 6, 7, 8] rfl ?_
      exact w_j_La_machinesHold_293 ok hse (by omega) (by omega) hB1 hB2 hexit hrec mb h hk
    · replace h := (if_neg c92).symm.trans h
      refine g_lload (i := 10) 8 ok d_La_machinesHold_212 rfl ?_
      refine g_l2i ok d_La_machinesHold_214 ?_
      obtain ⟨x93, e94⟩ : ∃ z, (Int64.toInt32 a10) = z := ⟨_, rfl⟩
      replace h := lt_go h e94
      rw [e94]
      refine g_istore (i := 14) [(14, vI x93), (6, vI t0), (0, vR a0), (1, vI a1), (2, vR a2), (3, vR a3), (4, vL a4), (7, vI a7), (8, vL a8), (10, vL a10), (12, vL a12)] ok d_La_machinesHold_215 (by decide) rfl ?_
      refine g_aload_n (i := 0) 2 ok d_La_machinesHold_217 rfl rfl ?_
      refine g_iload (i := 14) 0 ok d_La_machinesHold_218 rfl ?_
      refine g_iconst (v := (1 : Int32)) ok d_La_machinesHold_220 (by decide) ?_
      refine g_sub [0, 2, 3, 4, 5, 6, 7, 8, 9, 10] rfl ?_
      obtain ⟨k95, hk96, h⟩ := bnd_go h
      obtain ⟨n97, hn98, h⟩ := bnd_go h
      obtain ⟨n99, hn100, h⟩ := bnd_go h
      obtain ⟨x104, s103, hc102, h⟩ := bnd2_go h
      refine g_callW (rm2 := rm_La_ofPath) (As := [vR a0, vI x93, vI (1 : Int32)]) (rest := []) ok hse.1 (c_La_ofPath hse.2 hc102) cm_La_ofPath cs_La_ofPath tw_657 ⟨rfl, rfl⟩ ⟨le_t rfl, le_t rfl⟩ ⟨rfl, le_t rfl⟩ ⟨(by show _ ≤ 123; omega), (by show _ ≤ 738; omega)⟩ ⟨trivial, ⟨(rk_of hk96), ⟨trivial, ⟨(rk_rl hn98), ⟨(rk_rl hn100), ⟨trivial, ⟨trivial, ⟨trivial, ⟨trivial, ⟨trivial, trivial⟩⟩⟩⟩⟩⟩⟩⟩⟩⟩ trivial d_La_machinesHold_221 rfl (fun m101 => ?_)
      show G X s103 (ce0 + 1) (sl0 + 6) 224 [(14, vI x93), (0, vR a0), (1, vI a1), (2, vR a2), (3, vR a3), (4, vL a4), (7, vI a7), (8, vL a8), (10, vL a10), (12, vL a12)] [vL x104]
      refine g_iload (i := 7) 6 ok d_La_machinesHold_224 rfl ?_
      refine g_i2l ok d_La_machinesHold_226 ?_
      refine g_lcmp ok d_La_machinesHold_227 ?_
      refine g_if_ne (tgt := 290) ok d_La_machinesHold_228 (by decide) (fun c105 => ?_) (fun c105 => ?_)
      · replace h := (if_pos c105).symm.trans h
        refine g_aload_n (i := 0) 1 ok d_La_machinesHold_231 rfl rfl ?_
        refine g_iload (i := 14) 0 ok d_La_machinesHold_232 rfl ?_
        refine g_iconst (v := (0 : Int32)) ok d_La_machinesHold_234 (by decide) ?_
        obtain ⟨n106, hn107, h⟩ := bnd_go h
        obtain ⟨n108, hn109, h⟩ := bnd_go h
        obtain ⟨x113, s112, hc111, h⟩ := bnd2_go h
        refine g_callW (rm2 := rm_La_ofPath) (As := [vR a0, vI x93, vI (0 : Int32)]) (rest := []) ok hse.1 (c_La_ofPath hse.2 hc111) cm_La_ofPath cs_La_ofPath tw_657 ⟨rfl, rfl⟩ ⟨le_t rfl, le_t rfl⟩ ⟨rfl, le_t rfl⟩ ⟨(by show _ ≤ 123; omega), (by show _ ≤ 738; omega)⟩ ⟨trivial, ⟨(rk_of (rf_mono m101 hk96)), ⟨trivial, ⟨(rk_rl hn107), ⟨(rk_rl hn109), ⟨trivial, ⟨trivial, ⟨trivial, ⟨trivial, ⟨trivial, trivial⟩⟩⟩⟩⟩⟩⟩⟩⟩⟩ trivial d_La_machinesHold_235 rfl (fun m110 => ?_)
        show G X s112 ((ce0 + 1) + 1) ((sl0 + 6) + 6) 238 [(14, vI x93), (0, vR a0), (1, vI a1), (2, vR a2), (3, vR a3), (4, vL a4), (7, vI a7), (8, vL a8), (10, vL a10), (12, vL a12)] [vL x113]
        refine g_lload (i := 8) 7 ok d_La_machinesHold_238 rfl ?_
        refine g_lcmp ok d_La_machinesHold_240 ?_
        refine g_if_ne (tgt := 290) ok d_La_machinesHold_241 (by decide) (fun c114 => ?_) (fun c114 => ?_)
        · replace h := (if_pos c114).symm.trans h
          refine g_lload (i := 8) 7 ok d_La_machinesHold_244 rfl ?_
          refine g_lconst (v := (1 : Int64)) ok d_La_machinesHold_246 (by decide) ?_
          refine g_lcmp ok d_La_machinesHold_247 ?_
          refine g_if_ne (tgt := 270) ok d_La_machinesHold_248 (by decide) (fun c115 => ?_) (fun c115 => ?_)
          · replace h := (if_pos c115).symm.trans h
            refine g_aload_n (i := 0) 1 ok d_La_machinesHold_251 rfl rfl ?_
            refine g_iload (i := 14) 0 ok d_La_machinesHold_252 rfl ?_
            refine g_aload_n (i := 0) 1 ok d_La_machinesHold_254 rfl rfl ?_
            obtain ⟨x117, hc118, h⟩ := bnd_go h
            refine g_invV (rm2 := rm_Sk_time) (As := []) (rest := [vI x93, vR a0]) ok (rf_mono m110 (rf_mono m101 hk96)) lay_0 rfl (c_Sk_time X.1.2.1 (rf_self (rf_mono m110 (rf_mono m101 hk96))) hc118) cm_Sk_time cv_Sk_time tw_133 ⟨rfl, rfl⟩ ⟨le_t rfl, le_t rfl⟩ ⟨rfl, le_t rfl⟩ ⟨(by show _ ≤ 123; omega), (by show _ ≤ 738; omega)⟩ d_La_machinesHold_255 rfl (fun m116 => ?_)
            show G X s112 ((ce0 + 1) + 1) ((sl0 + 6) + 6) 258 [(14, vI x93), (0, vR a0), (1, vI a1), (2, vR a2), (3, vR a3), (4, vL a4), (7, vI a7), (8, vL a8), (10, vL a10), (12, vL a12)] [vI x117, vI x93, vR a0]
            refine g_sub [1, 2, 3, 4, 5, 6, 7, 8, 9] rfl ?_
            obtain ⟨n119, hn120, h⟩ := bnd_go h
            obtain ⟨n121, hn122, h⟩ := bnd_go h
            obtain ⟨x126, s125, hc124, h⟩ := bnd2_go h
            refine g_callW (rm2 := rm_La_placeAt) (As := [vR a0, vI x93, vI x117]) (rest := []) ok hse.1 (c_La_placeAt hse.2 hc124) cm_La_placeAt cs_La_placeAt tw_690 ⟨rfl, rfl⟩ ⟨le_t rfl, le_t rfl⟩ ⟨rfl, le_t rfl⟩ ⟨(by show _ ≤ 123; omega), (by show _ ≤ 738; omega)⟩ ⟨(rk_of (rf_mono m110 (rf_mono m101 hk96))), ⟨trivial, ⟨(rk_rl hn120), ⟨(rk_rl hn122), ⟨trivial, ⟨trivial, ⟨trivial, ⟨trivial, ⟨trivial, trivial⟩⟩⟩⟩⟩⟩⟩⟩⟩ trivial d_La_machinesHold_258 rfl (fun m123 => ?_)
            show G X s125 (((ce0 + 1) + 1) + 1) (((sl0 + 6) + 6) + 6) 261 [(0, vR a0), (1, vI a1), (2, vR a2), (3, vR a3), (4, vL a4), (7, vI a7), (8, vL a8), (10, vL a10), (12, vL a12)] [vL x126]
            refine g_lload (i := 12) 8 ok d_La_machinesHold_261 rfl ?_
            refine g_lcmp ok d_La_machinesHold_263 ?_
            refine g_if_ne (tgt := 290) ok d_La_machinesHold_264 (by decide) (fun c127 => ?_) (fun c127 => ?_)
            · replace h := (if_pos c127).symm.trans h
              refine g_goto (tgt := 286) ok d_La_machinesHold_267 (by decide) ?_
              refine g_sub [0, 1, 2, 3, 4, 5, 6, 7] rfl ?_
              exact w_j_La_machinesHold_286 ok hse (by omega) (by omega) hB1 hB2 hexit hrec (fun z hz => m123 z ((fun z hz => m110 z ((fun z hz => m101 z (mb z hz)) z hz)) z hz)) h hk
            · replace h := (if_neg c127).symm.trans h
              refine g_sub [0, 1, 2, 3, 4, 5, 6, 7] rfl ?_
              exact w_j_La_machinesHold_290 ok hse (by omega) (by omega) hB1 hB2 hexit hrec (fun z hz => m123 z ((fun z hz => m110 z ((fun z hz => m101 z (mb z hz)) z hz)) z hz)) h hk
          · replace h := (if_neg c115).symm.trans h
            refine g_aload_n (i := 0) 1 ok d_La_machinesHold_270 rfl rfl ?_
            refine g_iload (i := 14) 0 ok d_La_machinesHold_271 rfl ?_
            refine g_iconst (v := (2 : Int32)) ok d_La_machinesHold_273 (by decide) ?_
            refine g_sub [1, 2, 3, 4, 5, 6, 7, 8] rfl ?_
            obtain ⟨n128, hn129, h⟩ := bnd_go h
            obtain ⟨n130, hn131, h⟩ := bnd_go h
            obtain ⟨x135, s134, hc133, h⟩ := bnd2_go h
            refine g_callW (rm2 := rm_La_ofPath) (As := [vR a0, vI x93, vI (2 : Int32)]) (rest := []) ok hse.1 (c_La_ofPath hse.2 hc133) cm_La_ofPath cs_La_ofPath tw_657 ⟨rfl, rfl⟩ ⟨le_t rfl, le_t rfl⟩ ⟨rfl, le_t rfl⟩ ⟨(by show _ ≤ 123; omega), (by show _ ≤ 738; omega)⟩ ⟨(rk_of (rf_mono m110 (rf_mono m101 hk96))), ⟨trivial, ⟨(rk_rl hn129), ⟨(rk_rl hn131), ⟨trivial, ⟨trivial, ⟨trivial, ⟨trivial, trivial⟩⟩⟩⟩⟩⟩⟩⟩ trivial d_La_machinesHold_274 rfl (fun m132 => ?_)
            show G X s134 (((ce0 + 1) + 1) + 1) (((sl0 + 6) + 6) + 6) 277 [(0, vR a0), (1, vI a1), (2, vR a2), (3, vR a3), (4, vL a4), (7, vI a7), (8, vL a8), (10, vL a10)] [vL x135]
            refine g_aload_n (i := 0) 0 ok d_La_machinesHold_277 rfl rfl ?_
            obtain ⟨x137, hc138, h⟩ := bnd_go h
            refine g_invV (rm2 := rm_Sk_time) (As := []) (rest := [vL x135]) ok (rf_mono m132 (rf_mono m110 (rf_mono m101 hk96))) lay_0 rfl (c_Sk_time X.1.2.1 (rf_self (rf_mono m132 (rf_mono m110 (rf_mono m101 hk96)))) hc138) cm_Sk_time cv_Sk_time tw_133 ⟨rfl, rfl⟩ ⟨le_t rfl, le_t rfl⟩ ⟨rfl, le_t rfl⟩ ⟨(by show _ ≤ 123; omega), (by show _ ≤ 738; omega)⟩ d_La_machinesHold_278 rfl (fun m136 => ?_)
            show G X s134 (((ce0 + 1) + 1) + 1) (((sl0 + 6) + 6) + 6) 281 [(0, vR a0), (1, vI a1), (2, vR a2), (3, vR a3), (4, vL a4), (7, vI a7), (8, vL a8), (10, vL a10)] [vI x137, vL x135]
            refine g_i2l ok d_La_machinesHold_281 ?_
            refine g_lcmp ok d_La_machinesHold_282 ?_
            refine g_if_le (tgt := 290) ok d_La_machinesHold_283 (by decide) (fun c139 => ?_) (fun c139 => ?_)
            · replace h := (if_pos c139).symm.trans h
              exact w_j_La_machinesHold_286 ok hse (by omega) (by omega) hB1 hB2 hexit hrec (fun z hz => m132 z ((fun z hz => m110 z ((fun z hz => m101 z (mb z hz)) z hz)) z hz)) h hk
            · replace h := (if_neg c139).symm.trans h
              exact w_j_La_machinesHold_290 ok hse (by omega) (by omega) hB1 hB2 hexit hrec (fun z hz => m132 z ((fun z hz => m110 z ((fun z hz => m101 z (mb z hz)) z hz)) z hz)) h hk
        · replace h := (if_neg c114).symm.trans h
          refine g_sub [1, 2, 3, 4, 5, 6, 7, 8] rfl ?_
          exact w_j_La_machinesHold_290 ok hse (by omega) (by omega) hB1 hB2 hexit hrec (fun z hz => m110 z ((fun z hz => m101 z (mb z hz)) z hz)) h hk
      · replace h := (if_neg c105).symm.trans h
        refine g_sub [1, 2, 3, 4, 5, 6, 7, 8] rfl ?_
        exact w_j_La_machinesHold_290 ok hse (by omega) (by omega) hB1 hB2 hexit hrec (fun z hz => m101 z (mb z hz)) h hk
set_option maxRecDepth 100000 in
set_option maxHeartbeats 4000000 in
theorem w_j_La_machinesHold_197 {X : CX} {KX : Int64 × Int32 × MS → Prop}  {a0 : Option Nat} {a1 : Int32} {a2 : Option Nat} {a3 : Option Nat} {a4 : Int64} {a7 : Int32} {a8 : Int64} {a10 : Int64} {a12 : Int64} {s : MS} {rec : Int64 → Int32 → Int32 → MS → Option (Int64 × Int32 × MS)} {sb : MS} {ce0 sl0 cB sB : Nat} (ok : Ok X cL_machinesHold RL rm_La_machinesHold 15 true) (hse : SE X.2.2.2.1 X.1.2.2.2.2.1 ∧ X.1.2.1.stackTraces = false) (hc1 : ce0 + 4 ≤ cB) (hc2 : sl0 + 24 ≤ sB) (hB1 : cB ≤ 123) (hB2 : sB ≤ 738) (hexit : ∀ (e4 : Int64) (e6 : Int32) (z : MS), KX (e4, e6, z) → (∀ q, dm sb q → dm z q) → G X z cB sB 345 [(0, vR a0), (4, vL e4), (6, vI e6)] []) (hrec : ∀ (v4 : Int64) (v6 : Int32) (v7 : Int32) (z : MS), (∀ q, dm sb q → dm z q) → ∀ y, rec v4 v6 v7 z = some y → KX y → G X z cB sB 26 [(0, vR a0), (1, vI a1), (2, vR a2), (3, vR a3), (4, vL v4), (6, vI v6), (7, vI v7)] []) (mb : ∀ q, dm sb q → dm s q) {res : Int64 × Int32 × MS} (h : j_La_machinesHold_197 a0 a1 a2 a3 a4 a7 a8 a10 a12 s rec = some res) (hk : KX res) : G X s ce0 sl0 197 [(0, vR a0), (1, vI a1), (2, vR a2), (3, vR a3), (4, vL a4), (7, vI a7), (8, vL a8), (10, vL a10), (12, vL a12)] [] := by
  unfold j_La_machinesHold_197 at h
  refine g_iconst (v := (0 : Int32)) ok d_La_machinesHold_197 (by decide) ?_
  exact w_j_La_machinesHold_198 ok hse (by omega) (by omega) hB1 hB2 hexit hrec mb h hk
set_option maxRecDepth 100000 in
set_option maxHeartbeats 4000000 in
theorem w_j_La_machinesHold_193 {X : CX} {KX : Int64 × Int32 × MS → Prop}  {a0 : Option Nat} {a1 : Int32} {a2 : Option Nat} {a3 : Option Nat} {a4 : Int64} {a7 : Int32} {a8 : Int64} {a10 : Int64} {a12 : Int64} {s : MS} {rec : Int64 → Int32 → Int32 → MS → Option (Int64 × Int32 × MS)} {sb : MS} {ce0 sl0 cB sB : Nat} (ok : Ok X cL_machinesHold RL rm_La_machinesHold 15 true) (hse : SE X.2.2.2.1 X.1.2.2.2.2.1 ∧ X.1.2.1.stackTraces = false) (hc1 : ce0 + 4 ≤ cB) (hc2 : sl0 + 24 ≤ sB) (hB1 : cB ≤ 123) (hB2 : sB ≤ 738) (hexit : ∀ (e4 : Int64) (e6 : Int32) (z : MS), KX (e4, e6, z) → (∀ q, dm sb q → dm z q) → G X z cB sB 345 [(0, vR a0), (4, vL e4), (6, vI e6)] []) (hrec : ∀ (v4 : Int64) (v6 : Int32) (v7 : Int32) (z : MS), (∀ q, dm sb q → dm z q) → ∀ y, rec v4 v6 v7 z = some y → KX y → G X z cB sB 26 [(0, vR a0), (1, vI a1), (2, vR a2), (3, vR a3), (4, vL v4), (6, vI v6), (7, vI v7)] []) (mb : ∀ q, dm sb q → dm s q) {res : Int64 × Int32 × MS} (h : j_La_machinesHold_193 a0 a1 a2 a3 a4 a7 a8 a10 a12 s rec = some res) (hk : KX res) : G X s ce0 sl0 193 [(0, vR a0), (1, vI a1), (2, vR a2), (3, vR a3), (4, vL a4), (7, vI a7), (8, vL a8), (10, vL a10), (12, vL a12)] [] := by
  unfold j_La_machinesHold_193 at h
  refine g_iconst (v := (1 : Int32)) ok d_La_machinesHold_193 (by decide) ?_
  refine g_goto (tgt := 198) ok d_La_machinesHold_194 (by decide) ?_
  exact w_j_La_machinesHold_198 ok hse (by omega) (by omega) hB1 hB2 hexit hrec mb h hk
set_option maxRecDepth 100000 in
set_option maxHeartbeats 4000000 in
theorem w_j_La_machinesHold_175 {X : CX} {KX : Int64 × Int32 × MS → Prop}  {a0 : Option Nat} {a1 : Int32} {a2 : Option Nat} {a3 : Option Nat} {a4 : Int64} {a7 : Int32} {a8 : Int64} {a10 : Int64} {a12 : Int64} {s : MS} {rec : Int64 → Int32 → Int32 → MS → Option (Int64 × Int32 × MS)} {sb : MS} {ce0 sl0 cB sB : Nat} (ok : Ok X cL_machinesHold RL rm_La_machinesHold 15 true) (hse : SE X.2.2.2.1 X.1.2.2.2.2.1 ∧ X.1.2.1.stackTraces = false) (hc1 : ce0 + 4 ≤ cB) (hc2 : sl0 + 24 ≤ sB) (hB1 : cB ≤ 123) (hB2 : sB ≤ 738) (hexit : ∀ (e4 : Int64) (e6 : Int32) (z : MS), KX (e4, e6, z) → (∀ q, dm sb q → dm z q) → G X z cB sB 345 [(0, vR a0), (4, vL e4), (6, vI e6)] []) (hrec : ∀ (v4 : Int64) (v6 : Int32) (v7 : Int32) (z : MS), (∀ q, dm sb q → dm z q) → ∀ y, rec v4 v6 v7 z = some y → KX y → G X z cB sB 26 [(0, vR a0), (1, vI a1), (2, vR a2), (3, vR a3), (4, vL v4), (6, vI v6), (7, vI v7)] []) (mb : ∀ q, dm sb q → dm s q) {res : Int64 × Int32 × MS} (h : j_La_machinesHold_175 a0 a1 a2 a3 a4 a7 a8 a10 a12 s rec = some res) (hk : KX res) : G X s ce0 sl0 175 [(0, vR a0), (1, vI a1), (2, vR a2), (3, vR a3), (4, vL a4), (7, vI a7), (8, vL a8), (10, vL a10), (12, vL a12)] [] := by
  unfold j_La_machinesHold_175 at h
  refine g_lload (i := 8) 6 ok d_La_machinesHold_175 rfl ?_
  refine g_ldc2 (v := (2 : Int64)) ok d_La_machinesHold_177 tw_688 ?_
  refine g_lcmp ok d_La_machinesHold_180 ?_
  refine g_if_lt (tgt := 193) ok d_La_machinesHold_181 (by decide) (fun c149 => ?_) (fun c149 => ?_)
  · replace h := (if_pos c149).symm.trans h
    exact w_j_La_machinesHold_193 ok hse (by omega) (by omega) hB1 hB2 hexit hrec mb h hk
  · replace h := (if_neg c149).symm.trans h
    refine g_lload (i := 10) 7 ok d_La_machinesHold_184 rfl ?_
    refine g_ldc2 (v := (-1 : Int64)) ok d_La_machinesHold_186 tw_689 ?_
    refine g_lcmp ok d_La_machinesHold_189 ?_
    refine g_if_ne (tgt := 197) ok d_La_machinesHold_190 (by decide) (fun c150 => ?_) (fun c150 => ?_)
    · replace h := (if_pos c150).symm.trans h
      exact w_j_La_machinesHold_193 ok hse (by omega) (by omega) hB1 hB2 hexit hrec mb h hk
    · replace h := (if_neg c150).symm.trans h
      exact w_j_La_machinesHold_197 ok hse (by omega) (by omega) hB1 hB2 hexit hrec mb h hk
set_option maxRecDepth 100000 in
set_option maxHeartbeats 4000000 in
theorem w_j_La_machinesHold_157 {X : CX} {KX : Int64 × Int32 × MS → Prop}  {a0 : Option Nat} {a1 : Int32} {a2 : Option Nat} {a3 : Option Nat} {a4 : Int64} {a7 : Int32} {a8 : Int64} {a10 : Int64} {a12 : Int64} {s : MS} {rec : Int64 → Int32 → Int32 → MS → Option (Int64 × Int32 × MS)} {sb : MS} {ce0 sl0 cB sB : Nat} (ok : Ok X cL_machinesHold RL rm_La_machinesHold 15 true) (hse : SE X.2.2.2.1 X.1.2.2.2.2.1 ∧ X.1.2.1.stackTraces = false) (hc1 : ce0 + 4 ≤ cB) (hc2 : sl0 + 24 ≤ sB) (hB1 : cB ≤ 123) (hB2 : sB ≤ 738) (hexit : ∀ (e4 : Int64) (e6 : Int32) (z : MS), KX (e4, e6, z) → (∀ q, dm sb q → dm z q) → G X z cB sB 345 [(0, vR a0), (4, vL e4), (6, vI e6)] []) (hrec : ∀ (v4 : Int64) (v6 : Int32) (v7 : Int32) (z : MS), (∀ q, dm sb q → dm z q) → ∀ y, rec v4 v6 v7 z = some y → KX y → G X z cB sB 26 [(0, vR a0), (1, vI a1), (2, vR a2), (3, vR a3), (4, vL v4), (6, vI v6), (7, vI v7)] []) (mb : ∀ q, dm sb q → dm s q) {res : Int64 × Int32 × MS} (h : j_La_machinesHold_157 a0 a1 a2 a3 a4 a7 a8 a10 a12 s rec = some res) (hk : KX res) : G X s ce0 sl0 157 [(0, vR a0), (1, vI a1), (2, vR a2), (3, vR a3), (4, vL a4), (7, vI a7), (8, vL a8), (10, vL a10), (12, vL a12)] [] := by
  unfold j_La_machinesHold_157 at h
  refine g_lload (i := 8) 6 ok d_La_machinesHold_157 rfl ?_
  refine g_ldc2 (v := (2 : Int64)) ok d_La_machinesHold_159 tw_688 ?_
  refine g_lcmp ok d_La_machinesHold_162 ?_
  refine g_if_ne (tgt := 175) ok d_La_machinesHold_163 (by decide) (fun c147 => ?_) (fun c147 => ?_)
  · replace h := (if_pos c147).symm.trans h
    refine g_lload (i := 12) 8 ok d_La_machinesHold_166 rfl ?_
    refine g_ldc2 (v := (100 : Int64)) ok d_La_machinesHold_168 tw_686 ?_
    refine g_lcmp ok d_La_machinesHold_171 ?_
    refine g_if_lt (tgt := 197) ok d_La_machinesHold_172 (by decide) (fun c148 => ?_) (fun c148 => ?_)
    · replace h := (if_pos c148).symm.trans h
      exact w_j_La_machinesHold_197 ok hse (by omega) (by omega) hB1 hB2 hexit hrec mb h hk
    · replace h := (if_neg c148).symm.trans h
      exact w_j_La_machinesHold_175 ok hse (by omega) (by omega) hB1 hB2 hexit hrec mb h hk
  · replace h := (if_neg c147).symm.trans h
    exact w_j_La_machinesHold_175 ok hse (by omega) (by omega) hB1 hB2 hexit hrec mb h hk
set_option maxRecDepth 100000 in
set_option maxHeartbeats 4000000 in
theorem w_j_La_machinesHold_132 {X : CX} {KX : Int64 × Int32 × MS → Prop}  {a0 : Option Nat} {a1 : Int32} {a2 : Option Nat} {a3 : Option Nat} {a4 : Int64} {a7 : Int32} {a8 : Int64} {a10 : Int64} {a12 : Int64} {s : MS} {rec : Int64 → Int32 → Int32 → MS → Option (Int64 × Int32 × MS)} {sb : MS} {ce0 sl0 cB sB : Nat} (ok : Ok X cL_machinesHold RL rm_La_machinesHold 15 true) (hse : SE X.2.2.2.1 X.1.2.2.2.2.1 ∧ X.1.2.1.stackTraces = false) (hc1 : ce0 + 4 ≤ cB) (hc2 : sl0 + 24 ≤ sB) (hB1 : cB ≤ 123) (hB2 : sB ≤ 738) (hexit : ∀ (e4 : Int64) (e6 : Int32) (z : MS), KX (e4, e6, z) → (∀ q, dm sb q → dm z q) → G X z cB sB 345 [(0, vR a0), (4, vL e4), (6, vI e6)] []) (hrec : ∀ (v4 : Int64) (v6 : Int32) (v7 : Int32) (z : MS), (∀ q, dm sb q → dm z q) → ∀ y, rec v4 v6 v7 z = some y → KX y → G X z cB sB 26 [(0, vR a0), (1, vI a1), (2, vR a2), (3, vR a3), (4, vL v4), (6, vI v6), (7, vI v7)] []) (mb : ∀ q, dm sb q → dm s q) {res : Int64 × Int32 × MS} (h : j_La_machinesHold_132 a0 a1 a2 a3 a4 a7 a8 a10 a12 s rec = some res) (hk : KX res) : G X s ce0 sl0 132 [(0, vR a0), (1, vI a1), (2, vR a2), (3, vR a3), (4, vL a4), (7, vI a7), (8, vL a8), (10, vL a10), (12, vL a12)] [] := by
  unfold j_La_machinesHold_132 at h
  refine g_lload (i := 8) 6 ok d_La_machinesHold_132 rfl ?_
  refine g_lconst (v := (0 : Int64)) ok d_La_machinesHold_134 (by decide) ?_
  refine g_lcmp ok d_La_machinesHold_135 ?_
  refine g_if_ne (tgt := 157) ok d_La_machinesHold_136 (by decide) (fun c141 => ?_) (fun c141 => ?_)
  · replace h := (if_pos c141).symm.trans h
    refine g_lload (i := 12) 8 ok d_La_machinesHold_139 rfl ?_
    refine g_ldc2 (v := (100 : Int64)) ok d_La_machinesHold_141 tw_686 ?_
    refine g_lcmp ok d_La_machinesHold_144 ?_
    refine g_if_ge (tgt := 197) ok d_La_machinesHold_145 (by decide) (fun c142 => ?_) (fun c142 => ?_)
    · replace h := (if_pos c142).symm.trans h
      refine g_aload_n (i := 2) 2 ok d_La_machinesHold_148 rfl rfl ?_
      refine g_lload (i := 12) 8 ok d_La_machinesHold_149 rfl ?_
      obtain ⟨x144, hc145, h⟩ := bnd_go h
      refine g_invS (rm2 := rm_La_isSpot) (As := [vR a2, vL a12]) (rest := []) ok (c_La_isSpot X.1.2.1 hc145) cm_La_isSpot cs_La_isSpot tw_680 ⟨rfl, rfl⟩ ⟨le_t rfl, le_t rfl⟩ ⟨rfl, le_t rfl⟩ ⟨(by show _ ≤ 123; omega), (by show _ ≤ 738; omega)⟩ d_La_machinesHold_151 rfl (fun m143 => ?_)
      show G X s ce0 sl0 154 [(0, vR a0), (1, vI a1), (2, vR a2), (3, vR a3), (4, vL a4), (7, vI a7), (8, vL a8), (10, vL a10), (12, vL a12)] [vI x144]
      refine g_if_eq (tgt := 197) ok d_La_machinesHold_154 (by decide) (fun c146 => ?_) (fun c146 => ?_)
      · replace h := (if_pos c146).symm.trans h
        exact w_j_La_machinesHold_197 ok hse (by omega) (by omega) hB1 hB2 hexit hrec mb h hk
      · replace h := (if_neg c146).symm.trans h
        exact w_j_La_machinesHold_157 ok hse (by omega) (by omega) hB1 hB2 hexit hrec mb h hk
    · replace h := (if_neg c142).symm.trans h
      exact w_j_La_machinesHold_197 ok hse (by omega) (by omega) hB1 hB2 hexit hrec mb h hk
  · replace h := (if_neg c141).symm.trans h
    exact w_j_La_machinesHold_157 ok hse (by omega) (by omega) hB1 hB2 hexit hrec mb h hk
set_option maxRecDepth 100000 in
set_option maxHeartbeats 4000000 in
theorem w_j_La_machinesHold_92 {X : CX} {KX : Int64 × Int32 × MS → Prop}  {a0 : Option Nat} {a1 : Int32} {a2 : Option Nat} {a3 : Option Nat} {a7 : Int32} {a8 : Int64} {a10 : Int64} {a12 : Int64} {t0 : Int64} {t1 : Int64} {s : MS} {rec : Int64 → Int32 → Int32 → MS → Option (Int64 × Int32 × MS)} {sb : MS} {ce0 sl0 cB sB : Nat} (ok : Ok X cL_machinesHold RL rm_La_machinesHold 15 true) (hse : SE X.2.2.2.1 X.1.2.2.2.2.1 ∧ X.1.2.1.stackTraces = false) (hc1 : ce0 + 6 ≤ cB) (hc2 : sl0 + 36 ≤ sB) (hB1 : cB ≤ 123) (hB2 : sB ≤ 738) (hexit : ∀ (e4 : Int64) (e6 : Int32) (z : MS), KX (e4, e6, z) → (∀ q, dm sb q → dm z q) → G X z cB sB 345 [(0, vR a0), (4, vL e4), (6, vI e6)] []) (hrec : ∀ (v4 : Int64) (v6 : Int32) (v7 : Int32) (z : MS), (∀ q, dm sb q → dm z q) → ∀ y, rec v4 v6 v7 z = some y → KX y → G X z cB sB 26 [(0, vR a0), (1, vI a1), (2, vR a2), (3, vR a3), (4, vL v4), (6, vI v6), (7, vI v7)] []) (mb : ∀ q, dm sb q → dm s q) {res : Int64 × Int32 × MS} (h : j_La_machinesHold_92 a0 a1 a2 a3 a7 a8 a10 a12 t0 t1 s rec = some res) (hk : KX res) : G X s ce0 sl0 92 [(0, vR a0), (1, vI a1), (2, vR a2), (3, vR a3), (7, vI a7), (8, vL a8), (10, vL a10), (12, vL a12)] [vL t0, vL t1] := by
  unfold j_La_machinesHold_92 at h
  refine g_ladd ok d_La_machinesHold_92 ?_
  obtain ⟨x51, e52⟩ : ∃ z, (t1 + t0) = z := ⟨_, rfl⟩
  replace h := lt_go h e52
  rw [e52]
  refine g_lstore (i := 4) [(4, vL x51), (0, vR a0), (1, vI a1), (2, vR a2), (3, vR a3), (7, vI a7), (8, vL a8), (10, vL a10), (12, vL a12)] ok d_La_machinesHold_93 (by decide) rfl ?_
  refine g_aload_n (i := 0) 1 ok d_La_machinesHold_95 rfl rfl ?_
  refine g_iload (i := 7) 5 ok d_La_machinesHold_96 rfl ?_
  refine g_iconst (v := (3 : Int32)) ok d_La_machinesHold_98 (by decide) ?_
  obtain ⟨k53, hk54, h⟩ := bnd_go h
  obtain ⟨n55, hn56, h⟩ := bnd_go h
  obtain ⟨n57, hn58, h⟩ := bnd_go h
  obtain ⟨x62, s61, hc60, h⟩ := bnd2_go h
  refine g_callW (rm2 := rm_La_ofMachine) (As := [vR a0, vI a7, vI (3 : Int32)]) (rest := []) ok hse.1 (c_La_ofMachine hse.2 hc60) cm_La_ofMachine cs_La_ofMachine tw_649 ⟨rfl, rfl⟩ ⟨le_t rfl, le_t rfl⟩ ⟨rfl, le_t rfl⟩ ⟨(by show _ ≤ 123; omega), (by show _ ≤ 738; omega)⟩ ⟨trivial, ⟨(rk_of hk54), ⟨trivial, ⟨(rk_rl hn56), ⟨(rk_rl hn58), ⟨trivial, ⟨trivial, ⟨trivial, ⟨trivial, trivial⟩⟩⟩⟩⟩⟩⟩⟩⟩ trivial d_La_machinesHold_99 rfl (fun m59 => ?_)
  show G X s61 (ce0 + 1) (sl0 + 6) 102 [(4, vL x51), (0, vR a0), (1, vI a1), (2, vR a2), (3, vR a3), (7, vI a7), (8, vL a8), (10, vL a10), (12, vL a12)] [vL x62]
  refine g_aload_n (i := 3) 4 ok d_La_machinesHold_102 rfl rfl ?_
  refine g_iload (i := 7) 5 ok d_La_machinesHold_103 rfl ?_
  obtain ⟨k63, hk64, h⟩ := bnd_go h
  refine g_iald ok hk64 d_La_machinesHold_105 ?_
  refine g_i2l ok d_La_machinesHold_106 ?_
  refine g_lcmp ok d_La_machinesHold_107 ?_
  refine g_if_gt (tgt := 197) ok d_La_machinesHold_108 (by decide) (fun c65 => ?_) (fun c65 => ?_)
  · replace h := (if_pos c65).symm.trans h
    refine g_sub [1, 2, 3, 4, 0, 5, 6, 7, 8] rfl ?_
    exact w_j_La_machinesHold_197 ok hse (by omega) (by omega) hB1 hB2 hexit hrec (fun z hz => m59 z (mb z hz)) h hk
  · replace h := (if_neg c65).symm.trans h
    refine g_lload (i := 8) 6 ok d_La_machinesHold_111 rfl ?_
    refine g_ldc2 (v := (3 : Int64)) ok d_La_machinesHold_113 tw_687 ?_
    refine g_lcmp ok d_La_machinesHold_116 ?_
    refine g_if_eq (tgt := 132) ok d_La_machinesHold_117 (by decide) (fun c140 => ?_) (fun c140 => ?_)
    · replace h := (if_pos c140).symm.trans h
      refine g_sub [1, 2, 3, 4, 0, 5, 6, 7, 8] rfl ?_
      exact w_j_La_machinesHold_132 ok hse (by omega) (by omega) hB1 hB2 hexit hrec (fun z hz => m59 z (mb z hz)) h hk
    · replace h := (if_neg c140).symm.trans h
      refine g_aload_n (i := 0) 1 ok d_La_machinesHold_120 rfl rfl ?_
      refine g_iload (i := 7) 5 ok d_La_machinesHold_121 rfl ?_
      refine g_iconst (v := (3 : Int32)) ok d_La_machinesHold_123 (by decide) ?_
      obtain ⟨n151, hn152, h⟩ := bnd_go h
      obtain ⟨n153, hn154, h⟩ := bnd_go h
      obtain ⟨x158, s157, hc156, h⟩ := bnd2_go h
      refine g_callW (rm2 := rm_La_ofMachine) (As := [vR a0, vI a7, vI (3 : Int32)]) (rest := []) ok hse.1 (c_La_ofMachine hse.2 hc156) cm_La_ofMachine cs_La_ofMachine tw_649 ⟨rfl, rfl⟩ ⟨le_t rfl, le_t rfl⟩ ⟨rfl, le_t rfl⟩ ⟨(by show _ ≤ 123; omega), (by show _ ≤ 738; omega)⟩ ⟨trivial, ⟨(rk_of (rf_mono m59 hk54)), ⟨trivial, ⟨(rk_rl hn152), ⟨(rk_rl hn154), ⟨trivial, ⟨trivial, ⟨trivial, ⟨trivial, trivial⟩⟩⟩⟩⟩⟩⟩⟩⟩ trivial d_La_machinesHold_124 rfl (fun m155 => ?_)
      show G X s157 ((ce0 + 1) + 1) ((sl0 + 6) + 6) 127 [(4, vL x51), (0, vR a0), (1, vI a1), (2, vR a2), (3, vR a3), (7, vI a7), (8, vL a8), (10, vL a10), (12, vL a12)] [vL x158]
      refine g_lconst (v := (0 : Int64)) ok d_La_machinesHold_127 (by decide) ?_
      refine g_lcmp ok d_La_machinesHold_128 ?_
      refine g_if_lt (tgt := 197) ok d_La_machinesHold_129 (by decide) (fun c159 => ?_) (fun c159 => ?_)
      · replace h := (if_pos c159).symm.trans h
        refine g_sub [1, 2, 3, 4, 0, 5, 6, 7, 8] rfl ?_
        exact w_j_La_machinesHold_197 ok hse (by omega) (by omega) hB1 hB2 hexit hrec (fun z hz => m155 z ((fun z hz => m59 z (mb z hz)) z hz)) h hk
      · replace h := (if_neg c159).symm.trans h
        refine g_sub [1, 2, 3, 4, 0, 5, 6, 7, 8] rfl ?_
        exact w_j_La_machinesHold_132 ok hse (by omega) (by omega) hB1 hB2 hexit hrec (fun z hz => m155 z ((fun z hz => m59 z (mb z hz)) z hz)) h hk
set_option maxRecDepth 100000 in
set_option maxHeartbeats 4000000 in
theorem w_b_La_machinesHold_26 {X : CX} {KX : Int64 × Int32 × MS → Prop}  {a0 : Option Nat} {a1 : Int32} {a2 : Option Nat} {a3 : Option Nat} {a4 : Int64} {a6 : Int32} {a7 : Int32} {s : MS} {rec : Int64 → Int32 → Int32 → MS → Option (Int64 × Int32 × MS)} {sb : MS} {ce0 sl0 cB sB : Nat} (ok : Ok X cL_machinesHold RL rm_La_machinesHold 15 true) (hse : SE X.2.2.2.1 X.1.2.2.2.2.1 ∧ X.1.2.1.stackTraces = false) (hc1 : ce0 + 10 ≤ cB) (hc2 : sl0 + 60 ≤ sB) (hB1 : cB ≤ 123) (hB2 : sB ≤ 738) (hexit : ∀ (e4 : Int64) (e6 : Int32) (z : MS), KX (e4, e6, z) → (∀ q, dm sb q → dm z q) → G X z cB sB 345 [(0, vR a0), (4, vL e4), (6, vI e6)] []) (hrec : ∀ (v4 : Int64) (v6 : Int32) (v7 : Int32) (z : MS), (∀ q, dm sb q → dm z q) → ∀ y, rec v4 v6 v7 z = some y → KX y → G X z cB sB 26 [(0, vR a0), (1, vI a1), (2, vR a2), (3, vR a3), (4, vL v4), (6, vI v6), (7, vI v7)] []) (mb : ∀ q, dm sb q → dm s q) {res : Int64 × Int32 × MS} (h : b_La_machinesHold_26 a0 a1 a2 a3 a4 a6 a7 s rec = some res) (hk : KX res) : G X s ce0 sl0 26 [(0, vR a0), (1, vI a1), (2, vR a2), (3, vR a3), (4, vL a4), (6, vI a6), (7, vI a7)] [] := by
  unfold b_La_machinesHold_26 at h
  refine g_iload (i := 7) 6 ok d_La_machinesHold_26 rfl ?_
  refine g_iload_n (i := 1) 1 ok d_La_machinesHold_28 rfl rfl ?_
  refine g_icmp_ge (tgt := 345) ok d_La_machinesHold_29 (by decide) (fun c12 => ?_) (fun c12 => ?_)
  · replace h := (if_pos c12).symm.trans h
    refine g_iload (i := 6) 5 ok d_La_machinesHold_32 rfl ?_
    refine g_if_eq (tgt := 345) ok d_La_machinesHold_34 (by decide) (fun c13 => ?_) (fun c13 => ?_)
    · replace h := (if_pos c13).symm.trans h
      refine g_sub [0, 4, 5] rfl ?_
      refine g_widen (ce' := cB) (sl' := sB) (by omega) (by omega) ?_
      cases h
      exact hexit a4 a6 s hk mb
    · replace h := (if_neg c13).symm.trans h
      refine g_aload_n (i := 0) 0 ok d_La_machinesHold_37 rfl rfl ?_
      refine g_iload (i := 7) 6 ok d_La_machinesHold_38 rfl ?_
      refine g_iconst (v := (0 : Int32)) ok d_La_machinesHold_40 (by decide) ?_
      refine g_sub [0, 1, 2, 3, 4, 6] rfl ?_
      obtain ⟨k14, hk15, h⟩ := bnd_go h
      obtain ⟨n16, hn17, h⟩ := bnd_go h
      obtain ⟨n18, hn19, h⟩ := bnd_go h
      obtain ⟨x23, s22, hc21, h⟩ := bnd2_go h
      refine g_callW (rm2 := rm_La_ofMachine) (As := [vR a0, vI a7, vI (0 : Int32)]) (rest := []) ok hse.1 (c_La_ofMachine hse.2 hc21) cm_La_ofMachine cs_La_ofMachine tw_649 ⟨rfl, rfl⟩ ⟨le_t rfl, le_t rfl⟩ ⟨rfl, le_t rfl⟩ ⟨(by show _ ≤ 123; omega), (by show _ ≤ 738; omega)⟩ ⟨(rk_of hk15), ⟨trivial, ⟨(rk_rl hn17), ⟨(rk_rl hn19), ⟨trivial, ⟨trivial, trivial⟩⟩⟩⟩⟩⟩ trivial d_La_machinesHold_41 rfl (fun m20 => ?_)
      show G X s22 (ce0 + 1) (sl0 + 6) 44 [(0, vR a0), (1, vI a1), (2, vR a2), (3, vR a3), (4, vL a4), (7, vI a7)] [vL x23]
      refine g_lstore (i := 8) [(8, vL x23), (0, vR a0), (1, vI a1), (2, vR a2), (3, vR a3), (4, vL a4), (7, vI a7)] ok d_La_machinesHold_44 (by decide) rfl ?_
      refine g_aload_n (i := 0) 1 ok d_La_machinesHold_46 rfl rfl ?_
      refine g_iload (i := 7) 6 ok d_La_machinesHold_47 rfl ?_
      refine g_iconst (v := (5 : Int32)) ok d_La_machinesHold_49 (by decide) ?_
      obtain ⟨n24, hn25, h⟩ := bnd_go h
      obtain ⟨n26, hn27, h⟩ := bnd_go h
      obtain ⟨x31, s30, hc29, h⟩ := bnd2_go h
      refine g_callW (rm2 := rm_La_ofMachine) (As := [vR a0, vI a7, vI (5 : Int32)]) (rest := []) ok hse.1 (c_La_ofMachine hse.2 hc29) cm_La_ofMachine cs_La_ofMachine tw_649 ⟨rfl, rfl⟩ ⟨le_t rfl, le_t rfl⟩ ⟨rfl, le_t rfl⟩ ⟨(by show _ ≤ 123; omega), (by show _ ≤ 738; omega)⟩ ⟨trivial, ⟨(rk_of (rf_mono m20 hk15)), ⟨trivial, ⟨(rk_rl hn25), ⟨(rk_rl hn27), ⟨trivial, ⟨trivial, trivial⟩⟩⟩⟩⟩⟩⟩ trivial d_La_machinesHold_50 rfl (fun m28 => ?_)
      show G X s30 ((ce0 + 1) + 1) ((sl0 + 6) + 6) 53 [(8, vL x23), (0, vR a0), (1, vI a1), (2, vR a2), (3, vR a3), (4, vL a4), (7, vI a7)] [vL x31]
      refine g_lstore (i := 10) [(10, vL x31), (8, vL x23), (0, vR a0), (1, vI a1), (2, vR a2), (3, vR a3), (4, vL a4), (7, vI a7)] ok d_La_machinesHold_53 (by decide) rfl ?_
      refine g_ldc2 (v := (100 : Int64)) ok d_La_machinesHold_55 tw_686 ?_
      refine g_aload_n (i := 0) 2 ok d_La_machinesHold_58 rfl rfl ?_
      refine g_iload (i := 7) 7 ok d_La_machinesHold_59 rfl ?_
      refine g_iconst (v := (2 : Int32)) ok d_La_machinesHold_61 (by decide) ?_
      obtain ⟨n32, hn33, h⟩ := bnd_go h
      obtain ⟨n34, hn35, h⟩ := bnd_go h
      obtain ⟨x39, s38, hc37, h⟩ := bnd2_go h
      refine g_callW (rm2 := rm_La_ofMachine) (As := [vR a0, vI a7, vI (2 : Int32)]) (rest := [vL (100 : Int64)]) ok hse.1 (c_La_ofMachine hse.2 hc37) cm_La_ofMachine cs_La_ofMachine tw_649 ⟨rfl, rfl⟩ ⟨le_t rfl, le_t rfl⟩ ⟨rfl, le_t rfl⟩ ⟨(by show _ ≤ 123; omega), (by show _ ≤ 738; omega)⟩ ⟨trivial, ⟨trivial, ⟨(rk_of (rf_mono m28 (rf_mono m20 hk15))), ⟨trivial, ⟨(rk_rl hn33), ⟨(rk_rl hn35), ⟨trivial, ⟨trivial, trivial⟩⟩⟩⟩⟩⟩⟩⟩ ⟨trivial, trivial⟩ d_La_machinesHold_62 rfl (fun m36 => ?_)
      show G X s38 (((ce0 + 1) + 1) + 1) (((sl0 + 6) + 6) + 6) 65 [(10, vL x31), (8, vL x23), (0, vR a0), (1, vI a1), (2, vR a2), (3, vR a3), (4, vL a4), (7, vI a7)] [vL x39, vL (100 : Int64)]
      refine g_lmul ok d_La_machinesHold_65 ?_
      refine g_aload_n (i := 0) 2 ok d_La_machinesHold_66 rfl rfl ?_
      refine g_iload (i := 7) 7 ok d_La_machinesHold_67 rfl ?_
      refine g_iconst (v := (1 : Int32)) ok d_La_machinesHold_69 (by decide) ?_
      obtain ⟨n40, hn41, h⟩ := bnd_go h
      obtain ⟨n42, hn43, h⟩ := bnd_go h
      obtain ⟨x47, s46, hc45, h⟩ := bnd2_go h
      refine g_callW (rm2 := rm_La_ofMachine) (As := [vR a0, vI a7, vI (1 : Int32)]) (rest := [vL ((100 : Int64) * x39)]) ok hse.1 (c_La_ofMachine hse.2 hc45) cm_La_ofMachine cs_La_ofMachine tw_649 ⟨rfl, rfl⟩ ⟨le_t rfl, le_t rfl⟩ ⟨rfl, le_t rfl⟩ ⟨(by show _ ≤ 123; omega), (by show _ ≤ 738; omega)⟩ ⟨trivial, ⟨trivial, ⟨(rk_of (rf_mono m36 (rf_mono m28 (rf_mono m20 hk15)))), ⟨trivial, ⟨(rk_rl hn41), ⟨(rk_rl hn43), ⟨trivial, ⟨trivial, trivial⟩⟩⟩⟩⟩⟩⟩⟩ ⟨trivial, trivial⟩ d_La_machinesHold_70 rfl (fun m44 => ?_)
      show G X s46 ((((ce0 + 1) + 1) + 1) + 1) ((((sl0 + 6) + 6) + 6) + 6) 73 [(10, vL x31), (8, vL x23), (0, vR a0), (1, vI a1), (2, vR a2), (3, vR a3), (4, vL a4), (7, vI a7)] [vL x47, vL ((100 : Int64) * x39)]
      refine g_ladd ok d_La_machinesHold_73 ?_
      obtain ⟨x48, e49⟩ : ∃ z, (((100 : Int64) * x39) + x47) = z := ⟨_, rfl⟩
      replace h := lt_go h e49
      rw [e49]
      refine g_lstore (i := 12) [(12, vL x48), (10, vL x31), (8, vL x23), (0, vR a0), (1, vI a1), (2, vR a2), (3, vR a3), (4, vL a4), (7, vI a7)] ok d_La_machinesHold_74 (by decide) rfl ?_
      refine g_lload (i := 4) 7 ok d_La_machinesHold_76 rfl ?_
      refine g_lload (i := 8) 2 ok d_La_machinesHold_78 rfl ?_
      refine g_ldc2 (v := (3 : Int64)) ok d_La_machinesHold_80 tw_687 ?_
      refine g_lcmp ok d_La_machinesHold_83 ?_
      refine g_if_ne (tgt := 91) ok d_La_machinesHold_84 (by decide) (fun c50 => ?_) (fun c50 => ?_)
      · replace h := (if_pos c50).symm.trans h
        refine g_lconst (v := (1 : Int64)) ok d_La_machinesHold_87 (by decide) ?_
        refine g_goto (tgt := 92) ok d_La_machinesHold_88 (by decide) ?_
        refine g_sub [3, 4, 5, 6, 8, 2, 1, 0] rfl ?_
        exact w_j_La_machinesHold_92 ok hse (by omega) (by omega) hB1 hB2 hexit hrec (fun z hz => m44 z ((fun z hz => m36 z ((fun z hz => m28 z ((fun z hz => m20 z (mb z hz)) z hz)) z hz)) z hz)) h hk
      · replace h := (if_neg c50).symm.trans h
        refine g_lconst (v := (0 : Int64)) ok d_La_machinesHold_91 (by decide) ?_
        refine g_sub [3, 4, 5, 6, 8, 2, 1, 0] rfl ?_
        exact w_j_La_machinesHold_92 ok hse (by omega) (by omega) hB1 hB2 hexit hrec (fun z hz => m44 z ((fun z hz => m36 z ((fun z hz => m28 z ((fun z hz => m20 z (mb z hz)) z hz)) z hz)) z hz)) h hk
  · replace h := (if_neg c12).symm.trans h
    refine g_sub [0, 4, 5] rfl ?_
    refine g_widen (ce' := cB) (sl' := sB) (by omega) (by omega) ?_
    cases h
    exact hexit a4 a6 s hk mb
set_option maxHeartbeats 4000000 in
theorem wx_l_La_machinesHold_26 {X : CX} {KX : Int64 × Int32 × MS → Prop} {a0 : Option Nat} {a1 : Int32} {a2 : Option Nat} {a3 : Option Nat} {sb : MS} {c0 d0 : Nat} (ok : Ok X cL_machinesHold RL rm_La_machinesHold 15 true) (hse : SE X.2.2.2.1 X.1.2.2.2.2.1 ∧ X.1.2.1.stackTraces = false) (hc1 : c0 + 120 ≤ 123) (hc2 : d0 + 720 ≤ 738) (hexit : ∀ (e4 : Int64) (e6 : Int32) (z : MS), KX (e4, e6, z) → (∀ q, dm sb q → dm z q) → G X z (c0 + 120) (d0 + 720) 345 [(0, vR a0), (4, vL e4), (6, vI e6)] []) : ∀ (n : Nat), n ≤ 12 → ∀ (a4 : Int64) (a6 : Int32) (a7 : Int32) (s : MS), (∀ q, dm sb q → dm s q) → ∀ (res : Int64 × Int32 × MS), l_La_machinesHold_26 a0 a1 a2 a3 n a4 a6 a7 s = some res → KX res → G X s (c0 + (12 - n) * 10) (d0 + (12 - n) * 60) 26 [(0, vR a0), (1, vI a1), (2, vR a2), (3, vR a3), (4, vL a4), (6, vI a6), (7, vI a7)] [] := by
  intro n
  induction n with
  | zero => intro _ _ _ _ s _ res h; cases h
  | succ n ih =>
    intro hn a4 a6 a7 s mb res h hk
    exact w_b_La_machinesHold_26 (cB := c0 + (12 - n) * 10) (sB := d0 + (12 - n) * 60) ok hse (by omega) (by omega) (by omega) (by omega) (fun e4 e6 z k1 k2 => g_widen (by omega) (by omega) (hexit e4 e6 z k1 k2)) (fun v4 v6 v7 z hz y h2 hk2 => ih (by omega) v4 v6 v7 z hz y h2 hk2) mb h hk
theorem w_l_La_machinesHold_26 {X : CX} {KX : Int64 × Int32 × MS → Prop} {a0 : Option Nat} {a1 : Int32} {a2 : Option Nat} {a3 : Option Nat} {sb : MS} {c0 d0 : Nat} (ok : Ok X cL_machinesHold RL rm_La_machinesHold 15 true) (hse : SE X.2.2.2.1 X.1.2.2.2.2.1 ∧ X.1.2.1.stackTraces = false) (hc1 : c0 + 120 ≤ 123) (hc2 : d0 + 720 ≤ 738) (hexit : ∀ (e4 : Int64) (e6 : Int32) (z : MS), KX (e4, e6, z) → (∀ q, dm sb q → dm z q) → G X z (c0 + 120) (d0 + 720) 345 [(0, vR a0), (4, vL e4), (6, vI e6)] []) (a4 : Int64) (a6 : Int32) (a7 : Int32) {res : Int64 × Int32 × MS} (h : l_La_machinesHold_26 a0 a1 a2 a3 12 a4 a6 a7 sb = some res) (hk : KX res) : G X sb c0 d0 26 [(0, vR a0), (1, vI a1), (2, vR a2), (3, vR a3), (4, vL a4), (6, vI a6), (7, vI a7)] [] := by
  have q := wx_l_La_machinesHold_26 ok hse hc1 hc2 hexit 12 (Nat.le_refl _) a4 a6 a7 sb (fun _ hz => hz) res h hk
  simp only [Nat.sub_self, Nat.zero_mul, Nat.add_zero] at q
  exact q
set_option maxRecDepth 100000 in
set_option maxHeartbeats 4000000 in
theorem w_j_La_machinesHold_21 {X : CX} {KX : Int32 × MS → Prop}  {a0 : Option Nat} {a1 : Int32} {a2 : Option Nat} {a3 : Option Nat} {a4 : Int64} {t0 : Int32} {s : MS} {ce0 sl0 : Nat} (ok : Ok X cL_machinesHold RL rm_La_machinesHold 15 true) (hse : SE X.2.2.2.1 X.1.2.2.2.2.1 ∧ X.1.2.1.stackTraces = false) (hret : ∀ r : Int32 × MS, KX r → Fix X (some .boolean) 123 738 true none (some (vI r.1)) r.2) (hc1 : ce0 + 122 ≤ 123) (hc2 : sl0 + 732 ≤ 738) {res : Int32 × MS} (h : j_La_machinesHold_21 a0 a1 a2 a3 a4 t0 s = some res) (hk : KX res) : G X s ce0 sl0 21 [(0, vR a0), (1, vI a1), (2, vR a2), (3, vR a3), (4, vL a4)] [vI t0] := by
  unfold j_La_machinesHold_21 at h
  refine g_istore (i := 6) [(6, vI t0), (0, vR a0), (1, vI a1), (2, vR a2), (3, vR a3), (4, vL a4)] ok d_La_machinesHold_21 (by decide) rfl ?_
  refine g_iconst (v := (0 : Int32)) ok d_La_machinesHold_23 (by decide) ?_
  refine g_istore (i := 7) [(7, vI (0 : Int32)), (6, vI t0), (0, vR a0), (1, vI a1), (2, vR a2), (3, vR a3), (4, vL a4)] ok d_La_machinesHold_24 (by decide) rfl ?_
  refine g_sub [2, 3, 4, 5, 6, 1, 0] rfl ?_
  obtain ⟨e160, e161, s163, hx, h⟩ := bnd3_go h
  refine w_l_La_machinesHold_26 (KX := fun y => y = (e160, e161, s163)) (c0 := ce0) (d0 := sl0) ok hse (by omega) (by omega) (fun y0 y1 y2 he m162 => ?_) _ _ _ hx rfl
  cases he
  refine g_iload (i := 6) 2 ok d_La_machinesHold_345 rfl ?_
  refine g_if_eq (tgt := 376) ok d_La_machinesHold_347 (by decide) (fun c164 => ?_) (fun c164 => ?_)
  · replace h := (if_pos c164).symm.trans h
    refine g_iconst (v := (0 : Int32)) ok d_La_machinesHold_376 (by decide) ?_
    cases h
    exact g_zretX ok (hret _ hk) (Or.inl rfl) (by omega) (by omega) d_La_machinesHold_377
  · replace h := (if_neg c164).symm.trans h
    refine g_aload_n (i := 0) 0 ok d_La_machinesHold_350 rfl rfl ?_
    refine g_iconst (v := (3 : Int32)) ok d_La_machinesHold_351 (by decide) ?_
    refine g_sub [0, 1] rfl ?_
    obtain ⟨k165, hk166, h⟩ := bnd_go h
    obtain ⟨x170, s169, hc168, h⟩ := bnd2_go h
    refine g_callW (rm2 := rm_La_count) (As := [vR a0, vI (3 : Int32)]) (rest := []) ok hse.1 (c_La_count hse.2 hc168) cm_La_count cs_La_count tw_665 ⟨rfl, rfl⟩ ⟨le_t rfl, le_t rfl⟩ ⟨rfl, le_t rfl⟩ ⟨(by show _ ≤ 123; omega), (by show _ ≤ 738; omega)⟩ ⟨(rk_of hk166), ⟨trivial, trivial⟩⟩ trivial d_La_machinesHold_352 rfl (fun m167 => ?_)
    show G X s169 ((ce0 + 120) + 1) ((sl0 + 720) + 6) 355 [(0, vR a0), (4, vL e160)] [vL x170]
    refine g_lload (i := 4) 1 ok d_La_machinesHold_355 rfl ?_
    refine g_lcmp ok d_La_machinesHold_357 ?_
    refine g_if_ne (tgt := 376) ok d_La_machinesHold_358 (by decide) (fun c171 => ?_) (fun c171 => ?_)
    · replace h := (if_pos c171).symm.trans h
      refine g_aload_n (i := 0) 0 ok d_La_machinesHold_361 rfl rfl ?_
      refine g_iconst (v := (4 : Int32)) ok d_La_machinesHold_362 (by decide) ?_
      refine g_sub [1] rfl ?_
      obtain ⟨x175, s174, hc173, h⟩ := bnd2_go h
      refine g_callW (rm2 := rm_La_count) (As := [vR a0, vI (4 : Int32)]) (rest := []) ok hse.1 (c_La_count hse.2 hc173) cm_La_count cs_La_count tw_665 ⟨rfl, rfl⟩ ⟨le_t rfl, le_t rfl⟩ ⟨rfl, le_t rfl⟩ ⟨(by show _ ≤ 123; omega), (by show _ ≤ 738; omega)⟩ ⟨trivial, trivial⟩ trivial d_La_machinesHold_363 rfl (fun m172 => ?_)
      show G X s174 (((ce0 + 120) + 1) + 1) (((sl0 + 720) + 6) + 6) 366 [(4, vL e160)] [vL x175]
      refine g_lload (i := 4) 0 ok d_La_machinesHold_366 rfl ?_
      refine g_lcmp ok d_La_machinesHold_368 ?_
      refine g_if_gt (tgt := 376) ok d_La_machinesHold_369 (by decide) (fun c176 => ?_) (fun c176 => ?_)
      · replace h := (if_pos c176).symm.trans h
        refine g_iconst (v := (0 : Int32)) ok d_La_machinesHold_376 (by decide) ?_
        cases h
        exact g_zretX ok (hret _ hk) (Or.inl rfl) (by omega) (by omega) d_La_machinesHold_377
      · replace h := (if_neg c176).symm.trans h
        refine g_iconst (v := (1 : Int32)) ok d_La_machinesHold_372 (by decide) ?_
        refine g_goto (tgt := 377) ok d_La_machinesHold_373 (by decide) ?_
        cases h
        exact g_zretX ok (hret _ hk) (Or.inr rfl) (by omega) (by omega) d_La_machinesHold_377
    · replace h := (if_neg c171).symm.trans h
      refine g_iconst (v := (0 : Int32)) ok d_La_machinesHold_376 (by decide) ?_
      cases h
      exact g_zretX ok (hret _ hk) (Or.inl rfl) (by omega) (by omega) d_La_machinesHold_377
set_option maxRecDepth 100000 in
set_option maxHeartbeats 4000000 in
theorem w_La_machinesHold {X : CX} {KX : Int32 × MS → Prop} {a0 : Option Nat} {a1 : Int32} {a2 : Option Nat} {a3 : Option Nat} {s : MS} (ok : Ok X cL_machinesHold RL rm_La_machinesHold 15 true)  (hret : ∀ r : Int32 × MS, KX r → Fix X (some .boolean) 123 738 true none (some (vI r.1)) r.2) {res : Int32 × MS} (h : f_La_machinesHold a0 a1 a2 a3 s = some res) (hk : KX res) : G X s 0 0 0 [(0, vR a0), (1, vI a1), (2, vR a2), (3, vR a3)] [] := by
  have hse : SE X.2.2.2.1 X.1.2.2.2.2.1 ∧ X.1.2.1.stackTraces = false := ⟨(hret _ hk).2.2.2.2.1, (hret _ hk).2.2.2.1⟩
  unfold f_La_machinesHold at h
  refine g_lconst (v := (0 : Int64)) ok d_La_machinesHold_0 (by decide) ?_
  refine g_lstore (i := 4) [(4, vL (0 : Int64)), (0, vR a0), (1, vI a1), (2, vR a2), (3, vR a3)] ok d_La_machinesHold_1 (by decide) rfl ?_
  refine g_aload_n (i := 0) 1 ok d_La_machinesHold_3 rfl rfl ?_
  refine g_iload_n (i := 1) 2 ok d_La_machinesHold_4 rfl rfl ?_
  refine g_iconst (v := (0 : Int32)) ok d_La_machinesHold_5 (by decide) ?_
  obtain ⟨k1, hk2, h⟩ := bnd_go h
  obtain ⟨n3, hn4, h⟩ := bnd_go h
  obtain ⟨n5, hn6, h⟩ := bnd_go h
  obtain ⟨x10, s9, hc8, h⟩ := bnd2_go h
  refine g_callW (rm2 := rm_La_ofMachine) (As := [vR a0, vI a1, vI (0 : Int32)]) (rest := []) ok hse.1 (c_La_ofMachine hse.2 hc8) cm_La_ofMachine cs_La_ofMachine tw_649 ⟨rfl, rfl⟩ ⟨le_t rfl, le_t rfl⟩ ⟨rfl, le_t rfl⟩ ⟨(by show _ ≤ 123; omega), (by show _ ≤ 738; omega)⟩ ⟨trivial, ⟨(rk_of hk2), ⟨trivial, ⟨(rk_rl hn4), ⟨(rk_rl hn6), trivial⟩⟩⟩⟩⟩ trivial d_La_machinesHold_6 rfl (fun m7 => ?_)
  show G X s9 (0 + 1) (0 + 6) 9 [(4, vL (0 : Int64)), (0, vR a0), (1, vI a1), (2, vR a2), (3, vR a3)] [vL x10]
  refine g_ldc2 (v := (-9000000000000000001 : Int64)) ok d_La_machinesHold_9 tw_315 ?_
  refine g_lcmp ok d_La_machinesHold_12 ?_
  refine g_if_ne (tgt := 20) ok d_La_machinesHold_13 (by decide) (fun c11 => ?_) (fun c11 => ?_)
  · replace h := (if_pos c11).symm.trans h
    refine g_iconst (v := (1 : Int32)) ok d_La_machinesHold_16 (by decide) ?_
    refine g_goto (tgt := 21) ok d_La_machinesHold_17 (by decide) ?_
    refine g_sub [1, 2, 3, 4, 0] rfl ?_
    exact w_j_La_machinesHold_21 ok hse hret (by omega) (by omega) h hk
  · replace h := (if_neg c11).symm.trans h
    refine g_iconst (v := (0 : Int32)) ok d_La_machinesHold_20 (by decide) ?_
    refine g_sub [1, 2, 3, 4, 0] rfl ?_
    exact w_j_La_machinesHold_21 ok hse hret (by omega) (by omega) h hk
theorem c_La_machinesHold {l : Launch} (hl : l.stackTraces = false) {a0 : Option Nat} {a1 : Int32} {a2 : Option Nat} {a3 : Option Nat} {s : MS} {r : Int32} {z : MS} (h : f_La_machinesHold a0 a1 a2 a3 s = some (r, z)) : Cx l yL_machinesHold (.code yL_machinesHold cL_machinesHold 15 (some .boolean)) rm_La_machinesHold 123 738 true [vR a0, vI a1, vR a2, vR a3] s none (some (vI r)) z :=
  Cx.of hl rfl (by decide +kernel) ⟨rfl, le_t rfl⟩ (fun X ok fn _ _ => w_La_machinesHold (KX := fun y => y = (r, z)) ok (fun y hy => by subst hy; exact fn) h rfl)
abbrev rm_La_pathsHold : Room := { frames := 8, cells := 7395, slots := 44370, locals := 137 }
theorem cm_La_pathsHold : cfM yL_pathsHold cL_pathsHold 14 (some .boolean) 3 := ⟨tw_706, tw_0, by decide, by decide, by decide +kernel⟩
theorem cs_La_pathsHold : cfS yL_pathsHold := tw_705
theorem d_La_pathsHold_0 : decode cL_pathsHold 0 = .ok (.aload_n 0, 1) := by decide +kernel
theorem d_La_pathsHold_1 : decode cL_pathsHold 1 = .ok (.iconst 0, 1) := by decide +kernel
theorem d_La_pathsHold_2 : decode cL_pathsHold 2 = .ok (.invokestatic 120, 3) := by decide +kernel
theorem d_La_pathsHold_5 : decode cL_pathsHold 5 = .ok (.l2i, 1) := by decide +kernel
theorem d_La_pathsHold_6 : decode cL_pathsHold 6 = .ok (.istore_n 3, 1) := by decide +kernel
theorem d_La_pathsHold_7 : decode cL_pathsHold 7 = .ok (.lconst 0, 1) := by decide +kernel
theorem d_La_pathsHold_8 : decode cL_pathsHold 8 = .ok (.lstore 4, 2) := by decide +kernel
theorem d_La_pathsHold_10 : decode cL_pathsHold 10 = .ok (.aload_n 0, 1) := by decide +kernel
theorem d_La_pathsHold_11 : decode cL_pathsHold 11 = .ok (.iload_n 3, 1) := by decide +kernel
theorem d_La_pathsHold_12 : decode cL_pathsHold 12 = .ok (.iconst 0, 1) := by decide +kernel
theorem d_La_pathsHold_13 : decode cL_pathsHold 13 = .ok (.invokestatic 109, 3) := by decide +kernel
theorem d_La_pathsHold_16 : decode cL_pathsHold 16 = .ok (.ldc2_w 17, 3) := by decide +kernel
theorem d_La_pathsHold_19 : decode cL_pathsHold 19 = .ok (.lcmp, 1) := by decide +kernel
theorem d_La_pathsHold_20 : decode cL_pathsHold 20 = .ok (.ifCond .ne 7, 3) := by decide +kernel
theorem d_La_pathsHold_23 : decode cL_pathsHold 23 = .ok (.iconst 1, 1) := by decide +kernel
theorem d_La_pathsHold_24 : decode cL_pathsHold 24 = .ok (.goto 4, 3) := by decide +kernel
theorem d_La_pathsHold_27 : decode cL_pathsHold 27 = .ok (.iconst 0, 1) := by decide +kernel
theorem d_La_pathsHold_28 : decode cL_pathsHold 28 = .ok (.istore 6, 2) := by decide +kernel
theorem d_La_pathsHold_30 : decode cL_pathsHold 30 = .ok (.iconst 0, 1) := by decide +kernel
theorem d_La_pathsHold_31 : decode cL_pathsHold 31 = .ok (.istore 7, 2) := by decide +kernel
theorem d_La_pathsHold_33 : decode cL_pathsHold 33 = .ok (.iload 7, 2) := by decide +kernel
theorem d_La_pathsHold_35 : decode cL_pathsHold 35 = .ok (.iload_n 3, 1) := by decide +kernel
theorem d_La_pathsHold_36 : decode cL_pathsHold 36 = .ok (.if_icmp .ge 320, 3) := by decide +kernel
theorem d_La_pathsHold_39 : decode cL_pathsHold 39 = .ok (.iload 6, 2) := by decide +kernel
theorem d_La_pathsHold_41 : decode cL_pathsHold 41 = .ok (.ifCond .eq 315, 3) := by decide +kernel
theorem d_La_pathsHold_44 : decode cL_pathsHold 44 = .ok (.aload_n 0, 1) := by decide +kernel
theorem d_La_pathsHold_45 : decode cL_pathsHold 45 = .ok (.iload 7, 2) := by decide +kernel
theorem d_La_pathsHold_47 : decode cL_pathsHold 47 = .ok (.iconst 0, 1) := by decide +kernel
theorem d_La_pathsHold_48 : decode cL_pathsHold 48 = .ok (.invokestatic 109, 3) := by decide +kernel
theorem d_La_pathsHold_51 : decode cL_pathsHold 51 = .ok (.lstore 8, 2) := by decide +kernel
theorem d_La_pathsHold_53 : decode cL_pathsHold 53 = .ok (.aload_n 0, 1) := by decide +kernel
theorem d_La_pathsHold_54 : decode cL_pathsHold 54 = .ok (.iload 7, 2) := by decide +kernel
theorem d_La_pathsHold_56 : decode cL_pathsHold 56 = .ok (.iconst 2, 1) := by decide +kernel
theorem d_La_pathsHold_57 : decode cL_pathsHold 57 = .ok (.invokestatic 109, 3) := by decide +kernel
theorem d_La_pathsHold_60 : decode cL_pathsHold 60 = .ok (.l2i, 1) := by decide +kernel
theorem d_La_pathsHold_61 : decode cL_pathsHold 61 = .ok (.istore 10, 2) := by decide +kernel
theorem d_La_pathsHold_63 : decode cL_pathsHold 63 = .ok (.aload_n 0, 1) := by decide +kernel
theorem d_La_pathsHold_64 : decode cL_pathsHold 64 = .ok (.iload 7, 2) := by decide +kernel
theorem d_La_pathsHold_66 : decode cL_pathsHold 66 = .ok (.iconst 3, 1) := by decide +kernel
theorem d_La_pathsHold_67 : decode cL_pathsHold 67 = .ok (.invokestatic 109, 3) := by decide +kernel
theorem d_La_pathsHold_70 : decode cL_pathsHold 70 = .ok (.l2i, 1) := by decide +kernel
theorem d_La_pathsHold_71 : decode cL_pathsHold 71 = .ok (.istore 11, 2) := by decide +kernel
theorem d_La_pathsHold_73 : decode cL_pathsHold 73 = .ok (.lload 4, 2) := by decide +kernel
theorem d_La_pathsHold_75 : decode cL_pathsHold 75 = .ok (.lload 8, 2) := by decide +kernel
theorem d_La_pathsHold_77 : decode cL_pathsHold 77 = .ok (.ldc2_w 99, 3) := by decide +kernel
theorem d_La_pathsHold_80 : decode cL_pathsHold 80 = .ok (.lcmp, 1) := by decide +kernel
theorem d_La_pathsHold_81 : decode cL_pathsHold 81 = .ok (.ifCond .ne 7, 3) := by decide +kernel
theorem d_La_pathsHold_84 : decode cL_pathsHold 84 = .ok (.lconst 1, 1) := by decide +kernel
theorem d_La_pathsHold_85 : decode cL_pathsHold 85 = .ok (.goto 4, 3) := by decide +kernel
theorem d_La_pathsHold_88 : decode cL_pathsHold 88 = .ok (.lconst 0, 1) := by decide +kernel
theorem d_La_pathsHold_89 : decode cL_pathsHold 89 = .ok (.ladd, 1) := by decide +kernel
theorem d_La_pathsHold_90 : decode cL_pathsHold 90 = .ok (.lstore 4, 2) := by decide +kernel
theorem d_La_pathsHold_92 : decode cL_pathsHold 92 = .ok (.iload 11, 2) := by decide +kernel
theorem d_La_pathsHold_94 : decode cL_pathsHold 94 = .ok (.iload 10, 2) := by decide +kernel
theorem d_La_pathsHold_96 : decode cL_pathsHold 96 = .ok (.if_icmp .le 84, 3) := by decide +kernel
theorem d_La_pathsHold_99 : decode cL_pathsHold 99 = .ok (.aload_n 1, 1) := by decide +kernel
theorem d_La_pathsHold_100 : decode cL_pathsHold 100 = .ok (.aload_n 0, 1) := by decide +kernel
theorem d_La_pathsHold_101 : decode cL_pathsHold 101 = .ok (.iload 7, 2) := by decide +kernel
theorem d_La_pathsHold_103 : decode cL_pathsHold 103 = .ok (.iload 10, 2) := by decide +kernel
theorem d_La_pathsHold_105 : decode cL_pathsHold 105 = .ok (.invokestatic 115, 3) := by decide +kernel
theorem d_La_pathsHold_108 : decode cL_pathsHold 108 = .ok (.invokestatic 101, 3) := by decide +kernel
theorem d_La_pathsHold_111 : decode cL_pathsHold 111 = .ok (.ifCond .eq 69, 3) := by decide +kernel
theorem d_La_pathsHold_114 : decode cL_pathsHold 114 = .ok (.aload_n 1, 1) := by decide +kernel
theorem d_La_pathsHold_115 : decode cL_pathsHold 115 = .ok (.aload_n 0, 1) := by decide +kernel
theorem d_La_pathsHold_116 : decode cL_pathsHold 116 = .ok (.iload 7, 2) := by decide +kernel
theorem d_La_pathsHold_118 : decode cL_pathsHold 118 = .ok (.iload 11, 2) := by decide +kernel
theorem d_La_pathsHold_120 : decode cL_pathsHold 120 = .ok (.invokestatic 115, 3) := by decide +kernel
theorem d_La_pathsHold_123 : decode cL_pathsHold 123 = .ok (.invokestatic 101, 3) := by decide +kernel
theorem d_La_pathsHold_126 : decode cL_pathsHold 126 = .ok (.ifCond .eq 54, 3) := by decide +kernel
theorem d_La_pathsHold_129 : decode cL_pathsHold 129 = .ok (.aload_n 0, 1) := by decide +kernel
theorem d_La_pathsHold_130 : decode cL_pathsHold 130 = .ok (.iload 7, 2) := by decide +kernel
theorem d_La_pathsHold_132 : decode cL_pathsHold 132 = .ok (.iload 10, 2) := by decide +kernel
theorem d_La_pathsHold_134 : decode cL_pathsHold 134 = .ok (.iconst 1, 1) := by decide +kernel
theorem d_La_pathsHold_135 : decode cL_pathsHold 135 = .ok (.isub, 1) := by decide +kernel
theorem d_La_pathsHold_136 : decode cL_pathsHold 136 = .ok (.invokestatic 115, 3) := by decide +kernel
theorem d_La_pathsHold_139 : decode cL_pathsHold 139 = .ok (.ldc2_w 107, 3) := by decide +kernel
theorem d_La_pathsHold_142 : decode cL_pathsHold 142 = .ok (.lcmp, 1) := by decide +kernel
theorem d_La_pathsHold_143 : decode cL_pathsHold 143 = .ok (.ifCond .ne 37, 3) := by decide +kernel
theorem d_La_pathsHold_146 : decode cL_pathsHold 146 = .ok (.aload_n 0, 1) := by decide +kernel
theorem d_La_pathsHold_147 : decode cL_pathsHold 147 = .ok (.iload 7, 2) := by decide +kernel
theorem d_La_pathsHold_149 : decode cL_pathsHold 149 = .ok (.iload 11, 2) := by decide +kernel
theorem d_La_pathsHold_151 : decode cL_pathsHold 151 = .ok (.iconst 1, 1) := by decide +kernel
theorem d_La_pathsHold_152 : decode cL_pathsHold 152 = .ok (.iadd, 1) := by decide +kernel
theorem d_La_pathsHold_153 : decode cL_pathsHold 153 = .ok (.invokestatic 115, 3) := by decide +kernel
theorem d_La_pathsHold_156 : decode cL_pathsHold 156 = .ok (.ldc2_w 107, 3) := by decide +kernel
theorem d_La_pathsHold_159 : decode cL_pathsHold 159 = .ok (.lcmp, 1) := by decide +kernel
theorem d_La_pathsHold_160 : decode cL_pathsHold 160 = .ok (.ifCond .ne 20, 3) := by decide +kernel
theorem d_La_pathsHold_163 : decode cL_pathsHold 163 = .ok (.aload_n 0, 1) := by decide +kernel
theorem d_La_pathsHold_164 : decode cL_pathsHold 164 = .ok (.iload 7, 2) := by decide +kernel
theorem d_La_pathsHold_166 : decode cL_pathsHold 166 = .ok (.iload 7, 2) := by decide +kernel
theorem d_La_pathsHold_168 : decode cL_pathsHold 168 = .ok (.invokestatic 122, 3) := by decide +kernel
theorem d_La_pathsHold_171 : decode cL_pathsHold 171 = .ok (.lconst 0, 1) := by decide +kernel
theorem d_La_pathsHold_172 : decode cL_pathsHold 172 = .ok (.lcmp, 1) := by decide +kernel
theorem d_La_pathsHold_173 : decode cL_pathsHold 173 = .ok (.ifCond .ne 7, 3) := by decide +kernel
theorem d_La_pathsHold_176 : decode cL_pathsHold 176 = .ok (.iconst 1, 1) := by decide +kernel
theorem d_La_pathsHold_177 : decode cL_pathsHold 177 = .ok (.goto 4, 3) := by decide +kernel
theorem d_La_pathsHold_180 : decode cL_pathsHold 180 = .ok (.iconst 0, 1) := by decide +kernel
theorem d_La_pathsHold_181 : decode cL_pathsHold 181 = .ok (.istore 6, 2) := by decide +kernel
theorem d_La_pathsHold_183 : decode cL_pathsHold 183 = .ok (.iload 6, 2) := by decide +kernel
theorem d_La_pathsHold_185 : decode cL_pathsHold 185 = .ok (.ifCond .eq 66, 3) := by decide +kernel
theorem d_La_pathsHold_188 : decode cL_pathsHold 188 = .ok (.lload 8, 2) := by decide +kernel
theorem d_La_pathsHold_190 : decode cL_pathsHold 190 = .ok (.lconst 0, 1) := by decide +kernel
theorem d_La_pathsHold_191 : decode cL_pathsHold 191 = .ok (.lcmp, 1) := by decide +kernel
theorem d_La_pathsHold_192 : decode cL_pathsHold 192 = .ok (.ifCond .ne 12, 3) := by decide +kernel
theorem d_La_pathsHold_195 : decode cL_pathsHold 195 = .ok (.iload 10, 2) := by decide +kernel
theorem d_La_pathsHold_197 : decode cL_pathsHold 197 = .ok (.aload_n 0, 1) := by decide +kernel
theorem d_La_pathsHold_198 : decode cL_pathsHold 198 = .ok (.invokevirtual 111, 3) := by decide +kernel
theorem d_La_pathsHold_201 : decode cL_pathsHold 201 = .ok (.if_icmp .le 50, 3) := by decide +kernel
theorem d_La_pathsHold_204 : decode cL_pathsHold 204 = .ok (.lload 8, 2) := by decide +kernel
theorem d_La_pathsHold_206 : decode cL_pathsHold 206 = .ok (.lconst 1, 1) := by decide +kernel
theorem d_La_pathsHold_207 : decode cL_pathsHold 207 = .ok (.lcmp, 1) := by decide +kernel
theorem d_La_pathsHold_208 : decode cL_pathsHold 208 = .ok (.ifCond .ne 21, 3) := by decide +kernel
theorem d_La_pathsHold_211 : decode cL_pathsHold 211 = .ok (.iload 10, 2) := by decide +kernel
theorem d_La_pathsHold_213 : decode cL_pathsHold 213 = .ok (.aload_n 0, 1) := by decide +kernel
theorem d_La_pathsHold_214 : decode cL_pathsHold 214 = .ok (.invokevirtual 111, 3) := by decide +kernel
theorem d_La_pathsHold_217 : decode cL_pathsHold 217 = .ok (.if_icmp .gt 34, 3) := by decide +kernel
theorem d_La_pathsHold_220 : decode cL_pathsHold 220 = .ok (.iload 11, 2) := by decide +kernel
theorem d_La_pathsHold_222 : decode cL_pathsHold 222 = .ok (.aload_n 0, 1) := by decide +kernel
theorem d_La_pathsHold_223 : decode cL_pathsHold 223 = .ok (.invokevirtual 111, 3) := by decide +kernel
theorem d_La_pathsHold_226 : decode cL_pathsHold 226 = .ok (.if_icmp .le 25, 3) := by decide +kernel
theorem d_La_pathsHold_229 : decode cL_pathsHold 229 = .ok (.lload 8, 2) := by decide +kernel
theorem d_La_pathsHold_231 : decode cL_pathsHold 231 = .ok (.ldc2_w 105, 3) := by decide +kernel
theorem d_La_pathsHold_234 : decode cL_pathsHold 234 = .ok (.lcmp, 1) := by decide +kernel
theorem d_La_pathsHold_235 : decode cL_pathsHold 235 = .ok (.ifCond .ne 12, 3) := by decide +kernel
theorem d_La_pathsHold_238 : decode cL_pathsHold 238 = .ok (.iload 11, 2) := by decide +kernel
theorem d_La_pathsHold_240 : decode cL_pathsHold 240 = .ok (.aload_n 0, 1) := by decide +kernel
theorem d_La_pathsHold_241 : decode cL_pathsHold 241 = .ok (.invokevirtual 111, 3) := by decide +kernel
theorem d_La_pathsHold_244 : decode cL_pathsHold 244 = .ok (.if_icmp .gt 7, 3) := by decide +kernel
theorem d_La_pathsHold_247 : decode cL_pathsHold 247 = .ok (.iconst 1, 1) := by decide +kernel
theorem d_La_pathsHold_248 : decode cL_pathsHold 248 = .ok (.goto 4, 3) := by decide +kernel
theorem d_La_pathsHold_251 : decode cL_pathsHold 251 = .ok (.iconst 0, 1) := by decide +kernel
theorem d_La_pathsHold_252 : decode cL_pathsHold 252 = .ok (.istore 6, 2) := by decide +kernel
theorem d_La_pathsHold_254 : decode cL_pathsHold 254 = .ok (.iconst 0, 1) := by decide +kernel
theorem d_La_pathsHold_255 : decode cL_pathsHold 255 = .ok (.istore 12, 2) := by decide +kernel
theorem d_La_pathsHold_257 : decode cL_pathsHold 257 = .ok (.iload 12, 2) := by decide +kernel
theorem d_La_pathsHold_259 : decode cL_pathsHold 259 = .ok (.iload 7, 2) := by decide +kernel
theorem d_La_pathsHold_261 : decode cL_pathsHold 261 = .ok (.if_icmp .ge 89, 3) := by decide +kernel
theorem d_La_pathsHold_264 : decode cL_pathsHold 264 = .ok (.iload 6, 2) := by decide +kernel
theorem d_La_pathsHold_266 : decode cL_pathsHold 266 = .ok (.ifCond .eq 84, 3) := by decide +kernel
theorem d_La_pathsHold_269 : decode cL_pathsHold 269 = .ok (.lload 8, 2) := by decide +kernel
theorem d_La_pathsHold_271 : decode cL_pathsHold 271 = .ok (.lconst 0, 1) := by decide +kernel
theorem d_La_pathsHold_272 : decode cL_pathsHold 272 = .ok (.lcmp, 1) := by decide +kernel
theorem d_La_pathsHold_273 : decode cL_pathsHold 273 = .ok (.ifCond .ne 19, 3) := by decide +kernel
theorem d_La_pathsHold_276 : decode cL_pathsHold 276 = .ok (.aload_n 0, 1) := by decide +kernel
theorem d_La_pathsHold_277 : decode cL_pathsHold 277 = .ok (.iload 12, 2) := by decide +kernel
theorem d_La_pathsHold_279 : decode cL_pathsHold 279 = .ok (.iconst 0, 1) := by decide +kernel
theorem d_La_pathsHold_280 : decode cL_pathsHold 280 = .ok (.invokestatic 109, 3) := by decide +kernel
theorem d_La_pathsHold_283 : decode cL_pathsHold 283 = .ok (.lconst 0, 1) := by decide +kernel
theorem d_La_pathsHold_284 : decode cL_pathsHold 284 = .ok (.lcmp, 1) := by decide +kernel
theorem d_La_pathsHold_285 : decode cL_pathsHold 285 = .ok (.ifCond .ne 7, 3) := by decide +kernel
theorem d_La_pathsHold_288 : decode cL_pathsHold 288 = .ok (.iconst 1, 1) := by decide +kernel
theorem d_La_pathsHold_289 : decode cL_pathsHold 289 = .ok (.goto 4, 3) := by decide +kernel
theorem d_La_pathsHold_292 : decode cL_pathsHold 292 = .ok (.iconst 0, 1) := by decide +kernel
theorem d_La_pathsHold_293 : decode cL_pathsHold 293 = .ok (.istore 13, 2) := by decide +kernel
theorem d_La_pathsHold_295 : decode cL_pathsHold 295 = .ok (.aload_n 0, 1) := by decide +kernel
theorem d_La_pathsHold_296 : decode cL_pathsHold 296 = .ok (.iload 7, 2) := by decide +kernel
theorem d_La_pathsHold_298 : decode cL_pathsHold 298 = .ok (.iload 12, 2) := by decide +kernel
theorem d_La_pathsHold_300 : decode cL_pathsHold 300 = .ok (.invokestatic 122, 3) := by decide +kernel
theorem d_La_pathsHold_303 : decode cL_pathsHold 303 = .ok (.aload_n 0, 1) := by decide +kernel
theorem d_La_pathsHold_304 : decode cL_pathsHold 304 = .ok (.iload 12, 2) := by decide +kernel
theorem d_La_pathsHold_306 : decode cL_pathsHold 306 = .ok (.iload 7, 2) := by decide +kernel
theorem d_La_pathsHold_308 : decode cL_pathsHold 308 = .ok (.invokestatic 124, 3) := by decide +kernel
theorem d_La_pathsHold_311 : decode cL_pathsHold 311 = .ok (.lcmp, 1) := by decide +kernel
theorem d_La_pathsHold_312 : decode cL_pathsHold 312 = .ok (.ifCond .ne 29, 3) := by decide +kernel
theorem d_La_pathsHold_315 : decode cL_pathsHold 315 = .ok (.iload_n 2, 1) := by decide +kernel
theorem d_La_pathsHold_316 : decode cL_pathsHold 316 = .ok (.ifCond .ne 21, 3) := by decide +kernel
theorem d_La_pathsHold_319 : decode cL_pathsHold 319 = .ok (.iload 13, 2) := by decide +kernel
theorem d_La_pathsHold_321 : decode cL_pathsHold 321 = .ok (.ifCond .eq 16, 3) := by decide +kernel
theorem d_La_pathsHold_324 : decode cL_pathsHold 324 = .ok (.aload_n 0, 1) := by decide +kernel
theorem d_La_pathsHold_325 : decode cL_pathsHold 325 = .ok (.iload 12, 2) := by decide +kernel
theorem d_La_pathsHold_327 : decode cL_pathsHold 327 = .ok (.iload 7, 2) := by decide +kernel
theorem d_La_pathsHold_329 : decode cL_pathsHold 329 = .ok (.invokestatic 122, 3) := by decide +kernel
theorem d_La_pathsHold_332 : decode cL_pathsHold 332 = .ok (.lconst 0, 1) := by decide +kernel
theorem d_La_pathsHold_333 : decode cL_pathsHold 333 = .ok (.lcmp, 1) := by decide +kernel
theorem d_La_pathsHold_334 : decode cL_pathsHold 334 = .ok (.ifCond .ne 7, 3) := by decide +kernel
theorem d_La_pathsHold_337 : decode cL_pathsHold 337 = .ok (.iconst 1, 1) := by decide +kernel
theorem d_La_pathsHold_338 : decode cL_pathsHold 338 = .ok (.goto 4, 3) := by decide +kernel
theorem d_La_pathsHold_341 : decode cL_pathsHold 341 = .ok (.iconst 0, 1) := by decide +kernel
theorem d_La_pathsHold_342 : decode cL_pathsHold 342 = .ok (.istore 6, 2) := by decide +kernel
theorem d_La_pathsHold_344 : decode cL_pathsHold 344 = .ok (.iinc 12 1, 3) := by decide +kernel
theorem d_La_pathsHold_347 : decode cL_pathsHold 347 = .ok (.goto (-90), 3) := by decide +kernel
theorem d_La_pathsHold_350 : decode cL_pathsHold 350 = .ok (.iinc 7 1, 3) := by decide +kernel
theorem d_La_pathsHold_353 : decode cL_pathsHold 353 = .ok (.goto (-320), 3) := by decide +kernel
theorem d_La_pathsHold_356 : decode cL_pathsHold 356 = .ok (.iload 6, 2) := by decide +kernel
theorem d_La_pathsHold_358 : decode cL_pathsHold 358 = .ok (.ifCond .eq 18, 3) := by decide +kernel
theorem d_La_pathsHold_361 : decode cL_pathsHold 361 = .ok (.aload_n 0, 1) := by decide +kernel
theorem d_La_pathsHold_362 : decode cL_pathsHold 362 = .ok (.iconst 2, 1) := by decide +kernel
theorem d_La_pathsHold_363 : decode cL_pathsHold 363 = .ok (.invokestatic 120, 3) := by decide +kernel
theorem d_La_pathsHold_366 : decode cL_pathsHold 366 = .ok (.lload 4, 2) := by decide +kernel
theorem d_La_pathsHold_368 : decode cL_pathsHold 368 = .ok (.lcmp, 1) := by decide +kernel
theorem d_La_pathsHold_369 : decode cL_pathsHold 369 = .ok (.ifCond .ne 7, 3) := by decide +kernel
theorem d_La_pathsHold_372 : decode cL_pathsHold 372 = .ok (.iconst 1, 1) := by decide +kernel
theorem d_La_pathsHold_373 : decode cL_pathsHold 373 = .ok (.goto 4, 3) := by decide +kernel
theorem d_La_pathsHold_376 : decode cL_pathsHold 376 = .ok (.iconst 0, 1) := by decide +kernel
theorem d_La_pathsHold_377 : decode cL_pathsHold 377 = .ok (.ireturn, 1) := by decide +kernel
set_option maxRecDepth 100000 in
set_option maxHeartbeats 4000000 in
theorem w_j_La_pathsHold_293 {X : CX} {KX : Int32 × MS → Prop}  {a0 : Option Nat} {a1 : Option Nat} {a2 : Int32} {a3 : Int32} {a4 : Int64} {a7 : Int32} {a8 : Int64} {a12 : Int32} {t0 : Int32} {s : MS} {rec : Int32 → Int32 → MS → Option (Int32 × MS)} {sb : MS} {ce0 sl0 cB sB : Nat} (ok : Ok X cL_pathsHold RL rm_La_pathsHold 14 true) (hse : SE X.2.2.2.1 X.1.2.2.2.2.1 ∧ X.1.2.1.stackTraces = false) (hc1 : ce0 + 3 ≤ cB) (hc2 : sl0 + 18 ≤ sB) (hB1 : cB ≤ 7395) (hB2 : sB ≤ 44370) (hexit : ∀ (e6 : Int32) (z : MS), KX (e6, z) → (∀ q, dm sb q → dm z q) → G X z cB sB 350 [(0, vR a0), (1, vR a1), (2, vI a2), (3, vI a3), (4, vL a4), (6, vI e6), (7, vI a7)] []) (hrec : ∀ (v6 : Int32) (v12 : Int32) (z : MS), (∀ q, dm sb q → dm z q) → ∀ y, rec v6 v12 z = some y → KX y → G X z cB sB 257 [(0, vR a0), (1, vR a1), (2, vI a2), (3, vI a3), (4, vL a4), (6, vI v6), (7, vI a7), (8, vL a8), (12, vI v12)] []) (mb : ∀ q, dm sb q → dm s q) {res : Int32 × MS} (h : j_La_pathsHold_293 a0 a1 a2 a3 a4 a7 a8 a12 t0 s rec = some res) (hk : KX res) : G X s ce0 sl0 293 [(0, vR a0), (1, vR a1), (2, vI a2), (3, vI a3), (4, vL a4), (7, vI a7), (8, vL a8), (12, vI a12)] [vI t0] := by
  unfold j_La_pathsHold_293 at h
  refine g_istore (i := 13) [(13, vI t0), (0, vR a0), (1, vR a1), (2, vI a2), (3, vI a3), (4, vL a4), (7, vI a7), (8, vL a8), (12, vI a12)] ok d_La_pathsHold_293 (by decide) rfl ?_
  refine g_aload_n (i := 0) 1 ok d_La_pathsHold_295 rfl rfl ?_
  refine g_iload (i := 7) 6 ok d_La_pathsHold_296 rfl ?_
  refine g_iload (i := 12) 8 ok d_La_pathsHold_298 rfl ?_
  obtain ⟨k75, hk76, h⟩ := bnd_go h
  obtain ⟨n77, hn78, h⟩ := bnd_go h
  obtain ⟨x82, s81, hc80, h⟩ := bnd2_go h
  refine g_callW (rm2 := rm_La_meets) (As := [vR a0, vI a7, vI a12]) (rest := []) ok hse.1 (c_La_meets hse.2 hc80) cm_La_meets cs_La_meets tw_707 ⟨rfl, rfl⟩ ⟨le_t rfl, le_t rfl⟩ ⟨rfl, le_t rfl⟩ ⟨(by show _ ≤ 7395; omega), (by show _ ≤ 44370; omega)⟩ ⟨trivial, ⟨(rk_of hk76), ⟨(rk_rl hn78), ⟨trivial, ⟨trivial, ⟨trivial, ⟨trivial, ⟨trivial, ⟨trivial, trivial⟩⟩⟩⟩⟩⟩⟩⟩⟩ trivial d_La_pathsHold_300 rfl (fun m79 => ?_)
  show G X s81 (ce0 + 1) (sl0 + 6) 303 [(13, vI t0), (0, vR a0), (1, vR a1), (2, vI a2), (3, vI a3), (4, vL a4), (7, vI a7), (8, vL a8), (12, vI a12)] [vL x82]
  refine g_aload_n (i := 0) 1 ok d_La_pathsHold_303 rfl rfl ?_
  refine g_iload (i := 12) 8 ok d_La_pathsHold_304 rfl ?_
  refine g_iload (i := 7) 6 ok d_La_pathsHold_306 rfl ?_
  obtain ⟨n83, hn84, h⟩ := bnd_go h
  obtain ⟨x88, s87, hc86, h⟩ := bnd2_go h
  refine g_callW (rm2 := rm_La_meetsAnew) (As := [vR a0, vI a12, vI a7]) (rest := [vL x82]) ok hse.1 (c_La_meetsAnew hse.2 hc86) cm_La_meetsAnew cs_La_meetsAnew tw_714 ⟨rfl, rfl⟩ ⟨le_t rfl, le_t rfl⟩ ⟨rfl, le_t rfl⟩ ⟨(by show _ ≤ 7395; omega), (by show _ ≤ 44370; omega)⟩ ⟨trivial, ⟨(rk_of (rf_mono m79 hk76)), ⟨(rk_rl hn84), ⟨trivial, ⟨trivial, ⟨trivial, ⟨trivial, ⟨trivial, ⟨trivial, trivial⟩⟩⟩⟩⟩⟩⟩⟩⟩ ⟨trivial, trivial⟩ d_La_pathsHold_308 rfl (fun m85 => ?_)
  show G X s87 ((ce0 + 1) + 1) ((sl0 + 6) + 6) 311 [(13, vI t0), (0, vR a0), (1, vR a1), (2, vI a2), (3, vI a3), (4, vL a4), (7, vI a7), (8, vL a8), (12, vI a12)] [vL x88, vL x82]
  refine g_lcmp ok d_La_pathsHold_311 ?_
  refine g_if_ne (tgt := 341) ok d_La_pathsHold_312 (by decide) (fun c89 => ?_) (fun c89 => ?_)
  · replace h := (if_pos c89).symm.trans h
    refine g_iload_n (i := 2) 3 ok d_La_pathsHold_315 rfl rfl ?_
    refine g_if_ne (tgt := 337) ok d_La_pathsHold_316 (by decide) (fun c90 => ?_) (fun c90 => ?_)
    · replace h := (if_pos c90).symm.trans h
      refine g_iload (i := 13) 0 ok d_La_pathsHold_319 rfl ?_
      refine g_if_eq (tgt := 337) ok d_La_pathsHold_321 (by decide) (fun c91 => ?_) (fun c91 => ?_)
      · replace h := (if_pos c91).symm.trans h
        refine g_iconst (v := (1 : Int32)) ok d_La_pathsHold_337 (by decide) ?_
        refine g_goto (tgt := 342) ok d_La_pathsHold_338 (by decide) ?_
        refine g_istore (i := 6) [(6, vI (1 : Int32)), (13, vI t0), (0, vR a0), (1, vR a1), (2, vI a2), (3, vI a3), (4, vL a4), (7, vI a7), (8, vL a8), (12, vI a12)] ok d_La_pathsHold_342 (by decide) rfl ?_
        obtain ⟨x92, e93⟩ : ∃ z, a12 + (1 : Int32) = z := ⟨_, rfl⟩
        replace h := lt_go h e93
        refine g_iinc (i := 12) (v := x92) 9 [(12, vI x92), (6, vI (1 : Int32)), (13, vI t0), (0, vR a0), (1, vR a1), (2, vI a2), (3, vI a3), (4, vL a4), (7, vI a7), (8, vL a8)] ok d_La_pathsHold_344 rfl (by rw [← e93]; rfl) (by decide) rfl ?_
        refine g_goto (tgt := 257) ok d_La_pathsHold_347 (by decide) ?_
        refine g_sub [3, 4, 5, 6, 7, 1, 8, 9, 0] rfl ?_
        refine g_widen (ce' := cB) (sl' := sB) (by omega) (by omega) ?_
        exact hrec (1 : Int32) x92 s87 (fun z hz => m85 z ((fun z hz => m79 z (mb z hz)) z hz)) _ h hk
      · replace h := (if_neg c91).symm.trans h
        refine g_aload_n (i := 0) 1 ok d_La_pathsHold_324 rfl rfl ?_
        refine g_iload (i := 12) 8 ok d_La_pathsHold_325 rfl ?_
        refine g_iload (i := 7) 6 ok d_La_pathsHold_327 rfl ?_
        refine g_sub [1, 2, 3, 4, 5, 6, 7, 8] rfl ?_
        obtain ⟨n94, hn95, h⟩ := bnd_go h
        obtain ⟨x99, s98, hc97, h⟩ := bnd2_go h
        refine g_callW (rm2 := rm_La_meets) (As := [vR a0, vI a12, vI a7]) (rest := []) ok hse.1 (c_La_meets hse.2 hc97) cm_La_meets cs_La_meets tw_707 ⟨rfl, rfl⟩ ⟨le_t rfl, le_t rfl⟩ ⟨rfl, le_t rfl⟩ ⟨(by show _ ≤ 7395; omega), (by show _ ≤ 44370; omega)⟩ ⟨(rk_of (rf_mono m85 (rf_mono m79 hk76))), ⟨(rk_rl hn95), ⟨trivial, ⟨trivial, ⟨trivial, ⟨trivial, ⟨trivial, ⟨trivial, trivial⟩⟩⟩⟩⟩⟩⟩⟩ trivial d_La_pathsHold_329 rfl (fun m96 => ?_)
        show G X s98 (((ce0 + 1) + 1) + 1) (((sl0 + 6) + 6) + 6) 332 [(0, vR a0), (1, vR a1), (2, vI a2), (3, vI a3), (4, vL a4), (7, vI a7), (8, vL a8), (12, vI a12)] [vL x99]
        refine g_lconst (v := (0 : Int64)) ok d_La_pathsHold_332 (by decide) ?_
        refine g_lcmp ok d_La_pathsHold_333 ?_
        refine g_if_ne (tgt := 341) ok d_La_pathsHold_334 (by decide) (fun c100 => ?_) (fun c100 => ?_)
        · replace h := (if_pos c100).symm.trans h
          refine g_iconst (v := (1 : Int32)) ok d_La_pathsHold_337 (by decide) ?_
          refine g_goto (tgt := 342) ok d_La_pathsHold_338 (by decide) ?_
          refine g_istore (i := 6) [(6, vI (1 : Int32)), (0, vR a0), (1, vR a1), (2, vI a2), (3, vI a3), (4, vL a4), (7, vI a7), (8, vL a8), (12, vI a12)] ok d_La_pathsHold_342 (by decide) rfl ?_
          obtain ⟨x101, e102⟩ : ∃ z, a12 + (1 : Int32) = z := ⟨_, rfl⟩
          replace h := lt_go h e102
          refine g_iinc (i := 12) (v := x101) 8 [(12, vI x101), (6, vI (1 : Int32)), (0, vR a0), (1, vR a1), (2, vI a2), (3, vI a3), (4, vL a4), (7, vI a7), (8, vL a8)] ok d_La_pathsHold_344 rfl (by rw [← e102]; rfl) (by decide) rfl ?_
          refine g_goto (tgt := 257) ok d_La_pathsHold_347 (by decide) ?_
          refine g_sub [2, 3, 4, 5, 6, 1, 7, 8, 0] rfl ?_
          refine g_widen (ce' := cB) (sl' := sB) (by omega) (by omega) ?_
          exact hrec (1 : Int32) x101 s98 (fun z hz => m96 z ((fun z hz => m85 z ((fun z hz => m79 z (mb z hz)) z hz)) z hz)) _ h hk
        · replace h := (if_neg c100).symm.trans h
          refine g_iconst (v := (0 : Int32)) ok d_La_pathsHold_341 (by decide) ?_
          refine g_istore (i := 6) [(6, vI (0 : Int32)), (0, vR a0), (1, vR a1), (2, vI a2), (3, vI a3), (4, vL a4), (7, vI a7), (8, vL a8), (12, vI a12)] ok d_La_pathsHold_342 (by decide) rfl ?_
          obtain ⟨x103, e104⟩ : ∃ z, a12 + (1 : Int32) = z := ⟨_, rfl⟩
          replace h := lt_go h e104
          refine g_iinc (i := 12) (v := x103) 8 [(12, vI x103), (6, vI (0 : Int32)), (0, vR a0), (1, vR a1), (2, vI a2), (3, vI a3), (4, vL a4), (7, vI a7), (8, vL a8)] ok d_La_pathsHold_344 rfl (by rw [← e104]; rfl) (by decide) rfl ?_
          refine g_goto (tgt := 257) ok d_La_pathsHold_347 (by decide) ?_
          refine g_sub [2, 3, 4, 5, 6, 1, 7, 8, 0] rfl ?_
          refine g_widen (ce' := cB) (sl' := sB) (by omega) (by omega) ?_
          exact hrec (0 : Int32) x103 s98 (fun z hz => m96 z ((fun z hz => m85 z ((fun z hz => m79 z (mb z hz)) z hz)) z hz)) _ h hk
    · replace h := (if_neg c90).symm.trans h
      refine g_iconst (v := (1 : Int32)) ok d_La_pathsHold_337 (by decide) ?_
      refine g_goto (tgt := 342) ok d_La_pathsHold_338 (by decide) ?_
      refine g_istore (i := 6) [(6, vI (1 : Int32)), (13, vI t0), (0, vR a0), (1, vR a1), (2, vI a2), (3, vI a3), (4, vL a4), (7, vI a7), (8, vL a8), (12, vI a12)] ok d_La_pathsHold_342 (by decide) rfl ?_
      obtain ⟨x105, e106⟩ : ∃ z, a12 + (1 : Int32) = z := ⟨_, rfl⟩
      replace h := lt_go h e106
      refine g_iinc (i := 12) (v := x105) 9 [(12, vI x105), (6, vI (1 : Int32)), (13, vI t0), (0, vR a0), (1, vR a1), (2, vI a2), (3, vI a3), (4, vL a4), (7, vI a7), (8, vL a8)] ok d_La_pathsHold_344 rfl (by rw [← e106]; rfl) (by decide) rfl ?_
      refine g_goto (tgt := 257) ok d_La_pathsHold_347 (by decide) ?_
      refine g_sub [3, 4, 5, 6, 7, 1, 8, 9, 0] rfl ?_
      refine g_widen (ce' := cB) (sl' := sB) (by omega) (by omega) ?_
      exact hrec (1 : Int32) x105 s87 (fun z hz => m85 z ((fun z hz => m79 z (mb z hz)) z hz)) _ h hk
  · replace h := (if_neg c89).symm.trans h
    refine g_iconst (v := (0 : Int32)) ok d_La_pathsHold_341 (by decide) ?_
    refine g_istore (i := 6) [(6, vI (0 : Int32)), (13, vI t0), (0, vR a0), (1, vR a1), (2, vI a2), (3, vI a3), (4, vL a4), (7, vI a7), (8, vL a8), (12, vI a12)] ok d_La_pathsHold_342 (by decide) rfl ?_
    obtain ⟨x107, e108⟩ : ∃ z, a12 + (1 : Int32) = z := ⟨_, rfl⟩
    replace h := lt_go h e108
    refine g_iinc (i := 12) (v := x107) 9 [(12, vI x107), (6, vI (0 : Int32)), (13, vI t0), (0, vR a0), (1, vR a1), (2, vI a2), (3, vI a3), (4, vL a4), (7, vI a7), (8, vL a8)] ok d_La_pathsHold_344 rfl (by rw [← e108]; rfl) (by decide) rfl ?_
    refine g_goto (tgt := 257) ok d_La_pathsHold_347 (by decide) ?_
    refine g_sub [3, 4, 5, 6, 7, 1, 8, 9, 0] rfl ?_
    refine g_widen (ce' := cB) (sl' := sB) (by omega) (by omega) ?_
    exact hrec (0 : Int32) x107 s87 (fun z hz => m85 z ((fun z hz => m79 z (mb z hz)) z hz)) _ h hk
set_option maxRecDepth 100000 in
set_option maxHeartbeats 4000000 in
theorem w_j_La_pathsHold_292 {X : CX} {KX : Int32 × MS → Prop}  {a0 : Option Nat} {a1 : Option Nat} {a2 : Int32} {a3 : Int32} {a4 : Int64} {a7 : Int32} {a8 : Int64} {a12 : Int32} {s : MS} {rec : Int32 → Int32 → MS → Option (Int32 × MS)} {sb : MS} {ce0 sl0 cB sB : Nat} (ok : Ok X cL_pathsHold RL rm_La_pathsHold 14 true) (hse : SE X.2.2.2.1 X.1.2.2.2.2.1 ∧ X.1.2.1.stackTraces = false) (hc1 : ce0 + 3 ≤ cB) (hc2 : sl0 + 18 ≤ sB) (hB1 : cB ≤ 7395) (hB2 : sB ≤ 44370) (hexit : ∀ (e6 : Int32) (z : MS), KX (e6, z) → (∀ q, dm sb q → dm z q) → G X z cB sB 350 [(0, vR a0), (1, vR a1), (2, vI a2), (3, vI a3), (4, vL a4), (6, vI e6), (7, vI a7)] []) (hrec : ∀ (v6 : Int32) (v12 : Int32) (z : MS), (∀ q, dm sb q → dm z q) → ∀ y, rec v6 v12 z = some y → KX y → G X z cB sB 257 [(0, vR a0), (1, vR a1), (2, vI a2), (3, vI a3), (4, vL a4), (6, vI v6), (7, vI a7), (8, vL a8), (12, vI v12)] []) (mb : ∀ q, dm sb q → dm s q) {res : Int32 × MS} (h : j_La_pathsHold_292 a0 a1 a2 a3 a4 a7 a8 a12 s rec = some res) (hk : KX res) : G X s ce0 sl0 292 [(0, vR a0), (1, vR a1), (2, vI a2), (3, vI a3), (4, vL a4), (7, vI a7), (8, vL a8), (12, vI a12)] [] := by
  unfold j_La_pathsHold_292 at h
  refine g_iconst (v := (0 : Int32)) ok d_La_pathsHold_292 (by decide) ?_
  exact w_j_La_pathsHold_293 ok hse (by omega) (by omega) hB1 hB2 hexit hrec mb h hk
set_option maxRecDepth 100000 in
set_option maxHeartbeats 4000000 in
theorem w_b_La_pathsHold_257 {X : CX} {KX : Int32 × MS → Prop}  {a0 : Option Nat} {a1 : Option Nat} {a2 : Int32} {a3 : Int32} {a4 : Int64} {a6 : Int32} {a7 : Int32} {a8 : Int64} {a12 : Int32} {s : MS} {rec : Int32 → Int32 → MS → Option (Int32 × MS)} {sb : MS} {ce0 sl0 cB sB : Nat} (ok : Ok X cL_pathsHold RL rm_La_pathsHold 14 true) (hse : SE X.2.2.2.1 X.1.2.2.2.2.1 ∧ X.1.2.1.stackTraces = false) (hc1 : ce0 + 4 ≤ cB) (hc2 : sl0 + 24 ≤ sB) (hB1 : cB ≤ 7395) (hB2 : sB ≤ 44370) (hexit : ∀ (e6 : Int32) (z : MS), KX (e6, z) → (∀ q, dm sb q → dm z q) → G X z cB sB 350 [(0, vR a0), (1, vR a1), (2, vI a2), (3, vI a3), (4, vL a4), (6, vI e6), (7, vI a7)] []) (hrec : ∀ (v6 : Int32) (v12 : Int32) (z : MS), (∀ q, dm sb q → dm z q) → ∀ y, rec v6 v12 z = some y → KX y → G X z cB sB 257 [(0, vR a0), (1, vR a1), (2, vI a2), (3, vI a3), (4, vL a4), (6, vI v6), (7, vI a7), (8, vL a8), (12, vI v12)] []) (mb : ∀ q, dm sb q → dm s q) {res : Int32 × MS} (h : b_La_pathsHold_257 a0 a1 a2 a3 a4 a6 a7 a8 a12 s rec = some res) (hk : KX res) : G X s ce0 sl0 257 [(0, vR a0), (1, vR a1), (2, vI a2), (3, vI a3), (4, vL a4), (6, vI a6), (7, vI a7), (8, vL a8), (12, vI a12)] [] := by
  unfold b_La_pathsHold_257 at h
  refine g_iload (i := 12) 8 ok d_La_pathsHold_257 rfl ?_
  refine g_iload (i := 7) 6 ok d_La_pathsHold_259 rfl ?_
  refine g_icmp_ge (tgt := 350) ok d_La_pathsHold_261 (by decide) (fun c63 => ?_) (fun c63 => ?_)
  · replace h := (if_pos c63).symm.trans h
    refine g_iload (i := 6) 5 ok d_La_pathsHold_264 rfl ?_
    refine g_if_eq (tgt := 350) ok d_La_pathsHold_266 (by decide) (fun c64 => ?_) (fun c64 => ?_)
    · replace h := (if_pos c64).symm.trans h
      refine g_sub [0, 1, 2, 3, 4, 5, 6] rfl ?_
      refine g_widen (ce' := cB) (sl' := sB) (by omega) (by omega) ?_
      cases h
      exact hexit a6 s hk mb
    · replace h := (if_neg c64).symm.trans h
      refine g_lload (i := 8) 7 ok d_La_pathsHold_269 rfl ?_
      refine g_lconst (v := (0 : Int64)) ok d_La_pathsHold_271 (by decide) ?_
      refine g_lcmp ok d_La_pathsHold_272 ?_
      refine g_if_ne (tgt := 292) ok d_La_pathsHold_273 (by decide) (fun c65 => ?_) (fun c65 => ?_)
      · replace h := (if_pos c65).symm.trans h
        refine g_aload_n (i := 0) 0 ok d_La_pathsHold_276 rfl rfl ?_
        refine g_iload (i := 12) 8 ok d_La_pathsHold_277 rfl ?_
        refine g_iconst (v := (0 : Int32)) ok d_La_pathsHold_279 (by decide) ?_
        refine g_sub [0, 1, 2, 3, 4, 6, 7, 8] rfl ?_
        obtain ⟨k66, hk67, h⟩ := bnd_go h
        obtain ⟨n68, hn69, h⟩ := bnd_go h
        obtain ⟨x73, s72, hc71, h⟩ := bnd2_go h
        refine g_callW (rm2 := rm_La_ofPath) (As := [vR a0, vI a12, vI (0 : Int32)]) (rest := []) ok hse.1 (c_La_ofPath hse.2 hc71) cm_La_ofPath cs_La_ofPath tw_657 ⟨rfl, rfl⟩ ⟨le_t rfl, le_t rfl⟩ ⟨rfl, le_t rfl⟩ ⟨(by show _ ≤ 7395; omega), (by show _ ≤ 44370; omega)⟩ ⟨(rk_of hk67), ⟨(rk_rl hn69), ⟨trivial, ⟨trivial, ⟨trivial, ⟨trivial, ⟨trivial, ⟨trivial, trivial⟩⟩⟩⟩⟩⟩⟩⟩ trivial d_La_pathsHold_280 rfl (fun m70 => ?_)
        show G X s72 (ce0 + 1) (sl0 + 6) 283 [(0, vR a0), (1, vR a1), (2, vI a2), (3, vI a3), (4, vL a4), (7, vI a7), (8, vL a8), (12, vI a12)] [vL x73]
        refine g_lconst (v := (0 : Int64)) ok d_La_pathsHold_283 (by decide) ?_
        refine g_lcmp ok d_La_pathsHold_284 ?_
        refine g_if_ne (tgt := 292) ok d_La_pathsHold_285 (by decide) (fun c74 => ?_) (fun c74 => ?_)
        · replace h := (if_pos c74).symm.trans h
          refine g_iconst (v := (1 : Int32)) ok d_La_pathsHold_288 (by decide) ?_
          refine g_goto (tgt := 293) ok d_La_pathsHold_289 (by decide) ?_
          exact w_j_La_pathsHold_293 ok hse (by omega) (by omega) hB1 hB2 hexit hrec (fun z hz => m70 z (mb z hz)) h hk
        · replace h := (if_neg c74).symm.trans h
          exact w_j_La_pathsHold_292 ok hse (by omega) (by omega) hB1 hB2 hexit hrec (fun z hz => m70 z (mb z hz)) h hk
      · replace h := (if_neg c65).symm.trans h
        refine g_sub [0, 1, 2, 3, 4, 6, 7, 8] rfl ?_
        exact w_j_La_pathsHold_292 ok hse (by omega) (by omega) hB1 hB2 hexit hrec mb h hk
  · replace h := (if_neg c63).symm.trans h
    refine g_sub [0, 1, 2, 3, 4, 5, 6] rfl ?_
    refine g_widen (ce' := cB) (sl' := sB) (by omega) (by omega) ?_
    cases h
    exact hexit a6 s hk mb
set_option maxHeartbeats 4000000 in
theorem wx_l_La_pathsHold_257 {X : CX} {KX : Int32 × MS → Prop} {a0 : Option Nat} {a1 : Option Nat} {a2 : Int32} {a3 : Int32} {a4 : Int64} {a7 : Int32} {a8 : Int64} {sb : MS} {c0 d0 : Nat} (ok : Ok X cL_pathsHold RL rm_La_pathsHold 14 true) (hse : SE X.2.2.2.1 X.1.2.2.2.2.1 ∧ X.1.2.1.stackTraces = false) (hc1 : c0 + 168 ≤ 7395) (hc2 : d0 + 1008 ≤ 44370) (hexit : ∀ (e6 : Int32) (z : MS), KX (e6, z) → (∀ q, dm sb q → dm z q) → G X z (c0 + 168) (d0 + 1008) 350 [(0, vR a0), (1, vR a1), (2, vI a2), (3, vI a3), (4, vL a4), (6, vI e6), (7, vI a7)] []) : ∀ (n : Nat), n ≤ 42 → ∀ (a6 : Int32) (a12 : Int32) (s : MS), (∀ q, dm sb q → dm s q) → ∀ (res : Int32 × MS), l_La_pathsHold_257 a0 a1 a2 a3 a4 a7 a8 n a6 a12 s = some res → KX res → G X s (c0 + (42 - n) * 4) (d0 + (42 - n) * 24) 257 [(0, vR a0), (1, vR a1), (2, vI a2), (3, vI a3), (4, vL a4), (6, vI a6), (7, vI a7), (8, vL a8), (12, vI a12)] [] := by
  intro n
  induction n with
  | zero => intro _ _ _ s _ res h; cases h
  | succ n ih =>
    intro hn a6 a12 s mb res h hk
    exact w_b_La_pathsHold_257 (cB := c0 + (42 - n) * 4) (sB := d0 + (42 - n) * 24) ok hse (by omega) (by omega) (by omega) (by omega) (fun e6 z k1 k2 => g_widen (by omega) (by omega) (hexit e6 z k1 k2)) (fun v6 v12 z hz y h2 hk2 => ih (by omega) v6 v12 z hz y h2 hk2) mb h hk
theorem w_l_La_pathsHold_257 {X : CX} {KX : Int32 × MS → Prop} {a0 : Option Nat} {a1 : Option Nat} {a2 : Int32} {a3 : Int32} {a4 : Int64} {a7 : Int32} {a8 : Int64} {sb : MS} {c0 d0 : Nat} (ok : Ok X cL_pathsHold RL rm_La_pathsHold 14 true) (hse : SE X.2.2.2.1 X.1.2.2.2.2.1 ∧ X.1.2.1.stackTraces = false) (hc1 : c0 + 168 ≤ 7395) (hc2 : d0 + 1008 ≤ 44370) (hexit : ∀ (e6 : Int32) (z : MS), KX (e6, z) → (∀ q, dm sb q → dm z q) → G X z (c0 + 168) (d0 + 1008) 350 [(0, vR a0), (1, vR a1), (2, vI a2), (3, vI a3), (4, vL a4), (6, vI e6), (7, vI a7)] []) (a6 : Int32) (a12 : Int32) {res : Int32 × MS} (h : l_La_pathsHold_257 a0 a1 a2 a3 a4 a7 a8 42 a6 a12 sb = some res) (hk : KX res) : G X sb c0 d0 257 [(0, vR a0), (1, vR a1), (2, vI a2), (3, vI a3), (4, vL a4), (6, vI a6), (7, vI a7), (8, vL a8), (12, vI a12)] [] := by
  have q := wx_l_La_pathsHold_257 ok hse hc1 hc2 hexit 42 (Nat.le_refl _) a6 a12 sb (fun _ hz => hz) res h hk
  simp only [Nat.sub_self, Nat.zero_mul, Nat.add_zero] at q
  exact q
set_option maxRecDepth 100000 in
set_option maxHeartbeats 4000000 in
theorem w_j_La_pathsHold_252 {X : CX} {KX : Int64 × Int32 × MS → Prop}  {a0 : Option Nat} {a1 : Option Nat} {a2 : Int32} {a3 : Int32} {a4 : Int64} {a7 : Int32} {a8 : Int64} {t0 : Int32} {s : MS} {rec : Int64 → Int32 → Int32 → MS → Option (Int64 × Int32 × MS)} {sb : MS} {ce0 sl0 cB sB : Nat} (ok : Ok X cL_pathsHold RL rm_La_pathsHold 14 true) (hse : SE X.2.2.2.1 X.1.2.2.2.2.1 ∧ X.1.2.1.stackTraces = false) (hc1 : ce0 + 168 ≤ cB) (hc2 : sl0 + 1008 ≤ sB) (hB1 : cB ≤ 7395) (hB2 : sB ≤ 44370) (hexit : ∀ (e4 : Int64) (e6 : Int32) (z : MS), KX (e4, e6, z) → (∀ q, dm sb q → dm z q) → G X z cB sB 356 [(0, vR a0), (4, vL e4), (6, vI e6)] []) (hrec : ∀ (v4 : Int64) (v6 : Int32) (v7 : Int32) (z : MS), (∀ q, dm sb q → dm z q) → ∀ y, rec v4 v6 v7 z = some y → KX y → G X z cB sB 33 [(0, vR a0), (1, vR a1), (2, vI a2), (3, vI a3), (4, vL v4), (6, vI v6), (7, vI v7)] []) (mb : ∀ q, dm sb q → dm s q) {res : Int64 × Int32 × MS} (h : j_La_pathsHold_252 a0 a1 a2 a3 a4 a7 a8 t0 s rec = some res) (hk : KX res) : G X s ce0 sl0 252 [(0, vR a0), (1, vR a1), (2, vI a2), (3, vI a3), (4, vL a4), (7, vI a7), (8, vL a8)] [vI t0] := by
  unfold j_La_pathsHold_252 at h
  refine g_istore (i := 6) [(6, vI t0), (0, vR a0), (1, vR a1), (2, vI a2), (3, vI a3), (4, vL a4), (7, vI a7), (8, vL a8)] ok d_La_pathsHold_252 (by decide) rfl ?_
  refine g_iconst (v := (0 : Int32)) ok d_La_pathsHold_254 (by decide) ?_
  refine g_istore (i := 12) [(12, vI (0 : Int32)), (6, vI t0), (0, vR a0), (1, vR a1), (2, vI a2), (3, vI a3), (4, vL a4), (7, vI a7), (8, vL a8)] ok d_La_pathsHold_255 (by decide) rfl ?_
  refine g_sub [2, 3, 4, 5, 6, 1, 7, 8, 0] rfl ?_
  obtain ⟨e109, s111, hx, h⟩ := bnd2_go h
  refine w_l_La_pathsHold_257 (KX := fun y => y = (e109, s111)) (c0 := ce0) (d0 := sl0) ok hse (by omega) (by omega) (fun y0 y1 he m110 => ?_) _ _ hx rfl
  cases he
  obtain ⟨x112, e113⟩ : ∃ z, a7 + (1 : Int32) = z := ⟨_, rfl⟩
  replace h := lt_go h e113
  refine g_iinc (i := 7) (v := x112) 6 [(7, vI x112), (0, vR a0), (1, vR a1), (2, vI a2), (3, vI a3), (4, vL a4), (6, vI e109)] ok d_La_pathsHold_350 rfl (by rw [← e113]; rfl) (by decide) rfl ?_
  refine g_goto (tgt := 33) ok d_La_pathsHold_353 (by decide) ?_
  refine g_sub [1, 2, 3, 4, 5, 6, 0] rfl ?_
  refine g_widen (ce' := cB) (sl' := sB) (by omega) (by omega) ?_
  exact hrec a4 e109 x112 s111 (fun z hz => m110 z (mb z hz)) _ h hk
set_option maxRecDepth 100000 in
set_option maxHeartbeats 4000000 in
theorem w_j_La_pathsHold_251 {X : CX} {KX : Int64 × Int32 × MS → Prop}  {a0 : Option Nat} {a1 : Option Nat} {a2 : Int32} {a3 : Int32} {a4 : Int64} {a7 : Int32} {a8 : Int64} {s : MS} {rec : Int64 → Int32 → Int32 → MS → Option (Int64 × Int32 × MS)} {sb : MS} {ce0 sl0 cB sB : Nat} (ok : Ok X cL_pathsHold RL rm_La_pathsHold 14 true) (hse : SE X.2.2.2.1 X.1.2.2.2.2.1 ∧ X.1.2.1.stackTraces = false) (hc1 : ce0 + 168 ≤ cB) (hc2 : sl0 + 1008 ≤ sB) (hB1 : cB ≤ 7395) (hB2 : sB ≤ 44370) (hexit : ∀ (e4 : Int64) (e6 : Int32) (z : MS), KX (e4, e6, z) → (∀ q, dm sb q → dm z q) → G X z cB sB 356 [(0, vR a0), (4, vL e4), (6, vI e6)] []) (hrec : ∀ (v4 : Int64) (v6 : Int32) (v7 : Int32) (z : MS), (∀ q, dm sb q → dm z q) → ∀ y, rec v4 v6 v7 z = some y → KX y → G X z cB sB 33 [(0, vR a0), (1, vR a1), (2, vI a2), (3, vI a3), (4, vL v4), (6, vI v6), (7, vI v7)] []) (mb : ∀ q, dm sb q → dm s q) {res : Int64 × Int32 × MS} (h : j_La_pathsHold_251 a0 a1 a2 a3 a4 a7 a8 s rec = some res) (hk : KX res) : G X s ce0 sl0 251 [(0, vR a0), (1, vR a1), (2, vI a2), (3, vI a3), (4, vL a4), (7, vI a7), (8, vL a8)] [] := by
  unfold j_La_pathsHold_251 at h
  refine g_iconst (v := (0 : Int32)) ok d_La_pathsHold_251 (by decide) ?_
  exact w_j_La_pathsHold_252 ok hse (by omega) (by omega) hB1 hB2 hexit hrec mb h hk
set_option maxRecDepth 100000 in
set_option maxHeartbeats 4000000 in
theorem w_j_La_pathsHold_247 {X : CX} {KX : Int64 × Int32 × MS → Prop}  {a0 : Option Nat} {a1 : Option Nat} {a2 : Int32} {a3 : Int32} {a4 : Int64} {a7 : Int32} {a8 : Int64} {s : MS} {rec : Int64 → Int32 → Int32 → MS → Option (Int64 × Int32 × MS)} {sb : MS} {ce0 sl0 cB sB : Nat} (ok : Ok X cL_pathsHold RL rm_La_pathsHold 14 true) (hse : SE X.2.2.2.1 X.1.2.2.2.2.1 ∧ X.1.2.1.stackTraces = false) (hc1 : ce0 + 168 ≤ cB) (hc2 : sl0 + 1008 ≤ sB) (hB1 : cB ≤ 7395) (hB2 : sB ≤ 44370) (hexit : ∀ (e4 : Int64) (e6 : Int32) (z : MS), KX (e4, e6, z) → (∀ q, dm sb q → dm z q) → G X z cB sB 356 [(0, vR a0), (4, vL e4), (6, vI e6)] []) (hrec : ∀ (v4 : Int64) (v6 : Int32) (v7 : Int32) (z : MS), (∀ q, dm sb q → dm z q) → ∀ y, rec v4 v6 v7 z = some y → KX y → G X z cB sB 33 [(0, vR a0), (1, vR a1), (2, vI a2), (3, vI a3), (4, vL v4), (6, vI v6), (7, vI v7)] []) (mb : ∀ q, dm sb q → dm s q) {res : Int64 × Int32 × MS} (h : j_La_pathsHold_247 a0 a1 a2 a3 a4 a7 a8 s rec = some res) (hk : KX res) : G X s ce0 sl0 247 [(0, vR a0), (1, vR a1), (2, vI a2), (3, vI a3), (4, vL a4), (7, vI a7), (8, vL a8)] [] := by
  unfold j_La_pathsHold_247 at h
  refine g_iconst (v := (1 : Int32)) ok d_La_pathsHold_247 (by decide) ?_
  refine g_goto (tgt := 252) ok d_La_pathsHold_248 (by decide) ?_
  exact w_j_La_pathsHold_252 ok hse (by omega) (by omega) hB1 hB2 hexit hrec mb h hk
set_option maxRecDepth 100000 in
set_option maxHeartbeats 4000000 in
theorem w_j_La_pathsHold_229 {X : CX} {KX : Int64 × Int32 × MS → Prop}  {a0 : Option Nat} {a1 : Option Nat} {a2 : Int32} {a3 : Int32} {a4 : Int64} {a7 : Int32} {a8 : Int64} {a11 : Int32} {s : MS} {rec : Int64 → Int32 → Int32 → MS → Option (Int64 × Int32 × MS)} {sb : MS} {ce0 sl0 cB sB : Nat} (ok : Ok X cL_pathsHold RL rm_La_pathsHold 14 true) (hse : SE X.2.2.2.1 X.1.2.2.2.2.1 ∧ X.1.2.1.stackTraces = false) (hc1 : ce0 + 168 ≤ cB) (hc2 : sl0 + 1008 ≤ sB) (hB1 : cB ≤ 7395) (hB2 : sB ≤ 44370) (hexit : ∀ (e4 : Int64) (e6 : Int32) (z : MS), KX (e4, e6, z) → (∀ q, dm sb q → dm z q) → G X z cB sB 356 [(0, vR a0), (4, vL e4), (6, vI e6)] []) (hrec : ∀ (v4 : Int64) (v6 : Int32) (v7 : Int32) (z : MS), (∀ q, dm sb q → dm z q) → ∀ y, rec v4 v6 v7 z = some y → KX y → G X z cB sB 33 [(0, vR a0), (1, vR a1), (2, vI a2), (3, vI a3), (4, vL v4), (6, vI v6), (7, vI v7)] []) (mb : ∀ q, dm sb q → dm s q) {res : Int64 × Int32 × MS} (h : j_La_pathsHold_229 a0 a1 a2 a3 a4 a7 a8 a11 s rec = some res) (hk : KX res) : G X s ce0 sl0 229 [(0, vR a0), (1, vR a1), (2, vI a2), (3, vI a3), (4, vL a4), (7, vI a7), (8, vL a8), (11, vI a11)] [] := by
  unfold j_La_pathsHold_229 at h
  refine g_lload (i := 8) 6 ok d_La_pathsHold_229 rfl ?_
  refine g_ldc2 (v := (2 : Int64)) ok d_La_pathsHold_231 tw_688 ?_
  refine g_lcmp ok d_La_pathsHold_234 ?_
  refine g_if_ne (tgt := 247) ok d_La_pathsHold_235 (by decide) (fun c132 => ?_) (fun c132 => ?_)
  · replace h := (if_pos c132).symm.trans h
    refine g_iload (i := 11) 7 ok d_La_pathsHold_238 rfl ?_
    refine g_aload_n (i := 0) 0 ok d_La_pathsHold_240 rfl rfl ?_
    obtain ⟨k133, hk134, h⟩ := bnd_go h
    obtain ⟨x136, hc137, h⟩ := bnd_go h
    refine g_invV (rm2 := rm_Sk_time) (As := []) (rest := [vI a11]) ok hk134 lay_0 rfl (c_Sk_time X.1.2.1 (rf_self hk134) hc137) cm_Sk_time cv_Sk_time tw_133 ⟨rfl, rfl⟩ ⟨le_t rfl, le_t rfl⟩ ⟨rfl, le_t rfl⟩ ⟨(by show _ ≤ 7395; omega), (by show _ ≤ 44370; omega)⟩ d_La_pathsHold_241 rfl (fun m135 => ?_)
    show G X s ce0 sl0 244 [(0, vR a0), (1, vR a1), (2, vI a2), (3, vI a3), (4, vL a4), (7, vI a7), (8, vL a8), (11, vI a11)] [vI x136, vI a11]
    refine g_icmp_gt (tgt := 251) ok d_La_pathsHold_244 (by decide) (fun c138 => ?_) (fun c138 => ?_)
    · replace h := (if_pos c138).symm.trans h
      refine g_sub [0, 1, 2, 3, 4, 5, 6] rfl ?_
      exact w_j_La_pathsHold_251 ok hse (by omega) (by omega) hB1 hB2 hexit hrec mb h hk
    · replace h := (if_neg c138).symm.trans h
      refine g_sub [0, 1, 2, 3, 4, 5, 6] rfl ?_
      exact w_j_La_pathsHold_247 ok hse (by omega) (by omega) hB1 hB2 hexit hrec mb h hk
  · replace h := (if_neg c132).symm.trans h
    refine g_sub [0, 1, 2, 3, 4, 5, 6] rfl ?_
    exact w_j_La_pathsHold_247 ok hse (by omega) (by omega) hB1 hB2 hexit hrec mb h hk
set_option maxRecDepth 100000 in
set_option maxHeartbeats 4000000 in
theorem w_j_La_pathsHold_204 {X : CX} {KX : Int64 × Int32 × MS → Prop}  {a0 : Option Nat} {a1 : Option Nat} {a2 : Int32} {a3 : Int32} {a4 : Int64} {a7 : Int32} {a8 : Int64} {a10 : Int32} {a11 : Int32} {s : MS} {rec : Int64 → Int32 → Int32 → MS → Option (Int64 × Int32 × MS)} {sb : MS} {ce0 sl0 cB sB : Nat} (ok : Ok X cL_pathsHold RL rm_La_pathsHold 14 true) (hse : SE X.2.2.2.1 X.1.2.2.2.2.1 ∧ X.1.2.1.stackTraces = false) (hc1 : ce0 + 168 ≤ cB) (hc2 : sl0 + 1008 ≤ sB) (hB1 : cB ≤ 7395) (hB2 : sB ≤ 44370) (hexit : ∀ (e4 : Int64) (e6 : Int32) (z : MS), KX (e4, e6, z) → (∀ q, dm sb q → dm z q) → G X z cB sB 356 [(0, vR a0), (4, vL e4), (6, vI e6)] []) (hrec : ∀ (v4 : Int64) (v6 : Int32) (v7 : Int32) (z : MS), (∀ q, dm sb q → dm z q) → ∀ y, rec v4 v6 v7 z = some y → KX y → G X z cB sB 33 [(0, vR a0), (1, vR a1), (2, vI a2), (3, vI a3), (4, vL v4), (6, vI v6), (7, vI v7)] []) (mb : ∀ q, dm sb q → dm s q) {res : Int64 × Int32 × MS} (h : j_La_pathsHold_204 a0 a1 a2 a3 a4 a7 a8 a10 a11 s rec = some res) (hk : KX res) : G X s ce0 sl0 204 [(0, vR a0), (1, vR a1), (2, vI a2), (3, vI a3), (4, vL a4), (7, vI a7), (8, vL a8), (10, vI a10), (11, vI a11)] [] := by
  unfold j_La_pathsHold_204 at h
  refine g_lload (i := 8) 6 ok d_La_pathsHold_204 rfl ?_
  refine g_lconst (v := (1 : Int64)) ok d_La_pathsHold_206 (by decide) ?_
  refine g_lcmp ok d_La_pathsHold_207 ?_
  refine g_if_ne (tgt := 229) ok d_La_pathsHold_208 (by decide) (fun c121 => ?_) (fun c121 => ?_)
  · replace h := (if_pos c121).symm.trans h
    refine g_iload (i := 10) 7 ok d_La_pathsHold_211 rfl ?_
    refine g_aload_n (i := 0) 0 ok d_La_pathsHold_213 rfl rfl ?_
    obtain ⟨k122, hk123, h⟩ := bnd_go h
    obtain ⟨x125, hc126, h⟩ := bnd_go h
    refine g_invV (rm2 := rm_Sk_time) (As := []) (rest := [vI a10]) ok hk123 lay_0 rfl (c_Sk_time X.1.2.1 (rf_self hk123) hc126) cm_Sk_time cv_Sk_time tw_133 ⟨rfl, rfl⟩ ⟨le_t rfl, le_t rfl⟩ ⟨rfl, le_t rfl⟩ ⟨(by show _ ≤ 7395; omega), (by show _ ≤ 44370; omega)⟩ d_La_pathsHold_214 rfl (fun m124 => ?_)
    show G X s ce0 sl0 217 [(0, vR a0), (1, vR a1), (2, vI a2), (3, vI a3), (4, vL a4), (7, vI a7), (8, vL a8), (10, vI a10), (11, vI a11)] [vI x125, vI a10]
    refine g_icmp_gt (tgt := 251) ok d_La_pathsHold_217 (by decide) (fun c127 => ?_) (fun c127 => ?_)
    · replace h := (if_pos c127).symm.trans h
      refine g_sub [0, 1, 2, 3, 4, 5, 6] rfl ?_
      exact w_j_La_pathsHold_251 ok hse (by omega) (by omega) hB1 hB2 hexit hrec mb h hk
    · replace h := (if_neg c127).symm.trans h
      refine g_iload (i := 11) 8 ok d_La_pathsHold_220 rfl ?_
      refine g_aload_n (i := 0) 0 ok d_La_pathsHold_222 rfl rfl ?_
      obtain ⟨x129, hc130, h⟩ := bnd_go h
      refine g_invV (rm2 := rm_Sk_time) (As := []) (rest := [vI a11]) ok hk123 lay_0 rfl (c_Sk_time X.1.2.1 (rf_self hk123) hc130) cm_Sk_time cv_Sk_time tw_133 ⟨rfl, rfl⟩ ⟨le_t rfl, le_t rfl⟩ ⟨rfl, le_t rfl⟩ ⟨(by show _ ≤ 7395; omega), (by show _ ≤ 44370; omega)⟩ d_La_pathsHold_223 rfl (fun m128 => ?_)
      show G X s ce0 sl0 226 [(0, vR a0), (1, vR a1), (2, vI a2), (3, vI a3), (4, vL a4), (7, vI a7), (8, vL a8), (10, vI a10), (11, vI a11)] [vI x129, vI a11]
      refine g_icmp_le (tgt := 251) ok d_La_pathsHold_226 (by decide) (fun c131 => ?_) (fun c131 => ?_)
      · replace h := (if_pos c131).symm.trans h
        refine g_sub [0, 1, 2, 3, 4, 5, 6, 8] rfl ?_
        exact w_j_La_pathsHold_229 ok hse (by omega) (by omega) hB1 hB2 hexit hrec mb h hk
      · replace h := (if_neg c131).symm.trans h
        refine g_sub [0, 1, 2, 3, 4, 5, 6] rfl ?_
        exact w_j_La_pathsHold_251 ok hse (by omega) (by omega) hB1 hB2 hexit hrec mb h hk
  · replace h := (if_neg c121).symm.trans h
    refine g_sub [0, 1, 2, 3, 4, 5, 6, 8] rfl ?_
    exact w_j_La_pathsHold_229 ok hse (by omega) (by omega) hB1 hB2 hexit hrec mb h hk
set_option maxRecDepth 100000 in
set_option maxHeartbeats 4000000 in
theorem w_j_La_pathsHold_181 {X : CX} {KX : Int64 × Int32 × MS → Prop}  {a0 : Option Nat} {a1 : Option Nat} {a2 : Int32} {a3 : Int32} {a4 : Int64} {a7 : Int32} {a8 : Int64} {a10 : Int32} {a11 : Int32} {t0 : Int32} {s : MS} {rec : Int64 → Int32 → Int32 → MS → Option (Int64 × Int32 × MS)} {sb : MS} {ce0 sl0 cB sB : Nat} (ok : Ok X cL_pathsHold RL rm_La_pathsHold 14 true) (hse : SE X.2.2.2.1 X.1.2.2.2.2.1 ∧ X.1.2.1.stackTraces = false) (hc1 : ce0 + 168 ≤ cB) (hc2 : sl0 + 1008 ≤ sB) (hB1 : cB ≤ 7395) (hB2 : sB ≤ 44370) (hexit : ∀ (e4 : Int64) (e6 : Int32) (z : MS), KX (e4, e6, z) → (∀ q, dm sb q → dm z q) → G X z cB sB 356 [(0, vR a0), (4, vL e4), (6, vI e6)] []) (hrec : ∀ (v4 : Int64) (v6 : Int32) (v7 : Int32) (z : MS), (∀ q, dm sb q → dm z q) → ∀ y, rec v4 v6 v7 z = some y → KX y → G X z cB sB 33 [(0, vR a0), (1, vR a1), (2, vI a2), (3, vI a3), (4, vL v4), (6, vI v6), (7, vI v7)] []) (mb : ∀ q, dm sb q → dm s q) {res : Int64 × Int32 × MS} (h : j_La_pathsHold_181 a0 a1 a2 a3 a4 a7 a8 a10 a11 t0 s rec = some res) (hk : KX res) : G X s ce0 sl0 181 [(0, vR a0), (1, vR a1), (2, vI a2), (3, vI a3), (4, vL a4), (7, vI a7), (8, vL a8), (10, vI a10), (11, vI a11)] [vI t0] := by
  unfold j_La_pathsHold_181 at h
  refine g_istore (i := 6) [(6, vI t0), (0, vR a0), (1, vR a1), (2, vI a2), (3, vI a3), (4, vL a4), (7, vI a7), (8, vL a8), (10, vI a10), (11, vI a11)] ok d_La_pathsHold_181 (by decide) rfl ?_
  refine g_iload (i := 6) 0 ok d_La_pathsHold_183 rfl ?_
  refine g_if_eq (tgt := 251) ok d_La_pathsHold_185 (by decide) (fun c62 => ?_) (fun c62 => ?_)
  · replace h := (if_pos c62).symm.trans h
    refine g_sub [1, 2, 3, 4, 5, 6, 7] rfl ?_
    exact w_j_La_pathsHold_251 ok hse (by omega) (by omega) hB1 hB2 hexit hrec mb h hk
  · replace h := (if_neg c62).symm.trans h
    refine g_lload (i := 8) 7 ok d_La_pathsHold_188 rfl ?_
    refine g_lconst (v := (0 : Int64)) ok d_La_pathsHold_190 (by decide) ?_
    refine g_lcmp ok d_La_pathsHold_191 ?_
    refine g_if_ne (tgt := 204) ok d_La_pathsHold_192 (by decide) (fun c114 => ?_) (fun c114 => ?_)
    · replace h := (if_pos c114).symm.trans h
      refine g_iload (i := 10) 8 ok d_La_pathsHold_195 rfl ?_
      refine g_aload_n (i := 0) 1 ok d_La_pathsHold_197 rfl rfl ?_
      obtain ⟨k115, hk116, h⟩ := bnd_go h
      obtain ⟨x118, hc119, h⟩ := bnd_go h
      refine g_invV (rm2 := rm_Sk_time) (As := []) (rest := [vI a10]) ok hk116 lay_0 rfl (c_Sk_time X.1.2.1 (rf_self hk116) hc119) cm_Sk_time cv_Sk_time tw_133 ⟨rfl, rfl⟩ ⟨le_t rfl, le_t rfl⟩ ⟨rfl, le_t rfl⟩ ⟨(by show _ ≤ 7395; omega), (by show _ ≤ 44370; omega)⟩ d_La_pathsHold_198 rfl (fun m117 => ?_)
      show G X s ce0 sl0 201 [(6, vI t0), (0, vR a0), (1, vR a1), (2, vI a2), (3, vI a3), (4, vL a4), (7, vI a7), (8, vL a8), (10, vI a10), (11, vI a11)] [vI x118, vI a10]
      refine g_icmp_le (tgt := 251) ok d_La_pathsHold_201 (by decide) (fun c120 => ?_) (fun c120 => ?_)
      · replace h := (if_pos c120).symm.trans h
        refine g_sub [1, 2, 3, 4, 5, 6, 7, 8, 9] rfl ?_
        exact w_j_La_pathsHold_204 ok hse (by omega) (by omega) hB1 hB2 hexit hrec mb h hk
      · replace h := (if_neg c120).symm.trans h
        refine g_sub [1, 2, 3, 4, 5, 6, 7] rfl ?_
        exact w_j_La_pathsHold_251 ok hse (by omega) (by omega) hB1 hB2 hexit hrec mb h hk
    · replace h := (if_neg c114).symm.trans h
      refine g_sub [1, 2, 3, 4, 5, 6, 7, 8, 9] rfl ?_
      exact w_j_La_pathsHold_204 ok hse (by omega) (by omega) hB1 hB2 hexit hrec mb h hk
set_option maxRecDepth 100000 in
set_option maxHeartbeats 4000000 in
theorem w_j_La_pathsHold_180 {X : CX} {KX : Int64 × Int32 × MS → Prop}  {a0 : Option Nat} {a1 : Option Nat} {a2 : Int32} {a3 : Int32} {a4 : Int64} {a7 : Int32} {a8 : Int64} {a10 : Int32} {a11 : Int32} {s : MS} {rec : Int64 → Int32 → Int32 → MS → Option (Int64 × Int32 × MS)} {sb : MS} {ce0 sl0 cB sB : Nat} (ok : Ok X cL_pathsHold RL rm_La_pathsHold 14 true) (hse : SE X.2.2.2.1 X.1.2.2.2.2.1 ∧ X.1.2.1.stackTraces = false) (hc1 : ce0 + 168 ≤ cB) (hc2 : sl0 + 1008 ≤ sB) (hB1 : cB ≤ 7395) (hB2 : sB ≤ 44370) (hexit : ∀ (e4 : Int64) (e6 : Int32) (z : MS), KX (e4, e6, z) → (∀ q, dm sb q → dm z q) → G X z cB sB 356 [(0, vR a0), (4, vL e4), (6, vI e6)] []) (hrec : ∀ (v4 : Int64) (v6 : Int32) (v7 : Int32) (z : MS), (∀ q, dm sb q → dm z q) → ∀ y, rec v4 v6 v7 z = some y → KX y → G X z cB sB 33 [(0, vR a0), (1, vR a1), (2, vI a2), (3, vI a3), (4, vL v4), (6, vI v6), (7, vI v7)] []) (mb : ∀ q, dm sb q → dm s q) {res : Int64 × Int32 × MS} (h : j_La_pathsHold_180 a0 a1 a2 a3 a4 a7 a8 a10 a11 s rec = some res) (hk : KX res) : G X s ce0 sl0 180 [(0, vR a0), (1, vR a1), (2, vI a2), (3, vI a3), (4, vL a4), (7, vI a7), (8, vL a8), (10, vI a10), (11, vI a11)] [] := by
  unfold j_La_pathsHold_180 at h
  refine g_iconst (v := (0 : Int32)) ok d_La_pathsHold_180 (by decide) ?_
  exact w_j_La_pathsHold_181 ok hse (by omega) (by omega) hB1 hB2 hexit hrec mb h hk
set_option maxRecDepth 100000 in
set_option maxHeartbeats 4000000 in
theorem w_j_La_pathsHold_89 {X : CX} {KX : Int64 × Int32 × MS → Prop}  {a0 : Option Nat} {a1 : Option Nat} {a2 : Int32} {a3 : Int32} {a7 : Int32} {a8 : Int64} {a10 : Int32} {a11 : Int32} {t0 : Int64} {t1 : Int64} {s : MS} {rec : Int64 → Int32 → Int32 → MS → Option (Int64 × Int32 × MS)} {sb : MS} {ce0 sl0 cB sB : Nat} (ok : Ok X cL_pathsHold RL rm_La_pathsHold 14 true) (hse : SE X.2.2.2.1 X.1.2.2.2.2.1 ∧ X.1.2.1.stackTraces = false) (hc1 : ce0 + 173 ≤ cB) (hc2 : sl0 + 1038 ≤ sB) (hB1 : cB ≤ 7395) (hB2 : sB ≤ 44370) (hexit : ∀ (e4 : Int64) (e6 : Int32) (z : MS), KX (e4, e6, z) → (∀ q, dm sb q → dm z q) → G X z cB sB 356 [(0, vR a0), (4, vL e4), (6, vI e6)] []) (hrec : ∀ (v4 : Int64) (v6 : Int32) (v7 : Int32) (z : MS), (∀ q, dm sb q → dm z q) → ∀ y, rec v4 v6 v7 z = some y → KX y → G X z cB sB 33 [(0, vR a0), (1, vR a1), (2, vI a2), (3, vI a3), (4, vL v4), (6, vI v6), (7, vI v7)] []) (mb : ∀ q, dm sb q → dm s q) {res : Int64 × Int32 × MS} (h : j_La_pathsHold_89 a0 a1 a2 a3 a7 a8 a10 a11 t0 t1 s rec = some res) (hk : KX res) : G X s ce0 sl0 89 [(0, vR a0), (1, vR a1), (2, vI a2), (3, vI a3), (7, vI a7), (8, vL a8), (10, vI a10), (11, vI a11)] [vL t0, vL t1] := by
  unfold j_La_pathsHold_89 at h
  refine g_ladd ok d_La_pathsHold_89 ?_
  obtain ⟨x45, e46⟩ : ∃ z, (t1 + t0) = z := ⟨_, rfl⟩
  replace h := lt_go h e46
  rw [e46]
  refine g_lstore (i := 4) [(4, vL x45), (0, vR a0), (1, vR a1), (2, vI a2), (3, vI a3), (7, vI a7), (8, vL a8), (10, vI a10), (11, vI a11)] ok d_La_pathsHold_90 (by decide) rfl ?_
  refine g_iload (i := 11) 8 ok d_La_pathsHold_92 rfl ?_
  refine g_iload (i := 10) 7 ok d_La_pathsHold_94 rfl ?_
  refine g_icmp_le (tgt := 180) ok d_La_pathsHold_96 (by decide) (fun c47 => ?_) (fun c47 => ?_)
  · replace h := (if_pos c47).symm.trans h
    refine g_aload_n (i := 1) 2 ok d_La_pathsHold_99 rfl rfl ?_
    refine g_aload_n (i := 0) 1 ok d_La_pathsHold_100 rfl rfl ?_
    refine g_iload (i := 7) 5 ok d_La_pathsHold_101 rfl ?_
    refine g_iload (i := 10) 7 ok d_La_pathsHold_103 rfl ?_
    obtain ⟨k48, hk49, h⟩ := bnd_go h
    obtain ⟨n50, hn51, h⟩ := bnd_go h
    obtain ⟨n52, hn53, h⟩ := bnd_go h
    obtain ⟨x57, s56, hc55, h⟩ := bnd2_go h
    refine g_callW (rm2 := rm_La_placeAt) (As := [vR a0, vI a7, vI a10]) (rest := [vR a1]) ok hse.1 (c_La_placeAt hse.2 hc55) cm_La_placeAt cs_La_placeAt tw_690 ⟨rfl, rfl⟩ ⟨le_t rfl, le_t rfl⟩ ⟨rfl, le_t rfl⟩ ⟨(by show _ ≤ 7395; omega), (by show _ ≤ 44370; omega)⟩ ⟨trivial, ⟨(rk_of hk49), ⟨(rk_rl hn51), ⟨trivial, ⟨trivial, ⟨trivial, ⟨trivial, ⟨trivial, ⟨trivial, trivial⟩⟩⟩⟩⟩⟩⟩⟩⟩ ⟨(rk_rl hn53), trivial⟩ d_La_pathsHold_105 rfl (fun m54 => ?_)
    show G X s56 (ce0 + 1) (sl0 + 6) 108 [(4, vL x45), (0, vR a0), (1, vR a1), (2, vI a2), (3, vI a3), (7, vI a7), (8, vL a8), (10, vI a10), (11, vI a11)] [vL x57, vR a1]
    obtain ⟨x59, hc60, h⟩ := bnd_go h
    refine g_invS (rm2 := rm_La_isSpot) (As := [vR a1, vL x57]) (rest := []) ok (c_La_isSpot X.1.2.1 hc60) cm_La_isSpot cs_La_isSpot tw_680 ⟨rfl, rfl⟩ ⟨le_t rfl, le_t rfl⟩ ⟨rfl, le_t rfl⟩ ⟨(by show _ ≤ 7395; omega), (by show _ ≤ 44370; omega)⟩ d_La_pathsHold_108 rfl (fun m58 => ?_)
    show G X s56 (ce0 + 1) (sl0 + 6) 111 [(4, vL x45), (0, vR a0), (1, vR a1), (2, vI a2), (3, vI a3), (7, vI a7), (8, vL a8), (10, vI a10), (11, vI a11)] [vI x59]
    refine g_if_eq (tgt := 180) ok d_La_pathsHold_111 (by decide) (fun c61 => ?_) (fun c61 => ?_)
    · replace h := (if_pos c61).symm.trans h
      refine g_sub [1, 2, 3, 4, 0, 5, 6, 7, 8] rfl ?_
      exact w_j_La_pathsHold_180 ok hse (by omega) (by omega) hB1 hB2 hexit hrec (fun z hz => m54 z (mb z hz)) h hk
    · replace h := (if_neg c61).symm.trans h
      refine g_aload_n (i := 1) 2 ok d_La_pathsHold_114 rfl rfl ?_
      refine g_aload_n (i := 0) 1 ok d_La_pathsHold_115 rfl rfl ?_
      refine g_iload (i := 7) 5 ok d_La_pathsHold_116 rfl ?_
      refine g_iload (i := 11) 8 ok d_La_pathsHold_118 rfl ?_
      obtain ⟨n139, hn140, h⟩ := bnd_go h
      obtain ⟨n141, hn142, h⟩ := bnd_go h
      obtain ⟨x146, s145, hc144, h⟩ := bnd2_go h
      refine g_callW (rm2 := rm_La_placeAt) (As := [vR a0, vI a7, vI a11]) (rest := [vR a1]) ok hse.1 (c_La_placeAt hse.2 hc144) cm_La_placeAt cs_La_placeAt tw_690 ⟨rfl, rfl⟩ ⟨le_t rfl, le_t rfl⟩ ⟨rfl, le_t rfl⟩ ⟨(by show _ ≤ 7395; omega), (by show _ ≤ 44370; omega)⟩ ⟨trivial, ⟨(rk_of (rf_mono m54 hk49)), ⟨(rk_rl hn140), ⟨trivial, ⟨trivial, ⟨trivial, ⟨trivial, ⟨trivial, ⟨trivial, trivial⟩⟩⟩⟩⟩⟩⟩⟩⟩ ⟨(rk_rl hn142), trivial⟩ d_La_pathsHold_120 rfl (fun m143 => ?_)
      show G X s145 ((ce0 + 1) + 1) ((sl0 + 6) + 6) 123 [(4, vL x45), (0, vR a0), (1, vR a1), (2, vI a2), (3, vI a3), (7, vI a7), (8, vL a8), (10, vI a10), (11, vI a11)] [vL x146, vR a1]
      obtain ⟨x148, hc149, h⟩ := bnd_go h
      refine g_invS (rm2 := rm_La_isSpot) (As := [vR a1, vL x146]) (rest := []) ok (c_La_isSpot X.1.2.1 hc149) cm_La_isSpot cs_La_isSpot tw_680 ⟨rfl, rfl⟩ ⟨le_t rfl, le_t rfl⟩ ⟨rfl, le_t rfl⟩ ⟨(by show _ ≤ 7395; omega), (by show _ ≤ 44370; omega)⟩ d_La_pathsHold_123 rfl (fun m147 => ?_)
      show G X s145 ((ce0 + 1) + 1) ((sl0 + 6) + 6) 126 [(4, vL x45), (0, vR a0), (1, vR a1), (2, vI a2), (3, vI a3), (7, vI a7), (8, vL a8), (10, vI a10), (11, vI a11)] [vI x148]
      refine g_if_eq (tgt := 180) ok d_La_pathsHold_126 (by decide) (fun c150 => ?_) (fun c150 => ?_)
      · replace h := (if_pos c150).symm.trans h
        refine g_sub [1, 2, 3, 4, 0, 5, 6, 7, 8] rfl ?_
        exact w_j_La_pathsHold_180 ok hse (by omega) (by omega) hB1 hB2 hexit hrec (fun z hz => m143 z ((fun z hz => m54 z (mb z hz)) z hz)) h hk
      · replace h := (if_neg c150).symm.trans h
        refine g_aload_n (i := 0) 1 ok d_La_pathsHold_129 rfl rfl ?_
        refine g_iload (i := 7) 5 ok d_La_pathsHold_130 rfl ?_
        refine g_iload (i := 10) 7 ok d_La_pathsHold_132 rfl ?_
        refine g_iconst (v := (1 : Int32)) ok d_La_pathsHold_134 (by decide) ?_
        refine g_isub ok d_La_pathsHold_135 ?_
        obtain ⟨n151, hn152, h⟩ := bnd_go h
        obtain ⟨x156, s155, hc154, h⟩ := bnd2_go h
        refine g_callW (rm2 := rm_La_placeAt) (As := [vR a0, vI a7, vI (a10 - (1 : Int32))]) (rest := []) ok hse.1 (c_La_placeAt hse.2 hc154) cm_La_placeAt cs_La_placeAt tw_690 ⟨rfl, rfl⟩ ⟨le_t rfl, le_t rfl⟩ ⟨rfl, le_t rfl⟩ ⟨(by show _ ≤ 7395; omega), (by show _ ≤ 44370; omega)⟩ ⟨trivial, ⟨(rk_of (rf_mono m143 (rf_mono m54 hk49))), ⟨(rk_rl hn152), ⟨trivial, ⟨trivial, ⟨trivial, ⟨trivial, ⟨trivial, ⟨trivial, trivial⟩⟩⟩⟩⟩⟩⟩⟩⟩ trivial d_La_pathsHold_136 rfl (fun m153 => ?_)
        show G X s155 (((ce0 + 1) + 1) + 1) (((sl0 + 6) + 6) + 6) 139 [(4, vL x45), (0, vR a0), (1, vR a1), (2, vI a2), (3, vI a3), (7, vI a7), (8, vL a8), (10, vI a10), (11, vI a11)] [vL x156]
        refine g_ldc2 (v := (-1 : Int64)) ok d_La_pathsHold_139 tw_689 ?_
        refine g_lcmp ok d_La_pathsHold_142 ?_
        refine g_if_ne (tgt := 180) ok d_La_pathsHold_143 (by decide) (fun c157 => ?_) (fun c157 => ?_)
        · replace h := (if_pos c157).symm.trans h
          refine g_aload_n (i := 0) 1 ok d_La_pathsHold_146 rfl rfl ?_
          refine g_iload (i := 7) 5 ok d_La_pathsHold_147 rfl ?_
          refine g_iload (i := 11) 8 ok d_La_pathsHold_149 rfl ?_
          refine g_iconst (v := (1 : Int32)) ok d_La_pathsHold_151 (by decide) ?_
          refine g_iadd ok d_La_pathsHold_152 ?_
          obtain ⟨n158, hn159, h⟩ := bnd_go h
          obtain ⟨x163, s162, hc161, h⟩ := bnd2_go h
          refine g_callW (rm2 := rm_La_placeAt) (As := [vR a0, vI a7, vI (a11 + (1 : Int32))]) (rest := []) ok hse.1 (c_La_placeAt hse.2 hc161) cm_La_placeAt cs_La_placeAt tw_690 ⟨rfl, rfl⟩ ⟨le_t rfl, le_t rfl⟩ ⟨rfl, le_t rfl⟩ ⟨(by show _ ≤ 7395; omega), (by show _ ≤ 44370; omega)⟩ ⟨trivial, ⟨(rk_of (rf_mono m153 (rf_mono m143 (rf_mono m54 hk49)))), ⟨(rk_rl hn159), ⟨trivial, ⟨trivial, ⟨trivial, ⟨trivial, ⟨trivial, ⟨trivial, trivial⟩⟩⟩⟩⟩⟩⟩⟩⟩ trivial d_La_pathsHold_153 rfl (fun m160 => ?_)
          show G X s162 ((((ce0 + 1) + 1) + 1) + 1) ((((sl0 + 6) + 6) + 6) + 6) 156 [(4, vL x45), (0, vR a0), (1, vR a1), (2, vI a2), (3, vI a3), (7, vI a7), (8, vL a8), (10, vI a10), (11, vI a11)] [vL x163]
          refine g_ldc2 (v := (-1 : Int64)) ok d_La_pathsHold_156 tw_689 ?_
          refine g_lcmp ok d_La_pathsHold_159 ?_
          refine g_if_ne (tgt := 180) ok d_La_pathsHold_160 (by decide) (fun c164 => ?_) (fun c164 => ?_)
          · replace h := (if_pos c164).symm.trans h
            refine g_aload_n (i := 0) 1 ok d_La_pathsHold_163 rfl rfl ?_
            refine g_iload (i := 7) 5 ok d_La_pathsHold_164 rfl ?_
            refine g_iload (i := 7) 5 ok d_La_pathsHold_166 rfl ?_
            obtain ⟨n165, hn166, h⟩ := bnd_go h
            obtain ⟨x170, s169, hc168, h⟩ := bnd2_go h
            refine g_callW (rm2 := rm_La_meets) (As := [vR a0, vI a7, vI a7]) (rest := []) ok hse.1 (c_La_meets hse.2 hc168) cm_La_meets cs_La_meets tw_707 ⟨rfl, rfl⟩ ⟨le_t rfl, le_t rfl⟩ ⟨rfl, le_t rfl⟩ ⟨(by show _ ≤ 7395; omega), (by show _ ≤ 44370; omega)⟩ ⟨trivial, ⟨(rk_of (rf_mono m160 (rf_mono m153 (rf_mono m143 (rf_mono m54 hk49))))), ⟨(rk_rl hn166), ⟨trivial, ⟨trivial, ⟨trivial, ⟨trivial, ⟨trivial, ⟨trivial, trivial⟩⟩⟩⟩⟩⟩⟩⟩⟩ trivial d_La_pathsHold_168 rfl (fun m167 => ?_)
            show G X s169 (((((ce0 + 1) + 1) + 1) + 1) + 1) (((((sl0 + 6) + 6) + 6) + 6) + 6) 171 [(4, vL x45), (0, vR a0), (1, vR a1), (2, vI a2), (3, vI a3), (7, vI a7), (8, vL a8), (10, vI a10), (11, vI a11)] [vL x170]
            refine g_lconst (v := (0 : Int64)) ok d_La_pathsHold_171 (by decide) ?_
            refine g_lcmp ok d_La_pathsHold_172 ?_
            refine g_if_ne (tgt := 180) ok d_La_pathsHold_173 (by decide) (fun c171 => ?_) (fun c171 => ?_)
            · replace h := (if_pos c171).symm.trans h
              refine g_iconst (v := (1 : Int32)) ok d_La_pathsHold_176 (by decide) ?_
              refine g_goto (tgt := 181) ok d_La_pathsHold_177 (by decide) ?_
              refine g_sub [1, 2, 3, 4, 0, 5, 6, 7, 8] rfl ?_
              exact w_j_La_pathsHold_181 ok hse (by omega) (by omega) hB1 hB2 hexit hrec (fun z hz => m167 z ((fun z hz => m160 z ((fun z hz => m153 z ((fun z hz => m143 z ((fun z hz => m54 z (mb z hz)) z hz)) z hz)) z hz)) z hz)) h hk
            · replace h := (if_neg c171).symm.trans h
              refine g_sub [1, 2, 3, 4, 0, 5, 6, 7, 8] rfl ?_
              exact w_j_La_pathsHold_180 ok hse (by omega) (by omega) hB1 hB2 hexit hrec (fun z hz => m167 z ((fun z hz => m160 z ((fun z hz => m153 z ((fun z hz => m143 z ((fun z hz => m54 z (mb z hz)) z hz)) z hz)) z hz)) z hz)) h hk
          · replace h := (if_neg c164).symm.trans h
            refine g_sub [1, 2, 3, 4, 0, 5, 6, 7, 8] rfl ?_
            exact w_j_La_pathsHold_180 ok hse (by omega) (by omega) hB1 hB2 hexit hrec (fun z hz => m160 z ((fun z hz => m153 z ((fun z hz => m143 z ((fun z hz => m54 z (mb z hz)) z hz)) z hz)) z hz)) h hk
        · replace h := (if_neg c157).symm.trans h
          refine g_sub [1, 2, 3, 4, 0, 5, 6, 7, 8] rfl ?_
          exact w_j_La_pathsHold_180 ok hse (by omega) (by omega) hB1 hB2 hexit hrec (fun z hz => m153 z ((fun z hz => m143 z ((fun z hz => m54 z (mb z hz)) z hz)) z hz)) h hk
  · replace h := (if_neg c47).symm.trans h
    refine g_sub [1, 2, 3, 4, 0, 5, 6, 7, 8] rfl ?_
    exact w_j_La_pathsHold_180 ok hse (by omega) (by omega) hB1 hB2 hexit hrec mb h hk
set_option maxRecDepth 100000 in
set_option maxHeartbeats 4000000 in
theorem w_b_La_pathsHold_33 {X : CX} {KX : Int64 × Int32 × MS → Prop}  {a0 : Option Nat} {a1 : Option Nat} {a2 : Int32} {a3 : Int32} {a4 : Int64} {a6 : Int32} {a7 : Int32} {s : MS} {rec : Int64 → Int32 → Int32 → MS → Option (Int64 × Int32 × MS)} {sb : MS} {ce0 sl0 cB sB : Nat} (ok : Ok X cL_pathsHold RL rm_La_pathsHold 14 true) (hse : SE X.2.2.2.1 X.1.2.2.2.2.1 ∧ X.1.2.1.stackTraces = false) (hc1 : ce0 + 176 ≤ cB) (hc2 : sl0 + 1056 ≤ sB) (hB1 : cB ≤ 7395) (hB2 : sB ≤ 44370) (hexit : ∀ (e4 : Int64) (e6 : Int32) (z : MS), KX (e4, e6, z) → (∀ q, dm sb q → dm z q) → G X z cB sB 356 [(0, vR a0), (4, vL e4), (6, vI e6)] []) (hrec : ∀ (v4 : Int64) (v6 : Int32) (v7 : Int32) (z : MS), (∀ q, dm sb q → dm z q) → ∀ y, rec v4 v6 v7 z = some y → KX y → G X z cB sB 33 [(0, vR a0), (1, vR a1), (2, vI a2), (3, vI a3), (4, vL v4), (6, vI v6), (7, vI v7)] []) (mb : ∀ q, dm sb q → dm s q) {res : Int64 × Int32 × MS} (h : b_La_pathsHold_33 a0 a1 a2 a3 a4 a6 a7 s rec = some res) (hk : KX res) : G X s ce0 sl0 33 [(0, vR a0), (1, vR a1), (2, vI a2), (3, vI a3), (4, vL a4), (6, vI a6), (7, vI a7)] [] := by
  unfold b_La_pathsHold_33 at h
  refine g_iload (i := 7) 6 ok d_La_pathsHold_33 rfl ?_
  refine g_iload_n (i := 3) 3 ok d_La_pathsHold_35 rfl rfl ?_
  refine g_icmp_ge (tgt := 356) ok d_La_pathsHold_36 (by decide) (fun c18 => ?_) (fun c18 => ?_)
  · replace h := (if_pos c18).symm.trans h
    refine g_iload (i := 6) 5 ok d_La_pathsHold_39 rfl ?_
    refine g_if_eq (tgt := 356) ok d_La_pathsHold_41 (by decide) (fun c19 => ?_) (fun c19 => ?_)
    · replace h := (if_pos c19).symm.trans h
      refine g_sub [0, 4, 5] rfl ?_
      refine g_widen (ce' := cB) (sl' := sB) (by omega) (by omega) ?_
      cases h
      exact hexit a4 a6 s hk mb
    · replace h := (if_neg c19).symm.trans h
      refine g_aload_n (i := 0) 0 ok d_La_pathsHold_44 rfl rfl ?_
      refine g_iload (i := 7) 6 ok d_La_pathsHold_45 rfl ?_
      refine g_iconst (v := (0 : Int32)) ok d_La_pathsHold_47 (by decide) ?_
      refine g_sub [0, 1, 2, 3, 4, 6] rfl ?_
      obtain ⟨k20, hk21, h⟩ := bnd_go h
      obtain ⟨n22, hn23, h⟩ := bnd_go h
      obtain ⟨x27, s26, hc25, h⟩ := bnd2_go h
      refine g_callW (rm2 := rm_La_ofPath) (As := [vR a0, vI a7, vI (0 : Int32)]) (rest := []) ok hse.1 (c_La_ofPath hse.2 hc25) cm_La_ofPath cs_La_ofPath tw_657 ⟨rfl, rfl⟩ ⟨le_t rfl, le_t rfl⟩ ⟨rfl, le_t rfl⟩ ⟨(by show _ ≤ 7395; omega), (by show _ ≤ 44370; omega)⟩ ⟨(rk_of hk21), ⟨(rk_rl hn23), ⟨trivial, ⟨trivial, ⟨trivial, ⟨trivial, trivial⟩⟩⟩⟩⟩⟩ trivial d_La_pathsHold_48 rfl (fun m24 => ?_)
      show G X s26 (ce0 + 1) (sl0 + 6) 51 [(0, vR a0), (1, vR a1), (2, vI a2), (3, vI a3), (4, vL a4), (7, vI a7)] [vL x27]
      refine g_lstore (i := 8) [(8, vL x27), (0, vR a0), (1, vR a1), (2, vI a2), (3, vI a3), (4, vL a4), (7, vI a7)] ok d_La_pathsHold_51 (by decide) rfl ?_
      refine g_aload_n (i := 0) 1 ok d_La_pathsHold_53 rfl rfl ?_
      refine g_iload (i := 7) 6 ok d_La_pathsHold_54 rfl ?_
      refine g_iconst (v := (2 : Int32)) ok d_La_pathsHold_56 (by decide) ?_
      obtain ⟨n28, hn29, h⟩ := bnd_go h
      obtain ⟨x33, s32, hc31, h⟩ := bnd2_go h
      refine g_callW (rm2 := rm_La_ofPath) (As := [vR a0, vI a7, vI (2 : Int32)]) (rest := []) ok hse.1 (c_La_ofPath hse.2 hc31) cm_La_ofPath cs_La_ofPath tw_657 ⟨rfl, rfl⟩ ⟨le_t rfl, le_t rfl⟩ ⟨rfl, le_t rfl⟩ ⟨(by show _ ≤ 7395; omega), (by show _ ≤ 44370; omega)⟩ ⟨trivial, ⟨(rk_of (rf_mono m24 hk21)), ⟨(rk_rl hn29), ⟨trivial, ⟨trivial, ⟨trivial, ⟨trivial, trivial⟩⟩⟩⟩⟩⟩⟩ trivial d_La_pathsHold_57 rfl (fun m30 => ?_)
      show G X s32 ((ce0 + 1) + 1) ((sl0 + 6) + 6) 60 [(8, vL x27), (0, vR a0), (1, vR a1), (2, vI a2), (3, vI a3), (4, vL a4), (7, vI a7)] [vL x33]
      refine g_l2i ok d_La_pathsHold_60 ?_
      obtain ⟨x34, e35⟩ : ∃ z, (Int64.toInt32 x33) = z := ⟨_, rfl⟩
      replace h := lt_go h e35
      rw [e35]
      refine g_istore (i := 10) [(10, vI x34), (8, vL x27), (0, vR a0), (1, vR a1), (2, vI a2), (3, vI a3), (4, vL a4), (7, vI a7)] ok d_La_pathsHold_61 (by decide) rfl ?_
      refine g_aload_n (i := 0) 2 ok d_La_pathsHold_63 rfl rfl ?_
      refine g_iload (i := 7) 7 ok d_La_pathsHold_64 rfl ?_
      refine g_iconst (v := (3 : Int32)) ok d_La_pathsHold_66 (by decide) ?_
      obtain ⟨n36, hn37, h⟩ := bnd_go h
      obtain ⟨x41, s40, hc39, h⟩ := bnd2_go h
      refine g_callW (rm2 := rm_La_ofPath) (As := [vR a0, vI a7, vI (3 : Int32)]) (rest := []) ok hse.1 (c_La_ofPath hse.2 hc39) cm_La_ofPath cs_La_ofPath tw_657 ⟨rfl, rfl⟩ ⟨le_t rfl, le_t rfl⟩ ⟨rfl, le_t rfl⟩ ⟨(by show _ ≤ 7395; omega), (by show _ ≤ 44370; omega)⟩ ⟨trivial, ⟨trivial, ⟨(rk_of (rf_mono m30 (rf_mono m24 hk21))), ⟨(rk_rl hn37), ⟨trivial, ⟨trivial, ⟨trivial, ⟨trivial, trivial⟩⟩⟩⟩⟩⟩⟩⟩ trivial d_La_pathsHold_67 rfl (fun m38 => ?_)
      show G X s40 (((ce0 + 1) + 1) + 1) (((sl0 + 6) + 6) + 6) 70 [(10, vI x34), (8, vL x27), (0, vR a0), (1, vR a1), (2, vI a2), (3, vI a3), (4, vL a4), (7, vI a7)] [vL x41]
      refine g_l2i ok d_La_pathsHold_70 ?_
      obtain ⟨x42, e43⟩ : ∃ z, (Int64.toInt32 x41) = z := ⟨_, rfl⟩
      replace h := lt_go h e43
      rw [e43]
      refine g_istore (i := 11) [(11, vI x42), (10, vI x34), (8, vL x27), (0, vR a0), (1, vR a1), (2, vI a2), (3, vI a3), (4, vL a4), (7, vI a7)] ok d_La_pathsHold_71 (by decide) rfl ?_
      refine g_lload (i := 4) 7 ok d_La_pathsHold_73 rfl ?_
      refine g_lload (i := 8) 2 ok d_La_pathsHold_75 rfl ?_
      refine g_ldc2 (v := (3 : Int64)) ok d_La_pathsHold_77 tw_687 ?_
      refine g_lcmp ok d_La_pathsHold_80 ?_
      refine g_if_ne (tgt := 88) ok d_La_pathsHold_81 (by decide) (fun c44 => ?_) (fun c44 => ?_)
      · replace h := (if_pos c44).symm.trans h
        refine g_lconst (v := (1 : Int64)) ok d_La_pathsHold_84 (by decide) ?_
        refine g_goto (tgt := 89) ok d_La_pathsHold_85 (by decide) ?_
        refine g_sub [3, 4, 5, 6, 8, 2, 1, 0] rfl ?_
        exact w_j_La_pathsHold_89 ok hse (by omega) (by omega) hB1 hB2 hexit hrec (fun z hz => m38 z ((fun z hz => m30 z ((fun z hz => m24 z (mb z hz)) z hz)) z hz)) h hk
      · replace h := (if_neg c44).symm.trans h
        refine g_lconst (v := (0 : Int64)) ok d_La_pathsHold_88 (by decide) ?_
        refine g_sub [3, 4, 5, 6, 8, 2, 1, 0] rfl ?_
        exact w_j_La_pathsHold_89 ok hse (by omega) (by omega) hB1 hB2 hexit hrec (fun z hz => m38 z ((fun z hz => m30 z ((fun z hz => m24 z (mb z hz)) z hz)) z hz)) h hk
  · replace h := (if_neg c18).symm.trans h
    refine g_sub [0, 4, 5] rfl ?_
    refine g_widen (ce' := cB) (sl' := sB) (by omega) (by omega) ?_
    cases h
    exact hexit a4 a6 s hk mb
set_option maxHeartbeats 4000000 in
theorem wx_l_La_pathsHold_33 {X : CX} {KX : Int64 × Int32 × MS → Prop} {a0 : Option Nat} {a1 : Option Nat} {a2 : Int32} {a3 : Int32} {sb : MS} {c0 d0 : Nat} (ok : Ok X cL_pathsHold RL rm_La_pathsHold 14 true) (hse : SE X.2.2.2.1 X.1.2.2.2.2.1 ∧ X.1.2.1.stackTraces = false) (hc1 : c0 + 7392 ≤ 7395) (hc2 : d0 + 44352 ≤ 44370) (hexit : ∀ (e4 : Int64) (e6 : Int32) (z : MS), KX (e4, e6, z) → (∀ q, dm sb q → dm z q) → G X z (c0 + 7392) (d0 + 44352) 356 [(0, vR a0), (4, vL e4), (6, vI e6)] []) : ∀ (n : Nat), n ≤ 42 → ∀ (a4 : Int64) (a6 : Int32) (a7 : Int32) (s : MS), (∀ q, dm sb q → dm s q) → ∀ (res : Int64 × Int32 × MS), l_La_pathsHold_33 a0 a1 a2 a3 n a4 a6 a7 s = some res → KX res → G X s (c0 + (42 - n) * 176) (d0 + (42 - n) * 1056) 33 [(0, vR a0), (1, vR a1), (2, vI a2), (3, vI a3), (4, vL a4), (6, vI a6), (7, vI a7)] [] := by
  intro n
  induction n with
  | zero => intro _ _ _ _ s _ res h; cases h
  | succ n ih =>
    intro hn a4 a6 a7 s mb res h hk
    exact w_b_La_pathsHold_33 (cB := c0 + (42 - n) * 176) (sB := d0 + (42 - n) * 1056) ok hse (by omega) (by omega) (by omega) (by omega) (fun e4 e6 z k1 k2 => g_widen (by omega) (by omega) (hexit e4 e6 z k1 k2)) (fun v4 v6 v7 z hz y h2 hk2 => ih (by omega) v4 v6 v7 z hz y h2 hk2) mb h hk
theorem w_l_La_pathsHold_33 {X : CX} {KX : Int64 × Int32 × MS → Prop} {a0 : Option Nat} {a1 : Option Nat} {a2 : Int32} {a3 : Int32} {sb : MS} {c0 d0 : Nat} (ok : Ok X cL_pathsHold RL rm_La_pathsHold 14 true) (hse : SE X.2.2.2.1 X.1.2.2.2.2.1 ∧ X.1.2.1.stackTraces = false) (hc1 : c0 + 7392 ≤ 7395) (hc2 : d0 + 44352 ≤ 44370) (hexit : ∀ (e4 : Int64) (e6 : Int32) (z : MS), KX (e4, e6, z) → (∀ q, dm sb q → dm z q) → G X z (c0 + 7392) (d0 + 44352) 356 [(0, vR a0), (4, vL e4), (6, vI e6)] []) (a4 : Int64) (a6 : Int32) (a7 : Int32) {res : Int64 × Int32 × MS} (h : l_La_pathsHold_33 a0 a1 a2 a3 42 a4 a6 a7 sb = some res) (hk : KX res) : G X sb c0 d0 33 [(0, vR a0), (1, vR a1), (2, vI a2), (3, vI a3), (4, vL a4), (6, vI a6), (7, vI a7)] [] := by
  have q := wx_l_La_pathsHold_33 ok hse hc1 hc2 hexit 42 (Nat.le_refl _) a4 a6 a7 sb (fun _ hz => hz) res h hk
  simp only [Nat.sub_self, Nat.zero_mul, Nat.add_zero] at q
  exact q
set_option maxRecDepth 100000 in
set_option maxHeartbeats 4000000 in
theorem w_j_La_pathsHold_28 {X : CX} {KX : Int32 × MS → Prop}  {a0 : Option Nat} {a1 : Option Nat} {a2 : Int32} {a3 : Int32} {a4 : Int64} {t0 : Int32} {s : MS} {ce0 sl0 : Nat} (ok : Ok X cL_pathsHold RL rm_La_pathsHold 14 true) (hse : SE X.2.2.2.1 X.1.2.2.2.2.1 ∧ X.1.2.1.stackTraces = false) (hret : ∀ r : Int32 × MS, KX r → Fix X (some .boolean) 7395 44370 true none (some (vI r.1)) r.2) (hc1 : ce0 + 7393 ≤ 7395) (hc2 : sl0 + 44358 ≤ 44370) {res : Int32 × MS} (h : j_La_pathsHold_28 a0 a1 a2 a3 a4 t0 s = some res) (hk : KX res) : G X s ce0 sl0 28 [(0, vR a0), (1, vR a1), (2, vI a2), (3, vI a3), (4, vL a4)] [vI t0] := by
  unfold j_La_pathsHold_28 at h
  refine g_istore (i := 6) [(6, vI t0), (0, vR a0), (1, vR a1), (2, vI a2), (3, vI a3), (4, vL a4)] ok d_La_pathsHold_28 (by decide) rfl ?_
  refine g_iconst (v := (0 : Int32)) ok d_La_pathsHold_30 (by decide) ?_
  refine g_istore (i := 7) [(7, vI (0 : Int32)), (6, vI t0), (0, vR a0), (1, vR a1), (2, vI a2), (3, vI a3), (4, vL a4)] ok d_La_pathsHold_31 (by decide) rfl ?_
  refine g_sub [2, 3, 4, 5, 6, 1, 0] rfl ?_
  obtain ⟨e172, e173, s175, hx, h⟩ := bnd3_go h
  refine w_l_La_pathsHold_33 (KX := fun y => y = (e172, e173, s175)) (c0 := ce0) (d0 := sl0) ok hse (by omega) (by omega) (fun y0 y1 y2 he m174 => ?_) _ _ _ hx rfl
  cases he
  refine g_iload (i := 6) 2 ok d_La_pathsHold_356 rfl ?_
  refine g_if_eq (tgt := 376) ok d_La_pathsHold_358 (by decide) (fun c176 => ?_) (fun c176 => ?_)
  · replace h := (if_pos c176).symm.trans h
    refine g_iconst (v := (0 : Int32)) ok d_La_pathsHold_376 (by decide) ?_
    cases h
    exact g_zretX ok (hret _ hk) (Or.inl rfl) (by omega) (by omega) d_La_pathsHold_377
  · replace h := (if_neg c176).symm.trans h
    refine g_aload_n (i := 0) 0 ok d_La_pathsHold_361 rfl rfl ?_
    refine g_iconst (v := (2 : Int32)) ok d_La_pathsHold_362 (by decide) ?_
    refine g_sub [1] rfl ?_
    obtain ⟨x180, s179, hc178, h⟩ := bnd2_go h
    refine g_callW (rm2 := rm_La_count) (As := [vR a0, vI (2 : Int32)]) (rest := []) ok hse.1 (c_La_count hse.2 hc178) cm_La_count cs_La_count tw_665 ⟨rfl, rfl⟩ ⟨le_t rfl, le_t rfl⟩ ⟨rfl, le_t rfl⟩ ⟨(by show _ ≤ 7395; omega), (by show _ ≤ 44370; omega)⟩ ⟨trivial, trivial⟩ trivial d_La_pathsHold_363 rfl (fun m177 => ?_)
    show G X s179 ((ce0 + 7392) + 1) ((sl0 + 44352) + 6) 366 [(4, vL e172)] [vL x180]
    refine g_lload (i := 4) 0 ok d_La_pathsHold_366 rfl ?_
    refine g_lcmp ok d_La_pathsHold_368 ?_
    refine g_if_ne (tgt := 376) ok d_La_pathsHold_369 (by decide) (fun c181 => ?_) (fun c181 => ?_)
    · replace h := (if_pos c181).symm.trans h
      refine g_iconst (v := (1 : Int32)) ok d_La_pathsHold_372 (by decide) ?_
      refine g_goto (tgt := 377) ok d_La_pathsHold_373 (by decide) ?_
      cases h
      exact g_zretX ok (hret _ hk) (Or.inr rfl) (by omega) (by omega) d_La_pathsHold_377
    · replace h := (if_neg c181).symm.trans h
      refine g_iconst (v := (0 : Int32)) ok d_La_pathsHold_376 (by decide) ?_
      cases h
      exact g_zretX ok (hret _ hk) (Or.inl rfl) (by omega) (by omega) d_La_pathsHold_377
set_option maxRecDepth 100000 in
set_option maxHeartbeats 4000000 in
theorem w_La_pathsHold {X : CX} {KX : Int32 × MS → Prop} {a0 : Option Nat} {a1 : Option Nat} {a2 : Int32} {s : MS} (ok : Ok X cL_pathsHold RL rm_La_pathsHold 14 true)  (hret : ∀ r : Int32 × MS, KX r → Fix X (some .boolean) 7395 44370 true none (some (vI r.1)) r.2) {res : Int32 × MS} (h : f_La_pathsHold a0 a1 a2 s = some res) (hk : KX res) : G X s 0 0 0 [(0, vR a0), (1, vR a1), (2, vI a2)] [] := by
  have hse : SE X.2.2.2.1 X.1.2.2.2.2.1 ∧ X.1.2.1.stackTraces = false := ⟨(hret _ hk).2.2.2.2.1, (hret _ hk).2.2.2.1⟩
  unfold f_La_pathsHold at h
  refine g_aload_n (i := 0) 0 ok d_La_pathsHold_0 rfl rfl ?_
  refine g_iconst (v := (0 : Int32)) ok d_La_pathsHold_1 (by decide) ?_
  obtain ⟨k1, hk2, h⟩ := bnd_go h
  obtain ⟨n3, hn4, h⟩ := bnd_go h
  obtain ⟨x8, s7, hc6, h⟩ := bnd2_go h
  refine g_callW (rm2 := rm_La_count) (As := [vR a0, vI (0 : Int32)]) (rest := []) ok hse.1 (c_La_count hse.2 hc6) cm_La_count cs_La_count tw_665 ⟨rfl, rfl⟩ ⟨le_t rfl, le_t rfl⟩ ⟨rfl, le_t rfl⟩ ⟨(by show _ ≤ 7395; omega), (by show _ ≤ 44370; omega)⟩ ⟨(rk_of hk2), ⟨(rk_rl hn4), ⟨trivial, trivial⟩⟩⟩ trivial d_La_pathsHold_2 rfl (fun m5 => ?_)
  show G X s7 (0 + 1) (0 + 6) 5 [(0, vR a0), (1, vR a1), (2, vI a2)] [vL x8]
  refine g_l2i ok d_La_pathsHold_5 ?_
  obtain ⟨x9, e10⟩ : ∃ z, (Int64.toInt32 x8) = z := ⟨_, rfl⟩
  replace h := lt_go h e10
  rw [e10]
  refine g_istore_n (i := 3) [(3, vI x9), (0, vR a0), (1, vR a1), (2, vI a2)] ok d_La_pathsHold_6 rfl (by decide) rfl ?_
  refine g_lconst (v := (0 : Int64)) ok d_La_pathsHold_7 (by decide) ?_
  refine g_lstore (i := 4) [(4, vL (0 : Int64)), (3, vI x9), (0, vR a0), (1, vR a1), (2, vI a2)] ok d_La_pathsHold_8 (by decide) rfl ?_
  refine g_aload_n (i := 0) 2 ok d_La_pathsHold_10 rfl rfl ?_
  refine g_iload_n (i := 3) 1 ok d_La_pathsHold_11 rfl rfl ?_
  refine g_iconst (v := (0 : Int32)) ok d_La_pathsHold_12 (by decide) ?_
  obtain ⟨n11, hn12, h⟩ := bnd_go h
  obtain ⟨x16, s15, hc14, h⟩ := bnd2_go h
  refine g_callW (rm2 := rm_La_ofPath) (As := [vR a0, vI x9, vI (0 : Int32)]) (rest := []) ok hse.1 (c_La_ofPath hse.2 hc14) cm_La_ofPath cs_La_ofPath tw_657 ⟨rfl, rfl⟩ ⟨le_t rfl, le_t rfl⟩ ⟨rfl, le_t rfl⟩ ⟨(by show _ ≤ 7395; omega), (by show _ ≤ 44370; omega)⟩ ⟨trivial, ⟨trivial, ⟨(rk_of (rf_mono m5 hk2)), ⟨(rk_rl hn12), ⟨trivial, trivial⟩⟩⟩⟩⟩ trivial d_La_pathsHold_13 rfl (fun m13 => ?_)
  show G X s15 ((0 + 1) + 1) ((0 + 6) + 6) 16 [(4, vL (0 : Int64)), (3, vI x9), (0, vR a0), (1, vR a1), (2, vI a2)] [vL x16]
  refine g_ldc2 (v := (-9000000000000000001 : Int64)) ok d_La_pathsHold_16 tw_315 ?_
  refine g_lcmp ok d_La_pathsHold_19 ?_
  refine g_if_ne (tgt := 27) ok d_La_pathsHold_20 (by decide) (fun c17 => ?_) (fun c17 => ?_)
  · replace h := (if_pos c17).symm.trans h
    refine g_iconst (v := (1 : Int32)) ok d_La_pathsHold_23 (by decide) ?_
    refine g_goto (tgt := 28) ok d_La_pathsHold_24 (by decide) ?_
    refine g_sub [2, 3, 4, 1, 0] rfl ?_
    exact w_j_La_pathsHold_28 ok hse hret (by omega) (by omega) h hk
  · replace h := (if_neg c17).symm.trans h
    refine g_iconst (v := (0 : Int32)) ok d_La_pathsHold_27 (by decide) ?_
    refine g_sub [2, 3, 4, 1, 0] rfl ?_
    exact w_j_La_pathsHold_28 ok hse hret (by omega) (by omega) h hk
theorem c_La_pathsHold {l : Launch} (hl : l.stackTraces = false) {a0 : Option Nat} {a1 : Option Nat} {a2 : Int32} {s : MS} {r : Int32} {z : MS} (h : f_La_pathsHold a0 a1 a2 s = some (r, z)) : Cx l yL_pathsHold (.code yL_pathsHold cL_pathsHold 14 (some .boolean)) rm_La_pathsHold 7395 44370 true [vR a0, vR a1, vI a2] s none (some (vI r)) z :=
  Cx.of hl rfl (by decide +kernel) ⟨rfl, le_t rfl⟩ (fun X ok fn _ _ => w_La_pathsHold (KX := fun y => y = (r, z)) ok (fun y hy => by subst hy; exact fn) h rfl)
abbrev rm_La_refuses : Room := { frames := 8, cells := 48, slots := 601, locals := 190 }
theorem cm_La_refuses : cfM yL_refuses cL_refuses 5 (some .boolean) 1 := ⟨tw_730, tw_0, by decide, by decide, by decide +kernel⟩
theorem cs_La_refuses : cfS yL_refuses := tw_729
theorem d_La_refuses_0 : decode cL_refuses 0 = .ok (.aload_n 0, 1) := by decide +kernel
theorem d_La_refuses_1 : decode cL_refuses 1 = .ok (.invokevirtual 111, 3) := by decide +kernel
theorem d_La_refuses_4 : decode cL_refuses 4 = .ok (.istore_n 1, 1) := by decide +kernel
theorem d_La_refuses_5 : decode cL_refuses 5 = .ok (.aload_n 0, 1) := by decide +kernel
theorem d_La_refuses_6 : decode cL_refuses 6 = .ok (.iconst 1, 1) := by decide +kernel
theorem d_La_refuses_7 : decode cL_refuses 7 = .ok (.invokestatic 120, 3) := by decide +kernel
theorem d_La_refuses_10 : decode cL_refuses 10 = .ok (.lstore_n 2, 1) := by decide +kernel
theorem d_La_refuses_11 : decode cL_refuses 11 = .ok (.aload_n 0, 1) := by decide +kernel
theorem d_La_refuses_12 : decode cL_refuses 12 = .ok (.bipush 100, 2) := by decide +kernel
theorem d_La_refuses_14 : decode cL_refuses 14 = .ok (.iconst 0, 1) := by decide +kernel
theorem d_La_refuses_15 : decode cL_refuses 15 = .ok (.invokestatic 126, 3) := by decide +kernel
theorem d_La_refuses_18 : decode cL_refuses 18 = .ok (.ldc2_w 17, 3) := by decide +kernel
theorem d_La_refuses_21 : decode cL_refuses 21 = .ok (.lcmp, 1) := by decide +kernel
theorem d_La_refuses_22 : decode cL_refuses 22 = .ok (.ifCond .ne 234, 3) := by decide +kernel
theorem d_La_refuses_25 : decode cL_refuses 25 = .ok (.aload_n 0, 1) := by decide +kernel
theorem d_La_refuses_26 : decode cL_refuses 26 = .ok (.iconst 0, 1) := by decide +kernel
theorem d_La_refuses_27 : decode cL_refuses 27 = .ok (.iconst 4, 1) := by decide +kernel
theorem d_La_refuses_28 : decode cL_refuses 28 = .ok (.invokestatic 126, 3) := by decide +kernel
theorem d_La_refuses_31 : decode cL_refuses 31 = .ok (.ldc2_w 21, 3) := by decide +kernel
theorem d_La_refuses_34 : decode cL_refuses 34 = .ok (.lcmp, 1) := by decide +kernel
theorem d_La_refuses_35 : decode cL_refuses 35 = .ok (.ifCond .ne 221, 3) := by decide +kernel
theorem d_La_refuses_38 : decode cL_refuses 38 = .ok (.aload_n 0, 1) := by decide +kernel
theorem d_La_refuses_39 : decode cL_refuses 39 = .ok (.iconst (-1), 1) := by decide +kernel
theorem d_La_refuses_40 : decode cL_refuses 40 = .ok (.invokestatic 128, 3) := by decide +kernel
theorem d_La_refuses_43 : decode cL_refuses 43 = .ok (.ldc2_w 17, 3) := by decide +kernel
theorem d_La_refuses_46 : decode cL_refuses 46 = .ok (.lcmp, 1) := by decide +kernel
theorem d_La_refuses_47 : decode cL_refuses 47 = .ok (.ifCond .ne 209, 3) := by decide +kernel
theorem d_La_refuses_50 : decode cL_refuses 50 = .ok (.aload_n 0, 1) := by decide +kernel
theorem d_La_refuses_51 : decode cL_refuses 51 = .ok (.iconst 4, 1) := by decide +kernel
theorem d_La_refuses_52 : decode cL_refuses 52 = .ok (.iconst 0, 1) := by decide +kernel
theorem d_La_refuses_53 : decode cL_refuses 53 = .ok (.invokestatic 130, 3) := by decide +kernel
theorem d_La_refuses_56 : decode cL_refuses 56 = .ok (.ldc2_w 21, 3) := by decide +kernel
theorem d_La_refuses_59 : decode cL_refuses 59 = .ok (.lcmp, 1) := by decide +kernel
theorem d_La_refuses_60 : decode cL_refuses 60 = .ok (.ifCond .ne 196, 3) := by decide +kernel
theorem d_La_refuses_63 : decode cL_refuses 63 = .ok (.aload_n 0, 1) := by decide +kernel
theorem d_La_refuses_64 : decode cL_refuses 64 = .ok (.iconst 1, 1) := by decide +kernel
theorem d_La_refuses_65 : decode cL_refuses 65 = .ok (.iconst 4, 1) := by decide +kernel
theorem d_La_refuses_66 : decode cL_refuses 66 = .ok (.invokestatic 130, 3) := by decide +kernel
theorem d_La_refuses_69 : decode cL_refuses 69 = .ok (.ldc2_w 21, 3) := by decide +kernel
theorem d_La_refuses_72 : decode cL_refuses 72 = .ok (.lcmp, 1) := by decide +kernel
theorem d_La_refuses_73 : decode cL_refuses 73 = .ok (.ifCond .ne 183, 3) := by decide +kernel
theorem d_La_refuses_76 : decode cL_refuses 76 = .ok (.aload_n 0, 1) := by decide +kernel
theorem d_La_refuses_77 : decode cL_refuses 77 = .ok (.iconst 0, 1) := by decide +kernel
theorem d_La_refuses_78 : decode cL_refuses 78 = .ok (.iconst 0, 1) := by decide +kernel
theorem d_La_refuses_79 : decode cL_refuses 79 = .ok (.invokestatic 132, 3) := by decide +kernel
theorem d_La_refuses_82 : decode cL_refuses 82 = .ok (.ldc2_w 21, 3) := by decide +kernel
theorem d_La_refuses_85 : decode cL_refuses 85 = .ok (.lcmp, 1) := by decide +kernel
theorem d_La_refuses_86 : decode cL_refuses 86 = .ok (.ifCond .ne 170, 3) := by decide +kernel
theorem d_La_refuses_89 : decode cL_refuses 89 = .ok (.aload_n 0, 1) := by decide +kernel
theorem d_La_refuses_90 : decode cL_refuses 90 = .ok (.iconst 1, 1) := by decide +kernel
theorem d_La_refuses_91 : decode cL_refuses 91 = .ok (.bipush 6, 2) := by decide +kernel
theorem d_La_refuses_93 : decode cL_refuses 93 = .ok (.invokestatic 132, 3) := by decide +kernel
theorem d_La_refuses_96 : decode cL_refuses 96 = .ok (.ldc2_w 21, 3) := by decide +kernel
theorem d_La_refuses_99 : decode cL_refuses 99 = .ok (.lcmp, 1) := by decide +kernel
theorem d_La_refuses_100 : decode cL_refuses 100 = .ok (.ifCond .ne 156, 3) := by decide +kernel
theorem d_La_refuses_103 : decode cL_refuses 103 = .ok (.aload_n 0, 1) := by decide +kernel
theorem d_La_refuses_104 : decode cL_refuses 104 = .ok (.bipush 100, 2) := by decide +kernel
theorem d_La_refuses_106 : decode cL_refuses 106 = .ok (.iconst 0, 1) := by decide +kernel
theorem d_La_refuses_107 : decode cL_refuses 107 = .ok (.iconst 1, 1) := by decide +kernel
theorem d_La_refuses_108 : decode cL_refuses 108 = .ok (.iconst 0, 1) := by decide +kernel
theorem d_La_refuses_109 : decode cL_refuses 109 = .ok (.iconst 0, 1) := by decide +kernel
theorem d_La_refuses_110 : decode cL_refuses 110 = .ok (.invokestatic 134, 3) := by decide +kernel
theorem d_La_refuses_113 : decode cL_refuses 113 = .ok (.ldc2_w 17, 3) := by decide +kernel
theorem d_La_refuses_116 : decode cL_refuses 116 = .ok (.lcmp, 1) := by decide +kernel
theorem d_La_refuses_117 : decode cL_refuses 117 = .ok (.ifCond .ne 139, 3) := by decide +kernel
theorem d_La_refuses_120 : decode cL_refuses 120 = .ok (.aload_n 0, 1) := by decide +kernel
theorem d_La_refuses_121 : decode cL_refuses 121 = .ok (.iconst 0, 1) := by decide +kernel
theorem d_La_refuses_122 : decode cL_refuses 122 = .ok (.iconst 0, 1) := by decide +kernel
theorem d_La_refuses_123 : decode cL_refuses 123 = .ok (.iconst 4, 1) := by decide +kernel
theorem d_La_refuses_124 : decode cL_refuses 124 = .ok (.iconst 0, 1) := by decide +kernel
theorem d_La_refuses_125 : decode cL_refuses 125 = .ok (.iconst 0, 1) := by decide +kernel
theorem d_La_refuses_126 : decode cL_refuses 126 = .ok (.invokestatic 134, 3) := by decide +kernel
theorem d_La_refuses_129 : decode cL_refuses 129 = .ok (.ldc2_w 21, 3) := by decide +kernel
theorem d_La_refuses_132 : decode cL_refuses 132 = .ok (.lcmp, 1) := by decide +kernel
theorem d_La_refuses_133 : decode cL_refuses 133 = .ok (.ifCond .ne 123, 3) := by decide +kernel
theorem d_La_refuses_136 : decode cL_refuses 136 = .ok (.aload_n 0, 1) := by decide +kernel
theorem d_La_refuses_137 : decode cL_refuses 137 = .ok (.iconst 0, 1) := by decide +kernel
theorem d_La_refuses_138 : decode cL_refuses 138 = .ok (.iconst 0, 1) := by decide +kernel
theorem d_La_refuses_139 : decode cL_refuses 139 = .ok (.iconst 1, 1) := by decide +kernel
theorem d_La_refuses_140 : decode cL_refuses 140 = .ok (.iconst 5, 1) := by decide +kernel
theorem d_La_refuses_141 : decode cL_refuses 141 = .ok (.iconst 4, 1) := by decide +kernel
theorem d_La_refuses_142 : decode cL_refuses 142 = .ok (.invokestatic 134, 3) := by decide +kernel
theorem d_La_refuses_145 : decode cL_refuses 145 = .ok (.ldc2_w 21, 3) := by decide +kernel
theorem d_La_refuses_148 : decode cL_refuses 148 = .ok (.lcmp, 1) := by decide +kernel
theorem d_La_refuses_149 : decode cL_refuses 149 = .ok (.ifCond .ne 107, 3) := by decide +kernel
theorem d_La_refuses_152 : decode cL_refuses 152 = .ok (.aload_n 0, 1) := by decide +kernel
theorem d_La_refuses_153 : decode cL_refuses 153 = .ok (.bipush 10, 2) := by decide +kernel
theorem d_La_refuses_155 : decode cL_refuses 155 = .ok (.invokestatic 137, 3) := by decide +kernel
theorem d_La_refuses_158 : decode cL_refuses 158 = .ok (.ldc2_w 17, 3) := by decide +kernel
theorem d_La_refuses_161 : decode cL_refuses 161 = .ok (.lcmp, 1) := by decide +kernel
theorem d_La_refuses_162 : decode cL_refuses 162 = .ok (.ifCond .ne 94, 3) := by decide +kernel
theorem d_La_refuses_165 : decode cL_refuses 165 = .ok (.aload_n 0, 1) := by decide +kernel
theorem d_La_refuses_166 : decode cL_refuses 166 = .ok (.iconst 0, 1) := by decide +kernel
theorem d_La_refuses_167 : decode cL_refuses 167 = .ok (.iconst (-1), 1) := by decide +kernel
theorem d_La_refuses_168 : decode cL_refuses 168 = .ok (.bipush 20, 2) := by decide +kernel
theorem d_La_refuses_170 : decode cL_refuses 170 = .ok (.invokestatic 139, 3) := by decide +kernel
theorem d_La_refuses_173 : decode cL_refuses 173 = .ok (.ldc2_w 17, 3) := by decide +kernel
theorem d_La_refuses_176 : decode cL_refuses 176 = .ok (.lcmp, 1) := by decide +kernel
theorem d_La_refuses_177 : decode cL_refuses 177 = .ok (.ifCond .ne 79, 3) := by decide +kernel
theorem d_La_refuses_180 : decode cL_refuses 180 = .ok (.aload_n 0, 1) := by decide +kernel
theorem d_La_refuses_181 : decode cL_refuses 181 = .ok (.iconst 4, 1) := by decide +kernel
theorem d_La_refuses_182 : decode cL_refuses 182 = .ok (.iconst 0, 1) := by decide +kernel
theorem d_La_refuses_183 : decode cL_refuses 183 = .ok (.bipush 20, 2) := by decide +kernel
theorem d_La_refuses_185 : decode cL_refuses 185 = .ok (.invokestatic 139, 3) := by decide +kernel
theorem d_La_refuses_188 : decode cL_refuses 188 = .ok (.ldc2_w 21, 3) := by decide +kernel
theorem d_La_refuses_191 : decode cL_refuses 191 = .ok (.lcmp, 1) := by decide +kernel
theorem d_La_refuses_192 : decode cL_refuses 192 = .ok (.ifCond .ne 64, 3) := by decide +kernel
theorem d_La_refuses_195 : decode cL_refuses 195 = .ok (.aload_n 0, 1) := by decide +kernel
theorem d_La_refuses_196 : decode cL_refuses 196 = .ok (.iconst 0, 1) := by decide +kernel
theorem d_La_refuses_197 : decode cL_refuses 197 = .ok (.iconst 0, 1) := by decide +kernel
theorem d_La_refuses_198 : decode cL_refuses 198 = .ok (.sipush 201, 3) := by decide +kernel
theorem d_La_refuses_201 : decode cL_refuses 201 = .ok (.invokestatic 139, 3) := by decide +kernel
theorem d_La_refuses_204 : decode cL_refuses 204 = .ok (.ldc2_w 21, 3) := by decide +kernel
theorem d_La_refuses_207 : decode cL_refuses 207 = .ok (.lcmp, 1) := by decide +kernel
theorem d_La_refuses_208 : decode cL_refuses 208 = .ok (.ifCond .ne 48, 3) := by decide +kernel
theorem d_La_refuses_211 : decode cL_refuses 211 = .ok (.aload_n 0, 1) := by decide +kernel
theorem d_La_refuses_212 : decode cL_refuses 212 = .ok (.bipush 7, 2) := by decide +kernel
theorem d_La_refuses_214 : decode cL_refuses 214 = .ok (.iconst 1, 1) := by decide +kernel
theorem d_La_refuses_215 : decode cL_refuses 215 = .ok (.invokestatic 142, 3) := by decide +kernel
theorem d_La_refuses_218 : decode cL_refuses 218 = .ok (.ldc2_w 21, 3) := by decide +kernel
theorem d_La_refuses_221 : decode cL_refuses 221 = .ok (.lcmp, 1) := by decide +kernel
theorem d_La_refuses_222 : decode cL_refuses 222 = .ok (.ifCond .ne 34, 3) := by decide +kernel
theorem d_La_refuses_225 : decode cL_refuses 225 = .ok (.aload_n 0, 1) := by decide +kernel
theorem d_La_refuses_226 : decode cL_refuses 226 = .ok (.iconst 0, 1) := by decide +kernel
theorem d_La_refuses_227 : decode cL_refuses 227 = .ok (.bipush 11, 2) := by decide +kernel
theorem d_La_refuses_229 : decode cL_refuses 229 = .ok (.invokestatic 142, 3) := by decide +kernel
theorem d_La_refuses_232 : decode cL_refuses 232 = .ok (.ldc2_w 21, 3) := by decide +kernel
theorem d_La_refuses_235 : decode cL_refuses 235 = .ok (.lcmp, 1) := by decide +kernel
theorem d_La_refuses_236 : decode cL_refuses 236 = .ok (.ifCond .ne 20, 3) := by decide +kernel
theorem d_La_refuses_239 : decode cL_refuses 239 = .ok (.aload_n 0, 1) := by decide +kernel
theorem d_La_refuses_240 : decode cL_refuses 240 = .ok (.bipush 10, 2) := by decide +kernel
theorem d_La_refuses_242 : decode cL_refuses 242 = .ok (.invokestatic 117, 3) := by decide +kernel
theorem d_La_refuses_245 : decode cL_refuses 245 = .ok (.ldc2_w 17, 3) := by decide +kernel
theorem d_La_refuses_248 : decode cL_refuses 248 = .ok (.lcmp, 1) := by decide +kernel
theorem d_La_refuses_249 : decode cL_refuses 249 = .ok (.ifCond .ne 7, 3) := by decide +kernel
theorem d_La_refuses_252 : decode cL_refuses 252 = .ok (.iconst 1, 1) := by decide +kernel
theorem d_La_refuses_253 : decode cL_refuses 253 = .ok (.goto 4, 3) := by decide +kernel
theorem d_La_refuses_256 : decode cL_refuses 256 = .ok (.iconst 0, 1) := by decide +kernel
theorem d_La_refuses_257 : decode cL_refuses 257 = .ok (.istore 4, 2) := by decide +kernel
theorem d_La_refuses_259 : decode cL_refuses 259 = .ok (.iload 4, 2) := by decide +kernel
theorem d_La_refuses_261 : decode cL_refuses 261 = .ok (.ifCond .eq 232, 3) := by decide +kernel
theorem d_La_refuses_264 : decode cL_refuses 264 = .ok (.aload_n 0, 1) := by decide +kernel
theorem d_La_refuses_265 : decode cL_refuses 265 = .ok (.bipush 10, 2) := by decide +kernel
theorem d_La_refuses_267 : decode cL_refuses 267 = .ok (.iconst 0, 1) := by decide +kernel
theorem d_La_refuses_268 : decode cL_refuses 268 = .ok (.iconst 0, 1) := by decide +kernel
theorem d_La_refuses_269 : decode cL_refuses 269 = .ok (.invokestatic 144, 3) := by decide +kernel
theorem d_La_refuses_272 : decode cL_refuses 272 = .ok (.ldc2_w 17, 3) := by decide +kernel
theorem d_La_refuses_275 : decode cL_refuses 275 = .ok (.lcmp, 1) := by decide +kernel
theorem d_La_refuses_276 : decode cL_refuses 276 = .ok (.ifCond .ne 217, 3) := by decide +kernel
theorem d_La_refuses_279 : decode cL_refuses 279 = .ok (.aload_n 0, 1) := by decide +kernel
theorem d_La_refuses_280 : decode cL_refuses 280 = .ok (.iconst 0, 1) := by decide +kernel
theorem d_La_refuses_281 : decode cL_refuses 281 = .ok (.iload_n 1, 1) := by decide +kernel
theorem d_La_refuses_282 : decode cL_refuses 282 = .ok (.iconst 0, 1) := by decide +kernel
theorem d_La_refuses_283 : decode cL_refuses 283 = .ok (.invokestatic 144, 3) := by decide +kernel
theorem d_La_refuses_286 : decode cL_refuses 286 = .ok (.ldc2_w 21, 3) := by decide +kernel
theorem d_La_refuses_289 : decode cL_refuses 289 = .ok (.lcmp, 1) := by decide +kernel
theorem d_La_refuses_290 : decode cL_refuses 290 = .ok (.ifCond .ne 203, 3) := by decide +kernel
theorem d_La_refuses_293 : decode cL_refuses 293 = .ok (.aload_n 0, 1) := by decide +kernel
theorem d_La_refuses_294 : decode cL_refuses 294 = .ok (.iconst 0, 1) := by decide +kernel
theorem d_La_refuses_295 : decode cL_refuses 295 = .ok (.iload_n 1, 1) := by decide +kernel
theorem d_La_refuses_296 : decode cL_refuses 296 = .ok (.sipush 201, 3) := by decide +kernel
theorem d_La_refuses_299 : decode cL_refuses 299 = .ok (.iadd, 1) := by decide +kernel
theorem d_La_refuses_300 : decode cL_refuses 300 = .ok (.iconst 0, 1) := by decide +kernel
theorem d_La_refuses_301 : decode cL_refuses 301 = .ok (.invokestatic 144, 3) := by decide +kernel
theorem d_La_refuses_304 : decode cL_refuses 304 = .ok (.ldc2_w 21, 3) := by decide +kernel
theorem d_La_refuses_307 : decode cL_refuses 307 = .ok (.lcmp, 1) := by decide +kernel
theorem d_La_refuses_308 : decode cL_refuses 308 = .ok (.ifCond .ne 185, 3) := by decide +kernel
theorem d_La_refuses_311 : decode cL_refuses 311 = .ok (.aload_n 0, 1) := by decide +kernel
theorem d_La_refuses_312 : decode cL_refuses 312 = .ok (.iconst 0, 1) := by decide +kernel
theorem d_La_refuses_313 : decode cL_refuses 313 = .ok (.iload_n 1, 1) := by decide +kernel
theorem d_La_refuses_314 : decode cL_refuses 314 = .ok (.iconst 1, 1) := by decide +kernel
theorem d_La_refuses_315 : decode cL_refuses 315 = .ok (.iadd, 1) := by decide +kernel
theorem d_La_refuses_316 : decode cL_refuses 316 = .ok (.iconst 4, 1) := by decide +kernel
theorem d_La_refuses_317 : decode cL_refuses 317 = .ok (.invokestatic 144, 3) := by decide +kernel
theorem d_La_refuses_320 : decode cL_refuses 320 = .ok (.ldc2_w 21, 3) := by decide +kernel
theorem d_La_refuses_323 : decode cL_refuses 323 = .ok (.lcmp, 1) := by decide +kernel
theorem d_La_refuses_324 : decode cL_refuses 324 = .ok (.ifCond .ne 169, 3) := by decide +kernel
theorem d_La_refuses_327 : decode cL_refuses 327 = .ok (.aload_n 0, 1) := by decide +kernel
theorem d_La_refuses_328 : decode cL_refuses 328 = .ok (.bipush 40, 2) := by decide +kernel
theorem d_La_refuses_330 : decode cL_refuses 330 = .ok (.invokestatic 146, 3) := by decide +kernel
theorem d_La_refuses_333 : decode cL_refuses 333 = .ok (.ldc2_w 17, 3) := by decide +kernel
theorem d_La_refuses_336 : decode cL_refuses 336 = .ok (.lcmp, 1) := by decide +kernel
theorem d_La_refuses_337 : decode cL_refuses 337 = .ok (.ifCond .ne 156, 3) := by decide +kernel
theorem d_La_refuses_340 : decode cL_refuses 340 = .ok (.aload_n 0, 1) := by decide +kernel
theorem d_La_refuses_341 : decode cL_refuses 341 = .ok (.iconst 0, 1) := by decide +kernel
theorem d_La_refuses_342 : decode cL_refuses 342 = .ok (.invokestatic 148, 3) := by decide +kernel
theorem d_La_refuses_345 : decode cL_refuses 345 = .ok (.ldc2_w 21, 3) := by decide +kernel
theorem d_La_refuses_348 : decode cL_refuses 348 = .ok (.lcmp, 1) := by decide +kernel
theorem d_La_refuses_349 : decode cL_refuses 349 = .ok (.ifCond .ne 144, 3) := by decide +kernel
theorem d_La_refuses_352 : decode cL_refuses 352 = .ok (.aload_n 0, 1) := by decide +kernel
theorem d_La_refuses_353 : decode cL_refuses 353 = .ok (.bipush 51, 2) := by decide +kernel
theorem d_La_refuses_355 : decode cL_refuses 355 = .ok (.invokestatic 148, 3) := by decide +kernel
theorem d_La_refuses_358 : decode cL_refuses 358 = .ok (.ldc2_w 21, 3) := by decide +kernel
theorem d_La_refuses_361 : decode cL_refuses 361 = .ok (.lcmp, 1) := by decide +kernel
theorem d_La_refuses_362 : decode cL_refuses 362 = .ok (.ifCond .ne 131, 3) := by decide +kernel
theorem d_La_refuses_365 : decode cL_refuses 365 = .ok (.aload_n 0, 1) := by decide +kernel
theorem d_La_refuses_366 : decode cL_refuses 366 = .ok (.iconst (-1), 1) := by decide +kernel
theorem d_La_refuses_367 : decode cL_refuses 367 = .ok (.invokestatic 150, 3) := by decide +kernel
theorem d_La_refuses_370 : decode cL_refuses 370 = .ok (.ldc2_w 17, 3) := by decide +kernel
theorem d_La_refuses_373 : decode cL_refuses 373 = .ok (.lcmp, 1) := by decide +kernel
theorem d_La_refuses_374 : decode cL_refuses 374 = .ok (.ifCond .ne 119, 3) := by decide +kernel
theorem d_La_refuses_377 : decode cL_refuses 377 = .ok (.aload_n 0, 1) := by decide +kernel
theorem d_La_refuses_378 : decode cL_refuses 378 = .ok (.bipush 10, 2) := by decide +kernel
theorem d_La_refuses_380 : decode cL_refuses 380 = .ok (.iconst 1, 1) := by decide +kernel
theorem d_La_refuses_381 : decode cL_refuses 381 = .ok (.invokestatic 152, 3) := by decide +kernel
theorem d_La_refuses_384 : decode cL_refuses 384 = .ok (.ldc2_w 17, 3) := by decide +kernel
theorem d_La_refuses_387 : decode cL_refuses 387 = .ok (.lcmp, 1) := by decide +kernel
theorem d_La_refuses_388 : decode cL_refuses 388 = .ok (.ifCond .ne 105, 3) := by decide +kernel
theorem d_La_refuses_391 : decode cL_refuses 391 = .ok (.aload_n 0, 1) := by decide +kernel
theorem d_La_refuses_392 : decode cL_refuses 392 = .ok (.iconst 0, 1) := by decide +kernel
theorem d_La_refuses_393 : decode cL_refuses 393 = .ok (.iconst 0, 1) := by decide +kernel
theorem d_La_refuses_394 : decode cL_refuses 394 = .ok (.invokestatic 152, 3) := by decide +kernel
theorem d_La_refuses_397 : decode cL_refuses 397 = .ok (.ldc2_w 21, 3) := by decide +kernel
theorem d_La_refuses_400 : decode cL_refuses 400 = .ok (.lcmp, 1) := by decide +kernel
theorem d_La_refuses_401 : decode cL_refuses 401 = .ok (.ifCond .ne 92, 3) := by decide +kernel
theorem d_La_refuses_404 : decode cL_refuses 404 = .ok (.aload_n 0, 1) := by decide +kernel
theorem d_La_refuses_405 : decode cL_refuses 405 = .ok (.bipush 100, 2) := by decide +kernel
theorem d_La_refuses_407 : decode cL_refuses 407 = .ok (.invokestatic 154, 3) := by decide +kernel
theorem d_La_refuses_410 : decode cL_refuses 410 = .ok (.ldc2_w 17, 3) := by decide +kernel
theorem d_La_refuses_413 : decode cL_refuses 413 = .ok (.lcmp, 1) := by decide +kernel
theorem d_La_refuses_414 : decode cL_refuses 414 = .ok (.ifCond .ne 79, 3) := by decide +kernel
theorem d_La_refuses_417 : decode cL_refuses 417 = .ok (.aload_n 0, 1) := by decide +kernel
theorem d_La_refuses_418 : decode cL_refuses 418 = .ok (.bipush 40, 2) := by decide +kernel
theorem d_La_refuses_420 : decode cL_refuses 420 = .ok (.iconst 0, 1) := by decide +kernel
theorem d_La_refuses_421 : decode cL_refuses 421 = .ok (.invokestatic 115, 3) := by decide +kernel
theorem d_La_refuses_424 : decode cL_refuses 424 = .ok (.ldc2_w 17, 3) := by decide +kernel
theorem d_La_refuses_427 : decode cL_refuses 427 = .ok (.lcmp, 1) := by decide +kernel
theorem d_La_refuses_428 : decode cL_refuses 428 = .ok (.ifCond .ne 65, 3) := by decide +kernel
theorem d_La_refuses_431 : decode cL_refuses 431 = .ok (.aload_n 0, 1) := by decide +kernel
theorem d_La_refuses_432 : decode cL_refuses 432 = .ok (.iconst 0, 1) := by decide +kernel
theorem d_La_refuses_433 : decode cL_refuses 433 = .ok (.bipush 40, 2) := by decide +kernel
theorem d_La_refuses_435 : decode cL_refuses 435 = .ok (.invokestatic 122, 3) := by decide +kernel
theorem d_La_refuses_438 : decode cL_refuses 438 = .ok (.ldc2_w 17, 3) := by decide +kernel
theorem d_La_refuses_441 : decode cL_refuses 441 = .ok (.lcmp, 1) := by decide +kernel
theorem d_La_refuses_442 : decode cL_refuses 442 = .ok (.ifCond .ne 51, 3) := by decide +kernel
theorem d_La_refuses_445 : decode cL_refuses 445 = .ok (.aload_n 0, 1) := by decide +kernel
theorem d_La_refuses_446 : decode cL_refuses 446 = .ok (.iconst 0, 1) := by decide +kernel
theorem d_La_refuses_447 : decode cL_refuses 447 = .ok (.bipush 6, 2) := by decide +kernel
theorem d_La_refuses_449 : decode cL_refuses 449 = .ok (.invokestatic 92, 3) := by decide +kernel
theorem d_La_refuses_452 : decode cL_refuses 452 = .ok (.ldc2_w 21, 3) := by decide +kernel
theorem d_La_refuses_455 : decode cL_refuses 455 = .ok (.lcmp, 1) := by decide +kernel
theorem d_La_refuses_456 : decode cL_refuses 456 = .ok (.ifCond .ne 37, 3) := by decide +kernel
theorem d_La_refuses_459 : decode cL_refuses 459 = .ok (.aload_n 0, 1) := by decide +kernel
theorem d_La_refuses_460 : decode cL_refuses 460 = .ok (.iconst 5, 1) := by decide +kernel
theorem d_La_refuses_461 : decode cL_refuses 461 = .ok (.invokestatic 120, 3) := by decide +kernel
theorem d_La_refuses_464 : decode cL_refuses 464 = .ok (.ldc2_w 21, 3) := by decide +kernel
theorem d_La_refuses_467 : decode cL_refuses 467 = .ok (.lcmp, 1) := by decide +kernel
theorem d_La_refuses_468 : decode cL_refuses 468 = .ok (.ifCond .ne 25, 3) := by decide +kernel
theorem d_La_refuses_471 : decode cL_refuses 471 = .ok (.aload_n 0, 1) := by decide +kernel
theorem d_La_refuses_472 : decode cL_refuses 472 = .ok (.invokevirtual 111, 3) := by decide +kernel
theorem d_La_refuses_475 : decode cL_refuses 475 = .ok (.iload_n 1, 1) := by decide +kernel
theorem d_La_refuses_476 : decode cL_refuses 476 = .ok (.if_icmp .ne 17, 3) := by decide +kernel
theorem d_La_refuses_479 : decode cL_refuses 479 = .ok (.aload_n 0, 1) := by decide +kernel
theorem d_La_refuses_480 : decode cL_refuses 480 = .ok (.iconst 1, 1) := by decide +kernel
theorem d_La_refuses_481 : decode cL_refuses 481 = .ok (.invokestatic 120, 3) := by decide +kernel
theorem d_La_refuses_484 : decode cL_refuses 484 = .ok (.lload_n 2, 1) := by decide +kernel
theorem d_La_refuses_485 : decode cL_refuses 485 = .ok (.lcmp, 1) := by decide +kernel
theorem d_La_refuses_486 : decode cL_refuses 486 = .ok (.ifCond .ne 7, 3) := by decide +kernel
theorem d_La_refuses_489 : decode cL_refuses 489 = .ok (.iconst 1, 1) := by decide +kernel
theorem d_La_refuses_490 : decode cL_refuses 490 = .ok (.goto 4, 3) := by decide +kernel
theorem d_La_refuses_493 : decode cL_refuses 493 = .ok (.iconst 0, 1) := by decide +kernel
theorem d_La_refuses_494 : decode cL_refuses 494 = .ok (.ireturn, 1) := by decide +kernel
set_option maxRecDepth 100000 in
set_option maxHeartbeats 4000000 in
theorem w_j_La_refuses_445 {X : CX} {KX : Int32 × MS → Prop}  {a0 : Option Nat} {a1 : Int32} {a2 : Int64} {s : MS} {ce0 sl0 : Nat} (ok : Ok X cL_refuses RL rm_La_refuses 5 true) (hse : SE X.2.2.2.1 X.1.2.2.2.2.1 ∧ X.1.2.1.stackTraces = false) (hret : ∀ r : Int32 × MS, KX r → Fix X (some .boolean) 48 601 true none (some (vI r.1)) r.2) (hc1 : ce0 + 3 ≤ 48) (hc2 : sl0 + 18 ≤ 601) {res : Int32 × MS} (h : j_La_refuses_445 a0 a1 a2 s = some res) (hk : KX res) : G X s ce0 sl0 445 [(0, vR a0), (1, vI a1), (2, vL a2)] [] := by
  unfold j_La_refuses_445 at h
  refine g_aload_n (i := 0) 0 ok d_La_refuses_445 rfl rfl ?_
  refine g_iconst (v := (0 : Int32)) ok d_La_refuses_446 (by decide) ?_
  refine g_bipush (v := (6 : Int32)) ok d_La_refuses_447 (by decide) ?_
  obtain ⟨k177, hk178, h⟩ := bnd_go h
  obtain ⟨x182, s181, hc180, h⟩ := bnd2_go h
  refine g_callW (rm2 := rm_La_ofMachine) (As := [vR a0, vI (0 : Int32), vI (6 : Int32)]) (rest := []) ok hse.1 (c_La_ofMachine hse.2 hc180) cm_La_ofMachine cs_La_ofMachine tw_649 ⟨rfl, rfl⟩ ⟨le_t rfl, le_t rfl⟩ ⟨rfl, le_t rfl⟩ ⟨(by show _ ≤ 48; omega), (by show _ ≤ 601; omega)⟩ ⟨(rk_of hk178), ⟨trivial, ⟨trivial, trivial⟩⟩⟩ trivial d_La_refuses_449 rfl (fun m179 => ?_)
  show G X s181 (ce0 + 1) (sl0 + 6) 452 [(0, vR a0), (1, vI a1), (2, vL a2)] [vL x182]
  refine g_ldc2 (v := (-9000000000000000002 : Int64)) ok d_La_refuses_452 tw_316 ?_
  refine g_lcmp ok d_La_refuses_455 ?_
  refine g_if_ne (tgt := 493) ok d_La_refuses_456 (by decide) (fun c183 => ?_) (fun c183 => ?_)
  · replace h := (if_pos c183).symm.trans h
    refine g_aload_n (i := 0) 0 ok d_La_refuses_459 rfl rfl ?_
    refine g_iconst (v := (5 : Int32)) ok d_La_refuses_460 (by decide) ?_
    obtain ⟨x187, s186, hc185, h⟩ := bnd2_go h
    refine g_callW (rm2 := rm_La_count) (As := [vR a0, vI (5 : Int32)]) (rest := []) ok hse.1 (c_La_count hse.2 hc185) cm_La_count cs_La_count tw_665 ⟨rfl, rfl⟩ ⟨le_t rfl, le_t rfl⟩ ⟨rfl, le_t rfl⟩ ⟨(by show _ ≤ 48; omega), (by show _ ≤ 601; omega)⟩ ⟨(rk_of (rf_mono m179 hk178)), ⟨trivial, ⟨trivial, trivial⟩⟩⟩ trivial d_La_refuses_461 rfl (fun m184 => ?_)
    show G X s186 ((ce0 + 1) + 1) ((sl0 + 6) + 6) 464 [(0, vR a0), (1, vI a1), (2, vL a2)] [vL x187]
    refine g_ldc2 (v := (-9000000000000000002 : Int64)) ok d_La_refuses_464 tw_316 ?_
    refine g_lcmp ok d_La_refuses_467 ?_
    refine g_if_ne (tgt := 493) ok d_La_refuses_468 (by decide) (fun c188 => ?_) (fun c188 => ?_)
    · replace h := (if_pos c188).symm.trans h
      refine g_aload_n (i := 0) 0 ok d_La_refuses_471 rfl rfl ?_
      obtain ⟨x190, hc191, h⟩ := bnd_go h
      refine g_invV (rm2 := rm_Sk_time) (As := []) (rest := []) ok (rf_mono m184 (rf_mono m179 hk178)) lay_0 rfl (c_Sk_time X.1.2.1 (rf_self (rf_mono m184 (rf_mono m179 hk178))) hc191) cm_Sk_time cv_Sk_time tw_133 ⟨rfl, rfl⟩ ⟨le_t rfl, le_t rfl⟩ ⟨rfl, le_t rfl⟩ ⟨(by show _ ≤ 48; omega), (by show _ ≤ 601; omega)⟩ d_La_refuses_472 rfl (fun m189 => ?_)
      show G X s186 ((ce0 + 1) + 1) ((sl0 + 6) + 6) 475 [(0, vR a0), (1, vI a1), (2, vL a2)] [vI x190]
      refine g_iload_n (i := 1) 1 ok d_La_refuses_475 rfl rfl ?_
      refine g_icmp_ne (tgt := 493) ok d_La_refuses_476 (by decide) (fun c192 => ?_) (fun c192 => ?_)
      · replace h := (if_pos c192).symm.trans h
        refine g_aload_n (i := 0) 0 ok d_La_refuses_479 rfl rfl ?_
        refine g_iconst (v := (1 : Int32)) ok d_La_refuses_480 (by decide) ?_
        refine g_sub [2] rfl ?_
        obtain ⟨x196, s195, hc194, h⟩ := bnd2_go h
        refine g_callW (rm2 := rm_La_count) (As := [vR a0, vI (1 : Int32)]) (rest := []) ok hse.1 (c_La_count hse.2 hc194) cm_La_count cs_La_count tw_665 ⟨rfl, rfl⟩ ⟨le_t rfl, le_t rfl⟩ ⟨rfl, le_t rfl⟩ ⟨(by show _ ≤ 48; omega), (by show _ ≤ 601; omega)⟩ ⟨trivial, trivial⟩ trivial d_La_refuses_481 rfl (fun m193 => ?_)
        show G X s195 (((ce0 + 1) + 1) + 1) (((sl0 + 6) + 6) + 6) 484 [(2, vL a2)] [vL x196]
        refine g_lload_n (i := 2) 0 ok d_La_refuses_484 rfl rfl ?_
        refine g_lcmp ok d_La_refuses_485 ?_
        refine g_if_ne (tgt := 493) ok d_La_refuses_486 (by decide) (fun c197 => ?_) (fun c197 => ?_)
        · replace h := (if_pos c197).symm.trans h
          refine g_iconst (v := (1 : Int32)) ok d_La_refuses_489 (by decide) ?_
          refine g_goto (tgt := 494) ok d_La_refuses_490 (by decide) ?_
          cases h
          exact g_zretX ok (hret _ hk) (Or.inr rfl) (by omega) (by omega) d_La_refuses_494
        · replace h := (if_neg c197).symm.trans h
          refine g_iconst (v := (0 : Int32)) ok d_La_refuses_493 (by decide) ?_
          cases h
          exact g_zretX ok (hret _ hk) (Or.inl rfl) (by omega) (by omega) d_La_refuses_494
      · replace h := (if_neg c192).symm.trans h
        refine g_iconst (v := (0 : Int32)) ok d_La_refuses_493 (by decide) ?_
        cases h
        exact g_zretX ok (hret _ hk) (Or.inl rfl) (by omega) (by omega) d_La_refuses_494
    · replace h := (if_neg c188).symm.trans h
      refine g_iconst (v := (0 : Int32)) ok d_La_refuses_493 (by decide) ?_
      cases h
      exact g_zretX ok (hret _ hk) (Or.inl rfl) (by omega) (by omega) d_La_refuses_494
  · replace h := (if_neg c183).symm.trans h
    refine g_iconst (v := (0 : Int32)) ok d_La_refuses_493 (by decide) ?_
    cases h
    exact g_zretX ok (hret _ hk) (Or.inl rfl) (by omega) (by omega) d_La_refuses_494
set_option maxRecDepth 100000 in
set_option maxHeartbeats 4000000 in
theorem w_j_La_refuses_391 {X : CX} {KX : Int32 × MS → Prop}  {a0 : Option Nat} {a1 : Int32} {a2 : Int64} {s : MS} {ce0 sl0 : Nat} (ok : Ok X cL_refuses RL rm_La_refuses 5 true) (hse : SE X.2.2.2.1 X.1.2.2.2.2.1 ∧ X.1.2.1.stackTraces = false) (hret : ∀ r : Int32 × MS, KX r → Fix X (some .boolean) 48 601 true none (some (vI r.1)) r.2) (hc1 : ce0 + 7 ≤ 48) (hc2 : sl0 + 42 ≤ 601) {res : Int32 × MS} (h : j_La_refuses_391 a0 a1 a2 s = some res) (hk : KX res) : G X s ce0 sl0 391 [(0, vR a0), (1, vI a1), (2, vL a2)] [] := by
  unfold j_La_refuses_391 at h
  refine g_aload_n (i := 0) 0 ok d_La_refuses_391 rfl rfl ?_
  refine g_iconst (v := (0 : Int32)) ok d_La_refuses_392 (by decide) ?_
  refine g_iconst (v := (0 : Int32)) ok d_La_refuses_393 (by decide) ?_
  obtain ⟨k155, hk156, h⟩ := bnd_go h
  obtain ⟨x160, s159, hc158, h⟩ := bnd2_go h
  refine g_callW (rm2 := rm_La_hold) (As := [vR a0, vI (0 : Int32), vI (0 : Int32)]) (rest := []) ok hse.1 (c_La_hold hse.2 hc158) cm_La_hold cs_La_hold tw_627 ⟨rfl, rfl⟩ ⟨le_t rfl, le_t rfl⟩ ⟨rfl, le_t rfl⟩ ⟨(by show _ ≤ 48; omega), (by show _ ≤ 601; omega)⟩ ⟨(rk_of hk156), ⟨trivial, ⟨trivial, trivial⟩⟩⟩ trivial d_La_refuses_394 rfl (fun m157 => ?_)
  show G X s159 (ce0 + 1) (sl0 + 6) 397 [(0, vR a0), (1, vI a1), (2, vL a2)] [vL x160]
  refine g_ldc2 (v := (-9000000000000000002 : Int64)) ok d_La_refuses_397 tw_316 ?_
  refine g_lcmp ok d_La_refuses_400 ?_
  refine g_if_ne (tgt := 493) ok d_La_refuses_401 (by decide) (fun c161 => ?_) (fun c161 => ?_)
  · replace h := (if_pos c161).symm.trans h
    refine g_aload_n (i := 0) 0 ok d_La_refuses_404 rfl rfl ?_
    refine g_bipush (v := (100 : Int32)) ok d_La_refuses_405 (by decide) ?_
    obtain ⟨x165, s164, hc163, h⟩ := bnd2_go h
    refine g_callW (rm2 := rm_La_home) (As := [vR a0, vI (100 : Int32)]) (rest := []) ok hse.1 (c_La_home hse.2 hc163) cm_La_home cs_La_home tw_748 ⟨rfl, rfl⟩ ⟨le_t rfl, le_t rfl⟩ ⟨rfl, le_t rfl⟩ ⟨(by show _ ≤ 48; omega), (by show _ ≤ 601; omega)⟩ ⟨(rk_of (rf_mono m157 hk156)), ⟨trivial, ⟨trivial, trivial⟩⟩⟩ trivial d_La_refuses_407 rfl (fun m162 => ?_)
    show G X s164 ((ce0 + 1) + 1) ((sl0 + 6) + 6) 410 [(0, vR a0), (1, vI a1), (2, vL a2)] [vL x165]
    refine g_ldc2 (v := (-9000000000000000001 : Int64)) ok d_La_refuses_410 tw_315 ?_
    refine g_lcmp ok d_La_refuses_413 ?_
    refine g_if_ne (tgt := 493) ok d_La_refuses_414 (by decide) (fun c166 => ?_) (fun c166 => ?_)
    · replace h := (if_pos c166).symm.trans h
      refine g_aload_n (i := 0) 0 ok d_La_refuses_417 rfl rfl ?_
      refine g_bipush (v := (40 : Int32)) ok d_La_refuses_418 (by decide) ?_
      refine g_iconst (v := (0 : Int32)) ok d_La_refuses_420 (by decide) ?_
      obtain ⟨x170, s169, hc168, h⟩ := bnd2_go h
      refine g_callW (rm2 := rm_La_placeAt) (As := [vR a0, vI (40 : Int32), vI (0 : Int32)]) (rest := []) ok hse.1 (c_La_placeAt hse.2 hc168) cm_La_placeAt cs_La_placeAt tw_690 ⟨rfl, rfl⟩ ⟨le_t rfl, le_t rfl⟩ ⟨rfl, le_t rfl⟩ ⟨(by show _ ≤ 48; omega), (by show _ ≤ 601; omega)⟩ ⟨(rk_of (rf_mono m162 (rf_mono m157 hk156))), ⟨trivial, ⟨trivial, trivial⟩⟩⟩ trivial d_La_refuses_421 rfl (fun m167 => ?_)
      show G X s169 (((ce0 + 1) + 1) + 1) (((sl0 + 6) + 6) + 6) 424 [(0, vR a0), (1, vI a1), (2, vL a2)] [vL x170]
      refine g_ldc2 (v := (-9000000000000000001 : Int64)) ok d_La_refuses_424 tw_315 ?_
      refine g_lcmp ok d_La_refuses_427 ?_
      refine g_if_ne (tgt := 493) ok d_La_refuses_428 (by decide) (fun c171 => ?_) (fun c171 => ?_)
      · replace h := (if_pos c171).symm.trans h
        refine g_aload_n (i := 0) 0 ok d_La_refuses_431 rfl rfl ?_
        refine g_iconst (v := (0 : Int32)) ok d_La_refuses_432 (by decide) ?_
        refine g_bipush (v := (40 : Int32)) ok d_La_refuses_433 (by decide) ?_
        obtain ⟨x175, s174, hc173, h⟩ := bnd2_go h
        refine g_callW (rm2 := rm_La_meets) (As := [vR a0, vI (0 : Int32), vI (40 : Int32)]) (rest := []) ok hse.1 (c_La_meets hse.2 hc173) cm_La_meets cs_La_meets tw_707 ⟨rfl, rfl⟩ ⟨le_t rfl, le_t rfl⟩ ⟨rfl, le_t rfl⟩ ⟨(by show _ ≤ 48; omega), (by show _ ≤ 601; omega)⟩ ⟨(rk_of (rf_mono m167 (rf_mono m162 (rf_mono m157 hk156)))), ⟨trivial, ⟨trivial, trivial⟩⟩⟩ trivial d_La_refuses_435 rfl (fun m172 => ?_)
        show G X s174 ((((ce0 + 1) + 1) + 1) + 1) ((((sl0 + 6) + 6) + 6) + 6) 438 [(0, vR a0), (1, vI a1), (2, vL a2)] [vL x175]
        refine g_ldc2 (v := (-9000000000000000001 : Int64)) ok d_La_refuses_438 tw_315 ?_
        refine g_lcmp ok d_La_refuses_441 ?_
        refine g_if_ne (tgt := 493) ok d_La_refuses_442 (by decide) (fun c176 => ?_) (fun c176 => ?_)
        · replace h := (if_pos c176).symm.trans h
          exact w_j_La_refuses_445 ok hse hret (by omega) (by omega) h hk
        · replace h := (if_neg c176).symm.trans h
          refine g_iconst (v := (0 : Int32)) ok d_La_refuses_493 (by decide) ?_
          cases h
          exact g_zretX ok (hret _ hk) (Or.inl rfl) (by omega) (by omega) d_La_refuses_494
      · replace h := (if_neg c171).symm.trans h
        refine g_iconst (v := (0 : Int32)) ok d_La_refuses_493 (by decide) ?_
        cases h
        exact g_zretX ok (hret _ hk) (Or.inl rfl) (by omega) (by omega) d_La_refuses_494
    · replace h := (if_neg c166).symm.trans h
      refine g_iconst (v := (0 : Int32)) ok d_La_refuses_493 (by decide) ?_
      cases h
      exact g_zretX ok (hret _ hk) (Or.inl rfl) (by omega) (by omega) d_La_refuses_494
  · replace h := (if_neg c161).symm.trans h
    refine g_iconst (v := (0 : Int32)) ok d_La_refuses_493 (by decide) ?_
    cases h
    exact g_zretX ok (hret _ hk) (Or.inl rfl) (by omega) (by omega) d_La_refuses_494
set_option maxRecDepth 100000 in
set_option maxHeartbeats 4000000 in
theorem w_j_La_refuses_340 {X : CX} {KX : Int32 × MS → Prop}  {a0 : Option Nat} {a1 : Int32} {a2 : Int64} {s : MS} {ce0 sl0 : Nat} (ok : Ok X cL_refuses RL rm_La_refuses 5 true) (hse : SE X.2.2.2.1 X.1.2.2.2.2.1 ∧ X.1.2.1.stackTraces = false) (hret : ∀ r : Int32 × MS, KX r → Fix X (some .boolean) 48 601 true none (some (vI r.1)) r.2) (hc1 : ce0 + 11 ≤ 48) (hc2 : sl0 + 66 ≤ 601) {res : Int32 × MS} (h : j_La_refuses_340 a0 a1 a2 s = some res) (hk : KX res) : G X s ce0 sl0 340 [(0, vR a0), (1, vI a1), (2, vL a2)] [] := by
  unfold j_La_refuses_340 at h
  refine g_aload_n (i := 0) 0 ok d_La_refuses_340 rfl rfl ?_
  refine g_iconst (v := (0 : Int32)) ok d_La_refuses_341 (by decide) ?_
  obtain ⟨k133, hk134, h⟩ := bnd_go h
  obtain ⟨x138, s137, hc136, h⟩ := bnd2_go h
  refine g_callW (rm2 := rm_La_tick) (As := [vR a0, vI (0 : Int32)]) (rest := []) ok hse.1 (c_La_tick hse.2 hc136) cm_La_tick cs_La_tick tw_566 ⟨rfl, rfl⟩ ⟨le_t rfl, le_t rfl⟩ ⟨rfl, le_t rfl⟩ ⟨(by show _ ≤ 48; omega), (by show _ ≤ 601; omega)⟩ ⟨(rk_of hk134), ⟨trivial, ⟨trivial, trivial⟩⟩⟩ trivial d_La_refuses_342 rfl (fun m135 => ?_)
  show G X s137 (ce0 + 1) (sl0 + 6) 345 [(0, vR a0), (1, vI a1), (2, vL a2)] [vL x138]
  refine g_ldc2 (v := (-9000000000000000002 : Int64)) ok d_La_refuses_345 tw_316 ?_
  refine g_lcmp ok d_La_refuses_348 ?_
  refine g_if_ne (tgt := 493) ok d_La_refuses_349 (by decide) (fun c139 => ?_) (fun c139 => ?_)
  · replace h := (if_pos c139).symm.trans h
    refine g_aload_n (i := 0) 0 ok d_La_refuses_352 rfl rfl ?_
    refine g_bipush (v := (51 : Int32)) ok d_La_refuses_353 (by decide) ?_
    obtain ⟨x143, s142, hc141, h⟩ := bnd2_go h
    refine g_callW (rm2 := rm_La_tick) (As := [vR a0, vI (51 : Int32)]) (rest := []) ok hse.1 (c_La_tick hse.2 hc141) cm_La_tick cs_La_tick tw_566 ⟨rfl, rfl⟩ ⟨le_t rfl, le_t rfl⟩ ⟨rfl, le_t rfl⟩ ⟨(by show _ ≤ 48; omega), (by show _ ≤ 601; omega)⟩ ⟨(rk_of (rf_mono m135 hk134)), ⟨trivial, ⟨trivial, trivial⟩⟩⟩ trivial d_La_refuses_355 rfl (fun m140 => ?_)
    show G X s142 ((ce0 + 1) + 1) ((sl0 + 6) + 6) 358 [(0, vR a0), (1, vI a1), (2, vL a2)] [vL x143]
    refine g_ldc2 (v := (-9000000000000000002 : Int64)) ok d_La_refuses_358 tw_316 ?_
    refine g_lcmp ok d_La_refuses_361 ?_
    refine g_if_ne (tgt := 493) ok d_La_refuses_362 (by decide) (fun c144 => ?_) (fun c144 => ?_)
    · replace h := (if_pos c144).symm.trans h
      refine g_aload_n (i := 0) 0 ok d_La_refuses_365 rfl rfl ?_
      refine g_iconst (v := (-1 : Int32)) ok d_La_refuses_366 (by decide) ?_
      obtain ⟨x148, s147, hc146, h⟩ := bnd2_go h
      refine g_callW (rm2 := rm_La_lose) (As := [vR a0, vI (-1 : Int32)]) (rest := []) ok hse.1 (c_La_lose hse.2 hc146) cm_La_lose cs_La_lose tw_618 ⟨rfl, rfl⟩ ⟨le_t rfl, le_t rfl⟩ ⟨rfl, le_t rfl⟩ ⟨(by show _ ≤ 48; omega), (by show _ ≤ 601; omega)⟩ ⟨(rk_of (rf_mono m140 (rf_mono m135 hk134))), ⟨trivial, ⟨trivial, trivial⟩⟩⟩ trivial d_La_refuses_367 rfl (fun m145 => ?_)
      show G X s147 (((ce0 + 1) + 1) + 1) (((sl0 + 6) + 6) + 6) 370 [(0, vR a0), (1, vI a1), (2, vL a2)] [vL x148]
      refine g_ldc2 (v := (-9000000000000000001 : Int64)) ok d_La_refuses_370 tw_315 ?_
      refine g_lcmp ok d_La_refuses_373 ?_
      refine g_if_ne (tgt := 493) ok d_La_refuses_374 (by decide) (fun c149 => ?_) (fun c149 => ?_)
      · replace h := (if_pos c149).symm.trans h
        refine g_aload_n (i := 0) 0 ok d_La_refuses_377 rfl rfl ?_
        refine g_bipush (v := (10 : Int32)) ok d_La_refuses_378 (by decide) ?_
        refine g_iconst (v := (1 : Int32)) ok d_La_refuses_380 (by decide) ?_
        obtain ⟨x153, s152, hc151, h⟩ := bnd2_go h
        refine g_callW (rm2 := rm_La_hold) (As := [vR a0, vI (10 : Int32), vI (1 : Int32)]) (rest := []) ok hse.1 (c_La_hold hse.2 hc151) cm_La_hold cs_La_hold tw_627 ⟨rfl, rfl⟩ ⟨le_t rfl, le_t rfl⟩ ⟨rfl, le_t rfl⟩ ⟨(by show _ ≤ 48; omega), (by show _ ≤ 601; omega)⟩ ⟨(rk_of (rf_mono m145 (rf_mono m140 (rf_mono m135 hk134)))), ⟨trivial, ⟨trivial, trivial⟩⟩⟩ trivial d_La_refuses_381 rfl (fun m150 => ?_)
        show G X s152 ((((ce0 + 1) + 1) + 1) + 1) ((((sl0 + 6) + 6) + 6) + 6) 384 [(0, vR a0), (1, vI a1), (2, vL a2)] [vL x153]
        refine g_ldc2 (v := (-9000000000000000001 : Int64)) ok d_La_refuses_384 tw_315 ?_
        refine g_lcmp ok d_La_refuses_387 ?_
        refine g_if_ne (tgt := 493) ok d_La_refuses_388 (by decide) (fun c154 => ?_) (fun c154 => ?_)
        · replace h := (if_pos c154).symm.trans h
          exact w_j_La_refuses_391 ok hse hret (by omega) (by omega) h hk
        · replace h := (if_neg c154).symm.trans h
          refine g_iconst (v := (0 : Int32)) ok d_La_refuses_493 (by decide) ?_
          cases h
          exact g_zretX ok (hret _ hk) (Or.inl rfl) (by omega) (by omega) d_La_refuses_494
      · replace h := (if_neg c149).symm.trans h
        refine g_iconst (v := (0 : Int32)) ok d_La_refuses_493 (by decide) ?_
        cases h
        exact g_zretX ok (hret _ hk) (Or.inl rfl) (by omega) (by omega) d_La_refuses_494
    · replace h := (if_neg c144).symm.trans h
      refine g_iconst (v := (0 : Int32)) ok d_La_refuses_493 (by decide) ?_
      cases h
      exact g_zretX ok (hret _ hk) (Or.inl rfl) (by omega) (by omega) d_La_refuses_494
  · replace h := (if_neg c139).symm.trans h
    refine g_iconst (v := (0 : Int32)) ok d_La_refuses_493 (by decide) ?_
    cases h
    exact g_zretX ok (hret _ hk) (Or.inl rfl) (by omega) (by omega) d_La_refuses_494
set_option maxRecDepth 100000 in
set_option maxHeartbeats 4000000 in
theorem w_j_La_refuses_279 {X : CX} {KX : Int32 × MS → Prop}  {a0 : Option Nat} {a1 : Int32} {a2 : Int64} {s : MS} {ce0 sl0 : Nat} (ok : Ok X cL_refuses RL rm_La_refuses 5 true) (hse : SE X.2.2.2.1 X.1.2.2.2.2.1 ∧ X.1.2.1.stackTraces = false) (hret : ∀ r : Int32 × MS, KX r → Fix X (some .boolean) 48 601 true none (some (vI r.1)) r.2) (hc1 : ce0 + 21 ≤ 48) (hc2 : sl0 + 354 ≤ 601) {res : Int32 × MS} (h : j_La_refuses_279 a0 a1 a2 s = some res) (hk : KX res) : G X s ce0 sl0 279 [(0, vR a0), (1, vI a1), (2, vL a2)] [] := by
  unfold j_La_refuses_279 at h
  refine g_aload_n (i := 0) 0 ok d_La_refuses_279 rfl rfl ?_
  refine g_iconst (v := (0 : Int32)) ok d_La_refuses_280 (by decide) ?_
  refine g_iload_n (i := 1) 1 ok d_La_refuses_281 rfl rfl ?_
  refine g_iconst (v := (0 : Int32)) ok d_La_refuses_282 (by decide) ?_
  obtain ⟨k111, hk112, h⟩ := bnd_go h
  obtain ⟨x116, s115, hc114, h⟩ := bnd2_go h
  refine g_callW (rm2 := rm_La_file) (As := [vR a0, vI (0 : Int32), vI a1, vI (0 : Int32)]) (rest := []) ok hse.1 (c_La_file hse.2 hc114) cm_La_file cs_La_file tw_474 ⟨rfl, rfl⟩ ⟨le_t rfl, le_t rfl⟩ ⟨rfl, le_t rfl⟩ ⟨(by show _ ≤ 48; omega), (by show _ ≤ 601; omega)⟩ ⟨(rk_of hk112), ⟨trivial, ⟨trivial, trivial⟩⟩⟩ trivial d_La_refuses_283 rfl (fun m113 => ?_)
  show G X s115 (ce0 + 3) (sl0 + 94) 286 [(0, vR a0), (1, vI a1), (2, vL a2)] [vL x116]
  refine g_ldc2 (v := (-9000000000000000002 : Int64)) ok d_La_refuses_286 tw_316 ?_
  refine g_lcmp ok d_La_refuses_289 ?_
  refine g_if_ne (tgt := 493) ok d_La_refuses_290 (by decide) (fun c117 => ?_) (fun c117 => ?_)
  · replace h := (if_pos c117).symm.trans h
    refine g_aload_n (i := 0) 0 ok d_La_refuses_293 rfl rfl ?_
    refine g_iconst (v := (0 : Int32)) ok d_La_refuses_294 (by decide) ?_
    refine g_iload_n (i := 1) 1 ok d_La_refuses_295 rfl rfl ?_
    refine g_sipush (v := (201 : Int32)) ok d_La_refuses_296 (by decide) ?_
    refine g_iadd ok d_La_refuses_299 ?_
    refine g_iconst (v := (0 : Int32)) ok d_La_refuses_300 (by decide) ?_
    obtain ⟨x121, s120, hc119, h⟩ := bnd2_go h
    refine g_callW (rm2 := rm_La_file) (As := [vR a0, vI (0 : Int32), vI (a1 + (201 : Int32)), vI (0 : Int32)]) (rest := []) ok hse.1 (c_La_file hse.2 hc119) cm_La_file cs_La_file tw_474 ⟨rfl, rfl⟩ ⟨le_t rfl, le_t rfl⟩ ⟨rfl, le_t rfl⟩ ⟨(by show _ ≤ 48; omega), (by show _ ≤ 601; omega)⟩ ⟨(rk_of (rf_mono m113 hk112)), ⟨trivial, ⟨trivial, trivial⟩⟩⟩ trivial d_La_refuses_301 rfl (fun m118 => ?_)
    show G X s120 ((ce0 + 3) + 3) ((sl0 + 94) + 94) 304 [(0, vR a0), (1, vI a1), (2, vL a2)] [vL x121]
    refine g_ldc2 (v := (-9000000000000000002 : Int64)) ok d_La_refuses_304 tw_316 ?_
    refine g_lcmp ok d_La_refuses_307 ?_
    refine g_if_ne (tgt := 493) ok d_La_refuses_308 (by decide) (fun c122 => ?_) (fun c122 => ?_)
    · replace h := (if_pos c122).symm.trans h
      refine g_aload_n (i := 0) 0 ok d_La_refuses_311 rfl rfl ?_
      refine g_iconst (v := (0 : Int32)) ok d_La_refuses_312 (by decide) ?_
      refine g_iload_n (i := 1) 1 ok d_La_refuses_313 rfl rfl ?_
      refine g_iconst (v := (1 : Int32)) ok d_La_refuses_314 (by decide) ?_
      refine g_iadd ok d_La_refuses_315 ?_
      refine g_iconst (v := (4 : Int32)) ok d_La_refuses_316 (by decide) ?_
      obtain ⟨x126, s125, hc124, h⟩ := bnd2_go h
      refine g_callW (rm2 := rm_La_file) (As := [vR a0, vI (0 : Int32), vI (a1 + (1 : Int32)), vI (4 : Int32)]) (rest := []) ok hse.1 (c_La_file hse.2 hc124) cm_La_file cs_La_file tw_474 ⟨rfl, rfl⟩ ⟨le_t rfl, le_t rfl⟩ ⟨rfl, le_t rfl⟩ ⟨(by show _ ≤ 48; omega), (by show _ ≤ 601; omega)⟩ ⟨(rk_of (rf_mono m118 (rf_mono m113 hk112))), ⟨trivial, ⟨trivial, trivial⟩⟩⟩ trivial d_La_refuses_317 rfl (fun m123 => ?_)
      show G X s125 (((ce0 + 3) + 3) + 3) (((sl0 + 94) + 94) + 94) 320 [(0, vR a0), (1, vI a1), (2, vL a2)] [vL x126]
      refine g_ldc2 (v := (-9000000000000000002 : Int64)) ok d_La_refuses_320 tw_316 ?_
      refine g_lcmp ok d_La_refuses_323 ?_
      refine g_if_ne (tgt := 493) ok d_La_refuses_324 (by decide) (fun c127 => ?_) (fun c127 => ?_)
      · replace h := (if_pos c127).symm.trans h
        refine g_aload_n (i := 0) 0 ok d_La_refuses_327 rfl rfl ?_
        refine g_bipush (v := (40 : Int32)) ok d_La_refuses_328 (by decide) ?_
        obtain ⟨x131, s130, hc129, h⟩ := bnd2_go h
        refine g_callW (rm2 := rm_La_withdraw) (As := [vR a0, vI (40 : Int32)]) (rest := []) ok hse.1 (c_La_withdraw hse.2 hc129) cm_La_withdraw cs_La_withdraw tw_740 ⟨rfl, rfl⟩ ⟨le_t rfl, le_t rfl⟩ ⟨rfl, le_t rfl⟩ ⟨(by show _ ≤ 48; omega), (by show _ ≤ 601; omega)⟩ ⟨(rk_of (rf_mono m123 (rf_mono m118 (rf_mono m113 hk112)))), ⟨trivial, ⟨trivial, trivial⟩⟩⟩ trivial d_La_refuses_330 rfl (fun m128 => ?_)
        show G X s130 ((((ce0 + 3) + 3) + 3) + 1) ((((sl0 + 94) + 94) + 94) + 6) 333 [(0, vR a0), (1, vI a1), (2, vL a2)] [vL x131]
        refine g_ldc2 (v := (-9000000000000000001 : Int64)) ok d_La_refuses_333 tw_315 ?_
        refine g_lcmp ok d_La_refuses_336 ?_
        refine g_if_ne (tgt := 493) ok d_La_refuses_337 (by decide) (fun c132 => ?_) (fun c132 => ?_)
        · replace h := (if_pos c132).symm.trans h
          exact w_j_La_refuses_340 ok hse hret (by omega) (by omega) h hk
        · replace h := (if_neg c132).symm.trans h
          refine g_iconst (v := (0 : Int32)) ok d_La_refuses_493 (by decide) ?_
          cases h
          exact g_zretX ok (hret _ hk) (Or.inl rfl) (by omega) (by omega) d_La_refuses_494
      · replace h := (if_neg c127).symm.trans h
        refine g_iconst (v := (0 : Int32)) ok d_La_refuses_493 (by decide) ?_
        cases h
        exact g_zretX ok (hret _ hk) (Or.inl rfl) (by omega) (by omega) d_La_refuses_494
    · replace h := (if_neg c122).symm.trans h
      refine g_iconst (v := (0 : Int32)) ok d_La_refuses_493 (by decide) ?_
      cases h
      exact g_zretX ok (hret _ hk) (Or.inl rfl) (by omega) (by omega) d_La_refuses_494
  · replace h := (if_neg c117).symm.trans h
    refine g_iconst (v := (0 : Int32)) ok d_La_refuses_493 (by decide) ?_
    cases h
    exact g_zretX ok (hret _ hk) (Or.inl rfl) (by omega) (by omega) d_La_refuses_494
set_option maxRecDepth 100000 in
set_option maxHeartbeats 4000000 in
theorem w_j_La_refuses_257 {X : CX} {KX : Int32 × MS → Prop}  {a0 : Option Nat} {a1 : Int32} {a2 : Int64} {t0 : Int32} {s : MS} {ce0 sl0 : Nat} (ok : Ok X cL_refuses RL rm_La_refuses 5 true) (hse : SE X.2.2.2.1 X.1.2.2.2.2.1 ∧ X.1.2.1.stackTraces = false) (hret : ∀ r : Int32 × MS, KX r → Fix X (some .boolean) 48 601 true none (some (vI r.1)) r.2) (hc1 : ce0 + 24 ≤ 48) (hc2 : sl0 + 448 ≤ 601) {res : Int32 × MS} (h : j_La_refuses_257 a0 a1 a2 t0 s = some res) (hk : KX res) : G X s ce0 sl0 257 [(0, vR a0), (1, vI a1), (2, vL a2)] [vI t0] := by
  unfold j_La_refuses_257 at h
  refine g_istore (i := 4) [(4, vI t0), (0, vR a0), (1, vI a1), (2, vL a2)] ok d_La_refuses_257 (by decide) rfl ?_
  refine g_iload (i := 4) 0 ok d_La_refuses_259 rfl ?_
  refine g_if_eq (tgt := 493) ok d_La_refuses_261 (by decide) (fun c103 => ?_) (fun c103 => ?_)
  · replace h := (if_pos c103).symm.trans h
    refine g_iconst (v := (0 : Int32)) ok d_La_refuses_493 (by decide) ?_
    cases h
    exact g_zretX ok (hret _ hk) (Or.inl rfl) (by omega) (by omega) d_La_refuses_494
  · replace h := (if_neg c103).symm.trans h
    refine g_aload_n (i := 0) 1 ok d_La_refuses_264 rfl rfl ?_
    refine g_bipush (v := (10 : Int32)) ok d_La_refuses_265 (by decide) ?_
    refine g_iconst (v := (0 : Int32)) ok d_La_refuses_267 (by decide) ?_
    refine g_iconst (v := (0 : Int32)) ok d_La_refuses_268 (by decide) ?_
    refine g_sub [1, 2, 3] rfl ?_
    obtain ⟨k104, hk105, h⟩ := bnd_go h
    obtain ⟨x109, s108, hc107, h⟩ := bnd2_go h
    refine g_callW (rm2 := rm_La_file) (As := [vR a0, vI (10 : Int32), vI (0 : Int32), vI (0 : Int32)]) (rest := []) ok hse.1 (c_La_file hse.2 hc107) cm_La_file cs_La_file tw_474 ⟨rfl, rfl⟩ ⟨le_t rfl, le_t rfl⟩ ⟨rfl, le_t rfl⟩ ⟨(by show _ ≤ 48; omega), (by show _ ≤ 601; omega)⟩ ⟨(rk_of hk105), ⟨trivial, ⟨trivial, trivial⟩⟩⟩ trivial d_La_refuses_269 rfl (fun m106 => ?_)
    show G X s108 (ce0 + 3) (sl0 + 94) 272 [(0, vR a0), (1, vI a1), (2, vL a2)] [vL x109]
    refine g_ldc2 (v := (-9000000000000000001 : Int64)) ok d_La_refuses_272 tw_315 ?_
    refine g_lcmp ok d_La_refuses_275 ?_
    refine g_if_ne (tgt := 493) ok d_La_refuses_276 (by decide) (fun c110 => ?_) (fun c110 => ?_)
    · replace h := (if_pos c110).symm.trans h
      exact w_j_La_refuses_279 ok hse hret (by omega) (by omega) h hk
    · replace h := (if_neg c110).symm.trans h
      refine g_iconst (v := (0 : Int32)) ok d_La_refuses_493 (by decide) ?_
      cases h
      exact g_zretX ok (hret _ hk) (Or.inl rfl) (by omega) (by omega) d_La_refuses_494
set_option maxRecDepth 100000 in
set_option maxHeartbeats 4000000 in
theorem w_j_La_refuses_256 {X : CX} {KX : Int32 × MS → Prop}  {a0 : Option Nat} {a1 : Int32} {a2 : Int64} {s : MS} {ce0 sl0 : Nat} (ok : Ok X cL_refuses RL rm_La_refuses 5 true) (hse : SE X.2.2.2.1 X.1.2.2.2.2.1 ∧ X.1.2.1.stackTraces = false) (hret : ∀ r : Int32 × MS, KX r → Fix X (some .boolean) 48 601 true none (some (vI r.1)) r.2) (hc1 : ce0 + 24 ≤ 48) (hc2 : sl0 + 448 ≤ 601) {res : Int32 × MS} (h : j_La_refuses_256 a0 a1 a2 s = some res) (hk : KX res) : G X s ce0 sl0 256 [(0, vR a0), (1, vI a1), (2, vL a2)] [] := by
  unfold j_La_refuses_256 at h
  refine g_iconst (v := (0 : Int32)) ok d_La_refuses_256 (by decide) ?_
  exact w_j_La_refuses_257 ok hse hret (by omega) (by omega) h hk
set_option maxRecDepth 100000 in
set_option maxHeartbeats 4000000 in
theorem w_j_La_refuses_211 {X : CX} {KX : Int32 × MS → Prop}  {a0 : Option Nat} {a1 : Int32} {a2 : Int64} {s : MS} {ce0 sl0 : Nat} (ok : Ok X cL_refuses RL rm_La_refuses 5 true) (hse : SE X.2.2.2.1 X.1.2.2.2.2.1 ∧ X.1.2.1.stackTraces = false) (hret : ∀ r : Int32 × MS, KX r → Fix X (some .boolean) 48 601 true none (some (vI r.1)) r.2) (hc1 : ce0 + 27 ≤ 48) (hc2 : sl0 + 466 ≤ 601) {res : Int32 × MS} (h : j_La_refuses_211 a0 a1 a2 s = some res) (hk : KX res) : G X s ce0 sl0 211 [(0, vR a0), (1, vI a1), (2, vL a2)] [] := by
  unfold j_La_refuses_211 at h
  refine g_aload_n (i := 0) 0 ok d_La_refuses_211 rfl rfl ?_
  refine g_bipush (v := (7 : Int32)) ok d_La_refuses_212 (by decide) ?_
  refine g_iconst (v := (1 : Int32)) ok d_La_refuses_214 (by decide) ?_
  obtain ⟨k86, hk87, h⟩ := bnd_go h
  obtain ⟨x91, s90, hc89, h⟩ := bnd2_go h
  refine g_callW (rm2 := rm_La_move) (As := [vR a0, vI (7 : Int32), vI (1 : Int32)]) (rest := []) ok hse.1 (c_La_move hse.2 hc89) cm_La_move cs_La_move tw_731 ⟨rfl, rfl⟩ ⟨le_t rfl, le_t rfl⟩ ⟨rfl, le_t rfl⟩ ⟨(by show _ ≤ 48; omega), (by show _ ≤ 601; omega)⟩ ⟨(rk_of hk87), ⟨trivial, ⟨trivial, trivial⟩⟩⟩ trivial d_La_refuses_215 rfl (fun m88 => ?_)
  show G X s90 (ce0 + 1) (sl0 + 6) 218 [(0, vR a0), (1, vI a1), (2, vL a2)] [vL x91]
  refine g_ldc2 (v := (-9000000000000000002 : Int64)) ok d_La_refuses_218 tw_316 ?_
  refine g_lcmp ok d_La_refuses_221 ?_
  refine g_if_ne (tgt := 256) ok d_La_refuses_222 (by decide) (fun c92 => ?_) (fun c92 => ?_)
  · replace h := (if_pos c92).symm.trans h
    refine g_aload_n (i := 0) 0 ok d_La_refuses_225 rfl rfl ?_
    refine g_iconst (v := (0 : Int32)) ok d_La_refuses_226 (by decide) ?_
    refine g_bipush (v := (11 : Int32)) ok d_La_refuses_227 (by decide) ?_
    obtain ⟨x96, s95, hc94, h⟩ := bnd2_go h
    refine g_callW (rm2 := rm_La_move) (As := [vR a0, vI (0 : Int32), vI (11 : Int32)]) (rest := []) ok hse.1 (c_La_move hse.2 hc94) cm_La_move cs_La_move tw_731 ⟨rfl, rfl⟩ ⟨le_t rfl, le_t rfl⟩ ⟨rfl, le_t rfl⟩ ⟨(by show _ ≤ 48; omega), (by show _ ≤ 601; omega)⟩ ⟨(rk_of (rf_mono m88 hk87)), ⟨trivial, ⟨trivial, trivial⟩⟩⟩ trivial d_La_refuses_229 rfl (fun m93 => ?_)
    show G X s95 ((ce0 + 1) + 1) ((sl0 + 6) + 6) 232 [(0, vR a0), (1, vI a1), (2, vL a2)] [vL x96]
    refine g_ldc2 (v := (-9000000000000000002 : Int64)) ok d_La_refuses_232 tw_316 ?_
    refine g_lcmp ok d_La_refuses_235 ?_
    refine g_if_ne (tgt := 256) ok d_La_refuses_236 (by decide) (fun c97 => ?_) (fun c97 => ?_)
    · replace h := (if_pos c97).symm.trans h
      refine g_aload_n (i := 0) 0 ok d_La_refuses_239 rfl rfl ?_
      refine g_bipush (v := (10 : Int32)) ok d_La_refuses_240 (by decide) ?_
      obtain ⟨x101, s100, hc99, h⟩ := bnd2_go h
      refine g_callW (rm2 := rm_La_takes) (As := [vR a0, vI (10 : Int32)]) (rest := []) ok hse.1 (c_La_takes hse.2 hc99) cm_La_takes cs_La_takes tw_697 ⟨rfl, rfl⟩ ⟨le_t rfl, le_t rfl⟩ ⟨rfl, le_t rfl⟩ ⟨(by show _ ≤ 48; omega), (by show _ ≤ 601; omega)⟩ ⟨(rk_of (rf_mono m93 (rf_mono m88 hk87))), ⟨trivial, ⟨trivial, trivial⟩⟩⟩ trivial d_La_refuses_242 rfl (fun m98 => ?_)
      show G X s100 (((ce0 + 1) + 1) + 1) (((sl0 + 6) + 6) + 6) 245 [(0, vR a0), (1, vI a1), (2, vL a2)] [vL x101]
      refine g_ldc2 (v := (-9000000000000000001 : Int64)) ok d_La_refuses_245 tw_315 ?_
      refine g_lcmp ok d_La_refuses_248 ?_
      refine g_if_ne (tgt := 256) ok d_La_refuses_249 (by decide) (fun c102 => ?_) (fun c102 => ?_)
      · replace h := (if_pos c102).symm.trans h
        refine g_iconst (v := (1 : Int32)) ok d_La_refuses_252 (by decide) ?_
        refine g_goto (tgt := 257) ok d_La_refuses_253 (by decide) ?_
        exact w_j_La_refuses_257 ok hse hret (by omega) (by omega) h hk
      · replace h := (if_neg c102).symm.trans h
        exact w_j_La_refuses_256 ok hse hret (by omega) (by omega) h hk
    · replace h := (if_neg c97).symm.trans h
      exact w_j_La_refuses_256 ok hse hret (by omega) (by omega) h hk
  · replace h := (if_neg c92).symm.trans h
    exact w_j_La_refuses_256 ok hse hret (by omega) (by omega) h hk
set_option maxRecDepth 100000 in
set_option maxHeartbeats 4000000 in
theorem w_j_La_refuses_152 {X : CX} {KX : Int32 × MS → Prop}  {a0 : Option Nat} {a1 : Int32} {a2 : Int64} {s : MS} {ce0 sl0 : Nat} (ok : Ok X cL_refuses RL rm_La_refuses 5 true) (hse : SE X.2.2.2.1 X.1.2.2.2.2.1 ∧ X.1.2.1.stackTraces = false) (hret : ∀ r : Int32 × MS, KX r → Fix X (some .boolean) 48 601 true none (some (vI r.1)) r.2) (hc1 : ce0 + 34 ≤ 48) (hc2 : sl0 + 511 ≤ 601) {res : Int32 × MS} (h : j_La_refuses_152 a0 a1 a2 s = some res) (hk : KX res) : G X s ce0 sl0 152 [(0, vR a0), (1, vI a1), (2, vL a2)] [] := by
  unfold j_La_refuses_152 at h
  refine g_aload_n (i := 0) 0 ok d_La_refuses_152 rfl rfl ?_
  refine g_bipush (v := (10 : Int32)) ok d_La_refuses_153 (by decide) ?_
  obtain ⟨k64, hk65, h⟩ := bnd_go h
  obtain ⟨x69, s68, hc67, h⟩ := bnd2_go h
  refine g_callW (rm2 := rm_La_open) (As := [vR a0, vI (10 : Int32)]) (rest := []) ok hse.1 (c_La_open hse.2 hc67) cm_La_open cs_La_open tw_419 ⟨rfl, rfl⟩ ⟨le_t rfl, le_t rfl⟩ ⟨rfl, le_t rfl⟩ ⟨(by show _ ≤ 48; omega), (by show _ ≤ 601; omega)⟩ ⟨(rk_of hk65), ⟨trivial, ⟨trivial, trivial⟩⟩⟩ trivial d_La_refuses_155 rfl (fun m66 => ?_)
  show G X s68 (ce0 + 1) (sl0 + 6) 158 [(0, vR a0), (1, vI a1), (2, vL a2)] [vL x69]
  refine g_ldc2 (v := (-9000000000000000001 : Int64)) ok d_La_refuses_158 tw_315 ?_
  refine g_lcmp ok d_La_refuses_161 ?_
  refine g_if_ne (tgt := 256) ok d_La_refuses_162 (by decide) (fun c70 => ?_) (fun c70 => ?_)
  · replace h := (if_pos c70).symm.trans h
    refine g_aload_n (i := 0) 0 ok d_La_refuses_165 rfl rfl ?_
    refine g_iconst (v := (0 : Int32)) ok d_La_refuses_166 (by decide) ?_
    refine g_iconst (v := (-1 : Int32)) ok d_La_refuses_167 (by decide) ?_
    refine g_bipush (v := (20 : Int32)) ok d_La_refuses_168 (by decide) ?_
    obtain ⟨x74, s73, hc72, h⟩ := bnd2_go h
    refine g_callW (rm2 := rm_La_machine) (As := [vR a0, vI (0 : Int32), vI (-1 : Int32), vI (20 : Int32)]) (rest := []) ok hse.1 (c_La_machine hse.2 hc72) cm_La_machine cs_La_machine tw_432 ⟨rfl, rfl⟩ ⟨le_t rfl, le_t rfl⟩ ⟨rfl, le_t rfl⟩ ⟨(by show _ ≤ 48; omega), (by show _ ≤ 601; omega)⟩ ⟨(rk_of (rf_mono m66 hk65)), ⟨trivial, ⟨trivial, trivial⟩⟩⟩ trivial d_La_refuses_170 rfl (fun m71 => ?_)
    show G X s73 ((ce0 + 1) + 2) ((sl0 + 6) + 13) 173 [(0, vR a0), (1, vI a1), (2, vL a2)] [vL x74]
    refine g_ldc2 (v := (-9000000000000000001 : Int64)) ok d_La_refuses_173 tw_315 ?_
    refine g_lcmp ok d_La_refuses_176 ?_
    refine g_if_ne (tgt := 256) ok d_La_refuses_177 (by decide) (fun c75 => ?_) (fun c75 => ?_)
    · replace h := (if_pos c75).symm.trans h
      refine g_aload_n (i := 0) 0 ok d_La_refuses_180 rfl rfl ?_
      refine g_iconst (v := (4 : Int32)) ok d_La_refuses_181 (by decide) ?_
      refine g_iconst (v := (0 : Int32)) ok d_La_refuses_182 (by decide) ?_
      refine g_bipush (v := (20 : Int32)) ok d_La_refuses_183 (by decide) ?_
      obtain ⟨x79, s78, hc77, h⟩ := bnd2_go h
      refine g_callW (rm2 := rm_La_machine) (As := [vR a0, vI (4 : Int32), vI (0 : Int32), vI (20 : Int32)]) (rest := []) ok hse.1 (c_La_machine hse.2 hc77) cm_La_machine cs_La_machine tw_432 ⟨rfl, rfl⟩ ⟨le_t rfl, le_t rfl⟩ ⟨rfl, le_t rfl⟩ ⟨(by show _ ≤ 48; omega), (by show _ ≤ 601; omega)⟩ ⟨(rk_of (rf_mono m71 (rf_mono m66 hk65))), ⟨trivial, ⟨trivial, trivial⟩⟩⟩ trivial d_La_refuses_185 rfl (fun m76 => ?_)
      show G X s78 (((ce0 + 1) + 2) + 2) (((sl0 + 6) + 13) + 13) 188 [(0, vR a0), (1, vI a1), (2, vL a2)] [vL x79]
      refine g_ldc2 (v := (-9000000000000000002 : Int64)) ok d_La_refuses_188 tw_316 ?_
      refine g_lcmp ok d_La_refuses_191 ?_
      refine g_if_ne (tgt := 256) ok d_La_refuses_192 (by decide) (fun c80 => ?_) (fun c80 => ?_)
      · replace h := (if_pos c80).symm.trans h
        refine g_aload_n (i := 0) 0 ok d_La_refuses_195 rfl rfl ?_
        refine g_iconst (v := (0 : Int32)) ok d_La_refuses_196 (by decide) ?_
        refine g_iconst (v := (0 : Int32)) ok d_La_refuses_197 (by decide) ?_
        refine g_sipush (v := (201 : Int32)) ok d_La_refuses_198 (by decide) ?_
        obtain ⟨x84, s83, hc82, h⟩ := bnd2_go h
        refine g_callW (rm2 := rm_La_machine) (As := [vR a0, vI (0 : Int32), vI (0 : Int32), vI (201 : Int32)]) (rest := []) ok hse.1 (c_La_machine hse.2 hc82) cm_La_machine cs_La_machine tw_432 ⟨rfl, rfl⟩ ⟨le_t rfl, le_t rfl⟩ ⟨rfl, le_t rfl⟩ ⟨(by show _ ≤ 48; omega), (by show _ ≤ 601; omega)⟩ ⟨(rk_of (rf_mono m76 (rf_mono m71 (rf_mono m66 hk65)))), ⟨trivial, ⟨trivial, trivial⟩⟩⟩ trivial d_La_refuses_201 rfl (fun m81 => ?_)
        show G X s83 ((((ce0 + 1) + 2) + 2) + 2) ((((sl0 + 6) + 13) + 13) + 13) 204 [(0, vR a0), (1, vI a1), (2, vL a2)] [vL x84]
        refine g_ldc2 (v := (-9000000000000000002 : Int64)) ok d_La_refuses_204 tw_316 ?_
        refine g_lcmp ok d_La_refuses_207 ?_
        refine g_if_ne (tgt := 256) ok d_La_refuses_208 (by decide) (fun c85 => ?_) (fun c85 => ?_)
        · replace h := (if_pos c85).symm.trans h
          exact w_j_La_refuses_211 ok hse hret (by omega) (by omega) h hk
        · replace h := (if_neg c85).symm.trans h
          exact w_j_La_refuses_256 ok hse hret (by omega) (by omega) h hk
      · replace h := (if_neg c80).symm.trans h
        exact w_j_La_refuses_256 ok hse hret (by omega) (by omega) h hk
    · replace h := (if_neg c75).symm.trans h
      exact w_j_La_refuses_256 ok hse hret (by omega) (by omega) h hk
  · replace h := (if_neg c70).symm.trans h
    exact w_j_La_refuses_256 ok hse hret (by omega) (by omega) h hk
set_option maxRecDepth 100000 in
set_option maxHeartbeats 4000000 in
theorem w_j_La_refuses_89 {X : CX} {KX : Int32 × MS → Prop}  {a0 : Option Nat} {a1 : Int32} {a2 : Int64} {s : MS} {ce0 sl0 : Nat} (ok : Ok X cL_refuses RL rm_La_refuses 5 true) (hse : SE X.2.2.2.1 X.1.2.2.2.2.1 ∧ X.1.2.1.stackTraces = false) (hret : ∀ r : Int32 × MS, KX r → Fix X (some .boolean) 48 601 true none (some (vI r.1)) r.2) (hc1 : ce0 + 41 ≤ 48) (hc2 : sl0 + 559 ≤ 601) {res : Int32 × MS} (h : j_La_refuses_89 a0 a1 a2 s = some res) (hk : KX res) : G X s ce0 sl0 89 [(0, vR a0), (1, vI a1), (2, vL a2)] [] := by
  unfold j_La_refuses_89 at h
  refine g_aload_n (i := 0) 0 ok d_La_refuses_89 rfl rfl ?_
  refine g_iconst (v := (1 : Int32)) ok d_La_refuses_90 (by decide) ?_
  refine g_bipush (v := (6 : Int32)) ok d_La_refuses_91 (by decide) ?_
  obtain ⟨k42, hk43, h⟩ := bnd_go h
  obtain ⟨x47, s46, hc45, h⟩ := bnd2_go h
  refine g_callW (rm2 := rm_La_gust) (As := [vR a0, vI (1 : Int32), vI (6 : Int32)]) (rest := []) ok hse.1 (c_La_gust hse.2 hc45) cm_La_gust cs_La_gust tw_347 ⟨rfl, rfl⟩ ⟨le_t rfl, le_t rfl⟩ ⟨rfl, le_t rfl⟩ ⟨(by show _ ≤ 48; omega), (by show _ ≤ 601; omega)⟩ ⟨(rk_of hk43), ⟨trivial, ⟨trivial, trivial⟩⟩⟩ trivial d_La_refuses_93 rfl (fun m44 => ?_)
  show G X s46 (ce0 + 1) (sl0 + 6) 96 [(0, vR a0), (1, vI a1), (2, vL a2)] [vL x47]
  refine g_ldc2 (v := (-9000000000000000002 : Int64)) ok d_La_refuses_96 tw_316 ?_
  refine g_lcmp ok d_La_refuses_99 ?_
  refine g_if_ne (tgt := 256) ok d_La_refuses_100 (by decide) (fun c48 => ?_) (fun c48 => ?_)
  · replace h := (if_pos c48).symm.trans h
    refine g_aload_n (i := 0) 0 ok d_La_refuses_103 rfl rfl ?_
    refine g_bipush (v := (100 : Int32)) ok d_La_refuses_104 (by decide) ?_
    refine g_iconst (v := (0 : Int32)) ok d_La_refuses_106 (by decide) ?_
    refine g_iconst (v := (1 : Int32)) ok d_La_refuses_107 (by decide) ?_
    refine g_iconst (v := (0 : Int32)) ok d_La_refuses_108 (by decide) ?_
    refine g_iconst (v := (0 : Int32)) ok d_La_refuses_109 (by decide) ?_
    obtain ⟨x52, s51, hc50, h⟩ := bnd2_go h
    refine g_callW (rm2 := rm_La_close) (As := [vR a0, vI (100 : Int32), vI (0 : Int32), vI (1 : Int32), vI (0 : Int32), vI (0 : Int32)]) (rest := []) ok hse.1 (c_La_close hse.2 hc50) cm_La_close cs_La_close tw_355 ⟨rfl, rfl⟩ ⟨le_t rfl, le_t rfl⟩ ⟨rfl, le_t rfl⟩ ⟨(by show _ ≤ 48; omega), (by show _ ≤ 601; omega)⟩ ⟨(rk_of (rf_mono m44 hk43)), ⟨trivial, ⟨trivial, trivial⟩⟩⟩ trivial d_La_refuses_110 rfl (fun m49 => ?_)
    show G X s51 ((ce0 + 1) + 2) ((sl0 + 6) + 14) 113 [(0, vR a0), (1, vI a1), (2, vL a2)] [vL x52]
    refine g_ldc2 (v := (-9000000000000000001 : Int64)) ok d_La_refuses_113 tw_315 ?_
    refine g_lcmp ok d_La_refuses_116 ?_
    refine g_if_ne (tgt := 256) ok d_La_refuses_117 (by decide) (fun c53 => ?_) (fun c53 => ?_)
    · replace h := (if_pos c53).symm.trans h
      refine g_aload_n (i := 0) 0 ok d_La_refuses_120 rfl rfl ?_
      refine g_iconst (v := (0 : Int32)) ok d_La_refuses_121 (by decide) ?_
      refine g_iconst (v := (0 : Int32)) ok d_La_refuses_122 (by decide) ?_
      refine g_iconst (v := (4 : Int32)) ok d_La_refuses_123 (by decide) ?_
      refine g_iconst (v := (0 : Int32)) ok d_La_refuses_124 (by decide) ?_
      refine g_iconst (v := (0 : Int32)) ok d_La_refuses_125 (by decide) ?_
      obtain ⟨x57, s56, hc55, h⟩ := bnd2_go h
      refine g_callW (rm2 := rm_La_close) (As := [vR a0, vI (0 : Int32), vI (0 : Int32), vI (4 : Int32), vI (0 : Int32), vI (0 : Int32)]) (rest := []) ok hse.1 (c_La_close hse.2 hc55) cm_La_close cs_La_close tw_355 ⟨rfl, rfl⟩ ⟨le_t rfl, le_t rfl⟩ ⟨rfl, le_t rfl⟩ ⟨(by show _ ≤ 48; omega), (by show _ ≤ 601; omega)⟩ ⟨(rk_of (rf_mono m49 (rf_mono m44 hk43))), ⟨trivial, ⟨trivial, trivial⟩⟩⟩ trivial d_La_refuses_126 rfl (fun m54 => ?_)
      show G X s56 (((ce0 + 1) + 2) + 2) (((sl0 + 6) + 14) + 14) 129 [(0, vR a0), (1, vI a1), (2, vL a2)] [vL x57]
      refine g_ldc2 (v := (-9000000000000000002 : Int64)) ok d_La_refuses_129 tw_316 ?_
      refine g_lcmp ok d_La_refuses_132 ?_
      refine g_if_ne (tgt := 256) ok d_La_refuses_133 (by decide) (fun c58 => ?_) (fun c58 => ?_)
      · replace h := (if_pos c58).symm.trans h
        refine g_aload_n (i := 0) 0 ok d_La_refuses_136 rfl rfl ?_
        refine g_iconst (v := (0 : Int32)) ok d_La_refuses_137 (by decide) ?_
        refine g_iconst (v := (0 : Int32)) ok d_La_refuses_138 (by decide) ?_
        refine g_iconst (v := (1 : Int32)) ok d_La_refuses_139 (by decide) ?_
        refine g_iconst (v := (5 : Int32)) ok d_La_refuses_140 (by decide) ?_
        refine g_iconst (v := (4 : Int32)) ok d_La_refuses_141 (by decide) ?_
        obtain ⟨x62, s61, hc60, h⟩ := bnd2_go h
        refine g_callW (rm2 := rm_La_close) (As := [vR a0, vI (0 : Int32), vI (0 : Int32), vI (1 : Int32), vI (5 : Int32), vI (4 : Int32)]) (rest := []) ok hse.1 (c_La_close hse.2 hc60) cm_La_close cs_La_close tw_355 ⟨rfl, rfl⟩ ⟨le_t rfl, le_t rfl⟩ ⟨rfl, le_t rfl⟩ ⟨(by show _ ≤ 48; omega), (by show _ ≤ 601; omega)⟩ ⟨(rk_of (rf_mono m54 (rf_mono m49 (rf_mono m44 hk43)))), ⟨trivial, ⟨trivial, trivial⟩⟩⟩ trivial d_La_refuses_142 rfl (fun m59 => ?_)
        show G X s61 ((((ce0 + 1) + 2) + 2) + 2) ((((sl0 + 6) + 14) + 14) + 14) 145 [(0, vR a0), (1, vI a1), (2, vL a2)] [vL x62]
        refine g_ldc2 (v := (-9000000000000000002 : Int64)) ok d_La_refuses_145 tw_316 ?_
        refine g_lcmp ok d_La_refuses_148 ?_
        refine g_if_ne (tgt := 256) ok d_La_refuses_149 (by decide) (fun c63 => ?_) (fun c63 => ?_)
        · replace h := (if_pos c63).symm.trans h
          exact w_j_La_refuses_152 ok hse hret (by omega) (by omega) h hk
        · replace h := (if_neg c63).symm.trans h
          exact w_j_La_refuses_256 ok hse hret (by omega) (by omega) h hk
      · replace h := (if_neg c58).symm.trans h
        exact w_j_La_refuses_256 ok hse hret (by omega) (by omega) h hk
    · replace h := (if_neg c53).symm.trans h
      exact w_j_La_refuses_256 ok hse hret (by omega) (by omega) h hk
  · replace h := (if_neg c48).symm.trans h
    exact w_j_La_refuses_256 ok hse hret (by omega) (by omega) h hk
set_option maxRecDepth 100000 in
set_option maxHeartbeats 4000000 in
theorem w_j_La_refuses_38 {X : CX} {KX : Int32 × MS → Prop}  {a0 : Option Nat} {a1 : Int32} {a2 : Int64} {s : MS} {ce0 sl0 : Nat} (ok : Ok X cL_refuses RL rm_La_refuses 5 true) (hse : SE X.2.2.2.1 X.1.2.2.2.2.1 ∧ X.1.2.1.stackTraces = false) (hret : ∀ r : Int32 × MS, KX r → Fix X (some .boolean) 48 601 true none (some (vI r.1)) r.2) (hc1 : ce0 + 45 ≤ 48) (hc2 : sl0 + 583 ≤ 601) {res : Int32 × MS} (h : j_La_refuses_38 a0 a1 a2 s = some res) (hk : KX res) : G X s ce0 sl0 38 [(0, vR a0), (1, vI a1), (2, vL a2)] [] := by
  unfold j_La_refuses_38 at h
  refine g_aload_n (i := 0) 0 ok d_La_refuses_38 rfl rfl ?_
  refine g_iconst (v := (-1 : Int32)) ok d_La_refuses_39 (by decide) ?_
  obtain ⟨k20, hk21, h⟩ := bnd_go h
  obtain ⟨x25, s24, hc23, h⟩ := bnd2_go h
  refine g_callW (rm2 := rm_La_spot) (As := [vR a0, vI (-1 : Int32)]) (rest := []) ok hse.1 (c_La_spot hse.2 hc23) cm_La_spot cs_La_spot tw_318 ⟨rfl, rfl⟩ ⟨le_t rfl, le_t rfl⟩ ⟨rfl, le_t rfl⟩ ⟨(by show _ ≤ 48; omega), (by show _ ≤ 601; omega)⟩ ⟨(rk_of hk21), ⟨trivial, ⟨trivial, trivial⟩⟩⟩ trivial d_La_refuses_40 rfl (fun m22 => ?_)
  show G X s24 (ce0 + 1) (sl0 + 6) 43 [(0, vR a0), (1, vI a1), (2, vL a2)] [vL x25]
  refine g_ldc2 (v := (-9000000000000000001 : Int64)) ok d_La_refuses_43 tw_315 ?_
  refine g_lcmp ok d_La_refuses_46 ?_
  refine g_if_ne (tgt := 256) ok d_La_refuses_47 (by decide) (fun c26 => ?_) (fun c26 => ?_)
  · replace h := (if_pos c26).symm.trans h
    refine g_aload_n (i := 0) 0 ok d_La_refuses_50 rfl rfl ?_
    refine g_iconst (v := (4 : Int32)) ok d_La_refuses_51 (by decide) ?_
    refine g_iconst (v := (0 : Int32)) ok d_La_refuses_52 (by decide) ?_
    obtain ⟨x30, s29, hc28, h⟩ := bnd2_go h
    refine g_callW (rm2 := rm_La_wind) (As := [vR a0, vI (4 : Int32), vI (0 : Int32)]) (rest := []) ok hse.1 (c_La_wind hse.2 hc28) cm_La_wind cs_La_wind tw_330 ⟨rfl, rfl⟩ ⟨le_t rfl, le_t rfl⟩ ⟨rfl, le_t rfl⟩ ⟨(by show _ ≤ 48; omega), (by show _ ≤ 601; omega)⟩ ⟨(rk_of (rf_mono m22 hk21)), ⟨trivial, ⟨trivial, trivial⟩⟩⟩ trivial d_La_refuses_53 rfl (fun m27 => ?_)
    show G X s29 ((ce0 + 1) + 1) ((sl0 + 6) + 6) 56 [(0, vR a0), (1, vI a1), (2, vL a2)] [vL x30]
    refine g_ldc2 (v := (-9000000000000000002 : Int64)) ok d_La_refuses_56 tw_316 ?_
    refine g_lcmp ok d_La_refuses_59 ?_
    refine g_if_ne (tgt := 256) ok d_La_refuses_60 (by decide) (fun c31 => ?_) (fun c31 => ?_)
    · replace h := (if_pos c31).symm.trans h
      refine g_aload_n (i := 0) 0 ok d_La_refuses_63 rfl rfl ?_
      refine g_iconst (v := (1 : Int32)) ok d_La_refuses_64 (by decide) ?_
      refine g_iconst (v := (4 : Int32)) ok d_La_refuses_65 (by decide) ?_
      obtain ⟨x35, s34, hc33, h⟩ := bnd2_go h
      refine g_callW (rm2 := rm_La_wind) (As := [vR a0, vI (1 : Int32), vI (4 : Int32)]) (rest := []) ok hse.1 (c_La_wind hse.2 hc33) cm_La_wind cs_La_wind tw_330 ⟨rfl, rfl⟩ ⟨le_t rfl, le_t rfl⟩ ⟨rfl, le_t rfl⟩ ⟨(by show _ ≤ 48; omega), (by show _ ≤ 601; omega)⟩ ⟨(rk_of (rf_mono m27 (rf_mono m22 hk21))), ⟨trivial, ⟨trivial, trivial⟩⟩⟩ trivial d_La_refuses_66 rfl (fun m32 => ?_)
      show G X s34 (((ce0 + 1) + 1) + 1) (((sl0 + 6) + 6) + 6) 69 [(0, vR a0), (1, vI a1), (2, vL a2)] [vL x35]
      refine g_ldc2 (v := (-9000000000000000002 : Int64)) ok d_La_refuses_69 tw_316 ?_
      refine g_lcmp ok d_La_refuses_72 ?_
      refine g_if_ne (tgt := 256) ok d_La_refuses_73 (by decide) (fun c36 => ?_) (fun c36 => ?_)
      · replace h := (if_pos c36).symm.trans h
        refine g_aload_n (i := 0) 0 ok d_La_refuses_76 rfl rfl ?_
        refine g_iconst (v := (0 : Int32)) ok d_La_refuses_77 (by decide) ?_
        refine g_iconst (v := (0 : Int32)) ok d_La_refuses_78 (by decide) ?_
        obtain ⟨x40, s39, hc38, h⟩ := bnd2_go h
        refine g_callW (rm2 := rm_La_gust) (As := [vR a0, vI (0 : Int32), vI (0 : Int32)]) (rest := []) ok hse.1 (c_La_gust hse.2 hc38) cm_La_gust cs_La_gust tw_347 ⟨rfl, rfl⟩ ⟨le_t rfl, le_t rfl⟩ ⟨rfl, le_t rfl⟩ ⟨(by show _ ≤ 48; omega), (by show _ ≤ 601; omega)⟩ ⟨(rk_of (rf_mono m32 (rf_mono m27 (rf_mono m22 hk21)))), ⟨trivial, ⟨trivial, trivial⟩⟩⟩ trivial d_La_refuses_79 rfl (fun m37 => ?_)
        show G X s39 ((((ce0 + 1) + 1) + 1) + 1) ((((sl0 + 6) + 6) + 6) + 6) 82 [(0, vR a0), (1, vI a1), (2, vL a2)] [vL x40]
        refine g_ldc2 (v := (-9000000000000000002 : Int64)) ok d_La_refuses_82 tw_316 ?_
        refine g_lcmp ok d_La_refuses_85 ?_
        refine g_if_ne (tgt := 256) ok d_La_refuses_86 (by decide) (fun c41 => ?_) (fun c41 => ?_)
        · replace h := (if_pos c41).symm.trans h
          exact w_j_La_refuses_89 ok hse hret (by omega) (by omega) h hk
        · replace h := (if_neg c41).symm.trans h
          exact w_j_La_refuses_256 ok hse hret (by omega) (by omega) h hk
      · replace h := (if_neg c36).symm.trans h
        exact w_j_La_refuses_256 ok hse hret (by omega) (by omega) h hk
    · replace h := (if_neg c31).symm.trans h
      exact w_j_La_refuses_256 ok hse hret (by omega) (by omega) h hk
  · replace h := (if_neg c26).symm.trans h
    exact w_j_La_refuses_256 ok hse hret (by omega) (by omega) h hk
set_option maxRecDepth 100000 in
set_option maxHeartbeats 4000000 in
theorem w_La_refuses {X : CX} {KX : Int32 × MS → Prop} {a0 : Option Nat} {s : MS} (ok : Ok X cL_refuses RL rm_La_refuses 5 true)  (hret : ∀ r : Int32 × MS, KX r → Fix X (some .boolean) 48 601 true none (some (vI r.1)) r.2) {res : Int32 × MS} (h : f_La_refuses a0 s = some res) (hk : KX res) : G X s 0 0 0 [(0, vR a0)] [] := by
  have hse : SE X.2.2.2.1 X.1.2.2.2.2.1 ∧ X.1.2.1.stackTraces = false := ⟨(hret _ hk).2.2.2.2.1, (hret _ hk).2.2.2.1⟩
  unfold f_La_refuses at h
  refine g_aload_n (i := 0) 0 ok d_La_refuses_0 rfl rfl ?_
  obtain ⟨k1, hk2, h⟩ := bnd_go h
  obtain ⟨x4, hc5, h⟩ := bnd_go h
  refine g_invV (rm2 := rm_Sk_time) (As := []) (rest := []) ok hk2 lay_0 rfl (c_Sk_time X.1.2.1 (rf_self hk2) hc5) cm_Sk_time cv_Sk_time tw_133 ⟨rfl, rfl⟩ ⟨le_t rfl, le_t rfl⟩ ⟨rfl, le_t rfl⟩ ⟨(by show _ ≤ 48; omega), (by show _ ≤ 601; omega)⟩ d_La_refuses_1 rfl (fun m3 => ?_)
  show G X s 0 0 4 [(0, vR a0)] [vI x4]
  refine g_istore_n (i := 1) [(1, vI x4), (0, vR a0)] ok d_La_refuses_4 rfl (by decide) rfl ?_
  refine g_aload_n (i := 0) 1 ok d_La_refuses_5 rfl rfl ?_
  refine g_iconst (v := (1 : Int32)) ok d_La_refuses_6 (by decide) ?_
  obtain ⟨x9, s8, hc7, h⟩ := bnd2_go h
  refine g_callW (rm2 := rm_La_count) (As := [vR a0, vI (1 : Int32)]) (rest := []) ok hse.1 (c_La_count hse.2 hc7) cm_La_count cs_La_count tw_665 ⟨rfl, rfl⟩ ⟨le_t rfl, le_t rfl⟩ ⟨rfl, le_t rfl⟩ ⟨(by show _ ≤ 48; omega), (by show _ ≤ 601; omega)⟩ ⟨trivial, ⟨(rk_of hk2), trivial⟩⟩ trivial d_La_refuses_7 rfl (fun m6 => ?_)
  show G X s8 (0 + 1) (0 + 6) 10 [(1, vI x4), (0, vR a0)] [vL x9]
  refine g_lstore_n (i := 2) [(2, vL x9), (1, vI x4), (0, vR a0)] ok d_La_refuses_10 rfl (by decide) rfl ?_
  refine g_aload_n (i := 0) 2 ok d_La_refuses_11 rfl rfl ?_
  refine g_bipush (v := (100 : Int32)) ok d_La_refuses_12 (by decide) ?_
  refine g_iconst (v := (0 : Int32)) ok d_La_refuses_14 (by decide) ?_
  obtain ⟨x13, s12, hc11, h⟩ := bnd2_go h
  refine g_callW (rm2 := rm_La_tower) (As := [vR a0, vI (100 : Int32), vI (0 : Int32)]) (rest := []) ok hse.1 (c_La_tower hse.2 hc11) cm_La_tower cs_La_tower tw_190 ⟨rfl, rfl⟩ ⟨le_t rfl, le_t rfl⟩ ⟨rfl, le_t rfl⟩ ⟨(by show _ ≤ 48; omega), (by show _ ≤ 601; omega)⟩ ⟨trivial, ⟨trivial, ⟨(rk_of (rf_mono m6 hk2)), trivial⟩⟩⟩ trivial d_La_refuses_15 rfl (fun m10 => ?_)
  show G X s12 ((0 + 1) + 1) ((0 + 6) + 6) 18 [(2, vL x9), (1, vI x4), (0, vR a0)] [vL x13]
  refine g_ldc2 (v := (-9000000000000000001 : Int64)) ok d_La_refuses_18 tw_315 ?_
  refine g_lcmp ok d_La_refuses_21 ?_
  refine g_if_ne (tgt := 256) ok d_La_refuses_22 (by decide) (fun c14 => ?_) (fun c14 => ?_)
  · replace h := (if_pos c14).symm.trans h
    refine g_aload_n (i := 0) 2 ok d_La_refuses_25 rfl rfl ?_
    refine g_iconst (v := (0 : Int32)) ok d_La_refuses_26 (by decide) ?_
    refine g_iconst (v := (4 : Int32)) ok d_La_refuses_27 (by decide) ?_
    obtain ⟨x18, s17, hc16, h⟩ := bnd2_go h
    refine g_callW (rm2 := rm_La_tower) (As := [vR a0, vI (0 : Int32), vI (4 : Int32)]) (rest := []) ok hse.1 (c_La_tower hse.2 hc16) cm_La_tower cs_La_tower tw_190 ⟨rfl, rfl⟩ ⟨le_t rfl, le_t rfl⟩ ⟨rfl, le_t rfl⟩ ⟨(by show _ ≤ 48; omega), (by show _ ≤ 601; omega)⟩ ⟨trivial, ⟨trivial, ⟨(rk_of (rf_mono m10 (rf_mono m6 hk2))), trivial⟩⟩⟩ trivial d_La_refuses_28 rfl (fun m15 => ?_)
    show G X s17 (((0 + 1) + 1) + 1) (((0 + 6) + 6) + 6) 31 [(2, vL x9), (1, vI x4), (0, vR a0)] [vL x18]
    refine g_ldc2 (v := (-9000000000000000002 : Int64)) ok d_La_refuses_31 tw_316 ?_
    refine g_lcmp ok d_La_refuses_34 ?_
    refine g_if_ne (tgt := 256) ok d_La_refuses_35 (by decide) (fun c19 => ?_) (fun c19 => ?_)
    · replace h := (if_pos c19).symm.trans h
      refine g_sub [2, 1, 0] rfl ?_
      exact w_j_La_refuses_38 ok hse hret (by omega) (by omega) h hk
    · replace h := (if_neg c19).symm.trans h
      refine g_sub [2, 1, 0] rfl ?_
      exact w_j_La_refuses_256 ok hse hret (by omega) (by omega) h hk
  · replace h := (if_neg c14).symm.trans h
    refine g_sub [2, 1, 0] rfl ?_
    exact w_j_La_refuses_256 ok hse hret (by omega) (by omega) h hk
theorem c_La_refuses {l : Launch} (hl : l.stackTraces = false) {a0 : Option Nat} {s : MS} {r : Int32} {z : MS} (h : f_La_refuses a0 s = some (r, z)) : Cx l yL_refuses (.code yL_refuses cL_refuses 5 (some .boolean)) rm_La_refuses 48 601 true [vR a0] s none (some (vI r)) z :=
  Cx.of hl rfl (by decide +kernel) ⟨rfl, le_t rfl⟩ (fun X ok fn _ _ => w_La_refuses (KX := fun y => y = (r, z)) ok (fun y hy => by subst hy; exact fn) h rfl)
abbrev rm_La_drafts : Room := { frames := 8, cells := 5, slots := 30, locals := 136 }
theorem cm_La_drafts : cfM yL_drafts cL_drafts 7 none 4 := ⟨tw_757, tw_0, by decide, by decide, by decide +kernel⟩
theorem cs_La_drafts : cfS yL_drafts := tw_756
theorem d_La_drafts_0 : decode cL_drafts 0 = .ok (.iconst 1, 1) := by decide +kernel
theorem d_La_drafts_1 : decode cL_drafts 1 = .ok (.iload_n 3, 1) := by decide +kernel
theorem d_La_drafts_2 : decode cL_drafts 2 = .ok (.iconst 3, 1) := by decide +kernel
theorem d_La_drafts_3 : decode cL_drafts 3 = .ok (.irem, 1) := by decide +kernel
theorem d_La_drafts_4 : decode cL_drafts 4 = .ok (.iadd, 1) := by decide +kernel
theorem d_La_drafts_5 : decode cL_drafts 5 = .ok (.istore 4, 2) := by decide +kernel
theorem d_La_drafts_7 : decode cL_drafts 7 = .ok (.iload_n 2, 1) := by decide +kernel
theorem d_La_drafts_8 : decode cL_drafts 8 = .ok (.bipush 10, 2) := by decide +kernel
theorem d_La_drafts_10 : decode cL_drafts 10 = .ok (.irem, 1) := by decide +kernel
theorem d_La_drafts_11 : decode cL_drafts 11 = .ok (.iload_n 1, 1) := by decide +kernel
theorem d_La_drafts_12 : decode cL_drafts 12 = .ok (.bipush 10, 2) := by decide +kernel
theorem d_La_drafts_14 : decode cL_drafts 14 = .ok (.irem, 1) := by decide +kernel
theorem d_La_drafts_15 : decode cL_drafts 15 = .ok (.isub, 1) := by decide +kernel
theorem d_La_drafts_16 : decode cL_drafts 16 = .ok (.istore 5, 2) := by decide +kernel
theorem d_La_drafts_18 : decode cL_drafts 18 = .ok (.iload_n 2, 1) := by decide +kernel
theorem d_La_drafts_19 : decode cL_drafts 19 = .ok (.bipush 10, 2) := by decide +kernel
theorem d_La_drafts_21 : decode cL_drafts 21 = .ok (.idiv, 1) := by decide +kernel
theorem d_La_drafts_22 : decode cL_drafts 22 = .ok (.iload_n 1, 1) := by decide +kernel
theorem d_La_drafts_23 : decode cL_drafts 23 = .ok (.bipush 10, 2) := by decide +kernel
theorem d_La_drafts_25 : decode cL_drafts 25 = .ok (.idiv, 1) := by decide +kernel
theorem d_La_drafts_26 : decode cL_drafts 26 = .ok (.isub, 1) := by decide +kernel
theorem d_La_drafts_27 : decode cL_drafts 27 = .ok (.istore 6, 2) := by decide +kernel
theorem d_La_drafts_29 : decode cL_drafts 29 = .ok (.aload_n 0, 1) := by decide +kernel
theorem d_La_drafts_30 : decode cL_drafts 30 = .ok (.invokevirtual 156, 3) := by decide +kernel
theorem d_La_drafts_33 : decode cL_drafts 33 = .ok (.pop, 1) := by decide +kernel
theorem d_La_drafts_34 : decode cL_drafts 34 = .ok (.aload_n 0, 1) := by decide +kernel
theorem d_La_drafts_35 : decode cL_drafts 35 = .ok (.iconst 5, 1) := by decide +kernel
theorem d_La_drafts_36 : decode cL_drafts 36 = .ok (.iload 4, 2) := by decide +kernel
theorem d_La_drafts_38 : decode cL_drafts 38 = .ok (.invokestatic 142, 3) := by decide +kernel
theorem d_La_drafts_41 : decode cL_drafts 41 = .ok (.pop2, 1) := by decide +kernel
theorem d_La_drafts_42 : decode cL_drafts 42 = .ok (.iload 5, 2) := by decide +kernel
theorem d_La_drafts_44 : decode cL_drafts 44 = .ok (.ifCond .eq 31, 3) := by decide +kernel
theorem d_La_drafts_47 : decode cL_drafts 47 = .ok (.aload_n 0, 1) := by decide +kernel
theorem d_La_drafts_48 : decode cL_drafts 48 = .ok (.iload 5, 2) := by decide +kernel
theorem d_La_drafts_50 : decode cL_drafts 50 = .ok (.ifCond .le 7, 3) := by decide +kernel
theorem d_La_drafts_53 : decode cL_drafts 53 = .ok (.iconst 1, 1) := by decide +kernel
theorem d_La_drafts_54 : decode cL_drafts 54 = .ok (.goto 4, 3) := by decide +kernel
theorem d_La_drafts_57 : decode cL_drafts 57 = .ok (.iconst 2, 1) := by decide +kernel
theorem d_La_drafts_58 : decode cL_drafts 58 = .ok (.iload 5, 2) := by decide +kernel
theorem d_La_drafts_60 : decode cL_drafts 60 = .ok (.ifCond .le 8, 3) := by decide +kernel
theorem d_La_drafts_63 : decode cL_drafts 63 = .ok (.iload 5, 2) := by decide +kernel
theorem d_La_drafts_65 : decode cL_drafts 65 = .ok (.goto 6, 3) := by decide +kernel
theorem d_La_drafts_68 : decode cL_drafts 68 = .ok (.iload 5, 2) := by decide +kernel
theorem d_La_drafts_70 : decode cL_drafts 70 = .ok (.ineg, 1) := by decide +kernel
theorem d_La_drafts_71 : decode cL_drafts 71 = .ok (.invokestatic 142, 3) := by decide +kernel
theorem d_La_drafts_74 : decode cL_drafts 74 = .ok (.pop2, 1) := by decide +kernel
theorem d_La_drafts_75 : decode cL_drafts 75 = .ok (.iload_n 3, 1) := by decide +kernel
theorem d_La_drafts_76 : decode cL_drafts 76 = .ok (.iconst 4, 1) := by decide +kernel
theorem d_La_drafts_77 : decode cL_drafts 77 = .ok (.idiv, 1) := by decide +kernel
theorem d_La_drafts_78 : decode cL_drafts 78 = .ok (.iconst 3, 1) := by decide +kernel
theorem d_La_drafts_79 : decode cL_drafts 79 = .ok (.irem, 1) := by decide +kernel
theorem d_La_drafts_80 : decode cL_drafts 80 = .ok (.ifCond .ne 17, 3) := by decide +kernel
theorem d_La_drafts_83 : decode cL_drafts 83 = .ok (.aload_n 0, 1) := by decide +kernel
theorem d_La_drafts_84 : decode cL_drafts 84 = .ok (.iconst 0, 1) := by decide +kernel
theorem d_La_drafts_85 : decode cL_drafts 85 = .ok (.iconst 1, 1) := by decide +kernel
theorem d_La_drafts_86 : decode cL_drafts 86 = .ok (.iload_n 3, 1) := by decide +kernel
theorem d_La_drafts_87 : decode cL_drafts 87 = .ok (.bipush 16, 2) := by decide +kernel
theorem d_La_drafts_89 : decode cL_drafts 89 = .ok (.idiv, 1) := by decide +kernel
theorem d_La_drafts_90 : decode cL_drafts 90 = .ok (.iconst 4, 1) := by decide +kernel
theorem d_La_drafts_91 : decode cL_drafts 91 = .ok (.irem, 1) := by decide +kernel
theorem d_La_drafts_92 : decode cL_drafts 92 = .ok (.iadd, 1) := by decide +kernel
theorem d_La_drafts_93 : decode cL_drafts 93 = .ok (.invokestatic 142, 3) := by decide +kernel
theorem d_La_drafts_96 : decode cL_drafts 96 = .ok (.pop2, 1) := by decide +kernel
theorem d_La_drafts_97 : decode cL_drafts 97 = .ok (.iload 6, 2) := by decide +kernel
theorem d_La_drafts_99 : decode cL_drafts 99 = .ok (.ifCond .eq 31, 3) := by decide +kernel
theorem d_La_drafts_102 : decode cL_drafts 102 = .ok (.aload_n 0, 1) := by decide +kernel
theorem d_La_drafts_103 : decode cL_drafts 103 = .ok (.iload 6, 2) := by decide +kernel
theorem d_La_drafts_105 : decode cL_drafts 105 = .ok (.ifCond .le 7, 3) := by decide +kernel
theorem d_La_drafts_108 : decode cL_drafts 108 = .ok (.iconst 3, 1) := by decide +kernel
theorem d_La_drafts_109 : decode cL_drafts 109 = .ok (.goto 4, 3) := by decide +kernel
theorem d_La_drafts_112 : decode cL_drafts 112 = .ok (.iconst 4, 1) := by decide +kernel
theorem d_La_drafts_113 : decode cL_drafts 113 = .ok (.iload 6, 2) := by decide +kernel
theorem d_La_drafts_115 : decode cL_drafts 115 = .ok (.ifCond .le 8, 3) := by decide +kernel
theorem d_La_drafts_118 : decode cL_drafts 118 = .ok (.iload 6, 2) := by decide +kernel
theorem d_La_drafts_120 : decode cL_drafts 120 = .ok (.goto 6, 3) := by decide +kernel
theorem d_La_drafts_123 : decode cL_drafts 123 = .ok (.iload 6, 2) := by decide +kernel
theorem d_La_drafts_125 : decode cL_drafts 125 = .ok (.ineg, 1) := by decide +kernel
theorem d_La_drafts_126 : decode cL_drafts 126 = .ok (.invokestatic 142, 3) := by decide +kernel
theorem d_La_drafts_129 : decode cL_drafts 129 = .ok (.pop2, 1) := by decide +kernel
theorem d_La_drafts_130 : decode cL_drafts 130 = .ok (.aload_n 0, 1) := by decide +kernel
theorem d_La_drafts_131 : decode cL_drafts 131 = .ok (.bipush 6, 2) := by decide +kernel
theorem d_La_drafts_133 : decode cL_drafts 133 = .ok (.iload_n 3, 1) := by decide +kernel
theorem d_La_drafts_134 : decode cL_drafts 134 = .ok (.bipush 64, 2) := by decide +kernel
theorem d_La_drafts_136 : decode cL_drafts 136 = .ok (.idiv, 1) := by decide +kernel
theorem d_La_drafts_137 : decode cL_drafts 137 = .ok (.bipush 9, 2) := by decide +kernel
theorem d_La_drafts_139 : decode cL_drafts 139 = .ok (.irem, 1) := by decide +kernel
theorem d_La_drafts_140 : decode cL_drafts 140 = .ok (.ifCond .ne 7, 3) := by decide +kernel
theorem d_La_drafts_143 : decode cL_drafts 143 = .ok (.iconst 1, 1) := by decide +kernel
theorem d_La_drafts_144 : decode cL_drafts 144 = .ok (.goto 5, 3) := by decide +kernel
theorem d_La_drafts_147 : decode cL_drafts 147 = .ok (.iload 4, 2) := by decide +kernel
theorem d_La_drafts_149 : decode cL_drafts 149 = .ok (.invokestatic 142, 3) := by decide +kernel
theorem d_La_drafts_152 : decode cL_drafts 152 = .ok (.pop2, 1) := by decide +kernel
theorem d_La_drafts_153 : decode cL_drafts 153 = .ok (.return_, 1) := by decide +kernel
set_option maxRecDepth 100000 in
set_option maxHeartbeats 4000000 in
theorem w_j_La_drafts_149 {X : CX} {KX : MS → Prop}  {t0 : Int32} {t1 : Int32} {t2 : Option Nat} {s : MS} {ce0 sl0 : Nat} (ok : Ok X cL_drafts RL rm_La_drafts 7 true) (hse : SE X.2.2.2.1 X.1.2.2.2.2.1 ∧ X.1.2.1.stackTraces = false) (hret : ∀ r : MS, KX r → Fix X none 5 30 true none none r) (hc1 : ce0 + 1 ≤ 5) (hc2 : sl0 + 6 ≤ 30) {res : MS} (h : j_La_drafts_149 t0 t1 t2 s = some res) (hk : KX res) : G X s ce0 sl0 149 [] [vI t0, vI t1, vR t2] := by
  unfold j_La_drafts_149 at h
  obtain ⟨x30, s29, hc28, h⟩ := bnd2_go h
  refine g_callW (rm2 := rm_La_move) (As := [vR t2, vI t1, vI t0]) (rest := []) ok hse.1 (c_La_move hse.2 hc28) cm_La_move cs_La_move tw_731 ⟨rfl, rfl⟩ ⟨le_t rfl, le_t rfl⟩ ⟨rfl, le_t rfl⟩ ⟨(by show _ ≤ 5; omega), (by show _ ≤ 30; omega)⟩ trivial trivial d_La_drafts_149 rfl (fun m27 => ?_)
  show G X s29 (ce0 + 1) (sl0 + 6) 152 [] [vL x30]
  refine g_pop2 ok d_La_drafts_152 ?_
  cases h
  exact g_vretX ok (hret _ hk) (by omega) (by omega) d_La_drafts_153
set_option maxRecDepth 100000 in
set_option maxHeartbeats 4000000 in
theorem w_j_La_drafts_130 {X : CX} {KX : MS → Prop}  {a0 : Option Nat} {a3 : Int32} {a4 : Int32} {s : MS} {ce0 sl0 : Nat} (ok : Ok X cL_drafts RL rm_La_drafts 7 true) (hse : SE X.2.2.2.1 X.1.2.2.2.2.1 ∧ X.1.2.1.stackTraces = false) (hret : ∀ r : MS, KX r → Fix X none 5 30 true none none r) (hc1 : ce0 + 1 ≤ 5) (hc2 : sl0 + 6 ≤ 30) {res : MS} (h : j_La_drafts_130 a0 a3 a4 s = some res) (hk : KX res) : G X s ce0 sl0 130 [(0, vR a0), (3, vI a3), (4, vI a4)] [] := by
  unfold j_La_drafts_130 at h
  refine g_aload_n (i := 0) 0 ok d_La_drafts_130 rfl rfl ?_
  refine g_bipush (v := (6 : Int32)) ok d_La_drafts_131 (by decide) ?_
  refine g_iload_n (i := 3) 1 ok d_La_drafts_133 rfl rfl ?_
  refine g_bipush (v := (64 : Int32)) ok d_La_drafts_134 (by decide) ?_
  refine g_idiv ok d_La_drafts_136 (by decide) ?_
  refine g_bipush (v := (9 : Int32)) ok d_La_drafts_137 (by decide) ?_
  refine g_irem ok d_La_drafts_139 (by decide) ?_
  refine g_if_ne (tgt := 147) ok d_La_drafts_140 (by decide) (fun c26 => ?_) (fun c26 => ?_)
  · replace h := (if_pos c26).symm.trans h
    refine g_iconst (v := (1 : Int32)) ok d_La_drafts_143 (by decide) ?_
    refine g_goto (tgt := 149) ok d_La_drafts_144 (by decide) ?_
    refine g_sub [] rfl ?_
    exact w_j_La_drafts_149 ok hse hret (by omega) (by omega) h hk
  · replace h := (if_neg c26).symm.trans h
    refine g_iload (i := 4) 2 ok d_La_drafts_147 rfl ?_
    refine g_sub [] rfl ?_
    exact w_j_La_drafts_149 ok hse hret (by omega) (by omega) h hk
set_option maxRecDepth 100000 in
set_option maxHeartbeats 4000000 in
theorem w_j_La_drafts_126 {X : CX} {KX : MS → Prop}  {a0 : Option Nat} {a3 : Int32} {a4 : Int32} {t0 : Int32} {t1 : Int32} {t2 : Option Nat} {s : MS} {ce0 sl0 : Nat} (ok : Ok X cL_drafts RL rm_La_drafts 7 true) (hse : SE X.2.2.2.1 X.1.2.2.2.2.1 ∧ X.1.2.1.stackTraces = false) (hret : ∀ r : MS, KX r → Fix X none 5 30 true none none r) (hc1 : ce0 + 2 ≤ 5) (hc2 : sl0 + 12 ≤ 30) {res : MS} (h : j_La_drafts_126 a0 a3 a4 t0 t1 t2 s = some res) (hk : KX res) : G X s ce0 sl0 126 [(0, vR a0), (3, vI a3), (4, vI a4)] [vI t0, vI t1, vR t2] := by
  unfold j_La_drafts_126 at h
  obtain ⟨k33, hk34, h⟩ := bnd_go h
  obtain ⟨x38, s37, hc36, h⟩ := bnd2_go h
  refine g_callW (rm2 := rm_La_move) (As := [vR t2, vI t1, vI t0]) (rest := []) ok hse.1 (c_La_move hse.2 hc36) cm_La_move cs_La_move tw_731 ⟨rfl, rfl⟩ ⟨le_t rfl, le_t rfl⟩ ⟨rfl, le_t rfl⟩ ⟨(by show _ ≤ 5; omega), (by show _ ≤ 30; omega)⟩ ⟨(rk_of hk34), ⟨trivial, ⟨trivial, trivial⟩⟩⟩ trivial d_La_drafts_126 rfl (fun m35 => ?_)
  show G X s37 (ce0 + 1) (sl0 + 6) 129 [(0, vR a0), (3, vI a3), (4, vI a4)] [vL x38]
  refine g_pop2 ok d_La_drafts_129 ?_
  exact w_j_La_drafts_130 ok hse hret (by omega) (by omega) h hk
set_option maxRecDepth 100000 in
set_option maxHeartbeats 4000000 in
theorem w_j_La_drafts_113 {X : CX} {KX : MS → Prop}  {a0 : Option Nat} {a3 : Int32} {a4 : Int32} {a6 : Int32} {t0 : Int32} {t1 : Option Nat} {s : MS} {ce0 sl0 : Nat} (ok : Ok X cL_drafts RL rm_La_drafts 7 true) (hse : SE X.2.2.2.1 X.1.2.2.2.2.1 ∧ X.1.2.1.stackTraces = false) (hret : ∀ r : MS, KX r → Fix X none 5 30 true none none r) (hc1 : ce0 + 2 ≤ 5) (hc2 : sl0 + 12 ≤ 30) {res : MS} (h : j_La_drafts_113 a0 a3 a4 a6 t0 t1 s = some res) (hk : KX res) : G X s ce0 sl0 113 [(0, vR a0), (3, vI a3), (4, vI a4), (6, vI a6)] [vI t0, vR t1] := by
  unfold j_La_drafts_113 at h
  refine g_iload (i := 6) 3 ok d_La_drafts_113 rfl ?_
  refine g_if_le (tgt := 123) ok d_La_drafts_115 (by decide) (fun c32 => ?_) (fun c32 => ?_)
  · replace h := (if_pos c32).symm.trans h
    refine g_iload (i := 6) 3 ok d_La_drafts_118 rfl ?_
    refine g_goto (tgt := 126) ok d_La_drafts_120 (by decide) ?_
    refine g_sub [0, 1, 2] rfl ?_
    exact w_j_La_drafts_126 ok hse hret (by omega) (by omega) h hk
  · replace h := (if_neg c32).symm.trans h
    refine g_iload (i := 6) 3 ok d_La_drafts_123 rfl ?_
    refine g_ineg ok d_La_drafts_125 ?_
    refine g_sub [0, 1, 2] rfl ?_
    exact w_j_La_drafts_126 ok hse hret (by omega) (by omega) h hk
set_option maxRecDepth 100000 in
set_option maxHeartbeats 4000000 in
theorem w_j_La_drafts_97 {X : CX} {KX : MS → Prop}  {a0 : Option Nat} {a3 : Int32} {a4 : Int32} {a6 : Int32} {s : MS} {ce0 sl0 : Nat} (ok : Ok X cL_drafts RL rm_La_drafts 7 true) (hse : SE X.2.2.2.1 X.1.2.2.2.2.1 ∧ X.1.2.1.stackTraces = false) (hret : ∀ r : MS, KX r → Fix X none 5 30 true none none r) (hc1 : ce0 + 2 ≤ 5) (hc2 : sl0 + 12 ≤ 30) {res : MS} (h : j_La_drafts_97 a0 a3 a4 a6 s = some res) (hk : KX res) : G X s ce0 sl0 97 [(0, vR a0), (3, vI a3), (4, vI a4), (6, vI a6)] [] := by
  unfold j_La_drafts_97 at h
  refine g_iload (i := 6) 3 ok d_La_drafts_97 rfl ?_
  refine g_if_eq (tgt := 130) ok d_La_drafts_99 (by decide) (fun c25 => ?_) (fun c25 => ?_)
  · replace h := (if_pos c25).symm.trans h
    refine g_sub [0, 1, 2] rfl ?_
    exact w_j_La_drafts_130 ok hse hret (by omega) (by omega) h hk
  · replace h := (if_neg c25).symm.trans h
    refine g_aload_n (i := 0) 0 ok d_La_drafts_102 rfl rfl ?_
    refine g_iload (i := 6) 3 ok d_La_drafts_103 rfl ?_
    refine g_if_le (tgt := 112) ok d_La_drafts_105 (by decide) (fun c31 => ?_) (fun c31 => ?_)
    · replace h := (if_pos c31).symm.trans h
      refine g_iconst (v := (3 : Int32)) ok d_La_drafts_108 (by decide) ?_
      refine g_goto (tgt := 113) ok d_La_drafts_109 (by decide) ?_
      exact w_j_La_drafts_113 ok hse hret (by omega) (by omega) h hk
    · replace h := (if_neg c31).symm.trans h
      refine g_iconst (v := (4 : Int32)) ok d_La_drafts_112 (by decide) ?_
      exact w_j_La_drafts_113 ok hse hret (by omega) (by omega) h hk
set_option maxRecDepth 100000 in
set_option maxHeartbeats 4000000 in
theorem w_j_La_drafts_75 {X : CX} {KX : MS → Prop}  {a0 : Option Nat} {a3 : Int32} {a4 : Int32} {a6 : Int32} {s : MS} {ce0 sl0 : Nat} (ok : Ok X cL_drafts RL rm_La_drafts 7 true) (hse : SE X.2.2.2.1 X.1.2.2.2.2.1 ∧ X.1.2.1.stackTraces = false) (hret : ∀ r : MS, KX r → Fix X none 5 30 true none none r) (hc1 : ce0 + 3 ≤ 5) (hc2 : sl0 + 18 ≤ 30) {res : MS} (h : j_La_drafts_75 a0 a3 a4 a6 s = some res) (hk : KX res) : G X s ce0 sl0 75 [(0, vR a0), (3, vI a3), (4, vI a4), (6, vI a6)] [] := by
  unfold j_La_drafts_75 at h
  refine g_iload_n (i := 3) 1 ok d_La_drafts_75 rfl rfl ?_
  refine g_iconst (v := (4 : Int32)) ok d_La_drafts_76 (by decide) ?_
  refine g_idiv ok d_La_drafts_77 (by decide) ?_
  refine g_iconst (v := (3 : Int32)) ok d_La_drafts_78 (by decide) ?_
  refine g_irem ok d_La_drafts_79 (by decide) ?_
  refine g_if_ne (tgt := 97) ok d_La_drafts_80 (by decide) (fun c18 => ?_) (fun c18 => ?_)
  · replace h := (if_pos c18).symm.trans h
    refine g_aload_n (i := 0) 0 ok d_La_drafts_83 rfl rfl ?_
    refine g_iconst (v := (0 : Int32)) ok d_La_drafts_84 (by decide) ?_
    refine g_iconst (v := (1 : Int32)) ok d_La_drafts_85 (by decide) ?_
    refine g_iload_n (i := 3) 1 ok d_La_drafts_86 rfl rfl ?_
    refine g_bipush (v := (16 : Int32)) ok d_La_drafts_87 (by decide) ?_
    refine g_idiv ok d_La_drafts_89 (by decide) ?_
    refine g_iconst (v := (4 : Int32)) ok d_La_drafts_90 (by decide) ?_
    refine g_irem ok d_La_drafts_91 (by decide) ?_
    refine g_iadd ok d_La_drafts_92 ?_
    obtain ⟨k19, hk20, h⟩ := bnd_go h
    obtain ⟨x24, s23, hc22, h⟩ := bnd2_go h
    refine g_callW (rm2 := rm_La_move) (As := [vR a0, vI (0 : Int32), vI ((1 : Int32) + ((a3 / (16 : Int32)) - (a3 / (16 : Int32)) / (4 : Int32) * (4 : Int32)))]) (rest := []) ok hse.1 (c_La_move hse.2 hc22) cm_La_move cs_La_move tw_731 ⟨rfl, rfl⟩ ⟨le_t rfl, le_t rfl⟩ ⟨rfl, le_t rfl⟩ ⟨(by show _ ≤ 5; omega), (by show _ ≤ 30; omega)⟩ ⟨(rk_of hk20), ⟨trivial, ⟨trivial, ⟨trivial, trivial⟩⟩⟩⟩ trivial d_La_drafts_93 rfl (fun m21 => ?_)
    show G X s23 (ce0 + 1) (sl0 + 6) 96 [(0, vR a0), (3, vI a3), (4, vI a4), (6, vI a6)] [vL x24]
    refine g_pop2 ok d_La_drafts_96 ?_
    exact w_j_La_drafts_97 ok hse hret (by omega) (by omega) h hk
  · replace h := (if_neg c18).symm.trans h
    exact w_j_La_drafts_97 ok hse hret (by omega) (by omega) h hk
set_option maxRecDepth 100000 in
set_option maxHeartbeats 4000000 in
theorem w_j_La_drafts_71 {X : CX} {KX : MS → Prop}  {a0 : Option Nat} {a3 : Int32} {a4 : Int32} {a6 : Int32} {t0 : Int32} {t1 : Int32} {t2 : Option Nat} {s : MS} {ce0 sl0 : Nat} (ok : Ok X cL_drafts RL rm_La_drafts 7 true) (hse : SE X.2.2.2.1 X.1.2.2.2.2.1 ∧ X.1.2.1.stackTraces = false) (hret : ∀ r : MS, KX r → Fix X none 5 30 true none none r) (hc1 : ce0 + 4 ≤ 5) (hc2 : sl0 + 24 ≤ 30) {res : MS} (h : j_La_drafts_71 a0 a3 a4 a6 t0 t1 t2 s = some res) (hk : KX res) : G X s ce0 sl0 71 [(0, vR a0), (3, vI a3), (4, vI a4), (6, vI a6)] [vI t0, vI t1, vR t2] := by
  unfold j_La_drafts_71 at h
  obtain ⟨k41, hk42, h⟩ := bnd_go h
  obtain ⟨x46, s45, hc44, h⟩ := bnd2_go h
  refine g_callW (rm2 := rm_La_move) (As := [vR t2, vI t1, vI t0]) (rest := []) ok hse.1 (c_La_move hse.2 hc44) cm_La_move cs_La_move tw_731 ⟨rfl, rfl⟩ ⟨le_t rfl, le_t rfl⟩ ⟨rfl, le_t rfl⟩ ⟨(by show _ ≤ 5; omega), (by show _ ≤ 30; omega)⟩ ⟨(rk_of hk42), ⟨trivial, ⟨trivial, ⟨trivial, trivial⟩⟩⟩⟩ trivial d_La_drafts_71 rfl (fun m43 => ?_)
  show G X s45 (ce0 + 1) (sl0 + 6) 74 [(0, vR a0), (3, vI a3), (4, vI a4), (6, vI a6)] [vL x46]
  refine g_pop2 ok d_La_drafts_74 ?_
  exact w_j_La_drafts_75 ok hse hret (by omega) (by omega) h hk
set_option maxRecDepth 100000 in
set_option maxHeartbeats 4000000 in
theorem w_j_La_drafts_58 {X : CX} {KX : MS → Prop}  {a0 : Option Nat} {a3 : Int32} {a4 : Int32} {a5 : Int32} {a6 : Int32} {t0 : Int32} {t1 : Option Nat} {s : MS} {ce0 sl0 : Nat} (ok : Ok X cL_drafts RL rm_La_drafts 7 true) (hse : SE X.2.2.2.1 X.1.2.2.2.2.1 ∧ X.1.2.1.stackTraces = false) (hret : ∀ r : MS, KX r → Fix X none 5 30 true none none r) (hc1 : ce0 + 4 ≤ 5) (hc2 : sl0 + 24 ≤ 30) {res : MS} (h : j_La_drafts_58 a0 a3 a4 a5 a6 t0 t1 s = some res) (hk : KX res) : G X s ce0 sl0 58 [(0, vR a0), (3, vI a3), (4, vI a4), (5, vI a5), (6, vI a6)] [vI t0, vR t1] := by
  unfold j_La_drafts_58 at h
  refine g_iload (i := 5) 3 ok d_La_drafts_58 rfl ?_
  refine g_if_le (tgt := 68) ok d_La_drafts_60 (by decide) (fun c40 => ?_) (fun c40 => ?_)
  · replace h := (if_pos c40).symm.trans h
    refine g_iload (i := 5) 3 ok d_La_drafts_63 rfl ?_
    refine g_goto (tgt := 71) ok d_La_drafts_65 (by decide) ?_
    refine g_sub [0, 1, 2, 4] rfl ?_
    exact w_j_La_drafts_71 ok hse hret (by omega) (by omega) h hk
  · replace h := (if_neg c40).symm.trans h
    refine g_iload (i := 5) 3 ok d_La_drafts_68 rfl ?_
    refine g_ineg ok d_La_drafts_70 ?_
    refine g_sub [0, 1, 2, 4] rfl ?_
    exact w_j_La_drafts_71 ok hse hret (by omega) (by omega) h hk
set_option maxRecDepth 100000 in
set_option maxHeartbeats 4000000 in
theorem w_La_drafts {X : CX} {KX : MS → Prop} {a0 : Option Nat} {a1 : Int32} {a2 : Int32} {a3 : Int32} {s : MS} (ok : Ok X cL_drafts RL rm_La_drafts 7 true)  (hret : ∀ r : MS, KX r → Fix X none 5 30 true none none r) {res : MS} (h : f_La_drafts a0 a1 a2 a3 s = some res) (hk : KX res) : G X s 0 0 0 [(0, vR a0), (1, vI a1), (2, vI a2), (3, vI a3)] [] := by
  have hse : SE X.2.2.2.1 X.1.2.2.2.2.1 ∧ X.1.2.1.stackTraces = false := ⟨(hret _ hk).2.2.2.2.1, (hret _ hk).2.2.2.1⟩
  unfold f_La_drafts at h
  refine g_iconst (v := (1 : Int32)) ok d_La_drafts_0 (by decide) ?_
  refine g_iload_n (i := 3) 3 ok d_La_drafts_1 rfl rfl ?_
  refine g_iconst (v := (3 : Int32)) ok d_La_drafts_2 (by decide) ?_
  refine g_irem ok d_La_drafts_3 (by decide) ?_
  refine g_iadd ok d_La_drafts_4 ?_
  obtain ⟨x1, e2⟩ : ∃ z, ((1 : Int32) + (a3 - a3 / (3 : Int32) * (3 : Int32))) = z := ⟨_, rfl⟩
  replace h := lt_go h e2
  rw [e2]
  refine g_istore (i := 4) [(4, vI x1), (0, vR a0), (1, vI a1), (2, vI a2), (3, vI a3)] ok d_La_drafts_5 (by decide) rfl ?_
  refine g_iload_n (i := 2) 3 ok d_La_drafts_7 rfl rfl ?_
  refine g_bipush (v := (10 : Int32)) ok d_La_drafts_8 (by decide) ?_
  refine g_irem ok d_La_drafts_10 (by decide) ?_
  refine g_iload_n (i := 1) 2 ok d_La_drafts_11 rfl rfl ?_
  refine g_bipush (v := (10 : Int32)) ok d_La_drafts_12 (by decide) ?_
  refine g_irem ok d_La_drafts_14 (by decide) ?_
  refine g_isub ok d_La_drafts_15 ?_
  obtain ⟨x3, e4⟩ : ∃ z, ((a2 - a2 / (10 : Int32) * (10 : Int32)) - (a1 - a1 / (10 : Int32) * (10 : Int32))) = z := ⟨_, rfl⟩
  replace h := lt_go h e4
  rw [e4]
  refine g_istore (i := 5) [(5, vI x3), (4, vI x1), (0, vR a0), (1, vI a1), (2, vI a2), (3, vI a3)] ok d_La_drafts_16 (by decide) rfl ?_
  refine g_iload_n (i := 2) 4 ok d_La_drafts_18 rfl rfl ?_
  refine g_bipush (v := (10 : Int32)) ok d_La_drafts_19 (by decide) ?_
  refine g_idiv ok d_La_drafts_21 (by decide) ?_
  refine g_iload_n (i := 1) 3 ok d_La_drafts_22 rfl rfl ?_
  refine g_bipush (v := (10 : Int32)) ok d_La_drafts_23 (by decide) ?_
  refine g_idiv ok d_La_drafts_25 (by decide) ?_
  refine g_isub ok d_La_drafts_26 ?_
  obtain ⟨x5, e6⟩ : ∃ z, ((a2 / (10 : Int32)) - (a1 / (10 : Int32))) = z := ⟨_, rfl⟩
  replace h := lt_go h e6
  rw [e6]
  refine g_istore (i := 6) [(6, vI x5), (5, vI x3), (4, vI x1), (0, vR a0), (1, vI a1), (2, vI a2), (3, vI a3)] ok d_La_drafts_27 (by decide) rfl ?_
  refine g_aload_n (i := 0) 3 ok d_La_drafts_29 rfl rfl ?_
  obtain ⟨k7, hk8, h⟩ := bnd_go h
  obtain ⟨x12, s11, hc10, h⟩ := bnd2_go h
  refine g_invV (rm2 := rm_Sk_clear) (As := []) (rest := []) ok hk8 lay_0 rfl (c_Sk_clear X.1.2.1 (rf_self hk8) hc10) cm_Sk_clear cv_Sk_clear tw_125 ⟨rfl, rfl⟩ ⟨le_t rfl, le_t rfl⟩ ⟨rfl, le_t rfl⟩ ⟨(by show _ ≤ 5; omega), (by show _ ≤ 30; omega)⟩ d_La_drafts_30 rfl (fun m9 => ?_)
  show G X s11 0 0 33 [(6, vI x5), (5, vI x3), (4, vI x1), (0, vR a0), (1, vI a1), (2, vI a2), (3, vI a3)] [vI x12]
  refine g_pop ok d_La_drafts_33 rfl ?_
  refine g_aload_n (i := 0) 3 ok d_La_drafts_34 rfl rfl ?_
  refine g_iconst (v := (5 : Int32)) ok d_La_drafts_35 (by decide) ?_
  refine g_iload (i := 4) 2 ok d_La_drafts_36 rfl ?_
  refine g_sub [0, 1, 2, 3, 6] rfl ?_
  obtain ⟨x16, s15, hc14, h⟩ := bnd2_go h
  refine g_callW (rm2 := rm_La_move) (As := [vR a0, vI (5 : Int32), vI x1]) (rest := []) ok hse.1 (c_La_move hse.2 hc14) cm_La_move cs_La_move tw_731 ⟨rfl, rfl⟩ ⟨le_t rfl, le_t rfl⟩ ⟨rfl, le_t rfl⟩ ⟨(by show _ ≤ 5; omega), (by show _ ≤ 30; omega)⟩ ⟨trivial, ⟨trivial, ⟨trivial, ⟨(rk_of (rf_mono m9 hk8)), ⟨trivial, trivial⟩⟩⟩⟩⟩ trivial d_La_drafts_38 rfl (fun m13 => ?_)
  show G X s15 (0 + 1) (0 + 6) 41 [(6, vI x5), (5, vI x3), (4, vI x1), (0, vR a0), (3, vI a3)] [vL x16]
  refine g_pop2 ok d_La_drafts_41 ?_
  refine g_iload (i := 5) 1 ok d_La_drafts_42 rfl ?_
  refine g_if_eq (tgt := 75) ok d_La_drafts_44 (by decide) (fun c17 => ?_) (fun c17 => ?_)
  · replace h := (if_pos c17).symm.trans h
    refine g_sub [3, 4, 2, 0] rfl ?_
    exact w_j_La_drafts_75 ok hse hret (by omega) (by omega) h hk
  · replace h := (if_neg c17).symm.trans h
    refine g_aload_n (i := 0) 3 ok d_La_drafts_47 rfl rfl ?_
    refine g_iload (i := 5) 1 ok d_La_drafts_48 rfl ?_
    refine g_if_le (tgt := 57) ok d_La_drafts_50 (by decide) (fun c39 => ?_) (fun c39 => ?_)
    · replace h := (if_pos c39).symm.trans h
      refine g_iconst (v := (1 : Int32)) ok d_La_drafts_53 (by decide) ?_
      refine g_goto (tgt := 58) ok d_La_drafts_54 (by decide) ?_
      refine g_sub [3, 4, 2, 1, 0] rfl ?_
      exact w_j_La_drafts_58 ok hse hret (by omega) (by omega) h hk
    · replace h := (if_neg c39).symm.trans h
      refine g_iconst (v := (2 : Int32)) ok d_La_drafts_57 (by decide) ?_
      refine g_sub [3, 4, 2, 1, 0] rfl ?_
      exact w_j_La_drafts_58 ok hse hret (by omega) (by omega) h hk
theorem c_La_drafts {l : Launch} (hl : l.stackTraces = false) {a0 : Option Nat} {a1 : Int32} {a2 : Int32} {a3 : Int32} {s : MS} {z : MS} (h : f_La_drafts a0 a1 a2 a3 s = some z) : Cx l yL_drafts (.code yL_drafts cL_drafts 7 none) rm_La_drafts 5 30 true [vR a0, vI a1, vI a2, vI a3] s none none z :=
  Cx.of hl rfl (by decide +kernel) ⟨rfl, le_t rfl⟩ (fun X ok fn _ _ => w_La_drafts (KX := fun y => y = z) ok (fun y hy => by subst hy; exact fn) h rfl)
