theorem dL_isRound_223 : decode cL_isRound 223 = .ok (.iconst 1, 1) := by decide +kernel
theorem dL_isRound_224 : decode cL_isRound 224 = .ok (.iadd, 1) := by decide +kernel
theorem dL_isRound_225 : decode cL_isRound 225 = .ok (.if_icmp .ne 41, 3) := by decide +kernel
theorem dL_isRound_228 : decode cL_isRound 228 = .ok (.aload_n 0, 1) := by decide +kernel
theorem dL_isRound_229 : decode cL_isRound 229 = .ok (.iconst 4, 1) := by decide +kernel
theorem dL_isRound_230 : decode cL_isRound 230 = .ok (.invokevirtual 23, 3) := by decide +kernel
theorem dL_isRound_233 : decode cL_isRound 233 = .ok (.iload 10, 2) := by decide +kernel
theorem dL_isRound_235 : decode cL_isRound 235 = .ok (.iload 4, 2) := by decide +kernel
theorem dL_isRound_237 : decode cL_isRound 237 = .ok (.ifCond .ne 7, 3) := by decide +kernel
theorem dL_isRound_240 : decode cL_isRound 240 = .ok (.iconst 1, 1) := by decide +kernel
theorem dL_isRound_241 : decode cL_isRound 241 = .ok (.goto 4, 3) := by decide +kernel
theorem dL_isRound_244 : decode cL_isRound 244 = .ok (.iconst (-1), 1) := by decide +kernel
theorem dL_isRound_245 : decode cL_isRound 245 = .ok (.iadd, 1) := by decide +kernel
theorem dL_isRound_246 : decode cL_isRound 246 = .ok (.if_icmp .ne 20, 3) := by decide +kernel
theorem dL_isRound_249 : decode cL_isRound 249 = .ok (.aload_n 0, 1) := by decide +kernel
theorem dL_isRound_250 : decode cL_isRound 250 = .ok (.bipush 6, 2) := by decide +kernel
theorem dL_isRound_252 : decode cL_isRound 252 = .ok (.invokevirtual 23, 3) := by decide +kernel
theorem dL_isRound_255 : decode cL_isRound 255 = .ok (.iload 11, 2) := by decide +kernel
theorem dL_isRound_257 : decode cL_isRound 257 = .ok (.iconst 1, 1) := by decide +kernel
theorem dL_isRound_258 : decode cL_isRound 258 = .ok (.iadd, 1) := by decide +kernel
theorem dL_isRound_259 : decode cL_isRound 259 = .ok (.if_icmp .ne 7, 3) := by decide +kernel
theorem dL_isRound_262 : decode cL_isRound 262 = .ok (.iconst 1, 1) := by decide +kernel
theorem dL_isRound_263 : decode cL_isRound 263 = .ok (.goto 4, 3) := by decide +kernel
theorem dL_isRound_266 : decode cL_isRound 266 = .ok (.iconst 0, 1) := by decide +kernel
theorem dL_isRound_267 : decode cL_isRound 267 = .ok (.istore 15, 2) := by decide +kernel
theorem dL_isRound_269 : decode cL_isRound 269 = .ok (.aload_n 0, 1) := by decide +kernel
theorem dL_isRound_270 : decode cL_isRound 270 = .ok (.iconst 4, 1) := by decide +kernel
theorem dL_isRound_271 : decode cL_isRound 271 = .ok (.invokevirtual 23, 3) := by decide +kernel
theorem dL_isRound_274 : decode cL_isRound 274 = .ok (.aload_n 0, 1) := by decide +kernel
theorem dL_isRound_275 : decode cL_isRound 275 = .ok (.iconst 0, 1) := by decide +kernel
theorem dL_isRound_276 : decode cL_isRound 276 = .ok (.invokevirtual 23, 3) := by decide +kernel
theorem dL_isRound_279 : decode cL_isRound 279 = .ok (.if_icmp .eq 17, 3) := by decide +kernel
theorem dL_isRound_282 : decode cL_isRound 282 = .ok (.aload_n 0, 1) := by decide +kernel
theorem dL_isRound_283 : decode cL_isRound 283 = .ok (.iconst 4, 1) := by decide +kernel
theorem dL_isRound_284 : decode cL_isRound 284 = .ok (.invokevirtual 23, 3) := by decide +kernel
theorem dL_isRound_287 : decode cL_isRound 287 = .ok (.aload_n 0, 1) := by decide +kernel
theorem dL_isRound_288 : decode cL_isRound 288 = .ok (.iconst 0, 1) := by decide +kernel
theorem dL_isRound_289 : decode cL_isRound 289 = .ok (.invokevirtual 23, 3) := by decide +kernel
theorem dL_isRound_292 : decode cL_isRound 292 = .ok (.ineg, 1) := by decide +kernel
theorem dL_isRound_293 : decode cL_isRound 293 = .ok (.if_icmp .ne 7, 3) := by decide +kernel
theorem dL_isRound_296 : decode cL_isRound 296 = .ok (.iconst 1, 1) := by decide +kernel
theorem dL_isRound_297 : decode cL_isRound 297 = .ok (.goto 4, 3) := by decide +kernel
theorem dL_isRound_300 : decode cL_isRound 300 = .ok (.iconst 0, 1) := by decide +kernel
theorem dL_isRound_301 : decode cL_isRound 301 = .ok (.istore 16, 2) := by decide +kernel
theorem dL_isRound_303 : decode cL_isRound 303 = .ok (.iload 15, 2) := by decide +kernel
theorem dL_isRound_305 : decode cL_isRound 305 = .ok (.ifCond .eq 89, 3) := by decide +kernel
theorem dL_isRound_308 : decode cL_isRound 308 = .ok (.aload_n 0, 1) := by decide +kernel
theorem dL_isRound_309 : decode cL_isRound 309 = .ok (.bipush 9, 2) := by decide +kernel
theorem dL_isRound_311 : decode cL_isRound 311 = .ok (.invokevirtual 23, 3) := by decide +kernel
theorem dL_isRound_314 : decode cL_isRound 314 = .ok (.iload 13, 2) := by decide +kernel
theorem dL_isRound_316 : decode cL_isRound 316 = .ok (.iload 16, 2) := by decide +kernel
theorem dL_isRound_318 : decode cL_isRound 318 = .ok (.ifCond .eq 7, 3) := by decide +kernel
theorem dL_isRound_321 : decode cL_isRound 321 = .ok (.iconst 1, 1) := by decide +kernel
theorem dL_isRound_322 : decode cL_isRound 322 = .ok (.goto 4, 3) := by decide +kernel
theorem dL_isRound_325 : decode cL_isRound 325 = .ok (.iconst 0, 1) := by decide +kernel
theorem dL_isRound_326 : decode cL_isRound 326 = .ok (.iadd, 1) := by decide +kernel
theorem dL_isRound_327 : decode cL_isRound 327 = .ok (.if_icmp .ne 67, 3) := by decide +kernel
theorem dL_isRound_330 : decode cL_isRound 330 = .ok (.aload_n 0, 1) := by decide +kernel
theorem dL_isRound_331 : decode cL_isRound 331 = .ok (.bipush 7, 2) := by decide +kernel
theorem dL_isRound_333 : decode cL_isRound 333 = .ok (.invokevirtual 23, 3) := by decide +kernel
theorem dL_isRound_336 : decode cL_isRound 336 = .ok (.iload 16, 2) := by decide +kernel
theorem dL_isRound_338 : decode cL_isRound 338 = .ok (.ifCond .eq 8, 3) := by decide +kernel
theorem dL_isRound_341 : decode cL_isRound 341 = .ok (.iload 4, 2) := by decide +kernel
theorem dL_isRound_343 : decode cL_isRound 343 = .ok (.goto 6, 3) := by decide +kernel
theorem dL_isRound_346 : decode cL_isRound 346 = .ok (.sipush (-1006), 3) := by decide +kernel
theorem dL_isRound_349 : decode cL_isRound 349 = .ok (.if_icmp .ne 45, 3) := by decide +kernel
theorem dL_isRound_352 : decode cL_isRound 352 = .ok (.aload_n 0, 1) := by decide +kernel
theorem dL_isRound_353 : decode cL_isRound 353 = .ok (.iconst 5, 1) := by decide +kernel
theorem dL_isRound_354 : decode cL_isRound 354 = .ok (.invokevirtual 23, 3) := by decide +kernel
theorem dL_isRound_357 : decode cL_isRound 357 = .ok (.iload 16, 2) := by decide +kernel
theorem dL_isRound_359 : decode cL_isRound 359 = .ok (.ifCond .eq 9, 3) := by decide +kernel
theorem dL_isRound_362 : decode cL_isRound 362 = .ok (.sipush (-1006), 3) := by decide +kernel
theorem dL_isRound_365 : decode cL_isRound 365 = .ok (.goto 6, 3) := by decide +kernel
theorem dL_isRound_368 : decode cL_isRound 368 = .ok (.iconst 1, 1) := by decide +kernel
theorem dL_isRound_369 : decode cL_isRound 369 = .ok (.iload_n 3, 1) := by decide +kernel
theorem dL_isRound_370 : decode cL_isRound 370 = .ok (.isub, 1) := by decide +kernel
theorem dL_isRound_371 : decode cL_isRound 371 = .ok (.if_icmp .ne 23, 3) := by decide +kernel
theorem dL_isRound_374 : decode cL_isRound 374 = .ok (.aload_n 0, 1) := by decide +kernel
theorem dL_isRound_375 : decode cL_isRound 375 = .ok (.iload 4, 2) := by decide +kernel
theorem dL_isRound_377 : decode cL_isRound 377 = .ok (.iconst 0, 1) := by decide +kernel
theorem dL_isRound_378 : decode cL_isRound 378 = .ok (.invokevirtual 37, 3) := by decide +kernel
theorem dL_isRound_381 : decode cL_isRound 381 = .ok (.aload_n 0, 1) := by decide +kernel
theorem dL_isRound_382 : decode cL_isRound 382 = .ok (.iconst 1, 1) := by decide +kernel
theorem dL_isRound_383 : decode cL_isRound 383 = .ok (.invokevirtual 23, 3) := by decide +kernel
theorem dL_isRound_386 : decode cL_isRound 386 = .ok (.ineg, 1) := by decide +kernel
theorem dL_isRound_387 : decode cL_isRound 387 = .ok (.if_icmp .lt 7, 3) := by decide +kernel
theorem dL_isRound_390 : decode cL_isRound 390 = .ok (.iconst 1, 1) := by decide +kernel
theorem dL_isRound_391 : decode cL_isRound 391 = .ok (.goto 4, 3) := by decide +kernel
theorem dL_isRound_394 : decode cL_isRound 394 = .ok (.iconst 0, 1) := by decide +kernel
theorem dL_isRound_395 : decode cL_isRound 395 = .ok (.ireturn, 1) := by decide +kernel
theorem dL_isWell_0 : decode cL_isWell 0 = .ok (.aload_n 0, 1) := by decide +kernel
theorem dL_isWell_1 : decode cL_isWell 1 = .ok (.iconst 0, 1) := by decide +kernel
theorem dL_isWell_2 : decode cL_isWell 2 = .ok (.iconst 0, 1) := by decide +kernel
theorem dL_isWell_3 : decode cL_isWell 3 = .ok (.invokevirtual 37, 3) := by decide +kernel
theorem dL_isWell_6 : decode cL_isWell 6 = .ok (.aload_n 0, 1) := by decide +kernel
theorem dL_isWell_7 : decode cL_isWell 7 = .ok (.iconst 1, 1) := by decide +kernel
theorem dL_isWell_8 : decode cL_isWell 8 = .ok (.iconst 0, 1) := by decide +kernel
theorem dL_isWell_9 : decode cL_isWell 9 = .ok (.invokevirtual 37, 3) := by decide +kernel
theorem dL_isWell_12 : decode cL_isWell 12 = .ok (.iadd, 1) := by decide +kernel
theorem dL_isWell_13 : decode cL_isWell 13 = .ok (.aload_n 0, 1) := by decide +kernel
theorem dL_isWell_14 : decode cL_isWell 14 = .ok (.bipush 8, 2) := by decide +kernel
theorem dL_isWell_16 : decode cL_isWell 16 = .ok (.invokevirtual 23, 3) := by decide +kernel
theorem dL_isWell_19 : decode cL_isWell 19 = .ok (.iadd, 1) := by decide +kernel
theorem dL_isWell_20 : decode cL_isWell 20 = .ok (.aload_n 0, 1) := by decide +kernel
theorem dL_isWell_21 : decode cL_isWell 21 = .ok (.iconst 0, 1) := by decide +kernel
theorem dL_isWell_22 : decode cL_isWell 22 = .ok (.iconst 2, 1) := by decide +kernel
theorem dL_isWell_23 : decode cL_isWell 23 = .ok (.invokevirtual 37, 3) := by decide +kernel
theorem dL_isWell_26 : decode cL_isWell 26 = .ok (.aload_n 0, 1) := by decide +kernel
theorem dL_isWell_27 : decode cL_isWell 27 = .ok (.iconst 1, 1) := by decide +kernel
theorem dL_isWell_28 : decode cL_isWell 28 = .ok (.iconst 2, 1) := by decide +kernel
theorem dL_isWell_29 : decode cL_isWell 29 = .ok (.invokevirtual 37, 3) := by decide +kernel
theorem dL_isWell_32 : decode cL_isWell 32 = .ok (.iadd, 1) := by decide +kernel
theorem dL_isWell_33 : decode cL_isWell 33 = .ok (.if_icmp .ne 114, 3) := by decide +kernel
theorem dL_isWell_36 : decode cL_isWell 36 = .ok (.aload_n 0, 1) := by decide +kernel
theorem dL_isWell_37 : decode cL_isWell 37 = .ok (.iconst 0, 1) := by decide +kernel
theorem dL_isWell_38 : decode cL_isWell 38 = .ok (.iconst 4, 1) := by decide +kernel
theorem dL_isWell_39 : decode cL_isWell 39 = .ok (.invokevirtual 37, 3) := by decide +kernel
theorem dL_isWell_42 : decode cL_isWell 42 = .ok (.aload_n 0, 1) := by decide +kernel
theorem dL_isWell_43 : decode cL_isWell 43 = .ok (.iconst 1, 1) := by decide +kernel
theorem dL_isWell_44 : decode cL_isWell 44 = .ok (.iconst 4, 1) := by decide +kernel
theorem dL_isWell_45 : decode cL_isWell 45 = .ok (.invokevirtual 37, 3) := by decide +kernel
theorem dL_isWell_48 : decode cL_isWell 48 = .ok (.iadd, 1) := by decide +kernel
theorem dL_isWell_49 : decode cL_isWell 49 = .ok (.aload_n 0, 1) := by decide +kernel
theorem dL_isWell_50 : decode cL_isWell 50 = .ok (.bipush 6, 2) := by decide +kernel
theorem dL_isWell_52 : decode cL_isWell 52 = .ok (.invokevirtual 23, 3) := by decide +kernel
theorem dL_isWell_55 : decode cL_isWell 55 = .ok (.if_icmp .ne 92, 3) := by decide +kernel
theorem dL_isWell_58 : decode cL_isWell 58 = .ok (.aload_n 0, 1) := by decide +kernel
theorem dL_isWell_59 : decode cL_isWell 59 = .ok (.iconst 0, 1) := by decide +kernel
theorem dL_isWell_60 : decode cL_isWell 60 = .ok (.iconst 4, 1) := by decide +kernel
theorem dL_isWell_61 : decode cL_isWell 61 = .ok (.invokevirtual 37, 3) := by decide +kernel
theorem dL_isWell_64 : decode cL_isWell 64 = .ok (.aload_n 0, 1) := by decide +kernel
theorem dL_isWell_65 : decode cL_isWell 65 = .ok (.iconst 1, 1) := by decide +kernel
theorem dL_isWell_66 : decode cL_isWell 66 = .ok (.iconst 4, 1) := by decide +kernel
theorem dL_isWell_67 : decode cL_isWell 67 = .ok (.invokevirtual 37, 3) := by decide +kernel
theorem dL_isWell_70 : decode cL_isWell 70 = .ok (.isub, 1) := by decide +kernel
theorem dL_isWell_71 : decode cL_isWell 71 = .ok (.aload_n 0, 1) := by decide +kernel
theorem dL_isWell_72 : decode cL_isWell 72 = .ok (.iconst 4, 1) := by decide +kernel
theorem dL_isWell_73 : decode cL_isWell 73 = .ok (.invokevirtual 23, 3) := by decide +kernel
theorem dL_isWell_76 : decode cL_isWell 76 = .ok (.if_icmp .ne 71, 3) := by decide +kernel
theorem dL_isWell_79 : decode cL_isWell 79 = .ok (.aload_n 0, 1) := by decide +kernel
theorem dL_isWell_80 : decode cL_isWell 80 = .ok (.iconst 0, 1) := by decide +kernel
theorem dL_isWell_81 : decode cL_isWell 81 = .ok (.iconst 5, 1) := by decide +kernel
theorem dL_isWell_82 : decode cL_isWell 82 = .ok (.invokevirtual 37, 3) := by decide +kernel
theorem dL_isWell_85 : decode cL_isWell 85 = .ok (.aload_n 0, 1) := by decide +kernel
theorem dL_isWell_86 : decode cL_isWell 86 = .ok (.iconst 1, 1) := by decide +kernel
theorem dL_isWell_87 : decode cL_isWell 87 = .ok (.iconst 5, 1) := by decide +kernel
theorem dL_isWell_88 : decode cL_isWell 88 = .ok (.invokevirtual 37, 3) := by decide +kernel
theorem dL_isWell_91 : decode cL_isWell 91 = .ok (.iadd, 1) := by decide +kernel
theorem dL_isWell_92 : decode cL_isWell 92 = .ok (.aload_n 0, 1) := by decide +kernel
theorem dL_isWell_93 : decode cL_isWell 93 = .ok (.bipush 9, 2) := by decide +kernel
theorem dL_isWell_95 : decode cL_isWell 95 = .ok (.invokevirtual 23, 3) := by decide +kernel
theorem dL_isWell_98 : decode cL_isWell 98 = .ok (.if_icmp .ne 49, 3) := by decide +kernel
theorem dL_isWell_101 : decode cL_isWell 101 = .ok (.aload_n 0, 1) := by decide +kernel
theorem dL_isWell_102 : decode cL_isWell 102 = .ok (.iconst 2, 1) := by decide +kernel
theorem dL_isWell_103 : decode cL_isWell 103 = .ok (.invokevirtual 23, 3) := by decide +kernel
theorem dL_isWell_106 : decode cL_isWell 106 = .ok (.ifCond .ne 15, 3) := by decide +kernel
theorem dL_isWell_109 : decode cL_isWell 109 = .ok (.aload_n 0, 1) := by decide +kernel
theorem dL_isWell_110 : decode cL_isWell 110 = .ok (.bipush 8, 2) := by decide +kernel
theorem dL_isWell_112 : decode cL_isWell 112 = .ok (.invokevirtual 23, 3) := by decide +kernel
theorem dL_isWell_115 : decode cL_isWell 115 = .ok (.ifCond .ne 32, 3) := by decide +kernel
theorem dL_isWell_118 : decode cL_isWell 118 = .ok (.goto 25, 3) := by decide +kernel
theorem dL_isWell_121 : decode cL_isWell 121 = .ok (.aload_n 0, 1) := by decide +kernel
theorem dL_isWell_122 : decode cL_isWell 122 = .ok (.iconst 0, 1) := by decide +kernel
theorem dL_isWell_123 : decode cL_isWell 123 = .ok (.iconst 3, 1) := by decide +kernel
theorem dL_isWell_124 : decode cL_isWell 124 = .ok (.invokevirtual 37, 3) := by decide +kernel
theorem dL_isWell_127 : decode cL_isWell 127 = .ok (.aload_n 0, 1) := by decide +kernel
theorem dL_isWell_128 : decode cL_isWell 128 = .ok (.iconst 1, 1) := by decide +kernel
theorem dL_isWell_129 : decode cL_isWell 129 = .ok (.iconst 3, 1) := by decide +kernel
theorem dL_isWell_130 : decode cL_isWell 130 = .ok (.invokevirtual 37, 3) := by decide +kernel
theorem dL_isWell_133 : decode cL_isWell 133 = .ok (.iadd, 1) := by decide +kernel
theorem dL_isWell_134 : decode cL_isWell 134 = .ok (.aload_n 0, 1) := by decide +kernel
theorem dL_isWell_135 : decode cL_isWell 135 = .ok (.bipush 8, 2) := by decide +kernel
theorem dL_isWell_137 : decode cL_isWell 137 = .ok (.invokevirtual 23, 3) := by decide +kernel
theorem dL_isWell_140 : decode cL_isWell 140 = .ok (.if_icmp .ne 7, 3) := by decide +kernel
theorem dL_isWell_143 : decode cL_isWell 143 = .ok (.iconst 1, 1) := by decide +kernel
theorem dL_isWell_144 : decode cL_isWell 144 = .ok (.goto 4, 3) := by decide +kernel
theorem dL_isWell_147 : decode cL_isWell 147 = .ok (.iconst 0, 1) := by decide +kernel
theorem dL_isWell_148 : decode cL_isWell 148 = .ok (.istore_n 1, 1) := by decide +kernel
theorem dL_isWell_149 : decode cL_isWell 149 = .ok (.aload_n 0, 1) := by decide +kernel
theorem dL_isWell_150 : decode cL_isWell 150 = .ok (.iconst 0, 1) := by decide +kernel
theorem dL_isWell_151 : decode cL_isWell 151 = .ok (.bipush 6, 2) := by decide +kernel
theorem dL_isWell_153 : decode cL_isWell 153 = .ok (.invokevirtual 37, 3) := by decide +kernel
theorem dL_isWell_156 : decode cL_isWell 156 = .ok (.istore_n 2, 1) := by decide +kernel
theorem dL_isWell_157 : decode cL_isWell 157 = .ok (.aload_n 0, 1) := by decide +kernel
theorem dL_isWell_158 : decode cL_isWell 158 = .ok (.iconst 1, 1) := by decide +kernel
theorem dL_isWell_159 : decode cL_isWell 159 = .ok (.bipush 6, 2) := by decide +kernel
theorem dL_isWell_161 : decode cL_isWell 161 = .ok (.invokevirtual 37, 3) := by decide +kernel
theorem dL_isWell_164 : decode cL_isWell 164 = .ok (.istore_n 3, 1) := by decide +kernel
theorem dL_isWell_165 : decode cL_isWell 165 = .ok (.iload_n 1, 1) := by decide +kernel
theorem dL_isWell_166 : decode cL_isWell 166 = .ok (.ifCond .eq 21, 3) := by decide +kernel
theorem dL_isWell_169 : decode cL_isWell 169 = .ok (.iload_n 2, 1) := by decide +kernel
theorem dL_isWell_170 : decode cL_isWell 170 = .ok (.sipush (-1006), 3) := by decide +kernel
theorem dL_isWell_173 : decode cL_isWell 173 = .ok (.if_icmp .eq 10, 3) := by decide +kernel
theorem dL_isWell_176 : decode cL_isWell 176 = .ok (.iload_n 3, 1) := by decide +kernel
theorem dL_isWell_177 : decode cL_isWell 177 = .ok (.sipush (-1006), 3) := by decide +kernel
theorem dL_isWell_180 : decode cL_isWell 180 = .ok (.if_icmp .ne 7, 3) := by decide +kernel
theorem dL_isWell_183 : decode cL_isWell 183 = .ok (.iconst 1, 1) := by decide +kernel
theorem dL_isWell_184 : decode cL_isWell 184 = .ok (.goto 4, 3) := by decide +kernel
theorem dL_isWell_187 : decode cL_isWell 187 = .ok (.iconst 0, 1) := by decide +kernel
theorem dL_isWell_188 : decode cL_isWell 188 = .ok (.istore_n 1, 1) := by decide +kernel
theorem dL_isWell_189 : decode cL_isWell 189 = .ok (.iconst 0, 1) := by decide +kernel
theorem dL_isWell_190 : decode cL_isWell 190 = .ok (.istore 4, 2) := by decide +kernel
theorem dL_isWell_192 : decode cL_isWell 192 = .ok (.iload 4, 2) := by decide +kernel
theorem dL_isWell_194 : decode cL_isWell 194 = .ok (.iconst 2, 1) := by decide +kernel
theorem dL_isWell_195 : decode cL_isWell 195 = .ok (.if_icmp .ge 131, 3) := by decide +kernel
theorem dL_isWell_198 : decode cL_isWell 198 = .ok (.aload_n 0, 1) := by decide +kernel
theorem dL_isWell_199 : decode cL_isWell 199 = .ok (.iload 4, 2) := by decide +kernel
theorem dL_isWell_201 : decode cL_isWell 201 = .ok (.bipush 6, 2) := by decide +kernel
theorem dL_isWell_203 : decode cL_isWell 203 = .ok (.invokevirtual 37, 3) := by decide +kernel
theorem dL_isWell_206 : decode cL_isWell 206 = .ok (.istore 5, 2) := by decide +kernel
theorem dL_isWell_208 : decode cL_isWell 208 = .ok (.iload_n 1, 1) := by decide +kernel
theorem dL_isWell_209 : decode cL_isWell 209 = .ok (.ifCond .eq 30, 3) := by decide +kernel
theorem dL_isWell_212 : decode cL_isWell 212 = .ok (.aload_n 0, 1) := by decide +kernel
theorem dL_isWell_213 : decode cL_isWell 213 = .ok (.iload 4, 2) := by decide +kernel
theorem dL_isWell_215 : decode cL_isWell 215 = .ok (.iconst 1, 1) := by decide +kernel
theorem dL_isWell_216 : decode cL_isWell 216 = .ok (.invokevirtual 37, 3) := by decide +kernel
theorem dL_isWell_219 : decode cL_isWell 219 = .ok (.aload_n 0, 1) := by decide +kernel
theorem dL_isWell_220 : decode cL_isWell 220 = .ok (.iload 4, 2) := by decide +kernel
theorem dL_isWell_222 : decode cL_isWell 222 = .ok (.iconst 0, 1) := by decide +kernel
theorem dL_isWell_223 : decode cL_isWell 223 = .ok (.invokevirtual 37, 3) := by decide +kernel
theorem dL_isWell_226 : decode cL_isWell 226 = .ok (.aload_n 0, 1) := by decide +kernel
theorem dL_isWell_227 : decode cL_isWell 227 = .ok (.iconst 1, 1) := by decide +kernel
theorem dL_isWell_228 : decode cL_isWell 228 = .ok (.invokevirtual 23, 3) := by decide +kernel
theorem dL_isWell_231 : decode cL_isWell 231 = .ok (.iadd, 1) := by decide +kernel
theorem dL_isWell_232 : decode cL_isWell 232 = .ok (.if_icmp .ne 7, 3) := by decide +kernel
theorem dL_isWell_235 : decode cL_isWell 235 = .ok (.iconst 1, 1) := by decide +kernel
theorem dL_isWell_236 : decode cL_isWell 236 = .ok (.goto 4, 3) := by decide +kernel
theorem dL_isWell_239 : decode cL_isWell 239 = .ok (.iconst 0, 1) := by decide +kernel
theorem dL_isWell_240 : decode cL_isWell 240 = .ok (.istore_n 1, 1) := by decide +kernel
theorem dL_isWell_241 : decode cL_isWell 241 = .ok (.iconst 0, 1) := by decide +kernel
theorem dL_isWell_242 : decode cL_isWell 242 = .ok (.istore 6, 2) := by decide +kernel
theorem dL_isWell_244 : decode cL_isWell 244 = .ok (.iload 6, 2) := by decide +kernel
theorem dL_isWell_246 : decode cL_isWell 246 = .ok (.bipush 9, 2) := by decide +kernel
theorem dL_isWell_248 : decode cL_isWell 248 = .ok (.if_icmp .ge 72, 3) := by decide +kernel
theorem dL_isWell_251 : decode cL_isWell 251 = .ok (.iload_n 1, 1) := by decide +kernel
theorem dL_isWell_252 : decode cL_isWell 252 = .ok (.ifCond .eq 60, 3) := by decide +kernel
theorem dL_isWell_255 : decode cL_isWell 255 = .ok (.aload_n 0, 1) := by decide +kernel
theorem dL_isWell_256 : decode cL_isWell 256 = .ok (.iload 4, 2) := by decide +kernel
theorem dL_isWell_258 : decode cL_isWell 258 = .ok (.iload 6, 2) := by decide +kernel
theorem dL_isWell_260 : decode cL_isWell 260 = .ok (.invokevirtual 75, 3) := by decide +kernel
theorem dL_isWell_263 : decode cL_isWell 263 = .ok (.iload 5, 2) := by decide +kernel
theorem dL_isWell_265 : decode cL_isWell 265 = .ok (.ifCond .lt 14, 3) := by decide +kernel
theorem dL_isWell_268 : decode cL_isWell 268 = .ok (.iload 6, 2) := by decide +kernel
theorem dL_isWell_270 : decode cL_isWell 270 = .ok (.iload 5, 2) := by decide +kernel
theorem dL_isWell_272 : decode cL_isWell 272 = .ok (.if_icmp .lt 7, 3) := by decide +kernel
theorem dL_isWell_275 : decode cL_isWell 275 = .ok (.iconst 1, 1) := by decide +kernel
theorem dL_isWell_276 : decode cL_isWell 276 = .ok (.goto 4, 3) := by decide +kernel
theorem dL_isWell_279 : decode cL_isWell 279 = .ok (.iconst 0, 1) := by decide +kernel
theorem dL_isWell_280 : decode cL_isWell 280 = .ok (.if_icmp .ne 32, 3) := by decide +kernel
theorem dL_isWell_283 : decode cL_isWell 283 = .ok (.iload 6, 2) := by decide +kernel
theorem dL_isWell_285 : decode cL_isWell 285 = .ok (.iconst 2, 1) := by decide +kernel
theorem dL_isWell_286 : decode cL_isWell 286 = .ok (.if_icmp .gt 22, 3) := by decide +kernel
theorem dL_isWell_289 : decode cL_isWell 289 = .ok (.aload_n 0, 1) := by decide +kernel
theorem dL_isWell_290 : decode cL_isWell 290 = .ok (.iload 4, 2) := by decide +kernel
theorem dL_isWell_292 : decode cL_isWell 292 = .ok (.iload 6, 2) := by decide +kernel
theorem dL_isWell_294 : decode cL_isWell 294 = .ok (.invokevirtual 78, 3) := by decide +kernel
theorem dL_isWell_297 : decode cL_isWell 297 = .ok (.aload_n 0, 1) := by decide +kernel
theorem dL_isWell_298 : decode cL_isWell 298 = .ok (.iload 4, 2) := by decide +kernel
theorem dL_isWell_300 : decode cL_isWell 300 = .ok (.iload 6, 2) := by decide +kernel
theorem dL_isWell_302 : decode cL_isWell 302 = .ok (.invokevirtual 75, 3) := by decide +kernel
theorem dL_isWell_305 : decode cL_isWell 305 = .ok (.if_icmp .ne 7, 3) := by decide +kernel
theorem dL_isWell_308 : decode cL_isWell 308 = .ok (.iconst 1, 1) := by decide +kernel
theorem dL_isWell_309 : decode cL_isWell 309 = .ok (.goto 4, 3) := by decide +kernel
theorem dL_isWell_312 : decode cL_isWell 312 = .ok (.iconst 0, 1) := by decide +kernel
theorem dL_isWell_313 : decode cL_isWell 313 = .ok (.istore_n 1, 1) := by decide +kernel
theorem dL_isWell_314 : decode cL_isWell 314 = .ok (.iinc 6 1, 3) := by decide +kernel
theorem dL_isWell_317 : decode cL_isWell 317 = .ok (.goto (-73), 3) := by decide +kernel
theorem dL_isWell_320 : decode cL_isWell 320 = .ok (.iinc 4 1, 3) := by decide +kernel
theorem dL_isWell_323 : decode cL_isWell 323 = .ok (.goto (-131), 3) := by decide +kernel
theorem dL_isWell_326 : decode cL_isWell 326 = .ok (.aload_n 0, 1) := by decide +kernel
theorem dL_isWell_327 : decode cL_isWell 327 = .ok (.iconst 5, 1) := by decide +kernel
theorem dL_isWell_328 : decode cL_isWell 328 = .ok (.invokevirtual 23, 3) := by decide +kernel
theorem dL_isWell_331 : decode cL_isWell 331 = .ok (.istore 4, 2) := by decide +kernel
theorem dL_isWell_333 : decode cL_isWell 333 = .ok (.iload 4, 2) := by decide +kernel
theorem dL_isWell_335 : decode cL_isWell 335 = .ok (.ifCond .ge 28, 3) := by decide +kernel
theorem dL_isWell_338 : decode cL_isWell 338 = .ok (.iload_n 1, 1) := by decide +kernel
theorem dL_isWell_339 : decode cL_isWell 339 = .ok (.ifCond .eq 22, 3) := by decide +kernel
theorem dL_isWell_342 : decode cL_isWell 342 = .ok (.aload_n 0, 1) := by decide +kernel
theorem dL_isWell_343 : decode cL_isWell 343 = .ok (.aload_n 0, 1) := by decide +kernel
theorem dL_isWell_344 : decode cL_isWell 344 = .ok (.bipush 7, 2) := by decide +kernel
theorem dL_isWell_346 : decode cL_isWell 346 = .ok (.invokevirtual 23, 3) := by decide +kernel
theorem dL_isWell_349 : decode cL_isWell 349 = .ok (.bipush 6, 2) := by decide +kernel
theorem dL_isWell_351 : decode cL_isWell 351 = .ok (.invokevirtual 37, 3) := by decide +kernel
theorem dL_isWell_354 : decode cL_isWell 354 = .ok (.ifCond .ne 7, 3) := by decide +kernel
theorem dL_isWell_357 : decode cL_isWell 357 = .ok (.iconst 1, 1) := by decide +kernel
theorem dL_isWell_358 : decode cL_isWell 358 = .ok (.goto 4, 3) := by decide +kernel
theorem dL_isWell_361 : decode cL_isWell 361 = .ok (.iconst 0, 1) := by decide +kernel
theorem dL_isWell_362 : decode cL_isWell 362 = .ok (.ireturn, 1) := by decide +kernel
theorem dL_isWell_363 : decode cL_isWell 363 = .ok (.aload_n 0, 1) := by decide +kernel
theorem dL_isWell_364 : decode cL_isWell 364 = .ok (.invokevirtual 81, 3) := by decide +kernel
theorem dL_isWell_367 : decode cL_isWell 367 = .ok (.istore 5, 2) := by decide +kernel
theorem dL_isWell_369 : decode cL_isWell 369 = .ok (.aload_n 0, 1) := by decide +kernel
theorem dL_isWell_370 : decode cL_isWell 370 = .ok (.iload 4, 2) := by decide +kernel
theorem dL_isWell_372 : decode cL_isWell 372 = .ok (.bipush 6, 2) := by decide +kernel
theorem dL_isWell_374 : decode cL_isWell 374 = .ok (.invokevirtual 37, 3) := by decide +kernel
theorem dL_isWell_377 : decode cL_isWell 377 = .ok (.istore 6, 2) := by decide +kernel
theorem dL_isWell_379 : decode cL_isWell 379 = .ok (.iload_n 1, 1) := by decide +kernel
theorem dL_isWell_380 : decode cL_isWell 380 = .ok (.ifCond .eq 78, 3) := by decide +kernel
theorem dL_isWell_383 : decode cL_isWell 383 = .ok (.iload 5, 2) := by decide +kernel
theorem dL_isWell_385 : decode cL_isWell 385 = .ok (.ifCond .le 7, 3) := by decide +kernel
theorem dL_isWell_388 : decode cL_isWell 388 = .ok (.iconst 1, 1) := by decide +kernel
theorem dL_isWell_389 : decode cL_isWell 389 = .ok (.goto 4, 3) := by decide +kernel
theorem dL_isWell_392 : decode cL_isWell 392 = .ok (.iconst 0, 1) := by decide +kernel
theorem dL_isWell_393 : decode cL_isWell 393 = .ok (.iload 6, 2) := by decide +kernel
theorem dL_isWell_395 : decode cL_isWell 395 = .ok (.ifCond .lt 7, 3) := by decide +kernel
theorem dL_isWell_398 : decode cL_isWell 398 = .ok (.iconst 1, 1) := by decide +kernel
theorem dL_isWell_399 : decode cL_isWell 399 = .ok (.goto 4, 3) := by decide +kernel
theorem dL_isWell_402 : decode cL_isWell 402 = .ok (.iconst 0, 1) := by decide +kernel
theorem dL_isWell_403 : decode cL_isWell 403 = .ok (.if_icmp .ne 55, 3) := by decide +kernel
theorem dL_isWell_406 : decode cL_isWell 406 = .ok (.iload 5, 2) := by decide +kernel
theorem dL_isWell_408 : decode cL_isWell 408 = .ok (.aload_n 0, 1) := by decide +kernel
theorem dL_isWell_409 : decode cL_isWell 409 = .ok (.iload 4, 2) := by decide +kernel
theorem dL_isWell_411 : decode cL_isWell 411 = .ok (.iconst 1, 1) := by decide +kernel
theorem dL_isWell_412 : decode cL_isWell 412 = .ok (.invokevirtual 37, 3) := by decide +kernel
theorem dL_isWell_415 : decode cL_isWell 415 = .ok (.iconst 1, 1) := by decide +kernel
theorem dL_isWell_416 : decode cL_isWell 416 = .ok (.iadd, 1) := by decide +kernel
theorem dL_isWell_417 : decode cL_isWell 417 = .ok (.if_icmp .gt 41, 3) := by decide +kernel
theorem dL_isWell_420 : decode cL_isWell 420 = .ok (.aload_n 0, 1) := by decide +kernel
theorem dL_isWell_421 : decode cL_isWell 421 = .ok (.invokevirtual 84, 3) := by decide +kernel
theorem dL_isWell_424 : decode cL_isWell 424 = .ok (.ifCond .lt 34, 3) := by decide +kernel
theorem dL_isWell_427 : decode cL_isWell 427 = .ok (.aload_n 0, 1) := by decide +kernel
theorem dL_isWell_428 : decode cL_isWell 428 = .ok (.invokevirtual 84, 3) := by decide +kernel
theorem dL_isWell_431 : decode cL_isWell 431 = .ok (.aload_n 0, 1) := by decide +kernel
theorem dL_isWell_432 : decode cL_isWell 432 = .ok (.iload 4, 2) := by decide +kernel
theorem dL_isWell_434 : decode cL_isWell 434 = .ok (.iconst 1, 1) := by decide +kernel
theorem dL_isWell_435 : decode cL_isWell 435 = .ok (.invokevirtual 37, 3) := by decide +kernel
theorem dL_isWell_438 : decode cL_isWell 438 = .ok (.if_icmp .gt 20, 3) := by decide +kernel
theorem dL_isWell_441 : decode cL_isWell 441 = .ok (.iload 4, 2) := by decide +kernel
theorem dL_isWell_443 : decode cL_isWell 443 = .ok (.ifCond .ne 7, 3) := by decide +kernel
theorem dL_isWell_446 : decode cL_isWell 446 = .ok (.iload_n 2, 1) := by decide +kernel
theorem dL_isWell_447 : decode cL_isWell 447 = .ok (.goto 4, 3) := by decide +kernel
theorem dL_isWell_450 : decode cL_isWell 450 = .ok (.iload_n 3, 1) := by decide +kernel
theorem dL_isWell_451 : decode cL_isWell 451 = .ok (.ifCond .eq 7, 3) := by decide +kernel
theorem dL_isWell_454 : decode cL_isWell 454 = .ok (.iconst 1, 1) := by decide +kernel
theorem dL_isWell_455 : decode cL_isWell 455 = .ok (.goto 4, 3) := by decide +kernel
theorem dL_isWell_458 : decode cL_isWell 458 = .ok (.iconst 0, 1) := by decide +kernel
theorem dL_isWell_459 : decode cL_isWell 459 = .ok (.ireturn, 1) := by decide +kernel
theorem dL_law_0 : decode cL_law 0 = .ok (.new 12, 3) := by decide +kernel
theorem dL_law_3 : decode cL_law 3 = .ok (.dup, 1) := by decide +kernel
theorem dL_law_4 : decode cL_law 4 = .ok (.invokespecial 87, 3) := by decide +kernel
theorem dL_law_7 : decode cL_law 7 = .ok (.astore_n 1, 1) := by decide +kernel
theorem dL_law_8 : decode cL_law 8 = .ok (.new 12, 3) := by decide +kernel
theorem dL_law_11 : decode cL_law 11 = .ok (.dup, 1) := by decide +kernel
theorem dL_law_12 : decode cL_law 12 = .ok (.invokespecial 87, 3) := by decide +kernel
theorem dL_law_15 : decode cL_law 15 = .ok (.astore_n 2, 1) := by decide +kernel
theorem dL_law_16 : decode cL_law 16 = .ok (.iconst 1, 1) := by decide +kernel
theorem dL_law_17 : decode cL_law 17 = .ok (.istore_n 3, 1) := by decide +kernel
theorem dL_law_18 : decode cL_law 18 = .ok (.iconst 0, 1) := by decide +kernel
theorem dL_law_19 : decode cL_law 19 = .ok (.istore 4, 2) := by decide +kernel
theorem dL_law_21 : decode cL_law 21 = .ok (.iload 4, 2) := by decide +kernel
theorem dL_law_23 : decode cL_law 23 = .ok (.bipush 46, 2) := by decide +kernel
theorem dL_law_25 : decode cL_law 25 = .ok (.if_icmp .ge 57, 3) := by decide +kernel
theorem dL_law_28 : decode cL_law 28 = .ok (.iload_n 3, 1) := by decide +kernel
theorem dL_law_29 : decode cL_law 29 = .ok (.ifCond .eq 53, 3) := by decide +kernel
theorem dL_law_32 : decode cL_law 32 = .ok (.aload_n 1, 1) := by decide +kernel
theorem dL_law_33 : decode cL_law 33 = .ok (.aload_n 2, 1) := by decide +kernel
theorem dL_law_34 : decode cL_law 34 = .ok (.aload_n 0, 1) := by decide +kernel
theorem dL_law_35 : decode cL_law 35 = .ok (.iload 4, 2) := by decide +kernel
theorem dL_law_37 : decode cL_law 37 = .ok (.invokestatic 88, 3) := by decide +kernel
theorem dL_law_40 : decode cL_law 40 = .ok (.aload_n 0, 1) := by decide +kernel
theorem dL_law_41 : decode cL_law 41 = .ok (.iload 4, 2) := by decide +kernel
theorem dL_law_43 : decode cL_law 43 = .ok (.iconst 1, 1) := by decide +kernel
theorem dL_law_44 : decode cL_law 44 = .ok (.iadd, 1) := by decide +kernel
theorem dL_law_45 : decode cL_law 45 = .ok (.invokestatic 88, 3) := by decide +kernel
theorem dL_law_48 : decode cL_law 48 = .ok (.iconst 2, 1) := by decide +kernel
theorem dL_law_49 : decode cL_law 49 = .ok (.ishr, 1) := by decide +kernel
theorem dL_law_50 : decode cL_law 50 = .ok (.invokestatic 92, 3) := by decide +kernel
theorem dL_law_53 : decode cL_law 53 = .ok (.ifCond .eq 21, 3) := by decide +kernel
theorem dL_law_56 : decode cL_law 56 = .ok (.iload 4, 2) := by decide +kernel
theorem dL_law_58 : decode cL_law 58 = .ok (.iconst 5, 1) := by decide +kernel
theorem dL_law_59 : decode cL_law 59 = .ok (.irem, 1) := by decide +kernel
theorem dL_law_60 : decode cL_law 60 = .ok (.ifCond .gt 10, 3) := by decide +kernel
theorem dL_law_63 : decode cL_law 63 = .ok (.aload_n 1, 1) := by decide +kernel
theorem dL_law_64 : decode cL_law 64 = .ok (.invokestatic 96, 3) := by decide +kernel
theorem dL_law_67 : decode cL_law 67 = .ok (.ifCond .eq 7, 3) := by decide +kernel
theorem dL_law_70 : decode cL_law 70 = .ok (.iconst 1, 1) := by decide +kernel
theorem dL_law_71 : decode cL_law 71 = .ok (.goto 4, 3) := by decide +kernel
theorem dL_law_74 : decode cL_law 74 = .ok (.iconst 0, 1) := by decide +kernel
theorem dL_law_75 : decode cL_law 75 = .ok (.istore_n 3, 1) := by decide +kernel
theorem dL_law_76 : decode cL_law 76 = .ok (.iinc 4 1, 3) := by decide +kernel
theorem dL_law_79 : decode cL_law 79 = .ok (.goto (-58), 3) := by decide +kernel
theorem dL_law_82 : decode cL_law 82 = .ok (.iload_n 3, 1) := by decide +kernel
theorem dL_law_83 : decode cL_law 83 = .ok (.ifCond .eq 21, 3) := by decide +kernel
theorem dL_law_86 : decode cL_law 86 = .ok (.aload_n 1, 1) := by decide +kernel
theorem dL_law_87 : decode cL_law 87 = .ok (.invokestatic 96, 3) := by decide +kernel
theorem dL_law_90 : decode cL_law 90 = .ok (.ifCond .eq 14, 3) := by decide +kernel
theorem dL_law_93 : decode cL_law 93 = .ok (.aload_n 2, 1) := by decide +kernel
theorem dL_law_94 : decode cL_law 94 = .ok (.invokestatic 96, 3) := by decide +kernel
theorem dL_law_97 : decode cL_law 97 = .ok (.ifCond .eq 7, 3) := by decide +kernel
theorem dL_law_100 : decode cL_law 100 = .ok (.iconst 1, 1) := by decide +kernel
theorem dL_law_101 : decode cL_law 101 = .ok (.goto 4, 3) := by decide +kernel
theorem dL_law_104 : decode cL_law 104 = .ok (.iconst 0, 1) := by decide +kernel
theorem dL_law_105 : decode cL_law 105 = .ok (.istore_n 3, 1) := by decide +kernel
theorem dL_law_106 : decode cL_law 106 = .ok (.iconst 0, 1) := by decide +kernel
theorem dL_law_107 : decode cL_law 107 = .ok (.istore 4, 2) := by decide +kernel
theorem dL_law_109 : decode cL_law 109 = .ok (.iload 4, 2) := by decide +kernel
theorem dL_law_111 : decode cL_law 111 = .ok (.bipush 10, 2) := by decide +kernel
theorem dL_law_113 : decode cL_law 113 = .ok (.if_icmp .ge 75, 3) := by decide +kernel
theorem dL_law_116 : decode cL_law 116 = .ok (.iload_n 3, 1) := by decide +kernel
theorem dL_law_117 : decode cL_law 117 = .ok (.ifCond .eq 63, 3) := by decide +kernel
theorem dL_law_120 : decode cL_law 120 = .ok (.aload_n 1, 1) := by decide +kernel
theorem dL_law_121 : decode cL_law 121 = .ok (.iload 4, 2) := by decide +kernel
theorem dL_law_123 : decode cL_law 123 = .ok (.invokevirtual 23, 3) := by decide +kernel
theorem dL_law_126 : decode cL_law 126 = .ok (.aload_n 2, 1) := by decide +kernel
theorem dL_law_127 : decode cL_law 127 = .ok (.iload 4, 2) := by decide +kernel
theorem dL_law_129 : decode cL_law 129 = .ok (.invokevirtual 23, 3) := by decide +kernel
theorem dL_law_132 : decode cL_law 132 = .ok (.if_icmp .ne 48, 3) := by decide +kernel
theorem dL_law_135 : decode cL_law 135 = .ok (.iload 4, 2) := by decide +kernel
theorem dL_law_137 : decode cL_law 137 = .ok (.bipush 6, 2) := by decide +kernel
theorem dL_law_139 : decode cL_law 139 = .ok (.if_icmp .gt 37, 3) := by decide +kernel
theorem dL_law_142 : decode cL_law 142 = .ok (.aload_n 1, 1) := by decide +kernel
theorem dL_law_143 : decode cL_law 143 = .ok (.iconst 0, 1) := by decide +kernel
theorem dL_law_144 : decode cL_law 144 = .ok (.iload 4, 2) := by decide +kernel
theorem dL_law_146 : decode cL_law 146 = .ok (.invokevirtual 37, 3) := by decide +kernel
theorem dL_law_149 : decode cL_law 149 = .ok (.aload_n 2, 1) := by decide +kernel
theorem dL_law_150 : decode cL_law 150 = .ok (.iconst 0, 1) := by decide +kernel
theorem dL_law_151 : decode cL_law 151 = .ok (.iload 4, 2) := by decide +kernel
theorem dL_law_153 : decode cL_law 153 = .ok (.invokevirtual 37, 3) := by decide +kernel
theorem dL_law_156 : decode cL_law 156 = .ok (.if_icmp .ne 24, 3) := by decide +kernel
theorem dL_law_159 : decode cL_law 159 = .ok (.aload_n 1, 1) := by decide +kernel
theorem dL_law_160 : decode cL_law 160 = .ok (.iconst 1, 1) := by decide +kernel
theorem dL_law_161 : decode cL_law 161 = .ok (.iload 4, 2) := by decide +kernel
theorem dL_law_163 : decode cL_law 163 = .ok (.invokevirtual 37, 3) := by decide +kernel
theorem dL_law_166 : decode cL_law 166 = .ok (.aload_n 2, 1) := by decide +kernel
theorem dL_law_167 : decode cL_law 167 = .ok (.iconst 1, 1) := by decide +kernel
theorem dL_law_168 : decode cL_law 168 = .ok (.iload 4, 2) := by decide +kernel
theorem dL_law_170 : decode cL_law 170 = .ok (.invokevirtual 37, 3) := by decide +kernel
theorem dL_law_173 : decode cL_law 173 = .ok (.if_icmp .ne 7, 3) := by decide +kernel
theorem dL_law_176 : decode cL_law 176 = .ok (.iconst 1, 1) := by decide +kernel
theorem dL_law_177 : decode cL_law 177 = .ok (.goto 4, 3) := by decide +kernel
theorem dL_law_180 : decode cL_law 180 = .ok (.iconst 0, 1) := by decide +kernel
theorem dL_law_181 : decode cL_law 181 = .ok (.istore_n 3, 1) := by decide +kernel
theorem dL_law_182 : decode cL_law 182 = .ok (.iinc 4 1, 3) := by decide +kernel
theorem dL_law_185 : decode cL_law 185 = .ok (.goto (-76), 3) := by decide +kernel
theorem dL_law_188 : decode cL_law 188 = .ok (.iload_n 3, 1) := by decide +kernel
theorem dL_law_189 : decode cL_law 189 = .ok (.ifCond .eq 68, 3) := by decide +kernel
theorem dL_law_192 : decode cL_law 192 = .ok (.aload_n 1, 1) := by decide +kernel
theorem dL_law_193 : decode cL_law 193 = .ok (.invokevirtual 84, 3) := by decide +kernel
theorem dL_law_196 : decode cL_law 196 = .ok (.aload_n 2, 1) := by decide +kernel
theorem dL_law_197 : decode cL_law 197 = .ok (.invokevirtual 84, 3) := by decide +kernel
theorem dL_law_200 : decode cL_law 200 = .ok (.if_icmp .ne 57, 3) := by decide +kernel
theorem dL_law_203 : decode cL_law 203 = .ok (.aload_n 1, 1) := by decide +kernel
theorem dL_law_204 : decode cL_law 204 = .ok (.iconst 0, 1) := by decide +kernel
theorem dL_law_205 : decode cL_law 205 = .ok (.invokevirtual 99, 3) := by decide +kernel
theorem dL_law_208 : decode cL_law 208 = .ok (.aload_n 2, 1) := by decide +kernel
theorem dL_law_209 : decode cL_law 209 = .ok (.iconst 0, 1) := by decide +kernel
theorem dL_law_210 : decode cL_law 210 = .ok (.invokevirtual 99, 3) := by decide +kernel
theorem dL_law_213 : decode cL_law 213 = .ok (.if_icmp .ne 44, 3) := by decide +kernel
theorem dL_law_216 : decode cL_law 216 = .ok (.aload_n 1, 1) := by decide +kernel
theorem dL_law_217 : decode cL_law 217 = .ok (.invokevirtual 81, 3) := by decide +kernel
theorem dL_law_220 : decode cL_law 220 = .ok (.aload_n 2, 1) := by decide +kernel
theorem dL_law_221 : decode cL_law 221 = .ok (.invokevirtual 81, 3) := by decide +kernel
theorem dL_law_224 : decode cL_law 224 = .ok (.if_icmp .ne 33, 3) := by decide +kernel
theorem dL_law_227 : decode cL_law 227 = .ok (.aload_n 1, 1) := by decide +kernel
theorem dL_law_228 : decode cL_law 228 = .ok (.iconst 0, 1) := by decide +kernel
theorem dL_law_229 : decode cL_law 229 = .ok (.invokevirtual 53, 3) := by decide +kernel
theorem dL_law_232 : decode cL_law 232 = .ok (.aload_n 2, 1) := by decide +kernel
theorem dL_law_233 : decode cL_law 233 = .ok (.iconst 0, 1) := by decide +kernel
theorem dL_law_234 : decode cL_law 234 = .ok (.invokevirtual 53, 3) := by decide +kernel
theorem dL_law_237 : decode cL_law 237 = .ok (.if_icmp .ne 20, 3) := by decide +kernel
theorem dL_law_240 : decode cL_law 240 = .ok (.aload_n 1, 1) := by decide +kernel
theorem dL_law_241 : decode cL_law 241 = .ok (.iconst 1, 1) := by decide +kernel
theorem dL_law_242 : decode cL_law 242 = .ok (.invokevirtual 53, 3) := by decide +kernel
theorem dL_law_245 : decode cL_law 245 = .ok (.aload_n 2, 1) := by decide +kernel
theorem dL_law_246 : decode cL_law 246 = .ok (.iconst 1, 1) := by decide +kernel
theorem dL_law_247 : decode cL_law 247 = .ok (.invokevirtual 53, 3) := by decide +kernel
theorem dL_law_250 : decode cL_law 250 = .ok (.if_icmp .ne 7, 3) := by decide +kernel
theorem dL_law_253 : decode cL_law 253 = .ok (.iconst 1, 1) := by decide +kernel
theorem dL_law_254 : decode cL_law 254 = .ok (.goto 4, 3) := by decide +kernel
theorem dL_law_257 : decode cL_law 257 = .ok (.iconst 0, 1) := by decide +kernel
theorem dL_law_258 : decode cL_law 258 = .ok (.ireturn, 1) := by decide +kernel
