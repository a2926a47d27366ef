theorem dL_fails_0 : decode cL_fails 0 = .ok (.aload_n 0, 1) := by decide +kernel
theorem dL_fails_1 : decode cL_fails 1 = .ok (.iconst 0, 1) := by decide +kernel
theorem dL_fails_2 : decode cL_fails 2 = .ok (.invokestatic 159, 3) := by decide +kernel
theorem dL_fails_5 : decode cL_fails 5 = .ok (.istore_n 2, 1) := by decide +kernel
theorem dL_fails_6 : decode cL_fails 6 = .ok (.aload_n 0, 1) := by decide +kernel
theorem dL_fails_7 : decode cL_fails 7 = .ok (.iconst 0, 1) := by decide +kernel
theorem dL_fails_8 : decode cL_fails 8 = .ok (.iconst (-1), 1) := by decide +kernel
theorem dL_fails_9 : decode cL_fails 9 = .ok (.iload_n 1, 1) := by decide +kernel
theorem dL_fails_10 : decode cL_fails 10 = .ok (.bipush 9, 2) := by decide +kernel
theorem dL_fails_12 : decode cL_fails 12 = .ok (.irem, 1) := by decide +kernel
theorem dL_fails_13 : decode cL_fails 13 = .ok (.isub, 1) := by decide +kernel
theorem dL_fails_14 : decode cL_fails 14 = .ok (.iconst 0, 1) := by decide +kernel
theorem dL_fails_15 : decode cL_fails 15 = .ok (.iconst 0, 1) := by decide +kernel
theorem dL_fails_16 : decode cL_fails 16 = .ok (.iconst 0, 1) := by decide +kernel
theorem dL_fails_17 : decode cL_fails 17 = .ok (.invokestatic 153, 3) := by decide +kernel
theorem dL_fails_20 : decode cL_fails 20 = .ok (.ldc 15, 2) := by decide +kernel
theorem dL_fails_22 : decode cL_fails 22 = .ok (.if_icmp .ne 65, 3) := by decide +kernel
theorem dL_fails_25 : decode cL_fails 25 = .ok (.aload_n 0, 1) := by decide +kernel
theorem dL_fails_26 : decode cL_fails 26 = .ok (.bipush 17, 2) := by decide +kernel
theorem dL_fails_28 : decode cL_fails 28 = .ok (.invokestatic 159, 3) := by decide +kernel
theorem dL_fails_31 : decode cL_fails 31 = .ok (.ldc 15, 2) := by decide +kernel
theorem dL_fails_33 : decode cL_fails 33 = .ok (.if_icmp .ne 54, 3) := by decide +kernel
theorem dL_fails_36 : decode cL_fails 36 = .ok (.aload_n 0, 1) := by decide +kernel
theorem dL_fails_37 : decode cL_fails 37 = .ok (.bipush 7, 2) := by decide +kernel
theorem dL_fails_39 : decode cL_fails 39 = .ok (.bipush 6, 2) := by decide +kernel
theorem dL_fails_41 : decode cL_fails 41 = .ok (.iconst 1, 1) := by decide +kernel
theorem dL_fails_42 : decode cL_fails 42 = .ok (.iconst 0, 1) := by decide +kernel
theorem dL_fails_43 : decode cL_fails 43 = .ok (.iconst 0, 1) := by decide +kernel
theorem dL_fails_44 : decode cL_fails 44 = .ok (.invokestatic 153, 3) := by decide +kernel
theorem dL_fails_47 : decode cL_fails 47 = .ok (.ldc 15, 2) := by decide +kernel
theorem dL_fails_49 : decode cL_fails 49 = .ok (.if_icmp .ne 38, 3) := by decide +kernel
theorem dL_fails_52 : decode cL_fails 52 = .ok (.aload_n 0, 1) := by decide +kernel
theorem dL_fails_53 : decode cL_fails 53 = .ok (.bipush 7, 2) := by decide +kernel
theorem dL_fails_55 : decode cL_fails 55 = .ok (.iconst 0, 1) := by decide +kernel
theorem dL_fails_56 : decode cL_fails 56 = .ok (.bipush 100, 2) := by decide +kernel
theorem dL_fails_58 : decode cL_fails 58 = .ok (.iconst 0, 1) := by decide +kernel
theorem dL_fails_59 : decode cL_fails 59 = .ok (.iconst 0, 1) := by decide +kernel
theorem dL_fails_60 : decode cL_fails 60 = .ok (.invokestatic 153, 3) := by decide +kernel
theorem dL_fails_63 : decode cL_fails 63 = .ok (.ldc 15, 2) := by decide +kernel
theorem dL_fails_65 : decode cL_fails 65 = .ok (.if_icmp .ne 22, 3) := by decide +kernel
theorem dL_fails_68 : decode cL_fails 68 = .ok (.aload_n 0, 1) := by decide +kernel
theorem dL_fails_69 : decode cL_fails 69 = .ok (.bipush 8, 2) := by decide +kernel
theorem dL_fails_71 : decode cL_fails 71 = .ok (.iload_n 2, 1) := by decide +kernel
theorem dL_fails_72 : decode cL_fails 72 = .ok (.iconst 0, 1) := by decide +kernel
theorem dL_fails_73 : decode cL_fails 73 = .ok (.iconst 0, 1) := by decide +kernel
theorem dL_fails_74 : decode cL_fails 74 = .ok (.iconst 0, 1) := by decide +kernel
theorem dL_fails_75 : decode cL_fails 75 = .ok (.invokestatic 153, 3) := by decide +kernel
theorem dL_fails_78 : decode cL_fails 78 = .ok (.ldc 43, 2) := by decide +kernel
theorem dL_fails_80 : decode cL_fails 80 = .ok (.if_icmp .ne 7, 3) := by decide +kernel
theorem dL_fails_83 : decode cL_fails 83 = .ok (.iconst 1, 1) := by decide +kernel
theorem dL_fails_84 : decode cL_fails 84 = .ok (.goto 4, 3) := by decide +kernel
theorem dL_fails_87 : decode cL_fails 87 = .ok (.iconst 0, 1) := by decide +kernel
theorem dL_fails_88 : decode cL_fails 88 = .ok (.istore_n 3, 1) := by decide +kernel
theorem dL_fails_89 : decode cL_fails 89 = .ok (.iload_n 3, 1) := by decide +kernel
theorem dL_fails_90 : decode cL_fails 90 = .ok (.aload_n 0, 1) := by decide +kernel
theorem dL_fails_91 : decode cL_fails 91 = .ok (.bipush 9, 2) := by decide +kernel
theorem dL_fails_93 : decode cL_fails 93 = .ok (.iconst 0, 1) := by decide +kernel
theorem dL_fails_94 : decode cL_fails 94 = .ok (.bipush 6, 2) := by decide +kernel
theorem dL_fails_96 : decode cL_fails 96 = .ok (.iconst 0, 1) := by decide +kernel
theorem dL_fails_97 : decode cL_fails 97 = .ok (.iconst 0, 1) := by decide +kernel
theorem dL_fails_98 : decode cL_fails 98 = .ok (.invokestatic 153, 3) := by decide +kernel
theorem dL_fails_101 : decode cL_fails 101 = .ok (.ldc 43, 2) := by decide +kernel
theorem dL_fails_103 : decode cL_fails 103 = .ok (.if_icmp .ne 88, 3) := by decide +kernel
theorem dL_fails_106 : decode cL_fails 106 = .ok (.aload_n 0, 1) := by decide +kernel
theorem dL_fails_107 : decode cL_fails 107 = .ok (.bipush 9, 2) := by decide +kernel
theorem dL_fails_109 : decode cL_fails 109 = .ok (.iconst (-1), 1) := by decide +kernel
theorem dL_fails_110 : decode cL_fails 110 = .ok (.iconst 0, 1) := by decide +kernel
theorem dL_fails_111 : decode cL_fails 111 = .ok (.iconst 0, 1) := by decide +kernel
theorem dL_fails_112 : decode cL_fails 112 = .ok (.iconst 0, 1) := by decide +kernel
theorem dL_fails_113 : decode cL_fails 113 = .ok (.invokestatic 153, 3) := by decide +kernel
theorem dL_fails_116 : decode cL_fails 116 = .ok (.ldc 43, 2) := by decide +kernel
theorem dL_fails_118 : decode cL_fails 118 = .ok (.if_icmp .ne 73, 3) := by decide +kernel
theorem dL_fails_121 : decode cL_fails 121 = .ok (.aload_n 0, 1) := by decide +kernel
theorem dL_fails_122 : decode cL_fails 122 = .ok (.bipush 10, 2) := by decide +kernel
theorem dL_fails_124 : decode cL_fails 124 = .ok (.bipush 59, 2) := by decide +kernel
theorem dL_fails_126 : decode cL_fails 126 = .ok (.iconst 0, 1) := by decide +kernel
theorem dL_fails_127 : decode cL_fails 127 = .ok (.iconst 0, 1) := by decide +kernel
theorem dL_fails_128 : decode cL_fails 128 = .ok (.iconst 0, 1) := by decide +kernel
theorem dL_fails_129 : decode cL_fails 129 = .ok (.invokestatic 153, 3) := by decide +kernel
theorem dL_fails_132 : decode cL_fails 132 = .ok (.ldc 15, 2) := by decide +kernel
theorem dL_fails_134 : decode cL_fails 134 = .ok (.if_icmp .ne 57, 3) := by decide +kernel
theorem dL_fails_137 : decode cL_fails 137 = .ok (.aload_n 0, 1) := by decide +kernel
theorem dL_fails_138 : decode cL_fails 138 = .ok (.bipush 10, 2) := by decide +kernel
theorem dL_fails_140 : decode cL_fails 140 = .ok (.sipush 601, 3) := by decide +kernel
theorem dL_fails_143 : decode cL_fails 143 = .ok (.iconst 0, 1) := by decide +kernel
theorem dL_fails_144 : decode cL_fails 144 = .ok (.iconst 0, 1) := by decide +kernel
theorem dL_fails_145 : decode cL_fails 145 = .ok (.iconst 0, 1) := by decide +kernel
theorem dL_fails_146 : decode cL_fails 146 = .ok (.invokestatic 153, 3) := by decide +kernel
theorem dL_fails_149 : decode cL_fails 149 = .ok (.ldc 15, 2) := by decide +kernel
theorem dL_fails_151 : decode cL_fails 151 = .ok (.if_icmp .ne 40, 3) := by decide +kernel
theorem dL_fails_154 : decode cL_fails 154 = .ok (.aload_n 0, 1) := by decide +kernel
theorem dL_fails_155 : decode cL_fails 155 = .ok (.bipush 11, 2) := by decide +kernel
theorem dL_fails_157 : decode cL_fails 157 = .ok (.ldc 202, 2) := by decide +kernel
theorem dL_fails_159 : decode cL_fails 159 = .ok (.iconst 0, 1) := by decide +kernel
theorem dL_fails_160 : decode cL_fails 160 = .ok (.iconst 0, 1) := by decide +kernel
theorem dL_fails_161 : decode cL_fails 161 = .ok (.iconst 0, 1) := by decide +kernel
theorem dL_fails_162 : decode cL_fails 162 = .ok (.invokestatic 153, 3) := by decide +kernel
theorem dL_fails_165 : decode cL_fails 165 = .ok (.ldc 15, 2) := by decide +kernel
theorem dL_fails_167 : decode cL_fails 167 = .ok (.if_icmp .ne 24, 3) := by decide +kernel
theorem dL_fails_170 : decode cL_fails 170 = .ok (.aload_n 0, 1) := by decide +kernel
theorem dL_fails_171 : decode cL_fails 171 = .ok (.bipush 11, 2) := by decide +kernel
theorem dL_fails_173 : decode cL_fails 173 = .ok (.sipush (-12345), 3) := by decide +kernel
theorem dL_fails_176 : decode cL_fails 176 = .ok (.iconst 0, 1) := by decide +kernel
theorem dL_fails_177 : decode cL_fails 177 = .ok (.iconst 0, 1) := by decide +kernel
theorem dL_fails_178 : decode cL_fails 178 = .ok (.iconst 0, 1) := by decide +kernel
theorem dL_fails_179 : decode cL_fails 179 = .ok (.invokestatic 153, 3) := by decide +kernel
theorem dL_fails_182 : decode cL_fails 182 = .ok (.ldc 15, 2) := by decide +kernel
theorem dL_fails_184 : decode cL_fails 184 = .ok (.if_icmp .ne 7, 3) := by decide +kernel
theorem dL_fails_187 : decode cL_fails 187 = .ok (.iconst 1, 1) := by decide +kernel
theorem dL_fails_188 : decode cL_fails 188 = .ok (.goto 4, 3) := by decide +kernel
theorem dL_fails_191 : decode cL_fails 191 = .ok (.iconst 0, 1) := by decide +kernel
theorem dL_fails_192 : decode cL_fails 192 = .ok (.iand, 1) := by decide +kernel
theorem dL_fails_193 : decode cL_fails 193 = .ok (.istore_n 3, 1) := by decide +kernel
theorem dL_fails_194 : decode cL_fails 194 = .ok (.iload_n 3, 1) := by decide +kernel
theorem dL_fails_195 : decode cL_fails 195 = .ok (.aload_n 0, 1) := by decide +kernel
theorem dL_fails_196 : decode cL_fails 196 = .ok (.bipush 12, 2) := by decide +kernel
theorem dL_fails_198 : decode cL_fails 198 = .ok (.iload_n 2, 1) := by decide +kernel
theorem dL_fails_199 : decode cL_fails 199 = .ok (.iconst 1, 1) := by decide +kernel
theorem dL_fails_200 : decode cL_fails 200 = .ok (.iconst 0, 1) := by decide +kernel
theorem dL_fails_201 : decode cL_fails 201 = .ok (.iconst 0, 1) := by decide +kernel
theorem dL_fails_202 : decode cL_fails 202 = .ok (.invokestatic 153, 3) := by decide +kernel
theorem dL_fails_205 : decode cL_fails 205 = .ok (.ldc 43, 2) := by decide +kernel
theorem dL_fails_207 : decode cL_fails 207 = .ok (.if_icmp .ne 86, 3) := by decide +kernel
theorem dL_fails_210 : decode cL_fails 210 = .ok (.aload_n 0, 1) := by decide +kernel
theorem dL_fails_211 : decode cL_fails 211 = .ok (.bipush 12, 2) := by decide +kernel
theorem dL_fails_213 : decode cL_fails 213 = .ok (.iconst 0, 1) := by decide +kernel
theorem dL_fails_214 : decode cL_fails 214 = .ok (.iconst 0, 1) := by decide +kernel
theorem dL_fails_215 : decode cL_fails 215 = .ok (.iconst 0, 1) := by decide +kernel
theorem dL_fails_216 : decode cL_fails 216 = .ok (.iconst 0, 1) := by decide +kernel
theorem dL_fails_217 : decode cL_fails 217 = .ok (.invokestatic 153, 3) := by decide +kernel
theorem dL_fails_220 : decode cL_fails 220 = .ok (.ldc 15, 2) := by decide +kernel
theorem dL_fails_222 : decode cL_fails 222 = .ok (.if_icmp .ne 71, 3) := by decide +kernel
theorem dL_fails_225 : decode cL_fails 225 = .ok (.aload_n 0, 1) := by decide +kernel
theorem dL_fails_226 : decode cL_fails 226 = .ok (.ldc2_w 203, 3) := by decide +kernel
theorem dL_fails_229 : decode cL_fails 229 = .ok (.iconst 1, 1) := by decide +kernel
theorem dL_fails_230 : decode cL_fails 230 = .ok (.invokestatic 178, 3) := by decide +kernel
theorem dL_fails_233 : decode cL_fails 233 = .ok (.ldc 15, 2) := by decide +kernel
theorem dL_fails_235 : decode cL_fails 235 = .ok (.if_icmp .ne 58, 3) := by decide +kernel
theorem dL_fails_238 : decode cL_fails 238 = .ok (.aload_n 0, 1) := by decide +kernel
theorem dL_fails_239 : decode cL_fails 239 = .ok (.ldc2_w 205, 3) := by decide +kernel
theorem dL_fails_242 : decode cL_fails 242 = .ok (.iconst 1, 1) := by decide +kernel
theorem dL_fails_243 : decode cL_fails 243 = .ok (.invokestatic 178, 3) := by decide +kernel
theorem dL_fails_246 : decode cL_fails 246 = .ok (.ldc 15, 2) := by decide +kernel
theorem dL_fails_248 : decode cL_fails 248 = .ok (.if_icmp .ne 45, 3) := by decide +kernel
theorem dL_fails_251 : decode cL_fails 251 = .ok (.aload_n 0, 1) := by decide +kernel
theorem dL_fails_252 : decode cL_fails 252 = .ok (.ldc2_w 207, 3) := by decide +kernel
theorem dL_fails_255 : decode cL_fails 255 = .ok (.iconst 1, 1) := by decide +kernel
theorem dL_fails_256 : decode cL_fails 256 = .ok (.invokestatic 178, 3) := by decide +kernel
theorem dL_fails_259 : decode cL_fails 259 = .ok (.ldc 15, 2) := by decide +kernel
theorem dL_fails_261 : decode cL_fails 261 = .ok (.if_icmp .ne 32, 3) := by decide +kernel
theorem dL_fails_264 : decode cL_fails 264 = .ok (.aload_n 0, 1) := by decide +kernel
theorem dL_fails_265 : decode cL_fails 265 = .ok (.lconst 0, 1) := by decide +kernel
theorem dL_fails_266 : decode cL_fails 266 = .ok (.bipush 31, 2) := by decide +kernel
theorem dL_fails_268 : decode cL_fails 268 = .ok (.invokestatic 178, 3) := by decide +kernel
theorem dL_fails_271 : decode cL_fails 271 = .ok (.ldc 15, 2) := by decide +kernel
theorem dL_fails_273 : decode cL_fails 273 = .ok (.if_icmp .ne 20, 3) := by decide +kernel
theorem dL_fails_276 : decode cL_fails 276 = .ok (.aload_n 0, 1) := by decide +kernel
theorem dL_fails_277 : decode cL_fails 277 = .ok (.ldc2_w 209, 3) := by decide +kernel
theorem dL_fails_280 : decode cL_fails 280 = .ok (.iconst 1, 1) := by decide +kernel
theorem dL_fails_281 : decode cL_fails 281 = .ok (.invokestatic 178, 3) := by decide +kernel
theorem dL_fails_284 : decode cL_fails 284 = .ok (.ldc 15, 2) := by decide +kernel
theorem dL_fails_286 : decode cL_fails 286 = .ok (.if_icmp .ne 7, 3) := by decide +kernel
theorem dL_fails_289 : decode cL_fails 289 = .ok (.iconst 1, 1) := by decide +kernel
theorem dL_fails_290 : decode cL_fails 290 = .ok (.goto 4, 3) := by decide +kernel
theorem dL_fails_293 : decode cL_fails 293 = .ok (.iconst 0, 1) := by decide +kernel
theorem dL_fails_294 : decode cL_fails 294 = .ok (.iand, 1) := by decide +kernel
theorem dL_fails_295 : decode cL_fails 295 = .ok (.istore_n 3, 1) := by decide +kernel
theorem dL_fails_296 : decode cL_fails 296 = .ok (.iload_n 3, 1) := by decide +kernel
theorem dL_fails_297 : decode cL_fails 297 = .ok (.aload_n 0, 1) := by decide +kernel
theorem dL_fails_298 : decode cL_fails 298 = .ok (.bipush 7, 2) := by decide +kernel
theorem dL_fails_300 : decode cL_fails 300 = .ok (.iconst 0, 1) := by decide +kernel
theorem dL_fails_301 : decode cL_fails 301 = .ok (.aload_n 0, 1) := by decide +kernel
theorem dL_fails_302 : decode cL_fails 302 = .ok (.iconst 0, 1) := by decide +kernel
theorem dL_fails_303 : decode cL_fails 303 = .ok (.iconst 1, 1) := by decide +kernel
theorem dL_fails_304 : decode cL_fails 304 = .ok (.invokestatic 161, 3) := by decide +kernel
theorem dL_fails_307 : decode cL_fails 307 = .ok (.iconst 0, 1) := by decide +kernel
theorem dL_fails_308 : decode cL_fails 308 = .ok (.iconst 0, 1) := by decide +kernel
theorem dL_fails_309 : decode cL_fails 309 = .ok (.invokestatic 153, 3) := by decide +kernel
theorem dL_fails_312 : decode cL_fails 312 = .ok (.ldc 18, 2) := by decide +kernel
theorem dL_fails_314 : decode cL_fails 314 = .ok (.if_icmp .ne 82, 3) := by decide +kernel
theorem dL_fails_317 : decode cL_fails 317 = .ok (.aload_n 0, 1) := by decide +kernel
theorem dL_fails_318 : decode cL_fails 318 = .ok (.bipush 16, 2) := by decide +kernel
theorem dL_fails_320 : decode cL_fails 320 = .ok (.iconst 0, 1) := by decide +kernel
theorem dL_fails_321 : decode cL_fails 321 = .ok (.iconst 0, 1) := by decide +kernel
theorem dL_fails_322 : decode cL_fails 322 = .ok (.iconst 0, 1) := by decide +kernel
theorem dL_fails_323 : decode cL_fails 323 = .ok (.iconst 0, 1) := by decide +kernel
theorem dL_fails_324 : decode cL_fails 324 = .ok (.invokestatic 153, 3) := by decide +kernel
theorem dL_fails_327 : decode cL_fails 327 = .ok (.ldc 15, 2) := by decide +kernel
theorem dL_fails_329 : decode cL_fails 329 = .ok (.if_icmp .ne 67, 3) := by decide +kernel
theorem dL_fails_332 : decode cL_fails 332 = .ok (.aload_n 0, 1) := by decide +kernel
theorem dL_fails_333 : decode cL_fails 333 = .ok (.bipush 14, 2) := by decide +kernel
theorem dL_fails_335 : decode cL_fails 335 = .ok (.iconst 0, 1) := by decide +kernel
theorem dL_fails_336 : decode cL_fails 336 = .ok (.iconst 0, 1) := by decide +kernel
theorem dL_fails_337 : decode cL_fails 337 = .ok (.iconst 0, 1) := by decide +kernel
theorem dL_fails_338 : decode cL_fails 338 = .ok (.iconst 0, 1) := by decide +kernel
theorem dL_fails_339 : decode cL_fails 339 = .ok (.invokestatic 153, 3) := by decide +kernel
theorem dL_fails_342 : decode cL_fails 342 = .ok (.ldc 15, 2) := by decide +kernel
theorem dL_fails_344 : decode cL_fails 344 = .ok (.if_icmp .ne 52, 3) := by decide +kernel
theorem dL_fails_347 : decode cL_fails 347 = .ok (.aload_n 0, 1) := by decide +kernel
theorem dL_fails_348 : decode cL_fails 348 = .ok (.bipush 17, 2) := by decide +kernel
theorem dL_fails_350 : decode cL_fails 350 = .ok (.iconst 2, 1) := by decide +kernel
theorem dL_fails_351 : decode cL_fails 351 = .ok (.iconst 0, 1) := by decide +kernel
theorem dL_fails_352 : decode cL_fails 352 = .ok (.iconst 0, 1) := by decide +kernel
theorem dL_fails_353 : decode cL_fails 353 = .ok (.iconst 0, 1) := by decide +kernel
theorem dL_fails_354 : decode cL_fails 354 = .ok (.invokestatic 153, 3) := by decide +kernel
theorem dL_fails_357 : decode cL_fails 357 = .ok (.ldc 43, 2) := by decide +kernel
theorem dL_fails_359 : decode cL_fails 359 = .ok (.if_icmp .ne 37, 3) := by decide +kernel
theorem dL_fails_362 : decode cL_fails 362 = .ok (.aload_n 0, 1) := by decide +kernel
theorem dL_fails_363 : decode cL_fails 363 = .ok (.bipush 18, 2) := by decide +kernel
theorem dL_fails_365 : decode cL_fails 365 = .ok (.iconst 2, 1) := by decide +kernel
theorem dL_fails_366 : decode cL_fails 366 = .ok (.iconst 0, 1) := by decide +kernel
theorem dL_fails_367 : decode cL_fails 367 = .ok (.iconst 0, 1) := by decide +kernel
theorem dL_fails_368 : decode cL_fails 368 = .ok (.iconst 0, 1) := by decide +kernel
theorem dL_fails_369 : decode cL_fails 369 = .ok (.invokestatic 153, 3) := by decide +kernel
theorem dL_fails_372 : decode cL_fails 372 = .ok (.ldc 43, 2) := by decide +kernel
theorem dL_fails_374 : decode cL_fails 374 = .ok (.if_icmp .ne 22, 3) := by decide +kernel
theorem dL_fails_377 : decode cL_fails 377 = .ok (.aload_n 0, 1) := by decide +kernel
theorem dL_fails_378 : decode cL_fails 378 = .ok (.bipush 15, 2) := by decide +kernel
theorem dL_fails_380 : decode cL_fails 380 = .ok (.iload_n 2, 1) := by decide +kernel
theorem dL_fails_381 : decode cL_fails 381 = .ok (.iconst 0, 1) := by decide +kernel
theorem dL_fails_382 : decode cL_fails 382 = .ok (.iconst 0, 1) := by decide +kernel
theorem dL_fails_383 : decode cL_fails 383 = .ok (.iconst 0, 1) := by decide +kernel
theorem dL_fails_384 : decode cL_fails 384 = .ok (.invokestatic 153, 3) := by decide +kernel
theorem dL_fails_387 : decode cL_fails 387 = .ok (.ldc 43, 2) := by decide +kernel
theorem dL_fails_389 : decode cL_fails 389 = .ok (.if_icmp .ne 7, 3) := by decide +kernel
theorem dL_fails_392 : decode cL_fails 392 = .ok (.iconst 1, 1) := by decide +kernel
theorem dL_fails_393 : decode cL_fails 393 = .ok (.goto 4, 3) := by decide +kernel
theorem dL_fails_396 : decode cL_fails 396 = .ok (.iconst 0, 1) := by decide +kernel
theorem dL_fails_397 : decode cL_fails 397 = .ok (.iand, 1) := by decide +kernel
theorem dL_fails_398 : decode cL_fails 398 = .ok (.istore_n 3, 1) := by decide +kernel
theorem dL_fails_399 : decode cL_fails 399 = .ok (.iload_n 3, 1) := by decide +kernel
theorem dL_fails_400 : decode cL_fails 400 = .ok (.ifCond .eq 69, 3) := by decide +kernel
theorem dL_fails_403 : decode cL_fails 403 = .ok (.aload_n 0, 1) := by decide +kernel
theorem dL_fails_404 : decode cL_fails 404 = .ok (.iconst 5, 1) := by decide +kernel
theorem dL_fails_405 : decode cL_fails 405 = .ok (.lconst 0, 1) := by decide +kernel
theorem dL_fails_406 : decode cL_fails 406 = .ok (.invokestatic 184, 3) := by decide +kernel
theorem dL_fails_409 : decode cL_fails 409 = .ok (.ldc 15, 2) := by decide +kernel
theorem dL_fails_411 : decode cL_fails 411 = .ok (.if_icmp .ne 58, 3) := by decide +kernel
theorem dL_fails_414 : decode cL_fails 414 = .ok (.aload_n 0, 1) := by decide +kernel
theorem dL_fails_415 : decode cL_fails 415 = .ok (.iconst 1, 1) := by decide +kernel
theorem dL_fails_416 : decode cL_fails 416 = .ok (.ldc2_w 192, 3) := by decide +kernel
theorem dL_fails_419 : decode cL_fails 419 = .ok (.invokestatic 184, 3) := by decide +kernel
theorem dL_fails_422 : decode cL_fails 422 = .ok (.ldc 15, 2) := by decide +kernel
theorem dL_fails_424 : decode cL_fails 424 = .ok (.if_icmp .ne 45, 3) := by decide +kernel
theorem dL_fails_427 : decode cL_fails 427 = .ok (.aload_n 0, 1) := by decide +kernel
theorem dL_fails_428 : decode cL_fails 428 = .ok (.iconst 2, 1) := by decide +kernel
theorem dL_fails_429 : decode cL_fails 429 = .ok (.ldc2_w 207, 3) := by decide +kernel
theorem dL_fails_432 : decode cL_fails 432 = .ok (.invokestatic 184, 3) := by decide +kernel
theorem dL_fails_435 : decode cL_fails 435 = .ok (.ldc 15, 2) := by decide +kernel
theorem dL_fails_437 : decode cL_fails 437 = .ok (.if_icmp .ne 32, 3) := by decide +kernel
theorem dL_fails_440 : decode cL_fails 440 = .ok (.aload_n 0, 1) := by decide +kernel
theorem dL_fails_441 : decode cL_fails 441 = .ok (.iload_n 1, 1) := by decide +kernel
theorem dL_fails_442 : decode cL_fails 442 = .ok (.i2l, 1) := by decide +kernel
theorem dL_fails_443 : decode cL_fails 443 = .ok (.iconst 0, 1) := by decide +kernel
theorem dL_fails_444 : decode cL_fails 444 = .ok (.invokestatic 211, 3) := by decide +kernel
theorem dL_fails_447 : decode cL_fails 447 = .ok (.ldc 15, 2) := by decide +kernel
theorem dL_fails_449 : decode cL_fails 449 = .ok (.if_icmp .ne 20, 3) := by decide +kernel
theorem dL_fails_452 : decode cL_fails 452 = .ok (.aload_n 0, 1) := by decide +kernel
theorem dL_fails_453 : decode cL_fails 453 = .ok (.iload_n 1, 1) := by decide +kernel
theorem dL_fails_454 : decode cL_fails 454 = .ok (.i2l, 1) := by decide +kernel
theorem dL_fails_455 : decode cL_fails 455 = .ok (.bipush 100, 2) := by decide +kernel
theorem dL_fails_457 : decode cL_fails 457 = .ok (.invokestatic 211, 3) := by decide +kernel
theorem dL_fails_460 : decode cL_fails 460 = .ok (.ldc 15, 2) := by decide +kernel
theorem dL_fails_462 : decode cL_fails 462 = .ok (.if_icmp .ne 7, 3) := by decide +kernel
theorem dL_fails_465 : decode cL_fails 465 = .ok (.iconst 1, 1) := by decide +kernel
theorem dL_fails_466 : decode cL_fails 466 = .ok (.goto 4, 3) := by decide +kernel
theorem dL_fails_469 : decode cL_fails 469 = .ok (.iconst 0, 1) := by decide +kernel
theorem dL_fails_470 : decode cL_fails 470 = .ok (.ireturn, 1) := by decide +kernel
