theorem dL_tries_0 : decode cL_tries 0 = .ok (.aload_n 0, 1) := by decide +kernel
theorem dL_tries_1 : decode cL_tries 1 = .ok (.invokestatic 171, 3) := by decide +kernel
theorem dL_tries_4 : decode cL_tries 4 = .ok (.lstore_n 2, 1) := by decide +kernel
theorem dL_tries_5 : decode cL_tries 5 = .ok (.aload_n 0, 1) := by decide +kernel
theorem dL_tries_6 : decode cL_tries 6 = .ok (.invokevirtual 175, 3) := by decide +kernel
theorem dL_tries_9 : decode cL_tries 9 = .ok (.ifCond .ne 19, 3) := by decide +kernel
theorem dL_tries_12 : decode cL_tries 12 = .ok (.aload_n 0, 1) := by decide +kernel
theorem dL_tries_13 : decode cL_tries 13 = .ok (.iconst 5, 1) := by decide +kernel
theorem dL_tries_14 : decode cL_tries 14 = .ok (.invokestatic 159, 3) := by decide +kernel
theorem dL_tries_17 : decode cL_tries 17 = .ok (.iconst 1, 1) := by decide +kernel
theorem dL_tries_18 : decode cL_tries 18 = .ok (.iadd, 1) := by decide +kernel
theorem dL_tries_19 : decode cL_tries 19 = .ok (.aload_n 0, 1) := by decide +kernel
theorem dL_tries_20 : decode cL_tries 20 = .ok (.bipush 6, 2) := by decide +kernel
theorem dL_tries_22 : decode cL_tries 22 = .ok (.invokestatic 159, 3) := by decide +kernel
theorem dL_tries_25 : decode cL_tries 25 = .ok (.if_icmp .le 28, 3) := by decide +kernel
theorem dL_tries_28 : decode cL_tries 28 = .ok (.aload_n 0, 1) := by decide +kernel
theorem dL_tries_29 : decode cL_tries 29 = .ok (.lconst 0, 1) := by decide +kernel
theorem dL_tries_30 : decode cL_tries 30 = .ok (.bipush 30, 2) := by decide +kernel
theorem dL_tries_32 : decode cL_tries 32 = .ok (.invokestatic 178, 3) := by decide +kernel
theorem dL_tries_35 : decode cL_tries 35 = .ok (.ldc 18, 2) := by decide +kernel
theorem dL_tries_37 : decode cL_tries 37 = .ok (.if_icmp .eq 10, 3) := by decide +kernel
theorem dL_tries_40 : decode cL_tries 40 = .ok (.aload_n 0, 1) := by decide +kernel
theorem dL_tries_41 : decode cL_tries 41 = .ok (.invokevirtual 175, 3) := by decide +kernel
theorem dL_tries_44 : decode cL_tries 44 = .ok (.ifCond .ne 7, 3) := by decide +kernel
theorem dL_tries_47 : decode cL_tries 47 = .ok (.iconst 1, 1) := by decide +kernel
theorem dL_tries_48 : decode cL_tries 48 = .ok (.goto 4, 3) := by decide +kernel
theorem dL_tries_51 : decode cL_tries 51 = .ok (.iconst 0, 1) := by decide +kernel
theorem dL_tries_52 : decode cL_tries 52 = .ok (.ireturn, 1) := by decide +kernel
theorem dL_tries_53 : decode cL_tries 53 = .ok (.aload_n 0, 1) := by decide +kernel
theorem dL_tries_54 : decode cL_tries 54 = .ok (.iconst 5, 1) := by decide +kernel
theorem dL_tries_55 : decode cL_tries 55 = .ok (.iconst 0, 1) := by decide +kernel
theorem dL_tries_56 : decode cL_tries 56 = .ok (.iconst 0, 1) := by decide +kernel
theorem dL_tries_57 : decode cL_tries 57 = .ok (.iconst 0, 1) := by decide +kernel
theorem dL_tries_58 : decode cL_tries 58 = .ok (.iconst 0, 1) := by decide +kernel
theorem dL_tries_59 : decode cL_tries 59 = .ok (.invokestatic 153, 3) := by decide +kernel
theorem dL_tries_62 : decode cL_tries 62 = .ok (.istore 4, 2) := by decide +kernel
theorem dL_tries_64 : decode cL_tries 64 = .ok (.aload_n 0, 1) := by decide +kernel
theorem dL_tries_65 : decode cL_tries 65 = .ok (.bipush 15, 2) := by decide +kernel
theorem dL_tries_67 : decode cL_tries 67 = .ok (.iload 4, 2) := by decide +kernel
theorem dL_tries_69 : decode cL_tries 69 = .ok (.iconst 0, 1) := by decide +kernel
theorem dL_tries_70 : decode cL_tries 70 = .ok (.iconst 0, 1) := by decide +kernel
theorem dL_tries_71 : decode cL_tries 71 = .ok (.iconst 0, 1) := by decide +kernel
theorem dL_tries_72 : decode cL_tries 72 = .ok (.invokestatic 153, 3) := by decide +kernel
theorem dL_tries_75 : decode cL_tries 75 = .ok (.istore 5, 2) := by decide +kernel
theorem dL_tries_77 : decode cL_tries 77 = .ok (.aload_n 0, 1) := by decide +kernel
theorem dL_tries_78 : decode cL_tries 78 = .ok (.bipush 16, 2) := by decide +kernel
theorem dL_tries_80 : decode cL_tries 80 = .ok (.iload 4, 2) := by decide +kernel
theorem dL_tries_82 : decode cL_tries 82 = .ok (.iload_n 1, 1) := by decide +kernel
theorem dL_tries_83 : decode cL_tries 83 = .ok (.iconst 0, 1) := by decide +kernel
theorem dL_tries_84 : decode cL_tries 84 = .ok (.iconst 0, 1) := by decide +kernel
theorem dL_tries_85 : decode cL_tries 85 = .ok (.invokestatic 153, 3) := by decide +kernel
theorem dL_tries_88 : decode cL_tries 88 = .ok (.istore 6, 2) := by decide +kernel
theorem dL_tries_90 : decode cL_tries 90 = .ok (.aload_n 0, 1) := by decide +kernel
theorem dL_tries_91 : decode cL_tries 91 = .ok (.iload 4, 2) := by decide +kernel
theorem dL_tries_93 : decode cL_tries 93 = .ok (.iconst 2, 1) := by decide +kernel
theorem dL_tries_94 : decode cL_tries 94 = .ok (.invokestatic 161, 3) := by decide +kernel
theorem dL_tries_97 : decode cL_tries 97 = .ok (.iconst 2, 1) := by decide +kernel
theorem dL_tries_98 : decode cL_tries 98 = .ok (.if_icmp .ne 13, 3) := by decide +kernel
theorem dL_tries_101 : decode cL_tries 101 = .ok (.aload_n 0, 1) := by decide +kernel
theorem dL_tries_102 : decode cL_tries 102 = .ok (.iload 4, 2) := by decide +kernel
theorem dL_tries_104 : decode cL_tries 104 = .ok (.iconst 5, 1) := by decide +kernel
theorem dL_tries_105 : decode cL_tries 105 = .ok (.invokestatic 161, 3) := by decide +kernel
theorem dL_tries_108 : decode cL_tries 108 = .ok (.goto 4, 3) := by decide +kernel
theorem dL_tries_111 : decode cL_tries 111 = .ok (.iconst 0, 1) := by decide +kernel
theorem dL_tries_112 : decode cL_tries 112 = .ok (.istore 7, 2) := by decide +kernel
theorem dL_tries_114 : decode cL_tries 114 = .ok (.aload_n 0, 1) := by decide +kernel
theorem dL_tries_115 : decode cL_tries 115 = .ok (.lconst 0, 1) := by decide +kernel
theorem dL_tries_116 : decode cL_tries 116 = .ok (.iconst 1, 1) := by decide +kernel
theorem dL_tries_117 : decode cL_tries 117 = .ok (.invokestatic 178, 3) := by decide +kernel
theorem dL_tries_120 : decode cL_tries 120 = .ok (.aload_n 0, 1) := by decide +kernel
theorem dL_tries_121 : decode cL_tries 121 = .ok (.iload 4, 2) := by decide +kernel
theorem dL_tries_123 : decode cL_tries 123 = .ok (.iconst 4, 1) := by decide +kernel
theorem dL_tries_124 : decode cL_tries 124 = .ok (.invokestatic 161, 3) := by decide +kernel
theorem dL_tries_127 : decode cL_tries 127 = .ok (.iconst 1, 1) := by decide +kernel
theorem dL_tries_128 : decode cL_tries 128 = .ok (.isub, 1) := by decide +kernel
theorem dL_tries_129 : decode cL_tries 129 = .ok (.if_icmp .le 80, 3) := by decide +kernel
theorem dL_tries_132 : decode cL_tries 132 = .ok (.aload_n 0, 1) := by decide +kernel
theorem dL_tries_133 : decode cL_tries 133 = .ok (.iload 4, 2) := by decide +kernel
theorem dL_tries_135 : decode cL_tries 135 = .ok (.bipush 6, 2) := by decide +kernel
theorem dL_tries_137 : decode cL_tries 137 = .ok (.invokestatic 161, 3) := by decide +kernel
theorem dL_tries_140 : decode cL_tries 140 = .ok (.iload 5, 2) := by decide +kernel
theorem dL_tries_142 : decode cL_tries 142 = .ok (.if_icmp .ne 67, 3) := by decide +kernel
theorem dL_tries_145 : decode cL_tries 145 = .ok (.aload_n 0, 1) := by decide +kernel
theorem dL_tries_146 : decode cL_tries 146 = .ok (.bipush 7, 2) := by decide +kernel
theorem dL_tries_148 : decode cL_tries 148 = .ok (.invokestatic 159, 3) := by decide +kernel
theorem dL_tries_151 : decode cL_tries 151 = .ok (.iload 4, 2) := by decide +kernel
theorem dL_tries_153 : decode cL_tries 153 = .ok (.if_icmp .ne 56, 3) := by decide +kernel
theorem dL_tries_156 : decode cL_tries 156 = .ok (.aload_n 0, 1) := by decide +kernel
theorem dL_tries_157 : decode cL_tries 157 = .ok (.iload 4, 2) := by decide +kernel
theorem dL_tries_159 : decode cL_tries 159 = .ok (.iconst 2, 1) := by decide +kernel
theorem dL_tries_160 : decode cL_tries 160 = .ok (.invokestatic 161, 3) := by decide +kernel
theorem dL_tries_163 : decode cL_tries 163 = .ok (.iconst 1, 1) := by decide +kernel
theorem dL_tries_164 : decode cL_tries 164 = .ok (.if_icmp .ne 45, 3) := by decide +kernel
theorem dL_tries_167 : decode cL_tries 167 = .ok (.aload_n 0, 1) := by decide +kernel
theorem dL_tries_168 : decode cL_tries 168 = .ok (.bipush 15, 2) := by decide +kernel
theorem dL_tries_170 : decode cL_tries 170 = .ok (.iload 4, 2) := by decide +kernel
theorem dL_tries_172 : decode cL_tries 172 = .ok (.iconst 0, 1) := by decide +kernel
theorem dL_tries_173 : decode cL_tries 173 = .ok (.iconst 0, 1) := by decide +kernel
theorem dL_tries_174 : decode cL_tries 174 = .ok (.iconst 0, 1) := by decide +kernel
theorem dL_tries_175 : decode cL_tries 175 = .ok (.invokestatic 153, 3) := by decide +kernel
theorem dL_tries_178 : decode cL_tries 178 = .ok (.iload 5, 2) := by decide +kernel
theorem dL_tries_180 : decode cL_tries 180 = .ok (.if_icmp .ne 29, 3) := by decide +kernel
theorem dL_tries_183 : decode cL_tries 183 = .ok (.aload_n 0, 1) := by decide +kernel
theorem dL_tries_184 : decode cL_tries 184 = .ok (.bipush 13, 2) := by decide +kernel
theorem dL_tries_186 : decode cL_tries 186 = .ok (.iconst 0, 1) := by decide +kernel
theorem dL_tries_187 : decode cL_tries 187 = .ok (.iconst 0, 1) := by decide +kernel
theorem dL_tries_188 : decode cL_tries 188 = .ok (.iconst 0, 1) := by decide +kernel
theorem dL_tries_189 : decode cL_tries 189 = .ok (.iconst 0, 1) := by decide +kernel
theorem dL_tries_190 : decode cL_tries 190 = .ok (.invokestatic 153, 3) := by decide +kernel
theorem dL_tries_193 : decode cL_tries 193 = .ok (.ifCond .lt 16, 3) := by decide +kernel
theorem dL_tries_196 : decode cL_tries 196 = .ok (.aload_n 0, 1) := by decide +kernel
theorem dL_tries_197 : decode cL_tries 197 = .ok (.invokestatic 171, 3) := by decide +kernel
theorem dL_tries_200 : decode cL_tries 200 = .ok (.lload_n 2, 1) := by decide +kernel
theorem dL_tries_201 : decode cL_tries 201 = .ok (.lcmp, 1) := by decide +kernel
theorem dL_tries_202 : decode cL_tries 202 = .ok (.ifCond .ne 7, 3) := by decide +kernel
theorem dL_tries_205 : decode cL_tries 205 = .ok (.iconst 1, 1) := by decide +kernel
theorem dL_tries_206 : decode cL_tries 206 = .ok (.goto 4, 3) := by decide +kernel
theorem dL_tries_209 : decode cL_tries 209 = .ok (.iconst 0, 1) := by decide +kernel
theorem dL_tries_210 : decode cL_tries 210 = .ok (.istore 8, 2) := by decide +kernel
theorem dL_tries_212 : decode cL_tries 212 = .ok (.iload 6, 2) := by decide +kernel
theorem dL_tries_214 : decode cL_tries 214 = .ok (.bipush (-9), 2) := by decide +kernel
theorem dL_tries_216 : decode cL_tries 216 = .ok (.if_icmp .eq 174, 3) := by decide +kernel
theorem dL_tries_219 : decode cL_tries 219 = .ok (.lconst 0, 1) := by decide +kernel
theorem dL_tries_220 : decode cL_tries 220 = .ok (.lstore 9, 2) := by decide +kernel
theorem dL_tries_222 : decode cL_tries 222 = .ok (.iload 6, 2) := by decide +kernel
theorem dL_tries_224 : decode cL_tries 224 = .ok (.istore 11, 2) := by decide +kernel
theorem dL_tries_226 : decode cL_tries 226 = .ok (.iconst 0, 1) := by decide +kernel
theorem dL_tries_227 : decode cL_tries 227 = .ok (.istore 12, 2) := by decide +kernel
theorem dL_tries_229 : decode cL_tries 229 = .ok (.iload 12, 2) := by decide +kernel
theorem dL_tries_231 : decode cL_tries 231 = .ok (.bipush 6, 2) := by decide +kernel
theorem dL_tries_233 : decode cL_tries 233 = .ok (.if_icmp .ge 61, 3) := by decide +kernel
theorem dL_tries_236 : decode cL_tries 236 = .ok (.iload 12, 2) := by decide +kernel
theorem dL_tries_238 : decode cL_tries 238 = .ok (.iload 7, 2) := by decide +kernel
theorem dL_tries_240 : decode cL_tries 240 = .ok (.if_icmp .ge 7, 3) := by decide +kernel
theorem dL_tries_243 : decode cL_tries 243 = .ok (.iconst 0, 1) := by decide +kernel
theorem dL_tries_244 : decode cL_tries 244 = .ok (.goto 23, 3) := by decide +kernel
theorem dL_tries_247 : decode cL_tries 247 = .ok (.iload 11, 2) := by decide +kernel
theorem dL_tries_249 : decode cL_tries 249 = .ok (.iload 12, 2) := by decide +kernel
theorem dL_tries_251 : decode cL_tries 251 = .ok (.invokestatic 165, 3) := by decide +kernel
theorem dL_tries_254 : decode cL_tries 254 = .ok (.if_icmp .ge 8, 3) := by decide +kernel
theorem dL_tries_257 : decode cL_tries 257 = .ok (.iload 11, 2) := by decide +kernel
theorem dL_tries_259 : decode cL_tries 259 = .ok (.goto 8, 3) := by decide +kernel
theorem dL_tries_262 : decode cL_tries 262 = .ok (.iload 12, 2) := by decide +kernel
theorem dL_tries_264 : decode cL_tries 264 = .ok (.invokestatic 165, 3) := by decide +kernel
theorem dL_tries_267 : decode cL_tries 267 = .ok (.istore 13, 2) := by decide +kernel
theorem dL_tries_269 : decode cL_tries 269 = .ok (.ldc2_w 163, 3) := by decide +kernel
theorem dL_tries_272 : decode cL_tries 272 = .ok (.lload 9, 2) := by decide +kernel
theorem dL_tries_274 : decode cL_tries 274 = .ok (.lmul, 1) := by decide +kernel
theorem dL_tries_275 : decode cL_tries 275 = .ok (.iload 13, 2) := by decide +kernel
theorem dL_tries_277 : decode cL_tries 277 = .ok (.i2l, 1) := by decide +kernel
theorem dL_tries_278 : decode cL_tries 278 = .ok (.ladd, 1) := by decide +kernel
theorem dL_tries_279 : decode cL_tries 279 = .ok (.lstore 9, 2) := by decide +kernel
theorem dL_tries_281 : decode cL_tries 281 = .ok (.iload 11, 2) := by decide +kernel
theorem dL_tries_283 : decode cL_tries 283 = .ok (.iload 13, 2) := by decide +kernel
theorem dL_tries_285 : decode cL_tries 285 = .ok (.isub, 1) := by decide +kernel
theorem dL_tries_286 : decode cL_tries 286 = .ok (.istore 11, 2) := by decide +kernel
theorem dL_tries_288 : decode cL_tries 288 = .ok (.iinc 12 1, 3) := by decide +kernel
theorem dL_tries_291 : decode cL_tries 291 = .ok (.goto (-62), 3) := by decide +kernel
theorem dL_tries_294 : decode cL_tries 294 = .ok (.aload_n 0, 1) := by decide +kernel
theorem dL_tries_295 : decode cL_tries 295 = .ok (.lload 9, 2) := by decide +kernel
theorem dL_tries_297 : decode cL_tries 297 = .ok (.iconst 1, 1) := by decide +kernel
theorem dL_tries_298 : decode cL_tries 298 = .ok (.invokestatic 178, 3) := by decide +kernel
theorem dL_tries_301 : decode cL_tries 301 = .ok (.istore 12, 2) := by decide +kernel
theorem dL_tries_303 : decode cL_tries 303 = .ok (.iconst 0, 1) := by decide +kernel
theorem dL_tries_304 : decode cL_tries 304 = .ok (.istore 13, 2) := by decide +kernel
theorem dL_tries_306 : decode cL_tries 306 = .ok (.iconst 0, 1) := by decide +kernel
theorem dL_tries_307 : decode cL_tries 307 = .ok (.istore 14, 2) := by decide +kernel
theorem dL_tries_309 : decode cL_tries 309 = .ok (.iload 14, 2) := by decide +kernel
theorem dL_tries_311 : decode cL_tries 311 = .ok (.aload_n 0, 1) := by decide +kernel
theorem dL_tries_312 : decode cL_tries 312 = .ok (.iconst 0, 1) := by decide +kernel
theorem dL_tries_313 : decode cL_tries 313 = .ok (.invokestatic 159, 3) := by decide +kernel
theorem dL_tries_316 : decode cL_tries 316 = .ok (.if_icmp .ge 31, 3) := by decide +kernel
theorem dL_tries_319 : decode cL_tries 319 = .ok (.iload 13, 2) := by decide +kernel
theorem dL_tries_321 : decode cL_tries 321 = .ok (.aload_n 0, 1) := by decide +kernel
theorem dL_tries_322 : decode cL_tries 322 = .ok (.iload 14, 2) := by decide +kernel
theorem dL_tries_324 : decode cL_tries 324 = .ok (.iconst 4, 1) := by decide +kernel
theorem dL_tries_325 : decode cL_tries 325 = .ok (.invokestatic 161, 3) := by decide +kernel
theorem dL_tries_328 : decode cL_tries 328 = .ok (.iload 12, 2) := by decide +kernel
theorem dL_tries_330 : decode cL_tries 330 = .ok (.if_icmp .le 7, 3) := by decide +kernel
theorem dL_tries_333 : decode cL_tries 333 = .ok (.iconst 1, 1) := by decide +kernel
theorem dL_tries_334 : decode cL_tries 334 = .ok (.goto 4, 3) := by decide +kernel
theorem dL_tries_337 : decode cL_tries 337 = .ok (.iconst 0, 1) := by decide +kernel
theorem dL_tries_338 : decode cL_tries 338 = .ok (.iadd, 1) := by decide +kernel
theorem dL_tries_339 : decode cL_tries 339 = .ok (.istore 13, 2) := by decide +kernel
theorem dL_tries_341 : decode cL_tries 341 = .ok (.iinc 14 1, 3) := by decide +kernel
theorem dL_tries_344 : decode cL_tries 344 = .ok (.goto (-35), 3) := by decide +kernel
theorem dL_tries_347 : decode cL_tries 347 = .ok (.iload 8, 2) := by decide +kernel
theorem dL_tries_349 : decode cL_tries 349 = .ok (.iload 11, 2) := by decide +kernel
theorem dL_tries_351 : decode cL_tries 351 = .ok (.ifCond .ne 35, 3) := by decide +kernel
theorem dL_tries_354 : decode cL_tries 354 = .ok (.iload 13, 2) := by decide +kernel
theorem dL_tries_356 : decode cL_tries 356 = .ok (.iload_n 1, 1) := by decide +kernel
theorem dL_tries_357 : decode cL_tries 357 = .ok (.if_icmp .ge 29, 3) := by decide +kernel
theorem dL_tries_360 : decode cL_tries 360 = .ok (.aload_n 0, 1) := by decide +kernel
theorem dL_tries_361 : decode cL_tries 361 = .ok (.bipush 13, 2) := by decide +kernel
theorem dL_tries_363 : decode cL_tries 363 = .ok (.iconst 0, 1) := by decide +kernel
theorem dL_tries_364 : decode cL_tries 364 = .ok (.iconst 0, 1) := by decide +kernel
theorem dL_tries_365 : decode cL_tries 365 = .ok (.iconst 0, 1) := by decide +kernel
theorem dL_tries_366 : decode cL_tries 366 = .ok (.iconst 0, 1) := by decide +kernel
theorem dL_tries_367 : decode cL_tries 367 = .ok (.invokestatic 153, 3) := by decide +kernel
theorem dL_tries_370 : decode cL_tries 370 = .ok (.ifCond .lt 16, 3) := by decide +kernel
theorem dL_tries_373 : decode cL_tries 373 = .ok (.aload_n 0, 1) := by decide +kernel
theorem dL_tries_374 : decode cL_tries 374 = .ok (.invokestatic 171, 3) := by decide +kernel
theorem dL_tries_377 : decode cL_tries 377 = .ok (.lload_n 2, 1) := by decide +kernel
theorem dL_tries_378 : decode cL_tries 378 = .ok (.lcmp, 1) := by decide +kernel
theorem dL_tries_379 : decode cL_tries 379 = .ok (.ifCond .ne 7, 3) := by decide +kernel
theorem dL_tries_382 : decode cL_tries 382 = .ok (.iconst 1, 1) := by decide +kernel
theorem dL_tries_383 : decode cL_tries 383 = .ok (.goto 4, 3) := by decide +kernel
theorem dL_tries_386 : decode cL_tries 386 = .ok (.iconst 0, 1) := by decide +kernel
theorem dL_tries_387 : decode cL_tries 387 = .ok (.iand, 1) := by decide +kernel
theorem dL_tries_388 : decode cL_tries 388 = .ok (.istore 8, 2) := by decide +kernel
theorem dL_tries_390 : decode cL_tries 390 = .ok (.iload 8, 2) := by decide +kernel
theorem dL_tries_392 : decode cL_tries 392 = .ok (.ireturn, 1) := by decide +kernel
