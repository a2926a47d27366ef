theorem dL_scores_0 : decode cL_scores 0 = .ok (.iconst 1, 1) := by decide +kernel
theorem dL_scores_1 : decode cL_scores 1 = .ok (.istore_n 1, 1) := by decide +kernel
theorem dL_scores_2 : decode cL_scores 2 = .ok (.aload_n 0, 1) := by decide +kernel
theorem dL_scores_3 : decode cL_scores 3 = .ok (.iconst 0, 1) := by decide +kernel
theorem dL_scores_4 : decode cL_scores 4 = .ok (.invokestatic 159, 3) := by decide +kernel
theorem dL_scores_7 : decode cL_scores 7 = .ok (.istore_n 2, 1) := by decide +kernel
theorem dL_scores_8 : decode cL_scores 8 = .ok (.iconst 0, 1) := by decide +kernel
theorem dL_scores_9 : decode cL_scores 9 = .ok (.istore_n 3, 1) := by decide +kernel
theorem dL_scores_10 : decode cL_scores 10 = .ok (.iload_n 3, 1) := by decide +kernel
theorem dL_scores_11 : decode cL_scores 11 = .ok (.iload_n 2, 1) := by decide +kernel
theorem dL_scores_12 : decode cL_scores 12 = .ok (.if_icmp .ge 216, 3) := by decide +kernel
theorem dL_scores_15 : decode cL_scores 15 = .ok (.iconst 0, 1) := by decide +kernel
theorem dL_scores_16 : decode cL_scores 16 = .ok (.istore 4, 2) := by decide +kernel
theorem dL_scores_18 : decode cL_scores 18 = .ok (.aload_n 0, 1) := by decide +kernel
theorem dL_scores_19 : decode cL_scores 19 = .ok (.iload_n 3, 1) := by decide +kernel
theorem dL_scores_20 : decode cL_scores 20 = .ok (.iconst 5, 1) := by decide +kernel
theorem dL_scores_21 : decode cL_scores 21 = .ok (.invokestatic 161, 3) := by decide +kernel
theorem dL_scores_24 : decode cL_scores 24 = .ok (.istore 5, 2) := by decide +kernel
theorem dL_scores_26 : decode cL_scores 26 = .ok (.iconst 0, 1) := by decide +kernel
theorem dL_scores_27 : decode cL_scores 27 = .ok (.istore 6, 2) := by decide +kernel
theorem dL_scores_29 : decode cL_scores 29 = .ok (.iload 6, 2) := by decide +kernel
theorem dL_scores_31 : decode cL_scores 31 = .ok (.bipush 6, 2) := by decide +kernel
theorem dL_scores_33 : decode cL_scores 33 = .ok (.if_icmp .ge 92, 3) := by decide +kernel
theorem dL_scores_36 : decode cL_scores 36 = .ok (.aload_n 0, 1) := by decide +kernel
theorem dL_scores_37 : decode cL_scores 37 = .ok (.iconst 4, 1) := by decide +kernel
theorem dL_scores_38 : decode cL_scores 38 = .ok (.iload_n 3, 1) := by decide +kernel
theorem dL_scores_39 : decode cL_scores 39 = .ok (.iload 6, 2) := by decide +kernel
theorem dL_scores_41 : decode cL_scores 41 = .ok (.iconst 0, 1) := by decide +kernel
theorem dL_scores_42 : decode cL_scores 42 = .ok (.iconst 0, 1) := by decide +kernel
theorem dL_scores_43 : decode cL_scores 43 = .ok (.invokestatic 153, 3) := by decide +kernel
theorem dL_scores_46 : decode cL_scores 46 = .ok (.istore 7, 2) := by decide +kernel
theorem dL_scores_48 : decode cL_scores 48 = .ok (.iload_n 1, 1) := by decide +kernel
theorem dL_scores_49 : decode cL_scores 49 = .ok (.aload_n 0, 1) := by decide +kernel
theorem dL_scores_50 : decode cL_scores 50 = .ok (.iload_n 3, 1) := by decide +kernel
theorem dL_scores_51 : decode cL_scores 51 = .ok (.iconst 3, 1) := by decide +kernel
theorem dL_scores_52 : decode cL_scores 52 = .ok (.invokestatic 161, 3) := by decide +kernel
theorem dL_scores_55 : decode cL_scores 55 = .ok (.ifCond .ne 18, 3) := by decide +kernel
theorem dL_scores_58 : decode cL_scores 58 = .ok (.iload 7, 2) := by decide +kernel
theorem dL_scores_60 : decode cL_scores 60 = .ok (.bipush (-9), 2) := by decide +kernel
theorem dL_scores_62 : decode cL_scores 62 = .ok (.if_icmp .ne 7, 3) := by decide +kernel
theorem dL_scores_65 : decode cL_scores 65 = .ok (.iconst 1, 1) := by decide +kernel
theorem dL_scores_66 : decode cL_scores 66 = .ok (.goto 44, 3) := by decide +kernel
theorem dL_scores_69 : decode cL_scores 69 = .ok (.iconst 0, 1) := by decide +kernel
theorem dL_scores_70 : decode cL_scores 70 = .ok (.goto 40, 3) := by decide +kernel
theorem dL_scores_73 : decode cL_scores 73 = .ok (.iload 7, 2) := by decide +kernel
theorem dL_scores_75 : decode cL_scores 75 = .ok (.ifCond .lt 34, 3) := by decide +kernel
theorem dL_scores_78 : decode cL_scores 78 = .ok (.iload 7, 2) := by decide +kernel
theorem dL_scores_80 : decode cL_scores 80 = .ok (.iload 6, 2) := by decide +kernel
theorem dL_scores_82 : decode cL_scores 82 = .ok (.invokestatic 165, 3) := by decide +kernel
theorem dL_scores_85 : decode cL_scores 85 = .ok (.if_icmp .gt 24, 3) := by decide +kernel
theorem dL_scores_88 : decode cL_scores 88 = .ok (.iload 6, 2) := by decide +kernel
theorem dL_scores_90 : decode cL_scores 90 = .ok (.iload 5, 2) := by decide +kernel
theorem dL_scores_92 : decode cL_scores 92 = .ok (.if_icmp .lt 13, 3) := by decide +kernel
theorem dL_scores_95 : decode cL_scores 95 = .ok (.iload 7, 2) := by decide +kernel
theorem dL_scores_97 : decode cL_scores 97 = .ok (.iload 6, 2) := by decide +kernel
theorem dL_scores_99 : decode cL_scores 99 = .ok (.invokestatic 165, 3) := by decide +kernel
theorem dL_scores_102 : decode cL_scores 102 = .ok (.if_icmp .ne 7, 3) := by decide +kernel
theorem dL_scores_105 : decode cL_scores 105 = .ok (.iconst 1, 1) := by decide +kernel
theorem dL_scores_106 : decode cL_scores 106 = .ok (.goto 4, 3) := by decide +kernel
theorem dL_scores_109 : decode cL_scores 109 = .ok (.iconst 0, 1) := by decide +kernel
theorem dL_scores_110 : decode cL_scores 110 = .ok (.iand, 1) := by decide +kernel
theorem dL_scores_111 : decode cL_scores 111 = .ok (.istore_n 1, 1) := by decide +kernel
theorem dL_scores_112 : decode cL_scores 112 = .ok (.iload 4, 2) := by decide +kernel
theorem dL_scores_114 : decode cL_scores 114 = .ok (.iload 7, 2) := by decide +kernel
theorem dL_scores_116 : decode cL_scores 116 = .ok (.iadd, 1) := by decide +kernel
theorem dL_scores_117 : decode cL_scores 117 = .ok (.istore 4, 2) := by decide +kernel
theorem dL_scores_119 : decode cL_scores 119 = .ok (.iinc 6 1, 3) := by decide +kernel
theorem dL_scores_122 : decode cL_scores 122 = .ok (.goto (-93), 3) := by decide +kernel
theorem dL_scores_125 : decode cL_scores 125 = .ok (.iload_n 1, 1) := by decide +kernel
theorem dL_scores_126 : decode cL_scores 126 = .ok (.aload_n 0, 1) := by decide +kernel
theorem dL_scores_127 : decode cL_scores 127 = .ok (.iload_n 3, 1) := by decide +kernel
theorem dL_scores_128 : decode cL_scores 128 = .ok (.iconst 4, 1) := by decide +kernel
theorem dL_scores_129 : decode cL_scores 129 = .ok (.invokestatic 161, 3) := by decide +kernel
theorem dL_scores_132 : decode cL_scores 132 = .ok (.aload_n 0, 1) := by decide +kernel
theorem dL_scores_133 : decode cL_scores 133 = .ok (.iload_n 3, 1) := by decide +kernel
theorem dL_scores_134 : decode cL_scores 134 = .ok (.iconst 3, 1) := by decide +kernel
theorem dL_scores_135 : decode cL_scores 135 = .ok (.invokestatic 161, 3) := by decide +kernel
theorem dL_scores_138 : decode cL_scores 138 = .ok (.ifCond .ne 7, 3) := by decide +kernel
theorem dL_scores_141 : decode cL_scores 141 = .ok (.iconst 0, 1) := by decide +kernel
theorem dL_scores_142 : decode cL_scores 142 = .ok (.goto 8, 3) := by decide +kernel
theorem dL_scores_145 : decode cL_scores 145 = .ok (.bipush 100, 2) := by decide +kernel
theorem dL_scores_147 : decode cL_scores 147 = .ok (.iload 4, 2) := by decide +kernel
theorem dL_scores_149 : decode cL_scores 149 = .ok (.isub, 1) := by decide +kernel
theorem dL_scores_150 : decode cL_scores 150 = .ok (.if_icmp .ne 69, 3) := by decide +kernel
theorem dL_scores_153 : decode cL_scores 153 = .ok (.aload_n 0, 1) := by decide +kernel
theorem dL_scores_154 : decode cL_scores 154 = .ok (.iload_n 3, 1) := by decide +kernel
theorem dL_scores_155 : decode cL_scores 155 = .ok (.iconst 2, 1) := by decide +kernel
theorem dL_scores_156 : decode cL_scores 156 = .ok (.invokestatic 161, 3) := by decide +kernel
theorem dL_scores_159 : decode cL_scores 159 = .ok (.iconst 2, 1) := by decide +kernel
theorem dL_scores_160 : decode cL_scores 160 = .ok (.if_icmp .ne 10, 3) := by decide +kernel
theorem dL_scores_163 : decode cL_scores 163 = .ok (.iload 5, 2) := by decide +kernel
theorem dL_scores_165 : decode cL_scores 165 = .ok (.bipush 6, 2) := by decide +kernel
theorem dL_scores_167 : decode cL_scores 167 = .ok (.if_icmp .ge 52, 3) := by decide +kernel
theorem dL_scores_170 : decode cL_scores 170 = .ok (.aload_n 0, 1) := by decide +kernel
theorem dL_scores_171 : decode cL_scores 171 = .ok (.iload_n 3, 1) := by decide +kernel
theorem dL_scores_172 : decode cL_scores 172 = .ok (.iconst 2, 1) := by decide +kernel
theorem dL_scores_173 : decode cL_scores 173 = .ok (.invokestatic 161, 3) := by decide +kernel
theorem dL_scores_176 : decode cL_scores 176 = .ok (.iconst 1, 1) := by decide +kernel
theorem dL_scores_177 : decode cL_scores 177 = .ok (.if_icmp .ne 20, 3) := by decide +kernel
theorem dL_scores_180 : decode cL_scores 180 = .ok (.iload 5, 2) := by decide +kernel
theorem dL_scores_182 : decode cL_scores 182 = .ok (.bipush 6, 2) := by decide +kernel
theorem dL_scores_184 : decode cL_scores 184 = .ok (.if_icmp .ne 35, 3) := by decide +kernel
theorem dL_scores_187 : decode cL_scores 187 = .ok (.aload_n 0, 1) := by decide +kernel
theorem dL_scores_188 : decode cL_scores 188 = .ok (.iload_n 3, 1) := by decide +kernel
theorem dL_scores_189 : decode cL_scores 189 = .ok (.iconst 3, 1) := by decide +kernel
theorem dL_scores_190 : decode cL_scores 190 = .ok (.invokestatic 161, 3) := by decide +kernel
theorem dL_scores_193 : decode cL_scores 193 = .ok (.iconst 1, 1) := by decide +kernel
theorem dL_scores_194 : decode cL_scores 194 = .ok (.if_icmp .ne 25, 3) := by decide +kernel
theorem dL_scores_197 : decode cL_scores 197 = .ok (.aload_n 0, 1) := by decide +kernel
theorem dL_scores_198 : decode cL_scores 198 = .ok (.iload_n 3, 1) := by decide +kernel
theorem dL_scores_199 : decode cL_scores 199 = .ok (.iconst 2, 1) := by decide +kernel
theorem dL_scores_200 : decode cL_scores 200 = .ok (.invokestatic 161, 3) := by decide +kernel
theorem dL_scores_203 : decode cL_scores 203 = .ok (.ifCond .ne 12, 3) := by decide +kernel
theorem dL_scores_206 : decode cL_scores 206 = .ok (.aload_n 0, 1) := by decide +kernel
theorem dL_scores_207 : decode cL_scores 207 = .ok (.iload_n 3, 1) := by decide +kernel
theorem dL_scores_208 : decode cL_scores 208 = .ok (.iconst 3, 1) := by decide +kernel
theorem dL_scores_209 : decode cL_scores 209 = .ok (.invokestatic 161, 3) := by decide +kernel
theorem dL_scores_212 : decode cL_scores 212 = .ok (.ifCond .ne 7, 3) := by decide +kernel
theorem dL_scores_215 : decode cL_scores 215 = .ok (.iconst 1, 1) := by decide +kernel
theorem dL_scores_216 : decode cL_scores 216 = .ok (.goto 4, 3) := by decide +kernel
theorem dL_scores_219 : decode cL_scores 219 = .ok (.iconst 0, 1) := by decide +kernel
theorem dL_scores_220 : decode cL_scores 220 = .ok (.iand, 1) := by decide +kernel
theorem dL_scores_221 : decode cL_scores 221 = .ok (.istore_n 1, 1) := by decide +kernel
theorem dL_scores_222 : decode cL_scores 222 = .ok (.iinc 3 1, 3) := by decide +kernel
theorem dL_scores_225 : decode cL_scores 225 = .ok (.goto (-215), 3) := by decide +kernel
theorem dL_scores_228 : decode cL_scores 228 = .ok (.iconst 0, 1) := by decide +kernel
theorem dL_scores_229 : decode cL_scores 229 = .ok (.istore_n 3, 1) := by decide +kernel
theorem dL_scores_230 : decode cL_scores 230 = .ok (.iload_n 3, 1) := by decide +kernel
theorem dL_scores_231 : decode cL_scores 231 = .ok (.bipush 6, 2) := by decide +kernel
theorem dL_scores_233 : decode cL_scores 233 = .ok (.if_icmp .ge 120, 3) := by decide +kernel
theorem dL_scores_236 : decode cL_scores 236 = .ok (.iconst 0, 1) := by decide +kernel
theorem dL_scores_237 : decode cL_scores 237 = .ok (.istore 4, 2) := by decide +kernel
theorem dL_scores_239 : decode cL_scores 239 = .ok (.iconst 0, 1) := by decide +kernel
theorem dL_scores_240 : decode cL_scores 240 = .ok (.istore 5, 2) := by decide +kernel
theorem dL_scores_242 : decode cL_scores 242 = .ok (.iconst 0, 1) := by decide +kernel
theorem dL_scores_243 : decode cL_scores 243 = .ok (.istore 6, 2) := by decide +kernel
theorem dL_scores_245 : decode cL_scores 245 = .ok (.iload 6, 2) := by decide +kernel
theorem dL_scores_247 : decode cL_scores 247 = .ok (.iload_n 2, 1) := by decide +kernel
theorem dL_scores_248 : decode cL_scores 248 = .ok (.if_icmp .ge 56, 3) := by decide +kernel
theorem dL_scores_251 : decode cL_scores 251 = .ok (.aload_n 0, 1) := by decide +kernel
theorem dL_scores_252 : decode cL_scores 252 = .ok (.iload 6, 2) := by decide +kernel
theorem dL_scores_254 : decode cL_scores 254 = .ok (.iconst 0, 1) := by decide +kernel
theorem dL_scores_255 : decode cL_scores 255 = .ok (.invokestatic 161, 3) := by decide +kernel
theorem dL_scores_258 : decode cL_scores 258 = .ok (.iload_n 3, 1) := by decide +kernel
theorem dL_scores_259 : decode cL_scores 259 = .ok (.if_icmp .ne 13, 3) := by decide +kernel
theorem dL_scores_262 : decode cL_scores 262 = .ok (.aload_n 0, 1) := by decide +kernel
theorem dL_scores_263 : decode cL_scores 263 = .ok (.iload 6, 2) := by decide +kernel
theorem dL_scores_265 : decode cL_scores 265 = .ok (.iconst 4, 1) := by decide +kernel
theorem dL_scores_266 : decode cL_scores 266 = .ok (.invokestatic 161, 3) := by decide +kernel
theorem dL_scores_269 : decode cL_scores 269 = .ok (.goto 4, 3) := by decide +kernel
theorem dL_scores_272 : decode cL_scores 272 = .ok (.iconst 0, 1) := by decide +kernel
theorem dL_scores_273 : decode cL_scores 273 = .ok (.istore 7, 2) := by decide +kernel
theorem dL_scores_275 : decode cL_scores 275 = .ok (.iload 7, 2) := by decide +kernel
theorem dL_scores_277 : decode cL_scores 277 = .ok (.iload 4, 2) := by decide +kernel
theorem dL_scores_279 : decode cL_scores 279 = .ok (.if_icmp .le 8, 3) := by decide +kernel
theorem dL_scores_282 : decode cL_scores 282 = .ok (.iload 7, 2) := by decide +kernel
theorem dL_scores_284 : decode cL_scores 284 = .ok (.goto 5, 3) := by decide +kernel
theorem dL_scores_287 : decode cL_scores 287 = .ok (.iload 4, 2) := by decide +kernel
theorem dL_scores_289 : decode cL_scores 289 = .ok (.istore 4, 2) := by decide +kernel
theorem dL_scores_291 : decode cL_scores 291 = .ok (.iload 5, 2) := by decide +kernel
theorem dL_scores_293 : decode cL_scores 293 = .ok (.iload 7, 2) := by decide +kernel
theorem dL_scores_295 : decode cL_scores 295 = .ok (.iadd, 1) := by decide +kernel
theorem dL_scores_296 : decode cL_scores 296 = .ok (.istore 5, 2) := by decide +kernel
theorem dL_scores_298 : decode cL_scores 298 = .ok (.iinc 6 1, 3) := by decide +kernel
theorem dL_scores_301 : decode cL_scores 301 = .ok (.goto (-56), 3) := by decide +kernel
theorem dL_scores_304 : decode cL_scores 304 = .ok (.aload_n 0, 1) := by decide +kernel
theorem dL_scores_305 : decode cL_scores 305 = .ok (.bipush 6, 2) := by decide +kernel
theorem dL_scores_307 : decode cL_scores 307 = .ok (.iload_n 3, 1) := by decide +kernel
theorem dL_scores_308 : decode cL_scores 308 = .ok (.iconst 0, 1) := by decide +kernel
theorem dL_scores_309 : decode cL_scores 309 = .ok (.iconst 0, 1) := by decide +kernel
theorem dL_scores_310 : decode cL_scores 310 = .ok (.iconst 0, 1) := by decide +kernel
theorem dL_scores_311 : decode cL_scores 311 = .ok (.invokestatic 153, 3) := by decide +kernel
theorem dL_scores_314 : decode cL_scores 314 = .ok (.istore 6, 2) := by decide +kernel
theorem dL_scores_316 : decode cL_scores 316 = .ok (.iload_n 1, 1) := by decide +kernel
theorem dL_scores_317 : decode cL_scores 317 = .ok (.iload 6, 2) := by decide +kernel
theorem dL_scores_319 : decode cL_scores 319 = .ok (.iload 4, 2) := by decide +kernel
theorem dL_scores_321 : decode cL_scores 321 = .ok (.if_icmp .lt 23, 3) := by decide +kernel
theorem dL_scores_324 : decode cL_scores 324 = .ok (.iload 6, 2) := by decide +kernel
theorem dL_scores_326 : decode cL_scores 326 = .ok (.iconst 2, 1) := by decide +kernel
theorem dL_scores_327 : decode cL_scores 327 = .ok (.iload 4, 2) := by decide +kernel
theorem dL_scores_329 : decode cL_scores 329 = .ok (.imul, 1) := by decide +kernel
theorem dL_scores_330 : decode cL_scores 330 = .ok (.if_icmp .gt 14, 3) := by decide +kernel
theorem dL_scores_333 : decode cL_scores 333 = .ok (.iload 6, 2) := by decide +kernel
theorem dL_scores_335 : decode cL_scores 335 = .ok (.iload 5, 2) := by decide +kernel
theorem dL_scores_337 : decode cL_scores 337 = .ok (.if_icmp .gt 7, 3) := by decide +kernel
theorem dL_scores_340 : decode cL_scores 340 = .ok (.iconst 1, 1) := by decide +kernel
theorem dL_scores_341 : decode cL_scores 341 = .ok (.goto 4, 3) := by decide +kernel
theorem dL_scores_344 : decode cL_scores 344 = .ok (.iconst 0, 1) := by decide +kernel
theorem dL_scores_345 : decode cL_scores 345 = .ok (.iand, 1) := by decide +kernel
theorem dL_scores_346 : decode cL_scores 346 = .ok (.istore_n 1, 1) := by decide +kernel
theorem dL_scores_347 : decode cL_scores 347 = .ok (.iinc 3 1, 3) := by decide +kernel
theorem dL_scores_350 : decode cL_scores 350 = .ok (.goto (-120), 3) := by decide +kernel
theorem dL_scores_353 : decode cL_scores 353 = .ok (.iload_n 1, 1) := by decide +kernel
theorem dL_scores_354 : decode cL_scores 354 = .ok (.ireturn, 1) := by decide +kernel
