theorem dL_order_0 : decode cL_order 0 = .ok (.aload_n 0, 1) := by decide +kernel
theorem dL_order_1 : decode cL_order 1 = .ok (.iconst 1, 1) := by decide +kernel
theorem dL_order_2 : decode cL_order 2 = .ok (.invokestatic 159, 3) := by decide +kernel
theorem dL_order_5 : decode cL_order 5 = .ok (.istore_n 1, 1) := by decide +kernel
theorem dL_order_6 : decode cL_order 6 = .ok (.iconst 0, 1) := by decide +kernel
theorem dL_order_7 : decode cL_order 7 = .ok (.istore_n 2, 1) := by decide +kernel
theorem dL_order_8 : decode cL_order 8 = .ok (.aload_n 0, 1) := by decide +kernel
theorem dL_order_9 : decode cL_order 9 = .ok (.iconst 5, 1) := by decide +kernel
theorem dL_order_10 : decode cL_order 10 = .ok (.iload_n 1, 1) := by decide +kernel
theorem dL_order_11 : decode cL_order 11 = .ok (.iconst 0, 1) := by decide +kernel
theorem dL_order_12 : decode cL_order 12 = .ok (.iconst 0, 1) := by decide +kernel
theorem dL_order_13 : decode cL_order 13 = .ok (.iconst 0, 1) := by decide +kernel
theorem dL_order_14 : decode cL_order 14 = .ok (.invokestatic 153, 3) := by decide +kernel
theorem dL_order_17 : decode cL_order 17 = .ok (.bipush (-9), 2) := by decide +kernel
theorem dL_order_19 : decode cL_order 19 = .ok (.if_icmp .ne 21, 3) := by decide +kernel
theorem dL_order_22 : decode cL_order 22 = .ok (.aload_n 0, 1) := by decide +kernel
theorem dL_order_23 : decode cL_order 23 = .ok (.iconst 5, 1) := by decide +kernel
theorem dL_order_24 : decode cL_order 24 = .ok (.iconst (-1), 1) := by decide +kernel
theorem dL_order_25 : decode cL_order 25 = .ok (.iconst 0, 1) := by decide +kernel
theorem dL_order_26 : decode cL_order 26 = .ok (.iconst 0, 1) := by decide +kernel
theorem dL_order_27 : decode cL_order 27 = .ok (.iconst 0, 1) := by decide +kernel
theorem dL_order_28 : decode cL_order 28 = .ok (.invokestatic 153, 3) := by decide +kernel
theorem dL_order_31 : decode cL_order 31 = .ok (.ldc 15, 2) := by decide +kernel
theorem dL_order_33 : decode cL_order 33 = .ok (.if_icmp .ne 7, 3) := by decide +kernel
theorem dL_order_36 : decode cL_order 36 = .ok (.iconst 1, 1) := by decide +kernel
theorem dL_order_37 : decode cL_order 37 = .ok (.goto 4, 3) := by decide +kernel
theorem dL_order_40 : decode cL_order 40 = .ok (.iconst 0, 1) := by decide +kernel
theorem dL_order_41 : decode cL_order 41 = .ok (.istore_n 3, 1) := by decide +kernel
theorem dL_order_42 : decode cL_order 42 = .ok (.aload_n 0, 1) := by decide +kernel
theorem dL_order_43 : decode cL_order 43 = .ok (.bipush 7, 2) := by decide +kernel
theorem dL_order_45 : decode cL_order 45 = .ok (.invokestatic 159, 3) := by decide +kernel
theorem dL_order_48 : decode cL_order 48 = .ok (.bipush (-9), 2) := by decide +kernel
theorem dL_order_50 : decode cL_order 50 = .ok (.if_icmp .ne 8, 3) := by decide +kernel
theorem dL_order_53 : decode cL_order 53 = .ok (.bipush (-9), 2) := by decide +kernel
theorem dL_order_55 : decode cL_order 55 = .ok (.goto 14, 3) := by decide +kernel
theorem dL_order_58 : decode cL_order 58 = .ok (.aload_n 0, 1) := by decide +kernel
theorem dL_order_59 : decode cL_order 59 = .ok (.aload_n 0, 1) := by decide +kernel
theorem dL_order_60 : decode cL_order 60 = .ok (.bipush 7, 2) := by decide +kernel
theorem dL_order_62 : decode cL_order 62 = .ok (.invokestatic 159, 3) := by decide +kernel
theorem dL_order_65 : decode cL_order 65 = .ok (.iconst 0, 1) := by decide +kernel
theorem dL_order_66 : decode cL_order 66 = .ok (.invokestatic 161, 3) := by decide +kernel
theorem dL_order_69 : decode cL_order 69 = .ok (.istore 4, 2) := by decide +kernel
theorem dL_order_71 : decode cL_order 71 = .ok (.iconst 0, 1) := by decide +kernel
theorem dL_order_72 : decode cL_order 72 = .ok (.istore 5, 2) := by decide +kernel
theorem dL_order_74 : decode cL_order 74 = .ok (.iload 5, 2) := by decide +kernel
theorem dL_order_76 : decode cL_order 76 = .ok (.iload_n 1, 1) := by decide +kernel
theorem dL_order_77 : decode cL_order 77 = .ok (.if_icmp .ge 253, 3) := by decide +kernel
theorem dL_order_80 : decode cL_order 80 = .ok (.iload_n 3, 1) := by decide +kernel
theorem dL_order_81 : decode cL_order 81 = .ok (.ifCond .eq 249, 3) := by decide +kernel
theorem dL_order_84 : decode cL_order 84 = .ok (.aload_n 0, 1) := by decide +kernel
theorem dL_order_85 : decode cL_order 85 = .ok (.iconst 5, 1) := by decide +kernel
theorem dL_order_86 : decode cL_order 86 = .ok (.iload 5, 2) := by decide +kernel
theorem dL_order_88 : decode cL_order 88 = .ok (.iconst 0, 1) := by decide +kernel
theorem dL_order_89 : decode cL_order 89 = .ok (.iconst 0, 1) := by decide +kernel
theorem dL_order_90 : decode cL_order 90 = .ok (.iconst 0, 1) := by decide +kernel
theorem dL_order_91 : decode cL_order 91 = .ok (.invokestatic 153, 3) := by decide +kernel
theorem dL_order_94 : decode cL_order 94 = .ok (.istore 6, 2) := by decide +kernel
theorem dL_order_96 : decode cL_order 96 = .ok (.iload 6, 2) := by decide +kernel
theorem dL_order_98 : decode cL_order 98 = .ok (.ifCond .lt 50, 3) := by decide +kernel
theorem dL_order_101 : decode cL_order 101 = .ok (.iload_n 2, 1) := by decide +kernel
theorem dL_order_102 : decode cL_order 102 = .ok (.iload 6, 2) := by decide +kernel
theorem dL_order_104 : decode cL_order 104 = .ok (.ishr, 1) := by decide +kernel
theorem dL_order_105 : decode cL_order 105 = .ok (.iconst 1, 1) := by decide +kernel
theorem dL_order_106 : decode cL_order 106 = .ok (.iand, 1) := by decide +kernel
theorem dL_order_107 : decode cL_order 107 = .ok (.ifCond .ne 41, 3) := by decide +kernel
theorem dL_order_110 : decode cL_order 110 = .ok (.aload_n 0, 1) := by decide +kernel
theorem dL_order_111 : decode cL_order 111 = .ok (.iload 6, 2) := by decide +kernel
theorem dL_order_113 : decode cL_order 113 = .ok (.bipush 7, 2) := by decide +kernel
theorem dL_order_115 : decode cL_order 115 = .ok (.invokestatic 161, 3) := by decide +kernel
theorem dL_order_118 : decode cL_order 118 = .ok (.iload 5, 2) := by decide +kernel
theorem dL_order_120 : decode cL_order 120 = .ok (.if_icmp .ne 28, 3) := by decide +kernel
theorem dL_order_123 : decode cL_order 123 = .ok (.aload_n 0, 1) := by decide +kernel
theorem dL_order_124 : decode cL_order 124 = .ok (.iload 6, 2) := by decide +kernel
theorem dL_order_126 : decode cL_order 126 = .ok (.iconst 2, 1) := by decide +kernel
theorem dL_order_127 : decode cL_order 127 = .ok (.invokestatic 161, 3) := by decide +kernel
theorem dL_order_130 : decode cL_order 130 = .ok (.ifCond .eq 14, 3) := by decide +kernel
theorem dL_order_133 : decode cL_order 133 = .ok (.aload_n 0, 1) := by decide +kernel
theorem dL_order_134 : decode cL_order 134 = .ok (.iload 6, 2) := by decide +kernel
theorem dL_order_136 : decode cL_order 136 = .ok (.iconst 2, 1) := by decide +kernel
theorem dL_order_137 : decode cL_order 137 = .ok (.invokestatic 161, 3) := by decide +kernel
theorem dL_order_140 : decode cL_order 140 = .ok (.iconst 2, 1) := by decide +kernel
theorem dL_order_141 : decode cL_order 141 = .ok (.if_icmp .ne 7, 3) := by decide +kernel
theorem dL_order_144 : decode cL_order 144 = .ok (.iconst 1, 1) := by decide +kernel
theorem dL_order_145 : decode cL_order 145 = .ok (.goto 4, 3) := by decide +kernel
theorem dL_order_148 : decode cL_order 148 = .ok (.iconst 0, 1) := by decide +kernel
theorem dL_order_149 : decode cL_order 149 = .ok (.istore_n 3, 1) := by decide +kernel
theorem dL_order_150 : decode cL_order 150 = .ok (.iload_n 2, 1) := by decide +kernel
theorem dL_order_151 : decode cL_order 151 = .ok (.iconst 1, 1) := by decide +kernel
theorem dL_order_152 : decode cL_order 152 = .ok (.iload 6, 2) := by decide +kernel
theorem dL_order_154 : decode cL_order 154 = .ok (.ishl, 1) := by decide +kernel
theorem dL_order_155 : decode cL_order 155 = .ok (.ior, 1) := by decide +kernel
theorem dL_order_156 : decode cL_order 156 = .ok (.istore_n 2, 1) := by decide +kernel
theorem dL_order_157 : decode cL_order 157 = .ok (.iload 5, 2) := by decide +kernel
theorem dL_order_159 : decode cL_order 159 = .ok (.iconst 1, 1) := by decide +kernel
theorem dL_order_160 : decode cL_order 160 = .ok (.iadd, 1) := by decide +kernel
theorem dL_order_161 : decode cL_order 161 = .ok (.istore 7, 2) := by decide +kernel
theorem dL_order_163 : decode cL_order 163 = .ok (.iload 7, 2) := by decide +kernel
theorem dL_order_165 : decode cL_order 165 = .ok (.iload_n 1, 1) := by decide +kernel
theorem dL_order_166 : decode cL_order 166 = .ok (.if_icmp .ge 149, 3) := by decide +kernel
theorem dL_order_169 : decode cL_order 169 = .ok (.iload_n 3, 1) := by decide +kernel
theorem dL_order_170 : decode cL_order 170 = .ok (.ifCond .eq 145, 3) := by decide +kernel
theorem dL_order_173 : decode cL_order 173 = .ok (.aload_n 0, 1) := by decide +kernel
theorem dL_order_174 : decode cL_order 174 = .ok (.iconst 5, 1) := by decide +kernel
theorem dL_order_175 : decode cL_order 175 = .ok (.iload 7, 2) := by decide +kernel
theorem dL_order_177 : decode cL_order 177 = .ok (.iconst 0, 1) := by decide +kernel
theorem dL_order_178 : decode cL_order 178 = .ok (.iconst 0, 1) := by decide +kernel
theorem dL_order_179 : decode cL_order 179 = .ok (.iconst 0, 1) := by decide +kernel
theorem dL_order_180 : decode cL_order 180 = .ok (.invokestatic 153, 3) := by decide +kernel
theorem dL_order_183 : decode cL_order 183 = .ok (.istore 8, 2) := by decide +kernel
theorem dL_order_185 : decode cL_order 185 = .ok (.aload_n 0, 1) := by decide +kernel
theorem dL_order_186 : decode cL_order 186 = .ok (.iload 8, 2) := by decide +kernel
theorem dL_order_188 : decode cL_order 188 = .ok (.iconst 2, 1) := by decide +kernel
theorem dL_order_189 : decode cL_order 189 = .ok (.invokestatic 161, 3) := by decide +kernel
theorem dL_order_192 : decode cL_order 192 = .ok (.aload_n 0, 1) := by decide +kernel
theorem dL_order_193 : decode cL_order 193 = .ok (.iload 6, 2) := by decide +kernel
theorem dL_order_195 : decode cL_order 195 = .ok (.iconst 2, 1) := by decide +kernel
theorem dL_order_196 : decode cL_order 196 = .ok (.invokestatic 161, 3) := by decide +kernel
theorem dL_order_199 : decode cL_order 199 = .ok (.if_icmp .ne 7, 3) := by decide +kernel
theorem dL_order_202 : decode cL_order 202 = .ok (.iconst 1, 1) := by decide +kernel
theorem dL_order_203 : decode cL_order 203 = .ok (.goto 4, 3) := by decide +kernel
theorem dL_order_206 : decode cL_order 206 = .ok (.iconst 0, 1) := by decide +kernel
theorem dL_order_207 : decode cL_order 207 = .ok (.istore 9, 2) := by decide +kernel
theorem dL_order_209 : decode cL_order 209 = .ok (.aload_n 0, 1) := by decide +kernel
theorem dL_order_210 : decode cL_order 210 = .ok (.iload 6, 2) := by decide +kernel
theorem dL_order_212 : decode cL_order 212 = .ok (.iconst 0, 1) := by decide +kernel
theorem dL_order_213 : decode cL_order 213 = .ok (.invokestatic 161, 3) := by decide +kernel
theorem dL_order_216 : decode cL_order 216 = .ok (.iload 4, 2) := by decide +kernel
theorem dL_order_218 : decode cL_order 218 = .ok (.if_icmp .ne 7, 3) := by decide +kernel
theorem dL_order_221 : decode cL_order 221 = .ok (.iconst 1, 1) := by decide +kernel
theorem dL_order_222 : decode cL_order 222 = .ok (.goto 4, 3) := by decide +kernel
theorem dL_order_225 : decode cL_order 225 = .ok (.iconst 0, 1) := by decide +kernel
theorem dL_order_226 : decode cL_order 226 = .ok (.istore 10, 2) := by decide +kernel
theorem dL_order_228 : decode cL_order 228 = .ok (.aload_n 0, 1) := by decide +kernel
theorem dL_order_229 : decode cL_order 229 = .ok (.iload 8, 2) := by decide +kernel
theorem dL_order_231 : decode cL_order 231 = .ok (.iconst 0, 1) := by decide +kernel
theorem dL_order_232 : decode cL_order 232 = .ok (.invokestatic 161, 3) := by decide +kernel
theorem dL_order_235 : decode cL_order 235 = .ok (.iload 4, 2) := by decide +kernel
theorem dL_order_237 : decode cL_order 237 = .ok (.if_icmp .ne 7, 3) := by decide +kernel
theorem dL_order_240 : decode cL_order 240 = .ok (.iconst 1, 1) := by decide +kernel
theorem dL_order_241 : decode cL_order 241 = .ok (.goto 4, 3) := by decide +kernel
theorem dL_order_244 : decode cL_order 244 = .ok (.iconst 0, 1) := by decide +kernel
theorem dL_order_245 : decode cL_order 245 = .ok (.istore 11, 2) := by decide +kernel
theorem dL_order_247 : decode cL_order 247 = .ok (.aload_n 0, 1) := by decide +kernel
theorem dL_order_248 : decode cL_order 248 = .ok (.iload 6, 2) := by decide +kernel
theorem dL_order_250 : decode cL_order 250 = .ok (.iconst 2, 1) := by decide +kernel
theorem dL_order_251 : decode cL_order 251 = .ok (.invokestatic 161, 3) := by decide +kernel
theorem dL_order_254 : decode cL_order 254 = .ok (.aload_n 0, 1) := by decide +kernel
theorem dL_order_255 : decode cL_order 255 = .ok (.iload 8, 2) := by decide +kernel
theorem dL_order_257 : decode cL_order 257 = .ok (.iconst 2, 1) := by decide +kernel
theorem dL_order_258 : decode cL_order 258 = .ok (.invokestatic 161, 3) := by decide +kernel
theorem dL_order_261 : decode cL_order 261 = .ok (.if_icmp .gt 46, 3) := by decide +kernel
theorem dL_order_264 : decode cL_order 264 = .ok (.iload 9, 2) := by decide +kernel
theorem dL_order_266 : decode cL_order 266 = .ok (.ifCond .eq 37, 3) := by decide +kernel
theorem dL_order_269 : decode cL_order 269 = .ok (.iload 10, 2) := by decide +kernel
theorem dL_order_271 : decode cL_order 271 = .ok (.iload 11, 2) := by decide +kernel
theorem dL_order_273 : decode cL_order 273 = .ok (.if_icmp .ne 20, 3) := by decide +kernel
theorem dL_order_276 : decode cL_order 276 = .ok (.aload_n 0, 1) := by decide +kernel
theorem dL_order_277 : decode cL_order 277 = .ok (.iload 6, 2) := by decide +kernel
theorem dL_order_279 : decode cL_order 279 = .ok (.iconst 1, 1) := by decide +kernel
theorem dL_order_280 : decode cL_order 280 = .ok (.invokestatic 161, 3) := by decide +kernel
theorem dL_order_283 : decode cL_order 283 = .ok (.aload_n 0, 1) := by decide +kernel
theorem dL_order_284 : decode cL_order 284 = .ok (.iload 8, 2) := by decide +kernel
theorem dL_order_286 : decode cL_order 286 = .ok (.iconst 1, 1) := by decide +kernel
theorem dL_order_287 : decode cL_order 287 = .ok (.invokestatic 161, 3) := by decide +kernel
theorem dL_order_290 : decode cL_order 290 = .ok (.if_icmp .lt 13, 3) := by decide +kernel
theorem dL_order_293 : decode cL_order 293 = .ok (.iload 10, 2) := by decide +kernel
theorem dL_order_295 : decode cL_order 295 = .ok (.ifCond .ne 12, 3) := by decide +kernel
theorem dL_order_298 : decode cL_order 298 = .ok (.iload 11, 2) := by decide +kernel
theorem dL_order_300 : decode cL_order 300 = .ok (.ifCond .eq 7, 3) := by decide +kernel
theorem dL_order_303 : decode cL_order 303 = .ok (.iconst 1, 1) := by decide +kernel
theorem dL_order_304 : decode cL_order 304 = .ok (.goto 4, 3) := by decide +kernel
theorem dL_order_307 : decode cL_order 307 = .ok (.iconst 0, 1) := by decide +kernel
theorem dL_order_308 : decode cL_order 308 = .ok (.istore_n 3, 1) := by decide +kernel
theorem dL_order_309 : decode cL_order 309 = .ok (.iinc 7 1, 3) := by decide +kernel
theorem dL_order_312 : decode cL_order 312 = .ok (.goto (-149), 3) := by decide +kernel
theorem dL_order_315 : decode cL_order 315 = .ok (.aload_n 0, 1) := by decide +kernel
theorem dL_order_316 : decode cL_order 316 = .ok (.iload 6, 2) := by decide +kernel
theorem dL_order_318 : decode cL_order 318 = .ok (.iconst 0, 1) := by decide +kernel
theorem dL_order_319 : decode cL_order 319 = .ok (.invokestatic 161, 3) := by decide +kernel
theorem dL_order_322 : decode cL_order 322 = .ok (.istore 4, 2) := by decide +kernel
theorem dL_order_324 : decode cL_order 324 = .ok (.iinc 5 1, 3) := by decide +kernel
theorem dL_order_327 : decode cL_order 327 = .ok (.goto (-253), 3) := by decide +kernel
theorem dL_order_330 : decode cL_order 330 = .ok (.iload_n 3, 1) := by decide +kernel
theorem dL_order_331 : decode cL_order 331 = .ok (.ireturn, 1) := by decide +kernel
