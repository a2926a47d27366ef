theorem dL_scripts_0 : decode cL_scripts 0 = .ok (.aload_n 0, 1) := by decide +kernel
theorem dL_scripts_1 : decode cL_scripts 1 = .ok (.iconst 1, 1) := by decide +kernel
theorem dL_scripts_2 : decode cL_scripts 2 = .ok (.ldc2_w 182, 3) := by decide +kernel
theorem dL_scripts_5 : decode cL_scripts 5 = .ok (.aload_n 0, 1) := by decide +kernel
theorem dL_scripts_6 : decode cL_scripts 6 = .ok (.iconst 1, 1) := by decide +kernel
theorem dL_scripts_7 : decode cL_scripts 7 = .ok (.invokestatic 159, 3) := by decide +kernel
theorem dL_scripts_10 : decode cL_scripts 10 = .ok (.i2l, 1) := by decide +kernel
theorem dL_scripts_11 : decode cL_scripts 11 = .ok (.ladd, 1) := by decide +kernel
theorem dL_scripts_12 : decode cL_scripts 12 = .ok (.invokestatic 184, 3) := by decide +kernel
theorem dL_scripts_15 : decode cL_scripts 15 = .ok (.bipush (-9), 2) := by decide +kernel
theorem dL_scripts_17 : decode cL_scripts 17 = .ok (.if_icmp .ne 63, 3) := by decide +kernel
theorem dL_scripts_20 : decode cL_scripts 20 = .ok (.aload_n 0, 1) := by decide +kernel
theorem dL_scripts_21 : decode cL_scripts 21 = .ok (.iconst 1, 1) := by decide +kernel
theorem dL_scripts_22 : decode cL_scripts 22 = .ok (.ldc2_w 188, 3) := by decide +kernel
theorem dL_scripts_25 : decode cL_scripts 25 = .ok (.aload_n 0, 1) := by decide +kernel
theorem dL_scripts_26 : decode cL_scripts 26 = .ok (.invokevirtual 175, 3) := by decide +kernel
theorem dL_scripts_29 : decode cL_scripts 29 = .ok (.i2l, 1) := by decide +kernel
theorem dL_scripts_30 : decode cL_scripts 30 = .ok (.ladd, 1) := by decide +kernel
theorem dL_scripts_31 : decode cL_scripts 31 = .ok (.invokestatic 184, 3) := by decide +kernel
theorem dL_scripts_34 : decode cL_scripts 34 = .ok (.bipush (-9), 2) := by decide +kernel
theorem dL_scripts_36 : decode cL_scripts 36 = .ok (.if_icmp .ne 44, 3) := by decide +kernel
theorem dL_scripts_39 : decode cL_scripts 39 = .ok (.aload_n 0, 1) := by decide +kernel
theorem dL_scripts_40 : decode cL_scripts 40 = .ok (.iconst 2, 1) := by decide +kernel
theorem dL_scripts_41 : decode cL_scripts 41 = .ok (.ldc2_w 190, 3) := by decide +kernel
theorem dL_scripts_44 : decode cL_scripts 44 = .ok (.aload_n 0, 1) := by decide +kernel
theorem dL_scripts_45 : decode cL_scripts 45 = .ok (.iconst 5, 1) := by decide +kernel
theorem dL_scripts_46 : decode cL_scripts 46 = .ok (.invokestatic 159, 3) := by decide +kernel
theorem dL_scripts_49 : decode cL_scripts 49 = .ok (.i2l, 1) := by decide +kernel
theorem dL_scripts_50 : decode cL_scripts 50 = .ok (.ladd, 1) := by decide +kernel
theorem dL_scripts_51 : decode cL_scripts 51 = .ok (.ldc2_w 192, 3) := by decide +kernel
theorem dL_scripts_54 : decode cL_scripts 54 = .ok (.lmul, 1) := by decide +kernel
theorem dL_scripts_55 : decode cL_scripts 55 = .ok (.ldc2_w 188, 3) := by decide +kernel
theorem dL_scripts_58 : decode cL_scripts 58 = .ok (.ladd, 1) := by decide +kernel
theorem dL_scripts_59 : decode cL_scripts 59 = .ok (.aload_n 0, 1) := by decide +kernel
theorem dL_scripts_60 : decode cL_scripts 60 = .ok (.invokevirtual 175, 3) := by decide +kernel
theorem dL_scripts_63 : decode cL_scripts 63 = .ok (.iconst 1, 1) := by decide +kernel
theorem dL_scripts_64 : decode cL_scripts 64 = .ok (.iadd, 1) := by decide +kernel
theorem dL_scripts_65 : decode cL_scripts 65 = .ok (.iconst 3, 1) := by decide +kernel
theorem dL_scripts_66 : decode cL_scripts 66 = .ok (.irem, 1) := by decide +kernel
theorem dL_scripts_67 : decode cL_scripts 67 = .ok (.i2l, 1) := by decide +kernel
theorem dL_scripts_68 : decode cL_scripts 68 = .ok (.ladd, 1) := by decide +kernel
theorem dL_scripts_69 : decode cL_scripts 69 = .ok (.invokestatic 184, 3) := by decide +kernel
theorem dL_scripts_72 : decode cL_scripts 72 = .ok (.iconst 1, 1) := by decide +kernel
theorem dL_scripts_73 : decode cL_scripts 73 = .ok (.if_icmp .ne 7, 3) := by decide +kernel
theorem dL_scripts_76 : decode cL_scripts 76 = .ok (.iconst 1, 1) := by decide +kernel
theorem dL_scripts_77 : decode cL_scripts 77 = .ok (.goto 4, 3) := by decide +kernel
theorem dL_scripts_80 : decode cL_scripts 80 = .ok (.iconst 0, 1) := by decide +kernel
theorem dL_scripts_81 : decode cL_scripts 81 = .ok (.istore_n 2, 1) := by decide +kernel
theorem dL_scripts_82 : decode cL_scripts 82 = .ok (.iload_n 1, 1) := by decide +kernel
theorem dL_scripts_83 : decode cL_scripts 83 = .ok (.aload_n 0, 1) := by decide +kernel
theorem dL_scripts_84 : decode cL_scripts 84 = .ok (.iconst 0, 1) := by decide +kernel
theorem dL_scripts_85 : decode cL_scripts 85 = .ok (.invokestatic 159, 3) := by decide +kernel
theorem dL_scripts_88 : decode cL_scripts 88 = .ok (.irem, 1) := by decide +kernel
theorem dL_scripts_89 : decode cL_scripts 89 = .ok (.istore_n 3, 1) := by decide +kernel
theorem dL_scripts_90 : decode cL_scripts 90 = .ok (.aload_n 0, 1) := by decide +kernel
theorem dL_scripts_91 : decode cL_scripts 91 = .ok (.iload_n 3, 1) := by decide +kernel
theorem dL_scripts_92 : decode cL_scripts 92 = .ok (.bipush 6, 2) := by decide +kernel
theorem dL_scripts_94 : decode cL_scripts 94 = .ok (.invokestatic 161, 3) := by decide +kernel
theorem dL_scripts_97 : decode cL_scripts 97 = .ok (.istore 4, 2) := by decide +kernel
theorem dL_scripts_99 : decode cL_scripts 99 = .ok (.iload_n 2, 1) := by decide +kernel
theorem dL_scripts_100 : decode cL_scripts 100 = .ok (.aload_n 0, 1) := by decide +kernel
theorem dL_scripts_101 : decode cL_scripts 101 = .ok (.iconst 1, 1) := by decide +kernel
theorem dL_scripts_102 : decode cL_scripts 102 = .ok (.ldc2_w 194, 3) := by decide +kernel
theorem dL_scripts_105 : decode cL_scripts 105 = .ok (.ldc2_w 163, 3) := by decide +kernel
theorem dL_scripts_108 : decode cL_scripts 108 = .ok (.iconst 1, 1) := by decide +kernel
theorem dL_scripts_109 : decode cL_scripts 109 = .ok (.iload_n 1, 1) := by decide +kernel
theorem dL_scripts_110 : decode cL_scripts 110 = .ok (.bipush 16, 2) := by decide +kernel
theorem dL_scripts_112 : decode cL_scripts 112 = .ok (.idiv, 1) := by decide +kernel
theorem dL_scripts_113 : decode cL_scripts 113 = .ok (.bipush 9, 2) := by decide +kernel
theorem dL_scripts_115 : decode cL_scripts 115 = .ok (.irem, 1) := by decide +kernel
theorem dL_scripts_116 : decode cL_scripts 116 = .ok (.iadd, 1) := by decide +kernel
theorem dL_scripts_117 : decode cL_scripts 117 = .ok (.i2l, 1) := by decide +kernel
theorem dL_scripts_118 : decode cL_scripts 118 = .ok (.lmul, 1) := by decide +kernel
theorem dL_scripts_119 : decode cL_scripts 119 = .ok (.ladd, 1) := by decide +kernel
theorem dL_scripts_120 : decode cL_scripts 120 = .ok (.iload_n 3, 1) := by decide +kernel
theorem dL_scripts_121 : decode cL_scripts 121 = .ok (.i2l, 1) := by decide +kernel
theorem dL_scripts_122 : decode cL_scripts 122 = .ok (.ladd, 1) := by decide +kernel
theorem dL_scripts_123 : decode cL_scripts 123 = .ok (.invokestatic 184, 3) := by decide +kernel
theorem dL_scripts_126 : decode cL_scripts 126 = .ok (.iload 4, 2) := by decide +kernel
theorem dL_scripts_128 : decode cL_scripts 128 = .ok (.iconst 1, 1) := by decide +kernel
theorem dL_scripts_129 : decode cL_scripts 129 = .ok (.iload_n 1, 1) := by decide +kernel
theorem dL_scripts_130 : decode cL_scripts 130 = .ok (.bipush 16, 2) := by decide +kernel
theorem dL_scripts_132 : decode cL_scripts 132 = .ok (.idiv, 1) := by decide +kernel
theorem dL_scripts_133 : decode cL_scripts 133 = .ok (.bipush 9, 2) := by decide +kernel
theorem dL_scripts_135 : decode cL_scripts 135 = .ok (.irem, 1) := by decide +kernel
theorem dL_scripts_136 : decode cL_scripts 136 = .ok (.iadd, 1) := by decide +kernel
theorem dL_scripts_137 : decode cL_scripts 137 = .ok (.if_icmp .ne 8, 3) := by decide +kernel
theorem dL_scripts_140 : decode cL_scripts 140 = .ok (.bipush (-9), 2) := by decide +kernel
theorem dL_scripts_142 : decode cL_scripts 142 = .ok (.goto 4, 3) := by decide +kernel
theorem dL_scripts_145 : decode cL_scripts 145 = .ok (.iconst 0, 1) := by decide +kernel
theorem dL_scripts_146 : decode cL_scripts 146 = .ok (.if_icmp .ne 51, 3) := by decide +kernel
theorem dL_scripts_149 : decode cL_scripts 149 = .ok (.aload_n 0, 1) := by decide +kernel
theorem dL_scripts_150 : decode cL_scripts 150 = .ok (.iconst 1, 1) := by decide +kernel
theorem dL_scripts_151 : decode cL_scripts 151 = .ok (.ldc2_w 196, 3) := by decide +kernel
theorem dL_scripts_154 : decode cL_scripts 154 = .ok (.ldc2_w 163, 3) := by decide +kernel
theorem dL_scripts_157 : decode cL_scripts 157 = .ok (.iload_n 1, 1) := by decide +kernel
theorem dL_scripts_158 : decode cL_scripts 158 = .ok (.sipush 256, 3) := by decide +kernel
theorem dL_scripts_161 : decode cL_scripts 161 = .ok (.idiv, 1) := by decide +kernel
theorem dL_scripts_162 : decode cL_scripts 162 = .ok (.bipush 6, 2) := by decide +kernel
theorem dL_scripts_164 : decode cL_scripts 164 = .ok (.irem, 1) := by decide +kernel
theorem dL_scripts_165 : decode cL_scripts 165 = .ok (.i2l, 1) := by decide +kernel
theorem dL_scripts_166 : decode cL_scripts 166 = .ok (.lmul, 1) := by decide +kernel
theorem dL_scripts_167 : decode cL_scripts 167 = .ok (.ladd, 1) := by decide +kernel
theorem dL_scripts_168 : decode cL_scripts 168 = .ok (.iload_n 3, 1) := by decide +kernel
theorem dL_scripts_169 : decode cL_scripts 169 = .ok (.i2l, 1) := by decide +kernel
theorem dL_scripts_170 : decode cL_scripts 170 = .ok (.ladd, 1) := by decide +kernel
theorem dL_scripts_171 : decode cL_scripts 171 = .ok (.invokestatic 184, 3) := by decide +kernel
theorem dL_scripts_174 : decode cL_scripts 174 = .ok (.aload_n 0, 1) := by decide +kernel
theorem dL_scripts_175 : decode cL_scripts 175 = .ok (.iload_n 3, 1) := by decide +kernel
theorem dL_scripts_176 : decode cL_scripts 176 = .ok (.iconst 2, 1) := by decide +kernel
theorem dL_scripts_177 : decode cL_scripts 177 = .ok (.invokestatic 161, 3) := by decide +kernel
theorem dL_scripts_180 : decode cL_scripts 180 = .ok (.iconst 1, 1) := by decide +kernel
theorem dL_scripts_181 : decode cL_scripts 181 = .ok (.if_icmp .ne 8, 3) := by decide +kernel
theorem dL_scripts_184 : decode cL_scripts 184 = .ok (.bipush (-9), 2) := by decide +kernel
theorem dL_scripts_186 : decode cL_scripts 186 = .ok (.goto 4, 3) := by decide +kernel
theorem dL_scripts_189 : decode cL_scripts 189 = .ok (.iconst 0, 1) := by decide +kernel
theorem dL_scripts_190 : decode cL_scripts 190 = .ok (.if_icmp .ne 7, 3) := by decide +kernel
theorem dL_scripts_193 : decode cL_scripts 193 = .ok (.iconst 1, 1) := by decide +kernel
theorem dL_scripts_194 : decode cL_scripts 194 = .ok (.goto 4, 3) := by decide +kernel
theorem dL_scripts_197 : decode cL_scripts 197 = .ok (.iconst 0, 1) := by decide +kernel
theorem dL_scripts_198 : decode cL_scripts 198 = .ok (.iand, 1) := by decide +kernel
theorem dL_scripts_199 : decode cL_scripts 199 = .ok (.istore_n 2, 1) := by decide +kernel
theorem dL_scripts_200 : decode cL_scripts 200 = .ok (.iload_n 2, 1) := by decide +kernel
theorem dL_scripts_201 : decode cL_scripts 201 = .ok (.aload_n 0, 1) := by decide +kernel
theorem dL_scripts_202 : decode cL_scripts 202 = .ok (.iconst 2, 1) := by decide +kernel
theorem dL_scripts_203 : decode cL_scripts 203 = .ok (.ldc2_w 198, 3) := by decide +kernel
theorem dL_scripts_206 : decode cL_scripts 206 = .ok (.iload_n 3, 1) := by decide +kernel
theorem dL_scripts_207 : decode cL_scripts 207 = .ok (.i2l, 1) := by decide +kernel
theorem dL_scripts_208 : decode cL_scripts 208 = .ok (.ladd, 1) := by decide +kernel
theorem dL_scripts_209 : decode cL_scripts 209 = .ok (.ldc2_w 192, 3) := by decide +kernel
theorem dL_scripts_212 : decode cL_scripts 212 = .ok (.lmul, 1) := by decide +kernel
theorem dL_scripts_213 : decode cL_scripts 213 = .ok (.ldc2_w 198, 3) := by decide +kernel
theorem dL_scripts_216 : decode cL_scripts 216 = .ok (.ladd, 1) := by decide +kernel
theorem dL_scripts_217 : decode cL_scripts 217 = .ok (.iload_n 3, 1) := by decide +kernel
theorem dL_scripts_218 : decode cL_scripts 218 = .ok (.i2l, 1) := by decide +kernel
theorem dL_scripts_219 : decode cL_scripts 219 = .ok (.ladd, 1) := by decide +kernel
theorem dL_scripts_220 : decode cL_scripts 220 = .ok (.invokestatic 184, 3) := by decide +kernel
theorem dL_scripts_223 : decode cL_scripts 223 = .ok (.aload_n 0, 1) := by decide +kernel
theorem dL_scripts_224 : decode cL_scripts 224 = .ok (.iload_n 3, 1) := by decide +kernel
theorem dL_scripts_225 : decode cL_scripts 225 = .ok (.iconst 2, 1) := by decide +kernel
theorem dL_scripts_226 : decode cL_scripts 226 = .ok (.invokestatic 161, 3) := by decide +kernel
theorem dL_scripts_229 : decode cL_scripts 229 = .ok (.iconst 3, 1) := by decide +kernel
theorem dL_scripts_230 : decode cL_scripts 230 = .ok (.if_icmp .ne 7, 3) := by decide +kernel
theorem dL_scripts_233 : decode cL_scripts 233 = .ok (.iconst 0, 1) := by decide +kernel
theorem dL_scripts_234 : decode cL_scripts 234 = .ok (.goto 4, 3) := by decide +kernel
theorem dL_scripts_237 : decode cL_scripts 237 = .ok (.iconst 1, 1) := by decide +kernel
theorem dL_scripts_238 : decode cL_scripts 238 = .ok (.if_icmp .ne 7, 3) := by decide +kernel
theorem dL_scripts_241 : decode cL_scripts 241 = .ok (.iconst 1, 1) := by decide +kernel
theorem dL_scripts_242 : decode cL_scripts 242 = .ok (.goto 4, 3) := by decide +kernel
theorem dL_scripts_245 : decode cL_scripts 245 = .ok (.iconst 0, 1) := by decide +kernel
theorem dL_scripts_246 : decode cL_scripts 246 = .ok (.iand, 1) := by decide +kernel
theorem dL_scripts_247 : decode cL_scripts 247 = .ok (.istore_n 2, 1) := by decide +kernel
theorem dL_scripts_248 : decode cL_scripts 248 = .ok (.bipush 60, 2) := by decide +kernel
theorem dL_scripts_250 : decode cL_scripts 250 = .ok (.iload_n 1, 1) := by decide +kernel
theorem dL_scripts_251 : decode cL_scripts 251 = .ok (.bipush 64, 2) := by decide +kernel
theorem dL_scripts_253 : decode cL_scripts 253 = .ok (.idiv, 1) := by decide +kernel
theorem dL_scripts_254 : decode cL_scripts 254 = .ok (.sipush 541, 3) := by decide +kernel
theorem dL_scripts_257 : decode cL_scripts 257 = .ok (.irem, 1) := by decide +kernel
theorem dL_scripts_258 : decode cL_scripts 258 = .ok (.iadd, 1) := by decide +kernel
theorem dL_scripts_259 : decode cL_scripts 259 = .ok (.istore 5, 2) := by decide +kernel
theorem dL_scripts_261 : decode cL_scripts 261 = .ok (.iload_n 2, 1) := by decide +kernel
theorem dL_scripts_262 : decode cL_scripts 262 = .ok (.ifCond .eq 47, 3) := by decide +kernel
theorem dL_scripts_265 : decode cL_scripts 265 = .ok (.aload_n 0, 1) := by decide +kernel
theorem dL_scripts_266 : decode cL_scripts 266 = .ok (.iconst 2, 1) := by decide +kernel
theorem dL_scripts_267 : decode cL_scripts 267 = .ok (.ldc2_w 200, 3) := by decide +kernel
theorem dL_scripts_270 : decode cL_scripts 270 = .ok (.iload 5, 2) := by decide +kernel
theorem dL_scripts_272 : decode cL_scripts 272 = .ok (.i2l, 1) := by decide +kernel
theorem dL_scripts_273 : decode cL_scripts 273 = .ok (.ladd, 1) := by decide +kernel
theorem dL_scripts_274 : decode cL_scripts 274 = .ok (.ldc2_w 192, 3) := by decide +kernel
theorem dL_scripts_277 : decode cL_scripts 277 = .ok (.lmul, 1) := by decide +kernel
theorem dL_scripts_278 : decode cL_scripts 278 = .ok (.ldc2_w 188, 3) := by decide +kernel
theorem dL_scripts_281 : decode cL_scripts 281 = .ok (.ladd, 1) := by decide +kernel
theorem dL_scripts_282 : decode cL_scripts 282 = .ok (.aload_n 0, 1) := by decide +kernel
theorem dL_scripts_283 : decode cL_scripts 283 = .ok (.iconst 1, 1) := by decide +kernel
theorem dL_scripts_284 : decode cL_scripts 284 = .ok (.invokestatic 159, 3) := by decide +kernel
theorem dL_scripts_287 : decode cL_scripts 287 = .ok (.ifCond .ne 7, 3) := by decide +kernel
theorem dL_scripts_290 : decode cL_scripts 290 = .ok (.iconst 1, 1) := by decide +kernel
theorem dL_scripts_291 : decode cL_scripts 291 = .ok (.goto 4, 3) := by decide +kernel
theorem dL_scripts_294 : decode cL_scripts 294 = .ok (.iconst 0, 1) := by decide +kernel
theorem dL_scripts_295 : decode cL_scripts 295 = .ok (.i2l, 1) := by decide +kernel
theorem dL_scripts_296 : decode cL_scripts 296 = .ok (.ladd, 1) := by decide +kernel
theorem dL_scripts_297 : decode cL_scripts 297 = .ok (.invokestatic 184, 3) := by decide +kernel
theorem dL_scripts_300 : decode cL_scripts 300 = .ok (.bipush (-9), 2) := by decide +kernel
theorem dL_scripts_302 : decode cL_scripts 302 = .ok (.if_icmp .ne 7, 3) := by decide +kernel
theorem dL_scripts_305 : decode cL_scripts 305 = .ok (.iconst 1, 1) := by decide +kernel
theorem dL_scripts_306 : decode cL_scripts 306 = .ok (.goto 4, 3) := by decide +kernel
theorem dL_scripts_309 : decode cL_scripts 309 = .ok (.iconst 0, 1) := by decide +kernel
theorem dL_scripts_310 : decode cL_scripts 310 = .ok (.ireturn, 1) := by decide +kernel
theorem dL_begin_0 : decode cL_begin 0 = .ok (.aload_n 0, 1) := by decide +kernel
theorem dL_begin_1 : decode cL_begin 1 = .ok (.iconst 0, 1) := by decide +kernel
theorem dL_begin_2 : decode cL_begin 2 = .ok (.bipush 84, 2) := by decide +kernel
theorem dL_begin_4 : decode cL_begin 4 = .ok (.iconst 0, 1) := by decide +kernel
theorem dL_begin_5 : decode cL_begin 5 = .ok (.iconst 0, 1) := by decide +kernel
theorem dL_begin_6 : decode cL_begin 6 = .ok (.iconst 0, 1) := by decide +kernel
theorem dL_begin_7 : decode cL_begin 7 = .ok (.invokestatic 153, 3) := by decide +kernel
theorem dL_begin_10 : decode cL_begin 10 = .ok (.iconst 1, 1) := by decide +kernel
theorem dL_begin_11 : decode cL_begin 11 = .ok (.if_icmp .ne 78, 3) := by decide +kernel
theorem dL_begin_14 : decode cL_begin 14 = .ok (.aload_n 0, 1) := by decide +kernel
theorem dL_begin_15 : decode cL_begin 15 = .ok (.invokevirtual 219, 3) := by decide +kernel
theorem dL_begin_18 : decode cL_begin 18 = .ok (.iconst 1, 1) := by decide +kernel
theorem dL_begin_19 : decode cL_begin 19 = .ok (.if_icmp .ne 70, 3) := by decide +kernel
theorem dL_begin_22 : decode cL_begin 22 = .ok (.aload_n 0, 1) := by decide +kernel
theorem dL_begin_23 : decode cL_begin 23 = .ok (.iconst 0, 1) := by decide +kernel
theorem dL_begin_24 : decode cL_begin 24 = .ok (.bipush 49, 2) := by decide +kernel
theorem dL_begin_26 : decode cL_begin 26 = .ok (.iload_n 1, 1) := by decide +kernel
theorem dL_begin_27 : decode cL_begin 27 = .ok (.iconst 5, 1) := by decide +kernel
theorem dL_begin_28 : decode cL_begin 28 = .ok (.irem, 1) := by decide +kernel
theorem dL_begin_29 : decode cL_begin 29 = .ok (.iadd, 1) := by decide +kernel
theorem dL_begin_30 : decode cL_begin 30 = .ok (.iconst 0, 1) := by decide +kernel
theorem dL_begin_31 : decode cL_begin 31 = .ok (.iconst 0, 1) := by decide +kernel
theorem dL_begin_32 : decode cL_begin 32 = .ok (.iconst 0, 1) := by decide +kernel
theorem dL_begin_33 : decode cL_begin 33 = .ok (.invokestatic 153, 3) := by decide +kernel
theorem dL_begin_36 : decode cL_begin 36 = .ok (.iconst 2, 1) := by decide +kernel
theorem dL_begin_37 : decode cL_begin 37 = .ok (.if_icmp .ne 52, 3) := by decide +kernel
theorem dL_begin_40 : decode cL_begin 40 = .ok (.aload_n 0, 1) := by decide +kernel
theorem dL_begin_41 : decode cL_begin 41 = .ok (.iconst 0, 1) := by decide +kernel
theorem dL_begin_42 : decode cL_begin 42 = .ok (.bipush 48, 2) := by decide +kernel
theorem dL_begin_44 : decode cL_begin 44 = .ok (.iload_n 1, 1) := by decide +kernel
theorem dL_begin_45 : decode cL_begin 45 = .ok (.bipush 8, 2) := by decide +kernel
theorem dL_begin_47 : decode cL_begin 47 = .ok (.idiv, 1) := by decide +kernel
theorem dL_begin_48 : decode cL_begin 48 = .ok (.bipush 10, 2) := by decide +kernel
theorem dL_begin_50 : decode cL_begin 50 = .ok (.irem, 1) := by decide +kernel
theorem dL_begin_51 : decode cL_begin 51 = .ok (.iadd, 1) := by decide +kernel
theorem dL_begin_52 : decode cL_begin 52 = .ok (.iconst 0, 1) := by decide +kernel
theorem dL_begin_53 : decode cL_begin 53 = .ok (.iconst 0, 1) := by decide +kernel
theorem dL_begin_54 : decode cL_begin 54 = .ok (.iconst 0, 1) := by decide +kernel
theorem dL_begin_55 : decode cL_begin 55 = .ok (.invokestatic 153, 3) := by decide +kernel
theorem dL_begin_58 : decode cL_begin 58 = .ok (.iconst 3, 1) := by decide +kernel
theorem dL_begin_59 : decode cL_begin 59 = .ok (.if_icmp .ne 30, 3) := by decide +kernel
theorem dL_begin_62 : decode cL_begin 62 = .ok (.aload_n 0, 1) := by decide +kernel
theorem dL_begin_63 : decode cL_begin 63 = .ok (.iconst 0, 1) := by decide +kernel
theorem dL_begin_64 : decode cL_begin 64 = .ok (.bipush 48, 2) := by decide +kernel
theorem dL_begin_66 : decode cL_begin 66 = .ok (.iconst 0, 1) := by decide +kernel
theorem dL_begin_67 : decode cL_begin 67 = .ok (.iconst 0, 1) := by decide +kernel
theorem dL_begin_68 : decode cL_begin 68 = .ok (.iconst 0, 1) := by decide +kernel
theorem dL_begin_69 : decode cL_begin 69 = .ok (.invokestatic 153, 3) := by decide +kernel
theorem dL_begin_72 : decode cL_begin 72 = .ok (.iconst 4, 1) := by decide +kernel
theorem dL_begin_73 : decode cL_begin 73 = .ok (.if_icmp .ne 16, 3) := by decide +kernel
theorem dL_begin_76 : decode cL_begin 76 = .ok (.aload_n 0, 1) := by decide +kernel
theorem dL_begin_77 : decode cL_begin 77 = .ok (.invokevirtual 219, 3) := by decide +kernel
theorem dL_begin_80 : decode cL_begin 80 = .ok (.bipush (-9), 2) := by decide +kernel
theorem dL_begin_82 : decode cL_begin 82 = .ok (.if_icmp .ne 7, 3) := by decide +kernel
theorem dL_begin_85 : decode cL_begin 85 = .ok (.iconst 1, 1) := by decide +kernel
theorem dL_begin_86 : decode cL_begin 86 = .ok (.goto 4, 3) := by decide +kernel
theorem dL_begin_89 : decode cL_begin 89 = .ok (.iconst 0, 1) := by decide +kernel
theorem dL_begin_90 : decode cL_begin 90 = .ok (.istore_n 2, 1) := by decide +kernel
theorem dL_begin_91 : decode cL_begin 91 = .ok (.iconst 2, 1) := by decide +kernel
theorem dL_begin_92 : decode cL_begin 92 = .ok (.iload_n 1, 1) := by decide +kernel
theorem dL_begin_93 : decode cL_begin 93 = .ok (.sipush 128, 3) := by decide +kernel
theorem dL_begin_96 : decode cL_begin 96 = .ok (.idiv, 1) := by decide +kernel
theorem dL_begin_97 : decode cL_begin 97 = .ok (.iconst 5, 1) := by decide +kernel
theorem dL_begin_98 : decode cL_begin 98 = .ok (.irem, 1) := by decide +kernel
theorem dL_begin_99 : decode cL_begin 99 = .ok (.iadd, 1) := by decide +kernel
theorem dL_begin_100 : decode cL_begin 100 = .ok (.istore_n 3, 1) := by decide +kernel
theorem dL_begin_101 : decode cL_begin 101 = .ok (.iconst 0, 1) := by decide +kernel
theorem dL_begin_102 : decode cL_begin 102 = .ok (.istore 4, 2) := by decide +kernel
theorem dL_begin_104 : decode cL_begin 104 = .ok (.iload 4, 2) := by decide +kernel
theorem dL_begin_106 : decode cL_begin 106 = .ok (.iload_n 3, 1) := by decide +kernel
theorem dL_begin_107 : decode cL_begin 107 = .ok (.if_icmp .ge 111, 3) := by decide +kernel
theorem dL_begin_110 : decode cL_begin 110 = .ok (.iload_n 2, 1) := by decide +kernel
theorem dL_begin_111 : decode cL_begin 111 = .ok (.ifCond .eq 107, 3) := by decide +kernel
theorem dL_begin_114 : decode cL_begin 114 = .ok (.aload_n 0, 1) := by decide +kernel
theorem dL_begin_115 : decode cL_begin 115 = .ok (.iconst 0, 1) := by decide +kernel
theorem dL_begin_116 : decode cL_begin 116 = .ok (.bipush 100, 2) := by decide +kernel
theorem dL_begin_118 : decode cL_begin 118 = .ok (.iconst 0, 1) := by decide +kernel
theorem dL_begin_119 : decode cL_begin 119 = .ok (.iconst 0, 1) := by decide +kernel
theorem dL_begin_120 : decode cL_begin 120 = .ok (.iconst 0, 1) := by decide +kernel
theorem dL_begin_121 : decode cL_begin 121 = .ok (.invokestatic 153, 3) := by decide +kernel
theorem dL_begin_124 : decode cL_begin 124 = .ok (.ifCond .le 86, 3) := by decide +kernel
theorem dL_begin_127 : decode cL_begin 127 = .ok (.aload_n 0, 1) := by decide +kernel
theorem dL_begin_128 : decode cL_begin 128 = .ok (.iconst 0, 1) := by decide +kernel
theorem dL_begin_129 : decode cL_begin 129 = .ok (.bipush 48, 2) := by decide +kernel
theorem dL_begin_131 : decode cL_begin 131 = .ok (.iload_n 1, 1) := by decide +kernel
theorem dL_begin_132 : decode cL_begin 132 = .ok (.sipush 1024, 3) := by decide +kernel
theorem dL_begin_135 : decode cL_begin 135 = .ok (.iload 4, 2) := by decide +kernel
theorem dL_begin_137 : decode cL_begin 137 = .ok (.iadd, 1) := by decide +kernel
theorem dL_begin_138 : decode cL_begin 138 = .ok (.idiv, 1) := by decide +kernel
theorem dL_begin_139 : decode cL_begin 139 = .ok (.iconst 3, 1) := by decide +kernel
theorem dL_begin_140 : decode cL_begin 140 = .ok (.irem, 1) := by decide +kernel
theorem dL_begin_141 : decode cL_begin 141 = .ok (.iadd, 1) := by decide +kernel
theorem dL_begin_142 : decode cL_begin 142 = .ok (.iconst 0, 1) := by decide +kernel
theorem dL_begin_143 : decode cL_begin 143 = .ok (.iconst 0, 1) := by decide +kernel
theorem dL_begin_144 : decode cL_begin 144 = .ok (.iconst 0, 1) := by decide +kernel
theorem dL_begin_145 : decode cL_begin 145 = .ok (.invokestatic 153, 3) := by decide +kernel
theorem dL_begin_148 : decode cL_begin 148 = .ok (.ifCond .le 62, 3) := by decide +kernel
theorem dL_begin_151 : decode cL_begin 151 = .ok (.aload_n 0, 1) := by decide +kernel
theorem dL_begin_152 : decode cL_begin 152 = .ok (.iconst 0, 1) := by decide +kernel
theorem dL_begin_153 : decode cL_begin 153 = .ok (.bipush 48, 2) := by decide +kernel
theorem dL_begin_155 : decode cL_begin 155 = .ok (.iconst 2, 1) := by decide +kernel
theorem dL_begin_156 : decode cL_begin 156 = .ok (.iload 4, 2) := by decide +kernel
theorem dL_begin_158 : decode cL_begin 158 = .ok (.imul, 1) := by decide +kernel
theorem dL_begin_159 : decode cL_begin 159 = .ok (.bipush 9, 2) := by decide +kernel
theorem dL_begin_161 : decode cL_begin 161 = .ok (.irem, 1) := by decide +kernel
theorem dL_begin_162 : decode cL_begin 162 = .ok (.iadd, 1) := by decide +kernel
theorem dL_begin_163 : decode cL_begin 163 = .ok (.iconst 0, 1) := by decide +kernel
theorem dL_begin_164 : decode cL_begin 164 = .ok (.iconst 0, 1) := by decide +kernel
theorem dL_begin_165 : decode cL_begin 165 = .ok (.iconst 0, 1) := by decide +kernel
theorem dL_begin_166 : decode cL_begin 166 = .ok (.invokestatic 153, 3) := by decide +kernel
theorem dL_begin_169 : decode cL_begin 169 = .ok (.ifCond .le 41, 3) := by decide +kernel
theorem dL_begin_172 : decode cL_begin 172 = .ok (.aload_n 0, 1) := by decide +kernel
theorem dL_begin_173 : decode cL_begin 173 = .ok (.iconst 0, 1) := by decide +kernel
theorem dL_begin_174 : decode cL_begin 174 = .ok (.bipush 49, 2) := by decide +kernel
theorem dL_begin_176 : decode cL_begin 176 = .ok (.iload_n 1, 1) := by decide +kernel
theorem dL_begin_177 : decode cL_begin 177 = .ok (.sipush 4096, 3) := by decide +kernel
theorem dL_begin_180 : decode cL_begin 180 = .ok (.iload 4, 2) := by decide +kernel
theorem dL_begin_182 : decode cL_begin 182 = .ok (.iadd, 1) := by decide +kernel
theorem dL_begin_183 : decode cL_begin 183 = .ok (.idiv, 1) := by decide +kernel
theorem dL_begin_184 : decode cL_begin 184 = .ok (.bipush 9, 2) := by decide +kernel
theorem dL_begin_186 : decode cL_begin 186 = .ok (.irem, 1) := by decide +kernel
theorem dL_begin_187 : decode cL_begin 187 = .ok (.iadd, 1) := by decide +kernel
theorem dL_begin_188 : decode cL_begin 188 = .ok (.iconst 0, 1) := by decide +kernel
theorem dL_begin_189 : decode cL_begin 189 = .ok (.iconst 0, 1) := by decide +kernel
theorem dL_begin_190 : decode cL_begin 190 = .ok (.iconst 0, 1) := by decide +kernel
theorem dL_begin_191 : decode cL_begin 191 = .ok (.invokestatic 153, 3) := by decide +kernel
theorem dL_begin_194 : decode cL_begin 194 = .ok (.ifCond .le 16, 3) := by decide +kernel
theorem dL_begin_197 : decode cL_begin 197 = .ok (.aload_n 0, 1) := by decide +kernel
theorem dL_begin_198 : decode cL_begin 198 = .ok (.invokevirtual 219, 3) := by decide +kernel
theorem dL_begin_201 : decode cL_begin 201 = .ok (.bipush (-9), 2) := by decide +kernel
theorem dL_begin_203 : decode cL_begin 203 = .ok (.if_icmp .ne 7, 3) := by decide +kernel
theorem dL_begin_206 : decode cL_begin 206 = .ok (.iconst 1, 1) := by decide +kernel
theorem dL_begin_207 : decode cL_begin 207 = .ok (.goto 4, 3) := by decide +kernel
theorem dL_begin_210 : decode cL_begin 210 = .ok (.iconst 0, 1) := by decide +kernel
theorem dL_begin_211 : decode cL_begin 211 = .ok (.istore_n 2, 1) := by decide +kernel
theorem dL_begin_212 : decode cL_begin 212 = .ok (.iinc 4 1, 3) := by decide +kernel
theorem dL_begin_215 : decode cL_begin 215 = .ok (.goto (-111), 3) := by decide +kernel
theorem dL_begin_218 : decode cL_begin 218 = .ok (.iload_n 2, 1) := by decide +kernel
theorem dL_begin_219 : decode cL_begin 219 = .ok (.ifCond .eq 20, 3) := by decide +kernel
theorem dL_begin_222 : decode cL_begin 222 = .ok (.aload_n 0, 1) := by decide +kernel
theorem dL_begin_223 : decode cL_begin 223 = .ok (.iconst 1, 1) := by decide +kernel
theorem dL_begin_224 : decode cL_begin 224 = .ok (.iconst 0, 1) := by decide +kernel
theorem dL_begin_225 : decode cL_begin 225 = .ok (.iconst 0, 1) := by decide +kernel
theorem dL_begin_226 : decode cL_begin 226 = .ok (.iconst 0, 1) := by decide +kernel
theorem dL_begin_227 : decode cL_begin 227 = .ok (.iconst 0, 1) := by decide +kernel
theorem dL_begin_228 : decode cL_begin 228 = .ok (.invokestatic 153, 3) := by decide +kernel
theorem dL_begin_231 : decode cL_begin 231 = .ok (.iload_n 3, 1) := by decide +kernel
theorem dL_begin_232 : decode cL_begin 232 = .ok (.if_icmp .ne 7, 3) := by decide +kernel
theorem dL_begin_235 : decode cL_begin 235 = .ok (.iconst 1, 1) := by decide +kernel
theorem dL_begin_236 : decode cL_begin 236 = .ok (.goto 4, 3) := by decide +kernel
theorem dL_begin_239 : decode cL_begin 239 = .ok (.iconst 0, 1) := by decide +kernel
theorem dL_begin_240 : decode cL_begin 240 = .ok (.ireturn, 1) := by decide +kernel
