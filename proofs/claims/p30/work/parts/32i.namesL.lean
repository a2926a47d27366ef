theorem dL_act_0 : decode cL_act 0 = .ok (.aload_n 0, 1) := by decide +kernel
theorem dL_act_1 : decode cL_act 1 = .ok (.iconst 0, 1) := by decide +kernel
theorem dL_act_2 : decode cL_act 2 = .ok (.invokestatic 159, 3) := by decide +kernel
theorem dL_act_5 : decode cL_act 5 = .ok (.istore_n 3, 1) := by decide +kernel
theorem dL_act_6 : decode cL_act 6 = .ok (.iload_n 1, 1) := by decide +kernel
theorem dL_act_7 : decode cL_act 7 = .ok (.bipush 16, 2) := by decide +kernel
theorem dL_act_9 : decode cL_act 9 = .ok (.irem, 1) := by decide +kernel
theorem dL_act_10 : decode cL_act 10 = .ok (.tableswitch 212 0 9 #[54, 76, 89, 89, 108, 108, 126, 150, 171, 182], 54) := by decide +kernel
theorem dL_act_64 : decode cL_act 64 = .ok (.aload_n 0, 1) := by decide +kernel
theorem dL_act_65 : decode cL_act 65 = .ok (.bipush 7, 2) := by decide +kernel
theorem dL_act_67 : decode cL_act 67 = .ok (.iload_n 2, 1) := by decide +kernel
theorem dL_act_68 : decode cL_act 68 = .ok (.bipush 6, 2) := by decide +kernel
theorem dL_act_70 : decode cL_act 70 = .ok (.irem, 1) := by decide +kernel
theorem dL_act_71 : decode cL_act 71 = .ok (.iconst 1, 1) := by decide +kernel
theorem dL_act_72 : decode cL_act 72 = .ok (.iload_n 2, 1) := by decide +kernel
theorem dL_act_73 : decode cL_act 73 = .ok (.bipush 8, 2) := by decide +kernel
theorem dL_act_75 : decode cL_act 75 = .ok (.idiv, 1) := by decide +kernel
theorem dL_act_76 : decode cL_act 76 = .ok (.bipush 99, 2) := by decide +kernel
theorem dL_act_78 : decode cL_act 78 = .ok (.irem, 1) := by decide +kernel
theorem dL_act_79 : decode cL_act 79 = .ok (.iadd, 1) := by decide +kernel
theorem dL_act_80 : decode cL_act 80 = .ok (.iconst 0, 1) := by decide +kernel
theorem dL_act_81 : decode cL_act 81 = .ok (.iconst 0, 1) := by decide +kernel
theorem dL_act_82 : decode cL_act 82 = .ok (.invokestatic 153, 3) := by decide +kernel
theorem dL_act_85 : decode cL_act 85 = .ok (.ireturn, 1) := by decide +kernel
theorem dL_act_86 : decode cL_act 86 = .ok (.aload_n 0, 1) := by decide +kernel
theorem dL_act_87 : decode cL_act 87 = .ok (.bipush 8, 2) := by decide +kernel
theorem dL_act_89 : decode cL_act 89 = .ok (.iload_n 2, 1) := by decide +kernel
theorem dL_act_90 : decode cL_act 90 = .ok (.iload_n 3, 1) := by decide +kernel
theorem dL_act_91 : decode cL_act 91 = .ok (.irem, 1) := by decide +kernel
theorem dL_act_92 : decode cL_act 92 = .ok (.iconst 0, 1) := by decide +kernel
theorem dL_act_93 : decode cL_act 93 = .ok (.iconst 0, 1) := by decide +kernel
theorem dL_act_94 : decode cL_act 94 = .ok (.iconst 0, 1) := by decide +kernel
theorem dL_act_95 : decode cL_act 95 = .ok (.invokestatic 153, 3) := by decide +kernel
theorem dL_act_98 : decode cL_act 98 = .ok (.ireturn, 1) := by decide +kernel
theorem dL_act_99 : decode cL_act 99 = .ok (.aload_n 0, 1) := by decide +kernel
theorem dL_act_100 : decode cL_act 100 = .ok (.bipush 9, 2) := by decide +kernel
theorem dL_act_102 : decode cL_act 102 = .ok (.iload_n 2, 1) := by decide +kernel
theorem dL_act_103 : decode cL_act 103 = .ok (.iload_n 3, 1) := by decide +kernel
theorem dL_act_104 : decode cL_act 104 = .ok (.irem, 1) := by decide +kernel
theorem dL_act_105 : decode cL_act 105 = .ok (.iload_n 2, 1) := by decide +kernel
theorem dL_act_106 : decode cL_act 106 = .ok (.bipush 16, 2) := by decide +kernel
theorem dL_act_108 : decode cL_act 108 = .ok (.idiv, 1) := by decide +kernel
theorem dL_act_109 : decode cL_act 109 = .ok (.bipush 6, 2) := by decide +kernel
theorem dL_act_111 : decode cL_act 111 = .ok (.irem, 1) := by decide +kernel
theorem dL_act_112 : decode cL_act 112 = .ok (.iconst 0, 1) := by decide +kernel
theorem dL_act_113 : decode cL_act 113 = .ok (.iconst 0, 1) := by decide +kernel
theorem dL_act_114 : decode cL_act 114 = .ok (.invokestatic 153, 3) := by decide +kernel
theorem dL_act_117 : decode cL_act 117 = .ok (.ireturn, 1) := by decide +kernel
theorem dL_act_118 : decode cL_act 118 = .ok (.aload_n 0, 1) := by decide +kernel
theorem dL_act_119 : decode cL_act 119 = .ok (.bipush 10, 2) := by decide +kernel
theorem dL_act_121 : decode cL_act 121 = .ok (.bipush 60, 2) := by decide +kernel
theorem dL_act_123 : decode cL_act 123 = .ok (.iload_n 2, 1) := by decide +kernel
theorem dL_act_124 : decode cL_act 124 = .ok (.sipush 541, 3) := by decide +kernel
theorem dL_act_127 : decode cL_act 127 = .ok (.irem, 1) := by decide +kernel
theorem dL_act_128 : decode cL_act 128 = .ok (.iadd, 1) := by decide +kernel
theorem dL_act_129 : decode cL_act 129 = .ok (.iconst 0, 1) := by decide +kernel
theorem dL_act_130 : decode cL_act 130 = .ok (.iconst 0, 1) := by decide +kernel
theorem dL_act_131 : decode cL_act 131 = .ok (.iconst 0, 1) := by decide +kernel
theorem dL_act_132 : decode cL_act 132 = .ok (.invokestatic 153, 3) := by decide +kernel
theorem dL_act_135 : decode cL_act 135 = .ok (.ireturn, 1) := by decide +kernel
theorem dL_act_136 : decode cL_act 136 = .ok (.aload_n 0, 1) := by decide +kernel
theorem dL_act_137 : decode cL_act 137 = .ok (.bipush 11, 2) := by decide +kernel
theorem dL_act_139 : decode cL_act 139 = .ok (.iload_n 2, 1) := by decide +kernel
theorem dL_act_140 : decode cL_act 140 = .ok (.iconst 2, 1) := by decide +kernel
theorem dL_act_141 : decode cL_act 141 = .ok (.irem, 1) := by decide +kernel
theorem dL_act_142 : decode cL_act 142 = .ok (.ifCond .ne 8, 3) := by decide +kernel
theorem dL_act_145 : decode cL_act 145 = .ok (.ldc 214, 2) := by decide +kernel
theorem dL_act_147 : decode cL_act 147 = .ok (.goto 6, 3) := by decide +kernel
theorem dL_act_150 : decode cL_act 150 = .ok (.sipush 12345, 3) := by decide +kernel
theorem dL_act_153 : decode cL_act 153 = .ok (.iconst 0, 1) := by decide +kernel
theorem dL_act_154 : decode cL_act 154 = .ok (.iconst 0, 1) := by decide +kernel
theorem dL_act_155 : decode cL_act 155 = .ok (.iconst 0, 1) := by decide +kernel
theorem dL_act_156 : decode cL_act 156 = .ok (.invokestatic 153, 3) := by decide +kernel
theorem dL_act_159 : decode cL_act 159 = .ok (.ireturn, 1) := by decide +kernel
theorem dL_act_160 : decode cL_act 160 = .ok (.aload_n 0, 1) := by decide +kernel
theorem dL_act_161 : decode cL_act 161 = .ok (.bipush 12, 2) := by decide +kernel
theorem dL_act_163 : decode cL_act 163 = .ok (.iload_n 2, 1) := by decide +kernel
theorem dL_act_164 : decode cL_act 164 = .ok (.iload_n 3, 1) := by decide +kernel
theorem dL_act_165 : decode cL_act 165 = .ok (.irem, 1) := by decide +kernel
theorem dL_act_166 : decode cL_act 166 = .ok (.iconst 1, 1) := by decide +kernel
theorem dL_act_167 : decode cL_act 167 = .ok (.iload_n 2, 1) := by decide +kernel
theorem dL_act_168 : decode cL_act 168 = .ok (.bipush 16, 2) := by decide +kernel
theorem dL_act_170 : decode cL_act 170 = .ok (.idiv, 1) := by decide +kernel
theorem dL_act_171 : decode cL_act 171 = .ok (.bipush 99, 2) := by decide +kernel
theorem dL_act_173 : decode cL_act 173 = .ok (.irem, 1) := by decide +kernel
theorem dL_act_174 : decode cL_act 174 = .ok (.iadd, 1) := by decide +kernel
theorem dL_act_175 : decode cL_act 175 = .ok (.iconst 0, 1) := by decide +kernel
theorem dL_act_176 : decode cL_act 176 = .ok (.iconst 0, 1) := by decide +kernel
theorem dL_act_177 : decode cL_act 177 = .ok (.invokestatic 153, 3) := by decide +kernel
theorem dL_act_180 : decode cL_act 180 = .ok (.ireturn, 1) := by decide +kernel
theorem dL_act_181 : decode cL_act 181 = .ok (.aload_n 0, 1) := by decide +kernel
theorem dL_act_182 : decode cL_act 182 = .ok (.bipush 13, 2) := by decide +kernel
theorem dL_act_184 : decode cL_act 184 = .ok (.iconst 0, 1) := by decide +kernel
theorem dL_act_185 : decode cL_act 185 = .ok (.iconst 0, 1) := by decide +kernel
theorem dL_act_186 : decode cL_act 186 = .ok (.iconst 0, 1) := by decide +kernel
theorem dL_act_187 : decode cL_act 187 = .ok (.iconst 0, 1) := by decide +kernel
theorem dL_act_188 : decode cL_act 188 = .ok (.invokestatic 153, 3) := by decide +kernel
theorem dL_act_191 : decode cL_act 191 = .ok (.ireturn, 1) := by decide +kernel
theorem dL_act_192 : decode cL_act 192 = .ok (.iload_n 2, 1) := by decide +kernel
theorem dL_act_193 : decode cL_act 193 = .ok (.iconst 2, 1) := by decide +kernel
theorem dL_act_194 : decode cL_act 194 = .ok (.irem, 1) := by decide +kernel
theorem dL_act_195 : decode cL_act 195 = .ok (.ifCond .ne 16, 3) := by decide +kernel
theorem dL_act_198 : decode cL_act 198 = .ok (.aload_n 0, 1) := by decide +kernel
theorem dL_act_199 : decode cL_act 199 = .ok (.bipush 17, 2) := by decide +kernel
theorem dL_act_201 : decode cL_act 201 = .ok (.iconst 1, 1) := by decide +kernel
theorem dL_act_202 : decode cL_act 202 = .ok (.iconst 0, 1) := by decide +kernel
theorem dL_act_203 : decode cL_act 203 = .ok (.iconst 0, 1) := by decide +kernel
theorem dL_act_204 : decode cL_act 204 = .ok (.iconst 0, 1) := by decide +kernel
theorem dL_act_205 : decode cL_act 205 = .ok (.invokestatic 153, 3) := by decide +kernel
theorem dL_act_208 : decode cL_act 208 = .ok (.goto 13, 3) := by decide +kernel
theorem dL_act_211 : decode cL_act 211 = .ok (.aload_n 0, 1) := by decide +kernel
theorem dL_act_212 : decode cL_act 212 = .ok (.bipush 18, 2) := by decide +kernel
theorem dL_act_214 : decode cL_act 214 = .ok (.iconst 1, 1) := by decide +kernel
theorem dL_act_215 : decode cL_act 215 = .ok (.iconst 0, 1) := by decide +kernel
theorem dL_act_216 : decode cL_act 216 = .ok (.iconst 0, 1) := by decide +kernel
theorem dL_act_217 : decode cL_act 217 = .ok (.iconst 0, 1) := by decide +kernel
theorem dL_act_218 : decode cL_act 218 = .ok (.invokestatic 153, 3) := by decide +kernel
theorem dL_act_221 : decode cL_act 221 = .ok (.ireturn, 1) := by decide +kernel
theorem dL_act_222 : decode cL_act 222 = .ok (.aload_n 0, 1) := by decide +kernel
theorem dL_act_223 : decode cL_act 223 = .ok (.iload_n 2, 1) := by decide +kernel
theorem dL_act_224 : decode cL_act 224 = .ok (.bipush 64, 2) := by decide +kernel
theorem dL_act_226 : decode cL_act 226 = .ok (.idiv, 1) := by decide +kernel
theorem dL_act_227 : decode cL_act 227 = .ok (.invokestatic 215, 3) := by decide +kernel
theorem dL_act_230 : decode cL_act 230 = .ok (.iconst 1, 1) := by decide +kernel
theorem dL_act_231 : decode cL_act 231 = .ok (.iload_n 2, 1) := by decide +kernel
theorem dL_act_232 : decode cL_act 232 = .ok (.bipush 30, 2) := by decide +kernel
theorem dL_act_234 : decode cL_act 234 = .ok (.irem, 1) := by decide +kernel
theorem dL_act_235 : decode cL_act 235 = .ok (.iadd, 1) := by decide +kernel
theorem dL_act_236 : decode cL_act 236 = .ok (.invokestatic 178, 3) := by decide +kernel
theorem dL_act_239 : decode cL_act 239 = .ok (.ireturn, 1) := by decide +kernel
