theorem dL_places_0 : decode cL_places 0 = .ok (.aload_n 0, 1) := by decide +kernel
theorem dL_places_1 : decode cL_places 1 = .ok (.aload_n 0, 1) := by decide +kernel
theorem dL_places_2 : decode cL_places 2 = .ok (.iconst 2, 1) := by decide +kernel
theorem dL_places_3 : decode cL_places 3 = .ok (.invokestatic 159, 3) := by decide +kernel
theorem dL_places_6 : decode cL_places 6 = .ok (.invokevirtual 168, 3) := by decide +kernel
theorem dL_places_9 : decode cL_places 9 = .ok (.bipush (-9), 2) := by decide +kernel
theorem dL_places_11 : decode cL_places 11 = .ok (.if_icmp .ne 7, 3) := by decide +kernel
theorem dL_places_14 : decode cL_places 14 = .ok (.iconst 1, 1) := by decide +kernel
theorem dL_places_15 : decode cL_places 15 = .ok (.goto 4, 3) := by decide +kernel
theorem dL_places_18 : decode cL_places 18 = .ok (.iconst 0, 1) := by decide +kernel
theorem dL_places_19 : decode cL_places 19 = .ok (.istore_n 1, 1) := by decide +kernel
theorem dL_places_20 : decode cL_places 20 = .ok (.iconst 0, 1) := by decide +kernel
theorem dL_places_21 : decode cL_places 21 = .ok (.istore_n 2, 1) := by decide +kernel
theorem dL_places_22 : decode cL_places 22 = .ok (.iconst 0, 1) := by decide +kernel
theorem dL_places_23 : decode cL_places 23 = .ok (.istore_n 3, 1) := by decide +kernel
theorem dL_places_24 : decode cL_places 24 = .ok (.iload_n 3, 1) := by decide +kernel
theorem dL_places_25 : decode cL_places 25 = .ok (.aload_n 0, 1) := by decide +kernel
theorem dL_places_26 : decode cL_places 26 = .ok (.iconst 2, 1) := by decide +kernel
theorem dL_places_27 : decode cL_places 27 = .ok (.invokestatic 159, 3) := by decide +kernel
theorem dL_places_30 : decode cL_places 30 = .ok (.if_icmp .ge 159, 3) := by decide +kernel
theorem dL_places_33 : decode cL_places 33 = .ok (.iload_n 1, 1) := by decide +kernel
theorem dL_places_34 : decode cL_places 34 = .ok (.ifCond .eq 155, 3) := by decide +kernel
theorem dL_places_37 : decode cL_places 37 = .ok (.aload_n 0, 1) := by decide +kernel
theorem dL_places_38 : decode cL_places 38 = .ok (.iload_n 3, 1) := by decide +kernel
theorem dL_places_39 : decode cL_places 39 = .ok (.invokevirtual 168, 3) := by decide +kernel
theorem dL_places_42 : decode cL_places 42 = .ok (.istore 4, 2) := by decide +kernel
theorem dL_places_44 : decode cL_places 44 = .ok (.aload_n 0, 1) := by decide +kernel
theorem dL_places_45 : decode cL_places 45 = .ok (.iload 4, 2) := by decide +kernel
theorem dL_places_47 : decode cL_places 47 = .ok (.bipush 6, 2) := by decide +kernel
theorem dL_places_49 : decode cL_places 49 = .ok (.invokestatic 161, 3) := by decide +kernel
theorem dL_places_52 : decode cL_places 52 = .ok (.istore 5, 2) := by decide +kernel
theorem dL_places_54 : decode cL_places 54 = .ok (.aload_n 0, 1) := by decide +kernel
theorem dL_places_55 : decode cL_places 55 = .ok (.iload 4, 2) := by decide +kernel
theorem dL_places_57 : decode cL_places 57 = .ok (.iconst 3, 1) := by decide +kernel
theorem dL_places_58 : decode cL_places 58 = .ok (.invokestatic 161, 3) := by decide +kernel
theorem dL_places_61 : decode cL_places 61 = .ok (.iconst 1, 1) := by decide +kernel
theorem dL_places_62 : decode cL_places 62 = .ok (.if_icmp .ne 27, 3) := by decide +kernel
theorem dL_places_65 : decode cL_places 65 = .ok (.iload 5, 2) := by decide +kernel
theorem dL_places_67 : decode cL_places 67 = .ok (.iload_n 2, 1) := by decide +kernel
theorem dL_places_68 : decode cL_places 68 = .ok (.if_icmp .lt 21, 3) := by decide +kernel
theorem dL_places_71 : decode cL_places 71 = .ok (.iload 5, 2) := by decide +kernel
theorem dL_places_73 : decode cL_places 73 = .ok (.iload_n 3, 1) := by decide +kernel
theorem dL_places_74 : decode cL_places 74 = .ok (.iconst 1, 1) := by decide +kernel
theorem dL_places_75 : decode cL_places 75 = .ok (.iadd, 1) := by decide +kernel
theorem dL_places_76 : decode cL_places 76 = .ok (.if_icmp .gt 13, 3) := by decide +kernel
theorem dL_places_79 : decode cL_places 79 = .ok (.iload 5, 2) := by decide +kernel
theorem dL_places_81 : decode cL_places 81 = .ok (.iconst 1, 1) := by decide +kernel
theorem dL_places_82 : decode cL_places 82 = .ok (.if_icmp .lt 7, 3) := by decide +kernel
theorem dL_places_85 : decode cL_places 85 = .ok (.iconst 1, 1) := by decide +kernel
theorem dL_places_86 : decode cL_places 86 = .ok (.goto 4, 3) := by decide +kernel
theorem dL_places_89 : decode cL_places 89 = .ok (.iconst 0, 1) := by decide +kernel
theorem dL_places_90 : decode cL_places 90 = .ok (.istore_n 1, 1) := by decide +kernel
theorem dL_places_91 : decode cL_places 91 = .ok (.iload_n 3, 1) := by decide +kernel
theorem dL_places_92 : decode cL_places 92 = .ok (.ifCond .le 88, 3) := by decide +kernel
theorem dL_places_95 : decode cL_places 95 = .ok (.aload_n 0, 1) := by decide +kernel
theorem dL_places_96 : decode cL_places 96 = .ok (.iload_n 3, 1) := by decide +kernel
theorem dL_places_97 : decode cL_places 97 = .ok (.iconst 1, 1) := by decide +kernel
theorem dL_places_98 : decode cL_places 98 = .ok (.isub, 1) := by decide +kernel
theorem dL_places_99 : decode cL_places 99 = .ok (.invokevirtual 168, 3) := by decide +kernel
theorem dL_places_102 : decode cL_places 102 = .ok (.istore 6, 2) := by decide +kernel
theorem dL_places_104 : decode cL_places 104 = .ok (.iload_n 1, 1) := by decide +kernel
theorem dL_places_105 : decode cL_places 105 = .ok (.aload_n 0, 1) := by decide +kernel
theorem dL_places_106 : decode cL_places 106 = .ok (.iload 6, 2) := by decide +kernel
theorem dL_places_108 : decode cL_places 108 = .ok (.iconst 4, 1) := by decide +kernel
theorem dL_places_109 : decode cL_places 109 = .ok (.invokestatic 161, 3) := by decide +kernel
theorem dL_places_112 : decode cL_places 112 = .ok (.aload_n 0, 1) := by decide +kernel
theorem dL_places_113 : decode cL_places 113 = .ok (.iload 4, 2) := by decide +kernel
theorem dL_places_115 : decode cL_places 115 = .ok (.iconst 4, 1) := by decide +kernel
theorem dL_places_116 : decode cL_places 116 = .ok (.invokestatic 161, 3) := by decide +kernel
theorem dL_places_119 : decode cL_places 119 = .ok (.if_icmp .lt 58, 3) := by decide +kernel
theorem dL_places_122 : decode cL_places 122 = .ok (.iload 5, 2) := by decide +kernel
theorem dL_places_124 : decode cL_places 124 = .ok (.iload_n 2, 1) := by decide +kernel
theorem dL_places_125 : decode cL_places 125 = .ok (.if_icmp .le 14, 3) := by decide +kernel
theorem dL_places_128 : decode cL_places 128 = .ok (.iload 5, 2) := by decide +kernel
theorem dL_places_130 : decode cL_places 130 = .ok (.iload_n 3, 1) := by decide +kernel
theorem dL_places_131 : decode cL_places 131 = .ok (.iconst 1, 1) := by decide +kernel
theorem dL_places_132 : decode cL_places 132 = .ok (.iadd, 1) := by decide +kernel
theorem dL_places_133 : decode cL_places 133 = .ok (.if_icmp .ne 44, 3) := by decide +kernel
theorem dL_places_136 : decode cL_places 136 = .ok (.goto 37, 3) := by decide +kernel
theorem dL_places_139 : decode cL_places 139 = .ok (.aload_n 0, 1) := by decide +kernel
theorem dL_places_140 : decode cL_places 140 = .ok (.iload 6, 2) := by decide +kernel
theorem dL_places_142 : decode cL_places 142 = .ok (.iconst 4, 1) := by decide +kernel
theorem dL_places_143 : decode cL_places 143 = .ok (.invokestatic 161, 3) := by decide +kernel
theorem dL_places_146 : decode cL_places 146 = .ok (.aload_n 0, 1) := by decide +kernel
theorem dL_places_147 : decode cL_places 147 = .ok (.iload 4, 2) := by decide +kernel
theorem dL_places_149 : decode cL_places 149 = .ok (.iconst 4, 1) := by decide +kernel
theorem dL_places_150 : decode cL_places 150 = .ok (.invokestatic 161, 3) := by decide +kernel
theorem dL_places_153 : decode cL_places 153 = .ok (.if_icmp .ne 24, 3) := by decide +kernel
theorem dL_places_156 : decode cL_places 156 = .ok (.aload_n 0, 1) := by decide +kernel
theorem dL_places_157 : decode cL_places 157 = .ok (.iload 6, 2) := by decide +kernel
theorem dL_places_159 : decode cL_places 159 = .ok (.iconst 1, 1) := by decide +kernel
theorem dL_places_160 : decode cL_places 160 = .ok (.invokestatic 161, 3) := by decide +kernel
theorem dL_places_163 : decode cL_places 163 = .ok (.aload_n 0, 1) := by decide +kernel
theorem dL_places_164 : decode cL_places 164 = .ok (.iload 4, 2) := by decide +kernel
theorem dL_places_166 : decode cL_places 166 = .ok (.iconst 1, 1) := by decide +kernel
theorem dL_places_167 : decode cL_places 167 = .ok (.invokestatic 161, 3) := by decide +kernel
theorem dL_places_170 : decode cL_places 170 = .ok (.if_icmp .ge 7, 3) := by decide +kernel
theorem dL_places_173 : decode cL_places 173 = .ok (.iconst 1, 1) := by decide +kernel
theorem dL_places_174 : decode cL_places 174 = .ok (.goto 4, 3) := by decide +kernel
theorem dL_places_177 : decode cL_places 177 = .ok (.iconst 0, 1) := by decide +kernel
theorem dL_places_178 : decode cL_places 178 = .ok (.iand, 1) := by decide +kernel
theorem dL_places_179 : decode cL_places 179 = .ok (.istore_n 1, 1) := by decide +kernel
theorem dL_places_180 : decode cL_places 180 = .ok (.iload 5, 2) := by decide +kernel
theorem dL_places_182 : decode cL_places 182 = .ok (.istore_n 2, 1) := by decide +kernel
theorem dL_places_183 : decode cL_places 183 = .ok (.iinc 3 1, 3) := by decide +kernel
theorem dL_places_186 : decode cL_places 186 = .ok (.goto (-162), 3) := by decide +kernel
theorem dL_places_189 : decode cL_places 189 = .ok (.iload_n 1, 1) := by decide +kernel
theorem dL_places_190 : decode cL_places 190 = .ok (.ireturn, 1) := by decide +kernel
theorem dL_runs_0 : decode cL_runs 0 = .ok (.aload_n 0, 1) := by decide +kernel
theorem dL_runs_1 : decode cL_runs 1 = .ok (.invokestatic 171, 3) := by decide +kernel
theorem dL_runs_4 : decode cL_runs 4 = .ok (.lstore_n 2, 1) := by decide +kernel
theorem dL_runs_5 : decode cL_runs 5 = .ok (.aload_n 0, 1) := by decide +kernel
theorem dL_runs_6 : decode cL_runs 6 = .ok (.bipush 14, 2) := by decide +kernel
theorem dL_runs_8 : decode cL_runs 8 = .ok (.iload_n 1, 1) := by decide +kernel
theorem dL_runs_9 : decode cL_runs 9 = .ok (.iconst 0, 1) := by decide +kernel
theorem dL_runs_10 : decode cL_runs 10 = .ok (.iconst 0, 1) := by decide +kernel
theorem dL_runs_11 : decode cL_runs 11 = .ok (.iconst 0, 1) := by decide +kernel
theorem dL_runs_12 : decode cL_runs 12 = .ok (.invokestatic 153, 3) := by decide +kernel
theorem dL_runs_15 : decode cL_runs 15 = .ok (.istore 4, 2) := by decide +kernel
theorem dL_runs_17 : decode cL_runs 17 = .ok (.aload_n 0, 1) := by decide +kernel
theorem dL_runs_18 : decode cL_runs 18 = .ok (.bipush 8, 2) := by decide +kernel
theorem dL_runs_20 : decode cL_runs 20 = .ok (.invokestatic 159, 3) := by decide +kernel
theorem dL_runs_23 : decode cL_runs 23 = .ok (.istore 5, 2) := by decide +kernel
theorem dL_runs_25 : decode cL_runs 25 = .ok (.iload 4, 2) := by decide +kernel
theorem dL_runs_27 : decode cL_runs 27 = .ok (.ifCond .lt 17, 3) := by decide +kernel
theorem dL_runs_30 : decode cL_runs 30 = .ok (.iload 4, 2) := by decide +kernel
theorem dL_runs_32 : decode cL_runs 32 = .ok (.aload_n 0, 1) := by decide +kernel
theorem dL_runs_33 : decode cL_runs 33 = .ok (.iconst 1, 1) := by decide +kernel
theorem dL_runs_34 : decode cL_runs 34 = .ok (.invokestatic 159, 3) := by decide +kernel
theorem dL_runs_37 : decode cL_runs 37 = .ok (.if_icmp .gt 7, 3) := by decide +kernel
theorem dL_runs_40 : decode cL_runs 40 = .ok (.iconst 1, 1) := by decide +kernel
theorem dL_runs_41 : decode cL_runs 41 = .ok (.goto 4, 3) := by decide +kernel
theorem dL_runs_44 : decode cL_runs 44 = .ok (.iconst 0, 1) := by decide +kernel
theorem dL_runs_45 : decode cL_runs 45 = .ok (.istore 6, 2) := by decide +kernel
theorem dL_runs_47 : decode cL_runs 47 = .ok (.iconst 0, 1) := by decide +kernel
theorem dL_runs_48 : decode cL_runs 48 = .ok (.istore 7, 2) := by decide +kernel
theorem dL_runs_50 : decode cL_runs 50 = .ok (.iload 7, 2) := by decide +kernel
theorem dL_runs_52 : decode cL_runs 52 = .ok (.bipush 13, 2) := by decide +kernel
theorem dL_runs_54 : decode cL_runs 54 = .ok (.if_icmp .ge 85, 3) := by decide +kernel
theorem dL_runs_57 : decode cL_runs 57 = .ok (.aload_n 0, 1) := by decide +kernel
theorem dL_runs_58 : decode cL_runs 58 = .ok (.invokevirtual 175, 3) := by decide +kernel
theorem dL_runs_61 : decode cL_runs 61 = .ok (.ifCond .ne 78, 3) := by decide +kernel
theorem dL_runs_64 : decode cL_runs 64 = .ok (.aload_n 0, 1) := by decide +kernel
theorem dL_runs_65 : decode cL_runs 65 = .ok (.iconst 5, 1) := by decide +kernel
theorem dL_runs_66 : decode cL_runs 66 = .ok (.iconst 0, 1) := by decide +kernel
theorem dL_runs_67 : decode cL_runs 67 = .ok (.iconst 0, 1) := by decide +kernel
theorem dL_runs_68 : decode cL_runs 68 = .ok (.iconst 0, 1) := by decide +kernel
theorem dL_runs_69 : decode cL_runs 69 = .ok (.iconst 0, 1) := by decide +kernel
theorem dL_runs_70 : decode cL_runs 70 = .ok (.invokestatic 153, 3) := by decide +kernel
theorem dL_runs_73 : decode cL_runs 73 = .ok (.istore 8, 2) := by decide +kernel
theorem dL_runs_75 : decode cL_runs 75 = .ok (.aload_n 0, 1) := by decide +kernel
theorem dL_runs_76 : decode cL_runs 76 = .ok (.lconst 0, 1) := by decide +kernel
theorem dL_runs_77 : decode cL_runs 77 = .ok (.iload_n 1, 1) := by decide +kernel
theorem dL_runs_78 : decode cL_runs 78 = .ok (.invokestatic 178, 3) := by decide +kernel
theorem dL_runs_81 : decode cL_runs 81 = .ok (.istore 9, 2) := by decide +kernel
theorem dL_runs_83 : decode cL_runs 83 = .ok (.iinc 7 1, 3) := by decide +kernel
theorem dL_runs_86 : decode cL_runs 86 = .ok (.iload 6, 2) := by decide +kernel
theorem dL_runs_88 : decode cL_runs 88 = .ok (.aload_n 0, 1) := by decide +kernel
theorem dL_runs_89 : decode cL_runs 89 = .ok (.bipush 7, 2) := by decide +kernel
theorem dL_runs_91 : decode cL_runs 91 = .ok (.invokestatic 159, 3) := by decide +kernel
theorem dL_runs_94 : decode cL_runs 94 = .ok (.iload 8, 2) := by decide +kernel
theorem dL_runs_96 : decode cL_runs 96 = .ok (.if_icmp .ne 36, 3) := by decide +kernel
theorem dL_runs_99 : decode cL_runs 99 = .ok (.iload 9, 2) := by decide +kernel
theorem dL_runs_101 : decode cL_runs 101 = .ok (.bipush (-9), 2) := by decide +kernel
theorem dL_runs_103 : decode cL_runs 103 = .ok (.if_icmp .ne 7, 3) := by decide +kernel
theorem dL_runs_106 : decode cL_runs 106 = .ok (.iconst 1, 1) := by decide +kernel
theorem dL_runs_107 : decode cL_runs 107 = .ok (.goto 4, 3) := by decide +kernel
theorem dL_runs_110 : decode cL_runs 110 = .ok (.iconst 0, 1) := by decide +kernel
theorem dL_runs_111 : decode cL_runs 111 = .ok (.iload 7, 2) := by decide +kernel
theorem dL_runs_113 : decode cL_runs 113 = .ok (.iload 4, 2) := by decide +kernel
theorem dL_runs_115 : decode cL_runs 115 = .ok (.iconst 1, 1) := by decide +kernel
theorem dL_runs_116 : decode cL_runs 116 = .ok (.iadd, 1) := by decide +kernel
theorem dL_runs_117 : decode cL_runs 117 = .ok (.if_icmp .ne 7, 3) := by decide +kernel
theorem dL_runs_120 : decode cL_runs 120 = .ok (.iconst 1, 1) := by decide +kernel
theorem dL_runs_121 : decode cL_runs 121 = .ok (.goto 4, 3) := by decide +kernel
theorem dL_runs_124 : decode cL_runs 124 = .ok (.iconst 0, 1) := by decide +kernel
theorem dL_runs_125 : decode cL_runs 125 = .ok (.if_icmp .ne 7, 3) := by decide +kernel
theorem dL_runs_128 : decode cL_runs 128 = .ok (.iconst 1, 1) := by decide +kernel
theorem dL_runs_129 : decode cL_runs 129 = .ok (.goto 4, 3) := by decide +kernel
theorem dL_runs_132 : decode cL_runs 132 = .ok (.iconst 0, 1) := by decide +kernel
theorem dL_runs_133 : decode cL_runs 133 = .ok (.iand, 1) := by decide +kernel
theorem dL_runs_134 : decode cL_runs 134 = .ok (.istore 6, 2) := by decide +kernel
theorem dL_runs_136 : decode cL_runs 136 = .ok (.goto (-86), 3) := by decide +kernel
theorem dL_runs_139 : decode cL_runs 139 = .ok (.iload 6, 2) := by decide +kernel
theorem dL_runs_141 : decode cL_runs 141 = .ok (.aload_n 0, 1) := by decide +kernel
theorem dL_runs_142 : decode cL_runs 142 = .ok (.bipush 8, 2) := by decide +kernel
theorem dL_runs_144 : decode cL_runs 144 = .ok (.invokestatic 159, 3) := by decide +kernel
theorem dL_runs_147 : decode cL_runs 147 = .ok (.iload 5, 2) := by decide +kernel
theorem dL_runs_149 : decode cL_runs 149 = .ok (.iload 4, 2) := by decide +kernel
theorem dL_runs_151 : decode cL_runs 151 = .ok (.iadd, 1) := by decide +kernel
theorem dL_runs_152 : decode cL_runs 152 = .ok (.if_icmp .ne 37, 3) := by decide +kernel
theorem dL_runs_155 : decode cL_runs 155 = .ok (.iload 7, 2) := by decide +kernel
theorem dL_runs_157 : decode cL_runs 157 = .ok (.iload 4, 2) := by decide +kernel
theorem dL_runs_159 : decode cL_runs 159 = .ok (.if_icmp .eq 26, 3) := by decide +kernel
theorem dL_runs_162 : decode cL_runs 162 = .ok (.iload 7, 2) := by decide +kernel
theorem dL_runs_164 : decode cL_runs 164 = .ok (.iload 4, 2) := by decide +kernel
theorem dL_runs_166 : decode cL_runs 166 = .ok (.iconst 1, 1) := by decide +kernel
theorem dL_runs_167 : decode cL_runs 167 = .ok (.iadd, 1) := by decide +kernel
theorem dL_runs_168 : decode cL_runs 168 = .ok (.if_icmp .ne 21, 3) := by decide +kernel
theorem dL_runs_171 : decode cL_runs 171 = .ok (.aload_n 0, 1) := by decide +kernel
theorem dL_runs_172 : decode cL_runs 172 = .ok (.iconst 5, 1) := by decide +kernel
theorem dL_runs_173 : decode cL_runs 173 = .ok (.invokestatic 159, 3) := by decide +kernel
theorem dL_runs_176 : decode cL_runs 176 = .ok (.aload_n 0, 1) := by decide +kernel
theorem dL_runs_177 : decode cL_runs 177 = .ok (.bipush 6, 2) := by decide +kernel
theorem dL_runs_179 : decode cL_runs 179 = .ok (.invokestatic 159, 3) := by decide +kernel
theorem dL_runs_182 : decode cL_runs 182 = .ok (.if_icmp .ne 7, 3) := by decide +kernel
theorem dL_runs_185 : decode cL_runs 185 = .ok (.iconst 1, 1) := by decide +kernel
theorem dL_runs_186 : decode cL_runs 186 = .ok (.goto 4, 3) := by decide +kernel
theorem dL_runs_189 : decode cL_runs 189 = .ok (.iconst 0, 1) := by decide +kernel
theorem dL_runs_190 : decode cL_runs 190 = .ok (.iand, 1) := by decide +kernel
theorem dL_runs_191 : decode cL_runs 191 = .ok (.istore 6, 2) := by decide +kernel
theorem dL_runs_193 : decode cL_runs 193 = .ok (.iconst 0, 1) := by decide +kernel
theorem dL_runs_194 : decode cL_runs 194 = .ok (.istore 8, 2) := by decide +kernel
theorem dL_runs_196 : decode cL_runs 196 = .ok (.iload 8, 2) := by decide +kernel
theorem dL_runs_198 : decode cL_runs 198 = .ok (.iload 7, 2) := by decide +kernel
theorem dL_runs_200 : decode cL_runs 200 = .ok (.if_icmp .ge 32, 3) := by decide +kernel
theorem dL_runs_203 : decode cL_runs 203 = .ok (.iload 6, 2) := by decide +kernel
theorem dL_runs_205 : decode cL_runs 205 = .ok (.aload_n 0, 1) := by decide +kernel
theorem dL_runs_206 : decode cL_runs 206 = .ok (.bipush 13, 2) := by decide +kernel
theorem dL_runs_208 : decode cL_runs 208 = .ok (.iconst 0, 1) := by decide +kernel
theorem dL_runs_209 : decode cL_runs 209 = .ok (.iconst 0, 1) := by decide +kernel
theorem dL_runs_210 : decode cL_runs 210 = .ok (.iconst 0, 1) := by decide +kernel
theorem dL_runs_211 : decode cL_runs 211 = .ok (.iconst 0, 1) := by decide +kernel
theorem dL_runs_212 : decode cL_runs 212 = .ok (.invokestatic 153, 3) := by decide +kernel
theorem dL_runs_215 : decode cL_runs 215 = .ok (.ifCond .lt 7, 3) := by decide +kernel
theorem dL_runs_218 : decode cL_runs 218 = .ok (.iconst 1, 1) := by decide +kernel
theorem dL_runs_219 : decode cL_runs 219 = .ok (.goto 4, 3) := by decide +kernel
theorem dL_runs_222 : decode cL_runs 222 = .ok (.iconst 0, 1) := by decide +kernel
theorem dL_runs_223 : decode cL_runs 223 = .ok (.iand, 1) := by decide +kernel
theorem dL_runs_224 : decode cL_runs 224 = .ok (.istore 6, 2) := by decide +kernel
theorem dL_runs_226 : decode cL_runs 226 = .ok (.iinc 8 1, 3) := by decide +kernel
theorem dL_runs_229 : decode cL_runs 229 = .ok (.goto (-33), 3) := by decide +kernel
theorem dL_runs_232 : decode cL_runs 232 = .ok (.iload 6, 2) := by decide +kernel
theorem dL_runs_234 : decode cL_runs 234 = .ok (.ifCond .eq 16, 3) := by decide +kernel
theorem dL_runs_237 : decode cL_runs 237 = .ok (.aload_n 0, 1) := by decide +kernel
theorem dL_runs_238 : decode cL_runs 238 = .ok (.invokestatic 171, 3) := by decide +kernel
theorem dL_runs_241 : decode cL_runs 241 = .ok (.lload_n 2, 1) := by decide +kernel
theorem dL_runs_242 : decode cL_runs 242 = .ok (.lcmp, 1) := by decide +kernel
theorem dL_runs_243 : decode cL_runs 243 = .ok (.ifCond .ne 7, 3) := by decide +kernel
theorem dL_runs_246 : decode cL_runs 246 = .ok (.iconst 1, 1) := by decide +kernel
theorem dL_runs_247 : decode cL_runs 247 = .ok (.goto 4, 3) := by decide +kernel
theorem dL_runs_250 : decode cL_runs 250 = .ok (.iconst 0, 1) := by decide +kernel
theorem dL_runs_251 : decode cL_runs 251 = .ok (.ireturn, 1) := by decide +kernel
