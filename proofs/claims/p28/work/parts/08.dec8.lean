/-! decode rows -/
theorem dL_along_132 : decode cL_along 132 = .ok (.iload 6, 2) := by decide +kernel
theorem dL_along_134 : decode cL_along 134 = .ok (.ifCond .eq 100, 3) := by decide +kernel
theorem dL_along_137 : decode cL_along 137 = .ok (.aload_n 0, 1) := by decide +kernel
theorem dL_along_138 : decode cL_along 138 = .ok (.iload 5, 2) := by decide +kernel
theorem dL_along_140 : decode cL_along 140 = .ok (.iload 10, 2) := by decide +kernel
theorem dL_along_142 : decode cL_along 142 = .ok (.invokevirtual 96, 3) := by decide +kernel
theorem dL_along_145 : decode cL_along 145 = .ok (.istore 11, 2) := by decide +kernel
theorem dL_along_147 : decode cL_along 147 = .ok (.iload 11, 2) := by decide +kernel
theorem dL_along_149 : decode cL_along 149 = .ok (.iload 9, 2) := by decide +kernel
theorem dL_along_151 : decode cL_along 151 = .ok (.if_icmp .le 70, 3) := by decide +kernel
theorem dL_along_154 : decode cL_along 154 = .ok (.iload 11, 2) := by decide +kernel
theorem dL_along_156 : decode cL_along 156 = .ok (.iload 8, 2) := by decide +kernel
theorem dL_along_158 : decode cL_along 158 = .ok (.if_icmp .ge 63, 3) := by decide +kernel
theorem dL_along_161 : decode cL_along 161 = .ok (.aload_n 0, 1) := by decide +kernel
theorem dL_along_162 : decode cL_along 162 = .ok (.iload 5, 2) := by decide +kernel
theorem dL_along_164 : decode cL_along 164 = .ok (.invokevirtual 38, 3) := by decide +kernel
theorem dL_along_167 : decode cL_along 167 = .ok (.ifCond .ne 27, 3) := by decide +kernel
theorem dL_along_170 : decode cL_along 170 = .ok (.aload_n 0, 1) := by decide +kernel
theorem dL_along_171 : decode cL_along 171 = .ok (.iload 5, 2) := by decide +kernel
theorem dL_along_173 : decode cL_along 173 = .ok (.iload 10, 2) := by decide +kernel
theorem dL_along_175 : decode cL_along 175 = .ok (.invokevirtual 99, 3) := by decide +kernel
theorem dL_along_178 : decode cL_along 178 = .ok (.iconst (-1), 1) := by decide +kernel
theorem dL_along_179 : decode cL_along 179 = .ok (.if_icmp .ne 42, 3) := by decide +kernel
theorem dL_along_182 : decode cL_along 182 = .ok (.aload_n 0, 1) := by decide +kernel
theorem dL_along_183 : decode cL_along 183 = .ok (.iload 11, 2) := by decide +kernel
theorem dL_along_185 : decode cL_along 185 = .ok (.invokevirtual 78, 3) := by decide +kernel
theorem dL_along_188 : decode cL_along 188 = .ok (.ifCond .lt 33, 3) := by decide +kernel
theorem dL_along_191 : decode cL_along 191 = .ok (.goto 26, 3) := by decide +kernel
theorem dL_along_194 : decode cL_along 194 = .ok (.aload_n 0, 1) := by decide +kernel
theorem dL_along_195 : decode cL_along 195 = .ok (.aload_n 0, 1) := by decide +kernel
theorem dL_along_196 : decode cL_along 196 = .ok (.iload 5, 2) := by decide +kernel
theorem dL_along_198 : decode cL_along 198 = .ok (.iload 10, 2) := by decide +kernel
theorem dL_along_200 : decode cL_along 200 = .ok (.invokevirtual 99, 3) := by decide +kernel
theorem dL_along_203 : decode cL_along 203 = .ok (.invokestatic 84, 3) := by decide +kernel
theorem dL_along_206 : decode cL_along 206 = .ok (.aload_n 0, 1) := by decide +kernel
theorem dL_along_207 : decode cL_along 207 = .ok (.iload 5, 2) := by decide +kernel
theorem dL_along_209 : decode cL_along 209 = .ok (.invokevirtual 38, 3) := by decide +kernel
theorem dL_along_212 : decode cL_along 212 = .ok (.iconst 1, 1) := by decide +kernel
theorem dL_along_213 : decode cL_along 213 = .ok (.isub, 1) := by decide +kernel
theorem dL_along_214 : decode cL_along 214 = .ok (.if_icmp .ne 7, 3) := by decide +kernel
theorem dL_along_217 : decode cL_along 217 = .ok (.iconst 1, 1) := by decide +kernel
theorem dL_along_218 : decode cL_along 218 = .ok (.goto 4, 3) := by decide +kernel
theorem dL_along_221 : decode cL_along 221 = .ok (.iconst 0, 1) := by decide +kernel
theorem dL_along_222 : decode cL_along 222 = .ok (.istore 6, 2) := by decide +kernel
theorem dL_along_224 : decode cL_along 224 = .ok (.iload 11, 2) := by decide +kernel
theorem dL_along_226 : decode cL_along 226 = .ok (.istore 9, 2) := by decide +kernel
theorem dL_along_228 : decode cL_along 228 = .ok (.iinc 10 1, 3) := by decide +kernel
theorem dL_along_231 : decode cL_along 231 = .ok (.goto (-106), 3) := by decide +kernel
theorem dL_along_234 : decode cL_along 234 = .ok (.iinc 3 1, 3) := by decide +kernel
theorem dL_along_237 : decode cL_along 237 = .ok (.iload 4, 2) := by decide +kernel
theorem dL_along_239 : decode cL_along 239 = .ok (.iload 7, 2) := by decide +kernel
theorem dL_along_241 : decode cL_along 241 = .ok (.iadd, 1) := by decide +kernel
theorem dL_along_242 : decode cL_along 242 = .ok (.istore 4, 2) := by decide +kernel
theorem dL_along_244 : decode cL_along 244 = .ok (.iload 8, 2) := by decide +kernel
theorem dL_along_246 : decode cL_along 246 = .ok (.istore_n 2, 1) := by decide +kernel
theorem dL_along_247 : decode cL_along 247 = .ok (.aload_n 0, 1) := by decide +kernel
theorem dL_along_248 : decode cL_along 248 = .ok (.iload 5, 2) := by decide +kernel
theorem dL_along_250 : decode cL_along 250 = .ok (.invokevirtual 93, 3) := by decide +kernel
theorem dL_along_253 : decode cL_along 253 = .ok (.istore 5, 2) := by decide +kernel
theorem dL_along_255 : decode cL_along 255 = .ok (.iload 6, 2) := by decide +kernel
theorem dL_along_257 : decode cL_along 257 = .ok (.ifCond .eq 20, 3) := by decide +kernel
theorem dL_along_260 : decode cL_along 260 = .ok (.iload 5, 2) := by decide +kernel
theorem dL_along_262 : decode cL_along 262 = .ok (.ifCond .ge 11, 3) := by decide +kernel
theorem dL_along_265 : decode cL_along 265 = .ok (.iload 8, 2) := by decide +kernel
theorem dL_along_267 : decode cL_along 267 = .ok (.sipush 200, 3) := by decide +kernel
theorem dL_along_270 : decode cL_along 270 = .ok (.if_icmp .ne 7, 3) := by decide +kernel
theorem dL_along_273 : decode cL_along 273 = .ok (.iconst 1, 1) := by decide +kernel
theorem dL_along_274 : decode cL_along 274 = .ok (.goto 4, 3) := by decide +kernel
theorem dL_along_277 : decode cL_along 277 = .ok (.iconst 0, 1) := by decide +kernel
theorem dL_along_278 : decode cL_along 278 = .ok (.istore 6, 2) := by decide +kernel
theorem dL_along_280 : decode cL_along 280 = .ok (.goto (-267), 3) := by decide +kernel
theorem dL_along_283 : decode cL_along 283 = .ok (.iload 6, 2) := by decide +kernel
theorem dL_along_285 : decode cL_along 285 = .ok (.ifCond .eq 14, 3) := by decide +kernel
theorem dL_along_288 : decode cL_along 288 = .ok (.sipush 1000, 3) := by decide +kernel
theorem dL_along_291 : decode cL_along 291 = .ok (.iload 4, 2) := by decide +kernel
theorem dL_along_293 : decode cL_along 293 = .ok (.imul, 1) := by decide +kernel
theorem dL_along_294 : decode cL_along 294 = .ok (.iload_n 3, 1) := by decide +kernel
theorem dL_along_295 : decode cL_along 295 = .ok (.iadd, 1) := by decide +kernel
theorem dL_along_296 : decode cL_along 296 = .ok (.goto 4, 3) := by decide +kernel
theorem dL_along_299 : decode cL_along 299 = .ok (.iconst (-1), 1) := by decide +kernel
theorem dL_along_300 : decode cL_along 300 = .ok (.ireturn, 1) := by decide +kernel
theorem dL_areLevelsSo_0 : decode cL_areLevelsSo 0 = .ok (.aload_n 0, 1) := by decide +kernel
theorem dL_areLevelsSo_1 : decode cL_areLevelsSo 1 = .ok (.invokevirtual 72, 3) := by decide +kernel
theorem dL_areLevelsSo_4 : decode cL_areLevelsSo 4 = .ok (.istore_n 1, 1) := by decide +kernel
theorem dL_areLevelsSo_5 : decode cL_areLevelsSo 5 = .ok (.iconst 0, 1) := by decide +kernel
theorem dL_areLevelsSo_6 : decode cL_areLevelsSo 6 = .ok (.istore_n 2, 1) := by decide +kernel
theorem dL_areLevelsSo_7 : decode cL_areLevelsSo 7 = .ok (.iconst 0, 1) := by decide +kernel
theorem dL_areLevelsSo_8 : decode cL_areLevelsSo 8 = .ok (.istore_n 3, 1) := by decide +kernel
theorem dL_areLevelsSo_9 : decode cL_areLevelsSo 9 = .ok (.iconst 0, 1) := by decide +kernel
theorem dL_areLevelsSo_10 : decode cL_areLevelsSo 10 = .ok (.istore 4, 2) := by decide +kernel
theorem dL_areLevelsSo_12 : decode cL_areLevelsSo 12 = .ok (.aload_n 0, 1) := by decide +kernel
theorem dL_areLevelsSo_13 : decode cL_areLevelsSo 13 = .ok (.iload_n 1, 1) := by decide +kernel
theorem dL_areLevelsSo_14 : decode cL_areLevelsSo 14 = .ok (.invokevirtual 90, 3) := by decide +kernel
theorem dL_areLevelsSo_17 : decode cL_areLevelsSo 17 = .ok (.sipush 200, 3) := by decide +kernel
theorem dL_areLevelsSo_20 : decode cL_areLevelsSo 20 = .ok (.if_icmp .gt 7, 3) := by decide +kernel
theorem dL_areLevelsSo_23 : decode cL_areLevelsSo 23 = .ok (.iconst 1, 1) := by decide +kernel
theorem dL_areLevelsSo_24 : decode cL_areLevelsSo 24 = .ok (.goto 4, 3) := by decide +kernel
theorem dL_areLevelsSo_27 : decode cL_areLevelsSo 27 = .ok (.iconst 0, 1) := by decide +kernel
theorem dL_areLevelsSo_28 : decode cL_areLevelsSo 28 = .ok (.istore 5, 2) := by decide +kernel
theorem dL_areLevelsSo_30 : decode cL_areLevelsSo 30 = .ok (.aload_n 0, 1) := by decide +kernel
theorem dL_areLevelsSo_31 : decode cL_areLevelsSo 31 = .ok (.iload_n 1, 1) := by decide +kernel
theorem dL_areLevelsSo_32 : decode cL_areLevelsSo 32 = .ok (.invokevirtual 38, 3) := by decide +kernel
theorem dL_areLevelsSo_35 : decode cL_areLevelsSo 35 = .ok (.istore 6, 2) := by decide +kernel
theorem dL_areLevelsSo_37 : decode cL_areLevelsSo 37 = .ok (.iload 6, 2) := by decide +kernel
theorem dL_areLevelsSo_39 : decode cL_areLevelsSo 39 = .ok (.ifCond .lt 155, 3) := by decide +kernel
theorem dL_areLevelsSo_42 : decode cL_areLevelsSo 42 = .ok (.iload 5, 2) := by decide +kernel
theorem dL_areLevelsSo_44 : decode cL_areLevelsSo 44 = .ok (.ifCond .eq 150, 3) := by decide +kernel
theorem dL_areLevelsSo_47 : decode cL_areLevelsSo 47 = .ok (.aload_n 0, 1) := by decide +kernel
theorem dL_areLevelsSo_48 : decode cL_areLevelsSo 48 = .ok (.iload_n 1, 1) := by decide +kernel
theorem dL_areLevelsSo_49 : decode cL_areLevelsSo 49 = .ok (.invokestatic 102, 3) := by decide +kernel
theorem dL_areLevelsSo_52 : decode cL_areLevelsSo 52 = .ok (.istore 7, 2) := by decide +kernel
theorem dL_areLevelsSo_54 : decode cL_areLevelsSo 54 = .ok (.iload 7, 2) := by decide +kernel
theorem dL_areLevelsSo_56 : decode cL_areLevelsSo 56 = .ok (.ifCond .lt 17, 3) := by decide +kernel
theorem dL_areLevelsSo_59 : decode cL_areLevelsSo 59 = .ok (.aload_n 0, 1) := by decide +kernel
theorem dL_areLevelsSo_60 : decode cL_areLevelsSo 60 = .ok (.iload_n 1, 1) := by decide +kernel
theorem dL_areLevelsSo_61 : decode cL_areLevelsSo 61 = .ok (.invokevirtual 38, 3) := by decide +kernel
theorem dL_areLevelsSo_64 : decode cL_areLevelsSo 64 = .ok (.iload 6, 2) := by decide +kernel
theorem dL_areLevelsSo_66 : decode cL_areLevelsSo 66 = .ok (.if_icmp .ne 7, 3) := by decide +kernel
theorem dL_areLevelsSo_69 : decode cL_areLevelsSo 69 = .ok (.iconst 1, 1) := by decide +kernel
theorem dL_areLevelsSo_70 : decode cL_areLevelsSo 70 = .ok (.goto 4, 3) := by decide +kernel
theorem dL_areLevelsSo_73 : decode cL_areLevelsSo 73 = .ok (.iconst 0, 1) := by decide +kernel
theorem dL_areLevelsSo_74 : decode cL_areLevelsSo 74 = .ok (.istore 5, 2) := by decide +kernel
theorem dL_areLevelsSo_76 : decode cL_areLevelsSo 76 = .ok (.iload_n 2, 1) := by decide +kernel
theorem dL_areLevelsSo_77 : decode cL_areLevelsSo 77 = .ok (.iload 5, 2) := by decide +kernel
theorem dL_areLevelsSo_79 : decode cL_areLevelsSo 79 = .ok (.ifCond .eq 12, 3) := by decide +kernel
theorem dL_areLevelsSo_82 : decode cL_areLevelsSo 82 = .ok (.iload 7, 2) := by decide +kernel
theorem dL_areLevelsSo_84 : decode cL_areLevelsSo 84 = .ok (.sipush 1000, 3) := by decide +kernel
theorem dL_areLevelsSo_87 : decode cL_areLevelsSo 87 = .ok (.irem, 1) := by decide +kernel
theorem dL_areLevelsSo_88 : decode cL_areLevelsSo 88 = .ok (.goto 4, 3) := by decide +kernel
theorem dL_areLevelsSo_91 : decode cL_areLevelsSo 91 = .ok (.iconst 0, 1) := by decide +kernel
theorem dL_areLevelsSo_92 : decode cL_areLevelsSo 92 = .ok (.iadd, 1) := by decide +kernel
theorem dL_areLevelsSo_93 : decode cL_areLevelsSo 93 = .ok (.istore_n 2, 1) := by decide +kernel
theorem dL_areLevelsSo_94 : decode cL_areLevelsSo 94 = .ok (.iload_n 3, 1) := by decide +kernel
theorem dL_areLevelsSo_95 : decode cL_areLevelsSo 95 = .ok (.iload 5, 2) := by decide +kernel
theorem dL_areLevelsSo_97 : decode cL_areLevelsSo 97 = .ok (.ifCond .eq 17, 3) := by decide +kernel
theorem dL_areLevelsSo_100 : decode cL_areLevelsSo 100 = .ok (.iload 6, 2) := by decide +kernel
theorem dL_areLevelsSo_102 : decode cL_areLevelsSo 102 = .ok (.ifCond .le 12, 3) := by decide +kernel
theorem dL_areLevelsSo_105 : decode cL_areLevelsSo 105 = .ok (.iload 7, 2) := by decide +kernel
theorem dL_areLevelsSo_107 : decode cL_areLevelsSo 107 = .ok (.sipush 1000, 3) := by decide +kernel
theorem dL_areLevelsSo_110 : decode cL_areLevelsSo 110 = .ok (.idiv, 1) := by decide +kernel
theorem dL_areLevelsSo_111 : decode cL_areLevelsSo 111 = .ok (.goto 4, 3) := by decide +kernel
theorem dL_areLevelsSo_114 : decode cL_areLevelsSo 114 = .ok (.iconst 0, 1) := by decide +kernel
theorem dL_areLevelsSo_115 : decode cL_areLevelsSo 115 = .ok (.iadd, 1) := by decide +kernel
theorem dL_areLevelsSo_116 : decode cL_areLevelsSo 116 = .ok (.istore_n 3, 1) := by decide +kernel
theorem dL_areLevelsSo_117 : decode cL_areLevelsSo 117 = .ok (.iload 4, 2) := by decide +kernel
theorem dL_areLevelsSo_119 : decode cL_areLevelsSo 119 = .ok (.iload 5, 2) := by decide +kernel
theorem dL_areLevelsSo_121 : decode cL_areLevelsSo 121 = .ok (.ifCond .eq 12, 3) := by decide +kernel
theorem dL_areLevelsSo_124 : decode cL_areLevelsSo 124 = .ok (.iload 7, 2) := by decide +kernel
theorem dL_areLevelsSo_126 : decode cL_areLevelsSo 126 = .ok (.sipush 1000, 3) := by decide +kernel
theorem dL_areLevelsSo_129 : decode cL_areLevelsSo 129 = .ok (.irem, 1) := by decide +kernel
theorem dL_areLevelsSo_130 : decode cL_areLevelsSo 130 = .ok (.goto 4, 3) := by decide +kernel
theorem dL_areLevelsSo_133 : decode cL_areLevelsSo 133 = .ok (.iconst 0, 1) := by decide +kernel
theorem dL_areLevelsSo_134 : decode cL_areLevelsSo 134 = .ok (.iadd, 1) := by decide +kernel
theorem dL_areLevelsSo_135 : decode cL_areLevelsSo 135 = .ok (.istore 4, 2) := by decide +kernel
theorem dL_areLevelsSo_137 : decode cL_areLevelsSo 137 = .ok (.iload 5, 2) := by decide +kernel
theorem dL_areLevelsSo_139 : decode cL_areLevelsSo 139 = .ok (.ifCond .eq 25, 3) := by decide +kernel
theorem dL_areLevelsSo_142 : decode cL_areLevelsSo 142 = .ok (.iload 6, 2) := by decide +kernel
theorem dL_areLevelsSo_144 : decode cL_areLevelsSo 144 = .ok (.ifCond .gt 16, 3) := by decide +kernel
theorem dL_areLevelsSo_147 : decode cL_areLevelsSo 147 = .ok (.iload 7, 2) := by decide +kernel
theorem dL_areLevelsSo_149 : decode cL_areLevelsSo 149 = .ok (.sipush 1000, 3) := by decide +kernel
theorem dL_areLevelsSo_152 : decode cL_areLevelsSo 152 = .ok (.idiv, 1) := by decide +kernel
theorem dL_areLevelsSo_153 : decode cL_areLevelsSo 153 = .ok (.aload_n 0, 1) := by decide +kernel
theorem dL_areLevelsSo_154 : decode cL_areLevelsSo 154 = .ok (.invokevirtual 60, 3) := by decide +kernel
theorem dL_areLevelsSo_157 : decode cL_areLevelsSo 157 = .ok (.if_icmp .ne 7, 3) := by decide +kernel
theorem dL_areLevelsSo_160 : decode cL_areLevelsSo 160 = .ok (.iconst 1, 1) := by decide +kernel
theorem dL_areLevelsSo_161 : decode cL_areLevelsSo 161 = .ok (.goto 4, 3) := by decide +kernel
theorem dL_areLevelsSo_164 : decode cL_areLevelsSo 164 = .ok (.iconst 0, 1) := by decide +kernel
theorem dL_areLevelsSo_165 : decode cL_areLevelsSo 165 = .ok (.istore 5, 2) := by decide +kernel
theorem dL_areLevelsSo_167 : decode cL_areLevelsSo 167 = .ok (.iload 6, 2) := by decide +kernel
theorem dL_areLevelsSo_169 : decode cL_areLevelsSo 169 = .ok (.ifCond .le 17, 3) := by decide +kernel
theorem dL_areLevelsSo_172 : decode cL_areLevelsSo 172 = .ok (.iload 5, 2) := by decide +kernel
theorem dL_areLevelsSo_174 : decode cL_areLevelsSo 174 = .ok (.ifCond .eq 12, 3) := by decide +kernel
theorem dL_areLevelsSo_177 : decode cL_areLevelsSo 177 = .ok (.aload_n 0, 1) := by decide +kernel
theorem dL_areLevelsSo_178 : decode cL_areLevelsSo 178 = .ok (.iload_n 1, 1) := by decide +kernel
theorem dL_areLevelsSo_179 : decode cL_areLevelsSo 179 = .ok (.iconst 0, 1) := by decide +kernel
theorem dL_areLevelsSo_180 : decode cL_areLevelsSo 180 = .ok (.invokevirtual 99, 3) := by decide +kernel
theorem dL_areLevelsSo_183 : decode cL_areLevelsSo 183 = .ok (.goto 4, 3) := by decide +kernel
theorem dL_areLevelsSo_186 : decode cL_areLevelsSo 186 = .ok (.iload_n 1, 1) := by decide +kernel
theorem dL_areLevelsSo_187 : decode cL_areLevelsSo 187 = .ok (.istore_n 1, 1) := by decide +kernel
theorem dL_areLevelsSo_188 : decode cL_areLevelsSo 188 = .ok (.iinc 6 (-1), 3) := by decide +kernel
theorem dL_areLevelsSo_191 : decode cL_areLevelsSo 191 = .ok (.goto (-154), 3) := by decide +kernel
theorem dL_areLevelsSo_194 : decode cL_areLevelsSo 194 = .ok (.iload 5, 2) := by decide +kernel
theorem dL_areLevelsSo_196 : decode cL_areLevelsSo 196 = .ok (.ifCond .eq 33, 3) := by decide +kernel
theorem dL_areLevelsSo_199 : decode cL_areLevelsSo 199 = .ok (.iload_n 2, 1) := by decide +kernel
theorem dL_areLevelsSo_200 : decode cL_areLevelsSo 200 = .ok (.aload_n 0, 1) := by decide +kernel
theorem dL_areLevelsSo_201 : decode cL_areLevelsSo 201 = .ok (.invokevirtual 63, 3) := by decide +kernel
theorem dL_areLevelsSo_204 : decode cL_areLevelsSo 204 = .ok (.aload_n 0, 1) := by decide +kernel
theorem dL_areLevelsSo_205 : decode cL_areLevelsSo 205 = .ok (.invokevirtual 66, 3) := by decide +kernel
theorem dL_areLevelsSo_208 : decode cL_areLevelsSo 208 = .ok (.isub, 1) := by decide +kernel
theorem dL_areLevelsSo_209 : decode cL_areLevelsSo 209 = .ok (.if_icmp .ne 20, 3) := by decide +kernel
theorem dL_areLevelsSo_212 : decode cL_areLevelsSo 212 = .ok (.iload 4, 2) := by decide +kernel
theorem dL_areLevelsSo_214 : decode cL_areLevelsSo 214 = .ok (.iload_n 3, 1) := by decide +kernel
theorem dL_areLevelsSo_215 : decode cL_areLevelsSo 215 = .ok (.isub, 1) := by decide +kernel
theorem dL_areLevelsSo_216 : decode cL_areLevelsSo 216 = .ok (.iconst 1, 1) := by decide +kernel
theorem dL_areLevelsSo_217 : decode cL_areLevelsSo 217 = .ok (.isub, 1) := by decide +kernel
theorem dL_areLevelsSo_218 : decode cL_areLevelsSo 218 = .ok (.aload_n 0, 1) := by decide +kernel
theorem dL_areLevelsSo_219 : decode cL_areLevelsSo 219 = .ok (.invokevirtual 75, 3) := by decide +kernel
theorem dL_areLevelsSo_222 : decode cL_areLevelsSo 222 = .ok (.if_icmp .ne 7, 3) := by decide +kernel
theorem dL_areLevelsSo_225 : decode cL_areLevelsSo 225 = .ok (.iconst 1, 1) := by decide +kernel
theorem dL_areLevelsSo_226 : decode cL_areLevelsSo 226 = .ok (.goto 4, 3) := by decide +kernel
theorem dL_areLevelsSo_229 : decode cL_areLevelsSo 229 = .ok (.iconst 0, 1) := by decide +kernel
theorem dL_areLevelsSo_230 : decode cL_areLevelsSo 230 = .ok (.ireturn, 1) := by decide +kernel
theorem dL_isPutSo_0 : decode cL_isPutSo 0 = .ok (.aload_n 0, 1) := by decide +kernel
theorem dL_isPutSo_1 : decode cL_isPutSo 1 = .ok (.invokevirtual 60, 3) := by decide +kernel
theorem dL_isPutSo_4 : decode cL_isPutSo 4 = .ok (.istore 4, 2) := by decide +kernel
theorem dL_isPutSo_6 : decode cL_isPutSo 6 = .ok (.aload_n 0, 1) := by decide +kernel
theorem dL_isPutSo_7 : decode cL_isPutSo 7 = .ok (.iload_n 2, 1) := by decide +kernel
theorem dL_isPutSo_8 : decode cL_isPutSo 8 = .ok (.invokevirtual 78, 3) := by decide +kernel
theorem dL_isPutSo_11 : decode cL_isPutSo 11 = .ok (.istore 5, 2) := by decide +kernel
theorem dL_isPutSo_13 : decode cL_isPutSo 13 = .ok (.aload_n 0, 1) := by decide +kernel
theorem dL_isPutSo_14 : decode cL_isPutSo 14 = .ok (.iload_n 2, 1) := by decide +kernel
theorem dL_isPutSo_15 : decode cL_isPutSo 15 = .ok (.iload_n 3, 1) := by decide +kernel
theorem dL_isPutSo_16 : decode cL_isPutSo 16 = .ok (.invokevirtual 8, 3) := by decide +kernel
theorem dL_isPutSo_19 : decode cL_isPutSo 19 = .ok (.iload 5, 2) := by decide +kernel
theorem dL_isPutSo_21 : decode cL_isPutSo 21 = .ok (.if_icmp .ne 56, 3) := by decide +kernel
