/-! decode rows -/
theorem dL_act_255 : decode cL_act 255 = .ok (.bipush 9, 2) := by decide +kernel
theorem dL_act_257 : decode cL_act 257 = .ok (.ishr, 1) := by decide +kernel
theorem dL_act_258 : decode cL_act 258 = .ok (.iconst 1, 1) := by decide +kernel
theorem dL_act_259 : decode cL_act 259 = .ok (.iand, 1) := by decide +kernel
theorem dL_act_260 : decode cL_act 260 = .ok (.ifCond .ne 20, 3) := by decide +kernel
theorem dL_act_263 : decode cL_act 263 = .ok (.aload_n 0, 1) := by decide +kernel
theorem dL_act_264 : decode cL_act 264 = .ok (.iconst 5, 1) := by decide +kernel
theorem dL_act_265 : decode cL_act 265 = .ok (.iload_n 1, 1) := by decide +kernel
theorem dL_act_266 : decode cL_act 266 = .ok (.iconst 5, 1) := by decide +kernel
theorem dL_act_267 : decode cL_act 267 = .ok (.ishr, 1) := by decide +kernel
theorem dL_act_268 : decode cL_act 268 = .ok (.bipush 8, 2) := by decide +kernel
theorem dL_act_270 : decode cL_act 270 = .ok (.invokestatic 41, 3) := by decide +kernel
theorem dL_act_273 : decode cL_act 273 = .ok (.iconst 0, 1) := by decide +kernel
theorem dL_act_274 : decode cL_act 274 = .ok (.invokestatic 46, 3) := by decide +kernel
theorem dL_act_277 : decode cL_act 277 = .ok (.goto 26, 3) := by decide +kernel
theorem dL_act_280 : decode cL_act 280 = .ok (.aload_n 0, 1) := by decide +kernel
theorem dL_act_281 : decode cL_act 281 = .ok (.iconst 4, 1) := by decide +kernel
theorem dL_act_282 : decode cL_act 282 = .ok (.iload_n 1, 1) := by decide +kernel
theorem dL_act_283 : decode cL_act 283 = .ok (.iconst 5, 1) := by decide +kernel
theorem dL_act_284 : decode cL_act 284 = .ok (.ishr, 1) := by decide +kernel
theorem dL_act_285 : decode cL_act 285 = .ok (.iload_n 2, 1) := by decide +kernel
theorem dL_act_286 : decode cL_act 286 = .ok (.ifCond .eq 8, 3) := by decide +kernel
theorem dL_act_289 : decode cL_act 289 = .ok (.bipush 30, 2) := by decide +kernel
theorem dL_act_291 : decode cL_act 291 = .ok (.goto 5, 3) := by decide +kernel
theorem dL_act_294 : decode cL_act 294 = .ok (.bipush 6, 2) := by decide +kernel
theorem dL_act_296 : decode cL_act 296 = .ok (.invokestatic 41, 3) := by decide +kernel
theorem dL_act_299 : decode cL_act 299 = .ok (.iconst 0, 1) := by decide +kernel
theorem dL_act_300 : decode cL_act 300 = .ok (.invokestatic 46, 3) := by decide +kernel
theorem dL_act_303 : decode cL_act 303 = .ok (.ireturn, 1) := by decide +kernel
theorem dL_areAlike_0 : decode cL_areAlike 0 = .ok (.aload_n 0, 1) := by decide +kernel
theorem dL_areAlike_1 : decode cL_areAlike 1 = .ok (.invokevirtual 60, 3) := by decide +kernel
theorem dL_areAlike_4 : decode cL_areAlike 4 = .ok (.aload_n 1, 1) := by decide +kernel
theorem dL_areAlike_5 : decode cL_areAlike 5 = .ok (.invokevirtual 60, 3) := by decide +kernel
theorem dL_areAlike_8 : decode cL_areAlike 8 = .ok (.if_icmp .ne 62, 3) := by decide +kernel
theorem dL_areAlike_11 : decode cL_areAlike 11 = .ok (.aload_n 0, 1) := by decide +kernel
theorem dL_areAlike_12 : decode cL_areAlike 12 = .ok (.invokevirtual 63, 3) := by decide +kernel
theorem dL_areAlike_15 : decode cL_areAlike 15 = .ok (.aload_n 1, 1) := by decide +kernel
theorem dL_areAlike_16 : decode cL_areAlike 16 = .ok (.invokevirtual 63, 3) := by decide +kernel
theorem dL_areAlike_19 : decode cL_areAlike 19 = .ok (.if_icmp .ne 51, 3) := by decide +kernel
theorem dL_areAlike_22 : decode cL_areAlike 22 = .ok (.aload_n 0, 1) := by decide +kernel
theorem dL_areAlike_23 : decode cL_areAlike 23 = .ok (.invokevirtual 66, 3) := by decide +kernel
theorem dL_areAlike_26 : decode cL_areAlike 26 = .ok (.aload_n 1, 1) := by decide +kernel
theorem dL_areAlike_27 : decode cL_areAlike 27 = .ok (.invokevirtual 66, 3) := by decide +kernel
theorem dL_areAlike_30 : decode cL_areAlike 30 = .ok (.if_icmp .ne 40, 3) := by decide +kernel
theorem dL_areAlike_33 : decode cL_areAlike 33 = .ok (.aload_n 0, 1) := by decide +kernel
theorem dL_areAlike_34 : decode cL_areAlike 34 = .ok (.invokevirtual 69, 3) := by decide +kernel
theorem dL_areAlike_37 : decode cL_areAlike 37 = .ok (.aload_n 1, 1) := by decide +kernel
theorem dL_areAlike_38 : decode cL_areAlike 38 = .ok (.invokevirtual 69, 3) := by decide +kernel
theorem dL_areAlike_41 : decode cL_areAlike 41 = .ok (.if_icmp .ne 29, 3) := by decide +kernel
theorem dL_areAlike_44 : decode cL_areAlike 44 = .ok (.aload_n 0, 1) := by decide +kernel
theorem dL_areAlike_45 : decode cL_areAlike 45 = .ok (.invokevirtual 72, 3) := by decide +kernel
theorem dL_areAlike_48 : decode cL_areAlike 48 = .ok (.aload_n 1, 1) := by decide +kernel
theorem dL_areAlike_49 : decode cL_areAlike 49 = .ok (.invokevirtual 72, 3) := by decide +kernel
theorem dL_areAlike_52 : decode cL_areAlike 52 = .ok (.if_icmp .ne 18, 3) := by decide +kernel
theorem dL_areAlike_55 : decode cL_areAlike 55 = .ok (.aload_n 0, 1) := by decide +kernel
theorem dL_areAlike_56 : decode cL_areAlike 56 = .ok (.invokevirtual 75, 3) := by decide +kernel
theorem dL_areAlike_59 : decode cL_areAlike 59 = .ok (.aload_n 1, 1) := by decide +kernel
theorem dL_areAlike_60 : decode cL_areAlike 60 = .ok (.invokevirtual 75, 3) := by decide +kernel
theorem dL_areAlike_63 : decode cL_areAlike 63 = .ok (.if_icmp .ne 7, 3) := by decide +kernel
theorem dL_areAlike_66 : decode cL_areAlike 66 = .ok (.iconst 1, 1) := by decide +kernel
theorem dL_areAlike_67 : decode cL_areAlike 67 = .ok (.goto 4, 3) := by decide +kernel
theorem dL_areAlike_70 : decode cL_areAlike 70 = .ok (.iconst 0, 1) := by decide +kernel
theorem dL_areAlike_71 : decode cL_areAlike 71 = .ok (.istore_n 2, 1) := by decide +kernel
theorem dL_areAlike_72 : decode cL_areAlike 72 = .ok (.iconst 0, 1) := by decide +kernel
theorem dL_areAlike_73 : decode cL_areAlike 73 = .ok (.istore_n 3, 1) := by decide +kernel
theorem dL_areAlike_74 : decode cL_areAlike 74 = .ok (.iload_n 3, 1) := by decide +kernel
theorem dL_areAlike_75 : decode cL_areAlike 75 = .ok (.sipush 200, 3) := by decide +kernel
theorem dL_areAlike_78 : decode cL_areAlike 78 = .ok (.if_icmp .ge 45, 3) := by decide +kernel
theorem dL_areAlike_81 : decode cL_areAlike 81 = .ok (.iload_n 2, 1) := by decide +kernel
theorem dL_areAlike_82 : decode cL_areAlike 82 = .ok (.ifCond .eq 41, 3) := by decide +kernel
theorem dL_areAlike_85 : decode cL_areAlike 85 = .ok (.aload_n 0, 1) := by decide +kernel
theorem dL_areAlike_86 : decode cL_areAlike 86 = .ok (.iload_n 3, 1) := by decide +kernel
theorem dL_areAlike_87 : decode cL_areAlike 87 = .ok (.invokevirtual 78, 3) := by decide +kernel
theorem dL_areAlike_90 : decode cL_areAlike 90 = .ok (.aload_n 1, 1) := by decide +kernel
theorem dL_areAlike_91 : decode cL_areAlike 91 = .ok (.iload_n 3, 1) := by decide +kernel
theorem dL_areAlike_92 : decode cL_areAlike 92 = .ok (.invokevirtual 78, 3) := by decide +kernel
theorem dL_areAlike_95 : decode cL_areAlike 95 = .ok (.if_icmp .ne 20, 3) := by decide +kernel
theorem dL_areAlike_98 : decode cL_areAlike 98 = .ok (.aload_n 0, 1) := by decide +kernel
theorem dL_areAlike_99 : decode cL_areAlike 99 = .ok (.iload_n 3, 1) := by decide +kernel
theorem dL_areAlike_100 : decode cL_areAlike 100 = .ok (.invokevirtual 81, 3) := by decide +kernel
theorem dL_areAlike_103 : decode cL_areAlike 103 = .ok (.aload_n 1, 1) := by decide +kernel
theorem dL_areAlike_104 : decode cL_areAlike 104 = .ok (.iload_n 3, 1) := by decide +kernel
theorem dL_areAlike_105 : decode cL_areAlike 105 = .ok (.invokevirtual 81, 3) := by decide +kernel
theorem dL_areAlike_108 : decode cL_areAlike 108 = .ok (.if_icmp .ne 7, 3) := by decide +kernel
theorem dL_areAlike_111 : decode cL_areAlike 111 = .ok (.iconst 1, 1) := by decide +kernel
theorem dL_areAlike_112 : decode cL_areAlike 112 = .ok (.goto 4, 3) := by decide +kernel
theorem dL_areAlike_115 : decode cL_areAlike 115 = .ok (.iconst 0, 1) := by decide +kernel
theorem dL_areAlike_116 : decode cL_areAlike 116 = .ok (.istore_n 2, 1) := by decide +kernel
theorem dL_areAlike_117 : decode cL_areAlike 117 = .ok (.iinc 3 7, 3) := by decide +kernel
theorem dL_areAlike_120 : decode cL_areAlike 120 = .ok (.goto (-46), 3) := by decide +kernel
theorem dL_areAlike_123 : decode cL_areAlike 123 = .ok (.iconst 0, 1) := by decide +kernel
theorem dL_areAlike_124 : decode cL_areAlike 124 = .ok (.istore_n 3, 1) := by decide +kernel
theorem dL_areAlike_125 : decode cL_areAlike 125 = .ok (.iload_n 3, 1) := by decide +kernel
theorem dL_areAlike_126 : decode cL_areAlike 126 = .ok (.bipush 20, 2) := by decide +kernel
theorem dL_areAlike_128 : decode cL_areAlike 128 = .ok (.if_icmp .ge 94, 3) := by decide +kernel
theorem dL_areAlike_131 : decode cL_areAlike 131 = .ok (.iload_n 2, 1) := by decide +kernel
theorem dL_areAlike_132 : decode cL_areAlike 132 = .ok (.ifCond .eq 90, 3) := by decide +kernel
theorem dL_areAlike_135 : decode cL_areAlike 135 = .ok (.aload_n 0, 1) := by decide +kernel
theorem dL_areAlike_136 : decode cL_areAlike 136 = .ok (.iload_n 3, 1) := by decide +kernel
theorem dL_areAlike_137 : decode cL_areAlike 137 = .ok (.invokestatic 84, 3) := by decide +kernel
theorem dL_areAlike_140 : decode cL_areAlike 140 = .ok (.aload_n 1, 1) := by decide +kernel
theorem dL_areAlike_141 : decode cL_areAlike 141 = .ok (.iload_n 3, 1) := by decide +kernel
theorem dL_areAlike_142 : decode cL_areAlike 142 = .ok (.invokestatic 84, 3) := by decide +kernel
theorem dL_areAlike_145 : decode cL_areAlike 145 = .ok (.if_icmp .ne 69, 3) := by decide +kernel
theorem dL_areAlike_148 : decode cL_areAlike 148 = .ok (.aload_n 0, 1) := by decide +kernel
theorem dL_areAlike_149 : decode cL_areAlike 149 = .ok (.iload_n 3, 1) := by decide +kernel
theorem dL_areAlike_150 : decode cL_areAlike 150 = .ok (.invokestatic 84, 3) := by decide +kernel
theorem dL_areAlike_153 : decode cL_areAlike 153 = .ok (.ifCond .lt 57, 3) := by decide +kernel
theorem dL_areAlike_156 : decode cL_areAlike 156 = .ok (.aload_n 0, 1) := by decide +kernel
theorem dL_areAlike_157 : decode cL_areAlike 157 = .ok (.iload_n 3, 1) := by decide +kernel
theorem dL_areAlike_158 : decode cL_areAlike 158 = .ok (.invokevirtual 87, 3) := by decide +kernel
theorem dL_areAlike_161 : decode cL_areAlike 161 = .ok (.aload_n 1, 1) := by decide +kernel
theorem dL_areAlike_162 : decode cL_areAlike 162 = .ok (.iload_n 3, 1) := by decide +kernel
theorem dL_areAlike_163 : decode cL_areAlike 163 = .ok (.invokevirtual 87, 3) := by decide +kernel
theorem dL_areAlike_166 : decode cL_areAlike 166 = .ok (.if_icmp .ne 48, 3) := by decide +kernel
theorem dL_areAlike_169 : decode cL_areAlike 169 = .ok (.aload_n 0, 1) := by decide +kernel
theorem dL_areAlike_170 : decode cL_areAlike 170 = .ok (.iload_n 3, 1) := by decide +kernel
theorem dL_areAlike_171 : decode cL_areAlike 171 = .ok (.invokevirtual 90, 3) := by decide +kernel
theorem dL_areAlike_174 : decode cL_areAlike 174 = .ok (.aload_n 1, 1) := by decide +kernel
theorem dL_areAlike_175 : decode cL_areAlike 175 = .ok (.iload_n 3, 1) := by decide +kernel
theorem dL_areAlike_176 : decode cL_areAlike 176 = .ok (.invokevirtual 90, 3) := by decide +kernel
theorem dL_areAlike_179 : decode cL_areAlike 179 = .ok (.if_icmp .ne 35, 3) := by decide +kernel
theorem dL_areAlike_182 : decode cL_areAlike 182 = .ok (.aload_n 0, 1) := by decide +kernel
theorem dL_areAlike_183 : decode cL_areAlike 183 = .ok (.iload_n 3, 1) := by decide +kernel
theorem dL_areAlike_184 : decode cL_areAlike 184 = .ok (.invokevirtual 93, 3) := by decide +kernel
theorem dL_areAlike_187 : decode cL_areAlike 187 = .ok (.aload_n 1, 1) := by decide +kernel
theorem dL_areAlike_188 : decode cL_areAlike 188 = .ok (.iload_n 3, 1) := by decide +kernel
theorem dL_areAlike_189 : decode cL_areAlike 189 = .ok (.invokevirtual 93, 3) := by decide +kernel
theorem dL_areAlike_192 : decode cL_areAlike 192 = .ok (.if_icmp .ne 22, 3) := by decide +kernel
theorem dL_areAlike_195 : decode cL_areAlike 195 = .ok (.aload_n 0, 1) := by decide +kernel
theorem dL_areAlike_196 : decode cL_areAlike 196 = .ok (.iload_n 3, 1) := by decide +kernel
theorem dL_areAlike_197 : decode cL_areAlike 197 = .ok (.iconst 0, 1) := by decide +kernel
theorem dL_areAlike_198 : decode cL_areAlike 198 = .ok (.invokevirtual 96, 3) := by decide +kernel
theorem dL_areAlike_201 : decode cL_areAlike 201 = .ok (.aload_n 1, 1) := by decide +kernel
theorem dL_areAlike_202 : decode cL_areAlike 202 = .ok (.iload_n 3, 1) := by decide +kernel
theorem dL_areAlike_203 : decode cL_areAlike 203 = .ok (.iconst 0, 1) := by decide +kernel
theorem dL_areAlike_204 : decode cL_areAlike 204 = .ok (.invokevirtual 96, 3) := by decide +kernel
theorem dL_areAlike_207 : decode cL_areAlike 207 = .ok (.if_icmp .ne 7, 3) := by decide +kernel
theorem dL_areAlike_210 : decode cL_areAlike 210 = .ok (.iconst 1, 1) := by decide +kernel
theorem dL_areAlike_211 : decode cL_areAlike 211 = .ok (.goto 4, 3) := by decide +kernel
theorem dL_areAlike_214 : decode cL_areAlike 214 = .ok (.iconst 0, 1) := by decide +kernel
theorem dL_areAlike_215 : decode cL_areAlike 215 = .ok (.istore_n 2, 1) := by decide +kernel
theorem dL_areAlike_216 : decode cL_areAlike 216 = .ok (.iinc 3 1, 3) := by decide +kernel
theorem dL_areAlike_219 : decode cL_areAlike 219 = .ok (.goto (-94), 3) := by decide +kernel
theorem dL_areAlike_222 : decode cL_areAlike 222 = .ok (.iload_n 2, 1) := by decide +kernel
theorem dL_areAlike_223 : decode cL_areAlike 223 = .ok (.ireturn, 1) := by decide +kernel
theorem dL_along_0 : decode cL_along 0 = .ok (.iconst 0, 1) := by decide +kernel
theorem dL_along_1 : decode cL_along 1 = .ok (.istore_n 2, 1) := by decide +kernel
theorem dL_along_2 : decode cL_along 2 = .ok (.iconst 0, 1) := by decide +kernel
theorem dL_along_3 : decode cL_along 3 = .ok (.istore_n 3, 1) := by decide +kernel
theorem dL_along_4 : decode cL_along 4 = .ok (.iconst 0, 1) := by decide +kernel
theorem dL_along_5 : decode cL_along 5 = .ok (.istore 4, 2) := by decide +kernel
theorem dL_along_7 : decode cL_along 7 = .ok (.iload_n 1, 1) := by decide +kernel
theorem dL_along_8 : decode cL_along 8 = .ok (.istore 5, 2) := by decide +kernel
theorem dL_along_10 : decode cL_along 10 = .ok (.iconst 1, 1) := by decide +kernel
theorem dL_along_11 : decode cL_along 11 = .ok (.istore 6, 2) := by decide +kernel
theorem dL_along_13 : decode cL_along 13 = .ok (.iload 5, 2) := by decide +kernel
theorem dL_along_15 : decode cL_along 15 = .ok (.ifCond .lt 268, 3) := by decide +kernel
theorem dL_along_18 : decode cL_along 18 = .ok (.iload 6, 2) := by decide +kernel
theorem dL_along_20 : decode cL_along 20 = .ok (.ifCond .eq 263, 3) := by decide +kernel
theorem dL_along_23 : decode cL_along 23 = .ok (.aload_n 0, 1) := by decide +kernel
theorem dL_along_24 : decode cL_along 24 = .ok (.iload 5, 2) := by decide +kernel
theorem dL_along_26 : decode cL_along 26 = .ok (.invokevirtual 87, 3) := by decide +kernel
theorem dL_along_29 : decode cL_along 29 = .ok (.istore 7, 2) := by decide +kernel
theorem dL_along_31 : decode cL_along 31 = .ok (.aload_n 0, 1) := by decide +kernel
theorem dL_along_32 : decode cL_along 32 = .ok (.iload 5, 2) := by decide +kernel
theorem dL_along_34 : decode cL_along 34 = .ok (.invokevirtual 90, 3) := by decide +kernel
theorem dL_along_37 : decode cL_along 37 = .ok (.istore 8, 2) := by decide +kernel
theorem dL_along_39 : decode cL_along 39 = .ok (.iload_n 2, 1) := by decide +kernel
theorem dL_along_40 : decode cL_along 40 = .ok (.iconst 1, 1) := by decide +kernel
theorem dL_along_41 : decode cL_along 41 = .ok (.isub, 1) := by decide +kernel
theorem dL_along_42 : decode cL_along 42 = .ok (.istore 9, 2) := by decide +kernel
theorem dL_along_44 : decode cL_along 44 = .ok (.iload 8, 2) := by decide +kernel
theorem dL_along_46 : decode cL_along 46 = .ok (.iload_n 2, 1) := by decide +kernel
theorem dL_along_47 : decode cL_along 47 = .ok (.if_icmp .le 72, 3) := by decide +kernel
theorem dL_along_50 : decode cL_along 50 = .ok (.iload 8, 2) := by decide +kernel
theorem dL_along_52 : decode cL_along 52 = .ok (.sipush 200, 3) := by decide +kernel
theorem dL_along_55 : decode cL_along 55 = .ok (.if_icmp .gt 64, 3) := by decide +kernel
theorem dL_along_58 : decode cL_along 58 = .ok (.iload 7, 2) := by decide +kernel
theorem dL_along_60 : decode cL_along 60 = .ok (.iconst 4, 1) := by decide +kernel
theorem dL_along_61 : decode cL_along 61 = .ok (.if_icmp .gt 58, 3) := by decide +kernel
theorem dL_along_64 : decode cL_along 64 = .ok (.aload_n 0, 1) := by decide +kernel
theorem dL_along_65 : decode cL_along 65 = .ok (.iload 5, 2) := by decide +kernel
theorem dL_along_67 : decode cL_along 67 = .ok (.invokevirtual 38, 3) := by decide +kernel
theorem dL_along_70 : decode cL_along 70 = .ok (.aload_n 0, 1) := by decide +kernel
theorem dL_along_71 : decode cL_along 71 = .ok (.iload_n 1, 1) := by decide +kernel
theorem dL_along_72 : decode cL_along 72 = .ok (.invokevirtual 38, 3) := by decide +kernel
theorem dL_along_75 : decode cL_along 75 = .ok (.if_icmp .ne 44, 3) := by decide +kernel
theorem dL_along_78 : decode cL_along 78 = .ok (.aload_n 0, 1) := by decide +kernel
theorem dL_along_79 : decode cL_along 79 = .ok (.iload 5, 2) := by decide +kernel
theorem dL_along_81 : decode cL_along 81 = .ok (.invokevirtual 38, 3) := by decide +kernel
theorem dL_along_84 : decode cL_along 84 = .ok (.ifCond .eq 19, 3) := by decide +kernel
theorem dL_along_87 : decode cL_along 87 = .ok (.iload 7, 2) := by decide +kernel
theorem dL_along_89 : decode cL_along 89 = .ok (.ifCond .le 30, 3) := by decide +kernel
theorem dL_along_92 : decode cL_along 92 = .ok (.aload_n 0, 1) := by decide +kernel
theorem dL_along_93 : decode cL_along 93 = .ok (.iload 5, 2) := by decide +kernel
theorem dL_along_95 : decode cL_along 95 = .ok (.iconst 0, 1) := by decide +kernel
theorem dL_along_96 : decode cL_along 96 = .ok (.invokevirtual 96, 3) := by decide +kernel
theorem dL_along_99 : decode cL_along 99 = .ok (.iload_n 2, 1) := by decide +kernel
theorem dL_along_100 : decode cL_along 100 = .ok (.if_icmp .ne 19, 3) := by decide +kernel
theorem dL_along_103 : decode cL_along 103 = .ok (.aload_n 0, 1) := by decide +kernel
theorem dL_along_104 : decode cL_along 104 = .ok (.iload 5, 2) := by decide +kernel
theorem dL_along_106 : decode cL_along 106 = .ok (.iload 7, 2) := by decide +kernel
theorem dL_along_108 : decode cL_along 108 = .ok (.invokevirtual 96, 3) := by decide +kernel
theorem dL_along_111 : decode cL_along 111 = .ok (.iconst (-1), 1) := by decide +kernel
theorem dL_along_112 : decode cL_along 112 = .ok (.if_icmp .ne 7, 3) := by decide +kernel
theorem dL_along_115 : decode cL_along 115 = .ok (.iconst 1, 1) := by decide +kernel
theorem dL_along_116 : decode cL_along 116 = .ok (.goto 4, 3) := by decide +kernel
theorem dL_along_119 : decode cL_along 119 = .ok (.iconst 0, 1) := by decide +kernel
theorem dL_along_120 : decode cL_along 120 = .ok (.istore 6, 2) := by decide +kernel
theorem dL_along_122 : decode cL_along 122 = .ok (.iconst 0, 1) := by decide +kernel
theorem dL_along_123 : decode cL_along 123 = .ok (.istore 10, 2) := by decide +kernel
theorem dL_along_125 : decode cL_along 125 = .ok (.iload 10, 2) := by decide +kernel
theorem dL_along_127 : decode cL_along 127 = .ok (.iload 7, 2) := by decide +kernel
theorem dL_along_129 : decode cL_along 129 = .ok (.if_icmp .ge 105, 3) := by decide +kernel
