/-! decode rows -/
theorem dL_cell_0 : decode cL_cell 0 = .ok (.iload_n 1, 1) := by decide +kernel
theorem dL_cell_1 : decode cL_cell 1 = .ok (.aload_n 0, 1) := by decide +kernel
theorem dL_cell_2 : decode cL_cell 2 = .ok (.arraylength, 1) := by decide +kernel
theorem dL_cell_3 : decode cL_cell 3 = .ok (.if_icmp .ge 9, 3) := by decide +kernel
theorem dL_cell_6 : decode cL_cell 6 = .ok (.aload_n 0, 1) := by decide +kernel
theorem dL_cell_7 : decode cL_cell 7 = .ok (.iload_n 1, 1) := by decide +kernel
theorem dL_cell_8 : decode cL_cell 8 = .ok (.iaload, 1) := by decide +kernel
theorem dL_cell_9 : decode cL_cell 9 = .ok (.goto 18, 3) := by decide +kernel
theorem dL_cell_12 : decode cL_cell 12 = .ok (.sipush 7919, 3) := by decide +kernel
theorem dL_cell_15 : decode cL_cell 15 = .ok (.iload_n 1, 1) := by decide +kernel
theorem dL_cell_16 : decode cL_cell 16 = .ok (.sipush 463, 3) := by decide +kernel
theorem dL_cell_19 : decode cL_cell 19 = .ok (.iadd, 1) := by decide +kernel
theorem dL_cell_20 : decode cL_cell 20 = .ok (.imul, 1) := by decide +kernel
theorem dL_cell_21 : decode cL_cell 21 = .ok (.iload_n 1, 1) := by decide +kernel
theorem dL_cell_22 : decode cL_cell 22 = .ok (.sipush 2767, 3) := by decide +kernel
theorem dL_cell_25 : decode cL_cell 25 = .ok (.iadd, 1) := by decide +kernel
theorem dL_cell_26 : decode cL_cell 26 = .ok (.imul, 1) := by decide +kernel
theorem dL_cell_27 : decode cL_cell 27 = .ok (.ireturn, 1) := by decide +kernel
theorem dL_low_0 : decode cL_low 0 = .ok (.iload_n 0, 1) := by decide +kernel
theorem dL_low_1 : decode cL_low 1 = .ok (.ldc 7, 2) := by decide +kernel
theorem dL_low_3 : decode cL_low 3 = .ok (.iand, 1) := by decide +kernel
theorem dL_low_4 : decode cL_low 4 = .ok (.iload_n 1, 1) := by decide +kernel
theorem dL_low_5 : decode cL_low 5 = .ok (.irem, 1) := by decide +kernel
theorem dL_low_6 : decode cL_low 6 = .ok (.ireturn, 1) := by decide +kernel
theorem dL_does_0 : decode cL_does 0 = .ok (.iload_n 1, 1) := by decide +kernel
theorem dL_does_1 : decode cL_does 1 = .ok (.ifCond .ne 12, 3) := by decide +kernel
theorem dL_does_4 : decode cL_does 4 = .ok (.aload_n 0, 1) := by decide +kernel
theorem dL_does_5 : decode cL_does 5 = .ok (.iload_n 2, 1) := by decide +kernel
theorem dL_does_6 : decode cL_does 6 = .ok (.iload_n 3, 1) := by decide +kernel
theorem dL_does_7 : decode cL_does 7 = .ok (.invokevirtual 8, 3) := by decide +kernel
theorem dL_does_10 : decode cL_does 10 = .ok (.goto 59, 3) := by decide +kernel
theorem dL_does_13 : decode cL_does 13 = .ok (.iload_n 1, 1) := by decide +kernel
theorem dL_does_14 : decode cL_does 14 = .ok (.iconst 1, 1) := by decide +kernel
theorem dL_does_15 : decode cL_does 15 = .ok (.if_icmp .ne 11, 3) := by decide +kernel
theorem dL_does_18 : decode cL_does 18 = .ok (.aload_n 0, 1) := by decide +kernel
theorem dL_does_19 : decode cL_does 19 = .ok (.iload_n 2, 1) := by decide +kernel
theorem dL_does_20 : decode cL_does 20 = .ok (.invokevirtual 14, 3) := by decide +kernel
theorem dL_does_23 : decode cL_does 23 = .ok (.goto 46, 3) := by decide +kernel
theorem dL_does_26 : decode cL_does 26 = .ok (.iload_n 1, 1) := by decide +kernel
theorem dL_does_27 : decode cL_does 27 = .ok (.iconst 2, 1) := by decide +kernel
theorem dL_does_28 : decode cL_does 28 = .ok (.if_icmp .ne 10, 3) := by decide +kernel
theorem dL_does_31 : decode cL_does 31 = .ok (.aload_n 0, 1) := by decide +kernel
theorem dL_does_32 : decode cL_does 32 = .ok (.invokevirtual 18, 3) := by decide +kernel
theorem dL_does_35 : decode cL_does 35 = .ok (.goto 34, 3) := by decide +kernel
theorem dL_does_38 : decode cL_does 38 = .ok (.iload_n 1, 1) := by decide +kernel
theorem dL_does_39 : decode cL_does 39 = .ok (.iconst 3, 1) := by decide +kernel
theorem dL_does_40 : decode cL_does 40 = .ok (.if_icmp .ne 11, 3) := by decide +kernel
theorem dL_does_43 : decode cL_does 43 = .ok (.aload_n 0, 1) := by decide +kernel
theorem dL_does_44 : decode cL_does 44 = .ok (.iload_n 2, 1) := by decide +kernel
theorem dL_does_45 : decode cL_does 45 = .ok (.invokevirtual 22, 3) := by decide +kernel
theorem dL_does_48 : decode cL_does 48 = .ok (.goto 21, 3) := by decide +kernel
theorem dL_does_51 : decode cL_does 51 = .ok (.iload_n 1, 1) := by decide +kernel
theorem dL_does_52 : decode cL_does 52 = .ok (.iconst 4, 1) := by decide +kernel
theorem dL_does_53 : decode cL_does 53 = .ok (.if_icmp .ne 11, 3) := by decide +kernel
theorem dL_does_56 : decode cL_does 56 = .ok (.aload_n 0, 1) := by decide +kernel
theorem dL_does_57 : decode cL_does 57 = .ok (.iload_n 2, 1) := by decide +kernel
theorem dL_does_58 : decode cL_does 58 = .ok (.invokevirtual 25, 3) := by decide +kernel
theorem dL_does_61 : decode cL_does 61 = .ok (.goto 8, 3) := by decide +kernel
theorem dL_does_64 : decode cL_does 64 = .ok (.aload_n 0, 1) := by decide +kernel
theorem dL_does_65 : decode cL_does 65 = .ok (.iload_n 2, 1) := by decide +kernel
theorem dL_does_66 : decode cL_does 66 = .ok (.invokevirtual 28, 3) := by decide +kernel
theorem dL_does_69 : decode cL_does 69 = .ok (.ireturn, 1) := by decide +kernel
theorem dL_does_70 : decode cL_does 70 = .ok (.astore 4, 2) := by decide +kernel
theorem dL_does_72 : decode cL_does 72 = .ok (.ldc 33, 2) := by decide +kernel
theorem dL_does_74 : decode cL_does 74 = .ok (.ireturn, 1) := by decide +kernel
theorem dL_does_75 : decode cL_does 75 = .ok (.astore 4, 2) := by decide +kernel
theorem dL_does_77 : decode cL_does 77 = .ok (.ldc 33, 2) := by decide +kernel
theorem dL_does_79 : decode cL_does 79 = .ok (.ireturn, 1) := by decide +kernel
theorem dL_does_80 : decode cL_does 80 = .ok (.astore 4, 2) := by decide +kernel
theorem dL_does_82 : decode cL_does 82 = .ok (.ldc 33, 2) := by decide +kernel
theorem dL_does_84 : decode cL_does 84 = .ok (.ireturn, 1) := by decide +kernel
theorem dL_level_0 : decode cL_level 0 = .ok (.aload_n 0, 1) := by decide +kernel
theorem dL_level_1 : decode cL_level 1 = .ok (.iload_n 1, 1) := by decide +kernel
theorem dL_level_2 : decode cL_level 2 = .ok (.invokevirtual 38, 3) := by decide +kernel
theorem dL_level_5 : decode cL_level 5 = .ok (.ireturn, 1) := by decide +kernel
theorem dL_level_6 : decode cL_level 6 = .ok (.astore_n 2, 1) := by decide +kernel
theorem dL_level_7 : decode cL_level 7 = .ok (.ldc 33, 2) := by decide +kernel
theorem dL_level_9 : decode cL_level 9 = .ok (.ireturn, 1) := by decide +kernel
theorem dL_act_0 : decode cL_act 0 = .ok (.iload_n 1, 1) := by decide +kernel
theorem dL_act_1 : decode cL_act 1 = .ok (.bipush 24, 2) := by decide +kernel
theorem dL_act_3 : decode cL_act 3 = .ok (.ishr, 1) := by decide +kernel
theorem dL_act_4 : decode cL_act 4 = .ok (.bipush 8, 2) := by decide +kernel
theorem dL_act_6 : decode cL_act 6 = .ok (.invokestatic 41, 3) := by decide +kernel
theorem dL_act_9 : decode cL_act 9 = .ok (.ifCond .ne 7, 3) := by decide +kernel
theorem dL_act_12 : decode cL_act 12 = .ok (.iconst 1, 1) := by decide +kernel
theorem dL_act_13 : decode cL_act 13 = .ok (.goto 4, 3) := by decide +kernel
theorem dL_act_16 : decode cL_act 16 = .ok (.iconst 0, 1) := by decide +kernel
theorem dL_act_17 : decode cL_act 17 = .ok (.istore_n 2, 1) := by decide +kernel
theorem dL_act_18 : decode cL_act 18 = .ok (.iload_n 1, 1) := by decide +kernel
theorem dL_act_19 : decode cL_act 19 = .ok (.bipush 32, 2) := by decide +kernel
theorem dL_act_21 : decode cL_act 21 = .ok (.invokestatic 41, 3) := by decide +kernel
theorem dL_act_24 : decode cL_act 24 = .ok (.istore_n 3, 1) := by decide +kernel
theorem dL_act_25 : decode cL_act 25 = .ok (.iload_n 2, 1) := by decide +kernel
theorem dL_act_26 : decode cL_act 26 = .ok (.ifCond .eq 17, 3) := by decide +kernel
theorem dL_act_29 : decode cL_act 29 = .ok (.iload_n 1, 1) := by decide +kernel
theorem dL_act_30 : decode cL_act 30 = .ok (.iconst 4, 1) := by decide +kernel
theorem dL_act_31 : decode cL_act 31 = .ok (.ishr, 1) := by decide +kernel
theorem dL_act_32 : decode cL_act 32 = .ok (.sipush 210, 3) := by decide +kernel
theorem dL_act_35 : decode cL_act 35 = .ok (.invokestatic 41, 3) := by decide +kernel
theorem dL_act_38 : decode cL_act 38 = .ok (.iconst 5, 1) := by decide +kernel
theorem dL_act_39 : decode cL_act 39 = .ok (.isub, 1) := by decide +kernel
theorem dL_act_40 : decode cL_act 40 = .ok (.goto 26, 3) := by decide +kernel
theorem dL_act_43 : decode cL_act 43 = .ok (.iload_n 1, 1) := by decide +kernel
theorem dL_act_44 : decode cL_act 44 = .ok (.iconst 4, 1) := by decide +kernel
theorem dL_act_45 : decode cL_act 45 = .ok (.ishr, 1) := by decide +kernel
theorem dL_act_46 : decode cL_act 46 = .ok (.iload_n 1, 1) := by decide +kernel
theorem dL_act_47 : decode cL_act 47 = .ok (.bipush 16, 2) := by decide +kernel
theorem dL_act_49 : decode cL_act 49 = .ok (.ishr, 1) := by decide +kernel
theorem dL_act_50 : decode cL_act 50 = .ok (.iconst 1, 1) := by decide +kernel
theorem dL_act_51 : decode cL_act 51 = .ok (.iand, 1) := by decide +kernel
theorem dL_act_52 : decode cL_act 52 = .ok (.ifCond .ne 9, 3) := by decide +kernel
theorem dL_act_55 : decode cL_act 55 = .ok (.sipush 200, 3) := by decide +kernel
theorem dL_act_58 : decode cL_act 58 = .ok (.goto 5, 3) := by decide +kernel
theorem dL_act_61 : decode cL_act 61 = .ok (.bipush 20, 2) := by decide +kernel
theorem dL_act_63 : decode cL_act 63 = .ok (.invokestatic 41, 3) := by decide +kernel
theorem dL_act_66 : decode cL_act 66 = .ok (.istore 4, 2) := by decide +kernel
theorem dL_act_68 : decode cL_act 68 = .ok (.iload_n 3, 1) := by decide +kernel
theorem dL_act_69 : decode cL_act 69 = .ok (.bipush 16, 2) := by decide +kernel
theorem dL_act_71 : decode cL_act 71 = .ok (.if_icmp .ge 38, 3) := by decide +kernel
theorem dL_act_74 : decode cL_act 74 = .ok (.aload_n 0, 1) := by decide +kernel
theorem dL_act_75 : decode cL_act 75 = .ok (.iconst 0, 1) := by decide +kernel
theorem dL_act_76 : decode cL_act 76 = .ok (.iload 4, 2) := by decide +kernel
theorem dL_act_78 : decode cL_act 78 = .ok (.iload_n 2, 1) := by decide +kernel
theorem dL_act_79 : decode cL_act 79 = .ok (.ifCond .eq 16, 3) := by decide +kernel
theorem dL_act_82 : decode cL_act 82 = .ok (.iload_n 1, 1) := by decide +kernel
theorem dL_act_83 : decode cL_act 83 = .ok (.bipush 8, 2) := by decide +kernel
theorem dL_act_85 : decode cL_act 85 = .ok (.ishr, 1) := by decide +kernel
theorem dL_act_86 : decode cL_act 86 = .ok (.sipush 11000, 3) := by decide +kernel
theorem dL_act_89 : decode cL_act 89 = .ok (.invokestatic 41, 3) := by decide +kernel
theorem dL_act_92 : decode cL_act 92 = .ok (.goto 13, 3) := by decide +kernel
theorem dL_act_95 : decode cL_act 95 = .ok (.iload_n 1, 1) := by decide +kernel
theorem dL_act_96 : decode cL_act 96 = .ok (.bipush 8, 2) := by decide +kernel
theorem dL_act_98 : decode cL_act 98 = .ok (.ishr, 1) := by decide +kernel
theorem dL_act_99 : decode cL_act 99 = .ok (.sipush 10000, 3) := by decide +kernel
theorem dL_act_102 : decode cL_act 102 = .ok (.invokestatic 41, 3) := by decide +kernel
theorem dL_act_105 : decode cL_act 105 = .ok (.invokestatic 46, 3) := by decide +kernel
theorem dL_act_108 : decode cL_act 108 = .ok (.ireturn, 1) := by decide +kernel
theorem dL_act_109 : decode cL_act 109 = .ok (.iload_n 3, 1) := by decide +kernel
theorem dL_act_110 : decode cL_act 110 = .ok (.bipush 22, 2) := by decide +kernel
theorem dL_act_112 : decode cL_act 112 = .ok (.if_icmp .ge 68, 3) := by decide +kernel
theorem dL_act_115 : decode cL_act 115 = .ok (.iconst 0, 1) := by decide +kernel
theorem dL_act_116 : decode cL_act 116 = .ok (.istore 5, 2) := by decide +kernel
theorem dL_act_118 : decode cL_act 118 = .ok (.iconst 0, 1) := by decide +kernel
theorem dL_act_119 : decode cL_act 119 = .ok (.istore 6, 2) := by decide +kernel
theorem dL_act_121 : decode cL_act 121 = .ok (.iload 6, 2) := by decide +kernel
theorem dL_act_123 : decode cL_act 123 = .ok (.iload_n 3, 1) := by decide +kernel
theorem dL_act_124 : decode cL_act 124 = .ok (.bipush 19, 2) := by decide +kernel
theorem dL_act_126 : decode cL_act 126 = .ok (.if_icmp .ge 7, 3) := by decide +kernel
theorem dL_act_129 : decode cL_act 129 = .ok (.iconst 1, 1) := by decide +kernel
theorem dL_act_130 : decode cL_act 130 = .ok (.goto 5, 3) := by decide +kernel
theorem dL_act_133 : decode cL_act 133 = .ok (.bipush 7, 2) := by decide +kernel
theorem dL_act_135 : decode cL_act 135 = .ok (.if_icmp .ge 39, 3) := by decide +kernel
theorem dL_act_138 : decode cL_act 138 = .ok (.iload 4, 2) := by decide +kernel
theorem dL_act_140 : decode cL_act 140 = .ok (.iload 6, 2) := by decide +kernel
theorem dL_act_142 : decode cL_act 142 = .ok (.iadd, 1) := by decide +kernel
theorem dL_act_143 : decode cL_act 143 = .ok (.sipush 200, 3) := by decide +kernel
theorem dL_act_146 : decode cL_act 146 = .ok (.if_icmp .ge 28, 3) := by decide +kernel
theorem dL_act_149 : decode cL_act 149 = .ok (.iload 5, 2) := by decide +kernel
theorem dL_act_151 : decode cL_act 151 = .ok (.bipush 31, 2) := by decide +kernel
theorem dL_act_153 : decode cL_act 153 = .ok (.imul, 1) := by decide +kernel
theorem dL_act_154 : decode cL_act 154 = .ok (.aload_n 0, 1) := by decide +kernel
theorem dL_act_155 : decode cL_act 155 = .ok (.iconst 1, 1) := by decide +kernel
theorem dL_act_156 : decode cL_act 156 = .ok (.iload 4, 2) := by decide +kernel
theorem dL_act_158 : decode cL_act 158 = .ok (.iload 6, 2) := by decide +kernel
theorem dL_act_160 : decode cL_act 160 = .ok (.iadd, 1) := by decide +kernel
theorem dL_act_161 : decode cL_act 161 = .ok (.iconst 0, 1) := by decide +kernel
theorem dL_act_162 : decode cL_act 162 = .ok (.invokestatic 46, 3) := by decide +kernel
theorem dL_act_165 : decode cL_act 165 = .ok (.iadd, 1) := by decide +kernel
theorem dL_act_166 : decode cL_act 166 = .ok (.istore 5, 2) := by decide +kernel
theorem dL_act_168 : decode cL_act 168 = .ok (.iinc 6 1, 3) := by decide +kernel
theorem dL_act_171 : decode cL_act 171 = .ok (.goto (-50), 3) := by decide +kernel
theorem dL_act_174 : decode cL_act 174 = .ok (.iload 5, 2) := by decide +kernel
theorem dL_act_176 : decode cL_act 176 = .ok (.ldc 50, 2) := by decide +kernel
theorem dL_act_178 : decode cL_act 178 = .ok (.iand, 1) := by decide +kernel
theorem dL_act_179 : decode cL_act 179 = .ok (.ireturn, 1) := by decide +kernel
theorem dL_act_180 : decode cL_act 180 = .ok (.iload_n 3, 1) := by decide +kernel
theorem dL_act_181 : decode cL_act 181 = .ok (.bipush 26, 2) := by decide +kernel
theorem dL_act_183 : decode cL_act 183 = .ok (.if_icmp .ge 24, 3) := by decide +kernel
theorem dL_act_186 : decode cL_act 186 = .ok (.iload_n 3, 1) := by decide +kernel
theorem dL_act_187 : decode cL_act 187 = .ok (.bipush 25, 2) := by decide +kernel
theorem dL_act_189 : decode cL_act 189 = .ok (.if_icmp .ge 13, 3) := by decide +kernel
theorem dL_act_192 : decode cL_act 192 = .ok (.aload_n 0, 1) := by decide +kernel
theorem dL_act_193 : decode cL_act 193 = .ok (.iconst 2, 1) := by decide +kernel
theorem dL_act_194 : decode cL_act 194 = .ok (.iconst 0, 1) := by decide +kernel
theorem dL_act_195 : decode cL_act 195 = .ok (.iconst 0, 1) := by decide +kernel
theorem dL_act_196 : decode cL_act 196 = .ok (.invokestatic 46, 3) := by decide +kernel
theorem dL_act_199 : decode cL_act 199 = .ok (.goto 7, 3) := by decide +kernel
theorem dL_act_202 : decode cL_act 202 = .ok (.aload_n 0, 1) := by decide +kernel
theorem dL_act_203 : decode cL_act 203 = .ok (.invokevirtual 51, 3) := by decide +kernel
theorem dL_act_206 : decode cL_act 206 = .ok (.ireturn, 1) := by decide +kernel
theorem dL_act_207 : decode cL_act 207 = .ok (.iload_n 3, 1) := by decide +kernel
theorem dL_act_208 : decode cL_act 208 = .ok (.bipush 29, 2) := by decide +kernel
theorem dL_act_210 : decode cL_act 210 = .ok (.if_icmp .ge 21, 3) := by decide +kernel
theorem dL_act_213 : decode cL_act 213 = .ok (.iload_n 3, 1) := by decide +kernel
theorem dL_act_214 : decode cL_act 214 = .ok (.bipush 28, 2) := by decide +kernel
theorem dL_act_216 : decode cL_act 216 = .ok (.if_icmp .ge 10, 3) := by decide +kernel
theorem dL_act_219 : decode cL_act 219 = .ok (.aload_n 0, 1) := by decide +kernel
theorem dL_act_220 : decode cL_act 220 = .ok (.invokevirtual 54, 3) := by decide +kernel
theorem dL_act_223 : decode cL_act 223 = .ok (.goto 7, 3) := by decide +kernel
theorem dL_act_226 : decode cL_act 226 = .ok (.aload_n 0, 1) := by decide +kernel
theorem dL_act_227 : decode cL_act 227 = .ok (.invokevirtual 57, 3) := by decide +kernel
theorem dL_act_230 : decode cL_act 230 = .ok (.ireturn, 1) := by decide +kernel
theorem dL_act_231 : decode cL_act 231 = .ok (.iload_n 3, 1) := by decide +kernel
theorem dL_act_232 : decode cL_act 232 = .ok (.bipush 29, 2) := by decide +kernel
theorem dL_act_234 : decode cL_act 234 = .ok (.if_icmp .ne 14, 3) := by decide +kernel
theorem dL_act_237 : decode cL_act 237 = .ok (.aload_n 0, 1) := by decide +kernel
theorem dL_act_238 : decode cL_act 238 = .ok (.iconst 3, 1) := by decide +kernel
theorem dL_act_239 : decode cL_act 239 = .ok (.iload 4, 2) := by decide +kernel
theorem dL_act_241 : decode cL_act 241 = .ok (.iconst 0, 1) := by decide +kernel
theorem dL_act_242 : decode cL_act 242 = .ok (.invokestatic 46, 3) := by decide +kernel
theorem dL_act_245 : decode cL_act 245 = .ok (.goto 58, 3) := by decide +kernel
theorem dL_act_248 : decode cL_act 248 = .ok (.iload_n 3, 1) := by decide +kernel
theorem dL_act_249 : decode cL_act 249 = .ok (.bipush 30, 2) := by decide +kernel
theorem dL_act_251 : decode cL_act 251 = .ok (.if_icmp .ne 29, 3) := by decide +kernel
theorem dL_act_254 : decode cL_act 254 = .ok (.iload_n 1, 1) := by decide +kernel
