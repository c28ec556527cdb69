/-! decode rows -/
theorem dL_isPutSo_24 : decode cL_isPutSo 24 = .ok (.aload_n 1, 1) := by decide +kernel
theorem dL_isPutSo_25 : decode cL_isPutSo 25 = .ok (.iload_n 2, 1) := by decide +kernel
theorem dL_isPutSo_26 : decode cL_isPutSo 26 = .ok (.iload_n 3, 1) := by decide +kernel
theorem dL_isPutSo_27 : decode cL_isPutSo 27 = .ok (.invokevirtual 8, 3) := by decide +kernel
theorem dL_isPutSo_30 : decode cL_isPutSo 30 = .ok (.iload 5, 2) := by decide +kernel
theorem dL_isPutSo_32 : decode cL_isPutSo 32 = .ok (.if_icmp .ne 45, 3) := by decide +kernel
theorem dL_isPutSo_35 : decode cL_isPutSo 35 = .ok (.aload_n 0, 1) := by decide +kernel
theorem dL_isPutSo_36 : decode cL_isPutSo 36 = .ok (.iload_n 2, 1) := by decide +kernel
theorem dL_isPutSo_37 : decode cL_isPutSo 37 = .ok (.invokevirtual 78, 3) := by decide +kernel
theorem dL_isPutSo_40 : decode cL_isPutSo 40 = .ok (.iload_n 3, 1) := by decide +kernel
theorem dL_isPutSo_41 : decode cL_isPutSo 41 = .ok (.if_icmp .ne 36, 3) := by decide +kernel
theorem dL_isPutSo_44 : decode cL_isPutSo 44 = .ok (.aload_n 0, 1) := by decide +kernel
theorem dL_isPutSo_45 : decode cL_isPutSo 45 = .ok (.iload_n 2, 1) := by decide +kernel
theorem dL_isPutSo_46 : decode cL_isPutSo 46 = .ok (.invokevirtual 105, 3) := by decide +kernel
theorem dL_isPutSo_49 : decode cL_isPutSo 49 = .ok (.iload_n 3, 1) := by decide +kernel
theorem dL_isPutSo_50 : decode cL_isPutSo 50 = .ok (.if_icmp .ne 27, 3) := by decide +kernel
theorem dL_isPutSo_53 : decode cL_isPutSo 53 = .ok (.aload_n 0, 1) := by decide +kernel
theorem dL_isPutSo_54 : decode cL_isPutSo 54 = .ok (.invokevirtual 60, 3) := by decide +kernel
theorem dL_isPutSo_57 : decode cL_isPutSo 57 = .ok (.iload 4, 2) := by decide +kernel
theorem dL_isPutSo_59 : decode cL_isPutSo 59 = .ok (.iload 5, 2) := by decide +kernel
theorem dL_isPutSo_61 : decode cL_isPutSo 61 = .ok (.ifCond .ge 7, 3) := by decide +kernel
theorem dL_isPutSo_64 : decode cL_isPutSo 64 = .ok (.iconst 1, 1) := by decide +kernel
theorem dL_isPutSo_65 : decode cL_isPutSo 65 = .ok (.goto 4, 3) := by decide +kernel
theorem dL_isPutSo_68 : decode cL_isPutSo 68 = .ok (.iconst 0, 1) := by decide +kernel
theorem dL_isPutSo_69 : decode cL_isPutSo 69 = .ok (.iadd, 1) := by decide +kernel
theorem dL_isPutSo_70 : decode cL_isPutSo 70 = .ok (.if_icmp .ne 7, 3) := by decide +kernel
theorem dL_isPutSo_73 : decode cL_isPutSo 73 = .ok (.iconst 1, 1) := by decide +kernel
theorem dL_isPutSo_74 : decode cL_isPutSo 74 = .ok (.goto 4, 3) := by decide +kernel
theorem dL_isPutSo_77 : decode cL_isPutSo 77 = .ok (.iconst 0, 1) := by decide +kernel
theorem dL_isPutSo_78 : decode cL_isPutSo 78 = .ok (.istore 6, 2) := by decide +kernel
theorem dL_isPutSo_80 : decode cL_isPutSo 80 = .ok (.iload 6, 2) := by decide +kernel
theorem dL_isPutSo_82 : decode cL_isPutSo 82 = .ok (.ifCond .eq 52, 3) := by decide +kernel
theorem dL_isPutSo_85 : decode cL_isPutSo 85 = .ok (.aload_n 0, 1) := by decide +kernel
theorem dL_isPutSo_86 : decode cL_isPutSo 86 = .ok (.iload_n 2, 1) := by decide +kernel
theorem dL_isPutSo_87 : decode cL_isPutSo 87 = .ok (.invokevirtual 14, 3) := by decide +kernel
theorem dL_isPutSo_90 : decode cL_isPutSo 90 = .ok (.iload_n 3, 1) := by decide +kernel
theorem dL_isPutSo_91 : decode cL_isPutSo 91 = .ok (.if_icmp .ne 43, 3) := by decide +kernel
theorem dL_isPutSo_94 : decode cL_isPutSo 94 = .ok (.aload_n 1, 1) := by decide +kernel
theorem dL_isPutSo_95 : decode cL_isPutSo 95 = .ok (.iload_n 2, 1) := by decide +kernel
theorem dL_isPutSo_96 : decode cL_isPutSo 96 = .ok (.invokevirtual 14, 3) := by decide +kernel
theorem dL_isPutSo_99 : decode cL_isPutSo 99 = .ok (.iload_n 3, 1) := by decide +kernel
theorem dL_isPutSo_100 : decode cL_isPutSo 100 = .ok (.if_icmp .ne 34, 3) := by decide +kernel
theorem dL_isPutSo_103 : decode cL_isPutSo 103 = .ok (.aload_n 0, 1) := by decide +kernel
theorem dL_isPutSo_104 : decode cL_isPutSo 104 = .ok (.iload_n 2, 1) := by decide +kernel
theorem dL_isPutSo_105 : decode cL_isPutSo 105 = .ok (.invokevirtual 78, 3) := by decide +kernel
theorem dL_isPutSo_108 : decode cL_isPutSo 108 = .ok (.iconst (-1), 1) := by decide +kernel
theorem dL_isPutSo_109 : decode cL_isPutSo 109 = .ok (.if_icmp .ne 25, 3) := by decide +kernel
theorem dL_isPutSo_112 : decode cL_isPutSo 112 = .ok (.aload_n 0, 1) := by decide +kernel
theorem dL_isPutSo_113 : decode cL_isPutSo 113 = .ok (.iload_n 2, 1) := by decide +kernel
theorem dL_isPutSo_114 : decode cL_isPutSo 114 = .ok (.invokevirtual 105, 3) := by decide +kernel
theorem dL_isPutSo_117 : decode cL_isPutSo 117 = .ok (.iconst (-1), 1) := by decide +kernel
theorem dL_isPutSo_118 : decode cL_isPutSo 118 = .ok (.if_icmp .ne 16, 3) := by decide +kernel
theorem dL_isPutSo_121 : decode cL_isPutSo 121 = .ok (.aload_n 0, 1) := by decide +kernel
theorem dL_isPutSo_122 : decode cL_isPutSo 122 = .ok (.iload_n 2, 1) := by decide +kernel
theorem dL_isPutSo_123 : decode cL_isPutSo 123 = .ok (.invokevirtual 14, 3) := by decide +kernel
theorem dL_isPutSo_126 : decode cL_isPutSo 126 = .ok (.iconst (-1), 1) := by decide +kernel
theorem dL_isPutSo_127 : decode cL_isPutSo 127 = .ok (.if_icmp .ne 7, 3) := by decide +kernel
theorem dL_isPutSo_130 : decode cL_isPutSo 130 = .ok (.iconst 1, 1) := by decide +kernel
theorem dL_isPutSo_131 : decode cL_isPutSo 131 = .ok (.goto 4, 3) := by decide +kernel
theorem dL_isPutSo_134 : decode cL_isPutSo 134 = .ok (.iconst 0, 1) := by decide +kernel
theorem dL_isPutSo_135 : decode cL_isPutSo 135 = .ok (.istore 6, 2) := by decide +kernel
theorem dL_isPutSo_137 : decode cL_isPutSo 137 = .ok (.iload 5, 2) := by decide +kernel
theorem dL_isPutSo_139 : decode cL_isPutSo 139 = .ok (.ifCond .lt 37, 3) := by decide +kernel
theorem dL_isPutSo_142 : decode cL_isPutSo 142 = .ok (.iload 6, 2) := by decide +kernel
theorem dL_isPutSo_144 : decode cL_isPutSo 144 = .ok (.ifCond .eq 29, 3) := by decide +kernel
theorem dL_isPutSo_147 : decode cL_isPutSo 147 = .ok (.aload_n 0, 1) := by decide +kernel
theorem dL_isPutSo_148 : decode cL_isPutSo 148 = .ok (.iload_n 2, 1) := by decide +kernel
theorem dL_isPutSo_149 : decode cL_isPutSo 149 = .ok (.iload 5, 2) := by decide +kernel
theorem dL_isPutSo_151 : decode cL_isPutSo 151 = .ok (.invokevirtual 8, 3) := by decide +kernel
theorem dL_isPutSo_154 : decode cL_isPutSo 154 = .ok (.iconst (-1), 1) := by decide +kernel
theorem dL_isPutSo_155 : decode cL_isPutSo 155 = .ok (.if_icmp .ne 18, 3) := by decide +kernel
theorem dL_isPutSo_158 : decode cL_isPutSo 158 = .ok (.aload_n 1, 1) := by decide +kernel
theorem dL_isPutSo_159 : decode cL_isPutSo 159 = .ok (.iload_n 2, 1) := by decide +kernel
theorem dL_isPutSo_160 : decode cL_isPutSo 160 = .ok (.iload 5, 2) := by decide +kernel
theorem dL_isPutSo_162 : decode cL_isPutSo 162 = .ok (.invokevirtual 8, 3) := by decide +kernel
theorem dL_isPutSo_165 : decode cL_isPutSo 165 = .ok (.iconst (-1), 1) := by decide +kernel
theorem dL_isPutSo_166 : decode cL_isPutSo 166 = .ok (.if_icmp .ne 7, 3) := by decide +kernel
theorem dL_isPutSo_169 : decode cL_isPutSo 169 = .ok (.iconst 1, 1) := by decide +kernel
theorem dL_isPutSo_170 : decode cL_isPutSo 170 = .ok (.goto 4, 3) := by decide +kernel
theorem dL_isPutSo_173 : decode cL_isPutSo 173 = .ok (.iconst 0, 1) := by decide +kernel
theorem dL_isPutSo_174 : decode cL_isPutSo 174 = .ok (.istore 6, 2) := by decide +kernel
theorem dL_isPutSo_176 : decode cL_isPutSo 176 = .ok (.iload 6, 2) := by decide +kernel
theorem dL_isPutSo_178 : decode cL_isPutSo 178 = .ok (.ifCond .eq 26, 3) := by decide +kernel
theorem dL_isPutSo_181 : decode cL_isPutSo 181 = .ok (.aload_n 0, 1) := by decide +kernel
theorem dL_isPutSo_182 : decode cL_isPutSo 182 = .ok (.iload_n 2, 1) := by decide +kernel
theorem dL_isPutSo_183 : decode cL_isPutSo 183 = .ok (.invokevirtual 78, 3) := by decide +kernel
theorem dL_isPutSo_186 : decode cL_isPutSo 186 = .ok (.iload 5, 2) := by decide +kernel
theorem dL_isPutSo_188 : decode cL_isPutSo 188 = .ok (.if_icmp .ne 16, 3) := by decide +kernel
theorem dL_isPutSo_191 : decode cL_isPutSo 191 = .ok (.aload_n 0, 1) := by decide +kernel
theorem dL_isPutSo_192 : decode cL_isPutSo 192 = .ok (.invokevirtual 60, 3) := by decide +kernel
theorem dL_isPutSo_195 : decode cL_isPutSo 195 = .ok (.iload 4, 2) := by decide +kernel
theorem dL_isPutSo_197 : decode cL_isPutSo 197 = .ok (.if_icmp .ne 7, 3) := by decide +kernel
theorem dL_isPutSo_200 : decode cL_isPutSo 200 = .ok (.iconst 1, 1) := by decide +kernel
theorem dL_isPutSo_201 : decode cL_isPutSo 201 = .ok (.goto 4, 3) := by decide +kernel
theorem dL_isPutSo_204 : decode cL_isPutSo 204 = .ok (.iconst 0, 1) := by decide +kernel
theorem dL_isPutSo_205 : decode cL_isPutSo 205 = .ok (.ireturn, 1) := by decide +kernel
theorem dL_law_0 : decode cL_law 0 = .ok (.new 9, 3) := by decide +kernel
theorem dL_law_3 : decode cL_law 3 = .ok (.dup, 1) := by decide +kernel
theorem dL_law_4 : decode cL_law 4 = .ok (.invokespecial 108, 3) := by decide +kernel
theorem dL_law_7 : decode cL_law 7 = .ok (.astore_n 1, 1) := by decide +kernel
theorem dL_law_8 : decode cL_law 8 = .ok (.new 9, 3) := by decide +kernel
theorem dL_law_11 : decode cL_law 11 = .ok (.dup, 1) := by decide +kernel
theorem dL_law_12 : decode cL_law 12 = .ok (.invokespecial 108, 3) := by decide +kernel
theorem dL_law_15 : decode cL_law 15 = .ok (.astore_n 2, 1) := by decide +kernel
theorem dL_law_16 : decode cL_law 16 = .ok (.iconst 0, 1) := by decide +kernel
theorem dL_law_17 : decode cL_law 17 = .ok (.istore_n 3, 1) := by decide +kernel
theorem dL_law_18 : decode cL_law 18 = .ok (.iload_n 3, 1) := by decide +kernel
theorem dL_law_19 : decode cL_law 19 = .ok (.bipush 90, 2) := by decide +kernel
theorem dL_law_21 : decode cL_law 21 = .ok (.if_icmp .ge 155, 3) := by decide +kernel
theorem dL_law_24 : decode cL_law 24 = .ok (.aload_n 0, 1) := by decide +kernel
theorem dL_law_25 : decode cL_law 25 = .ok (.iload_n 3, 1) := by decide +kernel
theorem dL_law_26 : decode cL_law 26 = .ok (.bipush 61, 2) := by decide +kernel
theorem dL_law_28 : decode cL_law 28 = .ok (.irem, 1) := by decide +kernel
theorem dL_law_29 : decode cL_law 29 = .ok (.invokestatic 109, 3) := by decide +kernel
theorem dL_law_32 : decode cL_law 32 = .ok (.sipush 1009, 3) := by decide +kernel
theorem dL_law_35 : decode cL_law 35 = .ok (.iload_n 3, 1) := by decide +kernel
theorem dL_law_36 : decode cL_law 36 = .ok (.bipush 61, 2) := by decide +kernel
theorem dL_law_38 : decode cL_law 38 = .ok (.idiv, 1) := by decide +kernel
theorem dL_law_39 : decode cL_law 39 = .ok (.imul, 1) := by decide +kernel
theorem dL_law_40 : decode cL_law 40 = .ok (.iadd, 1) := by decide +kernel
theorem dL_law_41 : decode cL_law 41 = .ok (.istore 4, 2) := by decide +kernel
theorem dL_law_43 : decode cL_law 43 = .ok (.iload_n 3, 1) := by decide +kernel
theorem dL_law_44 : decode cL_law 44 = .ok (.bipush 18, 2) := by decide +kernel
theorem dL_law_46 : decode cL_law 46 = .ok (.if_icmp .ge 22, 3) := by decide +kernel
theorem dL_law_49 : decode cL_law 49 = .ok (.iload 4, 2) := by decide +kernel
theorem dL_law_51 : decode cL_law 51 = .ok (.bipush 32, 2) := by decide +kernel
theorem dL_law_53 : decode cL_law 53 = .ok (.idiv, 1) := by decide +kernel
theorem dL_law_54 : decode cL_law 54 = .ok (.bipush 32, 2) := by decide +kernel
theorem dL_law_56 : decode cL_law 56 = .ok (.imul, 1) := by decide +kernel
theorem dL_law_57 : decode cL_law 57 = .ok (.iload 4, 2) := by decide +kernel
theorem dL_law_59 : decode cL_law 59 = .ok (.bipush 17, 2) := by decide +kernel
theorem dL_law_61 : decode cL_law 61 = .ok (.invokestatic 41, 3) := by decide +kernel
theorem dL_law_64 : decode cL_law 64 = .ok (.iadd, 1) := by decide +kernel
theorem dL_law_65 : decode cL_law 65 = .ok (.goto 5, 3) := by decide +kernel
theorem dL_law_68 : decode cL_law 68 = .ok (.iload 4, 2) := by decide +kernel
theorem dL_law_70 : decode cL_law 70 = .ok (.istore 4, 2) := by decide +kernel
theorem dL_law_72 : decode cL_law 72 = .ok (.aload_n 1, 1) := by decide +kernel
theorem dL_law_73 : decode cL_law 73 = .ok (.iload 4, 2) := by decide +kernel
theorem dL_law_75 : decode cL_law 75 = .ok (.invokestatic 113, 3) := by decide +kernel
theorem dL_law_78 : decode cL_law 78 = .ok (.istore 5, 2) := by decide +kernel
theorem dL_law_80 : decode cL_law 80 = .ok (.iload 5, 2) := by decide +kernel
theorem dL_law_82 : decode cL_law 82 = .ok (.ldc 33, 2) := by decide +kernel
theorem dL_law_84 : decode cL_law 84 = .ok (.if_icmp .eq 14, 3) := by decide +kernel
theorem dL_law_87 : decode cL_law 87 = .ok (.aload_n 2, 1) := by decide +kernel
theorem dL_law_88 : decode cL_law 88 = .ok (.iload 4, 2) := by decide +kernel
theorem dL_law_90 : decode cL_law 90 = .ok (.invokestatic 113, 3) := by decide +kernel
theorem dL_law_93 : decode cL_law 93 = .ok (.iload 5, 2) := by decide +kernel
theorem dL_law_95 : decode cL_law 95 = .ok (.if_icmp .ne 33, 3) := by decide +kernel
theorem dL_law_98 : decode cL_law 98 = .ok (.iload_n 3, 1) := by decide +kernel
theorem dL_law_99 : decode cL_law 99 = .ok (.bipush 6, 2) := by decide +kernel
theorem dL_law_101 : decode cL_law 101 = .ok (.irem, 1) := by decide +kernel
theorem dL_law_102 : decode cL_law 102 = .ok (.iconst 3, 1) := by decide +kernel
theorem dL_law_103 : decode cL_law 103 = .ok (.if_icmp .ne 11, 3) := by decide +kernel
theorem dL_law_106 : decode cL_law 106 = .ok (.aload_n 1, 1) := by decide +kernel
theorem dL_law_107 : decode cL_law 107 = .ok (.aload_n 2, 1) := by decide +kernel
theorem dL_law_108 : decode cL_law 108 = .ok (.invokestatic 116, 3) := by decide +kernel
theorem dL_law_111 : decode cL_law 111 = .ok (.ifCond .eq 17, 3) := by decide +kernel
theorem dL_law_114 : decode cL_law 114 = .ok (.iload_n 3, 1) := by decide +kernel
theorem dL_law_115 : decode cL_law 115 = .ok (.iconst 4, 1) := by decide +kernel
theorem dL_law_116 : decode cL_law 116 = .ok (.irem, 1) := by decide +kernel
theorem dL_law_117 : decode cL_law 117 = .ok (.iconst 1, 1) := by decide +kernel
theorem dL_law_118 : decode cL_law 118 = .ok (.if_icmp .ne 12, 3) := by decide +kernel
theorem dL_law_121 : decode cL_law 121 = .ok (.aload_n 1, 1) := by decide +kernel
theorem dL_law_122 : decode cL_law 122 = .ok (.invokestatic 120, 3) := by decide +kernel
theorem dL_law_125 : decode cL_law 125 = .ok (.ifCond .ne 5, 3) := by decide +kernel
theorem dL_law_128 : decode cL_law 128 = .ok (.iconst 0, 1) := by decide +kernel
theorem dL_law_129 : decode cL_law 129 = .ok (.ireturn, 1) := by decide +kernel
theorem dL_law_130 : decode cL_law 130 = .ok (.iload_n 3, 1) := by decide +kernel
theorem dL_law_131 : decode cL_law 131 = .ok (.bipush 9, 2) := by decide +kernel
theorem dL_law_133 : decode cL_law 133 = .ok (.irem, 1) := by decide +kernel
theorem dL_law_134 : decode cL_law 134 = .ok (.bipush 7, 2) := by decide +kernel
theorem dL_law_136 : decode cL_law 136 = .ok (.if_icmp .ne 34, 3) := by decide +kernel
theorem dL_law_139 : decode cL_law 139 = .ok (.aload_n 1, 1) := by decide +kernel
theorem dL_law_140 : decode cL_law 140 = .ok (.aload_n 2, 1) := by decide +kernel
theorem dL_law_141 : decode cL_law 141 = .ok (.iload 4, 2) := by decide +kernel
theorem dL_law_143 : decode cL_law 143 = .ok (.iconst 5, 1) := by decide +kernel
theorem dL_law_144 : decode cL_law 144 = .ok (.ishr, 1) := by decide +kernel
theorem dL_law_145 : decode cL_law 145 = .ok (.sipush 200, 3) := by decide +kernel
theorem dL_law_148 : decode cL_law 148 = .ok (.invokestatic 41, 3) := by decide +kernel
theorem dL_law_151 : decode cL_law 151 = .ok (.iload 4, 2) := by decide +kernel
theorem dL_law_153 : decode cL_law 153 = .ok (.bipush 7, 2) := by decide +kernel
theorem dL_law_155 : decode cL_law 155 = .ok (.ishr, 1) := by decide +kernel
theorem dL_law_156 : decode cL_law 156 = .ok (.sipush 10000, 3) := by decide +kernel
theorem dL_law_159 : decode cL_law 159 = .ok (.invokestatic 41, 3) := by decide +kernel
theorem dL_law_162 : decode cL_law 162 = .ok (.invokestatic 124, 3) := by decide +kernel
theorem dL_law_165 : decode cL_law 165 = .ok (.ifCond .ne 5, 3) := by decide +kernel
theorem dL_law_168 : decode cL_law 168 = .ok (.iconst 0, 1) := by decide +kernel
theorem dL_law_169 : decode cL_law 169 = .ok (.ireturn, 1) := by decide +kernel
theorem dL_law_170 : decode cL_law 170 = .ok (.iinc 3 1, 3) := by decide +kernel
theorem dL_law_173 : decode cL_law 173 = .ok (.goto (-155), 3) := by decide +kernel
theorem dL_law_176 : decode cL_law 176 = .ok (.aload_n 1, 1) := by decide +kernel
theorem dL_law_177 : decode cL_law 177 = .ok (.aload_n 2, 1) := by decide +kernel
theorem dL_law_178 : decode cL_law 178 = .ok (.invokestatic 116, 3) := by decide +kernel
theorem dL_law_181 : decode cL_law 181 = .ok (.ifCond .eq 43, 3) := by decide +kernel
theorem dL_law_184 : decode cL_law 184 = .ok (.aload_n 1, 1) := by decide +kernel
theorem dL_law_185 : decode cL_law 185 = .ok (.invokestatic 120, 3) := by decide +kernel
theorem dL_law_188 : decode cL_law 188 = .ok (.ifCond .eq 36, 3) := by decide +kernel
theorem dL_law_191 : decode cL_law 191 = .ok (.aload_n 1, 1) := by decide +kernel
theorem dL_law_192 : decode cL_law 192 = .ok (.invokevirtual 57, 3) := by decide +kernel
theorem dL_law_195 : decode cL_law 195 = .ok (.aload_n 2, 1) := by decide +kernel
theorem dL_law_196 : decode cL_law 196 = .ok (.invokevirtual 57, 3) := by decide +kernel
theorem dL_law_199 : decode cL_law 199 = .ok (.if_icmp .ne 25, 3) := by decide +kernel
theorem dL_law_202 : decode cL_law 202 = .ok (.aload_n 1, 1) := by decide +kernel
theorem dL_law_203 : decode cL_law 203 = .ok (.invokevirtual 51, 3) := by decide +kernel
theorem dL_law_206 : decode cL_law 206 = .ok (.aload_n 2, 1) := by decide +kernel
theorem dL_law_207 : decode cL_law 207 = .ok (.invokevirtual 51, 3) := by decide +kernel
theorem dL_law_210 : decode cL_law 210 = .ok (.if_icmp .ne 14, 3) := by decide +kernel
theorem dL_law_213 : decode cL_law 213 = .ok (.aload_n 1, 1) := by decide +kernel
theorem dL_law_214 : decode cL_law 214 = .ok (.invokestatic 120, 3) := by decide +kernel
theorem dL_law_217 : decode cL_law 217 = .ok (.ifCond .eq 7, 3) := by decide +kernel
theorem dL_law_220 : decode cL_law 220 = .ok (.iconst 1, 1) := by decide +kernel
theorem dL_law_221 : decode cL_law 221 = .ok (.goto 4, 3) := by decide +kernel
theorem dL_law_224 : decode cL_law 224 = .ok (.iconst 0, 1) := by decide +kernel
theorem dL_law_225 : decode cL_law 225 = .ok (.ireturn, 1) := by decide +kernel
