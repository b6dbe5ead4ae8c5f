theorem dL_isTick_78 : decode cL_isTick 78 = .ok (.iconst 0, 1) := by decide +kernel
theorem dL_isTick_79 : decode cL_isTick 79 = .ok (.dup2, 1) := by decide +kernel
theorem dL_isTick_80 : decode cL_isTick 80 = .ok (.iaload, 1) := by decide +kernel
theorem dL_isTick_81 : decode cL_isTick 81 = .ok (.iconst 1, 1) := by decide +kernel
theorem dL_isTick_82 : decode cL_isTick 82 = .ok (.iadd, 1) := by decide +kernel
theorem dL_isTick_83 : decode cL_isTick 83 = .ok (.iastore, 1) := by decide +kernel
theorem dL_isTick_84 : decode cL_isTick 84 = .ok (.iload 4, 2) := by decide +kernel
theorem dL_isTick_86 : decode cL_isTick 86 = .ok (.bipush 10, 2) := by decide +kernel
theorem dL_isTick_88 : decode cL_isTick 88 = .ok (.if_icmp .ge 12, 3) := by decide +kernel
theorem dL_isTick_91 : decode cL_isTick 91 = .ok (.aload_n 0, 1) := by decide +kernel
theorem dL_isTick_92 : decode cL_isTick 92 = .ok (.iload 4, 2) := by decide +kernel
theorem dL_isTick_94 : decode cL_isTick 94 = .ok (.invokevirtual 48, 3) := by decide +kernel
theorem dL_isTick_97 : decode cL_isTick 97 = .ok (.goto 4, 3) := by decide +kernel
theorem dL_isTick_100 : decode cL_isTick 100 = .ok (.iconst 0, 1) := by decide +kernel
theorem dL_isTick_101 : decode cL_isTick 101 = .ok (.istore 5, 2) := by decide +kernel
theorem dL_isTick_103 : decode cL_isTick 103 = .ok (.aload_n 0, 1) := by decide +kernel
theorem dL_isTick_104 : decode cL_isTick 104 = .ok (.iconst 1, 1) := by decide +kernel
theorem dL_isTick_105 : decode cL_isTick 105 = .ok (.invokevirtual 35, 3) := by decide +kernel
theorem dL_isTick_108 : decode cL_isTick 108 = .ok (.istore 6, 2) := by decide +kernel
theorem dL_isTick_110 : decode cL_isTick 110 = .ok (.iload 6, 2) := by decide +kernel
theorem dL_isTick_112 : decode cL_isTick 112 = .ok (.iload_n 3, 1) := by decide +kernel
theorem dL_isTick_113 : decode cL_isTick 113 = .ok (.if_icmp .gt 24, 3) := by decide +kernel
theorem dL_isTick_116 : decode cL_isTick 116 = .ok (.iload_n 3, 1) := by decide +kernel
theorem dL_isTick_117 : decode cL_isTick 117 = .ok (.ifCond .ne 11, 3) := by decide +kernel
theorem dL_isTick_120 : decode cL_isTick 120 = .ok (.iload 6, 2) := by decide +kernel
theorem dL_isTick_122 : decode cL_isTick 122 = .ok (.ifCond .ne 15, 3) := by decide +kernel
theorem dL_isTick_125 : decode cL_isTick 125 = .ok (.goto 8, 3) := by decide +kernel
theorem dL_isTick_128 : decode cL_isTick 128 = .ok (.iload 6, 2) := by decide +kernel
theorem dL_isTick_130 : decode cL_isTick 130 = .ok (.ifCond .le 7, 3) := by decide +kernel
theorem dL_isTick_133 : decode cL_isTick 133 = .ok (.iconst 1, 1) := by decide +kernel
theorem dL_isTick_134 : decode cL_isTick 134 = .ok (.goto 4, 3) := by decide +kernel
theorem dL_isTick_137 : decode cL_isTick 137 = .ok (.iconst 0, 1) := by decide +kernel
theorem dL_isTick_138 : decode cL_isTick 138 = .ok (.istore 7, 2) := by decide +kernel
theorem dL_isTick_140 : decode cL_isTick 140 = .ok (.iconst 0, 1) := by decide +kernel
theorem dL_isTick_141 : decode cL_isTick 141 = .ok (.istore 8, 2) := by decide +kernel
theorem dL_isTick_143 : decode cL_isTick 143 = .ok (.iload 8, 2) := by decide +kernel
theorem dL_isTick_145 : decode cL_isTick 145 = .ok (.bipush 8, 2) := by decide +kernel
theorem dL_isTick_147 : decode cL_isTick 147 = .ok (.if_icmp .ge 52, 3) := by decide +kernel
theorem dL_isTick_150 : decode cL_isTick 150 = .ok (.iload 4, 2) := by decide +kernel
theorem dL_isTick_152 : decode cL_isTick 152 = .ok (.bipush 8, 2) := by decide +kernel
theorem dL_isTick_154 : decode cL_isTick 154 = .ok (.if_icmp .ge 45, 3) := by decide +kernel
theorem dL_isTick_157 : decode cL_isTick 157 = .ok (.iload 7, 2) := by decide +kernel
theorem dL_isTick_159 : decode cL_isTick 159 = .ok (.ifCond .eq 40, 3) := by decide +kernel
theorem dL_isTick_162 : decode cL_isTick 162 = .ok (.aload_n 1, 1) := by decide +kernel
theorem dL_isTick_163 : decode cL_isTick 163 = .ok (.iload 4, 2) := by decide +kernel
theorem dL_isTick_165 : decode cL_isTick 165 = .ok (.iload 8, 2) := by decide +kernel
theorem dL_isTick_167 : decode cL_isTick 167 = .ok (.invokestatic 72, 3) := by decide +kernel
theorem dL_isTick_170 : decode cL_isTick 170 = .ok (.ifCond .eq 16, 3) := by decide +kernel
theorem dL_isTick_173 : decode cL_isTick 173 = .ok (.aload_n 0, 1) := by decide +kernel
theorem dL_isTick_174 : decode cL_isTick 174 = .ok (.iload 8, 2) := by decide +kernel
theorem dL_isTick_176 : decode cL_isTick 176 = .ok (.iload 4, 2) := by decide +kernel
theorem dL_isTick_178 : decode cL_isTick 178 = .ok (.invokevirtual 60, 3) := by decide +kernel
theorem dL_isTick_181 : decode cL_isTick 181 = .ok (.iload 5, 2) := by decide +kernel
theorem dL_isTick_183 : decode cL_isTick 183 = .ok (.if_icmp .ne 7, 3) := by decide +kernel
theorem dL_isTick_186 : decode cL_isTick 186 = .ok (.iconst 1, 1) := by decide +kernel
theorem dL_isTick_187 : decode cL_isTick 187 = .ok (.goto 4, 3) := by decide +kernel
theorem dL_isTick_190 : decode cL_isTick 190 = .ok (.iconst 0, 1) := by decide +kernel
theorem dL_isTick_191 : decode cL_isTick 191 = .ok (.istore 7, 2) := by decide +kernel
theorem dL_isTick_193 : decode cL_isTick 193 = .ok (.iinc 8 1, 3) := by decide +kernel
theorem dL_isTick_196 : decode cL_isTick 196 = .ok (.goto (-53), 3) := by decide +kernel
theorem dL_isTick_199 : decode cL_isTick 199 = .ok (.iload 7, 2) := by decide +kernel
theorem dL_isTick_201 : decode cL_isTick 201 = .ok (.ireturn, 1) := by decide +kernel
theorem dL_isDone_0 : decode cL_isDone 0 = .ok (.aload_n 1, 1) := by decide +kernel
theorem dL_isDone_1 : decode cL_isDone 1 = .ok (.iload_n 2, 1) := by decide +kernel
theorem dL_isDone_2 : decode cL_isDone 2 = .ok (.bipush 40, 2) := by decide +kernel
theorem dL_isDone_4 : decode cL_isDone 4 = .ok (.invokestatic 102, 3) := by decide +kernel
theorem dL_isDone_7 : decode cL_isDone 7 = .ok (.istore 6, 2) := by decide +kernel
theorem dL_isDone_9 : decode cL_isDone 9 = .ok (.aload_n 1, 1) := by decide +kernel
theorem dL_isDone_10 : decode cL_isDone 10 = .ok (.iload_n 2, 1) := by decide +kernel
theorem dL_isDone_11 : decode cL_isDone 11 = .ok (.iconst 1, 1) := by decide +kernel
theorem dL_isDone_12 : decode cL_isDone 12 = .ok (.iadd, 1) := by decide +kernel
theorem dL_isDone_13 : decode cL_isDone 13 = .ok (.sipush 6000, 3) := by decide +kernel
theorem dL_isDone_16 : decode cL_isDone 16 = .ok (.invokestatic 102, 3) := by decide +kernel
theorem dL_isDone_19 : decode cL_isDone 19 = .ok (.istore 7, 2) := by decide +kernel
theorem dL_isDone_21 : decode cL_isDone 21 = .ok (.aload_n 1, 1) := by decide +kernel
theorem dL_isDone_22 : decode cL_isDone 22 = .ok (.iload_n 2, 1) := by decide +kernel
theorem dL_isDone_23 : decode cL_isDone 23 = .ok (.iconst 2, 1) := by decide +kernel
theorem dL_isDone_24 : decode cL_isDone 24 = .ok (.iadd, 1) := by decide +kernel
theorem dL_isDone_25 : decode cL_isDone 25 = .ok (.sipush 7000, 3) := by decide +kernel
theorem dL_isDone_28 : decode cL_isDone 28 = .ok (.invokestatic 102, 3) := by decide +kernel
theorem dL_isDone_31 : decode cL_isDone 31 = .ok (.istore 8, 2) := by decide +kernel
theorem dL_isDone_33 : decode cL_isDone 33 = .ok (.aload_n 1, 1) := by decide +kernel
theorem dL_isDone_34 : decode cL_isDone 34 = .ok (.iload_n 2, 1) := by decide +kernel
theorem dL_isDone_35 : decode cL_isDone 35 = .ok (.iconst 3, 1) := by decide +kernel
theorem dL_isDone_36 : decode cL_isDone 36 = .ok (.iadd, 1) := by decide +kernel
theorem dL_isDone_37 : decode cL_isDone 37 = .ok (.sipush 8000, 3) := by decide +kernel
theorem dL_isDone_40 : decode cL_isDone 40 = .ok (.invokestatic 102, 3) := by decide +kernel
theorem dL_isDone_43 : decode cL_isDone 43 = .ok (.istore 9, 2) := by decide +kernel
theorem dL_isDone_45 : decode cL_isDone 45 = .ok (.iload 6, 2) := by decide +kernel
theorem dL_isDone_47 : decode cL_isDone 47 = .ok (.bipush 14, 2) := by decide +kernel
theorem dL_isDone_49 : decode cL_isDone 49 = .ok (.if_icmp .ge 75, 3) := by decide +kernel
theorem dL_isDone_52 : decode cL_isDone 52 = .ok (.iload 7, 2) := by decide +kernel
theorem dL_isDone_54 : decode cL_isDone 54 = .ok (.bipush 40, 2) := by decide +kernel
theorem dL_isDone_56 : decode cL_isDone 56 = .ok (.irem, 1) := by decide +kernel
theorem dL_isDone_57 : decode cL_isDone 57 = .ok (.ifCond .ne 19, 3) := by decide +kernel
theorem dL_isDone_60 : decode cL_isDone 60 = .ok (.aload_n 0, 1) := by decide +kernel
theorem dL_isDone_61 : decode cL_isDone 61 = .ok (.aload_n 3, 1) := by decide +kernel
theorem dL_isDone_62 : decode cL_isDone 62 = .ok (.bipush 10, 2) := by decide +kernel
theorem dL_isDone_64 : decode cL_isDone 64 = .ok (.iload 8, 2) := by decide +kernel
theorem dL_isDone_66 : decode cL_isDone 66 = .ok (.bipush 8, 2) := by decide +kernel
theorem dL_isDone_68 : decode cL_isDone 68 = .ok (.irem, 1) := by decide +kernel
theorem dL_isDone_69 : decode cL_isDone 69 = .ok (.iconst 5, 1) := by decide +kernel
theorem dL_isDone_70 : decode cL_isDone 70 = .ok (.invokestatic 105, 3) := by decide +kernel
theorem dL_isDone_73 : decode cL_isDone 73 = .ok (.goto 50, 3) := by decide +kernel
theorem dL_isDone_76 : decode cL_isDone 76 = .ok (.aload_n 0, 1) := by decide +kernel
theorem dL_isDone_77 : decode cL_isDone 77 = .ok (.aload_n 3, 1) := by decide +kernel
theorem dL_isDone_78 : decode cL_isDone 78 = .ok (.iload 7, 2) := by decide +kernel
theorem dL_isDone_80 : decode cL_isDone 80 = .ok (.bipush 8, 2) := by decide +kernel
theorem dL_isDone_82 : decode cL_isDone 82 = .ok (.irem, 1) := by decide +kernel
theorem dL_isDone_83 : decode cL_isDone 83 = .ok (.iload 8, 2) := by decide +kernel
theorem dL_isDone_85 : decode cL_isDone 85 = .ok (.bipush 8, 2) := by decide +kernel
theorem dL_isDone_87 : decode cL_isDone 87 = .ok (.irem, 1) := by decide +kernel
theorem dL_isDone_88 : decode cL_isDone 88 = .ok (.iload 9, 2) := by decide +kernel
theorem dL_isDone_90 : decode cL_isDone 90 = .ok (.bipush 30, 2) := by decide +kernel
theorem dL_isDone_92 : decode cL_isDone 92 = .ok (.irem, 1) := by decide +kernel
theorem dL_isDone_93 : decode cL_isDone 93 = .ok (.ifCond .ne 8, 3) := by decide +kernel
theorem dL_isDone_96 : decode cL_isDone 96 = .ok (.bipush 101, 2) := by decide +kernel
theorem dL_isDone_98 : decode cL_isDone 98 = .ok (.goto 22, 3) := by decide +kernel
theorem dL_isDone_101 : decode cL_isDone 101 = .ok (.iload 9, 2) := by decide +kernel
theorem dL_isDone_103 : decode cL_isDone 103 = .ok (.bipush 6, 2) := by decide +kernel
theorem dL_isDone_105 : decode cL_isDone 105 = .ok (.irem, 1) := by decide +kernel
theorem dL_isDone_106 : decode cL_isDone 106 = .ok (.ifCond .ne 7, 3) := by decide +kernel
theorem dL_isDone_109 : decode cL_isDone 109 = .ok (.iconst 0, 1) := by decide +kernel
theorem dL_isDone_110 : decode cL_isDone 110 = .ok (.goto 10, 3) := by decide +kernel
theorem dL_isDone_113 : decode cL_isDone 113 = .ok (.iconst 1, 1) := by decide +kernel
theorem dL_isDone_114 : decode cL_isDone 114 = .ok (.iload 9, 2) := by decide +kernel
theorem dL_isDone_116 : decode cL_isDone 116 = .ok (.bipush 40, 2) := by decide +kernel
theorem dL_isDone_118 : decode cL_isDone 118 = .ok (.irem, 1) := by decide +kernel
theorem dL_isDone_119 : decode cL_isDone 119 = .ok (.iadd, 1) := by decide +kernel
theorem dL_isDone_120 : decode cL_isDone 120 = .ok (.invokestatic 105, 3) := by decide +kernel
theorem dL_isDone_123 : decode cL_isDone 123 = .ok (.ireturn, 1) := by decide +kernel
theorem dL_isDone_124 : decode cL_isDone 124 = .ok (.iload 6, 2) := by decide +kernel
theorem dL_isDone_126 : decode cL_isDone 126 = .ok (.bipush 17, 2) := by decide +kernel
theorem dL_isDone_128 : decode cL_isDone 128 = .ok (.if_icmp .ge 31, 3) := by decide +kernel
theorem dL_isDone_131 : decode cL_isDone 131 = .ok (.aload_n 0, 1) := by decide +kernel
theorem dL_isDone_132 : decode cL_isDone 132 = .ok (.aload 4, 2) := by decide +kernel
theorem dL_isDone_134 : decode cL_isDone 134 = .ok (.aload 5, 2) := by decide +kernel
theorem dL_isDone_136 : decode cL_isDone 136 = .ok (.iconst 3, 1) := by decide +kernel
theorem dL_isDone_137 : decode cL_isDone 137 = .ok (.iload 7, 2) := by decide +kernel
theorem dL_isDone_139 : decode cL_isDone 139 = .ok (.bipush 30, 2) := by decide +kernel
theorem dL_isDone_141 : decode cL_isDone 141 = .ok (.irem, 1) := by decide +kernel
theorem dL_isDone_142 : decode cL_isDone 142 = .ok (.ifCond .ne 8, 3) := by decide +kernel
theorem dL_isDone_145 : decode cL_isDone 145 = .ok (.bipush 10, 2) := by decide +kernel
theorem dL_isDone_147 : decode cL_isDone 147 = .ok (.goto 8, 3) := by decide +kernel
theorem dL_isDone_150 : decode cL_isDone 150 = .ok (.iload 8, 2) := by decide +kernel
theorem dL_isDone_152 : decode cL_isDone 152 = .ok (.bipush 10, 2) := by decide +kernel
theorem dL_isDone_154 : decode cL_isDone 154 = .ok (.irem, 1) := by decide +kernel
theorem dL_isDone_155 : decode cL_isDone 155 = .ok (.invokestatic 109, 3) := by decide +kernel
theorem dL_isDone_158 : decode cL_isDone 158 = .ok (.ireturn, 1) := by decide +kernel
theorem dL_isDone_159 : decode cL_isDone 159 = .ok (.iload 6, 2) := by decide +kernel
theorem dL_isDone_161 : decode cL_isDone 161 = .ok (.bipush 19, 2) := by decide +kernel
theorem dL_isDone_163 : decode cL_isDone 163 = .ok (.if_icmp .ge 42, 3) := by decide +kernel
theorem dL_isDone_166 : decode cL_isDone 166 = .ok (.aload_n 0, 1) := by decide +kernel
theorem dL_isDone_167 : decode cL_isDone 167 = .ok (.aload 4, 2) := by decide +kernel
theorem dL_isDone_169 : decode cL_isDone 169 = .ok (.aload 5, 2) := by decide +kernel
theorem dL_isDone_171 : decode cL_isDone 171 = .ok (.iload 6, 2) := by decide +kernel
theorem dL_isDone_173 : decode cL_isDone 173 = .ok (.bipush 17, 2) := by decide +kernel
theorem dL_isDone_175 : decode cL_isDone 175 = .ok (.if_icmp .ne 7, 3) := by decide +kernel
theorem dL_isDone_178 : decode cL_isDone 178 = .ok (.iconst 4, 1) := by decide +kernel
theorem dL_isDone_179 : decode cL_isDone 179 = .ok (.goto 4, 3) := by decide +kernel
theorem dL_isDone_182 : decode cL_isDone 182 = .ok (.iconst 1, 1) := by decide +kernel
theorem dL_isDone_183 : decode cL_isDone 183 = .ok (.iload 7, 2) := by decide +kernel
theorem dL_isDone_185 : decode cL_isDone 185 = .ok (.bipush 30, 2) := by decide +kernel
theorem dL_isDone_187 : decode cL_isDone 187 = .ok (.irem, 1) := by decide +kernel
theorem dL_isDone_188 : decode cL_isDone 188 = .ok (.ifCond .ne 8, 3) := by decide +kernel
theorem dL_isDone_191 : decode cL_isDone 191 = .ok (.bipush 10, 2) := by decide +kernel
theorem dL_isDone_193 : decode cL_isDone 193 = .ok (.goto 8, 3) := by decide +kernel
theorem dL_isDone_196 : decode cL_isDone 196 = .ok (.iload 8, 2) := by decide +kernel
theorem dL_isDone_198 : decode cL_isDone 198 = .ok (.bipush 10, 2) := by decide +kernel
theorem dL_isDone_200 : decode cL_isDone 200 = .ok (.irem, 1) := by decide +kernel
theorem dL_isDone_201 : decode cL_isDone 201 = .ok (.invokestatic 109, 3) := by decide +kernel
theorem dL_isDone_204 : decode cL_isDone 204 = .ok (.ireturn, 1) := by decide +kernel
theorem dL_isDone_205 : decode cL_isDone 205 = .ok (.iload 6, 2) := by decide +kernel
theorem dL_isDone_207 : decode cL_isDone 207 = .ok (.bipush 19, 2) := by decide +kernel
theorem dL_isDone_209 : decode cL_isDone 209 = .ok (.if_icmp .ne 120, 3) := by decide +kernel
theorem dL_isDone_212 : decode cL_isDone 212 = .ok (.iload 7, 2) := by decide +kernel
theorem dL_isDone_214 : decode cL_isDone 214 = .ok (.bipush 30, 2) := by decide +kernel
theorem dL_isDone_216 : decode cL_isDone 216 = .ok (.irem, 1) := by decide +kernel
theorem dL_isDone_217 : decode cL_isDone 217 = .ok (.ifCond .ne 8, 3) := by decide +kernel
theorem dL_isDone_220 : decode cL_isDone 220 = .ok (.bipush 101, 2) := by decide +kernel
theorem dL_isDone_222 : decode cL_isDone 222 = .ok (.goto 8, 3) := by decide +kernel
theorem dL_isDone_225 : decode cL_isDone 225 = .ok (.iload 7, 2) := by decide +kernel
theorem dL_isDone_227 : decode cL_isDone 227 = .ok (.bipush 20, 2) := by decide +kernel
theorem dL_isDone_229 : decode cL_isDone 229 = .ok (.irem, 1) := by decide +kernel
theorem dL_isDone_230 : decode cL_isDone 230 = .ok (.istore 10, 2) := by decide +kernel
theorem dL_isDone_232 : decode cL_isDone 232 = .ok (.iload 8, 2) := by decide +kernel
theorem dL_isDone_234 : decode cL_isDone 234 = .ok (.bipush 10, 2) := by decide +kernel
theorem dL_isDone_236 : decode cL_isDone 236 = .ok (.irem, 1) := by decide +kernel
theorem dL_isDone_237 : decode cL_isDone 237 = .ok (.istore 11, 2) := by decide +kernel
theorem dL_isDone_239 : decode cL_isDone 239 = .ok (.iload 10, 2) := by decide +kernel
theorem dL_isDone_241 : decode cL_isDone 241 = .ok (.bipush 101, 2) := by decide +kernel
theorem dL_isDone_243 : decode cL_isDone 243 = .ok (.if_icmp .ge 29, 3) := by decide +kernel
theorem dL_isDone_246 : decode cL_isDone 246 = .ok (.iload 11, 2) := by decide +kernel
theorem dL_isDone_248 : decode cL_isDone 248 = .ok (.ifCond .le 24, 3) := by decide +kernel
theorem dL_isDone_251 : decode cL_isDone 251 = .ok (.iload 11, 2) := by decide +kernel
theorem dL_isDone_253 : decode cL_isDone 253 = .ok (.bipush 9, 2) := by decide +kernel
theorem dL_isDone_255 : decode cL_isDone 255 = .ok (.if_icmp .ge 17, 3) := by decide +kernel
theorem dL_isDone_258 : decode cL_isDone 258 = .ok (.iload 9, 2) := by decide +kernel
theorem dL_isDone_260 : decode cL_isDone 260 = .ok (.bipush 8, 2) := by decide +kernel
theorem dL_isDone_262 : decode cL_isDone 262 = .ok (.irem, 1) := by decide +kernel
theorem dL_isDone_263 : decode cL_isDone 263 = .ok (.bipush 7, 2) := by decide +kernel
theorem dL_isDone_265 : decode cL_isDone 265 = .ok (.if_icmp .ge 7, 3) := by decide +kernel
theorem dL_isDone_268 : decode cL_isDone 268 = .ok (.iconst 1, 1) := by decide +kernel
theorem dL_isDone_269 : decode cL_isDone 269 = .ok (.goto 4, 3) := by decide +kernel
theorem dL_isDone_272 : decode cL_isDone 272 = .ok (.iconst 0, 1) := by decide +kernel
theorem dL_isDone_273 : decode cL_isDone 273 = .ok (.istore 12, 2) := by decide +kernel
theorem dL_isDone_275 : decode cL_isDone 275 = .ok (.aload 5, 2) := by decide +kernel
theorem dL_isDone_277 : decode cL_isDone 277 = .ok (.iconst 1, 1) := by decide +kernel
theorem dL_isDone_278 : decode cL_isDone 278 = .ok (.iload 12, 2) := by decide +kernel
theorem dL_isDone_280 : decode cL_isDone 280 = .ok (.ifCond .eq 8, 3) := by decide +kernel
theorem dL_isDone_283 : decode cL_isDone 283 = .ok (.iload 11, 2) := by decide +kernel
theorem dL_isDone_285 : decode cL_isDone 285 = .ok (.goto 7, 3) := by decide +kernel
theorem dL_isDone_288 : decode cL_isDone 288 = .ok (.aload 5, 2) := by decide +kernel
theorem dL_isDone_290 : decode cL_isDone 290 = .ok (.iconst 1, 1) := by decide +kernel
theorem dL_isDone_291 : decode cL_isDone 291 = .ok (.iaload, 1) := by decide +kernel
theorem dL_isDone_292 : decode cL_isDone 292 = .ok (.iastore, 1) := by decide +kernel
theorem dL_isDone_293 : decode cL_isDone 293 = .ok (.aload_n 0, 1) := by decide +kernel
theorem dL_isDone_294 : decode cL_isDone 294 = .ok (.iconst 0, 1) := by decide +kernel
theorem dL_isDone_295 : decode cL_isDone 295 = .ok (.iload 10, 2) := by decide +kernel
theorem dL_isDone_297 : decode cL_isDone 297 = .ok (.iload 8, 2) := by decide +kernel
theorem dL_isDone_299 : decode cL_isDone 299 = .ok (.iload 11, 2) := by decide +kernel
theorem dL_isDone_301 : decode cL_isDone 301 = .ok (.iload 9, 2) := by decide +kernel
theorem dL_isDone_303 : decode cL_isDone 303 = .ok (.bipush 8, 2) := by decide +kernel
theorem dL_isDone_305 : decode cL_isDone 305 = .ok (.irem, 1) := by decide +kernel
theorem dL_isDone_306 : decode cL_isDone 306 = .ok (.invokestatic 80, 3) := by decide +kernel
theorem dL_isDone_309 : decode cL_isDone 309 = .ok (.iload 12, 2) := by decide +kernel
theorem dL_isDone_311 : decode cL_isDone 311 = .ok (.ifCond .eq 7, 3) := by decide +kernel
theorem dL_isDone_314 : decode cL_isDone 314 = .ok (.iconst 0, 1) := by decide +kernel
theorem dL_isDone_315 : decode cL_isDone 315 = .ok (.goto 5, 3) := by decide +kernel
theorem dL_isDone_318 : decode cL_isDone 318 = .ok (.bipush (-20), 2) := by decide +kernel
theorem dL_isDone_320 : decode cL_isDone 320 = .ok (.if_icmp .ne 7, 3) := by decide +kernel
theorem dL_isDone_323 : decode cL_isDone 323 = .ok (.iconst 1, 1) := by decide +kernel
theorem dL_isDone_324 : decode cL_isDone 324 = .ok (.goto 4, 3) := by decide +kernel
theorem dL_isDone_327 : decode cL_isDone 327 = .ok (.iconst 0, 1) := by decide +kernel
theorem dL_isDone_328 : decode cL_isDone 328 = .ok (.ireturn, 1) := by decide +kernel
theorem dL_isDone_329 : decode cL_isDone 329 = .ok (.iload 6, 2) := by decide +kernel
theorem dL_isDone_331 : decode cL_isDone 331 = .ok (.bipush 34, 2) := by decide +kernel
theorem dL_isDone_333 : decode cL_isDone 333 = .ok (.if_icmp .ge 43, 3) := by decide +kernel
theorem dL_isDone_336 : decode cL_isDone 336 = .ok (.iconst 1, 1) := by decide +kernel
theorem dL_isDone_337 : decode cL_isDone 337 = .ok (.istore 10, 2) := by decide +kernel
theorem dL_isDone_339 : decode cL_isDone 339 = .ok (.iconst 0, 1) := by decide +kernel
theorem dL_isDone_340 : decode cL_isDone 340 = .ok (.istore 11, 2) := by decide +kernel
theorem dL_isDone_342 : decode cL_isDone 342 = .ok (.iload 11, 2) := by decide +kernel
theorem dL_isDone_344 : decode cL_isDone 344 = .ok (.iconst 1, 1) := by decide +kernel
theorem dL_isDone_345 : decode cL_isDone 345 = .ok (.iload 7, 2) := by decide +kernel
theorem dL_isDone_347 : decode cL_isDone 347 = .ok (.iconst 4, 1) := by decide +kernel
theorem dL_isDone_348 : decode cL_isDone 348 = .ok (.irem, 1) := by decide +kernel
theorem dL_isDone_349 : decode cL_isDone 349 = .ok (.iadd, 1) := by decide +kernel
theorem dL_isDone_350 : decode cL_isDone 350 = .ok (.if_icmp .ge 23, 3) := by decide +kernel
theorem dL_isDone_353 : decode cL_isDone 353 = .ok (.iload 10, 2) := by decide +kernel
theorem dL_isDone_355 : decode cL_isDone 355 = .ok (.ifCond .eq 18, 3) := by decide +kernel
theorem dL_isDone_358 : decode cL_isDone 358 = .ok (.aload_n 0, 1) := by decide +kernel
theorem dL_isDone_359 : decode cL_isDone 359 = .ok (.aload_n 3, 1) := by decide +kernel
theorem dL_isDone_360 : decode cL_isDone 360 = .ok (.aload 5, 2) := by decide +kernel
theorem dL_isDone_362 : decode cL_isDone 362 = .ok (.invokestatic 113, 3) := by decide +kernel
theorem dL_isDone_365 : decode cL_isDone 365 = .ok (.istore 10, 2) := by decide +kernel
theorem dL_isDone_367 : decode cL_isDone 367 = .ok (.iinc 11 1, 3) := by decide +kernel
theorem dL_isDone_370 : decode cL_isDone 370 = .ok (.goto (-28), 3) := by decide +kernel
theorem dL_isDone_373 : decode cL_isDone 373 = .ok (.iload 10, 2) := by decide +kernel
theorem dL_isDone_375 : decode cL_isDone 375 = .ok (.ireturn, 1) := by decide +kernel
