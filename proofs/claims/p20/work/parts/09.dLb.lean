theorem dL_isNode_93 : decode cL_isNode 93 = .ok (.iadd, 1) := by decide +kernel
theorem dL_isNode_94 : decode cL_isNode 94 = .ok (.if_icmp .ne 7, 3) := by decide +kernel
theorem dL_isNode_97 : decode cL_isNode 97 = .ok (.iconst 1, 1) := by decide +kernel
theorem dL_isNode_98 : decode cL_isNode 98 = .ok (.goto 4, 3) := by decide +kernel
theorem dL_isNode_101 : decode cL_isNode 101 = .ok (.iconst 0, 1) := by decide +kernel
theorem dL_isNode_102 : decode cL_isNode 102 = .ok (.istore 8, 2) := by decide +kernel
theorem dL_isNode_104 : decode cL_isNode 104 = .ok (.goto 127, 3) := by decide +kernel
theorem dL_isNode_107 : decode cL_isNode 107 = .ok (.iload 6, 2) := by decide +kernel
theorem dL_isNode_109 : decode cL_isNode 109 = .ok (.ifCond .ge 32, 3) := by decide +kernel
theorem dL_isNode_112 : decode cL_isNode 112 = .ok (.iload 8, 2) := by decide +kernel
theorem dL_isNode_114 : decode cL_isNode 114 = .ok (.ifCond .eq 21, 3) := by decide +kernel
theorem dL_isNode_117 : decode cL_isNode 117 = .ok (.iload 6, 2) := by decide +kernel
theorem dL_isNode_119 : decode cL_isNode 119 = .ok (.iconst (-1), 1) := by decide +kernel
theorem dL_isNode_120 : decode cL_isNode 120 = .ok (.if_icmp .ne 15, 3) := by decide +kernel
theorem dL_isNode_123 : decode cL_isNode 123 = .ok (.iload 5, 2) := by decide +kernel
theorem dL_isNode_125 : decode cL_isNode 125 = .ok (.sipush 10000, 3) := by decide +kernel
theorem dL_isNode_128 : decode cL_isNode 128 = .ok (.if_icmp .ne 7, 3) := by decide +kernel
theorem dL_isNode_131 : decode cL_isNode 131 = .ok (.iconst 1, 1) := by decide +kernel
theorem dL_isNode_132 : decode cL_isNode 132 = .ok (.goto 4, 3) := by decide +kernel
theorem dL_isNode_135 : decode cL_isNode 135 = .ok (.iconst 0, 1) := by decide +kernel
theorem dL_isNode_136 : decode cL_isNode 136 = .ok (.istore 8, 2) := by decide +kernel
theorem dL_isNode_138 : decode cL_isNode 138 = .ok (.goto 93, 3) := by decide +kernel
theorem dL_isNode_141 : decode cL_isNode 141 = .ok (.iload 8, 2) := by decide +kernel
theorem dL_isNode_143 : decode cL_isNode 143 = .ok (.ifCond .eq 85, 3) := by decide +kernel
theorem dL_isNode_146 : decode cL_isNode 146 = .ok (.iload 6, 2) := by decide +kernel
theorem dL_isNode_148 : decode cL_isNode 148 = .ok (.bipush 10, 2) := by decide +kernel
theorem dL_isNode_150 : decode cL_isNode 150 = .ok (.if_icmp .ge 78, 3) := by decide +kernel
theorem dL_isNode_153 : decode cL_isNode 153 = .ok (.iload 5, 2) := by decide +kernel
theorem dL_isNode_155 : decode cL_isNode 155 = .ok (.ifCond .le 73, 3) := by decide +kernel
theorem dL_isNode_158 : decode cL_isNode 158 = .ok (.iload 5, 2) := by decide +kernel
theorem dL_isNode_160 : decode cL_isNode 160 = .ok (.sipush 10000, 3) := by decide +kernel
theorem dL_isNode_163 : decode cL_isNode 163 = .ok (.if_icmp .ge 65, 3) := by decide +kernel
theorem dL_isNode_166 : decode cL_isNode 166 = .ok (.aload_n 1, 1) := by decide +kernel
theorem dL_isNode_167 : decode cL_isNode 167 = .ok (.iload 4, 2) := by decide +kernel
theorem dL_isNode_169 : decode cL_isNode 169 = .ok (.iload 6, 2) := by decide +kernel
theorem dL_isNode_171 : decode cL_isNode 171 = .ok (.invokestatic 72, 3) := by decide +kernel
theorem dL_isNode_174 : decode cL_isNode 174 = .ok (.ifCond .le 54, 3) := by decide +kernel
theorem dL_isNode_177 : decode cL_isNode 177 = .ok (.iload 5, 2) := by decide +kernel
theorem dL_isNode_179 : decode cL_isNode 179 = .ok (.aload_n 0, 1) := by decide +kernel
theorem dL_isNode_180 : decode cL_isNode 180 = .ok (.iload 4, 2) := by decide +kernel
theorem dL_isNode_182 : decode cL_isNode 182 = .ok (.iload 6, 2) := by decide +kernel
theorem dL_isNode_184 : decode cL_isNode 184 = .ok (.invokevirtual 60, 3) := by decide +kernel
theorem dL_isNode_187 : decode cL_isNode 187 = .ok (.aload_n 1, 1) := by decide +kernel
theorem dL_isNode_188 : decode cL_isNode 188 = .ok (.iload 4, 2) := by decide +kernel
theorem dL_isNode_190 : decode cL_isNode 190 = .ok (.iload 6, 2) := by decide +kernel
theorem dL_isNode_192 : decode cL_isNode 192 = .ok (.invokestatic 72, 3) := by decide +kernel
theorem dL_isNode_195 : decode cL_isNode 195 = .ok (.iadd, 1) := by decide +kernel
theorem dL_isNode_196 : decode cL_isNode 196 = .ok (.if_icmp .ne 32, 3) := by decide +kernel
theorem dL_isNode_199 : decode cL_isNode 199 = .ok (.iload 7, 2) := by decide +kernel
theorem dL_isNode_201 : decode cL_isNode 201 = .ok (.bipush 10, 2) := by decide +kernel
theorem dL_isNode_203 : decode cL_isNode 203 = .ok (.if_icmp .lt 25, 3) := by decide +kernel
theorem dL_isNode_206 : decode cL_isNode 206 = .ok (.aload_n 2, 1) := by decide +kernel
theorem dL_isNode_207 : decode cL_isNode 207 = .ok (.bipush 10, 2) := by decide +kernel
theorem dL_isNode_209 : decode cL_isNode 209 = .ok (.iload 7, 2) := by decide +kernel
theorem dL_isNode_211 : decode cL_isNode 211 = .ok (.bipush 10, 2) := by decide +kernel
theorem dL_isNode_213 : decode cL_isNode 213 = .ok (.irem, 1) := by decide +kernel
theorem dL_isNode_214 : decode cL_isNode 214 = .ok (.iadd, 1) := by decide +kernel
theorem dL_isNode_215 : decode cL_isNode 215 = .ok (.iaload, 1) := by decide +kernel
theorem dL_isNode_216 : decode cL_isNode 216 = .ok (.iload 7, 2) := by decide +kernel
theorem dL_isNode_218 : decode cL_isNode 218 = .ok (.bipush 10, 2) := by decide +kernel
theorem dL_isNode_220 : decode cL_isNode 220 = .ok (.idiv, 1) := by decide +kernel
theorem dL_isNode_221 : decode cL_isNode 221 = .ok (.if_icmp .lt 7, 3) := by decide +kernel
theorem dL_isNode_224 : decode cL_isNode 224 = .ok (.iconst 1, 1) := by decide +kernel
theorem dL_isNode_225 : decode cL_isNode 225 = .ok (.goto 4, 3) := by decide +kernel
theorem dL_isNode_228 : decode cL_isNode 228 = .ok (.iconst 0, 1) := by decide +kernel
theorem dL_isNode_229 : decode cL_isNode 229 = .ok (.istore 8, 2) := by decide +kernel
theorem dL_isNode_231 : decode cL_isNode 231 = .ok (.iconst 0, 1) := by decide +kernel
theorem dL_isNode_232 : decode cL_isNode 232 = .ok (.istore 9, 2) := by decide +kernel
theorem dL_isNode_234 : decode cL_isNode 234 = .ok (.iload 9, 2) := by decide +kernel
theorem dL_isNode_236 : decode cL_isNode 236 = .ok (.bipush 10, 2) := by decide +kernel
theorem dL_isNode_238 : decode cL_isNode 238 = .ok (.if_icmp .ge 62, 3) := by decide +kernel
theorem dL_isNode_241 : decode cL_isNode 241 = .ok (.iload 8, 2) := by decide +kernel
theorem dL_isNode_243 : decode cL_isNode 243 = .ok (.ifCond .eq 57, 3) := by decide +kernel
theorem dL_isNode_246 : decode cL_isNode 246 = .ok (.aload_n 0, 1) := by decide +kernel
theorem dL_isNode_247 : decode cL_isNode 247 = .ok (.iload 4, 2) := by decide +kernel
theorem dL_isNode_249 : decode cL_isNode 249 = .ok (.iload 9, 2) := by decide +kernel
theorem dL_isNode_251 : decode cL_isNode 251 = .ok (.invokevirtual 60, 3) := by decide +kernel
theorem dL_isNode_254 : decode cL_isNode 254 = .ok (.istore 10, 2) := by decide +kernel
theorem dL_isNode_256 : decode cL_isNode 256 = .ok (.iload 10, 2) := by decide +kernel
theorem dL_isNode_258 : decode cL_isNode 258 = .ok (.iconst (-1), 1) := by decide +kernel
theorem dL_isNode_259 : decode cL_isNode 259 = .ok (.if_icmp .lt 32, 3) := by decide +kernel
theorem dL_isNode_262 : decode cL_isNode 262 = .ok (.iload 10, 2) := by decide +kernel
theorem dL_isNode_264 : decode cL_isNode 264 = .ok (.sipush 10001, 3) := by decide +kernel
theorem dL_isNode_267 : decode cL_isNode 267 = .ok (.if_icmp .ge 24, 3) := by decide +kernel
theorem dL_isNode_270 : decode cL_isNode 270 = .ok (.aload_n 1, 1) := by decide +kernel
theorem dL_isNode_271 : decode cL_isNode 271 = .ok (.iload 4, 2) := by decide +kernel
theorem dL_isNode_273 : decode cL_isNode 273 = .ok (.iload 9, 2) := by decide +kernel
theorem dL_isNode_275 : decode cL_isNode 275 = .ok (.invokestatic 72, 3) := by decide +kernel
theorem dL_isNode_278 : decode cL_isNode 278 = .ok (.ifCond .gt 9, 3) := by decide +kernel
theorem dL_isNode_281 : decode cL_isNode 281 = .ok (.iload 10, 2) := by decide +kernel
theorem dL_isNode_283 : decode cL_isNode 283 = .ok (.iconst (-1), 1) := by decide +kernel
theorem dL_isNode_284 : decode cL_isNode 284 = .ok (.if_icmp .ne 7, 3) := by decide +kernel
theorem dL_isNode_287 : decode cL_isNode 287 = .ok (.iconst 1, 1) := by decide +kernel
theorem dL_isNode_288 : decode cL_isNode 288 = .ok (.goto 4, 3) := by decide +kernel
theorem dL_isNode_291 : decode cL_isNode 291 = .ok (.iconst 0, 1) := by decide +kernel
theorem dL_isNode_292 : decode cL_isNode 292 = .ok (.istore 8, 2) := by decide +kernel
theorem dL_isNode_294 : decode cL_isNode 294 = .ok (.iinc 9 1, 3) := by decide +kernel
theorem dL_isNode_297 : decode cL_isNode 297 = .ok (.goto (-63), 3) := by decide +kernel
theorem dL_isNode_300 : decode cL_isNode 300 = .ok (.iload 8, 2) := by decide +kernel
theorem dL_isNode_302 : decode cL_isNode 302 = .ok (.ireturn, 1) := by decide +kernel
set_option maxRecDepth 20000 in
theorem ggL_isLeast_L_cost : GoodIn wsL_isLeast wsL_cost := goodIn_r _ [4] (by decide +kernel) (by decide +kernel)
set_option maxRecDepth 20000 in
theorem gL_isLeast_L_cost : GoodIn wsL_isLeast (va_wsS RL 72 yL_cost wsL_cost) := goodIn_app (goodIn_of _ (by decide +kernel)) ggL_isLeast_L_cost
set_option maxRecDepth 20000 in
theorem ggL_isLeast_X0_leastRank : GoodIn wsL_isLeast wsX0_leastRank := goodIn_ca (goodIn_r _ [9, 10, 11, 12, 13, 8, 14, 15, 16, 17, 18, 19, 20, 21, 22, 23, 24, 25, 26, 27, 28, 29, 30, 31, 32, 33, 34, 35, 36, 37, 38, 39, 40, 41, 42, 43, 44, 45, 46, 47, 48] (by decide +kernel) (by decide +kernel)) (goodIn_sub (fun _ h => List.mem_cons_of_mem _ (List.mem_append_right _ h)) (by decide +kernel))
set_option maxRecDepth 20000 in
theorem gL_isLeast_X0_leastRank : GoodIn wsL_isLeast (wsV RL 63 RX0 yX0_leastRank wsX0_leastRank) := goodIn_app (goodIn_of _ (by decide +kernel)) ggL_isLeast_X0_leastRank
theorem dL_isLeast_0 : decode cL_isLeast 0 = .ok (.iconst 1, 1) := by decide +kernel
theorem dL_isLeast_1 : decode cL_isLeast 1 = .ok (.istore_n 3, 1) := by decide +kernel
theorem dL_isLeast_2 : decode cL_isLeast 2 = .ok (.iconst 0, 1) := by decide +kernel
theorem dL_isLeast_3 : decode cL_isLeast 3 = .ok (.istore 4, 2) := by decide +kernel
theorem dL_isLeast_5 : decode cL_isLeast 5 = .ok (.iload 4, 2) := by decide +kernel
theorem dL_isLeast_7 : decode cL_isLeast 7 = .ok (.bipush 10, 2) := by decide +kernel
theorem dL_isLeast_9 : decode cL_isLeast 9 = .ok (.if_icmp .ge 113, 3) := by decide +kernel
theorem dL_isLeast_12 : decode cL_isLeast 12 = .ok (.iload_n 3, 1) := by decide +kernel
theorem dL_isLeast_13 : decode cL_isLeast 13 = .ok (.ifCond .eq 109, 3) := by decide +kernel
theorem dL_isLeast_16 : decode cL_isLeast 16 = .ok (.aload_n 2, 1) := by decide +kernel
theorem dL_isLeast_17 : decode cL_isLeast 17 = .ok (.iload 4, 2) := by decide +kernel
theorem dL_isLeast_19 : decode cL_isLeast 19 = .ok (.iaload, 1) := by decide +kernel
theorem dL_isLeast_20 : decode cL_isLeast 20 = .ok (.iconst 1, 1) := by decide +kernel
theorem dL_isLeast_21 : decode cL_isLeast 21 = .ok (.if_icmp .ne 7, 3) := by decide +kernel
theorem dL_isLeast_24 : decode cL_isLeast 24 = .ok (.iconst 0, 1) := by decide +kernel
theorem dL_isLeast_25 : decode cL_isLeast 25 = .ok (.goto 6, 3) := by decide +kernel
theorem dL_isLeast_28 : decode cL_isLeast 28 = .ok (.sipush 10000, 3) := by decide +kernel
theorem dL_isLeast_31 : decode cL_isLeast 31 = .ok (.istore 5, 2) := by decide +kernel
theorem dL_isLeast_33 : decode cL_isLeast 33 = .ok (.iconst 0, 1) := by decide +kernel
theorem dL_isLeast_34 : decode cL_isLeast 34 = .ok (.istore 6, 2) := by decide +kernel
theorem dL_isLeast_36 : decode cL_isLeast 36 = .ok (.iload 6, 2) := by decide +kernel
theorem dL_isLeast_38 : decode cL_isLeast 38 = .ok (.bipush 8, 2) := by decide +kernel
theorem dL_isLeast_40 : decode cL_isLeast 40 = .ok (.if_icmp .ge 59, 3) := by decide +kernel
theorem dL_isLeast_43 : decode cL_isLeast 43 = .ok (.aload_n 1, 1) := by decide +kernel
theorem dL_isLeast_44 : decode cL_isLeast 44 = .ok (.iload 4, 2) := by decide +kernel
theorem dL_isLeast_46 : decode cL_isLeast 46 = .ok (.iload 6, 2) := by decide +kernel
theorem dL_isLeast_48 : decode cL_isLeast 48 = .ok (.invokestatic 72, 3) := by decide +kernel
theorem dL_isLeast_51 : decode cL_isLeast 51 = .ok (.ifCond .le 21, 3) := by decide +kernel
theorem dL_isLeast_54 : decode cL_isLeast 54 = .ok (.aload_n 0, 1) := by decide +kernel
theorem dL_isLeast_55 : decode cL_isLeast 55 = .ok (.iload 6, 2) := by decide +kernel
theorem dL_isLeast_57 : decode cL_isLeast 57 = .ok (.invokevirtual 63, 3) := by decide +kernel
theorem dL_isLeast_60 : decode cL_isLeast 60 = .ok (.aload_n 1, 1) := by decide +kernel
theorem dL_isLeast_61 : decode cL_isLeast 61 = .ok (.iload 4, 2) := by decide +kernel
theorem dL_isLeast_63 : decode cL_isLeast 63 = .ok (.iload 6, 2) := by decide +kernel
theorem dL_isLeast_65 : decode cL_isLeast 65 = .ok (.invokestatic 72, 3) := by decide +kernel
theorem dL_isLeast_68 : decode cL_isLeast 68 = .ok (.iadd, 1) := by decide +kernel
theorem dL_isLeast_69 : decode cL_isLeast 69 = .ok (.goto 6, 3) := by decide +kernel
theorem dL_isLeast_72 : decode cL_isLeast 72 = .ok (.sipush 10000, 3) := by decide +kernel
theorem dL_isLeast_75 : decode cL_isLeast 75 = .ok (.istore 7, 2) := by decide +kernel
theorem dL_isLeast_77 : decode cL_isLeast 77 = .ok (.iload 7, 2) := by decide +kernel
theorem dL_isLeast_79 : decode cL_isLeast 79 = .ok (.iload 5, 2) := by decide +kernel
theorem dL_isLeast_81 : decode cL_isLeast 81 = .ok (.if_icmp .ge 8, 3) := by decide +kernel
theorem dL_isLeast_84 : decode cL_isLeast 84 = .ok (.iload 7, 2) := by decide +kernel
theorem dL_isLeast_86 : decode cL_isLeast 86 = .ok (.goto 5, 3) := by decide +kernel
theorem dL_isLeast_89 : decode cL_isLeast 89 = .ok (.iload 5, 2) := by decide +kernel
theorem dL_isLeast_91 : decode cL_isLeast 91 = .ok (.istore 5, 2) := by decide +kernel
theorem dL_isLeast_93 : decode cL_isLeast 93 = .ok (.iinc 6 1, 3) := by decide +kernel
theorem dL_isLeast_96 : decode cL_isLeast 96 = .ok (.goto (-60), 3) := by decide +kernel
theorem dL_isLeast_99 : decode cL_isLeast 99 = .ok (.aload_n 0, 1) := by decide +kernel
theorem dL_isLeast_100 : decode cL_isLeast 100 = .ok (.iload 4, 2) := by decide +kernel
theorem dL_isLeast_102 : decode cL_isLeast 102 = .ok (.invokevirtual 63, 3) := by decide +kernel
theorem dL_isLeast_105 : decode cL_isLeast 105 = .ok (.iload 5, 2) := by decide +kernel
theorem dL_isLeast_107 : decode cL_isLeast 107 = .ok (.if_icmp .ne 7, 3) := by decide +kernel
theorem dL_isLeast_110 : decode cL_isLeast 110 = .ok (.iconst 1, 1) := by decide +kernel
theorem dL_isLeast_111 : decode cL_isLeast 111 = .ok (.goto 4, 3) := by decide +kernel
theorem dL_isLeast_114 : decode cL_isLeast 114 = .ok (.iconst 0, 1) := by decide +kernel
theorem dL_isLeast_115 : decode cL_isLeast 115 = .ok (.istore_n 3, 1) := by decide +kernel
theorem dL_isLeast_116 : decode cL_isLeast 116 = .ok (.iinc 4 1, 3) := by decide +kernel
theorem dL_isLeast_119 : decode cL_isLeast 119 = .ok (.goto (-114), 3) := by decide +kernel
theorem dL_isLeast_122 : decode cL_isLeast 122 = .ok (.iload_n 3, 1) := by decide +kernel
theorem dL_isLeast_123 : decode cL_isLeast 123 = .ok (.ireturn, 1) := by decide +kernel
set_option maxRecDepth 20000 in
theorem ggL_isPacket_X0_parent : GoodIn wsL_isPacket wsX0_parent := goodIn_ca (goodIn_r _ [5, 6, 7, 8, 4, 9, 10, 11, 12, 13, 14, 30, 31, 32, 33, 34, 35, 36, 37, 38, 39, 40, 41, 42, 43, 44, 45, 46, 47, 48, 49] (by decide +kernel) (by decide +kernel)) (goodIn_sub (fun _ h => List.mem_cons_of_mem _ (List.mem_append_right _ h)) (by decide +kernel))
set_option maxRecDepth 20000 in
theorem gL_isPacket_X0_parent : GoodIn wsL_isPacket (wsV RL 51 RX0 yX0_parent wsX0_parent) := goodIn_app (goodIn_of _ (by decide +kernel)) ggL_isPacket_X0_parent
set_option maxRecDepth 20000 in
theorem ggL_isPacket_X0_rank : GoodIn wsL_isPacket wsX0_rank := goodIn_ca (goodIn_r _ [18, 19, 7, 8, 4, 9, 10, 11, 12, 13, 14, 30, 31, 32, 33, 34, 35, 36, 37, 38, 39, 40, 41, 42, 43, 44, 45, 46, 47, 48, 49] (by decide +kernel) (by decide +kernel)) (goodIn_sub (fun _ h => List.mem_cons_of_mem _ (List.mem_append_right _ h)) (by decide +kernel))
set_option maxRecDepth 20000 in
theorem gL_isPacket_X0_rank : GoodIn wsL_isPacket (wsV RL 48 RX0 yX0_rank wsX0_rank) := goodIn_app (goodIn_of _ (by decide +kernel)) ggL_isPacket_X0_rank
set_option maxRecDepth 20000 in
theorem ggL_isPacket_X0_up : GoodIn wsL_isPacket wsX0_up := goodIn_ca (goodIn_r _ [23, 24, 6, 19, 25, 7, 8, 4, 9, 10, 11, 12, 13, 14, 30, 31, 32, 33, 34, 35, 36, 37, 38, 39, 40, 41, 42, 43, 44, 45, 46, 47, 48, 49] (by decide +kernel) (by decide +kernel)) (goodIn_sub (fun _ h => List.mem_cons_of_mem _ (List.mem_append_right _ h)) (by decide +kernel))
set_option maxRecDepth 20000 in
theorem gL_isPacket_X0_up : GoodIn wsL_isPacket (wsV RL 66 RX0 yX0_up wsX0_up) := goodIn_app (goodIn_of _ (by decide +kernel)) ggL_isPacket_X0_up
set_option maxRecDepth 20000 in
theorem ggL_isPacket_X0_loops : GoodIn wsL_isPacket wsX0_loops := goodIn_r _ [29, 25, 30, 31, 32, 33, 34, 35, 36, 37, 38, 39, 40, 41, 42, 43, 44, 45, 46, 47, 48, 49] (by decide +kernel) (by decide +kernel)
set_option maxRecDepth 20000 in
theorem gL_isPacket_X0_loops : GoodIn wsL_isPacket (wsV RL 76 RX0 yX0_loops wsX0_loops) := goodIn_app (goodIn_of _ (by decide +kernel)) ggL_isPacket_X0_loops
theorem dL_isPacket_0 : decode cL_isPacket 0 = .ok (.iload_n 3, 1) := by decide +kernel
theorem dL_isPacket_1 : decode cL_isPacket 1 = .ok (.istore 4, 2) := by decide +kernel
theorem dL_isPacket_3 : decode cL_isPacket 3 = .ok (.iconst 0, 1) := by decide +kernel
theorem dL_isPacket_4 : decode cL_isPacket 4 = .ok (.istore 5, 2) := by decide +kernel
theorem dL_isPacket_6 : decode cL_isPacket 6 = .ok (.iconst 0, 1) := by decide +kernel
theorem dL_isPacket_7 : decode cL_isPacket 7 = .ok (.istore 6, 2) := by decide +kernel
theorem dL_isPacket_9 : decode cL_isPacket 9 = .ok (.aload_n 1, 1) := by decide +kernel
theorem dL_isPacket_10 : decode cL_isPacket 10 = .ok (.iload 4, 2) := by decide +kernel
theorem dL_isPacket_12 : decode cL_isPacket 12 = .ok (.iaload, 1) := by decide +kernel
theorem dL_isPacket_13 : decode cL_isPacket 13 = .ok (.ifCond .ne 61, 3) := by decide +kernel
theorem dL_isPacket_16 : decode cL_isPacket 16 = .ok (.aload_n 0, 1) := by decide +kernel
theorem dL_isPacket_17 : decode cL_isPacket 17 = .ok (.iload 4, 2) := by decide +kernel
theorem dL_isPacket_19 : decode cL_isPacket 19 = .ok (.invokevirtual 51, 3) := by decide +kernel
theorem dL_isPacket_22 : decode cL_isPacket 22 = .ok (.ifCond .lt 52, 3) := by decide +kernel
theorem dL_isPacket_25 : decode cL_isPacket 25 = .ok (.iload 6, 2) := by decide +kernel
theorem dL_isPacket_27 : decode cL_isPacket 27 = .ok (.iconst 2, 1) := by decide +kernel
theorem dL_isPacket_28 : decode cL_isPacket 28 = .ok (.if_icmp .ge 46, 3) := by decide +kernel
theorem dL_isPacket_31 : decode cL_isPacket 31 = .ok (.iload 6, 2) := by decide +kernel
theorem dL_isPacket_33 : decode cL_isPacket 33 = .ok (.aload_n 0, 1) := by decide +kernel
theorem dL_isPacket_34 : decode cL_isPacket 34 = .ok (.aload_n 0, 1) := by decide +kernel
theorem dL_isPacket_35 : decode cL_isPacket 35 = .ok (.iload 4, 2) := by decide +kernel
theorem dL_isPacket_37 : decode cL_isPacket 37 = .ok (.invokevirtual 51, 3) := by decide +kernel
theorem dL_isPacket_40 : decode cL_isPacket 40 = .ok (.invokevirtual 48, 3) := by decide +kernel
theorem dL_isPacket_43 : decode cL_isPacket 43 = .ok (.aload_n 0, 1) := by decide +kernel
theorem dL_isPacket_44 : decode cL_isPacket 44 = .ok (.iload 4, 2) := by decide +kernel
theorem dL_isPacket_46 : decode cL_isPacket 46 = .ok (.invokevirtual 48, 3) := by decide +kernel
theorem dL_isPacket_49 : decode cL_isPacket 49 = .ok (.if_icmp .lt 7, 3) := by decide +kernel
theorem dL_isPacket_52 : decode cL_isPacket 52 = .ok (.iconst 1, 1) := by decide +kernel
theorem dL_isPacket_53 : decode cL_isPacket 53 = .ok (.goto 4, 3) := by decide +kernel
theorem dL_isPacket_56 : decode cL_isPacket 56 = .ok (.iconst 0, 1) := by decide +kernel
theorem dL_isPacket_57 : decode cL_isPacket 57 = .ok (.iadd, 1) := by decide +kernel
theorem dL_isPacket_58 : decode cL_isPacket 58 = .ok (.istore 6, 2) := by decide +kernel
theorem dL_isPacket_60 : decode cL_isPacket 60 = .ok (.aload_n 0, 1) := by decide +kernel
theorem dL_isPacket_61 : decode cL_isPacket 61 = .ok (.iload 4, 2) := by decide +kernel
theorem dL_isPacket_63 : decode cL_isPacket 63 = .ok (.invokevirtual 51, 3) := by decide +kernel
theorem dL_isPacket_66 : decode cL_isPacket 66 = .ok (.istore 4, 2) := by decide +kernel
theorem dL_isPacket_68 : decode cL_isPacket 68 = .ok (.iinc 5 1, 3) := by decide +kernel
theorem dL_isPacket_71 : decode cL_isPacket 71 = .ok (.goto (-62), 3) := by decide +kernel
theorem dL_isPacket_74 : decode cL_isPacket 74 = .ok (.aload_n 2, 1) := by decide +kernel
theorem dL_isPacket_75 : decode cL_isPacket 75 = .ok (.iconst 2, 1) := by decide +kernel
theorem dL_isPacket_76 : decode cL_isPacket 76 = .ok (.dup2, 1) := by decide +kernel
theorem dL_isPacket_77 : decode cL_isPacket 77 = .ok (.iaload, 1) := by decide +kernel
theorem dL_isPacket_78 : decode cL_isPacket 78 = .ok (.iload 6, 2) := by decide +kernel
theorem dL_isPacket_80 : decode cL_isPacket 80 = .ok (.iconst 2, 1) := by decide +kernel
theorem dL_isPacket_81 : decode cL_isPacket 81 = .ok (.if_icmp .ne 7, 3) := by decide +kernel
theorem dL_isPacket_84 : decode cL_isPacket 84 = .ok (.iconst 1, 1) := by decide +kernel
theorem dL_isPacket_85 : decode cL_isPacket 85 = .ok (.goto 4, 3) := by decide +kernel
theorem dL_isPacket_88 : decode cL_isPacket 88 = .ok (.iconst 0, 1) := by decide +kernel
theorem dL_isPacket_89 : decode cL_isPacket 89 = .ok (.iadd, 1) := by decide +kernel
theorem dL_isPacket_90 : decode cL_isPacket 90 = .ok (.iastore, 1) := by decide +kernel
theorem dL_isPacket_91 : decode cL_isPacket 91 = .ok (.aload_n 0, 1) := by decide +kernel
theorem dL_isPacket_92 : decode cL_isPacket 92 = .ok (.iload_n 3, 1) := by decide +kernel
theorem dL_isPacket_93 : decode cL_isPacket 93 = .ok (.invokevirtual 66, 3) := by decide +kernel
theorem dL_isPacket_96 : decode cL_isPacket 96 = .ok (.iload 6, 2) := by decide +kernel
theorem dL_isPacket_98 : decode cL_isPacket 98 = .ok (.iconst 2, 1) := by decide +kernel
theorem dL_isPacket_99 : decode cL_isPacket 99 = .ok (.if_icmp .ne 8, 3) := by decide +kernel
theorem dL_isPacket_102 : decode cL_isPacket 102 = .ok (.bipush (-2), 2) := by decide +kernel
theorem dL_isPacket_104 : decode cL_isPacket 104 = .ok (.goto 17, 3) := by decide +kernel
theorem dL_isPacket_107 : decode cL_isPacket 107 = .ok (.aload_n 1, 1) := by decide +kernel
theorem dL_isPacket_108 : decode cL_isPacket 108 = .ok (.iload 4, 2) := by decide +kernel
theorem dL_isPacket_110 : decode cL_isPacket 110 = .ok (.iaload, 1) := by decide +kernel
theorem dL_isPacket_111 : decode cL_isPacket 111 = .ok (.iconst 1, 1) := by decide +kernel
theorem dL_isPacket_112 : decode cL_isPacket 112 = .ok (.if_icmp .ne 8, 3) := by decide +kernel
theorem dL_isPacket_115 : decode cL_isPacket 115 = .ok (.iload 5, 2) := by decide +kernel
theorem dL_isPacket_117 : decode cL_isPacket 117 = .ok (.goto 4, 3) := by decide +kernel
theorem dL_isPacket_120 : decode cL_isPacket 120 = .ok (.iconst (-1), 1) := by decide +kernel
theorem dL_isPacket_121 : decode cL_isPacket 121 = .ok (.if_icmp .ne 17, 3) := by decide +kernel
theorem dL_isPacket_124 : decode cL_isPacket 124 = .ok (.aload_n 0, 1) := by decide +kernel
theorem dL_isPacket_125 : decode cL_isPacket 125 = .ok (.invokevirtual 76, 3) := by decide +kernel
theorem dL_isPacket_128 : decode cL_isPacket 128 = .ok (.aload_n 2, 1) := by decide +kernel
theorem dL_isPacket_129 : decode cL_isPacket 129 = .ok (.iconst 2, 1) := by decide +kernel
theorem dL_isPacket_130 : decode cL_isPacket 130 = .ok (.iaload, 1) := by decide +kernel
theorem dL_isPacket_131 : decode cL_isPacket 131 = .ok (.if_icmp .ne 7, 3) := by decide +kernel
theorem dL_isPacket_134 : decode cL_isPacket 134 = .ok (.iconst 1, 1) := by decide +kernel
theorem dL_isPacket_135 : decode cL_isPacket 135 = .ok (.goto 4, 3) := by decide +kernel
theorem dL_isPacket_138 : decode cL_isPacket 138 = .ok (.iconst 0, 1) := by decide +kernel
theorem dL_isPacket_139 : decode cL_isPacket 139 = .ok (.ireturn, 1) := by decide +kernel
set_option maxRecDepth 20000 in
theorem ggL_isBelow_X0_below : GoodIn wsL_isBelow wsX0_below := goodIn_ca (goodIn_r _ [5, 6, 7, 4, 8, 9, 10, 11, 12, 13, 14, 15, 16, 17, 18, 161, 162, 163, 164, 165, 166, 167, 168, 169, 170, 171, 172, 173, 174, 175, 176, 177, 178, 179, 180] (by decide +kernel) (by decide +kernel)) (goodIn_sub (fun _ h => List.mem_cons_of_mem _ (List.mem_append_left _ (List.mem_append_left _ (List.mem_append_right _ h)))) (by decide +kernel))
set_option maxRecDepth 20000 in
theorem gL_isBelow_X0_below : GoodIn wsL_isBelow (wsV RL 69 RX0 yX0_below wsX0_below) := goodIn_app (goodIn_of _ (by decide +kernel)) ggL_isBelow_X0_below
set_option maxRecDepth 20000 in
theorem ggL_isBelow_X0_parent : GoodIn wsL_isBelow wsX0_parent := goodIn_ca (goodIn_r _ [22, 18, 6, 7, 4, 8, 9, 10, 11, 12, 13, 161, 162, 163, 164, 165, 166, 167, 168, 169, 170, 171, 172, 173, 174, 175, 176, 177, 178, 179, 180] (by decide +kernel) (by decide +kernel)) (goodIn_sub (fun _ h => List.mem_cons_of_mem _ (List.mem_append_left _ (List.mem_append_left _ (List.mem_append_right _ h)))) (by decide +kernel))
set_option maxRecDepth 20000 in
theorem gL_isBelow_X0_parent : GoodIn wsL_isBelow (wsV RL 51 RX0 yX0_parent wsX0_parent) := goodIn_app (goodIn_of _ (by decide +kernel)) ggL_isBelow_X0_parent
set_option maxRecDepth 20000 in
theorem ggL_isBelow_L_does : GoodIn wsL_isBelow wsL_does := goodIn_ca (goodIn_ca (goodIn_ca (goodIn_r _ [26, 27, 28, 29, 30, 31, 25, 32, 33, 34, 35, 4, 36, 37, 38, 39, 40, 41, 42, 43, 44, 45, 46, 47, 48, 49, 50, 51, 52, 53, 54, 55, 56, 6, 7, 8, 9, 10, 11, 12, 13, 57, 58, 59, 60, 61, 62, 63, 64, 18, 65, 66, 67, 68, 69, 70, 71, 72, 73, 74, 75, 76, 77, 78, 79, 80, 81, 82, 83, 84, 85, 86, 87, 88, 89, 90, 91, 92, 93, 94, 95, 96, 97, 98, 99, 100, 101, 102, 103, 104, 105, 106, 107, 108, 109, 110, 111, 112, 113, 114, 115, 116, 117, 118, 119, 120, 121, 122, 123, 124, 125, 126, 127, 128, 129, 130, 131, 132, 133, 134, 135, 136, 137, 138, 139, 140, 141, 142, 143, 144, 145, 146, 147, 148, 149, 150, 151, 152, 153, 154, 155, 156, 157, 158, 159, 160, 161, 162, 163, 164, 165, 166, 167, 168, 169, 170, 171, 172, 173, 174, 175, 176, 177, 178, 179, 180] (by decide +kernel) (by decide +kernel)) (goodIn_sub (fun _ h => List.mem_cons_of_mem _ (List.mem_append_left _ (List.mem_append_right _ h))) (by decide +kernel))) (goodIn_sub (fun _ h => List.mem_cons_of_mem _ (List.mem_append_right _ h)) (by decide +kernel))) (goodIn_sub (fun _ h => List.mem_cons_of_mem _ (List.mem_append_left _ (List.mem_append_left _ (List.mem_append_right _ h)))) (by decide +kernel))
set_option maxRecDepth 20000 in
theorem gL_isBelow_L_does : GoodIn wsL_isBelow (va_wsS RL 80 yL_does wsL_does) := goodIn_app (goodIn_of _ (by decide +kernel)) ggL_isBelow_L_does
theorem dL_isBelow_0 : decode cL_isBelow 0 = .ok (.aload_n 0, 1) := by decide +kernel
theorem dL_isBelow_1 : decode cL_isBelow 1 = .ok (.iload_n 1, 1) := by decide +kernel
theorem dL_isBelow_2 : decode cL_isBelow 2 = .ok (.invokevirtual 69, 3) := by decide +kernel
theorem dL_isBelow_5 : decode cL_isBelow 5 = .ok (.istore_n 3, 1) := by decide +kernel
