theorem dL_isLink_66 : decode cL_isLink 66 = .ok (.iastore, 1) := by decide +kernel
theorem dL_isLink_67 : decode cL_isLink 67 = .ok (.aload_n 0, 1) := by decide +kernel
theorem dL_isLink_68 : decode cL_isLink 68 = .ok (.iconst 2, 1) := by decide +kernel
theorem dL_isLink_69 : decode cL_isLink 69 = .ok (.iload_n 2, 1) := by decide +kernel
theorem dL_isLink_70 : decode cL_isLink 70 = .ok (.iload_n 3, 1) := by decide +kernel
theorem dL_isLink_71 : decode cL_isLink 71 = .ok (.iload 4, 2) := by decide +kernel
theorem dL_isLink_73 : decode cL_isLink 73 = .ok (.iconst 0, 1) := by decide +kernel
theorem dL_isLink_74 : decode cL_isLink 74 = .ok (.invokestatic 80, 3) := by decide +kernel
theorem dL_isLink_77 : decode cL_isLink 77 = .ok (.iload 5, 2) := by decide +kernel
theorem dL_isLink_79 : decode cL_isLink 79 = .ok (.if_icmp .ne 37, 3) := by decide +kernel
theorem dL_isLink_82 : decode cL_isLink 82 = .ok (.iload 5, 2) := by decide +kernel
theorem dL_isLink_84 : decode cL_isLink 84 = .ok (.ifCond .lt 28, 3) := by decide +kernel
theorem dL_isLink_87 : decode cL_isLink 87 = .ok (.iload 4, 2) := by decide +kernel
theorem dL_isLink_89 : decode cL_isLink 89 = .ok (.ifCond .gt 23, 3) := by decide +kernel
theorem dL_isLink_92 : decode cL_isLink 92 = .ok (.aload_n 0, 1) := by decide +kernel
theorem dL_isLink_93 : decode cL_isLink 93 = .ok (.iload_n 2, 1) := by decide +kernel
theorem dL_isLink_94 : decode cL_isLink 94 = .ok (.iload_n 3, 1) := by decide +kernel
theorem dL_isLink_95 : decode cL_isLink 95 = .ok (.invokevirtual 60, 3) := by decide +kernel
theorem dL_isLink_98 : decode cL_isLink 98 = .ok (.iconst (-1), 1) := by decide +kernel
theorem dL_isLink_99 : decode cL_isLink 99 = .ok (.if_icmp .ne 17, 3) := by decide +kernel
theorem dL_isLink_102 : decode cL_isLink 102 = .ok (.aload_n 0, 1) := by decide +kernel
theorem dL_isLink_103 : decode cL_isLink 103 = .ok (.iload_n 3, 1) := by decide +kernel
theorem dL_isLink_104 : decode cL_isLink 104 = .ok (.iload_n 2, 1) := by decide +kernel
theorem dL_isLink_105 : decode cL_isLink 105 = .ok (.invokevirtual 60, 3) := by decide +kernel
theorem dL_isLink_108 : decode cL_isLink 108 = .ok (.iconst (-1), 1) := by decide +kernel
theorem dL_isLink_109 : decode cL_isLink 109 = .ok (.if_icmp .ne 7, 3) := by decide +kernel
theorem dL_isLink_112 : decode cL_isLink 112 = .ok (.iconst 1, 1) := by decide +kernel
theorem dL_isLink_113 : decode cL_isLink 113 = .ok (.goto 4, 3) := by decide +kernel
theorem dL_isLink_116 : decode cL_isLink 116 = .ok (.iconst 0, 1) := by decide +kernel
theorem dL_isLink_117 : decode cL_isLink 117 = .ok (.ireturn, 1) := by decide +kernel
set_option maxRecDepth 20000 in
theorem ggL_isRoot_L_does : GoodIn wsL_isRoot wsL_does := goodIn_ca (goodIn_ca (goodIn_ca (goodIn_r _ [4, 5, 6, 7, 8, 9, 3, 10, 11, 12, 13, 14, 15, 16, 17, 18, 19, 20, 21, 22, 23, 24, 25, 26, 27, 28, 29, 30, 31, 32, 33, 34, 35, 36, 37, 38, 39, 40, 41, 42, 43, 44, 45, 46, 47, 48, 49, 50, 51, 52, 53, 54, 55, 56, 57, 58, 59, 60, 61, 62, 63, 64, 65, 66, 67, 68, 69, 70, 71, 72, 73, 74, 75, 76, 77, 78, 79, 80, 81, 82, 83, 84, 85, 86, 87, 88, 89, 90, 91, 92, 93, 94, 95, 96, 97, 98, 99, 100, 101, 102, 103, 104, 105, 106, 107, 108, 109, 110, 111, 112, 113, 114, 115, 116, 117, 118, 119, 120, 121, 122, 123, 124, 125, 126, 127, 128, 129, 130, 131, 132, 133, 134, 135, 136, 137, 138, 139, 140, 141, 142, 143, 144, 145, 146, 147, 148, 153, 154, 155, 156, 157, 158, 159, 160, 161, 162, 163, 164, 165, 166, 167, 168, 169, 170, 171, 172] (by decide +kernel) (by decide +kernel)) (goodIn_sub (fun _ h => List.mem_cons_of_mem _ (List.mem_append_left _ (List.mem_append_left _ (List.mem_append_right _ h)))) (by decide +kernel))) (goodIn_sub (fun _ h => List.mem_cons_of_mem _ (List.mem_append_left _ (List.mem_append_right _ h))) (by decide +kernel))) (goodIn_sub (fun _ h => List.mem_cons_of_mem _ (List.mem_append_right _ h)) (by decide +kernel))
set_option maxRecDepth 20000 in
theorem gL_isRoot_L_does : GoodIn wsL_isRoot (va_wsS RL 80 yL_does wsL_does) := goodIn_app (goodIn_of _ (by decide +kernel)) ggL_isRoot_L_does
set_option maxRecDepth 20000 in
theorem ggL_isRoot_X0_nextTelling : GoodIn wsL_isRoot wsX0_nextTelling := goodIn_ca (goodIn_r _ [152, 58, 36, 37, 14, 38, 39, 40, 41, 42, 43, 153, 154, 155, 156, 157, 158, 159, 160, 161, 162, 163, 164, 165, 166, 167, 168, 169, 170, 171, 172] (by decide +kernel) (by decide +kernel)) (goodIn_sub (fun _ h => List.mem_cons_of_mem _ (List.mem_append_right _ h)) (by decide +kernel))
set_option maxRecDepth 20000 in
theorem gL_isRoot_X0_nextTelling : GoodIn wsL_isRoot (wsV RL 57 RX0 yX0_nextTelling wsX0_nextTelling) := goodIn_app (goodIn_of _ (by decide +kernel)) ggL_isRoot_X0_nextTelling
theorem dL_isRoot_0 : decode cL_isRoot 0 = .ok (.iload 4, 2) := by decide +kernel
theorem dL_isRoot_2 : decode cL_isRoot 2 = .ok (.bipush 10, 2) := by decide +kernel
theorem dL_isRoot_4 : decode cL_isRoot 4 = .ok (.if_icmp .ge 7, 3) := by decide +kernel
theorem dL_isRoot_7 : decode cL_isRoot 7 = .ok (.iconst 1, 1) := by decide +kernel
theorem dL_isRoot_8 : decode cL_isRoot 8 = .ok (.goto 4, 3) := by decide +kernel
theorem dL_isRoot_11 : decode cL_isRoot 11 = .ok (.iconst 0, 1) := by decide +kernel
theorem dL_isRoot_12 : decode cL_isRoot 12 = .ok (.istore 5, 2) := by decide +kernel
theorem dL_isRoot_14 : decode cL_isRoot 14 = .ok (.iload 5, 2) := by decide +kernel
theorem dL_isRoot_16 : decode cL_isRoot 16 = .ok (.ifCond .eq 15, 3) := by decide +kernel
theorem dL_isRoot_19 : decode cL_isRoot 19 = .ok (.aload_n 1, 1) := by decide +kernel
theorem dL_isRoot_20 : decode cL_isRoot 20 = .ok (.iload 4, 2) := by decide +kernel
theorem dL_isRoot_22 : decode cL_isRoot 22 = .ok (.iaload, 1) := by decide +kernel
theorem dL_isRoot_23 : decode cL_isRoot 23 = .ok (.iconst 1, 1) := by decide +kernel
theorem dL_isRoot_24 : decode cL_isRoot 24 = .ok (.if_icmp .ne 7, 3) := by decide +kernel
theorem dL_isRoot_27 : decode cL_isRoot 27 = .ok (.iconst 1, 1) := by decide +kernel
theorem dL_isRoot_28 : decode cL_isRoot 28 = .ok (.goto 4, 3) := by decide +kernel
theorem dL_isRoot_31 : decode cL_isRoot 31 = .ok (.iconst 0, 1) := by decide +kernel
theorem dL_isRoot_32 : decode cL_isRoot 32 = .ok (.istore 6, 2) := by decide +kernel
theorem dL_isRoot_34 : decode cL_isRoot 34 = .ok (.iload_n 3, 1) := by decide +kernel
theorem dL_isRoot_35 : decode cL_isRoot 35 = .ok (.iconst 3, 1) := by decide +kernel
theorem dL_isRoot_36 : decode cL_isRoot 36 = .ok (.if_icmp .ne 97, 3) := by decide +kernel
theorem dL_isRoot_39 : decode cL_isRoot 39 = .ok (.iload 5, 2) := by decide +kernel
theorem dL_isRoot_41 : decode cL_isRoot 41 = .ok (.ifCond .ne 8, 3) := by decide +kernel
theorem dL_isRoot_44 : decode cL_isRoot 44 = .ok (.bipush (-30), 2) := by decide +kernel
theorem dL_isRoot_46 : decode cL_isRoot 46 = .ok (.goto 22, 3) := by decide +kernel
theorem dL_isRoot_49 : decode cL_isRoot 49 = .ok (.iload 6, 2) := by decide +kernel
theorem dL_isRoot_51 : decode cL_isRoot 51 = .ok (.ifCond .eq 8, 3) := by decide +kernel
theorem dL_isRoot_54 : decode cL_isRoot 54 = .ok (.bipush (-10), 2) := by decide +kernel
theorem dL_isRoot_56 : decode cL_isRoot 56 = .ok (.goto 12, 3) := by decide +kernel
theorem dL_isRoot_59 : decode cL_isRoot 59 = .ok (.aload_n 1, 1) := by decide +kernel
theorem dL_isRoot_60 : decode cL_isRoot 60 = .ok (.bipush 10, 2) := by decide +kernel
theorem dL_isRoot_62 : decode cL_isRoot 62 = .ok (.iload 4, 2) := by decide +kernel
theorem dL_isRoot_64 : decode cL_isRoot 64 = .ok (.iadd, 1) := by decide +kernel
theorem dL_isRoot_65 : decode cL_isRoot 65 = .ok (.iaload, 1) := by decide +kernel
theorem dL_isRoot_66 : decode cL_isRoot 66 = .ok (.iconst 1, 1) := by decide +kernel
theorem dL_isRoot_67 : decode cL_isRoot 67 = .ok (.iadd, 1) := by decide +kernel
theorem dL_isRoot_68 : decode cL_isRoot 68 = .ok (.istore 7, 2) := by decide +kernel
theorem dL_isRoot_70 : decode cL_isRoot 70 = .ok (.iload 7, 2) := by decide +kernel
theorem dL_isRoot_72 : decode cL_isRoot 72 = .ok (.ifCond .le 19, 3) := by decide +kernel
theorem dL_isRoot_75 : decode cL_isRoot 75 = .ok (.aload_n 1, 1) := by decide +kernel
theorem dL_isRoot_76 : decode cL_isRoot 76 = .ok (.iload 4, 2) := by decide +kernel
theorem dL_isRoot_78 : decode cL_isRoot 78 = .ok (.iconst 1, 1) := by decide +kernel
theorem dL_isRoot_79 : decode cL_isRoot 79 = .ok (.iastore, 1) := by decide +kernel
theorem dL_isRoot_80 : decode cL_isRoot 80 = .ok (.aload_n 1, 1) := by decide +kernel
theorem dL_isRoot_81 : decode cL_isRoot 81 = .ok (.bipush 10, 2) := by decide +kernel
theorem dL_isRoot_83 : decode cL_isRoot 83 = .ok (.iload 4, 2) := by decide +kernel
theorem dL_isRoot_85 : decode cL_isRoot 85 = .ok (.iadd, 1) := by decide +kernel
theorem dL_isRoot_86 : decode cL_isRoot 86 = .ok (.dup2, 1) := by decide +kernel
theorem dL_isRoot_87 : decode cL_isRoot 87 = .ok (.iaload, 1) := by decide +kernel
theorem dL_isRoot_88 : decode cL_isRoot 88 = .ok (.iconst 1, 1) := by decide +kernel
theorem dL_isRoot_89 : decode cL_isRoot 89 = .ok (.iadd, 1) := by decide +kernel
theorem dL_isRoot_90 : decode cL_isRoot 90 = .ok (.iastore, 1) := by decide +kernel
theorem dL_isRoot_91 : decode cL_isRoot 91 = .ok (.aload_n 0, 1) := by decide +kernel
theorem dL_isRoot_92 : decode cL_isRoot 92 = .ok (.iconst 3, 1) := by decide +kernel
theorem dL_isRoot_93 : decode cL_isRoot 93 = .ok (.iload 4, 2) := by decide +kernel
theorem dL_isRoot_95 : decode cL_isRoot 95 = .ok (.iconst 0, 1) := by decide +kernel
theorem dL_isRoot_96 : decode cL_isRoot 96 = .ok (.iconst 0, 1) := by decide +kernel
theorem dL_isRoot_97 : decode cL_isRoot 97 = .ok (.iconst 0, 1) := by decide +kernel
theorem dL_isRoot_98 : decode cL_isRoot 98 = .ok (.invokestatic 80, 3) := by decide +kernel
theorem dL_isRoot_101 : decode cL_isRoot 101 = .ok (.iload 7, 2) := by decide +kernel
theorem dL_isRoot_103 : decode cL_isRoot 103 = .ok (.if_icmp .ne 28, 3) := by decide +kernel
theorem dL_isRoot_106 : decode cL_isRoot 106 = .ok (.iload 7, 2) := by decide +kernel
theorem dL_isRoot_108 : decode cL_isRoot 108 = .ok (.ifCond .lt 19, 3) := by decide +kernel
theorem dL_isRoot_111 : decode cL_isRoot 111 = .ok (.aload_n 0, 1) := by decide +kernel
theorem dL_isRoot_112 : decode cL_isRoot 112 = .ok (.iload 4, 2) := by decide +kernel
theorem dL_isRoot_114 : decode cL_isRoot 114 = .ok (.invokevirtual 57, 3) := by decide +kernel
theorem dL_isRoot_117 : decode cL_isRoot 117 = .ok (.aload_n 2, 1) := by decide +kernel
theorem dL_isRoot_118 : decode cL_isRoot 118 = .ok (.iconst 0, 1) := by decide +kernel
theorem dL_isRoot_119 : decode cL_isRoot 119 = .ok (.iaload, 1) := by decide +kernel
theorem dL_isRoot_120 : decode cL_isRoot 120 = .ok (.aload_n 2, 1) := by decide +kernel
theorem dL_isRoot_121 : decode cL_isRoot 121 = .ok (.iconst 1, 1) := by decide +kernel
theorem dL_isRoot_122 : decode cL_isRoot 122 = .ok (.iaload, 1) := by decide +kernel
theorem dL_isRoot_123 : decode cL_isRoot 123 = .ok (.iadd, 1) := by decide +kernel
theorem dL_isRoot_124 : decode cL_isRoot 124 = .ok (.if_icmp .ne 7, 3) := by decide +kernel
theorem dL_isRoot_127 : decode cL_isRoot 127 = .ok (.iconst 1, 1) := by decide +kernel
theorem dL_isRoot_128 : decode cL_isRoot 128 = .ok (.goto 4, 3) := by decide +kernel
theorem dL_isRoot_131 : decode cL_isRoot 131 = .ok (.iconst 0, 1) := by decide +kernel
theorem dL_isRoot_132 : decode cL_isRoot 132 = .ok (.ireturn, 1) := by decide +kernel
theorem dL_isRoot_133 : decode cL_isRoot 133 = .ok (.iload_n 3, 1) := by decide +kernel
theorem dL_isRoot_134 : decode cL_isRoot 134 = .ok (.iconst 4, 1) := by decide +kernel
theorem dL_isRoot_135 : decode cL_isRoot 135 = .ok (.if_icmp .ne 92, 3) := by decide +kernel
theorem dL_isRoot_138 : decode cL_isRoot 138 = .ok (.iload 5, 2) := by decide +kernel
theorem dL_isRoot_140 : decode cL_isRoot 140 = .ok (.ifCond .ne 8, 3) := by decide +kernel
theorem dL_isRoot_143 : decode cL_isRoot 143 = .ok (.bipush (-30), 2) := by decide +kernel
theorem dL_isRoot_145 : decode cL_isRoot 145 = .ok (.goto 22, 3) := by decide +kernel
theorem dL_isRoot_148 : decode cL_isRoot 148 = .ok (.iload 6, 2) := by decide +kernel
theorem dL_isRoot_150 : decode cL_isRoot 150 = .ok (.ifCond .eq 15, 3) := by decide +kernel
theorem dL_isRoot_153 : decode cL_isRoot 153 = .ok (.aload_n 1, 1) := by decide +kernel
theorem dL_isRoot_154 : decode cL_isRoot 154 = .ok (.bipush 10, 2) := by decide +kernel
theorem dL_isRoot_156 : decode cL_isRoot 156 = .ok (.iload 4, 2) := by decide +kernel
theorem dL_isRoot_158 : decode cL_isRoot 158 = .ok (.iadd, 1) := by decide +kernel
theorem dL_isRoot_159 : decode cL_isRoot 159 = .ok (.iaload, 1) := by decide +kernel
theorem dL_isRoot_160 : decode cL_isRoot 160 = .ok (.iconst 1, 1) := by decide +kernel
theorem dL_isRoot_161 : decode cL_isRoot 161 = .ok (.iadd, 1) := by decide +kernel
theorem dL_isRoot_162 : decode cL_isRoot 162 = .ok (.goto 5, 3) := by decide +kernel
theorem dL_isRoot_165 : decode cL_isRoot 165 = .ok (.bipush (-10), 2) := by decide +kernel
theorem dL_isRoot_167 : decode cL_isRoot 167 = .ok (.istore 7, 2) := by decide +kernel
theorem dL_isRoot_169 : decode cL_isRoot 169 = .ok (.iload 7, 2) := by decide +kernel
theorem dL_isRoot_171 : decode cL_isRoot 171 = .ok (.ifCond .le 14, 3) := by decide +kernel
theorem dL_isRoot_174 : decode cL_isRoot 174 = .ok (.aload_n 1, 1) := by decide +kernel
theorem dL_isRoot_175 : decode cL_isRoot 175 = .ok (.bipush 10, 2) := by decide +kernel
theorem dL_isRoot_177 : decode cL_isRoot 177 = .ok (.iload 4, 2) := by decide +kernel
theorem dL_isRoot_179 : decode cL_isRoot 179 = .ok (.iadd, 1) := by decide +kernel
theorem dL_isRoot_180 : decode cL_isRoot 180 = .ok (.dup2, 1) := by decide +kernel
theorem dL_isRoot_181 : decode cL_isRoot 181 = .ok (.iaload, 1) := by decide +kernel
theorem dL_isRoot_182 : decode cL_isRoot 182 = .ok (.iconst 1, 1) := by decide +kernel
theorem dL_isRoot_183 : decode cL_isRoot 183 = .ok (.iadd, 1) := by decide +kernel
theorem dL_isRoot_184 : decode cL_isRoot 184 = .ok (.iastore, 1) := by decide +kernel
theorem dL_isRoot_185 : decode cL_isRoot 185 = .ok (.aload_n 0, 1) := by decide +kernel
theorem dL_isRoot_186 : decode cL_isRoot 186 = .ok (.iconst 4, 1) := by decide +kernel
theorem dL_isRoot_187 : decode cL_isRoot 187 = .ok (.iload 4, 2) := by decide +kernel
theorem dL_isRoot_189 : decode cL_isRoot 189 = .ok (.iconst 0, 1) := by decide +kernel
theorem dL_isRoot_190 : decode cL_isRoot 190 = .ok (.iconst 0, 1) := by decide +kernel
theorem dL_isRoot_191 : decode cL_isRoot 191 = .ok (.iconst 0, 1) := by decide +kernel
theorem dL_isRoot_192 : decode cL_isRoot 192 = .ok (.invokestatic 80, 3) := by decide +kernel
theorem dL_isRoot_195 : decode cL_isRoot 195 = .ok (.iload 7, 2) := by decide +kernel
theorem dL_isRoot_197 : decode cL_isRoot 197 = .ok (.if_icmp .ne 28, 3) := by decide +kernel
theorem dL_isRoot_200 : decode cL_isRoot 200 = .ok (.iload 7, 2) := by decide +kernel
theorem dL_isRoot_202 : decode cL_isRoot 202 = .ok (.ifCond .lt 19, 3) := by decide +kernel
theorem dL_isRoot_205 : decode cL_isRoot 205 = .ok (.aload_n 0, 1) := by decide +kernel
theorem dL_isRoot_206 : decode cL_isRoot 206 = .ok (.iload 4, 2) := by decide +kernel
theorem dL_isRoot_208 : decode cL_isRoot 208 = .ok (.invokevirtual 57, 3) := by decide +kernel
theorem dL_isRoot_211 : decode cL_isRoot 211 = .ok (.aload_n 2, 1) := by decide +kernel
theorem dL_isRoot_212 : decode cL_isRoot 212 = .ok (.iconst 0, 1) := by decide +kernel
theorem dL_isRoot_213 : decode cL_isRoot 213 = .ok (.iaload, 1) := by decide +kernel
theorem dL_isRoot_214 : decode cL_isRoot 214 = .ok (.aload_n 2, 1) := by decide +kernel
theorem dL_isRoot_215 : decode cL_isRoot 215 = .ok (.iconst 1, 1) := by decide +kernel
theorem dL_isRoot_216 : decode cL_isRoot 216 = .ok (.iaload, 1) := by decide +kernel
theorem dL_isRoot_217 : decode cL_isRoot 217 = .ok (.iadd, 1) := by decide +kernel
theorem dL_isRoot_218 : decode cL_isRoot 218 = .ok (.if_icmp .ne 7, 3) := by decide +kernel
theorem dL_isRoot_221 : decode cL_isRoot 221 = .ok (.iconst 1, 1) := by decide +kernel
theorem dL_isRoot_222 : decode cL_isRoot 222 = .ok (.goto 4, 3) := by decide +kernel
theorem dL_isRoot_225 : decode cL_isRoot 225 = .ok (.iconst 0, 1) := by decide +kernel
theorem dL_isRoot_226 : decode cL_isRoot 226 = .ok (.ireturn, 1) := by decide +kernel
theorem dL_isRoot_227 : decode cL_isRoot 227 = .ok (.iload 6, 2) := by decide +kernel
theorem dL_isRoot_229 : decode cL_isRoot 229 = .ok (.ifCond .eq 8, 3) := by decide +kernel
theorem dL_isRoot_232 : decode cL_isRoot 232 = .ok (.aload_n 1, 1) := by decide +kernel
theorem dL_isRoot_233 : decode cL_isRoot 233 = .ok (.iload 4, 2) := by decide +kernel
theorem dL_isRoot_235 : decode cL_isRoot 235 = .ok (.iconst 0, 1) := by decide +kernel
theorem dL_isRoot_236 : decode cL_isRoot 236 = .ok (.iastore, 1) := by decide +kernel
theorem dL_isRoot_237 : decode cL_isRoot 237 = .ok (.aload_n 0, 1) := by decide +kernel
theorem dL_isRoot_238 : decode cL_isRoot 238 = .ok (.iconst 1, 1) := by decide +kernel
theorem dL_isRoot_239 : decode cL_isRoot 239 = .ok (.iload 4, 2) := by decide +kernel
theorem dL_isRoot_241 : decode cL_isRoot 241 = .ok (.iconst 0, 1) := by decide +kernel
theorem dL_isRoot_242 : decode cL_isRoot 242 = .ok (.iconst 0, 1) := by decide +kernel
theorem dL_isRoot_243 : decode cL_isRoot 243 = .ok (.iconst 0, 1) := by decide +kernel
theorem dL_isRoot_244 : decode cL_isRoot 244 = .ok (.invokestatic 80, 3) := by decide +kernel
theorem dL_isRoot_247 : decode cL_isRoot 247 = .ok (.iload 5, 2) := by decide +kernel
theorem dL_isRoot_249 : decode cL_isRoot 249 = .ok (.ifCond .ne 8, 3) := by decide +kernel
theorem dL_isRoot_252 : decode cL_isRoot 252 = .ok (.bipush (-30), 2) := by decide +kernel
theorem dL_isRoot_254 : decode cL_isRoot 254 = .ok (.goto 14, 3) := by decide +kernel
theorem dL_isRoot_257 : decode cL_isRoot 257 = .ok (.iload 6, 2) := by decide +kernel
theorem dL_isRoot_259 : decode cL_isRoot 259 = .ok (.ifCond .eq 7, 3) := by decide +kernel
theorem dL_isRoot_262 : decode cL_isRoot 262 = .ok (.iconst 0, 1) := by decide +kernel
theorem dL_isRoot_263 : decode cL_isRoot 263 = .ok (.goto 5, 3) := by decide +kernel
theorem dL_isRoot_266 : decode cL_isRoot 266 = .ok (.bipush (-10), 2) := by decide +kernel
theorem dL_isRoot_268 : decode cL_isRoot 268 = .ok (.if_icmp .ne 28, 3) := by decide +kernel
theorem dL_isRoot_271 : decode cL_isRoot 271 = .ok (.iload 6, 2) := by decide +kernel
theorem dL_isRoot_273 : decode cL_isRoot 273 = .ok (.ifCond .eq 19, 3) := by decide +kernel
theorem dL_isRoot_276 : decode cL_isRoot 276 = .ok (.aload_n 0, 1) := by decide +kernel
theorem dL_isRoot_277 : decode cL_isRoot 277 = .ok (.iload 4, 2) := by decide +kernel
theorem dL_isRoot_279 : decode cL_isRoot 279 = .ok (.invokevirtual 57, 3) := by decide +kernel
theorem dL_isRoot_282 : decode cL_isRoot 282 = .ok (.aload_n 2, 1) := by decide +kernel
theorem dL_isRoot_283 : decode cL_isRoot 283 = .ok (.iconst 0, 1) := by decide +kernel
theorem dL_isRoot_284 : decode cL_isRoot 284 = .ok (.iaload, 1) := by decide +kernel
theorem dL_isRoot_285 : decode cL_isRoot 285 = .ok (.aload_n 2, 1) := by decide +kernel
theorem dL_isRoot_286 : decode cL_isRoot 286 = .ok (.iconst 1, 1) := by decide +kernel
theorem dL_isRoot_287 : decode cL_isRoot 287 = .ok (.iaload, 1) := by decide +kernel
theorem dL_isRoot_288 : decode cL_isRoot 288 = .ok (.iadd, 1) := by decide +kernel
theorem dL_isRoot_289 : decode cL_isRoot 289 = .ok (.if_icmp .ne 7, 3) := by decide +kernel
theorem dL_isRoot_292 : decode cL_isRoot 292 = .ok (.iconst 1, 1) := by decide +kernel
theorem dL_isRoot_293 : decode cL_isRoot 293 = .ok (.goto 4, 3) := by decide +kernel
theorem dL_isRoot_296 : decode cL_isRoot 296 = .ok (.iconst 0, 1) := by decide +kernel
theorem dL_isRoot_297 : decode cL_isRoot 297 = .ok (.ireturn, 1) := by decide +kernel
set_option maxRecDepth 20000 in
theorem ggL_isTick_X0_nextTelling : GoodIn wsL_isTick wsX0_nextTelling := goodIn_ca (goodIn_r _ [5, 6, 7, 8, 4, 9, 10, 11, 12, 13, 14, 112, 113, 114, 115, 116, 117, 118, 119, 120, 121, 122, 123, 124, 125, 126, 127, 128, 129, 130, 131] (by decide +kernel) (by decide +kernel)) (goodIn_sub (fun _ h => List.mem_cons_of_mem _ (List.mem_append_left _ (List.mem_append_right _ h))) (by decide +kernel))
set_option maxRecDepth 20000 in
theorem gL_isTick_X0_nextTelling : GoodIn wsL_isTick (wsV RL 57 RX0 yX0_nextTelling wsX0_nextTelling) := goodIn_app (goodIn_of _ (by decide +kernel)) ggL_isTick_X0_nextTelling
set_option maxRecDepth 20000 in
theorem ggL_isTick_X0_rank : GoodIn wsL_isTick wsX0_rank := goodIn_ca (goodIn_r _ [18, 19, 7, 8, 4, 9, 10, 11, 12, 13, 14, 112, 113, 114, 115, 116, 117, 118, 119, 120, 121, 122, 123, 124, 125, 126, 127, 128, 129, 130, 131] (by decide +kernel) (by decide +kernel)) (goodIn_sub (fun _ h => List.mem_cons_of_mem _ (List.mem_append_left _ (List.mem_append_right _ h))) (by decide +kernel))
set_option maxRecDepth 20000 in
theorem gL_isTick_X0_rank : GoodIn wsL_isTick (wsV RL 48 RX0 yX0_rank wsX0_rank) := goodIn_app (goodIn_of _ (by decide +kernel)) ggL_isTick_X0_rank
set_option maxRecDepth 20000 in
theorem ggL_isTick_X0_pass : GoodIn wsL_isTick wsX0_pass := goodIn_ca (goodIn_r _ [23, 24, 25, 4, 26, 27, 28, 29, 30, 31, 32, 33, 6, 34, 35, 36, 37, 38, 39, 40, 41, 42, 43, 19, 44, 45, 46, 47, 48, 49, 50, 51, 52, 53, 54, 55, 56, 57, 58, 59, 60, 61, 62, 63, 64, 65, 66, 67, 68, 69, 70, 71, 72, 73, 74, 75, 12, 13, 14, 76, 77, 78, 79, 80, 81, 82, 83, 84, 85, 86, 87, 88, 89, 90, 91, 92, 93, 94, 95, 96, 97, 98, 99, 100, 101, 102, 103, 112, 113, 114, 115, 116, 117, 118, 119, 120, 121, 122, 123, 124, 125, 126, 127, 128, 129, 130, 131] (by decide +kernel) (by decide +kernel)) (goodIn_sub (fun _ h => List.mem_cons_of_mem _ (List.mem_append_right _ h)) (by decide +kernel))
set_option maxRecDepth 20000 in
theorem gL_isTick_X0_pass : GoodIn wsL_isTick (wsV RL 35 RX0 yX0_pass wsX0_pass) := goodIn_app (goodIn_of _ (by decide +kernel)) ggL_isTick_X0_pass
set_option maxRecDepth 20000 in
theorem ggL_isTick_L_cost : GoodIn wsL_isTick wsL_cost := goodIn_r _ [107] (by decide +kernel) (by decide +kernel)
set_option maxRecDepth 20000 in
theorem gL_isTick_L_cost : GoodIn wsL_isTick (va_wsS RL 72 yL_cost wsL_cost) := goodIn_app (goodIn_of _ (by decide +kernel)) ggL_isTick_L_cost
set_option maxRecDepth 20000 in
theorem ggL_isTick_X0_heard : GoodIn wsL_isTick wsX0_heard := goodIn_ca (goodIn_r _ [111, 43, 7, 8, 4, 9, 10, 11, 12, 13, 14, 112, 113, 114, 115, 116, 117, 118, 119, 120, 121, 122, 123, 124, 125, 126, 127, 128, 129, 130, 131] (by decide +kernel) (by decide +kernel)) (goodIn_sub (fun _ h => List.mem_cons_of_mem _ (List.mem_append_left _ (List.mem_append_right _ h))) (by decide +kernel))
set_option maxRecDepth 20000 in
theorem gL_isTick_X0_heard : GoodIn wsL_isTick (wsV RL 60 RX0 yX0_heard wsX0_heard) := goodIn_app (goodIn_of _ (by decide +kernel)) ggL_isTick_X0_heard
theorem dL_isTick_0 : decode cL_isTick 0 = .ok (.iconst 0, 1) := by decide +kernel
theorem dL_isTick_1 : decode cL_isTick 1 = .ok (.istore_n 3, 1) := by decide +kernel
theorem dL_isTick_2 : decode cL_isTick 2 = .ok (.bipush 10, 2) := by decide +kernel
theorem dL_isTick_4 : decode cL_isTick 4 = .ok (.istore 4, 2) := by decide +kernel
theorem dL_isTick_6 : decode cL_isTick 6 = .ok (.iconst 0, 1) := by decide +kernel
theorem dL_isTick_7 : decode cL_isTick 7 = .ok (.istore 5, 2) := by decide +kernel
theorem dL_isTick_9 : decode cL_isTick 9 = .ok (.iload 5, 2) := by decide +kernel
theorem dL_isTick_11 : decode cL_isTick 11 = .ok (.bipush 10, 2) := by decide +kernel
theorem dL_isTick_13 : decode cL_isTick 13 = .ok (.if_icmp .ge 64, 3) := by decide +kernel
theorem dL_isTick_16 : decode cL_isTick 16 = .ok (.aload_n 0, 1) := by decide +kernel
theorem dL_isTick_17 : decode cL_isTick 17 = .ok (.iload 5, 2) := by decide +kernel
theorem dL_isTick_19 : decode cL_isTick 19 = .ok (.invokevirtual 57, 3) := by decide +kernel
theorem dL_isTick_22 : decode cL_isTick 22 = .ok (.aload_n 2, 1) := by decide +kernel
theorem dL_isTick_23 : decode cL_isTick 23 = .ok (.iconst 0, 1) := by decide +kernel
theorem dL_isTick_24 : decode cL_isTick 24 = .ok (.iaload, 1) := by decide +kernel
theorem dL_isTick_25 : decode cL_isTick 25 = .ok (.iconst 1, 1) := by decide +kernel
theorem dL_isTick_26 : decode cL_isTick 26 = .ok (.iadd, 1) := by decide +kernel
theorem dL_isTick_27 : decode cL_isTick 27 = .ok (.if_icmp .ne 7, 3) := by decide +kernel
theorem dL_isTick_30 : decode cL_isTick 30 = .ok (.iconst 1, 1) := by decide +kernel
theorem dL_isTick_31 : decode cL_isTick 31 = .ok (.goto 4, 3) := by decide +kernel
theorem dL_isTick_34 : decode cL_isTick 34 = .ok (.iconst 0, 1) := by decide +kernel
theorem dL_isTick_35 : decode cL_isTick 35 = .ok (.istore 6, 2) := by decide +kernel
theorem dL_isTick_37 : decode cL_isTick 37 = .ok (.iload_n 3, 1) := by decide +kernel
theorem dL_isTick_38 : decode cL_isTick 38 = .ok (.iload 6, 2) := by decide +kernel
theorem dL_isTick_40 : decode cL_isTick 40 = .ok (.ifCond .eq 7, 3) := by decide +kernel
theorem dL_isTick_43 : decode cL_isTick 43 = .ok (.iconst 1, 1) := by decide +kernel
theorem dL_isTick_44 : decode cL_isTick 44 = .ok (.goto 4, 3) := by decide +kernel
theorem dL_isTick_47 : decode cL_isTick 47 = .ok (.iconst 0, 1) := by decide +kernel
theorem dL_isTick_48 : decode cL_isTick 48 = .ok (.iadd, 1) := by decide +kernel
theorem dL_isTick_49 : decode cL_isTick 49 = .ok (.istore_n 3, 1) := by decide +kernel
theorem dL_isTick_50 : decode cL_isTick 50 = .ok (.iload 6, 2) := by decide +kernel
theorem dL_isTick_52 : decode cL_isTick 52 = .ok (.ifCond .eq 15, 3) := by decide +kernel
theorem dL_isTick_55 : decode cL_isTick 55 = .ok (.iload 4, 2) := by decide +kernel
theorem dL_isTick_57 : decode cL_isTick 57 = .ok (.bipush 10, 2) := by decide +kernel
theorem dL_isTick_59 : decode cL_isTick 59 = .ok (.if_icmp .ne 8, 3) := by decide +kernel
theorem dL_isTick_62 : decode cL_isTick 62 = .ok (.iload 5, 2) := by decide +kernel
theorem dL_isTick_64 : decode cL_isTick 64 = .ok (.goto 5, 3) := by decide +kernel
theorem dL_isTick_67 : decode cL_isTick 67 = .ok (.iload 4, 2) := by decide +kernel
theorem dL_isTick_69 : decode cL_isTick 69 = .ok (.istore 4, 2) := by decide +kernel
theorem dL_isTick_71 : decode cL_isTick 71 = .ok (.iinc 5 1, 3) := by decide +kernel
theorem dL_isTick_74 : decode cL_isTick 74 = .ok (.goto (-65), 3) := by decide +kernel
theorem dL_isTick_77 : decode cL_isTick 77 = .ok (.aload_n 2, 1) := by decide +kernel
