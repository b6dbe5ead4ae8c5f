theorem dX1_init_0 : decode cX1_init 0 = .ok (.aload_n 0, 1) := by decide +kernel
theorem dX1_init_1 : decode cX1_init 1 = .ok (.invokespecial 1, 3) := by decide +kernel
theorem dX1_init_4 : decode cX1_init 4 = .ok (.aload_n 0, 1) := by decide +kernel
theorem dX1_init_5 : decode cX1_init 5 = .ok (.sipush 10000, 3) := by decide +kernel
theorem dX1_init_8 : decode cX1_init 8 = .ok (.putfield 7, 3) := by decide +kernel
theorem dX1_init_11 : decode cX1_init 11 = .ok (.aload_n 0, 1) := by decide +kernel
theorem dX1_init_12 : decode cX1_init 12 = .ok (.iconst 1, 1) := by decide +kernel
theorem dX1_init_13 : decode cX1_init 13 = .ok (.putfield 13, 3) := by decide +kernel
theorem dX1_init_16 : decode cX1_init 16 = .ok (.aload_n 0, 1) := by decide +kernel
theorem dX1_init_17 : decode cX1_init 17 = .ok (.iconst 4, 1) := by decide +kernel
theorem dX1_init_18 : decode cX1_init 18 = .ok (.putfield 16, 3) := by decide +kernel
theorem dX1_init_21 : decode cX1_init 21 = .ok (.aload_n 0, 1) := by decide +kernel
theorem dX1_init_22 : decode cX1_init 22 = .ok (.bipush 100, 2) := by decide +kernel
theorem dX1_init_24 : decode cX1_init 24 = .ok (.newarray .int, 2) := by decide +kernel
theorem dX1_init_26 : decode cX1_init 26 = .ok (.putfield 19, 3) := by decide +kernel
theorem dX1_init_29 : decode cX1_init 29 = .ok (.aload_n 0, 1) := by decide +kernel
theorem dX1_init_30 : decode cX1_init 30 = .ok (.bipush 10, 2) := by decide +kernel
theorem dX1_init_32 : decode cX1_init 32 = .ok (.newarray .boolean, 2) := by decide +kernel
theorem dX1_init_34 : decode cX1_init 34 = .ok (.putfield 23, 3) := by decide +kernel
theorem dX1_init_37 : decode cX1_init 37 = .ok (.aload_n 0, 1) := by decide +kernel
theorem dX1_init_38 : decode cX1_init 38 = .ok (.bipush 10, 2) := by decide +kernel
theorem dX1_init_40 : decode cX1_init 40 = .ok (.newarray .int, 2) := by decide +kernel
theorem dX1_init_42 : decode cX1_init 42 = .ok (.putfield 27, 3) := by decide +kernel
theorem dX1_init_45 : decode cX1_init 45 = .ok (.aload_n 0, 1) := by decide +kernel
theorem dX1_init_46 : decode cX1_init 46 = .ok (.bipush 10, 2) := by decide +kernel
theorem dX1_init_48 : decode cX1_init 48 = .ok (.newarray .int, 2) := by decide +kernel
theorem dX1_init_50 : decode cX1_init 50 = .ok (.putfield 30, 3) := by decide +kernel
theorem dX1_init_53 : decode cX1_init 53 = .ok (.aload_n 0, 1) := by decide +kernel
theorem dX1_init_54 : decode cX1_init 54 = .ok (.bipush 10, 2) := by decide +kernel
theorem dX1_init_56 : decode cX1_init 56 = .ok (.newarray .int, 2) := by decide +kernel
theorem dX1_init_58 : decode cX1_init 58 = .ok (.putfield 33, 3) := by decide +kernel
theorem dX1_init_61 : decode cX1_init 61 = .ok (.aload_n 0, 1) := by decide +kernel
theorem dX1_init_62 : decode cX1_init 62 = .ok (.bipush 10, 2) := by decide +kernel
theorem dX1_init_64 : decode cX1_init 64 = .ok (.newarray .int, 2) := by decide +kernel
theorem dX1_init_66 : decode cX1_init 66 = .ok (.putfield 36, 3) := by decide +kernel
theorem dX1_init_69 : decode cX1_init 69 = .ok (.aload_n 0, 1) := by decide +kernel
theorem dX1_init_70 : decode cX1_init 70 = .ok (.bipush 10, 2) := by decide +kernel
theorem dX1_init_72 : decode cX1_init 72 = .ok (.newarray .int, 2) := by decide +kernel
theorem dX1_init_74 : decode cX1_init 74 = .ok (.putfield 39, 3) := by decide +kernel
theorem dX1_init_77 : decode cX1_init 77 = .ok (.aload_n 0, 1) := by decide +kernel
theorem dX1_init_78 : decode cX1_init 78 = .ok (.bipush 10, 2) := by decide +kernel
theorem dX1_init_80 : decode cX1_init 80 = .ok (.newarray .int, 2) := by decide +kernel
theorem dX1_init_82 : decode cX1_init 82 = .ok (.putfield 42, 3) := by decide +kernel
theorem dX1_init_85 : decode cX1_init 85 = .ok (.aload_n 0, 1) := by decide +kernel
theorem dX1_init_86 : decode cX1_init 86 = .ok (.bipush 10, 2) := by decide +kernel
theorem dX1_init_88 : decode cX1_init 88 = .ok (.newarray .int, 2) := by decide +kernel
theorem dX1_init_90 : decode cX1_init 90 = .ok (.putfield 45, 3) := by decide +kernel
theorem dX1_init_93 : decode cX1_init 93 = .ok (.aload_n 0, 1) := by decide +kernel
theorem dX1_init_94 : decode cX1_init 94 = .ok (.bipush 10, 2) := by decide +kernel
theorem dX1_init_96 : decode cX1_init 96 = .ok (.newarray .int, 2) := by decide +kernel
theorem dX1_init_98 : decode cX1_init 98 = .ok (.putfield 48, 3) := by decide +kernel
theorem dX1_init_101 : decode cX1_init 101 = .ok (.aload_n 0, 1) := by decide +kernel
theorem dX1_init_102 : decode cX1_init 102 = .ok (.bipush 100, 2) := by decide +kernel
theorem dX1_init_104 : decode cX1_init 104 = .ok (.newarray .int, 2) := by decide +kernel
theorem dX1_init_106 : decode cX1_init 106 = .ok (.putfield 51, 3) := by decide +kernel
theorem dX1_init_109 : decode cX1_init 109 = .ok (.aload_n 0, 1) := by decide +kernel
theorem dX1_init_110 : decode cX1_init 110 = .ok (.bipush 100, 2) := by decide +kernel
theorem dX1_init_112 : decode cX1_init 112 = .ok (.newarray .int, 2) := by decide +kernel
theorem dX1_init_114 : decode cX1_init 114 = .ok (.putfield 54, 3) := by decide +kernel
theorem dX1_init_117 : decode cX1_init 117 = .ok (.aload_n 0, 1) := by decide +kernel
theorem dX1_init_118 : decode cX1_init 118 = .ok (.bipush 100, 2) := by decide +kernel
theorem dX1_init_120 : decode cX1_init 120 = .ok (.newarray .int, 2) := by decide +kernel
theorem dX1_init_122 : decode cX1_init 122 = .ok (.putfield 57, 3) := by decide +kernel
theorem dX1_init_125 : decode cX1_init 125 = .ok (.aload_n 0, 1) := by decide +kernel
theorem dX1_init_126 : decode cX1_init 126 = .ok (.bipush 10, 2) := by decide +kernel
theorem dX1_init_128 : decode cX1_init 128 = .ok (.newarray .int, 2) := by decide +kernel
theorem dX1_init_130 : decode cX1_init 130 = .ok (.putfield 60, 3) := by decide +kernel
theorem dX1_init_133 : decode cX1_init 133 = .ok (.iconst 0, 1) := by decide +kernel
theorem dX1_init_134 : decode cX1_init 134 = .ok (.istore_n 1, 1) := by decide +kernel
theorem dX1_init_135 : decode cX1_init 135 = .ok (.iload_n 1, 1) := by decide +kernel
theorem dX1_init_136 : decode cX1_init 136 = .ok (.bipush 10, 2) := by decide +kernel
theorem dX1_init_138 : decode cX1_init 138 = .ok (.if_icmp .ge 46, 3) := by decide +kernel
theorem dX1_init_141 : decode cX1_init 141 = .ok (.aload_n 0, 1) := by decide +kernel
theorem dX1_init_142 : decode cX1_init 142 = .ok (.getfield 30, 3) := by decide +kernel
theorem dX1_init_145 : decode cX1_init 145 = .ok (.iload_n 1, 1) := by decide +kernel
theorem dX1_init_146 : decode cX1_init 146 = .ok (.iconst (-1), 1) := by decide +kernel
theorem dX1_init_147 : decode cX1_init 147 = .ok (.iastore, 1) := by decide +kernel
theorem dX1_init_148 : decode cX1_init 148 = .ok (.aload_n 0, 1) := by decide +kernel
theorem dX1_init_149 : decode cX1_init 149 = .ok (.getfield 36, 3) := by decide +kernel
theorem dX1_init_152 : decode cX1_init 152 = .ok (.iload_n 1, 1) := by decide +kernel
theorem dX1_init_153 : decode cX1_init 153 = .ok (.sipush 10000, 3) := by decide +kernel
theorem dX1_init_156 : decode cX1_init 156 = .ok (.iastore, 1) := by decide +kernel
theorem dX1_init_157 : decode cX1_init 157 = .ok (.aload_n 0, 1) := by decide +kernel
theorem dX1_init_158 : decode cX1_init 158 = .ok (.getfield 39, 3) := by decide +kernel
theorem dX1_init_161 : decode cX1_init 161 = .ok (.iload_n 1, 1) := by decide +kernel
theorem dX1_init_162 : decode cX1_init 162 = .ok (.iconst (-1), 1) := by decide +kernel
theorem dX1_init_163 : decode cX1_init 163 = .ok (.iastore, 1) := by decide +kernel
theorem dX1_init_164 : decode cX1_init 164 = .ok (.aload_n 0, 1) := by decide +kernel
theorem dX1_init_165 : decode cX1_init 165 = .ok (.getfield 45, 3) := by decide +kernel
theorem dX1_init_168 : decode cX1_init 168 = .ok (.iload_n 1, 1) := by decide +kernel
theorem dX1_init_169 : decode cX1_init 169 = .ok (.iconst 1, 1) := by decide +kernel
theorem dX1_init_170 : decode cX1_init 170 = .ok (.iastore, 1) := by decide +kernel
theorem dX1_init_171 : decode cX1_init 171 = .ok (.aload_n 0, 1) := by decide +kernel
theorem dX1_init_172 : decode cX1_init 172 = .ok (.getfield 48, 3) := by decide +kernel
theorem dX1_init_175 : decode cX1_init 175 = .ok (.iload_n 1, 1) := by decide +kernel
theorem dX1_init_176 : decode cX1_init 176 = .ok (.iconst 1, 1) := by decide +kernel
theorem dX1_init_177 : decode cX1_init 177 = .ok (.iastore, 1) := by decide +kernel
theorem dX1_init_178 : decode cX1_init 178 = .ok (.iinc 1 1, 3) := by decide +kernel
theorem dX1_init_181 : decode cX1_init 181 = .ok (.goto (-46), 3) := by decide +kernel
theorem dX1_init_184 : decode cX1_init 184 = .ok (.iconst 0, 1) := by decide +kernel
theorem dX1_init_185 : decode cX1_init 185 = .ok (.istore_n 1, 1) := by decide +kernel
theorem dX1_init_186 : decode cX1_init 186 = .ok (.iload_n 1, 1) := by decide +kernel
theorem dX1_init_187 : decode cX1_init 187 = .ok (.bipush 100, 2) := by decide +kernel
theorem dX1_init_189 : decode cX1_init 189 = .ok (.if_icmp .ge 16, 3) := by decide +kernel
theorem dX1_init_192 : decode cX1_init 192 = .ok (.aload_n 0, 1) := by decide +kernel
theorem dX1_init_193 : decode cX1_init 193 = .ok (.getfield 57, 3) := by decide +kernel
theorem dX1_init_196 : decode cX1_init 196 = .ok (.iload_n 1, 1) := by decide +kernel
theorem dX1_init_197 : decode cX1_init 197 = .ok (.iconst (-1), 1) := by decide +kernel
theorem dX1_init_198 : decode cX1_init 198 = .ok (.iastore, 1) := by decide +kernel
theorem dX1_init_199 : decode cX1_init 199 = .ok (.iinc 1 1, 3) := by decide +kernel
theorem dX1_init_202 : decode cX1_init 202 = .ok (.goto (-16), 3) := by decide +kernel
theorem dX1_init_205 : decode cX1_init 205 = .ok (.return_, 1) := by decide +kernel
theorem dX1_thrown_0 : decode cX1_thrown 0 = .ok (.aload_n 0, 1) := by decide +kernel
theorem dX1_thrown_1 : decode cX1_thrown 1 = .ok (.getfield 63, 3) := by decide +kernel
theorem dX1_thrown_4 : decode cX1_thrown 4 = .ok (.ireturn, 1) := by decide +kernel
theorem dX1_fails_0 : decode cX1_fails 0 = .ok (.aload_n 0, 1) := by decide +kernel
theorem dX1_fails_1 : decode cX1_fails 1 = .ok (.iload_n 1, 1) := by decide +kernel
theorem dX1_fails_2 : decode cX1_fails 2 = .ok (.putfield 63, 3) := by decide +kernel
theorem dX1_fails_5 : decode cX1_fails 5 = .ok (.iload_n 1, 1) := by decide +kernel
theorem dX1_fails_6 : decode cX1_fails 6 = .ok (.ifCond .le 7, 3) := by decide +kernel
theorem dX1_fails_9 : decode cX1_fails 9 = .ok (.iconst 1, 1) := by decide +kernel
theorem dX1_fails_10 : decode cX1_fails 10 = .ok (.goto 4, 3) := by decide +kernel
theorem dX1_fails_13 : decode cX1_fails 13 = .ok (.iconst 0, 1) := by decide +kernel
theorem dX1_fails_14 : decode cX1_fails 14 = .ok (.ireturn, 1) := by decide +kernel
theorem dX1_isIn_0 : decode cX1_isIn 0 = .ok (.iload_n 0, 1) := by decide +kernel
theorem dX1_isIn_1 : decode cX1_isIn 1 = .ok (.iload_n 1, 1) := by decide +kernel
theorem dX1_isIn_2 : decode cX1_isIn 2 = .ok (.if_icmp .lt 12, 3) := by decide +kernel
theorem dX1_isIn_5 : decode cX1_isIn 5 = .ok (.iload_n 0, 1) := by decide +kernel
theorem dX1_isIn_6 : decode cX1_isIn 6 = .ok (.iload_n 2, 1) := by decide +kernel
theorem dX1_isIn_7 : decode cX1_isIn 7 = .ok (.if_icmp .gt 7, 3) := by decide +kernel
theorem dX1_isIn_10 : decode cX1_isIn 10 = .ok (.iconst 1, 1) := by decide +kernel
theorem dX1_isIn_11 : decode cX1_isIn 11 = .ok (.goto 4, 3) := by decide +kernel
theorem dX1_isIn_14 : decode cX1_isIn 14 = .ok (.iconst 0, 1) := by decide +kernel
theorem dX1_isIn_15 : decode cX1_isIn 15 = .ok (.ireturn, 1) := by decide +kernel
set_option maxRecDepth 20000 in
theorem ggX1_isNode_X1_isIn : GoodIn wsX1_isNode wsX1_isIn := goodIn_r _ [4] (by decide +kernel) (by decide +kernel)
set_option maxRecDepth 20000 in
theorem gX1_isNode_X1_isIn : GoodIn wsX1_isNode (va_wsS RX1 66 yX1_isIn wsX1_isIn) := goodIn_app (goodIn_of _ (by decide +kernel)) ggX1_isNode_X1_isIn
theorem dX1_isNode_0 : decode cX1_isNode 0 = .ok (.iload_n 0, 1) := by decide +kernel
theorem dX1_isNode_1 : decode cX1_isNode 1 = .ok (.iconst 0, 1) := by decide +kernel
theorem dX1_isNode_2 : decode cX1_isNode 2 = .ok (.bipush 9, 2) := by decide +kernel
theorem dX1_isNode_4 : decode cX1_isNode 4 = .ok (.invokestatic 66, 3) := by decide +kernel
theorem dX1_isNode_7 : decode cX1_isNode 7 = .ok (.ireturn, 1) := by decide +kernel
theorem dX1_resets_0 : decode cX1_resets 0 = .ok (.aload_n 0, 1) := by decide +kernel
theorem dX1_resets_1 : decode cX1_resets 1 = .ok (.getfield 45, 3) := by decide +kernel
theorem dX1_resets_4 : decode cX1_resets 4 = .ok (.iload_n 1, 1) := by decide +kernel
theorem dX1_resets_5 : decode cX1_resets 5 = .ok (.aload_n 0, 1) := by decide +kernel
theorem dX1_resets_6 : decode cX1_resets 6 = .ok (.getfield 13, 3) := by decide +kernel
theorem dX1_resets_9 : decode cX1_resets 9 = .ok (.iastore, 1) := by decide +kernel
theorem dX1_resets_10 : decode cX1_resets 10 = .ok (.aload_n 0, 1) := by decide +kernel
theorem dX1_resets_11 : decode cX1_resets 11 = .ok (.getfield 48, 3) := by decide +kernel
theorem dX1_resets_14 : decode cX1_resets 14 = .ok (.iload_n 1, 1) := by decide +kernel
theorem dX1_resets_15 : decode cX1_resets 15 = .ok (.aload_n 0, 1) := by decide +kernel
theorem dX1_resets_16 : decode cX1_resets 16 = .ok (.getfield 70, 3) := by decide +kernel
theorem dX1_resets_19 : decode cX1_resets 19 = .ok (.aload_n 0, 1) := by decide +kernel
theorem dX1_resets_20 : decode cX1_resets 20 = .ok (.getfield 13, 3) := by decide +kernel
theorem dX1_resets_23 : decode cX1_resets 23 = .ok (.iadd, 1) := by decide +kernel
theorem dX1_resets_24 : decode cX1_resets 24 = .ok (.iastore, 1) := by decide +kernel
theorem dX1_resets_25 : decode cX1_resets 25 = .ok (.return_, 1) := by decide +kernel
theorem dX1_rankBy_0 : decode cX1_rankBy 0 = .ok (.aload_n 0, 1) := by decide +kernel
theorem dX1_rankBy_1 : decode cX1_rankBy 1 = .ok (.getfield 57, 3) := by decide +kernel
theorem dX1_rankBy_4 : decode cX1_rankBy 4 = .ok (.bipush 10, 2) := by decide +kernel
theorem dX1_rankBy_6 : decode cX1_rankBy 6 = .ok (.iload_n 1, 1) := by decide +kernel
theorem dX1_rankBy_7 : decode cX1_rankBy 7 = .ok (.imul, 1) := by decide +kernel
theorem dX1_rankBy_8 : decode cX1_rankBy 8 = .ok (.iload_n 2, 1) := by decide +kernel
theorem dX1_rankBy_9 : decode cX1_rankBy 9 = .ok (.iadd, 1) := by decide +kernel
theorem dX1_rankBy_10 : decode cX1_rankBy 10 = .ok (.iaload, 1) := by decide +kernel
theorem dX1_rankBy_11 : decode cX1_rankBy 11 = .ok (.aload_n 0, 1) := by decide +kernel
theorem dX1_rankBy_12 : decode cX1_rankBy 12 = .ok (.getfield 19, 3) := by decide +kernel
theorem dX1_rankBy_15 : decode cX1_rankBy 15 = .ok (.bipush 10, 2) := by decide +kernel
theorem dX1_rankBy_17 : decode cX1_rankBy 17 = .ok (.iload_n 1, 1) := by decide +kernel
theorem dX1_rankBy_18 : decode cX1_rankBy 18 = .ok (.imul, 1) := by decide +kernel
theorem dX1_rankBy_19 : decode cX1_rankBy 19 = .ok (.iload_n 2, 1) := by decide +kernel
theorem dX1_rankBy_20 : decode cX1_rankBy 20 = .ok (.iadd, 1) := by decide +kernel
theorem dX1_rankBy_21 : decode cX1_rankBy 21 = .ok (.iaload, 1) := by decide +kernel
theorem dX1_rankBy_22 : decode cX1_rankBy 22 = .ok (.iadd, 1) := by decide +kernel
theorem dX1_rankBy_23 : decode cX1_rankBy 23 = .ok (.ireturn, 1) := by decide +kernel
set_option maxRecDepth 20000 in
theorem ggX1_isCandidate_X1_isIn : GoodIn wsX1_isCandidate wsX1_isIn := goodIn_r _ [12] (by decide +kernel) (by decide +kernel)
set_option maxRecDepth 20000 in
theorem gX1_isCandidate_X1_isIn : GoodIn wsX1_isCandidate (va_wsS RX1 66 yX1_isIn wsX1_isIn) := goodIn_app (goodIn_of _ (by decide +kernel)) ggX1_isCandidate_X1_isIn
set_option maxRecDepth 20000 in
theorem ggX1_isCandidate_X1_rankBy : GoodIn wsX1_isCandidate wsX1_rankBy := goodIn_r _ [16, 1, 17, 18, 19, 20, 21, 22, 23, 24, 25, 26, 27, 28, 29, 30, 31, 32, 33, 34, 35, 36, 37, 38] (by decide +kernel) (by decide +kernel)
set_option maxRecDepth 20000 in
theorem gX1_isCandidate_X1_rankBy : GoodIn wsX1_isCandidate (wsV RX1 73 RX1 yX1_rankBy wsX1_rankBy) := goodIn_app (goodIn_of _ (by decide +kernel)) ggX1_isCandidate_X1_rankBy
theorem dX1_isCandidate_0 : decode cX1_isCandidate 0 = .ok (.bipush 10, 2) := by decide +kernel
theorem dX1_isCandidate_2 : decode cX1_isCandidate 2 = .ok (.iload_n 1, 1) := by decide +kernel
theorem dX1_isCandidate_3 : decode cX1_isCandidate 3 = .ok (.imul, 1) := by decide +kernel
theorem dX1_isCandidate_4 : decode cX1_isCandidate 4 = .ok (.iload_n 2, 1) := by decide +kernel
theorem dX1_isCandidate_5 : decode cX1_isCandidate 5 = .ok (.iadd, 1) := by decide +kernel
theorem dX1_isCandidate_6 : decode cX1_isCandidate 6 = .ok (.istore_n 3, 1) := by decide +kernel
theorem dX1_isCandidate_7 : decode cX1_isCandidate 7 = .ok (.aload_n 0, 1) := by decide +kernel
theorem dX1_isCandidate_8 : decode cX1_isCandidate 8 = .ok (.getfield 57, 3) := by decide +kernel
theorem dX1_isCandidate_11 : decode cX1_isCandidate 11 = .ok (.iload_n 3, 1) := by decide +kernel
theorem dX1_isCandidate_12 : decode cX1_isCandidate 12 = .ok (.iaload, 1) := by decide +kernel
theorem dX1_isCandidate_13 : decode cX1_isCandidate 13 = .ok (.iconst 0, 1) := by decide +kernel
theorem dX1_isCandidate_14 : decode cX1_isCandidate 14 = .ok (.sipush 9999, 3) := by decide +kernel
theorem dX1_isCandidate_17 : decode cX1_isCandidate 17 = .ok (.invokestatic 66, 3) := by decide +kernel
theorem dX1_isCandidate_20 : decode cX1_isCandidate 20 = .ok (.ifCond .eq 15, 3) := by decide +kernel
theorem dX1_isCandidate_23 : decode cX1_isCandidate 23 = .ok (.aload_n 0, 1) := by decide +kernel
theorem dX1_isCandidate_24 : decode cX1_isCandidate 24 = .ok (.iload_n 1, 1) := by decide +kernel
theorem dX1_isCandidate_25 : decode cX1_isCandidate 25 = .ok (.iload_n 2, 1) := by decide +kernel
theorem dX1_isCandidate_26 : decode cX1_isCandidate 26 = .ok (.invokevirtual 73, 3) := by decide +kernel
theorem dX1_isCandidate_29 : decode cX1_isCandidate 29 = .ok (.sipush 10000, 3) := by decide +kernel
theorem dX1_isCandidate_32 : decode cX1_isCandidate 32 = .ok (.if_icmp .lt 5, 3) := by decide +kernel
theorem dX1_isCandidate_35 : decode cX1_isCandidate 35 = .ok (.iconst 0, 1) := by decide +kernel
theorem dX1_isCandidate_36 : decode cX1_isCandidate 36 = .ok (.ireturn, 1) := by decide +kernel
theorem dX1_isCandidate_37 : decode cX1_isCandidate 37 = .ok (.aload_n 0, 1) := by decide +kernel
theorem dX1_isCandidate_38 : decode cX1_isCandidate 38 = .ok (.getfield 51, 3) := by decide +kernel
theorem dX1_isCandidate_41 : decode cX1_isCandidate 41 = .ok (.iload_n 3, 1) := by decide +kernel
theorem dX1_isCandidate_42 : decode cX1_isCandidate 42 = .ok (.iaload, 1) := by decide +kernel
theorem dX1_isCandidate_43 : decode cX1_isCandidate 43 = .ok (.aload_n 0, 1) := by decide +kernel
theorem dX1_isCandidate_44 : decode cX1_isCandidate 44 = .ok (.getfield 30, 3) := by decide +kernel
theorem dX1_isCandidate_47 : decode cX1_isCandidate 47 = .ok (.iload_n 1, 1) := by decide +kernel
theorem dX1_isCandidate_48 : decode cX1_isCandidate 48 = .ok (.iaload, 1) := by decide +kernel
theorem dX1_isCandidate_49 : decode cX1_isCandidate 49 = .ok (.if_icmp .ne 7, 3) := by decide +kernel
theorem dX1_isCandidate_52 : decode cX1_isCandidate 52 = .ok (.iconst 1, 1) := by decide +kernel
theorem dX1_isCandidate_53 : decode cX1_isCandidate 53 = .ok (.goto 4, 3) := by decide +kernel
theorem dX1_isCandidate_56 : decode cX1_isCandidate 56 = .ok (.iconst 0, 1) := by decide +kernel
theorem dX1_isCandidate_57 : decode cX1_isCandidate 57 = .ok (.istore 4, 2) := by decide +kernel
theorem dX1_isCandidate_59 : decode cX1_isCandidate 59 = .ok (.iload 4, 2) := by decide +kernel
theorem dX1_isCandidate_61 : decode cX1_isCandidate 61 = .ok (.ifCond .eq 18, 3) := by decide +kernel
theorem dX1_isCandidate_64 : decode cX1_isCandidate 64 = .ok (.aload_n 0, 1) := by decide +kernel
theorem dX1_isCandidate_65 : decode cX1_isCandidate 65 = .ok (.getfield 54, 3) := by decide +kernel
theorem dX1_isCandidate_68 : decode cX1_isCandidate 68 = .ok (.iload_n 3, 1) := by decide +kernel
theorem dX1_isCandidate_69 : decode cX1_isCandidate 69 = .ok (.iaload, 1) := by decide +kernel
theorem dX1_isCandidate_70 : decode cX1_isCandidate 70 = .ok (.aload_n 0, 1) := by decide +kernel
theorem dX1_isCandidate_71 : decode cX1_isCandidate 71 = .ok (.getfield 33, 3) := by decide +kernel
theorem dX1_isCandidate_74 : decode cX1_isCandidate 74 = .ok (.iload_n 1, 1) := by decide +kernel
theorem dX1_isCandidate_75 : decode cX1_isCandidate 75 = .ok (.iaload, 1) := by decide +kernel
theorem dX1_isCandidate_76 : decode cX1_isCandidate 76 = .ok (.if_icmp .lt 7, 3) := by decide +kernel
theorem dX1_isCandidate_79 : decode cX1_isCandidate 79 = .ok (.iconst 1, 1) := by decide +kernel
theorem dX1_isCandidate_80 : decode cX1_isCandidate 80 = .ok (.goto 4, 3) := by decide +kernel
theorem dX1_isCandidate_83 : decode cX1_isCandidate 83 = .ok (.iconst 0, 1) := by decide +kernel
theorem dX1_isCandidate_84 : decode cX1_isCandidate 84 = .ok (.istore 5, 2) := by decide +kernel
theorem dX1_isCandidate_86 : decode cX1_isCandidate 86 = .ok (.bipush 10, 2) := by decide +kernel
theorem dX1_isCandidate_88 : decode cX1_isCandidate 88 = .ok (.iload_n 1, 1) := by decide +kernel
theorem dX1_isCandidate_89 : decode cX1_isCandidate 89 = .ok (.imul, 1) := by decide +kernel
theorem dX1_isCandidate_90 : decode cX1_isCandidate 90 = .ok (.istore 6, 2) := by decide +kernel
theorem dX1_isCandidate_92 : decode cX1_isCandidate 92 = .ok (.iload 6, 2) := by decide +kernel
theorem dX1_isCandidate_94 : decode cX1_isCandidate 94 = .ok (.bipush 10, 2) := by decide +kernel
theorem dX1_isCandidate_96 : decode cX1_isCandidate 96 = .ok (.iload_n 1, 1) := by decide +kernel
theorem dX1_isCandidate_97 : decode cX1_isCandidate 97 = .ok (.imul, 1) := by decide +kernel
theorem dX1_isCandidate_98 : decode cX1_isCandidate 98 = .ok (.bipush 10, 2) := by decide +kernel
theorem dX1_isCandidate_100 : decode cX1_isCandidate 100 = .ok (.iadd, 1) := by decide +kernel
theorem dX1_isCandidate_101 : decode cX1_isCandidate 101 = .ok (.if_icmp .ge 76, 3) := by decide +kernel
theorem dX1_isCandidate_104 : decode cX1_isCandidate 104 = .ok (.aload_n 0, 1) := by decide +kernel
theorem dX1_isCandidate_105 : decode cX1_isCandidate 105 = .ok (.getfield 57, 3) := by decide +kernel
theorem dX1_isCandidate_108 : decode cX1_isCandidate 108 = .ok (.iload 6, 2) := by decide +kernel
theorem dX1_isCandidate_110 : decode cX1_isCandidate 110 = .ok (.iaload, 1) := by decide +kernel
theorem dX1_isCandidate_111 : decode cX1_isCandidate 111 = .ok (.iconst (-1), 1) := by decide +kernel
theorem dX1_isCandidate_112 : decode cX1_isCandidate 112 = .ok (.if_icmp .eq 23, 3) := by decide +kernel
theorem dX1_isCandidate_115 : decode cX1_isCandidate 115 = .ok (.aload_n 0, 1) := by decide +kernel
theorem dX1_isCandidate_116 : decode cX1_isCandidate 116 = .ok (.getfield 51, 3) := by decide +kernel
theorem dX1_isCandidate_119 : decode cX1_isCandidate 119 = .ok (.iload 6, 2) := by decide +kernel
theorem dX1_isCandidate_121 : decode cX1_isCandidate 121 = .ok (.iaload, 1) := by decide +kernel
theorem dX1_isCandidate_122 : decode cX1_isCandidate 122 = .ok (.aload_n 0, 1) := by decide +kernel
theorem dX1_isCandidate_123 : decode cX1_isCandidate 123 = .ok (.getfield 51, 3) := by decide +kernel
theorem dX1_isCandidate_126 : decode cX1_isCandidate 126 = .ok (.iload_n 3, 1) := by decide +kernel
theorem dX1_isCandidate_127 : decode cX1_isCandidate 127 = .ok (.iaload, 1) := by decide +kernel
theorem dX1_isCandidate_128 : decode cX1_isCandidate 128 = .ok (.if_icmp .ne 7, 3) := by decide +kernel
theorem dX1_isCandidate_131 : decode cX1_isCandidate 131 = .ok (.iconst 1, 1) := by decide +kernel
theorem dX1_isCandidate_132 : decode cX1_isCandidate 132 = .ok (.goto 4, 3) := by decide +kernel
theorem dX1_isCandidate_135 : decode cX1_isCandidate 135 = .ok (.iconst 0, 1) := by decide +kernel
theorem dX1_isCandidate_136 : decode cX1_isCandidate 136 = .ok (.istore 7, 2) := by decide +kernel
theorem dX1_isCandidate_138 : decode cX1_isCandidate 138 = .ok (.iload 5, 2) := by decide +kernel
theorem dX1_isCandidate_140 : decode cX1_isCandidate 140 = .ok (.ifCond .eq 28, 3) := by decide +kernel
theorem dX1_isCandidate_143 : decode cX1_isCandidate 143 = .ok (.iload 7, 2) := by decide +kernel
theorem dX1_isCandidate_145 : decode cX1_isCandidate 145 = .ok (.ifCond .eq 19, 3) := by decide +kernel
theorem dX1_isCandidate_148 : decode cX1_isCandidate 148 = .ok (.aload_n 0, 1) := by decide +kernel
theorem dX1_isCandidate_149 : decode cX1_isCandidate 149 = .ok (.getfield 54, 3) := by decide +kernel
theorem dX1_isCandidate_152 : decode cX1_isCandidate 152 = .ok (.iload 6, 2) := by decide +kernel
theorem dX1_isCandidate_154 : decode cX1_isCandidate 154 = .ok (.iaload, 1) := by decide +kernel
theorem dX1_isCandidate_155 : decode cX1_isCandidate 155 = .ok (.aload_n 0, 1) := by decide +kernel
theorem dX1_isCandidate_156 : decode cX1_isCandidate 156 = .ok (.getfield 54, 3) := by decide +kernel
theorem dX1_isCandidate_159 : decode cX1_isCandidate 159 = .ok (.iload_n 3, 1) := by decide +kernel
theorem dX1_isCandidate_160 : decode cX1_isCandidate 160 = .ok (.iaload, 1) := by decide +kernel
theorem dX1_isCandidate_161 : decode cX1_isCandidate 161 = .ok (.if_icmp .gt 7, 3) := by decide +kernel
theorem dX1_isCandidate_164 : decode cX1_isCandidate 164 = .ok (.iconst 1, 1) := by decide +kernel
theorem dX1_isCandidate_165 : decode cX1_isCandidate 165 = .ok (.goto 4, 3) := by decide +kernel
theorem dX1_isCandidate_168 : decode cX1_isCandidate 168 = .ok (.iconst 0, 1) := by decide +kernel
theorem dX1_isCandidate_169 : decode cX1_isCandidate 169 = .ok (.istore 5, 2) := by decide +kernel
theorem dX1_isCandidate_171 : decode cX1_isCandidate 171 = .ok (.iinc 6 1, 3) := by decide +kernel
theorem dX1_isCandidate_174 : decode cX1_isCandidate 174 = .ok (.goto (-82), 3) := by decide +kernel
theorem dX1_isCandidate_177 : decode cX1_isCandidate 177 = .ok (.iload 4, 2) := by decide +kernel
theorem dX1_isCandidate_179 : decode cX1_isCandidate 179 = .ok (.ifCond .eq 77, 3) := by decide +kernel
theorem dX1_isCandidate_182 : decode cX1_isCandidate 182 = .ok (.aload_n 0, 1) := by decide +kernel
theorem dX1_isCandidate_183 : decode cX1_isCandidate 183 = .ok (.getfield 54, 3) := by decide +kernel
theorem dX1_isCandidate_186 : decode cX1_isCandidate 186 = .ok (.iload_n 3, 1) := by decide +kernel
theorem dX1_isCandidate_187 : decode cX1_isCandidate 187 = .ok (.iaload, 1) := by decide +kernel
theorem dX1_isCandidate_188 : decode cX1_isCandidate 188 = .ok (.aload_n 0, 1) := by decide +kernel
theorem dX1_isCandidate_189 : decode cX1_isCandidate 189 = .ok (.getfield 33, 3) := by decide +kernel
theorem dX1_isCandidate_192 : decode cX1_isCandidate 192 = .ok (.iload_n 1, 1) := by decide +kernel
theorem dX1_isCandidate_193 : decode cX1_isCandidate 193 = .ok (.iaload, 1) := by decide +kernel
theorem dX1_isCandidate_194 : decode cX1_isCandidate 194 = .ok (.if_icmp .ne 62, 3) := by decide +kernel
theorem dX1_isCandidate_197 : decode cX1_isCandidate 197 = .ok (.aload_n 0, 1) := by decide +kernel
theorem dX1_isCandidate_198 : decode cX1_isCandidate 198 = .ok (.getfield 36, 3) := by decide +kernel
theorem dX1_isCandidate_201 : decode cX1_isCandidate 201 = .ok (.iload_n 1, 1) := by decide +kernel
theorem dX1_isCandidate_202 : decode cX1_isCandidate 202 = .ok (.iaload, 1) := by decide +kernel
theorem dX1_isCandidate_203 : decode cX1_isCandidate 203 = .ok (.sipush 10000, 3) := by decide +kernel
theorem dX1_isCandidate_206 : decode cX1_isCandidate 206 = .ok (.if_icmp .ge 50, 3) := by decide +kernel
theorem dX1_isCandidate_209 : decode cX1_isCandidate 209 = .ok (.iload 5, 2) := by decide +kernel
theorem dX1_isCandidate_211 : decode cX1_isCandidate 211 = .ok (.ifCond .eq 42, 3) := by decide +kernel
theorem dX1_isCandidate_214 : decode cX1_isCandidate 214 = .ok (.aload_n 0, 1) := by decide +kernel
theorem dX1_isCandidate_215 : decode cX1_isCandidate 215 = .ok (.getfield 57, 3) := by decide +kernel
theorem dX1_isCandidate_218 : decode cX1_isCandidate 218 = .ok (.iload_n 3, 1) := by decide +kernel
theorem dX1_isCandidate_219 : decode cX1_isCandidate 219 = .ok (.iaload, 1) := by decide +kernel
theorem dX1_isCandidate_220 : decode cX1_isCandidate 220 = .ok (.aload_n 0, 1) := by decide +kernel
theorem dX1_isCandidate_221 : decode cX1_isCandidate 221 = .ok (.getfield 36, 3) := by decide +kernel
theorem dX1_isCandidate_224 : decode cX1_isCandidate 224 = .ok (.iload_n 1, 1) := by decide +kernel
theorem dX1_isCandidate_225 : decode cX1_isCandidate 225 = .ok (.iaload, 1) := by decide +kernel
theorem dX1_isCandidate_226 : decode cX1_isCandidate 226 = .ok (.if_icmp .ge 27, 3) := by decide +kernel
theorem dX1_isCandidate_229 : decode cX1_isCandidate 229 = .ok (.aload_n 0, 1) := by decide +kernel
theorem dX1_isCandidate_230 : decode cX1_isCandidate 230 = .ok (.iload_n 1, 1) := by decide +kernel
theorem dX1_isCandidate_231 : decode cX1_isCandidate 231 = .ok (.iload_n 2, 1) := by decide +kernel
theorem dX1_isCandidate_232 : decode cX1_isCandidate 232 = .ok (.invokevirtual 73, 3) := by decide +kernel
theorem dX1_isCandidate_235 : decode cX1_isCandidate 235 = .ok (.aload_n 0, 1) := by decide +kernel
theorem dX1_isCandidate_236 : decode cX1_isCandidate 236 = .ok (.getfield 42, 3) := by decide +kernel
theorem dX1_isCandidate_239 : decode cX1_isCandidate 239 = .ok (.iload_n 1, 1) := by decide +kernel
theorem dX1_isCandidate_240 : decode cX1_isCandidate 240 = .ok (.iaload, 1) := by decide +kernel
theorem dX1_isCandidate_241 : decode cX1_isCandidate 241 = .ok (.aload_n 0, 1) := by decide +kernel
theorem dX1_isCandidate_242 : decode cX1_isCandidate 242 = .ok (.getfield 7, 3) := by decide +kernel
theorem dX1_isCandidate_245 : decode cX1_isCandidate 245 = .ok (.iadd, 1) := by decide +kernel
theorem dX1_isCandidate_246 : decode cX1_isCandidate 246 = .ok (.if_icmp .gt 7, 3) := by decide +kernel
theorem dX1_isCandidate_249 : decode cX1_isCandidate 249 = .ok (.iconst 1, 1) := by decide +kernel
theorem dX1_isCandidate_250 : decode cX1_isCandidate 250 = .ok (.goto 4, 3) := by decide +kernel
theorem dX1_isCandidate_253 : decode cX1_isCandidate 253 = .ok (.iconst 0, 1) := by decide +kernel
theorem dX1_isCandidate_254 : decode cX1_isCandidate 254 = .ok (.istore 5, 2) := by decide +kernel
theorem dX1_isCandidate_256 : decode cX1_isCandidate 256 = .ok (.iload 5, 2) := by decide +kernel
theorem dX1_isCandidate_258 : decode cX1_isCandidate 258 = .ok (.ireturn, 1) := by decide +kernel
set_option maxRecDepth 20000 in
theorem ggX1_takes_X1_rankBy : GoodIn wsX1_takes wsX1_rankBy := goodIn_r _ [12, 13, 14, 15, 16, 17, 18, 19, 20, 21, 22, 23, 24, 25, 26, 27, 28, 29, 30, 31, 32, 33, 34, 35] (by decide +kernel) (by decide +kernel)
set_option maxRecDepth 20000 in
theorem gX1_takes_X1_rankBy : GoodIn wsX1_takes (wsV RX1 73 RX1 yX1_rankBy wsX1_rankBy) := goodIn_app (goodIn_of _ (by decide +kernel)) ggX1_takes_X1_rankBy
theorem dX1_takes_0 : decode cX1_takes 0 = .ok (.bipush 10, 2) := by decide +kernel
theorem dX1_takes_2 : decode cX1_takes 2 = .ok (.iload_n 1, 1) := by decide +kernel
theorem dX1_takes_3 : decode cX1_takes 3 = .ok (.imul, 1) := by decide +kernel
theorem dX1_takes_4 : decode cX1_takes 4 = .ok (.iload_n 2, 1) := by decide +kernel
theorem dX1_takes_5 : decode cX1_takes 5 = .ok (.iadd, 1) := by decide +kernel
theorem dX1_takes_6 : decode cX1_takes 6 = .ok (.istore_n 3, 1) := by decide +kernel
theorem dX1_takes_7 : decode cX1_takes 7 = .ok (.aload_n 0, 1) := by decide +kernel
theorem dX1_takes_8 : decode cX1_takes 8 = .ok (.getfield 51, 3) := by decide +kernel
theorem dX1_takes_11 : decode cX1_takes 11 = .ok (.iload_n 3, 1) := by decide +kernel
theorem dX1_takes_12 : decode cX1_takes 12 = .ok (.iaload, 1) := by decide +kernel
theorem dX1_takes_13 : decode cX1_takes 13 = .ok (.aload_n 0, 1) := by decide +kernel
theorem dX1_takes_14 : decode cX1_takes 14 = .ok (.getfield 30, 3) := by decide +kernel
theorem dX1_takes_17 : decode cX1_takes 17 = .ok (.iload_n 1, 1) := by decide +kernel
theorem dX1_takes_18 : decode cX1_takes 18 = .ok (.iaload, 1) := by decide +kernel
theorem dX1_takes_19 : decode cX1_takes 19 = .ok (.if_icmp .ne 18, 3) := by decide +kernel
theorem dX1_takes_22 : decode cX1_takes 22 = .ok (.aload_n 0, 1) := by decide +kernel
theorem dX1_takes_23 : decode cX1_takes 23 = .ok (.getfield 54, 3) := by decide +kernel
theorem dX1_takes_26 : decode cX1_takes 26 = .ok (.iload_n 3, 1) := by decide +kernel
theorem dX1_takes_27 : decode cX1_takes 27 = .ok (.iaload, 1) := by decide +kernel
theorem dX1_takes_28 : decode cX1_takes 28 = .ok (.aload_n 0, 1) := by decide +kernel
theorem dX1_takes_29 : decode cX1_takes 29 = .ok (.getfield 33, 3) := by decide +kernel
theorem dX1_takes_32 : decode cX1_takes 32 = .ok (.iload_n 1, 1) := by decide +kernel
theorem dX1_takes_33 : decode cX1_takes 33 = .ok (.iaload, 1) := by decide +kernel
theorem dX1_takes_34 : decode cX1_takes 34 = .ok (.if_icmp .eq 7, 3) := by decide +kernel
theorem dX1_takes_37 : decode cX1_takes 37 = .ok (.iconst 1, 1) := by decide +kernel
theorem dX1_takes_38 : decode cX1_takes 38 = .ok (.goto 4, 3) := by decide +kernel
theorem dX1_takes_41 : decode cX1_takes 41 = .ok (.iconst 0, 1) := by decide +kernel
theorem dX1_takes_42 : decode cX1_takes 42 = .ok (.istore 4, 2) := by decide +kernel
theorem dX1_takes_44 : decode cX1_takes 44 = .ok (.aload_n 0, 1) := by decide +kernel
theorem dX1_takes_45 : decode cX1_takes 45 = .ok (.getfield 39, 3) := by decide +kernel
theorem dX1_takes_48 : decode cX1_takes 48 = .ok (.iload_n 1, 1) := by decide +kernel
theorem dX1_takes_49 : decode cX1_takes 49 = .ok (.iload_n 2, 1) := by decide +kernel
theorem dX1_takes_50 : decode cX1_takes 50 = .ok (.iastore, 1) := by decide +kernel
theorem dX1_takes_51 : decode cX1_takes 51 = .ok (.aload_n 0, 1) := by decide +kernel
theorem dX1_takes_52 : decode cX1_takes 52 = .ok (.getfield 30, 3) := by decide +kernel
theorem dX1_takes_55 : decode cX1_takes 55 = .ok (.iload_n 1, 1) := by decide +kernel
theorem dX1_takes_56 : decode cX1_takes 56 = .ok (.aload_n 0, 1) := by decide +kernel
theorem dX1_takes_57 : decode cX1_takes 57 = .ok (.getfield 51, 3) := by decide +kernel
theorem dX1_takes_60 : decode cX1_takes 60 = .ok (.iload_n 3, 1) := by decide +kernel
theorem dX1_takes_61 : decode cX1_takes 61 = .ok (.iaload, 1) := by decide +kernel
theorem dX1_takes_62 : decode cX1_takes 62 = .ok (.iastore, 1) := by decide +kernel
theorem dX1_takes_63 : decode cX1_takes 63 = .ok (.aload_n 0, 1) := by decide +kernel
theorem dX1_takes_64 : decode cX1_takes 64 = .ok (.getfield 33, 3) := by decide +kernel
theorem dX1_takes_67 : decode cX1_takes 67 = .ok (.iload_n 1, 1) := by decide +kernel
theorem dX1_takes_68 : decode cX1_takes 68 = .ok (.aload_n 0, 1) := by decide +kernel
theorem dX1_takes_69 : decode cX1_takes 69 = .ok (.getfield 54, 3) := by decide +kernel
theorem dX1_takes_72 : decode cX1_takes 72 = .ok (.iload_n 3, 1) := by decide +kernel
theorem dX1_takes_73 : decode cX1_takes 73 = .ok (.iaload, 1) := by decide +kernel
theorem dX1_takes_74 : decode cX1_takes 74 = .ok (.iastore, 1) := by decide +kernel
theorem dX1_takes_75 : decode cX1_takes 75 = .ok (.aload_n 0, 1) := by decide +kernel
theorem dX1_takes_76 : decode cX1_takes 76 = .ok (.getfield 36, 3) := by decide +kernel
theorem dX1_takes_79 : decode cX1_takes 79 = .ok (.iload_n 1, 1) := by decide +kernel
theorem dX1_takes_80 : decode cX1_takes 80 = .ok (.aload_n 0, 1) := by decide +kernel
theorem dX1_takes_81 : decode cX1_takes 81 = .ok (.iload_n 1, 1) := by decide +kernel
theorem dX1_takes_82 : decode cX1_takes 82 = .ok (.iload_n 2, 1) := by decide +kernel
theorem dX1_takes_83 : decode cX1_takes 83 = .ok (.invokevirtual 73, 3) := by decide +kernel
theorem dX1_takes_86 : decode cX1_takes 86 = .ok (.iastore, 1) := by decide +kernel
theorem dX1_takes_87 : decode cX1_takes 87 = .ok (.aload_n 0, 1) := by decide +kernel
theorem dX1_takes_88 : decode cX1_takes 88 = .ok (.getfield 42, 3) := by decide +kernel
theorem dX1_takes_91 : decode cX1_takes 91 = .ok (.iload_n 1, 1) := by decide +kernel
theorem dX1_takes_92 : decode cX1_takes 92 = .ok (.iload 4, 2) := by decide +kernel
theorem dX1_takes_94 : decode cX1_takes 94 = .ok (.ifCond .ne 18, 3) := by decide +kernel
theorem dX1_takes_97 : decode cX1_takes 97 = .ok (.aload_n 0, 1) := by decide +kernel
theorem dX1_takes_98 : decode cX1_takes 98 = .ok (.getfield 36, 3) := by decide +kernel
theorem dX1_takes_101 : decode cX1_takes 101 = .ok (.iload_n 1, 1) := by decide +kernel
theorem dX1_takes_102 : decode cX1_takes 102 = .ok (.iaload, 1) := by decide +kernel
theorem dX1_takes_103 : decode cX1_takes 103 = .ok (.aload_n 0, 1) := by decide +kernel
theorem dX1_takes_104 : decode cX1_takes 104 = .ok (.getfield 42, 3) := by decide +kernel
theorem dX1_takes_107 : decode cX1_takes 107 = .ok (.iload_n 1, 1) := by decide +kernel
theorem dX1_takes_108 : decode cX1_takes 108 = .ok (.iaload, 1) := by decide +kernel
theorem dX1_takes_109 : decode cX1_takes 109 = .ok (.if_icmp .ge 12, 3) := by decide +kernel
theorem dX1_takes_112 : decode cX1_takes 112 = .ok (.aload_n 0, 1) := by decide +kernel
theorem dX1_takes_113 : decode cX1_takes 113 = .ok (.getfield 36, 3) := by decide +kernel
theorem dX1_takes_116 : decode cX1_takes 116 = .ok (.iload_n 1, 1) := by decide +kernel
theorem dX1_takes_117 : decode cX1_takes 117 = .ok (.iaload, 1) := by decide +kernel
theorem dX1_takes_118 : decode cX1_takes 118 = .ok (.goto 9, 3) := by decide +kernel
theorem dX1_takes_121 : decode cX1_takes 121 = .ok (.aload_n 0, 1) := by decide +kernel
theorem dX1_takes_122 : decode cX1_takes 122 = .ok (.getfield 42, 3) := by decide +kernel
theorem dX1_takes_125 : decode cX1_takes 125 = .ok (.iload_n 1, 1) := by decide +kernel
theorem dX1_takes_126 : decode cX1_takes 126 = .ok (.iaload, 1) := by decide +kernel
theorem dX1_takes_127 : decode cX1_takes 127 = .ok (.iastore, 1) := by decide +kernel
theorem dX1_takes_128 : decode cX1_takes 128 = .ok (.return_, 1) := by decide +kernel
set_option maxRecDepth 20000 in
theorem ggX1_chooses_X1_isCandidate : GoodIn wsX1_chooses wsX1_isCandidate := goodIn_r _ [11, 12, 13, 4, 14, 5, 6, 15, 16, 17, 18, 10, 19, 20, 21, 22, 23, 24, 37, 38, 39, 40, 41, 42, 43, 44, 45, 46, 47, 48, 49, 50, 51, 52, 53, 54, 55, 56, 57] (by decide +kernel) (by decide +kernel)
set_option maxRecDepth 20000 in
theorem gX1_chooses_X1_isCandidate : GoodIn wsX1_chooses (wsV RX1 77 RX1 yX1_isCandidate wsX1_isCandidate) := goodIn_app (goodIn_of _ (by decide +kernel)) ggX1_chooses_X1_isCandidate
set_option maxRecDepth 20000 in
theorem ggX1_chooses_X1_rankBy : GoodIn wsX1_chooses wsX1_rankBy := goodIn_r _ [23, 12, 24, 37, 38, 39, 40, 41, 42, 43, 44, 45, 46, 47, 48, 49, 50, 51, 52, 53, 54, 55, 56, 57] (by decide +kernel) (by decide +kernel)
set_option maxRecDepth 20000 in
theorem gX1_chooses_X1_rankBy : GoodIn wsX1_chooses (wsV RX1 73 RX1 yX1_rankBy wsX1_rankBy) := goodIn_app (goodIn_of _ (by decide +kernel)) ggX1_chooses_X1_rankBy
set_option maxRecDepth 20000 in
theorem ggX1_chooses_X1_takes : GoodIn wsX1_chooses wsX1_takes := goodIn_r _ [28, 13, 4, 14, 5, 2, 6, 15, 20, 21, 22, 10, 23, 12, 24, 37, 38, 39, 40, 41, 42, 43, 44, 45, 46, 47, 48, 49, 50, 51, 52, 53, 54, 55, 56, 57] (by decide +kernel) (by decide +kernel)
set_option maxRecDepth 20000 in
theorem gX1_chooses_X1_takes : GoodIn wsX1_chooses (wsV RX1 84 RX1 yX1_takes wsX1_takes) := goodIn_app (goodIn_of _ (by decide +kernel)) ggX1_chooses_X1_takes
set_option maxRecDepth 20000 in
theorem ggX1_chooses_X1_resets : GoodIn wsX1_chooses wsX1_resets := goodIn_r _ [32, 33, 34, 35, 36, 37, 38, 39, 40, 41, 42, 43, 44, 45, 46, 47, 48, 49, 50, 51, 52, 53, 54, 55, 56, 57] (by decide +kernel) (by decide +kernel)
set_option maxRecDepth 20000 in
theorem gX1_chooses_X1_resets : GoodIn wsX1_chooses (wsV RX1 88 RX1 yX1_resets wsX1_resets) := goodIn_app (goodIn_of _ (by decide +kernel)) ggX1_chooses_X1_resets
theorem dX1_chooses_0 : decode cX1_chooses 0 = .ok (.aload_n 0, 1) := by decide +kernel
theorem dX1_chooses_1 : decode cX1_chooses 1 = .ok (.getfield 23, 3) := by decide +kernel
theorem dX1_chooses_4 : decode cX1_chooses 4 = .ok (.iload_n 1, 1) := by decide +kernel
theorem dX1_chooses_5 : decode cX1_chooses 5 = .ok (.baload, 1) := by decide +kernel
theorem dX1_chooses_6 : decode cX1_chooses 6 = .ok (.ifCond .eq 4, 3) := by decide +kernel
theorem dX1_chooses_9 : decode cX1_chooses 9 = .ok (.return_, 1) := by decide +kernel
theorem dX1_chooses_10 : decode cX1_chooses 10 = .ok (.iconst (-1), 1) := by decide +kernel
theorem dX1_chooses_11 : decode cX1_chooses 11 = .ok (.istore_n 2, 1) := by decide +kernel
theorem dX1_chooses_12 : decode cX1_chooses 12 = .ok (.iconst 0, 1) := by decide +kernel
theorem dX1_chooses_13 : decode cX1_chooses 13 = .ok (.istore_n 3, 1) := by decide +kernel
theorem dX1_chooses_14 : decode cX1_chooses 14 = .ok (.iload_n 3, 1) := by decide +kernel
theorem dX1_chooses_15 : decode cX1_chooses 15 = .ok (.bipush 10, 2) := by decide +kernel
theorem dX1_chooses_17 : decode cX1_chooses 17 = .ok (.if_icmp .ge 44, 3) := by decide +kernel
theorem dX1_chooses_20 : decode cX1_chooses 20 = .ok (.aload_n 0, 1) := by decide +kernel
theorem dX1_chooses_21 : decode cX1_chooses 21 = .ok (.iload_n 1, 1) := by decide +kernel
theorem dX1_chooses_22 : decode cX1_chooses 22 = .ok (.iload_n 3, 1) := by decide +kernel
theorem dX1_chooses_23 : decode cX1_chooses 23 = .ok (.invokevirtual 77, 3) := by decide +kernel
theorem dX1_chooses_26 : decode cX1_chooses 26 = .ok (.ifCond .eq 27, 3) := by decide +kernel
theorem dX1_chooses_29 : decode cX1_chooses 29 = .ok (.iload_n 2, 1) := by decide +kernel
theorem dX1_chooses_30 : decode cX1_chooses 30 = .ok (.iconst (-1), 1) := by decide +kernel
theorem dX1_chooses_31 : decode cX1_chooses 31 = .ok (.if_icmp .eq 18, 3) := by decide +kernel
theorem dX1_chooses_34 : decode cX1_chooses 34 = .ok (.aload_n 0, 1) := by decide +kernel
theorem dX1_chooses_35 : decode cX1_chooses 35 = .ok (.iload_n 1, 1) := by decide +kernel
theorem dX1_chooses_36 : decode cX1_chooses 36 = .ok (.iload_n 3, 1) := by decide +kernel
theorem dX1_chooses_37 : decode cX1_chooses 37 = .ok (.invokevirtual 73, 3) := by decide +kernel
theorem dX1_chooses_40 : decode cX1_chooses 40 = .ok (.aload_n 0, 1) := by decide +kernel
theorem dX1_chooses_41 : decode cX1_chooses 41 = .ok (.iload_n 1, 1) := by decide +kernel
theorem dX1_chooses_42 : decode cX1_chooses 42 = .ok (.iload_n 2, 1) := by decide +kernel
theorem dX1_chooses_43 : decode cX1_chooses 43 = .ok (.invokevirtual 73, 3) := by decide +kernel
theorem dX1_chooses_46 : decode cX1_chooses 46 = .ok (.if_icmp .ge 7, 3) := by decide +kernel
theorem dX1_chooses_49 : decode cX1_chooses 49 = .ok (.iload_n 3, 1) := by decide +kernel
theorem dX1_chooses_50 : decode cX1_chooses 50 = .ok (.goto 4, 3) := by decide +kernel
theorem dX1_chooses_53 : decode cX1_chooses 53 = .ok (.iload_n 2, 1) := by decide +kernel
theorem dX1_chooses_54 : decode cX1_chooses 54 = .ok (.istore_n 2, 1) := by decide +kernel
