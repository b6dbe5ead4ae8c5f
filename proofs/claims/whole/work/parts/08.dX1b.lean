theorem dX1_chooses_55 : decode cX1_chooses 55 = .ok (.iinc 3 1, 3) := by decide +kernel
theorem dX1_chooses_58 : decode cX1_chooses 58 = .ok (.goto (-44), 3) := by decide +kernel
theorem dX1_chooses_61 : decode cX1_chooses 61 = .ok (.aload_n 0, 1) := by decide +kernel
theorem dX1_chooses_62 : decode cX1_chooses 62 = .ok (.getfield 39, 3) := by decide +kernel
theorem dX1_chooses_65 : decode cX1_chooses 65 = .ok (.iload_n 1, 1) := by decide +kernel
theorem dX1_chooses_66 : decode cX1_chooses 66 = .ok (.iaload, 1) := by decide +kernel
theorem dX1_chooses_67 : decode cX1_chooses 67 = .ok (.istore_n 3, 1) := by decide +kernel
theorem dX1_chooses_68 : decode cX1_chooses 68 = .ok (.iload_n 2, 1) := by decide +kernel
theorem dX1_chooses_69 : decode cX1_chooses 69 = .ok (.iconst (-1), 1) := by decide +kernel
theorem dX1_chooses_70 : decode cX1_chooses 70 = .ok (.if_icmp .eq 53, 3) := by decide +kernel
theorem dX1_chooses_73 : decode cX1_chooses 73 = .ok (.iload_n 3, 1) := by decide +kernel
theorem dX1_chooses_74 : decode cX1_chooses 74 = .ok (.iconst (-1), 1) := by decide +kernel
theorem dX1_chooses_75 : decode cX1_chooses 75 = .ok (.if_icmp .eq 48, 3) := by decide +kernel
theorem dX1_chooses_78 : decode cX1_chooses 78 = .ok (.aload_n 0, 1) := by decide +kernel
theorem dX1_chooses_79 : decode cX1_chooses 79 = .ok (.iload_n 1, 1) := by decide +kernel
theorem dX1_chooses_80 : decode cX1_chooses 80 = .ok (.iload_n 3, 1) := by decide +kernel
theorem dX1_chooses_81 : decode cX1_chooses 81 = .ok (.invokevirtual 77, 3) := by decide +kernel
theorem dX1_chooses_84 : decode cX1_chooses 84 = .ok (.ifCond .eq 39, 3) := by decide +kernel
theorem dX1_chooses_87 : decode cX1_chooses 87 = .ok (.aload_n 0, 1) := by decide +kernel
theorem dX1_chooses_88 : decode cX1_chooses 88 = .ok (.iload_n 1, 1) := by decide +kernel
theorem dX1_chooses_89 : decode cX1_chooses 89 = .ok (.iload_n 3, 1) := by decide +kernel
theorem dX1_chooses_90 : decode cX1_chooses 90 = .ok (.invokevirtual 73, 3) := by decide +kernel
theorem dX1_chooses_93 : decode cX1_chooses 93 = .ok (.aload_n 0, 1) := by decide +kernel
theorem dX1_chooses_94 : decode cX1_chooses 94 = .ok (.iload_n 1, 1) := by decide +kernel
theorem dX1_chooses_95 : decode cX1_chooses 95 = .ok (.iload_n 2, 1) := by decide +kernel
theorem dX1_chooses_96 : decode cX1_chooses 96 = .ok (.invokevirtual 73, 3) := by decide +kernel
theorem dX1_chooses_99 : decode cX1_chooses 99 = .ok (.isub, 1) := by decide +kernel
theorem dX1_chooses_100 : decode cX1_chooses 100 = .ok (.istore 4, 2) := by decide +kernel
theorem dX1_chooses_102 : decode cX1_chooses 102 = .ok (.iload 4, 2) := by decide +kernel
theorem dX1_chooses_104 : decode cX1_chooses 104 = .ok (.aload_n 0, 1) := by decide +kernel
theorem dX1_chooses_105 : decode cX1_chooses 105 = .ok (.getfield 81, 3) := by decide +kernel
theorem dX1_chooses_108 : decode cX1_chooses 108 = .ok (.if_icmp .lt 13, 3) := by decide +kernel
theorem dX1_chooses_111 : decode cX1_chooses 111 = .ok (.iload 4, 2) := by decide +kernel
theorem dX1_chooses_113 : decode cX1_chooses 113 = .ok (.iconst 1, 1) := by decide +kernel
theorem dX1_chooses_114 : decode cX1_chooses 114 = .ok (.if_icmp .lt 7, 3) := by decide +kernel
theorem dX1_chooses_117 : decode cX1_chooses 117 = .ok (.iload_n 2, 1) := by decide +kernel
theorem dX1_chooses_118 : decode cX1_chooses 118 = .ok (.goto 4, 3) := by decide +kernel
theorem dX1_chooses_121 : decode cX1_chooses 121 = .ok (.iload_n 3, 1) := by decide +kernel
theorem dX1_chooses_122 : decode cX1_chooses 122 = .ok (.istore_n 2, 1) := by decide +kernel
theorem dX1_chooses_123 : decode cX1_chooses 123 = .ok (.aload_n 0, 1) := by decide +kernel
theorem dX1_chooses_124 : decode cX1_chooses 124 = .ok (.getfield 30, 3) := by decide +kernel
theorem dX1_chooses_127 : decode cX1_chooses 127 = .ok (.iload_n 1, 1) := by decide +kernel
theorem dX1_chooses_128 : decode cX1_chooses 128 = .ok (.iaload, 1) := by decide +kernel
theorem dX1_chooses_129 : decode cX1_chooses 129 = .ok (.istore 4, 2) := by decide +kernel
theorem dX1_chooses_131 : decode cX1_chooses 131 = .ok (.aload_n 0, 1) := by decide +kernel
theorem dX1_chooses_132 : decode cX1_chooses 132 = .ok (.getfield 33, 3) := by decide +kernel
theorem dX1_chooses_135 : decode cX1_chooses 135 = .ok (.iload_n 1, 1) := by decide +kernel
theorem dX1_chooses_136 : decode cX1_chooses 136 = .ok (.iaload, 1) := by decide +kernel
theorem dX1_chooses_137 : decode cX1_chooses 137 = .ok (.istore 5, 2) := by decide +kernel
theorem dX1_chooses_139 : decode cX1_chooses 139 = .ok (.aload_n 0, 1) := by decide +kernel
theorem dX1_chooses_140 : decode cX1_chooses 140 = .ok (.getfield 36, 3) := by decide +kernel
theorem dX1_chooses_143 : decode cX1_chooses 143 = .ok (.iload_n 1, 1) := by decide +kernel
theorem dX1_chooses_144 : decode cX1_chooses 144 = .ok (.iaload, 1) := by decide +kernel
theorem dX1_chooses_145 : decode cX1_chooses 145 = .ok (.istore 6, 2) := by decide +kernel
theorem dX1_chooses_147 : decode cX1_chooses 147 = .ok (.iload_n 2, 1) := by decide +kernel
theorem dX1_chooses_148 : decode cX1_chooses 148 = .ok (.iconst (-1), 1) := by decide +kernel
theorem dX1_chooses_149 : decode cX1_chooses 149 = .ok (.if_icmp .ne 22, 3) := by decide +kernel
theorem dX1_chooses_152 : decode cX1_chooses 152 = .ok (.aload_n 0, 1) := by decide +kernel
theorem dX1_chooses_153 : decode cX1_chooses 153 = .ok (.getfield 39, 3) := by decide +kernel
theorem dX1_chooses_156 : decode cX1_chooses 156 = .ok (.iload_n 1, 1) := by decide +kernel
theorem dX1_chooses_157 : decode cX1_chooses 157 = .ok (.iconst (-1), 1) := by decide +kernel
theorem dX1_chooses_158 : decode cX1_chooses 158 = .ok (.iastore, 1) := by decide +kernel
theorem dX1_chooses_159 : decode cX1_chooses 159 = .ok (.aload_n 0, 1) := by decide +kernel
theorem dX1_chooses_160 : decode cX1_chooses 160 = .ok (.getfield 36, 3) := by decide +kernel
theorem dX1_chooses_163 : decode cX1_chooses 163 = .ok (.iload_n 1, 1) := by decide +kernel
theorem dX1_chooses_164 : decode cX1_chooses 164 = .ok (.sipush 10000, 3) := by decide +kernel
theorem dX1_chooses_167 : decode cX1_chooses 167 = .ok (.iastore, 1) := by decide +kernel
theorem dX1_chooses_168 : decode cX1_chooses 168 = .ok (.goto 9, 3) := by decide +kernel
theorem dX1_chooses_171 : decode cX1_chooses 171 = .ok (.aload_n 0, 1) := by decide +kernel
theorem dX1_chooses_172 : decode cX1_chooses 172 = .ok (.iload_n 1, 1) := by decide +kernel
theorem dX1_chooses_173 : decode cX1_chooses 173 = .ok (.iload_n 2, 1) := by decide +kernel
theorem dX1_chooses_174 : decode cX1_chooses 174 = .ok (.invokevirtual 84, 3) := by decide +kernel
theorem dX1_chooses_177 : decode cX1_chooses 177 = .ok (.aload_n 0, 1) := by decide +kernel
theorem dX1_chooses_178 : decode cX1_chooses 178 = .ok (.getfield 30, 3) := by decide +kernel
theorem dX1_chooses_181 : decode cX1_chooses 181 = .ok (.iload_n 1, 1) := by decide +kernel
theorem dX1_chooses_182 : decode cX1_chooses 182 = .ok (.iaload, 1) := by decide +kernel
theorem dX1_chooses_183 : decode cX1_chooses 183 = .ok (.iload 4, 2) := by decide +kernel
theorem dX1_chooses_185 : decode cX1_chooses 185 = .ok (.if_icmp .ne 35, 3) := by decide +kernel
theorem dX1_chooses_188 : decode cX1_chooses 188 = .ok (.aload_n 0, 1) := by decide +kernel
theorem dX1_chooses_189 : decode cX1_chooses 189 = .ok (.getfield 33, 3) := by decide +kernel
theorem dX1_chooses_192 : decode cX1_chooses 192 = .ok (.iload_n 1, 1) := by decide +kernel
theorem dX1_chooses_193 : decode cX1_chooses 193 = .ok (.iaload, 1) := by decide +kernel
theorem dX1_chooses_194 : decode cX1_chooses 194 = .ok (.iload 5, 2) := by decide +kernel
theorem dX1_chooses_196 : decode cX1_chooses 196 = .ok (.if_icmp .ne 24, 3) := by decide +kernel
theorem dX1_chooses_199 : decode cX1_chooses 199 = .ok (.aload_n 0, 1) := by decide +kernel
theorem dX1_chooses_200 : decode cX1_chooses 200 = .ok (.getfield 36, 3) := by decide +kernel
theorem dX1_chooses_203 : decode cX1_chooses 203 = .ok (.iload_n 1, 1) := by decide +kernel
theorem dX1_chooses_204 : decode cX1_chooses 204 = .ok (.iaload, 1) := by decide +kernel
theorem dX1_chooses_205 : decode cX1_chooses 205 = .ok (.iload 6, 2) := by decide +kernel
theorem dX1_chooses_207 : decode cX1_chooses 207 = .ok (.if_icmp .ne 13, 3) := by decide +kernel
theorem dX1_chooses_210 : decode cX1_chooses 210 = .ok (.aload_n 0, 1) := by decide +kernel
theorem dX1_chooses_211 : decode cX1_chooses 211 = .ok (.getfield 39, 3) := by decide +kernel
theorem dX1_chooses_214 : decode cX1_chooses 214 = .ok (.iload_n 1, 1) := by decide +kernel
theorem dX1_chooses_215 : decode cX1_chooses 215 = .ok (.iaload, 1) := by decide +kernel
theorem dX1_chooses_216 : decode cX1_chooses 216 = .ok (.iload_n 3, 1) := by decide +kernel
theorem dX1_chooses_217 : decode cX1_chooses 217 = .ok (.if_icmp .eq 8, 3) := by decide +kernel
theorem dX1_chooses_220 : decode cX1_chooses 220 = .ok (.aload_n 0, 1) := by decide +kernel
theorem dX1_chooses_221 : decode cX1_chooses 221 = .ok (.iload_n 1, 1) := by decide +kernel
theorem dX1_chooses_222 : decode cX1_chooses 222 = .ok (.invokevirtual 88, 3) := by decide +kernel
theorem dX1_chooses_225 : decode cX1_chooses 225 = .ok (.return_, 1) := by decide +kernel
set_option maxRecDepth 20000 in
theorem ggX1_tells_X1_chooses : GoodIn wsX1_tells wsX1_chooses := goodIn_r _ [12, 13, 14, 15, 3, 5, 7, 16, 17, 18, 11, 19, 6, 2, 4, 20, 21, 22, 23, 24, 25, 26, 27, 28, 1, 29, 30, 31, 32, 33, 34, 35, 36, 37, 38, 39, 40, 41, 42, 43, 44, 45, 46, 47, 48, 49, 50, 51, 52, 53, 54, 55, 56, 57, 58, 59, 60, 61] (by decide +kernel) (by decide +kernel)
set_option maxRecDepth 20000 in
theorem gX1_tells_X1_chooses : GoodIn wsX1_tells (wsV RX1 92 RX1 yX1_chooses wsX1_chooses) := goodIn_app (goodIn_of _ (by decide +kernel)) ggX1_tells_X1_chooses
theorem dX1_tells_0 : decode cX1_tells 0 = .ok (.iconst 0, 1) := by decide +kernel
theorem dX1_tells_1 : decode cX1_tells 1 = .ok (.istore_n 2, 1) := by decide +kernel
theorem dX1_tells_2 : decode cX1_tells 2 = .ok (.iload_n 2, 1) := by decide +kernel
theorem dX1_tells_3 : decode cX1_tells 3 = .ok (.bipush 10, 2) := by decide +kernel
theorem dX1_tells_5 : decode cX1_tells 5 = .ok (.if_icmp .ge 71, 3) := by decide +kernel
theorem dX1_tells_8 : decode cX1_tells 8 = .ok (.aload_n 0, 1) := by decide +kernel
theorem dX1_tells_9 : decode cX1_tells 9 = .ok (.getfield 19, 3) := by decide +kernel
theorem dX1_tells_12 : decode cX1_tells 12 = .ok (.bipush 10, 2) := by decide +kernel
theorem dX1_tells_14 : decode cX1_tells 14 = .ok (.iload_n 1, 1) := by decide +kernel
theorem dX1_tells_15 : decode cX1_tells 15 = .ok (.imul, 1) := by decide +kernel
theorem dX1_tells_16 : decode cX1_tells 16 = .ok (.iload_n 2, 1) := by decide +kernel
theorem dX1_tells_17 : decode cX1_tells 17 = .ok (.iadd, 1) := by decide +kernel
theorem dX1_tells_18 : decode cX1_tells 18 = .ok (.iaload, 1) := by decide +kernel
theorem dX1_tells_19 : decode cX1_tells 19 = .ok (.ifCond .le 51, 3) := by decide +kernel
theorem dX1_tells_22 : decode cX1_tells 22 = .ok (.bipush 10, 2) := by decide +kernel
theorem dX1_tells_24 : decode cX1_tells 24 = .ok (.iload_n 2, 1) := by decide +kernel
theorem dX1_tells_25 : decode cX1_tells 25 = .ok (.imul, 1) := by decide +kernel
theorem dX1_tells_26 : decode cX1_tells 26 = .ok (.iload_n 1, 1) := by decide +kernel
theorem dX1_tells_27 : decode cX1_tells 27 = .ok (.iadd, 1) := by decide +kernel
theorem dX1_tells_28 : decode cX1_tells 28 = .ok (.istore_n 3, 1) := by decide +kernel
theorem dX1_tells_29 : decode cX1_tells 29 = .ok (.aload_n 0, 1) := by decide +kernel
theorem dX1_tells_30 : decode cX1_tells 30 = .ok (.getfield 51, 3) := by decide +kernel
theorem dX1_tells_33 : decode cX1_tells 33 = .ok (.iload_n 3, 1) := by decide +kernel
theorem dX1_tells_34 : decode cX1_tells 34 = .ok (.aload_n 0, 1) := by decide +kernel
theorem dX1_tells_35 : decode cX1_tells 35 = .ok (.getfield 30, 3) := by decide +kernel
theorem dX1_tells_38 : decode cX1_tells 38 = .ok (.iload_n 1, 1) := by decide +kernel
theorem dX1_tells_39 : decode cX1_tells 39 = .ok (.iaload, 1) := by decide +kernel
theorem dX1_tells_40 : decode cX1_tells 40 = .ok (.iastore, 1) := by decide +kernel
theorem dX1_tells_41 : decode cX1_tells 41 = .ok (.aload_n 0, 1) := by decide +kernel
theorem dX1_tells_42 : decode cX1_tells 42 = .ok (.getfield 54, 3) := by decide +kernel
theorem dX1_tells_45 : decode cX1_tells 45 = .ok (.iload_n 3, 1) := by decide +kernel
theorem dX1_tells_46 : decode cX1_tells 46 = .ok (.aload_n 0, 1) := by decide +kernel
theorem dX1_tells_47 : decode cX1_tells 47 = .ok (.getfield 33, 3) := by decide +kernel
theorem dX1_tells_50 : decode cX1_tells 50 = .ok (.iload_n 1, 1) := by decide +kernel
theorem dX1_tells_51 : decode cX1_tells 51 = .ok (.iaload, 1) := by decide +kernel
theorem dX1_tells_52 : decode cX1_tells 52 = .ok (.iastore, 1) := by decide +kernel
theorem dX1_tells_53 : decode cX1_tells 53 = .ok (.aload_n 0, 1) := by decide +kernel
theorem dX1_tells_54 : decode cX1_tells 54 = .ok (.getfield 57, 3) := by decide +kernel
theorem dX1_tells_57 : decode cX1_tells 57 = .ok (.iload_n 3, 1) := by decide +kernel
theorem dX1_tells_58 : decode cX1_tells 58 = .ok (.aload_n 0, 1) := by decide +kernel
theorem dX1_tells_59 : decode cX1_tells 59 = .ok (.getfield 36, 3) := by decide +kernel
theorem dX1_tells_62 : decode cX1_tells 62 = .ok (.iload_n 1, 1) := by decide +kernel
theorem dX1_tells_63 : decode cX1_tells 63 = .ok (.iaload, 1) := by decide +kernel
theorem dX1_tells_64 : decode cX1_tells 64 = .ok (.iastore, 1) := by decide +kernel
theorem dX1_tells_65 : decode cX1_tells 65 = .ok (.aload_n 0, 1) := by decide +kernel
theorem dX1_tells_66 : decode cX1_tells 66 = .ok (.iload_n 2, 1) := by decide +kernel
theorem dX1_tells_67 : decode cX1_tells 67 = .ok (.invokevirtual 92, 3) := by decide +kernel
theorem dX1_tells_70 : decode cX1_tells 70 = .ok (.iinc 2 1, 3) := by decide +kernel
theorem dX1_tells_73 : decode cX1_tells 73 = .ok (.goto (-71), 3) := by decide +kernel
theorem dX1_tells_76 : decode cX1_tells 76 = .ok (.return_, 1) := by decide +kernel
set_option maxRecDepth 20000 in
theorem ggX1_setRules_X1_isIn : GoodIn wsX1_setRules wsX1_isIn := goodIn_r _ [8] (by decide +kernel) (by decide +kernel)
set_option maxRecDepth 20000 in
theorem gX1_setRules_X1_isIn : GoodIn wsX1_setRules (va_wsS RX1 66 yX1_isIn wsX1_isIn) := goodIn_app (goodIn_of _ (by decide +kernel)) ggX1_setRules_X1_isIn
set_option maxRecDepth 20000 in
theorem ggX1_setRules_X1_fails : GoodIn wsX1_setRules wsX1_fails := goodIn_r _ [12, 13, 14, 15, 16, 17, 18, 19, 20, 21, 22, 23, 24, 25, 26, 27, 28, 29, 30, 31, 32, 33, 34] (by decide +kernel) (by decide +kernel)
set_option maxRecDepth 20000 in
theorem gX1_setRules_X1_fails : GoodIn wsX1_setRules (wsV RX1 95 RX1 yX1_fails wsX1_fails) := goodIn_app (goodIn_of _ (by decide +kernel)) ggX1_setRules_X1_fails
theorem dX1_setRules_0 : decode cX1_setRules 0 = .ok (.iload_n 1, 1) := by decide +kernel
theorem dX1_setRules_1 : decode cX1_setRules 1 = .ok (.iconst 0, 1) := by decide +kernel
theorem dX1_setRules_2 : decode cX1_setRules 2 = .ok (.bipush 100, 2) := by decide +kernel
theorem dX1_setRules_4 : decode cX1_setRules 4 = .ok (.invokestatic 66, 3) := by decide +kernel
theorem dX1_setRules_7 : decode cX1_setRules 7 = .ok (.ifCond .eq 39, 3) := by decide +kernel
theorem dX1_setRules_10 : decode cX1_setRules 10 = .ok (.iload_n 2, 1) := by decide +kernel
theorem dX1_setRules_11 : decode cX1_setRules 11 = .ok (.iconst 0, 1) := by decide +kernel
theorem dX1_setRules_12 : decode cX1_setRules 12 = .ok (.sipush 10000, 3) := by decide +kernel
theorem dX1_setRules_15 : decode cX1_setRules 15 = .ok (.invokestatic 66, 3) := by decide +kernel
theorem dX1_setRules_18 : decode cX1_setRules 18 = .ok (.ifCond .eq 28, 3) := by decide +kernel
theorem dX1_setRules_21 : decode cX1_setRules 21 = .ok (.iload_n 3, 1) := by decide +kernel
theorem dX1_setRules_22 : decode cX1_setRules 22 = .ok (.iconst 1, 1) := by decide +kernel
theorem dX1_setRules_23 : decode cX1_setRules 23 = .ok (.bipush 8, 2) := by decide +kernel
theorem dX1_setRules_25 : decode cX1_setRules 25 = .ok (.invokestatic 66, 3) := by decide +kernel
theorem dX1_setRules_28 : decode cX1_setRules 28 = .ok (.ifCond .eq 18, 3) := by decide +kernel
theorem dX1_setRules_31 : decode cX1_setRules 31 = .ok (.iload 4, 2) := by decide +kernel
theorem dX1_setRules_33 : decode cX1_setRules 33 = .ok (.iconst 0, 1) := by decide +kernel
theorem dX1_setRules_34 : decode cX1_setRules 34 = .ok (.bipush 6, 2) := by decide +kernel
theorem dX1_setRules_36 : decode cX1_setRules 36 = .ok (.invokestatic 66, 3) := by decide +kernel
theorem dX1_setRules_39 : decode cX1_setRules 39 = .ok (.ifCond .eq 7, 3) := by decide +kernel
theorem dX1_setRules_42 : decode cX1_setRules 42 = .ok (.iconst 1, 1) := by decide +kernel
theorem dX1_setRules_43 : decode cX1_setRules 43 = .ok (.goto 4, 3) := by decide +kernel
theorem dX1_setRules_46 : decode cX1_setRules 46 = .ok (.iconst 0, 1) := by decide +kernel
theorem dX1_setRules_47 : decode cX1_setRules 47 = .ok (.istore 5, 2) := by decide +kernel
theorem dX1_setRules_49 : decode cX1_setRules 49 = .ok (.aload_n 0, 1) := by decide +kernel
theorem dX1_setRules_50 : decode cX1_setRules 50 = .ok (.iload 5, 2) := by decide +kernel
theorem dX1_setRules_52 : decode cX1_setRules 52 = .ok (.ifCond .eq 7, 3) := by decide +kernel
theorem dX1_setRules_55 : decode cX1_setRules 55 = .ok (.iconst 0, 1) := by decide +kernel
theorem dX1_setRules_56 : decode cX1_setRules 56 = .ok (.goto 4, 3) := by decide +kernel
theorem dX1_setRules_59 : decode cX1_setRules 59 = .ok (.iconst 1, 1) := by decide +kernel
theorem dX1_setRules_60 : decode cX1_setRules 60 = .ok (.invokevirtual 95, 3) := by decide +kernel
theorem dX1_setRules_63 : decode cX1_setRules 63 = .ok (.ifCond .ne 24, 3) := by decide +kernel
theorem dX1_setRules_66 : decode cX1_setRules 66 = .ok (.aload_n 0, 1) := by decide +kernel
theorem dX1_setRules_67 : decode cX1_setRules 67 = .ok (.iload_n 1, 1) := by decide +kernel
theorem dX1_setRules_68 : decode cX1_setRules 68 = .ok (.putfield 81, 3) := by decide +kernel
theorem dX1_setRules_71 : decode cX1_setRules 71 = .ok (.aload_n 0, 1) := by decide +kernel
theorem dX1_setRules_72 : decode cX1_setRules 72 = .ok (.iload_n 2, 1) := by decide +kernel
theorem dX1_setRules_73 : decode cX1_setRules 73 = .ok (.putfield 7, 3) := by decide +kernel
theorem dX1_setRules_76 : decode cX1_setRules 76 = .ok (.aload_n 0, 1) := by decide +kernel
theorem dX1_setRules_77 : decode cX1_setRules 77 = .ok (.iload_n 3, 1) := by decide +kernel
theorem dX1_setRules_78 : decode cX1_setRules 78 = .ok (.putfield 13, 3) := by decide +kernel
theorem dX1_setRules_81 : decode cX1_setRules 81 = .ok (.aload_n 0, 1) := by decide +kernel
theorem dX1_setRules_82 : decode cX1_setRules 82 = .ok (.iload 4, 2) := by decide +kernel
theorem dX1_setRules_84 : decode cX1_setRules 84 = .ok (.putfield 16, 3) := by decide +kernel
theorem dX1_setRules_87 : decode cX1_setRules 87 = .ok (.return_, 1) := by decide +kernel
set_option maxRecDepth 20000 in
theorem ggX1_link_X1_isNode : GoodIn wsX1_link wsX1_isNode := goodIn_r _ [6, 7, 8, 5, 9] (by decide +kernel) (by decide +kernel)
set_option maxRecDepth 20000 in
theorem gX1_link_X1_isNode : GoodIn wsX1_link (va_wsS RX1 99 yX1_isNode wsX1_isNode) := goodIn_app (goodIn_of _ (by decide +kernel)) ggX1_link_X1_isNode
set_option maxRecDepth 20000 in
theorem ggX1_link_X1_isIn : GoodIn wsX1_link wsX1_isIn := goodIn_r _ [9] (by decide +kernel) (by decide +kernel)
set_option maxRecDepth 20000 in
theorem gX1_link_X1_isIn : GoodIn wsX1_link (va_wsS RX1 66 yX1_isIn wsX1_isIn) := goodIn_app (goodIn_of _ (by decide +kernel)) ggX1_link_X1_isIn
set_option maxRecDepth 20000 in
theorem ggX1_link_X1_fails : GoodIn wsX1_link wsX1_fails := goodIn_r _ [13, 14, 49, 50, 51, 52, 53, 54, 55, 56, 57, 58, 59, 60, 61, 62, 63, 64, 65, 66, 67, 68, 69] (by decide +kernel) (by decide +kernel)
set_option maxRecDepth 20000 in
theorem gX1_link_X1_fails : GoodIn wsX1_link (wsV RX1 95 RX1 yX1_fails wsX1_fails) := goodIn_app (goodIn_of _ (by decide +kernel)) ggX1_link_X1_fails
set_option maxRecDepth 20000 in
theorem ggX1_link_X1_chooses : GoodIn wsX1_link wsX1_chooses := goodIn_r _ [18, 19, 20, 21, 22, 23, 24, 25, 26, 27, 5, 28, 2, 29, 30, 31, 32, 7, 8, 9, 33, 34, 35, 36, 1, 37, 38, 39, 40, 41, 42, 43, 44, 45, 46, 47, 48, 49, 50, 51, 52, 53, 54, 55, 56, 57, 58, 59, 60, 61, 62, 63, 64, 65, 66, 67, 68, 69] (by decide +kernel) (by decide +kernel)
set_option maxRecDepth 20000 in
theorem gX1_link_X1_chooses : GoodIn wsX1_link (wsV RX1 92 RX1 yX1_chooses wsX1_chooses) := goodIn_app (goodIn_of _ (by decide +kernel)) ggX1_link_X1_chooses
theorem dX1_link_0 : decode cX1_link 0 = .ok (.iload_n 1, 1) := by decide +kernel
theorem dX1_link_1 : decode cX1_link 1 = .ok (.invokestatic 99, 3) := by decide +kernel
theorem dX1_link_4 : decode cX1_link 4 = .ok (.ifCond .eq 14, 3) := by decide +kernel
theorem dX1_link_7 : decode cX1_link 7 = .ok (.iload_n 2, 1) := by decide +kernel
theorem dX1_link_8 : decode cX1_link 8 = .ok (.invokestatic 99, 3) := by decide +kernel
theorem dX1_link_11 : decode cX1_link 11 = .ok (.ifCond .eq 7, 3) := by decide +kernel
theorem dX1_link_14 : decode cX1_link 14 = .ok (.iconst 1, 1) := by decide +kernel
theorem dX1_link_15 : decode cX1_link 15 = .ok (.goto 4, 3) := by decide +kernel
theorem dX1_link_18 : decode cX1_link 18 = .ok (.iconst 0, 1) := by decide +kernel
theorem dX1_link_19 : decode cX1_link 19 = .ok (.istore 4, 2) := by decide +kernel
theorem dX1_link_21 : decode cX1_link 21 = .ok (.aload_n 0, 1) := by decide +kernel
theorem dX1_link_22 : decode cX1_link 22 = .ok (.iload 4, 2) := by decide +kernel
theorem dX1_link_24 : decode cX1_link 24 = .ok (.ifCond .ne 7, 3) := by decide +kernel
theorem dX1_link_27 : decode cX1_link 27 = .ok (.iconst 1, 1) := by decide +kernel
theorem dX1_link_28 : decode cX1_link 28 = .ok (.goto 23, 3) := by decide +kernel
theorem dX1_link_31 : decode cX1_link 31 = .ok (.iload_n 1, 1) := by decide +kernel
theorem dX1_link_32 : decode cX1_link 32 = .ok (.iload_n 2, 1) := by decide +kernel
theorem dX1_link_33 : decode cX1_link 33 = .ok (.if_icmp .eq 17, 3) := by decide +kernel
theorem dX1_link_36 : decode cX1_link 36 = .ok (.iload_n 3, 1) := by decide +kernel
theorem dX1_link_37 : decode cX1_link 37 = .ok (.iconst 0, 1) := by decide +kernel
theorem dX1_link_38 : decode cX1_link 38 = .ok (.bipush 100, 2) := by decide +kernel
theorem dX1_link_40 : decode cX1_link 40 = .ok (.invokestatic 66, 3) := by decide +kernel
theorem dX1_link_43 : decode cX1_link 43 = .ok (.ifCond .eq 7, 3) := by decide +kernel
theorem dX1_link_46 : decode cX1_link 46 = .ok (.iconst 0, 1) := by decide +kernel
theorem dX1_link_47 : decode cX1_link 47 = .ok (.goto 4, 3) := by decide +kernel
theorem dX1_link_50 : decode cX1_link 50 = .ok (.iconst 2, 1) := by decide +kernel
theorem dX1_link_51 : decode cX1_link 51 = .ok (.invokevirtual 95, 3) := by decide +kernel
theorem dX1_link_54 : decode cX1_link 54 = .ok (.ifCond .eq 5, 3) := by decide +kernel
theorem dX1_link_57 : decode cX1_link 57 = .ok (.iconst 0, 1) := by decide +kernel
theorem dX1_link_58 : decode cX1_link 58 = .ok (.ireturn, 1) := by decide +kernel
theorem dX1_link_59 : decode cX1_link 59 = .ok (.aload_n 0, 1) := by decide +kernel
theorem dX1_link_60 : decode cX1_link 60 = .ok (.getfield 19, 3) := by decide +kernel
theorem dX1_link_63 : decode cX1_link 63 = .ok (.bipush 10, 2) := by decide +kernel
theorem dX1_link_65 : decode cX1_link 65 = .ok (.iload_n 1, 1) := by decide +kernel
theorem dX1_link_66 : decode cX1_link 66 = .ok (.imul, 1) := by decide +kernel
theorem dX1_link_67 : decode cX1_link 67 = .ok (.iload_n 2, 1) := by decide +kernel
theorem dX1_link_68 : decode cX1_link 68 = .ok (.iadd, 1) := by decide +kernel
theorem dX1_link_69 : decode cX1_link 69 = .ok (.iaload, 1) := by decide +kernel
theorem dX1_link_70 : decode cX1_link 70 = .ok (.istore 5, 2) := by decide +kernel
theorem dX1_link_72 : decode cX1_link 72 = .ok (.aload_n 0, 1) := by decide +kernel
theorem dX1_link_73 : decode cX1_link 73 = .ok (.getfield 19, 3) := by decide +kernel
theorem dX1_link_76 : decode cX1_link 76 = .ok (.bipush 10, 2) := by decide +kernel
theorem dX1_link_78 : decode cX1_link 78 = .ok (.iload_n 1, 1) := by decide +kernel
theorem dX1_link_79 : decode cX1_link 79 = .ok (.imul, 1) := by decide +kernel
theorem dX1_link_80 : decode cX1_link 80 = .ok (.iload_n 2, 1) := by decide +kernel
theorem dX1_link_81 : decode cX1_link 81 = .ok (.iadd, 1) := by decide +kernel
theorem dX1_link_82 : decode cX1_link 82 = .ok (.iload_n 3, 1) := by decide +kernel
theorem dX1_link_83 : decode cX1_link 83 = .ok (.iastore, 1) := by decide +kernel
theorem dX1_link_84 : decode cX1_link 84 = .ok (.aload_n 0, 1) := by decide +kernel
theorem dX1_link_85 : decode cX1_link 85 = .ok (.getfield 19, 3) := by decide +kernel
theorem dX1_link_88 : decode cX1_link 88 = .ok (.bipush 10, 2) := by decide +kernel
theorem dX1_link_90 : decode cX1_link 90 = .ok (.iload_n 2, 1) := by decide +kernel
theorem dX1_link_91 : decode cX1_link 91 = .ok (.imul, 1) := by decide +kernel
theorem dX1_link_92 : decode cX1_link 92 = .ok (.iload_n 1, 1) := by decide +kernel
theorem dX1_link_93 : decode cX1_link 93 = .ok (.iadd, 1) := by decide +kernel
theorem dX1_link_94 : decode cX1_link 94 = .ok (.iload_n 3, 1) := by decide +kernel
theorem dX1_link_95 : decode cX1_link 95 = .ok (.iastore, 1) := by decide +kernel
theorem dX1_link_96 : decode cX1_link 96 = .ok (.iload_n 3, 1) := by decide +kernel
theorem dX1_link_97 : decode cX1_link 97 = .ok (.ifCond .ne 27, 3) := by decide +kernel
theorem dX1_link_100 : decode cX1_link 100 = .ok (.aload_n 0, 1) := by decide +kernel
theorem dX1_link_101 : decode cX1_link 101 = .ok (.getfield 57, 3) := by decide +kernel
theorem dX1_link_104 : decode cX1_link 104 = .ok (.bipush 10, 2) := by decide +kernel
theorem dX1_link_106 : decode cX1_link 106 = .ok (.iload_n 1, 1) := by decide +kernel
theorem dX1_link_107 : decode cX1_link 107 = .ok (.imul, 1) := by decide +kernel
theorem dX1_link_108 : decode cX1_link 108 = .ok (.iload_n 2, 1) := by decide +kernel
theorem dX1_link_109 : decode cX1_link 109 = .ok (.iadd, 1) := by decide +kernel
theorem dX1_link_110 : decode cX1_link 110 = .ok (.iconst (-1), 1) := by decide +kernel
theorem dX1_link_111 : decode cX1_link 111 = .ok (.iastore, 1) := by decide +kernel
theorem dX1_link_112 : decode cX1_link 112 = .ok (.aload_n 0, 1) := by decide +kernel
theorem dX1_link_113 : decode cX1_link 113 = .ok (.getfield 57, 3) := by decide +kernel
theorem dX1_link_116 : decode cX1_link 116 = .ok (.bipush 10, 2) := by decide +kernel
theorem dX1_link_118 : decode cX1_link 118 = .ok (.iload_n 2, 1) := by decide +kernel
theorem dX1_link_119 : decode cX1_link 119 = .ok (.imul, 1) := by decide +kernel
theorem dX1_link_120 : decode cX1_link 120 = .ok (.iload_n 1, 1) := by decide +kernel
theorem dX1_link_121 : decode cX1_link 121 = .ok (.iadd, 1) := by decide +kernel
theorem dX1_link_122 : decode cX1_link 122 = .ok (.iconst (-1), 1) := by decide +kernel
theorem dX1_link_123 : decode cX1_link 123 = .ok (.iastore, 1) := by decide +kernel
theorem dX1_link_124 : decode cX1_link 124 = .ok (.aload_n 0, 1) := by decide +kernel
theorem dX1_link_125 : decode cX1_link 125 = .ok (.iload_n 1, 1) := by decide +kernel
theorem dX1_link_126 : decode cX1_link 126 = .ok (.invokevirtual 92, 3) := by decide +kernel
theorem dX1_link_129 : decode cX1_link 129 = .ok (.aload_n 0, 1) := by decide +kernel
theorem dX1_link_130 : decode cX1_link 130 = .ok (.iload_n 2, 1) := by decide +kernel
theorem dX1_link_131 : decode cX1_link 131 = .ok (.invokevirtual 92, 3) := by decide +kernel
theorem dX1_link_134 : decode cX1_link 134 = .ok (.iload 5, 2) := by decide +kernel
theorem dX1_link_136 : decode cX1_link 136 = .ok (.ireturn, 1) := by decide +kernel
set_option maxRecDepth 20000 in
theorem ggX1_begins_X1_resets : GoodIn wsX1_begins wsX1_resets := goodIn_r _ [11, 12, 13, 14, 15, 16, 17, 18, 19, 20, 21, 22, 23, 24, 25, 26, 27, 28, 29, 30, 31, 32, 33, 34, 35, 36] (by decide +kernel) (by decide +kernel)
set_option maxRecDepth 20000 in
theorem gX1_begins_X1_resets : GoodIn wsX1_begins (wsV RX1 88 RX1 yX1_resets wsX1_resets) := goodIn_app (goodIn_of _ (by decide +kernel)) ggX1_begins_X1_resets
theorem dX1_begins_0 : decode cX1_begins 0 = .ok (.aload_n 0, 1) := by decide +kernel
theorem dX1_begins_1 : decode cX1_begins 1 = .ok (.getfield 27, 3) := by decide +kernel
theorem dX1_begins_4 : decode cX1_begins 4 = .ok (.iload_n 1, 1) := by decide +kernel
theorem dX1_begins_5 : decode cX1_begins 5 = .ok (.dup2, 1) := by decide +kernel
theorem dX1_begins_6 : decode cX1_begins 6 = .ok (.iaload, 1) := by decide +kernel
theorem dX1_begins_7 : decode cX1_begins 7 = .ok (.iconst 1, 1) := by decide +kernel
theorem dX1_begins_8 : decode cX1_begins 8 = .ok (.iadd, 1) := by decide +kernel
theorem dX1_begins_9 : decode cX1_begins 9 = .ok (.iastore, 1) := by decide +kernel
theorem dX1_begins_10 : decode cX1_begins 10 = .ok (.aload_n 0, 1) := by decide +kernel
theorem dX1_begins_11 : decode cX1_begins 11 = .ok (.getfield 30, 3) := by decide +kernel
theorem dX1_begins_14 : decode cX1_begins 14 = .ok (.iload_n 1, 1) := by decide +kernel
theorem dX1_begins_15 : decode cX1_begins 15 = .ok (.iload_n 1, 1) := by decide +kernel
theorem dX1_begins_16 : decode cX1_begins 16 = .ok (.iastore, 1) := by decide +kernel
theorem dX1_begins_17 : decode cX1_begins 17 = .ok (.aload_n 0, 1) := by decide +kernel
theorem dX1_begins_18 : decode cX1_begins 18 = .ok (.getfield 33, 3) := by decide +kernel
theorem dX1_begins_21 : decode cX1_begins 21 = .ok (.iload_n 1, 1) := by decide +kernel
theorem dX1_begins_22 : decode cX1_begins 22 = .ok (.aload_n 0, 1) := by decide +kernel
theorem dX1_begins_23 : decode cX1_begins 23 = .ok (.getfield 27, 3) := by decide +kernel
theorem dX1_begins_26 : decode cX1_begins 26 = .ok (.iload_n 1, 1) := by decide +kernel
theorem dX1_begins_27 : decode cX1_begins 27 = .ok (.iaload, 1) := by decide +kernel
theorem dX1_begins_28 : decode cX1_begins 28 = .ok (.iastore, 1) := by decide +kernel
theorem dX1_begins_29 : decode cX1_begins 29 = .ok (.aload_n 0, 1) := by decide +kernel
theorem dX1_begins_30 : decode cX1_begins 30 = .ok (.getfield 36, 3) := by decide +kernel
theorem dX1_begins_33 : decode cX1_begins 33 = .ok (.iload_n 1, 1) := by decide +kernel
theorem dX1_begins_34 : decode cX1_begins 34 = .ok (.iconst 0, 1) := by decide +kernel
theorem dX1_begins_35 : decode cX1_begins 35 = .ok (.iastore, 1) := by decide +kernel
theorem dX1_begins_36 : decode cX1_begins 36 = .ok (.aload_n 0, 1) := by decide +kernel
theorem dX1_begins_37 : decode cX1_begins 37 = .ok (.getfield 39, 3) := by decide +kernel
theorem dX1_begins_40 : decode cX1_begins 40 = .ok (.iload_n 1, 1) := by decide +kernel
theorem dX1_begins_41 : decode cX1_begins 41 = .ok (.iconst (-1), 1) := by decide +kernel
theorem dX1_begins_42 : decode cX1_begins 42 = .ok (.iastore, 1) := by decide +kernel
theorem dX1_begins_43 : decode cX1_begins 43 = .ok (.aload_n 0, 1) := by decide +kernel
theorem dX1_begins_44 : decode cX1_begins 44 = .ok (.getfield 42, 3) := by decide +kernel
theorem dX1_begins_47 : decode cX1_begins 47 = .ok (.iload_n 1, 1) := by decide +kernel
theorem dX1_begins_48 : decode cX1_begins 48 = .ok (.iconst 0, 1) := by decide +kernel
theorem dX1_begins_49 : decode cX1_begins 49 = .ok (.iastore, 1) := by decide +kernel
theorem dX1_begins_50 : decode cX1_begins 50 = .ok (.aload_n 0, 1) := by decide +kernel
theorem dX1_begins_51 : decode cX1_begins 51 = .ok (.iload_n 1, 1) := by decide +kernel
theorem dX1_begins_52 : decode cX1_begins 52 = .ok (.invokevirtual 88, 3) := by decide +kernel
theorem dX1_begins_55 : decode cX1_begins 55 = .ok (.return_, 1) := by decide +kernel
set_option maxRecDepth 20000 in
theorem ggX1_makeRoot_X1_isNode : GoodIn wsX1_makeRoot wsX1_isNode := goodIn_r _ [6, 7, 8, 5, 9] (by decide +kernel) (by decide +kernel)
set_option maxRecDepth 20000 in
theorem gX1_makeRoot_X1_isNode : GoodIn wsX1_makeRoot (va_wsS RX1 99 yX1_isNode wsX1_isNode) := goodIn_app (goodIn_of _ (by decide +kernel)) ggX1_makeRoot_X1_isNode
set_option maxRecDepth 20000 in
theorem ggX1_makeRoot_X1_fails : GoodIn wsX1_makeRoot wsX1_fails := goodIn_r _ [13, 14, 32, 33, 34, 35, 36, 37, 38, 39, 40, 41, 42, 43, 44, 45, 46, 47, 48, 49, 50, 51, 52] (by decide +kernel) (by decide +kernel)
set_option maxRecDepth 20000 in
theorem gX1_makeRoot_X1_fails : GoodIn wsX1_makeRoot (wsV RX1 95 RX1 yX1_fails wsX1_fails) := goodIn_app (goodIn_of _ (by decide +kernel)) ggX1_makeRoot_X1_fails
set_option maxRecDepth 20000 in
theorem ggX1_makeRoot_X1_begins : GoodIn wsX1_makeRoot wsX1_begins := goodIn_r _ [18, 19, 20, 2, 21, 22, 23, 24, 25, 26, 5, 27, 28, 29, 30, 31, 32, 33, 34, 35, 36, 37, 38, 39, 40, 41, 42, 43, 44, 45, 46, 47, 48, 49, 50, 51, 52] (by decide +kernel) (by decide +kernel)
set_option maxRecDepth 20000 in
theorem gX1_makeRoot_X1_begins : GoodIn wsX1_makeRoot (wsV RX1 102 RX1 yX1_begins wsX1_begins) := goodIn_app (goodIn_of _ (by decide +kernel)) ggX1_makeRoot_X1_begins
theorem dX1_makeRoot_0 : decode cX1_makeRoot 0 = .ok (.iload_n 1, 1) := by decide +kernel
theorem dX1_makeRoot_1 : decode cX1_makeRoot 1 = .ok (.invokestatic 99, 3) := by decide +kernel
theorem dX1_makeRoot_4 : decode cX1_makeRoot 4 = .ok (.istore_n 2, 1) := by decide +kernel
theorem dX1_makeRoot_5 : decode cX1_makeRoot 5 = .ok (.aload_n 0, 1) := by decide +kernel
theorem dX1_makeRoot_6 : decode cX1_makeRoot 6 = .ok (.iload_n 2, 1) := by decide +kernel
theorem dX1_makeRoot_7 : decode cX1_makeRoot 7 = .ok (.ifCond .ne 7, 3) := by decide +kernel
theorem dX1_makeRoot_10 : decode cX1_makeRoot 10 = .ok (.iconst 1, 1) := by decide +kernel
theorem dX1_makeRoot_11 : decode cX1_makeRoot 11 = .ok (.goto 17, 3) := by decide +kernel
theorem dX1_makeRoot_14 : decode cX1_makeRoot 14 = .ok (.aload_n 0, 1) := by decide +kernel
theorem dX1_makeRoot_15 : decode cX1_makeRoot 15 = .ok (.getfield 23, 3) := by decide +kernel
theorem dX1_makeRoot_18 : decode cX1_makeRoot 18 = .ok (.iload_n 1, 1) := by decide +kernel
theorem dX1_makeRoot_19 : decode cX1_makeRoot 19 = .ok (.baload, 1) := by decide +kernel
theorem dX1_makeRoot_20 : decode cX1_makeRoot 20 = .ok (.ifCond .eq 7, 3) := by decide +kernel
theorem dX1_makeRoot_23 : decode cX1_makeRoot 23 = .ok (.iconst 2, 1) := by decide +kernel
theorem dX1_makeRoot_24 : decode cX1_makeRoot 24 = .ok (.goto 4, 3) := by decide +kernel
theorem dX1_makeRoot_27 : decode cX1_makeRoot 27 = .ok (.iconst 0, 1) := by decide +kernel
theorem dX1_makeRoot_28 : decode cX1_makeRoot 28 = .ok (.invokevirtual 95, 3) := by decide +kernel
theorem dX1_makeRoot_31 : decode cX1_makeRoot 31 = .ok (.ifCond .eq 5, 3) := by decide +kernel
theorem dX1_makeRoot_34 : decode cX1_makeRoot 34 = .ok (.iconst 0, 1) := by decide +kernel
theorem dX1_makeRoot_35 : decode cX1_makeRoot 35 = .ok (.ireturn, 1) := by decide +kernel
theorem dX1_makeRoot_36 : decode cX1_makeRoot 36 = .ok (.aload_n 0, 1) := by decide +kernel
theorem dX1_makeRoot_37 : decode cX1_makeRoot 37 = .ok (.getfield 23, 3) := by decide +kernel
theorem dX1_makeRoot_40 : decode cX1_makeRoot 40 = .ok (.iload_n 1, 1) := by decide +kernel
theorem dX1_makeRoot_41 : decode cX1_makeRoot 41 = .ok (.iconst 1, 1) := by decide +kernel
theorem dX1_makeRoot_42 : decode cX1_makeRoot 42 = .ok (.bastore, 1) := by decide +kernel
theorem dX1_makeRoot_43 : decode cX1_makeRoot 43 = .ok (.aload_n 0, 1) := by decide +kernel
theorem dX1_makeRoot_44 : decode cX1_makeRoot 44 = .ok (.iload_n 1, 1) := by decide +kernel
theorem dX1_makeRoot_45 : decode cX1_makeRoot 45 = .ok (.invokevirtual 102, 3) := by decide +kernel
theorem dX1_makeRoot_48 : decode cX1_makeRoot 48 = .ok (.aload_n 0, 1) := by decide +kernel
theorem dX1_makeRoot_49 : decode cX1_makeRoot 49 = .ok (.getfield 33, 3) := by decide +kernel
theorem dX1_makeRoot_52 : decode cX1_makeRoot 52 = .ok (.iload_n 1, 1) := by decide +kernel
theorem dX1_makeRoot_53 : decode cX1_makeRoot 53 = .ok (.iaload, 1) := by decide +kernel
theorem dX1_makeRoot_54 : decode cX1_makeRoot 54 = .ok (.ireturn, 1) := by decide +kernel
set_option maxRecDepth 20000 in
theorem ggX1_endRoot_X1_isNode : GoodIn wsX1_endRoot wsX1_isNode := goodIn_r _ [8, 9, 10, 7, 11] (by decide +kernel) (by decide +kernel)
set_option maxRecDepth 20000 in
theorem gX1_endRoot_X1_isNode : GoodIn wsX1_endRoot (va_wsS RX1 99 yX1_isNode wsX1_isNode) := goodIn_app (goodIn_of _ (by decide +kernel)) ggX1_endRoot_X1_isNode
set_option maxRecDepth 20000 in
theorem ggX1_endRoot_X1_fails : GoodIn wsX1_endRoot wsX1_fails := goodIn_r _ [15, 16, 49, 50, 51, 52, 53, 54, 55, 56, 57, 58, 59, 60, 61, 62, 63, 64, 65, 66, 67, 68, 69] (by decide +kernel) (by decide +kernel)
set_option maxRecDepth 20000 in
theorem gX1_endRoot_X1_fails : GoodIn wsX1_endRoot (wsV RX1 95 RX1 yX1_fails wsX1_fails) := goodIn_app (goodIn_of _ (by decide +kernel)) ggX1_endRoot_X1_fails
set_option maxRecDepth 20000 in
theorem ggX1_endRoot_X1_resets : GoodIn wsX1_endRoot wsX1_resets := goodIn_r _ [20, 21, 22, 23, 24, 49, 50, 51, 52, 53, 54, 55, 56, 57, 58, 59, 60, 61, 62, 63, 64, 65, 66, 67, 68, 69] (by decide +kernel) (by decide +kernel)
set_option maxRecDepth 20000 in
theorem gX1_endRoot_X1_resets : GoodIn wsX1_endRoot (wsV RX1 88 RX1 yX1_resets wsX1_resets) := goodIn_app (goodIn_of _ (by decide +kernel)) ggX1_endRoot_X1_resets
set_option maxRecDepth 20000 in
theorem ggX1_endRoot_X1_chooses : GoodIn wsX1_endRoot wsX1_chooses := goodIn_r _ [28, 1, 29, 30, 2, 3, 4, 31, 32, 33, 7, 34, 35, 36, 37, 38, 39, 9, 10, 11, 40, 41, 42, 43, 44, 45, 46, 47, 48, 17, 18, 19, 20, 21, 22, 23, 24, 49, 50, 51, 52, 53, 54, 55, 56, 57, 58, 59, 60, 61, 62, 63, 64, 65, 66, 67, 68, 69] (by decide +kernel) (by decide +kernel)
set_option maxRecDepth 20000 in
theorem gX1_endRoot_X1_chooses : GoodIn wsX1_endRoot (wsV RX1 92 RX1 yX1_chooses wsX1_chooses) := goodIn_app (goodIn_of _ (by decide +kernel)) ggX1_endRoot_X1_chooses
theorem dX1_endRoot_0 : decode cX1_endRoot 0 = .ok (.iload_n 1, 1) := by decide +kernel
theorem dX1_endRoot_1 : decode cX1_endRoot 1 = .ok (.invokestatic 99, 3) := by decide +kernel
theorem dX1_endRoot_4 : decode cX1_endRoot 4 = .ok (.istore_n 2, 1) := by decide +kernel
theorem dX1_endRoot_5 : decode cX1_endRoot 5 = .ok (.aload_n 0, 1) := by decide +kernel
theorem dX1_endRoot_6 : decode cX1_endRoot 6 = .ok (.iload_n 2, 1) := by decide +kernel
theorem dX1_endRoot_7 : decode cX1_endRoot 7 = .ok (.ifCond .ne 7, 3) := by decide +kernel
theorem dX1_endRoot_10 : decode cX1_endRoot 10 = .ok (.iconst 1, 1) := by decide +kernel
theorem dX1_endRoot_11 : decode cX1_endRoot 11 = .ok (.goto 17, 3) := by decide +kernel
theorem dX1_endRoot_14 : decode cX1_endRoot 14 = .ok (.aload_n 0, 1) := by decide +kernel
theorem dX1_endRoot_15 : decode cX1_endRoot 15 = .ok (.getfield 23, 3) := by decide +kernel
theorem dX1_endRoot_18 : decode cX1_endRoot 18 = .ok (.iload_n 1, 1) := by decide +kernel
theorem dX1_endRoot_19 : decode cX1_endRoot 19 = .ok (.baload, 1) := by decide +kernel
theorem dX1_endRoot_20 : decode cX1_endRoot 20 = .ok (.ifCond .eq 7, 3) := by decide +kernel
theorem dX1_endRoot_23 : decode cX1_endRoot 23 = .ok (.iconst 0, 1) := by decide +kernel
theorem dX1_endRoot_24 : decode cX1_endRoot 24 = .ok (.goto 4, 3) := by decide +kernel
theorem dX1_endRoot_27 : decode cX1_endRoot 27 = .ok (.iconst 2, 1) := by decide +kernel
theorem dX1_endRoot_28 : decode cX1_endRoot 28 = .ok (.invokevirtual 95, 3) := by decide +kernel
theorem dX1_endRoot_31 : decode cX1_endRoot 31 = .ok (.ifCond .ne 43, 3) := by decide +kernel
theorem dX1_endRoot_34 : decode cX1_endRoot 34 = .ok (.aload_n 0, 1) := by decide +kernel
theorem dX1_endRoot_35 : decode cX1_endRoot 35 = .ok (.getfield 23, 3) := by decide +kernel
theorem dX1_endRoot_38 : decode cX1_endRoot 38 = .ok (.iload_n 1, 1) := by decide +kernel
theorem dX1_endRoot_39 : decode cX1_endRoot 39 = .ok (.iconst 0, 1) := by decide +kernel
theorem dX1_endRoot_40 : decode cX1_endRoot 40 = .ok (.bastore, 1) := by decide +kernel
theorem dX1_endRoot_41 : decode cX1_endRoot 41 = .ok (.aload_n 0, 1) := by decide +kernel
theorem dX1_endRoot_42 : decode cX1_endRoot 42 = .ok (.getfield 30, 3) := by decide +kernel
theorem dX1_endRoot_45 : decode cX1_endRoot 45 = .ok (.iload_n 1, 1) := by decide +kernel
theorem dX1_endRoot_46 : decode cX1_endRoot 46 = .ok (.iconst (-1), 1) := by decide +kernel
theorem dX1_endRoot_47 : decode cX1_endRoot 47 = .ok (.iastore, 1) := by decide +kernel
theorem dX1_endRoot_48 : decode cX1_endRoot 48 = .ok (.aload_n 0, 1) := by decide +kernel
theorem dX1_endRoot_49 : decode cX1_endRoot 49 = .ok (.getfield 33, 3) := by decide +kernel
theorem dX1_endRoot_52 : decode cX1_endRoot 52 = .ok (.iload_n 1, 1) := by decide +kernel
theorem dX1_endRoot_53 : decode cX1_endRoot 53 = .ok (.iconst 0, 1) := by decide +kernel
theorem dX1_endRoot_54 : decode cX1_endRoot 54 = .ok (.iastore, 1) := by decide +kernel
theorem dX1_endRoot_55 : decode cX1_endRoot 55 = .ok (.aload_n 0, 1) := by decide +kernel
theorem dX1_endRoot_56 : decode cX1_endRoot 56 = .ok (.getfield 36, 3) := by decide +kernel
theorem dX1_endRoot_59 : decode cX1_endRoot 59 = .ok (.iload_n 1, 1) := by decide +kernel
theorem dX1_endRoot_60 : decode cX1_endRoot 60 = .ok (.sipush 10000, 3) := by decide +kernel
theorem dX1_endRoot_63 : decode cX1_endRoot 63 = .ok (.iastore, 1) := by decide +kernel
theorem dX1_endRoot_64 : decode cX1_endRoot 64 = .ok (.aload_n 0, 1) := by decide +kernel
theorem dX1_endRoot_65 : decode cX1_endRoot 65 = .ok (.iload_n 1, 1) := by decide +kernel
theorem dX1_endRoot_66 : decode cX1_endRoot 66 = .ok (.invokevirtual 88, 3) := by decide +kernel
theorem dX1_endRoot_69 : decode cX1_endRoot 69 = .ok (.aload_n 0, 1) := by decide +kernel
theorem dX1_endRoot_70 : decode cX1_endRoot 70 = .ok (.iload_n 1, 1) := by decide +kernel
theorem dX1_endRoot_71 : decode cX1_endRoot 71 = .ok (.invokevirtual 92, 3) := by decide +kernel
theorem dX1_endRoot_74 : decode cX1_endRoot 74 = .ok (.return_, 1) := by decide +kernel
set_option maxRecDepth 20000 in
theorem ggX1_renew_X1_isNode : GoodIn wsX1_renew wsX1_isNode := goodIn_r _ [6, 7, 8, 5, 9] (by decide +kernel) (by decide +kernel)
set_option maxRecDepth 20000 in
theorem gX1_renew_X1_isNode : GoodIn wsX1_renew (va_wsS RX1 99 yX1_isNode wsX1_isNode) := goodIn_app (goodIn_of _ (by decide +kernel)) ggX1_renew_X1_isNode
set_option maxRecDepth 20000 in
theorem ggX1_renew_X1_fails : GoodIn wsX1_renew wsX1_fails := goodIn_r _ [13, 14, 32, 33, 34, 35, 36, 37, 38, 39, 40, 41, 42, 43, 44, 45, 46, 47, 48, 49, 50, 51, 52] (by decide +kernel) (by decide +kernel)
set_option maxRecDepth 20000 in
theorem gX1_renew_X1_fails : GoodIn wsX1_renew (wsV RX1 95 RX1 yX1_fails wsX1_fails) := goodIn_app (goodIn_of _ (by decide +kernel)) ggX1_renew_X1_fails
set_option maxRecDepth 20000 in
theorem ggX1_renew_X1_begins : GoodIn wsX1_renew wsX1_begins := goodIn_r _ [18, 19, 20, 2, 21, 22, 23, 24, 25, 26, 5, 27, 28, 29, 30, 31, 32, 33, 34, 35, 36, 37, 38, 39, 40, 41, 42, 43, 44, 45, 46, 47, 48, 49, 50, 51, 52] (by decide +kernel) (by decide +kernel)
set_option maxRecDepth 20000 in
theorem gX1_renew_X1_begins : GoodIn wsX1_renew (wsV RX1 102 RX1 yX1_begins wsX1_begins) := goodIn_app (goodIn_of _ (by decide +kernel)) ggX1_renew_X1_begins
theorem dX1_renew_0 : decode cX1_renew 0 = .ok (.iload_n 1, 1) := by decide +kernel
theorem dX1_renew_1 : decode cX1_renew 1 = .ok (.invokestatic 99, 3) := by decide +kernel
theorem dX1_renew_4 : decode cX1_renew 4 = .ok (.istore_n 2, 1) := by decide +kernel
theorem dX1_renew_5 : decode cX1_renew 5 = .ok (.aload_n 0, 1) := by decide +kernel
theorem dX1_renew_6 : decode cX1_renew 6 = .ok (.iload_n 2, 1) := by decide +kernel
theorem dX1_renew_7 : decode cX1_renew 7 = .ok (.ifCond .ne 7, 3) := by decide +kernel
theorem dX1_renew_10 : decode cX1_renew 10 = .ok (.iconst 1, 1) := by decide +kernel
theorem dX1_renew_11 : decode cX1_renew 11 = .ok (.goto 17, 3) := by decide +kernel
theorem dX1_renew_14 : decode cX1_renew 14 = .ok (.aload_n 0, 1) := by decide +kernel
theorem dX1_renew_15 : decode cX1_renew 15 = .ok (.getfield 23, 3) := by decide +kernel
theorem dX1_renew_18 : decode cX1_renew 18 = .ok (.iload_n 1, 1) := by decide +kernel
theorem dX1_renew_19 : decode cX1_renew 19 = .ok (.baload, 1) := by decide +kernel
theorem dX1_renew_20 : decode cX1_renew 20 = .ok (.ifCond .eq 7, 3) := by decide +kernel
theorem dX1_renew_23 : decode cX1_renew 23 = .ok (.iconst 0, 1) := by decide +kernel
theorem dX1_renew_24 : decode cX1_renew 24 = .ok (.goto 4, 3) := by decide +kernel
theorem dX1_renew_27 : decode cX1_renew 27 = .ok (.iconst 2, 1) := by decide +kernel
