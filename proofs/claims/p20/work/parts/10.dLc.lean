theorem dL_isBelow_6 : decode cL_isBelow 6 = .ok (.iload_n 3, 1) := by decide +kernel
theorem dL_isBelow_7 : decode cL_isBelow 7 = .ok (.iload_n 1, 1) := by decide +kernel
theorem dL_isBelow_8 : decode cL_isBelow 8 = .ok (.ishr, 1) := by decide +kernel
theorem dL_isBelow_9 : decode cL_isBelow 9 = .ok (.iconst 1, 1) := by decide +kernel
theorem dL_isBelow_10 : decode cL_isBelow 10 = .ok (.iand, 1) := by decide +kernel
theorem dL_isBelow_11 : decode cL_isBelow 11 = .ok (.iconst 1, 1) := by decide +kernel
theorem dL_isBelow_12 : decode cL_isBelow 12 = .ok (.if_icmp .ne 18, 3) := by decide +kernel
theorem dL_isBelow_15 : decode cL_isBelow 15 = .ok (.iload_n 3, 1) := by decide +kernel
theorem dL_isBelow_16 : decode cL_isBelow 16 = .ok (.sipush 1024, 3) := by decide +kernel
theorem dL_isBelow_19 : decode cL_isBelow 19 = .ok (.if_icmp .ge 11, 3) := by decide +kernel
theorem dL_isBelow_22 : decode cL_isBelow 22 = .ok (.iload_n 3, 1) := by decide +kernel
theorem dL_isBelow_23 : decode cL_isBelow 23 = .ok (.ifCond .le 7, 3) := by decide +kernel
theorem dL_isBelow_26 : decode cL_isBelow 26 = .ok (.iconst 1, 1) := by decide +kernel
theorem dL_isBelow_27 : decode cL_isBelow 27 = .ok (.goto 4, 3) := by decide +kernel
theorem dL_isBelow_30 : decode cL_isBelow 30 = .ok (.iconst 0, 1) := by decide +kernel
theorem dL_isBelow_31 : decode cL_isBelow 31 = .ok (.istore 4, 2) := by decide +kernel
theorem dL_isBelow_33 : decode cL_isBelow 33 = .ok (.iconst 0, 1) := by decide +kernel
theorem dL_isBelow_34 : decode cL_isBelow 34 = .ok (.istore 5, 2) := by decide +kernel
theorem dL_isBelow_36 : decode cL_isBelow 36 = .ok (.iload 5, 2) := by decide +kernel
theorem dL_isBelow_38 : decode cL_isBelow 38 = .ok (.bipush 10, 2) := by decide +kernel
theorem dL_isBelow_40 : decode cL_isBelow 40 = .ok (.if_icmp .ge 73, 3) := by decide +kernel
theorem dL_isBelow_43 : decode cL_isBelow 43 = .ok (.iload 4, 2) := by decide +kernel
theorem dL_isBelow_45 : decode cL_isBelow 45 = .ok (.ifCond .eq 68, 3) := by decide +kernel
theorem dL_isBelow_48 : decode cL_isBelow 48 = .ok (.aload_n 0, 1) := by decide +kernel
theorem dL_isBelow_49 : decode cL_isBelow 49 = .ok (.iload 5, 2) := by decide +kernel
theorem dL_isBelow_51 : decode cL_isBelow 51 = .ok (.invokevirtual 51, 3) := by decide +kernel
theorem dL_isBelow_54 : decode cL_isBelow 54 = .ok (.istore 6, 2) := by decide +kernel
theorem dL_isBelow_56 : decode cL_isBelow 56 = .ok (.iload 5, 2) := by decide +kernel
theorem dL_isBelow_58 : decode cL_isBelow 58 = .ok (.iload_n 1, 1) := by decide +kernel
theorem dL_isBelow_59 : decode cL_isBelow 59 = .ok (.if_icmp .eq 41, 3) := by decide +kernel
theorem dL_isBelow_62 : decode cL_isBelow 62 = .ok (.iload_n 3, 1) := by decide +kernel
theorem dL_isBelow_63 : decode cL_isBelow 63 = .ok (.iload 5, 2) := by decide +kernel
theorem dL_isBelow_65 : decode cL_isBelow 65 = .ok (.ishr, 1) := by decide +kernel
theorem dL_isBelow_66 : decode cL_isBelow 66 = .ok (.iconst 1, 1) := by decide +kernel
theorem dL_isBelow_67 : decode cL_isBelow 67 = .ok (.iand, 1) := by decide +kernel
theorem dL_isBelow_68 : decode cL_isBelow 68 = .ok (.iconst 1, 1) := by decide +kernel
theorem dL_isBelow_69 : decode cL_isBelow 69 = .ok (.if_icmp .ne 7, 3) := by decide +kernel
theorem dL_isBelow_72 : decode cL_isBelow 72 = .ok (.iconst 1, 1) := by decide +kernel
theorem dL_isBelow_73 : decode cL_isBelow 73 = .ok (.goto 4, 3) := by decide +kernel
theorem dL_isBelow_76 : decode cL_isBelow 76 = .ok (.iconst 0, 1) := by decide +kernel
theorem dL_isBelow_77 : decode cL_isBelow 77 = .ok (.iload 6, 2) := by decide +kernel
theorem dL_isBelow_79 : decode cL_isBelow 79 = .ok (.ifCond .lt 17, 3) := by decide +kernel
theorem dL_isBelow_82 : decode cL_isBelow 82 = .ok (.iload_n 3, 1) := by decide +kernel
theorem dL_isBelow_83 : decode cL_isBelow 83 = .ok (.iload 6, 2) := by decide +kernel
theorem dL_isBelow_85 : decode cL_isBelow 85 = .ok (.ishr, 1) := by decide +kernel
theorem dL_isBelow_86 : decode cL_isBelow 86 = .ok (.iconst 1, 1) := by decide +kernel
theorem dL_isBelow_87 : decode cL_isBelow 87 = .ok (.iand, 1) := by decide +kernel
theorem dL_isBelow_88 : decode cL_isBelow 88 = .ok (.iconst 1, 1) := by decide +kernel
theorem dL_isBelow_89 : decode cL_isBelow 89 = .ok (.if_icmp .ne 7, 3) := by decide +kernel
theorem dL_isBelow_92 : decode cL_isBelow 92 = .ok (.iconst 1, 1) := by decide +kernel
theorem dL_isBelow_93 : decode cL_isBelow 93 = .ok (.goto 4, 3) := by decide +kernel
theorem dL_isBelow_96 : decode cL_isBelow 96 = .ok (.iconst 0, 1) := by decide +kernel
theorem dL_isBelow_97 : decode cL_isBelow 97 = .ok (.if_icmp .ne 7, 3) := by decide +kernel
theorem dL_isBelow_100 : decode cL_isBelow 100 = .ok (.iconst 1, 1) := by decide +kernel
theorem dL_isBelow_101 : decode cL_isBelow 101 = .ok (.goto 4, 3) := by decide +kernel
theorem dL_isBelow_104 : decode cL_isBelow 104 = .ok (.iconst 0, 1) := by decide +kernel
theorem dL_isBelow_105 : decode cL_isBelow 105 = .ok (.istore 4, 2) := by decide +kernel
theorem dL_isBelow_107 : decode cL_isBelow 107 = .ok (.iinc 5 1, 3) := by decide +kernel
theorem dL_isBelow_110 : decode cL_isBelow 110 = .ok (.goto (-74), 3) := by decide +kernel
theorem dL_isBelow_113 : decode cL_isBelow 113 = .ok (.aload_n 0, 1) := by decide +kernel
theorem dL_isBelow_114 : decode cL_isBelow 114 = .ok (.bipush 6, 2) := by decide +kernel
theorem dL_isBelow_116 : decode cL_isBelow 116 = .ok (.iload_n 1, 1) := by decide +kernel
theorem dL_isBelow_117 : decode cL_isBelow 117 = .ok (.iload_n 2, 1) := by decide +kernel
theorem dL_isBelow_118 : decode cL_isBelow 118 = .ok (.iconst 0, 1) := by decide +kernel
theorem dL_isBelow_119 : decode cL_isBelow 119 = .ok (.iconst 0, 1) := by decide +kernel
theorem dL_isBelow_120 : decode cL_isBelow 120 = .ok (.invokestatic 80, 3) := by decide +kernel
theorem dL_isBelow_123 : decode cL_isBelow 123 = .ok (.istore 5, 2) := by decide +kernel
theorem dL_isBelow_125 : decode cL_isBelow 125 = .ok (.iload_n 2, 1) := by decide +kernel
theorem dL_isBelow_126 : decode cL_isBelow 126 = .ok (.iload_n 1, 1) := by decide +kernel
theorem dL_isBelow_127 : decode cL_isBelow 127 = .ok (.if_icmp .eq 11, 3) := by decide +kernel
theorem dL_isBelow_130 : decode cL_isBelow 130 = .ok (.iload_n 3, 1) := by decide +kernel
theorem dL_isBelow_131 : decode cL_isBelow 131 = .ok (.iload_n 2, 1) := by decide +kernel
theorem dL_isBelow_132 : decode cL_isBelow 132 = .ok (.ishr, 1) := by decide +kernel
theorem dL_isBelow_133 : decode cL_isBelow 133 = .ok (.iconst 1, 1) := by decide +kernel
theorem dL_isBelow_134 : decode cL_isBelow 134 = .ok (.iand, 1) := by decide +kernel
theorem dL_isBelow_135 : decode cL_isBelow 135 = .ok (.ifCond .ne 21, 3) := by decide +kernel
theorem dL_isBelow_138 : decode cL_isBelow 138 = .ok (.iload 4, 2) := by decide +kernel
theorem dL_isBelow_140 : decode cL_isBelow 140 = .ok (.ifCond .eq 14, 3) := by decide +kernel
theorem dL_isBelow_143 : decode cL_isBelow 143 = .ok (.iload 5, 2) := by decide +kernel
theorem dL_isBelow_145 : decode cL_isBelow 145 = .ok (.bipush (-10), 2) := by decide +kernel
theorem dL_isBelow_147 : decode cL_isBelow 147 = .ok (.if_icmp .ne 7, 3) := by decide +kernel
theorem dL_isBelow_150 : decode cL_isBelow 150 = .ok (.iconst 1, 1) := by decide +kernel
theorem dL_isBelow_151 : decode cL_isBelow 151 = .ok (.goto 4, 3) := by decide +kernel
theorem dL_isBelow_154 : decode cL_isBelow 154 = .ok (.iconst 0, 1) := by decide +kernel
theorem dL_isBelow_155 : decode cL_isBelow 155 = .ok (.ireturn, 1) := by decide +kernel
theorem dL_isBelow_156 : decode cL_isBelow 156 = .ok (.iload 4, 2) := by decide +kernel
theorem dL_isBelow_158 : decode cL_isBelow 158 = .ok (.ifCond .eq 36, 3) := by decide +kernel
theorem dL_isBelow_161 : decode cL_isBelow 161 = .ok (.iload 5, 2) := by decide +kernel
theorem dL_isBelow_163 : decode cL_isBelow 163 = .ok (.ifCond .lt 31, 3) := by decide +kernel
theorem dL_isBelow_166 : decode cL_isBelow 166 = .ok (.aload_n 0, 1) := by decide +kernel
theorem dL_isBelow_167 : decode cL_isBelow 167 = .ok (.iload 5, 2) := by decide +kernel
theorem dL_isBelow_169 : decode cL_isBelow 169 = .ok (.invokevirtual 51, 3) := by decide +kernel
theorem dL_isBelow_172 : decode cL_isBelow 172 = .ok (.iload_n 1, 1) := by decide +kernel
theorem dL_isBelow_173 : decode cL_isBelow 173 = .ok (.if_icmp .ne 21, 3) := by decide +kernel
theorem dL_isBelow_176 : decode cL_isBelow 176 = .ok (.aload_n 0, 1) := by decide +kernel
theorem dL_isBelow_177 : decode cL_isBelow 177 = .ok (.iload 5, 2) := by decide +kernel
theorem dL_isBelow_179 : decode cL_isBelow 179 = .ok (.invokevirtual 69, 3) := by decide +kernel
theorem dL_isBelow_182 : decode cL_isBelow 182 = .ok (.iload_n 2, 1) := by decide +kernel
theorem dL_isBelow_183 : decode cL_isBelow 183 = .ok (.ishr, 1) := by decide +kernel
theorem dL_isBelow_184 : decode cL_isBelow 184 = .ok (.iconst 1, 1) := by decide +kernel
theorem dL_isBelow_185 : decode cL_isBelow 185 = .ok (.iand, 1) := by decide +kernel
theorem dL_isBelow_186 : decode cL_isBelow 186 = .ok (.iconst 1, 1) := by decide +kernel
theorem dL_isBelow_187 : decode cL_isBelow 187 = .ok (.if_icmp .ne 7, 3) := by decide +kernel
theorem dL_isBelow_190 : decode cL_isBelow 190 = .ok (.iconst 1, 1) := by decide +kernel
theorem dL_isBelow_191 : decode cL_isBelow 191 = .ok (.goto 4, 3) := by decide +kernel
theorem dL_isBelow_194 : decode cL_isBelow 194 = .ok (.iconst 0, 1) := by decide +kernel
theorem dL_isBelow_195 : decode cL_isBelow 195 = .ok (.ireturn, 1) := by decide +kernel
set_option maxRecDepth 20000 in
theorem ggL_isSo_X0_time : GoodIn wsL_isSo wsX0_time := goodIn_r _ [5, 6, 214, 215, 216, 217, 218, 219, 220, 221, 222, 223, 224, 225, 226, 227, 228, 229, 230, 231, 232, 233] (by decide +kernel) (by decide +kernel)
set_option maxRecDepth 20000 in
theorem gL_isSo_X0_time : GoodIn wsL_isSo (wsV RL 83 RX0 yX0_time wsX0_time) := goodIn_app (goodIn_of _ (by decide +kernel)) ggL_isSo_X0_time
set_option maxRecDepth 20000 in
theorem ggL_isSo_L_asks : GoodIn wsL_isSo wsL_asks := goodIn_ca (goodIn_r _ [10, 11, 12, 13, 14, 4, 15, 16, 17, 18, 19, 20, 21, 22, 23, 24, 25, 26, 27, 28, 29, 30, 31, 32, 33, 34, 35, 36, 37, 38, 39, 40, 41, 42, 43, 44, 45, 46, 47, 48, 49, 50, 51, 52, 53, 54, 55, 56, 57, 58, 59, 60, 61, 62, 63, 64, 65, 66, 67, 68, 69, 70, 71, 72, 73, 214, 215, 216, 217, 218, 219, 220, 221, 222, 223, 224, 225, 226, 227, 228, 229, 230, 231, 232, 233] (by decide +kernel) (by decide +kernel)) (goodIn_sub (fun _ h => List.mem_cons_of_mem _ (List.mem_append_left _ (List.mem_append_left _ (List.mem_append_right _ h)))) (by decide +kernel))
set_option maxRecDepth 20000 in
theorem gL_isSo_L_asks : GoodIn wsL_isSo (va_wsS RL 86 yL_asks wsL_asks) := goodIn_app (goodIn_of _ (by decide +kernel)) ggL_isSo_L_asks
set_option maxRecDepth 20000 in
theorem ggL_isSo_L_isNode : GoodIn wsL_isSo wsL_isNode := goodIn_ca (goodIn_r _ [76, 12, 13, 14, 4, 15, 16, 17, 18, 19, 20, 21, 22, 23, 24, 25, 26, 27, 28, 29, 30, 31, 32, 33, 34, 35, 36, 37, 38, 39, 40, 41, 42, 43, 44, 45, 77, 78, 9, 79, 214, 215, 216, 217, 218, 219, 220, 221, 222, 223, 224, 225, 226, 227, 228, 229, 230, 231, 232, 233] (by decide +kernel) (by decide +kernel)) (goodIn_sub (fun _ h => List.mem_cons_of_mem _ (List.mem_append_left _ (List.mem_append_left _ (List.mem_append_right _ h)))) (by decide +kernel))
set_option maxRecDepth 20000 in
theorem gL_isSo_L_isNode : GoodIn wsL_isSo (va_wsS RL 90 yL_isNode wsL_isNode) := goodIn_app (goodIn_of _ (by decide +kernel)) ggL_isSo_L_isNode
set_option maxRecDepth 20000 in
theorem ggL_isSo_L_isPacket : GoodIn wsL_isSo wsL_isPacket := goodIn_ca (goodIn_r _ [82, 25, 26, 27, 4, 28, 29, 17, 18, 19, 20, 21, 22, 23, 24, 12, 13, 14, 15, 16, 61, 62, 63, 64, 51, 65, 83, 84, 85, 86, 214, 215, 216, 217, 218, 219, 220, 221, 222, 223, 224, 225, 226, 227, 228, 229, 230, 231, 232, 233] (by decide +kernel) (by decide +kernel)) (goodIn_sub (fun _ h => List.mem_cons_of_mem _ (List.mem_append_left _ (List.mem_append_left _ (List.mem_append_right _ h)))) (by decide +kernel))
set_option maxRecDepth 20000 in
theorem gL_isSo_L_isPacket : GoodIn wsL_isSo (va_wsS RL 94 yL_isPacket wsL_isPacket) := goodIn_app (goodIn_of _ (by decide +kernel)) ggL_isSo_L_isPacket
set_option maxRecDepth 20000 in
theorem ggL_isSo_L_isBelow : GoodIn wsL_isSo wsL_isBelow := goodIn_ca (goodIn_ca (goodIn_ca (goodIn_r _ [89, 66, 67, 68, 4, 69, 17, 18, 19, 20, 21, 22, 23, 24, 70, 71, 72, 73, 29, 25, 26, 27, 28, 90, 91, 9, 92, 11, 93, 94, 95, 96, 97, 98, 99, 100, 101, 102, 103, 104, 105, 106, 107, 108, 109, 110, 111, 112, 113, 114, 51, 115, 116, 117, 118, 119, 120, 121, 122, 123, 124, 34, 35, 16, 125, 126, 127, 128, 129, 130, 40, 6, 131, 132, 133, 134, 135, 136, 137, 138, 139, 140, 141, 142, 45, 56, 143, 144, 145, 146, 147, 148, 149, 150, 151, 152, 153, 154, 155, 156, 157, 158, 159, 160, 161, 162, 163, 164, 165, 166, 167, 168, 169, 170, 171, 172, 57, 58, 59, 60, 173, 174, 175, 176, 177, 178, 179, 180, 181, 182, 183, 184, 185, 186, 187, 188, 189, 190, 191, 192, 193, 194, 195, 196, 197, 198, 199, 200, 201, 202, 203, 204, 205, 206, 207, 208, 209, 210, 211, 212, 213, 214, 215, 216, 217, 218, 219, 220, 221, 222, 223, 224, 225, 226, 227, 228, 229, 230, 231, 232, 233] (by decide +kernel) (by decide +kernel)) (goodIn_sub (fun _ h => List.mem_cons_of_mem _ (List.mem_append_left _ (List.mem_append_left _ (List.mem_append_right _ h)))) (by decide +kernel))) (goodIn_sub (fun _ h => List.mem_cons_of_mem _ (List.mem_append_left _ (List.mem_append_right _ h))) (by decide +kernel))) (goodIn_sub (fun _ h => List.mem_cons_of_mem _ (List.mem_append_right _ h)) (by decide +kernel))
set_option maxRecDepth 20000 in
theorem gL_isSo_L_isBelow : GoodIn wsL_isSo (va_wsS RL 98 yL_isBelow wsL_isBelow) := goodIn_app (goodIn_of _ (by decide +kernel)) ggL_isSo_L_isBelow
theorem dL_isSo_0 : decode cL_isSo 0 = .ok (.aload_n 0, 1) := by decide +kernel
theorem dL_isSo_1 : decode cL_isSo 1 = .ok (.invokevirtual 83, 3) := by decide +kernel
theorem dL_isSo_4 : decode cL_isSo 4 = .ok (.aload_n 3, 1) := by decide +kernel
theorem dL_isSo_5 : decode cL_isSo 5 = .ok (.iconst 0, 1) := by decide +kernel
theorem dL_isSo_6 : decode cL_isSo 6 = .ok (.iaload, 1) := by decide +kernel
theorem dL_isSo_7 : decode cL_isSo 7 = .ok (.if_icmp .ne 109, 3) := by decide +kernel
theorem dL_isSo_10 : decode cL_isSo 10 = .ok (.aload_n 0, 1) := by decide +kernel
theorem dL_isSo_11 : decode cL_isSo 11 = .ok (.iconst 0, 1) := by decide +kernel
theorem dL_isSo_12 : decode cL_isSo 12 = .ok (.bipush 10, 2) := by decide +kernel
theorem dL_isSo_14 : decode cL_isSo 14 = .ok (.iconst 0, 1) := by decide +kernel
theorem dL_isSo_15 : decode cL_isSo 15 = .ok (.invokestatic 86, 3) := by decide +kernel
theorem dL_isSo_18 : decode cL_isSo 18 = .ok (.bipush (-30), 2) := by decide +kernel
theorem dL_isSo_20 : decode cL_isSo 20 = .ok (.if_icmp .ne 96, 3) := by decide +kernel
theorem dL_isSo_23 : decode cL_isSo 23 = .ok (.aload_n 0, 1) := by decide +kernel
theorem dL_isSo_24 : decode cL_isSo 24 = .ok (.iconst 1, 1) := by decide +kernel
theorem dL_isSo_25 : decode cL_isSo 25 = .ok (.iconst (-1), 1) := by decide +kernel
theorem dL_isSo_26 : decode cL_isSo 26 = .ok (.iconst 0, 1) := by decide +kernel
theorem dL_isSo_27 : decode cL_isSo 27 = .ok (.invokestatic 86, 3) := by decide +kernel
theorem dL_isSo_30 : decode cL_isSo 30 = .ok (.bipush (-30), 2) := by decide +kernel
theorem dL_isSo_32 : decode cL_isSo 32 = .ok (.if_icmp .ne 84, 3) := by decide +kernel
theorem dL_isSo_35 : decode cL_isSo 35 = .ok (.aload_n 0, 1) := by decide +kernel
theorem dL_isSo_36 : decode cL_isSo 36 = .ok (.iconst 2, 1) := by decide +kernel
theorem dL_isSo_37 : decode cL_isSo 37 = .ok (.bipush 10, 2) := by decide +kernel
theorem dL_isSo_39 : decode cL_isSo 39 = .ok (.iconst 0, 1) := by decide +kernel
theorem dL_isSo_40 : decode cL_isSo 40 = .ok (.invokestatic 86, 3) := by decide +kernel
theorem dL_isSo_43 : decode cL_isSo 43 = .ok (.bipush (-30), 2) := by decide +kernel
theorem dL_isSo_45 : decode cL_isSo 45 = .ok (.if_icmp .ne 71, 3) := by decide +kernel
theorem dL_isSo_48 : decode cL_isSo 48 = .ok (.aload_n 0, 1) := by decide +kernel
theorem dL_isSo_49 : decode cL_isSo 49 = .ok (.iconst 3, 1) := by decide +kernel
theorem dL_isSo_50 : decode cL_isSo 50 = .ok (.iconst (-1), 1) := by decide +kernel
theorem dL_isSo_51 : decode cL_isSo 51 = .ok (.iconst 0, 1) := by decide +kernel
theorem dL_isSo_52 : decode cL_isSo 52 = .ok (.invokestatic 86, 3) := by decide +kernel
theorem dL_isSo_55 : decode cL_isSo 55 = .ok (.bipush (-30), 2) := by decide +kernel
theorem dL_isSo_57 : decode cL_isSo 57 = .ok (.if_icmp .ne 59, 3) := by decide +kernel
theorem dL_isSo_60 : decode cL_isSo 60 = .ok (.aload_n 0, 1) := by decide +kernel
theorem dL_isSo_61 : decode cL_isSo 61 = .ok (.iconst 4, 1) := by decide +kernel
theorem dL_isSo_62 : decode cL_isSo 62 = .ok (.iconst 0, 1) := by decide +kernel
theorem dL_isSo_63 : decode cL_isSo 63 = .ok (.bipush 10, 2) := by decide +kernel
theorem dL_isSo_65 : decode cL_isSo 65 = .ok (.invokestatic 86, 3) := by decide +kernel
theorem dL_isSo_68 : decode cL_isSo 68 = .ok (.bipush (-30), 2) := by decide +kernel
theorem dL_isSo_70 : decode cL_isSo 70 = .ok (.if_icmp .ne 46, 3) := by decide +kernel
theorem dL_isSo_73 : decode cL_isSo 73 = .ok (.aload_n 0, 1) := by decide +kernel
theorem dL_isSo_74 : decode cL_isSo 74 = .ok (.iconst 5, 1) := by decide +kernel
theorem dL_isSo_75 : decode cL_isSo 75 = .ok (.iconst (-1), 1) := by decide +kernel
theorem dL_isSo_76 : decode cL_isSo 76 = .ok (.iconst 0, 1) := by decide +kernel
theorem dL_isSo_77 : decode cL_isSo 77 = .ok (.invokestatic 86, 3) := by decide +kernel
theorem dL_isSo_80 : decode cL_isSo 80 = .ok (.bipush (-30), 2) := by decide +kernel
theorem dL_isSo_82 : decode cL_isSo 82 = .ok (.if_icmp .ne 34, 3) := by decide +kernel
theorem dL_isSo_85 : decode cL_isSo 85 = .ok (.aload_n 0, 1) := by decide +kernel
theorem dL_isSo_86 : decode cL_isSo 86 = .ok (.bipush 6, 2) := by decide +kernel
theorem dL_isSo_88 : decode cL_isSo 88 = .ok (.bipush 10, 2) := by decide +kernel
theorem dL_isSo_90 : decode cL_isSo 90 = .ok (.iconst 0, 1) := by decide +kernel
theorem dL_isSo_91 : decode cL_isSo 91 = .ok (.invokestatic 86, 3) := by decide +kernel
theorem dL_isSo_94 : decode cL_isSo 94 = .ok (.bipush (-30), 2) := by decide +kernel
theorem dL_isSo_96 : decode cL_isSo 96 = .ok (.if_icmp .ne 20, 3) := by decide +kernel
theorem dL_isSo_99 : decode cL_isSo 99 = .ok (.aload_n 0, 1) := by decide +kernel
theorem dL_isSo_100 : decode cL_isSo 100 = .ok (.bipush 7, 2) := by decide +kernel
theorem dL_isSo_102 : decode cL_isSo 102 = .ok (.iconst (-1), 1) := by decide +kernel
theorem dL_isSo_103 : decode cL_isSo 103 = .ok (.iconst 0, 1) := by decide +kernel
theorem dL_isSo_104 : decode cL_isSo 104 = .ok (.invokestatic 86, 3) := by decide +kernel
theorem dL_isSo_107 : decode cL_isSo 107 = .ok (.bipush (-30), 2) := by decide +kernel
theorem dL_isSo_109 : decode cL_isSo 109 = .ok (.if_icmp .ne 7, 3) := by decide +kernel
theorem dL_isSo_112 : decode cL_isSo 112 = .ok (.iconst 1, 1) := by decide +kernel
theorem dL_isSo_113 : decode cL_isSo 113 = .ok (.goto 4, 3) := by decide +kernel
theorem dL_isSo_116 : decode cL_isSo 116 = .ok (.iconst 0, 1) := by decide +kernel
theorem dL_isSo_117 : decode cL_isSo 117 = .ok (.istore 6, 2) := by decide +kernel
theorem dL_isSo_119 : decode cL_isSo 119 = .ok (.iconst 0, 1) := by decide +kernel
theorem dL_isSo_120 : decode cL_isSo 120 = .ok (.istore 7, 2) := by decide +kernel
theorem dL_isSo_122 : decode cL_isSo 122 = .ok (.iload 7, 2) := by decide +kernel
theorem dL_isSo_124 : decode cL_isSo 124 = .ok (.bipush 10, 2) := by decide +kernel
theorem dL_isSo_126 : decode cL_isSo 126 = .ok (.if_icmp .ge 25, 3) := by decide +kernel
theorem dL_isSo_129 : decode cL_isSo 129 = .ok (.iload 6, 2) := by decide +kernel
theorem dL_isSo_131 : decode cL_isSo 131 = .ok (.ifCond .eq 20, 3) := by decide +kernel
theorem dL_isSo_134 : decode cL_isSo 134 = .ok (.aload_n 0, 1) := by decide +kernel
theorem dL_isSo_135 : decode cL_isSo 135 = .ok (.aload_n 1, 1) := by decide +kernel
theorem dL_isSo_136 : decode cL_isSo 136 = .ok (.aload_n 2, 1) := by decide +kernel
theorem dL_isSo_137 : decode cL_isSo 137 = .ok (.aload_n 3, 1) := by decide +kernel
theorem dL_isSo_138 : decode cL_isSo 138 = .ok (.iload 7, 2) := by decide +kernel
theorem dL_isSo_140 : decode cL_isSo 140 = .ok (.invokestatic 90, 3) := by decide +kernel
theorem dL_isSo_143 : decode cL_isSo 143 = .ok (.istore 6, 2) := by decide +kernel
theorem dL_isSo_145 : decode cL_isSo 145 = .ok (.iinc 7 1, 3) := by decide +kernel
theorem dL_isSo_148 : decode cL_isSo 148 = .ok (.goto (-26), 3) := by decide +kernel
theorem dL_isSo_151 : decode cL_isSo 151 = .ok (.iload 6, 2) := by decide +kernel
theorem dL_isSo_153 : decode cL_isSo 153 = .ok (.ifCond .eq 29, 3) := by decide +kernel
theorem dL_isSo_156 : decode cL_isSo 156 = .ok (.aload_n 0, 1) := by decide +kernel
theorem dL_isSo_157 : decode cL_isSo 157 = .ok (.aload_n 2, 1) := by decide +kernel
theorem dL_isSo_158 : decode cL_isSo 158 = .ok (.aload_n 3, 1) := by decide +kernel
theorem dL_isSo_159 : decode cL_isSo 159 = .ok (.iload 4, 2) := by decide +kernel
theorem dL_isSo_161 : decode cL_isSo 161 = .ok (.invokestatic 94, 3) := by decide +kernel
theorem dL_isSo_164 : decode cL_isSo 164 = .ok (.ifCond .eq 18, 3) := by decide +kernel
theorem dL_isSo_167 : decode cL_isSo 167 = .ok (.aload_n 0, 1) := by decide +kernel
theorem dL_isSo_168 : decode cL_isSo 168 = .ok (.iload 4, 2) := by decide +kernel
theorem dL_isSo_170 : decode cL_isSo 170 = .ok (.iload 5, 2) := by decide +kernel
theorem dL_isSo_172 : decode cL_isSo 172 = .ok (.invokestatic 98, 3) := by decide +kernel
theorem dL_isSo_175 : decode cL_isSo 175 = .ok (.ifCond .eq 7, 3) := by decide +kernel
theorem dL_isSo_178 : decode cL_isSo 178 = .ok (.iconst 1, 1) := by decide +kernel
theorem dL_isSo_179 : decode cL_isSo 179 = .ok (.goto 4, 3) := by decide +kernel
theorem dL_isSo_182 : decode cL_isSo 182 = .ok (.iconst 0, 1) := by decide +kernel
theorem dL_isSo_183 : decode cL_isSo 183 = .ok (.ireturn, 1) := by decide +kernel
set_option maxRecDepth 20000 in
theorem ggL_isLink_L_cost : GoodIn wsL_isLink wsL_cost := goodIn_r _ [4] (by decide +kernel) (by decide +kernel)
set_option maxRecDepth 20000 in
theorem gL_isLink_L_cost : GoodIn wsL_isLink (va_wsS RL 72 yL_cost wsL_cost) := goodIn_app (goodIn_of _ (by decide +kernel)) ggL_isLink_L_cost
set_option maxRecDepth 20000 in
theorem ggL_isLink_L_does : GoodIn wsL_isLink wsL_does := goodIn_ca (goodIn_ca (goodIn_ca (goodIn_r _ [7, 8, 9, 10, 11, 12, 3, 13, 14, 15, 16, 17, 18, 19, 20, 21, 22, 23, 24, 25, 26, 27, 28, 29, 30, 31, 32, 33, 34, 35, 36, 37, 38, 39, 40, 41, 42, 43, 44, 45, 46, 47, 48, 49, 50, 51, 52, 53, 54, 55, 56, 57, 58, 59, 60, 61, 62, 63, 64, 65, 66, 67, 68, 69, 70, 71, 72, 73, 74, 75, 76, 77, 78, 79, 80, 81, 82, 83, 84, 85, 86, 87, 88, 89, 90, 91, 92, 93, 94, 95, 96, 97, 98, 99, 100, 101, 102, 103, 104, 105, 106, 107, 108, 109, 110, 111, 112, 113, 114, 115, 116, 117, 118, 119, 120, 121, 122, 123, 124, 125, 126, 127, 128, 129, 130, 131, 132, 133, 134, 135, 136, 137, 138, 139, 140, 141, 142, 143, 144, 145, 146, 147, 148, 149, 150, 151, 156, 157, 158, 159, 160, 161, 162, 163, 164, 165, 166, 167, 168, 169, 170, 171, 172, 173, 174, 175] (by decide +kernel) (by decide +kernel)) (goodIn_sub (fun _ h => List.mem_cons_of_mem _ (List.mem_append_left _ (List.mem_append_left _ (List.mem_append_right _ h)))) (by decide +kernel))) (goodIn_sub (fun _ h => List.mem_cons_of_mem _ (List.mem_append_left _ (List.mem_append_right _ h))) (by decide +kernel))) (goodIn_sub (fun _ h => List.mem_cons_of_mem _ (List.mem_append_right _ h)) (by decide +kernel))
set_option maxRecDepth 20000 in
theorem gL_isLink_L_does : GoodIn wsL_isLink (va_wsS RL 80 yL_does wsL_does) := goodIn_app (goodIn_of _ (by decide +kernel)) ggL_isLink_L_does
set_option maxRecDepth 20000 in
theorem ggL_isLink_X0_heard : GoodIn wsL_isLink wsX0_heard := goodIn_ca (goodIn_r _ [155, 75, 39, 40, 17, 41, 42, 43, 44, 45, 46, 156, 157, 158, 159, 160, 161, 162, 163, 164, 165, 166, 167, 168, 169, 170, 171, 172, 173, 174, 175] (by decide +kernel) (by decide +kernel)) (goodIn_sub (fun _ h => List.mem_cons_of_mem _ (List.mem_append_right _ h)) (by decide +kernel))
set_option maxRecDepth 20000 in
theorem gL_isLink_X0_heard : GoodIn wsL_isLink (wsV RL 60 RX0 yX0_heard wsX0_heard) := goodIn_app (goodIn_of _ (by decide +kernel)) ggL_isLink_X0_heard
theorem dL_isLink_0 : decode cL_isLink 0 = .ok (.iload_n 2, 1) := by decide +kernel
theorem dL_isLink_1 : decode cL_isLink 1 = .ok (.bipush 9, 2) := by decide +kernel
theorem dL_isLink_3 : decode cL_isLink 3 = .ok (.if_icmp .gt 9, 3) := by decide +kernel
theorem dL_isLink_6 : decode cL_isLink 6 = .ok (.iload_n 3, 1) := by decide +kernel
theorem dL_isLink_7 : decode cL_isLink 7 = .ok (.bipush 9, 2) := by decide +kernel
theorem dL_isLink_9 : decode cL_isLink 9 = .ok (.if_icmp .le 8, 3) := by decide +kernel
theorem dL_isLink_12 : decode cL_isLink 12 = .ok (.bipush (-30), 2) := by decide +kernel
theorem dL_isLink_14 : decode cL_isLink 14 = .ok (.goto 26, 3) := by decide +kernel
theorem dL_isLink_17 : decode cL_isLink 17 = .ok (.iload_n 2, 1) := by decide +kernel
theorem dL_isLink_18 : decode cL_isLink 18 = .ok (.iload_n 3, 1) := by decide +kernel
theorem dL_isLink_19 : decode cL_isLink 19 = .ok (.if_icmp .eq 10, 3) := by decide +kernel
theorem dL_isLink_22 : decode cL_isLink 22 = .ok (.iload 4, 2) := by decide +kernel
theorem dL_isLink_24 : decode cL_isLink 24 = .ok (.bipush 100, 2) := by decide +kernel
theorem dL_isLink_26 : decode cL_isLink 26 = .ok (.if_icmp .le 8, 3) := by decide +kernel
theorem dL_isLink_29 : decode cL_isLink 29 = .ok (.bipush (-20), 2) := by decide +kernel
theorem dL_isLink_31 : decode cL_isLink 31 = .ok (.goto 9, 3) := by decide +kernel
theorem dL_isLink_34 : decode cL_isLink 34 = .ok (.aload_n 1, 1) := by decide +kernel
theorem dL_isLink_35 : decode cL_isLink 35 = .ok (.iload_n 2, 1) := by decide +kernel
theorem dL_isLink_36 : decode cL_isLink 36 = .ok (.iload_n 3, 1) := by decide +kernel
theorem dL_isLink_37 : decode cL_isLink 37 = .ok (.invokestatic 72, 3) := by decide +kernel
theorem dL_isLink_40 : decode cL_isLink 40 = .ok (.istore 5, 2) := by decide +kernel
theorem dL_isLink_42 : decode cL_isLink 42 = .ok (.iload 5, 2) := by decide +kernel
theorem dL_isLink_44 : decode cL_isLink 44 = .ok (.ifCond .lt 23, 3) := by decide +kernel
theorem dL_isLink_47 : decode cL_isLink 47 = .ok (.aload_n 1, 1) := by decide +kernel
theorem dL_isLink_48 : decode cL_isLink 48 = .ok (.bipush 8, 2) := by decide +kernel
theorem dL_isLink_50 : decode cL_isLink 50 = .ok (.iload_n 2, 1) := by decide +kernel
theorem dL_isLink_51 : decode cL_isLink 51 = .ok (.imul, 1) := by decide +kernel
theorem dL_isLink_52 : decode cL_isLink 52 = .ok (.iload_n 3, 1) := by decide +kernel
theorem dL_isLink_53 : decode cL_isLink 53 = .ok (.iadd, 1) := by decide +kernel
theorem dL_isLink_54 : decode cL_isLink 54 = .ok (.iload 4, 2) := by decide +kernel
theorem dL_isLink_56 : decode cL_isLink 56 = .ok (.iastore, 1) := by decide +kernel
theorem dL_isLink_57 : decode cL_isLink 57 = .ok (.aload_n 1, 1) := by decide +kernel
theorem dL_isLink_58 : decode cL_isLink 58 = .ok (.bipush 8, 2) := by decide +kernel
theorem dL_isLink_60 : decode cL_isLink 60 = .ok (.iload_n 3, 1) := by decide +kernel
theorem dL_isLink_61 : decode cL_isLink 61 = .ok (.imul, 1) := by decide +kernel
theorem dL_isLink_62 : decode cL_isLink 62 = .ok (.iload_n 2, 1) := by decide +kernel
theorem dL_isLink_63 : decode cL_isLink 63 = .ok (.iadd, 1) := by decide +kernel
theorem dL_isLink_64 : decode cL_isLink 64 = .ok (.iload 4, 2) := by decide +kernel
