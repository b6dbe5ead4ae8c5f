set_option maxRecDepth 20000 in
theorem ggX0_init_X0_clearNode : GoodIn wsX0_init wsX0_clearNode := goodIn_r _ [31, 19, 20, 21, 22, 23, 40, 41, 42, 43, 44, 45, 46, 47, 48, 49, 50, 51, 52, 53, 54, 55, 56, 57, 58, 59] (by decide +kernel) (by decide +kernel)
set_option maxRecDepth 20000 in
theorem gX0_init_X0_clearNode : GoodIn wsX0_init (wsV RX0 74 RX0 yX0_clearNode wsX0_clearNode) := goodIn_app (goodIn_of _ (by decide +kernel)) ggX0_init_X0_clearNode
set_option maxRecDepth 20000 in
theorem ggX0_init_X0_resetTimer : GoodIn wsX0_init wsX0_resetTimer := goodIn_r _ [35, 24, 6, 25, 8, 40, 41, 42, 43, 44, 45, 46, 47, 48, 49, 50, 51, 52, 53, 54, 55, 56, 57, 58, 59] (by decide +kernel) (by decide +kernel)
set_option maxRecDepth 20000 in
theorem gX0_init_X0_resetTimer : GoodIn wsX0_init (wsV RX0 78 RX0 yX0_resetTimer wsX0_resetTimer) := goodIn_app (goodIn_of _ (by decide +kernel)) ggX0_init_X0_resetTimer
set_option maxRecDepth 20000 in
theorem ggX0_init_X0_forget : GoodIn wsX0_init wsX0_forget := goodIn_r _ [39, 13, 14, 15, 40, 41, 42, 43, 44, 45, 46, 47, 48, 49, 50, 51, 52, 53, 54, 55, 56, 57, 58, 59] (by decide +kernel) (by decide +kernel)
set_option maxRecDepth 20000 in
theorem gX0_init_X0_forget : GoodIn wsX0_init (wsV RX0 81 RX0 yX0_forget wsX0_forget) := goodIn_app (goodIn_of _ (by decide +kernel)) ggX0_init_X0_forget
theorem dX0_init_0 : decode cX0_init 0 = .ok (.aload_n 0, 1) := by decide +kernel
theorem dX0_init_1 : decode cX0_init 1 = .ok (.invokespecial 3, 3) := by decide +kernel
theorem dX0_init_4 : decode cX0_init 4 = .ok (.aload_n 0, 1) := by decide +kernel
theorem dX0_init_5 : decode cX0_init 5 = .ok (.iconst 0, 1) := by decide +kernel
theorem dX0_init_6 : decode cX0_init 6 = .ok (.putfield 9, 3) := by decide +kernel
theorem dX0_init_9 : decode cX0_init 9 = .ok (.aload_n 0, 1) := by decide +kernel
theorem dX0_init_10 : decode cX0_init 10 = .ok (.sipush 10000, 3) := by decide +kernel
theorem dX0_init_13 : decode cX0_init 13 = .ok (.putfield 13, 3) := by decide +kernel
theorem dX0_init_16 : decode cX0_init 16 = .ok (.aload_n 0, 1) := by decide +kernel
theorem dX0_init_17 : decode cX0_init 17 = .ok (.iconst 1, 1) := by decide +kernel
theorem dX0_init_18 : decode cX0_init 18 = .ok (.putfield 16, 3) := by decide +kernel
theorem dX0_init_21 : decode cX0_init 21 = .ok (.aload_n 0, 1) := by decide +kernel
theorem dX0_init_22 : decode cX0_init 22 = .ok (.iconst 4, 1) := by decide +kernel
theorem dX0_init_23 : decode cX0_init 23 = .ok (.putfield 19, 3) := by decide +kernel
theorem dX0_init_26 : decode cX0_init 26 = .ok (.aload_n 0, 1) := by decide +kernel
theorem dX0_init_27 : decode cX0_init 27 = .ok (.iconst 0, 1) := by decide +kernel
theorem dX0_init_28 : decode cX0_init 28 = .ok (.putfield 22, 3) := by decide +kernel
theorem dX0_init_31 : decode cX0_init 31 = .ok (.aload_n 0, 1) := by decide +kernel
theorem dX0_init_32 : decode cX0_init 32 = .ok (.iconst 0, 1) := by decide +kernel
theorem dX0_init_33 : decode cX0_init 33 = .ok (.putfield 25, 3) := by decide +kernel
theorem dX0_init_36 : decode cX0_init 36 = .ok (.aload_n 0, 1) := by decide +kernel
theorem dX0_init_37 : decode cX0_init 37 = .ok (.bipush 10, 2) := by decide +kernel
theorem dX0_init_39 : decode cX0_init 39 = .ok (.bipush 10, 2) := by decide +kernel
theorem dX0_init_41 : decode cX0_init 41 = .ok (.multianewarray 28 2, 4) := by decide +kernel
theorem dX0_init_45 : decode cX0_init 45 = .ok (.putfield 30, 3) := by decide +kernel
theorem dX0_init_48 : decode cX0_init 48 = .ok (.aload_n 0, 1) := by decide +kernel
theorem dX0_init_49 : decode cX0_init 49 = .ok (.bipush 10, 2) := by decide +kernel
theorem dX0_init_51 : decode cX0_init 51 = .ok (.bipush 10, 2) := by decide +kernel
theorem dX0_init_53 : decode cX0_init 53 = .ok (.multianewarray 28 2, 4) := by decide +kernel
theorem dX0_init_57 : decode cX0_init 57 = .ok (.putfield 33, 3) := by decide +kernel
theorem dX0_init_60 : decode cX0_init 60 = .ok (.aload_n 0, 1) := by decide +kernel
theorem dX0_init_61 : decode cX0_init 61 = .ok (.bipush 10, 2) := by decide +kernel
theorem dX0_init_63 : decode cX0_init 63 = .ok (.bipush 10, 2) := by decide +kernel
theorem dX0_init_65 : decode cX0_init 65 = .ok (.multianewarray 28 2, 4) := by decide +kernel
theorem dX0_init_69 : decode cX0_init 69 = .ok (.putfield 36, 3) := by decide +kernel
theorem dX0_init_72 : decode cX0_init 72 = .ok (.aload_n 0, 1) := by decide +kernel
theorem dX0_init_73 : decode cX0_init 73 = .ok (.bipush 10, 2) := by decide +kernel
theorem dX0_init_75 : decode cX0_init 75 = .ok (.bipush 10, 2) := by decide +kernel
theorem dX0_init_77 : decode cX0_init 77 = .ok (.multianewarray 28 2, 4) := by decide +kernel
theorem dX0_init_81 : decode cX0_init 81 = .ok (.putfield 39, 3) := by decide +kernel
theorem dX0_init_84 : decode cX0_init 84 = .ok (.aload_n 0, 1) := by decide +kernel
theorem dX0_init_85 : decode cX0_init 85 = .ok (.bipush 10, 2) := by decide +kernel
theorem dX0_init_87 : decode cX0_init 87 = .ok (.newarray .boolean, 2) := by decide +kernel
theorem dX0_init_89 : decode cX0_init 89 = .ok (.putfield 42, 3) := by decide +kernel
theorem dX0_init_92 : decode cX0_init 92 = .ok (.aload_n 0, 1) := by decide +kernel
theorem dX0_init_93 : decode cX0_init 93 = .ok (.bipush 10, 2) := by decide +kernel
theorem dX0_init_95 : decode cX0_init 95 = .ok (.newarray .int, 2) := by decide +kernel
theorem dX0_init_97 : decode cX0_init 97 = .ok (.putfield 46, 3) := by decide +kernel
theorem dX0_init_100 : decode cX0_init 100 = .ok (.aload_n 0, 1) := by decide +kernel
theorem dX0_init_101 : decode cX0_init 101 = .ok (.bipush 10, 2) := by decide +kernel
theorem dX0_init_103 : decode cX0_init 103 = .ok (.newarray .int, 2) := by decide +kernel
theorem dX0_init_105 : decode cX0_init 105 = .ok (.putfield 50, 3) := by decide +kernel
theorem dX0_init_108 : decode cX0_init 108 = .ok (.aload_n 0, 1) := by decide +kernel
theorem dX0_init_109 : decode cX0_init 109 = .ok (.bipush 10, 2) := by decide +kernel
theorem dX0_init_111 : decode cX0_init 111 = .ok (.newarray .int, 2) := by decide +kernel
theorem dX0_init_113 : decode cX0_init 113 = .ok (.putfield 53, 3) := by decide +kernel
theorem dX0_init_116 : decode cX0_init 116 = .ok (.aload_n 0, 1) := by decide +kernel
theorem dX0_init_117 : decode cX0_init 117 = .ok (.bipush 10, 2) := by decide +kernel
theorem dX0_init_119 : decode cX0_init 119 = .ok (.newarray .int, 2) := by decide +kernel
theorem dX0_init_121 : decode cX0_init 121 = .ok (.putfield 56, 3) := by decide +kernel
theorem dX0_init_124 : decode cX0_init 124 = .ok (.aload_n 0, 1) := by decide +kernel
theorem dX0_init_125 : decode cX0_init 125 = .ok (.bipush 10, 2) := by decide +kernel
theorem dX0_init_127 : decode cX0_init 127 = .ok (.newarray .int, 2) := by decide +kernel
theorem dX0_init_129 : decode cX0_init 129 = .ok (.putfield 59, 3) := by decide +kernel
theorem dX0_init_132 : decode cX0_init 132 = .ok (.aload_n 0, 1) := by decide +kernel
theorem dX0_init_133 : decode cX0_init 133 = .ok (.bipush 10, 2) := by decide +kernel
theorem dX0_init_135 : decode cX0_init 135 = .ok (.newarray .int, 2) := by decide +kernel
theorem dX0_init_137 : decode cX0_init 137 = .ok (.putfield 62, 3) := by decide +kernel
theorem dX0_init_140 : decode cX0_init 140 = .ok (.aload_n 0, 1) := by decide +kernel
theorem dX0_init_141 : decode cX0_init 141 = .ok (.bipush 10, 2) := by decide +kernel
theorem dX0_init_143 : decode cX0_init 143 = .ok (.newarray .int, 2) := by decide +kernel
theorem dX0_init_145 : decode cX0_init 145 = .ok (.putfield 65, 3) := by decide +kernel
theorem dX0_init_148 : decode cX0_init 148 = .ok (.aload_n 0, 1) := by decide +kernel
theorem dX0_init_149 : decode cX0_init 149 = .ok (.bipush 10, 2) := by decide +kernel
theorem dX0_init_151 : decode cX0_init 151 = .ok (.newarray .int, 2) := by decide +kernel
theorem dX0_init_153 : decode cX0_init 153 = .ok (.putfield 68, 3) := by decide +kernel
theorem dX0_init_156 : decode cX0_init 156 = .ok (.aload_n 0, 1) := by decide +kernel
theorem dX0_init_157 : decode cX0_init 157 = .ok (.bipush 10, 2) := by decide +kernel
theorem dX0_init_159 : decode cX0_init 159 = .ok (.newarray .int, 2) := by decide +kernel
theorem dX0_init_161 : decode cX0_init 161 = .ok (.putfield 71, 3) := by decide +kernel
theorem dX0_init_164 : decode cX0_init 164 = .ok (.iconst 0, 1) := by decide +kernel
theorem dX0_init_165 : decode cX0_init 165 = .ok (.istore_n 1, 1) := by decide +kernel
theorem dX0_init_166 : decode cX0_init 166 = .ok (.iload_n 1, 1) := by decide +kernel
theorem dX0_init_167 : decode cX0_init 167 = .ok (.bipush 10, 2) := by decide +kernel
theorem dX0_init_169 : decode cX0_init 169 = .ok (.if_icmp .ge 39, 3) := by decide +kernel
theorem dX0_init_172 : decode cX0_init 172 = .ok (.aload_n 0, 1) := by decide +kernel
theorem dX0_init_173 : decode cX0_init 173 = .ok (.iload_n 1, 1) := by decide +kernel
theorem dX0_init_174 : decode cX0_init 174 = .ok (.invokevirtual 74, 3) := by decide +kernel
theorem dX0_init_177 : decode cX0_init 177 = .ok (.aload_n 0, 1) := by decide +kernel
theorem dX0_init_178 : decode cX0_init 178 = .ok (.iload_n 1, 1) := by decide +kernel
theorem dX0_init_179 : decode cX0_init 179 = .ok (.invokevirtual 78, 3) := by decide +kernel
theorem dX0_init_182 : decode cX0_init 182 = .ok (.iconst 0, 1) := by decide +kernel
theorem dX0_init_183 : decode cX0_init 183 = .ok (.istore_n 2, 1) := by decide +kernel
theorem dX0_init_184 : decode cX0_init 184 = .ok (.iload_n 2, 1) := by decide +kernel
theorem dX0_init_185 : decode cX0_init 185 = .ok (.bipush 10, 2) := by decide +kernel
theorem dX0_init_187 : decode cX0_init 187 = .ok (.if_icmp .ge 15, 3) := by decide +kernel
theorem dX0_init_190 : decode cX0_init 190 = .ok (.aload_n 0, 1) := by decide +kernel
theorem dX0_init_191 : decode cX0_init 191 = .ok (.iload_n 1, 1) := by decide +kernel
theorem dX0_init_192 : decode cX0_init 192 = .ok (.iload_n 2, 1) := by decide +kernel
theorem dX0_init_193 : decode cX0_init 193 = .ok (.invokevirtual 81, 3) := by decide +kernel
theorem dX0_init_196 : decode cX0_init 196 = .ok (.iinc 2 1, 3) := by decide +kernel
theorem dX0_init_199 : decode cX0_init 199 = .ok (.goto (-15), 3) := by decide +kernel
theorem dX0_init_202 : decode cX0_init 202 = .ok (.iinc 1 1, 3) := by decide +kernel
theorem dX0_init_205 : decode cX0_init 205 = .ok (.goto (-39), 3) := by decide +kernel
theorem dX0_init_208 : decode cX0_init 208 = .ok (.return_, 1) := by decide +kernel
set_option maxRecDepth 20000 in
theorem ggX0_setRules_X0_requireRange : GoodIn wsX0_setRules wsX0_requireRange := goodIn_ca (goodIn_r _ [8, 9, 10] (by decide +kernel) (by decide +kernel)) (goodIn_sub (fun _ h => List.mem_cons_of_mem _ (List.mem_append_right _ h)) (by decide +kernel))
set_option maxRecDepth 20000 in
theorem gX0_setRules_X0_requireRange : GoodIn wsX0_setRules (va_wsS RX0 85 yX0_requireRange wsX0_requireRange) := goodIn_app (goodIn_of _ (by decide +kernel)) ggX0_setRules_X0_requireRange
theorem dX0_setRules_0 : decode cX0_setRules 0 = .ok (.iload_n 1, 1) := by decide +kernel
theorem dX0_setRules_1 : decode cX0_setRules 1 = .ok (.iconst 0, 1) := by decide +kernel
theorem dX0_setRules_2 : decode cX0_setRules 2 = .ok (.bipush 100, 2) := by decide +kernel
theorem dX0_setRules_4 : decode cX0_setRules 4 = .ok (.invokestatic 85, 3) := by decide +kernel
theorem dX0_setRules_7 : decode cX0_setRules 7 = .ok (.iload_n 2, 1) := by decide +kernel
theorem dX0_setRules_8 : decode cX0_setRules 8 = .ok (.iconst 0, 1) := by decide +kernel
theorem dX0_setRules_9 : decode cX0_setRules 9 = .ok (.sipush 10000, 3) := by decide +kernel
theorem dX0_setRules_12 : decode cX0_setRules 12 = .ok (.invokestatic 85, 3) := by decide +kernel
theorem dX0_setRules_15 : decode cX0_setRules 15 = .ok (.iload_n 3, 1) := by decide +kernel
theorem dX0_setRules_16 : decode cX0_setRules 16 = .ok (.iconst 1, 1) := by decide +kernel
theorem dX0_setRules_17 : decode cX0_setRules 17 = .ok (.bipush 8, 2) := by decide +kernel
theorem dX0_setRules_19 : decode cX0_setRules 19 = .ok (.invokestatic 85, 3) := by decide +kernel
theorem dX0_setRules_22 : decode cX0_setRules 22 = .ok (.iload 4, 2) := by decide +kernel
theorem dX0_setRules_24 : decode cX0_setRules 24 = .ok (.iconst 0, 1) := by decide +kernel
theorem dX0_setRules_25 : decode cX0_setRules 25 = .ok (.bipush 6, 2) := by decide +kernel
theorem dX0_setRules_27 : decode cX0_setRules 27 = .ok (.invokestatic 85, 3) := by decide +kernel
theorem dX0_setRules_30 : decode cX0_setRules 30 = .ok (.aload_n 0, 1) := by decide +kernel
theorem dX0_setRules_31 : decode cX0_setRules 31 = .ok (.iload_n 1, 1) := by decide +kernel
theorem dX0_setRules_32 : decode cX0_setRules 32 = .ok (.putfield 9, 3) := by decide +kernel
theorem dX0_setRules_35 : decode cX0_setRules 35 = .ok (.aload_n 0, 1) := by decide +kernel
theorem dX0_setRules_36 : decode cX0_setRules 36 = .ok (.iload_n 2, 1) := by decide +kernel
theorem dX0_setRules_37 : decode cX0_setRules 37 = .ok (.putfield 13, 3) := by decide +kernel
theorem dX0_setRules_40 : decode cX0_setRules 40 = .ok (.aload_n 0, 1) := by decide +kernel
theorem dX0_setRules_41 : decode cX0_setRules 41 = .ok (.iload_n 3, 1) := by decide +kernel
theorem dX0_setRules_42 : decode cX0_setRules 42 = .ok (.putfield 16, 3) := by decide +kernel
theorem dX0_setRules_45 : decode cX0_setRules 45 = .ok (.aload_n 0, 1) := by decide +kernel
theorem dX0_setRules_46 : decode cX0_setRules 46 = .ok (.iload 4, 2) := by decide +kernel
theorem dX0_setRules_48 : decode cX0_setRules 48 = .ok (.putfield 19, 3) := by decide +kernel
theorem dX0_setRules_51 : decode cX0_setRules 51 = .ok (.return_, 1) := by decide +kernel
set_option maxRecDepth 20000 in
theorem ggX0_link_X0_requireNode : GoodIn wsX0_link wsX0_requireNode := goodIn_ca (goodIn_r _ [7, 8, 9, 10, 11, 6, 12] (by decide +kernel) (by decide +kernel)) (goodIn_sub (fun _ h => List.mem_cons_of_mem _ (List.mem_append_right _ h)) (by decide +kernel))
set_option maxRecDepth 20000 in
theorem gX0_link_X0_requireNode : GoodIn wsX0_link (va_wsS RX0 89 yX0_requireNode wsX0_requireNode) := goodIn_app (goodIn_of _ (by decide +kernel)) ggX0_link_X0_requireNode
set_option maxRecDepth 20000 in
theorem ggX0_link_X0_requireRange : GoodIn wsX0_link wsX0_requireRange := goodIn_ca (goodIn_r _ [15, 1, 2] (by decide +kernel) (by decide +kernel)) (goodIn_sub (fun _ h => List.mem_cons_of_mem _ (List.mem_append_left _ (List.mem_append_right _ h))) (by decide +kernel))
set_option maxRecDepth 20000 in
theorem gX0_link_X0_requireRange : GoodIn wsX0_link (va_wsS RX0 85 yX0_requireRange wsX0_requireRange) := goodIn_app (goodIn_of _ (by decide +kernel)) ggX0_link_X0_requireRange
set_option maxRecDepth 20000 in
theorem ggX0_link_X0_forget : GoodIn wsX0_link wsX0_forget := goodIn_r _ [19, 20, 21, 22, 83, 84, 85, 86, 87, 88, 89, 90, 91, 92, 93, 94, 95, 96, 97, 98, 99, 100, 101, 102] (by decide +kernel) (by decide +kernel)
set_option maxRecDepth 20000 in
theorem gX0_link_X0_forget : GoodIn wsX0_link (wsV RX0 81 RX0 yX0_forget wsX0_forget) := goodIn_app (goodIn_of _ (by decide +kernel)) ggX0_link_X0_forget
set_option maxRecDepth 20000 in
theorem ggX0_link_X0_choose : GoodIn wsX0_link wsX0_choose := goodIn_r _ [26, 27, 28, 29, 30, 31, 6, 32, 33, 34, 35, 36, 22, 3, 37, 38, 39, 40, 41, 42, 43, 44, 20, 21, 45, 46, 47, 48, 49, 50, 51, 52, 53, 54, 55, 56, 57, 10, 11, 12, 58, 59, 60, 61, 62, 63, 64, 65, 66, 67, 68, 69, 70, 71, 72, 73, 74, 75, 76, 77, 78, 79, 80, 81, 82, 83, 84, 85, 86, 87, 88, 89, 90, 91, 92, 93, 94, 95, 96, 97, 98, 99, 100, 101, 102] (by decide +kernel) (by decide +kernel)
set_option maxRecDepth 20000 in
theorem gX0_link_X0_choose : GoodIn wsX0_link (wsV RX0 99 RX0 yX0_choose wsX0_choose) := goodIn_app (goodIn_of _ (by decide +kernel)) ggX0_link_X0_choose
theorem dX0_link_0 : decode cX0_link 0 = .ok (.iload_n 1, 1) := by decide +kernel
theorem dX0_link_1 : decode cX0_link 1 = .ok (.invokestatic 89, 3) := by decide +kernel
theorem dX0_link_4 : decode cX0_link 4 = .ok (.iload_n 2, 1) := by decide +kernel
theorem dX0_link_5 : decode cX0_link 5 = .ok (.invokestatic 89, 3) := by decide +kernel
theorem dX0_link_8 : decode cX0_link 8 = .ok (.iload_n 1, 1) := by decide +kernel
theorem dX0_link_9 : decode cX0_link 9 = .ok (.iload_n 2, 1) := by decide +kernel
theorem dX0_link_10 : decode cX0_link 10 = .ok (.if_icmp .ne 13, 3) := by decide +kernel
theorem dX0_link_13 : decode cX0_link 13 = .ok (.new 92, 3) := by decide +kernel
theorem dX0_link_16 : decode cX0_link 16 = .ok (.dup, 1) := by decide +kernel
theorem dX0_link_17 : decode cX0_link 17 = .ok (.ldc 94, 2) := by decide +kernel
theorem dX0_link_19 : decode cX0_link 19 = .ok (.invokespecial 96, 3) := by decide +kernel
theorem dX0_link_22 : decode cX0_link 22 = .ok (.athrow, 1) := by decide +kernel
theorem dX0_link_23 : decode cX0_link 23 = .ok (.iload_n 3, 1) := by decide +kernel
theorem dX0_link_24 : decode cX0_link 24 = .ok (.iconst 0, 1) := by decide +kernel
theorem dX0_link_25 : decode cX0_link 25 = .ok (.bipush 100, 2) := by decide +kernel
theorem dX0_link_27 : decode cX0_link 27 = .ok (.invokestatic 85, 3) := by decide +kernel
theorem dX0_link_30 : decode cX0_link 30 = .ok (.aload_n 0, 1) := by decide +kernel
theorem dX0_link_31 : decode cX0_link 31 = .ok (.getfield 30, 3) := by decide +kernel
theorem dX0_link_34 : decode cX0_link 34 = .ok (.iload_n 1, 1) := by decide +kernel
theorem dX0_link_35 : decode cX0_link 35 = .ok (.aaload, 1) := by decide +kernel
theorem dX0_link_36 : decode cX0_link 36 = .ok (.iload_n 2, 1) := by decide +kernel
theorem dX0_link_37 : decode cX0_link 37 = .ok (.iaload, 1) := by decide +kernel
theorem dX0_link_38 : decode cX0_link 38 = .ok (.istore 4, 2) := by decide +kernel
theorem dX0_link_40 : decode cX0_link 40 = .ok (.aload_n 0, 1) := by decide +kernel
theorem dX0_link_41 : decode cX0_link 41 = .ok (.getfield 30, 3) := by decide +kernel
theorem dX0_link_44 : decode cX0_link 44 = .ok (.iload_n 1, 1) := by decide +kernel
theorem dX0_link_45 : decode cX0_link 45 = .ok (.aaload, 1) := by decide +kernel
theorem dX0_link_46 : decode cX0_link 46 = .ok (.iload_n 2, 1) := by decide +kernel
theorem dX0_link_47 : decode cX0_link 47 = .ok (.iload_n 3, 1) := by decide +kernel
theorem dX0_link_48 : decode cX0_link 48 = .ok (.iastore, 1) := by decide +kernel
theorem dX0_link_49 : decode cX0_link 49 = .ok (.aload_n 0, 1) := by decide +kernel
theorem dX0_link_50 : decode cX0_link 50 = .ok (.getfield 30, 3) := by decide +kernel
theorem dX0_link_53 : decode cX0_link 53 = .ok (.iload_n 2, 1) := by decide +kernel
theorem dX0_link_54 : decode cX0_link 54 = .ok (.aaload, 1) := by decide +kernel
theorem dX0_link_55 : decode cX0_link 55 = .ok (.iload_n 1, 1) := by decide +kernel
theorem dX0_link_56 : decode cX0_link 56 = .ok (.iload_n 3, 1) := by decide +kernel
theorem dX0_link_57 : decode cX0_link 57 = .ok (.iastore, 1) := by decide +kernel
theorem dX0_link_58 : decode cX0_link 58 = .ok (.iload_n 3, 1) := by decide +kernel
theorem dX0_link_59 : decode cX0_link 59 = .ok (.ifCond .ne 15, 3) := by decide +kernel
theorem dX0_link_62 : decode cX0_link 62 = .ok (.aload_n 0, 1) := by decide +kernel
theorem dX0_link_63 : decode cX0_link 63 = .ok (.iload_n 1, 1) := by decide +kernel
theorem dX0_link_64 : decode cX0_link 64 = .ok (.iload_n 2, 1) := by decide +kernel
theorem dX0_link_65 : decode cX0_link 65 = .ok (.invokevirtual 81, 3) := by decide +kernel
theorem dX0_link_68 : decode cX0_link 68 = .ok (.aload_n 0, 1) := by decide +kernel
theorem dX0_link_69 : decode cX0_link 69 = .ok (.iload_n 2, 1) := by decide +kernel
theorem dX0_link_70 : decode cX0_link 70 = .ok (.iload_n 1, 1) := by decide +kernel
theorem dX0_link_71 : decode cX0_link 71 = .ok (.invokevirtual 81, 3) := by decide +kernel
theorem dX0_link_74 : decode cX0_link 74 = .ok (.aload_n 0, 1) := by decide +kernel
theorem dX0_link_75 : decode cX0_link 75 = .ok (.iload_n 1, 1) := by decide +kernel
theorem dX0_link_76 : decode cX0_link 76 = .ok (.invokevirtual 99, 3) := by decide +kernel
theorem dX0_link_79 : decode cX0_link 79 = .ok (.aload_n 0, 1) := by decide +kernel
theorem dX0_link_80 : decode cX0_link 80 = .ok (.iload_n 2, 1) := by decide +kernel
theorem dX0_link_81 : decode cX0_link 81 = .ok (.invokevirtual 99, 3) := by decide +kernel
theorem dX0_link_84 : decode cX0_link 84 = .ok (.iload 4, 2) := by decide +kernel
theorem dX0_link_86 : decode cX0_link 86 = .ok (.ireturn, 1) := by decide +kernel
set_option maxRecDepth 20000 in
theorem ggX0_makeRoot_X0_requireNode : GoodIn wsX0_makeRoot wsX0_requireNode := goodIn_ca (goodIn_r _ [11, 12, 13, 14, 15, 10, 16] (by decide +kernel) (by decide +kernel)) (goodIn_sub (fun _ h => List.mem_cons_of_mem _ (List.mem_append_right _ h)) (by decide +kernel))
set_option maxRecDepth 20000 in
theorem gX0_makeRoot_X0_requireNode : GoodIn wsX0_makeRoot (va_wsS RX0 89 yX0_requireNode wsX0_requireNode) := goodIn_app (goodIn_of _ (by decide +kernel)) ggX0_makeRoot_X0_requireNode
set_option maxRecDepth 20000 in
theorem ggX0_makeRoot_X0_beginVersion : GoodIn wsX0_makeRoot wsX0_beginVersion := goodIn_r _ [20, 21, 22, 23, 24, 25, 10, 26, 27, 28, 29, 30, 31, 32, 33, 34, 35, 36, 37, 38, 39, 40, 41, 42, 43, 44, 45, 46, 47, 48, 49, 50] (by decide +kernel) (by decide +kernel)
set_option maxRecDepth 20000 in
theorem gX0_makeRoot_X0_beginVersion : GoodIn wsX0_makeRoot (wsV RX0 107 RX0 yX0_beginVersion wsX0_beginVersion) := goodIn_app (goodIn_of _ (by decide +kernel)) ggX0_makeRoot_X0_beginVersion
theorem dX0_makeRoot_0 : decode cX0_makeRoot 0 = .ok (.iload_n 1, 1) := by decide +kernel
theorem dX0_makeRoot_1 : decode cX0_makeRoot 1 = .ok (.invokestatic 89, 3) := by decide +kernel
theorem dX0_makeRoot_4 : decode cX0_makeRoot 4 = .ok (.aload_n 0, 1) := by decide +kernel
theorem dX0_makeRoot_5 : decode cX0_makeRoot 5 = .ok (.getfield 42, 3) := by decide +kernel
theorem dX0_makeRoot_8 : decode cX0_makeRoot 8 = .ok (.iload_n 1, 1) := by decide +kernel
theorem dX0_makeRoot_9 : decode cX0_makeRoot 9 = .ok (.baload, 1) := by decide +kernel
theorem dX0_makeRoot_10 : decode cX0_makeRoot 10 = .ok (.ifCond .eq 13, 3) := by decide +kernel
theorem dX0_makeRoot_13 : decode cX0_makeRoot 13 = .ok (.new 102, 3) := by decide +kernel
theorem dX0_makeRoot_16 : decode cX0_makeRoot 16 = .ok (.dup, 1) := by decide +kernel
theorem dX0_makeRoot_17 : decode cX0_makeRoot 17 = .ok (.ldc 104, 2) := by decide +kernel
theorem dX0_makeRoot_19 : decode cX0_makeRoot 19 = .ok (.invokespecial 106, 3) := by decide +kernel
theorem dX0_makeRoot_22 : decode cX0_makeRoot 22 = .ok (.athrow, 1) := by decide +kernel
theorem dX0_makeRoot_23 : decode cX0_makeRoot 23 = .ok (.aload_n 0, 1) := by decide +kernel
theorem dX0_makeRoot_24 : decode cX0_makeRoot 24 = .ok (.getfield 42, 3) := by decide +kernel
theorem dX0_makeRoot_27 : decode cX0_makeRoot 27 = .ok (.iload_n 1, 1) := by decide +kernel
theorem dX0_makeRoot_28 : decode cX0_makeRoot 28 = .ok (.iconst 1, 1) := by decide +kernel
theorem dX0_makeRoot_29 : decode cX0_makeRoot 29 = .ok (.bastore, 1) := by decide +kernel
theorem dX0_makeRoot_30 : decode cX0_makeRoot 30 = .ok (.aload_n 0, 1) := by decide +kernel
theorem dX0_makeRoot_31 : decode cX0_makeRoot 31 = .ok (.getfield 50, 3) := by decide +kernel
theorem dX0_makeRoot_34 : decode cX0_makeRoot 34 = .ok (.iload_n 1, 1) := by decide +kernel
theorem dX0_makeRoot_35 : decode cX0_makeRoot 35 = .ok (.iload_n 1, 1) := by decide +kernel
theorem dX0_makeRoot_36 : decode cX0_makeRoot 36 = .ok (.iastore, 1) := by decide +kernel
theorem dX0_makeRoot_37 : decode cX0_makeRoot 37 = .ok (.aload_n 0, 1) := by decide +kernel
theorem dX0_makeRoot_38 : decode cX0_makeRoot 38 = .ok (.getfield 56, 3) := by decide +kernel
theorem dX0_makeRoot_41 : decode cX0_makeRoot 41 = .ok (.iload_n 1, 1) := by decide +kernel
theorem dX0_makeRoot_42 : decode cX0_makeRoot 42 = .ok (.iconst 0, 1) := by decide +kernel
theorem dX0_makeRoot_43 : decode cX0_makeRoot 43 = .ok (.iastore, 1) := by decide +kernel
theorem dX0_makeRoot_44 : decode cX0_makeRoot 44 = .ok (.aload_n 0, 1) := by decide +kernel
theorem dX0_makeRoot_45 : decode cX0_makeRoot 45 = .ok (.getfield 59, 3) := by decide +kernel
theorem dX0_makeRoot_48 : decode cX0_makeRoot 48 = .ok (.iload_n 1, 1) := by decide +kernel
theorem dX0_makeRoot_49 : decode cX0_makeRoot 49 = .ok (.iconst 0, 1) := by decide +kernel
theorem dX0_makeRoot_50 : decode cX0_makeRoot 50 = .ok (.iastore, 1) := by decide +kernel
theorem dX0_makeRoot_51 : decode cX0_makeRoot 51 = .ok (.aload_n 0, 1) := by decide +kernel
theorem dX0_makeRoot_52 : decode cX0_makeRoot 52 = .ok (.getfield 62, 3) := by decide +kernel
theorem dX0_makeRoot_55 : decode cX0_makeRoot 55 = .ok (.iload_n 1, 1) := by decide +kernel
theorem dX0_makeRoot_56 : decode cX0_makeRoot 56 = .ok (.iconst (-1), 1) := by decide +kernel
theorem dX0_makeRoot_57 : decode cX0_makeRoot 57 = .ok (.iastore, 1) := by decide +kernel
theorem dX0_makeRoot_58 : decode cX0_makeRoot 58 = .ok (.aload_n 0, 1) := by decide +kernel
theorem dX0_makeRoot_59 : decode cX0_makeRoot 59 = .ok (.iload_n 1, 1) := by decide +kernel
theorem dX0_makeRoot_60 : decode cX0_makeRoot 60 = .ok (.invokevirtual 107, 3) := by decide +kernel
theorem dX0_makeRoot_63 : decode cX0_makeRoot 63 = .ok (.ireturn, 1) := by decide +kernel
set_option maxRecDepth 20000 in
theorem ggX0_endRoot_X0_requireRoot : GoodIn wsX0_endRoot wsX0_requireRoot := goodIn_ca (goodIn_ca (goodIn_r _ [6, 7, 8, 1, 9, 10, 5, 11, 12, 13, 14, 15, 16, 84, 85, 86, 87, 88, 89, 90, 91, 92, 93, 94, 95, 96, 97, 98, 99, 100, 101, 102, 103] (by decide +kernel) (by decide +kernel)) (goodIn_sub (fun _ h => List.mem_cons_of_mem _ (List.mem_append_left _ (List.mem_append_right _ h))) (by decide +kernel))) (goodIn_sub (fun _ h => List.mem_cons_of_mem _ (List.mem_append_right _ h)) (by decide +kernel))
set_option maxRecDepth 20000 in
theorem gX0_endRoot_X0_requireRoot : GoodIn wsX0_endRoot (wsV RX0 111 RX0 yX0_requireRoot wsX0_requireRoot) := goodIn_app (goodIn_of _ (by decide +kernel)) ggX0_endRoot_X0_requireRoot
set_option maxRecDepth 20000 in
theorem ggX0_endRoot_X0_clearNode : GoodIn wsX0_endRoot wsX0_clearNode := goodIn_r _ [20, 21, 22, 23, 24, 25, 84, 85, 86, 87, 88, 89, 90, 91, 92, 93, 94, 95, 96, 97, 98, 99, 100, 101, 102, 103] (by decide +kernel) (by decide +kernel)
set_option maxRecDepth 20000 in
theorem gX0_endRoot_X0_clearNode : GoodIn wsX0_endRoot (wsV RX0 74 RX0 yX0_clearNode wsX0_clearNode) := goodIn_app (goodIn_of _ (by decide +kernel)) ggX0_endRoot_X0_clearNode
set_option maxRecDepth 20000 in
theorem ggX0_endRoot_X0_resetTimer : GoodIn wsX0_endRoot wsX0_resetTimer := goodIn_r _ [29, 30, 31, 32, 33, 84, 85, 86, 87, 88, 89, 90, 91, 92, 93, 94, 95, 96, 97, 98, 99, 100, 101, 102, 103] (by decide +kernel) (by decide +kernel)
set_option maxRecDepth 20000 in
theorem gX0_endRoot_X0_resetTimer : GoodIn wsX0_endRoot (wsV RX0 78 RX0 yX0_resetTimer wsX0_resetTimer) := goodIn_app (goodIn_of _ (by decide +kernel)) ggX0_endRoot_X0_resetTimer
set_option maxRecDepth 20000 in
theorem ggX0_endRoot_X0_choose : GoodIn wsX0_endRoot wsX0_choose := goodIn_r _ [37, 1, 25, 38, 39, 40, 5, 41, 42, 43, 44, 45, 46, 47, 48, 49, 50, 51, 52, 53, 54, 55, 56, 57, 21, 22, 58, 59, 60, 61, 23, 24, 62, 63, 64, 65, 66, 14, 15, 16, 67, 68, 69, 70, 26, 27, 28, 29, 30, 31, 32, 33, 71, 72, 73, 74, 75, 76, 77, 78, 79, 80, 81, 82, 83, 84, 85, 86, 87, 88, 89, 90, 91, 92, 93, 94, 95, 96, 97, 98, 99, 100, 101, 102, 103] (by decide +kernel) (by decide +kernel)
set_option maxRecDepth 20000 in
theorem gX0_endRoot_X0_choose : GoodIn wsX0_endRoot (wsV RX0 99 RX0 yX0_choose wsX0_choose) := goodIn_app (goodIn_of _ (by decide +kernel)) ggX0_endRoot_X0_choose
theorem dX0_endRoot_0 : decode cX0_endRoot 0 = .ok (.aload_n 0, 1) := by decide +kernel
theorem dX0_endRoot_1 : decode cX0_endRoot 1 = .ok (.iload_n 1, 1) := by decide +kernel
theorem dX0_endRoot_2 : decode cX0_endRoot 2 = .ok (.invokevirtual 111, 3) := by decide +kernel
theorem dX0_endRoot_5 : decode cX0_endRoot 5 = .ok (.aload_n 0, 1) := by decide +kernel
theorem dX0_endRoot_6 : decode cX0_endRoot 6 = .ok (.getfield 42, 3) := by decide +kernel
theorem dX0_endRoot_9 : decode cX0_endRoot 9 = .ok (.iload_n 1, 1) := by decide +kernel
theorem dX0_endRoot_10 : decode cX0_endRoot 10 = .ok (.iconst 0, 1) := by decide +kernel
theorem dX0_endRoot_11 : decode cX0_endRoot 11 = .ok (.bastore, 1) := by decide +kernel
theorem dX0_endRoot_12 : decode cX0_endRoot 12 = .ok (.aload_n 0, 1) := by decide +kernel
theorem dX0_endRoot_13 : decode cX0_endRoot 13 = .ok (.iload_n 1, 1) := by decide +kernel
theorem dX0_endRoot_14 : decode cX0_endRoot 14 = .ok (.invokevirtual 74, 3) := by decide +kernel
theorem dX0_endRoot_17 : decode cX0_endRoot 17 = .ok (.aload_n 0, 1) := by decide +kernel
theorem dX0_endRoot_18 : decode cX0_endRoot 18 = .ok (.iload_n 1, 1) := by decide +kernel
theorem dX0_endRoot_19 : decode cX0_endRoot 19 = .ok (.invokevirtual 78, 3) := by decide +kernel
theorem dX0_endRoot_22 : decode cX0_endRoot 22 = .ok (.aload_n 0, 1) := by decide +kernel
theorem dX0_endRoot_23 : decode cX0_endRoot 23 = .ok (.iload_n 1, 1) := by decide +kernel
theorem dX0_endRoot_24 : decode cX0_endRoot 24 = .ok (.invokevirtual 99, 3) := by decide +kernel
theorem dX0_endRoot_27 : decode cX0_endRoot 27 = .ok (.return_, 1) := by decide +kernel
set_option maxRecDepth 20000 in
theorem ggX0_renew_X0_requireRoot : GoodIn wsX0_renew wsX0_requireRoot := goodIn_ca (goodIn_ca (goodIn_r _ [5, 6, 7, 8, 9, 10, 4, 11, 12, 13, 14, 15, 16, 31, 32, 33, 34, 35, 36, 37, 38, 39, 40, 41, 42, 43, 44, 45, 46, 47, 48, 49, 50] (by decide +kernel) (by decide +kernel)) (goodIn_sub (fun _ h => List.mem_cons_of_mem _ (List.mem_append_left _ (List.mem_append_right _ h))) (by decide +kernel))) (goodIn_sub (fun _ h => List.mem_cons_of_mem _ (List.mem_append_right _ h)) (by decide +kernel))
set_option maxRecDepth 20000 in
theorem gX0_renew_X0_requireRoot : GoodIn wsX0_renew (wsV RX0 111 RX0 yX0_requireRoot wsX0_requireRoot) := goodIn_app (goodIn_of _ (by decide +kernel)) ggX0_renew_X0_requireRoot
set_option maxRecDepth 20000 in
theorem ggX0_renew_X0_beginVersion : GoodIn wsX0_renew wsX0_beginVersion := goodIn_r _ [20, 21, 22, 23, 24, 25, 4, 26, 27, 28, 29, 30, 31, 32, 33, 34, 35, 36, 37, 38, 39, 40, 41, 42, 43, 44, 45, 46, 47, 48, 49, 50] (by decide +kernel) (by decide +kernel)
set_option maxRecDepth 20000 in
theorem gX0_renew_X0_beginVersion : GoodIn wsX0_renew (wsV RX0 107 RX0 yX0_beginVersion wsX0_beginVersion) := goodIn_app (goodIn_of _ (by decide +kernel)) ggX0_renew_X0_beginVersion
theorem dX0_renew_0 : decode cX0_renew 0 = .ok (.aload_n 0, 1) := by decide +kernel
theorem dX0_renew_1 : decode cX0_renew 1 = .ok (.iload_n 1, 1) := by decide +kernel
theorem dX0_renew_2 : decode cX0_renew 2 = .ok (.invokevirtual 111, 3) := by decide +kernel
theorem dX0_renew_5 : decode cX0_renew 5 = .ok (.aload_n 0, 1) := by decide +kernel
theorem dX0_renew_6 : decode cX0_renew 6 = .ok (.iload_n 1, 1) := by decide +kernel
theorem dX0_renew_7 : decode cX0_renew 7 = .ok (.invokevirtual 107, 3) := by decide +kernel
theorem dX0_renew_10 : decode cX0_renew 10 = .ok (.ireturn, 1) := by decide +kernel
set_option maxRecDepth 20000 in
theorem ggX0_pass_X0_requireRange : GoodIn wsX0_pass wsX0_requireRange := goodIn_ca (goodIn_r _ [4, 5, 6] (by decide +kernel) (by decide +kernel)) (goodIn_sub (fun _ h => List.mem_cons_of_mem _ (List.mem_append_right _ h)) (by decide +kernel))
set_option maxRecDepth 20000 in
theorem gX0_pass_X0_requireRange : GoodIn wsX0_pass (va_wsS RX0 85 yX0_requireRange wsX0_requireRange) := goodIn_app (goodIn_of _ (by decide +kernel)) ggX0_pass_X0_requireRange
set_option maxRecDepth 20000 in
theorem ggX0_pass_X0_passTick : GoodIn wsX0_pass wsX0_passTick := goodIn_r _ [10, 11, 12, 13, 14, 15, 3, 16, 17, 18, 19, 20, 21, 22, 23, 24, 25, 26, 27, 28, 29, 30, 31, 32, 33, 34, 35, 36, 37, 38, 39, 40, 41, 42, 43, 44, 45, 46, 47, 48, 49, 50, 51, 52, 53, 54, 55, 56, 57, 58, 59, 60, 61, 62, 63, 64, 65, 66, 67, 68, 69, 70, 71, 72, 73, 74, 75, 76, 77, 78, 79, 80, 81, 82, 83, 84, 85, 86, 87, 88, 89, 90, 91, 92, 93, 94, 95, 96, 97, 98, 99, 100, 101, 102, 103, 104, 105, 106] (by decide +kernel) (by decide +kernel)
set_option maxRecDepth 20000 in
theorem gX0_pass_X0_passTick : GoodIn wsX0_pass (wsV RX0 114 RX0 yX0_passTick wsX0_passTick) := goodIn_app (goodIn_of _ (by decide +kernel)) ggX0_pass_X0_passTick
theorem dX0_pass_0 : decode cX0_pass 0 = .ok (.iload_n 1, 1) := by decide +kernel
theorem dX0_pass_1 : decode cX0_pass 1 = .ok (.iconst 1, 1) := by decide +kernel
theorem dX0_pass_2 : decode cX0_pass 2 = .ok (.bipush 100, 2) := by decide +kernel
theorem dX0_pass_4 : decode cX0_pass 4 = .ok (.invokestatic 85, 3) := by decide +kernel
theorem dX0_pass_7 : decode cX0_pass 7 = .ok (.iconst 0, 1) := by decide +kernel
theorem dX0_pass_8 : decode cX0_pass 8 = .ok (.istore_n 2, 1) := by decide +kernel
theorem dX0_pass_9 : decode cX0_pass 9 = .ok (.iconst 0, 1) := by decide +kernel
theorem dX0_pass_10 : decode cX0_pass 10 = .ok (.istore_n 3, 1) := by decide +kernel
theorem dX0_pass_11 : decode cX0_pass 11 = .ok (.iload_n 3, 1) := by decide +kernel
theorem dX0_pass_12 : decode cX0_pass 12 = .ok (.iload_n 1, 1) := by decide +kernel
theorem dX0_pass_13 : decode cX0_pass 13 = .ok (.if_icmp .ge 16, 3) := by decide +kernel
theorem dX0_pass_16 : decode cX0_pass 16 = .ok (.iload_n 2, 1) := by decide +kernel
theorem dX0_pass_17 : decode cX0_pass 17 = .ok (.aload_n 0, 1) := by decide +kernel
theorem dX0_pass_18 : decode cX0_pass 18 = .ok (.invokevirtual 114, 3) := by decide +kernel
theorem dX0_pass_21 : decode cX0_pass 21 = .ok (.iadd, 1) := by decide +kernel
theorem dX0_pass_22 : decode cX0_pass 22 = .ok (.istore_n 2, 1) := by decide +kernel
theorem dX0_pass_23 : decode cX0_pass 23 = .ok (.iinc 3 1, 3) := by decide +kernel
theorem dX0_pass_26 : decode cX0_pass 26 = .ok (.goto (-15), 3) := by decide +kernel
theorem dX0_pass_29 : decode cX0_pass 29 = .ok (.iload_n 2, 1) := by decide +kernel
theorem dX0_pass_30 : decode cX0_pass 30 = .ok (.ireturn, 1) := by decide +kernel
theorem dX0_time_0 : decode cX0_time 0 = .ok (.aload_n 0, 1) := by decide +kernel
theorem dX0_time_1 : decode cX0_time 1 = .ok (.getfield 22, 3) := by decide +kernel
theorem dX0_time_4 : decode cX0_time 4 = .ok (.ireturn, 1) := by decide +kernel
set_option maxRecDepth 20000 in
theorem ggX0_rank_X0_requireNode : GoodIn wsX0_rank wsX0_requireNode := goodIn_ca (goodIn_r _ [5, 6, 7, 8, 9, 4, 10] (by decide +kernel) (by decide +kernel)) (goodIn_sub (fun _ h => List.mem_cons_of_mem _ (List.mem_append_right _ h)) (by decide +kernel))
set_option maxRecDepth 20000 in
theorem gX0_rank_X0_requireNode : GoodIn wsX0_rank (va_wsS RX0 89 yX0_requireNode wsX0_requireNode) := goodIn_app (goodIn_of _ (by decide +kernel)) ggX0_rank_X0_requireNode
theorem dX0_rank_0 : decode cX0_rank 0 = .ok (.iload_n 1, 1) := by decide +kernel
theorem dX0_rank_1 : decode cX0_rank 1 = .ok (.invokestatic 89, 3) := by decide +kernel
theorem dX0_rank_4 : decode cX0_rank 4 = .ok (.aload_n 0, 1) := by decide +kernel
theorem dX0_rank_5 : decode cX0_rank 5 = .ok (.getfield 56, 3) := by decide +kernel
theorem dX0_rank_8 : decode cX0_rank 8 = .ok (.iload_n 1, 1) := by decide +kernel
theorem dX0_rank_9 : decode cX0_rank 9 = .ok (.iaload, 1) := by decide +kernel
theorem dX0_rank_10 : decode cX0_rank 10 = .ok (.ireturn, 1) := by decide +kernel
set_option maxRecDepth 20000 in
theorem ggX0_parent_X0_requireNode : GoodIn wsX0_parent wsX0_requireNode := goodIn_ca (goodIn_r _ [5, 6, 7, 8, 9, 4, 10] (by decide +kernel) (by decide +kernel)) (goodIn_sub (fun _ h => List.mem_cons_of_mem _ (List.mem_append_right _ h)) (by decide +kernel))
set_option maxRecDepth 20000 in
theorem gX0_parent_X0_requireNode : GoodIn wsX0_parent (va_wsS RX0 89 yX0_requireNode wsX0_requireNode) := goodIn_app (goodIn_of _ (by decide +kernel)) ggX0_parent_X0_requireNode
theorem dX0_parent_0 : decode cX0_parent 0 = .ok (.iload_n 1, 1) := by decide +kernel
theorem dX0_parent_1 : decode cX0_parent 1 = .ok (.invokestatic 89, 3) := by decide +kernel
theorem dX0_parent_4 : decode cX0_parent 4 = .ok (.aload_n 0, 1) := by decide +kernel
theorem dX0_parent_5 : decode cX0_parent 5 = .ok (.getfield 62, 3) := by decide +kernel
theorem dX0_parent_8 : decode cX0_parent 8 = .ok (.iload_n 1, 1) := by decide +kernel
theorem dX0_parent_9 : decode cX0_parent 9 = .ok (.iaload, 1) := by decide +kernel
theorem dX0_parent_10 : decode cX0_parent 10 = .ok (.ireturn, 1) := by decide +kernel
set_option maxRecDepth 20000 in
theorem ggX0_tree_X0_requireNode : GoodIn wsX0_tree wsX0_requireNode := goodIn_ca (goodIn_r _ [6, 7, 8, 9, 10, 5, 11] (by decide +kernel) (by decide +kernel)) (goodIn_sub (fun _ h => List.mem_cons_of_mem _ (List.mem_append_right _ h)) (by decide +kernel))
set_option maxRecDepth 20000 in
theorem gX0_tree_X0_requireNode : GoodIn wsX0_tree (va_wsS RX0 89 yX0_requireNode wsX0_requireNode) := goodIn_app (goodIn_of _ (by decide +kernel)) ggX0_tree_X0_requireNode
theorem dX0_tree_0 : decode cX0_tree 0 = .ok (.iload_n 1, 1) := by decide +kernel
theorem dX0_tree_1 : decode cX0_tree 1 = .ok (.invokestatic 89, 3) := by decide +kernel
theorem dX0_tree_4 : decode cX0_tree 4 = .ok (.aload_n 0, 1) := by decide +kernel
theorem dX0_tree_5 : decode cX0_tree 5 = .ok (.getfield 50, 3) := by decide +kernel
theorem dX0_tree_8 : decode cX0_tree 8 = .ok (.iload_n 1, 1) := by decide +kernel
theorem dX0_tree_9 : decode cX0_tree 9 = .ok (.iaload, 1) := by decide +kernel
theorem dX0_tree_10 : decode cX0_tree 10 = .ok (.iconst (-1), 1) := by decide +kernel
theorem dX0_tree_11 : decode cX0_tree 11 = .ok (.if_icmp .ne 7, 3) := by decide +kernel
theorem dX0_tree_14 : decode cX0_tree 14 = .ok (.iconst (-1), 1) := by decide +kernel
theorem dX0_tree_15 : decode cX0_tree 15 = .ok (.goto 19, 3) := by decide +kernel
theorem dX0_tree_18 : decode cX0_tree 18 = .ok (.bipush 10, 2) := by decide +kernel
theorem dX0_tree_20 : decode cX0_tree 20 = .ok (.aload_n 0, 1) := by decide +kernel
theorem dX0_tree_21 : decode cX0_tree 21 = .ok (.getfield 53, 3) := by decide +kernel
theorem dX0_tree_24 : decode cX0_tree 24 = .ok (.iload_n 1, 1) := by decide +kernel
theorem dX0_tree_25 : decode cX0_tree 25 = .ok (.iaload, 1) := by decide +kernel
theorem dX0_tree_26 : decode cX0_tree 26 = .ok (.imul, 1) := by decide +kernel
theorem dX0_tree_27 : decode cX0_tree 27 = .ok (.aload_n 0, 1) := by decide +kernel
theorem dX0_tree_28 : decode cX0_tree 28 = .ok (.getfield 50, 3) := by decide +kernel
theorem dX0_tree_31 : decode cX0_tree 31 = .ok (.iload_n 1, 1) := by decide +kernel
theorem dX0_tree_32 : decode cX0_tree 32 = .ok (.iaload, 1) := by decide +kernel
theorem dX0_tree_33 : decode cX0_tree 33 = .ok (.iadd, 1) := by decide +kernel
theorem dX0_tree_34 : decode cX0_tree 34 = .ok (.ireturn, 1) := by decide +kernel
set_option maxRecDepth 20000 in
theorem ggX0_nextTelling_X0_requireNode : GoodIn wsX0_nextTelling wsX0_requireNode := goodIn_ca (goodIn_r _ [5, 6, 7, 8, 9, 4, 10] (by decide +kernel) (by decide +kernel)) (goodIn_sub (fun _ h => List.mem_cons_of_mem _ (List.mem_append_right _ h)) (by decide +kernel))
set_option maxRecDepth 20000 in
theorem gX0_nextTelling_X0_requireNode : GoodIn wsX0_nextTelling (va_wsS RX0 89 yX0_requireNode wsX0_requireNode) := goodIn_app (goodIn_of _ (by decide +kernel)) ggX0_nextTelling_X0_requireNode
theorem dX0_nextTelling_0 : decode cX0_nextTelling 0 = .ok (.iload_n 1, 1) := by decide +kernel
theorem dX0_nextTelling_1 : decode cX0_nextTelling 1 = .ok (.invokestatic 89, 3) := by decide +kernel
theorem dX0_nextTelling_4 : decode cX0_nextTelling 4 = .ok (.aload_n 0, 1) := by decide +kernel
theorem dX0_nextTelling_5 : decode cX0_nextTelling 5 = .ok (.getfield 68, 3) := by decide +kernel
theorem dX0_nextTelling_8 : decode cX0_nextTelling 8 = .ok (.iload_n 1, 1) := by decide +kernel
theorem dX0_nextTelling_9 : decode cX0_nextTelling 9 = .ok (.iaload, 1) := by decide +kernel
theorem dX0_nextTelling_10 : decode cX0_nextTelling 10 = .ok (.ireturn, 1) := by decide +kernel
set_option maxRecDepth 20000 in
theorem ggX0_heard_X0_requireNode : GoodIn wsX0_heard wsX0_requireNode := goodIn_ca (goodIn_r _ [5, 6, 7, 8, 9, 4, 10] (by decide +kernel) (by decide +kernel)) (goodIn_sub (fun _ h => List.mem_cons_of_mem _ (List.mem_append_right _ h)) (by decide +kernel))
set_option maxRecDepth 20000 in
theorem gX0_heard_X0_requireNode : GoodIn wsX0_heard (va_wsS RX0 89 yX0_requireNode wsX0_requireNode) := goodIn_app (goodIn_of _ (by decide +kernel)) ggX0_heard_X0_requireNode
theorem dX0_heard_0 : decode cX0_heard 0 = .ok (.iload_n 1, 1) := by decide +kernel
theorem dX0_heard_1 : decode cX0_heard 1 = .ok (.invokestatic 89, 3) := by decide +kernel
theorem dX0_heard_4 : decode cX0_heard 4 = .ok (.iload_n 2, 1) := by decide +kernel
theorem dX0_heard_5 : decode cX0_heard 5 = .ok (.invokestatic 89, 3) := by decide +kernel
theorem dX0_heard_8 : decode cX0_heard 8 = .ok (.aload_n 0, 1) := by decide +kernel
theorem dX0_heard_9 : decode cX0_heard 9 = .ok (.getfield 39, 3) := by decide +kernel
theorem dX0_heard_12 : decode cX0_heard 12 = .ok (.iload_n 1, 1) := by decide +kernel
theorem dX0_heard_13 : decode cX0_heard 13 = .ok (.aaload, 1) := by decide +kernel
theorem dX0_heard_14 : decode cX0_heard 14 = .ok (.iload_n 2, 1) := by decide +kernel
theorem dX0_heard_15 : decode cX0_heard 15 = .ok (.iaload, 1) := by decide +kernel
theorem dX0_heard_16 : decode cX0_heard 16 = .ok (.ireturn, 1) := by decide +kernel
set_option maxRecDepth 20000 in
theorem ggX0_leastRank_X0_requireNode : GoodIn wsX0_leastRank wsX0_requireNode := goodIn_ca (goodIn_r _ [6, 7, 8, 9, 10, 5, 11] (by decide +kernel) (by decide +kernel)) (goodIn_sub (fun _ h => List.mem_cons_of_mem _ (List.mem_append_right _ h)) (by decide +kernel))
set_option maxRecDepth 20000 in
theorem gX0_leastRank_X0_requireNode : GoodIn wsX0_leastRank (va_wsS RX0 89 yX0_requireNode wsX0_requireNode) := goodIn_app (goodIn_of _ (by decide +kernel)) ggX0_leastRank_X0_requireNode
set_option maxRecDepth 20000 in
theorem ggX0_leastRank_X0_lowerWayCosts : GoodIn wsX0_leastRank wsX0_lowerWayCosts := goodIn_r _ [15, 16, 1, 17, 18, 19, 20, 21, 22, 23, 24, 25, 26, 27, 28, 29, 30, 31, 32, 33, 34, 35, 36, 37, 38, 39, 40] (by decide +kernel) (by decide +kernel)
set_option maxRecDepth 20000 in
theorem gX0_leastRank_X0_lowerWayCosts : GoodIn wsX0_leastRank (wsV RX0 118 RX0 yX0_lowerWayCosts wsX0_lowerWayCosts) := goodIn_app (goodIn_of _ (by decide +kernel)) ggX0_leastRank_X0_lowerWayCosts
theorem dX0_leastRank_0 : decode cX0_leastRank 0 = .ok (.iload_n 1, 1) := by decide +kernel
theorem dX0_leastRank_1 : decode cX0_leastRank 1 = .ok (.invokestatic 89, 3) := by decide +kernel
theorem dX0_leastRank_4 : decode cX0_leastRank 4 = .ok (.iconst 0, 1) := by decide +kernel
theorem dX0_leastRank_5 : decode cX0_leastRank 5 = .ok (.istore_n 2, 1) := by decide +kernel
theorem dX0_leastRank_6 : decode cX0_leastRank 6 = .ok (.iload_n 2, 1) := by decide +kernel
theorem dX0_leastRank_7 : decode cX0_leastRank 7 = .ok (.bipush 10, 2) := by decide +kernel
theorem dX0_leastRank_9 : decode cX0_leastRank 9 = .ok (.if_icmp .ge 31, 3) := by decide +kernel
theorem dX0_leastRank_12 : decode cX0_leastRank 12 = .ok (.aload_n 0, 1) := by decide +kernel
theorem dX0_leastRank_13 : decode cX0_leastRank 13 = .ok (.getfield 71, 3) := by decide +kernel
theorem dX0_leastRank_16 : decode cX0_leastRank 16 = .ok (.iload_n 2, 1) := by decide +kernel
theorem dX0_leastRank_17 : decode cX0_leastRank 17 = .ok (.aload_n 0, 1) := by decide +kernel
theorem dX0_leastRank_18 : decode cX0_leastRank 18 = .ok (.getfield 42, 3) := by decide +kernel
theorem dX0_leastRank_21 : decode cX0_leastRank 21 = .ok (.iload_n 2, 1) := by decide +kernel
theorem dX0_leastRank_22 : decode cX0_leastRank 22 = .ok (.baload, 1) := by decide +kernel
theorem dX0_leastRank_23 : decode cX0_leastRank 23 = .ok (.ifCond .eq 7, 3) := by decide +kernel
theorem dX0_leastRank_26 : decode cX0_leastRank 26 = .ok (.iconst 0, 1) := by decide +kernel
theorem dX0_leastRank_27 : decode cX0_leastRank 27 = .ok (.goto 6, 3) := by decide +kernel
theorem dX0_leastRank_30 : decode cX0_leastRank 30 = .ok (.sipush 10000, 3) := by decide +kernel
theorem dX0_leastRank_33 : decode cX0_leastRank 33 = .ok (.iastore, 1) := by decide +kernel
theorem dX0_leastRank_34 : decode cX0_leastRank 34 = .ok (.iinc 2 1, 3) := by decide +kernel
theorem dX0_leastRank_37 : decode cX0_leastRank 37 = .ok (.goto (-31), 3) := by decide +kernel
theorem dX0_leastRank_40 : decode cX0_leastRank 40 = .ok (.iconst 1, 1) := by decide +kernel
theorem dX0_leastRank_41 : decode cX0_leastRank 41 = .ok (.istore_n 2, 1) := by decide +kernel
theorem dX0_leastRank_42 : decode cX0_leastRank 42 = .ok (.iload_n 2, 1) := by decide +kernel
theorem dX0_leastRank_43 : decode cX0_leastRank 43 = .ok (.bipush 10, 2) := by decide +kernel
theorem dX0_leastRank_45 : decode cX0_leastRank 45 = .ok (.if_icmp .ge 13, 3) := by decide +kernel
theorem dX0_leastRank_48 : decode cX0_leastRank 48 = .ok (.aload_n 0, 1) := by decide +kernel
theorem dX0_leastRank_49 : decode cX0_leastRank 49 = .ok (.invokevirtual 118, 3) := by decide +kernel
theorem dX0_leastRank_52 : decode cX0_leastRank 52 = .ok (.iinc 2 1, 3) := by decide +kernel
theorem dX0_leastRank_55 : decode cX0_leastRank 55 = .ok (.goto (-13), 3) := by decide +kernel
theorem dX0_leastRank_58 : decode cX0_leastRank 58 = .ok (.aload_n 0, 1) := by decide +kernel
theorem dX0_leastRank_59 : decode cX0_leastRank 59 = .ok (.getfield 71, 3) := by decide +kernel
theorem dX0_leastRank_62 : decode cX0_leastRank 62 = .ok (.iload_n 1, 1) := by decide +kernel
theorem dX0_leastRank_63 : decode cX0_leastRank 63 = .ok (.iaload, 1) := by decide +kernel
theorem dX0_leastRank_64 : decode cX0_leastRank 64 = .ok (.ireturn, 1) := by decide +kernel
set_option maxRecDepth 20000 in
theorem ggX0_up_X0_requireNode : GoodIn wsX0_up wsX0_requireNode := goodIn_ca (goodIn_r _ [8, 9, 10, 11, 12, 7, 13] (by decide +kernel) (by decide +kernel)) (goodIn_sub (fun _ h => List.mem_cons_of_mem _ (List.mem_append_right _ h)) (by decide +kernel))
set_option maxRecDepth 20000 in
theorem gX0_up_X0_requireNode : GoodIn wsX0_up (va_wsS RX0 89 yX0_requireNode wsX0_requireNode) := goodIn_app (goodIn_of _ (by decide +kernel)) ggX0_up_X0_requireNode
set_option maxRecDepth 20000 in
theorem ggX0_up_X0_isNode : GoodIn wsX0_up wsX0_isNode := goodIn_r _ [13] (by decide +kernel) (by decide +kernel)
set_option maxRecDepth 20000 in
theorem gX0_up_X0_isNode : GoodIn wsX0_up (va_wsS RX0 121 yX0_isNode wsX0_isNode) := goodIn_app (goodIn_of _ (by decide +kernel)) ggX0_up_X0_isNode
theorem dX0_up_0 : decode cX0_up 0 = .ok (.iload_n 1, 1) := by decide +kernel
theorem dX0_up_1 : decode cX0_up 1 = .ok (.invokestatic 89, 3) := by decide +kernel
theorem dX0_up_4 : decode cX0_up 4 = .ok (.iload_n 1, 1) := by decide +kernel
theorem dX0_up_5 : decode cX0_up 5 = .ok (.istore_n 2, 1) := by decide +kernel
theorem dX0_up_6 : decode cX0_up 6 = .ok (.iconst 0, 1) := by decide +kernel
theorem dX0_up_7 : decode cX0_up 7 = .ok (.istore_n 3, 1) := by decide +kernel
theorem dX0_up_8 : decode cX0_up 8 = .ok (.iconst 0, 1) := by decide +kernel
theorem dX0_up_9 : decode cX0_up 9 = .ok (.istore 4, 2) := by decide +kernel
theorem dX0_up_11 : decode cX0_up 11 = .ok (.iload 4, 2) := by decide +kernel
theorem dX0_up_13 : decode cX0_up 13 = .ok (.bipush 20, 2) := by decide +kernel
theorem dX0_up_15 : decode cX0_up 15 = .ok (.if_icmp .gt 92, 3) := by decide +kernel
theorem dX0_up_18 : decode cX0_up 18 = .ok (.aload_n 0, 1) := by decide +kernel
theorem dX0_up_19 : decode cX0_up 19 = .ok (.getfield 42, 3) := by decide +kernel
theorem dX0_up_22 : decode cX0_up 22 = .ok (.iload_n 2, 1) := by decide +kernel
theorem dX0_up_23 : decode cX0_up 23 = .ok (.baload, 1) := by decide +kernel
theorem dX0_up_24 : decode cX0_up 24 = .ok (.ifCond .eq 6, 3) := by decide +kernel
theorem dX0_up_27 : decode cX0_up 27 = .ok (.iload 4, 2) := by decide +kernel
theorem dX0_up_29 : decode cX0_up 29 = .ok (.ireturn, 1) := by decide +kernel
theorem dX0_up_30 : decode cX0_up 30 = .ok (.aload_n 0, 1) := by decide +kernel
