theorem goodIn_cc {big b : List Cond} {c : Cond} (h1 : GoodIn big [c]) (h2 : GoodIn big b) : GoodIn big (c :: b) := fun w h => (List.mem_cons.mp h).elim (fun e => h1 w (by rw [e]; exact List.mem_cons_self)) (h2 w)
theorem dL_part_0 : decode cL_part 0 = .ok (.iload_n 1, 1) := by decide +kernel
theorem dL_part_1 : decode cL_part 1 = .ok (.aload_n 0, 1) := by decide +kernel
theorem dL_part_2 : decode cL_part 2 = .ok (.arraylength, 1) := by decide +kernel
theorem dL_part_3 : decode cL_part 3 = .ok (.if_icmp .ge 9, 3) := by decide +kernel
theorem dL_part_6 : decode cL_part 6 = .ok (.aload_n 0, 1) := by decide +kernel
theorem dL_part_7 : decode cL_part 7 = .ok (.iload_n 1, 1) := by decide +kernel
theorem dL_part_8 : decode cL_part 8 = .ok (.iaload, 1) := by decide +kernel
theorem dL_part_9 : decode cL_part 9 = .ok (.goto 16, 3) := by decide +kernel
theorem dL_part_12 : decode cL_part 12 = .ok (.sipush 401, 3) := by decide +kernel
theorem dL_part_15 : decode cL_part 15 = .ok (.iload_n 1, 1) := by decide +kernel
theorem dL_part_16 : decode cL_part 16 = .ok (.imul, 1) := by decide +kernel
theorem dL_part_17 : decode cL_part 17 = .ok (.sipush 269, 3) := by decide +kernel
theorem dL_part_20 : decode cL_part 20 = .ok (.iload_n 1, 1) := by decide +kernel
theorem dL_part_21 : decode cL_part 21 = .ok (.imul, 1) := by decide +kernel
theorem dL_part_22 : decode cL_part 22 = .ok (.iload_n 1, 1) := by decide +kernel
theorem dL_part_23 : decode cL_part 23 = .ok (.imul, 1) := by decide +kernel
theorem dL_part_24 : decode cL_part 24 = .ok (.iadd, 1) := by decide +kernel
theorem dL_part_25 : decode cL_part 25 = .ok (.istore_n 3, 1) := by decide +kernel
theorem dL_part_26 : decode cL_part 26 = .ok (.iload_n 3, 1) := by decide +kernel
theorem dL_part_27 : decode cL_part 27 = .ok (.ldc 7, 2) := by decide +kernel
theorem dL_part_29 : decode cL_part 29 = .ok (.iand, 1) := by decide +kernel
theorem dL_part_30 : decode cL_part 30 = .ok (.iload_n 2, 1) := by decide +kernel
theorem dL_part_31 : decode cL_part 31 = .ok (.irem, 1) := by decide +kernel
theorem dL_part_32 : decode cL_part 32 = .ok (.ireturn, 1) := by decide +kernel
set_option maxRecDepth 20000 in
theorem ggL_told_X0_setRules : GoodIn wsL_told wsX0_setRules := goodIn_ca (goodIn_r _ [5, 6, 7, 8, 9, 10, 11, 4, 12, 13, 14, 98, 99, 100, 101, 102, 103, 104, 105, 106, 107, 108, 109, 110, 111, 112, 113, 114, 115, 116, 117] (by decide +kernel) (by decide +kernel)) (goodIn_sub (fun _ h => List.mem_cons_of_mem _ (List.mem_append_left _ (List.mem_append_left _ (List.mem_append_right _ h)))) (by decide +kernel))
set_option maxRecDepth 20000 in
theorem gL_told_X0_setRules : GoodIn wsL_told (wsV RL 8 RX0 yX0_setRules wsX0_setRules) := goodIn_app (goodIn_of _ (by decide +kernel)) ggL_told_X0_setRules
set_option maxRecDepth 20000 in
theorem ggL_told_X0_endRoot : GoodIn wsL_told wsX0_endRoot := goodIn_ca (goodIn_ca (goodIn_r _ [18, 19, 20, 21, 22, 4, 23, 24, 25, 26, 27, 28, 29, 30, 31, 32, 33, 34, 35, 36, 37, 38, 39, 40, 41, 42, 43, 44, 45, 46, 47, 8, 48, 49, 50, 51, 52, 53, 54, 55, 56, 57, 58, 59, 60, 61, 62, 63, 64, 65, 66, 67, 68, 69, 70, 71, 72, 73, 74, 75, 76, 77, 7, 78, 79, 80, 81, 82, 83, 84, 85, 86, 87, 88, 89, 6, 90, 91, 92, 93, 94, 95, 96, 97, 98, 99, 100, 101, 102, 103, 104, 105, 106, 107, 108, 109, 110, 111, 112, 113, 114, 115, 116, 117] (by decide +kernel) (by decide +kernel)) (goodIn_sub (fun _ h => List.mem_cons_of_mem _ (List.mem_append_left _ (List.mem_append_right _ h))) (by decide +kernel))) (goodIn_sub (fun _ h => List.mem_cons_of_mem _ (List.mem_append_right _ h)) (by decide +kernel))
set_option maxRecDepth 20000 in
theorem gL_told_X0_endRoot : GoodIn wsL_told (wsV RL 14 RX0 yX0_endRoot wsX0_endRoot) := goodIn_app (goodIn_of _ (by decide +kernel)) ggL_told_X0_endRoot
theorem dL_told_0 : decode cL_told 0 = .ok (.iload_n 1, 1) := by decide +kernel
theorem dL_told_1 : decode cL_told 1 = .ok (.ifCond .ne 16, 3) := by decide +kernel
theorem dL_told_4 : decode cL_told 4 = .ok (.aload_n 0, 1) := by decide +kernel
theorem dL_told_5 : decode cL_told 5 = .ok (.iload_n 2, 1) := by decide +kernel
theorem dL_told_6 : decode cL_told 6 = .ok (.iload_n 3, 1) := by decide +kernel
theorem dL_told_7 : decode cL_told 7 = .ok (.iload 4, 2) := by decide +kernel
theorem dL_told_9 : decode cL_told 9 = .ok (.iload 5, 2) := by decide +kernel
theorem dL_told_11 : decode cL_told 11 = .ok (.invokevirtual 8, 3) := by decide +kernel
theorem dL_told_14 : decode cL_told 14 = .ok (.goto 8, 3) := by decide +kernel
theorem dL_told_17 : decode cL_told 17 = .ok (.aload_n 0, 1) := by decide +kernel
theorem dL_told_18 : decode cL_told 18 = .ok (.iload_n 2, 1) := by decide +kernel
theorem dL_told_19 : decode cL_told 19 = .ok (.invokevirtual 14, 3) := by decide +kernel
theorem dL_told_22 : decode cL_told 22 = .ok (.iconst 0, 1) := by decide +kernel
theorem dL_told_23 : decode cL_told 23 = .ok (.ireturn, 1) := by decide +kernel
set_option maxRecDepth 20000 in
theorem ggL_does_L_told : GoodIn wsL_does wsL_told := goodIn_ca (goodIn_ca (goodIn_ca (goodIn_r _ [7, 8, 9, 10, 11, 12, 13, 14, 15, 16, 17, 18, 19, 20, 21, 22, 23, 24, 25, 26, 27, 28, 29, 30, 31, 32, 33, 34, 35, 36, 37, 38, 39, 40, 41, 42, 43, 44, 45, 46, 47, 48, 49, 50, 51, 52, 53, 54, 55, 56, 57, 58, 59, 60, 61, 62, 63, 64, 65, 66, 67, 68, 69, 70, 71, 72, 73, 74, 75, 76, 77, 78, 79, 80, 81, 82, 83, 84, 85, 86, 87, 88, 89, 90, 91, 92, 93, 94, 95, 96, 97, 98, 99, 100, 101, 102, 103, 104, 146, 147, 148, 149, 150, 151, 152, 153, 154, 155, 156, 157, 158, 159, 160, 161, 162, 163, 164, 165] (by decide +kernel) (by decide +kernel)) (goodIn_sub (fun _ h => List.mem_cons_of_mem _ (List.mem_append_left _ (List.mem_append_left _ (List.mem_append_right _ h)))) (by decide +kernel))) (goodIn_sub (fun _ h => List.mem_cons_of_mem _ (List.mem_append_left _ (List.mem_append_right _ h))) (by decide +kernel))) (goodIn_sub (fun _ h => List.mem_cons_of_mem _ (List.mem_append_right _ h)) (by decide +kernel))
set_option maxRecDepth 20000 in
theorem gL_does_L_told : GoodIn wsL_does (va_wsS RL 18 yL_told wsL_told) := goodIn_app (goodIn_of _ (by decide +kernel)) ggL_does_L_told
set_option maxRecDepth 20000 in
theorem ggL_does_X0_link : GoodIn wsL_does wsX0_link := goodIn_ca (goodIn_ca (goodIn_r _ [108, 20, 21, 70, 33, 34, 11, 35, 36, 37, 38, 39, 40, 17, 18, 19, 109, 110, 111, 112, 79, 80, 69, 57, 58, 59, 60, 26, 49, 61, 62, 63, 64, 65, 66, 67, 68, 71, 72, 73, 74, 75, 76, 77, 78, 45, 46, 81, 82, 83, 84, 47, 48, 14, 85, 86, 87, 88, 89, 90, 91, 92, 50, 51, 52, 53, 54, 15, 55, 56, 93, 94, 95, 96, 13, 97, 98, 99, 100, 101, 102, 103, 104, 146, 147, 148, 149, 150, 151, 152, 153, 154, 155, 156, 157, 158, 159, 160, 161, 162, 163, 164, 165] (by decide +kernel) (by decide +kernel)) (goodIn_sub (fun _ h => List.mem_cons_of_mem _ (List.mem_append_left _ (List.mem_append_left _ (List.mem_append_right _ h)))) (by decide +kernel))) (goodIn_sub (fun _ h => List.mem_cons_of_mem _ (List.mem_append_right _ h)) (by decide +kernel))
set_option maxRecDepth 20000 in
theorem gL_does_X0_link : GoodIn wsL_does (wsV RL 24 RX0 yX0_link wsX0_link) := goodIn_app (goodIn_of _ (by decide +kernel)) ggL_does_X0_link
set_option maxRecDepth 20000 in
theorem ggL_does_X0_makeRoot : GoodIn wsL_does wsX0_makeRoot := goodIn_ca (goodIn_ca (goodIn_r _ [116, 31, 32, 26, 45, 47, 48, 49, 33, 34, 11, 35, 36, 37, 38, 39, 40, 117, 118, 119, 120, 121, 46, 50, 51, 52, 53, 54, 15, 55, 56, 146, 147, 148, 149, 150, 151, 152, 153, 154, 155, 156, 157, 158, 159, 160, 161, 162, 163, 164, 165] (by decide +kernel) (by decide +kernel)) (goodIn_sub (fun _ h => List.mem_cons_of_mem _ (List.mem_append_left _ (List.mem_append_right _ h))) (by decide +kernel))) (goodIn_sub (fun _ h => List.mem_cons_of_mem _ (List.mem_append_right _ h)) (by decide +kernel))
set_option maxRecDepth 20000 in
theorem gL_does_X0_makeRoot : GoodIn wsL_does (wsV RL 28 RX0 yX0_makeRoot wsX0_makeRoot) := goodIn_app (goodIn_of _ (by decide +kernel)) ggL_does_X0_makeRoot
set_option maxRecDepth 20000 in
theorem ggL_does_X0_renew : GoodIn wsL_does wsX0_renew := goodIn_ca (goodIn_ca (goodIn_r _ [125, 27, 28, 29, 11, 30, 31, 32, 26, 33, 34, 35, 36, 37, 38, 39, 40, 117, 118, 119, 120, 121, 46, 50, 51, 52, 53, 54, 15, 55, 56, 146, 147, 148, 149, 150, 151, 152, 153, 154, 155, 156, 157, 158, 159, 160, 161, 162, 163, 164, 165] (by decide +kernel) (by decide +kernel)) (goodIn_sub (fun _ h => List.mem_cons_of_mem _ (List.mem_append_left _ (List.mem_append_right _ h))) (by decide +kernel))) (goodIn_sub (fun _ h => List.mem_cons_of_mem _ (List.mem_append_right _ h)) (by decide +kernel))
set_option maxRecDepth 20000 in
theorem gL_does_X0_renew : GoodIn wsL_does (wsV RL 32 RX0 yX0_renew wsX0_renew) := goodIn_app (goodIn_of _ (by decide +kernel)) ggL_does_X0_renew
set_option maxRecDepth 20000 in
theorem ggL_does_X0_pass : GoodIn wsL_does wsX0_pass := goodIn_ca (goodIn_r _ [129, 17, 18, 11, 19, 20, 21, 130, 131, 132, 133, 56, 55, 134, 135, 136, 137, 70, 79, 45, 80, 46, 69, 47, 57, 58, 59, 60, 26, 49, 61, 62, 63, 64, 65, 66, 67, 68, 71, 72, 73, 74, 75, 76, 77, 78, 81, 82, 83, 84, 48, 14, 85, 86, 87, 88, 38, 39, 40, 89, 90, 91, 92, 50, 51, 52, 53, 54, 15, 93, 94, 95, 96, 13, 97, 98, 99, 100, 101, 102, 103, 104, 138, 139, 140, 141, 16, 146, 147, 148, 149, 150, 151, 152, 153, 154, 155, 156, 157, 158, 159, 160, 161, 162, 163, 164, 165] (by decide +kernel) (by decide +kernel)) (goodIn_sub (fun _ h => List.mem_cons_of_mem _ (List.mem_append_left _ (List.mem_append_left _ (List.mem_append_right _ h)))) (by decide +kernel))
set_option maxRecDepth 20000 in
theorem gL_does_X0_pass : GoodIn wsL_does (wsV RL 35 RX0 yX0_pass wsX0_pass) := goodIn_app (goodIn_of _ (by decide +kernel)) ggL_does_X0_pass
set_option maxRecDepth 20000 in
theorem ggL_does_X0_down : GoodIn wsL_does wsX0_down := goodIn_ca (goodIn_ca (goodIn_r _ [145, 31, 32, 49, 33, 34, 11, 35, 36, 37, 38, 39, 40, 146, 147, 148, 149, 150, 151, 152, 153, 154, 155, 156, 157, 158, 159, 160, 161, 162, 163, 164, 165] (by decide +kernel) (by decide +kernel)) (goodIn_sub (fun _ h => List.mem_cons_of_mem _ (List.mem_append_left _ (List.mem_append_right _ h))) (by decide +kernel))) (goodIn_sub (fun _ h => List.mem_cons_of_mem _ (List.mem_append_right _ h)) (by decide +kernel))
set_option maxRecDepth 20000 in
theorem gL_does_X0_down : GoodIn wsL_does (wsV RL 38 RX0 yX0_down wsX0_down) := goodIn_app (goodIn_of _ (by decide +kernel)) ggL_does_X0_down
theorem dL_does_0 : decode cL_does 0 = .ok (.iload_n 1, 1) := by decide +kernel
theorem dL_does_1 : decode cL_does 1 = .ok (.iconst 2, 1) := by decide +kernel
theorem dL_does_2 : decode cL_does 2 = .ok (.if_icmp .ge 17, 3) := by decide +kernel
theorem dL_does_5 : decode cL_does 5 = .ok (.aload_n 0, 1) := by decide +kernel
theorem dL_does_6 : decode cL_does 6 = .ok (.iload_n 1, 1) := by decide +kernel
theorem dL_does_7 : decode cL_does 7 = .ok (.iload_n 2, 1) := by decide +kernel
theorem dL_does_8 : decode cL_does 8 = .ok (.iload_n 3, 1) := by decide +kernel
theorem dL_does_9 : decode cL_does 9 = .ok (.iload 4, 2) := by decide +kernel
theorem dL_does_11 : decode cL_does 11 = .ok (.iload 5, 2) := by decide +kernel
theorem dL_does_13 : decode cL_does 13 = .ok (.invokestatic 18, 3) := by decide +kernel
theorem dL_does_16 : decode cL_does 16 = .ok (.goto 64, 3) := by decide +kernel
theorem dL_does_19 : decode cL_does 19 = .ok (.iload_n 1, 1) := by decide +kernel
theorem dL_does_20 : decode cL_does 20 = .ok (.iconst 2, 1) := by decide +kernel
theorem dL_does_21 : decode cL_does 21 = .ok (.if_icmp .ne 14, 3) := by decide +kernel
theorem dL_does_24 : decode cL_does 24 = .ok (.aload_n 0, 1) := by decide +kernel
theorem dL_does_25 : decode cL_does 25 = .ok (.iload_n 2, 1) := by decide +kernel
theorem dL_does_26 : decode cL_does 26 = .ok (.iload_n 3, 1) := by decide +kernel
theorem dL_does_27 : decode cL_does 27 = .ok (.iload 4, 2) := by decide +kernel
theorem dL_does_29 : decode cL_does 29 = .ok (.invokevirtual 24, 3) := by decide +kernel
theorem dL_does_32 : decode cL_does 32 = .ok (.goto 48, 3) := by decide +kernel
theorem dL_does_35 : decode cL_does 35 = .ok (.iload_n 1, 1) := by decide +kernel
theorem dL_does_36 : decode cL_does 36 = .ok (.iconst 3, 1) := by decide +kernel
theorem dL_does_37 : decode cL_does 37 = .ok (.if_icmp .ne 11, 3) := by decide +kernel
theorem dL_does_40 : decode cL_does 40 = .ok (.aload_n 0, 1) := by decide +kernel
theorem dL_does_41 : decode cL_does 41 = .ok (.iload_n 2, 1) := by decide +kernel
theorem dL_does_42 : decode cL_does 42 = .ok (.invokevirtual 28, 3) := by decide +kernel
theorem dL_does_45 : decode cL_does 45 = .ok (.goto 35, 3) := by decide +kernel
theorem dL_does_48 : decode cL_does 48 = .ok (.iload_n 1, 1) := by decide +kernel
theorem dL_does_49 : decode cL_does 49 = .ok (.iconst 4, 1) := by decide +kernel
theorem dL_does_50 : decode cL_does 50 = .ok (.if_icmp .ne 11, 3) := by decide +kernel
theorem dL_does_53 : decode cL_does 53 = .ok (.aload_n 0, 1) := by decide +kernel
theorem dL_does_54 : decode cL_does 54 = .ok (.iload_n 2, 1) := by decide +kernel
theorem dL_does_55 : decode cL_does 55 = .ok (.invokevirtual 32, 3) := by decide +kernel
theorem dL_does_58 : decode cL_does 58 = .ok (.goto 22, 3) := by decide +kernel
theorem dL_does_61 : decode cL_does 61 = .ok (.iload_n 1, 1) := by decide +kernel
theorem dL_does_62 : decode cL_does 62 = .ok (.iconst 5, 1) := by decide +kernel
theorem dL_does_63 : decode cL_does 63 = .ok (.if_icmp .ne 11, 3) := by decide +kernel
theorem dL_does_66 : decode cL_does 66 = .ok (.aload_n 0, 1) := by decide +kernel
theorem dL_does_67 : decode cL_does 67 = .ok (.iload_n 2, 1) := by decide +kernel
theorem dL_does_68 : decode cL_does 68 = .ok (.invokevirtual 35, 3) := by decide +kernel
theorem dL_does_71 : decode cL_does 71 = .ok (.goto 9, 3) := by decide +kernel
theorem dL_does_74 : decode cL_does 74 = .ok (.aload_n 0, 1) := by decide +kernel
theorem dL_does_75 : decode cL_does 75 = .ok (.iload_n 2, 1) := by decide +kernel
theorem dL_does_76 : decode cL_does 76 = .ok (.iload_n 3, 1) := by decide +kernel
theorem dL_does_77 : decode cL_does 77 = .ok (.invokevirtual 38, 3) := by decide +kernel
theorem dL_does_80 : decode cL_does 80 = .ok (.ireturn, 1) := by decide +kernel
theorem dL_does_81 : decode cL_does 81 = .ok (.astore 6, 2) := by decide +kernel
theorem dL_does_83 : decode cL_does 83 = .ok (.bipush (-30), 2) := by decide +kernel
theorem dL_does_85 : decode cL_does 85 = .ok (.ireturn, 1) := by decide +kernel
theorem dL_does_86 : decode cL_does 86 = .ok (.astore 6, 2) := by decide +kernel
theorem dL_does_88 : decode cL_does 88 = .ok (.bipush (-20), 2) := by decide +kernel
theorem dL_does_90 : decode cL_does 90 = .ok (.ireturn, 1) := by decide +kernel
theorem dL_does_91 : decode cL_does 91 = .ok (.astore 6, 2) := by decide +kernel
theorem dL_does_93 : decode cL_does 93 = .ok (.bipush (-10), 2) := by decide +kernel
theorem dL_does_95 : decode cL_does 95 = .ok (.ireturn, 1) := by decide +kernel
set_option maxRecDepth 20000 in
theorem ggL_asks_X0_rank : GoodIn wsL_asks wsX0_rank := goodIn_ca (goodIn_r _ [6, 7, 8, 9, 5, 10, 11, 12, 13, 14, 15, 65, 66, 67, 68, 69, 70, 71, 72, 73, 74, 75, 76, 77, 78, 79, 80, 81, 82, 83, 84] (by decide +kernel) (by decide +kernel)) (goodIn_sub (fun _ h => List.mem_cons_of_mem _ (List.mem_append_right _ h)) (by decide +kernel))
set_option maxRecDepth 20000 in
theorem gL_asks_X0_rank : GoodIn wsL_asks (wsV RL 48 RX0 yX0_rank wsX0_rank) := goodIn_app (goodIn_of _ (by decide +kernel)) ggL_asks_X0_rank
set_option maxRecDepth 20000 in
theorem ggL_asks_X0_parent : GoodIn wsL_asks wsX0_parent := goodIn_ca (goodIn_r _ [19, 20, 8, 9, 5, 10, 11, 12, 13, 14, 15, 65, 66, 67, 68, 69, 70, 71, 72, 73, 74, 75, 76, 77, 78, 79, 80, 81, 82, 83, 84] (by decide +kernel) (by decide +kernel)) (goodIn_sub (fun _ h => List.mem_cons_of_mem _ (List.mem_append_right _ h)) (by decide +kernel))
set_option maxRecDepth 20000 in
theorem gL_asks_X0_parent : GoodIn wsL_asks (wsV RL 51 RX0 yX0_parent wsX0_parent) := goodIn_app (goodIn_of _ (by decide +kernel)) ggL_asks_X0_parent
set_option maxRecDepth 20000 in
theorem ggL_asks_X0_tree : GoodIn wsL_asks wsX0_tree := goodIn_ca (goodIn_r _ [24, 25, 26, 8, 9, 5, 10, 11, 12, 13, 14, 15, 65, 66, 67, 68, 69, 70, 71, 72, 73, 74, 75, 76, 77, 78, 79, 80, 81, 82, 83, 84] (by decide +kernel) (by decide +kernel)) (goodIn_sub (fun _ h => List.mem_cons_of_mem _ (List.mem_append_right _ h)) (by decide +kernel))
set_option maxRecDepth 20000 in
theorem gL_asks_X0_tree : GoodIn wsL_asks (wsV RL 54 RX0 yX0_tree wsX0_tree) := goodIn_app (goodIn_of _ (by decide +kernel)) ggL_asks_X0_tree
set_option maxRecDepth 20000 in
theorem ggL_asks_X0_nextTelling : GoodIn wsL_asks wsX0_nextTelling := goodIn_ca (goodIn_r _ [30, 31, 8, 9, 5, 10, 11, 12, 13, 14, 15, 65, 66, 67, 68, 69, 70, 71, 72, 73, 74, 75, 76, 77, 78, 79, 80, 81, 82, 83, 84] (by decide +kernel) (by decide +kernel)) (goodIn_sub (fun _ h => List.mem_cons_of_mem _ (List.mem_append_right _ h)) (by decide +kernel))
set_option maxRecDepth 20000 in
theorem gL_asks_X0_nextTelling : GoodIn wsL_asks (wsV RL 57 RX0 yX0_nextTelling wsX0_nextTelling) := goodIn_app (goodIn_of _ (by decide +kernel)) ggL_asks_X0_nextTelling
set_option maxRecDepth 20000 in
theorem ggL_asks_X0_heard : GoodIn wsL_asks wsX0_heard := goodIn_ca (goodIn_r _ [35, 36, 8, 9, 5, 10, 11, 12, 13, 14, 15, 65, 66, 67, 68, 69, 70, 71, 72, 73, 74, 75, 76, 77, 78, 79, 80, 81, 82, 83, 84] (by decide +kernel) (by decide +kernel)) (goodIn_sub (fun _ h => List.mem_cons_of_mem _ (List.mem_append_right _ h)) (by decide +kernel))
set_option maxRecDepth 20000 in
theorem gL_asks_X0_heard : GoodIn wsL_asks (wsV RL 60 RX0 yX0_heard wsX0_heard) := goodIn_app (goodIn_of _ (by decide +kernel)) ggL_asks_X0_heard
set_option maxRecDepth 20000 in
theorem ggL_asks_X0_leastRank : GoodIn wsL_asks wsX0_leastRank := goodIn_ca (goodIn_r _ [40, 41, 42, 8, 9, 5, 10, 11, 12, 13, 14, 15, 43, 44, 45, 46, 47, 48, 49, 50, 51, 65, 66, 67, 68, 69, 70, 71, 72, 73, 74, 75, 76, 77, 78, 79, 80, 81, 82, 83, 84] (by decide +kernel) (by decide +kernel)) (goodIn_sub (fun _ h => List.mem_cons_of_mem _ (List.mem_append_right _ h)) (by decide +kernel))
set_option maxRecDepth 20000 in
theorem gL_asks_X0_leastRank : GoodIn wsL_asks (wsV RL 63 RX0 yX0_leastRank wsX0_leastRank) := goodIn_app (goodIn_of _ (by decide +kernel)) ggL_asks_X0_leastRank
set_option maxRecDepth 20000 in
theorem ggL_asks_X0_up : GoodIn wsL_asks wsX0_up := goodIn_ca (goodIn_r _ [55, 42, 20, 7, 56, 8, 9, 5, 10, 11, 12, 13, 14, 15, 65, 66, 67, 68, 69, 70, 71, 72, 73, 74, 75, 76, 77, 78, 79, 80, 81, 82, 83, 84] (by decide +kernel) (by decide +kernel)) (goodIn_sub (fun _ h => List.mem_cons_of_mem _ (List.mem_append_right _ h)) (by decide +kernel))
set_option maxRecDepth 20000 in
theorem gL_asks_X0_up : GoodIn wsL_asks (wsV RL 66 RX0 yX0_up wsX0_up) := goodIn_app (goodIn_of _ (by decide +kernel)) ggL_asks_X0_up
set_option maxRecDepth 20000 in
theorem ggL_asks_X0_below : GoodIn wsL_asks wsX0_below := goodIn_ca (goodIn_r _ [60, 8, 9, 5, 10, 11, 12, 13, 14, 15, 61, 62, 63, 64, 20, 65, 66, 67, 68, 69, 70, 71, 72, 73, 74, 75, 76, 77, 78, 79, 80, 81, 82, 83, 84] (by decide +kernel) (by decide +kernel)) (goodIn_sub (fun _ h => List.mem_cons_of_mem _ (List.mem_append_right _ h)) (by decide +kernel))
set_option maxRecDepth 20000 in
theorem gL_asks_X0_below : GoodIn wsL_asks (wsV RL 69 RX0 yX0_below wsX0_below) := goodIn_app (goodIn_of _ (by decide +kernel)) ggL_asks_X0_below
theorem dL_asks_0 : decode cL_asks 0 = .ok (.iload_n 1, 1) := by decide +kernel
theorem dL_asks_1 : decode cL_asks 1 = .ok (.ifCond .ne 11, 3) := by decide +kernel
theorem dL_asks_4 : decode cL_asks 4 = .ok (.aload_n 0, 1) := by decide +kernel
theorem dL_asks_5 : decode cL_asks 5 = .ok (.iload_n 2, 1) := by decide +kernel
theorem dL_asks_6 : decode cL_asks 6 = .ok (.invokevirtual 48, 3) := by decide +kernel
theorem dL_asks_9 : decode cL_asks 9 = .ok (.goto 88, 3) := by decide +kernel
theorem dL_asks_12 : decode cL_asks 12 = .ok (.iload_n 1, 1) := by decide +kernel
theorem dL_asks_13 : decode cL_asks 13 = .ok (.iconst 1, 1) := by decide +kernel
theorem dL_asks_14 : decode cL_asks 14 = .ok (.if_icmp .ne 11, 3) := by decide +kernel
theorem dL_asks_17 : decode cL_asks 17 = .ok (.aload_n 0, 1) := by decide +kernel
theorem dL_asks_18 : decode cL_asks 18 = .ok (.iload_n 2, 1) := by decide +kernel
theorem dL_asks_19 : decode cL_asks 19 = .ok (.invokevirtual 51, 3) := by decide +kernel
theorem dL_asks_22 : decode cL_asks 22 = .ok (.goto 75, 3) := by decide +kernel
theorem dL_asks_25 : decode cL_asks 25 = .ok (.iload_n 1, 1) := by decide +kernel
theorem dL_asks_26 : decode cL_asks 26 = .ok (.iconst 2, 1) := by decide +kernel
theorem dL_asks_27 : decode cL_asks 27 = .ok (.if_icmp .ne 11, 3) := by decide +kernel
theorem dL_asks_30 : decode cL_asks 30 = .ok (.aload_n 0, 1) := by decide +kernel
theorem dL_asks_31 : decode cL_asks 31 = .ok (.iload_n 2, 1) := by decide +kernel
theorem dL_asks_32 : decode cL_asks 32 = .ok (.invokevirtual 54, 3) := by decide +kernel
theorem dL_asks_35 : decode cL_asks 35 = .ok (.goto 62, 3) := by decide +kernel
theorem dL_asks_38 : decode cL_asks 38 = .ok (.iload_n 1, 1) := by decide +kernel
theorem dL_asks_39 : decode cL_asks 39 = .ok (.iconst 3, 1) := by decide +kernel
theorem dL_asks_40 : decode cL_asks 40 = .ok (.if_icmp .ne 11, 3) := by decide +kernel
theorem dL_asks_43 : decode cL_asks 43 = .ok (.aload_n 0, 1) := by decide +kernel
theorem dL_asks_44 : decode cL_asks 44 = .ok (.iload_n 2, 1) := by decide +kernel
theorem dL_asks_45 : decode cL_asks 45 = .ok (.invokevirtual 57, 3) := by decide +kernel
theorem dL_asks_48 : decode cL_asks 48 = .ok (.goto 49, 3) := by decide +kernel
theorem dL_asks_51 : decode cL_asks 51 = .ok (.iload_n 1, 1) := by decide +kernel
theorem dL_asks_52 : decode cL_asks 52 = .ok (.iconst 4, 1) := by decide +kernel
theorem dL_asks_53 : decode cL_asks 53 = .ok (.if_icmp .ne 12, 3) := by decide +kernel
theorem dL_asks_56 : decode cL_asks 56 = .ok (.aload_n 0, 1) := by decide +kernel
theorem dL_asks_57 : decode cL_asks 57 = .ok (.iload_n 2, 1) := by decide +kernel
theorem dL_asks_58 : decode cL_asks 58 = .ok (.iload_n 3, 1) := by decide +kernel
theorem dL_asks_59 : decode cL_asks 59 = .ok (.invokevirtual 60, 3) := by decide +kernel
theorem dL_asks_62 : decode cL_asks 62 = .ok (.goto 35, 3) := by decide +kernel
theorem dL_asks_65 : decode cL_asks 65 = .ok (.iload_n 1, 1) := by decide +kernel
theorem dL_asks_66 : decode cL_asks 66 = .ok (.iconst 5, 1) := by decide +kernel
theorem dL_asks_67 : decode cL_asks 67 = .ok (.if_icmp .ne 11, 3) := by decide +kernel
theorem dL_asks_70 : decode cL_asks 70 = .ok (.aload_n 0, 1) := by decide +kernel
theorem dL_asks_71 : decode cL_asks 71 = .ok (.iload_n 2, 1) := by decide +kernel
theorem dL_asks_72 : decode cL_asks 72 = .ok (.invokevirtual 63, 3) := by decide +kernel
theorem dL_asks_75 : decode cL_asks 75 = .ok (.goto 22, 3) := by decide +kernel
theorem dL_asks_78 : decode cL_asks 78 = .ok (.iload_n 1, 1) := by decide +kernel
theorem dL_asks_79 : decode cL_asks 79 = .ok (.bipush 6, 2) := by decide +kernel
theorem dL_asks_81 : decode cL_asks 81 = .ok (.if_icmp .ne 11, 3) := by decide +kernel
theorem dL_asks_84 : decode cL_asks 84 = .ok (.aload_n 0, 1) := by decide +kernel
theorem dL_asks_85 : decode cL_asks 85 = .ok (.iload_n 2, 1) := by decide +kernel
theorem dL_asks_86 : decode cL_asks 86 = .ok (.invokevirtual 66, 3) := by decide +kernel
theorem dL_asks_89 : decode cL_asks 89 = .ok (.goto 8, 3) := by decide +kernel
theorem dL_asks_92 : decode cL_asks 92 = .ok (.aload_n 0, 1) := by decide +kernel
theorem dL_asks_93 : decode cL_asks 93 = .ok (.iload_n 2, 1) := by decide +kernel
theorem dL_asks_94 : decode cL_asks 94 = .ok (.invokevirtual 69, 3) := by decide +kernel
theorem dL_asks_97 : decode cL_asks 97 = .ok (.ireturn, 1) := by decide +kernel
theorem dL_asks_98 : decode cL_asks 98 = .ok (.astore 4, 2) := by decide +kernel
theorem dL_asks_100 : decode cL_asks 100 = .ok (.bipush (-30), 2) := by decide +kernel
theorem dL_asks_102 : decode cL_asks 102 = .ok (.ireturn, 1) := by decide +kernel
theorem dL_cost_0 : decode cL_cost 0 = .ok (.iload_n 1, 1) := by decide +kernel
theorem dL_cost_1 : decode cL_cost 1 = .ok (.bipush 8, 2) := by decide +kernel
theorem dL_cost_3 : decode cL_cost 3 = .ok (.if_icmp .ge 20, 3) := by decide +kernel
theorem dL_cost_6 : decode cL_cost 6 = .ok (.iload_n 2, 1) := by decide +kernel
theorem dL_cost_7 : decode cL_cost 7 = .ok (.bipush 8, 2) := by decide +kernel
theorem dL_cost_9 : decode cL_cost 9 = .ok (.if_icmp .ge 14, 3) := by decide +kernel
theorem dL_cost_12 : decode cL_cost 12 = .ok (.aload_n 0, 1) := by decide +kernel
theorem dL_cost_13 : decode cL_cost 13 = .ok (.bipush 8, 2) := by decide +kernel
theorem dL_cost_15 : decode cL_cost 15 = .ok (.iload_n 1, 1) := by decide +kernel
theorem dL_cost_16 : decode cL_cost 16 = .ok (.imul, 1) := by decide +kernel
theorem dL_cost_17 : decode cL_cost 17 = .ok (.iload_n 2, 1) := by decide +kernel
theorem dL_cost_18 : decode cL_cost 18 = .ok (.iadd, 1) := by decide +kernel
theorem dL_cost_19 : decode cL_cost 19 = .ok (.iaload, 1) := by decide +kernel
theorem dL_cost_20 : decode cL_cost 20 = .ok (.goto 4, 3) := by decide +kernel
theorem dL_cost_23 : decode cL_cost 23 = .ok (.iconst 0, 1) := by decide +kernel
theorem dL_cost_24 : decode cL_cost 24 = .ok (.ireturn, 1) := by decide +kernel
set_option maxRecDepth 20000 in
theorem ggL_isNode_X0_rank : GoodIn wsL_isNode wsX0_rank := goodIn_ca (goodIn_r _ [5, 6, 7, 8, 4, 9, 10, 11, 12, 13, 14, 40, 41, 42, 43, 44, 45, 46, 47, 48, 49, 50, 51, 52, 53, 54, 55, 56, 57, 58, 59] (by decide +kernel) (by decide +kernel)) (goodIn_sub (fun _ h => List.mem_cons_of_mem _ (List.mem_append_right _ h)) (by decide +kernel))
set_option maxRecDepth 20000 in
theorem gL_isNode_X0_rank : GoodIn wsL_isNode (wsV RL 48 RX0 yX0_rank wsX0_rank) := goodIn_app (goodIn_of _ (by decide +kernel)) ggL_isNode_X0_rank
set_option maxRecDepth 20000 in
theorem ggL_isNode_X0_parent : GoodIn wsL_isNode wsX0_parent := goodIn_ca (goodIn_r _ [18, 19, 7, 8, 4, 9, 10, 11, 12, 13, 14, 40, 41, 42, 43, 44, 45, 46, 47, 48, 49, 50, 51, 52, 53, 54, 55, 56, 57, 58, 59] (by decide +kernel) (by decide +kernel)) (goodIn_sub (fun _ h => List.mem_cons_of_mem _ (List.mem_append_right _ h)) (by decide +kernel))
set_option maxRecDepth 20000 in
theorem gL_isNode_X0_parent : GoodIn wsL_isNode (wsV RL 51 RX0 yX0_parent wsX0_parent) := goodIn_app (goodIn_of _ (by decide +kernel)) ggL_isNode_X0_parent
set_option maxRecDepth 20000 in
theorem ggL_isNode_X0_tree : GoodIn wsL_isNode wsX0_tree := goodIn_ca (goodIn_r _ [23, 24, 25, 7, 8, 4, 9, 10, 11, 12, 13, 14, 40, 41, 42, 43, 44, 45, 46, 47, 48, 49, 50, 51, 52, 53, 54, 55, 56, 57, 58, 59] (by decide +kernel) (by decide +kernel)) (goodIn_sub (fun _ h => List.mem_cons_of_mem _ (List.mem_append_right _ h)) (by decide +kernel))
set_option maxRecDepth 20000 in
theorem gL_isNode_X0_tree : GoodIn wsL_isNode (wsV RL 54 RX0 yX0_tree wsX0_tree) := goodIn_app (goodIn_of _ (by decide +kernel)) ggL_isNode_X0_tree
set_option maxRecDepth 20000 in
theorem ggL_isNode_X0_nextTelling : GoodIn wsL_isNode wsX0_nextTelling := goodIn_ca (goodIn_r _ [29, 30, 7, 8, 4, 9, 10, 11, 12, 13, 14, 40, 41, 42, 43, 44, 45, 46, 47, 48, 49, 50, 51, 52, 53, 54, 55, 56, 57, 58, 59] (by decide +kernel) (by decide +kernel)) (goodIn_sub (fun _ h => List.mem_cons_of_mem _ (List.mem_append_right _ h)) (by decide +kernel))
set_option maxRecDepth 20000 in
theorem gL_isNode_X0_nextTelling : GoodIn wsL_isNode (wsV RL 57 RX0 yX0_nextTelling wsX0_nextTelling) := goodIn_app (goodIn_of _ (by decide +kernel)) ggL_isNode_X0_nextTelling
set_option maxRecDepth 20000 in
theorem ggL_isNode_X0_heard : GoodIn wsL_isNode wsX0_heard := goodIn_ca (goodIn_r _ [34, 35, 7, 8, 4, 9, 10, 11, 12, 13, 14, 40, 41, 42, 43, 44, 45, 46, 47, 48, 49, 50, 51, 52, 53, 54, 55, 56, 57, 58, 59] (by decide +kernel) (by decide +kernel)) (goodIn_sub (fun _ h => List.mem_cons_of_mem _ (List.mem_append_right _ h)) (by decide +kernel))
set_option maxRecDepth 20000 in
theorem gL_isNode_X0_heard : GoodIn wsL_isNode (wsV RL 60 RX0 yX0_heard wsX0_heard) := goodIn_app (goodIn_of _ (by decide +kernel)) ggL_isNode_X0_heard
set_option maxRecDepth 20000 in
theorem ggL_isNode_L_cost : GoodIn wsL_isNode wsL_cost := goodIn_r _ [39] (by decide +kernel) (by decide +kernel)
set_option maxRecDepth 20000 in
theorem gL_isNode_L_cost : GoodIn wsL_isNode (va_wsS RL 72 yL_cost wsL_cost) := goodIn_app (goodIn_of _ (by decide +kernel)) ggL_isNode_L_cost
theorem dL_isNode_0 : decode cL_isNode 0 = .ok (.aload_n 0, 1) := by decide +kernel
theorem dL_isNode_1 : decode cL_isNode 1 = .ok (.iload 4, 2) := by decide +kernel
theorem dL_isNode_3 : decode cL_isNode 3 = .ok (.invokevirtual 48, 3) := by decide +kernel
theorem dL_isNode_6 : decode cL_isNode 6 = .ok (.istore 5, 2) := by decide +kernel
theorem dL_isNode_8 : decode cL_isNode 8 = .ok (.aload_n 0, 1) := by decide +kernel
theorem dL_isNode_9 : decode cL_isNode 9 = .ok (.iload 4, 2) := by decide +kernel
theorem dL_isNode_11 : decode cL_isNode 11 = .ok (.invokevirtual 51, 3) := by decide +kernel
theorem dL_isNode_14 : decode cL_isNode 14 = .ok (.istore 6, 2) := by decide +kernel
theorem dL_isNode_16 : decode cL_isNode 16 = .ok (.aload_n 0, 1) := by decide +kernel
theorem dL_isNode_17 : decode cL_isNode 17 = .ok (.iload 4, 2) := by decide +kernel
theorem dL_isNode_19 : decode cL_isNode 19 = .ok (.invokevirtual 54, 3) := by decide +kernel
theorem dL_isNode_22 : decode cL_isNode 22 = .ok (.istore 7, 2) := by decide +kernel
theorem dL_isNode_24 : decode cL_isNode 24 = .ok (.aload_n 0, 1) := by decide +kernel
theorem dL_isNode_25 : decode cL_isNode 25 = .ok (.iload 4, 2) := by decide +kernel
theorem dL_isNode_27 : decode cL_isNode 27 = .ok (.invokevirtual 57, 3) := by decide +kernel
theorem dL_isNode_30 : decode cL_isNode 30 = .ok (.aload_n 3, 1) := by decide +kernel
theorem dL_isNode_31 : decode cL_isNode 31 = .ok (.iconst 0, 1) := by decide +kernel
theorem dL_isNode_32 : decode cL_isNode 32 = .ok (.iaload, 1) := by decide +kernel
theorem dL_isNode_33 : decode cL_isNode 33 = .ok (.if_icmp .le 19, 3) := by decide +kernel
theorem dL_isNode_36 : decode cL_isNode 36 = .ok (.aload_n 0, 1) := by decide +kernel
theorem dL_isNode_37 : decode cL_isNode 37 = .ok (.iload 4, 2) := by decide +kernel
theorem dL_isNode_39 : decode cL_isNode 39 = .ok (.iload 4, 2) := by decide +kernel
theorem dL_isNode_41 : decode cL_isNode 41 = .ok (.invokevirtual 60, 3) := by decide +kernel
theorem dL_isNode_44 : decode cL_isNode 44 = .ok (.iconst (-1), 1) := by decide +kernel
theorem dL_isNode_45 : decode cL_isNode 45 = .ok (.if_icmp .ne 7, 3) := by decide +kernel
theorem dL_isNode_48 : decode cL_isNode 48 = .ok (.iconst 1, 1) := by decide +kernel
theorem dL_isNode_49 : decode cL_isNode 49 = .ok (.goto 4, 3) := by decide +kernel
theorem dL_isNode_52 : decode cL_isNode 52 = .ok (.iconst 0, 1) := by decide +kernel
theorem dL_isNode_53 : decode cL_isNode 53 = .ok (.istore 8, 2) := by decide +kernel
theorem dL_isNode_55 : decode cL_isNode 55 = .ok (.aload_n 2, 1) := by decide +kernel
theorem dL_isNode_56 : decode cL_isNode 56 = .ok (.iload 4, 2) := by decide +kernel
theorem dL_isNode_58 : decode cL_isNode 58 = .ok (.iaload, 1) := by decide +kernel
theorem dL_isNode_59 : decode cL_isNode 59 = .ok (.iconst 1, 1) := by decide +kernel
theorem dL_isNode_60 : decode cL_isNode 60 = .ok (.if_icmp .ne 47, 3) := by decide +kernel
theorem dL_isNode_63 : decode cL_isNode 63 = .ok (.iload 8, 2) := by decide +kernel
theorem dL_isNode_65 : decode cL_isNode 65 = .ok (.ifCond .eq 36, 3) := by decide +kernel
theorem dL_isNode_68 : decode cL_isNode 68 = .ok (.iload 5, 2) := by decide +kernel
theorem dL_isNode_70 : decode cL_isNode 70 = .ok (.ifCond .ne 31, 3) := by decide +kernel
theorem dL_isNode_73 : decode cL_isNode 73 = .ok (.iload 6, 2) := by decide +kernel
theorem dL_isNode_75 : decode cL_isNode 75 = .ok (.iconst (-1), 1) := by decide +kernel
theorem dL_isNode_76 : decode cL_isNode 76 = .ok (.if_icmp .ne 25, 3) := by decide +kernel
theorem dL_isNode_79 : decode cL_isNode 79 = .ok (.iload 7, 2) := by decide +kernel
theorem dL_isNode_81 : decode cL_isNode 81 = .ok (.bipush 10, 2) := by decide +kernel
theorem dL_isNode_83 : decode cL_isNode 83 = .ok (.aload_n 2, 1) := by decide +kernel
theorem dL_isNode_84 : decode cL_isNode 84 = .ok (.bipush 10, 2) := by decide +kernel
theorem dL_isNode_86 : decode cL_isNode 86 = .ok (.iload 4, 2) := by decide +kernel
theorem dL_isNode_88 : decode cL_isNode 88 = .ok (.iadd, 1) := by decide +kernel
theorem dL_isNode_89 : decode cL_isNode 89 = .ok (.iaload, 1) := by decide +kernel
theorem dL_isNode_90 : decode cL_isNode 90 = .ok (.imul, 1) := by decide +kernel
theorem dL_isNode_91 : decode cL_isNode 91 = .ok (.iload 4, 2) := by decide +kernel
