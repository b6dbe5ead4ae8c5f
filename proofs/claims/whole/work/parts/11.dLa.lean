set_option maxRecDepth 20000 in
theorem ggL_setRules_X0_setRules : GoodIn wsL_setRules wsX0_setRules := goodIn_ca (goodIn_r _ [6, 7, 8, 9, 10, 11, 12, 5, 13, 14, 15, 16, 17, 18, 19, 20, 21, 22, 23, 24, 25, 26, 27, 28, 29, 30, 31, 32, 33, 34, 35] (by decide +kernel) (by decide +kernel)) (goodIn_sub (fun _ h => List.mem_cons_of_mem _ (List.mem_append_right _ h)) (by decide +kernel))
set_option maxRecDepth 20000 in
theorem gL_setRules_X0_setRules : GoodIn wsL_setRules (wsV RL 7 RX0 yX0_setRules wsX0_setRules) := goodIn_app (goodIn_of _ (by decide +kernel)) ggL_setRules_X0_setRules
theorem dL_setRules_0 : decode cL_setRules 0 = .ok (.aload_n 0, 1) := by decide +kernel
theorem dL_setRules_1 : decode cL_setRules 1 = .ok (.iload_n 1, 1) := by decide +kernel
theorem dL_setRules_2 : decode cL_setRules 2 = .ok (.iload_n 2, 1) := by decide +kernel
theorem dL_setRules_3 : decode cL_setRules 3 = .ok (.iload_n 3, 1) := by decide +kernel
theorem dL_setRules_4 : decode cL_setRules 4 = .ok (.iload 4, 2) := by decide +kernel
theorem dL_setRules_6 : decode cL_setRules 6 = .ok (.invokevirtual 7, 3) := by decide +kernel
theorem dL_setRules_9 : decode cL_setRules 9 = .ok (.goto 7, 3) := by decide +kernel
theorem dL_setRules_12 : decode cL_setRules 12 = .ok (.astore 5, 2) := by decide +kernel
theorem dL_setRules_14 : decode cL_setRules 14 = .ok (.iconst 1, 1) := by decide +kernel
theorem dL_setRules_15 : decode cL_setRules 15 = .ok (.ireturn, 1) := by decide +kernel
theorem dL_setRules_16 : decode cL_setRules 16 = .ok (.iconst 0, 1) := by decide +kernel
theorem dL_setRules_17 : decode cL_setRules 17 = .ok (.ireturn, 1) := by decide +kernel
set_option maxRecDepth 20000 in
theorem ggL_link_X0_link : GoodIn wsL_link wsX0_link := goodIn_ca (goodIn_ca (goodIn_r _ [7, 8, 9, 10, 11, 12, 6, 13, 14, 15, 16, 17, 18, 19, 20, 21, 22, 23, 24, 25, 26, 27, 28, 29, 30, 31, 32, 33, 34, 35, 36, 37, 38, 39, 40, 41, 42, 43, 44, 45, 46, 47, 48, 49, 50, 51, 52, 53, 54, 55, 56, 57, 58, 59, 60, 61, 62, 63, 64, 65, 66, 67, 68, 69, 70, 71, 72, 73, 74, 75, 76, 77, 78, 79, 80, 81, 82, 83, 84, 85, 86, 87, 88, 89, 90, 91, 92, 93, 94, 95, 96, 97, 98, 99, 100, 101, 102, 103, 104, 105, 106, 107, 108] (by decide +kernel) (by decide +kernel)) (goodIn_sub (fun _ h => List.mem_cons_of_mem _ (List.mem_append_left _ (List.mem_append_right _ h))) (by decide +kernel))) (goodIn_sub (fun _ h => List.mem_cons_of_mem _ (List.mem_append_right _ h)) (by decide +kernel))
set_option maxRecDepth 20000 in
theorem gL_link_X0_link : GoodIn wsL_link (wsV RL 15 RX0 yX0_link wsX0_link) := goodIn_app (goodIn_of _ (by decide +kernel)) ggL_link_X0_link
theorem dL_link_0 : decode cL_link 0 = .ok (.aload 4, 2) := by decide +kernel
theorem dL_link_2 : decode cL_link 2 = .ok (.iconst 0, 1) := by decide +kernel
theorem dL_link_3 : decode cL_link 3 = .ok (.aload_n 0, 1) := by decide +kernel
theorem dL_link_4 : decode cL_link 4 = .ok (.iload_n 1, 1) := by decide +kernel
theorem dL_link_5 : decode cL_link 5 = .ok (.iload_n 2, 1) := by decide +kernel
theorem dL_link_6 : decode cL_link 6 = .ok (.iload_n 3, 1) := by decide +kernel
theorem dL_link_7 : decode cL_link 7 = .ok (.invokevirtual 15, 3) := by decide +kernel
theorem dL_link_10 : decode cL_link 10 = .ok (.i2l, 1) := by decide +kernel
theorem dL_link_11 : decode cL_link 11 = .ok (.lastore, 1) := by decide +kernel
theorem dL_link_12 : decode cL_link 12 = .ok (.goto 11, 3) := by decide +kernel
theorem dL_link_15 : decode cL_link 15 = .ok (.astore 5, 2) := by decide +kernel
theorem dL_link_17 : decode cL_link 17 = .ok (.iconst 1, 1) := by decide +kernel
theorem dL_link_18 : decode cL_link 18 = .ok (.ireturn, 1) := by decide +kernel
theorem dL_link_19 : decode cL_link 19 = .ok (.astore 5, 2) := by decide +kernel
theorem dL_link_21 : decode cL_link 21 = .ok (.iconst 2, 1) := by decide +kernel
theorem dL_link_22 : decode cL_link 22 = .ok (.ireturn, 1) := by decide +kernel
theorem dL_link_23 : decode cL_link 23 = .ok (.iconst 0, 1) := by decide +kernel
theorem dL_link_24 : decode cL_link 24 = .ok (.ireturn, 1) := by decide +kernel
set_option maxRecDepth 20000 in
theorem ggL_makeRoot_X0_makeRoot : GoodIn wsL_makeRoot wsX0_makeRoot := goodIn_ca (goodIn_ca (goodIn_r _ [7, 8, 9, 10, 11, 12, 13, 14, 15, 16, 6, 17, 18, 19, 20, 21, 22, 23, 24, 25, 26, 27, 28, 29, 30, 31, 32, 33, 34, 35, 36, 37, 38, 39, 40, 41, 42, 43, 44, 45, 46, 47, 48, 49, 50, 51, 52, 53, 54, 55, 56] (by decide +kernel) (by decide +kernel)) (goodIn_sub (fun _ h => List.mem_cons_of_mem _ (List.mem_append_left _ (List.mem_append_right _ h))) (by decide +kernel))) (goodIn_sub (fun _ h => List.mem_cons_of_mem _ (List.mem_append_right _ h)) (by decide +kernel))
set_option maxRecDepth 20000 in
theorem gL_makeRoot_X0_makeRoot : GoodIn wsL_makeRoot (wsV RL 21 RX0 yX0_makeRoot wsX0_makeRoot) := goodIn_app (goodIn_of _ (by decide +kernel)) ggL_makeRoot_X0_makeRoot
theorem dL_makeRoot_0 : decode cL_makeRoot 0 = .ok (.aload_n 2, 1) := by decide +kernel
theorem dL_makeRoot_1 : decode cL_makeRoot 1 = .ok (.iconst 0, 1) := by decide +kernel
theorem dL_makeRoot_2 : decode cL_makeRoot 2 = .ok (.aload_n 0, 1) := by decide +kernel
theorem dL_makeRoot_3 : decode cL_makeRoot 3 = .ok (.iload_n 1, 1) := by decide +kernel
theorem dL_makeRoot_4 : decode cL_makeRoot 4 = .ok (.invokevirtual 21, 3) := by decide +kernel
theorem dL_makeRoot_7 : decode cL_makeRoot 7 = .ok (.i2l, 1) := by decide +kernel
theorem dL_makeRoot_8 : decode cL_makeRoot 8 = .ok (.lastore, 1) := by decide +kernel
theorem dL_makeRoot_9 : decode cL_makeRoot 9 = .ok (.goto 9, 3) := by decide +kernel
theorem dL_makeRoot_12 : decode cL_makeRoot 12 = .ok (.astore_n 3, 1) := by decide +kernel
theorem dL_makeRoot_13 : decode cL_makeRoot 13 = .ok (.iconst 1, 1) := by decide +kernel
theorem dL_makeRoot_14 : decode cL_makeRoot 14 = .ok (.ireturn, 1) := by decide +kernel
theorem dL_makeRoot_15 : decode cL_makeRoot 15 = .ok (.astore_n 3, 1) := by decide +kernel
theorem dL_makeRoot_16 : decode cL_makeRoot 16 = .ok (.iconst 2, 1) := by decide +kernel
theorem dL_makeRoot_17 : decode cL_makeRoot 17 = .ok (.ireturn, 1) := by decide +kernel
theorem dL_makeRoot_18 : decode cL_makeRoot 18 = .ok (.iconst 0, 1) := by decide +kernel
theorem dL_makeRoot_19 : decode cL_makeRoot 19 = .ok (.ireturn, 1) := by decide +kernel
set_option maxRecDepth 20000 in
theorem ggL_endRoot_X0_endRoot : GoodIn wsL_endRoot wsX0_endRoot := goodIn_ca (goodIn_ca (goodIn_r _ [7, 8, 9, 10, 11, 6, 12, 13, 14, 15, 16, 17, 18, 19, 20, 21, 22, 23, 24, 25, 26, 27, 28, 29, 30, 31, 32, 33, 34, 35, 36, 37, 38, 39, 40, 41, 42, 43, 44, 45, 46, 47, 48, 49, 50, 51, 52, 53, 54, 55, 56, 57, 58, 59, 60, 61, 62, 63, 64, 65, 66, 67, 68, 69, 70, 71, 72, 73, 74, 75, 76, 77, 78, 79, 80, 81, 82, 83, 84, 85, 86, 87, 88, 89, 90, 91, 92, 93, 94, 95, 96, 97, 98, 99, 100, 101, 102, 103, 104, 105, 106, 107, 108, 109] (by decide +kernel) (by decide +kernel)) (goodIn_sub (fun _ h => List.mem_cons_of_mem _ (List.mem_append_left _ (List.mem_append_right _ h))) (by decide +kernel))) (goodIn_sub (fun _ h => List.mem_cons_of_mem _ (List.mem_append_right _ h)) (by decide +kernel))
set_option maxRecDepth 20000 in
theorem gL_endRoot_X0_endRoot : GoodIn wsL_endRoot (wsV RL 27 RX0 yX0_endRoot wsX0_endRoot) := goodIn_app (goodIn_of _ (by decide +kernel)) ggL_endRoot_X0_endRoot
theorem dL_endRoot_0 : decode cL_endRoot 0 = .ok (.aload_n 0, 1) := by decide +kernel
theorem dL_endRoot_1 : decode cL_endRoot 1 = .ok (.iload_n 1, 1) := by decide +kernel
theorem dL_endRoot_2 : decode cL_endRoot 2 = .ok (.invokevirtual 27, 3) := by decide +kernel
theorem dL_endRoot_5 : decode cL_endRoot 5 = .ok (.goto 9, 3) := by decide +kernel
theorem dL_endRoot_8 : decode cL_endRoot 8 = .ok (.astore_n 2, 1) := by decide +kernel
theorem dL_endRoot_9 : decode cL_endRoot 9 = .ok (.iconst 1, 1) := by decide +kernel
theorem dL_endRoot_10 : decode cL_endRoot 10 = .ok (.ireturn, 1) := by decide +kernel
theorem dL_endRoot_11 : decode cL_endRoot 11 = .ok (.astore_n 2, 1) := by decide +kernel
theorem dL_endRoot_12 : decode cL_endRoot 12 = .ok (.iconst 2, 1) := by decide +kernel
theorem dL_endRoot_13 : decode cL_endRoot 13 = .ok (.ireturn, 1) := by decide +kernel
theorem dL_endRoot_14 : decode cL_endRoot 14 = .ok (.iconst 0, 1) := by decide +kernel
theorem dL_endRoot_15 : decode cL_endRoot 15 = .ok (.ireturn, 1) := by decide +kernel
set_option maxRecDepth 20000 in
theorem ggL_renew_X0_renew : GoodIn wsL_renew wsX0_renew := goodIn_ca (goodIn_ca (goodIn_r _ [7, 8, 9, 10, 6, 11, 12, 13, 14, 15, 16, 17, 18, 19, 20, 21, 22, 23, 24, 25, 26, 27, 28, 29, 30, 31, 32, 33, 34, 35, 36, 37, 38, 39, 40, 41, 42, 43, 44, 45, 46, 47, 48, 49, 50, 51, 52, 53, 54, 55, 56] (by decide +kernel) (by decide +kernel)) (goodIn_sub (fun _ h => List.mem_cons_of_mem _ (List.mem_append_left _ (List.mem_append_right _ h))) (by decide +kernel))) (goodIn_sub (fun _ h => List.mem_cons_of_mem _ (List.mem_append_right _ h)) (by decide +kernel))
set_option maxRecDepth 20000 in
theorem gL_renew_X0_renew : GoodIn wsL_renew (wsV RL 31 RX0 yX0_renew wsX0_renew) := goodIn_app (goodIn_of _ (by decide +kernel)) ggL_renew_X0_renew
theorem dL_renew_0 : decode cL_renew 0 = .ok (.aload_n 2, 1) := by decide +kernel
theorem dL_renew_1 : decode cL_renew 1 = .ok (.iconst 0, 1) := by decide +kernel
theorem dL_renew_2 : decode cL_renew 2 = .ok (.aload_n 0, 1) := by decide +kernel
theorem dL_renew_3 : decode cL_renew 3 = .ok (.iload_n 1, 1) := by decide +kernel
theorem dL_renew_4 : decode cL_renew 4 = .ok (.invokevirtual 31, 3) := by decide +kernel
theorem dL_renew_7 : decode cL_renew 7 = .ok (.i2l, 1) := by decide +kernel
theorem dL_renew_8 : decode cL_renew 8 = .ok (.lastore, 1) := by decide +kernel
theorem dL_renew_9 : decode cL_renew 9 = .ok (.goto 9, 3) := by decide +kernel
theorem dL_renew_12 : decode cL_renew 12 = .ok (.astore_n 3, 1) := by decide +kernel
theorem dL_renew_13 : decode cL_renew 13 = .ok (.iconst 1, 1) := by decide +kernel
theorem dL_renew_14 : decode cL_renew 14 = .ok (.ireturn, 1) := by decide +kernel
theorem dL_renew_15 : decode cL_renew 15 = .ok (.astore_n 3, 1) := by decide +kernel
theorem dL_renew_16 : decode cL_renew 16 = .ok (.iconst 2, 1) := by decide +kernel
theorem dL_renew_17 : decode cL_renew 17 = .ok (.ireturn, 1) := by decide +kernel
theorem dL_renew_18 : decode cL_renew 18 = .ok (.iconst 0, 1) := by decide +kernel
theorem dL_renew_19 : decode cL_renew 19 = .ok (.ireturn, 1) := by decide +kernel
set_option maxRecDepth 20000 in
theorem ggL_pass_X0_pass : GoodIn wsL_pass wsX0_pass := goodIn_ca (goodIn_r _ [6, 7, 8, 5, 9, 10, 11, 12, 13, 14, 15, 16, 17, 18, 19, 20, 21, 22, 23, 24, 25, 26, 27, 28, 29, 30, 31, 32, 33, 34, 35, 36, 37, 38, 39, 40, 41, 42, 43, 44, 45, 46, 47, 48, 49, 50, 51, 52, 53, 54, 55, 56, 57, 58, 59, 60, 61, 62, 63, 64, 65, 66, 67, 68, 69, 70, 71, 72, 73, 74, 75, 76, 77, 78, 79, 80, 81, 82, 83, 84, 85, 86, 87, 88, 89, 90, 91, 92, 93, 94, 95, 96, 97, 98, 99, 100, 101, 102, 103, 104, 105, 106, 107, 108, 109, 110, 111] (by decide +kernel) (by decide +kernel)) (goodIn_sub (fun _ h => List.mem_cons_of_mem _ (List.mem_append_right _ h)) (by decide +kernel))
set_option maxRecDepth 20000 in
theorem gL_pass_X0_pass : GoodIn wsL_pass (wsV RL 34 RX0 yX0_pass wsX0_pass) := goodIn_app (goodIn_of _ (by decide +kernel)) ggL_pass_X0_pass
theorem dL_pass_0 : decode cL_pass 0 = .ok (.aload_n 2, 1) := by decide +kernel
theorem dL_pass_1 : decode cL_pass 1 = .ok (.iconst 0, 1) := by decide +kernel
theorem dL_pass_2 : decode cL_pass 2 = .ok (.aload_n 0, 1) := by decide +kernel
theorem dL_pass_3 : decode cL_pass 3 = .ok (.iload_n 1, 1) := by decide +kernel
theorem dL_pass_4 : decode cL_pass 4 = .ok (.invokevirtual 34, 3) := by decide +kernel
theorem dL_pass_7 : decode cL_pass 7 = .ok (.i2l, 1) := by decide +kernel
theorem dL_pass_8 : decode cL_pass 8 = .ok (.lastore, 1) := by decide +kernel
theorem dL_pass_9 : decode cL_pass 9 = .ok (.goto 6, 3) := by decide +kernel
theorem dL_pass_12 : decode cL_pass 12 = .ok (.astore_n 3, 1) := by decide +kernel
theorem dL_pass_13 : decode cL_pass 13 = .ok (.iconst 1, 1) := by decide +kernel
theorem dL_pass_14 : decode cL_pass 14 = .ok (.ireturn, 1) := by decide +kernel
theorem dL_pass_15 : decode cL_pass 15 = .ok (.iconst 0, 1) := by decide +kernel
theorem dL_pass_16 : decode cL_pass 16 = .ok (.ireturn, 1) := by decide +kernel
set_option maxRecDepth 20000 in
theorem ggL_rank_X0_rank : GoodIn wsL_rank wsX0_rank := goodIn_ca (goodIn_r _ [6, 7, 8, 9, 5, 10, 11, 12, 13, 14, 15, 16, 17, 18, 19, 20, 21, 22, 23, 24, 25, 26, 27, 28, 29, 30, 31, 32, 33, 34, 35] (by decide +kernel) (by decide +kernel)) (goodIn_sub (fun _ h => List.mem_cons_of_mem _ (List.mem_append_right _ h)) (by decide +kernel))
set_option maxRecDepth 20000 in
theorem gL_rank_X0_rank : GoodIn wsL_rank (wsV RL 37 RX0 yX0_rank wsX0_rank) := goodIn_app (goodIn_of _ (by decide +kernel)) ggL_rank_X0_rank
theorem dL_rank_0 : decode cL_rank 0 = .ok (.aload_n 2, 1) := by decide +kernel
theorem dL_rank_1 : decode cL_rank 1 = .ok (.iconst 0, 1) := by decide +kernel
theorem dL_rank_2 : decode cL_rank 2 = .ok (.aload_n 0, 1) := by decide +kernel
theorem dL_rank_3 : decode cL_rank 3 = .ok (.iload_n 1, 1) := by decide +kernel
theorem dL_rank_4 : decode cL_rank 4 = .ok (.invokevirtual 37, 3) := by decide +kernel
theorem dL_rank_7 : decode cL_rank 7 = .ok (.i2l, 1) := by decide +kernel
theorem dL_rank_8 : decode cL_rank 8 = .ok (.lastore, 1) := by decide +kernel
theorem dL_rank_9 : decode cL_rank 9 = .ok (.goto 6, 3) := by decide +kernel
theorem dL_rank_12 : decode cL_rank 12 = .ok (.astore_n 3, 1) := by decide +kernel
theorem dL_rank_13 : decode cL_rank 13 = .ok (.iconst 1, 1) := by decide +kernel
theorem dL_rank_14 : decode cL_rank 14 = .ok (.ireturn, 1) := by decide +kernel
theorem dL_rank_15 : decode cL_rank 15 = .ok (.iconst 0, 1) := by decide +kernel
theorem dL_rank_16 : decode cL_rank 16 = .ok (.ireturn, 1) := by decide +kernel
set_option maxRecDepth 20000 in
theorem ggL_parent_X0_parent : GoodIn wsL_parent wsX0_parent := goodIn_ca (goodIn_r _ [6, 7, 8, 9, 5, 10, 11, 12, 13, 14, 15, 16, 17, 18, 19, 20, 21, 22, 23, 24, 25, 26, 27, 28, 29, 30, 31, 32, 33, 34, 35] (by decide +kernel) (by decide +kernel)) (goodIn_sub (fun _ h => List.mem_cons_of_mem _ (List.mem_append_right _ h)) (by decide +kernel))
set_option maxRecDepth 20000 in
theorem gL_parent_X0_parent : GoodIn wsL_parent (wsV RL 40 RX0 yX0_parent wsX0_parent) := goodIn_app (goodIn_of _ (by decide +kernel)) ggL_parent_X0_parent
theorem dL_parent_0 : decode cL_parent 0 = .ok (.aload_n 2, 1) := by decide +kernel
theorem dL_parent_1 : decode cL_parent 1 = .ok (.iconst 0, 1) := by decide +kernel
theorem dL_parent_2 : decode cL_parent 2 = .ok (.aload_n 0, 1) := by decide +kernel
theorem dL_parent_3 : decode cL_parent 3 = .ok (.iload_n 1, 1) := by decide +kernel
theorem dL_parent_4 : decode cL_parent 4 = .ok (.invokevirtual 40, 3) := by decide +kernel
theorem dL_parent_7 : decode cL_parent 7 = .ok (.i2l, 1) := by decide +kernel
theorem dL_parent_8 : decode cL_parent 8 = .ok (.lastore, 1) := by decide +kernel
theorem dL_parent_9 : decode cL_parent 9 = .ok (.goto 6, 3) := by decide +kernel
theorem dL_parent_12 : decode cL_parent 12 = .ok (.astore_n 3, 1) := by decide +kernel
theorem dL_parent_13 : decode cL_parent 13 = .ok (.iconst 1, 1) := by decide +kernel
theorem dL_parent_14 : decode cL_parent 14 = .ok (.ireturn, 1) := by decide +kernel
theorem dL_parent_15 : decode cL_parent 15 = .ok (.iconst 0, 1) := by decide +kernel
theorem dL_parent_16 : decode cL_parent 16 = .ok (.ireturn, 1) := by decide +kernel
set_option maxRecDepth 20000 in
theorem ggL_tree_X0_tree : GoodIn wsL_tree wsX0_tree := goodIn_ca (goodIn_r _ [6, 7, 8, 9, 10, 5, 11, 12, 13, 14, 15, 16, 17, 18, 19, 20, 21, 22, 23, 24, 25, 26, 27, 28, 29, 30, 31, 32, 33, 34, 35, 36] (by decide +kernel) (by decide +kernel)) (goodIn_sub (fun _ h => List.mem_cons_of_mem _ (List.mem_append_right _ h)) (by decide +kernel))
set_option maxRecDepth 20000 in
theorem gL_tree_X0_tree : GoodIn wsL_tree (wsV RL 43 RX0 yX0_tree wsX0_tree) := goodIn_app (goodIn_of _ (by decide +kernel)) ggL_tree_X0_tree
theorem dL_tree_0 : decode cL_tree 0 = .ok (.aload_n 2, 1) := by decide +kernel
theorem dL_tree_1 : decode cL_tree 1 = .ok (.iconst 0, 1) := by decide +kernel
theorem dL_tree_2 : decode cL_tree 2 = .ok (.aload_n 0, 1) := by decide +kernel
theorem dL_tree_3 : decode cL_tree 3 = .ok (.iload_n 1, 1) := by decide +kernel
theorem dL_tree_4 : decode cL_tree 4 = .ok (.invokevirtual 43, 3) := by decide +kernel
theorem dL_tree_7 : decode cL_tree 7 = .ok (.i2l, 1) := by decide +kernel
theorem dL_tree_8 : decode cL_tree 8 = .ok (.lastore, 1) := by decide +kernel
theorem dL_tree_9 : decode cL_tree 9 = .ok (.goto 6, 3) := by decide +kernel
theorem dL_tree_12 : decode cL_tree 12 = .ok (.astore_n 3, 1) := by decide +kernel
theorem dL_tree_13 : decode cL_tree 13 = .ok (.iconst 1, 1) := by decide +kernel
theorem dL_tree_14 : decode cL_tree 14 = .ok (.ireturn, 1) := by decide +kernel
theorem dL_tree_15 : decode cL_tree 15 = .ok (.iconst 0, 1) := by decide +kernel
theorem dL_tree_16 : decode cL_tree 16 = .ok (.ireturn, 1) := by decide +kernel
set_option maxRecDepth 20000 in
theorem ggL_nextTelling_X0_nextTelling : GoodIn wsL_nextTelling wsX0_nextTelling := goodIn_ca (goodIn_r _ [6, 7, 8, 9, 5, 10, 11, 12, 13, 14, 15, 16, 17, 18, 19, 20, 21, 22, 23, 24, 25, 26, 27, 28, 29, 30, 31, 32, 33, 34, 35] (by decide +kernel) (by decide +kernel)) (goodIn_sub (fun _ h => List.mem_cons_of_mem _ (List.mem_append_right _ h)) (by decide +kernel))
set_option maxRecDepth 20000 in
theorem gL_nextTelling_X0_nextTelling : GoodIn wsL_nextTelling (wsV RL 46 RX0 yX0_nextTelling wsX0_nextTelling) := goodIn_app (goodIn_of _ (by decide +kernel)) ggL_nextTelling_X0_nextTelling
theorem dL_nextTelling_0 : decode cL_nextTelling 0 = .ok (.aload_n 2, 1) := by decide +kernel
theorem dL_nextTelling_1 : decode cL_nextTelling 1 = .ok (.iconst 0, 1) := by decide +kernel
theorem dL_nextTelling_2 : decode cL_nextTelling 2 = .ok (.aload_n 0, 1) := by decide +kernel
theorem dL_nextTelling_3 : decode cL_nextTelling 3 = .ok (.iload_n 1, 1) := by decide +kernel
theorem dL_nextTelling_4 : decode cL_nextTelling 4 = .ok (.invokevirtual 46, 3) := by decide +kernel
theorem dL_nextTelling_7 : decode cL_nextTelling 7 = .ok (.i2l, 1) := by decide +kernel
theorem dL_nextTelling_8 : decode cL_nextTelling 8 = .ok (.lastore, 1) := by decide +kernel
theorem dL_nextTelling_9 : decode cL_nextTelling 9 = .ok (.goto 6, 3) := by decide +kernel
theorem dL_nextTelling_12 : decode cL_nextTelling 12 = .ok (.astore_n 3, 1) := by decide +kernel
theorem dL_nextTelling_13 : decode cL_nextTelling 13 = .ok (.iconst 1, 1) := by decide +kernel
theorem dL_nextTelling_14 : decode cL_nextTelling 14 = .ok (.ireturn, 1) := by decide +kernel
theorem dL_nextTelling_15 : decode cL_nextTelling 15 = .ok (.iconst 0, 1) := by decide +kernel
theorem dL_nextTelling_16 : decode cL_nextTelling 16 = .ok (.ireturn, 1) := by decide +kernel
set_option maxRecDepth 20000 in
theorem ggL_heard_X0_heard : GoodIn wsL_heard wsX0_heard := goodIn_ca (goodIn_r _ [6, 7, 8, 9, 5, 10, 11, 12, 13, 14, 15, 16, 17, 18, 19, 20, 21, 22, 23, 24, 25, 26, 27, 28, 29, 30, 31, 32, 33, 34, 35] (by decide +kernel) (by decide +kernel)) (goodIn_sub (fun _ h => List.mem_cons_of_mem _ (List.mem_append_right _ h)) (by decide +kernel))
set_option maxRecDepth 20000 in
theorem gL_heard_X0_heard : GoodIn wsL_heard (wsV RL 49 RX0 yX0_heard wsX0_heard) := goodIn_app (goodIn_of _ (by decide +kernel)) ggL_heard_X0_heard
theorem dL_heard_0 : decode cL_heard 0 = .ok (.aload_n 3, 1) := by decide +kernel
theorem dL_heard_1 : decode cL_heard 1 = .ok (.iconst 0, 1) := by decide +kernel
theorem dL_heard_2 : decode cL_heard 2 = .ok (.aload_n 0, 1) := by decide +kernel
theorem dL_heard_3 : decode cL_heard 3 = .ok (.iload_n 1, 1) := by decide +kernel
theorem dL_heard_4 : decode cL_heard 4 = .ok (.iload_n 2, 1) := by decide +kernel
theorem dL_heard_5 : decode cL_heard 5 = .ok (.invokevirtual 49, 3) := by decide +kernel
theorem dL_heard_8 : decode cL_heard 8 = .ok (.i2l, 1) := by decide +kernel
theorem dL_heard_9 : decode cL_heard 9 = .ok (.lastore, 1) := by decide +kernel
theorem dL_heard_10 : decode cL_heard 10 = .ok (.goto 7, 3) := by decide +kernel
