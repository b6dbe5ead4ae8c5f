theorem dL_heard_13 : decode cL_heard 13 = .ok (.astore 4, 2) := by decide +kernel
theorem dL_heard_15 : decode cL_heard 15 = .ok (.iconst 1, 1) := by decide +kernel
theorem dL_heard_16 : decode cL_heard 16 = .ok (.ireturn, 1) := by decide +kernel
theorem dL_heard_17 : decode cL_heard 17 = .ok (.iconst 0, 1) := by decide +kernel
theorem dL_heard_18 : decode cL_heard 18 = .ok (.ireturn, 1) := by decide +kernel
set_option maxRecDepth 20000 in
theorem ggL_leastRank_X0_leastRank : GoodIn wsL_leastRank wsX0_leastRank := goodIn_ca (goodIn_r _ [6, 7, 8, 9, 10, 5, 11, 12, 13, 14, 15, 16, 17, 18, 19, 20, 21, 22, 23, 24, 25, 26, 27, 28, 29, 30, 31, 32, 33, 34, 35, 36, 37, 38, 39, 40, 41, 42, 43, 44, 45] (by decide +kernel) (by decide +kernel)) (goodIn_sub (fun _ h => List.mem_cons_of_mem _ (List.mem_append_right _ h)) (by decide +kernel))
set_option maxRecDepth 20000 in
theorem gL_leastRank_X0_leastRank : GoodIn wsL_leastRank (wsV RL 53 RX0 yX0_leastRank wsX0_leastRank) := goodIn_app (goodIn_of _ (by decide +kernel)) ggL_leastRank_X0_leastRank
theorem dL_leastRank_0 : decode cL_leastRank 0 = .ok (.aload_n 2, 1) := by decide +kernel
theorem dL_leastRank_1 : decode cL_leastRank 1 = .ok (.iconst 0, 1) := by decide +kernel
theorem dL_leastRank_2 : decode cL_leastRank 2 = .ok (.aload_n 0, 1) := by decide +kernel
theorem dL_leastRank_3 : decode cL_leastRank 3 = .ok (.iload_n 1, 1) := by decide +kernel
theorem dL_leastRank_4 : decode cL_leastRank 4 = .ok (.invokevirtual 53, 3) := by decide +kernel
theorem dL_leastRank_7 : decode cL_leastRank 7 = .ok (.i2l, 1) := by decide +kernel
theorem dL_leastRank_8 : decode cL_leastRank 8 = .ok (.lastore, 1) := by decide +kernel
theorem dL_leastRank_9 : decode cL_leastRank 9 = .ok (.goto 6, 3) := by decide +kernel
theorem dL_leastRank_12 : decode cL_leastRank 12 = .ok (.astore_n 3, 1) := by decide +kernel
theorem dL_leastRank_13 : decode cL_leastRank 13 = .ok (.iconst 1, 1) := by decide +kernel
theorem dL_leastRank_14 : decode cL_leastRank 14 = .ok (.ireturn, 1) := by decide +kernel
theorem dL_leastRank_15 : decode cL_leastRank 15 = .ok (.iconst 0, 1) := by decide +kernel
theorem dL_leastRank_16 : decode cL_leastRank 16 = .ok (.ireturn, 1) := by decide +kernel
set_option maxRecDepth 20000 in
theorem ggL_up_X0_up : GoodIn wsL_up wsX0_up := goodIn_ca (goodIn_r _ [6, 7, 8, 9, 10, 11, 12, 5, 13, 14, 15, 16, 17, 18, 19, 20, 21, 22, 23, 24, 25, 26, 27, 28, 29, 30, 31, 32, 33, 34, 35, 36, 37, 38] (by decide +kernel) (by decide +kernel)) (goodIn_sub (fun _ h => List.mem_cons_of_mem _ (List.mem_append_right _ h)) (by decide +kernel))
set_option maxRecDepth 20000 in
theorem gL_up_X0_up : GoodIn wsL_up (wsV RL 56 RX0 yX0_up wsX0_up) := goodIn_app (goodIn_of _ (by decide +kernel)) ggL_up_X0_up
theorem dL_up_0 : decode cL_up 0 = .ok (.aload_n 2, 1) := by decide +kernel
theorem dL_up_1 : decode cL_up 1 = .ok (.iconst 0, 1) := by decide +kernel
theorem dL_up_2 : decode cL_up 2 = .ok (.aload_n 0, 1) := by decide +kernel
theorem dL_up_3 : decode cL_up 3 = .ok (.iload_n 1, 1) := by decide +kernel
theorem dL_up_4 : decode cL_up 4 = .ok (.invokevirtual 56, 3) := by decide +kernel
theorem dL_up_7 : decode cL_up 7 = .ok (.i2l, 1) := by decide +kernel
theorem dL_up_8 : decode cL_up 8 = .ok (.lastore, 1) := by decide +kernel
theorem dL_up_9 : decode cL_up 9 = .ok (.goto 6, 3) := by decide +kernel
theorem dL_up_12 : decode cL_up 12 = .ok (.astore_n 3, 1) := by decide +kernel
theorem dL_up_13 : decode cL_up 13 = .ok (.iconst 1, 1) := by decide +kernel
theorem dL_up_14 : decode cL_up 14 = .ok (.ireturn, 1) := by decide +kernel
theorem dL_up_15 : decode cL_up 15 = .ok (.iconst 0, 1) := by decide +kernel
theorem dL_up_16 : decode cL_up 16 = .ok (.ireturn, 1) := by decide +kernel
set_option maxRecDepth 20000 in
theorem ggL_below_X0_below : GoodIn wsL_below wsX0_below := goodIn_ca (goodIn_r _ [6, 7, 8, 5, 9, 10, 11, 12, 13, 14, 15, 16, 17, 18, 19, 20, 21, 22, 23, 24, 25, 26, 27, 28, 29, 30, 31, 32, 33, 34, 35, 36, 37, 38, 39] (by decide +kernel) (by decide +kernel)) (goodIn_sub (fun _ h => List.mem_cons_of_mem _ (List.mem_append_right _ h)) (by decide +kernel))
set_option maxRecDepth 20000 in
theorem gL_below_X0_below : GoodIn wsL_below (wsV RL 59 RX0 yX0_below wsX0_below) := goodIn_app (goodIn_of _ (by decide +kernel)) ggL_below_X0_below
theorem dL_below_0 : decode cL_below 0 = .ok (.aload_n 2, 1) := by decide +kernel
theorem dL_below_1 : decode cL_below 1 = .ok (.iconst 0, 1) := by decide +kernel
theorem dL_below_2 : decode cL_below 2 = .ok (.aload_n 0, 1) := by decide +kernel
theorem dL_below_3 : decode cL_below 3 = .ok (.iload_n 1, 1) := by decide +kernel
theorem dL_below_4 : decode cL_below 4 = .ok (.invokevirtual 59, 3) := by decide +kernel
theorem dL_below_7 : decode cL_below 7 = .ok (.i2l, 1) := by decide +kernel
theorem dL_below_8 : decode cL_below 8 = .ok (.lastore, 1) := by decide +kernel
theorem dL_below_9 : decode cL_below 9 = .ok (.goto 6, 3) := by decide +kernel
theorem dL_below_12 : decode cL_below 12 = .ok (.astore_n 3, 1) := by decide +kernel
theorem dL_below_13 : decode cL_below 13 = .ok (.iconst 1, 1) := by decide +kernel
theorem dL_below_14 : decode cL_below 14 = .ok (.ireturn, 1) := by decide +kernel
theorem dL_below_15 : decode cL_below 15 = .ok (.iconst 0, 1) := by decide +kernel
theorem dL_below_16 : decode cL_below 16 = .ok (.ireturn, 1) := by decide +kernel
set_option maxRecDepth 20000 in
theorem ggL_down_X0_down : GoodIn wsL_down wsX0_down := goodIn_ca (goodIn_ca (goodIn_r _ [7, 8, 9, 10, 11, 12, 6, 13, 14, 15, 16, 17, 18, 19, 20, 21, 22, 23, 24, 25, 26, 27, 28, 29, 30, 31, 32, 33, 34, 35, 36, 37, 38] (by decide +kernel) (by decide +kernel)) (goodIn_sub (fun _ h => List.mem_cons_of_mem _ (List.mem_append_left _ (List.mem_append_right _ h))) (by decide +kernel))) (goodIn_sub (fun _ h => List.mem_cons_of_mem _ (List.mem_append_right _ h)) (by decide +kernel))
set_option maxRecDepth 20000 in
theorem gL_down_X0_down : GoodIn wsL_down (wsV RL 62 RX0 yX0_down wsX0_down) := goodIn_app (goodIn_of _ (by decide +kernel)) ggL_down_X0_down
theorem dL_down_0 : decode cL_down 0 = .ok (.aload_n 3, 1) := by decide +kernel
theorem dL_down_1 : decode cL_down 1 = .ok (.iconst 0, 1) := by decide +kernel
theorem dL_down_2 : decode cL_down 2 = .ok (.aload_n 0, 1) := by decide +kernel
theorem dL_down_3 : decode cL_down 3 = .ok (.iload_n 1, 1) := by decide +kernel
theorem dL_down_4 : decode cL_down 4 = .ok (.iload_n 2, 1) := by decide +kernel
theorem dL_down_5 : decode cL_down 5 = .ok (.invokevirtual 62, 3) := by decide +kernel
theorem dL_down_8 : decode cL_down 8 = .ok (.i2l, 1) := by decide +kernel
theorem dL_down_9 : decode cL_down 9 = .ok (.lastore, 1) := by decide +kernel
theorem dL_down_10 : decode cL_down 10 = .ok (.goto 11, 3) := by decide +kernel
theorem dL_down_13 : decode cL_down 13 = .ok (.astore 4, 2) := by decide +kernel
theorem dL_down_15 : decode cL_down 15 = .ok (.iconst 1, 1) := by decide +kernel
theorem dL_down_16 : decode cL_down 16 = .ok (.ireturn, 1) := by decide +kernel
theorem dL_down_17 : decode cL_down 17 = .ok (.astore 4, 2) := by decide +kernel
theorem dL_down_19 : decode cL_down 19 = .ok (.iconst 2, 1) := by decide +kernel
theorem dL_down_20 : decode cL_down 20 = .ok (.ireturn, 1) := by decide +kernel
theorem dL_down_21 : decode cL_down 21 = .ok (.iconst 0, 1) := by decide +kernel
theorem dL_down_22 : decode cL_down 22 = .ok (.ireturn, 1) := by decide +kernel
set_option maxRecDepth 20000 in
theorem ggL_law_X0_init : GoodIn wsL_law wsX0_init := goodIn_r _ [9, 10, 11, 12, 13, 14, 15, 16, 17, 18, 19, 20, 21, 22, 23, 24, 25, 26, 27, 28, 29, 30, 31, 32, 33, 34, 35, 36, 37, 38, 2, 39, 40, 41, 42, 43, 44, 45, 46, 47, 395, 396, 397, 398, 399, 400, 401, 402, 403, 404, 405, 406, 407, 408, 409, 410, 411, 412, 413, 414] (by decide +kernel) (by decide +kernel)
set_option maxRecDepth 20000 in
theorem gL_law_X0_init : GoodIn wsL_law (wsX0_init) := ggL_law_X0_init
set_option maxRecDepth 20000 in
theorem ggL_law_X1_init : GoodIn wsL_law wsX1_init := goodIn_r _ [50, 51, 11, 12, 52, 53, 54, 20, 55, 25, 56, 57, 58, 59, 60, 61, 62, 63, 64, 65, 66, 67, 68, 415, 416, 417, 418, 419, 420, 421, 422, 423, 424, 425, 426, 427, 428, 429, 430, 431, 432, 433, 434, 435] (by decide +kernel) (by decide +kernel)
set_option maxRecDepth 20000 in
theorem gL_law_X1_init : GoodIn wsL_law (wsX1_init) := ggL_law_X1_init
set_option maxRecDepth 20000 in
theorem ggL_law_L_setRules : GoodIn wsL_law wsL_setRules := goodIn_ca (goodIn_r _ [72, 73, 74, 75, 76, 2, 77, 13, 14, 15, 16, 78, 79, 80, 81, 82, 395, 396, 397, 398, 399, 400, 401, 402, 403, 404, 405, 406, 407, 408, 409, 410, 411, 412, 413, 414] (by decide +kernel) (by decide +kernel)) (goodIn_sub (fun _ h => List.mem_append_left _ (List.mem_append_left _ (List.mem_append_right _ h))) (by decide +kernel))
set_option maxRecDepth 20000 in
theorem gL_law_L_setRules : GoodIn wsL_law (va_wsS RL 69 yL_setRules wsL_setRules) := goodIn_app (goodIn_of _ (by decide +kernel)) ggL_law_L_setRules
set_option maxRecDepth 20000 in
theorem ggL_law_X1_setRules : GoodIn wsL_law wsX1_setRules := goodIn_r _ [86, 87, 52, 53, 54, 88, 89, 5, 90, 91, 92, 93, 94, 95, 415, 416, 417, 418, 419, 420, 421, 422, 423, 424, 425, 426, 427, 428, 429, 430, 431, 432, 433, 434, 435] (by decide +kernel) (by decide +kernel)
set_option maxRecDepth 20000 in
theorem gL_law_X1_setRules : GoodIn wsL_law (wsV RL 74 RX1 yX1_setRules wsX1_setRules) := goodIn_app (goodIn_of _ (by decide +kernel)) ggL_law_X1_setRules
set_option maxRecDepth 20000 in
theorem ggL_law_X1_thrown : GoodIn wsL_law wsX1_thrown := goodIn_r _ [99, 95, 415, 416, 417, 418, 419, 420, 421, 422, 423, 424, 425, 426, 427, 428, 429, 430, 431, 432, 433, 434, 435] (by decide +kernel) (by decide +kernel)
set_option maxRecDepth 20000 in
theorem gL_law_X1_thrown : GoodIn wsL_law (wsV RL 75 RX1 yX1_thrown wsX1_thrown) := goodIn_app (goodIn_of _ (by decide +kernel)) ggL_law_X1_thrown
set_option maxRecDepth 20000 in
theorem ggL_law_L_link : GoodIn wsL_law wsL_link := goodIn_ca (goodIn_ca (goodIn_r _ [102, 103, 73, 104, 105, 106, 2, 107, 81, 82, 21, 108, 109, 110, 111, 112, 113, 114, 115, 78, 79, 80, 44, 45, 46, 47, 22, 23, 24, 116, 117, 118, 119, 26, 32, 120, 121, 122, 123, 124, 125, 126, 127, 128, 129, 130, 131, 132, 133, 134, 135, 28, 29, 136, 137, 138, 139, 30, 31, 14, 140, 141, 142, 143, 144, 145, 146, 147, 40, 41, 42, 43, 33, 15, 34, 17, 148, 149, 150, 151, 13, 152, 153, 154, 155, 156, 157, 158, 159, 395, 396, 397, 398, 399, 400, 401, 402, 403, 404, 405, 406, 407, 408, 409, 410, 411, 412, 413, 414] (by decide +kernel) (by decide +kernel)) (goodIn_sub (fun _ h => List.mem_append_left _ (List.mem_append_left _ (List.mem_append_right _ h))) (by decide +kernel))) (goodIn_sub (fun _ h => List.mem_append_left _ (List.mem_append_right _ h)) (by decide +kernel))
set_option maxRecDepth 20000 in
theorem gL_law_L_link : GoodIn wsL_law (va_wsS RL 79 yL_link wsL_link) := goodIn_app (goodIn_of _ (by decide +kernel)) ggL_law_L_link
set_option maxRecDepth 20000 in
theorem ggL_law_X1_link : GoodIn wsL_law wsX1_link := goodIn_r _ [163, 55, 67, 164, 165, 5, 166, 88, 89, 90, 91, 92, 93, 94, 95, 167, 168, 169, 170, 56, 61, 87, 58, 59, 60, 171, 172, 173, 174, 65, 66, 62, 52, 175, 176, 177, 178, 179, 180, 181, 182, 183, 184, 185, 186, 63, 53, 64, 187, 415, 416, 417, 418, 419, 420, 421, 422, 423, 424, 425, 426, 427, 428, 429, 430, 431, 432, 433, 434, 435] (by decide +kernel) (by decide +kernel)
set_option maxRecDepth 20000 in
theorem gL_law_X1_link : GoodIn wsL_law (wsV RL 82 RX1 yX1_link wsX1_link) := goodIn_app (goodIn_of _ (by decide +kernel)) ggL_law_X1_link
set_option maxRecDepth 20000 in
theorem ggL_law_L_makeRoot : GoodIn wsL_law wsL_makeRoot := goodIn_ca (goodIn_ca (goodIn_r _ [190, 103, 191, 192, 193, 194, 2, 195, 196, 197, 26, 28, 30, 31, 32, 108, 109, 110, 111, 112, 113, 114, 115, 198, 199, 200, 201, 27, 29, 40, 41, 42, 43, 33, 15, 34, 17, 395, 396, 397, 398, 399, 400, 401, 402, 403, 404, 405, 406, 407, 408, 409, 410, 411, 412, 413, 414] (by decide +kernel) (by decide +kernel)) (goodIn_sub (fun _ h => List.mem_append_right _ h) (by decide +kernel))) (goodIn_sub (fun _ h => List.mem_append_left _ (List.mem_append_right _ h)) (by decide +kernel))
set_option maxRecDepth 20000 in
theorem gL_law_L_makeRoot : GoodIn wsL_law (va_wsS RL 83 yL_makeRoot wsL_makeRoot) := goodIn_app (goodIn_of _ (by decide +kernel)) ggL_law_L_makeRoot
set_option maxRecDepth 20000 in
theorem ggL_law_X1_makeRoot : GoodIn wsL_law wsX1_makeRoot := goodIn_r _ [205, 56, 59, 164, 165, 5, 166, 88, 89, 90, 91, 92, 93, 94, 95, 206, 207, 208, 209, 57, 58, 60, 61, 62, 183, 184, 185, 186, 63, 53, 64, 187, 415, 416, 417, 418, 419, 420, 421, 422, 423, 424, 425, 426, 427, 428, 429, 430, 431, 432, 433, 434, 435] (by decide +kernel) (by decide +kernel)
set_option maxRecDepth 20000 in
theorem gL_law_X1_makeRoot : GoodIn wsL_law (wsV RL 86 RX1 yX1_makeRoot wsX1_makeRoot) := goodIn_app (goodIn_of _ (by decide +kernel)) ggL_law_X1_makeRoot
set_option maxRecDepth 20000 in
theorem ggL_law_L_endRoot : GoodIn wsL_law wsL_endRoot := goodIn_ca (goodIn_ca (goodIn_r _ [212, 103, 191, 213, 214, 215, 2, 216, 26, 217, 218, 219, 220, 196, 197, 108, 109, 110, 111, 112, 113, 114, 115, 36, 37, 38, 39, 28, 29, 30, 31, 32, 40, 41, 42, 43, 33, 15, 34, 17, 116, 117, 118, 119, 120, 121, 122, 123, 124, 125, 126, 127, 24, 21, 128, 129, 130, 131, 132, 133, 134, 135, 22, 23, 136, 137, 138, 139, 14, 140, 141, 142, 143, 144, 145, 146, 147, 148, 149, 150, 151, 13, 152, 153, 154, 155, 156, 157, 158, 159, 395, 396, 397, 398, 399, 400, 401, 402, 403, 404, 405, 406, 407, 408, 409, 410, 411, 412, 413, 414] (by decide +kernel) (by decide +kernel)) (goodIn_sub (fun _ h => List.mem_append_right _ h) (by decide +kernel))) (goodIn_sub (fun _ h => List.mem_append_left _ (List.mem_append_right _ h)) (by decide +kernel))
set_option maxRecDepth 20000 in
theorem gL_law_L_endRoot : GoodIn wsL_law (va_wsS RL 87 yL_endRoot wsL_endRoot) := goodIn_app (goodIn_of _ (by decide +kernel)) ggL_law_L_endRoot
set_option maxRecDepth 20000 in
theorem ggL_law_X1_endRoot : GoodIn wsL_law wsX1_endRoot := goodIn_r _ [224, 56, 58, 59, 60, 164, 165, 5, 166, 88, 89, 90, 91, 92, 93, 94, 95, 183, 184, 185, 186, 63, 53, 64, 187, 167, 168, 169, 170, 61, 87, 171, 172, 173, 174, 67, 65, 66, 62, 52, 175, 176, 177, 178, 55, 179, 180, 181, 182, 415, 416, 417, 418, 419, 420, 421, 422, 423, 424, 425, 426, 427, 428, 429, 430, 431, 432, 433, 434, 435] (by decide +kernel) (by decide +kernel)
set_option maxRecDepth 20000 in
theorem gL_law_X1_endRoot : GoodIn wsL_law (wsV RL 90 RX1 yX1_endRoot wsX1_endRoot) := goodIn_app (goodIn_of _ (by decide +kernel)) ggL_law_X1_endRoot
set_option maxRecDepth 20000 in
theorem ggL_law_L_renew : GoodIn wsL_law wsL_renew := goodIn_ca (goodIn_ca (goodIn_r _ [227, 103, 191, 228, 229, 230, 2, 231, 217, 218, 219, 220, 196, 197, 26, 108, 109, 110, 111, 112, 113, 114, 115, 198, 199, 200, 201, 27, 29, 40, 41, 42, 43, 33, 15, 34, 17, 395, 396, 397, 398, 399, 400, 401, 402, 403, 404, 405, 406, 407, 408, 409, 410, 411, 412, 413, 414] (by decide +kernel) (by decide +kernel)) (goodIn_sub (fun _ h => List.mem_append_right _ h) (by decide +kernel))) (goodIn_sub (fun _ h => List.mem_append_left _ (List.mem_append_right _ h)) (by decide +kernel))
set_option maxRecDepth 20000 in
theorem gL_law_L_renew : GoodIn wsL_law (va_wsS RL 91 yL_renew wsL_renew) := goodIn_app (goodIn_of _ (by decide +kernel)) ggL_law_L_renew
set_option maxRecDepth 20000 in
theorem ggL_law_X1_renew : GoodIn wsL_law wsX1_renew := goodIn_r _ [235, 56, 59, 164, 165, 5, 166, 88, 89, 90, 91, 92, 93, 94, 95, 206, 207, 208, 209, 57, 58, 60, 61, 62, 183, 184, 185, 186, 63, 53, 64, 187, 415, 416, 417, 418, 419, 420, 421, 422, 423, 424, 425, 426, 427, 428, 429, 430, 431, 432, 433, 434, 435] (by decide +kernel) (by decide +kernel)
set_option maxRecDepth 20000 in
theorem gL_law_X1_renew : GoodIn wsL_law (wsV RL 93 RX1 yX1_renew wsX1_renew) := goodIn_app (goodIn_of _ (by decide +kernel)) ggL_law_X1_renew
set_option maxRecDepth 20000 in
theorem ggL_law_L_pass : GoodIn wsL_law wsL_pass := goodIn_ca (goodIn_r _ [238, 73, 239, 240, 241, 2, 242, 78, 79, 80, 81, 82, 243, 244, 245, 246, 17, 34, 247, 248, 249, 250, 21, 22, 28, 23, 29, 24, 30, 116, 117, 118, 119, 26, 32, 120, 121, 122, 123, 124, 125, 126, 127, 128, 129, 130, 131, 132, 133, 134, 135, 136, 137, 138, 139, 31, 14, 140, 141, 142, 143, 113, 114, 115, 144, 145, 146, 147, 40, 41, 42, 43, 33, 15, 148, 149, 150, 151, 13, 152, 153, 154, 155, 156, 157, 158, 159, 251, 252, 253, 254, 16, 395, 396, 397, 398, 399, 400, 401, 402, 403, 404, 405, 406, 407, 408, 409, 410, 411, 412, 413, 414] (by decide +kernel) (by decide +kernel)) (goodIn_sub (fun _ h => List.mem_append_left _ (List.mem_append_left _ (List.mem_append_right _ h))) (by decide +kernel))
set_option maxRecDepth 20000 in
theorem gL_law_L_pass : GoodIn wsL_law (va_wsS RL 94 yL_pass wsL_pass) := goodIn_app (goodIn_of _ (by decide +kernel)) ggL_law_L_pass
set_option maxRecDepth 20000 in
theorem ggL_law_X1_pass : GoodIn wsL_law wsX1_pass := goodIn_r _ [258, 187, 64, 53, 54, 63, 88, 89, 5, 90, 91, 92, 93, 94, 95, 259, 260, 261, 262, 55, 65, 58, 66, 59, 67, 60, 167, 168, 169, 170, 56, 61, 87, 171, 172, 173, 174, 62, 52, 175, 176, 177, 178, 179, 180, 181, 182, 183, 184, 185, 186, 415, 416, 417, 418, 419, 420, 421, 422, 423, 424, 425, 426, 427, 428, 429, 430, 431, 432, 433, 434, 435] (by decide +kernel) (by decide +kernel)
set_option maxRecDepth 20000 in
theorem gL_law_X1_pass : GoodIn wsL_law (wsV RL 96 RX1 yX1_pass wsX1_pass) := goodIn_app (goodIn_of _ (by decide +kernel)) ggL_law_X1_pass
set_option maxRecDepth 20000 in
theorem ggL_law_X0_time : GoodIn wsL_law wsX0_time := goodIn_r _ [266, 17, 395, 396, 397, 398, 399, 400, 401, 402, 403, 404, 405, 406, 407, 408, 409, 410, 411, 412, 413, 414] (by decide +kernel) (by decide +kernel)
set_option maxRecDepth 20000 in
theorem gL_law_X0_time : GoodIn wsL_law (wsV RL 97 RX0 yX0_time wsX0_time) := goodIn_app (goodIn_of _ (by decide +kernel)) ggL_law_X0_time
set_option maxRecDepth 20000 in
theorem ggL_law_X1_time : GoodIn wsL_law wsX1_time := goodIn_r _ [270, 95, 187, 415, 416, 417, 418, 419, 420, 421, 422, 423, 424, 425, 426, 427, 428, 429, 430, 431, 432, 433, 434, 435] (by decide +kernel) (by decide +kernel)
set_option maxRecDepth 20000 in
theorem gL_law_X1_time : GoodIn wsL_law (wsV RL 100 RX1 yX1_time wsX1_time) := goodIn_app (goodIn_of _ (by decide +kernel)) ggL_law_X1_time
set_option maxRecDepth 20000 in
theorem ggL_law_L_rank : GoodIn wsL_law wsL_rank := goodIn_ca (goodIn_r _ [273, 103, 274, 275, 276, 2, 277, 30, 108, 109, 110, 111, 112, 113, 114, 115, 395, 396, 397, 398, 399, 400, 401, 402, 403, 404, 405, 406, 407, 408, 409, 410, 411, 412, 413, 414] (by decide +kernel) (by decide +kernel)) (goodIn_sub (fun _ h => List.mem_append_left _ (List.mem_append_right _ h)) (by decide +kernel))
set_option maxRecDepth 20000 in
theorem gL_law_L_rank : GoodIn wsL_law (va_wsS RL 101 yL_rank wsL_rank) := goodIn_app (goodIn_of _ (by decide +kernel)) ggL_law_L_rank
set_option maxRecDepth 20000 in
theorem ggL_law_X1_rank : GoodIn wsL_law wsX1_rank := goodIn_r _ [281, 60, 282, 283, 284, 5, 285, 164, 165, 166, 88, 89, 90, 91, 92, 93, 94, 95, 415, 416, 417, 418, 419, 420, 421, 422, 423, 424, 425, 426, 427, 428, 429, 430, 431, 432, 433, 434, 435] (by decide +kernel) (by decide +kernel)
set_option maxRecDepth 20000 in
theorem gL_law_X1_rank : GoodIn wsL_law (wsV RL 103 RX1 yX1_rank wsX1_rank) := goodIn_app (goodIn_of _ (by decide +kernel)) ggL_law_X1_rank
set_option maxRecDepth 20000 in
theorem ggL_law_L_parent : GoodIn wsL_law wsL_parent := goodIn_ca (goodIn_r _ [288, 103, 289, 290, 291, 2, 292, 32, 108, 109, 110, 111, 112, 113, 114, 115, 395, 396, 397, 398, 399, 400, 401, 402, 403, 404, 405, 406, 407, 408, 409, 410, 411, 412, 413, 414] (by decide +kernel) (by decide +kernel)) (goodIn_sub (fun _ h => List.mem_append_left _ (List.mem_append_right _ h)) (by decide +kernel))
set_option maxRecDepth 20000 in
theorem gL_law_L_parent : GoodIn wsL_law (va_wsS RL 104 yL_parent wsL_parent) := goodIn_app (goodIn_of _ (by decide +kernel)) ggL_law_L_parent
set_option maxRecDepth 20000 in
theorem ggL_law_X1_parent : GoodIn wsL_law wsX1_parent := goodIn_r _ [296, 61, 282, 283, 284, 5, 285, 164, 165, 166, 88, 89, 90, 91, 92, 93, 94, 95, 415, 416, 417, 418, 419, 420, 421, 422, 423, 424, 425, 426, 427, 428, 429, 430, 431, 432, 433, 434, 435] (by decide +kernel) (by decide +kernel)
set_option maxRecDepth 20000 in
theorem gL_law_X1_parent : GoodIn wsL_law (wsV RL 106 RX1 yX1_parent wsX1_parent) := goodIn_app (goodIn_of _ (by decide +kernel)) ggL_law_X1_parent
set_option maxRecDepth 20000 in
theorem ggL_law_L_tree : GoodIn wsL_law wsL_tree := goodIn_ca (goodIn_r _ [299, 103, 300, 301, 302, 2, 303, 28, 29, 108, 109, 110, 111, 112, 113, 114, 115, 395, 396, 397, 398, 399, 400, 401, 402, 403, 404, 405, 406, 407, 408, 409, 410, 411, 412, 413, 414] (by decide +kernel) (by decide +kernel)) (goodIn_sub (fun _ h => List.mem_append_left _ (List.mem_append_right _ h)) (by decide +kernel))
set_option maxRecDepth 20000 in
theorem gL_law_L_tree : GoodIn wsL_law (va_wsS RL 107 yL_tree wsL_tree) := goodIn_app (goodIn_of _ (by decide +kernel)) ggL_law_L_tree
set_option maxRecDepth 20000 in
theorem ggL_law_X1_tree : GoodIn wsL_law wsX1_tree := goodIn_r _ [307, 58, 59, 164, 165, 5, 166, 88, 89, 90, 91, 92, 93, 94, 95, 415, 416, 417, 418, 419, 420, 421, 422, 423, 424, 425, 426, 427, 428, 429, 430, 431, 432, 433, 434, 435] (by decide +kernel) (by decide +kernel)
set_option maxRecDepth 20000 in
theorem gL_law_X1_tree : GoodIn wsL_law (wsV RL 109 RX1 yX1_tree wsX1_tree) := goodIn_app (goodIn_of _ (by decide +kernel)) ggL_law_X1_tree
set_option maxRecDepth 20000 in
theorem ggL_law_L_nextTelling : GoodIn wsL_law wsL_nextTelling := goodIn_ca (goodIn_r _ [310, 103, 311, 312, 313, 2, 314, 34, 108, 109, 110, 111, 112, 113, 114, 115, 395, 396, 397, 398, 399, 400, 401, 402, 403, 404, 405, 406, 407, 408, 409, 410, 411, 412, 413, 414] (by decide +kernel) (by decide +kernel)) (goodIn_sub (fun _ h => List.mem_append_left _ (List.mem_append_right _ h)) (by decide +kernel))
set_option maxRecDepth 20000 in
theorem gL_law_L_nextTelling : GoodIn wsL_law (va_wsS RL 110 yL_nextTelling wsL_nextTelling) := goodIn_app (goodIn_of _ (by decide +kernel)) ggL_law_L_nextTelling
set_option maxRecDepth 20000 in
theorem ggL_law_X1_nextTelling : GoodIn wsL_law wsX1_nextTelling := goodIn_r _ [318, 64, 282, 283, 284, 5, 285, 164, 165, 166, 88, 89, 90, 91, 92, 93, 94, 95, 415, 416, 417, 418, 419, 420, 421, 422, 423, 424, 425, 426, 427, 428, 429, 430, 431, 432, 433, 434, 435] (by decide +kernel) (by decide +kernel)
set_option maxRecDepth 20000 in
theorem gL_law_X1_nextTelling : GoodIn wsL_law (wsV RL 112 RX1 yX1_nextTelling wsX1_nextTelling) := goodIn_app (goodIn_of _ (by decide +kernel)) ggL_law_X1_nextTelling
set_option maxRecDepth 20000 in
theorem ggL_law_L_heard : GoodIn wsL_law wsL_heard := goodIn_ca (goodIn_r _ [321, 103, 322, 323, 324, 2, 325, 24, 108, 109, 110, 111, 112, 113, 114, 115, 395, 396, 397, 398, 399, 400, 401, 402, 403, 404, 405, 406, 407, 408, 409, 410, 411, 412, 413, 414] (by decide +kernel) (by decide +kernel)) (goodIn_sub (fun _ h => List.mem_append_left _ (List.mem_append_right _ h)) (by decide +kernel))
set_option maxRecDepth 20000 in
theorem gL_law_L_heard : GoodIn wsL_law (va_wsS RL 113 yL_heard wsL_heard) := goodIn_app (goodIn_of _ (by decide +kernel)) ggL_law_L_heard
set_option maxRecDepth 20000 in
theorem ggL_law_X1_heard : GoodIn wsL_law wsX1_heard := goodIn_r _ [329, 67, 164, 165, 5, 166, 88, 89, 90, 91, 92, 93, 94, 95, 415, 416, 417, 418, 419, 420, 421, 422, 423, 424, 425, 426, 427, 428, 429, 430, 431, 432, 433, 434, 435] (by decide +kernel) (by decide +kernel)
set_option maxRecDepth 20000 in
theorem gL_law_X1_heard : GoodIn wsL_law (wsV RL 116 RX1 yX1_heard wsX1_heard) := goodIn_app (goodIn_of _ (by decide +kernel)) ggL_law_X1_heard
set_option maxRecDepth 20000 in
theorem ggL_law_L_leastRank : GoodIn wsL_law wsL_leastRank := goodIn_ca (goodIn_r _ [332, 103, 333, 334, 335, 2, 336, 35, 26, 108, 109, 110, 111, 112, 113, 114, 115, 337, 338, 339, 340, 21, 156, 157, 158, 159, 395, 396, 397, 398, 399, 400, 401, 402, 403, 404, 405, 406, 407, 408, 409, 410, 411, 412, 413, 414] (by decide +kernel) (by decide +kernel)) (goodIn_sub (fun _ h => List.mem_append_left _ (List.mem_append_right _ h)) (by decide +kernel))
set_option maxRecDepth 20000 in
theorem gL_law_L_leastRank : GoodIn wsL_law (va_wsS RL 117 yL_leastRank wsL_leastRank) := goodIn_app (goodIn_of _ (by decide +kernel)) ggL_law_L_leastRank
set_option maxRecDepth 20000 in
theorem ggL_law_X1_leastRank : GoodIn wsL_law wsX1_leastRank := goodIn_r _ [344, 68, 56, 55, 164, 165, 5, 166, 88, 89, 90, 91, 92, 93, 94, 95, 415, 416, 417, 418, 419, 420, 421, 422, 423, 424, 425, 426, 427, 428, 429, 430, 431, 432, 433, 434, 435] (by decide +kernel) (by decide +kernel)
set_option maxRecDepth 20000 in
theorem gL_law_X1_leastRank : GoodIn wsL_law (wsV RL 119 RX1 yX1_leastRank wsX1_leastRank) := goodIn_app (goodIn_of _ (by decide +kernel)) ggL_law_X1_leastRank
set_option maxRecDepth 20000 in
theorem ggL_law_L_up : GoodIn wsL_law wsL_up := goodIn_ca (goodIn_r _ [347, 103, 348, 349, 350, 2, 351, 26, 32, 30, 18, 108, 109, 110, 111, 112, 113, 114, 115, 395, 396, 397, 398, 399, 400, 401, 402, 403, 404, 405, 406, 407, 408, 409, 410, 411, 412, 413, 414] (by decide +kernel) (by decide +kernel)) (goodIn_sub (fun _ h => List.mem_append_left _ (List.mem_append_right _ h)) (by decide +kernel))
set_option maxRecDepth 20000 in
theorem gL_law_L_up : GoodIn wsL_law (va_wsS RL 120 yL_up wsL_up) := goodIn_app (goodIn_of _ (by decide +kernel)) ggL_law_L_up
set_option maxRecDepth 20000 in
theorem ggL_law_X1_up : GoodIn wsL_law wsX1_up := goodIn_r _ [355, 56, 61, 60, 356, 164, 165, 5, 166, 88, 89, 90, 91, 92, 93, 94, 95, 415, 416, 417, 418, 419, 420, 421, 422, 423, 424, 425, 426, 427, 428, 429, 430, 431, 432, 433, 434, 435] (by decide +kernel) (by decide +kernel)
set_option maxRecDepth 20000 in
theorem gL_law_X1_up : GoodIn wsL_law (wsV RL 122 RX1 yX1_up wsX1_up) := goodIn_app (goodIn_of _ (by decide +kernel)) ggL_law_X1_up
set_option maxRecDepth 20000 in
theorem ggL_law_X0_loops : GoodIn wsL_law wsX0_loops := goodIn_r _ [360, 18, 395, 396, 397, 398, 399, 400, 401, 402, 403, 404, 405, 406, 407, 408, 409, 410, 411, 412, 413, 414] (by decide +kernel) (by decide +kernel)
set_option maxRecDepth 20000 in
theorem gL_law_X0_loops : GoodIn wsL_law (wsV RL 123 RX0 yX0_loops wsX0_loops) := goodIn_app (goodIn_of _ (by decide +kernel)) ggL_law_X0_loops
set_option maxRecDepth 20000 in
theorem ggL_law_X1_loops : GoodIn wsL_law wsX1_loops := goodIn_r _ [364, 95, 356, 415, 416, 417, 418, 419, 420, 421, 422, 423, 424, 425, 426, 427, 428, 429, 430, 431, 432, 433, 434, 435] (by decide +kernel) (by decide +kernel)
set_option maxRecDepth 20000 in
theorem gL_law_X1_loops : GoodIn wsL_law (wsV RL 126 RX1 yX1_loops wsX1_loops) := goodIn_app (goodIn_of _ (by decide +kernel)) ggL_law_X1_loops
set_option maxRecDepth 20000 in
theorem ggL_law_L_below : GoodIn wsL_law wsL_below := goodIn_ca (goodIn_r _ [367, 103, 368, 369, 370, 2, 371, 108, 109, 110, 111, 112, 113, 114, 115, 372, 373, 374, 375, 32, 395, 396, 397, 398, 399, 400, 401, 402, 403, 404, 405, 406, 407, 408, 409, 410, 411, 412, 413, 414] (by decide +kernel) (by decide +kernel)) (goodIn_sub (fun _ h => List.mem_append_left _ (List.mem_append_right _ h)) (by decide +kernel))
set_option maxRecDepth 20000 in
theorem gL_law_L_below : GoodIn wsL_law (va_wsS RL 127 yL_below wsL_below) := goodIn_app (goodIn_of _ (by decide +kernel)) ggL_law_L_below
set_option maxRecDepth 20000 in
theorem ggL_law_X1_below : GoodIn wsL_law wsX1_below := goodIn_r _ [379, 164, 165, 5, 166, 88, 89, 90, 91, 92, 93, 94, 95, 380, 381, 382, 383, 61, 415, 416, 417, 418, 419, 420, 421, 422, 423, 424, 425, 426, 427, 428, 429, 430, 431, 432, 433, 434, 435] (by decide +kernel) (by decide +kernel)
set_option maxRecDepth 20000 in
theorem gL_law_X1_below : GoodIn wsL_law (wsV RL 129 RX1 yX1_below wsX1_below) := goodIn_app (goodIn_of _ (by decide +kernel)) ggL_law_X1_below
set_option maxRecDepth 20000 in
theorem ggL_law_L_down : GoodIn wsL_law wsL_down := goodIn_ca (goodIn_ca (goodIn_r _ [386, 103, 191, 387, 388, 389, 2, 390, 196, 197, 32, 108, 109, 110, 111, 112, 113, 114, 115, 395, 396, 397, 398, 399, 400, 401, 402, 403, 404, 405, 406, 407, 408, 409, 410, 411, 412, 413, 414] (by decide +kernel) (by decide +kernel)) (goodIn_sub (fun _ h => List.mem_append_right _ h) (by decide +kernel))) (goodIn_sub (fun _ h => List.mem_append_left _ (List.mem_append_right _ h)) (by decide +kernel))
set_option maxRecDepth 20000 in
theorem gL_law_L_down : GoodIn wsL_law (va_wsS RL 130 yL_down wsL_down) := goodIn_app (goodIn_of _ (by decide +kernel)) ggL_law_L_down
set_option maxRecDepth 20000 in
theorem ggL_law_X1_down : GoodIn wsL_law wsX1_down := goodIn_r _ [394, 61, 164, 165, 5, 166, 88, 89, 90, 380, 381, 382, 383, 91, 92, 93, 94, 95, 415, 416, 417, 418, 419, 420, 421, 422, 423, 424, 425, 426, 427, 428, 429, 430, 431, 432, 433, 434, 435] (by decide +kernel) (by decide +kernel)
set_option maxRecDepth 20000 in
theorem gL_law_X1_down : GoodIn wsL_law (wsV RL 132 RX1 yX1_down wsX1_down) := goodIn_app (goodIn_of _ (by decide +kernel)) ggL_law_X1_down
theorem dL_law_0 : decode cL_law 0 = .ok (.new 8, 3) := by decide +kernel
theorem dL_law_3 : decode cL_law 3 = .ok (.dup, 1) := by decide +kernel
theorem dL_law_4 : decode cL_law 4 = .ok (.invokespecial 65, 3) := by decide +kernel
theorem dL_law_7 : decode cL_law 7 = .ok (.astore_n 1, 1) := by decide +kernel
theorem dL_law_8 : decode cL_law 8 = .ok (.new 66, 3) := by decide +kernel
theorem dL_law_11 : decode cL_law 11 = .ok (.dup, 1) := by decide +kernel
theorem dL_law_12 : decode cL_law 12 = .ok (.invokespecial 68, 3) := by decide +kernel
theorem dL_law_15 : decode cL_law 15 = .ok (.astore_n 2, 1) := by decide +kernel
theorem dL_law_16 : decode cL_law 16 = .ok (.iconst 1, 1) := by decide +kernel
theorem dL_law_17 : decode cL_law 17 = .ok (.newarray .long, 2) := by decide +kernel
theorem dL_law_19 : decode cL_law 19 = .ok (.astore_n 3, 1) := by decide +kernel
theorem dL_law_20 : decode cL_law 20 = .ok (.iconst 0, 1) := by decide +kernel
theorem dL_law_21 : decode cL_law 21 = .ok (.istore 4, 2) := by decide +kernel
theorem dL_law_23 : decode cL_law 23 = .ok (.iload 4, 2) := by decide +kernel
theorem dL_law_25 : decode cL_law 25 = .ok (.aload_n 0, 1) := by decide +kernel
theorem dL_law_26 : decode cL_law 26 = .ok (.arraylength, 1) := by decide +kernel
theorem dL_law_27 : decode cL_law 27 = .ok (.iconst 5, 1) := by decide +kernel
theorem dL_law_28 : decode cL_law 28 = .ok (.isub, 1) := by decide +kernel
theorem dL_law_29 : decode cL_law 29 = .ok (.if_icmp .gt 1007, 3) := by decide +kernel
theorem dL_law_32 : decode cL_law 32 = .ok (.aload_n 0, 1) := by decide +kernel
theorem dL_law_33 : decode cL_law 33 = .ok (.iload 4, 2) := by decide +kernel
theorem dL_law_35 : decode cL_law 35 = .ok (.iaload, 1) := by decide +kernel
theorem dL_law_36 : decode cL_law 36 = .ok (.bipush 31, 2) := by decide +kernel
theorem dL_law_38 : decode cL_law 38 = .ok (.iand, 1) := by decide +kernel
theorem dL_law_39 : decode cL_law 39 = .ok (.tableswitch 991 0 16 #[81, 153, 233, 289, 325, 381, 437, 450, 506, 562, 618, 674, 742, 798, 854, 867, 923], 81) := by decide +kernel
theorem dL_law_120 : decode cL_law 120 = .ok (.aload_n 1, 1) := by decide +kernel
theorem dL_law_121 : decode cL_law 121 = .ok (.aload_n 0, 1) := by decide +kernel
