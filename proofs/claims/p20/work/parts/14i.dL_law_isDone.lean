theorem ggL_law_L_isDone_h : GoodIn wsL_law [Cond.code yL_isDone cL_isDone 13 (some .boolean)] := goodIn_r _ [229] (by decide +kernel) (by decide +kernel)
set_option maxRecDepth 20000 in
theorem ggL_law_L_isDone_r1 : GoodIn wsL_law wsL_isDone_r1 := goodIn_r _ [230, 231, 46, 232, 233, 234, 235, 236, 111, 112, 113, 124, 125, 126, 55, 127, 128, 129, 130, 131, 132, 133, 134, 2] (by decide +kernel) (by decide +kernel)
set_option maxRecDepth 20000 in
theorem ggL_law_L_isDone_r2 : GoodIn wsL_law wsL_isDone_r2 := goodIn_r _ [135, 10, 11, 12, 13, 136, 137, 138, 139, 140, 141, 142, 143, 144, 22, 145, 146, 147, 148, 149, 150, 60, 61, 62] (by decide +kernel) (by decide +kernel)
set_option maxRecDepth 20000 in
theorem ggL_law_L_isDone_r3 : GoodIn wsL_law wsL_isDone_r3 := goodIn_r _ [63, 64, 65, 66, 67, 32, 33, 34, 35, 24, 25, 26, 27, 28, 36, 37, 38, 39, 29, 30, 14, 151, 152, 153] (by decide +kernel) (by decide +kernel)
set_option maxRecDepth 20000 in
theorem ggL_law_L_isDone_r4 : GoodIn wsL_law wsL_isDone_r4 := goodIn_r _ [154, 155, 156, 157, 158, 159, 160, 161, 162, 20, 17, 163, 164, 165, 166, 167, 168, 169, 170, 18, 19, 171, 172, 173] (by decide +kernel) (by decide +kernel)
set_option maxRecDepth 20000 in
theorem ggL_law_L_isDone_r5 : GoodIn wsL_law wsL_isDone_r5 := goodIn_r _ [174, 175, 176, 177, 178, 179, 180, 181, 182, 183, 184, 185, 186, 187, 188, 189, 190, 92, 93, 94, 95, 191, 192, 193] (by decide +kernel) (by decide +kernel)
set_option maxRecDepth 20000 in
theorem ggL_law_L_isDone_r6 : GoodIn wsL_law wsL_isDone_r6 := goodIn_r _ [194, 40, 41, 42, 43, 195, 196, 197, 198, 199, 200, 201, 202, 23, 203, 204, 205, 206, 207, 208, 209, 210, 211, 212] (by decide +kernel) (by decide +kernel)
set_option maxRecDepth 20000 in
theorem ggL_law_L_isDone_r7 : GoodIn wsL_law wsL_isDone_r7 := goodIn_r _ [213, 214, 215, 216, 217, 218, 219, 220, 221, 222, 223, 224, 225, 226, 80, 81, 82, 83, 237, 238, 239, 76, 77, 78] (by decide +kernel) (by decide +kernel)
set_option maxRecDepth 20000 in
theorem ggL_law_L_isDone_r8 : GoodIn wsL_law wsL_isDone_r8 := goodIn_r _ [79, 240, 241, 242, 56, 57, 58, 59, 243, 244, 245, 84, 85, 86, 87, 31, 88, 89, 90, 91] (by decide +kernel) (by decide +kernel)
set_option maxRecDepth 20000 in
theorem ggL_law_L_isDone_x : GoodIn wsL_law wsX00 := goodIn_r _ [246, 247, 248, 249, 250, 251, 252, 253, 254, 255, 256, 257, 258, 259, 260, 261, 262, 263, 264, 265] (by decide +kernel) (by decide +kernel)
set_option maxRecDepth 20000 in
theorem ggL_law_L_isDone : GoodIn wsL_law wsL_isDone := goodIn_ca (goodIn_ca (goodIn_ca (goodIn_cc ggL_law_L_isDone_h (goodIn_app (goodIn_app ggL_law_L_isDone_r1 (goodIn_app ggL_law_L_isDone_r2 (goodIn_app ggL_law_L_isDone_r3 (goodIn_app ggL_law_L_isDone_r4 (goodIn_app ggL_law_L_isDone_r5 (goodIn_app ggL_law_L_isDone_r6 (goodIn_app ggL_law_L_isDone_r7 ggL_law_L_isDone_r8))))))) ggL_law_L_isDone_x)) (goodIn_sub (fun _ h => List.mem_append_left _ (List.mem_append_right _ h)) (by decide +kernel))) (goodIn_sub (fun _ h => List.mem_append_right _ h) (by decide +kernel))) (goodIn_sub (fun _ h => List.mem_append_left _ (List.mem_append_left _ (List.mem_append_right _ h))) (by decide +kernel))
set_option maxRecDepth 20000 in
theorem gL_law_L_isDone : GoodIn wsL_law (va_wsS RL 125 yL_isDone wsL_isDone) := goodIn_app (goodIn_of _ (by decide +kernel)) ggL_law_L_isDone
