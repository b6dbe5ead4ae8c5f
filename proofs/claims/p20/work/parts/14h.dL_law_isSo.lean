theorem ggL_law_L_isSo_h : GoodIn wsL_law [Cond.code yL_isSo cL_isSo 8 (some .boolean)] := goodIn_r _ [47] (by decide +kernel) (by decide +kernel)
set_option maxRecDepth 20000 in
theorem ggL_law_L_isSo_r1 : GoodIn wsL_law wsL_isSo_r1 := goodIn_r _ [48, 49, 50, 2, 51, 14, 52, 53, 46, 54, 55, 56, 57, 58, 59, 26, 60, 61, 62, 63, 64, 65, 66, 67] (by decide +kernel) (by decide +kernel)
set_option maxRecDepth 20000 in
theorem ggL_law_L_isSo_r2 : GoodIn wsL_law wsL_isSo_r2 := goodIn_r _ [68, 69, 70, 71, 28, 72, 73, 74, 75, 24, 25, 76, 77, 78, 79, 30, 80, 81, 82, 83, 20, 84, 85, 86] (by decide +kernel) (by decide +kernel)
set_option maxRecDepth 20000 in
theorem ggL_law_L_isSo_r3 : GoodIn wsL_law wsL_isSo_r3 := goodIn_r _ [87, 31, 22, 88, 89, 90, 91, 17, 92, 93, 94, 95, 96, 97, 98, 99, 15, 100, 101, 102, 103, 104, 105, 106] (by decide +kernel) (by decide +kernel)
set_option maxRecDepth 20000 in
theorem ggL_law_L_isSo_r4 : GoodIn wsL_law wsL_isSo_r4 := goodIn_r _ [107, 108, 109, 110, 111, 112, 113, 114, 115, 116, 117, 118, 119, 120, 121, 122, 123, 124, 125, 126, 127, 128, 129, 130] (by decide +kernel) (by decide +kernel)
set_option maxRecDepth 20000 in
theorem ggL_law_L_isSo_r5 : GoodIn wsL_law wsL_isSo_r5 := goodIn_r _ [131, 132, 133, 134, 135, 10, 11, 12, 13, 136, 137, 138, 139, 140, 141, 142, 143, 144, 145, 146, 147, 148, 149, 150] (by decide +kernel) (by decide +kernel)
set_option maxRecDepth 20000 in
theorem ggL_law_L_isSo_r6 : GoodIn wsL_law wsL_isSo_r6 := goodIn_r _ [32, 33, 34, 35, 27, 36, 37, 38, 39, 29, 151, 152, 153, 154, 155, 156, 157, 158, 159, 160, 161, 162, 163, 164] (by decide +kernel) (by decide +kernel)
set_option maxRecDepth 20000 in
theorem ggL_law_L_isSo_r7 : GoodIn wsL_law wsL_isSo_r7 := goodIn_r _ [165, 166, 167, 168, 169, 170, 18, 19, 171, 172, 173, 174, 175, 176, 177, 178, 179, 180, 181, 182, 183, 184, 185, 186] (by decide +kernel) (by decide +kernel)
set_option maxRecDepth 20000 in
theorem ggL_law_L_isSo_r8 : GoodIn wsL_law wsL_isSo_r8 := goodIn_r _ [187, 188, 189, 190, 191, 192, 193, 194, 40, 41, 42, 43, 195, 196, 197, 198, 199, 200, 201, 202, 23, 203, 204, 205] (by decide +kernel) (by decide +kernel)
set_option maxRecDepth 20000 in
theorem ggL_law_L_isSo_r9 : GoodIn wsL_law wsL_isSo_r9 := goodIn_r _ [206, 207, 208, 209, 210, 211, 212, 213, 214, 215, 216, 217, 218, 219, 220, 221, 222, 223, 224, 225, 226] (by decide +kernel) (by decide +kernel)
set_option maxRecDepth 20000 in
theorem ggL_law_L_isSo_x : GoodIn wsL_law wsX00 := goodIn_r _ [246, 247, 248, 249, 250, 251, 252, 253, 254, 255, 256, 257, 258, 259, 260, 261, 262, 263, 264, 265] (by decide +kernel) (by decide +kernel)
set_option maxRecDepth 20000 in
theorem ggL_law_L_isSo : GoodIn wsL_law wsL_isSo := goodIn_ca (goodIn_ca (goodIn_ca (goodIn_cc ggL_law_L_isSo_h (goodIn_app (goodIn_app ggL_law_L_isSo_r1 (goodIn_app ggL_law_L_isSo_r2 (goodIn_app ggL_law_L_isSo_r3 (goodIn_app ggL_law_L_isSo_r4 (goodIn_app ggL_law_L_isSo_r5 (goodIn_app ggL_law_L_isSo_r6 (goodIn_app ggL_law_L_isSo_r7 (goodIn_app ggL_law_L_isSo_r8 ggL_law_L_isSo_r9)))))))) ggL_law_L_isSo_x)) (goodIn_sub (fun _ h => List.mem_append_left _ (List.mem_append_left _ (List.mem_append_right _ h))) (by decide +kernel))) (goodIn_sub (fun _ h => List.mem_append_left _ (List.mem_append_right _ h)) (by decide +kernel))) (goodIn_sub (fun _ h => List.mem_append_right _ h) (by decide +kernel))
set_option maxRecDepth 20000 in
theorem gL_law_L_isSo : GoodIn wsL_law (va_wsS RL 121 yL_isSo wsL_isSo) := goodIn_app (goodIn_of _ (by decide +kernel)) ggL_law_L_isSo
