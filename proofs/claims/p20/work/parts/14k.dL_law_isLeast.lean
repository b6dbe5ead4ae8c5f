set_option maxRecDepth 20000 in
theorem ggL_law_L_isLeast : GoodIn wsL_law wsL_isLeast := goodIn_ca (goodIn_r _ [245, 111, 112, 46, 113, 84, 85, 86, 2, 87, 31, 22, 60, 61, 62, 63, 64, 65, 66, 67, 88, 89, 90, 91, 17, 92, 93, 94, 95, 246, 247, 248, 249, 250, 251, 252, 253, 254, 255, 256, 257, 258, 259, 260, 261, 262, 263, 264, 265] (by decide +kernel) (by decide +kernel)) (goodIn_sub (fun _ h => List.mem_append_left _ (List.mem_append_left _ (List.mem_append_right _ h))) (by decide +kernel))
set_option maxRecDepth 20000 in
theorem gL_law_L_isLeast : GoodIn wsL_law (va_wsS RL 117 yL_isLeast wsL_isLeast) := goodIn_app (goodIn_of _ (by decide +kernel)) ggL_law_L_isLeast
