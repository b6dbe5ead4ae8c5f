set_option maxRecDepth 20000 in
theorem ggL_isDone_L_isLeast : GoodIn wsL_isDone wsL_isLeast := goodIn_ca (goodIn_r _ [179, 9, 10, 3, 11, 180, 181, 182, 24, 183, 184, 39, 46, 47, 48, 49, 50, 51, 52, 53, 185, 186, 187, 188, 83, 114, 115, 116, 117, 189, 190, 191, 192, 193, 194, 195, 196, 197, 198, 199, 200, 201, 202, 203, 204, 205, 206, 207, 208] (by decide +kernel) (by decide +kernel)) (goodIn_sub (fun _ h => List.mem_cons_of_mem _ (List.mem_append_right _ h)) (by decide +kernel))
set_option maxRecDepth 20000 in
theorem gL_isDone_L_isLeast : GoodIn wsL_isDone (va_wsS RL 117 yL_isLeast wsL_isLeast) := goodIn_app (goodIn_of _ (by decide +kernel)) ggL_isDone_L_isLeast
