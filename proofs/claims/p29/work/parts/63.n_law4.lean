set_option maxRecDepth 20000 in
theorem ggL_law_L_keep_h : GoodIn wsL_law [Cond.codeWith yL_keep cL_keep 3 (some .int) [(0, 5, 6, 23)]] := goodIn_r _ [319] (by decide +kernel) (by decide +kernel)
set_option maxRecDepth 20000 in
theorem ggL_law_L_keep_r1 : GoodIn wsL_law wsL_keep_r1 := goodIn_r _ [99, 320, 321, 322, 2, 323, 14, 12, 16, 78, 306, 307, 308, 72, 73, 201, 202, 203, 11, 204, 205, 206, 29, 207] (by decide +kernel) (by decide +kernel)
set_option maxRecDepth 20000 in
theorem ggL_law_L_keep_r2 : GoodIn wsL_law wsL_keep_r2 := goodIn_r _ [208, 209, 210, 30, 31, 32, 33, 34, 35, 36, 37, 38, 39, 43, 211, 212, 213, 42, 214, 215, 216, 137, 47, 217] (by decide +kernel) (by decide +kernel)
set_option maxRecDepth 20000 in
theorem ggL_law_L_keep_r3 : GoodIn wsL_law wsL_keep_r3 := goodIn_r _ [48, 49, 50] (by decide +kernel) (by decide +kernel)
theorem ggL_law_L_keep : GoodIn wsL_law wsL_keep := (goodIn_ca (goodIn_ca (goodIn_ca (goodIn_ca (goodIn_app ggL_law_L_keep_h (goodIn_app ggL_law_L_keep_r1 (goodIn_app ggL_law_L_keep_r2 ggL_law_L_keep_r3))) (goodIn_sub inlX4 (by decide +kernel))) (goodIn_sub inlX0 (by decide +kernel))) (goodIn_sub inlX3 (by decide +kernel))) (goodIn_sub (fun _ h => (List.mem_append_left _ (List.mem_append_left _ (List.mem_append_right _ h)))) (by decide +kernel)))
set_option maxRecDepth 20000 in
theorem gL_law_L_keep : GoodIn wsL_law (va_wsS RL 161 yL_keep wsL_keep) := goodIn_app (goodIn_of _ (by decide +kernel)) ggL_law_L_keep
