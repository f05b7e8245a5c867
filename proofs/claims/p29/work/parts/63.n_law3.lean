set_option maxRecDepth 20000 in
theorem ggL_law_L_undo_h : GoodIn wsL_law [Cond.codeWith yL_undo cL_undo 2 (some .int) [(0, 4, 5, 15)]] := goodIn_r _ [285] (by decide +kernel) (by decide +kernel)
set_option maxRecDepth 20000 in
theorem ggL_law_L_undo_r1 : GoodIn wsL_law wsL_undo_r1 := goodIn_r _ [286, 287, 288, 289, 2, 290, 291, 292, 20, 91, 12, 293, 294, 295, 19, 296, 297, 56, 298, 202, 203, 11, 204, 205] (by decide +kernel) (by decide +kernel)
set_option maxRecDepth 20000 in
theorem ggL_law_L_undo_r2 : GoodIn wsL_law wsL_undo_r2 := goodIn_r _ [206, 29, 207, 208, 209, 210, 30, 31, 32, 33, 34, 35, 36, 37, 38, 39, 43, 211, 212, 213, 42, 214, 215, 216] (by decide +kernel) (by decide +kernel)
set_option maxRecDepth 20000 in
theorem ggL_law_L_undo_r3 : GoodIn wsL_law wsL_undo_r3 := goodIn_r _ [137, 47, 217, 48, 49, 50] (by decide +kernel) (by decide +kernel)
theorem ggL_law_L_undo : GoodIn wsL_law wsL_undo := (goodIn_ca (goodIn_ca (goodIn_ca (goodIn_ca (goodIn_ca (goodIn_app ggL_law_L_undo_h (goodIn_app ggL_law_L_undo_r1 (goodIn_app ggL_law_L_undo_r2 ggL_law_L_undo_r3))) (goodIn_sub inlX4 (by decide +kernel))) (goodIn_sub inlX2 (by decide +kernel))) (goodIn_sub inlX0 (by decide +kernel))) (goodIn_sub inlX3 (by decide +kernel))) (goodIn_sub (fun _ h => (List.mem_append_right _ h)) (by decide +kernel)))
set_option maxRecDepth 20000 in
theorem gL_law_L_undo : GoodIn wsL_law (va_wsS RL 157 yL_undo wsL_undo) := goodIn_app (goodIn_of _ (by decide +kernel)) ggL_law_L_undo
set_option maxRecDepth 20000 in
theorem ggL_law_L_goBack_h : GoodIn wsL_law [Cond.codeWith yL_goBack cL_goBack 3 (some .int) [(0, 5, 6, 23), (0, 5, 10, 15)]] := goodIn_r _ [301] (by decide +kernel) (by decide +kernel)
set_option maxRecDepth 20000 in
theorem ggL_law_L_goBack_r1 : GoodIn wsL_law wsL_goBack_r1 := goodIn_r _ [99, 286, 302, 303, 304, 2, 305, 291, 292, 16, 20, 12, 14, 78, 306, 307, 308, 72, 73, 309, 310, 311, 19, 312] (by decide +kernel) (by decide +kernel)
set_option maxRecDepth 20000 in
theorem ggL_law_L_goBack_r2 : GoodIn wsL_law wsL_goBack_r2 := goodIn_r _ [297, 56, 313, 314, 315, 316, 298, 202, 203, 11, 204, 205, 206, 29, 207, 208, 209, 210, 30, 31, 32, 33, 34, 35] (by decide +kernel) (by decide +kernel)
set_option maxRecDepth 20000 in
theorem ggL_law_L_goBack_r3 : GoodIn wsL_law wsL_goBack_r3 := goodIn_r _ [36, 37, 38, 39, 43, 211, 212, 213, 42, 214, 215, 216, 137, 47, 217, 48, 49, 50, 201] (by decide +kernel) (by decide +kernel)
theorem ggL_law_L_goBack : GoodIn wsL_law wsL_goBack := (goodIn_ca (goodIn_ca (goodIn_ca (goodIn_ca (goodIn_ca (goodIn_ca (goodIn_app ggL_law_L_goBack_h (goodIn_app ggL_law_L_goBack_r1 (goodIn_app ggL_law_L_goBack_r2 ggL_law_L_goBack_r3))) (goodIn_sub inlX4 (by decide +kernel))) (goodIn_sub inlX0 (by decide +kernel))) (goodIn_sub inlX2 (by decide +kernel))) (goodIn_sub inlX3 (by decide +kernel))) (goodIn_sub (fun _ h => (List.mem_append_right _ h)) (by decide +kernel))) (goodIn_sub (fun _ h => (List.mem_append_left _ (List.mem_append_left _ (List.mem_append_right _ h)))) (by decide +kernel)))
set_option maxRecDepth 20000 in
theorem gL_law_L_goBack : GoodIn wsL_law (va_wsS RL 159 yL_goBack wsL_goBack) := goodIn_app (goodIn_of _ (by decide +kernel)) ggL_law_L_goBack
