set_option maxRecDepth 20000 in
theorem ggL_law_L_look_h : GoodIn wsL_law [Cond.code yL_look cL_look 4 (some .long)] := goodIn_r _ [326] (by decide +kernel) (by decide +kernel)
set_option maxRecDepth 20000 in
theorem ggL_law_L_look_r1 : GoodIn wsL_law wsL_look_r1 := goodIn_r _ [327, 328, 65, 66, 67, 2, 68, 69, 70, 71, 72, 73, 74, 75, 76, 77, 12, 78, 79, 80, 81, 82, 83, 84] (by decide +kernel) (by decide +kernel)
set_option maxRecDepth 20000 in
theorem ggL_law_L_look_r2 : GoodIn wsL_law wsL_look_r2 := goodIn_r _ [85, 86, 87, 88, 89, 90, 20, 91, 92, 93, 94, 138, 139, 63, 140, 98, 99, 141, 142, 143, 144, 145, 146, 147] (by decide +kernel) (by decide +kernel)
set_option maxRecDepth 20000 in
theorem ggL_law_L_look_r3 : GoodIn wsL_law wsL_look_r3 := goodIn_r _ [108, 109, 148, 149, 150, 11, 151, 30, 31, 32, 33, 34, 152, 153, 154, 155, 35, 36, 156, 157, 158, 159, 95, 96] (by decide +kernel) (by decide +kernel)
set_option maxRecDepth 20000 in
theorem ggL_law_L_look_r4 : GoodIn wsL_law wsL_look_r4 := goodIn_r _ [97, 100, 101, 102, 103, 104, 105, 106, 107, 110, 111, 112, 113, 114, 115, 116, 117, 118, 119, 120, 37, 38, 39, 121] (by decide +kernel) (by decide +kernel)
set_option maxRecDepth 20000 in
theorem ggL_law_L_look_r5 : GoodIn wsL_law wsL_look_r5 := goodIn_r _ [122, 123, 124, 125, 126, 127, 128, 129, 130, 131, 132, 43, 133, 134, 135, 42, 136, 137, 329, 330, 331, 332, 333, 334] (by decide +kernel) (by decide +kernel)
set_option maxRecDepth 20000 in
theorem ggL_law_L_look_r6 : GoodIn wsL_law wsL_look_r6 := goodIn_r _ [335, 336, 337, 338, 339, 47, 48, 49, 50, 340, 341, 342, 343, 344, 345, 346, 347] (by decide +kernel) (by decide +kernel)
theorem ggL_law_L_look : GoodIn wsL_law wsL_look := (goodIn_ca (goodIn_ca (goodIn_ca (goodIn_ca (goodIn_ca (goodIn_ca (goodIn_app ggL_law_L_look_h (goodIn_app ggL_law_L_look_r1 (goodIn_app ggL_law_L_look_r2 (goodIn_app ggL_law_L_look_r3 (goodIn_app ggL_law_L_look_r4 (goodIn_app ggL_law_L_look_r5 ggL_law_L_look_r6)))))) (goodIn_sub inlX4 (by decide +kernel))) (goodIn_sub inlX0 (by decide +kernel))) (goodIn_sub inlX3 (by decide +kernel))) (goodIn_sub inlX2 (by decide +kernel))) (goodIn_sub (fun _ h => (List.mem_append_left _ (List.mem_append_left _ (List.mem_append_right _ h)))) (by decide +kernel))) (goodIn_sub (fun _ h => (List.mem_append_left _ (List.mem_append_right _ h))) (by decide +kernel)))
set_option maxRecDepth 20000 in
theorem gL_law_L_look : GoodIn wsL_law (va_wsS RL 163 yL_look wsL_look) := goodIn_app (goodIn_of _ (by decide +kernel)) ggL_law_L_look
set_option maxRecDepth 20000 in
theorem ggL_law_L_lot : GoodIn wsL_law wsL_lot := goodIn_r _ [350, 351] (by decide +kernel) (by decide +kernel)
set_option maxRecDepth 20000 in
theorem gL_law_L_lot : GoodIn wsL_law (va_wsS RL 167 yL_lot wsL_lot) := goodIn_app (goodIn_of _ (by decide +kernel)) ggL_law_L_lot
