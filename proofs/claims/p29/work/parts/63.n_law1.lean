set_option maxRecDepth 20000 in
theorem ggL_law_L_holds_h : GoodIn wsL_law [Cond.code yL_holds cL_holds 9 (some .boolean)] := goodIn_r _ [64] (by decide +kernel) (by decide +kernel)
set_option maxRecDepth 20000 in
theorem ggL_law_L_holds_r1 : GoodIn wsL_law wsL_holds_r1 := goodIn_r _ [65, 66, 67, 2, 68, 69, 70, 71, 72, 73, 74, 75, 76, 77, 12, 78, 79, 80, 81, 82, 83, 84, 85, 86] (by decide +kernel) (by decide +kernel)
set_option maxRecDepth 20000 in
theorem ggL_law_L_holds_r2 : GoodIn wsL_law wsL_holds_r2 := goodIn_r _ [87, 88, 89, 90, 20, 91, 92, 93, 94, 95, 96, 63, 97, 98, 99, 100, 101, 102, 103, 104, 105, 106, 107, 108] (by decide +kernel) (by decide +kernel)
set_option maxRecDepth 20000 in
theorem ggL_law_L_holds_r3 : GoodIn wsL_law wsL_holds_r3 := goodIn_r _ [109, 110, 111, 112, 113, 114, 115, 116, 117, 118, 119, 11, 120, 35, 36, 37, 38, 39, 121, 122, 123, 124, 125, 126] (by decide +kernel) (by decide +kernel)
set_option maxRecDepth 20000 in
theorem ggL_law_L_holds_r4 : GoodIn wsL_law wsL_holds_r4 := goodIn_r _ [127, 128, 129, 130, 131, 132, 43, 133, 134, 135, 42, 136, 137, 138, 139, 140, 141, 142, 143, 144, 145, 146, 147, 148] (by decide +kernel) (by decide +kernel)
set_option maxRecDepth 20000 in
theorem ggL_law_L_holds_r5 : GoodIn wsL_law wsL_holds_r5 := goodIn_r _ [149, 150, 151, 30, 31, 32, 33, 34, 152, 153, 154, 155, 156, 157, 158, 159, 160, 161, 162, 163, 164, 165, 166, 167] (by decide +kernel) (by decide +kernel)
set_option maxRecDepth 20000 in
theorem ggL_law_L_holds_r6 : GoodIn wsL_law wsL_holds_r6 := goodIn_r _ [168, 169, 170, 171, 172, 173, 174, 175, 176, 177, 178, 179] (by decide +kernel) (by decide +kernel)
theorem ggL_law_L_holds : GoodIn wsL_law wsL_holds := (goodIn_ca (goodIn_ca (goodIn_ca (goodIn_ca (goodIn_ca (goodIn_ca (goodIn_app ggL_law_L_holds_h (goodIn_app ggL_law_L_holds_r1 (goodIn_app ggL_law_L_holds_r2 (goodIn_app ggL_law_L_holds_r3 (goodIn_app ggL_law_L_holds_r4 (goodIn_app ggL_law_L_holds_r5 ggL_law_L_holds_r6)))))) (goodIn_sub inlX4 (by decide +kernel))) (goodIn_sub inlX0 (by decide +kernel))) (goodIn_sub inlX3 (by decide +kernel))) (goodIn_sub inlX2 (by decide +kernel))) (goodIn_sub (fun _ h => (List.mem_append_left _ (List.mem_append_left _ (List.mem_append_right _ h)))) (by decide +kernel))) (goodIn_sub (fun _ h => (List.mem_append_left _ (List.mem_append_right _ h))) (by decide +kernel)))
set_option maxRecDepth 20000 in
theorem gL_law_L_holds : GoodIn wsL_law (va_wsS RL 150 yL_holds wsL_holds) := goodIn_app (goodIn_of _ (by decide +kernel)) ggL_law_L_holds
