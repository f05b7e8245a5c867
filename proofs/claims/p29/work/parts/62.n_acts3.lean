set_option maxRecDepth 20000 in
theorem ggL_acts_L_ifPassed_h : GoodIn wsL_acts [Cond.codeWith yL_ifPassed cL_ifPassed 4 (some .int) [(0, 6, 7, 23)]] := goodIn_r _ [249] (by decide +kernel) (by decide +kernel)
set_option maxRecDepth 20000 in
theorem ggL_acts_L_ifPassed_r1 : GoodIn wsL_acts wsL_ifPassed_r1 := goodIn_r _ [103, 250, 251, 252, 9, 253, 254, 255, 256, 14, 15, 11, 12, 13, 257, 258, 259, 260, 261, 20, 262, 61, 62, 63] (by decide +kernel) (by decide +kernel)
set_option maxRecDepth 20000 in
theorem ggL_acts_L_ifPassed_r2 : GoodIn wsL_acts wsL_ifPassed_r2 := goodIn_r _ [64, 65, 66, 67, 68, 69, 70, 71, 72, 73, 74, 75, 76, 77, 78, 79, 80, 81, 82, 83, 84, 85, 86, 87] (by decide +kernel) (by decide +kernel)
set_option maxRecDepth 20000 in
theorem ggL_acts_L_ifPassed_r3 : GoodIn wsL_acts wsL_ifPassed_r3 := goodIn_r _ [88, 89, 90, 91, 92, 93, 94, 95, 263, 264, 265, 266, 267, 268, 269, 270, 271, 272, 273, 274, 275, 276, 277, 278] (by decide +kernel) (by decide +kernel)
set_option maxRecDepth 20000 in
theorem ggL_acts_L_ifPassed_r4 : GoodIn wsL_acts wsL_ifPassed_r4 := goodIn_r _ [279, 280, 281, 282, 283, 284, 285, 286, 287, 288, 289, 290, 291, 178, 179, 180, 181, 182, 183, 184, 185, 292, 293, 294] (by decide +kernel) (by decide +kernel)
set_option maxRecDepth 20000 in
theorem ggL_acts_L_ifPassed_r5 : GoodIn wsL_acts wsL_ifPassed_r5 := goodIn_r _ [295, 296, 297, 298, 299, 300, 301, 302, 303, 155, 156, 157, 158, 151, 152, 153, 154, 147, 148, 149, 150, 159, 160, 161] (by decide +kernel) (by decide +kernel)
set_option maxRecDepth 20000 in
theorem ggL_acts_L_ifPassed_r6 : GoodIn wsL_acts wsL_ifPassed_r6 := goodIn_r _ [162, 304, 305, 306, 307, 308, 171, 172, 173, 121, 122, 123, 124, 117, 118, 119, 120, 309, 175, 176, 177, 310, 311, 312] (by decide +kernel) (by decide +kernel)
set_option maxRecDepth 20000 in
theorem ggL_acts_L_ifPassed_r7 : GoodIn wsL_acts wsL_ifPassed_r7 := goodIn_r _ [313, 27, 28, 30, 23, 26, 36, 37, 38] (by decide +kernel) (by decide +kernel)
theorem ggL_acts_L_ifPassed : GoodIn wsL_acts wsL_ifPassed := (goodIn_ca (goodIn_ca (goodIn_ca (goodIn_ca (goodIn_app ggL_acts_L_ifPassed_h (goodIn_app ggL_acts_L_ifPassed_r1 (goodIn_app ggL_acts_L_ifPassed_r2 (goodIn_app ggL_acts_L_ifPassed_r3 (goodIn_app ggL_acts_L_ifPassed_r4 (goodIn_app ggL_acts_L_ifPassed_r5 (goodIn_app ggL_acts_L_ifPassed_r6 ggL_acts_L_ifPassed_r7))))))) (goodIn_sub (fun _ h => List.mem_cons_of_mem _ (List.mem_append_left _ (List.mem_append_left _ (List.mem_append_left _ (List.mem_append_left _ (List.mem_append_left _ (List.mem_append_left _ (List.mem_append_left _ (List.mem_append_right _ h))))))))) (by decide +kernel))) (goodIn_sub (fun _ h => List.mem_cons_of_mem _ (List.mem_append_left _ (List.mem_append_left _ (List.mem_append_left _ (List.mem_append_left _ (List.mem_append_left _ (List.mem_append_left _ (List.mem_append_right _ h)))))))) (by decide +kernel))) (goodIn_sub (fun _ h => List.mem_cons_of_mem _ (List.mem_append_left _ (List.mem_append_left _ (List.mem_append_left _ (List.mem_append_left _ (List.mem_append_left _ (List.mem_append_right _ h))))))) (by decide +kernel))) (goodIn_sub (fun _ h => List.mem_cons_of_mem _ (List.mem_append_left _ (List.mem_append_left _ (List.mem_append_right _ h)))) (by decide +kernel)))
set_option maxRecDepth 20000 in
theorem gL_acts_L_ifPassed : GoodIn wsL_acts (va_wsS RL 105 yL_ifPassed wsL_ifPassed) := goodIn_app (goodIn_of _ (by decide +kernel)) ggL_acts_L_ifPassed
