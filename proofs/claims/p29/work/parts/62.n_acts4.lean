set_option maxRecDepth 20000 in
theorem ggL_acts_L_pass_h : GoodIn wsL_acts [Cond.codeWith yL_pass cL_pass 3 (some .int) [(0, 5, 6, 23), (0, 5, 10, 15)]] := goodIn_r _ [316] (by decide +kernel) (by decide +kernel)
set_option maxRecDepth 20000 in
theorem ggL_acts_L_pass_r1 : GoodIn wsL_acts wsL_pass_r1 := goodIn_r _ [103, 42, 317, 318, 319, 9, 320, 47, 48, 20, 21, 34, 27, 254, 255, 256, 14, 15, 49, 50, 51, 52, 53, 54] (by decide +kernel) (by decide +kernel)
set_option maxRecDepth 20000 in
theorem ggL_acts_L_pass_r2 : GoodIn wsL_acts wsL_pass_r2 := goodIn_r _ [55, 56, 57, 58, 59, 60, 61, 62, 63, 64, 65, 66, 67, 68, 69, 70, 71, 72, 73, 74, 75, 76, 77, 78] (by decide +kernel) (by decide +kernel)
set_option maxRecDepth 20000 in
theorem ggL_acts_L_pass_r3 : GoodIn wsL_acts wsL_pass_r3 := goodIn_r _ [79, 80, 81, 82, 83, 84, 85, 86, 87, 88, 89, 90, 91, 92, 93, 94, 95, 36, 37, 38, 263, 264, 265, 266] (by decide +kernel) (by decide +kernel)
set_option maxRecDepth 20000 in
theorem ggL_acts_L_pass_r4 : GoodIn wsL_acts wsL_pass_r4 := goodIn_r _ [267, 268, 269, 270, 271, 272, 273, 274, 275, 276, 277, 278, 279, 280, 281, 282, 283, 284, 285, 286, 287, 288, 289, 290] (by decide +kernel) (by decide +kernel)
set_option maxRecDepth 20000 in
theorem ggL_acts_L_pass_r5 : GoodIn wsL_acts wsL_pass_r5 := goodIn_r _ [291, 178, 179, 180, 181, 182, 183, 184, 185, 292, 293, 294, 295, 296, 297, 298, 299, 300, 301, 302, 303, 155, 156, 157] (by decide +kernel) (by decide +kernel)
set_option maxRecDepth 20000 in
theorem ggL_acts_L_pass_r6 : GoodIn wsL_acts wsL_pass_r6 := goodIn_r _ [158, 151, 152, 153, 154, 147, 148, 149, 150, 159, 160, 161, 162, 304, 305, 306, 307, 308, 171, 172, 173, 121, 122, 123] (by decide +kernel) (by decide +kernel)
set_option maxRecDepth 20000 in
theorem ggL_acts_L_pass_r7 : GoodIn wsL_acts wsL_pass_r7 := goodIn_r _ [124, 117, 118, 119, 120, 309, 175, 176, 177] (by decide +kernel) (by decide +kernel)
theorem ggL_acts_L_pass : GoodIn wsL_acts wsL_pass := (goodIn_ca (goodIn_ca (goodIn_ca (goodIn_ca (goodIn_ca (goodIn_ca (goodIn_app ggL_acts_L_pass_h (goodIn_app ggL_acts_L_pass_r1 (goodIn_app ggL_acts_L_pass_r2 (goodIn_app ggL_acts_L_pass_r3 (goodIn_app ggL_acts_L_pass_r4 (goodIn_app ggL_acts_L_pass_r5 (goodIn_app ggL_acts_L_pass_r6 ggL_acts_L_pass_r7))))))) (goodIn_sub (fun _ h => List.mem_cons_of_mem _ (List.mem_append_left _ (List.mem_append_left _ (List.mem_append_left _ (List.mem_append_left _ (List.mem_append_left _ (List.mem_append_left _ (List.mem_append_left _ (List.mem_append_right _ h))))))))) (by decide +kernel))) (goodIn_sub (fun _ h => List.mem_cons_of_mem _ (List.mem_append_left _ (List.mem_append_left _ (List.mem_append_left _ (List.mem_append_left _ (List.mem_append_left _ (List.mem_append_left _ (List.mem_append_right _ h)))))))) (by decide +kernel))) (goodIn_sub (fun _ h => List.mem_cons_of_mem _ (List.mem_append_left _ (List.mem_append_left _ (List.mem_append_left _ (List.mem_append_left _ (List.mem_append_right _ h)))))) (by decide +kernel))) (goodIn_sub (fun _ h => List.mem_cons_of_mem _ (List.mem_append_left _ (List.mem_append_left _ (List.mem_append_left _ (List.mem_append_left _ (List.mem_append_left _ (List.mem_append_right _ h))))))) (by decide +kernel))) (goodIn_sub (fun _ h => List.mem_cons_of_mem _ (List.mem_append_left _ (List.mem_append_right _ h))) (by decide +kernel))) (goodIn_sub (fun _ h => List.mem_cons_of_mem _ (List.mem_append_left _ (List.mem_append_left _ (List.mem_append_right _ h)))) (by decide +kernel)))
set_option maxRecDepth 20000 in
theorem gL_acts_L_pass : GoodIn wsL_acts (va_wsS RL 144 yL_pass wsL_pass) := goodIn_app (goodIn_of _ (by decide +kernel)) ggL_acts_L_pass
