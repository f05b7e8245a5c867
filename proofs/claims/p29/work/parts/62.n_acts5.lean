set_option maxRecDepth 20000 in
theorem ggL_acts_L_runs_h : GoodIn wsL_acts [Cond.code yL_runs cL_runs 7 (some .boolean)] := goodIn_r _ [323] (by decide +kernel) (by decide +kernel)
set_option maxRecDepth 20000 in
theorem ggL_acts_L_runs_r1 : GoodIn wsL_acts wsL_runs_r1 := goodIn_r _ [6, 7, 8, 9, 10, 11, 12, 13, 14, 15, 16, 17, 18, 19, 20, 21, 22, 23, 24, 25, 26, 27, 28, 29] (by decide +kernel) (by decide +kernel)
set_option maxRecDepth 20000 in
theorem ggL_acts_L_runs_r2 : GoodIn wsL_acts wsL_runs_r2 := goodIn_r _ [30, 31, 32, 33, 34, 35, 36, 37, 38, 324, 325, 3, 326, 1, 2, 4, 5, 327, 328, 329, 330, 331, 332, 333] (by decide +kernel) (by decide +kernel)
set_option maxRecDepth 20000 in
theorem ggL_acts_L_runs_r3 : GoodIn wsL_acts wsL_runs_r3 := goodIn_r _ [334, 335, 103, 42, 336, 337, 338, 339, 47, 48, 340, 341, 342, 343, 344, 345, 346, 347, 348, 349, 350, 351, 352, 353] (by decide +kernel) (by decide +kernel)
set_option maxRecDepth 20000 in
theorem ggL_acts_L_runs_r4 : GoodIn wsL_acts wsL_runs_r4 := goodIn_r _ [354, 355, 356, 357, 358, 359, 360, 361, 362, 363, 364, 365, 366, 367, 368, 369, 370, 371, 372, 49, 50, 51, 52, 53] (by decide +kernel) (by decide +kernel)
set_option maxRecDepth 20000 in
theorem ggL_acts_L_runs_r5 : GoodIn wsL_acts wsL_runs_r5 := goodIn_r _ [54, 55, 56, 57, 58, 59, 60, 61, 62, 63, 64, 65, 66, 67, 68, 69, 70, 71, 72, 73, 74, 75, 76, 77] (by decide +kernel) (by decide +kernel)
set_option maxRecDepth 20000 in
theorem ggL_acts_L_runs_r6 : GoodIn wsL_acts wsL_runs_r6 := goodIn_r _ [78, 79, 80, 81, 82, 83, 84, 85, 86, 87, 88, 89, 90, 91, 92, 93, 94, 95, 373, 374, 375, 376, 377, 378] (by decide +kernel) (by decide +kernel)
set_option maxRecDepth 20000 in
theorem ggL_acts_L_runs_r7 : GoodIn wsL_acts wsL_runs_r7 := goodIn_r _ [379, 380, 381, 382, 383, 384, 385, 263, 264, 265, 266, 267, 268, 269, 270, 271, 272, 273, 274, 275, 276, 277, 278, 279] (by decide +kernel) (by decide +kernel)
set_option maxRecDepth 20000 in
theorem ggL_acts_L_runs_r8 : GoodIn wsL_acts wsL_runs_r8 := goodIn_r _ [280, 281, 282, 283, 284, 285, 286, 287, 288, 289, 290, 291, 178, 179, 180, 181, 182, 183, 184, 185, 292, 293, 294, 295] (by decide +kernel) (by decide +kernel)
set_option maxRecDepth 20000 in
theorem ggL_acts_L_runs_r9 : GoodIn wsL_acts wsL_runs_r9 := goodIn_r _ [296, 297, 298, 299, 300, 301, 302, 303, 155, 156, 157, 158, 151, 152, 153, 154, 147, 148, 149, 150, 159, 160, 161, 162] (by decide +kernel) (by decide +kernel)
set_option maxRecDepth 20000 in
theorem ggL_acts_L_runs_r10 : GoodIn wsL_acts wsL_runs_r10 := goodIn_r _ [304, 305, 306, 307, 308, 171, 172, 173, 121, 122, 123, 124, 117, 118, 119, 120, 309, 175, 176, 177, 386, 387, 388, 389] (by decide +kernel) (by decide +kernel)
set_option maxRecDepth 20000 in
theorem ggL_acts_L_runs_r11 : GoodIn wsL_acts wsL_runs_r11 := goodIn_r _ [217, 218, 219, 220, 136, 137, 138, 139, 140, 141, 142, 390, 391, 392, 393, 170, 174, 394, 395, 396, 397, 194, 195, 196] (by decide +kernel) (by decide +kernel)
set_option maxRecDepth 20000 in
theorem ggL_acts_L_runs_r12 : GoodIn wsL_acts wsL_runs_r12 := goodIn_r _ [197, 198, 398, 399, 400, 401, 206, 207, 208, 209, 402, 403, 404, 405] (by decide +kernel) (by decide +kernel)
theorem ggL_acts_L_runs : GoodIn wsL_acts wsL_runs := (goodIn_ca (goodIn_ca (goodIn_ca (goodIn_ca (goodIn_ca (goodIn_ca (goodIn_ca (goodIn_app ggL_acts_L_runs_h (goodIn_app ggL_acts_L_runs_r1 (goodIn_app ggL_acts_L_runs_r2 (goodIn_app ggL_acts_L_runs_r3 (goodIn_app ggL_acts_L_runs_r4 (goodIn_app ggL_acts_L_runs_r5 (goodIn_app ggL_acts_L_runs_r6 (goodIn_app ggL_acts_L_runs_r7 (goodIn_app ggL_acts_L_runs_r8 (goodIn_app ggL_acts_L_runs_r9 (goodIn_app ggL_acts_L_runs_r10 (goodIn_app ggL_acts_L_runs_r11 ggL_acts_L_runs_r12)))))))))))) (goodIn_sub (fun _ h => List.mem_cons_of_mem _ (List.mem_append_left _ (List.mem_append_left _ (List.mem_append_left _ (List.mem_append_left _ (List.mem_append_left _ (List.mem_append_left _ (List.mem_append_left _ (List.mem_append_right _ h))))))))) (by decide +kernel))) (goodIn_sub (fun _ h => List.mem_cons_of_mem _ (List.mem_append_left _ (List.mem_append_left _ (List.mem_append_left _ (List.mem_append_left _ (List.mem_append_left _ (List.mem_append_left _ (List.mem_append_right _ h)))))))) (by decide +kernel))) (goodIn_sub (fun _ h => List.mem_cons_of_mem _ (List.mem_append_left _ (List.mem_append_left _ (List.mem_append_left _ (List.mem_append_left _ (List.mem_append_left _ (List.mem_append_right _ h))))))) (by decide +kernel))) (goodIn_sub (fun _ h => List.mem_cons_of_mem _ (List.mem_append_left _ (List.mem_append_left _ (List.mem_append_left _ (List.mem_append_left _ (List.mem_append_right _ h)))))) (by decide +kernel))) (goodIn_sub (fun _ h => List.mem_cons_of_mem _ (List.mem_append_left _ (List.mem_append_left _ (List.mem_append_left _ (List.mem_append_right _ h))))) (by decide +kernel))) (goodIn_sub (fun _ h => List.mem_cons_of_mem _ (List.mem_append_left _ (List.mem_append_left _ (List.mem_append_right _ h)))) (by decide +kernel))) (goodIn_sub (fun _ h => List.mem_cons_of_mem _ (List.mem_append_left _ (List.mem_append_right _ h))) (by decide +kernel)))
set_option maxRecDepth 20000 in
theorem gL_acts_L_runs : GoodIn wsL_acts (va_wsS RL 146 yL_runs wsL_runs) := goodIn_app (goodIn_of _ (by decide +kernel)) ggL_acts_L_runs
