set_option maxRecDepth 20000 in
theorem ggL_law_L_would_h : GoodIn wsL_law [Cond.code yL_would cL_would 7 (some .boolean)] := goodIn_r _ [182] (by decide +kernel) (by decide +kernel)
set_option maxRecDepth 20000 in
theorem ggL_law_L_would_r1 : GoodIn wsL_law wsL_would_r1 := goodIn_r _ [183, 184, 63, 185, 186, 187, 188, 189, 99, 190, 191, 192, 2, 193, 194, 195, 196, 72, 73, 69, 70, 71, 197, 198] (by decide +kernel) (by decide +kernel)
set_option maxRecDepth 20000 in
theorem ggL_law_L_would_r2 : GoodIn wsL_law wsL_would_r2 := goodIn_r _ [199, 200, 13, 12, 201, 202, 203, 11, 204, 205, 206, 29, 207, 208, 209, 210, 30, 31, 32, 33, 34, 35, 36, 37] (by decide +kernel) (by decide +kernel)
set_option maxRecDepth 20000 in
theorem ggL_law_L_would_r3 : GoodIn wsL_law wsL_would_r3 := goodIn_r _ [38, 39, 43, 211, 212, 213, 42, 214, 215, 216, 137, 47, 217, 48, 49, 50, 218, 219, 220, 221, 222, 223, 224, 225] (by decide +kernel) (by decide +kernel)
set_option maxRecDepth 20000 in
theorem ggL_law_L_would_r4 : GoodIn wsL_law wsL_would_r4 := goodIn_r _ [226, 227, 228, 229, 230, 231, 232, 233, 234, 235, 236, 237, 238, 239, 240, 241, 242, 172, 173, 174, 175, 243, 244, 245] (by decide +kernel) (by decide +kernel)
set_option maxRecDepth 20000 in
theorem ggL_law_L_would_r5 : GoodIn wsL_law wsL_would_r5 := goodIn_r _ [246, 247, 248, 249, 250, 251, 252, 253, 254, 255, 256, 257, 258, 259, 260, 261, 262, 129, 130, 131, 132, 125, 126, 127] (by decide +kernel) (by decide +kernel)
set_option maxRecDepth 20000 in
theorem ggL_law_L_would_r6 : GoodIn wsL_law wsL_would_r6 := goodIn_r _ [128, 121, 122, 123, 124, 133, 134, 135, 136, 263, 264, 265, 266, 267, 268, 269, 270, 156, 157, 158, 159, 152, 153, 154] (by decide +kernel) (by decide +kernel)
set_option maxRecDepth 20000 in
theorem ggL_law_L_would_r7 : GoodIn wsL_law wsL_would_r7 := goodIn_r _ [155, 271, 272, 273, 274, 275, 276, 277, 278, 84, 85, 87, 80, 83, 92, 93, 94, 279, 280, 281, 282, 81, 65, 66] (by decide +kernel) (by decide +kernel)
set_option maxRecDepth 20000 in
theorem ggL_law_L_would_r8 : GoodIn wsL_law wsL_would_r8 := goodIn_r _ [67, 68, 74, 75, 76, 77, 78, 79, 82, 86, 88, 89, 90, 20, 91] (by decide +kernel) (by decide +kernel)
theorem ggL_law_L_would : GoodIn wsL_law wsL_would := (goodIn_ca (goodIn_ca (goodIn_ca (goodIn_ca (goodIn_ca (goodIn_app ggL_law_L_would_h (goodIn_app ggL_law_L_would_r1 (goodIn_app ggL_law_L_would_r2 (goodIn_app ggL_law_L_would_r3 (goodIn_app ggL_law_L_would_r4 (goodIn_app ggL_law_L_would_r5 (goodIn_app ggL_law_L_would_r6 (goodIn_app ggL_law_L_would_r7 ggL_law_L_would_r8)))))))) (goodIn_sub inlX4 (by decide +kernel))) (goodIn_sub inlX0 (by decide +kernel))) (goodIn_sub inlX3 (by decide +kernel))) (goodIn_sub inlX2 (by decide +kernel))) (goodIn_sub (fun _ h => (List.mem_append_left _ (List.mem_append_left _ (List.mem_append_right _ h)))) (by decide +kernel)))
set_option maxRecDepth 20000 in
theorem gL_law_L_would : GoodIn wsL_law (va_wsS RL 154 yL_would wsL_would) := goodIn_app (goodIn_of _ (by decide +kernel)) ggL_law_L_would
