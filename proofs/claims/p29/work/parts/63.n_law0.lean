set_option maxRecDepth 20000 in
theorem ggL_law_X4_init_h : GoodIn wsL_law [Cond.code yX4_init cX4_init 2 none] := goodIn_r _ [5] (by decide +kernel) (by decide +kernel)
set_option maxRecDepth 20000 in
theorem ggL_law_X4_init_r1 : GoodIn wsL_law wsX4_init_r1 := goodIn_r _ [6, 7, 8, 9, 10, 11, 12, 13, 14, 15, 16, 17, 18, 19, 20, 21, 22, 23, 24, 25, 26, 27, 28, 29] (by decide +kernel) (by decide +kernel)
set_option maxRecDepth 20000 in
theorem ggL_law_X4_init_r2 : GoodIn wsL_law wsX4_init_r2 := goodIn_r _ [30, 31, 32, 33, 34, 35, 36, 37, 38, 39, 40, 41, 42, 43, 44, 45, 46, 47, 48, 49, 50, 51, 52, 53] (by decide +kernel) (by decide +kernel)
set_option maxRecDepth 20000 in
theorem ggL_law_X4_init_r3 : GoodIn wsL_law wsX4_init_r3 := goodIn_r _ [54, 55, 56, 57, 58, 59, 60] (by decide +kernel) (by decide +kernel)
theorem ggL_law_X4_init : GoodIn wsL_law wsX4_init := (goodIn_ca (goodIn_ca (goodIn_ca (goodIn_ca (goodIn_ca (goodIn_app ggL_law_X4_init_h (goodIn_app ggL_law_X4_init_r1 (goodIn_app ggL_law_X4_init_r2 ggL_law_X4_init_r3))) (goodIn_sub inlX0 (by decide +kernel))) (goodIn_sub inlX4 (by decide +kernel))) (goodIn_sub inlX2 (by decide +kernel))) (goodIn_sub inlX1 (by decide +kernel))) (goodIn_sub inlX3 (by decide +kernel)))
set_option maxRecDepth 20000 in
theorem gL_law_X4_init : GoodIn wsL_law (wsX4_init) := ggL_law_X4_init
