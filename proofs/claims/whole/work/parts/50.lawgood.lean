set_option maxRecDepth 20000 in
theorem ggL_law_X4_init : GoodIn wsL_law wsX4_init := goodIn_r _ [9, 10, 11, 12, 13, 14, 15, 16, 17, 18, 19, 20, 21, 22, 23, 24, 25, 26, 27, 28, 29, 30, 31, 32, 33, 34, 35, 36, 37, 38, 39, 40, 41, 42, 43, 44, 45, 46, 47, 48, 49, 50, 51, 52, 53, 54, 55, 56, 57, 58, 59, 60, 61, 62, 63, 64, 888, 889, 890, 891, 892, 893, 894, 895, 896, 897, 898, 899, 900, 901, 869, 870, 871, 872, 873, 874, 902, 903, 904, 905, 906, 907, 908, 909, 910, 911, 912] (by decide +kernel) (by decide +kernel)
set_option maxRecDepth 20000 in
theorem gL_law_X4_init : GoodIn wsL_law (wsX4_init) := ggL_law_X4_init
set_option maxRecDepth 20000 in
theorem ggL_law_X5_init : GoodIn wsL_law wsX5_init := goodIn_r _ [67, 68, 11, 12, 32, 69, 70, 71, 72, 73, 74, 875, 876, 877, 878, 879, 880, 881, 882, 883, 884, 885, 886, 887] (by decide +kernel) (by decide +kernel)
set_option maxRecDepth 20000 in
theorem gL_law_X5_init : GoodIn wsL_law (wsX5_init) := ggL_law_X5_init
set_option maxRecDepth 20000 in
theorem ggL_law_L_house : GoodIn wsL_law wsL_house := goodIn_ca (goodIn_r _ [78, 79, 80, 81, 82, 2, 83, 84, 85, 16, 86, 24, 87, 88, 89, 23, 90, 91, 60, 92, 93, 94, 95, 96, 97, 98, 15, 99, 100, 101, 33, 102, 103, 104, 105, 34, 35, 36, 37, 38, 39, 40, 41, 42, 43, 47, 106, 107, 108, 46, 109, 110, 111, 112, 51, 113, 52, 53, 54, 869, 870, 871, 872, 873, 874, 888, 889, 890, 891, 892, 893, 894, 895, 896, 897, 898, 899, 900, 901, 902, 903, 906, 907, 908, 909, 910, 911, 912] (by decide +kernel) (by decide +kernel)) (goodIn_sub (fun _ h => List.mem_append_left _ (List.mem_append_left _ (List.mem_append_right _ h))) (by decide +kernel))
set_option maxRecDepth 20000 in
theorem gL_law_L_house : GoodIn wsL_law (va_wsS RL 80 yL_house wsL_house) := goodIn_app (goodIn_of _ (by decide +kernel)) ggL_law_L_house
set_option maxRecDepth 20000 in
theorem ggL_law_X5_house : GoodIn wsL_law wsX5_house := goodIn_r _ [117, 118, 69, 119, 120, 121, 5, 122, 123, 124, 125, 126, 127, 71, 128, 129, 130, 131, 132, 133, 875, 876, 877, 878, 879, 880, 881, 882, 883, 884, 885, 886, 887] (by decide +kernel) (by decide +kernel)
set_option maxRecDepth 20000 in
theorem gL_law_X5_house : GoodIn wsL_law (wsV RL 85 RX5 yX5_house wsX5_house) := goodIn_app (goodIn_of _ (by decide +kernel)) ggL_law_X5_house
set_option maxRecDepth 20000 in
theorem ggL_law_X5_thrown : GoodIn wsL_law wsX5_thrown := goodIn_r _ [137, 118, 875, 876, 877, 878, 879, 880, 881, 882, 883, 884, 885, 886, 887] (by decide +kernel) (by decide +kernel)
set_option maxRecDepth 20000 in
theorem gL_law_X5_thrown : GoodIn wsL_law (wsV RL 86 RX5 yX5_thrown wsX5_thrown) := goodIn_app (goodIn_of _ (by decide +kernel)) ggL_law_X5_thrown
set_option maxRecDepth 20000 in
theorem ggL_law_L_bottles : GoodIn wsL_law wsL_bottles := goodIn_ca (goodIn_ca (goodIn_ca (goodIn_r _ [140, 141, 142, 79, 143, 144, 145, 2, 146, 147, 148, 84, 85, 16, 149, 24, 150, 151, 152, 153, 154, 155, 156, 157, 158, 15, 159, 39, 40, 87, 88, 89, 23, 90, 91, 60, 92, 93, 94, 95, 96, 97, 98, 99, 100, 101, 33, 102, 103, 104, 105, 34, 35, 36, 37, 38, 41, 42, 43, 47, 106, 107, 108, 46, 109, 110, 111, 112, 51, 113, 52, 53, 54, 869, 870, 871, 872, 873, 874, 888, 889, 890, 891, 892, 893, 894, 895, 896, 897, 898, 899, 900, 901, 902, 903, 906, 907, 908, 909, 910, 911, 912] (by decide +kernel) (by decide +kernel)) (goodIn_sub (fun _ h => List.mem_append_left _ (List.mem_append_right _ h)) (by decide +kernel))) (goodIn_sub (fun _ h => List.mem_append_left _ (List.mem_append_left _ (List.mem_append_right _ h))) (by decide +kernel))) (goodIn_sub (fun _ h => List.mem_append_right _ h) (by decide +kernel))
set_option maxRecDepth 20000 in
theorem gL_law_L_bottles : GoodIn wsL_law (va_wsS RL 89 yL_bottles wsL_bottles) := goodIn_app (goodIn_of _ (by decide +kernel)) ggL_law_L_bottles
set_option maxRecDepth 20000 in
theorem ggL_law_X5_bottles : GoodIn wsL_law wsX5_bottles := goodIn_r _ [163, 118, 69, 164, 165, 5, 166, 167, 168, 169, 119, 120, 121, 122, 170, 171, 172, 173, 174, 175, 176, 177, 178, 179, 180, 181, 182, 183, 184, 185, 131, 132, 133, 123, 124, 125, 126, 127, 71, 128, 129, 130, 875, 876, 877, 878, 879, 880, 881, 882, 883, 884, 885, 886, 887] (by decide +kernel) (by decide +kernel)
set_option maxRecDepth 20000 in
theorem gL_law_X5_bottles : GoodIn wsL_law (wsV RL 92 RX5 yX5_bottles wsX5_bottles) := goodIn_app (goodIn_of _ (by decide +kernel)) ggL_law_X5_bottles
set_option maxRecDepth 20000 in
theorem ggL_law_L_lend : GoodIn wsL_law wsL_lend := goodIn_ca (goodIn_ca (goodIn_r _ [188, 141, 79, 189, 190, 191, 2, 192, 84, 85, 16, 24, 193, 194, 195, 196, 154, 155, 197, 198, 199, 200, 86, 201, 202, 203, 15, 204, 47, 205, 206, 207, 208, 34, 35, 209, 157, 158, 159, 39, 40, 210, 211, 212, 46, 213, 112, 87, 88, 89, 23, 90, 91, 60, 92, 93, 94, 95, 96, 97, 98, 99, 100, 101, 33, 102, 103, 104, 105, 36, 37, 38, 41, 42, 43, 106, 107, 108, 109, 110, 111, 51, 113, 52, 53, 54, 214, 215, 216, 217, 218, 219, 220, 221, 222, 223, 224, 225, 226, 227, 228, 229, 230, 231, 232, 869, 870, 871, 872, 873, 874, 888, 889, 890, 891, 892, 893, 894, 895, 896, 897, 898, 899, 900, 901, 906, 907, 908, 909, 910, 911, 912, 902, 903] (by decide +kernel) (by decide +kernel)) (goodIn_sub (fun _ h => List.mem_append_left _ (List.mem_append_left _ (List.mem_append_right _ h))) (by decide +kernel))) (goodIn_sub (fun _ h => List.mem_append_right _ h) (by decide +kernel))
set_option maxRecDepth 20000 in
theorem gL_law_L_lend : GoodIn wsL_law (va_wsS RL 93 yL_lend wsL_lend) := goodIn_app (goodIn_of _ (by decide +kernel)) ggL_law_L_lend
set_option maxRecDepth 20000 in
theorem ggL_law_X5_lend : GoodIn wsL_law wsX5_lend := goodIn_r _ [236, 118, 237, 238, 239, 5, 240, 241, 242, 243, 244, 69, 167, 168, 169, 164, 165, 166, 119, 120, 121, 122, 245, 246, 247, 248, 249, 250, 251, 252, 170, 171, 172, 173, 174, 175, 176, 177, 178, 179, 180, 181, 182, 183, 184, 185, 131, 132, 133, 253, 254, 255, 256, 123, 124, 125, 126, 127, 71, 128, 129, 130, 257, 258, 259, 260, 261, 262, 263, 264, 875, 876, 877, 878, 879, 880, 881, 882, 883, 884, 885, 886, 887] (by decide +kernel) (by decide +kernel)
set_option maxRecDepth 20000 in
theorem gL_law_X5_lend : GoodIn wsL_law (wsV RL 95 RX5 yX5_lend wsX5_lend) := goodIn_app (goodIn_of _ (by decide +kernel)) ggL_law_X5_lend
set_option maxRecDepth 20000 in
theorem ggL_law_L_ask : GoodIn wsL_law wsL_ask := goodIn_ca (goodIn_ca (goodIn_r _ [267, 141, 79, 268, 269, 270, 2, 271, 84, 85, 16, 272, 24, 273, 193, 194, 195, 196, 154, 155, 197, 198, 199, 200, 86, 274, 211, 212, 46, 213, 112, 87, 88, 89, 23, 90, 91, 60, 92, 93, 94, 95, 96, 97, 98, 15, 99, 100, 101, 33, 102, 103, 104, 105, 34, 35, 36, 37, 38, 39, 40, 41, 42, 43, 47, 106, 107, 108, 109, 110, 111, 51, 113, 52, 53, 54, 214, 215, 216, 275, 276, 277, 278, 221, 222, 223, 224, 225, 226, 227, 228, 869, 870, 871, 872, 873, 874, 888, 889, 890, 891, 892, 893, 894, 895, 896, 897, 898, 899, 900, 901, 906, 907, 908, 909, 910, 911, 912, 902, 903] (by decide +kernel) (by decide +kernel)) (goodIn_sub (fun _ h => List.mem_append_left _ (List.mem_append_left _ (List.mem_append_right _ h))) (by decide +kernel))) (goodIn_sub (fun _ h => List.mem_append_right _ h) (by decide +kernel))
set_option maxRecDepth 20000 in
theorem gL_law_L_ask : GoodIn wsL_law (va_wsS RL 96 yL_ask wsL_ask) := goodIn_app (goodIn_of _ (by decide +kernel)) ggL_law_L_ask
set_option maxRecDepth 20000 in
theorem ggL_law_X5_ask : GoodIn wsL_law wsX5_ask := goodIn_r _ [282, 118, 69, 237, 238, 239, 5, 240, 241, 242, 243, 244, 167, 168, 169, 164, 165, 166, 119, 120, 121, 122, 253, 254, 255, 256, 123, 124, 125, 126, 127, 71, 128, 129, 130, 283, 284, 285, 286, 182, 183, 184, 185, 131, 132, 133, 261, 262, 263, 264, 875, 876, 877, 878, 879, 880, 881, 882, 883, 884, 885, 886, 887] (by decide +kernel) (by decide +kernel)
set_option maxRecDepth 20000 in
theorem gL_law_X5_ask : GoodIn wsL_law (wsV RL 98 RX5 yX5_ask wsX5_ask) := goodIn_app (goodIn_of _ (by decide +kernel)) ggL_law_X5_ask
set_option maxRecDepth 20000 in
theorem ggL_law_L_want : GoodIn wsL_law wsL_want := goodIn_ca (goodIn_ca (goodIn_r _ [289, 141, 79, 290, 291, 292, 2, 293, 84, 85, 16, 24, 294, 193, 194, 195, 196, 154, 155, 197, 198, 199, 200, 86, 214, 215, 216, 295, 296, 297, 15, 298, 43, 87, 88, 89, 23, 90, 91, 60, 92, 93, 94, 95, 96, 97, 98, 99, 100, 101, 33, 102, 103, 104, 105, 34, 35, 36, 37, 38, 39, 40, 41, 42, 47, 106, 107, 108, 46, 109, 110, 111, 112, 51, 113, 52, 53, 54, 869, 870, 871, 872, 873, 874, 888, 889, 890, 891, 892, 893, 894, 895, 896, 897, 898, 899, 900, 901, 902, 903, 906, 907, 908, 909, 910, 911, 912] (by decide +kernel) (by decide +kernel)) (goodIn_sub (fun _ h => List.mem_append_left _ (List.mem_append_left _ (List.mem_append_right _ h))) (by decide +kernel))) (goodIn_sub (fun _ h => List.mem_append_right _ h) (by decide +kernel))
set_option maxRecDepth 20000 in
theorem gL_law_L_want : GoodIn wsL_law (va_wsS RL 99 yL_want wsL_want) := goodIn_app (goodIn_of _ (by decide +kernel)) ggL_law_L_want
set_option maxRecDepth 20000 in
theorem ggL_law_X5_want : GoodIn wsL_law wsX5_want := goodIn_r _ [302, 118, 69, 237, 238, 239, 5, 240, 241, 242, 243, 244, 167, 168, 169, 164, 165, 166, 119, 120, 121, 122, 182, 183, 184, 185, 131, 132, 133, 123, 124, 125, 126, 127, 71, 128, 129, 130, 875, 876, 877, 878, 879, 880, 881, 882, 883, 884, 885, 886, 887] (by decide +kernel) (by decide +kernel)
set_option maxRecDepth 20000 in
theorem gL_law_X5_want : GoodIn wsL_law (wsV RL 101 RX5 yX5_want wsX5_want) := goodIn_app (goodIn_of _ (by decide +kernel)) ggL_law_X5_want
set_option maxRecDepth 20000 in
theorem ggL_law_L_drink : GoodIn wsL_law wsL_drink := goodIn_ca (goodIn_ca (goodIn_r _ [305, 141, 79, 306, 307, 308, 2, 309, 84, 85, 16, 149, 24, 151, 152, 153, 154, 155, 87, 88, 89, 23, 90, 91, 60, 92, 93, 94, 95, 96, 97, 98, 15, 99, 100, 101, 33, 102, 103, 104, 105, 34, 35, 36, 37, 38, 39, 40, 41, 42, 43, 47, 106, 107, 108, 46, 109, 110, 111, 112, 51, 113, 52, 53, 54, 310, 311, 312, 313, 869, 870, 871, 872, 873, 874, 888, 889, 890, 891, 892, 893, 894, 895, 896, 897, 898, 899, 900, 901, 902, 903, 906, 907, 908, 909, 910, 911, 912] (by decide +kernel) (by decide +kernel)) (goodIn_sub (fun _ h => List.mem_append_left _ (List.mem_append_left _ (List.mem_append_right _ h))) (by decide +kernel))) (goodIn_sub (fun _ h => List.mem_append_right _ h) (by decide +kernel))
set_option maxRecDepth 20000 in
theorem gL_law_L_drink : GoodIn wsL_law (va_wsS RL 102 yL_drink wsL_drink) := goodIn_app (goodIn_of _ (by decide +kernel)) ggL_law_L_drink
set_option maxRecDepth 20000 in
theorem ggL_law_X5_drink : GoodIn wsL_law wsX5_drink := goodIn_r _ [317, 118, 164, 165, 5, 166, 167, 168, 169, 119, 120, 121, 122, 170, 171, 172, 173, 69, 123, 124, 125, 126, 127, 71, 128, 129, 130, 318, 319, 320, 321, 875, 876, 877, 878, 879, 880, 881, 882, 883, 884, 885, 886, 887] (by decide +kernel) (by decide +kernel)
set_option maxRecDepth 20000 in
theorem gL_law_X5_drink : GoodIn wsL_law (wsV RL 105 RX5 yX5_drink wsX5_drink) := goodIn_app (goodIn_of _ (by decide +kernel)) ggL_law_X5_drink
set_option maxRecDepth 20000 in
theorem ggL_law_L_pass : GoodIn wsL_law wsL_pass := goodIn_ca (goodIn_ca (goodIn_r _ [324, 142, 79, 325, 326, 327, 2, 328, 84, 85, 16, 329, 24, 330, 331, 332, 333, 147, 148, 87, 88, 89, 23, 90, 91, 60, 92, 93, 94, 95, 96, 97, 98, 15, 99, 100, 101, 33, 102, 103, 104, 105, 34, 35, 36, 37, 38, 39, 40, 41, 42, 43, 47, 106, 107, 108, 46, 109, 110, 111, 112, 51, 113, 52, 53, 54, 334, 335, 336, 337, 338, 339, 340, 341, 342, 343, 344, 345, 346, 347, 348, 349, 350, 351, 352, 353, 354, 355, 356, 357, 358, 359, 360, 361, 362, 363, 364, 365, 221, 222, 223, 224, 225, 226, 227, 228, 366, 367, 368, 369, 370, 371, 372, 373, 374, 375, 376, 377, 378, 379, 380, 381, 382, 383, 384, 385, 386, 230, 231, 232, 210, 211, 212, 213, 387, 388, 389, 390, 391, 202, 203, 204, 205, 206, 207, 208, 209, 157, 158, 159, 392, 218, 219, 220, 869, 870, 871, 872, 873, 874, 888, 889, 890, 891, 892, 893, 894, 895, 896, 897, 898, 899, 900, 901, 902, 903, 906, 907, 908, 909, 910, 911, 912] (by decide +kernel) (by decide +kernel)) (goodIn_sub (fun _ h => List.mem_append_left _ (List.mem_append_left _ (List.mem_append_right _ h))) (by decide +kernel))) (goodIn_sub (fun _ h => List.mem_append_left _ (List.mem_append_right _ h)) (by decide +kernel))
set_option maxRecDepth 20000 in
theorem gL_law_L_pass : GoodIn wsL_law (va_wsS RL 106 yL_pass wsL_pass) := goodIn_app (goodIn_of _ (by decide +kernel)) ggL_law_L_pass
set_option maxRecDepth 20000 in
theorem ggL_law_X5_pass : GoodIn wsL_law wsX5_pass := goodIn_r _ [396, 118, 69, 167, 168, 5, 169, 119, 120, 121, 122, 123, 124, 125, 126, 127, 71, 128, 129, 130, 397, 398, 399, 400, 401, 402, 403, 404, 405, 406, 407, 408, 409, 410, 411, 412, 413, 414, 415, 416, 417, 418, 419, 420, 182, 183, 184, 185, 131, 132, 133, 261, 262, 263, 264, 421, 422, 423, 424, 425, 426, 427, 428, 429, 430, 431, 432, 178, 179, 180, 181, 253, 254, 255, 256, 433, 434, 435, 436, 249, 250, 251, 252, 170, 171, 172, 173, 174, 175, 176, 177, 257, 258, 259, 260, 875, 876, 877, 878, 879, 880, 881, 882, 883, 884, 885, 886, 887] (by decide +kernel) (by decide +kernel)
set_option maxRecDepth 20000 in
theorem gL_law_X5_pass : GoodIn wsL_law (wsV RL 108 RX5 yX5_pass wsX5_pass) := goodIn_app (goodIn_of _ (by decide +kernel)) ggL_law_X5_pass
set_option maxRecDepth 20000 in
theorem ggL_law_L_set : GoodIn wsL_law wsL_set := goodIn_ca (goodIn_ca (goodIn_r _ [439, 141, 142, 440, 441, 442, 2, 443, 147, 148, 444, 445, 24, 16, 446, 447, 448, 449, 154, 155, 87, 88, 89, 23, 90, 91, 60, 92, 93, 94, 95, 96, 97, 98, 15, 99, 100, 101, 33, 102, 103, 104, 105, 34, 35, 36, 37, 38, 39, 40, 41, 42, 43, 47, 106, 107, 108, 46, 109, 110, 111, 112, 51, 113, 52, 53, 54, 869, 870, 871, 872, 873, 874, 888, 889, 890, 891, 892, 893, 894, 895, 896, 897, 898, 899, 900, 901, 902, 903, 906, 907, 908, 909, 910, 911, 912] (by decide +kernel) (by decide +kernel)) (goodIn_sub (fun _ h => List.mem_append_left _ (List.mem_append_right _ h)) (by decide +kernel))) (goodIn_sub (fun _ h => List.mem_append_right _ h) (by decide +kernel))
set_option maxRecDepth 20000 in
theorem gL_law_L_set : GoodIn wsL_law (va_wsS RL 109 yL_set wsL_set) := goodIn_app (goodIn_of _ (by decide +kernel)) ggL_law_L_set
set_option maxRecDepth 20000 in
theorem ggL_law_X5_set : GoodIn wsL_law wsX5_set := goodIn_r _ [453, 118, 69, 167, 168, 5, 169, 119, 120, 121, 122, 123, 124, 125, 126, 127, 71, 128, 129, 130, 875, 876, 877, 878, 879, 880, 881, 882, 883, 884, 885, 886, 887] (by decide +kernel) (by decide +kernel)
set_option maxRecDepth 20000 in
theorem gL_law_X5_set : GoodIn wsL_law (wsV RL 111 RX5 yX5_set wsX5_set) := goodIn_app (goodIn_of _ (by decide +kernel)) ggL_law_X5_set
set_option maxRecDepth 20000 in
theorem ggL_law_L_append : GoodIn wsL_law wsL_append := goodIn_ca (goodIn_ca (goodIn_r _ [456, 142, 79, 457, 458, 459, 2, 460, 147, 148, 84, 85, 28, 461, 462, 869, 870, 871, 872, 873, 874, 904, 905] (by decide +kernel) (by decide +kernel)) (goodIn_sub (fun _ h => List.mem_append_left _ (List.mem_append_right _ h)) (by decide +kernel))) (goodIn_sub (fun _ h => List.mem_append_left _ (List.mem_append_left _ (List.mem_append_right _ h))) (by decide +kernel))
set_option maxRecDepth 20000 in
theorem gL_law_L_append : GoodIn wsL_law (va_wsS RL 112 yL_append wsL_append) := goodIn_app (goodIn_of _ (by decide +kernel)) ggL_law_L_append
set_option maxRecDepth 20000 in
theorem ggL_law_X5_append : GoodIn wsL_law wsX5_append := goodIn_r _ [466, 118, 467, 74, 167, 168, 5, 169, 119, 120, 121, 122, 875, 876, 877, 878, 879, 880, 881, 882, 883, 884, 885, 886, 887] (by decide +kernel) (by decide +kernel)
set_option maxRecDepth 20000 in
theorem gL_law_X5_append : GoodIn wsL_law (wsV RL 114 RX5 yX5_append wsX5_append) := goodIn_app (goodIn_of _ (by decide +kernel)) ggL_law_X5_append
set_option maxRecDepth 20000 in
theorem ggL_law_X4_clearBuffer : GoodIn wsL_law wsX4_clearBuffer := goodIn_r _ [471, 28, 461, 869, 870, 871, 872, 873, 874, 904, 905] (by decide +kernel) (by decide +kernel)
set_option maxRecDepth 20000 in
theorem gL_law_X4_clearBuffer : GoodIn wsL_law (wsV RL 115 RX4 yX4_clearBuffer wsX4_clearBuffer) := goodIn_app (goodIn_of _ (by decide +kernel)) ggL_law_X4_clearBuffer
set_option maxRecDepth 20000 in
theorem ggL_law_X5_clearBuffer : GoodIn wsL_law wsX5_clearBuffer := goodIn_r _ [475, 118, 467, 875, 876, 877, 878, 879, 880, 881, 882, 883, 884, 885, 886, 887] (by decide +kernel) (by decide +kernel)
set_option maxRecDepth 20000 in
theorem gL_law_X5_clearBuffer : GoodIn wsL_law (wsV RL 118 RX5 yX5_clearBuffer wsX5_clearBuffer) := goodIn_app (goodIn_of _ (by decide +kernel)) ggL_law_X5_clearBuffer
set_option maxRecDepth 20000 in
theorem ggL_law_X4_firstError : GoodIn wsL_law wsX4_firstError := goodIn_r _ [479, 28, 480, 481, 482, 27, 483, 484, 485, 486, 487, 488, 64, 489, 490, 491, 492, 493, 494, 869, 870, 871, 872, 873, 874, 904, 905] (by decide +kernel) (by decide +kernel)
set_option maxRecDepth 20000 in
theorem gL_law_X4_firstError : GoodIn wsL_law (wsV RL 119 RX4 yX4_firstError wsX4_firstError) := goodIn_app (goodIn_of _ (by decide +kernel)) ggL_law_X4_firstError
set_option maxRecDepth 20000 in
theorem ggL_law_X5_firstError : GoodIn wsL_law wsX5_firstError := goodIn_r _ [498, 118, 467, 499, 500, 501, 502, 5, 503, 504, 505, 506, 507, 508, 509, 510, 511, 512, 513, 74, 514, 515, 516, 517, 518, 519, 520, 521, 522, 167, 168, 169, 875, 876, 877, 878, 879, 880, 881, 882, 883, 884, 885, 886, 887] (by decide +kernel) (by decide +kernel)
set_option maxRecDepth 20000 in
theorem gL_law_X5_firstError : GoodIn wsL_law (wsV RL 122 RX5 yX5_firstError wsX5_firstError) := goodIn_app (goodIn_of _ (by decide +kernel)) ggL_law_X5_firstError
set_option maxRecDepth 20000 in
theorem ggL_law_L_run : GoodIn wsL_law wsL_run := goodIn_ca (goodIn_r _ [525, 142, 526, 527, 528, 2, 529, 147, 148, 28, 24, 16, 461, 530, 531, 532, 27, 533, 484, 485, 486, 487, 488, 64, 489, 490, 491, 492, 493, 494, 87, 88, 89, 23, 90, 91, 60, 92, 93, 94, 95, 96, 97, 98, 15, 99, 100, 101, 33, 102, 103, 104, 105, 34, 35, 36, 37, 38, 39, 40, 41, 42, 43, 47, 106, 107, 108, 46, 109, 110, 111, 112, 51, 113, 52, 53, 54, 534, 535, 536, 537, 538, 539, 540, 541, 542, 543, 544, 545, 546, 329, 337, 338, 339, 340, 341, 342, 343, 344, 345, 346, 347, 348, 349, 350, 351, 352, 353, 354, 355, 356, 357, 358, 359, 360, 361, 362, 363, 364, 365, 221, 222, 223, 224, 225, 226, 227, 228, 366, 367, 368, 369, 370, 371, 372, 373, 374, 375, 376, 377, 378, 379, 380, 381, 382, 383, 384, 385, 386, 230, 231, 232, 210, 211, 212, 213, 387, 388, 389, 390, 391, 202, 203, 204, 205, 206, 207, 208, 209, 157, 158, 159, 392, 218, 219, 220, 547, 548, 549, 550, 149, 310, 311, 312, 313, 197, 198, 199, 200, 86, 214, 215, 216, 551, 552, 553, 554, 201, 217, 555, 556, 557, 558, 272, 274, 275, 276, 277, 278, 559, 560, 561, 562, 294, 295, 296, 297, 298, 563, 564, 565, 566, 869, 870, 871, 872, 873, 874, 904, 905, 902, 903, 888, 889, 890, 891, 892, 893, 894, 895, 896, 897, 898, 899, 900, 901, 906, 907, 908, 909, 910, 911, 912] (by decide +kernel) (by decide +kernel)) (goodIn_sub (fun _ h => List.mem_append_left _ (List.mem_append_right _ h)) (by decide +kernel))
set_option maxRecDepth 20000 in
theorem gL_law_L_run : GoodIn wsL_law (va_wsS RL 123 yL_run wsL_run) := goodIn_app (goodIn_of _ (by decide +kernel)) ggL_law_L_run
set_option maxRecDepth 20000 in
theorem ggL_law_X5_run : GoodIn wsL_law wsX5_run := goodIn_r _ [570, 118, 499, 467, 500, 501, 502, 5, 503, 504, 505, 506, 507, 508, 509, 510, 511, 512, 513, 74, 514, 515, 516, 517, 518, 519, 520, 521, 522, 167, 168, 169, 119, 120, 121, 122, 123, 124, 125, 126, 127, 71, 69, 128, 129, 130, 571, 572, 573, 574, 237, 238, 239, 240, 241, 242, 243, 244, 164, 165, 166, 245, 246, 247, 248, 249, 250, 251, 252, 170, 171, 172, 173, 174, 175, 176, 177, 178, 179, 180, 181, 182, 183, 184, 185, 131, 132, 133, 253, 254, 255, 256, 575, 576, 577, 578, 257, 258, 259, 260, 261, 262, 263, 264, 283, 284, 285, 286, 318, 319, 320, 321, 397, 398, 399, 400, 401, 402, 403, 404, 405, 406, 407, 408, 409, 410, 411, 412, 413, 414, 415, 416, 417, 418, 419, 420, 421, 422, 423, 424, 425, 426, 427, 428, 429, 430, 431, 432, 433, 434, 435, 436, 875, 876, 877, 878, 879, 880, 881, 882, 883, 884, 885, 886, 887] (by decide +kernel) (by decide +kernel)
set_option maxRecDepth 20000 in
theorem gL_law_X5_run : GoodIn wsL_law (wsV RL 125 RX5 yX5_run wsX5_run) := goodIn_app (goodIn_of _ (by decide +kernel)) ggL_law_X5_run
set_option maxRecDepth 20000 in
theorem ggL_law_L_keep : GoodIn wsL_law wsL_keep := goodIn_ca (goodIn_r _ [581, 142, 582, 583, 584, 2, 585, 18, 16, 20, 329, 586, 587, 588, 147, 148, 589, 97, 98, 15, 99, 100, 101, 33, 102, 103, 104, 105, 34, 35, 36, 37, 38, 39, 40, 41, 42, 43, 47, 106, 107, 108, 46, 109, 110, 111, 112, 51, 113, 52, 53, 54, 869, 870, 871, 872, 873, 874, 888, 889, 890, 891, 892, 893, 894, 895, 896, 897, 898, 899, 900, 901, 906, 907, 908, 909, 910, 911, 912] (by decide +kernel) (by decide +kernel)) (goodIn_sub (fun _ h => List.mem_append_left _ (List.mem_append_right _ h)) (by decide +kernel))
set_option maxRecDepth 20000 in
theorem gL_law_L_keep : GoodIn wsL_law (va_wsS RL 126 yL_keep wsL_keep) := goodIn_app (goodIn_of _ (by decide +kernel)) ggL_law_L_keep
set_option maxRecDepth 20000 in
theorem ggL_law_X5_keep : GoodIn wsL_law wsX5_keep := goodIn_r _ [593, 118, 69, 72, 73, 167, 168, 5, 169, 119, 120, 121, 122, 128, 129, 130, 875, 876, 877, 878, 879, 880, 881, 882, 883, 884, 885, 886, 887] (by decide +kernel) (by decide +kernel)
set_option maxRecDepth 20000 in
theorem gL_law_X5_keep : GoodIn wsL_law (wsV RL 128 RX5 yX5_keep wsX5_keep) := goodIn_app (goodIn_of _ (by decide +kernel)) ggL_law_X5_keep
set_option maxRecDepth 20000 in
theorem ggL_law_L_goBack : GoodIn wsL_law wsL_goBack := goodIn_ca (goodIn_ca (goodIn_r _ [596, 142, 79, 597, 598, 599, 2, 600, 84, 85, 20, 24, 16, 18, 329, 586, 587, 588, 147, 148, 87, 88, 89, 23, 90, 91, 60, 92, 93, 94, 95, 96, 97, 98, 15, 99, 100, 101, 33, 102, 103, 104, 105, 34, 35, 36, 37, 38, 39, 40, 41, 42, 43, 47, 106, 107, 108, 46, 109, 110, 111, 112, 51, 113, 52, 53, 54, 589, 869, 870, 871, 872, 873, 874, 888, 889, 890, 891, 892, 893, 894, 895, 896, 897, 898, 899, 900, 901, 902, 903, 906, 907, 908, 909, 910, 911, 912] (by decide +kernel) (by decide +kernel)) (goodIn_sub (fun _ h => List.mem_append_left _ (List.mem_append_left _ (List.mem_append_right _ h))) (by decide +kernel))) (goodIn_sub (fun _ h => List.mem_append_left _ (List.mem_append_right _ h)) (by decide +kernel))
set_option maxRecDepth 20000 in
theorem gL_law_L_goBack : GoodIn wsL_law (va_wsS RL 129 yL_goBack wsL_goBack) := goodIn_app (goodIn_of _ (by decide +kernel)) ggL_law_L_goBack
set_option maxRecDepth 20000 in
theorem ggL_law_X5_goBack : GoodIn wsL_law wsX5_goBack := goodIn_r _ [604, 118, 73, 72, 69, 167, 168, 5, 169, 119, 120, 121, 122, 123, 124, 125, 126, 127, 71, 128, 129, 130, 875, 876, 877, 878, 879, 880, 881, 882, 883, 884, 885, 886, 887] (by decide +kernel) (by decide +kernel)
set_option maxRecDepth 20000 in
theorem gL_law_X5_goBack : GoodIn wsL_law (wsV RL 131 RX5 yX5_goBack wsX5_goBack) := goodIn_app (goodIn_of _ (by decide +kernel)) ggL_law_X5_goBack
set_option maxRecDepth 20000 in
theorem ggL_law_L_undo : GoodIn wsL_law wsL_undo := goodIn_ca (goodIn_r _ [607, 79, 608, 609, 610, 2, 611, 84, 85, 24, 612, 16, 613, 614, 615, 23, 616, 91, 60, 96, 97, 98, 15, 99, 100, 101, 33, 102, 103, 104, 105, 34, 35, 36, 37, 38, 39, 40, 41, 42, 43, 47, 106, 107, 108, 46, 109, 110, 111, 112, 51, 113, 52, 53, 54, 869, 870, 871, 872, 873, 874, 902, 903, 888, 889, 890, 891, 892, 893, 894, 895, 896, 897, 898, 899, 900, 901, 906, 907, 908, 909, 910, 911, 912] (by decide +kernel) (by decide +kernel)) (goodIn_sub (fun _ h => List.mem_append_left _ (List.mem_append_left _ (List.mem_append_right _ h))) (by decide +kernel))
set_option maxRecDepth 20000 in
theorem gL_law_L_undo : GoodIn wsL_law (va_wsS RL 132 yL_undo wsL_undo) := goodIn_app (goodIn_of _ (by decide +kernel)) ggL_law_L_undo
set_option maxRecDepth 20000 in
theorem ggL_law_X5_undo : GoodIn wsL_law wsX5_undo := goodIn_r _ [620, 118, 127, 71, 69, 119, 120, 121, 5, 122, 128, 129, 130, 875, 876, 877, 878, 879, 880, 881, 882, 883, 884, 885, 886, 887] (by decide +kernel) (by decide +kernel)
set_option maxRecDepth 20000 in
theorem gL_law_X5_undo : GoodIn wsL_law (wsV RL 134 RX5 yX5_undo wsX5_undo) := goodIn_app (goodIn_of _ (by decide +kernel)) ggL_law_X5_undo
set_option maxRecDepth 20000 in
theorem ggL_law_L_kind : GoodIn wsL_law wsL_kind := goodIn_ca (goodIn_ca (goodIn_r _ [623, 141, 142, 624, 625, 626, 2, 627, 16, 151, 152, 153, 154, 155, 628, 629, 630, 147, 148, 631, 632, 633, 15, 634, 34, 35, 36, 37, 38, 209, 157, 158, 159, 39, 40, 205, 206, 207, 208, 869, 870, 871, 872, 873, 874, 888, 889, 890, 891, 892, 893, 894, 895, 896, 897, 898, 899, 900, 901] (by decide +kernel) (by decide +kernel)) (goodIn_sub (fun _ h => List.mem_append_right _ h) (by decide +kernel))) (goodIn_sub (fun _ h => List.mem_append_left _ (List.mem_append_right _ h)) (by decide +kernel))
set_option maxRecDepth 20000 in
theorem gL_law_L_kind : GoodIn wsL_law (va_wsS RL 135 yL_kind wsL_kind) := goodIn_app (goodIn_of _ (by decide +kernel)) ggL_law_L_kind
set_option maxRecDepth 20000 in
theorem ggL_law_X5_kind : GoodIn wsL_law wsX5_kind := goodIn_r _ [638, 118, 164, 165, 5, 166, 167, 168, 169, 119, 120, 121, 122, 639, 640, 641, 642, 170, 171, 172, 173, 69, 174, 175, 176, 177, 178, 179, 180, 181, 182, 183, 184, 185, 131, 132, 133, 249, 250, 251, 252, 875, 876, 877, 878, 879, 880, 881, 882, 883, 884, 885, 886, 887] (by decide +kernel) (by decide +kernel)
set_option maxRecDepth 20000 in
theorem gL_law_X5_kind : GoodIn wsL_law (wsV RL 137 RX5 yX5_kind wsX5_kind) := goodIn_app (goodIn_of _ (by decide +kernel)) ggL_law_X5_kind
set_option maxRecDepth 20000 in
theorem ggL_law_L_houseOf : GoodIn wsL_law wsL_houseOf := goodIn_ca (goodIn_ca (goodIn_r _ [645, 141, 142, 646, 647, 648, 2, 649, 16, 193, 194, 195, 196, 154, 155, 197, 198, 199, 200, 86, 628, 629, 630, 147, 148, 214, 215, 216, 650, 651, 652, 15, 653, 39, 40, 41, 42, 43, 386, 230, 231, 232, 382, 383, 384, 385, 378, 379, 380, 381, 47, 210, 211, 212, 46, 213, 112, 869, 870, 871, 872, 873, 874, 888, 889, 890, 891, 892, 893, 894, 895, 896, 897, 898, 899, 900, 901, 906, 907, 908, 909, 910, 911, 912] (by decide +kernel) (by decide +kernel)) (goodIn_sub (fun _ h => List.mem_append_right _ h) (by decide +kernel))) (goodIn_sub (fun _ h => List.mem_append_left _ (List.mem_append_right _ h)) (by decide +kernel))
set_option maxRecDepth 20000 in
theorem gL_law_L_houseOf : GoodIn wsL_law (va_wsS RL 138 yL_houseOf wsL_houseOf) := goodIn_app (goodIn_of _ (by decide +kernel)) ggL_law_L_houseOf
set_option maxRecDepth 20000 in
theorem ggL_law_X5_houseOf : GoodIn wsL_law wsX5_houseOf := goodIn_r _ [657, 118, 237, 238, 239, 5, 240, 241, 242, 243, 244, 69, 167, 168, 169, 164, 165, 166, 119, 120, 121, 122, 658, 659, 660, 661, 182, 183, 184, 185, 131, 132, 133, 178, 179, 180, 181, 429, 430, 431, 432, 425, 426, 427, 428, 253, 254, 255, 256, 875, 876, 877, 878, 879, 880, 881, 882, 883, 884, 885, 886, 887] (by decide +kernel) (by decide +kernel)
set_option maxRecDepth 20000 in
theorem gL_law_X5_houseOf : GoodIn wsL_law (wsV RL 141 RX5 yX5_houseOf wsX5_houseOf) := goodIn_app (goodIn_of _ (by decide +kernel)) ggL_law_X5_houseOf
set_option maxRecDepth 20000 in
theorem ggL_law_L_letter : GoodIn wsL_law wsL_letter := goodIn_ca (goodIn_r _ [664, 142, 665, 666, 667, 2, 668, 147, 148, 16, 272, 628, 629, 630, 669, 670, 671, 46, 672, 112, 51, 52, 53, 54, 869, 870, 871, 872, 873, 874, 888, 889, 890, 891, 892, 893, 894, 895, 896, 897, 898, 899, 900, 901, 906, 907, 908, 909, 910, 911, 912] (by decide +kernel) (by decide +kernel)) (goodIn_sub (fun _ h => List.mem_append_left _ (List.mem_append_right _ h)) (by decide +kernel))
set_option maxRecDepth 20000 in
theorem gL_law_L_letter : GoodIn wsL_law (va_wsS RL 142 yL_letter wsL_letter) := goodIn_app (goodIn_of _ (by decide +kernel)) ggL_law_L_letter
set_option maxRecDepth 20000 in
theorem ggL_law_X5_letter : GoodIn wsL_law wsX5_letter := goodIn_r _ [676, 118, 167, 168, 5, 169, 677, 678, 679, 680, 69, 119, 120, 121, 122, 875, 876, 877, 878, 879, 880, 881, 882, 883, 884, 885, 886, 887] (by decide +kernel) (by decide +kernel)
set_option maxRecDepth 20000 in
theorem gL_law_X5_letter : GoodIn wsL_law (wsV RL 144 RX5 yX5_letter wsX5_letter) := goodIn_app (goodIn_of _ (by decide +kernel)) ggL_law_X5_letter
set_option maxRecDepth 20000 in
theorem ggL_law_L_count : GoodIn wsL_law wsL_count := goodIn_ca (goodIn_r _ [683, 142, 684, 685, 686, 2, 687, 628, 629, 630, 147, 148, 688, 689, 690, 691, 16, 329, 86, 272, 273, 692, 693, 330, 694, 695, 294, 149, 696, 697, 24, 612, 334, 335, 336, 869, 870, 871, 872, 873, 874, 888, 889, 890, 891, 892, 893, 894, 895, 896, 897, 898, 899, 900, 901, 906, 907, 908, 909, 910, 911, 912, 902, 903] (by decide +kernel) (by decide +kernel)) (goodIn_sub (fun _ h => List.mem_append_left _ (List.mem_append_right _ h)) (by decide +kernel))
set_option maxRecDepth 20000 in
theorem gL_law_L_count : GoodIn wsL_law (va_wsS RL 145 yL_count wsL_count) := goodIn_app (goodIn_of _ (by decide +kernel)) ggL_law_L_count
set_option maxRecDepth 20000 in
theorem ggL_law_X5_count : GoodIn wsL_law wsX5_count := goodIn_r _ [701, 118, 167, 168, 5, 169, 702, 703, 704, 705, 69, 127, 706, 707, 708, 709, 182, 183, 184, 185, 131, 132, 133, 710, 711, 712, 713, 170, 171, 172, 173, 119, 120, 121, 122, 875, 876, 877, 878, 879, 880, 881, 882, 883, 884, 885, 886, 887] (by decide +kernel) (by decide +kernel)
set_option maxRecDepth 20000 in
theorem gL_law_X5_count : GoodIn wsL_law (wsV RL 147 RX5 yX5_count wsX5_count) := goodIn_app (goodIn_of _ (by decide +kernel)) ggL_law_X5_count
set_option maxRecDepth 20000 in
theorem ggL_law_L_setting : GoodIn wsL_law wsL_setting := goodIn_ca (goodIn_r _ [716, 141, 717, 718, 719, 2, 720, 16, 446, 447, 448, 449, 154, 155, 869, 870, 871, 872, 873, 874, 888, 889, 890, 891, 892, 893, 894, 895, 896, 897, 898, 899, 900, 901] (by decide +kernel) (by decide +kernel)) (goodIn_sub (fun _ h => List.mem_append_right _ h) (by decide +kernel))
set_option maxRecDepth 20000 in
theorem gL_law_L_setting : GoodIn wsL_law (va_wsS RL 148 yL_setting wsL_setting) := goodIn_app (goodIn_of _ (by decide +kernel)) ggL_law_L_setting
set_option maxRecDepth 20000 in
theorem ggL_law_X5_setting : GoodIn wsL_law wsX5_setting := goodIn_r _ [724, 118, 69, 167, 168, 5, 169, 119, 120, 121, 122, 875, 876, 877, 878, 879, 880, 881, 882, 883, 884, 885, 886, 887] (by decide +kernel) (by decide +kernel)
set_option maxRecDepth 20000 in
theorem gL_law_X5_setting : GoodIn wsL_law (wsV RL 150 RX5 yX5_setting wsX5_setting) := goodIn_app (goodIn_of _ (by decide +kernel)) ggL_law_X5_setting
set_option maxRecDepth 20000 in
theorem ggL_law_L_ifPassed : GoodIn wsL_law wsL_ifPassed := goodIn_ca (goodIn_r _ [727, 142, 728, 729, 730, 2, 731, 331, 332, 333, 147, 148, 628, 629, 630, 732, 733, 734, 735, 17, 16, 589, 97, 98, 15, 99, 100, 101, 33, 102, 103, 104, 105, 34, 35, 36, 37, 38, 39, 40, 41, 42, 43, 47, 106, 107, 108, 46, 109, 110, 111, 112, 51, 113, 52, 53, 54, 337, 338, 339, 340, 341, 342, 343, 344, 345, 346, 347, 348, 349, 350, 351, 352, 353, 354, 355, 356, 357, 358, 359, 360, 361, 362, 363, 364, 365, 221, 222, 223, 224, 225, 226, 227, 228, 366, 367, 368, 369, 370, 371, 372, 373, 374, 375, 376, 377, 378, 379, 380, 381, 382, 383, 384, 385, 386, 230, 231, 232, 210, 211, 212, 213, 387, 388, 389, 390, 391, 202, 203, 204, 205, 206, 207, 208, 209, 157, 158, 159, 392, 218, 219, 220, 736, 737, 738, 739, 330, 694, 294, 272, 693, 334, 335, 336, 869, 870, 871, 872, 873, 874, 888, 889, 890, 891, 892, 893, 894, 895, 896, 897, 898, 899, 900, 901, 906, 907, 908, 909, 910, 911, 912] (by decide +kernel) (by decide +kernel)) (goodIn_sub (fun _ h => List.mem_append_left _ (List.mem_append_right _ h)) (by decide +kernel))
set_option maxRecDepth 20000 in
theorem gL_law_L_ifPassed : GoodIn wsL_law (va_wsS RL 151 yL_ifPassed wsL_ifPassed) := goodIn_app (goodIn_of _ (by decide +kernel)) ggL_law_L_ifPassed
set_option maxRecDepth 20000 in
theorem ggL_law_X5_ifPassed : GoodIn wsL_law wsX5_ifPassed := goodIn_r _ [743, 118, 167, 168, 5, 169, 744, 745, 746, 747, 69, 70, 128, 129, 130, 710, 711, 712, 713, 170, 171, 172, 173, 397, 398, 399, 400, 401, 402, 403, 404, 405, 406, 407, 408, 409, 410, 411, 412, 413, 414, 415, 416, 417, 418, 419, 420, 182, 183, 184, 185, 131, 132, 133, 261, 262, 263, 264, 421, 422, 423, 424, 425, 426, 427, 428, 429, 430, 431, 432, 178, 179, 180, 181, 253, 254, 255, 256, 433, 434, 435, 436, 249, 250, 251, 252, 174, 175, 176, 177, 257, 258, 259, 260, 706, 707, 708, 709, 119, 120, 121, 122, 875, 876, 877, 878, 879, 880, 881, 882, 883, 884, 885, 886, 887] (by decide +kernel) (by decide +kernel)
set_option maxRecDepth 20000 in
theorem gL_law_X5_ifPassed : GoodIn wsL_law (wsV RL 153 RX5 yX5_ifPassed wsX5_ifPassed) := goodIn_app (goodIn_of _ (by decide +kernel)) ggL_law_X5_ifPassed
set_option maxRecDepth 20000 in
theorem ggL_law_X4_stillIn : GoodIn wsL_law wsX4_stillIn := goodIn_r _ [751, 17, 16, 272, 273, 589, 97, 98, 15, 99, 100, 101, 33, 102, 103, 104, 105, 34, 35, 36, 37, 38, 39, 40, 41, 42, 43, 47, 106, 107, 108, 46, 109, 110, 111, 112, 51, 113, 52, 53, 54, 337, 338, 339, 340, 341, 342, 343, 344, 345, 346, 347, 348, 349, 350, 351, 352, 353, 354, 355, 356, 357, 358, 359, 360, 361, 362, 363, 364, 365, 221, 222, 223, 224, 225, 226, 227, 228, 366, 367, 368, 369, 370, 371, 372, 373, 374, 375, 376, 377, 378, 379, 380, 381, 382, 383, 384, 385, 386, 230, 231, 232, 210, 211, 212, 213, 387, 388, 389, 390, 391, 202, 203, 204, 205, 206, 207, 208, 209, 157, 158, 159, 392, 218, 219, 220, 869, 870, 871, 872, 873, 874, 888, 889, 890, 891, 892, 893, 894, 895, 896, 897, 898, 899, 900, 901, 906, 907, 908, 909, 910, 911, 912] (by decide +kernel) (by decide +kernel)
set_option maxRecDepth 20000 in
theorem gL_law_X4_stillIn : GoodIn wsL_law (wsV RL 154 RX4 yX4_stillIn wsX4_stillIn) := goodIn_app (goodIn_of _ (by decide +kernel)) ggL_law_X4_stillIn
set_option maxRecDepth 20000 in
theorem ggL_law_X5_stillIn : GoodIn wsL_law wsX5_stillIn := goodIn_r _ [755, 118, 756, 757, 758, 5, 759, 69, 70, 128, 129, 130, 401, 402, 403, 404, 405, 406, 407, 408, 409, 410, 411, 412, 413, 414, 415, 416, 417, 418, 419, 420, 182, 183, 184, 185, 131, 132, 133, 261, 262, 263, 264, 421, 422, 423, 424, 425, 426, 427, 428, 429, 430, 431, 432, 178, 179, 180, 181, 253, 254, 255, 256, 433, 434, 435, 436, 249, 250, 251, 252, 170, 171, 172, 173, 174, 175, 176, 177, 257, 258, 259, 260, 875, 876, 877, 878, 879, 880, 881, 882, 883, 884, 885, 886, 887] (by decide +kernel) (by decide +kernel)
set_option maxRecDepth 20000 in
theorem gL_law_X5_stillIn : GoodIn wsL_law (wsV RL 157 RX5 yX5_stillIn wsX5_stillIn) := goodIn_app (goodIn_of _ (by decide +kernel)) ggL_law_X5_stillIn
set_option maxRecDepth 20000 in
theorem ggL_law_X4_hidden : GoodIn wsL_law wsX4_hidden := goodIn_r _ [763, 16, 330, 697, 334, 335, 2, 336, 869, 870, 871, 872, 873, 874, 888, 889, 890, 891, 892, 893, 894, 895, 896, 897, 898, 899, 900, 901] (by decide +kernel) (by decide +kernel)
set_option maxRecDepth 20000 in
theorem gL_law_X4_hidden : GoodIn wsL_law (wsV RL 158 RX4 yX4_hidden wsX4_hidden) := goodIn_app (goodIn_of _ (by decide +kernel)) ggL_law_X4_hidden
set_option maxRecDepth 20000 in
theorem ggL_law_X5_hidden : GoodIn wsL_law wsX5_hidden := goodIn_r _ [767, 118, 768, 769, 770, 5, 771, 706, 707, 708, 709, 69, 182, 183, 184, 185, 131, 132, 133, 875, 876, 877, 878, 879, 880, 881, 882, 883, 884, 885, 886, 887] (by decide +kernel) (by decide +kernel)
set_option maxRecDepth 20000 in
theorem gL_law_X5_hidden : GoodIn wsL_law (wsV RL 161 RX5 yX5_hidden wsX5_hidden) := goodIn_app (goodIn_of _ (by decide +kernel)) ggL_law_X5_hidden
set_option maxRecDepth 20000 in
theorem ggL_law_X4_neediest : GoodIn wsL_law wsX4_neediest := goodIn_r _ [775, 16, 86, 776, 777, 778, 15, 779, 43, 362, 363, 364, 365, 215, 2, 216, 382, 383, 384, 385, 41, 42, 869, 870, 871, 872, 873, 874, 888, 889, 890, 891, 892, 893, 894, 895, 896, 897, 898, 899, 900, 901] (by decide +kernel) (by decide +kernel)
set_option maxRecDepth 20000 in
theorem gL_law_X4_neediest : GoodIn wsL_law (wsV RL 162 RX4 yX4_neediest wsX4_neediest) := goodIn_app (goodIn_of _ (by decide +kernel)) ggL_law_X4_neediest
set_option maxRecDepth 20000 in
theorem ggL_law_X5_neediest : GoodIn wsL_law wsX5_neediest := goodIn_r _ [783, 118, 784, 785, 786, 5, 787, 69, 788, 789, 790, 791, 182, 183, 184, 185, 131, 132, 133, 429, 430, 431, 432, 875, 876, 877, 878, 879, 880, 881, 882, 883, 884, 885, 886, 887] (by decide +kernel) (by decide +kernel)
set_option maxRecDepth 20000 in
theorem gL_law_X5_neediest : GoodIn wsL_law (wsV RL 165 RX5 yX5_neediest wsX5_neediest) := goodIn_app (goodIn_of _ (by decide +kernel)) ggL_law_X5_neediest
set_option maxRecDepth 20000 in
theorem ggL_law_X4_arrivedShare : GoodIn wsL_law wsX4_arrivedShare := goodIn_r _ [795, 16, 697, 694, 334, 335, 2, 336, 869, 870, 871, 872, 873, 874, 888, 889, 890, 891, 892, 893, 894, 895, 896, 897, 898, 899, 900, 901] (by decide +kernel) (by decide +kernel)
set_option maxRecDepth 20000 in
theorem gL_law_X4_arrivedShare : GoodIn wsL_law (wsV RL 166 RX4 yX4_arrivedShare wsX4_arrivedShare) := goodIn_app (goodIn_of _ (by decide +kernel)) ggL_law_X4_arrivedShare
set_option maxRecDepth 20000 in
theorem ggL_law_X5_arrivedShare : GoodIn wsL_law wsX5_arrivedShare := goodIn_r _ [799, 118, 800, 801, 802, 5, 803, 710, 711, 712, 713, 170, 171, 172, 173, 69, 875, 876, 877, 878, 879, 880, 881, 882, 883, 884, 885, 886, 887] (by decide +kernel) (by decide +kernel)
set_option maxRecDepth 20000 in
theorem gL_law_X5_arrivedShare : GoodIn wsL_law (wsV RL 170 RX5 yX5_arrivedShare wsX5_arrivedShare) := goodIn_app (goodIn_of _ (by decide +kernel)) ggL_law_X5_arrivedShare
set_option maxRecDepth 20000 in
theorem ggL_law_X4_digest : GoodIn wsL_law wsX4_digest := goodIn_r _ [807, 808, 809, 810, 811, 2, 812, 16, 446, 688, 689, 690, 691, 329, 86, 272, 273, 692, 693, 330, 694, 695, 294, 149, 696, 697, 24, 612, 334, 335, 336, 813, 814, 815, 816, 817, 818, 819, 820, 631, 632, 633, 15, 634, 34, 35, 36, 37, 38, 209, 157, 158, 159, 39, 40, 205, 206, 207, 208, 821, 822, 823, 824, 650, 651, 652, 653, 41, 42, 43, 386, 230, 231, 232, 382, 383, 384, 385, 378, 379, 380, 381, 47, 210, 211, 212, 46, 213, 112, 825, 826, 827, 828, 669, 670, 671, 672, 51, 52, 53, 54, 829, 830, 831, 832, 732, 733, 734, 735, 17, 589, 97, 98, 99, 100, 101, 33, 102, 103, 104, 105, 106, 107, 108, 109, 110, 111, 113, 337, 338, 339, 340, 341, 342, 343, 344, 345, 346, 347, 348, 349, 350, 351, 352, 353, 354, 355, 356, 357, 358, 359, 360, 361, 362, 363, 364, 365, 221, 222, 223, 224, 225, 226, 227, 228, 366, 367, 368, 369, 370, 371, 372, 373, 374, 375, 376, 377, 387, 388, 389, 390, 391, 202, 203, 204, 392, 218, 219, 220, 736, 737, 738, 739, 833, 749, 750, 751, 834, 761, 762, 763, 835, 773, 774, 775, 776, 777, 778, 779, 215, 216, 836, 793, 794, 795, 837, 838, 839, 840, 841, 842, 843, 844, 845, 846, 20, 847, 848, 849, 850, 28, 461, 462, 869, 870, 871, 872, 873, 874, 888, 889, 890, 891, 892, 893, 894, 895, 896, 897, 898, 899, 900, 901, 906, 907, 908, 909, 910, 911, 912, 902, 903, 904, 905] (by decide +kernel) (by decide +kernel)
set_option maxRecDepth 20000 in
theorem gL_law_X4_digest : GoodIn wsL_law (wsV RL 171 RX4 yX4_digest wsX4_digest) := goodIn_app (goodIn_of _ (by decide +kernel)) ggL_law_X4_digest
set_option maxRecDepth 20000 in
theorem ggL_law_X5_digest : GoodIn wsL_law wsX5_digest := goodIn_r _ [854, 118, 855, 856, 69, 73, 467, 74, 702, 703, 704, 5, 705, 127, 706, 707, 708, 709, 182, 183, 184, 185, 131, 132, 133, 710, 711, 712, 713, 170, 171, 172, 173, 639, 640, 641, 642, 174, 175, 176, 177, 178, 179, 180, 181, 249, 250, 251, 252, 658, 659, 660, 661, 429, 430, 431, 432, 425, 426, 427, 428, 253, 254, 255, 256, 677, 678, 679, 680, 744, 745, 746, 747, 70, 128, 129, 130, 397, 398, 399, 400, 401, 402, 403, 404, 405, 406, 407, 408, 409, 410, 411, 412, 413, 414, 415, 416, 417, 418, 419, 420, 261, 262, 263, 264, 421, 422, 423, 424, 433, 434, 435, 436, 257, 258, 259, 260, 756, 757, 758, 759, 768, 769, 770, 771, 784, 785, 786, 787, 788, 789, 790, 791, 800, 801, 802, 803, 857, 858, 859, 860, 861, 862, 863, 864, 865, 866, 867, 868, 875, 876, 877, 878, 879, 880, 881, 882, 883, 884, 885, 886, 887] (by decide +kernel) (by decide +kernel)
set_option maxRecDepth 20000 in
theorem gL_law_X5_digest : GoodIn wsL_law (wsV RL 175 RX5 yX5_digest wsX5_digest) := goodIn_app (goodIn_of _ (by decide +kernel)) ggL_law_X5_digest
