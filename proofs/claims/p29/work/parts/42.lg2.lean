set_option maxRecDepth 20000 in
theorem ggL_types_L_low : GoodIn wsL_types wsL_low := goodIn_r _ [4, 5] (by decide +kernel) (by decide +kernel)
set_option maxRecDepth 20000 in
theorem gL_types_L_low : GoodIn wsL_types (va_wsS RL 102 yL_low wsL_low) := goodIn_app (goodIn_of _ (by decide +kernel)) ggL_types_L_low
set_option maxRecDepth 20000 in
theorem ggL_types_X4_clearBuffer : GoodIn wsL_types wsX4_clearBuffer := goodIn_r _ [10, 11, 12, 27, 28, 29, 30, 31, 32, 33, 34] (by decide +kernel) (by decide +kernel)
set_option maxRecDepth 20000 in
theorem gL_types_X4_clearBuffer : GoodIn wsL_types (wsV RL 110 RX4 yX4_clearBuffer wsX4_clearBuffer) := goodIn_app (goodIn_of _ (by decide +kernel)) ggL_types_X4_clearBuffer
set_option maxRecDepth 20000 in
theorem ggL_types_L_append : GoodIn wsL_types wsL_append := goodIn_ca (goodIn_ca (goodIn_r _ [15, 16, 17, 18, 19, 20, 9, 21, 22, 23, 24, 25, 11, 12, 26, 27, 28, 29, 30, 31, 32, 33, 34] (by decide +kernel) (by decide +kernel)) (goodIn_sub (fun _ h => List.mem_cons_of_mem _ (List.mem_append_left _ (List.mem_append_right _ h))) (by decide +kernel))) (goodIn_sub (fun _ h => List.mem_cons_of_mem _ (List.mem_append_right _ h)) (by decide +kernel))
set_option maxRecDepth 20000 in
theorem gL_types_L_append : GoodIn wsL_types (va_wsS RL 113 yL_append wsL_append) := goodIn_app (goodIn_of _ (by decide +kernel)) ggL_types_L_append
set_option maxRecDepth 20000 in
theorem ggL_runs_X4_count : GoodIn wsL_runs wsX4_count := goodIn_ca (goodIn_r _ [5, 6, 7, 4, 8, 9, 10, 11, 12, 13, 14, 15, 16, 17, 18, 19, 20, 21, 22, 23, 24, 25, 26, 27, 28, 29, 30, 31, 32, 33, 279, 280, 281, 282, 283, 284, 285, 286, 287, 288, 289, 290, 291, 292, 293, 294, 295, 296, 297, 298, 299, 300, 301, 302, 303, 304, 305, 306, 307] (by decide +kernel) (by decide +kernel)) (goodIn_sub (fun _ h => List.mem_cons_of_mem _ (List.mem_append_left _ (List.mem_append_right _ h))) (by decide +kernel))
set_option maxRecDepth 20000 in
theorem gL_runs_X4_count : GoodIn wsL_runs (wsV RL 76 RX4 yX4_count wsX4_count) := goodIn_app (goodIn_of _ (by decide +kernel)) ggL_runs_X4_count
set_option maxRecDepth 20000 in
theorem ggL_runs_L_types : GoodIn wsL_runs wsL_types := goodIn_ca (goodIn_ca (goodIn_r _ [37, 38, 39, 36, 40, 41, 42, 43, 44, 4, 45, 46, 47, 48, 49, 50, 51, 52, 53, 54, 55, 56, 9, 10, 57, 58, 59, 279, 280, 281, 282, 283, 284, 308, 309] (by decide +kernel) (by decide +kernel)) (goodIn_sub (fun _ h => List.mem_cons_of_mem _ (List.mem_append_left _ (List.mem_append_right _ h))) (by decide +kernel))) (goodIn_sub (fun _ h => List.mem_cons_of_mem _ (List.mem_append_right _ h)) (by decide +kernel))
set_option maxRecDepth 20000 in
theorem gL_runs_L_types : GoodIn wsL_runs (va_wsS RL 116 yL_types wsL_types) := goodIn_app (goodIn_of _ (by decide +kernel)) ggL_runs_L_types
set_option maxRecDepth 20000 in
theorem ggL_runs_X4_firstError : GoodIn wsL_runs wsX4_firstError := goodIn_r _ [63, 46, 64, 65, 66, 67, 68, 69, 70, 71, 72, 73, 74, 75, 76, 77, 78, 79, 80, 279, 280, 281, 282, 283, 284, 308, 309] (by decide +kernel) (by decide +kernel)
set_option maxRecDepth 20000 in
theorem gL_runs_X4_firstError : GoodIn wsL_runs (wsV RL 120 RX4 yX4_firstError wsX4_firstError) := goodIn_app (goodIn_of _ (by decide +kernel)) ggL_runs_X4_firstError
set_option maxRecDepth 20000 in
theorem ggL_runs_L_run : GoodIn wsL_runs wsL_run := goodIn_ca (goodIn_r _ [83, 51, 84, 85, 86, 4, 87, 9, 10, 46, 29, 15, 47, 88, 89, 90, 67, 91, 69, 70, 71, 72, 73, 74, 75, 76, 77, 78, 79, 80, 92, 93, 94, 95, 96, 97, 98, 99, 100, 101, 102, 103, 104, 105, 106, 107, 108, 109, 110, 111, 112, 113, 114, 115, 116, 117, 118, 119, 120, 121, 122, 123, 124, 125, 126, 127, 128, 129, 130, 131, 132, 133, 134, 135, 136, 137, 138, 139, 140, 141, 142, 143, 144, 145, 146, 147, 148, 149, 150, 151, 16, 152, 153, 154, 155, 156, 157, 158, 159, 160, 161, 162, 163, 164, 165, 166, 167, 168, 169, 170, 171, 172, 173, 174, 175, 176, 177, 178, 179, 180, 181, 182, 183, 184, 185, 186, 187, 188, 189, 190, 191, 192, 193, 194, 195, 196, 197, 198, 199, 200, 201, 202, 203, 204, 205, 206, 207, 208, 209, 210, 211, 212, 213, 214, 215, 216, 217, 218, 219, 220, 221, 222, 223, 224, 225, 226, 227, 228, 229, 230, 231, 232, 233, 234, 235, 236, 237, 238, 239, 240, 26, 241, 242, 243, 244, 245, 246, 247, 248, 17, 249, 250, 251, 252, 253, 254, 255, 256, 257, 258, 259, 260, 261, 18, 262, 263, 264, 265, 266, 267, 268, 269, 270, 25, 271, 272, 273, 274, 275, 276, 277, 278, 279, 280, 281, 282, 283, 284, 308, 309, 306, 307, 285, 286, 287, 288, 289, 290, 291, 292, 293, 294, 295, 296, 297, 298, 299, 300, 301, 302, 303, 304, 305] (by decide +kernel) (by decide +kernel)) (goodIn_sub (fun _ h => List.mem_cons_of_mem _ (List.mem_append_left _ (List.mem_append_right _ h))) (by decide +kernel))
set_option maxRecDepth 20000 in
theorem gL_runs_L_run : GoodIn wsL_runs (va_wsS RL 123 yL_run wsL_run) := goodIn_app (goodIn_of _ (by decide +kernel)) ggL_runs_L_run
set_option maxRecDepth 20000 in
theorem ggL_runs_X4_clearBuffer : GoodIn wsL_runs wsX4_clearBuffer := goodIn_r _ [45, 46, 47, 279, 280, 281, 282, 283, 284, 308, 309] (by decide +kernel) (by decide +kernel)
set_option maxRecDepth 20000 in
theorem gL_runs_X4_clearBuffer : GoodIn wsL_runs (wsV RL 110 RX4 yX4_clearBuffer wsX4_clearBuffer) := goodIn_app (goodIn_of _ (by decide +kernel)) ggL_runs_X4_clearBuffer
