set_option maxRecDepth 20000 in
theorem ggL_look_X4_count : GoodIn wsL_look wsX4_count := goodIn_ca (goodIn_r _ [7, 8, 9, 6, 10, 11, 12, 13, 14, 15, 16, 17, 18, 19, 20, 21, 22, 23, 24, 25, 26, 27, 28, 29, 30, 31, 32, 33, 34, 35, 138, 139, 140, 141, 142, 143, 144, 145, 146, 147, 148, 149, 150, 151, 152, 153, 154, 155, 156, 157, 158, 159, 160, 161, 162, 163, 164, 165, 166] (by decide +kernel) (by decide +kernel)) (goodIn_sub (fun _ h => List.mem_cons_of_mem _ (List.mem_append_left _ (List.mem_append_right _ h))) (by decide +kernel))
set_option maxRecDepth 20000 in
theorem gL_look_X4_count : GoodIn wsL_look (wsV RL 76 RX4 yX4_count wsX4_count) := goodIn_app (goodIn_of _ (by decide +kernel)) ggL_look_X4_count
set_option maxRecDepth 20000 in
theorem ggL_look_L_kind : GoodIn wsL_look wsL_kind := goodIn_ca (goodIn_ca (goodIn_r _ [39, 40, 41, 42, 43, 44, 6, 45, 17, 46, 47, 48, 49, 50, 8, 9, 10, 11, 12, 51, 52, 53, 54, 55, 56, 57, 58, 59, 60, 61, 62, 63, 64, 65, 66, 67, 68, 69, 70, 138, 139, 140, 141, 142, 143, 144, 145, 146, 147, 148, 149, 150, 151, 152, 153, 154, 155, 156, 157] (by decide +kernel) (by decide +kernel)) (goodIn_sub (fun _ h => List.mem_cons_of_mem _ (List.mem_append_right _ h)) (by decide +kernel))) (goodIn_sub (fun _ h => List.mem_cons_of_mem _ (List.mem_append_left _ (List.mem_append_right _ h))) (by decide +kernel))
set_option maxRecDepth 20000 in
theorem gL_look_L_kind : GoodIn wsL_look (va_wsS RL 79 yL_kind wsL_kind) := goodIn_app (goodIn_of _ (by decide +kernel)) ggL_look_L_kind
set_option maxRecDepth 20000 in
theorem ggL_look_L_houseOf : GoodIn wsL_look wsL_houseOf := goodIn_ca (goodIn_ca (goodIn_r _ [73, 40, 41, 74, 75, 76, 6, 77, 17, 78, 79, 80, 81, 49, 50, 82, 83, 84, 85, 19, 8, 9, 10, 11, 12, 86, 87, 88, 89, 90, 91, 54, 92, 65, 66, 93, 94, 95, 96, 97, 98, 99, 100, 101, 102, 103, 104, 105, 106, 107, 108, 109, 110, 111, 112, 113, 114, 138, 139, 140, 141, 142, 143, 144, 145, 146, 147, 148, 149, 150, 151, 152, 153, 154, 155, 156, 157, 158, 159, 160, 161, 162, 163, 164] (by decide +kernel) (by decide +kernel)) (goodIn_sub (fun _ h => List.mem_cons_of_mem _ (List.mem_append_right _ h)) (by decide +kernel))) (goodIn_sub (fun _ h => List.mem_cons_of_mem _ (List.mem_append_left _ (List.mem_append_right _ h))) (by decide +kernel))
set_option maxRecDepth 20000 in
theorem gL_look_L_houseOf : GoodIn wsL_look (va_wsS RL 84 yL_houseOf wsL_houseOf) := goodIn_app (goodIn_of _ (by decide +kernel)) ggL_look_L_houseOf
set_option maxRecDepth 20000 in
theorem ggL_look_L_letter : GoodIn wsL_look wsL_letter := goodIn_ca (goodIn_r _ [117, 41, 118, 119, 120, 6, 121, 11, 12, 17, 20, 8, 9, 10, 122, 123, 124, 112, 125, 114, 126, 127, 128, 129, 138, 139, 140, 141, 142, 143, 144, 145, 146, 147, 148, 149, 150, 151, 152, 153, 154, 155, 156, 157, 158, 159, 160, 161, 162, 163, 164] (by decide +kernel) (by decide +kernel)) (goodIn_sub (fun _ h => List.mem_cons_of_mem _ (List.mem_append_left _ (List.mem_append_right _ h))) (by decide +kernel))
set_option maxRecDepth 20000 in
theorem gL_look_L_letter : GoodIn wsL_look (va_wsS RL 87 yL_letter wsL_letter) := goodIn_app (goodIn_of _ (by decide +kernel)) ggL_look_L_letter
set_option maxRecDepth 20000 in
theorem ggL_look_X4_setting : GoodIn wsL_look wsX4_setting := goodIn_ca (goodIn_r _ [133, 17, 134, 135, 136, 6, 137, 49, 50, 138, 139, 140, 141, 142, 143, 144, 145, 146, 147, 148, 149, 150, 151, 152, 153, 154, 155, 156, 157] (by decide +kernel) (by decide +kernel)) (goodIn_sub (fun _ h => List.mem_cons_of_mem _ (List.mem_append_right _ h)) (by decide +kernel))
set_option maxRecDepth 20000 in
theorem gL_look_X4_setting : GoodIn wsL_look (wsV RL 89 RX4 yX4_setting wsX4_setting) := goodIn_app (goodIn_of _ (by decide +kernel)) ggL_look_X4_setting
set_option maxRecDepth 20000 in
theorem ggL_holds_X4_count : GoodIn wsL_holds wsX4_count := goodIn_ca (goodIn_r _ [5, 6, 7, 4, 8, 9, 10, 11, 12, 13, 14, 15, 16, 17, 18, 19, 20, 21, 22, 23, 24, 25, 26, 27, 28, 29, 30, 31, 32, 33, 133, 134, 135, 136, 137, 138, 139, 140, 141, 142, 143, 144, 145, 146, 147, 148, 149, 150, 151, 152, 153, 154, 155, 156, 157, 158, 159, 160, 161] (by decide +kernel) (by decide +kernel)) (goodIn_sub (fun _ h => List.mem_cons_of_mem _ (List.mem_append_left _ (List.mem_append_right _ h))) (by decide +kernel))
set_option maxRecDepth 20000 in
theorem gL_holds_X4_count : GoodIn wsL_holds (wsV RL 76 RX4 yX4_count wsX4_count) := goodIn_app (goodIn_of _ (by decide +kernel)) ggL_holds_X4_count
set_option maxRecDepth 20000 in
theorem ggL_holds_L_houseOf : GoodIn wsL_holds wsL_houseOf := goodIn_ca (goodIn_ca (goodIn_r _ [37, 38, 39, 40, 41, 42, 4, 43, 15, 44, 45, 46, 47, 48, 49, 50, 51, 52, 53, 17, 6, 7, 8, 9, 10, 54, 55, 56, 57, 58, 59, 60, 61, 62, 63, 64, 65, 66, 67, 68, 69, 70, 71, 72, 73, 74, 75, 76, 77, 78, 79, 80, 81, 82, 83, 84, 85, 133, 134, 135, 136, 137, 138, 139, 140, 141, 142, 143, 144, 145, 146, 147, 148, 149, 150, 151, 152, 153, 154, 155, 156, 157, 158, 159] (by decide +kernel) (by decide +kernel)) (goodIn_sub (fun _ h => List.mem_cons_of_mem _ (List.mem_append_right _ h)) (by decide +kernel))) (goodIn_sub (fun _ h => List.mem_cons_of_mem _ (List.mem_append_left _ (List.mem_append_right _ h))) (by decide +kernel))
set_option maxRecDepth 20000 in
theorem gL_holds_L_houseOf : GoodIn wsL_holds (va_wsS RL 84 yL_houseOf wsL_houseOf) := goodIn_app (goodIn_of _ (by decide +kernel)) ggL_holds_L_houseOf
set_option maxRecDepth 20000 in
theorem ggL_holds_L_kind : GoodIn wsL_holds wsL_kind := goodIn_ca (goodIn_ca (goodIn_r _ [88, 38, 39, 89, 90, 91, 4, 92, 15, 93, 94, 95, 48, 49, 6, 7, 8, 9, 10, 96, 97, 98, 60, 99, 100, 101, 102, 103, 104, 105, 106, 107, 108, 62, 63, 109, 110, 111, 112, 133, 134, 135, 136, 137, 138, 139, 140, 141, 142, 143, 144, 145, 146, 147, 148, 149, 150, 151, 152] (by decide +kernel) (by decide +kernel)) (goodIn_sub (fun _ h => List.mem_cons_of_mem _ (List.mem_append_right _ h)) (by decide +kernel))) (goodIn_sub (fun _ h => List.mem_cons_of_mem _ (List.mem_append_left _ (List.mem_append_right _ h))) (by decide +kernel))
set_option maxRecDepth 20000 in
theorem gL_holds_L_kind : GoodIn wsL_holds (va_wsS RL 79 yL_kind wsL_kind) := goodIn_app (goodIn_of _ (by decide +kernel)) ggL_holds_L_kind
set_option maxRecDepth 20000 in
theorem ggL_holds_X4_hidden : GoodIn wsL_holds wsX4_hidden := goodIn_r _ [116, 15, 22, 28, 31, 32, 4, 33, 133, 134, 135, 136, 137, 138, 139, 140, 141, 142, 143, 144, 145, 146, 147, 148, 149, 150, 151, 152] (by decide +kernel) (by decide +kernel)
set_option maxRecDepth 20000 in
theorem gL_holds_X4_hidden : GoodIn wsL_holds (wsV RL 92 RX4 yX4_hidden wsX4_hidden) := goodIn_app (goodIn_of _ (by decide +kernel)) ggL_holds_X4_hidden
set_option maxRecDepth 20000 in
theorem ggL_holds_X4_neediest : GoodIn wsL_holds wsX4_neediest := goodIn_r _ [120, 15, 17, 121, 122, 123, 60, 124, 66, 125, 126, 127, 128, 55, 4, 56, 71, 72, 73, 74, 64, 65, 133, 134, 135, 136, 137, 138, 139, 140, 141, 142, 143, 144, 145, 146, 147, 148, 149, 150, 151, 152] (by decide +kernel) (by decide +kernel)
set_option maxRecDepth 20000 in
theorem gL_holds_X4_neediest : GoodIn wsL_holds (wsV RL 95 RX4 yX4_neediest wsX4_neediest) := goodIn_app (goodIn_of _ (by decide +kernel)) ggL_holds_X4_neediest
set_option maxRecDepth 20000 in
theorem ggL_holds_X4_arrivedShare : GoodIn wsL_holds wsX4_arrivedShare := goodIn_r _ [132, 15, 28, 23, 31, 32, 4, 33, 133, 134, 135, 136, 137, 138, 139, 140, 141, 142, 143, 144, 145, 146, 147, 148, 149, 150, 151, 152] (by decide +kernel) (by decide +kernel)
set_option maxRecDepth 20000 in
theorem gL_holds_X4_arrivedShare : GoodIn wsL_holds (wsV RL 98 RX4 yX4_arrivedShare wsX4_arrivedShare) := goodIn_app (goodIn_of _ (by decide +kernel)) ggL_holds_X4_arrivedShare
set_option maxRecDepth 20000 in
theorem ggL_would_L_low : GoodIn wsL_would wsL_low := goodIn_r _ [4, 5] (by decide +kernel) (by decide +kernel)
set_option maxRecDepth 20000 in
theorem gL_would_L_low : GoodIn wsL_would (va_wsS RL 102 yL_low wsL_low) := goodIn_app (goodIn_of _ (by decide +kernel)) ggL_would_L_low
set_option maxRecDepth 20000 in
theorem ggL_would_L_ifPassed : GoodIn wsL_would wsL_ifPassed := goodIn_ca (goodIn_r _ [8, 9, 10, 11, 12, 13, 14, 15, 16, 17, 18, 19, 20, 21, 22, 23, 24, 25, 26, 27, 28, 29, 30, 31, 32, 33, 34, 35, 36, 37, 38, 39, 40, 41, 42, 43, 44, 45, 46, 47, 48, 49, 50, 51, 52, 53, 54, 55, 56, 57, 58, 59, 60, 61, 62, 63, 64, 65, 66, 67, 68, 69, 70, 71, 72, 73, 74, 75, 76, 77, 78, 79, 80, 81, 82, 83, 84, 85, 86, 87, 88, 89, 90, 91, 92, 93, 94, 95, 96, 97, 98, 99, 100, 101, 102, 103, 104, 105, 106, 107, 108, 109, 110, 111, 112, 113, 114, 115, 116, 117, 118, 119, 120, 121, 122, 123, 124, 125, 126, 127, 128, 129, 130, 131, 132, 133, 134, 135, 136, 137, 138, 139, 140, 141, 142, 143, 144, 145, 146, 147, 148, 149, 150, 151, 152, 153, 154, 155, 156, 157, 158, 159, 160, 161, 184, 185, 186, 187, 188, 189, 190, 191, 192, 193, 194, 195, 196, 197, 198, 199, 200, 201, 202, 203, 204, 205, 206, 207, 208, 209, 210] (by decide +kernel) (by decide +kernel)) (goodIn_sub (fun _ h => List.mem_cons_of_mem _ (List.mem_append_right _ h)) (by decide +kernel))
set_option maxRecDepth 20000 in
theorem gL_would_L_ifPassed : GoodIn wsL_would (va_wsS RL 105 yL_ifPassed wsL_ifPassed) := goodIn_app (goodIn_of _ (by decide +kernel)) ggL_would_L_ifPassed
set_option maxRecDepth 20000 in
theorem ggL_would_X4_stillIn : GoodIn wsL_would wsX4_stillIn := goodIn_r _ [165, 27, 28, 157, 166, 29, 30, 31, 32, 33, 34, 35, 36, 37, 38, 39, 40, 41, 42, 43, 44, 45, 46, 47, 48, 49, 50, 51, 52, 53, 54, 55, 56, 57, 58, 59, 60, 61, 62, 63, 64, 65, 66, 67, 68, 69, 70, 71, 72, 73, 74, 75, 76, 77, 78, 79, 80, 81, 82, 83, 84, 85, 86, 87, 88, 89, 90, 91, 92, 93, 94, 95, 96, 97, 98, 99, 100, 101, 102, 103, 104, 105, 106, 107, 108, 109, 110, 111, 112, 113, 114, 115, 116, 117, 118, 119, 120, 121, 122, 123, 124, 125, 126, 127, 128, 129, 130, 131, 132, 133, 134, 135, 136, 137, 138, 139, 140, 141, 142, 143, 144, 145, 146, 147, 148, 149, 184, 185, 186, 187, 188, 189, 190, 191, 192, 193, 194, 195, 196, 197, 198, 199, 200, 201, 202, 203, 204, 205, 206, 207, 208, 209, 210] (by decide +kernel) (by decide +kernel)
set_option maxRecDepth 20000 in
theorem gL_would_X4_stillIn : GoodIn wsL_would (wsV RL 107 RX4 yX4_stillIn wsX4_stillIn) := goodIn_app (goodIn_of _ (by decide +kernel)) ggL_would_X4_stillIn
set_option maxRecDepth 20000 in
theorem ggL_would_X4_count : GoodIn wsL_would wsX4_count := goodIn_ca (goodIn_r _ [170, 20, 21, 13, 22, 18, 19, 171, 172, 173, 174, 28, 175, 176, 157, 166, 177, 158, 154, 155, 178, 156, 179, 180, 181, 182, 183, 159, 160, 161, 184, 185, 186, 187, 188, 189, 190, 191, 192, 193, 194, 195, 196, 197, 198, 199, 200, 201, 202, 203, 204, 205, 206, 207, 208, 209, 210, 211, 212] (by decide +kernel) (by decide +kernel)) (goodIn_sub (fun _ h => List.mem_cons_of_mem _ (List.mem_append_right _ h)) (by decide +kernel))
set_option maxRecDepth 20000 in
theorem gL_would_X4_count : GoodIn wsL_would (wsV RL 76 RX4 yX4_count wsX4_count) := goodIn_app (goodIn_of _ (by decide +kernel)) ggL_would_X4_count
