set_option maxRecDepth 20000 in
theorem ggL_acts_L_goes_h : GoodIn wsL_acts [Cond.code yL_goes cL_goes 11 (some .boolean)] := goodIn_r _ [98] (by decide +kernel) (by decide +kernel)
set_option maxRecDepth 20000 in
theorem ggL_acts_L_goes_r1 : GoodIn wsL_acts wsL_goes_r1 := goodIn_r _ [6, 7, 8, 9, 10, 11, 12, 13, 14, 15, 16, 17, 18, 19, 20, 21, 22, 23, 24, 25, 26, 27, 28, 29] (by decide +kernel) (by decide +kernel)
set_option maxRecDepth 20000 in
theorem ggL_acts_L_goes_r2 : GoodIn wsL_acts wsL_goes_r2 := goodIn_r _ [30, 31, 32, 33, 34, 35, 36, 37, 38, 1, 2, 3, 4, 5, 99, 100, 101, 102, 103, 104, 105, 106, 107, 108] (by decide +kernel) (by decide +kernel)
set_option maxRecDepth 20000 in
theorem ggL_acts_L_goes_r3 : GoodIn wsL_acts wsL_goes_r3 := goodIn_r _ [109, 110, 111, 112, 113, 114, 115, 63, 116, 72, 73, 74, 75, 76, 117, 118, 119, 120, 77, 78, 121, 122, 123, 124] (by decide +kernel) (by decide +kernel)
set_option maxRecDepth 20000 in
theorem ggL_acts_L_goes_r4 : GoodIn wsL_acts wsL_goes_r4 := goodIn_r _ [125, 126, 127, 128, 129, 130, 131, 132, 133, 134, 135, 136, 137, 138, 139, 140, 141, 142, 143, 144, 145, 146, 79, 80] (by decide +kernel) (by decide +kernel)
set_option maxRecDepth 20000 in
theorem ggL_acts_L_goes_r5 : GoodIn wsL_acts wsL_goes_r5 := goodIn_r _ [81, 147, 148, 149, 150, 151, 152, 153, 154, 155, 156, 157, 158, 82, 159, 160, 161, 86, 162, 90, 163, 164, 165, 42] (by decide +kernel) (by decide +kernel)
set_option maxRecDepth 20000 in
theorem ggL_acts_L_goes_r6 : GoodIn wsL_acts wsL_goes_r6 := goodIn_r _ [166, 167, 168, 169, 47, 48, 170, 171, 172, 173, 49, 50, 51, 52, 53, 54, 55, 56, 57, 58, 59, 60, 61, 62] (by decide +kernel) (by decide +kernel)
set_option maxRecDepth 20000 in
theorem ggL_acts_L_goes_r7 : GoodIn wsL_acts wsL_goes_r7 := goodIn_r _ [64, 65, 66, 67, 68, 69, 70, 71, 83, 84, 85, 87, 88, 89, 91, 92, 93, 94, 95, 174, 175, 176, 177, 178] (by decide +kernel) (by decide +kernel)
set_option maxRecDepth 20000 in
theorem ggL_acts_L_goes_r8 : GoodIn wsL_acts wsL_goes_r8 := goodIn_r _ [179, 180, 181, 182, 183, 184, 185, 186, 187, 188, 189, 190, 191, 192, 193, 194, 195, 196, 197, 198, 199, 200, 201, 202] (by decide +kernel) (by decide +kernel)
set_option maxRecDepth 20000 in
theorem ggL_acts_L_goes_r9 : GoodIn wsL_acts wsL_goes_r9 := goodIn_r _ [203, 204, 205, 206, 207, 208, 209, 210, 211, 212, 213, 214, 215, 216, 217, 218, 219, 220, 221, 222, 223, 224, 225, 226] (by decide +kernel) (by decide +kernel)
set_option maxRecDepth 20000 in
theorem ggL_acts_L_goes_r10 : GoodIn wsL_acts wsL_goes_r10 := goodIn_r _ [227, 228, 229] (by decide +kernel) (by decide +kernel)
theorem ggL_acts_L_goes : GoodIn wsL_acts wsL_goes := (goodIn_ca (goodIn_ca (goodIn_ca (goodIn_ca (goodIn_ca (goodIn_ca (goodIn_ca (goodIn_app ggL_acts_L_goes_h (goodIn_app ggL_acts_L_goes_r1 (goodIn_app ggL_acts_L_goes_r2 (goodIn_app ggL_acts_L_goes_r3 (goodIn_app ggL_acts_L_goes_r4 (goodIn_app ggL_acts_L_goes_r5 (goodIn_app ggL_acts_L_goes_r6 (goodIn_app ggL_acts_L_goes_r7 (goodIn_app ggL_acts_L_goes_r8 (goodIn_app ggL_acts_L_goes_r9 ggL_acts_L_goes_r10)))))))))) (goodIn_sub (fun _ h => List.mem_cons_of_mem _ (List.mem_append_left _ (List.mem_append_left _ (List.mem_append_left _ (List.mem_append_left _ (List.mem_append_left _ (List.mem_append_left _ (List.mem_append_left _ (List.mem_append_right _ h))))))))) (by decide +kernel))) (goodIn_sub (fun _ h => List.mem_cons_of_mem _ (List.mem_append_left _ (List.mem_append_left _ (List.mem_append_left _ (List.mem_append_left _ (List.mem_append_left _ (List.mem_append_left _ (List.mem_append_right _ h)))))))) (by decide +kernel))) (goodIn_sub (fun _ h => List.mem_cons_of_mem _ (List.mem_append_left _ (List.mem_append_left _ (List.mem_append_left _ (List.mem_append_left _ (List.mem_append_left _ (List.mem_append_right _ h))))))) (by decide +kernel))) (goodIn_sub (fun _ h => List.mem_cons_of_mem _ (List.mem_append_left _ (List.mem_append_left _ (List.mem_append_left _ (List.mem_append_left _ (List.mem_append_right _ h)))))) (by decide +kernel))) (goodIn_sub (fun _ h => List.mem_cons_of_mem _ (List.mem_append_left _ (List.mem_append_left _ (List.mem_append_right _ h)))) (by decide +kernel))) (goodIn_sub (fun _ h => List.mem_cons_of_mem _ (List.mem_append_right _ h)) (by decide +kernel))) (goodIn_sub (fun _ h => List.mem_cons_of_mem _ (List.mem_append_left _ (List.mem_append_right _ h))) (by decide +kernel)))
set_option maxRecDepth 20000 in
theorem gL_acts_L_goes : GoodIn wsL_acts (va_wsS RL 138 yL_goes wsL_goes) := goodIn_app (goodIn_of _ (by decide +kernel)) ggL_acts_L_goes
