set_option maxRecDepth 20000 in
theorem ggL_law_L_acts_h : GoodIn wsL_law [Cond.code yL_acts cL_acts 9 (some .boolean)] := goodIn_r _ [354] (by decide +kernel) (by decide +kernel)
set_option maxRecDepth 20000 in
theorem ggL_law_L_acts_r1 : GoodIn wsL_law wsL_acts_r1 := goodIn_r _ [183, 184, 63, 185, 186, 65, 66, 67, 2, 68, 69, 70, 71, 72, 73, 74, 75, 76, 77, 12, 78, 79, 80, 81] (by decide +kernel) (by decide +kernel)
set_option maxRecDepth 20000 in
theorem ggL_law_L_acts_r2 : GoodIn wsL_law wsL_acts_r2 := goodIn_r _ [82, 83, 84, 85, 86, 87, 88, 89, 90, 20, 91, 92, 93, 94, 355, 356, 357, 286, 358, 359, 360, 361, 291, 292] (by decide +kernel) (by decide +kernel)
set_option maxRecDepth 20000 in
theorem ggL_law_L_acts_r3 : GoodIn wsL_law wsL_acts_r3 := goodIn_r _ [309, 310, 311, 19, 312, 297, 56, 313, 314, 315, 316, 298, 202, 203, 11, 204, 205, 206, 29, 207, 208, 209, 210, 30] (by decide +kernel) (by decide +kernel)
set_option maxRecDepth 20000 in
theorem ggL_law_L_acts_r4 : GoodIn wsL_law wsL_acts_r4 := goodIn_r _ [31, 32, 33, 34, 35, 36, 37, 38, 39, 43, 211, 212, 213, 42, 214, 215, 216, 137, 47, 217, 48, 49, 50, 362] (by decide +kernel) (by decide +kernel)
set_option maxRecDepth 20000 in
theorem ggL_law_L_acts_r5 : GoodIn wsL_law wsL_acts_r5 := goodIn_r _ [363, 364, 138, 139, 140, 98, 99, 141, 142, 143, 144, 145, 146, 147, 108, 109, 148, 149, 150, 151, 152, 153, 154, 155] (by decide +kernel) (by decide +kernel)
set_option maxRecDepth 20000 in
theorem ggL_law_L_acts_r6 : GoodIn wsL_law wsL_acts_r6 := goodIn_r _ [156, 157, 158, 159, 95, 96, 97, 100, 101, 102, 103, 104, 105, 106, 107, 110, 111, 112, 113, 114, 115, 116, 117, 118] (by decide +kernel) (by decide +kernel)
set_option maxRecDepth 20000 in
theorem ggL_law_L_acts_r7 : GoodIn wsL_law wsL_acts_r7 := goodIn_r _ [119, 120, 121, 122, 123, 124, 125, 126, 127, 128, 129, 130, 131, 132, 133, 134, 135, 136, 365, 366, 367, 368, 369, 370] (by decide +kernel) (by decide +kernel)
set_option maxRecDepth 20000 in
theorem ggL_law_L_acts_r8 : GoodIn wsL_law wsL_acts_r8 := goodIn_r _ [371, 372, 268, 269, 270, 373, 272, 273, 274, 243, 244, 245, 246, 247, 248, 249, 250, 374, 375, 376, 377, 378, 379, 380] (by decide +kernel) (by decide +kernel)
set_option maxRecDepth 20000 in
theorem ggL_law_L_acts_r9 : GoodIn wsL_law wsL_acts_r9 := goodIn_r _ [381, 382, 383, 384, 385, 386, 387, 388, 389, 390, 391, 392, 393, 394, 395, 396, 397, 398, 399, 400, 401, 402, 403, 404] (by decide +kernel) (by decide +kernel)
set_option maxRecDepth 20000 in
theorem ggL_law_L_acts_r10 : GoodIn wsL_law wsL_acts_r10 := goodIn_r _ [405, 406, 407, 408, 409, 410, 411, 412, 413, 414, 415, 416, 417, 340, 341, 342, 343, 344, 345, 346, 347, 418, 419, 420] (by decide +kernel) (by decide +kernel)
set_option maxRecDepth 20000 in
theorem ggL_law_L_acts_r11 : GoodIn wsL_law wsL_acts_r11 := goodIn_r _ [421, 422, 423, 424, 425, 426, 187, 188, 189, 190, 191, 192, 193, 194, 195, 196, 197, 198, 199, 200, 13, 201, 218, 219] (by decide +kernel) (by decide +kernel)
set_option maxRecDepth 20000 in
theorem ggL_law_L_acts_r12 : GoodIn wsL_law wsL_acts_r12 := goodIn_r _ [220, 221, 222, 223, 224, 225, 226, 227, 228, 229, 230, 231, 232, 233, 234, 235, 236, 237, 238, 239, 240, 241, 242, 172] (by decide +kernel) (by decide +kernel)
set_option maxRecDepth 20000 in
theorem ggL_law_L_acts_r13 : GoodIn wsL_law wsL_acts_r13 := goodIn_r _ [173, 174, 175, 251, 252, 253, 254, 255, 256, 257, 258, 259, 260, 261, 262, 263, 264, 265, 266, 267, 271, 275, 276, 277] (by decide +kernel) (by decide +kernel)
set_option maxRecDepth 20000 in
theorem ggL_law_L_acts_r14 : GoodIn wsL_law wsL_acts_r14 := goodIn_r _ [278, 427, 428, 429, 430, 431, 432, 433, 434, 435, 436, 437, 438, 439, 440, 441, 442, 443, 24, 444, 445, 446, 447, 448] (by decide +kernel) (by decide +kernel)
set_option maxRecDepth 20000 in
theorem ggL_law_L_acts_r15 : GoodIn wsL_law wsL_acts_r15 := goodIn_r _ [449, 450, 451, 452, 453, 454, 455, 456, 457, 458, 459, 23, 460, 461, 462, 463, 464, 465, 60, 466, 467, 468, 469, 470] (by decide +kernel) (by decide +kernel)
set_option maxRecDepth 20000 in
theorem ggL_law_L_acts_r16 : GoodIn wsL_law wsL_acts_r16 := goodIn_r _ [471, 472, 473, 474, 475, 476, 477, 478, 479, 480, 481, 482, 483, 484, 485, 486, 487, 488, 489, 490, 491, 492, 493, 494] (by decide +kernel) (by decide +kernel)
set_option maxRecDepth 20000 in
theorem ggL_law_L_acts_r17 : GoodIn wsL_law wsL_acts_r17 := goodIn_r _ [495, 496, 497, 498, 499, 500, 501, 502, 503, 504, 505, 506, 507, 508, 509, 510, 511, 512, 513, 514, 515] (by decide +kernel) (by decide +kernel)
theorem ggL_law_L_acts : GoodIn wsL_law wsL_acts := (goodIn_ca (goodIn_ca (goodIn_ca (goodIn_ca (goodIn_ca (goodIn_ca (goodIn_ca (goodIn_ca (goodIn_app ggL_law_L_acts_h (goodIn_app ggL_law_L_acts_r1 (goodIn_app ggL_law_L_acts_r2 (goodIn_app ggL_law_L_acts_r3 (goodIn_app ggL_law_L_acts_r4 (goodIn_app ggL_law_L_acts_r5 (goodIn_app ggL_law_L_acts_r6 (goodIn_app ggL_law_L_acts_r7 (goodIn_app ggL_law_L_acts_r8 (goodIn_app ggL_law_L_acts_r9 (goodIn_app ggL_law_L_acts_r10 (goodIn_app ggL_law_L_acts_r11 (goodIn_app ggL_law_L_acts_r12 (goodIn_app ggL_law_L_acts_r13 (goodIn_app ggL_law_L_acts_r14 (goodIn_app ggL_law_L_acts_r15 (goodIn_app ggL_law_L_acts_r16 ggL_law_L_acts_r17))))))))))))))))) (goodIn_sub inlX4 (by decide +kernel))) (goodIn_sub inlX0 (by decide +kernel))) (goodIn_sub inlX3 (by decide +kernel))) (goodIn_sub inlX2 (by decide +kernel))) (goodIn_sub inlX1 (by decide +kernel))) (goodIn_sub (fun _ h => (List.mem_append_left _ (List.mem_append_left _ (List.mem_append_right _ h)))) (by decide +kernel))) (goodIn_sub (fun _ h => (List.mem_append_right _ h)) (by decide +kernel))) (goodIn_sub (fun _ h => (List.mem_append_left _ (List.mem_append_right _ h))) (by decide +kernel)))
set_option maxRecDepth 20000 in
theorem gL_law_L_acts : GoodIn wsL_law (va_wsS RL 171 yL_acts wsL_acts) := goodIn_app (goodIn_of _ (by decide +kernel)) ggL_law_L_acts
