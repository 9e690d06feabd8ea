set_option maxRecDepth 100000 in
theorem ggL_law_L_isAhead_c : GoodIn wsL_law [.code yL_isAhead cL_isAhead 8 (some .boolean)] := goodIn_r _ [475] rfl (by decide +kernel)
set_option maxRecDepth 100000 in
theorem ggL_law_L_isAhead_1 : GoodIn wsL_law wsL_isAhead_r1 := goodIn_r _ [283, 284, 285, 2, 286, 287, 12, 288, 289, 290, 291, 277, 272, 221, 216, 292, 293, 154, 206, 211, 282, 226, 294, 227] rfl (by decide +kernel)
set_option maxRecDepth 100000 in
theorem ggL_law_L_isAhead_2 : GoodIn wsL_law wsL_isAhead_r2 := goodIn_r _ [295, 296, 297, 298, 127, 128, 129, 11, 130, 29, 30, 131, 132, 133, 134, 135, 136, 137, 299, 251, 252, 37, 253, 109] rfl (by decide +kernel)
set_option maxRecDepth 100000 in
theorem ggL_law_L_isAhead_3 : GoodIn wsL_law wsL_isAhead_r3 := goodIn_r _ [51, 254, 255, 256, 257, 258, 259, 116, 260, 261, 262, 300, 247, 248, 249, 52, 250, 301, 302, 303, 304, 305, 306, 307] rfl (by decide +kernel)
set_option maxRecDepth 100000 in
theorem ggL_law_L_isAhead_4 : GoodIn wsL_law wsL_isAhead_r4 := goodIn_r _ [308, 309, 41, 310, 56, 311, 312, 313, 314, 57, 315, 316, 317, 318, 58, 319, 320, 321, 322, 323, 324, 183, 184, 325] rfl (by decide +kernel)
set_option maxRecDepth 100000 in
theorem ggL_law_L_isAhead_5 : GoodIn wsL_law wsL_isAhead_r5 := goodIn_r _ [326, 327, 328, 93, 38, 329, 330, 331, 332, 333, 476, 477, 478, 479, 80, 81, 82, 83, 84, 273, 274, 275, 276, 466] rfl (by decide +kernel)
set_option maxRecDepth 100000 in
theorem ggL_law_L_isAhead_6 : GoodIn wsL_law wsL_isAhead_r6 := goodIn_r _ [467, 468, 469, 268, 269, 270, 271, 228, 229, 230, 231, 16, 156, 157, 158, 15, 159, 160, 161, 162, 115, 117, 163, 164] rfl (by decide +kernel)
set_option maxRecDepth 100000 in
theorem ggL_law_L_isAhead_7 : GoodIn wsL_law wsL_isAhead_r7 := goodIn_r _ [165, 166, 64, 167, 90, 91, 92, 94, 95, 96, 97, 34, 42, 98, 99, 100, 33, 101, 102, 103, 104, 46, 105, 106] rfl (by decide +kernel)
set_option maxRecDepth 100000 in
theorem ggL_law_L_isAhead_8 : GoodIn wsL_law wsL_isAhead_r8 := goodIn_r _ [107, 108, 110, 111, 112, 113, 114, 118, 119, 120, 121, 122, 123, 124, 125, 126, 232, 233, 234, 235, 195, 196, 197, 179] rfl (by decide +kernel)
set_option maxRecDepth 100000 in
theorem ggL_law_L_isAhead_9 : GoodIn wsL_law wsL_isAhead_r9 := goodIn_r _ [180, 181, 182, 185, 236, 237, 238, 239, 240, 241, 242, 243, 244, 245, 246, 263, 198, 199, 200, 201, 264, 265, 266, 267] rfl (by decide +kernel)
set_option maxRecDepth 100000 in
theorem ggL_law_L_isAhead_10 : GoodIn wsL_law wsL_isAhead_r10 := goodIn_r _ [431, 432, 433, 434, 429, 430, 338, 435, 436, 437, 438, 74, 75, 76, 77, 78, 79, 85, 86, 87, 88, 20, 21, 89] rfl (by decide +kernel)
set_option maxRecDepth 100000 in
theorem ggL_law_L_isAhead_11 : GoodIn wsL_law wsL_isAhead_r11 := goodIn_r _ [150, 151, 152, 153, 155, 369, 370, 140, 371, 425, 426, 427, 428] rfl (by decide +kernel)
theorem ggL_law_L_isAhead : GoodIn wsL_law wsL_isAhead := goodIn_ca (goodIn_ca (goodIn_ca (goodIn_ca (goodIn_ca (goodIn_ca (goodIn_ca (goodIn_ca (goodIn_ca (goodIn_c0 ggL_law_L_isAhead_c (goodIn_app ggL_law_L_isAhead_1 (goodIn_app ggL_law_L_isAhead_2 (goodIn_app ggL_law_L_isAhead_3 (goodIn_app ggL_law_L_isAhead_4 (goodIn_app ggL_law_L_isAhead_5 (goodIn_app ggL_law_L_isAhead_6 (goodIn_app ggL_law_L_isAhead_7 (goodIn_app ggL_law_L_isAhead_8 (goodIn_app ggL_law_L_isAhead_9 (goodIn_app ggL_law_L_isAhead_10 (ggL_law_L_isAhead_11)))))))))))) (goodIn_sub inlX9 (by decide +kernel))) (goodIn_sub inlX5 (by decide +kernel))) (goodIn_sub inlX1 (by decide +kernel))) (goodIn_sub inlX8 (by decide +kernel))) (goodIn_sub inlX2 (by decide +kernel))) (goodIn_sub inlX4 (by decide +kernel))) (goodIn_sub inlX3 (by decide +kernel))) (goodIn_sub (fun _ h => List.mem_append_left _ (List.mem_append_left _ (List.mem_append_right _ h))) (by decide +kernel))) (goodIn_sub (fun _ h => List.mem_append_right _ h) (by decide +kernel))
theorem gL_law_L_isAhead : GoodIn wsL_law (va_wsS RL 162 yL_isAhead wsL_isAhead) := goodIn_app (goodIn_of _ (by decide +kernel)) ggL_law_L_isAhead
