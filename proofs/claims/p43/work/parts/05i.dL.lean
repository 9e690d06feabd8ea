set_option maxRecDepth 100000 in
theorem ggL_law_L_holds_c : GoodIn wsL_law [.code yL_holds cL_holds 8 (some .boolean)] := goodIn_r _ [441] rfl (by decide +kernel)
set_option maxRecDepth 100000 in
theorem ggL_law_L_holds_1 : GoodIn wsL_law wsL_holds_r1 := goodIn_r _ [442, 443, 146, 147, 140, 148, 149, 444, 445, 446, 2, 447, 384, 12, 80, 81, 82, 83, 84, 319, 320, 321, 11, 322] rfl (by decide +kernel)
set_option maxRecDepth 100000 in
theorem ggL_law_L_holds_2 : GoodIn wsL_law wsL_holds_r2 := goodIn_r _ [30, 323, 136, 133, 137, 324, 183, 184, 135, 212, 213, 214, 215, 216, 448, 449, 450, 451, 452, 264, 265, 266, 267, 127] rfl (by decide +kernel)
set_option maxRecDepth 100000 in
theorem ggL_law_L_holds_3 : GoodIn wsL_law wsL_holds_r3 := goodIn_r _ [128, 129, 130, 29, 131, 132, 134, 268, 269, 270, 271, 272, 453, 454, 455, 456, 226, 299, 251, 252, 37, 253, 109, 51] rfl (by decide +kernel)
set_option maxRecDepth 100000 in
theorem ggL_law_L_holds_4 : GoodIn wsL_law wsL_holds_r4 := goodIn_r _ [254, 255, 256, 257, 258, 259, 116, 260, 261, 262, 357, 358, 359, 360, 294, 273, 274, 275, 276, 277, 222, 223, 224, 225] rfl (by decide +kernel)
set_option maxRecDepth 100000 in
theorem ggL_law_L_holds_5 : GoodIn wsL_law wsL_holds_r5 := goodIn_r _ [227, 217, 218, 219, 220, 221, 457, 458, 459, 460, 154, 206, 211, 461, 395, 396, 397, 398, 305, 306, 462, 463, 464, 465] rfl (by decide +kernel)
set_option maxRecDepth 100000 in
theorem ggL_law_L_holds_6 : GoodIn wsL_law wsL_holds_r6 := goodIn_r _ [415, 416, 417, 418, 419, 420, 315, 316, 317, 41, 318, 58, 466, 467, 468, 469, 300, 247, 248, 249, 52, 250, 470, 471] rfl (by decide +kernel)
set_option maxRecDepth 100000 in
theorem ggL_law_L_holds_7 : GoodIn wsL_law wsL_holds_r7 := goodIn_r _ [472] rfl (by decide +kernel)
theorem ggL_law_L_holds : GoodIn wsL_law wsL_holds := goodIn_ca (goodIn_ca (goodIn_ca (goodIn_ca (goodIn_ca (goodIn_ca (goodIn_ca (goodIn_c0 ggL_law_L_holds_c (goodIn_app ggL_law_L_holds_1 (goodIn_app ggL_law_L_holds_2 (goodIn_app ggL_law_L_holds_3 (goodIn_app ggL_law_L_holds_4 (goodIn_app ggL_law_L_holds_5 (goodIn_app ggL_law_L_holds_6 (ggL_law_L_holds_7)))))))) (goodIn_sub inlX9 (by decide +kernel))) (goodIn_sub inlX5 (by decide +kernel))) (goodIn_sub inlX8 (by decide +kernel))) (goodIn_sub inlX1 (by decide +kernel))) (goodIn_sub inlX2 (by decide +kernel))) (goodIn_sub (fun _ h => List.mem_append_left _ (List.mem_append_left _ (List.mem_append_right _ h))) (by decide +kernel))) (goodIn_sub (fun _ h => List.mem_append_left _ (List.mem_append_right _ h)) (by decide +kernel))
theorem gL_law_L_holds : GoodIn wsL_law (va_wsS RL 158 yL_holds wsL_holds) := goodIn_app (goodIn_of _ (by decide +kernel)) ggL_law_L_holds
