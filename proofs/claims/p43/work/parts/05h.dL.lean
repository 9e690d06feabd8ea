theorem goodIn_c0 {big b : List Cond} {c : Cond} (h : GoodIn big [c]) (hb : GoodIn big b) : GoodIn big (c :: b) := fun w hw => (List.mem_cons.mp hw).elim (fun e => h w (List.mem_cons.mpr (Or.inl e))) (hb w)
theorem inlX1 : ∀ w ∈ wsX10, w ∈ wsL_law := fun _ h => List.mem_append_left _ (List.mem_append_left _ (List.mem_append_left _ (List.mem_append_left _ (List.mem_append_left _ (List.mem_append_left _ (List.mem_append_right _ h))))))
theorem inlX2 : ∀ w ∈ wsX20, w ∈ wsL_law := fun _ h => List.mem_append_left _ (List.mem_append_left _ (List.mem_append_left _ (List.mem_append_left _ (List.mem_append_right _ h))))
theorem inlX3 : ∀ w ∈ wsX30, w ∈ wsL_law := fun _ h => List.mem_append_left _ (List.mem_append_left _ (List.mem_append_left _ (List.mem_append_left _ (List.mem_append_left _ (List.mem_append_left _ (List.mem_append_left _ (List.mem_append_left _ (List.mem_append_right _ h))))))))
theorem inlX4 : ∀ w ∈ wsX40, w ∈ wsL_law := fun _ h => List.mem_append_left _ (List.mem_append_left _ (List.mem_append_left _ (List.mem_append_left _ (List.mem_append_left _ (List.mem_append_left _ (List.mem_append_left _ (List.mem_append_left _ (List.mem_append_left _ (List.mem_append_right _ h)))))))))
theorem inlX5 : ∀ w ∈ wsX50, w ∈ wsL_law := fun _ h => List.mem_append_left _ (List.mem_append_left _ (List.mem_append_left _ (List.mem_append_left _ (List.mem_append_left _ (List.mem_append_left _ (List.mem_append_left _ (List.mem_append_left _ (List.mem_append_left _ (List.mem_append_left _ (List.mem_append_right _ h))))))))))
theorem inlX7 : ∀ w ∈ wsX70, w ∈ wsL_law := fun _ h => List.mem_append_left _ (List.mem_append_left _ (List.mem_append_left _ (List.mem_append_left _ (List.mem_append_left _ (List.mem_append_left _ (List.mem_append_left _ (List.mem_append_right _ h)))))))
theorem inlX8 : ∀ w ∈ wsX80, w ∈ wsL_law := fun _ h => List.mem_append_left _ (List.mem_append_left _ (List.mem_append_left _ (List.mem_append_left _ (List.mem_append_left _ (List.mem_append_right _ h)))))
theorem inlX9 : ∀ w ∈ wsX90, w ∈ wsL_law := fun _ h => List.mem_append_left _ (List.mem_append_left _ (List.mem_append_left _ (List.mem_append_left _ (List.mem_append_left _ (List.mem_append_left _ (List.mem_append_left _ (List.mem_append_left _ (List.mem_append_left _ (List.mem_append_left _ (List.mem_append_left _ (List.mem_append_right _ h)))))))))))
set_option maxRecDepth 100000 in
theorem ggL_law_L_acts_c : GoodIn wsL_law [.code yL_acts cL_acts 12 (some .boolean)] := goodIn_r _ [341] rfl (by decide +kernel)
set_option maxRecDepth 100000 in
theorem ggL_law_L_acts_1 : GoodIn wsL_law wsL_acts_r1 := goodIn_r _ [342, 343, 146, 147, 140, 148, 149, 273, 274, 275, 2, 276, 12, 277, 344, 345, 346, 347, 16, 156, 157, 158, 15, 159] rfl (by decide +kernel)
set_option maxRecDepth 100000 in
theorem ggL_law_L_acts_2 : GoodIn wsL_law wsL_acts_r2 := goodIn_r _ [160, 161, 162, 115, 116, 117, 163, 164, 165, 166, 64, 167, 90, 91, 11, 92, 93, 94, 29, 30, 95, 96, 97, 34] rfl (by decide +kernel)
set_option maxRecDepth 100000 in
theorem ggL_law_L_acts_3 : GoodIn wsL_law wsL_acts_r3 := goodIn_r _ [38, 42, 98, 99, 100, 33, 101, 102, 103, 104, 46, 105, 106, 107, 37, 108, 51, 109, 52, 110, 111, 112, 113, 114] rfl (by decide +kernel)
set_option maxRecDepth 100000 in
theorem ggL_law_L_acts_4 : GoodIn wsL_law wsL_acts_r4 := goodIn_r _ [118, 119, 120, 121, 122, 123, 124, 41, 125, 56, 57, 58, 126, 348, 349, 350, 351, 352, 353, 354, 355, 356, 263, 128] rfl (by decide +kernel)
set_option maxRecDepth 100000 in
theorem ggL_law_L_acts_5 : GoodIn wsL_law wsL_acts_r5 := goodIn_r _ [129, 130, 131, 132, 133, 134, 135, 136, 137, 357, 358, 359, 360, 226, 294, 212, 213, 214, 215, 216, 361, 362, 363, 364] rfl (by decide +kernel)
set_option maxRecDepth 100000 in
theorem ggL_law_L_acts_6 : GoodIn wsL_law wsL_acts_r6 := goodIn_r _ [80, 81, 82, 83, 84, 365, 366, 367, 368, 278, 279, 280, 281, 154, 282, 264, 265, 266, 267, 127, 369, 370, 371, 372] rfl (by decide +kernel)
set_option maxRecDepth 100000 in
theorem ggL_law_L_acts_7 : GoodIn wsL_law wsL_acts_r7 := goodIn_r _ [373, 374, 375, 292, 376, 377, 378, 379, 293, 380, 381, 382, 383, 384, 385, 386, 387, 388, 179, 180, 181, 182, 183, 184] rfl (by decide +kernel)
set_option maxRecDepth 100000 in
theorem ggL_law_L_acts_8 : GoodIn wsL_law wsL_acts_r8 := goodIn_r _ [185, 389, 150, 151, 152, 153, 155, 390, 391, 392, 393, 394, 395, 396, 397, 398, 305, 306, 399, 400, 401, 402, 403, 404] rfl (by decide +kernel)
set_option maxRecDepth 100000 in
theorem ggL_law_L_acts_9 : GoodIn wsL_law wsL_acts_r9 := goodIn_r _ [405, 406, 194, 407, 408, 409, 410, 244, 245, 411, 412, 413, 414, 415, 416, 417, 418, 419, 420, 307, 308, 309, 310, 261] rfl (by decide +kernel)
set_option maxRecDepth 100000 in
theorem ggL_law_L_acts_10 : GoodIn wsL_law wsL_acts_r10 := goodIn_r _ [262, 217, 218, 219, 220, 221, 421, 422, 423, 424, 311, 312, 313, 314, 425, 426, 427, 428, 429, 430, 79, 78, 85, 86] rfl (by decide +kernel)
set_option maxRecDepth 100000 in
theorem ggL_law_L_acts_11 : GoodIn wsL_law wsL_acts_r11 := goodIn_r _ [87, 88, 20, 21, 89, 268, 269, 270, 271, 272, 168, 169, 170, 171, 172, 173, 174, 175, 176, 177, 178, 186, 187, 188] rfl (by decide +kernel)
set_option maxRecDepth 100000 in
theorem ggL_law_L_acts_12 : GoodIn wsL_law wsL_acts_r12 := goodIn_r _ [189, 190, 191, 192, 193, 31, 32, 43, 44, 45, 7, 8, 195, 196, 197, 198, 199, 200, 201, 202, 203, 204, 205, 206] rfl (by decide +kernel)
set_option maxRecDepth 100000 in
theorem ggL_law_L_acts_13 : GoodIn wsL_law wsL_acts_r13 := goodIn_r _ [207, 208, 209, 210, 211, 222, 223, 224, 225, 227, 228, 229, 230, 231, 232, 233, 234, 235, 236, 237, 238, 239, 240, 241] rfl (by decide +kernel)
set_option maxRecDepth 100000 in
theorem ggL_law_L_acts_14 : GoodIn wsL_law wsL_acts_r14 := goodIn_r _ [242, 243, 246, 247, 248, 249, 250, 251, 252, 253, 254, 255, 256, 257, 258, 259, 260] rfl (by decide +kernel)
theorem ggL_law_L_acts : GoodIn wsL_law wsL_acts := goodIn_ca (goodIn_ca (goodIn_ca (goodIn_ca (goodIn_ca (goodIn_ca (goodIn_ca (goodIn_ca (goodIn_ca (goodIn_ca (goodIn_c0 ggL_law_L_acts_c (goodIn_app ggL_law_L_acts_1 (goodIn_app ggL_law_L_acts_2 (goodIn_app ggL_law_L_acts_3 (goodIn_app ggL_law_L_acts_4 (goodIn_app ggL_law_L_acts_5 (goodIn_app ggL_law_L_acts_6 (goodIn_app ggL_law_L_acts_7 (goodIn_app ggL_law_L_acts_8 (goodIn_app ggL_law_L_acts_9 (goodIn_app ggL_law_L_acts_10 (goodIn_app ggL_law_L_acts_11 (goodIn_app ggL_law_L_acts_12 (goodIn_app ggL_law_L_acts_13 (ggL_law_L_acts_14))))))))))))))) (goodIn_sub inlX9 (by decide +kernel))) (goodIn_sub inlX5 (by decide +kernel))) (goodIn_sub inlX4 (by decide +kernel))) (goodIn_sub inlX1 (by decide +kernel))) (goodIn_sub inlX8 (by decide +kernel))) (goodIn_sub inlX2 (by decide +kernel))) (goodIn_sub inlX3 (by decide +kernel))) (goodIn_sub (fun _ h => List.mem_append_left _ (List.mem_append_left _ (List.mem_append_right _ h))) (by decide +kernel))) (goodIn_sub (fun _ h => List.mem_append_left _ (List.mem_append_right _ h)) (by decide +kernel))) (goodIn_sub (fun _ h => List.mem_append_right _ h) (by decide +kernel))
theorem gL_law_L_acts : GoodIn wsL_law (va_wsS RL 155 yL_acts wsL_acts) := goodIn_app (goodIn_of _ (by decide +kernel)) ggL_law_L_acts
