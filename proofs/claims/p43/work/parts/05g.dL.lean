set_option maxRecDepth 20000 in
theorem ggL_law_X9_init : GoodIn wsL_law wsX9_init := goodIn_r _ [5, 6, 7, 8, 9, 10, 11, 12, 13, 14, 15, 16, 17, 18, 19, 20, 21, 22, 23, 24, 25, 26, 27, 28, 29, 30, 31, 32, 33, 34, 35, 36, 37, 38, 39, 40, 41, 42, 43, 44, 45, 46, 47, 48, 49, 50, 51, 52, 53, 54, 55, 56, 57, 58, 59, 60, 61, 62, 63, 64, 65, 66, 67, 68, 69, 70, 71, 72, 73, 485, 486, 487, 488, 489, 490, 491, 492, 493, 494, 480, 481, 482, 483, 484, 495, 496, 497, 498, 499, 500, 501, 502, 503, 504, 505, 506, 507, 508, 509, 510, 511, 512, 513, 514] (by decide +kernel) (by decide +kernel)
set_option maxRecDepth 20000 in
theorem gL_law_X9_init : GoodIn wsL_law (wsX9_init) := ggL_law_X9_init
set_option maxRecDepth 20000 in
theorem ggL_law_X9_store : GoodIn wsL_law wsX9_store := goodIn_ca (goodIn_r _ [77, 78, 12, 79, 80, 81, 2, 82, 83, 84, 85, 86, 87, 88, 20, 21, 89, 90, 91, 11, 92, 93, 94, 29, 30, 95, 96, 97, 34, 38, 42, 98, 99, 100, 33, 101, 102, 103, 104, 46, 105, 106, 107, 37, 108, 51, 109, 52, 110, 111, 112, 113, 114, 115, 116, 117, 118, 119, 120, 121, 122, 123, 124, 41, 125, 56, 57, 58, 126, 127, 128, 129, 130, 131, 132, 133, 134, 135, 136, 137, 498, 499, 480, 481, 482, 483, 484, 485, 486, 487, 488, 489, 490, 491, 492, 493, 494, 502, 503, 504, 505, 506, 507, 508, 509, 510, 511, 512, 513, 514] (by decide +kernel) (by decide +kernel)) (goodIn_sub (fun _ h => List.mem_append_left _ (List.mem_append_left _ (List.mem_append_right _ h))) (by decide +kernel))
set_option maxRecDepth 20000 in
theorem gL_law_X9_store : GoodIn wsL_law (wsV RL 140 RX9 yX9_store wsX9_store) := goodIn_app (goodIn_of _ (by decide +kernel)) ggL_law_X9_store
set_option maxRecDepth 20000 in
theorem ggL_law_L_isClimbing : GoodIn wsL_law wsL_isClimbing := goodIn_ca (goodIn_r _ [141, 0, 1, 2, 3, 4, 5, 6, 7, 8, 9, 10, 11, 12, 13, 14, 15, 16, 17, 18, 19, 20, 21, 22, 23, 24, 25, 26, 27, 28, 29, 30, 31, 32, 33, 34, 35, 36, 37, 38, 39, 40, 41, 42, 43, 44, 45, 46, 47, 48, 49, 50, 51, 52, 53, 54, 55, 56, 57, 58, 59, 60, 61, 62, 63, 64, 65, 66, 67, 68, 69, 70, 71, 72, 73, 142, 143, 140, 144, 145, 146, 147, 148, 149, 150, 151, 152, 153, 154, 155, 80, 81, 82, 83, 84, 156, 157, 158, 159, 160, 161, 162, 115, 116, 117, 163, 164, 165, 166, 167, 90, 91, 92, 93, 94, 95, 96, 97, 98, 99, 100, 101, 102, 103, 104, 105, 106, 107, 108, 109, 110, 111, 112, 113, 114, 118, 119, 120, 121, 122, 123, 124, 125, 126, 168, 169, 170, 171, 172, 173, 174, 175, 176, 177, 178, 179, 180, 133, 181, 135, 136, 137, 182, 183, 184, 185, 132, 134, 131, 186, 187, 188, 189, 190, 191, 192, 193, 194, 195, 196, 197, 198, 199, 200, 201, 202, 203, 204, 205, 206, 207, 208, 209, 210, 211, 212, 213, 214, 215, 216, 217, 218, 219, 220, 221, 222, 223, 224, 225, 226, 227, 228, 229, 230, 231, 232, 233, 234, 235, 236, 237, 238, 239, 240, 241, 242, 243, 244, 245, 246, 247, 248, 249, 250, 251, 252, 253, 254, 255, 256, 257, 258, 259, 260, 261, 262, 263, 128, 129, 130, 127, 264, 265, 266, 267, 268, 269, 270, 271, 272, 273, 274, 275, 276, 277, 278, 279, 280, 281, 282, 480, 481, 482, 483, 484, 485, 486, 487, 488, 489, 490, 491, 492, 493, 494, 495, 496, 497, 498, 499, 500, 501, 502, 503, 504, 505, 506, 507, 508, 509, 510, 511, 512, 513, 514] (by decide +kernel) (by decide +kernel)) (goodIn_sub (fun _ h => List.mem_append_left _ (List.mem_append_left _ (List.mem_append_right _ h))) (by decide +kernel))
set_option maxRecDepth 20000 in
theorem gL_law_L_isClimbing : GoodIn wsL_law (va_wsS RL 148 yL_isClimbing wsL_isClimbing) := goodIn_app (goodIn_of _ (by decide +kernel)) ggL_law_L_isClimbing
set_option maxRecDepth 20000 in
theorem ggL_law_L_cell : GoodIn wsL_law wsL_cell := goodIn_r _ [144, 145] (by decide +kernel) (by decide +kernel)
set_option maxRecDepth 20000 in
theorem gL_law_L_cell : GoodIn wsL_law (va_wsS RL 144 yL_cell wsL_cell) := goodIn_app (goodIn_of _ (by decide +kernel)) ggL_law_L_cell
set_option maxRecDepth 20000 in
theorem ggL_law_X9_digest : GoodIn wsL_law wsX9_digest := goodIn_r _ [286, 287, 12, 288, 289, 290, 2, 291, 277, 272, 221, 216, 292, 293, 154, 206, 211, 282, 226, 294, 227, 295, 296, 297, 298, 127, 128, 129, 11, 130, 29, 30, 131, 132, 133, 134, 135, 136, 137, 299, 251, 252, 37, 253, 109, 51, 254, 255, 256, 257, 258, 259, 116, 260, 261, 262, 300, 247, 248, 249, 52, 250, 301, 302, 303, 304, 305, 306, 307, 308, 309, 41, 310, 56, 311, 312, 313, 314, 57, 315, 316, 317, 318, 58, 319, 320, 321, 322, 323, 324, 183, 184, 325, 326, 327, 328, 93, 38, 329, 330, 331, 332, 333, 480, 481, 482, 483, 484, 485, 486, 487, 488, 489, 490, 491, 492, 493, 494, 502, 503, 504, 505, 506, 507, 508, 509, 510, 511, 512, 513, 514] (by decide +kernel) (by decide +kernel)
set_option maxRecDepth 20000 in
theorem gL_law_X9_digest : GoodIn wsL_law (wsV RL 130 RX9 yX9_digest wsX9_digest) := goodIn_app (goodIn_of _ (by decide +kernel)) ggL_law_X9_digest
set_option maxRecDepth 20000 in
theorem ggL_law_X9_savedStates : GoodIn wsL_law wsX9_savedStates := goodIn_r _ [337, 16, 338, 480, 481, 482, 483, 484, 495, 496, 497] (by decide +kernel) (by decide +kernel)
set_option maxRecDepth 20000 in
theorem gL_law_X9_savedStates : GoodIn wsL_law (wsV RL 152 RX9 yX9_savedStates wsX9_savedStates) := goodIn_app (goodIn_of _ (by decide +kernel)) ggL_law_X9_savedStates
set_option maxRecDepth 20000 in
theorem ggL_law_X9_undo : GoodIn wsL_law wsX9_undo := goodIn_ca (goodIn_r _ [434, 429, 430, 16, 338, 12, 435, 436, 437, 15, 438, 160, 161, 163, 164, 165, 166, 64, 167, 90, 91, 11, 92, 93, 94, 29, 30, 95, 96, 97, 34, 38, 42, 98, 99, 100, 33, 101, 102, 103, 104, 46, 105, 106, 107, 37, 108, 51, 109, 52, 110, 111, 112, 2, 113, 114, 115, 116, 117, 118, 119, 120, 121, 122, 123, 124, 41, 125, 56, 57, 58, 126, 480, 481, 482, 483, 484, 495, 496, 497, 485, 486, 487, 488, 489, 490, 491, 492, 493, 494, 502, 503, 504, 505, 506, 507, 508, 509, 510, 511, 512, 513, 514] (by decide +kernel) (by decide +kernel)) (goodIn_sub (fun _ h => List.mem_append_right _ h) (by decide +kernel))
set_option maxRecDepth 20000 in
theorem gL_law_X9_undo : GoodIn wsL_law (wsV RL 137 RX9 yX9_undo wsX9_undo) := goodIn_app (goodIn_of _ (by decide +kernel)) ggL_law_X9_undo
set_option maxRecDepth 20000 in
theorem ggL_law_L_up : GoodIn wsL_law wsL_up := goodIn_r _ [148, 149] (by decide +kernel) (by decide +kernel)
set_option maxRecDepth 20000 in
theorem gL_law_L_up : GoodIn wsL_law (va_wsS RL 9 yL_up wsL_up) := goodIn_app (goodIn_of _ (by decide +kernel)) ggL_law_L_up
set_option maxRecDepth 20000 in
theorem ggL_law_X9_altitude : GoodIn wsL_law wsX9_altitude := goodIn_r _ [267, 12, 127, 128, 129, 11, 130, 29, 30, 131, 132, 133, 134, 135, 136, 137, 480, 481, 482, 483, 484, 485, 486, 487, 488, 489, 490, 491, 492, 493, 494] (by decide +kernel) (by decide +kernel)
set_option maxRecDepth 20000 in
theorem gL_law_X9_altitude : GoodIn wsL_law (wsV RL 39 RX9 yX9_altitude wsX9_altitude) := goodIn_app (goodIn_of _ (by decide +kernel)) ggL_law_X9_altitude
