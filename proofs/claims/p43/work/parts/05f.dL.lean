set_option maxRecDepth 20000 in
theorem ggL_isClimbing_X9_init : GoodIn wsL_isClimbing wsX9_init := goodIn_r _ [6, 7, 8, 9, 10, 11, 12, 13, 14, 15, 16, 17, 18, 19, 20, 21, 22, 23, 24, 25, 26, 27, 28, 29, 30, 31, 32, 33, 34, 35, 36, 37, 38, 39, 40, 41, 42, 43, 44, 45, 46, 47, 48, 49, 50, 51, 52, 53, 54, 55, 56, 57, 58, 59, 60, 61, 62, 63, 64, 65, 66, 67, 68, 69, 70, 71, 72, 73, 74, 275, 276, 277, 278, 279, 280, 281, 282, 283, 284, 270, 271, 272, 273, 274, 285, 286, 287, 288, 289, 290, 291, 292, 293, 294, 295, 296, 297, 298, 299, 300, 301, 302, 303, 304] (by decide +kernel) (by decide +kernel)
set_option maxRecDepth 20000 in
theorem gL_isClimbing_X9_init : GoodIn wsL_isClimbing (wsX9_init) := ggL_isClimbing_X9_init
set_option maxRecDepth 20000 in
theorem ggL_isClimbing_L_cell : GoodIn wsL_isClimbing wsL_cell := goodIn_r _ [78, 79] (by decide +kernel) (by decide +kernel)
set_option maxRecDepth 20000 in
theorem gL_isClimbing_L_cell : GoodIn wsL_isClimbing (va_wsS RL 144 yL_cell wsL_cell) := goodIn_app (goodIn_of _ (by decide +kernel)) ggL_isClimbing_L_cell
set_option maxRecDepth 20000 in
theorem ggL_isClimbing_L_up : GoodIn wsL_isClimbing wsL_up := goodIn_r _ [82, 83] (by decide +kernel) (by decide +kernel)
set_option maxRecDepth 20000 in
theorem gL_isClimbing_L_up : GoodIn wsL_isClimbing (va_wsS RL 9 yL_up wsL_up) := goodIn_app (goodIn_of _ (by decide +kernel)) ggL_isClimbing_L_up
set_option maxRecDepth 20000 in
theorem ggL_isClimbing_X9_setThreshold : GoodIn wsL_isClimbing wsX9_setThreshold := goodIn_ca (goodIn_r _ [87, 13, 88, 89, 17, 90, 91, 3, 92, 93, 94, 95, 96, 97, 16, 98, 99, 100, 101, 102, 103, 104, 105, 106, 107, 108, 65, 109, 110, 111, 12, 112, 113, 114, 30, 31, 115, 116, 117, 35, 39, 43, 118, 119, 120, 34, 121, 122, 123, 124, 47, 125, 126, 127, 38, 128, 52, 129, 53, 130, 131, 132, 133, 134, 135, 136, 137, 138, 139, 140, 141, 42, 142, 57, 58, 59, 143, 270, 271, 272, 273, 274, 275, 276, 277, 278, 279, 280, 281, 282, 283, 284, 292, 293, 294, 295, 285, 286, 287, 296, 297, 298, 299, 300, 301, 302, 303, 304] (by decide +kernel) (by decide +kernel)) (goodIn_sub (fun _ h => List.mem_cons_of_mem _ (List.mem_append_right _ h)) (by decide +kernel))
set_option maxRecDepth 20000 in
theorem gL_isClimbing_X9_setThreshold : GoodIn wsL_isClimbing (wsV RL 57 RX9 yX9_setThreshold wsX9_setThreshold) := goodIn_app (goodIn_of _ (by decide +kernel)) ggL_isClimbing_X9_setThreshold
set_option maxRecDepth 20000 in
theorem ggL_isClimbing_L_travels : GoodIn wsL_isClimbing wsL_travels := goodIn_ca (goodIn_r _ [146, 147, 148, 149, 3, 150, 13, 90, 91, 92, 93, 94, 151, 152, 153, 12, 154, 113, 114, 31, 155, 156, 157, 158, 159, 160, 161, 162, 163, 164, 165, 166, 167, 168, 169, 170, 171, 172, 173, 174, 175, 176, 32, 33, 34, 35, 30, 177, 44, 45, 46, 8, 9, 47, 118, 119, 120, 121, 122, 123, 124, 178, 179, 180, 181, 182, 183, 184, 185, 186, 187, 188, 88, 189, 190, 191, 192, 193, 194, 195, 196, 197, 198, 199, 200, 201, 202, 203, 204, 205, 206, 207, 208, 209, 210, 211, 212, 213, 214, 17, 95, 96, 97, 16, 98, 99, 100, 101, 102, 103, 104, 105, 106, 107, 108, 65, 109, 110, 111, 112, 115, 116, 117, 39, 43, 125, 126, 127, 38, 128, 52, 129, 53, 130, 131, 132, 133, 134, 135, 136, 137, 138, 139, 140, 141, 42, 142, 57, 58, 59, 143, 215, 216, 217, 218, 219, 220, 221, 222, 223, 224, 225, 226, 227, 228, 229, 230, 231, 232, 233, 234, 235, 236, 237, 238, 239, 240, 241, 242, 243, 244, 245, 246, 247, 248, 249, 250, 251, 252, 253, 254, 255, 256, 257, 258, 259, 260, 261, 262, 263, 264, 270, 271, 272, 273, 274, 275, 276, 277, 278, 279, 280, 281, 282, 283, 284, 292, 293, 294, 295, 296, 297, 298, 299, 300, 285, 286, 287, 301, 302, 303, 304] (by decide +kernel) (by decide +kernel)) (goodIn_sub (fun _ h => List.mem_cons_of_mem _ (List.mem_append_right _ h)) (by decide +kernel))
set_option maxRecDepth 20000 in
theorem gL_isClimbing_L_travels : GoodIn wsL_isClimbing (va_wsS RL 84 yL_travels wsL_travels) := goodIn_app (goodIn_of _ (by decide +kernel)) ggL_isClimbing_L_travels
set_option maxRecDepth 20000 in
theorem ggL_isClimbing_X9_base : GoodIn wsL_isClimbing wsX9_base := goodIn_r _ [268, 13, 88, 269, 270, 271, 272, 273, 274, 275, 276, 277, 278, 279, 280, 281, 282, 283, 284, 292, 293, 294, 295] (by decide +kernel) (by decide +kernel)
set_option maxRecDepth 20000 in
theorem gL_isClimbing_X9_base : GoodIn wsL_isClimbing (wsV RL 36 RX9 yX9_base wsX9_base) := goodIn_app (goodIn_of _ (by decide +kernel)) ggL_isClimbing_X9_base
set_option maxRecDepth 20000 in
theorem ggL_isClimbing_X9_ascent : GoodIn wsL_isClimbing wsX9_ascent := goodIn_r _ [188, 13, 88, 189, 270, 271, 272, 273, 274, 275, 276, 277, 278, 279, 280, 281, 282, 283, 284, 292, 293, 294, 295] (by decide +kernel) (by decide +kernel)
set_option maxRecDepth 20000 in
theorem gL_isClimbing_X9_ascent : GoodIn wsL_isClimbing (wsV RL 94 RX9 yX9_ascent wsX9_ascent) := goodIn_app (goodIn_of _ (by decide +kernel)) ggL_isClimbing_X9_ascent
set_option maxRecDepth 20000 in
theorem ggL_isClimbing_X9_descent : GoodIn wsL_isClimbing wsX9_descent := goodIn_r _ [193, 13, 88, 194, 270, 271, 272, 273, 274, 275, 276, 277, 278, 279, 280, 281, 282, 283, 284, 292, 293, 294, 295] (by decide +kernel) (by decide +kernel)
set_option maxRecDepth 20000 in
theorem gL_isClimbing_X9_descent : GoodIn wsL_isClimbing (wsV RL 97 RX9 yX9_descent wsX9_descent) := goodIn_app (goodIn_of _ (by decide +kernel)) ggL_isClimbing_X9_descent
theorem dL_isClimbing_0 : decode cL_isClimbing 0 = .ok (.new 16, 3) := by decide +kernel
theorem dL_isClimbing_3 : decode cL_isClimbing 3 = .ok (.dup, 1) := by decide +kernel
theorem dL_isClimbing_4 : decode cL_isClimbing 4 = .ok (.invokespecial 143, 3) := by decide +kernel
theorem dL_isClimbing_7 : decode cL_isClimbing 7 = .ok (.astore_n 2, 1) := by decide +kernel
theorem dL_isClimbing_8 : decode cL_isClimbing 8 = .ok (.aload_n 2, 1) := by decide +kernel
theorem dL_isClimbing_9 : decode cL_isClimbing 9 = .ok (.bipush 10, 2) := by decide +kernel
theorem dL_isClimbing_11 : decode cL_isClimbing 11 = .ok (.aload_n 0, 1) := by decide +kernel
theorem dL_isClimbing_12 : decode cL_isClimbing 12 = .ok (.iload_n 1, 1) := by decide +kernel
theorem dL_isClimbing_13 : decode cL_isClimbing 13 = .ok (.invokestatic 144, 3) := by decide +kernel
theorem dL_isClimbing_16 : decode cL_isClimbing 16 = .ok (.bipush 90, 2) := by decide +kernel
theorem dL_isClimbing_18 : decode cL_isClimbing 18 = .ok (.invokestatic 9, 3) := by decide +kernel
theorem dL_isClimbing_21 : decode cL_isClimbing 21 = .ok (.iadd, 1) := by decide +kernel
theorem dL_isClimbing_22 : decode cL_isClimbing 22 = .ok (.invokevirtual 57, 3) := by decide +kernel
theorem dL_isClimbing_25 : decode cL_isClimbing 25 = .ok (.bipush 50, 2) := by decide +kernel
theorem dL_isClimbing_27 : decode cL_isClimbing 27 = .ok (.if_icmp .ne 7, 3) := by decide +kernel
theorem dL_isClimbing_30 : decode cL_isClimbing 30 = .ok (.iconst 1, 1) := by decide +kernel
theorem dL_isClimbing_31 : decode cL_isClimbing 31 = .ok (.goto 4, 3) := by decide +kernel
theorem dL_isClimbing_34 : decode cL_isClimbing 34 = .ok (.iconst 0, 1) := by decide +kernel
theorem dL_isClimbing_35 : decode cL_isClimbing 35 = .ok (.istore_n 3, 1) := by decide +kernel
theorem dL_isClimbing_36 : decode cL_isClimbing 36 = .ok (.iconst 1, 1) := by decide +kernel
theorem dL_isClimbing_37 : decode cL_isClimbing 37 = .ok (.istore 4, 2) := by decide +kernel
theorem dL_isClimbing_39 : decode cL_isClimbing 39 = .ok (.iload 4, 2) := by decide +kernel
theorem dL_isClimbing_41 : decode cL_isClimbing 41 = .ok (.bipush 9, 2) := by decide +kernel
theorem dL_isClimbing_43 : decode cL_isClimbing 43 = .ok (.if_icmp .ge 75, 3) := by decide +kernel
theorem dL_isClimbing_46 : decode cL_isClimbing 46 = .ok (.iload_n 3, 1) := by decide +kernel
theorem dL_isClimbing_47 : decode cL_isClimbing 47 = .ok (.ifCond .eq 71, 3) := by decide +kernel
theorem dL_isClimbing_50 : decode cL_isClimbing 50 = .ok (.aload_n 0, 1) := by decide +kernel
theorem dL_isClimbing_51 : decode cL_isClimbing 51 = .ok (.iload_n 1, 1) := by decide +kernel
theorem dL_isClimbing_52 : decode cL_isClimbing 52 = .ok (.iload 4, 2) := by decide +kernel
theorem dL_isClimbing_54 : decode cL_isClimbing 54 = .ok (.iadd, 1) := by decide +kernel
theorem dL_isClimbing_55 : decode cL_isClimbing 55 = .ok (.invokestatic 144, 3) := by decide +kernel
theorem dL_isClimbing_58 : decode cL_isClimbing 58 = .ok (.istore 5, 2) := by decide +kernel
theorem dL_isClimbing_60 : decode cL_isClimbing 60 = .ok (.aload_n 2, 1) := by decide +kernel
theorem dL_isClimbing_61 : decode cL_isClimbing 61 = .ok (.iconst 1, 1) := by decide +kernel
theorem dL_isClimbing_62 : decode cL_isClimbing 62 = .ok (.iload 5, 2) := by decide +kernel
theorem dL_isClimbing_64 : decode cL_isClimbing 64 = .ok (.bipush 20, 2) := by decide +kernel
theorem dL_isClimbing_66 : decode cL_isClimbing 66 = .ok (.invokestatic 9, 3) := by decide +kernel
theorem dL_isClimbing_69 : decode cL_isClimbing 69 = .ok (.iadd, 1) := by decide +kernel
theorem dL_isClimbing_70 : decode cL_isClimbing 70 = .ok (.sipush 5000, 3) := by decide +kernel
theorem dL_isClimbing_73 : decode cL_isClimbing 73 = .ok (.iload 5, 2) := by decide +kernel
theorem dL_isClimbing_75 : decode cL_isClimbing 75 = .ok (.iconst 5, 1) := by decide +kernel
theorem dL_isClimbing_76 : decode cL_isClimbing 76 = .ok (.ishr, 1) := by decide +kernel
theorem dL_isClimbing_77 : decode cL_isClimbing 77 = .ok (.sipush 6001, 3) := by decide +kernel
theorem dL_isClimbing_80 : decode cL_isClimbing 80 = .ok (.invokestatic 9, 3) := by decide +kernel
theorem dL_isClimbing_83 : decode cL_isClimbing 83 = .ok (.iadd, 1) := by decide +kernel
theorem dL_isClimbing_84 : decode cL_isClimbing 84 = .ok (.invokestatic 84, 3) := by decide +kernel
theorem dL_isClimbing_87 : decode cL_isClimbing 87 = .ok (.ifCond .eq 23, 3) := by decide +kernel
theorem dL_isClimbing_90 : decode cL_isClimbing 90 = .ok (.aload_n 2, 1) := by decide +kernel
theorem dL_isClimbing_91 : decode cL_isClimbing 91 = .ok (.invokevirtual 36, 3) := by decide +kernel
theorem dL_isClimbing_94 : decode cL_isClimbing 94 = .ok (.aload_n 2, 1) := by decide +kernel
theorem dL_isClimbing_95 : decode cL_isClimbing 95 = .ok (.invokevirtual 94, 3) := by decide +kernel
theorem dL_isClimbing_98 : decode cL_isClimbing 98 = .ok (.aload_n 2, 1) := by decide +kernel
theorem dL_isClimbing_99 : decode cL_isClimbing 99 = .ok (.invokevirtual 97, 3) := by decide +kernel
theorem dL_isClimbing_102 : decode cL_isClimbing 102 = .ok (.isub, 1) := by decide +kernel
theorem dL_isClimbing_103 : decode cL_isClimbing 103 = .ok (.if_icmp .ne 7, 3) := by decide +kernel
theorem dL_isClimbing_106 : decode cL_isClimbing 106 = .ok (.iconst 1, 1) := by decide +kernel
theorem dL_isClimbing_107 : decode cL_isClimbing 107 = .ok (.goto 4, 3) := by decide +kernel
theorem dL_isClimbing_110 : decode cL_isClimbing 110 = .ok (.iconst 0, 1) := by decide +kernel
theorem dL_isClimbing_111 : decode cL_isClimbing 111 = .ok (.istore_n 3, 1) := by decide +kernel
theorem dL_isClimbing_112 : decode cL_isClimbing 112 = .ok (.iinc 4 1, 3) := by decide +kernel
theorem dL_isClimbing_115 : decode cL_isClimbing 115 = .ok (.goto (-76), 3) := by decide +kernel
theorem dL_isClimbing_118 : decode cL_isClimbing 118 = .ok (.iload_n 3, 1) := by decide +kernel
theorem dL_isClimbing_119 : decode cL_isClimbing 119 = .ok (.ireturn, 1) := by decide +kernel
