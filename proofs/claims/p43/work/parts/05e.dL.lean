set_option maxRecDepth 20000 in
theorem ggL_isAhead_X9_digest : GoodIn wsL_isAhead wsX9_digest := goodIn_r _ [5, 6, 7, 8, 9, 10, 4, 11, 12, 13, 14, 15, 16, 17, 18, 19, 20, 21, 22, 23, 24, 25, 26, 27, 28, 29, 30, 31, 32, 33, 34, 35, 36, 37, 38, 39, 40, 41, 42, 43, 44, 45, 46, 47, 48, 49, 50, 51, 52, 53, 54, 55, 56, 57, 58, 59, 60, 61, 62, 63, 64, 65, 66, 67, 68, 69, 70, 71, 72, 73, 74, 75, 76, 77, 78, 79, 80, 81, 82, 83, 84, 85, 86, 87, 88, 89, 90, 91, 92, 93, 94, 95, 96, 97, 98, 99, 100, 101, 102, 103, 104, 105, 106, 254, 255, 256, 257, 258, 259, 260, 261, 262, 263, 264, 265, 266, 267, 268, 269, 270, 271, 272, 273, 274, 275, 276, 277, 278, 279, 280, 281] (by decide +kernel) (by decide +kernel)
set_option maxRecDepth 20000 in
theorem gL_isAhead_X9_digest : GoodIn wsL_isAhead (wsV RL 130 RX9 yX9_digest wsX9_digest) := goodIn_app (goodIn_of _ (by decide +kernel)) ggL_isAhead_X9_digest
set_option maxRecDepth 20000 in
theorem ggL_isAhead_X9_minutesToAlarm : GoodIn wsL_isAhead wsX9_minutesToAlarm := goodIn_ca (goodIn_r _ [110, 7, 111, 112, 4, 113, 114, 115, 96, 97, 98, 32, 99, 100, 101, 34, 102, 61, 62, 46, 63, 64, 65, 44, 45, 47, 48, 49, 50, 51, 52, 53, 54, 55, 56, 57, 58, 59, 103, 104, 105, 106, 254, 255, 256, 257, 258, 259, 260, 261, 262, 263, 264, 265, 266, 267, 268, 273, 274, 275, 276, 277] (by decide +kernel) (by decide +kernel)) (goodIn_sub (fun _ h => List.mem_cons_of_mem _ (List.mem_append_left _ (List.mem_append_right _ h))) (by decide +kernel))
set_option maxRecDepth 20000 in
theorem gL_isAhead_X9_minutesToAlarm : GoodIn wsL_isAhead (wsV RL 134 RX9 yX9_minutesToAlarm wsX9_minutesToAlarm) := goodIn_app (goodIn_of _ (by decide +kernel)) ggL_isAhead_X9_minutesToAlarm
set_option maxRecDepth 20000 in
theorem ggL_isAhead_X9_isStation : GoodIn wsL_isAhead wsX9_isStation := goodIn_r _ [119, 7, 12, 254, 255, 256, 257, 258, 259, 260, 261, 262, 263, 264, 265, 266, 267, 268] (by decide +kernel) (by decide +kernel)
set_option maxRecDepth 20000 in
theorem gL_isAhead_X9_isStation : GoodIn wsL_isAhead (wsV RL 15 RX9 yX9_isStation wsX9_isStation) := goodIn_app (goodIn_of _ (by decide +kernel)) ggL_isAhead_X9_isStation
set_option maxRecDepth 20000 in
theorem ggL_isAhead_X9_isAlarm : GoodIn wsL_isAhead wsX9_isAlarm := goodIn_r _ [123, 7, 22, 60, 61, 62, 46, 63, 64, 65, 44, 45, 47, 48, 49, 50, 51, 52, 53, 54, 55, 56, 57, 58, 4, 59, 254, 255, 256, 257, 258, 259, 260, 261, 262, 263, 264, 265, 266, 267, 268, 273, 274, 275, 276, 277] (by decide +kernel) (by decide +kernel)
set_option maxRecDepth 20000 in
theorem gL_isAhead_X9_isAlarm : GoodIn wsL_isAhead (wsV RL 123 RX9 yX9_isAlarm wsX9_isAlarm) := goodIn_app (goodIn_of _ (by decide +kernel)) ggL_isAhead_X9_isAlarm
set_option maxRecDepth 20000 in
theorem ggL_isAhead_X9_pressure : GoodIn wsL_isAhead wsX9_pressure := goodIn_r _ [127, 7, 13, 254, 255, 256, 257, 258, 259, 260, 261, 262, 263, 264, 265, 266, 267, 268] (by decide +kernel) (by decide +kernel)
set_option maxRecDepth 20000 in
theorem gL_isAhead_X9_pressure : GoodIn wsL_isAhead (wsV RL 81 RX9 yX9_pressure wsX9_pressure) := goodIn_app (goodIn_of _ (by decide +kernel)) ggL_isAhead_X9_pressure
set_option maxRecDepth 20000 in
theorem ggL_isAhead_X9_travel : GoodIn wsL_isAhead wsX9_travel := goodIn_ca (goodIn_r _ [131, 132, 7, 111, 112, 4, 113, 114, 115, 133, 134, 135, 136, 137, 138, 139, 140, 141, 56, 142, 143, 144, 145, 146, 147, 148, 149, 150, 32, 151, 100, 152, 34, 35, 153, 154, 155, 156, 101, 157, 158, 159, 160, 161, 162, 163, 164, 165, 166, 167, 168, 169, 46, 170, 49, 48, 64, 171, 172, 173, 174, 175, 176, 177, 178, 179, 180, 181, 182, 75, 183, 77, 82, 87, 184, 185, 186, 187, 188, 189, 190, 38, 191, 192, 193, 194, 40, 41, 42, 195, 94, 95, 196, 37, 39, 197, 198, 199, 200, 201, 202, 203, 204, 205, 206, 207, 61, 62, 63, 65, 44, 45, 47, 50, 51, 52, 53, 54, 55, 57, 58, 59, 208, 30, 31, 33, 36, 209, 210, 211, 212, 29, 254, 255, 256, 257, 258, 282, 283, 284, 259, 260, 261, 262, 263, 264, 265, 266, 267, 268, 269, 270, 271, 272, 273, 274, 275, 276, 277, 278, 279, 280, 281] (by decide +kernel) (by decide +kernel)) (goodIn_sub (fun _ h => List.mem_cons_of_mem _ (List.mem_append_left _ (List.mem_append_right _ h))) (by decide +kernel))
set_option maxRecDepth 20000 in
theorem gL_isAhead_X9_travel : GoodIn wsL_isAhead (wsV RL 103 RX9 yX9_travel wsX9_travel) := goodIn_app (goodIn_of _ (by decide +kernel)) ggL_isAhead_X9_travel
set_option maxRecDepth 20000 in
theorem ggL_isAhead_X9_altitude : GoodIn wsL_isAhead wsX9_altitude := goodIn_r _ [216, 7, 29, 30, 31, 32, 33, 34, 35, 36, 37, 38, 39, 40, 41, 42, 254, 255, 256, 257, 258, 259, 260, 261, 262, 263, 264, 265, 266, 267, 268] (by decide +kernel) (by decide +kernel)
set_option maxRecDepth 20000 in
theorem gL_isAhead_X9_altitude : GoodIn wsL_isAhead (wsV RL 39 RX9 yX9_altitude wsX9_altitude) := goodIn_app (goodIn_of _ (by decide +kernel)) ggL_isAhead_X9_altitude
set_option maxRecDepth 20000 in
theorem ggL_isAhead_X9_undo : GoodIn wsL_isAhead wsX9_undo := goodIn_ca (goodIn_r _ [220, 221, 222, 132, 223, 7, 224, 225, 226, 136, 227, 138, 139, 143, 144, 145, 146, 147, 148, 149, 150, 32, 151, 100, 152, 34, 35, 153, 154, 155, 156, 101, 157, 158, 159, 160, 161, 162, 163, 164, 165, 166, 167, 168, 169, 46, 170, 49, 48, 64, 171, 172, 173, 4, 174, 175, 141, 56, 142, 176, 177, 178, 179, 180, 181, 182, 75, 183, 77, 82, 87, 184, 254, 255, 256, 257, 258, 282, 283, 284, 259, 260, 261, 262, 263, 264, 265, 266, 267, 268, 269, 270, 271, 272, 273, 274, 275, 276, 277, 278, 279, 280, 281] (by decide +kernel) (by decide +kernel)) (goodIn_sub (fun _ h => List.mem_cons_of_mem _ (List.mem_append_right _ h)) (by decide +kernel))
set_option maxRecDepth 20000 in
theorem gL_isAhead_X9_undo : GoodIn wsL_isAhead (wsV RL 137 RX9 yX9_undo wsX9_undo) := goodIn_app (goodIn_of _ (by decide +kernel)) ggL_isAhead_X9_undo
set_option maxRecDepth 20000 in
theorem ggL_isAhead_X9_store : GoodIn wsL_isAhead wsX9_store := goodIn_ca (goodIn_r _ [231, 232, 7, 233, 111, 112, 4, 113, 114, 115, 234, 235, 236, 237, 238, 239, 240, 149, 150, 32, 151, 100, 152, 34, 35, 153, 154, 155, 156, 101, 157, 158, 159, 160, 161, 162, 163, 164, 165, 166, 167, 168, 169, 46, 170, 49, 48, 64, 171, 172, 173, 174, 175, 141, 56, 142, 176, 177, 178, 179, 180, 181, 182, 75, 183, 77, 82, 87, 184, 29, 30, 31, 33, 36, 37, 38, 39, 40, 41, 42, 285, 286, 254, 255, 256, 257, 258, 259, 260, 261, 262, 263, 264, 265, 266, 267, 268, 269, 270, 271, 272, 273, 274, 275, 276, 277, 278, 279, 280, 281] (by decide +kernel) (by decide +kernel)) (goodIn_sub (fun _ h => List.mem_cons_of_mem _ (List.mem_append_left _ (List.mem_append_right _ h))) (by decide +kernel))
set_option maxRecDepth 20000 in
theorem gL_isAhead_X9_store : GoodIn wsL_isAhead (wsV RL 140 RX9 yX9_store wsX9_store) := goodIn_app (goodIn_of _ (by decide +kernel)) ggL_isAhead_X9_store
set_option maxRecDepth 20000 in
theorem ggL_isAhead_X9_setThreshold : GoodIn wsL_isAhead wsX9_setThreshold := goodIn_ca (goodIn_r _ [244, 7, 18, 245, 132, 111, 112, 4, 113, 114, 115, 133, 134, 135, 136, 137, 138, 139, 140, 141, 56, 142, 143, 144, 145, 146, 147, 148, 149, 150, 32, 151, 100, 152, 34, 35, 153, 154, 155, 156, 101, 157, 158, 159, 160, 161, 162, 163, 164, 165, 166, 167, 168, 169, 46, 170, 49, 48, 64, 171, 172, 173, 174, 175, 176, 177, 178, 179, 180, 181, 182, 75, 183, 77, 82, 87, 184, 254, 255, 256, 257, 258, 259, 260, 261, 262, 263, 264, 265, 266, 267, 268, 269, 270, 271, 272, 282, 283, 284, 273, 274, 275, 276, 277, 278, 279, 280, 281] (by decide +kernel) (by decide +kernel)) (goodIn_sub (fun _ h => List.mem_cons_of_mem _ (List.mem_append_left _ (List.mem_append_right _ h))) (by decide +kernel))
set_option maxRecDepth 20000 in
theorem gL_isAhead_X9_setThreshold : GoodIn wsL_isAhead (wsV RL 57 RX9 yX9_setThreshold wsX9_setThreshold) := goodIn_app (goodIn_of _ (by decide +kernel)) ggL_isAhead_X9_setThreshold
set_option maxRecDepth 20000 in
theorem ggL_isAhead_L_within : GoodIn wsL_isAhead wsL_within := goodIn_r _ [249] (by decide +kernel) (by decide +kernel)
set_option maxRecDepth 20000 in
theorem gL_isAhead_L_within : GoodIn wsL_isAhead (va_wsS RL 44 yL_within wsL_within) := goodIn_app (goodIn_of _ (by decide +kernel)) ggL_isAhead_L_within
set_option maxRecDepth 20000 in
theorem ggL_isAhead_X9_recall : GoodIn wsL_isAhead wsX9_recall := goodIn_ca (goodIn_ca (goodIn_r _ [253, 221, 222, 233, 132, 7, 232, 111, 112, 4, 113, 114, 115, 234, 235, 236, 237, 238, 239, 133, 134, 135, 136, 137, 138, 139, 140, 141, 56, 142, 143, 144, 145, 146, 147, 148, 149, 150, 32, 151, 100, 152, 34, 35, 153, 154, 155, 156, 101, 157, 158, 159, 160, 161, 162, 163, 164, 165, 166, 167, 168, 169, 46, 170, 49, 48, 64, 171, 172, 173, 174, 175, 176, 177, 178, 179, 180, 181, 182, 75, 183, 77, 82, 87, 184, 240, 29, 30, 31, 33, 36, 37, 38, 39, 40, 41, 42, 285, 286, 254, 255, 256, 257, 258, 282, 283, 284, 259, 260, 261, 262, 263, 264, 265, 266, 267, 268, 269, 270, 271, 272, 273, 274, 275, 276, 277, 278, 279, 280, 281] (by decide +kernel) (by decide +kernel)) (goodIn_sub (fun _ h => List.mem_cons_of_mem _ (List.mem_append_right _ h)) (by decide +kernel))) (goodIn_sub (fun _ h => List.mem_cons_of_mem _ (List.mem_append_left _ (List.mem_append_right _ h))) (by decide +kernel))
set_option maxRecDepth 20000 in
theorem gL_isAhead_X9_recall : GoodIn wsL_isAhead (wsV RL 78 RX9 yX9_recall wsX9_recall) := goodIn_app (goodIn_of _ (by decide +kernel)) ggL_isAhead_X9_recall
theorem dL_isAhead_0 : decode cL_isAhead 0 = .ok (.aload_n 0, 1) := by decide +kernel
theorem dL_isAhead_1 : decode cL_isAhead 1 = .ok (.invokevirtual 130, 3) := by decide +kernel
theorem dL_isAhead_4 : decode cL_isAhead 4 = .ok (.lstore_n 2, 1) := by decide +kernel
theorem dL_isAhead_5 : decode cL_isAhead 5 = .ok (.aload_n 0, 1) := by decide +kernel
theorem dL_isAhead_6 : decode cL_isAhead 6 = .ok (.iload_n 1, 1) := by decide +kernel
theorem dL_isAhead_7 : decode cL_isAhead 7 = .ok (.invokevirtual 134, 3) := by decide +kernel
theorem dL_isAhead_10 : decode cL_isAhead 10 = .ok (.istore 4, 2) := by decide +kernel
theorem dL_isAhead_12 : decode cL_isAhead 12 = .ok (.aload_n 0, 1) := by decide +kernel
theorem dL_isAhead_13 : decode cL_isAhead 13 = .ok (.invokevirtual 15, 3) := by decide +kernel
theorem dL_isAhead_16 : decode cL_isAhead 16 = .ok (.ifCond .ne 9, 3) := by decide +kernel
theorem dL_isAhead_19 : decode cL_isAhead 19 = .ok (.iload 4, 2) := by decide +kernel
theorem dL_isAhead_21 : decode cL_isAhead 21 = .ok (.iconst (-1), 1) := by decide +kernel
theorem dL_isAhead_22 : decode cL_isAhead 22 = .ok (.if_icmp .ne 39, 3) := by decide +kernel
theorem dL_isAhead_25 : decode cL_isAhead 25 = .ok (.iload 4, 2) := by decide +kernel
theorem dL_isAhead_27 : decode cL_isAhead 27 = .ok (.ifCond .ne 7, 3) := by decide +kernel
theorem dL_isAhead_30 : decode cL_isAhead 30 = .ok (.iconst 1, 1) := by decide +kernel
theorem dL_isAhead_31 : decode cL_isAhead 31 = .ok (.goto 4, 3) := by decide +kernel
theorem dL_isAhead_34 : decode cL_isAhead 34 = .ok (.iconst 0, 1) := by decide +kernel
theorem dL_isAhead_35 : decode cL_isAhead 35 = .ok (.aload_n 0, 1) := by decide +kernel
theorem dL_isAhead_36 : decode cL_isAhead 36 = .ok (.invokevirtual 15, 3) := by decide +kernel
theorem dL_isAhead_39 : decode cL_isAhead 39 = .ok (.ifCond .eq 14, 3) := by decide +kernel
theorem dL_isAhead_42 : decode cL_isAhead 42 = .ok (.aload_n 0, 1) := by decide +kernel
theorem dL_isAhead_43 : decode cL_isAhead 43 = .ok (.invokevirtual 123, 3) := by decide +kernel
theorem dL_isAhead_46 : decode cL_isAhead 46 = .ok (.ifCond .eq 7, 3) := by decide +kernel
theorem dL_isAhead_49 : decode cL_isAhead 49 = .ok (.iconst 1, 1) := by decide +kernel
theorem dL_isAhead_50 : decode cL_isAhead 50 = .ok (.goto 4, 3) := by decide +kernel
theorem dL_isAhead_53 : decode cL_isAhead 53 = .ok (.iconst 0, 1) := by decide +kernel
theorem dL_isAhead_54 : decode cL_isAhead 54 = .ok (.if_icmp .ne 7, 3) := by decide +kernel
theorem dL_isAhead_57 : decode cL_isAhead 57 = .ok (.iconst 1, 1) := by decide +kernel
theorem dL_isAhead_58 : decode cL_isAhead 58 = .ok (.goto 4, 3) := by decide +kernel
theorem dL_isAhead_61 : decode cL_isAhead 61 = .ok (.iconst 0, 1) := by decide +kernel
theorem dL_isAhead_62 : decode cL_isAhead 62 = .ok (.istore 5, 2) := by decide +kernel
theorem dL_isAhead_64 : decode cL_isAhead 64 = .ok (.aload_n 0, 1) := by decide +kernel
theorem dL_isAhead_65 : decode cL_isAhead 65 = .ok (.invokevirtual 81, 3) := by decide +kernel
theorem dL_isAhead_68 : decode cL_isAhead 68 = .ok (.istore 6, 2) := by decide +kernel
theorem dL_isAhead_70 : decode cL_isAhead 70 = .ok (.iload 5, 2) := by decide +kernel
theorem dL_isAhead_72 : decode cL_isAhead 72 = .ok (.ifCond .eq 112, 3) := by decide +kernel
theorem dL_isAhead_75 : decode cL_isAhead 75 = .ok (.iload 4, 2) := by decide +kernel
theorem dL_isAhead_77 : decode cL_isAhead 77 = .ok (.ifCond .le 107, 3) := by decide +kernel
theorem dL_isAhead_80 : decode cL_isAhead 80 = .ok (.iload 4, 2) := by decide +kernel
theorem dL_isAhead_82 : decode cL_isAhead 82 = .ok (.bipush 120, 2) := by decide +kernel
theorem dL_isAhead_84 : decode cL_isAhead 84 = .ok (.if_icmp .gt 100, 3) := by decide +kernel
theorem dL_isAhead_87 : decode cL_isAhead 87 = .ok (.aload_n 0, 1) := by decide +kernel
theorem dL_isAhead_88 : decode cL_isAhead 88 = .ok (.iload 4, 2) := by decide +kernel
theorem dL_isAhead_90 : decode cL_isAhead 90 = .ok (.iload 6, 2) := by decide +kernel
theorem dL_isAhead_92 : decode cL_isAhead 92 = .ok (.iload 4, 2) := by decide +kernel
theorem dL_isAhead_94 : decode cL_isAhead 94 = .ok (.iload_n 1, 1) := by decide +kernel
theorem dL_isAhead_95 : decode cL_isAhead 95 = .ok (.imul, 1) := by decide +kernel
theorem dL_isAhead_96 : decode cL_isAhead 96 = .ok (.isub, 1) := by decide +kernel
theorem dL_isAhead_97 : decode cL_isAhead 97 = .ok (.invokevirtual 103, 3) := by decide +kernel
theorem dL_isAhead_100 : decode cL_isAhead 100 = .ok (.aload_n 0, 1) := by decide +kernel
theorem dL_isAhead_101 : decode cL_isAhead 101 = .ok (.invokevirtual 39, 3) := by decide +kernel
theorem dL_isAhead_104 : decode cL_isAhead 104 = .ok (.if_icmp .ne 21, 3) := by decide +kernel
theorem dL_isAhead_107 : decode cL_isAhead 107 = .ok (.aload_n 0, 1) := by decide +kernel
theorem dL_isAhead_108 : decode cL_isAhead 108 = .ok (.invokevirtual 123, 3) := by decide +kernel
theorem dL_isAhead_111 : decode cL_isAhead 111 = .ok (.ifCond .eq 14, 3) := by decide +kernel
theorem dL_isAhead_114 : decode cL_isAhead 114 = .ok (.aload_n 0, 1) := by decide +kernel
theorem dL_isAhead_115 : decode cL_isAhead 115 = .ok (.invokevirtual 137, 3) := by decide +kernel
theorem dL_isAhead_118 : decode cL_isAhead 118 = .ok (.ifCond .lt 7, 3) := by decide +kernel
theorem dL_isAhead_121 : decode cL_isAhead 121 = .ok (.iconst 1, 1) := by decide +kernel
theorem dL_isAhead_122 : decode cL_isAhead 122 = .ok (.goto 4, 3) := by decide +kernel
theorem dL_isAhead_125 : decode cL_isAhead 125 = .ok (.iconst 0, 1) := by decide +kernel
theorem dL_isAhead_126 : decode cL_isAhead 126 = .ok (.istore 5, 2) := by decide +kernel
theorem dL_isAhead_128 : decode cL_isAhead 128 = .ok (.iload 5, 2) := by decide +kernel
theorem dL_isAhead_130 : decode cL_isAhead 130 = .ok (.ifCond .eq 51, 3) := by decide +kernel
theorem dL_isAhead_133 : decode cL_isAhead 133 = .ok (.iload 4, 2) := by decide +kernel
theorem dL_isAhead_135 : decode cL_isAhead 135 = .ok (.iconst 1, 1) := by decide +kernel
theorem dL_isAhead_136 : decode cL_isAhead 136 = .ok (.if_icmp .eq 41, 3) := by decide +kernel
theorem dL_isAhead_139 : decode cL_isAhead 139 = .ok (.aload_n 0, 1) := by decide +kernel
theorem dL_isAhead_140 : decode cL_isAhead 140 = .ok (.iload 4, 2) := by decide +kernel
theorem dL_isAhead_142 : decode cL_isAhead 142 = .ok (.iconst 1, 1) := by decide +kernel
theorem dL_isAhead_143 : decode cL_isAhead 143 = .ok (.isub, 1) := by decide +kernel
theorem dL_isAhead_144 : decode cL_isAhead 144 = .ok (.iload 6, 2) := by decide +kernel
theorem dL_isAhead_146 : decode cL_isAhead 146 = .ok (.iload 4, 2) := by decide +kernel
theorem dL_isAhead_148 : decode cL_isAhead 148 = .ok (.iconst 1, 1) := by decide +kernel
theorem dL_isAhead_149 : decode cL_isAhead 149 = .ok (.isub, 1) := by decide +kernel
theorem dL_isAhead_150 : decode cL_isAhead 150 = .ok (.iload_n 1, 1) := by decide +kernel
theorem dL_isAhead_151 : decode cL_isAhead 151 = .ok (.imul, 1) := by decide +kernel
theorem dL_isAhead_152 : decode cL_isAhead 152 = .ok (.isub, 1) := by decide +kernel
theorem dL_isAhead_153 : decode cL_isAhead 153 = .ok (.invokevirtual 103, 3) := by decide +kernel
theorem dL_isAhead_156 : decode cL_isAhead 156 = .ok (.aload_n 0, 1) := by decide +kernel
theorem dL_isAhead_157 : decode cL_isAhead 157 = .ok (.invokevirtual 39, 3) := by decide +kernel
theorem dL_isAhead_160 : decode cL_isAhead 160 = .ok (.if_icmp .ne 21, 3) := by decide +kernel
theorem dL_isAhead_163 : decode cL_isAhead 163 = .ok (.aload_n 0, 1) := by decide +kernel
theorem dL_isAhead_164 : decode cL_isAhead 164 = .ok (.invokevirtual 123, 3) := by decide +kernel
theorem dL_isAhead_167 : decode cL_isAhead 167 = .ok (.ifCond .ne 14, 3) := by decide +kernel
theorem dL_isAhead_170 : decode cL_isAhead 170 = .ok (.aload_n 0, 1) := by decide +kernel
theorem dL_isAhead_171 : decode cL_isAhead 171 = .ok (.invokevirtual 137, 3) := by decide +kernel
theorem dL_isAhead_174 : decode cL_isAhead 174 = .ok (.ifCond .lt 7, 3) := by decide +kernel
theorem dL_isAhead_177 : decode cL_isAhead 177 = .ok (.iconst 1, 1) := by decide +kernel
theorem dL_isAhead_178 : decode cL_isAhead 178 = .ok (.goto 4, 3) := by decide +kernel
theorem dL_isAhead_181 : decode cL_isAhead 181 = .ok (.iconst 0, 1) := by decide +kernel
theorem dL_isAhead_182 : decode cL_isAhead 182 = .ok (.istore 5, 2) := by decide +kernel
theorem dL_isAhead_184 : decode cL_isAhead 184 = .ok (.aload_n 0, 1) := by decide +kernel
theorem dL_isAhead_185 : decode cL_isAhead 185 = .ok (.iconst 1, 1) := by decide +kernel
theorem dL_isAhead_186 : decode cL_isAhead 186 = .ok (.invokevirtual 140, 3) := by decide +kernel
theorem dL_isAhead_189 : decode cL_isAhead 189 = .ok (.istore 7, 2) := by decide +kernel
theorem dL_isAhead_191 : decode cL_isAhead 191 = .ok (.iload 5, 2) := by decide +kernel
theorem dL_isAhead_193 : decode cL_isAhead 193 = .ok (.ifCond .eq 81, 3) := by decide +kernel
theorem dL_isAhead_196 : decode cL_isAhead 196 = .ok (.iload 7, 2) := by decide +kernel
theorem dL_isAhead_198 : decode cL_isAhead 198 = .ok (.aload_n 0, 1) := by decide +kernel
theorem dL_isAhead_199 : decode cL_isAhead 199 = .ok (.invokevirtual 39, 3) := by decide +kernel
theorem dL_isAhead_202 : decode cL_isAhead 202 = .ok (.if_icmp .ne 72, 3) := by decide +kernel
theorem dL_isAhead_205 : decode cL_isAhead 205 = .ok (.aload_n 0, 1) := by decide +kernel
theorem dL_isAhead_206 : decode cL_isAhead 206 = .ok (.invokevirtual 130, 3) := by decide +kernel
theorem dL_isAhead_209 : decode cL_isAhead 209 = .ok (.lload_n 2, 1) := by decide +kernel
theorem dL_isAhead_210 : decode cL_isAhead 210 = .ok (.lcmp, 1) := by decide +kernel
theorem dL_isAhead_211 : decode cL_isAhead 211 = .ok (.ifCond .ne 63, 3) := by decide +kernel
theorem dL_isAhead_214 : decode cL_isAhead 214 = .ok (.aload_n 0, 1) := by decide +kernel
theorem dL_isAhead_215 : decode cL_isAhead 215 = .ok (.bipush 77, 2) := by decide +kernel
theorem dL_isAhead_217 : decode cL_isAhead 217 = .ok (.invokevirtual 57, 3) := by decide +kernel
theorem dL_isAhead_220 : decode cL_isAhead 220 = .ok (.bipush 10, 2) := by decide +kernel
theorem dL_isAhead_222 : decode cL_isAhead 222 = .ok (.if_icmp .lt 52, 3) := by decide +kernel
theorem dL_isAhead_225 : decode cL_isAhead 225 = .ok (.aload_n 0, 1) := by decide +kernel
theorem dL_isAhead_226 : decode cL_isAhead 226 = .ok (.iconst 3, 1) := by decide +kernel
theorem dL_isAhead_227 : decode cL_isAhead 227 = .ok (.iload 6, 2) := by decide +kernel
theorem dL_isAhead_229 : decode cL_isAhead 229 = .ok (.bipush 60, 2) := by decide +kernel
theorem dL_isAhead_231 : decode cL_isAhead 231 = .ok (.iadd, 1) := by decide +kernel
theorem dL_isAhead_232 : decode cL_isAhead 232 = .ok (.sipush 5000, 3) := by decide +kernel
theorem dL_isAhead_235 : decode cL_isAhead 235 = .ok (.sipush 11000, 3) := by decide +kernel
theorem dL_isAhead_238 : decode cL_isAhead 238 = .ok (.invokestatic 44, 3) := by decide +kernel
theorem dL_isAhead_241 : decode cL_isAhead 241 = .ok (.invokevirtual 103, 3) := by decide +kernel
theorem dL_isAhead_244 : decode cL_isAhead 244 = .ok (.aload_n 0, 1) := by decide +kernel
theorem dL_isAhead_245 : decode cL_isAhead 245 = .ok (.invokevirtual 39, 3) := by decide +kernel
theorem dL_isAhead_248 : decode cL_isAhead 248 = .ok (.if_icmp .ne 26, 3) := by decide +kernel
theorem dL_isAhead_251 : decode cL_isAhead 251 = .ok (.aload_n 0, 1) := by decide +kernel
theorem dL_isAhead_252 : decode cL_isAhead 252 = .ok (.iconst 1, 1) := by decide +kernel
theorem dL_isAhead_253 : decode cL_isAhead 253 = .ok (.invokevirtual 78, 3) := by decide +kernel
theorem dL_isAhead_256 : decode cL_isAhead 256 = .ok (.iload 7, 2) := by decide +kernel
theorem dL_isAhead_258 : decode cL_isAhead 258 = .ok (.if_icmp .ne 16, 3) := by decide +kernel
theorem dL_isAhead_261 : decode cL_isAhead 261 = .ok (.aload_n 0, 1) := by decide +kernel
theorem dL_isAhead_262 : decode cL_isAhead 262 = .ok (.invokevirtual 130, 3) := by decide +kernel
theorem dL_isAhead_265 : decode cL_isAhead 265 = .ok (.lload_n 2, 1) := by decide +kernel
theorem dL_isAhead_266 : decode cL_isAhead 266 = .ok (.lcmp, 1) := by decide +kernel
theorem dL_isAhead_267 : decode cL_isAhead 267 = .ok (.ifCond .ne 7, 3) := by decide +kernel
theorem dL_isAhead_270 : decode cL_isAhead 270 = .ok (.iconst 1, 1) := by decide +kernel
theorem dL_isAhead_271 : decode cL_isAhead 271 = .ok (.goto 4, 3) := by decide +kernel
theorem dL_isAhead_274 : decode cL_isAhead 274 = .ok (.iconst 0, 1) := by decide +kernel
theorem dL_isAhead_275 : decode cL_isAhead 275 = .ok (.istore 5, 2) := by decide +kernel
theorem dL_isAhead_277 : decode cL_isAhead 277 = .ok (.iload 5, 2) := by decide +kernel
theorem dL_isAhead_279 : decode cL_isAhead 279 = .ok (.ifCond .eq 37, 3) := by decide +kernel
theorem dL_isAhead_282 : decode cL_isAhead 282 = .ok (.aload_n 0, 1) := by decide +kernel
theorem dL_isAhead_283 : decode cL_isAhead 283 = .ok (.invokevirtual 137, 3) := by decide +kernel
theorem dL_isAhead_286 : decode cL_isAhead 286 = .ok (.ifCond .lt 30, 3) := by decide +kernel
theorem dL_isAhead_289 : decode cL_isAhead 289 = .ok (.aload_n 0, 1) := by decide +kernel
theorem dL_isAhead_290 : decode cL_isAhead 290 = .ok (.invokevirtual 137, 3) := by decide +kernel
theorem dL_isAhead_293 : decode cL_isAhead 293 = .ok (.ifCond .lt 23, 3) := by decide +kernel
theorem dL_isAhead_296 : decode cL_isAhead 296 = .ok (.aload_n 0, 1) := by decide +kernel
theorem dL_isAhead_297 : decode cL_isAhead 297 = .ok (.invokevirtual 137, 3) := by decide +kernel
theorem dL_isAhead_300 : decode cL_isAhead 300 = .ok (.ifCond .lt 16, 3) := by decide +kernel
theorem dL_isAhead_303 : decode cL_isAhead 303 = .ok (.aload_n 0, 1) := by decide +kernel
theorem dL_isAhead_304 : decode cL_isAhead 304 = .ok (.invokevirtual 130, 3) := by decide +kernel
theorem dL_isAhead_307 : decode cL_isAhead 307 = .ok (.lload_n 2, 1) := by decide +kernel
theorem dL_isAhead_308 : decode cL_isAhead 308 = .ok (.lcmp, 1) := by decide +kernel
theorem dL_isAhead_309 : decode cL_isAhead 309 = .ok (.ifCond .ne 7, 3) := by decide +kernel
theorem dL_isAhead_312 : decode cL_isAhead 312 = .ok (.iconst 1, 1) := by decide +kernel
theorem dL_isAhead_313 : decode cL_isAhead 313 = .ok (.goto 4, 3) := by decide +kernel
theorem dL_isAhead_316 : decode cL_isAhead 316 = .ok (.iconst 0, 1) := by decide +kernel
theorem dL_isAhead_317 : decode cL_isAhead 317 = .ok (.ireturn, 1) := by decide +kernel
