theorem dJ9_max_7cf53_0 : decode cJ9_max_7cf53 0 = .ok (.iload_n 0, 1) := by decide +kernel
theorem dJ9_max_7cf53_1 : decode cJ9_max_7cf53 1 = .ok (.iload_n 1, 1) := by decide +kernel
theorem dJ9_max_7cf53_2 : decode cJ9_max_7cf53 2 = .ok (.if_icmp .lt 7, 3) := by decide +kernel
theorem dJ9_max_7cf53_5 : decode cJ9_max_7cf53 5 = .ok (.iload_n 0, 1) := by decide +kernel
theorem dJ9_max_7cf53_6 : decode cJ9_max_7cf53 6 = .ok (.goto 4, 3) := by decide +kernel
theorem dJ9_max_7cf53_9 : decode cJ9_max_7cf53 9 = .ok (.iload_n 1, 1) := by decide +kernel
theorem dJ9_max_7cf53_10 : decode cJ9_max_7cf53 10 = .ok (.ireturn, 1) := by decide +kernel
theorem dJ9_min_7cf53_0 : decode cJ9_min_7cf53 0 = .ok (.iload_n 0, 1) := by decide +kernel
theorem dJ9_min_7cf53_1 : decode cJ9_min_7cf53 1 = .ok (.iload_n 1, 1) := by decide +kernel
theorem dJ9_min_7cf53_2 : decode cJ9_min_7cf53 2 = .ok (.if_icmp .gt 7, 3) := by decide +kernel
theorem dJ9_min_7cf53_5 : decode cJ9_min_7cf53 5 = .ok (.iload_n 0, 1) := by decide +kernel
theorem dJ9_min_7cf53_6 : decode cJ9_min_7cf53 6 = .ok (.goto 4, 3) := by decide +kernel
theorem dJ9_min_7cf53_9 : decode cJ9_min_7cf53 9 = .ok (.iload_n 1, 1) := by decide +kernel
theorem dJ9_min_7cf53_10 : decode cJ9_min_7cf53 10 = .ok (.ireturn, 1) := by decide +kernel
theorem dL_cell_0 : decode cL_cell 0 = .ok (.iload_n 1, 1) := by decide +kernel
theorem dL_cell_1 : decode cL_cell 1 = .ok (.aload_n 0, 1) := by decide +kernel
theorem dL_cell_2 : decode cL_cell 2 = .ok (.arraylength, 1) := by decide +kernel
theorem dL_cell_3 : decode cL_cell 3 = .ok (.if_icmp .ge 9, 3) := by decide +kernel
theorem dL_cell_6 : decode cL_cell 6 = .ok (.aload_n 0, 1) := by decide +kernel
theorem dL_cell_7 : decode cL_cell 7 = .ok (.iload_n 1, 1) := by decide +kernel
theorem dL_cell_8 : decode cL_cell 8 = .ok (.iaload, 1) := by decide +kernel
theorem dL_cell_9 : decode cL_cell 9 = .ok (.goto 11, 3) := by decide +kernel
theorem dL_cell_12 : decode cL_cell 12 = .ok (.ldc 7, 2) := by decide +kernel
theorem dL_cell_14 : decode cL_cell 14 = .ok (.iload_n 1, 1) := by decide +kernel
theorem dL_cell_15 : decode cL_cell 15 = .ok (.sipush 251, 3) := by decide +kernel
theorem dL_cell_18 : decode cL_cell 18 = .ok (.iadd, 1) := by decide +kernel
theorem dL_cell_19 : decode cL_cell 19 = .ok (.imul, 1) := by decide +kernel
theorem dL_cell_20 : decode cL_cell 20 = .ok (.ireturn, 1) := by decide +kernel
theorem dL_up_0 : decode cL_up 0 = .ok (.iload_n 0, 1) := by decide +kernel
theorem dL_up_1 : decode cL_up 1 = .ok (.ldc 8, 2) := by decide +kernel
theorem dL_up_3 : decode cL_up 3 = .ok (.iand, 1) := by decide +kernel
theorem dL_up_4 : decode cL_up 4 = .ok (.iload_n 1, 1) := by decide +kernel
theorem dL_up_5 : decode cL_up 5 = .ok (.irem, 1) := by decide +kernel
theorem dL_up_6 : decode cL_up 6 = .ok (.ireturn, 1) := by decide +kernel
theorem dL_size_0 : decode cL_size 0 = .ok (.iload_n 0, 1) := by decide +kernel
theorem dL_size_1 : decode cL_size 1 = .ok (.ifCond .ge 8, 3) := by decide +kernel
theorem dL_size_4 : decode cL_size 4 = .ok (.iload_n 0, 1) := by decide +kernel
theorem dL_size_5 : decode cL_size 5 = .ok (.ineg, 1) := by decide +kernel
theorem dL_size_6 : decode cL_size 6 = .ok (.goto 4, 3) := by decide +kernel
theorem dL_size_9 : decode cL_size 9 = .ok (.iload_n 0, 1) := by decide +kernel
theorem dL_size_10 : decode cL_size 10 = .ok (.ireturn, 1) := by decide +kernel
theorem dL_within_0 : decode cL_within 0 = .ok (.iload_n 0, 1) := by decide +kernel
theorem dL_within_1 : decode cL_within 1 = .ok (.iload_n 1, 1) := by decide +kernel
theorem dL_within_2 : decode cL_within 2 = .ok (.if_icmp .ge 7, 3) := by decide +kernel
theorem dL_within_5 : decode cL_within 5 = .ok (.iload_n 1, 1) := by decide +kernel
theorem dL_within_6 : decode cL_within 6 = .ok (.goto 13, 3) := by decide +kernel
theorem dL_within_9 : decode cL_within 9 = .ok (.iload_n 0, 1) := by decide +kernel
theorem dL_within_10 : decode cL_within 10 = .ok (.iload_n 2, 1) := by decide +kernel
theorem dL_within_11 : decode cL_within 11 = .ok (.if_icmp .le 7, 3) := by decide +kernel
theorem dL_within_14 : decode cL_within 14 = .ok (.iload_n 2, 1) := by decide +kernel
theorem dL_within_15 : decode cL_within 15 = .ok (.goto 4, 3) := by decide +kernel
theorem dL_within_18 : decode cL_within 18 = .ok (.iload_n 0, 1) := by decide +kernel
theorem dL_within_19 : decode cL_within 19 = .ok (.ireturn, 1) := by decide +kernel
set_option maxRecDepth 20000 in
theorem ggL_acts_L_up : GoodIn wsL_acts wsL_up := goodIn_r _ [6, 7] (by decide +kernel) (by decide +kernel)
set_option maxRecDepth 20000 in
theorem gL_acts_L_up : GoodIn wsL_acts (va_wsS RL 9 yL_up wsL_up) := goodIn_app (goodIn_of _ (by decide +kernel)) ggL_acts_L_up
set_option maxRecDepth 20000 in
theorem ggL_acts_X9_isStation : GoodIn wsL_acts wsX9_isStation := goodIn_r _ [12, 13, 14, 330, 331, 332, 333, 334, 335, 336, 337, 338, 339, 340, 341, 342, 343, 344] (by decide +kernel) (by decide +kernel)
set_option maxRecDepth 20000 in
theorem gL_acts_X9_isStation : GoodIn wsL_acts (wsV RL 15 RX9 yX9_isStation wsX9_isStation) := goodIn_app (goodIn_of _ (by decide +kernel)) ggL_acts_X9_isStation
set_option maxRecDepth 20000 in
theorem ggL_acts_X9_setStation : GoodIn wsL_acts wsX9_setStation := goodIn_r _ [18, 13, 14, 19, 20, 21, 22, 23, 24, 25, 26, 27, 28, 29, 30, 31, 32, 33, 34, 35, 36, 37, 38, 39, 40, 41, 42, 43, 44, 45, 46, 47, 48, 49, 50, 51, 52, 53, 54, 55, 56, 57, 58, 59, 60, 61, 62, 63, 64, 65, 66, 67, 68, 69, 70, 11, 71, 72, 73, 74, 75, 76, 77, 78, 79, 80, 81, 82, 83, 84, 85, 86, 87, 88, 89, 90, 91, 92, 93, 94, 95, 96, 97, 98, 99, 100, 101, 102, 103, 104, 105, 330, 331, 332, 333, 334, 335, 336, 337, 338, 339, 340, 341, 342, 343, 344, 345, 346, 347, 348, 349, 350, 351, 352, 353, 354, 355, 356, 357, 358, 359, 360] (by decide +kernel) (by decide +kernel)
set_option maxRecDepth 20000 in
theorem gL_acts_X9_setStation : GoodIn wsL_acts (wsV RL 21 RX9 yX9_setStation wsX9_setStation) := goodIn_app (goodIn_of _ (by decide +kernel)) ggL_acts_X9_setStation
set_option maxRecDepth 20000 in
theorem ggL_acts_X9_logged : GoodIn wsL_acts wsX9_logged := goodIn_r _ [109, 13, 110, 111, 330, 331, 332, 333, 334, 335, 336, 337, 338, 339, 340, 341, 342, 343, 344, 352, 353, 354, 355, 356] (by decide +kernel) (by decide +kernel)
set_option maxRecDepth 20000 in
theorem gL_acts_X9_logged : GoodIn wsL_acts (wsV RL 25 RX9 yX9_logged wsX9_logged) := goodIn_app (goodIn_of _ (by decide +kernel)) ggL_acts_X9_logged
set_option maxRecDepth 20000 in
theorem ggL_acts_X9_sea : GoodIn wsL_acts wsX9_sea := goodIn_r _ [115, 13, 116, 330, 331, 332, 333, 334, 335, 336, 337, 338, 339, 340, 341, 342, 343, 344] (by decide +kernel) (by decide +kernel)
set_option maxRecDepth 20000 in
theorem gL_acts_X9_sea : GoodIn wsL_acts (wsV RL 29 RX9 yX9_sea wsX9_sea) := goodIn_app (goodIn_of _ (by decide +kernel)) ggL_acts_X9_sea
set_option maxRecDepth 20000 in
theorem ggL_acts_X9_setSea : GoodIn wsL_acts wsX9_setSea := goodIn_ca (goodIn_r _ [120, 13, 116, 19, 121, 122, 11, 123, 124, 125, 20, 21, 22, 23, 24, 25, 26, 27, 28, 29, 30, 31, 32, 33, 34, 35, 36, 37, 38, 39, 40, 41, 42, 43, 44, 45, 46, 47, 48, 49, 50, 51, 52, 53, 54, 55, 56, 57, 58, 59, 60, 61, 62, 63, 64, 65, 66, 67, 68, 69, 70, 71, 72, 73, 74, 75, 76, 77, 78, 79, 80, 81, 82, 83, 84, 85, 126, 127, 128, 129, 90, 95, 96, 97, 98, 99, 100, 101, 102, 103, 104, 105, 330, 331, 332, 333, 334, 335, 336, 337, 338, 339, 340, 341, 342, 343, 344, 345, 346, 347, 348, 349, 350, 351, 352, 353, 354, 355, 356, 357, 358, 359, 360] (by decide +kernel) (by decide +kernel)) (goodIn_sub (fun _ h => List.mem_cons_of_mem _ (List.mem_append_left _ (List.mem_append_left _ (List.mem_append_right _ h)))) (by decide +kernel))
set_option maxRecDepth 20000 in
theorem gL_acts_X9_setSea : GoodIn wsL_acts (wsV RL 32 RX9 yX9_setSea wsX9_setSea) := goodIn_app (goodIn_of _ (by decide +kernel)) ggL_acts_X9_setSea
set_option maxRecDepth 20000 in
theorem ggL_acts_X9_base : GoodIn wsL_acts wsX9_base := goodIn_r _ [133, 13, 134, 135, 330, 331, 332, 333, 334, 335, 336, 337, 338, 339, 340, 341, 342, 343, 344, 348, 349, 350, 351] (by decide +kernel) (by decide +kernel)
set_option maxRecDepth 20000 in
theorem gL_acts_X9_base : GoodIn wsL_acts (wsV RL 36 RX9 yX9_base wsX9_base) := goodIn_app (goodIn_of _ (by decide +kernel)) ggL_acts_X9_base
set_option maxRecDepth 20000 in
theorem ggL_acts_X9_altitude : GoodIn wsL_acts wsX9_altitude := goodIn_r _ [139, 13, 140, 96, 97, 39, 98, 43, 44, 99, 100, 101, 102, 103, 104, 105, 330, 331, 332, 333, 334, 335, 336, 337, 338, 339, 340, 341, 342, 343, 344] (by decide +kernel) (by decide +kernel)
set_option maxRecDepth 20000 in
theorem gL_acts_X9_altitude : GoodIn wsL_acts (wsV RL 39 RX9 yX9_altitude wsX9_altitude) := goodIn_app (goodIn_of _ (by decide +kernel)) ggL_acts_X9_altitude
set_option maxRecDepth 20000 in
theorem ggL_acts_L_within : GoodIn wsL_acts wsL_within := goodIn_r _ [143] (by decide +kernel) (by decide +kernel)
set_option maxRecDepth 20000 in
theorem gL_acts_L_within : GoodIn wsL_acts (va_wsS RL 44 yL_within wsL_within) := goodIn_app (goodIn_of _ (by decide +kernel)) ggL_acts_L_within
set_option maxRecDepth 20000 in
theorem ggL_acts_X9_drift : GoodIn wsL_acts wsX9_drift := goodIn_r _ [147, 13, 148, 330, 331, 332, 333, 334, 335, 336, 337, 338, 339, 340, 341, 342, 343, 344] (by decide +kernel) (by decide +kernel)
set_option maxRecDepth 20000 in
theorem gL_acts_X9_drift : GoodIn wsL_acts (wsV RL 48 RX9 yX9_drift wsX9_drift) := goodIn_app (goodIn_of _ (by decide +kernel)) ggL_acts_X9_drift
set_option maxRecDepth 20000 in
theorem ggL_acts_X9_calibrations : GoodIn wsL_acts wsX9_calibrations := goodIn_r _ [152, 13, 153, 330, 331, 332, 333, 334, 335, 336, 337, 338, 339, 340, 341, 342, 343, 344] (by decide +kernel) (by decide +kernel)
set_option maxRecDepth 20000 in
theorem gL_acts_X9_calibrations : GoodIn wsL_acts (wsV RL 51 RX9 yX9_calibrations wsX9_calibrations) := goodIn_app (goodIn_of _ (by decide +kernel)) ggL_acts_X9_calibrations
set_option maxRecDepth 20000 in
theorem ggL_acts_X9_calibrate : GoodIn wsL_acts wsX9_calibrate := goodIn_ca (goodIn_r _ [157, 158, 19, 13, 121, 122, 11, 123, 124, 125, 20, 21, 22, 23, 24, 25, 26, 27, 28, 29, 30, 31, 32, 33, 34, 35, 36, 37, 38, 39, 40, 41, 42, 43, 44, 45, 46, 47, 48, 49, 50, 51, 52, 53, 54, 55, 56, 57, 58, 59, 60, 61, 62, 63, 64, 65, 66, 67, 68, 69, 70, 71, 72, 73, 74, 75, 76, 77, 78, 79, 80, 81, 82, 83, 84, 85, 159, 160, 161, 162, 95, 96, 97, 98, 99, 100, 101, 102, 103, 104, 105, 163, 164, 165, 166, 167, 168, 169, 170, 127, 128, 129, 90, 330, 331, 332, 333, 334, 345, 346, 347, 335, 336, 337, 338, 339, 340, 341, 342, 343, 344, 348, 349, 350, 351, 352, 353, 354, 355, 356, 357, 358, 359, 360] (by decide +kernel) (by decide +kernel)) (goodIn_sub (fun _ h => List.mem_cons_of_mem _ (List.mem_append_left _ (List.mem_append_left _ (List.mem_append_right _ h)))) (by decide +kernel))
set_option maxRecDepth 20000 in
theorem gL_acts_X9_calibrate : GoodIn wsL_acts (wsV RL 54 RX9 yX9_calibrate wsX9_calibrate) := goodIn_app (goodIn_of _ (by decide +kernel)) ggL_acts_X9_calibrate
set_option maxRecDepth 20000 in
theorem ggL_acts_X9_setThreshold : GoodIn wsL_acts wsX9_setThreshold := goodIn_ca (goodIn_r _ [174, 13, 134, 175, 19, 121, 122, 11, 123, 124, 125, 20, 21, 22, 23, 24, 25, 26, 27, 28, 29, 30, 31, 32, 33, 34, 35, 36, 37, 38, 39, 40, 41, 42, 43, 44, 45, 46, 47, 48, 49, 50, 51, 52, 53, 54, 55, 56, 57, 58, 59, 60, 61, 62, 63, 64, 65, 66, 67, 68, 69, 70, 71, 72, 73, 74, 75, 76, 77, 78, 79, 80, 81, 82, 83, 84, 85, 330, 331, 332, 333, 334, 335, 336, 337, 338, 339, 340, 341, 342, 343, 344, 348, 349, 350, 351, 345, 346, 347, 352, 353, 354, 355, 356, 357, 358, 359, 360] (by decide +kernel) (by decide +kernel)) (goodIn_sub (fun _ h => List.mem_cons_of_mem _ (List.mem_append_left _ (List.mem_append_left _ (List.mem_append_right _ h)))) (by decide +kernel))
set_option maxRecDepth 20000 in
theorem gL_acts_X9_setThreshold : GoodIn wsL_acts (wsV RL 57 RX9 yX9_setThreshold wsX9_setThreshold) := goodIn_app (goodIn_of _ (by decide +kernel)) ggL_acts_X9_setThreshold
set_option maxRecDepth 20000 in
theorem ggL_acts_X9_setAlarm : GoodIn wsL_acts wsX9_setAlarm := goodIn_ca (goodIn_r _ [179, 13, 110, 180, 19, 121, 122, 11, 123, 124, 125, 20, 21, 22, 23, 24, 25, 26, 27, 28, 29, 30, 31, 32, 33, 34, 35, 36, 37, 38, 39, 40, 41, 42, 43, 44, 45, 46, 47, 48, 49, 50, 51, 52, 53, 54, 55, 56, 57, 58, 59, 60, 61, 62, 63, 64, 65, 66, 67, 68, 69, 70, 71, 72, 73, 74, 75, 76, 77, 78, 79, 80, 81, 82, 83, 84, 85, 330, 331, 332, 333, 334, 335, 336, 337, 338, 339, 340, 341, 342, 343, 344, 352, 353, 354, 355, 356, 345, 346, 347, 348, 349, 350, 351, 357, 358, 359, 360] (by decide +kernel) (by decide +kernel)) (goodIn_sub (fun _ h => List.mem_cons_of_mem _ (List.mem_append_left _ (List.mem_append_left _ (List.mem_append_right _ h)))) (by decide +kernel))
set_option maxRecDepth 20000 in
theorem gL_acts_X9_setAlarm : GoodIn wsL_acts (wsV RL 60 RX9 yX9_setAlarm wsX9_setAlarm) := goodIn_app (goodIn_of _ (by decide +kernel)) ggL_acts_X9_setAlarm
set_option maxRecDepth 20000 in
theorem ggL_acts_X9_marks : GoodIn wsL_acts wsX9_marks := goodIn_r _ [184, 13, 185, 186, 330, 331, 332, 333, 334, 335, 336, 337, 338, 339, 340, 341, 342, 343, 344, 357, 358, 359, 360] (by decide +kernel) (by decide +kernel)
set_option maxRecDepth 20000 in
theorem gL_acts_X9_marks : GoodIn wsL_acts (wsV RL 63 RX9 yX9_marks wsX9_marks) := goodIn_app (goodIn_of _ (by decide +kernel)) ggL_acts_X9_marks
set_option maxRecDepth 20000 in
theorem ggL_acts_X9_setMark : GoodIn wsL_acts wsX9_setMark := goodIn_r _ [190, 19, 13, 185, 186, 20, 21, 22, 23, 24, 25, 26, 27, 28, 29, 30, 31, 32, 33, 34, 35, 36, 37, 38, 39, 40, 41, 42, 43, 44, 45, 46, 47, 48, 49, 50, 51, 52, 53, 54, 55, 56, 57, 58, 59, 60, 61, 62, 63, 64, 65, 66, 67, 68, 69, 70, 11, 71, 72, 73, 74, 75, 76, 77, 78, 79, 80, 81, 82, 83, 84, 85, 191, 192, 193, 194, 195, 95, 96, 97, 98, 99, 100, 101, 102, 103, 104, 105, 196, 197, 198, 199, 200, 201, 330, 331, 332, 333, 334, 335, 336, 337, 338, 339, 340, 341, 342, 343, 344, 357, 358, 359, 360, 345, 346, 347, 348, 349, 350, 351, 352, 353, 354, 355, 356] (by decide +kernel) (by decide +kernel)
set_option maxRecDepth 20000 in
theorem gL_acts_X9_setMark : GoodIn wsL_acts (wsV RL 66 RX9 yX9_setMark wsX9_setMark) := goodIn_app (goodIn_of _ (by decide +kernel)) ggL_acts_X9_setMark
set_option maxRecDepth 20000 in
theorem ggL_acts_X9_markTime : GoodIn wsL_acts wsX9_markTime := goodIn_ca (goodIn_r _ [205, 13, 185, 206, 207, 208, 11, 209, 210, 211, 186, 212, 213, 214, 80, 215, 82, 216, 217, 330, 331, 332, 333, 334, 335, 336, 337, 338, 339, 340, 341, 342, 343, 344, 357, 358, 359, 360] (by decide +kernel) (by decide +kernel)) (goodIn_sub (fun _ h => List.mem_cons_of_mem _ (List.mem_append_left _ (List.mem_append_right _ h))) (by decide +kernel))
set_option maxRecDepth 20000 in
theorem gL_acts_X9_markTime : GoodIn wsL_acts (wsV RL 69 RX9 yX9_markTime wsX9_markTime) := goodIn_app (goodIn_of _ (by decide +kernel)) ggL_acts_X9_markTime
set_option maxRecDepth 20000 in
theorem ggL_acts_X9_minutes : GoodIn wsL_acts wsX9_minutes := goodIn_r _ [221, 13, 222, 330, 331, 332, 333, 334, 335, 336, 337, 338, 339, 340, 341, 342, 343, 344] (by decide +kernel) (by decide +kernel)
set_option maxRecDepth 20000 in
theorem gL_acts_X9_minutes : GoodIn wsL_acts (wsV RL 72 RX9 yX9_minutes wsX9_minutes) := goodIn_app (goodIn_of _ (by decide +kernel)) ggL_acts_X9_minutes
set_option maxRecDepth 20000 in
theorem ggL_acts_X9_markAltitude : GoodIn wsL_acts wsX9_markAltitude := goodIn_ca (goodIn_r _ [226, 13, 185, 206, 207, 208, 11, 209, 210, 211, 186, 227, 228, 229, 80, 230, 83, 216, 217, 330, 331, 332, 333, 334, 335, 336, 337, 338, 339, 340, 341, 342, 343, 344, 357, 358, 359, 360] (by decide +kernel) (by decide +kernel)) (goodIn_sub (fun _ h => List.mem_cons_of_mem _ (List.mem_append_left _ (List.mem_append_right _ h))) (by decide +kernel))
set_option maxRecDepth 20000 in
theorem gL_acts_X9_markAltitude : GoodIn wsL_acts (wsV RL 75 RX9 yX9_markAltitude wsX9_markAltitude) := goodIn_app (goodIn_of _ (by decide +kernel)) ggL_acts_X9_markAltitude
set_option maxRecDepth 20000 in
theorem ggL_acts_X9_recall : GoodIn wsL_acts wsX9_recall := goodIn_ca (goodIn_ca (goodIn_r _ [234, 235, 236, 237, 19, 13, 238, 121, 122, 11, 123, 124, 125, 239, 240, 241, 242, 243, 244, 20, 21, 22, 23, 24, 25, 26, 27, 28, 29, 30, 31, 32, 33, 34, 35, 36, 37, 38, 39, 40, 41, 42, 43, 44, 45, 46, 47, 48, 49, 50, 51, 52, 53, 54, 55, 56, 57, 58, 59, 60, 61, 62, 63, 64, 65, 66, 67, 68, 69, 70, 71, 72, 73, 74, 75, 76, 77, 78, 79, 80, 81, 82, 83, 84, 85, 245, 140, 96, 97, 98, 99, 100, 101, 102, 103, 104, 105, 361, 362, 330, 331, 332, 333, 334, 345, 346, 347, 335, 336, 337, 338, 339, 340, 341, 342, 343, 344, 348, 349, 350, 351, 352, 353, 354, 355, 356, 357, 358, 359, 360] (by decide +kernel) (by decide +kernel)) (goodIn_sub (fun _ h => List.mem_cons_of_mem _ (List.mem_append_right _ h)) (by decide +kernel))) (goodIn_sub (fun _ h => List.mem_cons_of_mem _ (List.mem_append_left _ (List.mem_append_left _ (List.mem_append_right _ h)))) (by decide +kernel))
set_option maxRecDepth 20000 in
theorem gL_acts_X9_recall : GoodIn wsL_acts (wsV RL 78 RX9 yX9_recall wsX9_recall) := goodIn_app (goodIn_of _ (by decide +kernel)) ggL_acts_X9_recall
set_option maxRecDepth 20000 in
theorem ggL_acts_X9_pressure : GoodIn wsL_acts wsX9_pressure := goodIn_r _ [249, 13, 250, 330, 331, 332, 333, 334, 335, 336, 337, 338, 339, 340, 341, 342, 343, 344] (by decide +kernel) (by decide +kernel)
set_option maxRecDepth 20000 in
theorem gL_acts_X9_pressure : GoodIn wsL_acts (wsV RL 81 RX9 yX9_pressure wsX9_pressure) := goodIn_app (goodIn_of _ (by decide +kernel)) ggL_acts_X9_pressure
set_option maxRecDepth 20000 in
theorem ggL_acts_L_travels : GoodIn wsL_acts wsL_travels := goodIn_ca (goodIn_r _ [253, 254, 255, 256, 11, 257, 13, 121, 122, 123, 124, 125, 258, 259, 260, 39, 261, 41, 42, 44, 163, 164, 101, 165, 103, 104, 105, 166, 167, 168, 169, 100, 102, 99, 262, 263, 264, 265, 266, 267, 268, 269, 270, 271, 54, 48, 43, 195, 272, 273, 274, 275, 276, 59, 51, 52, 53, 55, 56, 57, 58, 277, 278, 279, 280, 281, 282, 283, 284, 285, 286, 287, 134, 288, 289, 290, 291, 292, 293, 112, 113, 114, 115, 116, 218, 219, 220, 221, 222, 294, 295, 296, 297, 110, 298, 299, 300, 301, 302, 19, 20, 21, 22, 23, 24, 25, 26, 27, 28, 29, 30, 31, 32, 33, 34, 35, 36, 37, 38, 40, 45, 46, 47, 49, 50, 60, 61, 62, 63, 64, 65, 66, 67, 68, 69, 70, 71, 72, 73, 74, 75, 76, 77, 78, 79, 80, 81, 82, 83, 84, 85, 303, 304, 305, 306, 307, 308, 309, 310, 311, 312, 313, 314, 200, 201, 315, 316, 317, 318, 319, 320, 321, 322, 323, 324, 325, 326, 327, 328, 329, 216, 217, 95, 96, 97, 98, 140, 136, 137, 138, 139, 246, 247, 248, 249, 250, 8, 9, 10, 12, 14, 330, 331, 332, 333, 334, 335, 336, 337, 338, 339, 340, 341, 342, 343, 344, 348, 349, 350, 351, 352, 353, 354, 355, 356, 345, 346, 347, 357, 358, 359, 360] (by decide +kernel) (by decide +kernel)) (goodIn_sub (fun _ h => List.mem_cons_of_mem _ (List.mem_append_left _ (List.mem_append_left _ (List.mem_append_right _ h)))) (by decide +kernel))
set_option maxRecDepth 20000 in
theorem gL_acts_L_travels : GoodIn wsL_acts (va_wsS RL 84 yL_travels wsL_travels) := goodIn_app (goodIn_of _ (by decide +kernel)) ggL_acts_L_travels
theorem dL_acts_0 : decode cL_acts 0 = .ok (.iload_n 1, 1) := by decide +kernel
theorem dL_acts_1 : decode cL_acts 1 = .ok (.bipush 16, 2) := by decide +kernel
theorem dL_acts_3 : decode cL_acts 3 = .ok (.invokestatic 9, 3) := by decide +kernel
theorem dL_acts_6 : decode cL_acts 6 = .ok (.tableswitch 441 0 8 #[50, 50, 115, 158, 158, 279, 304, 329, 398], 50) := by decide +kernel
theorem dL_acts_56 : decode cL_acts 56 = .ok (.aload_n 0, 1) := by decide +kernel
theorem dL_acts_57 : decode cL_acts 57 = .ok (.invokevirtual 15, 3) := by decide +kernel
theorem dL_acts_60 : decode cL_acts 60 = .ok (.istore_n 3, 1) := by decide +kernel
theorem dL_acts_61 : decode cL_acts 61 = .ok (.aload_n 0, 1) := by decide +kernel
theorem dL_acts_62 : decode cL_acts 62 = .ok (.iload_n 2, 1) := by decide +kernel
theorem dL_acts_63 : decode cL_acts 63 = .ok (.iconst 1, 1) := by decide +kernel
theorem dL_acts_64 : decode cL_acts 64 = .ok (.iand, 1) := by decide +kernel
theorem dL_acts_65 : decode cL_acts 65 = .ok (.iconst 1, 1) := by decide +kernel
theorem dL_acts_66 : decode cL_acts 66 = .ok (.if_icmp .ne 7, 3) := by decide +kernel
theorem dL_acts_69 : decode cL_acts 69 = .ok (.iconst 1, 1) := by decide +kernel
theorem dL_acts_70 : decode cL_acts 70 = .ok (.goto 4, 3) := by decide +kernel
theorem dL_acts_73 : decode cL_acts 73 = .ok (.iconst 0, 1) := by decide +kernel
theorem dL_acts_74 : decode cL_acts 74 = .ok (.invokevirtual 21, 3) := by decide +kernel
theorem dL_acts_77 : decode cL_acts 77 = .ok (.iload_n 3, 1) := by decide +kernel
theorem dL_acts_78 : decode cL_acts 78 = .ok (.if_icmp .ne 41, 3) := by decide +kernel
theorem dL_acts_81 : decode cL_acts 81 = .ok (.aload_n 0, 1) := by decide +kernel
theorem dL_acts_82 : decode cL_acts 82 = .ok (.invokevirtual 15, 3) := by decide +kernel
theorem dL_acts_85 : decode cL_acts 85 = .ok (.iload_n 2, 1) := by decide +kernel
theorem dL_acts_86 : decode cL_acts 86 = .ok (.iconst 1, 1) := by decide +kernel
theorem dL_acts_87 : decode cL_acts 87 = .ok (.iand, 1) := by decide +kernel
theorem dL_acts_88 : decode cL_acts 88 = .ok (.iconst 1, 1) := by decide +kernel
theorem dL_acts_89 : decode cL_acts 89 = .ok (.if_icmp .ne 7, 3) := by decide +kernel
theorem dL_acts_92 : decode cL_acts 92 = .ok (.iconst 1, 1) := by decide +kernel
theorem dL_acts_93 : decode cL_acts 93 = .ok (.goto 4, 3) := by decide +kernel
theorem dL_acts_96 : decode cL_acts 96 = .ok (.iconst 0, 1) := by decide +kernel
theorem dL_acts_97 : decode cL_acts 97 = .ok (.if_icmp .ne 22, 3) := by decide +kernel
theorem dL_acts_100 : decode cL_acts 100 = .ok (.aload_n 0, 1) := by decide +kernel
theorem dL_acts_101 : decode cL_acts 101 = .ok (.invokevirtual 15, 3) := by decide +kernel
theorem dL_acts_104 : decode cL_acts 104 = .ok (.iload_n 3, 1) := by decide +kernel
theorem dL_acts_105 : decode cL_acts 105 = .ok (.if_icmp .eq 10, 3) := by decide +kernel
theorem dL_acts_108 : decode cL_acts 108 = .ok (.aload_n 0, 1) := by decide +kernel
theorem dL_acts_109 : decode cL_acts 109 = .ok (.invokevirtual 25, 3) := by decide +kernel
theorem dL_acts_112 : decode cL_acts 112 = .ok (.ifCond .ne 7, 3) := by decide +kernel
theorem dL_acts_115 : decode cL_acts 115 = .ok (.iconst 1, 1) := by decide +kernel
theorem dL_acts_116 : decode cL_acts 116 = .ok (.goto 4, 3) := by decide +kernel
theorem dL_acts_119 : decode cL_acts 119 = .ok (.iconst 0, 1) := by decide +kernel
theorem dL_acts_120 : decode cL_acts 120 = .ok (.ireturn, 1) := by decide +kernel
theorem dL_acts_121 : decode cL_acts 121 = .ok (.aload_n 0, 1) := by decide +kernel
theorem dL_acts_122 : decode cL_acts 122 = .ok (.invokevirtual 29, 3) := by decide +kernel
theorem dL_acts_125 : decode cL_acts 125 = .ok (.istore 4, 2) := by decide +kernel
theorem dL_acts_127 : decode cL_acts 127 = .ok (.aload_n 0, 1) := by decide +kernel
theorem dL_acts_128 : decode cL_acts 128 = .ok (.sipush 9000, 3) := by decide +kernel
theorem dL_acts_131 : decode cL_acts 131 = .ok (.iload_n 2, 1) := by decide +kernel
theorem dL_acts_132 : decode cL_acts 132 = .ok (.sipush 1801, 3) := by decide +kernel
theorem dL_acts_135 : decode cL_acts 135 = .ok (.invokestatic 9, 3) := by decide +kernel
theorem dL_acts_138 : decode cL_acts 138 = .ok (.iadd, 1) := by decide +kernel
theorem dL_acts_139 : decode cL_acts 139 = .ok (.invokevirtual 32, 3) := by decide +kernel
theorem dL_acts_142 : decode cL_acts 142 = .ok (.iload 4, 2) := by decide +kernel
theorem dL_acts_144 : decode cL_acts 144 = .ok (.if_icmp .ne 18, 3) := by decide +kernel
theorem dL_acts_147 : decode cL_acts 147 = .ok (.aload_n 0, 1) := by decide +kernel
theorem dL_acts_148 : decode cL_acts 148 = .ok (.invokevirtual 36, 3) := by decide +kernel
theorem dL_acts_151 : decode cL_acts 151 = .ok (.aload_n 0, 1) := by decide +kernel
theorem dL_acts_152 : decode cL_acts 152 = .ok (.invokevirtual 39, 3) := by decide +kernel
theorem dL_acts_155 : decode cL_acts 155 = .ok (.if_icmp .ne 7, 3) := by decide +kernel
theorem dL_acts_158 : decode cL_acts 158 = .ok (.iconst 1, 1) := by decide +kernel
theorem dL_acts_159 : decode cL_acts 159 = .ok (.goto 4, 3) := by decide +kernel
theorem dL_acts_162 : decode cL_acts 162 = .ok (.iconst 0, 1) := by decide +kernel
theorem dL_acts_163 : decode cL_acts 163 = .ok (.ireturn, 1) := by decide +kernel
theorem dL_acts_164 : decode cL_acts 164 = .ok (.iload_n 2, 1) := by decide +kernel
theorem dL_acts_165 : decode cL_acts 165 = .ok (.iconst 1, 1) := by decide +kernel
theorem dL_acts_166 : decode cL_acts 166 = .ok (.iand, 1) := by decide +kernel
theorem dL_acts_167 : decode cL_acts 167 = .ok (.ifCond .ne 18, 3) := by decide +kernel
theorem dL_acts_170 : decode cL_acts 170 = .ok (.iload_n 2, 1) := by decide +kernel
theorem dL_acts_171 : decode cL_acts 171 = .ok (.iconst 1, 1) := by decide +kernel
theorem dL_acts_172 : decode cL_acts 172 = .ok (.ishr, 1) := by decide +kernel
theorem dL_acts_173 : decode cL_acts 173 = .ok (.ldc 42, 2) := by decide +kernel
theorem dL_acts_175 : decode cL_acts 175 = .ok (.invokestatic 9, 3) := by decide +kernel
theorem dL_acts_178 : decode cL_acts 178 = .ok (.sipush 5000, 3) := by decide +kernel
theorem dL_acts_181 : decode cL_acts 181 = .ok (.isub, 1) := by decide +kernel
theorem dL_acts_182 : decode cL_acts 182 = .ok (.goto 21, 3) := by decide +kernel
theorem dL_acts_185 : decode cL_acts 185 = .ok (.aload_n 0, 1) := by decide +kernel
theorem dL_acts_186 : decode cL_acts 186 = .ok (.invokevirtual 39, 3) := by decide +kernel
theorem dL_acts_189 : decode cL_acts 189 = .ok (.iload_n 2, 1) := by decide +kernel
theorem dL_acts_190 : decode cL_acts 190 = .ok (.iconst 1, 1) := by decide +kernel
theorem dL_acts_191 : decode cL_acts 191 = .ok (.ishr, 1) := by decide +kernel
theorem dL_acts_192 : decode cL_acts 192 = .ok (.sipush 601, 3) := by decide +kernel
theorem dL_acts_195 : decode cL_acts 195 = .ok (.invokestatic 9, 3) := by decide +kernel
theorem dL_acts_198 : decode cL_acts 198 = .ok (.iadd, 1) := by decide +kernel
theorem dL_acts_199 : decode cL_acts 199 = .ok (.sipush 300, 3) := by decide +kernel
theorem dL_acts_202 : decode cL_acts 202 = .ok (.isub, 1) := by decide +kernel
theorem dL_acts_203 : decode cL_acts 203 = .ok (.sipush (-5000), 3) := by decide +kernel
theorem dL_acts_206 : decode cL_acts 206 = .ok (.ldc 43, 2) := by decide +kernel
theorem dL_acts_208 : decode cL_acts 208 = .ok (.invokestatic 44, 3) := by decide +kernel
theorem dL_acts_211 : decode cL_acts 211 = .ok (.istore 5, 2) := by decide +kernel
theorem dL_acts_213 : decode cL_acts 213 = .ok (.aload_n 0, 1) := by decide +kernel
theorem dL_acts_214 : decode cL_acts 214 = .ok (.invokevirtual 39, 3) := by decide +kernel
theorem dL_acts_217 : decode cL_acts 217 = .ok (.iload 5, 2) := by decide +kernel
theorem dL_acts_219 : decode cL_acts 219 = .ok (.isub, 1) := by decide +kernel
theorem dL_acts_220 : decode cL_acts 220 = .ok (.istore 6, 2) := by decide +kernel
theorem dL_acts_222 : decode cL_acts 222 = .ok (.aload_n 0, 1) := by decide +kernel
theorem dL_acts_223 : decode cL_acts 223 = .ok (.invokevirtual 48, 3) := by decide +kernel
theorem dL_acts_226 : decode cL_acts 226 = .ok (.istore 7, 2) := by decide +kernel
theorem dL_acts_228 : decode cL_acts 228 = .ok (.aload_n 0, 1) := by decide +kernel
theorem dL_acts_229 : decode cL_acts 229 = .ok (.invokevirtual 51, 3) := by decide +kernel
theorem dL_acts_232 : decode cL_acts 232 = .ok (.istore 8, 2) := by decide +kernel
theorem dL_acts_234 : decode cL_acts 234 = .ok (.aload_n 0, 1) := by decide +kernel
theorem dL_acts_235 : decode cL_acts 235 = .ok (.iload 5, 2) := by decide +kernel
theorem dL_acts_237 : decode cL_acts 237 = .ok (.invokevirtual 54, 3) := by decide +kernel
theorem dL_acts_240 : decode cL_acts 240 = .ok (.iload 6, 2) := by decide +kernel
theorem dL_acts_242 : decode cL_acts 242 = .ok (.if_icmp .ne 41, 3) := by decide +kernel
theorem dL_acts_245 : decode cL_acts 245 = .ok (.aload_n 0, 1) := by decide +kernel
theorem dL_acts_246 : decode cL_acts 246 = .ok (.invokevirtual 48, 3) := by decide +kernel
theorem dL_acts_249 : decode cL_acts 249 = .ok (.iload 7, 2) := by decide +kernel
theorem dL_acts_251 : decode cL_acts 251 = .ok (.iload 6, 2) := by decide +kernel
theorem dL_acts_253 : decode cL_acts 253 = .ok (.iadd, 1) := by decide +kernel
theorem dL_acts_254 : decode cL_acts 254 = .ok (.if_icmp .ne 29, 3) := by decide +kernel
theorem dL_acts_257 : decode cL_acts 257 = .ok (.aload_n 0, 1) := by decide +kernel
theorem dL_acts_258 : decode cL_acts 258 = .ok (.invokevirtual 51, 3) := by decide +kernel
theorem dL_acts_261 : decode cL_acts 261 = .ok (.iload 8, 2) := by decide +kernel
theorem dL_acts_263 : decode cL_acts 263 = .ok (.iconst 1, 1) := by decide +kernel
theorem dL_acts_264 : decode cL_acts 264 = .ok (.iadd, 1) := by decide +kernel
theorem dL_acts_265 : decode cL_acts 265 = .ok (.if_icmp .ne 18, 3) := by decide +kernel
theorem dL_acts_268 : decode cL_acts 268 = .ok (.aload_n 0, 1) := by decide +kernel
theorem dL_acts_269 : decode cL_acts 269 = .ok (.invokevirtual 36, 3) := by decide +kernel
theorem dL_acts_272 : decode cL_acts 272 = .ok (.aload_n 0, 1) := by decide +kernel
theorem dL_acts_273 : decode cL_acts 273 = .ok (.invokevirtual 39, 3) := by decide +kernel
theorem dL_acts_276 : decode cL_acts 276 = .ok (.if_icmp .ne 7, 3) := by decide +kernel
theorem dL_acts_279 : decode cL_acts 279 = .ok (.iconst 1, 1) := by decide +kernel
theorem dL_acts_280 : decode cL_acts 280 = .ok (.goto 4, 3) := by decide +kernel
theorem dL_acts_283 : decode cL_acts 283 = .ok (.iconst 0, 1) := by decide +kernel
theorem dL_acts_284 : decode cL_acts 284 = .ok (.ireturn, 1) := by decide +kernel
theorem dL_acts_285 : decode cL_acts 285 = .ok (.aload_n 0, 1) := by decide +kernel
theorem dL_acts_286 : decode cL_acts 286 = .ok (.bipush 10, 2) := by decide +kernel
theorem dL_acts_288 : decode cL_acts 288 = .ok (.iload_n 2, 1) := by decide +kernel
theorem dL_acts_289 : decode cL_acts 289 = .ok (.sipush 491, 3) := by decide +kernel
theorem dL_acts_292 : decode cL_acts 292 = .ok (.invokestatic 9, 3) := by decide +kernel
theorem dL_acts_295 : decode cL_acts 295 = .ok (.iadd, 1) := by decide +kernel
theorem dL_acts_296 : decode cL_acts 296 = .ok (.invokevirtual 57, 3) := by decide +kernel
theorem dL_acts_299 : decode cL_acts 299 = .ok (.bipush 10, 2) := by decide +kernel
theorem dL_acts_301 : decode cL_acts 301 = .ok (.if_icmp .lt 7, 3) := by decide +kernel
theorem dL_acts_304 : decode cL_acts 304 = .ok (.iconst 1, 1) := by decide +kernel
theorem dL_acts_305 : decode cL_acts 305 = .ok (.goto 4, 3) := by decide +kernel
theorem dL_acts_308 : decode cL_acts 308 = .ok (.iconst 0, 1) := by decide +kernel
theorem dL_acts_309 : decode cL_acts 309 = .ok (.ireturn, 1) := by decide +kernel
theorem dL_acts_310 : decode cL_acts 310 = .ok (.aload_n 0, 1) := by decide +kernel
theorem dL_acts_311 : decode cL_acts 311 = .ok (.bipush 10, 2) := by decide +kernel
theorem dL_acts_313 : decode cL_acts 313 = .ok (.iload_n 2, 1) := by decide +kernel
theorem dL_acts_314 : decode cL_acts 314 = .ok (.sipush 191, 3) := by decide +kernel
theorem dL_acts_317 : decode cL_acts 317 = .ok (.invokestatic 9, 3) := by decide +kernel
theorem dL_acts_320 : decode cL_acts 320 = .ok (.iadd, 1) := by decide +kernel
theorem dL_acts_321 : decode cL_acts 321 = .ok (.invokevirtual 60, 3) := by decide +kernel
theorem dL_acts_324 : decode cL_acts 324 = .ok (.bipush 10, 2) := by decide +kernel
theorem dL_acts_326 : decode cL_acts 326 = .ok (.if_icmp .lt 7, 3) := by decide +kernel
theorem dL_acts_329 : decode cL_acts 329 = .ok (.iconst 1, 1) := by decide +kernel
theorem dL_acts_330 : decode cL_acts 330 = .ok (.goto 4, 3) := by decide +kernel
theorem dL_acts_333 : decode cL_acts 333 = .ok (.iconst 0, 1) := by decide +kernel
theorem dL_acts_334 : decode cL_acts 334 = .ok (.ireturn, 1) := by decide +kernel
theorem dL_acts_335 : decode cL_acts 335 = .ok (.aload_n 0, 1) := by decide +kernel
theorem dL_acts_336 : decode cL_acts 336 = .ok (.invokevirtual 63, 3) := by decide +kernel
theorem dL_acts_339 : decode cL_acts 339 = .ok (.istore 9, 2) := by decide +kernel
theorem dL_acts_341 : decode cL_acts 341 = .ok (.aload_n 0, 1) := by decide +kernel
theorem dL_acts_342 : decode cL_acts 342 = .ok (.invokevirtual 66, 3) := by decide +kernel
theorem dL_acts_345 : decode cL_acts 345 = .ok (.iload 9, 2) := by decide +kernel
theorem dL_acts_347 : decode cL_acts 347 = .ok (.bipush 10, 2) := by decide +kernel
theorem dL_acts_349 : decode cL_acts 349 = .ok (.if_icmp .ge 10, 3) := by decide +kernel
theorem dL_acts_352 : decode cL_acts 352 = .ok (.iload 9, 2) := by decide +kernel
theorem dL_acts_354 : decode cL_acts 354 = .ok (.iconst 1, 1) := by decide +kernel
theorem dL_acts_355 : decode cL_acts 355 = .ok (.iadd, 1) := by decide +kernel
theorem dL_acts_356 : decode cL_acts 356 = .ok (.goto 5, 3) := by decide +kernel
theorem dL_acts_359 : decode cL_acts 359 = .ok (.bipush 10, 2) := by decide +kernel
theorem dL_acts_361 : decode cL_acts 361 = .ok (.if_icmp .ne 41, 3) := by decide +kernel
theorem dL_acts_364 : decode cL_acts 364 = .ok (.aload_n 0, 1) := by decide +kernel
theorem dL_acts_365 : decode cL_acts 365 = .ok (.aload_n 0, 1) := by decide +kernel
theorem dL_acts_366 : decode cL_acts 366 = .ok (.invokevirtual 63, 3) := by decide +kernel
theorem dL_acts_369 : decode cL_acts 369 = .ok (.iconst 1, 1) := by decide +kernel
theorem dL_acts_370 : decode cL_acts 370 = .ok (.isub, 1) := by decide +kernel
theorem dL_acts_371 : decode cL_acts 371 = .ok (.invokevirtual 69, 3) := by decide +kernel
theorem dL_acts_374 : decode cL_acts 374 = .ok (.aload_n 0, 1) := by decide +kernel
theorem dL_acts_375 : decode cL_acts 375 = .ok (.invokevirtual 72, 3) := by decide +kernel
theorem dL_acts_378 : decode cL_acts 378 = .ok (.if_icmp .ne 24, 3) := by decide +kernel
theorem dL_acts_381 : decode cL_acts 381 = .ok (.aload_n 0, 1) := by decide +kernel
theorem dL_acts_382 : decode cL_acts 382 = .ok (.aload_n 0, 1) := by decide +kernel
theorem dL_acts_383 : decode cL_acts 383 = .ok (.invokevirtual 63, 3) := by decide +kernel
theorem dL_acts_386 : decode cL_acts 386 = .ok (.iconst 1, 1) := by decide +kernel
theorem dL_acts_387 : decode cL_acts 387 = .ok (.isub, 1) := by decide +kernel
theorem dL_acts_388 : decode cL_acts 388 = .ok (.invokevirtual 75, 3) := by decide +kernel
theorem dL_acts_391 : decode cL_acts 391 = .ok (.aload_n 0, 1) := by decide +kernel
theorem dL_acts_392 : decode cL_acts 392 = .ok (.invokevirtual 39, 3) := by decide +kernel
theorem dL_acts_395 : decode cL_acts 395 = .ok (.if_icmp .ne 7, 3) := by decide +kernel
theorem dL_acts_398 : decode cL_acts 398 = .ok (.iconst 1, 1) := by decide +kernel
theorem dL_acts_399 : decode cL_acts 399 = .ok (.goto 4, 3) := by decide +kernel
theorem dL_acts_402 : decode cL_acts 402 = .ok (.iconst 0, 1) := by decide +kernel
theorem dL_acts_403 : decode cL_acts 403 = .ok (.ireturn, 1) := by decide +kernel
theorem dL_acts_404 : decode cL_acts 404 = .ok (.iload_n 2, 1) := by decide +kernel
theorem dL_acts_405 : decode cL_acts 405 = .ok (.iconst 3, 1) := by decide +kernel
theorem dL_acts_406 : decode cL_acts 406 = .ok (.iand, 1) := by decide +kernel
theorem dL_acts_407 : decode cL_acts 407 = .ok (.ifCond .ne 23, 3) := by decide +kernel
theorem dL_acts_410 : decode cL_acts 410 = .ok (.aload_n 0, 1) := by decide +kernel
theorem dL_acts_411 : decode cL_acts 411 = .ok (.iconst 0, 1) := by decide +kernel
theorem dL_acts_412 : decode cL_acts 412 = .ok (.invokevirtual 78, 3) := by decide +kernel
theorem dL_acts_415 : decode cL_acts 415 = .ok (.aload_n 0, 1) := by decide +kernel
theorem dL_acts_416 : decode cL_acts 416 = .ok (.invokevirtual 39, 3) := by decide +kernel
theorem dL_acts_419 : decode cL_acts 419 = .ok (.if_icmp .ne 7, 3) := by decide +kernel
theorem dL_acts_422 : decode cL_acts 422 = .ok (.iconst 1, 1) := by decide +kernel
theorem dL_acts_423 : decode cL_acts 423 = .ok (.goto 23, 3) := by decide +kernel
theorem dL_acts_426 : decode cL_acts 426 = .ok (.iconst 0, 1) := by decide +kernel
theorem dL_acts_427 : decode cL_acts 427 = .ok (.goto 19, 3) := by decide +kernel
theorem dL_acts_430 : decode cL_acts 430 = .ok (.aload_n 0, 1) := by decide +kernel
theorem dL_acts_431 : decode cL_acts 431 = .ok (.invokevirtual 66, 3) := by decide +kernel
theorem dL_acts_434 : decode cL_acts 434 = .ok (.aload_n 0, 1) := by decide +kernel
theorem dL_acts_435 : decode cL_acts 435 = .ok (.invokevirtual 63, 3) := by decide +kernel
theorem dL_acts_438 : decode cL_acts 438 = .ok (.if_icmp .ne 7, 3) := by decide +kernel
theorem dL_acts_441 : decode cL_acts 441 = .ok (.iconst 1, 1) := by decide +kernel
theorem dL_acts_442 : decode cL_acts 442 = .ok (.goto 4, 3) := by decide +kernel
theorem dL_acts_445 : decode cL_acts 445 = .ok (.iconst 0, 1) := by decide +kernel
theorem dL_acts_446 : decode cL_acts 446 = .ok (.ireturn, 1) := by decide +kernel
theorem dL_acts_447 : decode cL_acts 447 = .ok (.iconst 1, 1) := by decide +kernel
theorem dL_acts_448 : decode cL_acts 448 = .ok (.iload_n 2, 1) := by decide +kernel
theorem dL_acts_449 : decode cL_acts 449 = .ok (.iload_n 2, 1) := by decide +kernel
theorem dL_acts_450 : decode cL_acts 450 = .ok (.bipush 9, 2) := by decide +kernel
theorem dL_acts_452 : decode cL_acts 452 = .ok (.ishr, 1) := by decide +kernel
theorem dL_acts_453 : decode cL_acts 453 = .ok (.iconst 3, 1) := by decide +kernel
theorem dL_acts_454 : decode cL_acts 454 = .ok (.iand, 1) := by decide +kernel
theorem dL_acts_455 : decode cL_acts 455 = .ok (.ifCond .ne 8, 3) := by decide +kernel
theorem dL_acts_458 : decode cL_acts 458 = .ok (.bipush 120, 2) := by decide +kernel
theorem dL_acts_460 : decode cL_acts 460 = .ok (.goto 5, 3) := by decide +kernel
theorem dL_acts_463 : decode cL_acts 463 = .ok (.bipush 15, 2) := by decide +kernel
theorem dL_acts_465 : decode cL_acts 465 = .ok (.invokestatic 9, 3) := by decide +kernel
theorem dL_acts_468 : decode cL_acts 468 = .ok (.iadd, 1) := by decide +kernel
theorem dL_acts_469 : decode cL_acts 469 = .ok (.istore 10, 2) := by decide +kernel
theorem dL_acts_471 : decode cL_acts 471 = .ok (.iload_n 2, 1) := by decide +kernel
theorem dL_acts_472 : decode cL_acts 472 = .ok (.bipush 10, 2) := by decide +kernel
theorem dL_acts_474 : decode cL_acts 474 = .ok (.ishr, 1) := by decide +kernel
theorem dL_acts_475 : decode cL_acts 475 = .ok (.iconst 1, 1) := by decide +kernel
theorem dL_acts_476 : decode cL_acts 476 = .ok (.iand, 1) := by decide +kernel
theorem dL_acts_477 : decode cL_acts 477 = .ok (.ifCond .ne 20, 3) := by decide +kernel
theorem dL_acts_480 : decode cL_acts 480 = .ok (.sipush 5000, 3) := by decide +kernel
theorem dL_acts_483 : decode cL_acts 483 = .ok (.iload_n 2, 1) := by decide +kernel
theorem dL_acts_484 : decode cL_acts 484 = .ok (.bipush 11, 2) := by decide +kernel
theorem dL_acts_486 : decode cL_acts 486 = .ok (.ishr, 1) := by decide +kernel
theorem dL_acts_487 : decode cL_acts 487 = .ok (.sipush 6001, 3) := by decide +kernel
theorem dL_acts_490 : decode cL_acts 490 = .ok (.invokestatic 9, 3) := by decide +kernel
theorem dL_acts_493 : decode cL_acts 493 = .ok (.iadd, 1) := by decide +kernel
theorem dL_acts_494 : decode cL_acts 494 = .ok (.goto 22, 3) := by decide +kernel
theorem dL_acts_497 : decode cL_acts 497 = .ok (.aload_n 0, 1) := by decide +kernel
theorem dL_acts_498 : decode cL_acts 498 = .ok (.invokevirtual 81, 3) := by decide +kernel
theorem dL_acts_501 : decode cL_acts 501 = .ok (.iload_n 2, 1) := by decide +kernel
theorem dL_acts_502 : decode cL_acts 502 = .ok (.bipush 11, 2) := by decide +kernel
theorem dL_acts_504 : decode cL_acts 504 = .ok (.ishr, 1) := by decide +kernel
theorem dL_acts_505 : decode cL_acts 505 = .ok (.sipush 301, 3) := by decide +kernel
theorem dL_acts_508 : decode cL_acts 508 = .ok (.invokestatic 9, 3) := by decide +kernel
theorem dL_acts_511 : decode cL_acts 511 = .ok (.iadd, 1) := by decide +kernel
theorem dL_acts_512 : decode cL_acts 512 = .ok (.sipush 150, 3) := by decide +kernel
theorem dL_acts_515 : decode cL_acts 515 = .ok (.isub, 1) := by decide +kernel
theorem dL_acts_516 : decode cL_acts 516 = .ok (.sipush 5000, 3) := by decide +kernel
theorem dL_acts_519 : decode cL_acts 519 = .ok (.sipush 11000, 3) := by decide +kernel
theorem dL_acts_522 : decode cL_acts 522 = .ok (.invokestatic 44, 3) := by decide +kernel
theorem dL_acts_525 : decode cL_acts 525 = .ok (.istore 11, 2) := by decide +kernel
theorem dL_acts_527 : decode cL_acts 527 = .ok (.aload_n 0, 1) := by decide +kernel
theorem dL_acts_528 : decode cL_acts 528 = .ok (.iload 10, 2) := by decide +kernel
theorem dL_acts_530 : decode cL_acts 530 = .ok (.iload 11, 2) := by decide +kernel
theorem dL_acts_532 : decode cL_acts 532 = .ok (.invokestatic 84, 3) := by decide +kernel
theorem dL_acts_535 : decode cL_acts 535 = .ok (.ireturn, 1) := by decide +kernel
set_option maxRecDepth 20000 in
theorem ggL_travels_X9_altitudeAfter : GoodIn wsL_travels wsX9_altitudeAfter := goodIn_ca (goodIn_r _ [5, 6, 7, 8, 4, 9, 10, 11, 12, 13, 14, 15, 16, 17, 18, 19, 20, 21, 22, 23, 24, 25, 26, 27, 28, 29, 30, 31, 32, 33, 201, 202, 203, 204, 205, 206, 207, 208, 209, 210, 211, 212, 213, 214, 215] (by decide +kernel) (by decide +kernel)) (goodIn_sub (fun _ h => List.mem_cons_of_mem _ (List.mem_append_right _ h)) (by decide +kernel))
set_option maxRecDepth 20000 in
theorem gL_travels_X9_altitudeAfter : GoodIn wsL_travels (wsV RL 88 RX9 yX9_altitudeAfter wsX9_altitudeAfter) := goodIn_app (goodIn_of _ (by decide +kernel)) ggL_travels_X9_altitudeAfter
set_option maxRecDepth 20000 in
theorem ggL_travels_X9_ascentIn : GoodIn wsL_travels wsX9_ascentIn := goodIn_ca (goodIn_r _ [37, 6, 7, 8, 4, 9, 10, 11, 38, 39, 40, 15, 41, 17, 42, 43, 44, 45, 46, 19, 47, 48, 49, 50, 51, 52, 53, 54, 55, 56, 57, 58, 59, 60, 61, 62, 22, 63, 33, 31, 32, 24, 25, 26, 64, 65, 66, 67, 201, 202, 203, 204, 205, 206, 207, 208, 209, 210, 211, 212, 213, 214, 215, 216, 217, 218, 219] (by decide +kernel) (by decide +kernel)) (goodIn_sub (fun _ h => List.mem_cons_of_mem _ (List.mem_append_right _ h)) (by decide +kernel))
set_option maxRecDepth 20000 in
theorem gL_travels_X9_ascentIn : GoodIn wsL_travels (wsV RL 91 RX9 yX9_ascentIn wsX9_ascentIn) := goodIn_app (goodIn_of _ (by decide +kernel)) ggL_travels_X9_ascentIn
set_option maxRecDepth 20000 in
theorem ggL_travels_X9_ascent : GoodIn wsL_travels wsX9_ascent := goodIn_r _ [71, 6, 72, 73, 201, 202, 203, 204, 205, 206, 207, 208, 209, 210, 211, 212, 213, 214, 215, 216, 217, 218, 219] (by decide +kernel) (by decide +kernel)
set_option maxRecDepth 20000 in
theorem gL_travels_X9_ascent : GoodIn wsL_travels (wsV RL 94 RX9 yX9_ascent wsX9_ascent) := goodIn_app (goodIn_of _ (by decide +kernel)) ggL_travels_X9_ascent
set_option maxRecDepth 20000 in
theorem ggL_travels_X9_descent : GoodIn wsL_travels wsX9_descent := goodIn_r _ [77, 6, 72, 78, 201, 202, 203, 204, 205, 206, 207, 208, 209, 210, 211, 212, 213, 214, 215, 216, 217, 218, 219] (by decide +kernel) (by decide +kernel)
set_option maxRecDepth 20000 in
theorem gL_travels_X9_descent : GoodIn wsL_travels (wsV RL 97 RX9 yX9_descent wsX9_descent) := goodIn_app (goodIn_of _ (by decide +kernel)) ggL_travels_X9_descent
set_option maxRecDepth 20000 in
theorem ggL_travels_X9_sea : GoodIn wsL_travels wsX9_sea := goodIn_r _ [82, 6, 83, 201, 202, 203, 204, 205, 206, 207, 208, 209, 210, 211, 212, 213, 214, 215] (by decide +kernel) (by decide +kernel)
set_option maxRecDepth 20000 in
theorem gL_travels_X9_sea : GoodIn wsL_travels (wsV RL 29 RX9 yX9_sea wsX9_sea) := goodIn_app (goodIn_of _ (by decide +kernel)) ggL_travels_X9_sea
set_option maxRecDepth 20000 in
theorem ggL_travels_X9_minutes : GoodIn wsL_travels wsX9_minutes := goodIn_r _ [87, 6, 88, 201, 202, 203, 204, 205, 206, 207, 208, 209, 210, 211, 212, 213, 214, 215] (by decide +kernel) (by decide +kernel)
set_option maxRecDepth 20000 in
theorem gL_travels_X9_minutes : GoodIn wsL_travels (wsV RL 72 RX9 yX9_minutes wsX9_minutes) := goodIn_app (goodIn_of _ (by decide +kernel)) ggL_travels_X9_minutes
set_option maxRecDepth 20000 in
theorem ggL_travels_X9_alarms : GoodIn wsL_travels wsX9_alarms := goodIn_r _ [92, 6, 93, 94, 201, 202, 203, 204, 205, 206, 207, 208, 209, 210, 211, 212, 213, 214, 215, 220, 221, 222, 223, 224] (by decide +kernel) (by decide +kernel)
set_option maxRecDepth 20000 in
theorem gL_travels_X9_alarms : GoodIn wsL_travels (wsV RL 100 RX9 yX9_alarms wsX9_alarms) := goodIn_app (goodIn_of _ (by decide +kernel)) ggL_travels_X9_alarms
set_option maxRecDepth 20000 in
theorem ggL_travels_X9_travel : GoodIn wsL_travels wsX9_travel := goodIn_ca (goodIn_r _ [98, 99, 6, 7, 8, 4, 9, 10, 11, 100, 101, 102, 103, 104, 105, 106, 107, 108, 109, 110, 111, 112, 113, 114, 115, 116, 117, 118, 15, 119, 17, 18, 46, 19, 120, 121, 122, 45, 123, 124, 54, 55, 56, 44, 57, 58, 59, 60, 53, 125, 126, 127, 128, 129, 130, 131, 132, 133, 134, 135, 136, 137, 138, 139, 140, 141, 142, 143, 144, 145, 146, 147, 148, 149, 150, 151, 152, 153, 154, 61, 62, 22, 63, 20, 21, 23, 24, 25, 26, 27, 28, 29, 30, 31, 32, 155, 156, 157, 158, 159, 160, 161, 162, 163, 164, 165, 166, 167, 168, 169, 170, 171, 172, 173, 174, 175, 176, 177, 178, 179, 180, 181, 182, 183, 184, 185, 33, 64, 65, 66, 67, 186, 201, 202, 203, 204, 205, 225, 226, 227, 206, 207, 208, 209, 210, 211, 212, 213, 214, 215, 216, 217, 218, 219, 220, 221, 222, 223, 224, 228, 229, 230, 231] (by decide +kernel) (by decide +kernel)) (goodIn_sub (fun _ h => List.mem_cons_of_mem _ (List.mem_append_right _ h)) (by decide +kernel))
set_option maxRecDepth 20000 in
theorem gL_travels_X9_travel : GoodIn wsL_travels (wsV RL 103 RX9 yX9_travel wsX9_travel) := goodIn_app (goodIn_of _ (by decide +kernel)) ggL_travels_X9_travel
set_option maxRecDepth 20000 in
theorem ggL_travels_X9_altitude : GoodIn wsL_travels wsX9_altitude := goodIn_r _ [190, 6, 186, 183, 184, 15, 185, 46, 19, 33, 31, 22, 32, 24, 25, 26, 201, 202, 203, 204, 205, 206, 207, 208, 209, 210, 211, 212, 213, 214, 215] (by decide +kernel) (by decide +kernel)
set_option maxRecDepth 20000 in
theorem gL_travels_X9_altitude : GoodIn wsL_travels (wsV RL 39 RX9 yX9_altitude wsX9_altitude) := goodIn_app (goodIn_of _ (by decide +kernel)) ggL_travels_X9_altitude
set_option maxRecDepth 20000 in
theorem ggL_travels_X9_pressure : GoodIn wsL_travels wsX9_pressure := goodIn_r _ [194, 6, 195, 201, 202, 203, 204, 205, 206, 207, 208, 209, 210, 211, 212, 213, 214, 215] (by decide +kernel) (by decide +kernel)
set_option maxRecDepth 20000 in
theorem gL_travels_X9_pressure : GoodIn wsL_travels (wsV RL 81 RX9 yX9_pressure wsX9_pressure) := goodIn_app (goodIn_of _ (by decide +kernel)) ggL_travels_X9_pressure
set_option maxRecDepth 20000 in
theorem ggL_travels_X9_isStation : GoodIn wsL_travels wsX9_isStation := goodIn_r _ [199, 6, 200, 201, 202, 203, 204, 205, 206, 207, 208, 209, 210, 211, 212, 213, 214, 215] (by decide +kernel) (by decide +kernel)
set_option maxRecDepth 20000 in
theorem gL_travels_X9_isStation : GoodIn wsL_travels (wsV RL 15 RX9 yX9_isStation wsX9_isStation) := goodIn_app (goodIn_of _ (by decide +kernel)) ggL_travels_X9_isStation
theorem dL_travels_0 : decode cL_travels 0 = .ok (.aload_n 0, 1) := by decide +kernel
theorem dL_travels_1 : decode cL_travels 1 = .ok (.iload_n 1, 1) := by decide +kernel
theorem dL_travels_2 : decode cL_travels 2 = .ok (.iload_n 2, 1) := by decide +kernel
theorem dL_travels_3 : decode cL_travels 3 = .ok (.invokevirtual 88, 3) := by decide +kernel
theorem dL_travels_6 : decode cL_travels 6 = .ok (.istore_n 3, 1) := by decide +kernel
theorem dL_travels_7 : decode cL_travels 7 = .ok (.aload_n 0, 1) := by decide +kernel
theorem dL_travels_8 : decode cL_travels 8 = .ok (.iload_n 1, 1) := by decide +kernel
theorem dL_travels_9 : decode cL_travels 9 = .ok (.iload_n 2, 1) := by decide +kernel
theorem dL_travels_10 : decode cL_travels 10 = .ok (.invokevirtual 91, 3) := by decide +kernel
theorem dL_travels_13 : decode cL_travels 13 = .ok (.istore 4, 2) := by decide +kernel
theorem dL_travels_15 : decode cL_travels 15 = .ok (.aload_n 0, 1) := by decide +kernel
theorem dL_travels_16 : decode cL_travels 16 = .ok (.invokevirtual 94, 3) := by decide +kernel
theorem dL_travels_19 : decode cL_travels 19 = .ok (.istore 5, 2) := by decide +kernel
theorem dL_travels_21 : decode cL_travels 21 = .ok (.aload_n 0, 1) := by decide +kernel
theorem dL_travels_22 : decode cL_travels 22 = .ok (.invokevirtual 97, 3) := by decide +kernel
theorem dL_travels_25 : decode cL_travels 25 = .ok (.istore 6, 2) := by decide +kernel
theorem dL_travels_27 : decode cL_travels 27 = .ok (.aload_n 0, 1) := by decide +kernel
theorem dL_travels_28 : decode cL_travels 28 = .ok (.invokevirtual 29, 3) := by decide +kernel
theorem dL_travels_31 : decode cL_travels 31 = .ok (.istore 7, 2) := by decide +kernel
theorem dL_travels_33 : decode cL_travels 33 = .ok (.aload_n 0, 1) := by decide +kernel
theorem dL_travels_34 : decode cL_travels 34 = .ok (.invokevirtual 72, 3) := by decide +kernel
theorem dL_travels_37 : decode cL_travels 37 = .ok (.istore 8, 2) := by decide +kernel
theorem dL_travels_39 : decode cL_travels 39 = .ok (.aload_n 0, 1) := by decide +kernel
theorem dL_travels_40 : decode cL_travels 40 = .ok (.invokevirtual 100, 3) := by decide +kernel
theorem dL_travels_43 : decode cL_travels 43 = .ok (.istore 9, 2) := by decide +kernel
theorem dL_travels_45 : decode cL_travels 45 = .ok (.aload_n 0, 1) := by decide +kernel
theorem dL_travels_46 : decode cL_travels 46 = .ok (.iload_n 1, 1) := by decide +kernel
theorem dL_travels_47 : decode cL_travels 47 = .ok (.iload_n 2, 1) := by decide +kernel
theorem dL_travels_48 : decode cL_travels 48 = .ok (.invokevirtual 103, 3) := by decide +kernel
theorem dL_travels_51 : decode cL_travels 51 = .ok (.iload_n 3, 1) := by decide +kernel
theorem dL_travels_52 : decode cL_travels 52 = .ok (.if_icmp .ne 71, 3) := by decide +kernel
theorem dL_travels_55 : decode cL_travels 55 = .ok (.aload_n 0, 1) := by decide +kernel
theorem dL_travels_56 : decode cL_travels 56 = .ok (.invokevirtual 39, 3) := by decide +kernel
theorem dL_travels_59 : decode cL_travels 59 = .ok (.iload_n 3, 1) := by decide +kernel
theorem dL_travels_60 : decode cL_travels 60 = .ok (.if_icmp .ne 63, 3) := by decide +kernel
theorem dL_travels_63 : decode cL_travels 63 = .ok (.aload_n 0, 1) := by decide +kernel
theorem dL_travels_64 : decode cL_travels 64 = .ok (.invokevirtual 81, 3) := by decide +kernel
theorem dL_travels_67 : decode cL_travels 67 = .ok (.iload_n 2, 1) := by decide +kernel
theorem dL_travels_68 : decode cL_travels 68 = .ok (.if_icmp .ne 55, 3) := by decide +kernel
theorem dL_travels_71 : decode cL_travels 71 = .ok (.aload_n 0, 1) := by decide +kernel
theorem dL_travels_72 : decode cL_travels 72 = .ok (.invokevirtual 72, 3) := by decide +kernel
theorem dL_travels_75 : decode cL_travels 75 = .ok (.iload 8, 2) := by decide +kernel
theorem dL_travels_77 : decode cL_travels 77 = .ok (.iload_n 1, 1) := by decide +kernel
theorem dL_travels_78 : decode cL_travels 78 = .ok (.iadd, 1) := by decide +kernel
theorem dL_travels_79 : decode cL_travels 79 = .ok (.if_icmp .ne 44, 3) := by decide +kernel
theorem dL_travels_82 : decode cL_travels 82 = .ok (.aload_n 0, 1) := by decide +kernel
theorem dL_travels_83 : decode cL_travels 83 = .ok (.invokevirtual 94, 3) := by decide +kernel
theorem dL_travels_86 : decode cL_travels 86 = .ok (.iload 5, 2) := by decide +kernel
theorem dL_travels_88 : decode cL_travels 88 = .ok (.iload 4, 2) := by decide +kernel
theorem dL_travels_90 : decode cL_travels 90 = .ok (.iadd, 1) := by decide +kernel
theorem dL_travels_91 : decode cL_travels 91 = .ok (.if_icmp .ne 32, 3) := by decide +kernel
theorem dL_travels_94 : decode cL_travels 94 = .ok (.iload 4, 2) := by decide +kernel
theorem dL_travels_96 : decode cL_travels 96 = .ok (.ifCond .lt 27, 3) := by decide +kernel
theorem dL_travels_99 : decode cL_travels 99 = .ok (.aload_n 0, 1) := by decide +kernel
theorem dL_travels_100 : decode cL_travels 100 = .ok (.invokevirtual 100, 3) := by decide +kernel
theorem dL_travels_103 : decode cL_travels 103 = .ok (.iload 9, 2) := by decide +kernel
theorem dL_travels_105 : decode cL_travels 105 = .ok (.if_icmp .lt 18, 3) := by decide +kernel
theorem dL_travels_108 : decode cL_travels 108 = .ok (.aload_n 0, 1) := by decide +kernel
theorem dL_travels_109 : decode cL_travels 109 = .ok (.invokevirtual 100, 3) := by decide +kernel
theorem dL_travels_112 : decode cL_travels 112 = .ok (.iload 9, 2) := by decide +kernel
theorem dL_travels_114 : decode cL_travels 114 = .ok (.iload_n 1, 1) := by decide +kernel
theorem dL_travels_115 : decode cL_travels 115 = .ok (.iadd, 1) := by decide +kernel
theorem dL_travels_116 : decode cL_travels 116 = .ok (.if_icmp .gt 7, 3) := by decide +kernel
theorem dL_travels_119 : decode cL_travels 119 = .ok (.iconst 1, 1) := by decide +kernel
theorem dL_travels_120 : decode cL_travels 120 = .ok (.goto 4, 3) := by decide +kernel
theorem dL_travels_123 : decode cL_travels 123 = .ok (.iconst 0, 1) := by decide +kernel
theorem dL_travels_124 : decode cL_travels 124 = .ok (.istore 10, 2) := by decide +kernel
theorem dL_travels_126 : decode cL_travels 126 = .ok (.iload 10, 2) := by decide +kernel
theorem dL_travels_128 : decode cL_travels 128 = .ok (.ifCond .eq 53, 3) := by decide +kernel
theorem dL_travels_131 : decode cL_travels 131 = .ok (.aload_n 0, 1) := by decide +kernel
theorem dL_travels_132 : decode cL_travels 132 = .ok (.invokevirtual 15, 3) := by decide +kernel
theorem dL_travels_135 : decode cL_travels 135 = .ok (.ifCond .eq 24, 3) := by decide +kernel
theorem dL_travels_138 : decode cL_travels 138 = .ok (.aload_n 0, 1) := by decide +kernel
theorem dL_travels_139 : decode cL_travels 139 = .ok (.invokevirtual 94, 3) := by decide +kernel
theorem dL_travels_142 : decode cL_travels 142 = .ok (.iload 5, 2) := by decide +kernel
theorem dL_travels_144 : decode cL_travels 144 = .ok (.if_icmp .ne 37, 3) := by decide +kernel
theorem dL_travels_147 : decode cL_travels 147 = .ok (.aload_n 0, 1) := by decide +kernel
theorem dL_travels_148 : decode cL_travels 148 = .ok (.invokevirtual 97, 3) := by decide +kernel
theorem dL_travels_151 : decode cL_travels 151 = .ok (.iload 6, 2) := by decide +kernel
theorem dL_travels_153 : decode cL_travels 153 = .ok (.if_icmp .ne 28, 3) := by decide +kernel
theorem dL_travels_156 : decode cL_travels 156 = .ok (.goto 21, 3) := by decide +kernel
theorem dL_travels_159 : decode cL_travels 159 = .ok (.aload_n 0, 1) := by decide +kernel
theorem dL_travels_160 : decode cL_travels 160 = .ok (.invokevirtual 29, 3) := by decide +kernel
theorem dL_travels_163 : decode cL_travels 163 = .ok (.iload 7, 2) := by decide +kernel
theorem dL_travels_165 : decode cL_travels 165 = .ok (.if_icmp .ne 16, 3) := by decide +kernel
theorem dL_travels_168 : decode cL_travels 168 = .ok (.aload_n 0, 1) := by decide +kernel
theorem dL_travels_169 : decode cL_travels 169 = .ok (.invokevirtual 97, 3) := by decide +kernel
theorem dL_travels_172 : decode cL_travels 172 = .ok (.iload 6, 2) := by decide +kernel
theorem dL_travels_174 : decode cL_travels 174 = .ok (.if_icmp .lt 7, 3) := by decide +kernel
theorem dL_travels_177 : decode cL_travels 177 = .ok (.iconst 1, 1) := by decide +kernel
theorem dL_travels_178 : decode cL_travels 178 = .ok (.goto 4, 3) := by decide +kernel
theorem dL_travels_181 : decode cL_travels 181 = .ok (.iconst 0, 1) := by decide +kernel
theorem dL_travels_182 : decode cL_travels 182 = .ok (.ireturn, 1) := by decide +kernel
set_option maxRecDepth 20000 in
theorem ggL_holds_L_up : GoodIn wsL_holds wsL_up := goodIn_r _ [6, 7] (by decide +kernel) (by decide +kernel)
set_option maxRecDepth 20000 in
theorem gL_holds_L_up : GoodIn wsL_holds (va_wsS RL 9 yL_up wsL_up) := goodIn_app (goodIn_of _ (by decide +kernel)) ggL_holds_L_up
set_option maxRecDepth 20000 in
theorem ggL_holds_X9_pressureAt : GoodIn wsL_holds wsX9_pressureAt := goodIn_ca (goodIn_r _ [12, 13, 14, 15, 16, 11, 17, 18, 19, 20, 21, 22, 23, 24, 25, 26, 27, 28, 29, 30, 31, 32, 33, 146, 147, 148, 149, 150, 151, 152, 153, 154, 155, 156, 157, 158, 159, 160] (by decide +kernel) (by decide +kernel)) (goodIn_sub (fun _ h => List.mem_cons_of_mem _ (List.mem_append_left _ (List.mem_append_right _ h))) (by decide +kernel))
set_option maxRecDepth 20000 in
theorem gL_holds_X9_pressureAt : GoodIn wsL_holds (wsV RL 107 RX9 yX9_pressureAt wsX9_pressureAt) := goodIn_app (goodIn_of _ (by decide +kernel)) ggL_holds_X9_pressureAt
set_option maxRecDepth 20000 in
theorem ggL_holds_X9_sea : GoodIn wsL_holds wsX9_sea := goodIn_r _ [37, 14, 38, 146, 147, 148, 149, 150, 151, 152, 153, 154, 155, 156, 157, 158, 159, 160] (by decide +kernel) (by decide +kernel)
set_option maxRecDepth 20000 in
theorem gL_holds_X9_sea : GoodIn wsL_holds (wsV RL 29 RX9 yX9_sea wsX9_sea) := goodIn_app (goodIn_of _ (by decide +kernel)) ggL_holds_X9_sea
set_option maxRecDepth 20000 in
theorem ggL_holds_X9_standard : GoodIn wsL_holds wsX9_standard := goodIn_ca (goodIn_r _ [42, 15, 16, 11, 17, 18, 19, 43, 27, 28, 29] (by decide +kernel) (by decide +kernel)) (goodIn_sub (fun _ h => List.mem_cons_of_mem _ (List.mem_append_left _ (List.mem_append_right _ h))) (by decide +kernel))
set_option maxRecDepth 20000 in
theorem gL_holds_X9_standard : GoodIn wsL_holds (wsV RL 110 RX9 yX9_standard wsX9_standard) := goodIn_app (goodIn_of _ (by decide +kernel)) ggL_holds_X9_standard
set_option maxRecDepth 20000 in
theorem ggL_holds_X9_altitude : GoodIn wsL_holds wsX9_altitude := goodIn_r _ [47, 14, 48, 49, 50, 23, 51, 52, 25, 53, 54, 28, 55, 33, 27, 29, 146, 147, 148, 149, 150, 151, 152, 153, 154, 155, 156, 157, 158, 159, 160] (by decide +kernel) (by decide +kernel)
set_option maxRecDepth 20000 in
theorem gL_holds_X9_altitude : GoodIn wsL_holds (wsV RL 39 RX9 yX9_altitude wsX9_altitude) := goodIn_app (goodIn_of _ (by decide +kernel)) ggL_holds_X9_altitude
set_option maxRecDepth 20000 in
theorem ggL_holds_X9_pressure : GoodIn wsL_holds wsX9_pressure := goodIn_r _ [59, 14, 60, 146, 147, 148, 149, 150, 151, 152, 153, 154, 155, 156, 157, 158, 159, 160] (by decide +kernel) (by decide +kernel)
set_option maxRecDepth 20000 in
theorem gL_holds_X9_pressure : GoodIn wsL_holds (wsV RL 81 RX9 yX9_pressure wsX9_pressure) := goodIn_app (goodIn_of _ (by decide +kernel)) ggL_holds_X9_pressure
set_option maxRecDepth 20000 in
theorem ggL_holds_X9_fall : GoodIn wsL_holds wsX9_fall := goodIn_r _ [64, 14, 65, 66, 67, 68, 69, 70, 71, 72, 73, 74, 75, 76, 77, 78, 79, 80, 81, 11, 82, 146, 147, 148, 149, 150, 151, 152, 153, 154, 155, 156, 157, 158, 159, 160, 161, 162, 163, 164, 165] (by decide +kernel) (by decide +kernel)
set_option maxRecDepth 20000 in
theorem gL_holds_X9_fall : GoodIn wsL_holds (wsV RL 113 RX9 yX9_fall wsX9_fall) := goodIn_app (goodIn_of _ (by decide +kernel)) ggL_holds_X9_fall
set_option maxRecDepth 20000 in
theorem ggL_holds_X9_logged : GoodIn wsL_holds wsX9_logged := goodIn_r _ [86, 14, 65, 87, 146, 147, 148, 149, 150, 151, 152, 153, 154, 155, 156, 157, 158, 159, 160, 161, 162, 163, 164, 165] (by decide +kernel) (by decide +kernel)
set_option maxRecDepth 20000 in
theorem gL_holds_X9_logged : GoodIn wsL_holds (wsV RL 25 RX9 yX9_logged wsX9_logged) := goodIn_app (goodIn_of _ (by decide +kernel)) ggL_holds_X9_logged
set_option maxRecDepth 20000 in
theorem ggL_holds_X9_isStation : GoodIn wsL_holds wsX9_isStation := goodIn_r _ [91, 14, 92, 146, 147, 148, 149, 150, 151, 152, 153, 154, 155, 156, 157, 158, 159, 160] (by decide +kernel) (by decide +kernel)
set_option maxRecDepth 20000 in
theorem gL_holds_X9_isStation : GoodIn wsL_holds (wsV RL 15 RX9 yX9_isStation wsX9_isStation) := goodIn_app (goodIn_of _ (by decide +kernel)) ggL_holds_X9_isStation
set_option maxRecDepth 20000 in
theorem ggL_holds_X9_alarms : GoodIn wsL_holds wsX9_alarms := goodIn_r _ [96, 14, 65, 97, 146, 147, 148, 149, 150, 151, 152, 153, 154, 155, 156, 157, 158, 159, 160, 161, 162, 163, 164, 165] (by decide +kernel) (by decide +kernel)
set_option maxRecDepth 20000 in
theorem gL_holds_X9_alarms : GoodIn wsL_holds (wsV RL 100 RX9 yX9_alarms wsX9_alarms) := goodIn_app (goodIn_of _ (by decide +kernel)) ggL_holds_X9_alarms
set_option maxRecDepth 20000 in
theorem ggL_holds_X9_minutes : GoodIn wsL_holds wsX9_minutes := goodIn_r _ [101, 14, 102, 146, 147, 148, 149, 150, 151, 152, 153, 154, 155, 156, 157, 158, 159, 160] (by decide +kernel) (by decide +kernel)
set_option maxRecDepth 20000 in
theorem gL_holds_X9_minutes : GoodIn wsL_holds (wsV RL 72 RX9 yX9_minutes wsX9_minutes) := goodIn_app (goodIn_of _ (by decide +kernel)) ggL_holds_X9_minutes
set_option maxRecDepth 20000 in
theorem ggL_holds_X9_climbShare : GoodIn wsL_holds wsX9_climbShare := goodIn_r _ [106, 14, 107, 108, 109, 110, 146, 147, 148, 149, 150, 151, 152, 153, 154, 155, 156, 157, 158, 159, 160, 166, 167, 168, 169] (by decide +kernel) (by decide +kernel)
set_option maxRecDepth 20000 in
theorem gL_holds_X9_climbShare : GoodIn wsL_holds (wsV RL 116 RX9 yX9_climbShare wsX9_climbShare) := goodIn_app (goodIn_of _ (by decide +kernel)) ggL_holds_X9_climbShare
set_option maxRecDepth 20000 in
theorem ggL_holds_X9_marks : GoodIn wsL_holds wsX9_marks := goodIn_r _ [114, 14, 115, 116, 146, 147, 148, 149, 150, 151, 152, 153, 154, 155, 156, 157, 158, 159, 160, 170, 171, 172, 173] (by decide +kernel) (by decide +kernel)
set_option maxRecDepth 20000 in
theorem gL_holds_X9_marks : GoodIn wsL_holds (wsV RL 63 RX9 yX9_marks wsX9_marks) := goodIn_app (goodIn_of _ (by decide +kernel)) ggL_holds_X9_marks
set_option maxRecDepth 20000 in
theorem ggL_holds_X9_climbed : GoodIn wsL_holds wsX9_climbed := goodIn_ca (goodIn_r _ [120, 14, 115, 121, 122, 123, 11, 124, 125, 126, 116, 127, 128, 129, 130, 131, 132, 81, 82, 146, 147, 148, 149, 150, 151, 152, 153, 154, 155, 156, 157, 158, 159, 160, 170, 171, 172, 173] (by decide +kernel) (by decide +kernel)) (goodIn_sub (fun _ h => List.mem_cons_of_mem _ (List.mem_append_right _ h)) (by decide +kernel))
set_option maxRecDepth 20000 in
theorem gL_holds_X9_climbed : GoodIn wsL_holds (wsV RL 120 RX9 yX9_climbed wsX9_climbed) := goodIn_app (goodIn_of _ (by decide +kernel)) ggL_holds_X9_climbed
set_option maxRecDepth 20000 in
theorem ggL_holds_X9_isAlarm : GoodIn wsL_holds wsX9_isAlarm := goodIn_r _ [136, 14, 65, 137, 138, 139, 69, 140, 141, 142, 67, 68, 70, 71, 72, 73, 74, 75, 76, 77, 78, 79, 80, 81, 11, 82, 146, 147, 148, 149, 150, 151, 152, 153, 154, 155, 156, 157, 158, 159, 160, 161, 162, 163, 164, 165] (by decide +kernel) (by decide +kernel)
set_option maxRecDepth 20000 in
theorem gL_holds_X9_isAlarm : GoodIn wsL_holds (wsV RL 123 RX9 yX9_isAlarm wsX9_isAlarm) := goodIn_app (goodIn_of _ (by decide +kernel)) ggL_holds_X9_isAlarm
set_option maxRecDepth 20000 in
theorem ggL_holds_L_size : GoodIn wsL_holds wsL_size := goodIn_r _ [145] (by decide +kernel) (by decide +kernel)
set_option maxRecDepth 20000 in
theorem gL_holds_L_size : GoodIn wsL_holds (va_wsS RL 126 yL_size wsL_size) := goodIn_app (goodIn_of _ (by decide +kernel)) ggL_holds_L_size
theorem dL_holds_0 : decode cL_holds 0 = .ok (.sipush 5000, 3) := by decide +kernel
theorem dL_holds_3 : decode cL_holds 3 = .ok (.iload_n 1, 1) := by decide +kernel
theorem dL_holds_4 : decode cL_holds 4 = .ok (.sipush 6000, 3) := by decide +kernel
theorem dL_holds_7 : decode cL_holds 7 = .ok (.invokestatic 9, 3) := by decide +kernel
theorem dL_holds_10 : decode cL_holds 10 = .ok (.iadd, 1) := by decide +kernel
theorem dL_holds_11 : decode cL_holds 11 = .ok (.istore_n 2, 1) := by decide +kernel
theorem dL_holds_12 : decode cL_holds 12 = .ok (.iload_n 1, 1) := by decide +kernel
theorem dL_holds_13 : decode cL_holds 13 = .ok (.iconst 3, 1) := by decide +kernel
theorem dL_holds_14 : decode cL_holds 14 = .ok (.ishr, 1) := by decide +kernel
theorem dL_holds_15 : decode cL_holds 15 = .ok (.ldc 106, 2) := by decide +kernel
theorem dL_holds_17 : decode cL_holds 17 = .ok (.invokestatic 9, 3) := by decide +kernel
theorem dL_holds_20 : decode cL_holds 20 = .ok (.sipush 4000, 3) := by decide +kernel
theorem dL_holds_23 : decode cL_holds 23 = .ok (.isub, 1) := by decide +kernel
theorem dL_holds_24 : decode cL_holds 24 = .ok (.istore_n 3, 1) := by decide +kernel
theorem dL_holds_25 : decode cL_holds 25 = .ok (.aload_n 0, 1) := by decide +kernel
theorem dL_holds_26 : decode cL_holds 26 = .ok (.iload_n 3, 1) := by decide +kernel
theorem dL_holds_27 : decode cL_holds 27 = .ok (.invokevirtual 107, 3) := by decide +kernel
theorem dL_holds_30 : decode cL_holds 30 = .ok (.istore 4, 2) := by decide +kernel
theorem dL_holds_32 : decode cL_holds 32 = .ok (.aload_n 0, 1) := by decide +kernel
theorem dL_holds_33 : decode cL_holds 33 = .ok (.aload_n 0, 1) := by decide +kernel
theorem dL_holds_34 : decode cL_holds 34 = .ok (.invokevirtual 29, 3) := by decide +kernel
theorem dL_holds_37 : decode cL_holds 37 = .ok (.invokevirtual 110, 3) := by decide +kernel
theorem dL_holds_40 : decode cL_holds 40 = .ok (.istore 5, 2) := by decide +kernel
theorem dL_holds_42 : decode cL_holds 42 = .ok (.aload_n 0, 1) := by decide +kernel
theorem dL_holds_43 : decode cL_holds 43 = .ok (.invokevirtual 39, 3) := by decide +kernel
theorem dL_holds_46 : decode cL_holds 46 = .ok (.aload_n 0, 1) := by decide +kernel
theorem dL_holds_47 : decode cL_holds 47 = .ok (.aload_n 0, 1) := by decide +kernel
theorem dL_holds_48 : decode cL_holds 48 = .ok (.invokevirtual 81, 3) := by decide +kernel
theorem dL_holds_51 : decode cL_holds 51 = .ok (.invokevirtual 110, 3) := by decide +kernel
theorem dL_holds_54 : decode cL_holds 54 = .ok (.iload 5, 2) := by decide +kernel
theorem dL_holds_56 : decode cL_holds 56 = .ok (.isub, 1) := by decide +kernel
theorem dL_holds_57 : decode cL_holds 57 = .ok (.if_icmp .ne 62, 3) := by decide +kernel
theorem dL_holds_60 : decode cL_holds 60 = .ok (.aload_n 0, 1) := by decide +kernel
theorem dL_holds_61 : decode cL_holds 61 = .ok (.iload_n 2, 1) := by decide +kernel
theorem dL_holds_62 : decode cL_holds 62 = .ok (.invokevirtual 110, 3) := by decide +kernel
theorem dL_holds_65 : decode cL_holds 65 = .ok (.aload_n 0, 1) := by decide +kernel
theorem dL_holds_66 : decode cL_holds 66 = .ok (.iload_n 2, 1) := by decide +kernel
theorem dL_holds_67 : decode cL_holds 67 = .ok (.iconst 1, 1) := by decide +kernel
theorem dL_holds_68 : decode cL_holds 68 = .ok (.iadd, 1) := by decide +kernel
theorem dL_holds_69 : decode cL_holds 69 = .ok (.invokevirtual 110, 3) := by decide +kernel
theorem dL_holds_72 : decode cL_holds 72 = .ok (.if_icmp .lt 47, 3) := by decide +kernel
theorem dL_holds_75 : decode cL_holds 75 = .ok (.aload_n 0, 1) := by decide +kernel
theorem dL_holds_76 : decode cL_holds 76 = .ok (.invokevirtual 29, 3) := by decide +kernel
theorem dL_holds_79 : decode cL_holds 79 = .ok (.sipush 9000, 3) := by decide +kernel
theorem dL_holds_82 : decode cL_holds 82 = .ok (.if_icmp .lt 37, 3) := by decide +kernel
theorem dL_holds_85 : decode cL_holds 85 = .ok (.aload_n 0, 1) := by decide +kernel
theorem dL_holds_86 : decode cL_holds 86 = .ok (.invokevirtual 29, 3) := by decide +kernel
theorem dL_holds_89 : decode cL_holds 89 = .ok (.sipush 10800, 3) := by decide +kernel
theorem dL_holds_92 : decode cL_holds 92 = .ok (.if_icmp .gt 27, 3) := by decide +kernel
theorem dL_holds_95 : decode cL_holds 95 = .ok (.aload_n 0, 1) := by decide +kernel
theorem dL_holds_96 : decode cL_holds 96 = .ok (.invokevirtual 81, 3) := by decide +kernel
theorem dL_holds_99 : decode cL_holds 99 = .ok (.sipush 5000, 3) := by decide +kernel
theorem dL_holds_102 : decode cL_holds 102 = .ok (.if_icmp .lt 17, 3) := by decide +kernel
theorem dL_holds_105 : decode cL_holds 105 = .ok (.aload_n 0, 1) := by decide +kernel
theorem dL_holds_106 : decode cL_holds 106 = .ok (.invokevirtual 81, 3) := by decide +kernel
theorem dL_holds_109 : decode cL_holds 109 = .ok (.sipush 11000, 3) := by decide +kernel
theorem dL_holds_112 : decode cL_holds 112 = .ok (.if_icmp .gt 7, 3) := by decide +kernel
theorem dL_holds_115 : decode cL_holds 115 = .ok (.iconst 1, 1) := by decide +kernel
theorem dL_holds_116 : decode cL_holds 116 = .ok (.goto 4, 3) := by decide +kernel
theorem dL_holds_119 : decode cL_holds 119 = .ok (.iconst 0, 1) := by decide +kernel
theorem dL_holds_120 : decode cL_holds 120 = .ok (.istore 6, 2) := by decide +kernel
theorem dL_holds_122 : decode cL_holds 122 = .ok (.iload 6, 2) := by decide +kernel
theorem dL_holds_124 : decode cL_holds 124 = .ok (.ifCond .eq 66, 3) := by decide +kernel
theorem dL_holds_127 : decode cL_holds 127 = .ok (.iload 4, 2) := by decide +kernel
theorem dL_holds_129 : decode cL_holds 129 = .ok (.iconst (-1), 1) := by decide +kernel
theorem dL_holds_130 : decode cL_holds 130 = .ok (.if_icmp .ne 20, 3) := by decide +kernel
theorem dL_holds_133 : decode cL_holds 133 = .ok (.aload_n 0, 1) := by decide +kernel
theorem dL_holds_134 : decode cL_holds 134 = .ok (.sipush 5000, 3) := by decide +kernel
theorem dL_holds_137 : decode cL_holds 137 = .ok (.invokevirtual 110, 3) := by decide +kernel
theorem dL_holds_140 : decode cL_holds 140 = .ok (.iload 5, 2) := by decide +kernel
theorem dL_holds_142 : decode cL_holds 142 = .ok (.isub, 1) := by decide +kernel
theorem dL_holds_143 : decode cL_holds 143 = .ok (.iload_n 3, 1) := by decide +kernel
theorem dL_holds_144 : decode cL_holds 144 = .ok (.if_icmp .ge 46, 3) := by decide +kernel
theorem dL_holds_147 : decode cL_holds 147 = .ok (.goto 39, 3) := by decide +kernel
theorem dL_holds_150 : decode cL_holds 150 = .ok (.aload_n 0, 1) := by decide +kernel
theorem dL_holds_151 : decode cL_holds 151 = .ok (.iload 4, 2) := by decide +kernel
theorem dL_holds_153 : decode cL_holds 153 = .ok (.invokevirtual 110, 3) := by decide +kernel
theorem dL_holds_156 : decode cL_holds 156 = .ok (.iload 5, 2) := by decide +kernel
theorem dL_holds_158 : decode cL_holds 158 = .ok (.isub, 1) := by decide +kernel
theorem dL_holds_159 : decode cL_holds 159 = .ok (.iload_n 3, 1) := by decide +kernel
theorem dL_holds_160 : decode cL_holds 160 = .ok (.if_icmp .lt 30, 3) := by decide +kernel
theorem dL_holds_163 : decode cL_holds 163 = .ok (.iload 4, 2) := by decide +kernel
theorem dL_holds_165 : decode cL_holds 165 = .ok (.sipush 11000, 3) := by decide +kernel
theorem dL_holds_168 : decode cL_holds 168 = .ok (.if_icmp .eq 18, 3) := by decide +kernel
theorem dL_holds_171 : decode cL_holds 171 = .ok (.aload_n 0, 1) := by decide +kernel
theorem dL_holds_172 : decode cL_holds 172 = .ok (.iload 4, 2) := by decide +kernel
theorem dL_holds_174 : decode cL_holds 174 = .ok (.iconst 1, 1) := by decide +kernel
theorem dL_holds_175 : decode cL_holds 175 = .ok (.iadd, 1) := by decide +kernel
theorem dL_holds_176 : decode cL_holds 176 = .ok (.invokevirtual 110, 3) := by decide +kernel
theorem dL_holds_179 : decode cL_holds 179 = .ok (.iload 5, 2) := by decide +kernel
theorem dL_holds_181 : decode cL_holds 181 = .ok (.isub, 1) := by decide +kernel
theorem dL_holds_182 : decode cL_holds 182 = .ok (.iload_n 3, 1) := by decide +kernel
theorem dL_holds_183 : decode cL_holds 183 = .ok (.if_icmp .ge 7, 3) := by decide +kernel
theorem dL_holds_186 : decode cL_holds 186 = .ok (.iconst 1, 1) := by decide +kernel
theorem dL_holds_187 : decode cL_holds 187 = .ok (.goto 4, 3) := by decide +kernel
theorem dL_holds_190 : decode cL_holds 190 = .ok (.iconst 0, 1) := by decide +kernel
theorem dL_holds_191 : decode cL_holds 191 = .ok (.istore 6, 2) := by decide +kernel
theorem dL_holds_193 : decode cL_holds 193 = .ok (.iload 6, 2) := by decide +kernel
theorem dL_holds_195 : decode cL_holds 195 = .ok (.ifCond .eq 92, 3) := by decide +kernel
theorem dL_holds_198 : decode cL_holds 198 = .ok (.aload_n 0, 1) := by decide +kernel
theorem dL_holds_199 : decode cL_holds 199 = .ok (.invokevirtual 113, 3) := by decide +kernel
theorem dL_holds_202 : decode cL_holds 202 = .ok (.ifCond .lt 85, 3) := by decide +kernel
theorem dL_holds_205 : decode cL_holds 205 = .ok (.aload_n 0, 1) := by decide +kernel
theorem dL_holds_206 : decode cL_holds 206 = .ok (.invokevirtual 113, 3) := by decide +kernel
theorem dL_holds_209 : decode cL_holds 209 = .ok (.sipush 6000, 3) := by decide +kernel
theorem dL_holds_212 : decode cL_holds 212 = .ok (.if_icmp .gt 75, 3) := by decide +kernel
theorem dL_holds_215 : decode cL_holds 215 = .ok (.aload_n 0, 1) := by decide +kernel
theorem dL_holds_216 : decode cL_holds 216 = .ok (.invokevirtual 25, 3) := by decide +kernel
theorem dL_holds_219 : decode cL_holds 219 = .ok (.bipush 60, 2) := by decide +kernel
theorem dL_holds_221 : decode cL_holds 221 = .ok (.if_icmp .gt 66, 3) := by decide +kernel
theorem dL_holds_224 : decode cL_holds 224 = .ok (.aload_n 0, 1) := by decide +kernel
theorem dL_holds_225 : decode cL_holds 225 = .ok (.invokevirtual 15, 3) := by decide +kernel
theorem dL_holds_228 : decode cL_holds 228 = .ok (.ifCond .ne 17, 3) := by decide +kernel
theorem dL_holds_231 : decode cL_holds 231 = .ok (.aload_n 0, 1) := by decide +kernel
theorem dL_holds_232 : decode cL_holds 232 = .ok (.invokevirtual 25, 3) := by decide +kernel
theorem dL_holds_235 : decode cL_holds 235 = .ok (.ifCond .ne 52, 3) := by decide +kernel
theorem dL_holds_238 : decode cL_holds 238 = .ok (.aload_n 0, 1) := by decide +kernel
theorem dL_holds_239 : decode cL_holds 239 = .ok (.invokevirtual 113, 3) := by decide +kernel
theorem dL_holds_242 : decode cL_holds 242 = .ok (.ifCond .ne 45, 3) := by decide +kernel
theorem dL_holds_245 : decode cL_holds 245 = .ok (.aload_n 0, 1) := by decide +kernel
theorem dL_holds_246 : decode cL_holds 246 = .ok (.invokevirtual 100, 3) := by decide +kernel
theorem dL_holds_249 : decode cL_holds 249 = .ok (.aload_n 0, 1) := by decide +kernel
theorem dL_holds_250 : decode cL_holds 250 = .ok (.invokevirtual 72, 3) := by decide +kernel
theorem dL_holds_253 : decode cL_holds 253 = .ok (.if_icmp .gt 34, 3) := by decide +kernel
theorem dL_holds_256 : decode cL_holds 256 = .ok (.aload_n 0, 1) := by decide +kernel
theorem dL_holds_257 : decode cL_holds 257 = .ok (.invokevirtual 116, 3) := by decide +kernel
theorem dL_holds_260 : decode cL_holds 260 = .ok (.dconst 0, 1) := by decide +kernel
theorem dL_holds_261 : decode cL_holds 261 = .ok (.dcmp .l, 1) := by decide +kernel
theorem dL_holds_262 : decode cL_holds 262 = .ok (.ifCond .lt 25, 3) := by decide +kernel
theorem dL_holds_265 : decode cL_holds 265 = .ok (.aload_n 0, 1) := by decide +kernel
theorem dL_holds_266 : decode cL_holds 266 = .ok (.invokevirtual 116, 3) := by decide +kernel
theorem dL_holds_269 : decode cL_holds 269 = .ok (.dconst 1, 1) := by decide +kernel
theorem dL_holds_270 : decode cL_holds 270 = .ok (.dcmp .g, 1) := by decide +kernel
theorem dL_holds_271 : decode cL_holds 271 = .ok (.ifCond .gt 16, 3) := by decide +kernel
theorem dL_holds_274 : decode cL_holds 274 = .ok (.aload_n 0, 1) := by decide +kernel
theorem dL_holds_275 : decode cL_holds 275 = .ok (.invokevirtual 63, 3) := by decide +kernel
theorem dL_holds_278 : decode cL_holds 278 = .ok (.bipush 10, 2) := by decide +kernel
theorem dL_holds_280 : decode cL_holds 280 = .ok (.if_icmp .gt 7, 3) := by decide +kernel
theorem dL_holds_283 : decode cL_holds 283 = .ok (.iconst 1, 1) := by decide +kernel
theorem dL_holds_284 : decode cL_holds 284 = .ok (.goto 4, 3) := by decide +kernel
theorem dL_holds_287 : decode cL_holds 287 = .ok (.iconst 0, 1) := by decide +kernel
theorem dL_holds_288 : decode cL_holds 288 = .ok (.istore 6, 2) := by decide +kernel
theorem dL_holds_290 : decode cL_holds 290 = .ok (.iconst 1, 1) := by decide +kernel
theorem dL_holds_291 : decode cL_holds 291 = .ok (.istore 7, 2) := by decide +kernel
theorem dL_holds_293 : decode cL_holds 293 = .ok (.iload 7, 2) := by decide +kernel
theorem dL_holds_295 : decode cL_holds 295 = .ok (.aload_n 0, 1) := by decide +kernel
theorem dL_holds_296 : decode cL_holds 296 = .ok (.invokevirtual 63, 3) := by decide +kernel
theorem dL_holds_299 : decode cL_holds 299 = .ok (.if_icmp .ge 69, 3) := by decide +kernel
theorem dL_holds_302 : decode cL_holds 302 = .ok (.iload 6, 2) := by decide +kernel
theorem dL_holds_304 : decode cL_holds 304 = .ok (.ifCond .eq 55, 3) := by decide +kernel
theorem dL_holds_307 : decode cL_holds 307 = .ok (.aload_n 0, 1) := by decide +kernel
theorem dL_holds_308 : decode cL_holds 308 = .ok (.iconst 0, 1) := by decide +kernel
theorem dL_holds_309 : decode cL_holds 309 = .ok (.iload 7, 2) := by decide +kernel
theorem dL_holds_311 : decode cL_holds 311 = .ok (.invokevirtual 120, 3) := by decide +kernel
theorem dL_holds_314 : decode cL_holds 314 = .ok (.aload_n 0, 1) := by decide +kernel
theorem dL_holds_315 : decode cL_holds 315 = .ok (.iload 7, 2) := by decide +kernel
theorem dL_holds_317 : decode cL_holds 317 = .ok (.iconst 0, 1) := by decide +kernel
theorem dL_holds_318 : decode cL_holds 318 = .ok (.invokevirtual 120, 3) := by decide +kernel
theorem dL_holds_321 : decode cL_holds 321 = .ok (.ineg, 1) := by decide +kernel
theorem dL_holds_322 : decode cL_holds 322 = .ok (.if_icmp .ne 37, 3) := by decide +kernel
theorem dL_holds_325 : decode cL_holds 325 = .ok (.aload_n 0, 1) := by decide +kernel
theorem dL_holds_326 : decode cL_holds 326 = .ok (.iconst 0, 1) := by decide +kernel
theorem dL_holds_327 : decode cL_holds 327 = .ok (.iload 7, 2) := by decide +kernel
theorem dL_holds_329 : decode cL_holds 329 = .ok (.invokevirtual 120, 3) := by decide +kernel
theorem dL_holds_332 : decode cL_holds 332 = .ok (.aload_n 0, 1) := by decide +kernel
theorem dL_holds_333 : decode cL_holds 333 = .ok (.iconst 0, 1) := by decide +kernel
theorem dL_holds_334 : decode cL_holds 334 = .ok (.iload 7, 2) := by decide +kernel
theorem dL_holds_336 : decode cL_holds 336 = .ok (.iconst 1, 1) := by decide +kernel
theorem dL_holds_337 : decode cL_holds 337 = .ok (.isub, 1) := by decide +kernel
theorem dL_holds_338 : decode cL_holds 338 = .ok (.invokevirtual 120, 3) := by decide +kernel
theorem dL_holds_341 : decode cL_holds 341 = .ok (.aload_n 0, 1) := by decide +kernel
theorem dL_holds_342 : decode cL_holds 342 = .ok (.iload 7, 2) := by decide +kernel
theorem dL_holds_344 : decode cL_holds 344 = .ok (.iconst 1, 1) := by decide +kernel
theorem dL_holds_345 : decode cL_holds 345 = .ok (.isub, 1) := by decide +kernel
theorem dL_holds_346 : decode cL_holds 346 = .ok (.iload 7, 2) := by decide +kernel
theorem dL_holds_348 : decode cL_holds 348 = .ok (.invokevirtual 120, 3) := by decide +kernel
theorem dL_holds_351 : decode cL_holds 351 = .ok (.iadd, 1) := by decide +kernel
theorem dL_holds_352 : decode cL_holds 352 = .ok (.if_icmp .ne 7, 3) := by decide +kernel
theorem dL_holds_355 : decode cL_holds 355 = .ok (.iconst 1, 1) := by decide +kernel
theorem dL_holds_356 : decode cL_holds 356 = .ok (.goto 4, 3) := by decide +kernel
theorem dL_holds_359 : decode cL_holds 359 = .ok (.iconst 0, 1) := by decide +kernel
theorem dL_holds_360 : decode cL_holds 360 = .ok (.istore 6, 2) := by decide +kernel
theorem dL_holds_362 : decode cL_holds 362 = .ok (.iinc 7 1, 3) := by decide +kernel
theorem dL_holds_365 : decode cL_holds 365 = .ok (.goto (-72), 3) := by decide +kernel
theorem dL_holds_368 : decode cL_holds 368 = .ok (.iload 6, 2) := by decide +kernel
theorem dL_holds_370 : decode cL_holds 370 = .ok (.ifCond .eq 33, 3) := by decide +kernel
theorem dL_holds_373 : decode cL_holds 373 = .ok (.aload_n 0, 1) := by decide +kernel
theorem dL_holds_374 : decode cL_holds 374 = .ok (.invokevirtual 123, 3) := by decide +kernel
theorem dL_holds_377 : decode cL_holds 377 = .ok (.ifCond .eq 10, 3) := by decide +kernel
theorem dL_holds_380 : decode cL_holds 380 = .ok (.aload_n 0, 1) := by decide +kernel
theorem dL_holds_381 : decode cL_holds 381 = .ok (.invokevirtual 15, 3) := by decide +kernel
theorem dL_holds_384 : decode cL_holds 384 = .ok (.ifCond .eq 19, 3) := by decide +kernel
theorem dL_holds_387 : decode cL_holds 387 = .ok (.aload_n 0, 1) := by decide +kernel
theorem dL_holds_388 : decode cL_holds 388 = .ok (.invokevirtual 39, 3) := by decide +kernel
theorem dL_holds_391 : decode cL_holds 391 = .ok (.invokestatic 126, 3) := by decide +kernel
theorem dL_holds_394 : decode cL_holds 394 = .ok (.ldc 129, 2) := by decide +kernel
theorem dL_holds_396 : decode cL_holds 396 = .ok (.if_icmp .ge 7, 3) := by decide +kernel
theorem dL_holds_399 : decode cL_holds 399 = .ok (.iconst 1, 1) := by decide +kernel
theorem dL_holds_400 : decode cL_holds 400 = .ok (.goto 4, 3) := by decide +kernel
theorem dL_holds_403 : decode cL_holds 403 = .ok (.iconst 0, 1) := by decide +kernel
theorem dL_holds_404 : decode cL_holds 404 = .ok (.ireturn, 1) := by decide +kernel
set_option maxRecDepth 20000 in
theorem ggL_isAhead_X9_digest : GoodIn wsL_isAhead wsX9_digest := goodIn_r _ [5, 6, 7, 8, 9, 10, 4, 11, 12, 13, 14, 15, 16, 17, 18, 19, 20, 21, 22, 23, 24, 25, 26, 27, 28, 29, 30, 31, 32, 33, 34, 35, 36, 37, 38, 39, 40, 41, 42, 43, 44, 45, 46, 47, 48, 49, 50, 51, 52, 53, 54, 55, 56, 57, 58, 59, 60, 61, 62, 63, 64, 65, 66, 67, 68, 69, 70, 71, 72, 73, 74, 75, 76, 77, 78, 79, 80, 81, 82, 83, 84, 85, 86, 87, 88, 89, 90, 91, 92, 93, 94, 95, 96, 97, 98, 99, 100, 101, 102, 103, 104, 105, 106, 254, 255, 256, 257, 258, 259, 260, 261, 262, 263, 264, 265, 266, 267, 268, 269, 270, 271, 272, 273, 274, 275, 276, 277, 278, 279, 280, 281] (by decide +kernel) (by decide +kernel)
set_option maxRecDepth 20000 in
theorem gL_isAhead_X9_digest : GoodIn wsL_isAhead (wsV RL 130 RX9 yX9_digest wsX9_digest) := goodIn_app (goodIn_of _ (by decide +kernel)) ggL_isAhead_X9_digest
set_option maxRecDepth 20000 in
theorem ggL_isAhead_X9_minutesToAlarm : GoodIn wsL_isAhead wsX9_minutesToAlarm := goodIn_ca (goodIn_r _ [110, 7, 111, 112, 4, 113, 114, 115, 96, 97, 98, 32, 99, 100, 101, 34, 102, 61, 62, 46, 63, 64, 65, 44, 45, 47, 48, 49, 50, 51, 52, 53, 54, 55, 56, 57, 58, 59, 103, 104, 105, 106, 254, 255, 256, 257, 258, 259, 260, 261, 262, 263, 264, 265, 266, 267, 268, 273, 274, 275, 276, 277] (by decide +kernel) (by decide +kernel)) (goodIn_sub (fun _ h => List.mem_cons_of_mem _ (List.mem_append_left _ (List.mem_append_right _ h))) (by decide +kernel))
set_option maxRecDepth 20000 in
theorem gL_isAhead_X9_minutesToAlarm : GoodIn wsL_isAhead (wsV RL 134 RX9 yX9_minutesToAlarm wsX9_minutesToAlarm) := goodIn_app (goodIn_of _ (by decide +kernel)) ggL_isAhead_X9_minutesToAlarm
set_option maxRecDepth 20000 in
theorem ggL_isAhead_X9_isStation : GoodIn wsL_isAhead wsX9_isStation := goodIn_r _ [119, 7, 12, 254, 255, 256, 257, 258, 259, 260, 261, 262, 263, 264, 265, 266, 267, 268] (by decide +kernel) (by decide +kernel)
set_option maxRecDepth 20000 in
theorem gL_isAhead_X9_isStation : GoodIn wsL_isAhead (wsV RL 15 RX9 yX9_isStation wsX9_isStation) := goodIn_app (goodIn_of _ (by decide +kernel)) ggL_isAhead_X9_isStation
set_option maxRecDepth 20000 in
theorem ggL_isAhead_X9_isAlarm : GoodIn wsL_isAhead wsX9_isAlarm := goodIn_r _ [123, 7, 22, 60, 61, 62, 46, 63, 64, 65, 44, 45, 47, 48, 49, 50, 51, 52, 53, 54, 55, 56, 57, 58, 4, 59, 254, 255, 256, 257, 258, 259, 260, 261, 262, 263, 264, 265, 266, 267, 268, 273, 274, 275, 276, 277] (by decide +kernel) (by decide +kernel)
set_option maxRecDepth 20000 in
theorem gL_isAhead_X9_isAlarm : GoodIn wsL_isAhead (wsV RL 123 RX9 yX9_isAlarm wsX9_isAlarm) := goodIn_app (goodIn_of _ (by decide +kernel)) ggL_isAhead_X9_isAlarm
set_option maxRecDepth 20000 in
theorem ggL_isAhead_X9_pressure : GoodIn wsL_isAhead wsX9_pressure := goodIn_r _ [127, 7, 13, 254, 255, 256, 257, 258, 259, 260, 261, 262, 263, 264, 265, 266, 267, 268] (by decide +kernel) (by decide +kernel)
set_option maxRecDepth 20000 in
theorem gL_isAhead_X9_pressure : GoodIn wsL_isAhead (wsV RL 81 RX9 yX9_pressure wsX9_pressure) := goodIn_app (goodIn_of _ (by decide +kernel)) ggL_isAhead_X9_pressure
set_option maxRecDepth 20000 in
theorem ggL_isAhead_X9_travel : GoodIn wsL_isAhead wsX9_travel := goodIn_ca (goodIn_r _ [131, 132, 7, 111, 112, 4, 113, 114, 115, 133, 134, 135, 136, 137, 138, 139, 140, 141, 56, 142, 143, 144, 145, 146, 147, 148, 149, 150, 32, 151, 100, 152, 34, 35, 153, 154, 155, 156, 101, 157, 158, 159, 160, 161, 162, 163, 164, 165, 166, 167, 168, 169, 46, 170, 49, 48, 64, 171, 172, 173, 174, 175, 176, 177, 178, 179, 180, 181, 182, 75, 183, 77, 82, 87, 184, 185, 186, 187, 188, 189, 190, 38, 191, 192, 193, 194, 40, 41, 42, 195, 94, 95, 196, 37, 39, 197, 198, 199, 200, 201, 202, 203, 204, 205, 206, 207, 61, 62, 63, 65, 44, 45, 47, 50, 51, 52, 53, 54, 55, 57, 58, 59, 208, 30, 31, 33, 36, 209, 210, 211, 212, 29, 254, 255, 256, 257, 258, 282, 283, 284, 259, 260, 261, 262, 263, 264, 265, 266, 267, 268, 269, 270, 271, 272, 273, 274, 275, 276, 277, 278, 279, 280, 281] (by decide +kernel) (by decide +kernel)) (goodIn_sub (fun _ h => List.mem_cons_of_mem _ (List.mem_append_left _ (List.mem_append_right _ h))) (by decide +kernel))
set_option maxRecDepth 20000 in
theorem gL_isAhead_X9_travel : GoodIn wsL_isAhead (wsV RL 103 RX9 yX9_travel wsX9_travel) := goodIn_app (goodIn_of _ (by decide +kernel)) ggL_isAhead_X9_travel
set_option maxRecDepth 20000 in
theorem ggL_isAhead_X9_altitude : GoodIn wsL_isAhead wsX9_altitude := goodIn_r _ [216, 7, 29, 30, 31, 32, 33, 34, 35, 36, 37, 38, 39, 40, 41, 42, 254, 255, 256, 257, 258, 259, 260, 261, 262, 263, 264, 265, 266, 267, 268] (by decide +kernel) (by decide +kernel)
set_option maxRecDepth 20000 in
theorem gL_isAhead_X9_altitude : GoodIn wsL_isAhead (wsV RL 39 RX9 yX9_altitude wsX9_altitude) := goodIn_app (goodIn_of _ (by decide +kernel)) ggL_isAhead_X9_altitude
set_option maxRecDepth 20000 in
theorem ggL_isAhead_X9_undo : GoodIn wsL_isAhead wsX9_undo := goodIn_ca (goodIn_r _ [220, 221, 222, 132, 223, 7, 224, 225, 226, 136, 227, 138, 139, 143, 144, 145, 146, 147, 148, 149, 150, 32, 151, 100, 152, 34, 35, 153, 154, 155, 156, 101, 157, 158, 159, 160, 161, 162, 163, 164, 165, 166, 167, 168, 169, 46, 170, 49, 48, 64, 171, 172, 173, 4, 174, 175, 141, 56, 142, 176, 177, 178, 179, 180, 181, 182, 75, 183, 77, 82, 87, 184, 254, 255, 256, 257, 258, 282, 283, 284, 259, 260, 261, 262, 263, 264, 265, 266, 267, 268, 269, 270, 271, 272, 273, 274, 275, 276, 277, 278, 279, 280, 281] (by decide +kernel) (by decide +kernel)) (goodIn_sub (fun _ h => List.mem_cons_of_mem _ (List.mem_append_right _ h)) (by decide +kernel))
set_option maxRecDepth 20000 in
theorem gL_isAhead_X9_undo : GoodIn wsL_isAhead (wsV RL 137 RX9 yX9_undo wsX9_undo) := goodIn_app (goodIn_of _ (by decide +kernel)) ggL_isAhead_X9_undo
set_option maxRecDepth 20000 in
theorem ggL_isAhead_X9_store : GoodIn wsL_isAhead wsX9_store := goodIn_ca (goodIn_r _ [231, 232, 7, 233, 111, 112, 4, 113, 114, 115, 234, 235, 236, 237, 238, 239, 240, 149, 150, 32, 151, 100, 152, 34, 35, 153, 154, 155, 156, 101, 157, 158, 159, 160, 161, 162, 163, 164, 165, 166, 167, 168, 169, 46, 170, 49, 48, 64, 171, 172, 173, 174, 175, 141, 56, 142, 176, 177, 178, 179, 180, 181, 182, 75, 183, 77, 82, 87, 184, 29, 30, 31, 33, 36, 37, 38, 39, 40, 41, 42, 285, 286, 254, 255, 256, 257, 258, 259, 260, 261, 262, 263, 264, 265, 266, 267, 268, 269, 270, 271, 272, 273, 274, 275, 276, 277, 278, 279, 280, 281] (by decide +kernel) (by decide +kernel)) (goodIn_sub (fun _ h => List.mem_cons_of_mem _ (List.mem_append_left _ (List.mem_append_right _ h))) (by decide +kernel))
set_option maxRecDepth 20000 in
theorem gL_isAhead_X9_store : GoodIn wsL_isAhead (wsV RL 140 RX9 yX9_store wsX9_store) := goodIn_app (goodIn_of _ (by decide +kernel)) ggL_isAhead_X9_store
set_option maxRecDepth 20000 in
theorem ggL_isAhead_X9_setThreshold : GoodIn wsL_isAhead wsX9_setThreshold := goodIn_ca (goodIn_r _ [244, 7, 18, 245, 132, 111, 112, 4, 113, 114, 115, 133, 134, 135, 136, 137, 138, 139, 140, 141, 56, 142, 143, 144, 145, 146, 147, 148, 149, 150, 32, 151, 100, 152, 34, 35, 153, 154, 155, 156, 101, 157, 158, 159, 160, 161, 162, 163, 164, 165, 166, 167, 168, 169, 46, 170, 49, 48, 64, 171, 172, 173, 174, 175, 176, 177, 178, 179, 180, 181, 182, 75, 183, 77, 82, 87, 184, 254, 255, 256, 257, 258, 259, 260, 261, 262, 263, 264, 265, 266, 267, 268, 269, 270, 271, 272, 282, 283, 284, 273, 274, 275, 276, 277, 278, 279, 280, 281] (by decide +kernel) (by decide +kernel)) (goodIn_sub (fun _ h => List.mem_cons_of_mem _ (List.mem_append_left _ (List.mem_append_right _ h))) (by decide +kernel))
set_option maxRecDepth 20000 in
theorem gL_isAhead_X9_setThreshold : GoodIn wsL_isAhead (wsV RL 57 RX9 yX9_setThreshold wsX9_setThreshold) := goodIn_app (goodIn_of _ (by decide +kernel)) ggL_isAhead_X9_setThreshold
set_option maxRecDepth 20000 in
theorem ggL_isAhead_L_within : GoodIn wsL_isAhead wsL_within := goodIn_r _ [249] (by decide +kernel) (by decide +kernel)
set_option maxRecDepth 20000 in
theorem gL_isAhead_L_within : GoodIn wsL_isAhead (va_wsS RL 44 yL_within wsL_within) := goodIn_app (goodIn_of _ (by decide +kernel)) ggL_isAhead_L_within
set_option maxRecDepth 20000 in
theorem ggL_isAhead_X9_recall : GoodIn wsL_isAhead wsX9_recall := goodIn_ca (goodIn_ca (goodIn_r _ [253, 221, 222, 233, 132, 7, 232, 111, 112, 4, 113, 114, 115, 234, 235, 236, 237, 238, 239, 133, 134, 135, 136, 137, 138, 139, 140, 141, 56, 142, 143, 144, 145, 146, 147, 148, 149, 150, 32, 151, 100, 152, 34, 35, 153, 154, 155, 156, 101, 157, 158, 159, 160, 161, 162, 163, 164, 165, 166, 167, 168, 169, 46, 170, 49, 48, 64, 171, 172, 173, 174, 175, 176, 177, 178, 179, 180, 181, 182, 75, 183, 77, 82, 87, 184, 240, 29, 30, 31, 33, 36, 37, 38, 39, 40, 41, 42, 285, 286, 254, 255, 256, 257, 258, 282, 283, 284, 259, 260, 261, 262, 263, 264, 265, 266, 267, 268, 269, 270, 271, 272, 273, 274, 275, 276, 277, 278, 279, 280, 281] (by decide +kernel) (by decide +kernel)) (goodIn_sub (fun _ h => List.mem_cons_of_mem _ (List.mem_append_right _ h)) (by decide +kernel))) (goodIn_sub (fun _ h => List.mem_cons_of_mem _ (List.mem_append_left _ (List.mem_append_right _ h))) (by decide +kernel))
set_option maxRecDepth 20000 in
theorem gL_isAhead_X9_recall : GoodIn wsL_isAhead (wsV RL 78 RX9 yX9_recall wsX9_recall) := goodIn_app (goodIn_of _ (by decide +kernel)) ggL_isAhead_X9_recall
theorem dL_isAhead_0 : decode cL_isAhead 0 = .ok (.aload_n 0, 1) := by decide +kernel
theorem dL_isAhead_1 : decode cL_isAhead 1 = .ok (.invokevirtual 130, 3) := by decide +kernel
theorem dL_isAhead_4 : decode cL_isAhead 4 = .ok (.lstore_n 2, 1) := by decide +kernel
theorem dL_isAhead_5 : decode cL_isAhead 5 = .ok (.aload_n 0, 1) := by decide +kernel
theorem dL_isAhead_6 : decode cL_isAhead 6 = .ok (.iload_n 1, 1) := by decide +kernel
theorem dL_isAhead_7 : decode cL_isAhead 7 = .ok (.invokevirtual 134, 3) := by decide +kernel
theorem dL_isAhead_10 : decode cL_isAhead 10 = .ok (.istore 4, 2) := by decide +kernel
theorem dL_isAhead_12 : decode cL_isAhead 12 = .ok (.aload_n 0, 1) := by decide +kernel
theorem dL_isAhead_13 : decode cL_isAhead 13 = .ok (.invokevirtual 15, 3) := by decide +kernel
theorem dL_isAhead_16 : decode cL_isAhead 16 = .ok (.ifCond .ne 9, 3) := by decide +kernel
theorem dL_isAhead_19 : decode cL_isAhead 19 = .ok (.iload 4, 2) := by decide +kernel
theorem dL_isAhead_21 : decode cL_isAhead 21 = .ok (.iconst (-1), 1) := by decide +kernel
theorem dL_isAhead_22 : decode cL_isAhead 22 = .ok (.if_icmp .ne 39, 3) := by decide +kernel
theorem dL_isAhead_25 : decode cL_isAhead 25 = .ok (.iload 4, 2) := by decide +kernel
theorem dL_isAhead_27 : decode cL_isAhead 27 = .ok (.ifCond .ne 7, 3) := by decide +kernel
theorem dL_isAhead_30 : decode cL_isAhead 30 = .ok (.iconst 1, 1) := by decide +kernel
theorem dL_isAhead_31 : decode cL_isAhead 31 = .ok (.goto 4, 3) := by decide +kernel
theorem dL_isAhead_34 : decode cL_isAhead 34 = .ok (.iconst 0, 1) := by decide +kernel
theorem dL_isAhead_35 : decode cL_isAhead 35 = .ok (.aload_n 0, 1) := by decide +kernel
theorem dL_isAhead_36 : decode cL_isAhead 36 = .ok (.invokevirtual 15, 3) := by decide +kernel
theorem dL_isAhead_39 : decode cL_isAhead 39 = .ok (.ifCond .eq 14, 3) := by decide +kernel
theorem dL_isAhead_42 : decode cL_isAhead 42 = .ok (.aload_n 0, 1) := by decide +kernel
theorem dL_isAhead_43 : decode cL_isAhead 43 = .ok (.invokevirtual 123, 3) := by decide +kernel
theorem dL_isAhead_46 : decode cL_isAhead 46 = .ok (.ifCond .eq 7, 3) := by decide +kernel
theorem dL_isAhead_49 : decode cL_isAhead 49 = .ok (.iconst 1, 1) := by decide +kernel
theorem dL_isAhead_50 : decode cL_isAhead 50 = .ok (.goto 4, 3) := by decide +kernel
theorem dL_isAhead_53 : decode cL_isAhead 53 = .ok (.iconst 0, 1) := by decide +kernel
theorem dL_isAhead_54 : decode cL_isAhead 54 = .ok (.if_icmp .ne 7, 3) := by decide +kernel
theorem dL_isAhead_57 : decode cL_isAhead 57 = .ok (.iconst 1, 1) := by decide +kernel
theorem dL_isAhead_58 : decode cL_isAhead 58 = .ok (.goto 4, 3) := by decide +kernel
theorem dL_isAhead_61 : decode cL_isAhead 61 = .ok (.iconst 0, 1) := by decide +kernel
theorem dL_isAhead_62 : decode cL_isAhead 62 = .ok (.istore 5, 2) := by decide +kernel
theorem dL_isAhead_64 : decode cL_isAhead 64 = .ok (.aload_n 0, 1) := by decide +kernel
theorem dL_isAhead_65 : decode cL_isAhead 65 = .ok (.invokevirtual 81, 3) := by decide +kernel
theorem dL_isAhead_68 : decode cL_isAhead 68 = .ok (.istore 6, 2) := by decide +kernel
theorem dL_isAhead_70 : decode cL_isAhead 70 = .ok (.iload 5, 2) := by decide +kernel
theorem dL_isAhead_72 : decode cL_isAhead 72 = .ok (.ifCond .eq 112, 3) := by decide +kernel
theorem dL_isAhead_75 : decode cL_isAhead 75 = .ok (.iload 4, 2) := by decide +kernel
theorem dL_isAhead_77 : decode cL_isAhead 77 = .ok (.ifCond .le 107, 3) := by decide +kernel
theorem dL_isAhead_80 : decode cL_isAhead 80 = .ok (.iload 4, 2) := by decide +kernel
theorem dL_isAhead_82 : decode cL_isAhead 82 = .ok (.bipush 120, 2) := by decide +kernel
theorem dL_isAhead_84 : decode cL_isAhead 84 = .ok (.if_icmp .gt 100, 3) := by decide +kernel
theorem dL_isAhead_87 : decode cL_isAhead 87 = .ok (.aload_n 0, 1) := by decide +kernel
theorem dL_isAhead_88 : decode cL_isAhead 88 = .ok (.iload 4, 2) := by decide +kernel
theorem dL_isAhead_90 : decode cL_isAhead 90 = .ok (.iload 6, 2) := by decide +kernel
theorem dL_isAhead_92 : decode cL_isAhead 92 = .ok (.iload 4, 2) := by decide +kernel
theorem dL_isAhead_94 : decode cL_isAhead 94 = .ok (.iload_n 1, 1) := by decide +kernel
theorem dL_isAhead_95 : decode cL_isAhead 95 = .ok (.imul, 1) := by decide +kernel
theorem dL_isAhead_96 : decode cL_isAhead 96 = .ok (.isub, 1) := by decide +kernel
theorem dL_isAhead_97 : decode cL_isAhead 97 = .ok (.invokevirtual 103, 3) := by decide +kernel
theorem dL_isAhead_100 : decode cL_isAhead 100 = .ok (.aload_n 0, 1) := by decide +kernel
theorem dL_isAhead_101 : decode cL_isAhead 101 = .ok (.invokevirtual 39, 3) := by decide +kernel
theorem dL_isAhead_104 : decode cL_isAhead 104 = .ok (.if_icmp .ne 21, 3) := by decide +kernel
theorem dL_isAhead_107 : decode cL_isAhead 107 = .ok (.aload_n 0, 1) := by decide +kernel
theorem dL_isAhead_108 : decode cL_isAhead 108 = .ok (.invokevirtual 123, 3) := by decide +kernel
theorem dL_isAhead_111 : decode cL_isAhead 111 = .ok (.ifCond .eq 14, 3) := by decide +kernel
theorem dL_isAhead_114 : decode cL_isAhead 114 = .ok (.aload_n 0, 1) := by decide +kernel
theorem dL_isAhead_115 : decode cL_isAhead 115 = .ok (.invokevirtual 137, 3) := by decide +kernel
theorem dL_isAhead_118 : decode cL_isAhead 118 = .ok (.ifCond .lt 7, 3) := by decide +kernel
theorem dL_isAhead_121 : decode cL_isAhead 121 = .ok (.iconst 1, 1) := by decide +kernel
theorem dL_isAhead_122 : decode cL_isAhead 122 = .ok (.goto 4, 3) := by decide +kernel
theorem dL_isAhead_125 : decode cL_isAhead 125 = .ok (.iconst 0, 1) := by decide +kernel
theorem dL_isAhead_126 : decode cL_isAhead 126 = .ok (.istore 5, 2) := by decide +kernel
theorem dL_isAhead_128 : decode cL_isAhead 128 = .ok (.iload 5, 2) := by decide +kernel
theorem dL_isAhead_130 : decode cL_isAhead 130 = .ok (.ifCond .eq 51, 3) := by decide +kernel
theorem dL_isAhead_133 : decode cL_isAhead 133 = .ok (.iload 4, 2) := by decide +kernel
theorem dL_isAhead_135 : decode cL_isAhead 135 = .ok (.iconst 1, 1) := by decide +kernel
theorem dL_isAhead_136 : decode cL_isAhead 136 = .ok (.if_icmp .eq 41, 3) := by decide +kernel
theorem dL_isAhead_139 : decode cL_isAhead 139 = .ok (.aload_n 0, 1) := by decide +kernel
theorem dL_isAhead_140 : decode cL_isAhead 140 = .ok (.iload 4, 2) := by decide +kernel
theorem dL_isAhead_142 : decode cL_isAhead 142 = .ok (.iconst 1, 1) := by decide +kernel
theorem dL_isAhead_143 : decode cL_isAhead 143 = .ok (.isub, 1) := by decide +kernel
theorem dL_isAhead_144 : decode cL_isAhead 144 = .ok (.iload 6, 2) := by decide +kernel
theorem dL_isAhead_146 : decode cL_isAhead 146 = .ok (.iload 4, 2) := by decide +kernel
theorem dL_isAhead_148 : decode cL_isAhead 148 = .ok (.iconst 1, 1) := by decide +kernel
theorem dL_isAhead_149 : decode cL_isAhead 149 = .ok (.isub, 1) := by decide +kernel
theorem dL_isAhead_150 : decode cL_isAhead 150 = .ok (.iload_n 1, 1) := by decide +kernel
theorem dL_isAhead_151 : decode cL_isAhead 151 = .ok (.imul, 1) := by decide +kernel
theorem dL_isAhead_152 : decode cL_isAhead 152 = .ok (.isub, 1) := by decide +kernel
theorem dL_isAhead_153 : decode cL_isAhead 153 = .ok (.invokevirtual 103, 3) := by decide +kernel
theorem dL_isAhead_156 : decode cL_isAhead 156 = .ok (.aload_n 0, 1) := by decide +kernel
theorem dL_isAhead_157 : decode cL_isAhead 157 = .ok (.invokevirtual 39, 3) := by decide +kernel
theorem dL_isAhead_160 : decode cL_isAhead 160 = .ok (.if_icmp .ne 21, 3) := by decide +kernel
theorem dL_isAhead_163 : decode cL_isAhead 163 = .ok (.aload_n 0, 1) := by decide +kernel
theorem dL_isAhead_164 : decode cL_isAhead 164 = .ok (.invokevirtual 123, 3) := by decide +kernel
theorem dL_isAhead_167 : decode cL_isAhead 167 = .ok (.ifCond .ne 14, 3) := by decide +kernel
theorem dL_isAhead_170 : decode cL_isAhead 170 = .ok (.aload_n 0, 1) := by decide +kernel
theorem dL_isAhead_171 : decode cL_isAhead 171 = .ok (.invokevirtual 137, 3) := by decide +kernel
theorem dL_isAhead_174 : decode cL_isAhead 174 = .ok (.ifCond .lt 7, 3) := by decide +kernel
theorem dL_isAhead_177 : decode cL_isAhead 177 = .ok (.iconst 1, 1) := by decide +kernel
theorem dL_isAhead_178 : decode cL_isAhead 178 = .ok (.goto 4, 3) := by decide +kernel
theorem dL_isAhead_181 : decode cL_isAhead 181 = .ok (.iconst 0, 1) := by decide +kernel
theorem dL_isAhead_182 : decode cL_isAhead 182 = .ok (.istore 5, 2) := by decide +kernel
theorem dL_isAhead_184 : decode cL_isAhead 184 = .ok (.aload_n 0, 1) := by decide +kernel
theorem dL_isAhead_185 : decode cL_isAhead 185 = .ok (.iconst 1, 1) := by decide +kernel
theorem dL_isAhead_186 : decode cL_isAhead 186 = .ok (.invokevirtual 140, 3) := by decide +kernel
theorem dL_isAhead_189 : decode cL_isAhead 189 = .ok (.istore 7, 2) := by decide +kernel
theorem dL_isAhead_191 : decode cL_isAhead 191 = .ok (.iload 5, 2) := by decide +kernel
theorem dL_isAhead_193 : decode cL_isAhead 193 = .ok (.ifCond .eq 81, 3) := by decide +kernel
theorem dL_isAhead_196 : decode cL_isAhead 196 = .ok (.iload 7, 2) := by decide +kernel
theorem dL_isAhead_198 : decode cL_isAhead 198 = .ok (.aload_n 0, 1) := by decide +kernel
theorem dL_isAhead_199 : decode cL_isAhead 199 = .ok (.invokevirtual 39, 3) := by decide +kernel
theorem dL_isAhead_202 : decode cL_isAhead 202 = .ok (.if_icmp .ne 72, 3) := by decide +kernel
theorem dL_isAhead_205 : decode cL_isAhead 205 = .ok (.aload_n 0, 1) := by decide +kernel
theorem dL_isAhead_206 : decode cL_isAhead 206 = .ok (.invokevirtual 130, 3) := by decide +kernel
theorem dL_isAhead_209 : decode cL_isAhead 209 = .ok (.lload_n 2, 1) := by decide +kernel
theorem dL_isAhead_210 : decode cL_isAhead 210 = .ok (.lcmp, 1) := by decide +kernel
theorem dL_isAhead_211 : decode cL_isAhead 211 = .ok (.ifCond .ne 63, 3) := by decide +kernel
theorem dL_isAhead_214 : decode cL_isAhead 214 = .ok (.aload_n 0, 1) := by decide +kernel
theorem dL_isAhead_215 : decode cL_isAhead 215 = .ok (.bipush 77, 2) := by decide +kernel
theorem dL_isAhead_217 : decode cL_isAhead 217 = .ok (.invokevirtual 57, 3) := by decide +kernel
theorem dL_isAhead_220 : decode cL_isAhead 220 = .ok (.bipush 10, 2) := by decide +kernel
theorem dL_isAhead_222 : decode cL_isAhead 222 = .ok (.if_icmp .lt 52, 3) := by decide +kernel
theorem dL_isAhead_225 : decode cL_isAhead 225 = .ok (.aload_n 0, 1) := by decide +kernel
theorem dL_isAhead_226 : decode cL_isAhead 226 = .ok (.iconst 3, 1) := by decide +kernel
theorem dL_isAhead_227 : decode cL_isAhead 227 = .ok (.iload 6, 2) := by decide +kernel
theorem dL_isAhead_229 : decode cL_isAhead 229 = .ok (.bipush 60, 2) := by decide +kernel
theorem dL_isAhead_231 : decode cL_isAhead 231 = .ok (.iadd, 1) := by decide +kernel
theorem dL_isAhead_232 : decode cL_isAhead 232 = .ok (.sipush 5000, 3) := by decide +kernel
theorem dL_isAhead_235 : decode cL_isAhead 235 = .ok (.sipush 11000, 3) := by decide +kernel
theorem dL_isAhead_238 : decode cL_isAhead 238 = .ok (.invokestatic 44, 3) := by decide +kernel
theorem dL_isAhead_241 : decode cL_isAhead 241 = .ok (.invokevirtual 103, 3) := by decide +kernel
theorem dL_isAhead_244 : decode cL_isAhead 244 = .ok (.aload_n 0, 1) := by decide +kernel
theorem dL_isAhead_245 : decode cL_isAhead 245 = .ok (.invokevirtual 39, 3) := by decide +kernel
theorem dL_isAhead_248 : decode cL_isAhead 248 = .ok (.if_icmp .ne 26, 3) := by decide +kernel
theorem dL_isAhead_251 : decode cL_isAhead 251 = .ok (.aload_n 0, 1) := by decide +kernel
theorem dL_isAhead_252 : decode cL_isAhead 252 = .ok (.iconst 1, 1) := by decide +kernel
theorem dL_isAhead_253 : decode cL_isAhead 253 = .ok (.invokevirtual 78, 3) := by decide +kernel
theorem dL_isAhead_256 : decode cL_isAhead 256 = .ok (.iload 7, 2) := by decide +kernel
theorem dL_isAhead_258 : decode cL_isAhead 258 = .ok (.if_icmp .ne 16, 3) := by decide +kernel
theorem dL_isAhead_261 : decode cL_isAhead 261 = .ok (.aload_n 0, 1) := by decide +kernel
theorem dL_isAhead_262 : decode cL_isAhead 262 = .ok (.invokevirtual 130, 3) := by decide +kernel
theorem dL_isAhead_265 : decode cL_isAhead 265 = .ok (.lload_n 2, 1) := by decide +kernel
theorem dL_isAhead_266 : decode cL_isAhead 266 = .ok (.lcmp, 1) := by decide +kernel
theorem dL_isAhead_267 : decode cL_isAhead 267 = .ok (.ifCond .ne 7, 3) := by decide +kernel
theorem dL_isAhead_270 : decode cL_isAhead 270 = .ok (.iconst 1, 1) := by decide +kernel
theorem dL_isAhead_271 : decode cL_isAhead 271 = .ok (.goto 4, 3) := by decide +kernel
theorem dL_isAhead_274 : decode cL_isAhead 274 = .ok (.iconst 0, 1) := by decide +kernel
theorem dL_isAhead_275 : decode cL_isAhead 275 = .ok (.istore 5, 2) := by decide +kernel
theorem dL_isAhead_277 : decode cL_isAhead 277 = .ok (.iload 5, 2) := by decide +kernel
theorem dL_isAhead_279 : decode cL_isAhead 279 = .ok (.ifCond .eq 37, 3) := by decide +kernel
theorem dL_isAhead_282 : decode cL_isAhead 282 = .ok (.aload_n 0, 1) := by decide +kernel
theorem dL_isAhead_283 : decode cL_isAhead 283 = .ok (.invokevirtual 137, 3) := by decide +kernel
theorem dL_isAhead_286 : decode cL_isAhead 286 = .ok (.ifCond .lt 30, 3) := by decide +kernel
theorem dL_isAhead_289 : decode cL_isAhead 289 = .ok (.aload_n 0, 1) := by decide +kernel
theorem dL_isAhead_290 : decode cL_isAhead 290 = .ok (.invokevirtual 137, 3) := by decide +kernel
theorem dL_isAhead_293 : decode cL_isAhead 293 = .ok (.ifCond .lt 23, 3) := by decide +kernel
theorem dL_isAhead_296 : decode cL_isAhead 296 = .ok (.aload_n 0, 1) := by decide +kernel
theorem dL_isAhead_297 : decode cL_isAhead 297 = .ok (.invokevirtual 137, 3) := by decide +kernel
theorem dL_isAhead_300 : decode cL_isAhead 300 = .ok (.ifCond .lt 16, 3) := by decide +kernel
theorem dL_isAhead_303 : decode cL_isAhead 303 = .ok (.aload_n 0, 1) := by decide +kernel
theorem dL_isAhead_304 : decode cL_isAhead 304 = .ok (.invokevirtual 130, 3) := by decide +kernel
theorem dL_isAhead_307 : decode cL_isAhead 307 = .ok (.lload_n 2, 1) := by decide +kernel
theorem dL_isAhead_308 : decode cL_isAhead 308 = .ok (.lcmp, 1) := by decide +kernel
theorem dL_isAhead_309 : decode cL_isAhead 309 = .ok (.ifCond .ne 7, 3) := by decide +kernel
theorem dL_isAhead_312 : decode cL_isAhead 312 = .ok (.iconst 1, 1) := by decide +kernel
theorem dL_isAhead_313 : decode cL_isAhead 313 = .ok (.goto 4, 3) := by decide +kernel
theorem dL_isAhead_316 : decode cL_isAhead 316 = .ok (.iconst 0, 1) := by decide +kernel
theorem dL_isAhead_317 : decode cL_isAhead 317 = .ok (.ireturn, 1) := by decide +kernel
set_option maxRecDepth 20000 in
theorem ggL_isClimbing_X9_init : GoodIn wsL_isClimbing wsX9_init := goodIn_r _ [6, 7, 8, 9, 10, 11, 12, 13, 14, 15, 16, 17, 18, 19, 20, 21, 22, 23, 24, 25, 26, 27, 28, 29, 30, 31, 32, 33, 34, 35, 36, 37, 38, 39, 40, 41, 42, 43, 44, 45, 46, 47, 48, 49, 50, 51, 52, 53, 54, 55, 56, 57, 58, 59, 60, 61, 62, 63, 64, 65, 66, 67, 68, 69, 70, 71, 72, 73, 74, 275, 276, 277, 278, 279, 280, 281, 282, 283, 284, 270, 271, 272, 273, 274, 285, 286, 287, 288, 289, 290, 291, 292, 293, 294, 295, 296, 297, 298, 299, 300, 301, 302, 303, 304] (by decide +kernel) (by decide +kernel)
set_option maxRecDepth 20000 in
theorem gL_isClimbing_X9_init : GoodIn wsL_isClimbing (wsX9_init) := ggL_isClimbing_X9_init
set_option maxRecDepth 20000 in
theorem ggL_isClimbing_L_cell : GoodIn wsL_isClimbing wsL_cell := goodIn_r _ [78, 79] (by decide +kernel) (by decide +kernel)
set_option maxRecDepth 20000 in
theorem gL_isClimbing_L_cell : GoodIn wsL_isClimbing (va_wsS RL 144 yL_cell wsL_cell) := goodIn_app (goodIn_of _ (by decide +kernel)) ggL_isClimbing_L_cell
set_option maxRecDepth 20000 in
theorem ggL_isClimbing_L_up : GoodIn wsL_isClimbing wsL_up := goodIn_r _ [82, 83] (by decide +kernel) (by decide +kernel)
set_option maxRecDepth 20000 in
theorem gL_isClimbing_L_up : GoodIn wsL_isClimbing (va_wsS RL 9 yL_up wsL_up) := goodIn_app (goodIn_of _ (by decide +kernel)) ggL_isClimbing_L_up
set_option maxRecDepth 20000 in
theorem ggL_isClimbing_X9_setThreshold : GoodIn wsL_isClimbing wsX9_setThreshold := goodIn_ca (goodIn_r _ [87, 13, 88, 89, 17, 90, 91, 3, 92, 93, 94, 95, 96, 97, 16, 98, 99, 100, 101, 102, 103, 104, 105, 106, 107, 108, 65, 109, 110, 111, 12, 112, 113, 114, 30, 31, 115, 116, 117, 35, 39, 43, 118, 119, 120, 34, 121, 122, 123, 124, 47, 125, 126, 127, 38, 128, 52, 129, 53, 130, 131, 132, 133, 134, 135, 136, 137, 138, 139, 140, 141, 42, 142, 57, 58, 59, 143, 270, 271, 272, 273, 274, 275, 276, 277, 278, 279, 280, 281, 282, 283, 284, 292, 293, 294, 295, 285, 286, 287, 296, 297, 298, 299, 300, 301, 302, 303, 304] (by decide +kernel) (by decide +kernel)) (goodIn_sub (fun _ h => List.mem_cons_of_mem _ (List.mem_append_right _ h)) (by decide +kernel))
set_option maxRecDepth 20000 in
theorem gL_isClimbing_X9_setThreshold : GoodIn wsL_isClimbing (wsV RL 57 RX9 yX9_setThreshold wsX9_setThreshold) := goodIn_app (goodIn_of _ (by decide +kernel)) ggL_isClimbing_X9_setThreshold
set_option maxRecDepth 20000 in
theorem ggL_isClimbing_L_travels : GoodIn wsL_isClimbing wsL_travels := goodIn_ca (goodIn_r _ [146, 147, 148, 149, 3, 150, 13, 90, 91, 92, 93, 94, 151, 152, 153, 12, 154, 113, 114, 31, 155, 156, 157, 158, 159, 160, 161, 162, 163, 164, 165, 166, 167, 168, 169, 170, 171, 172, 173, 174, 175, 176, 32, 33, 34, 35, 30, 177, 44, 45, 46, 8, 9, 47, 118, 119, 120, 121, 122, 123, 124, 178, 179, 180, 181, 182, 183, 184, 185, 186, 187, 188, 88, 189, 190, 191, 192, 193, 194, 195, 196, 197, 198, 199, 200, 201, 202, 203, 204, 205, 206, 207, 208, 209, 210, 211, 212, 213, 214, 17, 95, 96, 97, 16, 98, 99, 100, 101, 102, 103, 104, 105, 106, 107, 108, 65, 109, 110, 111, 112, 115, 116, 117, 39, 43, 125, 126, 127, 38, 128, 52, 129, 53, 130, 131, 132, 133, 134, 135, 136, 137, 138, 139, 140, 141, 42, 142, 57, 58, 59, 143, 215, 216, 217, 218, 219, 220, 221, 222, 223, 224, 225, 226, 227, 228, 229, 230, 231, 232, 233, 234, 235, 236, 237, 238, 239, 240, 241, 242, 243, 244, 245, 246, 247, 248, 249, 250, 251, 252, 253, 254, 255, 256, 257, 258, 259, 260, 261, 262, 263, 264, 270, 271, 272, 273, 274, 275, 276, 277, 278, 279, 280, 281, 282, 283, 284, 292, 293, 294, 295, 296, 297, 298, 299, 300, 285, 286, 287, 301, 302, 303, 304] (by decide +kernel) (by decide +kernel)) (goodIn_sub (fun _ h => List.mem_cons_of_mem _ (List.mem_append_right _ h)) (by decide +kernel))
set_option maxRecDepth 20000 in
theorem gL_isClimbing_L_travels : GoodIn wsL_isClimbing (va_wsS RL 84 yL_travels wsL_travels) := goodIn_app (goodIn_of _ (by decide +kernel)) ggL_isClimbing_L_travels
set_option maxRecDepth 20000 in
theorem ggL_isClimbing_X9_base : GoodIn wsL_isClimbing wsX9_base := goodIn_r _ [268, 13, 88, 269, 270, 271, 272, 273, 274, 275, 276, 277, 278, 279, 280, 281, 282, 283, 284, 292, 293, 294, 295] (by decide +kernel) (by decide +kernel)
set_option maxRecDepth 20000 in
theorem gL_isClimbing_X9_base : GoodIn wsL_isClimbing (wsV RL 36 RX9 yX9_base wsX9_base) := goodIn_app (goodIn_of _ (by decide +kernel)) ggL_isClimbing_X9_base
set_option maxRecDepth 20000 in
theorem ggL_isClimbing_X9_ascent : GoodIn wsL_isClimbing wsX9_ascent := goodIn_r _ [188, 13, 88, 189, 270, 271, 272, 273, 274, 275, 276, 277, 278, 279, 280, 281, 282, 283, 284, 292, 293, 294, 295] (by decide +kernel) (by decide +kernel)
set_option maxRecDepth 20000 in
theorem gL_isClimbing_X9_ascent : GoodIn wsL_isClimbing (wsV RL 94 RX9 yX9_ascent wsX9_ascent) := goodIn_app (goodIn_of _ (by decide +kernel)) ggL_isClimbing_X9_ascent
set_option maxRecDepth 20000 in
theorem ggL_isClimbing_X9_descent : GoodIn wsL_isClimbing wsX9_descent := goodIn_r _ [193, 13, 88, 194, 270, 271, 272, 273, 274, 275, 276, 277, 278, 279, 280, 281, 282, 283, 284, 292, 293, 294, 295] (by decide +kernel) (by decide +kernel)
set_option maxRecDepth 20000 in
theorem gL_isClimbing_X9_descent : GoodIn wsL_isClimbing (wsV RL 97 RX9 yX9_descent wsX9_descent) := goodIn_app (goodIn_of _ (by decide +kernel)) ggL_isClimbing_X9_descent
theorem dL_isClimbing_0 : decode cL_isClimbing 0 = .ok (.new 16, 3) := by decide +kernel
theorem dL_isClimbing_3 : decode cL_isClimbing 3 = .ok (.dup, 1) := by decide +kernel
theorem dL_isClimbing_4 : decode cL_isClimbing 4 = .ok (.invokespecial 143, 3) := by decide +kernel
theorem dL_isClimbing_7 : decode cL_isClimbing 7 = .ok (.astore_n 2, 1) := by decide +kernel
theorem dL_isClimbing_8 : decode cL_isClimbing 8 = .ok (.aload_n 2, 1) := by decide +kernel
theorem dL_isClimbing_9 : decode cL_isClimbing 9 = .ok (.bipush 10, 2) := by decide +kernel
theorem dL_isClimbing_11 : decode cL_isClimbing 11 = .ok (.aload_n 0, 1) := by decide +kernel
theorem dL_isClimbing_12 : decode cL_isClimbing 12 = .ok (.iload_n 1, 1) := by decide +kernel
theorem dL_isClimbing_13 : decode cL_isClimbing 13 = .ok (.invokestatic 144, 3) := by decide +kernel
theorem dL_isClimbing_16 : decode cL_isClimbing 16 = .ok (.bipush 90, 2) := by decide +kernel
theorem dL_isClimbing_18 : decode cL_isClimbing 18 = .ok (.invokestatic 9, 3) := by decide +kernel
theorem dL_isClimbing_21 : decode cL_isClimbing 21 = .ok (.iadd, 1) := by decide +kernel
theorem dL_isClimbing_22 : decode cL_isClimbing 22 = .ok (.invokevirtual 57, 3) := by decide +kernel
theorem dL_isClimbing_25 : decode cL_isClimbing 25 = .ok (.bipush 50, 2) := by decide +kernel
theorem dL_isClimbing_27 : decode cL_isClimbing 27 = .ok (.if_icmp .ne 7, 3) := by decide +kernel
theorem dL_isClimbing_30 : decode cL_isClimbing 30 = .ok (.iconst 1, 1) := by decide +kernel
theorem dL_isClimbing_31 : decode cL_isClimbing 31 = .ok (.goto 4, 3) := by decide +kernel
theorem dL_isClimbing_34 : decode cL_isClimbing 34 = .ok (.iconst 0, 1) := by decide +kernel
theorem dL_isClimbing_35 : decode cL_isClimbing 35 = .ok (.istore_n 3, 1) := by decide +kernel
theorem dL_isClimbing_36 : decode cL_isClimbing 36 = .ok (.iconst 1, 1) := by decide +kernel
theorem dL_isClimbing_37 : decode cL_isClimbing 37 = .ok (.istore 4, 2) := by decide +kernel
theorem dL_isClimbing_39 : decode cL_isClimbing 39 = .ok (.iload 4, 2) := by decide +kernel
theorem dL_isClimbing_41 : decode cL_isClimbing 41 = .ok (.bipush 9, 2) := by decide +kernel
theorem dL_isClimbing_43 : decode cL_isClimbing 43 = .ok (.if_icmp .ge 75, 3) := by decide +kernel
theorem dL_isClimbing_46 : decode cL_isClimbing 46 = .ok (.iload_n 3, 1) := by decide +kernel
theorem dL_isClimbing_47 : decode cL_isClimbing 47 = .ok (.ifCond .eq 71, 3) := by decide +kernel
theorem dL_isClimbing_50 : decode cL_isClimbing 50 = .ok (.aload_n 0, 1) := by decide +kernel
theorem dL_isClimbing_51 : decode cL_isClimbing 51 = .ok (.iload_n 1, 1) := by decide +kernel
theorem dL_isClimbing_52 : decode cL_isClimbing 52 = .ok (.iload 4, 2) := by decide +kernel
theorem dL_isClimbing_54 : decode cL_isClimbing 54 = .ok (.iadd, 1) := by decide +kernel
theorem dL_isClimbing_55 : decode cL_isClimbing 55 = .ok (.invokestatic 144, 3) := by decide +kernel
theorem dL_isClimbing_58 : decode cL_isClimbing 58 = .ok (.istore 5, 2) := by decide +kernel
theorem dL_isClimbing_60 : decode cL_isClimbing 60 = .ok (.aload_n 2, 1) := by decide +kernel
theorem dL_isClimbing_61 : decode cL_isClimbing 61 = .ok (.iconst 1, 1) := by decide +kernel
theorem dL_isClimbing_62 : decode cL_isClimbing 62 = .ok (.iload 5, 2) := by decide +kernel
theorem dL_isClimbing_64 : decode cL_isClimbing 64 = .ok (.bipush 20, 2) := by decide +kernel
theorem dL_isClimbing_66 : decode cL_isClimbing 66 = .ok (.invokestatic 9, 3) := by decide +kernel
theorem dL_isClimbing_69 : decode cL_isClimbing 69 = .ok (.iadd, 1) := by decide +kernel
theorem dL_isClimbing_70 : decode cL_isClimbing 70 = .ok (.sipush 5000, 3) := by decide +kernel
theorem dL_isClimbing_73 : decode cL_isClimbing 73 = .ok (.iload 5, 2) := by decide +kernel
theorem dL_isClimbing_75 : decode cL_isClimbing 75 = .ok (.iconst 5, 1) := by decide +kernel
theorem dL_isClimbing_76 : decode cL_isClimbing 76 = .ok (.ishr, 1) := by decide +kernel
theorem dL_isClimbing_77 : decode cL_isClimbing 77 = .ok (.sipush 6001, 3) := by decide +kernel
theorem dL_isClimbing_80 : decode cL_isClimbing 80 = .ok (.invokestatic 9, 3) := by decide +kernel
theorem dL_isClimbing_83 : decode cL_isClimbing 83 = .ok (.iadd, 1) := by decide +kernel
theorem dL_isClimbing_84 : decode cL_isClimbing 84 = .ok (.invokestatic 84, 3) := by decide +kernel
theorem dL_isClimbing_87 : decode cL_isClimbing 87 = .ok (.ifCond .eq 23, 3) := by decide +kernel
theorem dL_isClimbing_90 : decode cL_isClimbing 90 = .ok (.aload_n 2, 1) := by decide +kernel
theorem dL_isClimbing_91 : decode cL_isClimbing 91 = .ok (.invokevirtual 36, 3) := by decide +kernel
theorem dL_isClimbing_94 : decode cL_isClimbing 94 = .ok (.aload_n 2, 1) := by decide +kernel
theorem dL_isClimbing_95 : decode cL_isClimbing 95 = .ok (.invokevirtual 94, 3) := by decide +kernel
theorem dL_isClimbing_98 : decode cL_isClimbing 98 = .ok (.aload_n 2, 1) := by decide +kernel
theorem dL_isClimbing_99 : decode cL_isClimbing 99 = .ok (.invokevirtual 97, 3) := by decide +kernel
theorem dL_isClimbing_102 : decode cL_isClimbing 102 = .ok (.isub, 1) := by decide +kernel
theorem dL_isClimbing_103 : decode cL_isClimbing 103 = .ok (.if_icmp .ne 7, 3) := by decide +kernel
theorem dL_isClimbing_106 : decode cL_isClimbing 106 = .ok (.iconst 1, 1) := by decide +kernel
theorem dL_isClimbing_107 : decode cL_isClimbing 107 = .ok (.goto 4, 3) := by decide +kernel
theorem dL_isClimbing_110 : decode cL_isClimbing 110 = .ok (.iconst 0, 1) := by decide +kernel
theorem dL_isClimbing_111 : decode cL_isClimbing 111 = .ok (.istore_n 3, 1) := by decide +kernel
theorem dL_isClimbing_112 : decode cL_isClimbing 112 = .ok (.iinc 4 1, 3) := by decide +kernel
theorem dL_isClimbing_115 : decode cL_isClimbing 115 = .ok (.goto (-76), 3) := by decide +kernel
theorem dL_isClimbing_118 : decode cL_isClimbing 118 = .ok (.iload_n 3, 1) := by decide +kernel
theorem dL_isClimbing_119 : decode cL_isClimbing 119 = .ok (.ireturn, 1) := by decide +kernel
set_option maxRecDepth 20000 in
theorem ggL_law_X9_init : GoodIn wsL_law wsX9_init := goodIn_r _ [5, 6, 7, 8, 9, 10, 11, 12, 13, 14, 15, 16, 17, 18, 19, 20, 21, 22, 23, 24, 25, 26, 27, 28, 29, 30, 31, 32, 33, 34, 35, 36, 37, 38, 39, 40, 41, 42, 43, 44, 45, 46, 47, 48, 49, 50, 51, 52, 53, 54, 55, 56, 57, 58, 59, 60, 61, 62, 63, 64, 65, 66, 67, 68, 69, 70, 71, 72, 73, 485, 486, 487, 488, 489, 490, 491, 492, 493, 494, 480, 481, 482, 483, 484, 495, 496, 497, 498, 499, 500, 501, 502, 503, 504, 505, 506, 507, 508, 509, 510, 511, 512, 513, 514] (by decide +kernel) (by decide +kernel)
set_option maxRecDepth 20000 in
theorem gL_law_X9_init : GoodIn wsL_law (wsX9_init) := ggL_law_X9_init
set_option maxRecDepth 20000 in
theorem ggL_law_X9_store : GoodIn wsL_law wsX9_store := goodIn_ca (goodIn_r _ [77, 78, 12, 79, 80, 81, 2, 82, 83, 84, 85, 86, 87, 88, 20, 21, 89, 90, 91, 11, 92, 93, 94, 29, 30, 95, 96, 97, 34, 38, 42, 98, 99, 100, 33, 101, 102, 103, 104, 46, 105, 106, 107, 37, 108, 51, 109, 52, 110, 111, 112, 113, 114, 115, 116, 117, 118, 119, 120, 121, 122, 123, 124, 41, 125, 56, 57, 58, 126, 127, 128, 129, 130, 131, 132, 133, 134, 135, 136, 137, 498, 499, 480, 481, 482, 483, 484, 485, 486, 487, 488, 489, 490, 491, 492, 493, 494, 502, 503, 504, 505, 506, 507, 508, 509, 510, 511, 512, 513, 514] (by decide +kernel) (by decide +kernel)) (goodIn_sub (fun _ h => List.mem_append_left _ (List.mem_append_left _ (List.mem_append_right _ h))) (by decide +kernel))
set_option maxRecDepth 20000 in
theorem gL_law_X9_store : GoodIn wsL_law (wsV RL 140 RX9 yX9_store wsX9_store) := goodIn_app (goodIn_of _ (by decide +kernel)) ggL_law_X9_store
set_option maxRecDepth 20000 in
theorem ggL_law_L_isClimbing : GoodIn wsL_law wsL_isClimbing := goodIn_ca (goodIn_r _ [141, 0, 1, 2, 3, 4, 5, 6, 7, 8, 9, 10, 11, 12, 13, 14, 15, 16, 17, 18, 19, 20, 21, 22, 23, 24, 25, 26, 27, 28, 29, 30, 31, 32, 33, 34, 35, 36, 37, 38, 39, 40, 41, 42, 43, 44, 45, 46, 47, 48, 49, 50, 51, 52, 53, 54, 55, 56, 57, 58, 59, 60, 61, 62, 63, 64, 65, 66, 67, 68, 69, 70, 71, 72, 73, 142, 143, 140, 144, 145, 146, 147, 148, 149, 150, 151, 152, 153, 154, 155, 80, 81, 82, 83, 84, 156, 157, 158, 159, 160, 161, 162, 115, 116, 117, 163, 164, 165, 166, 167, 90, 91, 92, 93, 94, 95, 96, 97, 98, 99, 100, 101, 102, 103, 104, 105, 106, 107, 108, 109, 110, 111, 112, 113, 114, 118, 119, 120, 121, 122, 123, 124, 125, 126, 168, 169, 170, 171, 172, 173, 174, 175, 176, 177, 178, 179, 180, 133, 181, 135, 136, 137, 182, 183, 184, 185, 132, 134, 131, 186, 187, 188, 189, 190, 191, 192, 193, 194, 195, 196, 197, 198, 199, 200, 201, 202, 203, 204, 205, 206, 207, 208, 209, 210, 211, 212, 213, 214, 215, 216, 217, 218, 219, 220, 221, 222, 223, 224, 225, 226, 227, 228, 229, 230, 231, 232, 233, 234, 235, 236, 237, 238, 239, 240, 241, 242, 243, 244, 245, 246, 247, 248, 249, 250, 251, 252, 253, 254, 255, 256, 257, 258, 259, 260, 261, 262, 263, 128, 129, 130, 127, 264, 265, 266, 267, 268, 269, 270, 271, 272, 273, 274, 275, 276, 277, 278, 279, 280, 281, 282, 480, 481, 482, 483, 484, 485, 486, 487, 488, 489, 490, 491, 492, 493, 494, 495, 496, 497, 498, 499, 500, 501, 502, 503, 504, 505, 506, 507, 508, 509, 510, 511, 512, 513, 514] (by decide +kernel) (by decide +kernel)) (goodIn_sub (fun _ h => List.mem_append_left _ (List.mem_append_left _ (List.mem_append_right _ h))) (by decide +kernel))
set_option maxRecDepth 20000 in
theorem gL_law_L_isClimbing : GoodIn wsL_law (va_wsS RL 148 yL_isClimbing wsL_isClimbing) := goodIn_app (goodIn_of _ (by decide +kernel)) ggL_law_L_isClimbing
set_option maxRecDepth 20000 in
theorem ggL_law_L_cell : GoodIn wsL_law wsL_cell := goodIn_r _ [144, 145] (by decide +kernel) (by decide +kernel)
set_option maxRecDepth 20000 in
theorem gL_law_L_cell : GoodIn wsL_law (va_wsS RL 144 yL_cell wsL_cell) := goodIn_app (goodIn_of _ (by decide +kernel)) ggL_law_L_cell
set_option maxRecDepth 20000 in
theorem ggL_law_X9_digest : GoodIn wsL_law wsX9_digest := goodIn_r _ [286, 287, 12, 288, 289, 290, 2, 291, 277, 272, 221, 216, 292, 293, 154, 206, 211, 282, 226, 294, 227, 295, 296, 297, 298, 127, 128, 129, 11, 130, 29, 30, 131, 132, 133, 134, 135, 136, 137, 299, 251, 252, 37, 253, 109, 51, 254, 255, 256, 257, 258, 259, 116, 260, 261, 262, 300, 247, 248, 249, 52, 250, 301, 302, 303, 304, 305, 306, 307, 308, 309, 41, 310, 56, 311, 312, 313, 314, 57, 315, 316, 317, 318, 58, 319, 320, 321, 322, 323, 324, 183, 184, 325, 326, 327, 328, 93, 38, 329, 330, 331, 332, 333, 480, 481, 482, 483, 484, 485, 486, 487, 488, 489, 490, 491, 492, 493, 494, 502, 503, 504, 505, 506, 507, 508, 509, 510, 511, 512, 513, 514] (by decide +kernel) (by decide +kernel)
set_option maxRecDepth 20000 in
theorem gL_law_X9_digest : GoodIn wsL_law (wsV RL 130 RX9 yX9_digest wsX9_digest) := goodIn_app (goodIn_of _ (by decide +kernel)) ggL_law_X9_digest
set_option maxRecDepth 20000 in
theorem ggL_law_X9_savedStates : GoodIn wsL_law wsX9_savedStates := goodIn_r _ [337, 16, 338, 480, 481, 482, 483, 484, 495, 496, 497] (by decide +kernel) (by decide +kernel)
set_option maxRecDepth 20000 in
theorem gL_law_X9_savedStates : GoodIn wsL_law (wsV RL 152 RX9 yX9_savedStates wsX9_savedStates) := goodIn_app (goodIn_of _ (by decide +kernel)) ggL_law_X9_savedStates
set_option maxRecDepth 20000 in
theorem ggL_law_L_acts : GoodIn wsL_law wsL_acts := goodIn_ca (goodIn_ca (goodIn_ca (goodIn_r _ [341, 342, 343, 146, 147, 140, 148, 149, 273, 274, 275, 2, 276, 12, 277, 344, 345, 346, 347, 16, 156, 157, 158, 15, 159, 160, 161, 162, 115, 116, 117, 163, 164, 165, 166, 64, 167, 90, 91, 11, 92, 93, 94, 29, 30, 95, 96, 97, 34, 38, 42, 98, 99, 100, 33, 101, 102, 103, 104, 46, 105, 106, 107, 37, 108, 51, 109, 52, 110, 111, 112, 113, 114, 118, 119, 120, 121, 122, 123, 124, 41, 125, 56, 57, 58, 126, 348, 349, 350, 351, 352, 353, 354, 355, 356, 263, 128, 129, 130, 131, 132, 133, 134, 135, 136, 137, 357, 358, 359, 360, 226, 294, 212, 213, 214, 215, 216, 361, 362, 363, 364, 80, 81, 82, 83, 84, 365, 366, 367, 368, 278, 279, 280, 281, 154, 282, 264, 265, 266, 267, 127, 369, 370, 371, 372, 373, 374, 375, 292, 376, 377, 378, 379, 293, 380, 381, 382, 383, 384, 385, 386, 387, 388, 179, 180, 181, 182, 183, 184, 185, 389, 150, 151, 152, 153, 155, 390, 391, 392, 393, 394, 395, 396, 397, 398, 305, 306, 399, 400, 401, 402, 403, 404, 405, 406, 194, 407, 408, 409, 410, 244, 245, 411, 412, 413, 414, 415, 416, 417, 418, 419, 420, 307, 308, 309, 310, 261, 262, 217, 218, 219, 220, 221, 421, 422, 423, 424, 311, 312, 313, 314, 425, 426, 427, 428, 429, 430, 79, 78, 85, 86, 87, 88, 20, 21, 89, 268, 269, 270, 271, 272, 168, 169, 170, 171, 172, 173, 174, 175, 176, 177, 178, 186, 187, 188, 189, 190, 191, 192, 193, 31, 32, 43, 44, 45, 7, 8, 195, 196, 197, 198, 199, 200, 201, 202, 203, 204, 205, 206, 207, 208, 209, 210, 211, 222, 223, 224, 225, 227, 228, 229, 230, 231, 232, 233, 234, 235, 236, 237, 238, 239, 240, 241, 242, 243, 246, 247, 248, 249, 250, 251, 252, 253, 254, 255, 256, 257, 258, 259, 260, 480, 481, 482, 483, 484, 485, 486, 487, 488, 489, 490, 491, 492, 493, 494, 495, 496, 497, 502, 503, 504, 505, 506, 507, 508, 509, 510, 511, 512, 513, 514, 498, 499] (by decide +kernel) (by decide +kernel)) (goodIn_sub (fun _ h => List.mem_append_left _ (List.mem_append_left _ (List.mem_append_right _ h))) (by decide +kernel))) (goodIn_sub (fun _ h => List.mem_append_left _ (List.mem_append_right _ h)) (by decide +kernel))) (goodIn_sub (fun _ h => List.mem_append_right _ h) (by decide +kernel))
set_option maxRecDepth 20000 in
theorem gL_law_L_acts : GoodIn wsL_law (va_wsS RL 155 yL_acts wsL_acts) := goodIn_app (goodIn_of _ (by decide +kernel)) ggL_law_L_acts
set_option maxRecDepth 20000 in
theorem ggL_law_X9_undo : GoodIn wsL_law wsX9_undo := goodIn_ca (goodIn_r _ [434, 429, 430, 16, 338, 12, 435, 436, 437, 15, 438, 160, 161, 163, 164, 165, 166, 64, 167, 90, 91, 11, 92, 93, 94, 29, 30, 95, 96, 97, 34, 38, 42, 98, 99, 100, 33, 101, 102, 103, 104, 46, 105, 106, 107, 37, 108, 51, 109, 52, 110, 111, 112, 2, 113, 114, 115, 116, 117, 118, 119, 120, 121, 122, 123, 124, 41, 125, 56, 57, 58, 126, 480, 481, 482, 483, 484, 495, 496, 497, 485, 486, 487, 488, 489, 490, 491, 492, 493, 494, 502, 503, 504, 505, 506, 507, 508, 509, 510, 511, 512, 513, 514] (by decide +kernel) (by decide +kernel)) (goodIn_sub (fun _ h => List.mem_append_right _ h) (by decide +kernel))
set_option maxRecDepth 20000 in
theorem gL_law_X9_undo : GoodIn wsL_law (wsV RL 137 RX9 yX9_undo wsX9_undo) := goodIn_app (goodIn_of _ (by decide +kernel)) ggL_law_X9_undo
set_option maxRecDepth 20000 in
theorem ggL_law_L_holds : GoodIn wsL_law wsL_holds := goodIn_ca (goodIn_ca (goodIn_r _ [441, 442, 443, 146, 147, 140, 148, 149, 444, 445, 446, 2, 447, 384, 12, 80, 81, 82, 83, 84, 319, 320, 321, 11, 322, 30, 323, 136, 133, 137, 324, 183, 184, 135, 212, 213, 214, 215, 216, 448, 449, 450, 451, 452, 264, 265, 266, 267, 127, 128, 129, 130, 29, 131, 132, 134, 268, 269, 270, 271, 272, 453, 454, 455, 456, 226, 299, 251, 252, 37, 253, 109, 51, 254, 255, 256, 257, 258, 259, 116, 260, 261, 262, 357, 358, 359, 360, 294, 273, 274, 275, 276, 277, 222, 223, 224, 225, 227, 217, 218, 219, 220, 221, 457, 458, 459, 460, 154, 206, 211, 461, 395, 396, 397, 398, 305, 306, 462, 463, 464, 465, 415, 416, 417, 418, 419, 420, 315, 316, 317, 41, 318, 58, 466, 467, 468, 469, 300, 247, 248, 249, 52, 250, 470, 471, 472, 480, 481, 482, 483, 484, 485, 486, 487, 488, 489, 490, 491, 492, 493, 494, 506, 507, 508, 509, 510, 502, 503, 504, 505, 511, 512, 513, 514] (by decide +kernel) (by decide +kernel)) (goodIn_sub (fun _ h => List.mem_append_left _ (List.mem_append_left _ (List.mem_append_right _ h))) (by decide +kernel))) (goodIn_sub (fun _ h => List.mem_append_left _ (List.mem_append_right _ h)) (by decide +kernel))
set_option maxRecDepth 20000 in
theorem gL_law_L_holds : GoodIn wsL_law (va_wsS RL 158 yL_holds wsL_holds) := goodIn_app (goodIn_of _ (by decide +kernel)) ggL_law_L_holds
set_option maxRecDepth 20000 in
theorem ggL_law_L_up : GoodIn wsL_law wsL_up := goodIn_r _ [148, 149] (by decide +kernel) (by decide +kernel)
set_option maxRecDepth 20000 in
theorem gL_law_L_up : GoodIn wsL_law (va_wsS RL 9 yL_up wsL_up) := goodIn_app (goodIn_of _ (by decide +kernel)) ggL_law_L_up
set_option maxRecDepth 20000 in
theorem ggL_law_L_isAhead : GoodIn wsL_law wsL_isAhead := goodIn_ca (goodIn_ca (goodIn_r _ [475, 283, 284, 285, 2, 286, 287, 12, 288, 289, 290, 291, 277, 272, 221, 216, 292, 293, 154, 206, 211, 282, 226, 294, 227, 295, 296, 297, 298, 127, 128, 129, 11, 130, 29, 30, 131, 132, 133, 134, 135, 136, 137, 299, 251, 252, 37, 253, 109, 51, 254, 255, 256, 257, 258, 259, 116, 260, 261, 262, 300, 247, 248, 249, 52, 250, 301, 302, 303, 304, 305, 306, 307, 308, 309, 41, 310, 56, 311, 312, 313, 314, 57, 315, 316, 317, 318, 58, 319, 320, 321, 322, 323, 324, 183, 184, 325, 326, 327, 328, 93, 38, 329, 330, 331, 332, 333, 476, 477, 478, 479, 80, 81, 82, 83, 84, 273, 274, 275, 276, 466, 467, 468, 469, 268, 269, 270, 271, 228, 229, 230, 231, 16, 156, 157, 158, 15, 159, 160, 161, 162, 115, 117, 163, 164, 165, 166, 64, 167, 90, 91, 92, 94, 95, 96, 97, 34, 42, 98, 99, 100, 33, 101, 102, 103, 104, 46, 105, 106, 107, 108, 110, 111, 112, 113, 114, 118, 119, 120, 121, 122, 123, 124, 125, 126, 232, 233, 234, 235, 195, 196, 197, 179, 180, 181, 182, 185, 236, 237, 238, 239, 240, 241, 242, 243, 244, 245, 246, 263, 198, 199, 200, 201, 264, 265, 266, 267, 431, 432, 433, 434, 429, 430, 338, 435, 436, 437, 438, 74, 75, 76, 77, 78, 79, 85, 86, 87, 88, 20, 21, 89, 150, 151, 152, 153, 155, 369, 370, 140, 371, 425, 426, 427, 428, 480, 481, 482, 483, 484, 485, 486, 487, 488, 489, 490, 491, 492, 493, 494, 502, 503, 504, 505, 506, 507, 508, 509, 510, 511, 512, 513, 514, 495, 496, 497, 498, 499] (by decide +kernel) (by decide +kernel)) (goodIn_sub (fun _ h => List.mem_append_left _ (List.mem_append_left _ (List.mem_append_right _ h))) (by decide +kernel))) (goodIn_sub (fun _ h => List.mem_append_right _ h) (by decide +kernel))
set_option maxRecDepth 20000 in
theorem gL_law_L_isAhead : GoodIn wsL_law (va_wsS RL 162 yL_isAhead wsL_isAhead) := goodIn_app (goodIn_of _ (by decide +kernel)) ggL_law_L_isAhead
set_option maxRecDepth 20000 in
theorem ggL_law_X9_altitude : GoodIn wsL_law wsX9_altitude := goodIn_r _ [267, 12, 127, 128, 129, 11, 130, 29, 30, 131, 132, 133, 134, 135, 136, 137, 480, 481, 482, 483, 484, 485, 486, 487, 488, 489, 490, 491, 492, 493, 494] (by decide +kernel) (by decide +kernel)
set_option maxRecDepth 20000 in
theorem gL_law_X9_altitude : GoodIn wsL_law (wsV RL 39 RX9 yX9_altitude wsX9_altitude) := goodIn_app (goodIn_of _ (by decide +kernel)) ggL_law_X9_altitude
theorem dL_law_0 : decode cL_law 0 = .ok (.new 16, 3) := by decide +kernel
theorem dL_law_3 : decode cL_law 3 = .ok (.dup, 1) := by decide +kernel
theorem dL_law_4 : decode cL_law 4 = .ok (.invokespecial 143, 3) := by decide +kernel
theorem dL_law_7 : decode cL_law 7 = .ok (.astore_n 1, 1) := by decide +kernel
theorem dL_law_8 : decode cL_law 8 = .ok (.aload_n 1, 1) := by decide +kernel
theorem dL_law_9 : decode cL_law 9 = .ok (.iconst 0, 1) := by decide +kernel
theorem dL_law_10 : decode cL_law 10 = .ok (.invokevirtual 140, 3) := by decide +kernel
theorem dL_law_13 : decode cL_law 13 = .ok (.ifCond .ne 16, 3) := by decide +kernel
theorem dL_law_16 : decode cL_law 16 = .ok (.aload_n 0, 1) := by decide +kernel
theorem dL_law_17 : decode cL_law 17 = .ok (.bipush 70, 2) := by decide +kernel
theorem dL_law_19 : decode cL_law 19 = .ok (.invokestatic 148, 3) := by decide +kernel
theorem dL_law_22 : decode cL_law 22 = .ok (.ifCond .eq 7, 3) := by decide +kernel
theorem dL_law_25 : decode cL_law 25 = .ok (.iconst 1, 1) := by decide +kernel
theorem dL_law_26 : decode cL_law 26 = .ok (.goto 4, 3) := by decide +kernel
theorem dL_law_29 : decode cL_law 29 = .ok (.iconst 0, 1) := by decide +kernel
theorem dL_law_30 : decode cL_law 30 = .ok (.istore_n 2, 1) := by decide +kernel
theorem dL_law_31 : decode cL_law 31 = .ok (.iconst 0, 1) := by decide +kernel
theorem dL_law_32 : decode cL_law 32 = .ok (.istore_n 3, 1) := by decide +kernel
theorem dL_law_33 : decode cL_law 33 = .ok (.iload_n 3, 1) := by decide +kernel
theorem dL_law_34 : decode cL_law 34 = .ok (.bipush 34, 2) := by decide +kernel
theorem dL_law_36 : decode cL_law 36 = .ok (.if_icmp .ge 226, 3) := by decide +kernel
theorem dL_law_39 : decode cL_law 39 = .ok (.iload_n 2, 1) := by decide +kernel
theorem dL_law_40 : decode cL_law 40 = .ok (.ifCond .eq 222, 3) := by decide +kernel
theorem dL_law_43 : decode cL_law 43 = .ok (.aload_n 0, 1) := by decide +kernel
theorem dL_law_44 : decode cL_law 44 = .ok (.iconst 2, 1) := by decide +kernel
theorem dL_law_45 : decode cL_law 45 = .ok (.iload_n 3, 1) := by decide +kernel
theorem dL_law_46 : decode cL_law 46 = .ok (.imul, 1) := by decide +kernel
theorem dL_law_47 : decode cL_law 47 = .ok (.invokestatic 144, 3) := by decide +kernel
theorem dL_law_50 : decode cL_law 50 = .ok (.istore 4, 2) := by decide +kernel
theorem dL_law_52 : decode cL_law 52 = .ok (.aload_n 0, 1) := by decide +kernel
theorem dL_law_53 : decode cL_law 53 = .ok (.iconst 2, 1) := by decide +kernel
theorem dL_law_54 : decode cL_law 54 = .ok (.iload_n 3, 1) := by decide +kernel
theorem dL_law_55 : decode cL_law 55 = .ok (.imul, 1) := by decide +kernel
theorem dL_law_56 : decode cL_law 56 = .ok (.iconst 1, 1) := by decide +kernel
theorem dL_law_57 : decode cL_law 57 = .ok (.iadd, 1) := by decide +kernel
theorem dL_law_58 : decode cL_law 58 = .ok (.invokestatic 144, 3) := by decide +kernel
theorem dL_law_61 : decode cL_law 61 = .ok (.istore 5, 2) := by decide +kernel
theorem dL_law_63 : decode cL_law 63 = .ok (.aload_n 1, 1) := by decide +kernel
theorem dL_law_64 : decode cL_law 64 = .ok (.invokevirtual 130, 3) := by decide +kernel
theorem dL_law_67 : decode cL_law 67 = .ok (.lstore 6, 2) := by decide +kernel
theorem dL_law_69 : decode cL_law 69 = .ok (.aload_n 1, 1) := by decide +kernel
theorem dL_law_70 : decode cL_law 70 = .ok (.invokevirtual 152, 3) := by decide +kernel
theorem dL_law_73 : decode cL_law 73 = .ok (.istore 8, 2) := by decide +kernel
theorem dL_law_75 : decode cL_law 75 = .ok (.aload_n 1, 1) := by decide +kernel
theorem dL_law_76 : decode cL_law 76 = .ok (.iload 4, 2) := by decide +kernel
theorem dL_law_78 : decode cL_law 78 = .ok (.iload 5, 2) := by decide +kernel
theorem dL_law_80 : decode cL_law 80 = .ok (.invokestatic 155, 3) := by decide +kernel
theorem dL_law_83 : decode cL_law 83 = .ok (.ifCond .eq 30, 3) := by decide +kernel
theorem dL_law_86 : decode cL_law 86 = .ok (.aload_n 1, 1) := by decide +kernel
theorem dL_law_87 : decode cL_law 87 = .ok (.invokevirtual 152, 3) := by decide +kernel
theorem dL_law_90 : decode cL_law 90 = .ok (.iload 8, 2) := by decide +kernel
theorem dL_law_92 : decode cL_law 92 = .ok (.bipush 6, 2) := by decide +kernel
theorem dL_law_94 : decode cL_law 94 = .ok (.if_icmp .ge 10, 3) := by decide +kernel
theorem dL_law_97 : decode cL_law 97 = .ok (.iload 8, 2) := by decide +kernel
theorem dL_law_99 : decode cL_law 99 = .ok (.iconst 1, 1) := by decide +kernel
theorem dL_law_100 : decode cL_law 100 = .ok (.iadd, 1) := by decide +kernel
theorem dL_law_101 : decode cL_law 101 = .ok (.goto 5, 3) := by decide +kernel
theorem dL_law_104 : decode cL_law 104 = .ok (.bipush 6, 2) := by decide +kernel
theorem dL_law_106 : decode cL_law 106 = .ok (.if_icmp .ne 7, 3) := by decide +kernel
theorem dL_law_109 : decode cL_law 109 = .ok (.iconst 1, 1) := by decide +kernel
theorem dL_law_110 : decode cL_law 110 = .ok (.goto 4, 3) := by decide +kernel
theorem dL_law_113 : decode cL_law 113 = .ok (.iconst 0, 1) := by decide +kernel
theorem dL_law_114 : decode cL_law 114 = .ok (.istore_n 2, 1) := by decide +kernel
theorem dL_law_115 : decode cL_law 115 = .ok (.iload_n 2, 1) := by decide +kernel
theorem dL_law_116 : decode cL_law 116 = .ok (.ifCond .eq 73, 3) := by decide +kernel
theorem dL_law_119 : decode cL_law 119 = .ok (.iload 4, 2) := by decide +kernel
theorem dL_law_121 : decode cL_law 121 = .ok (.bipush 8, 2) := by decide +kernel
theorem dL_law_123 : decode cL_law 123 = .ok (.ishr, 1) := by decide +kernel
theorem dL_law_124 : decode cL_law 124 = .ok (.iconst 3, 1) := by decide +kernel
theorem dL_law_125 : decode cL_law 125 = .ok (.iand, 1) := by decide +kernel
theorem dL_law_126 : decode cL_law 126 = .ok (.ifCond .ne 63, 3) := by decide +kernel
theorem dL_law_129 : decode cL_law 129 = .ok (.aload_n 1, 1) := by decide +kernel
theorem dL_law_130 : decode cL_law 130 = .ok (.invokevirtual 130, 3) := by decide +kernel
theorem dL_law_133 : decode cL_law 133 = .ok (.lstore 9, 2) := by decide +kernel
theorem dL_law_135 : decode cL_law 135 = .ok (.aload_n 1, 1) := by decide +kernel
theorem dL_law_136 : decode cL_law 136 = .ok (.invokevirtual 152, 3) := by decide +kernel
theorem dL_law_139 : decode cL_law 139 = .ok (.iconst 1, 1) := by decide +kernel
theorem dL_law_140 : decode cL_law 140 = .ok (.isub, 1) := by decide +kernel
theorem dL_law_141 : decode cL_law 141 = .ok (.istore 11, 2) := by decide +kernel
theorem dL_law_143 : decode cL_law 143 = .ok (.aload_n 1, 1) := by decide +kernel
theorem dL_law_144 : decode cL_law 144 = .ok (.invokevirtual 137, 3) := by decide +kernel
theorem dL_law_147 : decode cL_law 147 = .ok (.iload 11, 2) := by decide +kernel
theorem dL_law_149 : decode cL_law 149 = .ok (.if_icmp .ne 38, 3) := by decide +kernel
theorem dL_law_152 : decode cL_law 152 = .ok (.aload_n 1, 1) := by decide +kernel
theorem dL_law_153 : decode cL_law 153 = .ok (.invokevirtual 130, 3) := by decide +kernel
theorem dL_law_156 : decode cL_law 156 = .ok (.lload 6, 2) := by decide +kernel
theorem dL_law_158 : decode cL_law 158 = .ok (.lcmp, 1) := by decide +kernel
theorem dL_law_159 : decode cL_law 159 = .ok (.ifCond .ne 28, 3) := by decide +kernel
theorem dL_law_162 : decode cL_law 162 = .ok (.aload_n 1, 1) := by decide +kernel
theorem dL_law_163 : decode cL_law 163 = .ok (.iload 4, 2) := by decide +kernel
theorem dL_law_165 : decode cL_law 165 = .ok (.iload 5, 2) := by decide +kernel
theorem dL_law_167 : decode cL_law 167 = .ok (.invokestatic 155, 3) := by decide +kernel
theorem dL_law_170 : decode cL_law 170 = .ok (.ifCond .eq 17, 3) := by decide +kernel
theorem dL_law_173 : decode cL_law 173 = .ok (.aload_n 1, 1) := by decide +kernel
theorem dL_law_174 : decode cL_law 174 = .ok (.invokevirtual 130, 3) := by decide +kernel
theorem dL_law_177 : decode cL_law 177 = .ok (.lload 9, 2) := by decide +kernel
theorem dL_law_179 : decode cL_law 179 = .ok (.lcmp, 1) := by decide +kernel
theorem dL_law_180 : decode cL_law 180 = .ok (.ifCond .ne 7, 3) := by decide +kernel
theorem dL_law_183 : decode cL_law 183 = .ok (.iconst 1, 1) := by decide +kernel
theorem dL_law_184 : decode cL_law 184 = .ok (.goto 4, 3) := by decide +kernel
theorem dL_law_187 : decode cL_law 187 = .ok (.iconst 0, 1) := by decide +kernel
theorem dL_law_188 : decode cL_law 188 = .ok (.istore_n 2, 1) := by decide +kernel
theorem dL_law_189 : decode cL_law 189 = .ok (.iload_n 2, 1) := by decide +kernel
theorem dL_law_190 : decode cL_law 190 = .ok (.ifCond .eq 64, 3) := by decide +kernel
theorem dL_law_193 : decode cL_law 193 = .ok (.aload_n 1, 1) := by decide +kernel
theorem dL_law_194 : decode cL_law 194 = .ok (.iload 5, 2) := by decide +kernel
theorem dL_law_196 : decode cL_law 196 = .ok (.iconst 3, 1) := by decide +kernel
theorem dL_law_197 : decode cL_law 197 = .ok (.ishr, 1) := by decide +kernel
theorem dL_law_198 : decode cL_law 198 = .ok (.invokestatic 158, 3) := by decide +kernel
theorem dL_law_201 : decode cL_law 201 = .ok (.ifCond .eq 53, 3) := by decide +kernel
theorem dL_law_204 : decode cL_law 204 = .ok (.iload_n 3, 1) := by decide +kernel
theorem dL_law_205 : decode cL_law 205 = .ok (.iconst 4, 1) := by decide +kernel
theorem dL_law_206 : decode cL_law 206 = .ok (.irem, 1) := by decide +kernel
theorem dL_law_207 : decode cL_law 207 = .ok (.iconst 1, 1) := by decide +kernel
theorem dL_law_208 : decode cL_law 208 = .ok (.if_icmp .ne 21, 3) := by decide +kernel
theorem dL_law_211 : decode cL_law 211 = .ok (.aload_n 1, 1) := by decide +kernel
theorem dL_law_212 : decode cL_law 212 = .ok (.iconst 1, 1) := by decide +kernel
theorem dL_law_213 : decode cL_law 213 = .ok (.iload 4, 2) := by decide +kernel
theorem dL_law_215 : decode cL_law 215 = .ok (.iconst 5, 1) := by decide +kernel
theorem dL_law_216 : decode cL_law 216 = .ok (.ishr, 1) := by decide +kernel
theorem dL_law_217 : decode cL_law 217 = .ok (.bipush 20, 2) := by decide +kernel
theorem dL_law_219 : decode cL_law 219 = .ok (.invokestatic 9, 3) := by decide +kernel
theorem dL_law_222 : decode cL_law 222 = .ok (.iadd, 1) := by decide +kernel
theorem dL_law_223 : decode cL_law 223 = .ok (.invokestatic 162, 3) := by decide +kernel
theorem dL_law_226 : decode cL_law 226 = .ok (.ifCond .eq 28, 3) := by decide +kernel
theorem dL_law_229 : decode cL_law 229 = .ok (.iload_n 3, 1) := by decide +kernel
theorem dL_law_230 : decode cL_law 230 = .ok (.bipush 13, 2) := by decide +kernel
theorem dL_law_232 : decode cL_law 232 = .ok (.irem, 1) := by decide +kernel
theorem dL_law_233 : decode cL_law 233 = .ok (.bipush 8, 2) := by decide +kernel
theorem dL_law_235 : decode cL_law 235 = .ok (.if_icmp .ne 15, 3) := by decide +kernel
theorem dL_law_238 : decode cL_law 238 = .ok (.aload_n 1, 1) := by decide +kernel
theorem dL_law_239 : decode cL_law 239 = .ok (.iconst 0, 1) := by decide +kernel
theorem dL_law_240 : decode cL_law 240 = .ok (.invokevirtual 140, 3) := by decide +kernel
theorem dL_law_243 : decode cL_law 243 = .ok (.aload_n 1, 1) := by decide +kernel
theorem dL_law_244 : decode cL_law 244 = .ok (.invokevirtual 39, 3) := by decide +kernel
theorem dL_law_247 : decode cL_law 247 = .ok (.if_icmp .ne 7, 3) := by decide +kernel
theorem dL_law_250 : decode cL_law 250 = .ok (.iconst 1, 1) := by decide +kernel
theorem dL_law_251 : decode cL_law 251 = .ok (.goto 4, 3) := by decide +kernel
theorem dL_law_254 : decode cL_law 254 = .ok (.iconst 0, 1) := by decide +kernel
theorem dL_law_255 : decode cL_law 255 = .ok (.istore_n 2, 1) := by decide +kernel
theorem dL_law_256 : decode cL_law 256 = .ok (.iinc 3 1, 3) := by decide +kernel
theorem dL_law_259 : decode cL_law 259 = .ok (.goto (-226), 3) := by decide +kernel
theorem dL_law_262 : decode cL_law 262 = .ok (.iload_n 2, 1) := by decide +kernel
theorem dL_law_263 : decode cL_law 263 = .ok (.ireturn, 1) := by decide +kernel
