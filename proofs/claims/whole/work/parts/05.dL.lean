set_option maxRecDepth 20000 in
theorem ggL_travel_X9_travel : GoodIn wsL_travel wsX9_travel := goodIn_ca (goodIn_r _ [6, 7, 8, 9, 10, 5, 11, 12, 13, 14, 15, 16, 17, 18, 19, 20, 21, 22, 23, 24, 25, 26, 27, 28, 29, 30, 31, 32, 33, 34, 35, 36, 37, 38, 39, 40, 41, 42, 43, 44, 45, 46, 47, 48, 49, 50, 51, 52, 53, 54, 55, 56, 57, 58, 59, 60, 61, 62, 63, 64, 65, 66, 67, 68, 69, 70, 71, 72, 73, 74, 75, 76, 77, 78, 79, 80, 81, 82, 83, 84, 85, 86, 87, 88, 89, 90, 91, 92, 93, 94, 95, 96, 97, 98, 99, 100, 101, 102, 103, 104, 105, 106, 107, 108, 109, 110, 111, 112, 113, 114, 115, 116, 117, 118, 119, 120, 121, 122, 123, 124, 125, 126, 127, 128, 129, 130, 131, 132, 133, 134, 135, 136, 137, 138, 139, 140, 141, 142, 143, 144, 145, 146, 147, 148, 149, 150, 151, 152, 153, 154, 155, 156, 157, 158, 159, 160, 161, 162, 163, 164, 165, 166, 167] (by decide +kernel) (by decide +kernel)) (goodIn_sub (fun _ h => List.mem_cons_of_mem _ (List.mem_append_right _ h)) (by decide +kernel))
set_option maxRecDepth 20000 in
theorem gL_travel_X9_travel : GoodIn wsL_travel (wsV RL 7 RX9 yX9_travel wsX9_travel) := goodIn_app (goodIn_of _ (by decide +kernel)) ggL_travel_X9_travel
theorem dL_travel_0 : decode cL_travel 0 = .ok (.aload_n 3, 1) := by decide +kernel
theorem dL_travel_1 : decode cL_travel 1 = .ok (.iconst 0, 1) := by decide +kernel
theorem dL_travel_2 : decode cL_travel 2 = .ok (.aload_n 0, 1) := by decide +kernel
theorem dL_travel_3 : decode cL_travel 3 = .ok (.iload_n 1, 1) := by decide +kernel
theorem dL_travel_4 : decode cL_travel 4 = .ok (.iload_n 2, 1) := by decide +kernel
theorem dL_travel_5 : decode cL_travel 5 = .ok (.invokevirtual 7, 3) := by decide +kernel
theorem dL_travel_8 : decode cL_travel 8 = .ok (.i2l, 1) := by decide +kernel
theorem dL_travel_9 : decode cL_travel 9 = .ok (.lastore, 1) := by decide +kernel
theorem dL_travel_10 : decode cL_travel 10 = .ok (.goto 7, 3) := by decide +kernel
theorem dL_travel_13 : decode cL_travel 13 = .ok (.astore 4, 2) := by decide +kernel
theorem dL_travel_15 : decode cL_travel 15 = .ok (.iconst 1, 1) := by decide +kernel
theorem dL_travel_16 : decode cL_travel 16 = .ok (.ireturn, 1) := by decide +kernel
theorem dL_travel_17 : decode cL_travel 17 = .ok (.iconst 0, 1) := by decide +kernel
theorem dL_travel_18 : decode cL_travel 18 = .ok (.ireturn, 1) := by decide +kernel
set_option maxRecDepth 20000 in
theorem ggL_standard_X9_standard : GoodIn wsL_standard wsX9_standard := goodIn_ca (goodIn_r _ [6, 7, 8, 5, 9, 10, 11, 12, 13, 14, 15] (by decide +kernel) (by decide +kernel)) (goodIn_sub (fun _ h => List.mem_cons_of_mem _ (List.mem_append_right _ h)) (by decide +kernel))
set_option maxRecDepth 20000 in
theorem gL_standard_X9_standard : GoodIn wsL_standard (wsV RL 15 RX9 yX9_standard wsX9_standard) := goodIn_app (goodIn_of _ (by decide +kernel)) ggL_standard_X9_standard
theorem dL_standard_0 : decode cL_standard 0 = .ok (.aload_n 2, 1) := by decide +kernel
theorem dL_standard_1 : decode cL_standard 1 = .ok (.iconst 0, 1) := by decide +kernel
theorem dL_standard_2 : decode cL_standard 2 = .ok (.aload_n 0, 1) := by decide +kernel
theorem dL_standard_3 : decode cL_standard 3 = .ok (.iload_n 1, 1) := by decide +kernel
theorem dL_standard_4 : decode cL_standard 4 = .ok (.invokevirtual 15, 3) := by decide +kernel
theorem dL_standard_7 : decode cL_standard 7 = .ok (.i2l, 1) := by decide +kernel
theorem dL_standard_8 : decode cL_standard 8 = .ok (.lastore, 1) := by decide +kernel
theorem dL_standard_9 : decode cL_standard 9 = .ok (.goto 6, 3) := by decide +kernel
theorem dL_standard_12 : decode cL_standard 12 = .ok (.astore_n 3, 1) := by decide +kernel
theorem dL_standard_13 : decode cL_standard 13 = .ok (.iconst 1, 1) := by decide +kernel
theorem dL_standard_14 : decode cL_standard 14 = .ok (.ireturn, 1) := by decide +kernel
theorem dL_standard_15 : decode cL_standard 15 = .ok (.iconst 0, 1) := by decide +kernel
theorem dL_standard_16 : decode cL_standard 16 = .ok (.ireturn, 1) := by decide +kernel
set_option maxRecDepth 20000 in
theorem ggL_setSea_X9_setSea : GoodIn wsL_setSea wsX9_setSea := goodIn_ca (goodIn_r _ [6, 7, 8, 9, 10, 11, 5, 12, 13, 14, 15, 16, 17, 18, 19, 20, 21, 22, 23, 24, 25, 26, 27, 28, 29, 30, 31, 32, 33, 34, 35, 36, 37, 38, 39, 40, 41, 42, 43, 44, 45, 46, 47, 48, 49, 50, 51, 52, 53, 54, 55, 56, 57, 58, 59, 60, 61, 62, 63, 64, 65, 66, 67, 68, 69, 70, 71, 72, 73, 74, 75, 76, 77, 78, 79, 80, 81, 82, 83, 84, 85, 86, 87, 88, 89, 90, 91, 92, 93, 94, 95, 96, 97, 98, 99, 100, 101, 102, 103, 104, 105, 106, 107, 108, 109, 110, 111, 112, 113, 114, 115, 116, 117, 118, 119, 120, 121, 122, 123, 124, 125, 126, 127] (by decide +kernel) (by decide +kernel)) (goodIn_sub (fun _ h => List.mem_cons_of_mem _ (List.mem_append_right _ h)) (by decide +kernel))
set_option maxRecDepth 20000 in
theorem gL_setSea_X9_setSea : GoodIn wsL_setSea (wsV RL 19 RX9 yX9_setSea wsX9_setSea) := goodIn_app (goodIn_of _ (by decide +kernel)) ggL_setSea_X9_setSea
theorem dL_setSea_0 : decode cL_setSea 0 = .ok (.aload_n 2, 1) := by decide +kernel
theorem dL_setSea_1 : decode cL_setSea 1 = .ok (.iconst 0, 1) := by decide +kernel
theorem dL_setSea_2 : decode cL_setSea 2 = .ok (.aload_n 0, 1) := by decide +kernel
theorem dL_setSea_3 : decode cL_setSea 3 = .ok (.iload_n 1, 1) := by decide +kernel
theorem dL_setSea_4 : decode cL_setSea 4 = .ok (.invokevirtual 19, 3) := by decide +kernel
theorem dL_setSea_7 : decode cL_setSea 7 = .ok (.i2l, 1) := by decide +kernel
theorem dL_setSea_8 : decode cL_setSea 8 = .ok (.lastore, 1) := by decide +kernel
theorem dL_setSea_9 : decode cL_setSea 9 = .ok (.goto 6, 3) := by decide +kernel
theorem dL_setSea_12 : decode cL_setSea 12 = .ok (.astore_n 3, 1) := by decide +kernel
theorem dL_setSea_13 : decode cL_setSea 13 = .ok (.iconst 1, 1) := by decide +kernel
theorem dL_setSea_14 : decode cL_setSea 14 = .ok (.ireturn, 1) := by decide +kernel
theorem dL_setSea_15 : decode cL_setSea 15 = .ok (.iconst 0, 1) := by decide +kernel
theorem dL_setSea_16 : decode cL_setSea 16 = .ok (.ireturn, 1) := by decide +kernel
set_option maxRecDepth 20000 in
theorem ggL_calibrate_X9_calibrate : GoodIn wsL_calibrate wsX9_calibrate := goodIn_ca (goodIn_r _ [6, 7, 8, 9, 10, 11, 5, 12, 13, 14, 15, 16, 17, 18, 19, 20, 21, 22, 23, 24, 25, 26, 27, 28, 29, 30, 31, 32, 33, 34, 35, 36, 37, 38, 39, 40, 41, 42, 43, 44, 45, 46, 47, 48, 49, 50, 51, 52, 53, 54, 55, 56, 57, 58, 59, 60, 61, 62, 63, 64, 65, 66, 67, 68, 69, 70, 71, 72, 73, 74, 75, 76, 77, 78, 79, 80, 81, 82, 83, 84, 85, 86, 87, 88, 89, 90, 91, 92, 93, 94, 95, 96, 97, 98, 99, 100, 101, 102, 103, 104, 105, 106, 107, 108, 109, 110, 111, 112, 113, 114, 115, 116, 117, 118, 119, 120, 121, 122, 123, 124, 125, 126, 127, 128, 129, 130, 131, 132, 133, 134, 135, 136, 137, 138] (by decide +kernel) (by decide +kernel)) (goodIn_sub (fun _ h => List.mem_cons_of_mem _ (List.mem_append_right _ h)) (by decide +kernel))
set_option maxRecDepth 20000 in
theorem gL_calibrate_X9_calibrate : GoodIn wsL_calibrate (wsV RL 22 RX9 yX9_calibrate wsX9_calibrate) := goodIn_app (goodIn_of _ (by decide +kernel)) ggL_calibrate_X9_calibrate
theorem dL_calibrate_0 : decode cL_calibrate 0 = .ok (.aload_n 2, 1) := by decide +kernel
theorem dL_calibrate_1 : decode cL_calibrate 1 = .ok (.iconst 0, 1) := by decide +kernel
theorem dL_calibrate_2 : decode cL_calibrate 2 = .ok (.aload_n 0, 1) := by decide +kernel
theorem dL_calibrate_3 : decode cL_calibrate 3 = .ok (.iload_n 1, 1) := by decide +kernel
theorem dL_calibrate_4 : decode cL_calibrate 4 = .ok (.invokevirtual 22, 3) := by decide +kernel
theorem dL_calibrate_7 : decode cL_calibrate 7 = .ok (.i2l, 1) := by decide +kernel
theorem dL_calibrate_8 : decode cL_calibrate 8 = .ok (.lastore, 1) := by decide +kernel
theorem dL_calibrate_9 : decode cL_calibrate 9 = .ok (.goto 6, 3) := by decide +kernel
theorem dL_calibrate_12 : decode cL_calibrate 12 = .ok (.astore_n 3, 1) := by decide +kernel
theorem dL_calibrate_13 : decode cL_calibrate 13 = .ok (.iconst 1, 1) := by decide +kernel
theorem dL_calibrate_14 : decode cL_calibrate 14 = .ok (.ireturn, 1) := by decide +kernel
theorem dL_calibrate_15 : decode cL_calibrate 15 = .ok (.iconst 0, 1) := by decide +kernel
theorem dL_calibrate_16 : decode cL_calibrate 16 = .ok (.ireturn, 1) := by decide +kernel
set_option maxRecDepth 20000 in
theorem ggL_setThreshold_X9_setThreshold : GoodIn wsL_setThreshold wsX9_setThreshold := goodIn_ca (goodIn_r _ [6, 7, 8, 9, 10, 11, 12, 5, 13, 14, 15, 16, 17, 18, 19, 20, 21, 22, 23, 24, 25, 26, 27, 28, 29, 30, 31, 32, 33, 34, 35, 36, 37, 38, 39, 40, 41, 42, 43, 44, 45, 46, 47, 48, 49, 50, 51, 52, 53, 54, 55, 56, 57, 58, 59, 60, 61, 62, 63, 64, 65, 66, 67, 68, 69, 70, 71, 72, 73, 74, 75, 76, 77, 78, 79, 80, 81, 82, 83, 84, 85, 86, 87, 88, 89, 90, 91, 92, 93, 94, 95, 96, 97, 98, 99, 100, 101, 102, 103, 104, 105, 106, 107, 108, 109, 110, 111, 112] (by decide +kernel) (by decide +kernel)) (goodIn_sub (fun _ h => List.mem_cons_of_mem _ (List.mem_append_right _ h)) (by decide +kernel))
set_option maxRecDepth 20000 in
theorem gL_setThreshold_X9_setThreshold : GoodIn wsL_setThreshold (wsV RL 25 RX9 yX9_setThreshold wsX9_setThreshold) := goodIn_app (goodIn_of _ (by decide +kernel)) ggL_setThreshold_X9_setThreshold
theorem dL_setThreshold_0 : decode cL_setThreshold 0 = .ok (.aload_n 2, 1) := by decide +kernel
theorem dL_setThreshold_1 : decode cL_setThreshold 1 = .ok (.iconst 0, 1) := by decide +kernel
theorem dL_setThreshold_2 : decode cL_setThreshold 2 = .ok (.aload_n 0, 1) := by decide +kernel
theorem dL_setThreshold_3 : decode cL_setThreshold 3 = .ok (.iload_n 1, 1) := by decide +kernel
theorem dL_setThreshold_4 : decode cL_setThreshold 4 = .ok (.invokevirtual 25, 3) := by decide +kernel
theorem dL_setThreshold_7 : decode cL_setThreshold 7 = .ok (.i2l, 1) := by decide +kernel
theorem dL_setThreshold_8 : decode cL_setThreshold 8 = .ok (.lastore, 1) := by decide +kernel
theorem dL_setThreshold_9 : decode cL_setThreshold 9 = .ok (.goto 6, 3) := by decide +kernel
theorem dL_setThreshold_12 : decode cL_setThreshold 12 = .ok (.astore_n 3, 1) := by decide +kernel
theorem dL_setThreshold_13 : decode cL_setThreshold 13 = .ok (.iconst 1, 1) := by decide +kernel
theorem dL_setThreshold_14 : decode cL_setThreshold 14 = .ok (.ireturn, 1) := by decide +kernel
theorem dL_setThreshold_15 : decode cL_setThreshold 15 = .ok (.iconst 0, 1) := by decide +kernel
theorem dL_setThreshold_16 : decode cL_setThreshold 16 = .ok (.ireturn, 1) := by decide +kernel
set_option maxRecDepth 20000 in
theorem ggL_markTime_X9_markTime : GoodIn wsL_markTime wsX9_markTime := goodIn_ca (goodIn_r _ [6, 7, 8, 9, 10, 11, 5, 12, 13, 14, 15, 16, 17, 18, 19, 20, 21, 22, 23, 24, 25, 26, 27, 28, 29, 30, 31, 32, 33, 34, 35, 36, 37, 38, 39, 40, 41, 42] (by decide +kernel) (by decide +kernel)) (goodIn_sub (fun _ h => List.mem_cons_of_mem _ (List.mem_append_right _ h)) (by decide +kernel))
set_option maxRecDepth 20000 in
theorem gL_markTime_X9_markTime : GoodIn wsL_markTime (wsV RL 28 RX9 yX9_markTime wsX9_markTime) := goodIn_app (goodIn_of _ (by decide +kernel)) ggL_markTime_X9_markTime
theorem dL_markTime_0 : decode cL_markTime 0 = .ok (.aload_n 2, 1) := by decide +kernel
theorem dL_markTime_1 : decode cL_markTime 1 = .ok (.iconst 0, 1) := by decide +kernel
theorem dL_markTime_2 : decode cL_markTime 2 = .ok (.aload_n 0, 1) := by decide +kernel
theorem dL_markTime_3 : decode cL_markTime 3 = .ok (.iload_n 1, 1) := by decide +kernel
theorem dL_markTime_4 : decode cL_markTime 4 = .ok (.invokevirtual 28, 3) := by decide +kernel
theorem dL_markTime_7 : decode cL_markTime 7 = .ok (.i2l, 1) := by decide +kernel
theorem dL_markTime_8 : decode cL_markTime 8 = .ok (.lastore, 1) := by decide +kernel
theorem dL_markTime_9 : decode cL_markTime 9 = .ok (.goto 6, 3) := by decide +kernel
theorem dL_markTime_12 : decode cL_markTime 12 = .ok (.astore_n 3, 1) := by decide +kernel
theorem dL_markTime_13 : decode cL_markTime 13 = .ok (.iconst 1, 1) := by decide +kernel
theorem dL_markTime_14 : decode cL_markTime 14 = .ok (.ireturn, 1) := by decide +kernel
theorem dL_markTime_15 : decode cL_markTime 15 = .ok (.iconst 0, 1) := by decide +kernel
theorem dL_markTime_16 : decode cL_markTime 16 = .ok (.ireturn, 1) := by decide +kernel
set_option maxRecDepth 20000 in
theorem ggL_markAltitude_X9_markAltitude : GoodIn wsL_markAltitude wsX9_markAltitude := goodIn_ca (goodIn_r _ [6, 7, 8, 9, 10, 11, 5, 12, 13, 14, 15, 16, 17, 18, 19, 20, 21, 22, 23, 24, 25, 26, 27, 28, 29, 30, 31, 32, 33, 34, 35, 36, 37, 38, 39, 40, 41, 42] (by decide +kernel) (by decide +kernel)) (goodIn_sub (fun _ h => List.mem_cons_of_mem _ (List.mem_append_right _ h)) (by decide +kernel))
set_option maxRecDepth 20000 in
theorem gL_markAltitude_X9_markAltitude : GoodIn wsL_markAltitude (wsV RL 33 RX9 yX9_markAltitude wsX9_markAltitude) := goodIn_app (goodIn_of _ (by decide +kernel)) ggL_markAltitude_X9_markAltitude
theorem dL_markAltitude_0 : decode cL_markAltitude 0 = .ok (.aload_n 2, 1) := by decide +kernel
theorem dL_markAltitude_1 : decode cL_markAltitude 1 = .ok (.iconst 0, 1) := by decide +kernel
theorem dL_markAltitude_2 : decode cL_markAltitude 2 = .ok (.aload_n 0, 1) := by decide +kernel
theorem dL_markAltitude_3 : decode cL_markAltitude 3 = .ok (.iload_n 1, 1) := by decide +kernel
theorem dL_markAltitude_4 : decode cL_markAltitude 4 = .ok (.invokevirtual 33, 3) := by decide +kernel
theorem dL_markAltitude_7 : decode cL_markAltitude 7 = .ok (.i2l, 1) := by decide +kernel
theorem dL_markAltitude_8 : decode cL_markAltitude 8 = .ok (.lastore, 1) := by decide +kernel
theorem dL_markAltitude_9 : decode cL_markAltitude 9 = .ok (.goto 6, 3) := by decide +kernel
theorem dL_markAltitude_12 : decode cL_markAltitude 12 = .ok (.astore_n 3, 1) := by decide +kernel
theorem dL_markAltitude_13 : decode cL_markAltitude 13 = .ok (.iconst 1, 1) := by decide +kernel
theorem dL_markAltitude_14 : decode cL_markAltitude 14 = .ok (.ireturn, 1) := by decide +kernel
theorem dL_markAltitude_15 : decode cL_markAltitude 15 = .ok (.iconst 0, 1) := by decide +kernel
theorem dL_markAltitude_16 : decode cL_markAltitude 16 = .ok (.ireturn, 1) := by decide +kernel
set_option maxRecDepth 20000 in
theorem ggL_climbed_X9_climbed : GoodIn wsL_climbed wsX9_climbed := goodIn_ca (goodIn_r _ [6, 7, 8, 9, 10, 11, 5, 12, 13, 14, 15, 16, 17, 18, 19, 20, 21, 22, 23, 24, 25, 26, 27, 28, 29, 30, 31, 32, 33, 34, 35, 36, 37, 38, 39, 40, 41, 42] (by decide +kernel) (by decide +kernel)) (goodIn_sub (fun _ h => List.mem_cons_of_mem _ (List.mem_append_right _ h)) (by decide +kernel))
set_option maxRecDepth 20000 in
theorem gL_climbed_X9_climbed : GoodIn wsL_climbed (wsV RL 36 RX9 yX9_climbed wsX9_climbed) := goodIn_app (goodIn_of _ (by decide +kernel)) ggL_climbed_X9_climbed
theorem dL_climbed_0 : decode cL_climbed 0 = .ok (.aload_n 3, 1) := by decide +kernel
theorem dL_climbed_1 : decode cL_climbed 1 = .ok (.iconst 0, 1) := by decide +kernel
theorem dL_climbed_2 : decode cL_climbed 2 = .ok (.aload_n 0, 1) := by decide +kernel
theorem dL_climbed_3 : decode cL_climbed 3 = .ok (.iload_n 1, 1) := by decide +kernel
theorem dL_climbed_4 : decode cL_climbed 4 = .ok (.iload_n 2, 1) := by decide +kernel
theorem dL_climbed_5 : decode cL_climbed 5 = .ok (.invokevirtual 36, 3) := by decide +kernel
theorem dL_climbed_8 : decode cL_climbed 8 = .ok (.i2l, 1) := by decide +kernel
theorem dL_climbed_9 : decode cL_climbed 9 = .ok (.lastore, 1) := by decide +kernel
theorem dL_climbed_10 : decode cL_climbed 10 = .ok (.goto 7, 3) := by decide +kernel
theorem dL_climbed_13 : decode cL_climbed 13 = .ok (.astore 4, 2) := by decide +kernel
theorem dL_climbed_15 : decode cL_climbed 15 = .ok (.iconst 1, 1) := by decide +kernel
theorem dL_climbed_16 : decode cL_climbed 16 = .ok (.ireturn, 1) := by decide +kernel
theorem dL_climbed_17 : decode cL_climbed 17 = .ok (.iconst 0, 1) := by decide +kernel
theorem dL_climbed_18 : decode cL_climbed 18 = .ok (.ireturn, 1) := by decide +kernel
set_option maxRecDepth 20000 in
theorem ggL_setAlarm_X9_setAlarm : GoodIn wsL_setAlarm wsX9_setAlarm := goodIn_ca (goodIn_r _ [6, 7, 8, 9, 10, 11, 12, 5, 13, 14, 15, 16, 17, 18, 19, 20, 21, 22, 23, 24, 25, 26, 27, 28, 29, 30, 31, 32, 33, 34, 35, 36, 37, 38, 39, 40, 41, 42, 43, 44, 45, 46, 47, 48, 49, 50, 51, 52, 53, 54, 55, 56, 57, 58, 59, 60, 61, 62, 63, 64, 65, 66, 67, 68, 69, 70, 71, 72, 73, 74, 75, 76, 77, 78, 79, 80, 81, 82, 83, 84, 85, 86, 87, 88, 89, 90, 91, 92, 93, 94, 95, 96, 97, 98, 99, 100, 101, 102, 103, 104, 105, 106, 107, 108, 109, 110, 111, 112] (by decide +kernel) (by decide +kernel)) (goodIn_sub (fun _ h => List.mem_cons_of_mem _ (List.mem_append_right _ h)) (by decide +kernel))
set_option maxRecDepth 20000 in
theorem gL_setAlarm_X9_setAlarm : GoodIn wsL_setAlarm (wsV RL 39 RX9 yX9_setAlarm wsX9_setAlarm) := goodIn_app (goodIn_of _ (by decide +kernel)) ggL_setAlarm_X9_setAlarm
theorem dL_setAlarm_0 : decode cL_setAlarm 0 = .ok (.aload_n 2, 1) := by decide +kernel
theorem dL_setAlarm_1 : decode cL_setAlarm 1 = .ok (.iconst 0, 1) := by decide +kernel
theorem dL_setAlarm_2 : decode cL_setAlarm 2 = .ok (.aload_n 0, 1) := by decide +kernel
theorem dL_setAlarm_3 : decode cL_setAlarm 3 = .ok (.iload_n 1, 1) := by decide +kernel
theorem dL_setAlarm_4 : decode cL_setAlarm 4 = .ok (.invokevirtual 39, 3) := by decide +kernel
theorem dL_setAlarm_7 : decode cL_setAlarm 7 = .ok (.i2l, 1) := by decide +kernel
theorem dL_setAlarm_8 : decode cL_setAlarm 8 = .ok (.lastore, 1) := by decide +kernel
theorem dL_setAlarm_9 : decode cL_setAlarm 9 = .ok (.goto 6, 3) := by decide +kernel
theorem dL_setAlarm_12 : decode cL_setAlarm 12 = .ok (.astore_n 3, 1) := by decide +kernel
theorem dL_setAlarm_13 : decode cL_setAlarm 13 = .ok (.iconst 1, 1) := by decide +kernel
theorem dL_setAlarm_14 : decode cL_setAlarm 14 = .ok (.ireturn, 1) := by decide +kernel
theorem dL_setAlarm_15 : decode cL_setAlarm 15 = .ok (.iconst 0, 1) := by decide +kernel
theorem dL_setAlarm_16 : decode cL_setAlarm 16 = .ok (.ireturn, 1) := by decide +kernel
set_option maxRecDepth 20000 in
theorem ggL_altitudeAfter_X9_altitudeAfter : GoodIn wsL_altitudeAfter wsX9_altitudeAfter := goodIn_ca (goodIn_r _ [6, 7, 8, 9, 5, 10, 11, 12, 13, 14, 15, 16, 17, 18, 19, 20, 21, 22, 23, 24, 25, 26, 27, 28, 29, 30, 31, 32, 33, 34, 35, 36, 37, 38, 39, 40, 41, 42, 43, 44, 45, 46, 47, 48, 49] (by decide +kernel) (by decide +kernel)) (goodIn_sub (fun _ h => List.mem_cons_of_mem _ (List.mem_append_right _ h)) (by decide +kernel))
set_option maxRecDepth 20000 in
theorem gL_altitudeAfter_X9_altitudeAfter : GoodIn wsL_altitudeAfter (wsV RL 42 RX9 yX9_altitudeAfter wsX9_altitudeAfter) := goodIn_app (goodIn_of _ (by decide +kernel)) ggL_altitudeAfter_X9_altitudeAfter
theorem dL_altitudeAfter_0 : decode cL_altitudeAfter 0 = .ok (.aload_n 3, 1) := by decide +kernel
theorem dL_altitudeAfter_1 : decode cL_altitudeAfter 1 = .ok (.iconst 0, 1) := by decide +kernel
theorem dL_altitudeAfter_2 : decode cL_altitudeAfter 2 = .ok (.aload_n 0, 1) := by decide +kernel
theorem dL_altitudeAfter_3 : decode cL_altitudeAfter 3 = .ok (.iload_n 1, 1) := by decide +kernel
theorem dL_altitudeAfter_4 : decode cL_altitudeAfter 4 = .ok (.iload_n 2, 1) := by decide +kernel
theorem dL_altitudeAfter_5 : decode cL_altitudeAfter 5 = .ok (.invokevirtual 42, 3) := by decide +kernel
theorem dL_altitudeAfter_8 : decode cL_altitudeAfter 8 = .ok (.i2l, 1) := by decide +kernel
theorem dL_altitudeAfter_9 : decode cL_altitudeAfter 9 = .ok (.lastore, 1) := by decide +kernel
theorem dL_altitudeAfter_10 : decode cL_altitudeAfter 10 = .ok (.goto 7, 3) := by decide +kernel
theorem dL_altitudeAfter_13 : decode cL_altitudeAfter 13 = .ok (.astore 4, 2) := by decide +kernel
theorem dL_altitudeAfter_15 : decode cL_altitudeAfter 15 = .ok (.iconst 1, 1) := by decide +kernel
theorem dL_altitudeAfter_16 : decode cL_altitudeAfter 16 = .ok (.ireturn, 1) := by decide +kernel
theorem dL_altitudeAfter_17 : decode cL_altitudeAfter 17 = .ok (.iconst 0, 1) := by decide +kernel
theorem dL_altitudeAfter_18 : decode cL_altitudeAfter 18 = .ok (.ireturn, 1) := by decide +kernel
set_option maxRecDepth 20000 in
theorem ggL_ascentIn_X9_ascentIn : GoodIn wsL_ascentIn wsX9_ascentIn := goodIn_ca (goodIn_r _ [6, 7, 8, 9, 5, 10, 11, 12, 13, 14, 15, 16, 17, 18, 19, 20, 21, 22, 23, 24, 25, 26, 27, 28, 29, 30, 31, 32, 33, 34, 35, 36, 37, 38, 39, 40, 41, 42, 43, 44, 45, 46, 47, 48, 49, 50, 51, 52, 53, 54, 55, 56, 57, 58, 59, 60, 61, 62, 63, 64, 65, 66, 67, 68, 69, 70, 71] (by decide +kernel) (by decide +kernel)) (goodIn_sub (fun _ h => List.mem_cons_of_mem _ (List.mem_append_right _ h)) (by decide +kernel))
set_option maxRecDepth 20000 in
theorem gL_ascentIn_X9_ascentIn : GoodIn wsL_ascentIn (wsV RL 45 RX9 yX9_ascentIn wsX9_ascentIn) := goodIn_app (goodIn_of _ (by decide +kernel)) ggL_ascentIn_X9_ascentIn
theorem dL_ascentIn_0 : decode cL_ascentIn 0 = .ok (.aload_n 3, 1) := by decide +kernel
theorem dL_ascentIn_1 : decode cL_ascentIn 1 = .ok (.iconst 0, 1) := by decide +kernel
theorem dL_ascentIn_2 : decode cL_ascentIn 2 = .ok (.aload_n 0, 1) := by decide +kernel
theorem dL_ascentIn_3 : decode cL_ascentIn 3 = .ok (.iload_n 1, 1) := by decide +kernel
theorem dL_ascentIn_4 : decode cL_ascentIn 4 = .ok (.iload_n 2, 1) := by decide +kernel
theorem dL_ascentIn_5 : decode cL_ascentIn 5 = .ok (.invokevirtual 45, 3) := by decide +kernel
theorem dL_ascentIn_8 : decode cL_ascentIn 8 = .ok (.i2l, 1) := by decide +kernel
theorem dL_ascentIn_9 : decode cL_ascentIn 9 = .ok (.lastore, 1) := by decide +kernel
theorem dL_ascentIn_10 : decode cL_ascentIn 10 = .ok (.goto 7, 3) := by decide +kernel
theorem dL_ascentIn_13 : decode cL_ascentIn 13 = .ok (.astore 4, 2) := by decide +kernel
theorem dL_ascentIn_15 : decode cL_ascentIn 15 = .ok (.iconst 1, 1) := by decide +kernel
theorem dL_ascentIn_16 : decode cL_ascentIn 16 = .ok (.ireturn, 1) := by decide +kernel
theorem dL_ascentIn_17 : decode cL_ascentIn 17 = .ok (.iconst 0, 1) := by decide +kernel
theorem dL_ascentIn_18 : decode cL_ascentIn 18 = .ok (.ireturn, 1) := by decide +kernel
set_option maxRecDepth 20000 in
theorem ggL_pressureAt_X9_pressureAt : GoodIn wsL_pressureAt wsX9_pressureAt := goodIn_ca (goodIn_r _ [6, 7, 8, 9, 10, 5, 11, 12, 13, 14, 15, 16, 17, 18, 19, 20, 21, 22, 23, 24, 25, 26, 27, 28, 29, 30, 31, 32, 33, 34, 35, 36, 37, 38, 39, 40, 41, 42] (by decide +kernel) (by decide +kernel)) (goodIn_sub (fun _ h => List.mem_cons_of_mem _ (List.mem_append_right _ h)) (by decide +kernel))
set_option maxRecDepth 20000 in
theorem gL_pressureAt_X9_pressureAt : GoodIn wsL_pressureAt (wsV RL 48 RX9 yX9_pressureAt wsX9_pressureAt) := goodIn_app (goodIn_of _ (by decide +kernel)) ggL_pressureAt_X9_pressureAt
theorem dL_pressureAt_0 : decode cL_pressureAt 0 = .ok (.aload_n 2, 1) := by decide +kernel
theorem dL_pressureAt_1 : decode cL_pressureAt 1 = .ok (.iconst 0, 1) := by decide +kernel
theorem dL_pressureAt_2 : decode cL_pressureAt 2 = .ok (.aload_n 0, 1) := by decide +kernel
theorem dL_pressureAt_3 : decode cL_pressureAt 3 = .ok (.iload_n 1, 1) := by decide +kernel
theorem dL_pressureAt_4 : decode cL_pressureAt 4 = .ok (.invokevirtual 48, 3) := by decide +kernel
theorem dL_pressureAt_7 : decode cL_pressureAt 7 = .ok (.i2l, 1) := by decide +kernel
theorem dL_pressureAt_8 : decode cL_pressureAt 8 = .ok (.lastore, 1) := by decide +kernel
theorem dL_pressureAt_9 : decode cL_pressureAt 9 = .ok (.goto 6, 3) := by decide +kernel
theorem dL_pressureAt_12 : decode cL_pressureAt 12 = .ok (.astore_n 3, 1) := by decide +kernel
theorem dL_pressureAt_13 : decode cL_pressureAt 13 = .ok (.iconst 1, 1) := by decide +kernel
theorem dL_pressureAt_14 : decode cL_pressureAt 14 = .ok (.ireturn, 1) := by decide +kernel
theorem dL_pressureAt_15 : decode cL_pressureAt 15 = .ok (.iconst 0, 1) := by decide +kernel
theorem dL_pressureAt_16 : decode cL_pressureAt 16 = .ok (.ireturn, 1) := by decide +kernel
set_option maxRecDepth 20000 in
theorem ggL_minutesToAlarm_X9_minutesToAlarm : GoodIn wsL_minutesToAlarm wsX9_minutesToAlarm := goodIn_ca (goodIn_r _ [6, 7, 8, 9, 5, 10, 11, 12, 13, 14, 15, 16, 17, 18, 19, 20, 21, 22, 23, 24, 25, 26, 27, 28, 29, 30, 31, 32, 33, 34, 35, 36, 37, 38, 39, 40, 41, 42, 43, 44, 45, 46, 47, 48, 49, 50, 51, 52, 53, 54, 55, 56, 57, 58, 59, 60, 61, 62, 63, 64, 65, 66] (by decide +kernel) (by decide +kernel)) (goodIn_sub (fun _ h => List.mem_cons_of_mem _ (List.mem_append_right _ h)) (by decide +kernel))
set_option maxRecDepth 20000 in
theorem gL_minutesToAlarm_X9_minutesToAlarm : GoodIn wsL_minutesToAlarm (wsV RL 51 RX9 yX9_minutesToAlarm wsX9_minutesToAlarm) := goodIn_app (goodIn_of _ (by decide +kernel)) ggL_minutesToAlarm_X9_minutesToAlarm
theorem dL_minutesToAlarm_0 : decode cL_minutesToAlarm 0 = .ok (.aload_n 2, 1) := by decide +kernel
theorem dL_minutesToAlarm_1 : decode cL_minutesToAlarm 1 = .ok (.iconst 0, 1) := by decide +kernel
theorem dL_minutesToAlarm_2 : decode cL_minutesToAlarm 2 = .ok (.aload_n 0, 1) := by decide +kernel
theorem dL_minutesToAlarm_3 : decode cL_minutesToAlarm 3 = .ok (.iload_n 1, 1) := by decide +kernel
theorem dL_minutesToAlarm_4 : decode cL_minutesToAlarm 4 = .ok (.invokevirtual 51, 3) := by decide +kernel
theorem dL_minutesToAlarm_7 : decode cL_minutesToAlarm 7 = .ok (.i2l, 1) := by decide +kernel
theorem dL_minutesToAlarm_8 : decode cL_minutesToAlarm 8 = .ok (.lastore, 1) := by decide +kernel
theorem dL_minutesToAlarm_9 : decode cL_minutesToAlarm 9 = .ok (.goto 6, 3) := by decide +kernel
theorem dL_minutesToAlarm_12 : decode cL_minutesToAlarm 12 = .ok (.astore_n 3, 1) := by decide +kernel
theorem dL_minutesToAlarm_13 : decode cL_minutesToAlarm 13 = .ok (.iconst 1, 1) := by decide +kernel
theorem dL_minutesToAlarm_14 : decode cL_minutesToAlarm 14 = .ok (.ireturn, 1) := by decide +kernel
theorem dL_minutesToAlarm_15 : decode cL_minutesToAlarm 15 = .ok (.iconst 0, 1) := by decide +kernel
theorem dL_minutesToAlarm_16 : decode cL_minutesToAlarm 16 = .ok (.ireturn, 1) := by decide +kernel
set_option maxRecDepth 20000 in
theorem ggL_append_X9_append : GoodIn wsL_append wsX9_append := goodIn_ca (goodIn_ca (goodIn_r _ [7, 8, 9, 10, 11, 12, 13, 6, 14, 15, 16, 17, 18, 19, 20, 21, 22, 23, 24, 25, 26, 27, 28, 29, 30] (by decide +kernel) (by decide +kernel)) (goodIn_sub (fun _ h => List.mem_cons_of_mem _ (List.mem_append_left _ (List.mem_append_right _ h))) (by decide +kernel))) (goodIn_sub (fun _ h => List.mem_cons_of_mem _ (List.mem_append_right _ h)) (by decide +kernel))
set_option maxRecDepth 20000 in
theorem gL_append_X9_append : GoodIn wsL_append (wsV RL 54 RX9 yX9_append wsX9_append) := goodIn_app (goodIn_of _ (by decide +kernel)) ggL_append_X9_append
theorem dL_append_0 : decode cL_append 0 = .ok (.aload_n 2, 1) := by decide +kernel
theorem dL_append_1 : decode cL_append 1 = .ok (.iconst 0, 1) := by decide +kernel
theorem dL_append_2 : decode cL_append 2 = .ok (.aload_n 0, 1) := by decide +kernel
theorem dL_append_3 : decode cL_append 3 = .ok (.iload_n 1, 1) := by decide +kernel
theorem dL_append_4 : decode cL_append 4 = .ok (.invokevirtual 54, 3) := by decide +kernel
theorem dL_append_7 : decode cL_append 7 = .ok (.i2l, 1) := by decide +kernel
theorem dL_append_8 : decode cL_append 8 = .ok (.lastore, 1) := by decide +kernel
theorem dL_append_9 : decode cL_append 9 = .ok (.goto 9, 3) := by decide +kernel
theorem dL_append_12 : decode cL_append 12 = .ok (.astore_n 3, 1) := by decide +kernel
theorem dL_append_13 : decode cL_append 13 = .ok (.iconst 1, 1) := by decide +kernel
theorem dL_append_14 : decode cL_append 14 = .ok (.ireturn, 1) := by decide +kernel
theorem dL_append_15 : decode cL_append 15 = .ok (.astore_n 3, 1) := by decide +kernel
theorem dL_append_16 : decode cL_append 16 = .ok (.iconst 2, 1) := by decide +kernel
theorem dL_append_17 : decode cL_append 17 = .ok (.ireturn, 1) := by decide +kernel
theorem dL_append_18 : decode cL_append 18 = .ok (.iconst 0, 1) := by decide +kernel
theorem dL_append_19 : decode cL_append 19 = .ok (.ireturn, 1) := by decide +kernel
set_option maxRecDepth 20000 in
theorem ggL_run_X9_run : GoodIn wsL_run wsX9_run := goodIn_ca (goodIn_r _ [6, 7, 8, 9, 10, 11, 12, 13, 14, 15, 16, 17, 18, 19, 20, 21, 22, 23, 24, 25, 26, 27, 28, 29, 30, 31, 32, 33, 34, 35, 36, 37, 38, 39, 40, 41, 42, 43, 44, 45, 46, 47, 48, 49, 50, 51, 52, 53, 54, 55, 56, 57, 58, 59, 60, 61, 62, 63, 64, 65, 66, 67, 68, 69, 70, 71, 72, 73, 74, 75, 76, 77, 78, 79, 80, 81, 82, 83, 84, 85, 86, 87, 88, 89, 90, 91, 92, 93, 94, 95, 96, 97, 98, 99, 100, 101, 102, 103, 104, 105, 106, 107, 108, 109, 110, 111, 112, 113, 114, 115, 116, 117, 118, 5, 119, 120, 121, 122, 123, 124, 125, 126, 127, 128, 129, 130, 131, 132, 133, 134, 135, 136, 137, 138, 139, 140, 141, 142, 143, 144, 145, 146, 147, 148, 149, 150, 151, 152, 153, 154, 155, 156, 157, 158, 159, 160, 161, 162, 163, 164, 165, 166, 167, 168, 169, 170, 171, 172, 173, 174, 175, 176, 177, 178, 179, 180, 181, 182, 183, 184, 185, 186, 187, 188, 189, 190, 191, 192, 193, 194, 195, 196, 197, 198, 199, 200, 201, 202, 203, 204, 205, 206, 207, 208, 209, 210, 211, 212, 213, 214, 215, 216, 217, 218, 219, 220, 221, 222, 223, 224, 225, 226, 227, 228, 229, 230, 231, 232, 233, 234, 235, 236, 237, 238, 239, 240, 241, 242, 243, 244, 245, 246, 247, 248, 249, 250, 251, 252, 253, 254, 255, 256, 257, 258, 259] (by decide +kernel) (by decide +kernel)) (goodIn_sub (fun _ h => List.mem_cons_of_mem _ (List.mem_append_right _ h)) (by decide +kernel))
set_option maxRecDepth 20000 in
theorem gL_run_X9_run : GoodIn wsL_run (wsV RL 59 RX9 yX9_run wsX9_run) := goodIn_app (goodIn_of _ (by decide +kernel)) ggL_run_X9_run
theorem dL_run_0 : decode cL_run 0 = .ok (.aload_n 1, 1) := by decide +kernel
theorem dL_run_1 : decode cL_run 1 = .ok (.iconst 0, 1) := by decide +kernel
theorem dL_run_2 : decode cL_run 2 = .ok (.aload_n 0, 1) := by decide +kernel
theorem dL_run_3 : decode cL_run 3 = .ok (.invokevirtual 59, 3) := by decide +kernel
theorem dL_run_6 : decode cL_run 6 = .ok (.i2l, 1) := by decide +kernel
theorem dL_run_7 : decode cL_run 7 = .ok (.lastore, 1) := by decide +kernel
theorem dL_run_8 : decode cL_run 8 = .ok (.goto 6, 3) := by decide +kernel
theorem dL_run_11 : decode cL_run 11 = .ok (.astore_n 2, 1) := by decide +kernel
theorem dL_run_12 : decode cL_run 12 = .ok (.iconst 1, 1) := by decide +kernel
theorem dL_run_13 : decode cL_run 13 = .ok (.ireturn, 1) := by decide +kernel
theorem dL_run_14 : decode cL_run 14 = .ok (.iconst 0, 1) := by decide +kernel
theorem dL_run_15 : decode cL_run 15 = .ok (.ireturn, 1) := by decide +kernel
set_option maxRecDepth 20000 in
theorem ggL_undo_X9_undo : GoodIn wsL_undo wsX9_undo := goodIn_ca (goodIn_r _ [6, 7, 8, 9, 10, 11, 12, 13, 14, 15, 16, 17, 18, 19, 20, 21, 22, 23, 24, 25, 26, 27, 28, 29, 30, 31, 32, 33, 34, 35, 36, 37, 38, 39, 40, 41, 42, 43, 44, 45, 46, 47, 48, 49, 50, 51, 52, 53, 54, 55, 56, 57, 58, 5, 59, 60, 61, 62, 63, 64, 65, 66, 67, 68, 69, 70, 71, 72, 73, 74, 75, 76, 77, 78, 79, 80, 81, 82, 83, 84, 85, 86, 87, 88, 89, 90, 91, 92, 93, 94, 95, 96, 97, 98, 99, 100, 101, 102, 103, 104, 105, 106, 107] (by decide +kernel) (by decide +kernel)) (goodIn_sub (fun _ h => List.mem_cons_of_mem _ (List.mem_append_right _ h)) (by decide +kernel))
set_option maxRecDepth 20000 in
theorem gL_undo_X9_undo : GoodIn wsL_undo (wsV RL 63 RX9 yX9_undo wsX9_undo) := goodIn_app (goodIn_of _ (by decide +kernel)) ggL_undo_X9_undo
theorem dL_undo_0 : decode cL_undo 0 = .ok (.aload_n 1, 1) := by decide +kernel
theorem dL_undo_1 : decode cL_undo 1 = .ok (.iconst 0, 1) := by decide +kernel
theorem dL_undo_2 : decode cL_undo 2 = .ok (.aload_n 0, 1) := by decide +kernel
theorem dL_undo_3 : decode cL_undo 3 = .ok (.invokevirtual 63, 3) := by decide +kernel
theorem dL_undo_6 : decode cL_undo 6 = .ok (.i2l, 1) := by decide +kernel
theorem dL_undo_7 : decode cL_undo 7 = .ok (.lastore, 1) := by decide +kernel
theorem dL_undo_8 : decode cL_undo 8 = .ok (.goto 6, 3) := by decide +kernel
theorem dL_undo_11 : decode cL_undo 11 = .ok (.astore_n 2, 1) := by decide +kernel
theorem dL_undo_12 : decode cL_undo 12 = .ok (.iconst 1, 1) := by decide +kernel
theorem dL_undo_13 : decode cL_undo 13 = .ok (.ireturn, 1) := by decide +kernel
theorem dL_undo_14 : decode cL_undo 14 = .ok (.iconst 0, 1) := by decide +kernel
theorem dL_undo_15 : decode cL_undo 15 = .ok (.ireturn, 1) := by decide +kernel
set_option maxRecDepth 20000 in
theorem ggL_store_X9_store : GoodIn wsL_store wsX9_store := goodIn_ca (goodIn_r _ [6, 7, 8, 9, 10, 11, 5, 12, 13, 14, 15, 16, 17, 18, 19, 20, 21, 22, 23, 24, 25, 26, 27, 28, 29, 30, 31, 32, 33, 34, 35, 36, 37, 38, 39, 40, 41, 42, 43, 44, 45, 46, 47, 48, 49, 50, 51, 52, 53, 54, 55, 56, 57, 58, 59, 60, 61, 62, 63, 64, 65, 66, 67, 68, 69, 70, 71, 72, 73, 74, 75, 76, 77, 78, 79, 80, 81, 82, 83, 84, 85, 86, 87, 88, 89, 90, 91, 92, 93, 94, 95, 96, 97, 98, 99, 100, 101, 102, 103, 104, 105, 106, 107, 108, 109, 110, 111, 112, 113, 114] (by decide +kernel) (by decide +kernel)) (goodIn_sub (fun _ h => List.mem_cons_of_mem _ (List.mem_append_right _ h)) (by decide +kernel))
set_option maxRecDepth 20000 in
theorem gL_store_X9_store : GoodIn wsL_store (wsV RL 66 RX9 yX9_store wsX9_store) := goodIn_app (goodIn_of _ (by decide +kernel)) ggL_store_X9_store
theorem dL_store_0 : decode cL_store 0 = .ok (.aload_n 2, 1) := by decide +kernel
theorem dL_store_1 : decode cL_store 1 = .ok (.iconst 0, 1) := by decide +kernel
theorem dL_store_2 : decode cL_store 2 = .ok (.aload_n 0, 1) := by decide +kernel
theorem dL_store_3 : decode cL_store 3 = .ok (.iload_n 1, 1) := by decide +kernel
theorem dL_store_4 : decode cL_store 4 = .ok (.invokevirtual 66, 3) := by decide +kernel
theorem dL_store_7 : decode cL_store 7 = .ok (.i2l, 1) := by decide +kernel
theorem dL_store_8 : decode cL_store 8 = .ok (.lastore, 1) := by decide +kernel
theorem dL_store_9 : decode cL_store 9 = .ok (.goto 6, 3) := by decide +kernel
theorem dL_store_12 : decode cL_store 12 = .ok (.astore_n 3, 1) := by decide +kernel
theorem dL_store_13 : decode cL_store 13 = .ok (.iconst 1, 1) := by decide +kernel
theorem dL_store_14 : decode cL_store 14 = .ok (.ireturn, 1) := by decide +kernel
theorem dL_store_15 : decode cL_store 15 = .ok (.iconst 0, 1) := by decide +kernel
theorem dL_store_16 : decode cL_store 16 = .ok (.ireturn, 1) := by decide +kernel
set_option maxRecDepth 20000 in
theorem ggL_recall_X9_recall : GoodIn wsL_recall wsX9_recall := goodIn_ca (goodIn_ca (goodIn_r _ [7, 8, 9, 10, 11, 12, 13, 14, 15, 6, 16, 17, 18, 19, 20, 21, 22, 23, 24, 25, 26, 27, 28, 29, 30, 31, 32, 33, 34, 35, 36, 37, 38, 39, 40, 41, 42, 43, 44, 45, 46, 47, 48, 49, 50, 51, 52, 53, 54, 55, 56, 57, 58, 59, 60, 61, 62, 63, 64, 65, 66, 67, 68, 69, 70, 71, 72, 73, 74, 75, 76, 77, 78, 79, 80, 81, 82, 83, 84, 85, 86, 87, 88, 89, 90, 91, 92, 93, 94, 95, 96, 97, 98, 99, 100, 101, 102, 103, 104, 105, 106, 107, 108, 109, 110, 111, 112, 113, 114, 115, 116, 117, 118, 119, 120, 121, 122, 123, 124, 125, 126, 127, 128, 129, 130, 131, 132, 133, 134, 135] (by decide +kernel) (by decide +kernel)) (goodIn_sub (fun _ h => List.mem_cons_of_mem _ (List.mem_append_left _ (List.mem_append_right _ h))) (by decide +kernel))) (goodIn_sub (fun _ h => List.mem_cons_of_mem _ (List.mem_append_right _ h)) (by decide +kernel))
set_option maxRecDepth 20000 in
theorem gL_recall_X9_recall : GoodIn wsL_recall (wsV RL 69 RX9 yX9_recall wsX9_recall) := goodIn_app (goodIn_of _ (by decide +kernel)) ggL_recall_X9_recall
theorem dL_recall_0 : decode cL_recall 0 = .ok (.aload_n 2, 1) := by decide +kernel
theorem dL_recall_1 : decode cL_recall 1 = .ok (.iconst 0, 1) := by decide +kernel
theorem dL_recall_2 : decode cL_recall 2 = .ok (.aload_n 0, 1) := by decide +kernel
theorem dL_recall_3 : decode cL_recall 3 = .ok (.iload_n 1, 1) := by decide +kernel
theorem dL_recall_4 : decode cL_recall 4 = .ok (.invokevirtual 69, 3) := by decide +kernel
theorem dL_recall_7 : decode cL_recall 7 = .ok (.i2l, 1) := by decide +kernel
theorem dL_recall_8 : decode cL_recall 8 = .ok (.lastore, 1) := by decide +kernel
theorem dL_recall_9 : decode cL_recall 9 = .ok (.goto 9, 3) := by decide +kernel
theorem dL_recall_12 : decode cL_recall 12 = .ok (.astore_n 3, 1) := by decide +kernel
theorem dL_recall_13 : decode cL_recall 13 = .ok (.iconst 1, 1) := by decide +kernel
theorem dL_recall_14 : decode cL_recall 14 = .ok (.ireturn, 1) := by decide +kernel
theorem dL_recall_15 : decode cL_recall 15 = .ok (.astore_n 3, 1) := by decide +kernel
theorem dL_recall_16 : decode cL_recall 16 = .ok (.iconst 2, 1) := by decide +kernel
theorem dL_recall_17 : decode cL_recall 17 = .ok (.ireturn, 1) := by decide +kernel
theorem dL_recall_18 : decode cL_recall 18 = .ok (.iconst 0, 1) := by decide +kernel
theorem dL_recall_19 : decode cL_recall 19 = .ok (.ireturn, 1) := by decide +kernel
set_option maxRecDepth 20000 in
theorem ggL_law_X9_init : GoodIn wsL_law wsX9_init := goodIn_r _ [9, 10, 11, 12, 13, 14, 15, 16, 17, 18, 19, 20, 21, 22, 23, 24, 25, 26, 27, 28, 29, 30, 31, 32, 33, 34, 35, 36, 37, 38, 39, 40, 41, 42, 43, 44, 45, 46, 47, 48, 49, 50, 51, 52, 53, 54, 55, 56, 57, 58, 59, 60, 61, 62, 63, 64, 65, 66, 67, 68, 69, 70, 71, 72, 73, 74, 75, 76, 77, 909, 910, 911, 912, 913, 914, 915, 916, 917, 918, 893, 894, 895, 896, 897, 919, 920, 921, 922, 923, 924, 925, 926, 927, 928, 929, 930, 931, 932, 933, 934, 935, 936, 937, 938] (by decide +kernel) (by decide +kernel)
set_option maxRecDepth 20000 in
theorem gL_law_X9_init : GoodIn wsL_law (wsX9_init) := ggL_law_X9_init
set_option maxRecDepth 20000 in
theorem ggL_law_X10_init : GoodIn wsL_law wsX10_init := goodIn_r _ [80, 81, 11, 12, 54, 82, 83, 84, 85, 898, 899, 900, 901, 902, 903, 904, 905, 906, 907, 908] (by decide +kernel) (by decide +kernel)
set_option maxRecDepth 20000 in
theorem gL_law_X10_init : GoodIn wsL_law (wsX10_init) := ggL_law_X10_init
set_option maxRecDepth 20000 in
theorem ggL_law_L_travel : GoodIn wsL_law wsL_travel := goodIn_ca (goodIn_r _ [89, 90, 91, 92, 93, 2, 94, 20, 16, 95, 96, 97, 98, 99, 100, 101, 102, 19, 103, 104, 105, 106, 107, 108, 109, 110, 111, 112, 113, 68, 114, 115, 116, 15, 117, 118, 119, 33, 34, 120, 121, 122, 38, 42, 46, 123, 124, 125, 37, 126, 127, 128, 129, 50, 130, 131, 132, 41, 133, 55, 134, 56, 135, 136, 137, 138, 139, 140, 141, 142, 143, 144, 145, 146, 45, 147, 60, 61, 62, 148, 149, 150, 151, 152, 153, 154, 155, 156, 157, 158, 159, 160, 161, 162, 163, 164, 165, 166, 167, 168, 169, 170, 171, 172, 173, 174, 175, 176, 177, 178, 179, 180, 181, 182, 183, 184, 185, 186, 187, 188, 189, 190, 191, 192, 193, 194, 195, 196, 197, 198, 199, 200, 201, 202, 203, 204, 205, 893, 894, 895, 896, 897, 919, 920, 921, 909, 910, 911, 912, 913, 914, 915, 916, 917, 918, 926, 927, 928, 929, 930, 931, 932, 933, 934, 935, 936, 937, 938] (by decide +kernel) (by decide +kernel)) (goodIn_sub (fun _ h => List.mem_append_left _ (List.mem_append_left _ (List.mem_append_right _ h))) (by decide +kernel))
set_option maxRecDepth 20000 in
theorem gL_law_L_travel : GoodIn wsL_law (va_wsS RL 76 yL_travel wsL_travel) := goodIn_app (goodIn_of _ (by decide +kernel)) ggL_law_L_travel
set_option maxRecDepth 20000 in
theorem ggL_law_X10_travel : GoodIn wsL_law wsX10_travel := goodIn_r _ [209, 210, 211, 5, 212, 213, 214, 215, 216, 217, 218, 219, 220, 221, 222, 223, 224, 225, 226, 227, 228, 229, 82, 230, 231, 232, 233, 234, 235, 236, 237, 238, 239, 240, 241, 242, 243, 244, 245, 246, 247, 248, 249, 250, 251, 252, 253, 254, 255, 256, 257, 258, 259, 260, 261, 262, 263, 264, 265, 266, 267, 898, 899, 900, 901, 902, 903, 904, 905, 906, 907, 908] (by decide +kernel) (by decide +kernel)
set_option maxRecDepth 20000 in
theorem gL_law_X10_travel : GoodIn wsL_law (wsV RL 81 RX10 yX10_travel wsX10_travel) := goodIn_app (goodIn_of _ (by decide +kernel)) ggL_law_X10_travel
set_option maxRecDepth 20000 in
theorem ggL_law_X10_thrown : GoodIn wsL_law wsX10_thrown := goodIn_r _ [271, 220, 898, 899, 900, 901, 902, 903, 904, 905, 906, 907, 908] (by decide +kernel) (by decide +kernel)
set_option maxRecDepth 20000 in
theorem gL_law_X10_thrown : GoodIn wsL_law (wsV RL 82 RX10 yX10_thrown wsX10_thrown) := goodIn_app (goodIn_of _ (by decide +kernel)) ggL_law_X10_thrown
set_option maxRecDepth 20000 in
theorem ggL_law_X9_setStation : GoodIn wsL_law wsX9_setStation := goodIn_r _ [275, 16, 276, 20, 100, 101, 102, 19, 103, 104, 105, 106, 107, 108, 109, 110, 111, 112, 113, 68, 114, 115, 116, 15, 117, 118, 119, 33, 34, 120, 121, 122, 38, 42, 46, 123, 124, 125, 37, 126, 127, 128, 129, 50, 130, 131, 132, 41, 133, 55, 134, 56, 135, 136, 137, 2, 138, 139, 140, 141, 142, 143, 144, 145, 146, 45, 147, 60, 61, 62, 148, 277, 278, 279, 280, 281, 282, 283, 284, 285, 196, 197, 198, 199, 200, 167, 155, 168, 160, 161, 162, 893, 894, 895, 896, 897, 909, 910, 911, 912, 913, 914, 915, 916, 917, 918, 919, 920, 921, 926, 927, 928, 929, 930, 931, 932, 933, 934, 935, 936, 937, 938] (by decide +kernel) (by decide +kernel)
set_option maxRecDepth 20000 in
theorem gL_law_X9_setStation : GoodIn wsL_law (wsV RL 85 RX9 yX9_setStation wsX9_setStation) := goodIn_app (goodIn_of _ (by decide +kernel)) ggL_law_X9_setStation
set_option maxRecDepth 20000 in
theorem ggL_law_X10_setStation : GoodIn wsL_law wsX10_setStation := goodIn_r _ [289, 220, 82, 221, 222, 223, 5, 224, 225, 226, 227, 228, 229, 290, 291, 292, 293, 256, 257, 258, 259, 242, 243, 244, 898, 899, 900, 901, 902, 903, 904, 905, 906, 907, 908] (by decide +kernel) (by decide +kernel)
set_option maxRecDepth 20000 in
theorem gL_law_X10_setStation : GoodIn wsL_law (wsV RL 89 RX10 yX10_setStation wsX10_setStation) := goodIn_app (goodIn_of _ (by decide +kernel)) ggL_law_X10_setStation
set_option maxRecDepth 20000 in
theorem ggL_law_X9_isStation : GoodIn wsL_law wsX9_isStation := goodIn_r _ [297, 16, 276, 893, 894, 895, 896, 897, 909, 910, 911, 912, 913, 914, 915, 916, 917, 918] (by decide +kernel) (by decide +kernel)
set_option maxRecDepth 20000 in
theorem gL_law_X9_isStation : GoodIn wsL_law (wsV RL 90 RX9 yX9_isStation wsX9_isStation) := goodIn_app (goodIn_of _ (by decide +kernel)) ggL_law_X9_isStation
set_option maxRecDepth 20000 in
theorem ggL_law_X10_isStation : GoodIn wsL_law wsX10_isStation := goodIn_r _ [301, 220, 82, 898, 899, 900, 901, 902, 903, 904, 905, 906, 907, 908] (by decide +kernel) (by decide +kernel)
set_option maxRecDepth 20000 in
theorem gL_law_X10_isStation : GoodIn wsL_law (wsV RL 94 RX10 yX10_isStation wsX10_isStation) := goodIn_app (goodIn_of _ (by decide +kernel)) ggL_law_X10_isStation
set_option maxRecDepth 20000 in
theorem ggL_law_X9_pressure : GoodIn wsL_law wsX9_pressure := goodIn_r _ [305, 16, 306, 893, 894, 895, 896, 897, 909, 910, 911, 912, 913, 914, 915, 916, 917, 918] (by decide +kernel) (by decide +kernel)
set_option maxRecDepth 20000 in
theorem gL_law_X9_pressure : GoodIn wsL_law (wsV RL 95 RX9 yX9_pressure wsX9_pressure) := goodIn_app (goodIn_of _ (by decide +kernel)) ggL_law_X9_pressure
set_option maxRecDepth 20000 in
theorem ggL_law_X10_pressure : GoodIn wsL_law wsX10_pressure := goodIn_r _ [310, 82, 311, 312, 313, 5, 314, 220, 898, 899, 900, 901, 902, 903, 904, 905, 906, 907, 908] (by decide +kernel) (by decide +kernel)
set_option maxRecDepth 20000 in
theorem gL_law_X10_pressure : GoodIn wsL_law (wsV RL 98 RX10 yX10_pressure wsX10_pressure) := goodIn_app (goodIn_of _ (by decide +kernel)) ggL_law_X10_pressure
set_option maxRecDepth 20000 in
theorem ggL_law_X9_altitude : GoodIn wsL_law wsX9_altitude := goodIn_r _ [318, 16, 205, 197, 198, 15, 199, 33, 34, 200, 167, 155, 168, 160, 161, 162, 893, 894, 895, 896, 897, 909, 910, 911, 912, 913, 914, 915, 916, 917, 918] (by decide +kernel) (by decide +kernel)
set_option maxRecDepth 20000 in
theorem gL_law_X9_altitude : GoodIn wsL_law (wsV RL 99 RX9 yX9_altitude wsX9_altitude) := goodIn_app (goodIn_of _ (by decide +kernel)) ggL_law_X9_altitude
set_option maxRecDepth 20000 in
theorem ggL_law_X10_altitude : GoodIn wsL_law wsX10_altitude := goodIn_r _ [322, 256, 257, 258, 5, 259, 82, 242, 243, 244, 311, 312, 313, 314, 220, 898, 899, 900, 901, 902, 903, 904, 905, 906, 907, 908] (by decide +kernel) (by decide +kernel)
set_option maxRecDepth 20000 in
theorem gL_law_X10_altitude : GoodIn wsL_law (wsV RL 102 RX10 yX10_altitude wsX10_altitude) := goodIn_app (goodIn_of _ (by decide +kernel)) ggL_law_X10_altitude
set_option maxRecDepth 20000 in
theorem ggL_law_X9_minutes : GoodIn wsL_law wsX9_minutes := goodIn_r _ [326, 16, 327, 893, 894, 895, 896, 897, 909, 910, 911, 912, 913, 914, 915, 916, 917, 918] (by decide +kernel) (by decide +kernel)
set_option maxRecDepth 20000 in
theorem gL_law_X9_minutes : GoodIn wsL_law (wsV RL 103 RX9 yX9_minutes wsX9_minutes) := goodIn_app (goodIn_of _ (by decide +kernel)) ggL_law_X9_minutes
set_option maxRecDepth 20000 in
theorem ggL_law_X10_minutes : GoodIn wsL_law wsX10_minutes := goodIn_r _ [331, 82, 311, 312, 313, 5, 314, 220, 898, 899, 900, 901, 902, 903, 904, 905, 906, 907, 908] (by decide +kernel) (by decide +kernel)
set_option maxRecDepth 20000 in
theorem gL_law_X10_minutes : GoodIn wsL_law (wsV RL 106 RX10 yX10_minutes wsX10_minutes) := goodIn_app (goodIn_of _ (by decide +kernel)) ggL_law_X10_minutes
set_option maxRecDepth 20000 in
theorem ggL_law_L_standard : GoodIn wsL_law wsL_standard := goodIn_ca (goodIn_r _ [334, 90, 335, 336, 337, 2, 338, 95, 96, 97, 98, 99, 339, 161, 155, 162] (by decide +kernel) (by decide +kernel)) (goodIn_sub (fun _ h => List.mem_append_left _ (List.mem_append_left _ (List.mem_append_right _ h))) (by decide +kernel))
set_option maxRecDepth 20000 in
theorem gL_law_L_standard : GoodIn wsL_law (va_wsS RL 107 yL_standard wsL_standard) := goodIn_app (goodIn_of _ (by decide +kernel)) ggL_law_L_standard
set_option maxRecDepth 20000 in
theorem ggL_law_X10_standard : GoodIn wsL_law wsX10_standard := goodIn_r _ [343, 213, 214, 5, 215, 216, 217, 218, 219, 220, 242, 243, 244, 898, 899, 900, 901, 902, 903, 904, 905, 906, 907, 908] (by decide +kernel) (by decide +kernel)
set_option maxRecDepth 20000 in
theorem gL_law_X10_standard : GoodIn wsL_law (wsV RL 110 RX10 yX10_standard wsX10_standard) := goodIn_app (goodIn_of _ (by decide +kernel)) ggL_law_X10_standard
set_option maxRecDepth 20000 in
theorem ggL_law_L_setSea : GoodIn wsL_law wsL_setSea := goodIn_ca (goodIn_r _ [346, 90, 347, 348, 349, 2, 350, 16, 351, 20, 95, 96, 97, 98, 99, 100, 101, 102, 19, 103, 104, 105, 106, 107, 108, 109, 110, 111, 112, 113, 68, 114, 115, 116, 15, 117, 118, 119, 33, 34, 120, 121, 122, 38, 42, 46, 123, 124, 125, 37, 126, 127, 128, 129, 50, 130, 131, 132, 41, 133, 55, 134, 56, 135, 136, 137, 138, 139, 140, 141, 142, 143, 144, 145, 146, 45, 147, 60, 61, 62, 148, 352, 353, 354, 355, 281, 196, 197, 198, 199, 200, 167, 155, 168, 160, 161, 162, 893, 894, 895, 896, 897, 909, 910, 911, 912, 913, 914, 915, 916, 917, 918, 919, 920, 921, 926, 927, 928, 929, 930, 931, 932, 933, 934, 935, 936, 937, 938] (by decide +kernel) (by decide +kernel)) (goodIn_sub (fun _ h => List.mem_append_left _ (List.mem_append_left _ (List.mem_append_right _ h))) (by decide +kernel))
set_option maxRecDepth 20000 in
theorem gL_law_L_setSea : GoodIn wsL_law (va_wsS RL 111 yL_setSea wsL_setSea) := goodIn_app (goodIn_of _ (by decide +kernel)) ggL_law_L_setSea
set_option maxRecDepth 20000 in
theorem ggL_law_X10_setSea : GoodIn wsL_law wsX10_setSea := goodIn_r _ [359, 213, 214, 5, 215, 216, 217, 218, 219, 220, 360, 361, 362, 363, 82, 221, 222, 223, 224, 225, 226, 227, 228, 229, 364, 365, 366, 367, 256, 257, 258, 259, 242, 243, 244, 898, 899, 900, 901, 902, 903, 904, 905, 906, 907, 908] (by decide +kernel) (by decide +kernel)
set_option maxRecDepth 20000 in
theorem gL_law_X10_setSea : GoodIn wsL_law (wsV RL 113 RX10 yX10_setSea wsX10_setSea) := goodIn_app (goodIn_of _ (by decide +kernel)) ggL_law_X10_setSea
set_option maxRecDepth 20000 in
theorem ggL_law_L_calibrate : GoodIn wsL_law wsL_calibrate := goodIn_ca (goodIn_r _ [370, 90, 371, 372, 373, 2, 374, 375, 20, 16, 95, 96, 97, 98, 99, 100, 101, 102, 19, 103, 104, 105, 106, 107, 108, 109, 110, 111, 112, 113, 68, 114, 115, 116, 15, 117, 118, 119, 33, 34, 120, 121, 122, 38, 42, 46, 123, 124, 125, 37, 126, 127, 128, 129, 50, 130, 131, 132, 41, 133, 55, 134, 56, 135, 136, 137, 138, 139, 140, 141, 142, 143, 144, 145, 146, 45, 147, 60, 61, 62, 148, 376, 377, 378, 379, 196, 197, 198, 199, 200, 167, 155, 168, 160, 161, 162, 157, 158, 159, 163, 164, 165, 166, 380, 353, 354, 355, 281, 893, 894, 895, 896, 897, 919, 920, 921, 909, 910, 911, 912, 913, 914, 915, 916, 917, 918, 926, 927, 928, 929, 930, 931, 932, 933, 934, 935, 936, 937, 938] (by decide +kernel) (by decide +kernel)) (goodIn_sub (fun _ h => List.mem_append_left _ (List.mem_append_left _ (List.mem_append_right _ h))) (by decide +kernel))
set_option maxRecDepth 20000 in
theorem gL_law_L_calibrate : GoodIn wsL_law (va_wsS RL 114 yL_calibrate wsL_calibrate) := goodIn_app (goodIn_of _ (by decide +kernel)) ggL_law_L_calibrate
set_option maxRecDepth 20000 in
theorem ggL_law_X10_calibrate : GoodIn wsL_law wsX10_calibrate := goodIn_r _ [384, 385, 213, 214, 5, 215, 216, 217, 218, 219, 220, 221, 222, 223, 224, 225, 226, 227, 228, 229, 82, 386, 387, 388, 389, 256, 257, 258, 259, 242, 243, 244, 238, 239, 240, 241, 245, 246, 247, 364, 365, 366, 367, 898, 899, 900, 901, 902, 903, 904, 905, 906, 907, 908] (by decide +kernel) (by decide +kernel)
set_option maxRecDepth 20000 in
theorem gL_law_X10_calibrate : GoodIn wsL_law (wsV RL 116 RX10 yX10_calibrate wsX10_calibrate) := goodIn_app (goodIn_of _ (by decide +kernel)) ggL_law_X10_calibrate
set_option maxRecDepth 20000 in
theorem ggL_law_X9_sea : GoodIn wsL_law wsX9_sea := goodIn_r _ [393, 16, 351, 893, 894, 895, 896, 897, 909, 910, 911, 912, 913, 914, 915, 916, 917, 918] (by decide +kernel) (by decide +kernel)
set_option maxRecDepth 20000 in
theorem gL_law_X9_sea : GoodIn wsL_law (wsV RL 117 RX9 yX9_sea wsX9_sea) := goodIn_app (goodIn_of _ (by decide +kernel)) ggL_law_X9_sea
set_option maxRecDepth 20000 in
theorem ggL_law_X10_sea : GoodIn wsL_law wsX10_sea := goodIn_r _ [397, 82, 311, 312, 313, 5, 314, 220, 898, 899, 900, 901, 902, 903, 904, 905, 906, 907, 908] (by decide +kernel) (by decide +kernel)
set_option maxRecDepth 20000 in
theorem gL_law_X10_sea : GoodIn wsL_law (wsV RL 120 RX10 yX10_sea wsX10_sea) := goodIn_app (goodIn_of _ (by decide +kernel)) ggL_law_X10_sea
set_option maxRecDepth 20000 in
theorem ggL_law_X9_drift : GoodIn wsL_law wsX9_drift := goodIn_r _ [401, 16, 402, 893, 894, 895, 896, 897, 909, 910, 911, 912, 913, 914, 915, 916, 917, 918] (by decide +kernel) (by decide +kernel)
set_option maxRecDepth 20000 in
theorem gL_law_X9_drift : GoodIn wsL_law (wsV RL 121 RX9 yX9_drift wsX9_drift) := goodIn_app (goodIn_of _ (by decide +kernel)) ggL_law_X9_drift
set_option maxRecDepth 20000 in
theorem ggL_law_X10_drift : GoodIn wsL_law wsX10_drift := goodIn_r _ [406, 82, 311, 312, 313, 5, 314, 220, 898, 899, 900, 901, 902, 903, 904, 905, 906, 907, 908] (by decide +kernel) (by decide +kernel)
set_option maxRecDepth 20000 in
theorem gL_law_X10_drift : GoodIn wsL_law (wsV RL 124 RX10 yX10_drift wsX10_drift) := goodIn_app (goodIn_of _ (by decide +kernel)) ggL_law_X10_drift
set_option maxRecDepth 20000 in
theorem ggL_law_X9_calibrations : GoodIn wsL_law wsX9_calibrations := goodIn_r _ [410, 16, 411, 893, 894, 895, 896, 897, 909, 910, 911, 912, 913, 914, 915, 916, 917, 918] (by decide +kernel) (by decide +kernel)
set_option maxRecDepth 20000 in
theorem gL_law_X9_calibrations : GoodIn wsL_law (wsV RL 125 RX9 yX9_calibrations wsX9_calibrations) := goodIn_app (goodIn_of _ (by decide +kernel)) ggL_law_X9_calibrations
set_option maxRecDepth 20000 in
theorem ggL_law_X10_calibrations : GoodIn wsL_law wsX10_calibrations := goodIn_r _ [415, 82, 311, 312, 313, 5, 314, 220, 898, 899, 900, 901, 902, 903, 904, 905, 906, 907, 908] (by decide +kernel) (by decide +kernel)
set_option maxRecDepth 20000 in
theorem gL_law_X10_calibrations : GoodIn wsL_law (wsV RL 128 RX10 yX10_calibrations wsX10_calibrations) := goodIn_app (goodIn_of _ (by decide +kernel)) ggL_law_X10_calibrations
set_option maxRecDepth 20000 in
theorem ggL_law_L_setThreshold : GoodIn wsL_law wsL_setThreshold := goodIn_ca (goodIn_r _ [418, 90, 419, 420, 421, 2, 422, 16, 423, 424, 20, 95, 96, 97, 98, 99, 100, 101, 102, 19, 103, 104, 105, 106, 107, 108, 109, 110, 111, 112, 113, 68, 114, 115, 116, 15, 117, 118, 119, 33, 34, 120, 121, 122, 38, 42, 46, 123, 124, 125, 37, 126, 127, 128, 129, 50, 130, 131, 132, 41, 133, 55, 134, 56, 135, 136, 137, 138, 139, 140, 141, 142, 143, 144, 145, 146, 45, 147, 60, 61, 62, 148, 893, 894, 895, 896, 897, 909, 910, 911, 912, 913, 914, 915, 916, 917, 918, 926, 927, 928, 929, 919, 920, 921, 930, 931, 932, 933, 934, 935, 936, 937, 938] (by decide +kernel) (by decide +kernel)) (goodIn_sub (fun _ h => List.mem_append_left _ (List.mem_append_left _ (List.mem_append_right _ h))) (by decide +kernel))
set_option maxRecDepth 20000 in
theorem gL_law_L_setThreshold : GoodIn wsL_law (va_wsS RL 129 yL_setThreshold wsL_setThreshold) := goodIn_app (goodIn_of _ (by decide +kernel)) ggL_law_L_setThreshold
set_option maxRecDepth 20000 in
theorem ggL_law_X10_setThreshold : GoodIn wsL_law wsX10_setThreshold := goodIn_r _ [428, 213, 214, 5, 215, 216, 217, 218, 219, 220, 360, 361, 362, 363, 82, 221, 222, 223, 224, 225, 226, 227, 228, 229, 898, 899, 900, 901, 902, 903, 904, 905, 906, 907, 908] (by decide +kernel) (by decide +kernel)
set_option maxRecDepth 20000 in
theorem gL_law_X10_setThreshold : GoodIn wsL_law (wsV RL 131 RX10 yX10_setThreshold wsX10_setThreshold) := goodIn_app (goodIn_of _ (by decide +kernel)) ggL_law_X10_setThreshold
set_option maxRecDepth 20000 in
theorem ggL_law_X9_ascent : GoodIn wsL_law wsX9_ascent := goodIn_r _ [432, 16, 423, 433, 893, 894, 895, 896, 897, 909, 910, 911, 912, 913, 914, 915, 916, 917, 918, 926, 927, 928, 929] (by decide +kernel) (by decide +kernel)
set_option maxRecDepth 20000 in
theorem gL_law_X9_ascent : GoodIn wsL_law (wsV RL 132 RX9 yX9_ascent wsX9_ascent) := goodIn_app (goodIn_of _ (by decide +kernel)) ggL_law_X9_ascent
set_option maxRecDepth 20000 in
theorem ggL_law_X10_ascent : GoodIn wsL_law wsX10_ascent := goodIn_r _ [437, 82, 311, 312, 313, 5, 314, 220, 898, 899, 900, 901, 902, 903, 904, 905, 906, 907, 908] (by decide +kernel) (by decide +kernel)
set_option maxRecDepth 20000 in
theorem gL_law_X10_ascent : GoodIn wsL_law (wsV RL 135 RX10 yX10_ascent wsX10_ascent) := goodIn_app (goodIn_of _ (by decide +kernel)) ggL_law_X10_ascent
set_option maxRecDepth 20000 in
theorem ggL_law_X9_descent : GoodIn wsL_law wsX9_descent := goodIn_r _ [441, 16, 423, 442, 893, 894, 895, 896, 897, 909, 910, 911, 912, 913, 914, 915, 916, 917, 918, 926, 927, 928, 929] (by decide +kernel) (by decide +kernel)
set_option maxRecDepth 20000 in
theorem gL_law_X9_descent : GoodIn wsL_law (wsV RL 136 RX9 yX9_descent wsX9_descent) := goodIn_app (goodIn_of _ (by decide +kernel)) ggL_law_X9_descent
set_option maxRecDepth 20000 in
theorem ggL_law_X10_descent : GoodIn wsL_law wsX10_descent := goodIn_r _ [446, 82, 311, 312, 313, 5, 314, 220, 898, 899, 900, 901, 902, 903, 904, 905, 906, 907, 908] (by decide +kernel) (by decide +kernel)
set_option maxRecDepth 20000 in
theorem gL_law_X10_descent : GoodIn wsL_law (wsV RL 139 RX10 yX10_descent wsX10_descent) := goodIn_app (goodIn_of _ (by decide +kernel)) ggL_law_X10_descent
set_option maxRecDepth 20000 in
theorem ggL_law_X9_base : GoodIn wsL_law wsX9_base := goodIn_r _ [450, 16, 423, 451, 893, 894, 895, 896, 897, 909, 910, 911, 912, 913, 914, 915, 916, 917, 918, 926, 927, 928, 929] (by decide +kernel) (by decide +kernel)
set_option maxRecDepth 20000 in
theorem gL_law_X9_base : GoodIn wsL_law (wsV RL 140 RX9 yX9_base wsX9_base) := goodIn_app (goodIn_of _ (by decide +kernel)) ggL_law_X9_base
set_option maxRecDepth 20000 in
theorem ggL_law_X10_base : GoodIn wsL_law wsX10_base := goodIn_r _ [455, 82, 311, 312, 313, 5, 314, 220, 898, 899, 900, 901, 902, 903, 904, 905, 906, 907, 908] (by decide +kernel) (by decide +kernel)
set_option maxRecDepth 20000 in
theorem gL_law_X10_base : GoodIn wsL_law (wsV RL 143 RX10 yX10_base wsX10_base) := goodIn_app (goodIn_of _ (by decide +kernel)) ggL_law_X10_base
set_option maxRecDepth 20000 in
theorem ggL_law_X9_setMark : GoodIn wsL_law wsX9_setMark := goodIn_r _ [459, 20, 16, 460, 461, 100, 101, 102, 19, 103, 104, 105, 106, 107, 108, 109, 110, 111, 112, 113, 68, 114, 115, 116, 15, 117, 118, 119, 33, 34, 120, 121, 122, 38, 42, 46, 123, 124, 125, 37, 126, 127, 128, 129, 50, 130, 131, 132, 41, 133, 55, 134, 56, 135, 136, 137, 2, 138, 139, 140, 141, 142, 143, 144, 145, 146, 45, 147, 60, 61, 62, 148, 462, 463, 464, 465, 466, 196, 197, 198, 199, 200, 167, 155, 168, 160, 161, 162, 467, 468, 469, 470, 177, 178, 893, 894, 895, 896, 897, 909, 910, 911, 912, 913, 914, 915, 916, 917, 918, 935, 936, 937, 938, 919, 920, 921, 926, 927, 928, 929, 930, 931, 932, 933, 934] (by decide +kernel) (by decide +kernel)
set_option maxRecDepth 20000 in
theorem gL_law_X9_setMark : GoodIn wsL_law (wsV RL 144 RX9 yX9_setMark wsX9_setMark) := goodIn_app (goodIn_of _ (by decide +kernel)) ggL_law_X9_setMark
set_option maxRecDepth 20000 in
theorem ggL_law_X10_setMark : GoodIn wsL_law wsX10_setMark := goodIn_r _ [474, 220, 221, 222, 223, 5, 224, 225, 226, 227, 228, 229, 82, 475, 476, 477, 478, 256, 257, 258, 259, 242, 243, 244, 898, 899, 900, 901, 902, 903, 904, 905, 906, 907, 908] (by decide +kernel) (by decide +kernel)
set_option maxRecDepth 20000 in
theorem gL_law_X10_setMark : GoodIn wsL_law (wsV RL 147 RX10 yX10_setMark wsX10_setMark) := goodIn_app (goodIn_of _ (by decide +kernel)) ggL_law_X10_setMark
set_option maxRecDepth 20000 in
theorem ggL_law_X9_marks : GoodIn wsL_law wsX9_marks := goodIn_r _ [482, 16, 460, 461, 893, 894, 895, 896, 897, 909, 910, 911, 912, 913, 914, 915, 916, 917, 918, 935, 936, 937, 938] (by decide +kernel) (by decide +kernel)
set_option maxRecDepth 20000 in
theorem gL_law_X9_marks : GoodIn wsL_law (wsV RL 148 RX9 yX9_marks wsX9_marks) := goodIn_app (goodIn_of _ (by decide +kernel)) ggL_law_X9_marks
set_option maxRecDepth 20000 in
theorem ggL_law_X10_marks : GoodIn wsL_law wsX10_marks := goodIn_r _ [486, 82, 311, 312, 313, 5, 314, 220, 898, 899, 900, 901, 902, 903, 904, 905, 906, 907, 908] (by decide +kernel) (by decide +kernel)
set_option maxRecDepth 20000 in
theorem gL_law_X10_marks : GoodIn wsL_law (wsV RL 151 RX10 yX10_marks wsX10_marks) := goodIn_app (goodIn_of _ (by decide +kernel)) ggL_law_X10_marks
set_option maxRecDepth 20000 in
theorem ggL_law_L_markTime : GoodIn wsL_law wsL_markTime := goodIn_ca (goodIn_r _ [489, 490, 491, 492, 493, 2, 494, 16, 460, 495, 496, 497, 498, 499, 500, 461, 501, 502, 503, 45, 504, 60, 194, 195, 893, 894, 895, 896, 897, 909, 910, 911, 912, 913, 914, 915, 916, 917, 918, 935, 936, 937, 938] (by decide +kernel) (by decide +kernel)) (goodIn_sub (fun _ h => List.mem_append_left _ (List.mem_append_right _ h)) (by decide +kernel))
set_option maxRecDepth 20000 in
theorem gL_law_L_markTime : GoodIn wsL_law (va_wsS RL 152 yL_markTime wsL_markTime) := goodIn_app (goodIn_of _ (by decide +kernel)) ggL_law_L_markTime
set_option maxRecDepth 20000 in
theorem ggL_law_X10_markTime : GoodIn wsL_law wsX10_markTime := goodIn_r _ [508, 82, 509, 510, 511, 5, 512, 213, 214, 215, 216, 217, 218, 219, 220, 898, 899, 900, 901, 902, 903, 904, 905, 906, 907, 908] (by decide +kernel) (by decide +kernel)
set_option maxRecDepth 20000 in
theorem gL_law_X10_markTime : GoodIn wsL_law (wsV RL 154 RX10 yX10_markTime wsX10_markTime) := goodIn_app (goodIn_of _ (by decide +kernel)) ggL_law_X10_markTime
set_option maxRecDepth 20000 in
theorem ggL_law_L_markAltitude : GoodIn wsL_law wsL_markAltitude := goodIn_ca (goodIn_r _ [515, 490, 516, 517, 518, 2, 519, 16, 460, 495, 496, 497, 498, 499, 500, 461, 520, 521, 522, 45, 523, 61, 194, 195, 893, 894, 895, 896, 897, 909, 910, 911, 912, 913, 914, 915, 916, 917, 918, 935, 936, 937, 938] (by decide +kernel) (by decide +kernel)) (goodIn_sub (fun _ h => List.mem_append_left _ (List.mem_append_right _ h)) (by decide +kernel))
set_option maxRecDepth 20000 in
theorem gL_law_L_markAltitude : GoodIn wsL_law (va_wsS RL 155 yL_markAltitude wsL_markAltitude) := goodIn_app (goodIn_of _ (by decide +kernel)) ggL_law_L_markAltitude
set_option maxRecDepth 20000 in
theorem ggL_law_X10_markAltitude : GoodIn wsL_law wsX10_markAltitude := goodIn_r _ [527, 82, 509, 510, 511, 5, 512, 213, 214, 215, 216, 217, 218, 219, 220, 898, 899, 900, 901, 902, 903, 904, 905, 906, 907, 908] (by decide +kernel) (by decide +kernel)
set_option maxRecDepth 20000 in
theorem gL_law_X10_markAltitude : GoodIn wsL_law (wsV RL 157 RX10 yX10_markAltitude wsX10_markAltitude) := goodIn_app (goodIn_of _ (by decide +kernel)) ggL_law_X10_markAltitude
set_option maxRecDepth 20000 in
theorem ggL_law_L_climbed : GoodIn wsL_law wsL_climbed := goodIn_ca (goodIn_r _ [530, 490, 531, 532, 533, 2, 534, 16, 460, 495, 496, 497, 498, 499, 500, 461, 535, 536, 537, 45, 538, 62, 194, 195, 893, 894, 895, 896, 897, 909, 910, 911, 912, 913, 914, 915, 916, 917, 918, 935, 936, 937, 938] (by decide +kernel) (by decide +kernel)) (goodIn_sub (fun _ h => List.mem_append_left _ (List.mem_append_right _ h)) (by decide +kernel))
set_option maxRecDepth 20000 in
theorem gL_law_L_climbed : GoodIn wsL_law (va_wsS RL 158 yL_climbed wsL_climbed) := goodIn_app (goodIn_of _ (by decide +kernel)) ggL_law_L_climbed
set_option maxRecDepth 20000 in
theorem ggL_law_X10_climbed : GoodIn wsL_law wsX10_climbed := goodIn_r _ [542, 82, 509, 510, 511, 5, 512, 213, 214, 215, 216, 217, 218, 219, 220, 898, 899, 900, 901, 902, 903, 904, 905, 906, 907, 908] (by decide +kernel) (by decide +kernel)
set_option maxRecDepth 20000 in
theorem gL_law_X10_climbed : GoodIn wsL_law (wsV RL 160 RX10 yX10_climbed wsX10_climbed) := goodIn_app (goodIn_of _ (by decide +kernel)) ggL_law_X10_climbed
set_option maxRecDepth 20000 in
theorem ggL_law_L_setAlarm : GoodIn wsL_law wsL_setAlarm := goodIn_ca (goodIn_r _ [545, 90, 546, 547, 548, 2, 549, 16, 550, 551, 20, 95, 96, 97, 98, 99, 100, 101, 102, 19, 103, 104, 105, 106, 107, 108, 109, 110, 111, 112, 113, 68, 114, 115, 116, 15, 117, 118, 119, 33, 34, 120, 121, 122, 38, 42, 46, 123, 124, 125, 37, 126, 127, 128, 129, 50, 130, 131, 132, 41, 133, 55, 134, 56, 135, 136, 137, 138, 139, 140, 141, 142, 143, 144, 145, 146, 45, 147, 60, 61, 62, 148, 893, 894, 895, 896, 897, 909, 910, 911, 912, 913, 914, 915, 916, 917, 918, 930, 931, 932, 933, 934, 919, 920, 921, 926, 927, 928, 929, 935, 936, 937, 938] (by decide +kernel) (by decide +kernel)) (goodIn_sub (fun _ h => List.mem_append_left _ (List.mem_append_left _ (List.mem_append_right _ h))) (by decide +kernel))
set_option maxRecDepth 20000 in
theorem gL_law_L_setAlarm : GoodIn wsL_law (va_wsS RL 161 yL_setAlarm wsL_setAlarm) := goodIn_app (goodIn_of _ (by decide +kernel)) ggL_law_L_setAlarm
set_option maxRecDepth 20000 in
theorem ggL_law_X10_setAlarm : GoodIn wsL_law wsX10_setAlarm := goodIn_r _ [555, 213, 214, 5, 215, 216, 217, 218, 219, 220, 360, 361, 362, 363, 82, 221, 222, 223, 224, 225, 226, 227, 228, 229, 898, 899, 900, 901, 902, 903, 904, 905, 906, 907, 908] (by decide +kernel) (by decide +kernel)
set_option maxRecDepth 20000 in
theorem gL_law_X10_setAlarm : GoodIn wsL_law (wsV RL 163 RX10 yX10_setAlarm wsX10_setAlarm) := goodIn_app (goodIn_of _ (by decide +kernel)) ggL_law_X10_setAlarm
set_option maxRecDepth 20000 in
theorem ggL_law_X9_logged : GoodIn wsL_law wsX9_logged := goodIn_r _ [559, 16, 550, 560, 893, 894, 895, 896, 897, 909, 910, 911, 912, 913, 914, 915, 916, 917, 918, 930, 931, 932, 933, 934] (by decide +kernel) (by decide +kernel)
set_option maxRecDepth 20000 in
theorem gL_law_X9_logged : GoodIn wsL_law (wsV RL 164 RX9 yX9_logged wsX9_logged) := goodIn_app (goodIn_of _ (by decide +kernel)) ggL_law_X9_logged
set_option maxRecDepth 20000 in
theorem ggL_law_X10_logged : GoodIn wsL_law wsX10_logged := goodIn_r _ [564, 82, 311, 312, 313, 5, 314, 220, 898, 899, 900, 901, 902, 903, 904, 905, 906, 907, 908] (by decide +kernel) (by decide +kernel)
set_option maxRecDepth 20000 in
theorem gL_law_X10_logged : GoodIn wsL_law (wsV RL 167 RX10 yX10_logged wsX10_logged) := goodIn_app (goodIn_of _ (by decide +kernel)) ggL_law_X10_logged
set_option maxRecDepth 20000 in
theorem ggL_law_X9_fall : GoodIn wsL_law wsX9_fall := goodIn_r _ [568, 16, 550, 569, 184, 185, 41, 186, 134, 55, 187, 188, 189, 190, 191, 192, 108, 193, 194, 2, 195, 893, 894, 895, 896, 897, 909, 910, 911, 912, 913, 914, 915, 916, 917, 918, 930, 931, 932, 933, 934] (by decide +kernel) (by decide +kernel)
set_option maxRecDepth 20000 in
theorem gL_law_X9_fall : GoodIn wsL_law (wsV RL 168 RX9 yX9_fall wsX9_fall) := goodIn_app (goodIn_of _ (by decide +kernel)) ggL_law_X9_fall
set_option maxRecDepth 20000 in
theorem ggL_law_X10_fall : GoodIn wsL_law wsX10_fall := goodIn_r _ [573, 264, 265, 266, 5, 267, 82, 311, 312, 313, 314, 220, 898, 899, 900, 901, 902, 903, 904, 905, 906, 907, 908] (by decide +kernel) (by decide +kernel)
set_option maxRecDepth 20000 in
theorem gL_law_X10_fall : GoodIn wsL_law (wsV RL 171 RX10 yX10_fall wsX10_fall) := goodIn_app (goodIn_of _ (by decide +kernel)) ggL_law_X10_fall
set_option maxRecDepth 20000 in
theorem ggL_law_X9_isAlarm : GoodIn wsL_law wsX9_isAlarm := goodIn_r _ [577, 16, 550, 578, 180, 181, 41, 182, 56, 183, 184, 185, 186, 134, 55, 187, 188, 189, 190, 191, 192, 108, 193, 194, 2, 195, 893, 894, 895, 896, 897, 909, 910, 911, 912, 913, 914, 915, 916, 917, 918, 930, 931, 932, 933, 934] (by decide +kernel) (by decide +kernel)
set_option maxRecDepth 20000 in
theorem gL_law_X9_isAlarm : GoodIn wsL_law (wsV RL 172 RX9 yX9_isAlarm wsX9_isAlarm) := goodIn_app (goodIn_of _ (by decide +kernel)) ggL_law_X9_isAlarm
set_option maxRecDepth 20000 in
theorem ggL_law_X10_isAlarm : GoodIn wsL_law wsX10_isAlarm := goodIn_r _ [582, 220, 260, 261, 262, 5, 263, 82, 264, 265, 266, 267, 898, 899, 900, 901, 902, 903, 904, 905, 906, 907, 908] (by decide +kernel) (by decide +kernel)
set_option maxRecDepth 20000 in
theorem gL_law_X10_isAlarm : GoodIn wsL_law (wsV RL 175 RX10 yX10_isAlarm wsX10_isAlarm) := goodIn_app (goodIn_of _ (by decide +kernel)) ggL_law_X10_isAlarm
set_option maxRecDepth 20000 in
theorem ggL_law_X9_alarms : GoodIn wsL_law wsX9_alarms := goodIn_r _ [586, 16, 550, 587, 893, 894, 895, 896, 897, 909, 910, 911, 912, 913, 914, 915, 916, 917, 918, 930, 931, 932, 933, 934] (by decide +kernel) (by decide +kernel)
set_option maxRecDepth 20000 in
theorem gL_law_X9_alarms : GoodIn wsL_law (wsV RL 176 RX9 yX9_alarms wsX9_alarms) := goodIn_app (goodIn_of _ (by decide +kernel)) ggL_law_X9_alarms
set_option maxRecDepth 20000 in
theorem ggL_law_X10_alarms : GoodIn wsL_law wsX10_alarms := goodIn_r _ [591, 82, 311, 312, 313, 5, 314, 220, 898, 899, 900, 901, 902, 903, 904, 905, 906, 907, 908] (by decide +kernel) (by decide +kernel)
set_option maxRecDepth 20000 in
theorem gL_law_X10_alarms : GoodIn wsL_law (wsV RL 179 RX10 yX10_alarms wsX10_alarms) := goodIn_app (goodIn_of _ (by decide +kernel)) ggL_law_X10_alarms
set_option maxRecDepth 20000 in
theorem ggL_law_L_altitudeAfter : GoodIn wsL_law wsL_altitudeAfter := goodIn_ca (goodIn_r _ [594, 90, 595, 596, 597, 2, 598, 16, 95, 96, 97, 98, 99, 599, 600, 601, 15, 602, 118, 119, 34, 157, 158, 155, 159, 160, 161, 162, 163, 164, 165, 166, 167, 168, 200, 893, 894, 895, 896, 897, 909, 910, 911, 912, 913, 914, 915, 916, 917, 918] (by decide +kernel) (by decide +kernel)) (goodIn_sub (fun _ h => List.mem_append_left _ (List.mem_append_left _ (List.mem_append_right _ h))) (by decide +kernel))
set_option maxRecDepth 20000 in
theorem gL_law_L_altitudeAfter : GoodIn wsL_law (va_wsS RL 180 yL_altitudeAfter wsL_altitudeAfter) := goodIn_app (goodIn_of _ (by decide +kernel)) ggL_law_L_altitudeAfter
set_option maxRecDepth 20000 in
theorem ggL_law_X10_altitudeAfter : GoodIn wsL_law wsX10_altitudeAfter := goodIn_r _ [606, 210, 211, 5, 212, 213, 214, 215, 216, 217, 218, 219, 220, 226, 227, 228, 229, 82, 230, 231, 232, 233, 234, 235, 236, 237, 238, 239, 240, 241, 242, 243, 244, 245, 246, 247, 248, 249, 250, 251, 252, 253, 254, 255, 256, 257, 258, 259, 260, 261, 262, 263, 264, 265, 266, 267, 898, 899, 900, 901, 902, 903, 904, 905, 906, 907, 908] (by decide +kernel) (by decide +kernel)
set_option maxRecDepth 20000 in
theorem gL_law_X10_altitudeAfter : GoodIn wsL_law (wsV RL 182 RX10 yX10_altitudeAfter wsX10_altitudeAfter) := goodIn_app (goodIn_of _ (by decide +kernel)) ggL_law_X10_altitudeAfter
set_option maxRecDepth 20000 in
theorem ggL_law_L_ascentIn : GoodIn wsL_law wsL_ascentIn := goodIn_ca (goodIn_r _ [609, 90, 610, 611, 612, 2, 613, 16, 95, 96, 97, 98, 99, 614, 615, 616, 15, 617, 118, 35, 36, 37, 38, 33, 34, 466, 47, 48, 49, 11, 12, 50, 123, 124, 125, 126, 127, 128, 129, 153, 154, 155, 156, 200, 167, 168, 160, 161, 162, 201, 202, 203, 204, 893, 894, 895, 896, 897, 909, 910, 911, 912, 913, 914, 915, 916, 917, 918, 926, 927, 928, 929] (by decide +kernel) (by decide +kernel)) (goodIn_sub (fun _ h => List.mem_append_left _ (List.mem_append_left _ (List.mem_append_right _ h))) (by decide +kernel))
set_option maxRecDepth 20000 in
theorem gL_law_L_ascentIn : GoodIn wsL_law (va_wsS RL 183 yL_ascentIn wsL_ascentIn) := goodIn_app (goodIn_of _ (by decide +kernel)) ggL_law_L_ascentIn
set_option maxRecDepth 20000 in
theorem ggL_law_X10_ascentIn : GoodIn wsL_law wsX10_ascentIn := goodIn_r _ [621, 82, 210, 211, 5, 212, 213, 214, 215, 216, 217, 218, 219, 220, 226, 227, 228, 229, 230, 231, 232, 233, 234, 235, 236, 237, 238, 239, 240, 241, 242, 243, 244, 245, 246, 247, 248, 249, 250, 251, 252, 253, 254, 255, 256, 257, 258, 259, 260, 261, 262, 263, 264, 265, 266, 267, 898, 899, 900, 901, 902, 903, 904, 905, 906, 907, 908] (by decide +kernel) (by decide +kernel)
set_option maxRecDepth 20000 in
theorem gL_law_X10_ascentIn : GoodIn wsL_law (wsV RL 185 RX10 yX10_ascentIn wsX10_ascentIn) := goodIn_app (goodIn_of _ (by decide +kernel)) ggL_law_X10_ascentIn
set_option maxRecDepth 20000 in
theorem ggL_law_L_pressureAt : GoodIn wsL_law wsL_pressureAt := goodIn_ca (goodIn_r _ [624, 90, 625, 626, 627, 2, 628, 375, 16, 95, 96, 97, 98, 99, 629, 630, 631, 15, 632, 34, 633, 161, 155, 162, 634, 164, 165, 160, 893, 894, 895, 896, 897, 909, 910, 911, 912, 913, 914, 915, 916, 917, 918] (by decide +kernel) (by decide +kernel)) (goodIn_sub (fun _ h => List.mem_append_left _ (List.mem_append_left _ (List.mem_append_right _ h))) (by decide +kernel))
set_option maxRecDepth 20000 in
theorem gL_law_L_pressureAt : GoodIn wsL_law (va_wsS RL 186 yL_pressureAt wsL_pressureAt) := goodIn_app (goodIn_of _ (by decide +kernel)) ggL_law_L_pressureAt
set_option maxRecDepth 20000 in
theorem ggL_law_X10_pressureAt : GoodIn wsL_law wsX10_pressureAt := goodIn_r _ [638, 385, 213, 214, 5, 215, 216, 217, 218, 219, 220, 639, 640, 641, 642, 82, 242, 243, 244, 898, 899, 900, 901, 902, 903, 904, 905, 906, 907, 908] (by decide +kernel) (by decide +kernel)
set_option maxRecDepth 20000 in
theorem gL_law_X10_pressureAt : GoodIn wsL_law (wsV RL 188 RX10 yX10_pressureAt wsX10_pressureAt) := goodIn_app (goodIn_of _ (by decide +kernel)) ggL_law_X10_pressureAt
set_option maxRecDepth 20000 in
theorem ggL_law_L_minutesToAlarm : GoodIn wsL_law wsL_minutesToAlarm := goodIn_ca (goodIn_r _ [645, 90, 646, 647, 648, 2, 649, 16, 95, 96, 97, 98, 99, 650, 651, 652, 15, 653, 118, 42, 33, 654, 180, 181, 41, 182, 56, 183, 184, 185, 186, 134, 55, 187, 188, 189, 190, 191, 192, 108, 193, 194, 195, 655, 656, 657, 658, 893, 894, 895, 896, 897, 909, 910, 911, 912, 913, 914, 915, 916, 917, 918, 930, 931, 932, 933, 934] (by decide +kernel) (by decide +kernel)) (goodIn_sub (fun _ h => List.mem_append_left _ (List.mem_append_left _ (List.mem_append_right _ h))) (by decide +kernel))
set_option maxRecDepth 20000 in
theorem gL_law_L_minutesToAlarm : GoodIn wsL_law (va_wsS RL 189 yL_minutesToAlarm wsL_minutesToAlarm) := goodIn_app (goodIn_of _ (by decide +kernel)) ggL_law_L_minutesToAlarm
set_option maxRecDepth 20000 in
theorem ggL_law_X10_minutesToAlarm : GoodIn wsL_law wsX10_minutesToAlarm := goodIn_r _ [662, 213, 214, 5, 215, 216, 217, 218, 219, 220, 663, 664, 665, 666, 82, 226, 227, 228, 229, 260, 261, 262, 263, 264, 265, 266, 267, 248, 249, 250, 251, 898, 899, 900, 901, 902, 903, 904, 905, 906, 907, 908] (by decide +kernel) (by decide +kernel)
set_option maxRecDepth 20000 in
theorem gL_law_X10_minutesToAlarm : GoodIn wsL_law (wsV RL 191 RX10 yX10_minutesToAlarm wsX10_minutesToAlarm) := goodIn_app (goodIn_of _ (by decide +kernel)) ggL_law_X10_minutesToAlarm
set_option maxRecDepth 20000 in
theorem ggL_law_X9_climbShare : GoodIn wsL_law wsX9_climbShare := goodIn_r _ [670, 16, 423, 433, 442, 671, 893, 894, 895, 896, 897, 909, 910, 911, 912, 913, 914, 915, 916, 917, 918, 926, 927, 928, 929] (by decide +kernel) (by decide +kernel)
set_option maxRecDepth 20000 in
theorem gL_law_X9_climbShare : GoodIn wsL_law (wsV RL 192 RX9 yX9_climbShare wsX9_climbShare) := goodIn_app (goodIn_of _ (by decide +kernel)) ggL_law_X9_climbShare
set_option maxRecDepth 20000 in
theorem ggL_law_X10_climbShare : GoodIn wsL_law wsX10_climbShare := goodIn_r _ [675, 220, 82, 676, 898, 899, 900, 901, 902, 903, 904, 905, 906, 907, 908] (by decide +kernel) (by decide +kernel)
set_option maxRecDepth 20000 in
theorem gL_law_X10_climbShare : GoodIn wsL_law (wsV RL 196 RX10 yX10_climbShare wsX10_climbShare) := goodIn_app (goodIn_of _ (by decide +kernel)) ggL_law_X10_climbShare
set_option maxRecDepth 20000 in
theorem ggL_law_L_append : GoodIn wsL_law wsL_append := goodIn_ca (goodIn_ca (goodIn_r _ [679, 90, 680, 681, 682, 683, 2, 684, 685, 686, 29, 687, 95, 96, 97, 98, 99, 688, 689, 690, 28, 691, 692, 77, 893, 894, 895, 896, 897, 924, 925] (by decide +kernel) (by decide +kernel)) (goodIn_sub (fun _ h => List.mem_append_right _ h) (by decide +kernel))) (goodIn_sub (fun _ h => List.mem_append_left _ (List.mem_append_left _ (List.mem_append_right _ h))) (by decide +kernel))
set_option maxRecDepth 20000 in
theorem gL_law_L_append : GoodIn wsL_law (va_wsS RL 197 yL_append wsL_append) := goodIn_app (goodIn_of _ (by decide +kernel)) ggL_law_L_append
set_option maxRecDepth 20000 in
theorem ggL_law_X10_append : GoodIn wsL_law wsX10_append := goodIn_r _ [696, 697, 85, 213, 214, 5, 215, 216, 217, 218, 219, 220, 898, 899, 900, 901, 902, 903, 904, 905, 906, 907, 908] (by decide +kernel) (by decide +kernel)
set_option maxRecDepth 20000 in
theorem gL_law_X10_append : GoodIn wsL_law (wsV RL 199 RX10 yX10_append wsX10_append) := goodIn_app (goodIn_of _ (by decide +kernel)) ggL_law_X10_append
set_option maxRecDepth 20000 in
theorem ggL_law_X9_clearText : GoodIn wsL_law wsX9_clearText := goodIn_r _ [701, 29, 687, 893, 894, 895, 896, 897, 924, 925] (by decide +kernel) (by decide +kernel)
set_option maxRecDepth 20000 in
theorem gL_law_X9_clearText : GoodIn wsL_law (wsV RL 200 RX9 yX9_clearText wsX9_clearText) := goodIn_app (goodIn_of _ (by decide +kernel)) ggL_law_X9_clearText
set_option maxRecDepth 20000 in
theorem ggL_law_X10_clearText : GoodIn wsL_law wsX10_clearText := goodIn_r _ [705, 220, 697, 898, 899, 900, 901, 902, 903, 904, 905, 906, 907, 908] (by decide +kernel) (by decide +kernel)
set_option maxRecDepth 20000 in
theorem gL_law_X10_clearText : GoodIn wsL_law (wsV RL 203 RX10 yX10_clearText wsX10_clearText) := goodIn_app (goodIn_of _ (by decide +kernel)) ggL_law_X10_clearText
set_option maxRecDepth 20000 in
theorem ggL_law_X9_firstError : GoodIn wsL_law wsX9_firstError := goodIn_r _ [709, 29, 710, 711, 712, 713, 714, 715, 11, 12, 716, 717, 718, 719, 720, 28, 721, 692, 77, 722, 723, 724, 725, 726, 727, 728, 729, 730, 731, 732, 733, 734, 735, 736, 737, 738, 739, 740, 741, 742, 743, 744, 745, 746, 747, 192, 108, 193, 748, 749, 750, 751, 752, 753, 754, 755, 893, 894, 895, 896, 897, 939, 940, 941, 924, 925] (by decide +kernel) (by decide +kernel)
set_option maxRecDepth 20000 in
theorem gL_law_X9_firstError : GoodIn wsL_law (wsV RL 204 RX9 yX9_firstError wsX9_firstError) := goodIn_app (goodIn_of _ (by decide +kernel)) ggL_law_X9_firstError
set_option maxRecDepth 20000 in
theorem ggL_law_X10_firstError : GoodIn wsL_law wsX10_firstError := goodIn_r _ [759, 220, 760, 761, 762, 763, 5, 764, 697, 765, 766, 767, 768, 769, 385, 770, 771, 772, 773, 774, 775, 85, 776, 777, 778, 779, 780, 781, 782, 783, 213, 214, 215, 784, 785, 786, 898, 899, 900, 901, 902, 903, 904, 905, 906, 907, 908] (by decide +kernel) (by decide +kernel)
set_option maxRecDepth 20000 in
theorem gL_law_X10_firstError : GoodIn wsL_law (wsV RL 207 RX10 yX10_firstError wsX10_firstError) := goodIn_app (goodIn_of _ (by decide +kernel)) ggL_law_X10_firstError
set_option maxRecDepth 20000 in
theorem ggL_law_L_run : GoodIn wsL_law wsL_run := goodIn_ca (goodIn_r _ [789, 90, 790, 791, 792, 2, 793, 98, 99, 710, 711, 712, 29, 687, 20, 16, 794, 713, 714, 715, 11, 12, 716, 717, 718, 719, 720, 28, 721, 692, 77, 722, 723, 724, 725, 726, 727, 728, 729, 730, 731, 732, 733, 734, 735, 736, 737, 738, 739, 740, 741, 742, 743, 744, 745, 746, 747, 192, 108, 193, 748, 749, 750, 751, 752, 753, 754, 755, 795, 100, 101, 102, 19, 103, 104, 105, 106, 107, 109, 110, 111, 112, 113, 68, 114, 115, 116, 15, 117, 118, 119, 33, 34, 120, 121, 122, 38, 42, 46, 123, 124, 125, 37, 126, 127, 128, 129, 50, 130, 131, 132, 41, 133, 55, 134, 56, 135, 136, 137, 138, 139, 140, 141, 142, 143, 144, 145, 146, 45, 147, 60, 61, 62, 148, 796, 797, 798, 799, 800, 276, 801, 802, 277, 278, 279, 280, 281, 282, 283, 284, 285, 196, 197, 198, 199, 200, 167, 155, 168, 160, 161, 162, 462, 463, 464, 465, 466, 467, 468, 469, 470, 177, 178, 149, 150, 151, 152, 153, 154, 156, 157, 158, 159, 163, 164, 165, 166, 169, 170, 171, 172, 173, 174, 175, 176, 179, 180, 181, 182, 183, 184, 185, 186, 187, 188, 189, 190, 191, 194, 195, 201, 202, 203, 204, 376, 377, 378, 379, 380, 353, 354, 355, 803, 205, 939, 940, 941, 893, 894, 895, 896, 897, 924, 925, 919, 920, 921, 909, 910, 911, 912, 913, 914, 915, 916, 917, 918, 926, 927, 928, 929, 930, 931, 932, 933, 934, 935, 936, 937, 938] (by decide +kernel) (by decide +kernel)) (goodIn_sub (fun _ h => List.mem_append_left _ (List.mem_append_left _ (List.mem_append_right _ h))) (by decide +kernel))
set_option maxRecDepth 20000 in
theorem gL_law_L_run : GoodIn wsL_law (va_wsS RL 208 yL_run wsL_run) := goodIn_app (goodIn_of _ (by decide +kernel)) ggL_law_L_run
set_option maxRecDepth 20000 in
theorem ggL_law_X10_run : GoodIn wsL_law wsX10_run := goodIn_r _ [807, 760, 697, 761, 762, 763, 5, 764, 765, 766, 767, 768, 769, 385, 770, 771, 772, 773, 774, 775, 85, 776, 777, 778, 779, 780, 781, 782, 783, 213, 214, 215, 784, 785, 786, 216, 217, 218, 219, 220, 221, 222, 223, 224, 225, 226, 227, 228, 229, 82, 808, 809, 810, 811, 290, 291, 292, 293, 256, 257, 258, 259, 242, 243, 244, 475, 476, 477, 478, 386, 387, 388, 389, 238, 239, 240, 241, 245, 246, 247, 364, 365, 366, 367, 230, 231, 232, 233, 234, 235, 236, 237, 248, 249, 250, 251, 252, 253, 254, 255, 260, 261, 262, 263, 264, 265, 266, 267, 898, 899, 900, 901, 902, 903, 904, 905, 906, 907, 908] (by decide +kernel) (by decide +kernel)
set_option maxRecDepth 20000 in
theorem gL_law_X10_run : GoodIn wsL_law (wsV RL 211 RX10 yX10_run wsX10_run) := goodIn_app (goodIn_of _ (by decide +kernel)) ggL_law_X10_run
set_option maxRecDepth 20000 in
theorem ggL_law_L_undo : GoodIn wsL_law wsL_undo := goodIn_ca (goodIn_r _ [814, 680, 815, 816, 817, 2, 818, 685, 686, 20, 819, 16, 820, 821, 822, 19, 823, 104, 105, 110, 111, 112, 113, 68, 114, 115, 116, 15, 117, 118, 119, 33, 34, 120, 121, 122, 38, 42, 46, 123, 124, 125, 37, 126, 127, 128, 129, 50, 130, 131, 132, 41, 133, 55, 134, 56, 135, 136, 137, 138, 139, 107, 108, 109, 140, 141, 142, 143, 144, 145, 146, 45, 147, 60, 61, 62, 148, 893, 894, 895, 896, 897, 919, 920, 921, 909, 910, 911, 912, 913, 914, 915, 916, 917, 918, 926, 927, 928, 929, 930, 931, 932, 933, 934, 935, 936, 937, 938] (by decide +kernel) (by decide +kernel)) (goodIn_sub (fun _ h => List.mem_append_right _ h) (by decide +kernel))
set_option maxRecDepth 20000 in
theorem gL_law_L_undo : GoodIn wsL_law (va_wsS RL 212 yL_undo wsL_undo) := goodIn_app (goodIn_of _ (by decide +kernel)) ggL_law_L_undo
set_option maxRecDepth 20000 in
theorem ggL_law_X10_undo : GoodIn wsL_law wsX10_undo := goodIn_r _ [827, 225, 216, 217, 218, 5, 219, 220, 226, 227, 228, 229, 82, 898, 899, 900, 901, 902, 903, 904, 905, 906, 907, 908] (by decide +kernel) (by decide +kernel)
set_option maxRecDepth 20000 in
theorem gL_law_X10_undo : GoodIn wsL_law (wsV RL 214 RX10 yX10_undo wsX10_undo) := goodIn_app (goodIn_of _ (by decide +kernel)) ggL_law_X10_undo
set_option maxRecDepth 20000 in
theorem ggL_law_X9_savedStates : GoodIn wsL_law wsX9_savedStates := goodIn_r _ [831, 20, 819, 893, 894, 895, 896, 897, 919, 920, 921] (by decide +kernel) (by decide +kernel)
set_option maxRecDepth 20000 in
theorem gL_law_X9_savedStates : GoodIn wsL_law (wsV RL 215 RX9 yX9_savedStates wsX9_savedStates) := goodIn_app (goodIn_of _ (by decide +kernel)) ggL_law_X9_savedStates
set_option maxRecDepth 20000 in
theorem ggL_law_X10_savedStates : GoodIn wsL_law wsX10_savedStates := goodIn_r _ [835, 225, 311, 312, 313, 5, 314, 220, 898, 899, 900, 901, 902, 903, 904, 905, 906, 907, 908] (by decide +kernel) (by decide +kernel)
set_option maxRecDepth 20000 in
theorem gL_law_X10_savedStates : GoodIn wsL_law (wsV RL 218 RX10 yX10_savedStates wsX10_savedStates) := goodIn_app (goodIn_of _ (by decide +kernel)) ggL_law_X10_savedStates
set_option maxRecDepth 20000 in
theorem ggL_law_L_store : GoodIn wsL_law wsL_store := goodIn_ca (goodIn_r _ [838, 90, 839, 840, 841, 2, 842, 843, 16, 844, 95, 96, 97, 98, 99, 845, 846, 847, 848, 24, 25, 849, 115, 116, 15, 117, 118, 119, 33, 34, 120, 121, 122, 38, 42, 46, 123, 124, 125, 37, 126, 127, 128, 129, 50, 130, 131, 132, 41, 133, 55, 134, 56, 135, 136, 137, 138, 139, 107, 108, 109, 140, 141, 142, 143, 144, 145, 146, 45, 147, 60, 61, 62, 148, 205, 197, 198, 199, 200, 167, 155, 168, 160, 161, 162, 922, 923, 893, 894, 895, 896, 897, 909, 910, 911, 912, 913, 914, 915, 916, 917, 918, 926, 927, 928, 929, 930, 931, 932, 933, 934, 935, 936, 937, 938] (by decide +kernel) (by decide +kernel)) (goodIn_sub (fun _ h => List.mem_append_left _ (List.mem_append_left _ (List.mem_append_right _ h))) (by decide +kernel))
set_option maxRecDepth 20000 in
theorem gL_law_L_store : GoodIn wsL_law (va_wsS RL 219 yL_store wsL_store) := goodIn_app (goodIn_of _ (by decide +kernel)) ggL_law_L_store
set_option maxRecDepth 20000 in
theorem ggL_law_X10_store : GoodIn wsL_law wsX10_store := goodIn_r _ [853, 84, 213, 214, 5, 215, 216, 217, 218, 219, 220, 226, 227, 228, 229, 82, 256, 257, 258, 259, 242, 243, 244, 898, 899, 900, 901, 902, 903, 904, 905, 906, 907, 908] (by decide +kernel) (by decide +kernel)
set_option maxRecDepth 20000 in
theorem gL_law_X10_store : GoodIn wsL_law (wsV RL 221 RX10 yX10_store wsX10_store) := goodIn_app (goodIn_of _ (by decide +kernel)) ggL_law_X10_store
set_option maxRecDepth 20000 in
theorem ggL_law_L_recall : GoodIn wsL_law wsL_recall := goodIn_ca (goodIn_ca (goodIn_r _ [856, 90, 680, 857, 858, 859, 2, 860, 685, 686, 844, 20, 16, 843, 95, 96, 97, 98, 99, 845, 846, 847, 848, 24, 25, 100, 101, 102, 19, 103, 104, 105, 106, 107, 108, 109, 110, 111, 112, 113, 68, 114, 115, 116, 15, 117, 118, 119, 33, 34, 120, 121, 122, 38, 42, 46, 123, 124, 125, 37, 126, 127, 128, 129, 50, 130, 131, 132, 41, 133, 55, 134, 56, 135, 136, 137, 138, 139, 140, 141, 142, 143, 144, 145, 146, 45, 147, 60, 61, 62, 148, 849, 205, 197, 198, 199, 200, 167, 155, 168, 160, 161, 162, 922, 923, 893, 894, 895, 896, 897, 919, 920, 921, 909, 910, 911, 912, 913, 914, 915, 916, 917, 918, 926, 927, 928, 929, 930, 931, 932, 933, 934, 935, 936, 937, 938] (by decide +kernel) (by decide +kernel)) (goodIn_sub (fun _ h => List.mem_append_right _ h) (by decide +kernel))) (goodIn_sub (fun _ h => List.mem_append_left _ (List.mem_append_left _ (List.mem_append_right _ h))) (by decide +kernel))
set_option maxRecDepth 20000 in
theorem gL_law_L_recall : GoodIn wsL_law (va_wsS RL 222 yL_recall wsL_recall) := goodIn_app (goodIn_of _ (by decide +kernel)) ggL_law_L_recall
set_option maxRecDepth 20000 in
theorem ggL_law_X10_recall : GoodIn wsL_law wsX10_recall := goodIn_r _ [864, 84, 213, 214, 5, 215, 216, 217, 218, 219, 220, 221, 222, 223, 224, 225, 226, 227, 228, 229, 82, 256, 257, 258, 259, 242, 243, 244, 898, 899, 900, 901, 902, 903, 904, 905, 906, 907, 908] (by decide +kernel) (by decide +kernel)
set_option maxRecDepth 20000 in
theorem gL_law_X10_recall : GoodIn wsL_law (wsV RL 224 RX10 yX10_recall wsX10_recall) := goodIn_app (goodIn_of _ (by decide +kernel)) ggL_law_X10_recall
set_option maxRecDepth 20000 in
theorem ggL_law_X9_digest : GoodIn wsL_law wsX9_digest := goodIn_r _ [868, 869, 16, 870, 871, 872, 2, 873, 276, 306, 327, 351, 402, 411, 423, 433, 442, 451, 550, 560, 587, 874, 875, 876, 877, 205, 197, 198, 15, 199, 33, 34, 200, 167, 155, 168, 160, 161, 162, 569, 184, 185, 41, 186, 134, 55, 187, 188, 189, 190, 191, 192, 108, 193, 194, 195, 578, 180, 181, 182, 56, 183, 878, 879, 880, 881, 460, 461, 501, 502, 503, 45, 504, 60, 520, 521, 522, 523, 61, 535, 536, 537, 538, 62, 629, 630, 631, 632, 633, 634, 164, 165, 650, 651, 652, 653, 118, 42, 654, 655, 656, 657, 658, 893, 894, 895, 896, 897, 909, 910, 911, 912, 913, 914, 915, 916, 917, 918, 926, 927, 928, 929, 930, 931, 932, 933, 934, 935, 936, 937, 938] (by decide +kernel) (by decide +kernel)
set_option maxRecDepth 20000 in
theorem gL_law_X9_digest : GoodIn wsL_law (wsV RL 225 RX9 yX9_digest wsX9_digest) := goodIn_app (goodIn_of _ (by decide +kernel)) ggL_law_X9_digest
set_option maxRecDepth 20000 in
theorem ggL_law_X10_digest : GoodIn wsL_law wsX10_digest := goodIn_r _ [885, 220, 886, 887, 82, 888, 889, 890, 5, 891, 892, 256, 257, 258, 259, 242, 243, 244, 264, 265, 266, 267, 260, 261, 262, 263, 639, 640, 641, 642, 663, 664, 665, 666, 226, 227, 228, 229, 248, 249, 250, 251, 898, 899, 900, 901, 902, 903, 904, 905, 906, 907, 908] (by decide +kernel) (by decide +kernel)
set_option maxRecDepth 20000 in
theorem gL_law_X10_digest : GoodIn wsL_law (wsV RL 229 RX10 yX10_digest wsX10_digest) := goodIn_app (goodIn_of _ (by decide +kernel)) ggL_law_X10_digest
theorem dL_law_0 : decode cL_law 0 = .ok (.new 8, 3) := by decide +kernel
theorem dL_law_3 : decode cL_law 3 = .ok (.dup, 1) := by decide +kernel
theorem dL_law_4 : decode cL_law 4 = .ok (.invokespecial 72, 3) := by decide +kernel
theorem dL_law_7 : decode cL_law 7 = .ok (.astore_n 1, 1) := by decide +kernel
theorem dL_law_8 : decode cL_law 8 = .ok (.new 73, 3) := by decide +kernel
theorem dL_law_11 : decode cL_law 11 = .ok (.dup, 1) := by decide +kernel
theorem dL_law_12 : decode cL_law 12 = .ok (.invokespecial 75, 3) := by decide +kernel
theorem dL_law_15 : decode cL_law 15 = .ok (.astore_n 2, 1) := by decide +kernel
theorem dL_law_16 : decode cL_law 16 = .ok (.iconst 1, 1) := by decide +kernel
theorem dL_law_17 : decode cL_law 17 = .ok (.newarray .long, 2) := by decide +kernel
theorem dL_law_19 : decode cL_law 19 = .ok (.astore_n 3, 1) := by decide +kernel
theorem dL_law_20 : decode cL_law 20 = .ok (.iconst 0, 1) := by decide +kernel
theorem dL_law_21 : decode cL_law 21 = .ok (.istore 4, 2) := by decide +kernel
theorem dL_law_23 : decode cL_law 23 = .ok (.iload 4, 2) := by decide +kernel
theorem dL_law_25 : decode cL_law 25 = .ok (.aload_n 0, 1) := by decide +kernel
theorem dL_law_26 : decode cL_law 26 = .ok (.arraylength, 1) := by decide +kernel
theorem dL_law_27 : decode cL_law 27 = .ok (.iconst 3, 1) := by decide +kernel
theorem dL_law_28 : decode cL_law 28 = .ok (.isub, 1) := by decide +kernel
theorem dL_law_29 : decode cL_law 29 = .ok (.if_icmp .gt 1564, 3) := by decide +kernel
theorem dL_law_32 : decode cL_law 32 = .ok (.aload_n 0, 1) := by decide +kernel
theorem dL_law_33 : decode cL_law 33 = .ok (.iload 4, 2) := by decide +kernel
theorem dL_law_35 : decode cL_law 35 = .ok (.iaload, 1) := by decide +kernel
theorem dL_law_36 : decode cL_law 36 = .ok (.bipush 63, 2) := by decide +kernel
theorem dL_law_38 : decode cL_law 38 = .ok (.iand, 1) := by decide +kernel
theorem dL_law_39 : decode cL_law 39 = .ok (.tableswitch 1548 0 39 #[173, 241, 282, 295, 308, 321, 334, 390, 446, 502, 515, 528, 541, 597, 610, 623, 636, 649, 662, 718, 774, 842, 898, 911, 924, 937, 950, 1018, 1086, 1142, 1198, 1239, 1295, 1308, 1321, 1365, 1409, 1422, 1478, 1534], 173) := by decide +kernel
theorem dL_law_212 : decode cL_law 212 = .ok (.aload_n 1, 1) := by decide +kernel
theorem dL_law_213 : decode cL_law 213 = .ok (.aload_n 0, 1) := by decide +kernel
theorem dL_law_214 : decode cL_law 214 = .ok (.iload 4, 2) := by decide +kernel
theorem dL_law_216 : decode cL_law 216 = .ok (.iconst 1, 1) := by decide +kernel
theorem dL_law_217 : decode cL_law 217 = .ok (.iadd, 1) := by decide +kernel
theorem dL_law_218 : decode cL_law 218 = .ok (.iaload, 1) := by decide +kernel
theorem dL_law_219 : decode cL_law 219 = .ok (.aload_n 0, 1) := by decide +kernel
theorem dL_law_220 : decode cL_law 220 = .ok (.iload 4, 2) := by decide +kernel
theorem dL_law_222 : decode cL_law 222 = .ok (.iconst 2, 1) := by decide +kernel
theorem dL_law_223 : decode cL_law 223 = .ok (.iadd, 1) := by decide +kernel
theorem dL_law_224 : decode cL_law 224 = .ok (.iaload, 1) := by decide +kernel
theorem dL_law_225 : decode cL_law 225 = .ok (.aload_n 3, 1) := by decide +kernel
theorem dL_law_226 : decode cL_law 226 = .ok (.invokestatic 76, 3) := by decide +kernel
theorem dL_law_229 : decode cL_law 229 = .ok (.istore 5, 2) := by decide +kernel
theorem dL_law_231 : decode cL_law 231 = .ok (.aload_n 2, 1) := by decide +kernel
theorem dL_law_232 : decode cL_law 232 = .ok (.aload_n 0, 1) := by decide +kernel
theorem dL_law_233 : decode cL_law 233 = .ok (.iload 4, 2) := by decide +kernel
theorem dL_law_235 : decode cL_law 235 = .ok (.iconst 1, 1) := by decide +kernel
theorem dL_law_236 : decode cL_law 236 = .ok (.iadd, 1) := by decide +kernel
theorem dL_law_237 : decode cL_law 237 = .ok (.iaload, 1) := by decide +kernel
theorem dL_law_238 : decode cL_law 238 = .ok (.aload_n 0, 1) := by decide +kernel
theorem dL_law_239 : decode cL_law 239 = .ok (.iload 4, 2) := by decide +kernel
theorem dL_law_241 : decode cL_law 241 = .ok (.iconst 2, 1) := by decide +kernel
theorem dL_law_242 : decode cL_law 242 = .ok (.iadd, 1) := by decide +kernel
theorem dL_law_243 : decode cL_law 243 = .ok (.iaload, 1) := by decide +kernel
theorem dL_law_244 : decode cL_law 244 = .ok (.invokevirtual 81, 3) := by decide +kernel
theorem dL_law_247 : decode cL_law 247 = .ok (.istore 6, 2) := by decide +kernel
theorem dL_law_249 : decode cL_law 249 = .ok (.aload_n 2, 1) := by decide +kernel
theorem dL_law_250 : decode cL_law 250 = .ok (.invokevirtual 82, 3) := by decide +kernel
theorem dL_law_253 : decode cL_law 253 = .ok (.iload 5, 2) := by decide +kernel
theorem dL_law_255 : decode cL_law 255 = .ok (.if_icmp .eq 5, 3) := by decide +kernel
theorem dL_law_258 : decode cL_law 258 = .ok (.iconst 0, 1) := by decide +kernel
theorem dL_law_259 : decode cL_law 259 = .ok (.ireturn, 1) := by decide +kernel
theorem dL_law_260 : decode cL_law 260 = .ok (.iload 5, 2) := by decide +kernel
theorem dL_law_262 : decode cL_law 262 = .ok (.ifCond .ne 15, 3) := by decide +kernel
theorem dL_law_265 : decode cL_law 265 = .ok (.aload_n 3, 1) := by decide +kernel
theorem dL_law_266 : decode cL_law 266 = .ok (.iconst 0, 1) := by decide +kernel
theorem dL_law_267 : decode cL_law 267 = .ok (.laload, 1) := by decide +kernel
theorem dL_law_268 : decode cL_law 268 = .ok (.iload 6, 2) := by decide +kernel
theorem dL_law_270 : decode cL_law 270 = .ok (.i2l, 1) := by decide +kernel
theorem dL_law_271 : decode cL_law 271 = .ok (.lcmp, 1) := by decide +kernel
theorem dL_law_272 : decode cL_law 272 = .ok (.ifCond .eq 5, 3) := by decide +kernel
theorem dL_law_275 : decode cL_law 275 = .ok (.iconst 0, 1) := by decide +kernel
theorem dL_law_276 : decode cL_law 276 = .ok (.ireturn, 1) := by decide +kernel
theorem dL_law_277 : decode cL_law 277 = .ok (.goto 1310, 3) := by decide +kernel
theorem dL_law_280 : decode cL_law 280 = .ok (.aload_n 1, 1) := by decide +kernel
theorem dL_law_281 : decode cL_law 281 = .ok (.aload_n 0, 1) := by decide +kernel
theorem dL_law_282 : decode cL_law 282 = .ok (.iload 4, 2) := by decide +kernel
theorem dL_law_284 : decode cL_law 284 = .ok (.iconst 1, 1) := by decide +kernel
theorem dL_law_285 : decode cL_law 285 = .ok (.iadd, 1) := by decide +kernel
theorem dL_law_286 : decode cL_law 286 = .ok (.iaload, 1) := by decide +kernel
theorem dL_law_287 : decode cL_law 287 = .ok (.ifCond .eq 7, 3) := by decide +kernel
theorem dL_law_290 : decode cL_law 290 = .ok (.iconst 1, 1) := by decide +kernel
theorem dL_law_291 : decode cL_law 291 = .ok (.goto 4, 3) := by decide +kernel
theorem dL_law_294 : decode cL_law 294 = .ok (.iconst 0, 1) := by decide +kernel
theorem dL_law_295 : decode cL_law 295 = .ok (.invokevirtual 85, 3) := by decide +kernel
theorem dL_law_298 : decode cL_law 298 = .ok (.aload_n 2, 1) := by decide +kernel
theorem dL_law_299 : decode cL_law 299 = .ok (.aload_n 0, 1) := by decide +kernel
theorem dL_law_300 : decode cL_law 300 = .ok (.iload 4, 2) := by decide +kernel
theorem dL_law_302 : decode cL_law 302 = .ok (.iconst 1, 1) := by decide +kernel
theorem dL_law_303 : decode cL_law 303 = .ok (.iadd, 1) := by decide +kernel
theorem dL_law_304 : decode cL_law 304 = .ok (.iaload, 1) := by decide +kernel
theorem dL_law_305 : decode cL_law 305 = .ok (.ifCond .eq 7, 3) := by decide +kernel
theorem dL_law_308 : decode cL_law 308 = .ok (.iconst 1, 1) := by decide +kernel
theorem dL_law_309 : decode cL_law 309 = .ok (.goto 4, 3) := by decide +kernel
theorem dL_law_312 : decode cL_law 312 = .ok (.iconst 0, 1) := by decide +kernel
theorem dL_law_313 : decode cL_law 313 = .ok (.invokevirtual 89, 3) := by decide +kernel
theorem dL_law_316 : decode cL_law 316 = .ok (.if_icmp .eq 1271, 3) := by decide +kernel
theorem dL_law_319 : decode cL_law 319 = .ok (.iconst 0, 1) := by decide +kernel
theorem dL_law_320 : decode cL_law 320 = .ok (.ireturn, 1) := by decide +kernel
theorem dL_law_321 : decode cL_law 321 = .ok (.aload_n 1, 1) := by decide +kernel
theorem dL_law_322 : decode cL_law 322 = .ok (.invokevirtual 90, 3) := by decide +kernel
theorem dL_law_325 : decode cL_law 325 = .ok (.aload_n 2, 1) := by decide +kernel
theorem dL_law_326 : decode cL_law 326 = .ok (.invokevirtual 94, 3) := by decide +kernel
theorem dL_law_329 : decode cL_law 329 = .ok (.if_icmp .eq 1258, 3) := by decide +kernel
theorem dL_law_332 : decode cL_law 332 = .ok (.iconst 0, 1) := by decide +kernel
theorem dL_law_333 : decode cL_law 333 = .ok (.ireturn, 1) := by decide +kernel
theorem dL_law_334 : decode cL_law 334 = .ok (.aload_n 1, 1) := by decide +kernel
theorem dL_law_335 : decode cL_law 335 = .ok (.invokevirtual 95, 3) := by decide +kernel
theorem dL_law_338 : decode cL_law 338 = .ok (.aload_n 2, 1) := by decide +kernel
theorem dL_law_339 : decode cL_law 339 = .ok (.invokevirtual 98, 3) := by decide +kernel
theorem dL_law_342 : decode cL_law 342 = .ok (.if_icmp .eq 1245, 3) := by decide +kernel
theorem dL_law_345 : decode cL_law 345 = .ok (.iconst 0, 1) := by decide +kernel
theorem dL_law_346 : decode cL_law 346 = .ok (.ireturn, 1) := by decide +kernel
theorem dL_law_347 : decode cL_law 347 = .ok (.aload_n 1, 1) := by decide +kernel
theorem dL_law_348 : decode cL_law 348 = .ok (.invokevirtual 99, 3) := by decide +kernel
theorem dL_law_351 : decode cL_law 351 = .ok (.aload_n 2, 1) := by decide +kernel
theorem dL_law_352 : decode cL_law 352 = .ok (.invokevirtual 102, 3) := by decide +kernel
theorem dL_law_355 : decode cL_law 355 = .ok (.if_icmp .eq 1232, 3) := by decide +kernel
theorem dL_law_358 : decode cL_law 358 = .ok (.iconst 0, 1) := by decide +kernel
theorem dL_law_359 : decode cL_law 359 = .ok (.ireturn, 1) := by decide +kernel
theorem dL_law_360 : decode cL_law 360 = .ok (.aload_n 1, 1) := by decide +kernel
theorem dL_law_361 : decode cL_law 361 = .ok (.invokevirtual 103, 3) := by decide +kernel
theorem dL_law_364 : decode cL_law 364 = .ok (.aload_n 2, 1) := by decide +kernel
theorem dL_law_365 : decode cL_law 365 = .ok (.invokevirtual 106, 3) := by decide +kernel
theorem dL_law_368 : decode cL_law 368 = .ok (.if_icmp .eq 1219, 3) := by decide +kernel
theorem dL_law_371 : decode cL_law 371 = .ok (.iconst 0, 1) := by decide +kernel
theorem dL_law_372 : decode cL_law 372 = .ok (.ireturn, 1) := by decide +kernel
theorem dL_law_373 : decode cL_law 373 = .ok (.aload_n 1, 1) := by decide +kernel
theorem dL_law_374 : decode cL_law 374 = .ok (.aload_n 0, 1) := by decide +kernel
theorem dL_law_375 : decode cL_law 375 = .ok (.iload 4, 2) := by decide +kernel
theorem dL_law_377 : decode cL_law 377 = .ok (.iconst 1, 1) := by decide +kernel
theorem dL_law_378 : decode cL_law 378 = .ok (.iadd, 1) := by decide +kernel
theorem dL_law_379 : decode cL_law 379 = .ok (.iaload, 1) := by decide +kernel
theorem dL_law_380 : decode cL_law 380 = .ok (.aload_n 3, 1) := by decide +kernel
theorem dL_law_381 : decode cL_law 381 = .ok (.invokestatic 107, 3) := by decide +kernel
theorem dL_law_384 : decode cL_law 384 = .ok (.istore 5, 2) := by decide +kernel
theorem dL_law_386 : decode cL_law 386 = .ok (.aload_n 2, 1) := by decide +kernel
theorem dL_law_387 : decode cL_law 387 = .ok (.aload_n 0, 1) := by decide +kernel
theorem dL_law_388 : decode cL_law 388 = .ok (.iload 4, 2) := by decide +kernel
theorem dL_law_390 : decode cL_law 390 = .ok (.iconst 1, 1) := by decide +kernel
theorem dL_law_391 : decode cL_law 391 = .ok (.iadd, 1) := by decide +kernel
theorem dL_law_392 : decode cL_law 392 = .ok (.iaload, 1) := by decide +kernel
theorem dL_law_393 : decode cL_law 393 = .ok (.invokevirtual 110, 3) := by decide +kernel
theorem dL_law_396 : decode cL_law 396 = .ok (.istore 6, 2) := by decide +kernel
theorem dL_law_398 : decode cL_law 398 = .ok (.aload_n 2, 1) := by decide +kernel
theorem dL_law_399 : decode cL_law 399 = .ok (.invokevirtual 82, 3) := by decide +kernel
theorem dL_law_402 : decode cL_law 402 = .ok (.iload 5, 2) := by decide +kernel
theorem dL_law_404 : decode cL_law 404 = .ok (.if_icmp .eq 5, 3) := by decide +kernel
theorem dL_law_407 : decode cL_law 407 = .ok (.iconst 0, 1) := by decide +kernel
theorem dL_law_408 : decode cL_law 408 = .ok (.ireturn, 1) := by decide +kernel
theorem dL_law_409 : decode cL_law 409 = .ok (.iload 5, 2) := by decide +kernel
theorem dL_law_411 : decode cL_law 411 = .ok (.ifCond .ne 15, 3) := by decide +kernel
theorem dL_law_414 : decode cL_law 414 = .ok (.aload_n 3, 1) := by decide +kernel
theorem dL_law_415 : decode cL_law 415 = .ok (.iconst 0, 1) := by decide +kernel
theorem dL_law_416 : decode cL_law 416 = .ok (.laload, 1) := by decide +kernel
theorem dL_law_417 : decode cL_law 417 = .ok (.iload 6, 2) := by decide +kernel
theorem dL_law_419 : decode cL_law 419 = .ok (.i2l, 1) := by decide +kernel
theorem dL_law_420 : decode cL_law 420 = .ok (.lcmp, 1) := by decide +kernel
theorem dL_law_421 : decode cL_law 421 = .ok (.ifCond .eq 5, 3) := by decide +kernel
theorem dL_law_424 : decode cL_law 424 = .ok (.iconst 0, 1) := by decide +kernel
theorem dL_law_425 : decode cL_law 425 = .ok (.ireturn, 1) := by decide +kernel
theorem dL_law_426 : decode cL_law 426 = .ok (.goto 1161, 3) := by decide +kernel
theorem dL_law_429 : decode cL_law 429 = .ok (.aload_n 1, 1) := by decide +kernel
theorem dL_law_430 : decode cL_law 430 = .ok (.aload_n 0, 1) := by decide +kernel
theorem dL_law_431 : decode cL_law 431 = .ok (.iload 4, 2) := by decide +kernel
theorem dL_law_433 : decode cL_law 433 = .ok (.iconst 1, 1) := by decide +kernel
theorem dL_law_434 : decode cL_law 434 = .ok (.iadd, 1) := by decide +kernel
theorem dL_law_435 : decode cL_law 435 = .ok (.iaload, 1) := by decide +kernel
theorem dL_law_436 : decode cL_law 436 = .ok (.aload_n 3, 1) := by decide +kernel
theorem dL_law_437 : decode cL_law 437 = .ok (.invokestatic 111, 3) := by decide +kernel
theorem dL_law_440 : decode cL_law 440 = .ok (.istore 5, 2) := by decide +kernel
theorem dL_law_442 : decode cL_law 442 = .ok (.aload_n 2, 1) := by decide +kernel
theorem dL_law_443 : decode cL_law 443 = .ok (.aload_n 0, 1) := by decide +kernel
theorem dL_law_444 : decode cL_law 444 = .ok (.iload 4, 2) := by decide +kernel
theorem dL_law_446 : decode cL_law 446 = .ok (.iconst 1, 1) := by decide +kernel
theorem dL_law_447 : decode cL_law 447 = .ok (.iadd, 1) := by decide +kernel
theorem dL_law_448 : decode cL_law 448 = .ok (.iaload, 1) := by decide +kernel
theorem dL_law_449 : decode cL_law 449 = .ok (.invokevirtual 113, 3) := by decide +kernel
theorem dL_law_452 : decode cL_law 452 = .ok (.istore 6, 2) := by decide +kernel
theorem dL_law_454 : decode cL_law 454 = .ok (.aload_n 2, 1) := by decide +kernel
theorem dL_law_455 : decode cL_law 455 = .ok (.invokevirtual 82, 3) := by decide +kernel
theorem dL_law_458 : decode cL_law 458 = .ok (.iload 5, 2) := by decide +kernel
theorem dL_law_460 : decode cL_law 460 = .ok (.if_icmp .eq 5, 3) := by decide +kernel
theorem dL_law_463 : decode cL_law 463 = .ok (.iconst 0, 1) := by decide +kernel
theorem dL_law_464 : decode cL_law 464 = .ok (.ireturn, 1) := by decide +kernel
theorem dL_law_465 : decode cL_law 465 = .ok (.iload 5, 2) := by decide +kernel
theorem dL_law_467 : decode cL_law 467 = .ok (.ifCond .ne 15, 3) := by decide +kernel
theorem dL_law_470 : decode cL_law 470 = .ok (.aload_n 3, 1) := by decide +kernel
theorem dL_law_471 : decode cL_law 471 = .ok (.iconst 0, 1) := by decide +kernel
theorem dL_law_472 : decode cL_law 472 = .ok (.laload, 1) := by decide +kernel
theorem dL_law_473 : decode cL_law 473 = .ok (.iload 6, 2) := by decide +kernel
theorem dL_law_475 : decode cL_law 475 = .ok (.i2l, 1) := by decide +kernel
theorem dL_law_476 : decode cL_law 476 = .ok (.lcmp, 1) := by decide +kernel
theorem dL_law_477 : decode cL_law 477 = .ok (.ifCond .eq 5, 3) := by decide +kernel
theorem dL_law_480 : decode cL_law 480 = .ok (.iconst 0, 1) := by decide +kernel
theorem dL_law_481 : decode cL_law 481 = .ok (.ireturn, 1) := by decide +kernel
theorem dL_law_482 : decode cL_law 482 = .ok (.goto 1105, 3) := by decide +kernel
theorem dL_law_485 : decode cL_law 485 = .ok (.aload_n 1, 1) := by decide +kernel
theorem dL_law_486 : decode cL_law 486 = .ok (.aload_n 0, 1) := by decide +kernel
theorem dL_law_487 : decode cL_law 487 = .ok (.iload 4, 2) := by decide +kernel
theorem dL_law_489 : decode cL_law 489 = .ok (.iconst 1, 1) := by decide +kernel
theorem dL_law_490 : decode cL_law 490 = .ok (.iadd, 1) := by decide +kernel
theorem dL_law_491 : decode cL_law 491 = .ok (.iaload, 1) := by decide +kernel
theorem dL_law_492 : decode cL_law 492 = .ok (.aload_n 3, 1) := by decide +kernel
theorem dL_law_493 : decode cL_law 493 = .ok (.invokestatic 114, 3) := by decide +kernel
theorem dL_law_496 : decode cL_law 496 = .ok (.istore 5, 2) := by decide +kernel
theorem dL_law_498 : decode cL_law 498 = .ok (.aload_n 2, 1) := by decide +kernel
theorem dL_law_499 : decode cL_law 499 = .ok (.aload_n 0, 1) := by decide +kernel
theorem dL_law_500 : decode cL_law 500 = .ok (.iload 4, 2) := by decide +kernel
theorem dL_law_502 : decode cL_law 502 = .ok (.iconst 1, 1) := by decide +kernel
theorem dL_law_503 : decode cL_law 503 = .ok (.iadd, 1) := by decide +kernel
theorem dL_law_504 : decode cL_law 504 = .ok (.iaload, 1) := by decide +kernel
theorem dL_law_505 : decode cL_law 505 = .ok (.invokevirtual 116, 3) := by decide +kernel
theorem dL_law_508 : decode cL_law 508 = .ok (.istore 6, 2) := by decide +kernel
theorem dL_law_510 : decode cL_law 510 = .ok (.aload_n 2, 1) := by decide +kernel
theorem dL_law_511 : decode cL_law 511 = .ok (.invokevirtual 82, 3) := by decide +kernel
theorem dL_law_514 : decode cL_law 514 = .ok (.iload 5, 2) := by decide +kernel
theorem dL_law_516 : decode cL_law 516 = .ok (.if_icmp .eq 5, 3) := by decide +kernel
theorem dL_law_519 : decode cL_law 519 = .ok (.iconst 0, 1) := by decide +kernel
theorem dL_law_520 : decode cL_law 520 = .ok (.ireturn, 1) := by decide +kernel
theorem dL_law_521 : decode cL_law 521 = .ok (.iload 5, 2) := by decide +kernel
theorem dL_law_523 : decode cL_law 523 = .ok (.ifCond .ne 15, 3) := by decide +kernel
theorem dL_law_526 : decode cL_law 526 = .ok (.aload_n 3, 1) := by decide +kernel
theorem dL_law_527 : decode cL_law 527 = .ok (.iconst 0, 1) := by decide +kernel
theorem dL_law_528 : decode cL_law 528 = .ok (.laload, 1) := by decide +kernel
theorem dL_law_529 : decode cL_law 529 = .ok (.iload 6, 2) := by decide +kernel
theorem dL_law_531 : decode cL_law 531 = .ok (.i2l, 1) := by decide +kernel
theorem dL_law_532 : decode cL_law 532 = .ok (.lcmp, 1) := by decide +kernel
theorem dL_law_533 : decode cL_law 533 = .ok (.ifCond .eq 5, 3) := by decide +kernel
theorem dL_law_536 : decode cL_law 536 = .ok (.iconst 0, 1) := by decide +kernel
theorem dL_law_537 : decode cL_law 537 = .ok (.ireturn, 1) := by decide +kernel
theorem dL_law_538 : decode cL_law 538 = .ok (.goto 1049, 3) := by decide +kernel
theorem dL_law_541 : decode cL_law 541 = .ok (.aload_n 1, 1) := by decide +kernel
theorem dL_law_542 : decode cL_law 542 = .ok (.invokevirtual 117, 3) := by decide +kernel
theorem dL_law_545 : decode cL_law 545 = .ok (.aload_n 2, 1) := by decide +kernel
theorem dL_law_546 : decode cL_law 546 = .ok (.invokevirtual 120, 3) := by decide +kernel
theorem dL_law_549 : decode cL_law 549 = .ok (.if_icmp .eq 1038, 3) := by decide +kernel
theorem dL_law_552 : decode cL_law 552 = .ok (.iconst 0, 1) := by decide +kernel
theorem dL_law_553 : decode cL_law 553 = .ok (.ireturn, 1) := by decide +kernel
theorem dL_law_554 : decode cL_law 554 = .ok (.aload_n 1, 1) := by decide +kernel
theorem dL_law_555 : decode cL_law 555 = .ok (.invokevirtual 121, 3) := by decide +kernel
theorem dL_law_558 : decode cL_law 558 = .ok (.aload_n 2, 1) := by decide +kernel
theorem dL_law_559 : decode cL_law 559 = .ok (.invokevirtual 124, 3) := by decide +kernel
theorem dL_law_562 : decode cL_law 562 = .ok (.if_icmp .eq 1025, 3) := by decide +kernel
theorem dL_law_565 : decode cL_law 565 = .ok (.iconst 0, 1) := by decide +kernel
theorem dL_law_566 : decode cL_law 566 = .ok (.ireturn, 1) := by decide +kernel
theorem dL_law_567 : decode cL_law 567 = .ok (.aload_n 1, 1) := by decide +kernel
theorem dL_law_568 : decode cL_law 568 = .ok (.invokevirtual 125, 3) := by decide +kernel
theorem dL_law_571 : decode cL_law 571 = .ok (.aload_n 2, 1) := by decide +kernel
theorem dL_law_572 : decode cL_law 572 = .ok (.invokevirtual 128, 3) := by decide +kernel
theorem dL_law_575 : decode cL_law 575 = .ok (.if_icmp .eq 1012, 3) := by decide +kernel
theorem dL_law_578 : decode cL_law 578 = .ok (.iconst 0, 1) := by decide +kernel
theorem dL_law_579 : decode cL_law 579 = .ok (.ireturn, 1) := by decide +kernel
theorem dL_law_580 : decode cL_law 580 = .ok (.aload_n 1, 1) := by decide +kernel
theorem dL_law_581 : decode cL_law 581 = .ok (.aload_n 0, 1) := by decide +kernel
theorem dL_law_582 : decode cL_law 582 = .ok (.iload 4, 2) := by decide +kernel
theorem dL_law_584 : decode cL_law 584 = .ok (.iconst 1, 1) := by decide +kernel
theorem dL_law_585 : decode cL_law 585 = .ok (.iadd, 1) := by decide +kernel
theorem dL_law_586 : decode cL_law 586 = .ok (.iaload, 1) := by decide +kernel
theorem dL_law_587 : decode cL_law 587 = .ok (.aload_n 3, 1) := by decide +kernel
theorem dL_law_588 : decode cL_law 588 = .ok (.invokestatic 129, 3) := by decide +kernel
theorem dL_law_591 : decode cL_law 591 = .ok (.istore 5, 2) := by decide +kernel
theorem dL_law_593 : decode cL_law 593 = .ok (.aload_n 2, 1) := by decide +kernel
theorem dL_law_594 : decode cL_law 594 = .ok (.aload_n 0, 1) := by decide +kernel
theorem dL_law_595 : decode cL_law 595 = .ok (.iload 4, 2) := by decide +kernel
theorem dL_law_597 : decode cL_law 597 = .ok (.iconst 1, 1) := by decide +kernel
theorem dL_law_598 : decode cL_law 598 = .ok (.iadd, 1) := by decide +kernel
theorem dL_law_599 : decode cL_law 599 = .ok (.iaload, 1) := by decide +kernel
theorem dL_law_600 : decode cL_law 600 = .ok (.invokevirtual 131, 3) := by decide +kernel
theorem dL_law_603 : decode cL_law 603 = .ok (.istore 6, 2) := by decide +kernel
theorem dL_law_605 : decode cL_law 605 = .ok (.aload_n 2, 1) := by decide +kernel
theorem dL_law_606 : decode cL_law 606 = .ok (.invokevirtual 82, 3) := by decide +kernel
theorem dL_law_609 : decode cL_law 609 = .ok (.iload 5, 2) := by decide +kernel
theorem dL_law_611 : decode cL_law 611 = .ok (.if_icmp .eq 5, 3) := by decide +kernel
theorem dL_law_614 : decode cL_law 614 = .ok (.iconst 0, 1) := by decide +kernel
theorem dL_law_615 : decode cL_law 615 = .ok (.ireturn, 1) := by decide +kernel
theorem dL_law_616 : decode cL_law 616 = .ok (.iload 5, 2) := by decide +kernel
theorem dL_law_618 : decode cL_law 618 = .ok (.ifCond .ne 15, 3) := by decide +kernel
theorem dL_law_621 : decode cL_law 621 = .ok (.aload_n 3, 1) := by decide +kernel
theorem dL_law_622 : decode cL_law 622 = .ok (.iconst 0, 1) := by decide +kernel
theorem dL_law_623 : decode cL_law 623 = .ok (.laload, 1) := by decide +kernel
theorem dL_law_624 : decode cL_law 624 = .ok (.iload 6, 2) := by decide +kernel
theorem dL_law_626 : decode cL_law 626 = .ok (.i2l, 1) := by decide +kernel
theorem dL_law_627 : decode cL_law 627 = .ok (.lcmp, 1) := by decide +kernel
theorem dL_law_628 : decode cL_law 628 = .ok (.ifCond .eq 5, 3) := by decide +kernel
theorem dL_law_631 : decode cL_law 631 = .ok (.iconst 0, 1) := by decide +kernel
theorem dL_law_632 : decode cL_law 632 = .ok (.ireturn, 1) := by decide +kernel
theorem dL_law_633 : decode cL_law 633 = .ok (.goto 954, 3) := by decide +kernel
theorem dL_law_636 : decode cL_law 636 = .ok (.aload_n 1, 1) := by decide +kernel
theorem dL_law_637 : decode cL_law 637 = .ok (.invokevirtual 132, 3) := by decide +kernel
theorem dL_law_640 : decode cL_law 640 = .ok (.aload_n 2, 1) := by decide +kernel
theorem dL_law_641 : decode cL_law 641 = .ok (.invokevirtual 135, 3) := by decide +kernel
theorem dL_law_644 : decode cL_law 644 = .ok (.if_icmp .eq 943, 3) := by decide +kernel
theorem dL_law_647 : decode cL_law 647 = .ok (.iconst 0, 1) := by decide +kernel
theorem dL_law_648 : decode cL_law 648 = .ok (.ireturn, 1) := by decide +kernel
theorem dL_law_649 : decode cL_law 649 = .ok (.aload_n 1, 1) := by decide +kernel
theorem dL_law_650 : decode cL_law 650 = .ok (.invokevirtual 136, 3) := by decide +kernel
theorem dL_law_653 : decode cL_law 653 = .ok (.aload_n 2, 1) := by decide +kernel
theorem dL_law_654 : decode cL_law 654 = .ok (.invokevirtual 139, 3) := by decide +kernel
theorem dL_law_657 : decode cL_law 657 = .ok (.if_icmp .eq 930, 3) := by decide +kernel
theorem dL_law_660 : decode cL_law 660 = .ok (.iconst 0, 1) := by decide +kernel
theorem dL_law_661 : decode cL_law 661 = .ok (.ireturn, 1) := by decide +kernel
theorem dL_law_662 : decode cL_law 662 = .ok (.aload_n 1, 1) := by decide +kernel
theorem dL_law_663 : decode cL_law 663 = .ok (.invokevirtual 140, 3) := by decide +kernel
theorem dL_law_666 : decode cL_law 666 = .ok (.aload_n 2, 1) := by decide +kernel
theorem dL_law_667 : decode cL_law 667 = .ok (.invokevirtual 143, 3) := by decide +kernel
theorem dL_law_670 : decode cL_law 670 = .ok (.if_icmp .eq 917, 3) := by decide +kernel
theorem dL_law_673 : decode cL_law 673 = .ok (.iconst 0, 1) := by decide +kernel
theorem dL_law_674 : decode cL_law 674 = .ok (.ireturn, 1) := by decide +kernel
theorem dL_law_675 : decode cL_law 675 = .ok (.aload_n 1, 1) := by decide +kernel
theorem dL_law_676 : decode cL_law 676 = .ok (.invokevirtual 144, 3) := by decide +kernel
theorem dL_law_679 : decode cL_law 679 = .ok (.aload_n 2, 1) := by decide +kernel
theorem dL_law_680 : decode cL_law 680 = .ok (.invokevirtual 147, 3) := by decide +kernel
theorem dL_law_683 : decode cL_law 683 = .ok (.if_icmp .eq 904, 3) := by decide +kernel
theorem dL_law_686 : decode cL_law 686 = .ok (.iconst 0, 1) := by decide +kernel
theorem dL_law_687 : decode cL_law 687 = .ok (.ireturn, 1) := by decide +kernel
theorem dL_law_688 : decode cL_law 688 = .ok (.aload_n 1, 1) := by decide +kernel
theorem dL_law_689 : decode cL_law 689 = .ok (.invokevirtual 148, 3) := by decide +kernel
theorem dL_law_692 : decode cL_law 692 = .ok (.aload_n 2, 1) := by decide +kernel
theorem dL_law_693 : decode cL_law 693 = .ok (.invokevirtual 151, 3) := by decide +kernel
theorem dL_law_696 : decode cL_law 696 = .ok (.if_icmp .eq 891, 3) := by decide +kernel
theorem dL_law_699 : decode cL_law 699 = .ok (.iconst 0, 1) := by decide +kernel
theorem dL_law_700 : decode cL_law 700 = .ok (.ireturn, 1) := by decide +kernel
theorem dL_law_701 : decode cL_law 701 = .ok (.aload_n 1, 1) := by decide +kernel
theorem dL_law_702 : decode cL_law 702 = .ok (.aload_n 0, 1) := by decide +kernel
theorem dL_law_703 : decode cL_law 703 = .ok (.iload 4, 2) := by decide +kernel
theorem dL_law_705 : decode cL_law 705 = .ok (.iconst 1, 1) := by decide +kernel
theorem dL_law_706 : decode cL_law 706 = .ok (.iadd, 1) := by decide +kernel
theorem dL_law_707 : decode cL_law 707 = .ok (.iaload, 1) := by decide +kernel
theorem dL_law_708 : decode cL_law 708 = .ok (.aload_n 3, 1) := by decide +kernel
theorem dL_law_709 : decode cL_law 709 = .ok (.invokestatic 152, 3) := by decide +kernel
theorem dL_law_712 : decode cL_law 712 = .ok (.istore 5, 2) := by decide +kernel
theorem dL_law_714 : decode cL_law 714 = .ok (.aload_n 2, 1) := by decide +kernel
theorem dL_law_715 : decode cL_law 715 = .ok (.aload_n 0, 1) := by decide +kernel
theorem dL_law_716 : decode cL_law 716 = .ok (.iload 4, 2) := by decide +kernel
theorem dL_law_718 : decode cL_law 718 = .ok (.iconst 1, 1) := by decide +kernel
theorem dL_law_719 : decode cL_law 719 = .ok (.iadd, 1) := by decide +kernel
theorem dL_law_720 : decode cL_law 720 = .ok (.iaload, 1) := by decide +kernel
theorem dL_law_721 : decode cL_law 721 = .ok (.invokevirtual 154, 3) := by decide +kernel
theorem dL_law_724 : decode cL_law 724 = .ok (.istore 6, 2) := by decide +kernel
theorem dL_law_726 : decode cL_law 726 = .ok (.aload_n 2, 1) := by decide +kernel
theorem dL_law_727 : decode cL_law 727 = .ok (.invokevirtual 82, 3) := by decide +kernel
theorem dL_law_730 : decode cL_law 730 = .ok (.iload 5, 2) := by decide +kernel
theorem dL_law_732 : decode cL_law 732 = .ok (.if_icmp .eq 5, 3) := by decide +kernel
theorem dL_law_735 : decode cL_law 735 = .ok (.iconst 0, 1) := by decide +kernel
theorem dL_law_736 : decode cL_law 736 = .ok (.ireturn, 1) := by decide +kernel
theorem dL_law_737 : decode cL_law 737 = .ok (.iload 5, 2) := by decide +kernel
theorem dL_law_739 : decode cL_law 739 = .ok (.ifCond .ne 15, 3) := by decide +kernel
theorem dL_law_742 : decode cL_law 742 = .ok (.aload_n 3, 1) := by decide +kernel
theorem dL_law_743 : decode cL_law 743 = .ok (.iconst 0, 1) := by decide +kernel
theorem dL_law_744 : decode cL_law 744 = .ok (.laload, 1) := by decide +kernel
theorem dL_law_745 : decode cL_law 745 = .ok (.iload 6, 2) := by decide +kernel
theorem dL_law_747 : decode cL_law 747 = .ok (.i2l, 1) := by decide +kernel
theorem dL_law_748 : decode cL_law 748 = .ok (.lcmp, 1) := by decide +kernel
theorem dL_law_749 : decode cL_law 749 = .ok (.ifCond .eq 5, 3) := by decide +kernel
theorem dL_law_752 : decode cL_law 752 = .ok (.iconst 0, 1) := by decide +kernel
theorem dL_law_753 : decode cL_law 753 = .ok (.ireturn, 1) := by decide +kernel
theorem dL_law_754 : decode cL_law 754 = .ok (.goto 833, 3) := by decide +kernel
theorem dL_law_757 : decode cL_law 757 = .ok (.aload_n 1, 1) := by decide +kernel
theorem dL_law_758 : decode cL_law 758 = .ok (.aload_n 0, 1) := by decide +kernel
theorem dL_law_759 : decode cL_law 759 = .ok (.iload 4, 2) := by decide +kernel
theorem dL_law_761 : decode cL_law 761 = .ok (.iconst 1, 1) := by decide +kernel
theorem dL_law_762 : decode cL_law 762 = .ok (.iadd, 1) := by decide +kernel
theorem dL_law_763 : decode cL_law 763 = .ok (.iaload, 1) := by decide +kernel
theorem dL_law_764 : decode cL_law 764 = .ok (.aload_n 3, 1) := by decide +kernel
theorem dL_law_765 : decode cL_law 765 = .ok (.invokestatic 155, 3) := by decide +kernel
theorem dL_law_768 : decode cL_law 768 = .ok (.istore 5, 2) := by decide +kernel
theorem dL_law_770 : decode cL_law 770 = .ok (.aload_n 2, 1) := by decide +kernel
theorem dL_law_771 : decode cL_law 771 = .ok (.aload_n 0, 1) := by decide +kernel
theorem dL_law_772 : decode cL_law 772 = .ok (.iload 4, 2) := by decide +kernel
theorem dL_law_774 : decode cL_law 774 = .ok (.iconst 1, 1) := by decide +kernel
theorem dL_law_775 : decode cL_law 775 = .ok (.iadd, 1) := by decide +kernel
theorem dL_law_776 : decode cL_law 776 = .ok (.iaload, 1) := by decide +kernel
theorem dL_law_777 : decode cL_law 777 = .ok (.invokevirtual 157, 3) := by decide +kernel
theorem dL_law_780 : decode cL_law 780 = .ok (.istore 6, 2) := by decide +kernel
theorem dL_law_782 : decode cL_law 782 = .ok (.aload_n 2, 1) := by decide +kernel
theorem dL_law_783 : decode cL_law 783 = .ok (.invokevirtual 82, 3) := by decide +kernel
theorem dL_law_786 : decode cL_law 786 = .ok (.iload 5, 2) := by decide +kernel
theorem dL_law_788 : decode cL_law 788 = .ok (.if_icmp .eq 5, 3) := by decide +kernel
theorem dL_law_791 : decode cL_law 791 = .ok (.iconst 0, 1) := by decide +kernel
theorem dL_law_792 : decode cL_law 792 = .ok (.ireturn, 1) := by decide +kernel
theorem dL_law_793 : decode cL_law 793 = .ok (.iload 5, 2) := by decide +kernel
theorem dL_law_795 : decode cL_law 795 = .ok (.ifCond .ne 15, 3) := by decide +kernel
theorem dL_law_798 : decode cL_law 798 = .ok (.aload_n 3, 1) := by decide +kernel
theorem dL_law_799 : decode cL_law 799 = .ok (.iconst 0, 1) := by decide +kernel
theorem dL_law_800 : decode cL_law 800 = .ok (.laload, 1) := by decide +kernel
theorem dL_law_801 : decode cL_law 801 = .ok (.iload 6, 2) := by decide +kernel
theorem dL_law_803 : decode cL_law 803 = .ok (.i2l, 1) := by decide +kernel
theorem dL_law_804 : decode cL_law 804 = .ok (.lcmp, 1) := by decide +kernel
theorem dL_law_805 : decode cL_law 805 = .ok (.ifCond .eq 5, 3) := by decide +kernel
theorem dL_law_808 : decode cL_law 808 = .ok (.iconst 0, 1) := by decide +kernel
theorem dL_law_809 : decode cL_law 809 = .ok (.ireturn, 1) := by decide +kernel
theorem dL_law_810 : decode cL_law 810 = .ok (.goto 777, 3) := by decide +kernel
theorem dL_law_813 : decode cL_law 813 = .ok (.aload_n 1, 1) := by decide +kernel
theorem dL_law_814 : decode cL_law 814 = .ok (.aload_n 0, 1) := by decide +kernel
theorem dL_law_815 : decode cL_law 815 = .ok (.iload 4, 2) := by decide +kernel
theorem dL_law_817 : decode cL_law 817 = .ok (.iconst 1, 1) := by decide +kernel
theorem dL_law_818 : decode cL_law 818 = .ok (.iadd, 1) := by decide +kernel
theorem dL_law_819 : decode cL_law 819 = .ok (.iaload, 1) := by decide +kernel
theorem dL_law_820 : decode cL_law 820 = .ok (.aload_n 0, 1) := by decide +kernel
theorem dL_law_821 : decode cL_law 821 = .ok (.iload 4, 2) := by decide +kernel
theorem dL_law_823 : decode cL_law 823 = .ok (.iconst 2, 1) := by decide +kernel
theorem dL_law_824 : decode cL_law 824 = .ok (.iadd, 1) := by decide +kernel
theorem dL_law_825 : decode cL_law 825 = .ok (.iaload, 1) := by decide +kernel
theorem dL_law_826 : decode cL_law 826 = .ok (.aload_n 3, 1) := by decide +kernel
theorem dL_law_827 : decode cL_law 827 = .ok (.invokestatic 158, 3) := by decide +kernel
theorem dL_law_830 : decode cL_law 830 = .ok (.istore 5, 2) := by decide +kernel
theorem dL_law_832 : decode cL_law 832 = .ok (.aload_n 2, 1) := by decide +kernel
theorem dL_law_833 : decode cL_law 833 = .ok (.aload_n 0, 1) := by decide +kernel
theorem dL_law_834 : decode cL_law 834 = .ok (.iload 4, 2) := by decide +kernel
theorem dL_law_836 : decode cL_law 836 = .ok (.iconst 1, 1) := by decide +kernel
theorem dL_law_837 : decode cL_law 837 = .ok (.iadd, 1) := by decide +kernel
theorem dL_law_838 : decode cL_law 838 = .ok (.iaload, 1) := by decide +kernel
theorem dL_law_839 : decode cL_law 839 = .ok (.aload_n 0, 1) := by decide +kernel
theorem dL_law_840 : decode cL_law 840 = .ok (.iload 4, 2) := by decide +kernel
theorem dL_law_842 : decode cL_law 842 = .ok (.iconst 2, 1) := by decide +kernel
theorem dL_law_843 : decode cL_law 843 = .ok (.iadd, 1) := by decide +kernel
theorem dL_law_844 : decode cL_law 844 = .ok (.iaload, 1) := by decide +kernel
theorem dL_law_845 : decode cL_law 845 = .ok (.invokevirtual 160, 3) := by decide +kernel
theorem dL_law_848 : decode cL_law 848 = .ok (.istore 6, 2) := by decide +kernel
theorem dL_law_850 : decode cL_law 850 = .ok (.aload_n 2, 1) := by decide +kernel
theorem dL_law_851 : decode cL_law 851 = .ok (.invokevirtual 82, 3) := by decide +kernel
theorem dL_law_854 : decode cL_law 854 = .ok (.iload 5, 2) := by decide +kernel
theorem dL_law_856 : decode cL_law 856 = .ok (.if_icmp .eq 5, 3) := by decide +kernel
theorem dL_law_859 : decode cL_law 859 = .ok (.iconst 0, 1) := by decide +kernel
theorem dL_law_860 : decode cL_law 860 = .ok (.ireturn, 1) := by decide +kernel
theorem dL_law_861 : decode cL_law 861 = .ok (.iload 5, 2) := by decide +kernel
theorem dL_law_863 : decode cL_law 863 = .ok (.ifCond .ne 15, 3) := by decide +kernel
theorem dL_law_866 : decode cL_law 866 = .ok (.aload_n 3, 1) := by decide +kernel
theorem dL_law_867 : decode cL_law 867 = .ok (.iconst 0, 1) := by decide +kernel
theorem dL_law_868 : decode cL_law 868 = .ok (.laload, 1) := by decide +kernel
theorem dL_law_869 : decode cL_law 869 = .ok (.iload 6, 2) := by decide +kernel
theorem dL_law_871 : decode cL_law 871 = .ok (.i2l, 1) := by decide +kernel
theorem dL_law_872 : decode cL_law 872 = .ok (.lcmp, 1) := by decide +kernel
theorem dL_law_873 : decode cL_law 873 = .ok (.ifCond .eq 5, 3) := by decide +kernel
theorem dL_law_876 : decode cL_law 876 = .ok (.iconst 0, 1) := by decide +kernel
theorem dL_law_877 : decode cL_law 877 = .ok (.ireturn, 1) := by decide +kernel
theorem dL_law_878 : decode cL_law 878 = .ok (.goto 709, 3) := by decide +kernel
theorem dL_law_881 : decode cL_law 881 = .ok (.aload_n 1, 1) := by decide +kernel
theorem dL_law_882 : decode cL_law 882 = .ok (.aload_n 0, 1) := by decide +kernel
theorem dL_law_883 : decode cL_law 883 = .ok (.iload 4, 2) := by decide +kernel
theorem dL_law_885 : decode cL_law 885 = .ok (.iconst 1, 1) := by decide +kernel
theorem dL_law_886 : decode cL_law 886 = .ok (.iadd, 1) := by decide +kernel
theorem dL_law_887 : decode cL_law 887 = .ok (.iaload, 1) := by decide +kernel
theorem dL_law_888 : decode cL_law 888 = .ok (.aload_n 3, 1) := by decide +kernel
theorem dL_law_889 : decode cL_law 889 = .ok (.invokestatic 161, 3) := by decide +kernel
theorem dL_law_892 : decode cL_law 892 = .ok (.istore 5, 2) := by decide +kernel
theorem dL_law_894 : decode cL_law 894 = .ok (.aload_n 2, 1) := by decide +kernel
theorem dL_law_895 : decode cL_law 895 = .ok (.aload_n 0, 1) := by decide +kernel
theorem dL_law_896 : decode cL_law 896 = .ok (.iload 4, 2) := by decide +kernel
theorem dL_law_898 : decode cL_law 898 = .ok (.iconst 1, 1) := by decide +kernel
theorem dL_law_899 : decode cL_law 899 = .ok (.iadd, 1) := by decide +kernel
theorem dL_law_900 : decode cL_law 900 = .ok (.iaload, 1) := by decide +kernel
theorem dL_law_901 : decode cL_law 901 = .ok (.invokevirtual 163, 3) := by decide +kernel
theorem dL_law_904 : decode cL_law 904 = .ok (.istore 6, 2) := by decide +kernel
theorem dL_law_906 : decode cL_law 906 = .ok (.aload_n 2, 1) := by decide +kernel
theorem dL_law_907 : decode cL_law 907 = .ok (.invokevirtual 82, 3) := by decide +kernel
theorem dL_law_910 : decode cL_law 910 = .ok (.iload 5, 2) := by decide +kernel
theorem dL_law_912 : decode cL_law 912 = .ok (.if_icmp .eq 5, 3) := by decide +kernel
theorem dL_law_915 : decode cL_law 915 = .ok (.iconst 0, 1) := by decide +kernel
theorem dL_law_916 : decode cL_law 916 = .ok (.ireturn, 1) := by decide +kernel
theorem dL_law_917 : decode cL_law 917 = .ok (.iload 5, 2) := by decide +kernel
theorem dL_law_919 : decode cL_law 919 = .ok (.ifCond .ne 15, 3) := by decide +kernel
theorem dL_law_922 : decode cL_law 922 = .ok (.aload_n 3, 1) := by decide +kernel
theorem dL_law_923 : decode cL_law 923 = .ok (.iconst 0, 1) := by decide +kernel
theorem dL_law_924 : decode cL_law 924 = .ok (.laload, 1) := by decide +kernel
theorem dL_law_925 : decode cL_law 925 = .ok (.iload 6, 2) := by decide +kernel
theorem dL_law_927 : decode cL_law 927 = .ok (.i2l, 1) := by decide +kernel
theorem dL_law_928 : decode cL_law 928 = .ok (.lcmp, 1) := by decide +kernel
theorem dL_law_929 : decode cL_law 929 = .ok (.ifCond .eq 5, 3) := by decide +kernel
theorem dL_law_932 : decode cL_law 932 = .ok (.iconst 0, 1) := by decide +kernel
theorem dL_law_933 : decode cL_law 933 = .ok (.ireturn, 1) := by decide +kernel
theorem dL_law_934 : decode cL_law 934 = .ok (.goto 653, 3) := by decide +kernel
theorem dL_law_937 : decode cL_law 937 = .ok (.aload_n 1, 1) := by decide +kernel
theorem dL_law_938 : decode cL_law 938 = .ok (.invokevirtual 164, 3) := by decide +kernel
theorem dL_law_941 : decode cL_law 941 = .ok (.aload_n 2, 1) := by decide +kernel
theorem dL_law_942 : decode cL_law 942 = .ok (.invokevirtual 167, 3) := by decide +kernel
theorem dL_law_945 : decode cL_law 945 = .ok (.if_icmp .eq 642, 3) := by decide +kernel
theorem dL_law_948 : decode cL_law 948 = .ok (.iconst 0, 1) := by decide +kernel
theorem dL_law_949 : decode cL_law 949 = .ok (.ireturn, 1) := by decide +kernel
theorem dL_law_950 : decode cL_law 950 = .ok (.aload_n 1, 1) := by decide +kernel
theorem dL_law_951 : decode cL_law 951 = .ok (.invokevirtual 168, 3) := by decide +kernel
theorem dL_law_954 : decode cL_law 954 = .ok (.aload_n 2, 1) := by decide +kernel
theorem dL_law_955 : decode cL_law 955 = .ok (.invokevirtual 171, 3) := by decide +kernel
theorem dL_law_958 : decode cL_law 958 = .ok (.if_icmp .eq 629, 3) := by decide +kernel
theorem dL_law_961 : decode cL_law 961 = .ok (.iconst 0, 1) := by decide +kernel
theorem dL_law_962 : decode cL_law 962 = .ok (.ireturn, 1) := by decide +kernel
theorem dL_law_963 : decode cL_law 963 = .ok (.aload_n 1, 1) := by decide +kernel
theorem dL_law_964 : decode cL_law 964 = .ok (.invokevirtual 172, 3) := by decide +kernel
theorem dL_law_967 : decode cL_law 967 = .ok (.aload_n 2, 1) := by decide +kernel
theorem dL_law_968 : decode cL_law 968 = .ok (.invokevirtual 175, 3) := by decide +kernel
theorem dL_law_971 : decode cL_law 971 = .ok (.if_icmp .eq 616, 3) := by decide +kernel
theorem dL_law_974 : decode cL_law 974 = .ok (.iconst 0, 1) := by decide +kernel
theorem dL_law_975 : decode cL_law 975 = .ok (.ireturn, 1) := by decide +kernel
theorem dL_law_976 : decode cL_law 976 = .ok (.aload_n 1, 1) := by decide +kernel
theorem dL_law_977 : decode cL_law 977 = .ok (.invokevirtual 176, 3) := by decide +kernel
theorem dL_law_980 : decode cL_law 980 = .ok (.aload_n 2, 1) := by decide +kernel
theorem dL_law_981 : decode cL_law 981 = .ok (.invokevirtual 179, 3) := by decide +kernel
theorem dL_law_984 : decode cL_law 984 = .ok (.if_icmp .eq 603, 3) := by decide +kernel
theorem dL_law_987 : decode cL_law 987 = .ok (.iconst 0, 1) := by decide +kernel
theorem dL_law_988 : decode cL_law 988 = .ok (.ireturn, 1) := by decide +kernel
theorem dL_law_989 : decode cL_law 989 = .ok (.aload_n 1, 1) := by decide +kernel
theorem dL_law_990 : decode cL_law 990 = .ok (.aload_n 0, 1) := by decide +kernel
theorem dL_law_991 : decode cL_law 991 = .ok (.iload 4, 2) := by decide +kernel
theorem dL_law_993 : decode cL_law 993 = .ok (.iconst 1, 1) := by decide +kernel
theorem dL_law_994 : decode cL_law 994 = .ok (.iadd, 1) := by decide +kernel
theorem dL_law_995 : decode cL_law 995 = .ok (.iaload, 1) := by decide +kernel
theorem dL_law_996 : decode cL_law 996 = .ok (.aload_n 0, 1) := by decide +kernel
theorem dL_law_997 : decode cL_law 997 = .ok (.iload 4, 2) := by decide +kernel
theorem dL_law_999 : decode cL_law 999 = .ok (.iconst 2, 1) := by decide +kernel
theorem dL_law_1000 : decode cL_law 1000 = .ok (.iadd, 1) := by decide +kernel
theorem dL_law_1001 : decode cL_law 1001 = .ok (.iaload, 1) := by decide +kernel
theorem dL_law_1002 : decode cL_law 1002 = .ok (.aload_n 3, 1) := by decide +kernel
theorem dL_law_1003 : decode cL_law 1003 = .ok (.invokestatic 180, 3) := by decide +kernel
theorem dL_law_1006 : decode cL_law 1006 = .ok (.istore 5, 2) := by decide +kernel
theorem dL_law_1008 : decode cL_law 1008 = .ok (.aload_n 2, 1) := by decide +kernel
theorem dL_law_1009 : decode cL_law 1009 = .ok (.aload_n 0, 1) := by decide +kernel
theorem dL_law_1010 : decode cL_law 1010 = .ok (.iload 4, 2) := by decide +kernel
theorem dL_law_1012 : decode cL_law 1012 = .ok (.iconst 1, 1) := by decide +kernel
theorem dL_law_1013 : decode cL_law 1013 = .ok (.iadd, 1) := by decide +kernel
theorem dL_law_1014 : decode cL_law 1014 = .ok (.iaload, 1) := by decide +kernel
theorem dL_law_1015 : decode cL_law 1015 = .ok (.aload_n 0, 1) := by decide +kernel
theorem dL_law_1016 : decode cL_law 1016 = .ok (.iload 4, 2) := by decide +kernel
theorem dL_law_1018 : decode cL_law 1018 = .ok (.iconst 2, 1) := by decide +kernel
theorem dL_law_1019 : decode cL_law 1019 = .ok (.iadd, 1) := by decide +kernel
theorem dL_law_1020 : decode cL_law 1020 = .ok (.iaload, 1) := by decide +kernel
theorem dL_law_1021 : decode cL_law 1021 = .ok (.invokevirtual 182, 3) := by decide +kernel
theorem dL_law_1024 : decode cL_law 1024 = .ok (.istore 6, 2) := by decide +kernel
theorem dL_law_1026 : decode cL_law 1026 = .ok (.aload_n 2, 1) := by decide +kernel
theorem dL_law_1027 : decode cL_law 1027 = .ok (.invokevirtual 82, 3) := by decide +kernel
theorem dL_law_1030 : decode cL_law 1030 = .ok (.iload 5, 2) := by decide +kernel
theorem dL_law_1032 : decode cL_law 1032 = .ok (.if_icmp .eq 5, 3) := by decide +kernel
theorem dL_law_1035 : decode cL_law 1035 = .ok (.iconst 0, 1) := by decide +kernel
theorem dL_law_1036 : decode cL_law 1036 = .ok (.ireturn, 1) := by decide +kernel
theorem dL_law_1037 : decode cL_law 1037 = .ok (.iload 5, 2) := by decide +kernel
theorem dL_law_1039 : decode cL_law 1039 = .ok (.ifCond .ne 15, 3) := by decide +kernel
theorem dL_law_1042 : decode cL_law 1042 = .ok (.aload_n 3, 1) := by decide +kernel
theorem dL_law_1043 : decode cL_law 1043 = .ok (.iconst 0, 1) := by decide +kernel
theorem dL_law_1044 : decode cL_law 1044 = .ok (.laload, 1) := by decide +kernel
theorem dL_law_1045 : decode cL_law 1045 = .ok (.iload 6, 2) := by decide +kernel
theorem dL_law_1047 : decode cL_law 1047 = .ok (.i2l, 1) := by decide +kernel
theorem dL_law_1048 : decode cL_law 1048 = .ok (.lcmp, 1) := by decide +kernel
theorem dL_law_1049 : decode cL_law 1049 = .ok (.ifCond .eq 5, 3) := by decide +kernel
theorem dL_law_1052 : decode cL_law 1052 = .ok (.iconst 0, 1) := by decide +kernel
theorem dL_law_1053 : decode cL_law 1053 = .ok (.ireturn, 1) := by decide +kernel
theorem dL_law_1054 : decode cL_law 1054 = .ok (.goto 533, 3) := by decide +kernel
theorem dL_law_1057 : decode cL_law 1057 = .ok (.aload_n 1, 1) := by decide +kernel
theorem dL_law_1058 : decode cL_law 1058 = .ok (.aload_n 0, 1) := by decide +kernel
theorem dL_law_1059 : decode cL_law 1059 = .ok (.iload 4, 2) := by decide +kernel
theorem dL_law_1061 : decode cL_law 1061 = .ok (.iconst 1, 1) := by decide +kernel
theorem dL_law_1062 : decode cL_law 1062 = .ok (.iadd, 1) := by decide +kernel
theorem dL_law_1063 : decode cL_law 1063 = .ok (.iaload, 1) := by decide +kernel
theorem dL_law_1064 : decode cL_law 1064 = .ok (.aload_n 0, 1) := by decide +kernel
theorem dL_law_1065 : decode cL_law 1065 = .ok (.iload 4, 2) := by decide +kernel
theorem dL_law_1067 : decode cL_law 1067 = .ok (.iconst 2, 1) := by decide +kernel
theorem dL_law_1068 : decode cL_law 1068 = .ok (.iadd, 1) := by decide +kernel
theorem dL_law_1069 : decode cL_law 1069 = .ok (.iaload, 1) := by decide +kernel
theorem dL_law_1070 : decode cL_law 1070 = .ok (.aload_n 3, 1) := by decide +kernel
theorem dL_law_1071 : decode cL_law 1071 = .ok (.invokestatic 183, 3) := by decide +kernel
theorem dL_law_1074 : decode cL_law 1074 = .ok (.istore 5, 2) := by decide +kernel
theorem dL_law_1076 : decode cL_law 1076 = .ok (.aload_n 2, 1) := by decide +kernel
theorem dL_law_1077 : decode cL_law 1077 = .ok (.aload_n 0, 1) := by decide +kernel
theorem dL_law_1078 : decode cL_law 1078 = .ok (.iload 4, 2) := by decide +kernel
theorem dL_law_1080 : decode cL_law 1080 = .ok (.iconst 1, 1) := by decide +kernel
theorem dL_law_1081 : decode cL_law 1081 = .ok (.iadd, 1) := by decide +kernel
theorem dL_law_1082 : decode cL_law 1082 = .ok (.iaload, 1) := by decide +kernel
theorem dL_law_1083 : decode cL_law 1083 = .ok (.aload_n 0, 1) := by decide +kernel
theorem dL_law_1084 : decode cL_law 1084 = .ok (.iload 4, 2) := by decide +kernel
theorem dL_law_1086 : decode cL_law 1086 = .ok (.iconst 2, 1) := by decide +kernel
theorem dL_law_1087 : decode cL_law 1087 = .ok (.iadd, 1) := by decide +kernel
theorem dL_law_1088 : decode cL_law 1088 = .ok (.iaload, 1) := by decide +kernel
theorem dL_law_1089 : decode cL_law 1089 = .ok (.invokevirtual 185, 3) := by decide +kernel
theorem dL_law_1092 : decode cL_law 1092 = .ok (.istore 6, 2) := by decide +kernel
theorem dL_law_1094 : decode cL_law 1094 = .ok (.aload_n 2, 1) := by decide +kernel
theorem dL_law_1095 : decode cL_law 1095 = .ok (.invokevirtual 82, 3) := by decide +kernel
theorem dL_law_1098 : decode cL_law 1098 = .ok (.iload 5, 2) := by decide +kernel
theorem dL_law_1100 : decode cL_law 1100 = .ok (.if_icmp .eq 5, 3) := by decide +kernel
theorem dL_law_1103 : decode cL_law 1103 = .ok (.iconst 0, 1) := by decide +kernel
theorem dL_law_1104 : decode cL_law 1104 = .ok (.ireturn, 1) := by decide +kernel
theorem dL_law_1105 : decode cL_law 1105 = .ok (.iload 5, 2) := by decide +kernel
theorem dL_law_1107 : decode cL_law 1107 = .ok (.ifCond .ne 15, 3) := by decide +kernel
theorem dL_law_1110 : decode cL_law 1110 = .ok (.aload_n 3, 1) := by decide +kernel
theorem dL_law_1111 : decode cL_law 1111 = .ok (.iconst 0, 1) := by decide +kernel
theorem dL_law_1112 : decode cL_law 1112 = .ok (.laload, 1) := by decide +kernel
theorem dL_law_1113 : decode cL_law 1113 = .ok (.iload 6, 2) := by decide +kernel
theorem dL_law_1115 : decode cL_law 1115 = .ok (.i2l, 1) := by decide +kernel
theorem dL_law_1116 : decode cL_law 1116 = .ok (.lcmp, 1) := by decide +kernel
theorem dL_law_1117 : decode cL_law 1117 = .ok (.ifCond .eq 5, 3) := by decide +kernel
theorem dL_law_1120 : decode cL_law 1120 = .ok (.iconst 0, 1) := by decide +kernel
theorem dL_law_1121 : decode cL_law 1121 = .ok (.ireturn, 1) := by decide +kernel
theorem dL_law_1122 : decode cL_law 1122 = .ok (.goto 465, 3) := by decide +kernel
theorem dL_law_1125 : decode cL_law 1125 = .ok (.aload_n 1, 1) := by decide +kernel
theorem dL_law_1126 : decode cL_law 1126 = .ok (.aload_n 0, 1) := by decide +kernel
theorem dL_law_1127 : decode cL_law 1127 = .ok (.iload 4, 2) := by decide +kernel
theorem dL_law_1129 : decode cL_law 1129 = .ok (.iconst 1, 1) := by decide +kernel
theorem dL_law_1130 : decode cL_law 1130 = .ok (.iadd, 1) := by decide +kernel
theorem dL_law_1131 : decode cL_law 1131 = .ok (.iaload, 1) := by decide +kernel
theorem dL_law_1132 : decode cL_law 1132 = .ok (.aload_n 3, 1) := by decide +kernel
theorem dL_law_1133 : decode cL_law 1133 = .ok (.invokestatic 186, 3) := by decide +kernel
theorem dL_law_1136 : decode cL_law 1136 = .ok (.istore 5, 2) := by decide +kernel
theorem dL_law_1138 : decode cL_law 1138 = .ok (.aload_n 2, 1) := by decide +kernel
theorem dL_law_1139 : decode cL_law 1139 = .ok (.aload_n 0, 1) := by decide +kernel
theorem dL_law_1140 : decode cL_law 1140 = .ok (.iload 4, 2) := by decide +kernel
theorem dL_law_1142 : decode cL_law 1142 = .ok (.iconst 1, 1) := by decide +kernel
theorem dL_law_1143 : decode cL_law 1143 = .ok (.iadd, 1) := by decide +kernel
theorem dL_law_1144 : decode cL_law 1144 = .ok (.iaload, 1) := by decide +kernel
theorem dL_law_1145 : decode cL_law 1145 = .ok (.invokevirtual 188, 3) := by decide +kernel
theorem dL_law_1148 : decode cL_law 1148 = .ok (.istore 6, 2) := by decide +kernel
theorem dL_law_1150 : decode cL_law 1150 = .ok (.aload_n 2, 1) := by decide +kernel
theorem dL_law_1151 : decode cL_law 1151 = .ok (.invokevirtual 82, 3) := by decide +kernel
theorem dL_law_1154 : decode cL_law 1154 = .ok (.iload 5, 2) := by decide +kernel
theorem dL_law_1156 : decode cL_law 1156 = .ok (.if_icmp .eq 5, 3) := by decide +kernel
theorem dL_law_1159 : decode cL_law 1159 = .ok (.iconst 0, 1) := by decide +kernel
theorem dL_law_1160 : decode cL_law 1160 = .ok (.ireturn, 1) := by decide +kernel
theorem dL_law_1161 : decode cL_law 1161 = .ok (.iload 5, 2) := by decide +kernel
theorem dL_law_1163 : decode cL_law 1163 = .ok (.ifCond .ne 15, 3) := by decide +kernel
theorem dL_law_1166 : decode cL_law 1166 = .ok (.aload_n 3, 1) := by decide +kernel
theorem dL_law_1167 : decode cL_law 1167 = .ok (.iconst 0, 1) := by decide +kernel
theorem dL_law_1168 : decode cL_law 1168 = .ok (.laload, 1) := by decide +kernel
theorem dL_law_1169 : decode cL_law 1169 = .ok (.iload 6, 2) := by decide +kernel
theorem dL_law_1171 : decode cL_law 1171 = .ok (.i2l, 1) := by decide +kernel
theorem dL_law_1172 : decode cL_law 1172 = .ok (.lcmp, 1) := by decide +kernel
theorem dL_law_1173 : decode cL_law 1173 = .ok (.ifCond .eq 5, 3) := by decide +kernel
theorem dL_law_1176 : decode cL_law 1176 = .ok (.iconst 0, 1) := by decide +kernel
theorem dL_law_1177 : decode cL_law 1177 = .ok (.ireturn, 1) := by decide +kernel
theorem dL_law_1178 : decode cL_law 1178 = .ok (.goto 409, 3) := by decide +kernel
theorem dL_law_1181 : decode cL_law 1181 = .ok (.aload_n 1, 1) := by decide +kernel
theorem dL_law_1182 : decode cL_law 1182 = .ok (.aload_n 0, 1) := by decide +kernel
theorem dL_law_1183 : decode cL_law 1183 = .ok (.iload 4, 2) := by decide +kernel
theorem dL_law_1185 : decode cL_law 1185 = .ok (.iconst 1, 1) := by decide +kernel
theorem dL_law_1186 : decode cL_law 1186 = .ok (.iadd, 1) := by decide +kernel
theorem dL_law_1187 : decode cL_law 1187 = .ok (.iaload, 1) := by decide +kernel
theorem dL_law_1188 : decode cL_law 1188 = .ok (.aload_n 3, 1) := by decide +kernel
theorem dL_law_1189 : decode cL_law 1189 = .ok (.invokestatic 189, 3) := by decide +kernel
theorem dL_law_1192 : decode cL_law 1192 = .ok (.istore 5, 2) := by decide +kernel
theorem dL_law_1194 : decode cL_law 1194 = .ok (.aload_n 2, 1) := by decide +kernel
theorem dL_law_1195 : decode cL_law 1195 = .ok (.aload_n 0, 1) := by decide +kernel
theorem dL_law_1196 : decode cL_law 1196 = .ok (.iload 4, 2) := by decide +kernel
theorem dL_law_1198 : decode cL_law 1198 = .ok (.iconst 1, 1) := by decide +kernel
theorem dL_law_1199 : decode cL_law 1199 = .ok (.iadd, 1) := by decide +kernel
theorem dL_law_1200 : decode cL_law 1200 = .ok (.iaload, 1) := by decide +kernel
theorem dL_law_1201 : decode cL_law 1201 = .ok (.invokevirtual 191, 3) := by decide +kernel
theorem dL_law_1204 : decode cL_law 1204 = .ok (.istore 6, 2) := by decide +kernel
theorem dL_law_1206 : decode cL_law 1206 = .ok (.aload_n 2, 1) := by decide +kernel
theorem dL_law_1207 : decode cL_law 1207 = .ok (.invokevirtual 82, 3) := by decide +kernel
theorem dL_law_1210 : decode cL_law 1210 = .ok (.iload 5, 2) := by decide +kernel
theorem dL_law_1212 : decode cL_law 1212 = .ok (.if_icmp .eq 5, 3) := by decide +kernel
theorem dL_law_1215 : decode cL_law 1215 = .ok (.iconst 0, 1) := by decide +kernel
theorem dL_law_1216 : decode cL_law 1216 = .ok (.ireturn, 1) := by decide +kernel
theorem dL_law_1217 : decode cL_law 1217 = .ok (.iload 5, 2) := by decide +kernel
theorem dL_law_1219 : decode cL_law 1219 = .ok (.ifCond .ne 15, 3) := by decide +kernel
theorem dL_law_1222 : decode cL_law 1222 = .ok (.aload_n 3, 1) := by decide +kernel
theorem dL_law_1223 : decode cL_law 1223 = .ok (.iconst 0, 1) := by decide +kernel
theorem dL_law_1224 : decode cL_law 1224 = .ok (.laload, 1) := by decide +kernel
theorem dL_law_1225 : decode cL_law 1225 = .ok (.iload 6, 2) := by decide +kernel
theorem dL_law_1227 : decode cL_law 1227 = .ok (.i2l, 1) := by decide +kernel
theorem dL_law_1228 : decode cL_law 1228 = .ok (.lcmp, 1) := by decide +kernel
theorem dL_law_1229 : decode cL_law 1229 = .ok (.ifCond .eq 5, 3) := by decide +kernel
theorem dL_law_1232 : decode cL_law 1232 = .ok (.iconst 0, 1) := by decide +kernel
theorem dL_law_1233 : decode cL_law 1233 = .ok (.ireturn, 1) := by decide +kernel
theorem dL_law_1234 : decode cL_law 1234 = .ok (.goto 353, 3) := by decide +kernel
theorem dL_law_1237 : decode cL_law 1237 = .ok (.aload_n 1, 1) := by decide +kernel
theorem dL_law_1238 : decode cL_law 1238 = .ok (.invokevirtual 192, 3) := by decide +kernel
theorem dL_law_1241 : decode cL_law 1241 = .ok (.dstore 5, 2) := by decide +kernel
theorem dL_law_1243 : decode cL_law 1243 = .ok (.aload_n 2, 1) := by decide +kernel
theorem dL_law_1244 : decode cL_law 1244 = .ok (.invokevirtual 196, 3) := by decide +kernel
theorem dL_law_1247 : decode cL_law 1247 = .ok (.dstore 7, 2) := by decide +kernel
theorem dL_law_1249 : decode cL_law 1249 = .ok (.dload 5, 2) := by decide +kernel
theorem dL_law_1251 : decode cL_law 1251 = .ok (.dload 7, 2) := by decide +kernel
theorem dL_law_1253 : decode cL_law 1253 = .ok (.dcmp .l, 1) := by decide +kernel
theorem dL_law_1254 : decode cL_law 1254 = .ok (.ifCond .eq 21, 3) := by decide +kernel
theorem dL_law_1257 : decode cL_law 1257 = .ok (.dload 5, 2) := by decide +kernel
theorem dL_law_1259 : decode cL_law 1259 = .ok (.dload 5, 2) := by decide +kernel
theorem dL_law_1261 : decode cL_law 1261 = .ok (.dcmp .l, 1) := by decide +kernel
theorem dL_law_1262 : decode cL_law 1262 = .ok (.ifCond .eq 11, 3) := by decide +kernel
theorem dL_law_1265 : decode cL_law 1265 = .ok (.dload 7, 2) := by decide +kernel
theorem dL_law_1267 : decode cL_law 1267 = .ok (.dload 7, 2) := by decide +kernel
theorem dL_law_1269 : decode cL_law 1269 = .ok (.dcmp .l, 1) := by decide +kernel
theorem dL_law_1270 : decode cL_law 1270 = .ok (.ifCond .ne 5, 3) := by decide +kernel
theorem dL_law_1273 : decode cL_law 1273 = .ok (.iconst 0, 1) := by decide +kernel
theorem dL_law_1274 : decode cL_law 1274 = .ok (.ireturn, 1) := by decide +kernel
theorem dL_law_1275 : decode cL_law 1275 = .ok (.goto 312, 3) := by decide +kernel
theorem dL_law_1278 : decode cL_law 1278 = .ok (.aload_n 1, 1) := by decide +kernel
theorem dL_law_1279 : decode cL_law 1279 = .ok (.aload_n 0, 1) := by decide +kernel
theorem dL_law_1280 : decode cL_law 1280 = .ok (.iload 4, 2) := by decide +kernel
theorem dL_law_1282 : decode cL_law 1282 = .ok (.iconst 1, 1) := by decide +kernel
theorem dL_law_1283 : decode cL_law 1283 = .ok (.iadd, 1) := by decide +kernel
theorem dL_law_1284 : decode cL_law 1284 = .ok (.iaload, 1) := by decide +kernel
theorem dL_law_1285 : decode cL_law 1285 = .ok (.aload_n 3, 1) := by decide +kernel
theorem dL_law_1286 : decode cL_law 1286 = .ok (.invokestatic 197, 3) := by decide +kernel
theorem dL_law_1289 : decode cL_law 1289 = .ok (.istore 5, 2) := by decide +kernel
theorem dL_law_1291 : decode cL_law 1291 = .ok (.aload_n 2, 1) := by decide +kernel
theorem dL_law_1292 : decode cL_law 1292 = .ok (.aload_n 0, 1) := by decide +kernel
theorem dL_law_1293 : decode cL_law 1293 = .ok (.iload 4, 2) := by decide +kernel
theorem dL_law_1295 : decode cL_law 1295 = .ok (.iconst 1, 1) := by decide +kernel
theorem dL_law_1296 : decode cL_law 1296 = .ok (.iadd, 1) := by decide +kernel
theorem dL_law_1297 : decode cL_law 1297 = .ok (.iaload, 1) := by decide +kernel
theorem dL_law_1298 : decode cL_law 1298 = .ok (.invokevirtual 199, 3) := by decide +kernel
theorem dL_law_1301 : decode cL_law 1301 = .ok (.istore 6, 2) := by decide +kernel
theorem dL_law_1303 : decode cL_law 1303 = .ok (.aload_n 2, 1) := by decide +kernel
theorem dL_law_1304 : decode cL_law 1304 = .ok (.invokevirtual 82, 3) := by decide +kernel
theorem dL_law_1307 : decode cL_law 1307 = .ok (.iload 5, 2) := by decide +kernel
theorem dL_law_1309 : decode cL_law 1309 = .ok (.if_icmp .eq 5, 3) := by decide +kernel
theorem dL_law_1312 : decode cL_law 1312 = .ok (.iconst 0, 1) := by decide +kernel
theorem dL_law_1313 : decode cL_law 1313 = .ok (.ireturn, 1) := by decide +kernel
theorem dL_law_1314 : decode cL_law 1314 = .ok (.iload 5, 2) := by decide +kernel
theorem dL_law_1316 : decode cL_law 1316 = .ok (.ifCond .ne 15, 3) := by decide +kernel
theorem dL_law_1319 : decode cL_law 1319 = .ok (.aload_n 3, 1) := by decide +kernel
theorem dL_law_1320 : decode cL_law 1320 = .ok (.iconst 0, 1) := by decide +kernel
theorem dL_law_1321 : decode cL_law 1321 = .ok (.laload, 1) := by decide +kernel
theorem dL_law_1322 : decode cL_law 1322 = .ok (.iload 6, 2) := by decide +kernel
theorem dL_law_1324 : decode cL_law 1324 = .ok (.i2l, 1) := by decide +kernel
theorem dL_law_1325 : decode cL_law 1325 = .ok (.lcmp, 1) := by decide +kernel
theorem dL_law_1326 : decode cL_law 1326 = .ok (.ifCond .eq 5, 3) := by decide +kernel
theorem dL_law_1329 : decode cL_law 1329 = .ok (.iconst 0, 1) := by decide +kernel
theorem dL_law_1330 : decode cL_law 1330 = .ok (.ireturn, 1) := by decide +kernel
theorem dL_law_1331 : decode cL_law 1331 = .ok (.goto 256, 3) := by decide +kernel
theorem dL_law_1334 : decode cL_law 1334 = .ok (.aload_n 1, 1) := by decide +kernel
theorem dL_law_1335 : decode cL_law 1335 = .ok (.invokevirtual 200, 3) := by decide +kernel
theorem dL_law_1338 : decode cL_law 1338 = .ok (.aload_n 2, 1) := by decide +kernel
theorem dL_law_1339 : decode cL_law 1339 = .ok (.invokevirtual 203, 3) := by decide +kernel
theorem dL_law_1342 : decode cL_law 1342 = .ok (.if_icmp .eq 245, 3) := by decide +kernel
theorem dL_law_1345 : decode cL_law 1345 = .ok (.iconst 0, 1) := by decide +kernel
theorem dL_law_1346 : decode cL_law 1346 = .ok (.ireturn, 1) := by decide +kernel
theorem dL_law_1347 : decode cL_law 1347 = .ok (.aload_n 1, 1) := by decide +kernel
theorem dL_law_1348 : decode cL_law 1348 = .ok (.invokevirtual 204, 3) := by decide +kernel
theorem dL_law_1351 : decode cL_law 1351 = .ok (.aload_n 2, 1) := by decide +kernel
theorem dL_law_1352 : decode cL_law 1352 = .ok (.invokevirtual 207, 3) := by decide +kernel
theorem dL_law_1355 : decode cL_law 1355 = .ok (.if_icmp .eq 232, 3) := by decide +kernel
theorem dL_law_1358 : decode cL_law 1358 = .ok (.iconst 0, 1) := by decide +kernel
theorem dL_law_1359 : decode cL_law 1359 = .ok (.ireturn, 1) := by decide +kernel
theorem dL_law_1360 : decode cL_law 1360 = .ok (.aload_n 1, 1) := by decide +kernel
theorem dL_law_1361 : decode cL_law 1361 = .ok (.aload_n 3, 1) := by decide +kernel
theorem dL_law_1362 : decode cL_law 1362 = .ok (.invokestatic 208, 3) := by decide +kernel
theorem dL_law_1365 : decode cL_law 1365 = .ok (.istore 5, 2) := by decide +kernel
theorem dL_law_1367 : decode cL_law 1367 = .ok (.aload_n 2, 1) := by decide +kernel
theorem dL_law_1368 : decode cL_law 1368 = .ok (.invokevirtual 211, 3) := by decide +kernel
theorem dL_law_1371 : decode cL_law 1371 = .ok (.istore 6, 2) := by decide +kernel
theorem dL_law_1373 : decode cL_law 1373 = .ok (.aload_n 2, 1) := by decide +kernel
theorem dL_law_1374 : decode cL_law 1374 = .ok (.invokevirtual 82, 3) := by decide +kernel
theorem dL_law_1377 : decode cL_law 1377 = .ok (.iload 5, 2) := by decide +kernel
theorem dL_law_1379 : decode cL_law 1379 = .ok (.if_icmp .eq 5, 3) := by decide +kernel
theorem dL_law_1382 : decode cL_law 1382 = .ok (.iconst 0, 1) := by decide +kernel
theorem dL_law_1383 : decode cL_law 1383 = .ok (.ireturn, 1) := by decide +kernel
theorem dL_law_1384 : decode cL_law 1384 = .ok (.iload 5, 2) := by decide +kernel
theorem dL_law_1386 : decode cL_law 1386 = .ok (.ifCond .ne 15, 3) := by decide +kernel
theorem dL_law_1389 : decode cL_law 1389 = .ok (.aload_n 3, 1) := by decide +kernel
theorem dL_law_1390 : decode cL_law 1390 = .ok (.iconst 0, 1) := by decide +kernel
theorem dL_law_1391 : decode cL_law 1391 = .ok (.laload, 1) := by decide +kernel
theorem dL_law_1392 : decode cL_law 1392 = .ok (.iload 6, 2) := by decide +kernel
theorem dL_law_1394 : decode cL_law 1394 = .ok (.i2l, 1) := by decide +kernel
theorem dL_law_1395 : decode cL_law 1395 = .ok (.lcmp, 1) := by decide +kernel
theorem dL_law_1396 : decode cL_law 1396 = .ok (.ifCond .eq 5, 3) := by decide +kernel
theorem dL_law_1399 : decode cL_law 1399 = .ok (.iconst 0, 1) := by decide +kernel
theorem dL_law_1400 : decode cL_law 1400 = .ok (.ireturn, 1) := by decide +kernel
theorem dL_law_1401 : decode cL_law 1401 = .ok (.goto 186, 3) := by decide +kernel
theorem dL_law_1404 : decode cL_law 1404 = .ok (.aload_n 1, 1) := by decide +kernel
theorem dL_law_1405 : decode cL_law 1405 = .ok (.aload_n 3, 1) := by decide +kernel
theorem dL_law_1406 : decode cL_law 1406 = .ok (.invokestatic 212, 3) := by decide +kernel
theorem dL_law_1409 : decode cL_law 1409 = .ok (.istore 5, 2) := by decide +kernel
theorem dL_law_1411 : decode cL_law 1411 = .ok (.aload_n 2, 1) := by decide +kernel
theorem dL_law_1412 : decode cL_law 1412 = .ok (.invokevirtual 214, 3) := by decide +kernel
theorem dL_law_1415 : decode cL_law 1415 = .ok (.istore 6, 2) := by decide +kernel
theorem dL_law_1417 : decode cL_law 1417 = .ok (.aload_n 2, 1) := by decide +kernel
theorem dL_law_1418 : decode cL_law 1418 = .ok (.invokevirtual 82, 3) := by decide +kernel
theorem dL_law_1421 : decode cL_law 1421 = .ok (.iload 5, 2) := by decide +kernel
theorem dL_law_1423 : decode cL_law 1423 = .ok (.if_icmp .eq 5, 3) := by decide +kernel
theorem dL_law_1426 : decode cL_law 1426 = .ok (.iconst 0, 1) := by decide +kernel
theorem dL_law_1427 : decode cL_law 1427 = .ok (.ireturn, 1) := by decide +kernel
theorem dL_law_1428 : decode cL_law 1428 = .ok (.iload 5, 2) := by decide +kernel
theorem dL_law_1430 : decode cL_law 1430 = .ok (.ifCond .ne 15, 3) := by decide +kernel
theorem dL_law_1433 : decode cL_law 1433 = .ok (.aload_n 3, 1) := by decide +kernel
theorem dL_law_1434 : decode cL_law 1434 = .ok (.iconst 0, 1) := by decide +kernel
theorem dL_law_1435 : decode cL_law 1435 = .ok (.laload, 1) := by decide +kernel
theorem dL_law_1436 : decode cL_law 1436 = .ok (.iload 6, 2) := by decide +kernel
theorem dL_law_1438 : decode cL_law 1438 = .ok (.i2l, 1) := by decide +kernel
theorem dL_law_1439 : decode cL_law 1439 = .ok (.lcmp, 1) := by decide +kernel
theorem dL_law_1440 : decode cL_law 1440 = .ok (.ifCond .eq 5, 3) := by decide +kernel
theorem dL_law_1443 : decode cL_law 1443 = .ok (.iconst 0, 1) := by decide +kernel
theorem dL_law_1444 : decode cL_law 1444 = .ok (.ireturn, 1) := by decide +kernel
theorem dL_law_1445 : decode cL_law 1445 = .ok (.goto 142, 3) := by decide +kernel
theorem dL_law_1448 : decode cL_law 1448 = .ok (.aload_n 1, 1) := by decide +kernel
theorem dL_law_1449 : decode cL_law 1449 = .ok (.invokevirtual 215, 3) := by decide +kernel
theorem dL_law_1452 : decode cL_law 1452 = .ok (.aload_n 2, 1) := by decide +kernel
theorem dL_law_1453 : decode cL_law 1453 = .ok (.invokevirtual 218, 3) := by decide +kernel
theorem dL_law_1456 : decode cL_law 1456 = .ok (.if_icmp .eq 131, 3) := by decide +kernel
theorem dL_law_1459 : decode cL_law 1459 = .ok (.iconst 0, 1) := by decide +kernel
theorem dL_law_1460 : decode cL_law 1460 = .ok (.ireturn, 1) := by decide +kernel
theorem dL_law_1461 : decode cL_law 1461 = .ok (.aload_n 1, 1) := by decide +kernel
theorem dL_law_1462 : decode cL_law 1462 = .ok (.aload_n 0, 1) := by decide +kernel
theorem dL_law_1463 : decode cL_law 1463 = .ok (.iload 4, 2) := by decide +kernel
theorem dL_law_1465 : decode cL_law 1465 = .ok (.iconst 1, 1) := by decide +kernel
theorem dL_law_1466 : decode cL_law 1466 = .ok (.iadd, 1) := by decide +kernel
theorem dL_law_1467 : decode cL_law 1467 = .ok (.iaload, 1) := by decide +kernel
theorem dL_law_1468 : decode cL_law 1468 = .ok (.aload_n 3, 1) := by decide +kernel
theorem dL_law_1469 : decode cL_law 1469 = .ok (.invokestatic 219, 3) := by decide +kernel
theorem dL_law_1472 : decode cL_law 1472 = .ok (.istore 5, 2) := by decide +kernel
theorem dL_law_1474 : decode cL_law 1474 = .ok (.aload_n 2, 1) := by decide +kernel
theorem dL_law_1475 : decode cL_law 1475 = .ok (.aload_n 0, 1) := by decide +kernel
theorem dL_law_1476 : decode cL_law 1476 = .ok (.iload 4, 2) := by decide +kernel
theorem dL_law_1478 : decode cL_law 1478 = .ok (.iconst 1, 1) := by decide +kernel
theorem dL_law_1479 : decode cL_law 1479 = .ok (.iadd, 1) := by decide +kernel
theorem dL_law_1480 : decode cL_law 1480 = .ok (.iaload, 1) := by decide +kernel
theorem dL_law_1481 : decode cL_law 1481 = .ok (.invokevirtual 221, 3) := by decide +kernel
theorem dL_law_1484 : decode cL_law 1484 = .ok (.istore 6, 2) := by decide +kernel
theorem dL_law_1486 : decode cL_law 1486 = .ok (.aload_n 2, 1) := by decide +kernel
theorem dL_law_1487 : decode cL_law 1487 = .ok (.invokevirtual 82, 3) := by decide +kernel
theorem dL_law_1490 : decode cL_law 1490 = .ok (.iload 5, 2) := by decide +kernel
theorem dL_law_1492 : decode cL_law 1492 = .ok (.if_icmp .eq 5, 3) := by decide +kernel
theorem dL_law_1495 : decode cL_law 1495 = .ok (.iconst 0, 1) := by decide +kernel
theorem dL_law_1496 : decode cL_law 1496 = .ok (.ireturn, 1) := by decide +kernel
theorem dL_law_1497 : decode cL_law 1497 = .ok (.iload 5, 2) := by decide +kernel
theorem dL_law_1499 : decode cL_law 1499 = .ok (.ifCond .ne 15, 3) := by decide +kernel
theorem dL_law_1502 : decode cL_law 1502 = .ok (.aload_n 3, 1) := by decide +kernel
theorem dL_law_1503 : decode cL_law 1503 = .ok (.iconst 0, 1) := by decide +kernel
theorem dL_law_1504 : decode cL_law 1504 = .ok (.laload, 1) := by decide +kernel
theorem dL_law_1505 : decode cL_law 1505 = .ok (.iload 6, 2) := by decide +kernel
theorem dL_law_1507 : decode cL_law 1507 = .ok (.i2l, 1) := by decide +kernel
theorem dL_law_1508 : decode cL_law 1508 = .ok (.lcmp, 1) := by decide +kernel
theorem dL_law_1509 : decode cL_law 1509 = .ok (.ifCond .eq 5, 3) := by decide +kernel
theorem dL_law_1512 : decode cL_law 1512 = .ok (.iconst 0, 1) := by decide +kernel
theorem dL_law_1513 : decode cL_law 1513 = .ok (.ireturn, 1) := by decide +kernel
theorem dL_law_1514 : decode cL_law 1514 = .ok (.goto 73, 3) := by decide +kernel
theorem dL_law_1517 : decode cL_law 1517 = .ok (.aload_n 1, 1) := by decide +kernel
theorem dL_law_1518 : decode cL_law 1518 = .ok (.aload_n 0, 1) := by decide +kernel
theorem dL_law_1519 : decode cL_law 1519 = .ok (.iload 4, 2) := by decide +kernel
theorem dL_law_1521 : decode cL_law 1521 = .ok (.iconst 1, 1) := by decide +kernel
theorem dL_law_1522 : decode cL_law 1522 = .ok (.iadd, 1) := by decide +kernel
theorem dL_law_1523 : decode cL_law 1523 = .ok (.iaload, 1) := by decide +kernel
theorem dL_law_1524 : decode cL_law 1524 = .ok (.aload_n 3, 1) := by decide +kernel
theorem dL_law_1525 : decode cL_law 1525 = .ok (.invokestatic 222, 3) := by decide +kernel
theorem dL_law_1528 : decode cL_law 1528 = .ok (.istore 5, 2) := by decide +kernel
theorem dL_law_1530 : decode cL_law 1530 = .ok (.aload_n 2, 1) := by decide +kernel
theorem dL_law_1531 : decode cL_law 1531 = .ok (.aload_n 0, 1) := by decide +kernel
theorem dL_law_1532 : decode cL_law 1532 = .ok (.iload 4, 2) := by decide +kernel
theorem dL_law_1534 : decode cL_law 1534 = .ok (.iconst 1, 1) := by decide +kernel
theorem dL_law_1535 : decode cL_law 1535 = .ok (.iadd, 1) := by decide +kernel
theorem dL_law_1536 : decode cL_law 1536 = .ok (.iaload, 1) := by decide +kernel
theorem dL_law_1537 : decode cL_law 1537 = .ok (.invokevirtual 224, 3) := by decide +kernel
theorem dL_law_1540 : decode cL_law 1540 = .ok (.istore 6, 2) := by decide +kernel
theorem dL_law_1542 : decode cL_law 1542 = .ok (.aload_n 2, 1) := by decide +kernel
theorem dL_law_1543 : decode cL_law 1543 = .ok (.invokevirtual 82, 3) := by decide +kernel
theorem dL_law_1546 : decode cL_law 1546 = .ok (.iload 5, 2) := by decide +kernel
theorem dL_law_1548 : decode cL_law 1548 = .ok (.if_icmp .eq 5, 3) := by decide +kernel
theorem dL_law_1551 : decode cL_law 1551 = .ok (.iconst 0, 1) := by decide +kernel
theorem dL_law_1552 : decode cL_law 1552 = .ok (.ireturn, 1) := by decide +kernel
theorem dL_law_1553 : decode cL_law 1553 = .ok (.iload 5, 2) := by decide +kernel
theorem dL_law_1555 : decode cL_law 1555 = .ok (.ifCond .ne 15, 3) := by decide +kernel
theorem dL_law_1558 : decode cL_law 1558 = .ok (.aload_n 3, 1) := by decide +kernel
theorem dL_law_1559 : decode cL_law 1559 = .ok (.iconst 0, 1) := by decide +kernel
theorem dL_law_1560 : decode cL_law 1560 = .ok (.laload, 1) := by decide +kernel
theorem dL_law_1561 : decode cL_law 1561 = .ok (.iload 6, 2) := by decide +kernel
theorem dL_law_1563 : decode cL_law 1563 = .ok (.i2l, 1) := by decide +kernel
theorem dL_law_1564 : decode cL_law 1564 = .ok (.lcmp, 1) := by decide +kernel
theorem dL_law_1565 : decode cL_law 1565 = .ok (.ifCond .eq 5, 3) := by decide +kernel
theorem dL_law_1568 : decode cL_law 1568 = .ok (.iconst 0, 1) := by decide +kernel
theorem dL_law_1569 : decode cL_law 1569 = .ok (.ireturn, 1) := by decide +kernel
theorem dL_law_1570 : decode cL_law 1570 = .ok (.goto 17, 3) := by decide +kernel
theorem dL_law_1573 : decode cL_law 1573 = .ok (.aload_n 1, 1) := by decide +kernel
theorem dL_law_1574 : decode cL_law 1574 = .ok (.invokevirtual 225, 3) := by decide +kernel
theorem dL_law_1577 : decode cL_law 1577 = .ok (.aload_n 2, 1) := by decide +kernel
theorem dL_law_1578 : decode cL_law 1578 = .ok (.invokevirtual 229, 3) := by decide +kernel
theorem dL_law_1581 : decode cL_law 1581 = .ok (.lcmp, 1) := by decide +kernel
theorem dL_law_1582 : decode cL_law 1582 = .ok (.ifCond .eq 5, 3) := by decide +kernel
theorem dL_law_1585 : decode cL_law 1585 = .ok (.iconst 0, 1) := by decide +kernel
theorem dL_law_1586 : decode cL_law 1586 = .ok (.ireturn, 1) := by decide +kernel
theorem dL_law_1587 : decode cL_law 1587 = .ok (.iinc 4 3, 3) := by decide +kernel
theorem dL_law_1590 : decode cL_law 1590 = .ok (.goto (-1567), 3) := by decide +kernel
theorem dL_law_1593 : decode cL_law 1593 = .ok (.iconst 1, 1) := by decide +kernel
theorem dL_law_1594 : decode cL_law 1594 = .ok (.ireturn, 1) := by decide +kernel
