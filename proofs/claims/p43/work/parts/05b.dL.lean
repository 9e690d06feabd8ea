set_option maxRecDepth 20000 in
theorem ggL_acts_L_up : GoodIn wsL_acts wsL_up := goodIn_r _ [6, 7] (by decide +kernel) (by decide +kernel)
set_option maxRecDepth 20000 in
theorem gL_acts_L_up : GoodIn wsL_acts (va_wsS RL 9 yL_up wsL_up) := goodIn_app (goodIn_of _ (by decide +kernel)) ggL_acts_L_up
set_option maxRecDepth 20000 in
theorem ggL_acts_X9_isStation : GoodIn wsL_acts wsX9_isStation := goodIn_r _ [12, 13, 14, 330, 331, 332, 333, 334, 335, 336, 337, 338, 339, 340, 341, 342, 343, 344] (by decide +kernel) (by decide +kernel)
set_option maxRecDepth 20000 in
theorem gL_acts_X9_isStation : GoodIn wsL_acts (wsV RL 15 RX9 yX9_isStation wsX9_isStation) := goodIn_app (goodIn_of _ (by decide +kernel)) ggL_acts_X9_isStation
set_option maxRecDepth 20000 in
theorem ggL_acts_X9_setStation : GoodIn wsL_acts wsX9_setStation := goodIn_r _ [18, 13, 14, 19, 20, 21, 22, 23, 24, 25, 26, 27, 28, 29, 30, 31, 32, 33, 34, 35, 36, 37, 38, 39, 40, 41, 42, 43, 44, 45, 46, 47, 48, 49, 50, 51, 52, 53, 54, 55, 56, 57, 58, 59, 60, 61, 62, 63, 64, 65, 66, 67, 68, 69, 70, 11, 71, 72, 73, 74, 75, 76, 77, 78, 79, 80, 81, 82, 83, 84, 85, 86, 87, 88, 89, 90, 91, 92, 93, 94, 95, 96, 97, 98, 99, 100, 101, 102, 103, 104, 105, 330, 331, 332, 333, 334, 335, 336, 337, 338, 339, 340, 341, 342, 343, 344, 345, 346, 347, 348, 349, 350, 351, 352, 353, 354, 355, 356, 357, 358, 359, 360] (by decide +kernel) (by decide +kernel)
set_option maxRecDepth 20000 in
theorem gL_acts_X9_setStation : GoodIn wsL_acts (wsV RL 21 RX9 yX9_setStation wsX9_setStation) := goodIn_app (goodIn_of _ (by decide +kernel)) ggL_acts_X9_setStation
set_option maxRecDepth 20000 in
theorem ggL_acts_X9_logged : GoodIn wsL_acts wsX9_logged := goodIn_r _ [109, 13, 110, 111, 330, 331, 332, 333, 334, 335, 336, 337, 338, 339, 340, 341, 342, 343, 344, 352, 353, 354, 355, 356] (by decide +kernel) (by decide +kernel)
set_option maxRecDepth 20000 in
theorem gL_acts_X9_logged : GoodIn wsL_acts (wsV RL 25 RX9 yX9_logged wsX9_logged) := goodIn_app (goodIn_of _ (by decide +kernel)) ggL_acts_X9_logged
set_option maxRecDepth 20000 in
theorem ggL_acts_X9_sea : GoodIn wsL_acts wsX9_sea := goodIn_r _ [115, 13, 116, 330, 331, 332, 333, 334, 335, 336, 337, 338, 339, 340, 341, 342, 343, 344] (by decide +kernel) (by decide +kernel)
set_option maxRecDepth 20000 in
theorem gL_acts_X9_sea : GoodIn wsL_acts (wsV RL 29 RX9 yX9_sea wsX9_sea) := goodIn_app (goodIn_of _ (by decide +kernel)) ggL_acts_X9_sea
set_option maxRecDepth 20000 in
theorem ggL_acts_X9_setSea : GoodIn wsL_acts wsX9_setSea := goodIn_ca (goodIn_r _ [120, 13, 116, 19, 121, 122, 11, 123, 124, 125, 20, 21, 22, 23, 24, 25, 26, 27, 28, 29, 30, 31, 32, 33, 34, 35, 36, 37, 38, 39, 40, 41, 42, 43, 44, 45, 46, 47, 48, 49, 50, 51, 52, 53, 54, 55, 56, 57, 58, 59, 60, 61, 62, 63, 64, 65, 66, 67, 68, 69, 70, 71, 72, 73, 74, 75, 76, 77, 78, 79, 80, 81, 82, 83, 84, 85, 126, 127, 128, 129, 90, 95, 96, 97, 98, 99, 100, 101, 102, 103, 104, 105, 330, 331, 332, 333, 334, 335, 336, 337, 338, 339, 340, 341, 342, 343, 344, 345, 346, 347, 348, 349, 350, 351, 352, 353, 354, 355, 356, 357, 358, 359, 360] (by decide +kernel) (by decide +kernel)) (goodIn_sub (fun _ h => List.mem_cons_of_mem _ (List.mem_append_left _ (List.mem_append_left _ (List.mem_append_right _ h)))) (by decide +kernel))
set_option maxRecDepth 20000 in
theorem gL_acts_X9_setSea : GoodIn wsL_acts (wsV RL 32 RX9 yX9_setSea wsX9_setSea) := goodIn_app (goodIn_of _ (by decide +kernel)) ggL_acts_X9_setSea
set_option maxRecDepth 20000 in
theorem ggL_acts_X9_base : GoodIn wsL_acts wsX9_base := goodIn_r _ [133, 13, 134, 135, 330, 331, 332, 333, 334, 335, 336, 337, 338, 339, 340, 341, 342, 343, 344, 348, 349, 350, 351] (by decide +kernel) (by decide +kernel)
set_option maxRecDepth 20000 in
theorem gL_acts_X9_base : GoodIn wsL_acts (wsV RL 36 RX9 yX9_base wsX9_base) := goodIn_app (goodIn_of _ (by decide +kernel)) ggL_acts_X9_base
set_option maxRecDepth 20000 in
theorem ggL_acts_X9_altitude : GoodIn wsL_acts wsX9_altitude := goodIn_r _ [139, 13, 140, 96, 97, 39, 98, 43, 44, 99, 100, 101, 102, 103, 104, 105, 330, 331, 332, 333, 334, 335, 336, 337, 338, 339, 340, 341, 342, 343, 344] (by decide +kernel) (by decide +kernel)
set_option maxRecDepth 20000 in
theorem gL_acts_X9_altitude : GoodIn wsL_acts (wsV RL 39 RX9 yX9_altitude wsX9_altitude) := goodIn_app (goodIn_of _ (by decide +kernel)) ggL_acts_X9_altitude
set_option maxRecDepth 20000 in
theorem ggL_acts_L_within : GoodIn wsL_acts wsL_within := goodIn_r _ [143] (by decide +kernel) (by decide +kernel)
set_option maxRecDepth 20000 in
theorem gL_acts_L_within : GoodIn wsL_acts (va_wsS RL 44 yL_within wsL_within) := goodIn_app (goodIn_of _ (by decide +kernel)) ggL_acts_L_within
set_option maxRecDepth 20000 in
theorem ggL_acts_X9_drift : GoodIn wsL_acts wsX9_drift := goodIn_r _ [147, 13, 148, 330, 331, 332, 333, 334, 335, 336, 337, 338, 339, 340, 341, 342, 343, 344] (by decide +kernel) (by decide +kernel)
set_option maxRecDepth 20000 in
theorem gL_acts_X9_drift : GoodIn wsL_acts (wsV RL 48 RX9 yX9_drift wsX9_drift) := goodIn_app (goodIn_of _ (by decide +kernel)) ggL_acts_X9_drift
set_option maxRecDepth 20000 in
theorem ggL_acts_X9_calibrations : GoodIn wsL_acts wsX9_calibrations := goodIn_r _ [152, 13, 153, 330, 331, 332, 333, 334, 335, 336, 337, 338, 339, 340, 341, 342, 343, 344] (by decide +kernel) (by decide +kernel)
set_option maxRecDepth 20000 in
theorem gL_acts_X9_calibrations : GoodIn wsL_acts (wsV RL 51 RX9 yX9_calibrations wsX9_calibrations) := goodIn_app (goodIn_of _ (by decide +kernel)) ggL_acts_X9_calibrations
set_option maxRecDepth 20000 in
theorem ggL_acts_X9_calibrate : GoodIn wsL_acts wsX9_calibrate := goodIn_ca (goodIn_r _ [157, 158, 19, 13, 121, 122, 11, 123, 124, 125, 20, 21, 22, 23, 24, 25, 26, 27, 28, 29, 30, 31, 32, 33, 34, 35, 36, 37, 38, 39, 40, 41, 42, 43, 44, 45, 46, 47, 48, 49, 50, 51, 52, 53, 54, 55, 56, 57, 58, 59, 60, 61, 62, 63, 64, 65, 66, 67, 68, 69, 70, 71, 72, 73, 74, 75, 76, 77, 78, 79, 80, 81, 82, 83, 84, 85, 159, 160, 161, 162, 95, 96, 97, 98, 99, 100, 101, 102, 103, 104, 105, 163, 164, 165, 166, 167, 168, 169, 170, 127, 128, 129, 90, 330, 331, 332, 333, 334, 345, 346, 347, 335, 336, 337, 338, 339, 340, 341, 342, 343, 344, 348, 349, 350, 351, 352, 353, 354, 355, 356, 357, 358, 359, 360] (by decide +kernel) (by decide +kernel)) (goodIn_sub (fun _ h => List.mem_cons_of_mem _ (List.mem_append_left _ (List.mem_append_left _ (List.mem_append_right _ h)))) (by decide +kernel))
set_option maxRecDepth 20000 in
theorem gL_acts_X9_calibrate : GoodIn wsL_acts (wsV RL 54 RX9 yX9_calibrate wsX9_calibrate) := goodIn_app (goodIn_of _ (by decide +kernel)) ggL_acts_X9_calibrate
set_option maxRecDepth 20000 in
theorem ggL_acts_X9_setThreshold : GoodIn wsL_acts wsX9_setThreshold := goodIn_ca (goodIn_r _ [174, 13, 134, 175, 19, 121, 122, 11, 123, 124, 125, 20, 21, 22, 23, 24, 25, 26, 27, 28, 29, 30, 31, 32, 33, 34, 35, 36, 37, 38, 39, 40, 41, 42, 43, 44, 45, 46, 47, 48, 49, 50, 51, 52, 53, 54, 55, 56, 57, 58, 59, 60, 61, 62, 63, 64, 65, 66, 67, 68, 69, 70, 71, 72, 73, 74, 75, 76, 77, 78, 79, 80, 81, 82, 83, 84, 85, 330, 331, 332, 333, 334, 335, 336, 337, 338, 339, 340, 341, 342, 343, 344, 348, 349, 350, 351, 345, 346, 347, 352, 353, 354, 355, 356, 357, 358, 359, 360] (by decide +kernel) (by decide +kernel)) (goodIn_sub (fun _ h => List.mem_cons_of_mem _ (List.mem_append_left _ (List.mem_append_left _ (List.mem_append_right _ h)))) (by decide +kernel))
set_option maxRecDepth 20000 in
theorem gL_acts_X9_setThreshold : GoodIn wsL_acts (wsV RL 57 RX9 yX9_setThreshold wsX9_setThreshold) := goodIn_app (goodIn_of _ (by decide +kernel)) ggL_acts_X9_setThreshold
set_option maxRecDepth 20000 in
theorem ggL_acts_X9_setAlarm : GoodIn wsL_acts wsX9_setAlarm := goodIn_ca (goodIn_r _ [179, 13, 110, 180, 19, 121, 122, 11, 123, 124, 125, 20, 21, 22, 23, 24, 25, 26, 27, 28, 29, 30, 31, 32, 33, 34, 35, 36, 37, 38, 39, 40, 41, 42, 43, 44, 45, 46, 47, 48, 49, 50, 51, 52, 53, 54, 55, 56, 57, 58, 59, 60, 61, 62, 63, 64, 65, 66, 67, 68, 69, 70, 71, 72, 73, 74, 75, 76, 77, 78, 79, 80, 81, 82, 83, 84, 85, 330, 331, 332, 333, 334, 335, 336, 337, 338, 339, 340, 341, 342, 343, 344, 352, 353, 354, 355, 356, 345, 346, 347, 348, 349, 350, 351, 357, 358, 359, 360] (by decide +kernel) (by decide +kernel)) (goodIn_sub (fun _ h => List.mem_cons_of_mem _ (List.mem_append_left _ (List.mem_append_left _ (List.mem_append_right _ h)))) (by decide +kernel))
set_option maxRecDepth 20000 in
theorem gL_acts_X9_setAlarm : GoodIn wsL_acts (wsV RL 60 RX9 yX9_setAlarm wsX9_setAlarm) := goodIn_app (goodIn_of _ (by decide +kernel)) ggL_acts_X9_setAlarm
set_option maxRecDepth 20000 in
theorem ggL_acts_X9_marks : GoodIn wsL_acts wsX9_marks := goodIn_r _ [184, 13, 185, 186, 330, 331, 332, 333, 334, 335, 336, 337, 338, 339, 340, 341, 342, 343, 344, 357, 358, 359, 360] (by decide +kernel) (by decide +kernel)
set_option maxRecDepth 20000 in
theorem gL_acts_X9_marks : GoodIn wsL_acts (wsV RL 63 RX9 yX9_marks wsX9_marks) := goodIn_app (goodIn_of _ (by decide +kernel)) ggL_acts_X9_marks
set_option maxRecDepth 20000 in
theorem ggL_acts_X9_setMark : GoodIn wsL_acts wsX9_setMark := goodIn_r _ [190, 19, 13, 185, 186, 20, 21, 22, 23, 24, 25, 26, 27, 28, 29, 30, 31, 32, 33, 34, 35, 36, 37, 38, 39, 40, 41, 42, 43, 44, 45, 46, 47, 48, 49, 50, 51, 52, 53, 54, 55, 56, 57, 58, 59, 60, 61, 62, 63, 64, 65, 66, 67, 68, 69, 70, 11, 71, 72, 73, 74, 75, 76, 77, 78, 79, 80, 81, 82, 83, 84, 85, 191, 192, 193, 194, 195, 95, 96, 97, 98, 99, 100, 101, 102, 103, 104, 105, 196, 197, 198, 199, 200, 201, 330, 331, 332, 333, 334, 335, 336, 337, 338, 339, 340, 341, 342, 343, 344, 357, 358, 359, 360, 345, 346, 347, 348, 349, 350, 351, 352, 353, 354, 355, 356] (by decide +kernel) (by decide +kernel)
set_option maxRecDepth 20000 in
theorem gL_acts_X9_setMark : GoodIn wsL_acts (wsV RL 66 RX9 yX9_setMark wsX9_setMark) := goodIn_app (goodIn_of _ (by decide +kernel)) ggL_acts_X9_setMark
set_option maxRecDepth 20000 in
theorem ggL_acts_X9_markTime : GoodIn wsL_acts wsX9_markTime := goodIn_ca (goodIn_r _ [205, 13, 185, 206, 207, 208, 11, 209, 210, 211, 186, 212, 213, 214, 80, 215, 82, 216, 217, 330, 331, 332, 333, 334, 335, 336, 337, 338, 339, 340, 341, 342, 343, 344, 357, 358, 359, 360] (by decide +kernel) (by decide +kernel)) (goodIn_sub (fun _ h => List.mem_cons_of_mem _ (List.mem_append_left _ (List.mem_append_right _ h))) (by decide +kernel))
set_option maxRecDepth 20000 in
theorem gL_acts_X9_markTime : GoodIn wsL_acts (wsV RL 69 RX9 yX9_markTime wsX9_markTime) := goodIn_app (goodIn_of _ (by decide +kernel)) ggL_acts_X9_markTime
set_option maxRecDepth 20000 in
theorem ggL_acts_X9_minutes : GoodIn wsL_acts wsX9_minutes := goodIn_r _ [221, 13, 222, 330, 331, 332, 333, 334, 335, 336, 337, 338, 339, 340, 341, 342, 343, 344] (by decide +kernel) (by decide +kernel)
set_option maxRecDepth 20000 in
theorem gL_acts_X9_minutes : GoodIn wsL_acts (wsV RL 72 RX9 yX9_minutes wsX9_minutes) := goodIn_app (goodIn_of _ (by decide +kernel)) ggL_acts_X9_minutes
set_option maxRecDepth 20000 in
theorem ggL_acts_X9_markAltitude : GoodIn wsL_acts wsX9_markAltitude := goodIn_ca (goodIn_r _ [226, 13, 185, 206, 207, 208, 11, 209, 210, 211, 186, 227, 228, 229, 80, 230, 83, 216, 217, 330, 331, 332, 333, 334, 335, 336, 337, 338, 339, 340, 341, 342, 343, 344, 357, 358, 359, 360] (by decide +kernel) (by decide +kernel)) (goodIn_sub (fun _ h => List.mem_cons_of_mem _ (List.mem_append_left _ (List.mem_append_right _ h))) (by decide +kernel))
set_option maxRecDepth 20000 in
theorem gL_acts_X9_markAltitude : GoodIn wsL_acts (wsV RL 75 RX9 yX9_markAltitude wsX9_markAltitude) := goodIn_app (goodIn_of _ (by decide +kernel)) ggL_acts_X9_markAltitude
set_option maxRecDepth 20000 in
theorem ggL_acts_X9_recall : GoodIn wsL_acts wsX9_recall := goodIn_ca (goodIn_ca (goodIn_r _ [234, 235, 236, 237, 19, 13, 238, 121, 122, 11, 123, 124, 125, 239, 240, 241, 242, 243, 244, 20, 21, 22, 23, 24, 25, 26, 27, 28, 29, 30, 31, 32, 33, 34, 35, 36, 37, 38, 39, 40, 41, 42, 43, 44, 45, 46, 47, 48, 49, 50, 51, 52, 53, 54, 55, 56, 57, 58, 59, 60, 61, 62, 63, 64, 65, 66, 67, 68, 69, 70, 71, 72, 73, 74, 75, 76, 77, 78, 79, 80, 81, 82, 83, 84, 85, 245, 140, 96, 97, 98, 99, 100, 101, 102, 103, 104, 105, 361, 362, 330, 331, 332, 333, 334, 345, 346, 347, 335, 336, 337, 338, 339, 340, 341, 342, 343, 344, 348, 349, 350, 351, 352, 353, 354, 355, 356, 357, 358, 359, 360] (by decide +kernel) (by decide +kernel)) (goodIn_sub (fun _ h => List.mem_cons_of_mem _ (List.mem_append_right _ h)) (by decide +kernel))) (goodIn_sub (fun _ h => List.mem_cons_of_mem _ (List.mem_append_left _ (List.mem_append_left _ (List.mem_append_right _ h)))) (by decide +kernel))
set_option maxRecDepth 20000 in
theorem gL_acts_X9_recall : GoodIn wsL_acts (wsV RL 78 RX9 yX9_recall wsX9_recall) := goodIn_app (goodIn_of _ (by decide +kernel)) ggL_acts_X9_recall
set_option maxRecDepth 20000 in
theorem ggL_acts_X9_pressure : GoodIn wsL_acts wsX9_pressure := goodIn_r _ [249, 13, 250, 330, 331, 332, 333, 334, 335, 336, 337, 338, 339, 340, 341, 342, 343, 344] (by decide +kernel) (by decide +kernel)
set_option maxRecDepth 20000 in
theorem gL_acts_X9_pressure : GoodIn wsL_acts (wsV RL 81 RX9 yX9_pressure wsX9_pressure) := goodIn_app (goodIn_of _ (by decide +kernel)) ggL_acts_X9_pressure
set_option maxRecDepth 20000 in
theorem ggL_acts_L_travels : GoodIn wsL_acts wsL_travels := goodIn_ca (goodIn_r _ [253, 254, 255, 256, 11, 257, 13, 121, 122, 123, 124, 125, 258, 259, 260, 39, 261, 41, 42, 44, 163, 164, 101, 165, 103, 104, 105, 166, 167, 168, 169, 100, 102, 99, 262, 263, 264, 265, 266, 267, 268, 269, 270, 271, 54, 48, 43, 195, 272, 273, 274, 275, 276, 59, 51, 52, 53, 55, 56, 57, 58, 277, 278, 279, 280, 281, 282, 283, 284, 285, 286, 287, 134, 288, 289, 290, 291, 292, 293, 112, 113, 114, 115, 116, 218, 219, 220, 221, 222, 294, 295, 296, 297, 110, 298, 299, 300, 301, 302, 19, 20, 21, 22, 23, 24, 25, 26, 27, 28, 29, 30, 31, 32, 33, 34, 35, 36, 37, 38, 40, 45, 46, 47, 49, 50, 60, 61, 62, 63, 64, 65, 66, 67, 68, 69, 70, 71, 72, 73, 74, 75, 76, 77, 78, 79, 80, 81, 82, 83, 84, 85, 303, 304, 305, 306, 307, 308, 309, 310, 311, 312, 313, 314, 200, 201, 315, 316, 317, 318, 319, 320, 321, 322, 323, 324, 325, 326, 327, 328, 329, 216, 217, 95, 96, 97, 98, 140, 136, 137, 138, 139, 246, 247, 248, 249, 250, 8, 9, 10, 12, 14, 330, 331, 332, 333, 334, 335, 336, 337, 338, 339, 340, 341, 342, 343, 344, 348, 349, 350, 351, 352, 353, 354, 355, 356, 345, 346, 347, 357, 358, 359, 360] (by decide +kernel) (by decide +kernel)) (goodIn_sub (fun _ h => List.mem_cons_of_mem _ (List.mem_append_left _ (List.mem_append_left _ (List.mem_append_right _ h)))) (by decide +kernel))
set_option maxRecDepth 20000 in
theorem gL_acts_L_travels : GoodIn wsL_acts (va_wsS RL 84 yL_travels wsL_travels) := goodIn_app (goodIn_of _ (by decide +kernel)) ggL_acts_L_travels
