set_option maxRecDepth 20000 in
theorem ggL_travels_X9_altitudeAfter : GoodIn wsL_travels wsX9_altitudeAfter := goodIn_ca (goodIn_r _ [5, 6, 7, 8, 4, 9, 10, 11, 12, 13, 14, 15, 16, 17, 18, 19, 20, 21, 22, 23, 24, 25, 26, 27, 28, 29, 30, 31, 32, 33, 201, 202, 203, 204, 205, 206, 207, 208, 209, 210, 211, 212, 213, 214, 215] (by decide +kernel) (by decide +kernel)) (goodIn_sub (fun _ h => List.mem_cons_of_mem _ (List.mem_append_right _ h)) (by decide +kernel))
set_option maxRecDepth 20000 in
theorem gL_travels_X9_altitudeAfter : GoodIn wsL_travels (wsV RL 88 RX9 yX9_altitudeAfter wsX9_altitudeAfter) := goodIn_app (goodIn_of _ (by decide +kernel)) ggL_travels_X9_altitudeAfter
set_option maxRecDepth 20000 in
theorem ggL_travels_X9_ascentIn : GoodIn wsL_travels wsX9_ascentIn := goodIn_ca (goodIn_r _ [37, 6, 7, 8, 4, 9, 10, 11, 38, 39, 40, 15, 41, 17, 42, 43, 44, 45, 46, 19, 47, 48, 49, 50, 51, 52, 53, 54, 55, 56, 57, 58, 59, 60, 61, 62, 22, 63, 33, 31, 32, 24, 25, 26, 64, 65, 66, 67, 201, 202, 203, 204, 205, 206, 207, 208, 209, 210, 211, 212, 213, 214, 215, 216, 217, 218, 219] (by decide +kernel) (by decide +kernel)) (goodIn_sub (fun _ h => List.mem_cons_of_mem _ (List.mem_append_right _ h)) (by decide +kernel))
set_option maxRecDepth 20000 in
theorem gL_travels_X9_ascentIn : GoodIn wsL_travels (wsV RL 91 RX9 yX9_ascentIn wsX9_ascentIn) := goodIn_app (goodIn_of _ (by decide +kernel)) ggL_travels_X9_ascentIn
set_option maxRecDepth 20000 in
theorem ggL_travels_X9_ascent : GoodIn wsL_travels wsX9_ascent := goodIn_r _ [71, 6, 72, 73, 201, 202, 203, 204, 205, 206, 207, 208, 209, 210, 211, 212, 213, 214, 215, 216, 217, 218, 219] (by decide +kernel) (by decide +kernel)
set_option maxRecDepth 20000 in
theorem gL_travels_X9_ascent : GoodIn wsL_travels (wsV RL 94 RX9 yX9_ascent wsX9_ascent) := goodIn_app (goodIn_of _ (by decide +kernel)) ggL_travels_X9_ascent
set_option maxRecDepth 20000 in
theorem ggL_travels_X9_descent : GoodIn wsL_travels wsX9_descent := goodIn_r _ [77, 6, 72, 78, 201, 202, 203, 204, 205, 206, 207, 208, 209, 210, 211, 212, 213, 214, 215, 216, 217, 218, 219] (by decide +kernel) (by decide +kernel)
set_option maxRecDepth 20000 in
theorem gL_travels_X9_descent : GoodIn wsL_travels (wsV RL 97 RX9 yX9_descent wsX9_descent) := goodIn_app (goodIn_of _ (by decide +kernel)) ggL_travels_X9_descent
set_option maxRecDepth 20000 in
theorem ggL_travels_X9_sea : GoodIn wsL_travels wsX9_sea := goodIn_r _ [82, 6, 83, 201, 202, 203, 204, 205, 206, 207, 208, 209, 210, 211, 212, 213, 214, 215] (by decide +kernel) (by decide +kernel)
set_option maxRecDepth 20000 in
theorem gL_travels_X9_sea : GoodIn wsL_travels (wsV RL 29 RX9 yX9_sea wsX9_sea) := goodIn_app (goodIn_of _ (by decide +kernel)) ggL_travels_X9_sea
set_option maxRecDepth 20000 in
theorem ggL_travels_X9_minutes : GoodIn wsL_travels wsX9_minutes := goodIn_r _ [87, 6, 88, 201, 202, 203, 204, 205, 206, 207, 208, 209, 210, 211, 212, 213, 214, 215] (by decide +kernel) (by decide +kernel)
set_option maxRecDepth 20000 in
theorem gL_travels_X9_minutes : GoodIn wsL_travels (wsV RL 72 RX9 yX9_minutes wsX9_minutes) := goodIn_app (goodIn_of _ (by decide +kernel)) ggL_travels_X9_minutes
set_option maxRecDepth 20000 in
theorem ggL_travels_X9_alarms : GoodIn wsL_travels wsX9_alarms := goodIn_r _ [92, 6, 93, 94, 201, 202, 203, 204, 205, 206, 207, 208, 209, 210, 211, 212, 213, 214, 215, 220, 221, 222, 223, 224] (by decide +kernel) (by decide +kernel)
set_option maxRecDepth 20000 in
theorem gL_travels_X9_alarms : GoodIn wsL_travels (wsV RL 100 RX9 yX9_alarms wsX9_alarms) := goodIn_app (goodIn_of _ (by decide +kernel)) ggL_travels_X9_alarms
set_option maxRecDepth 20000 in
theorem ggL_travels_X9_travel : GoodIn wsL_travels wsX9_travel := goodIn_ca (goodIn_r _ [98, 99, 6, 7, 8, 4, 9, 10, 11, 100, 101, 102, 103, 104, 105, 106, 107, 108, 109, 110, 111, 112, 113, 114, 115, 116, 117, 118, 15, 119, 17, 18, 46, 19, 120, 121, 122, 45, 123, 124, 54, 55, 56, 44, 57, 58, 59, 60, 53, 125, 126, 127, 128, 129, 130, 131, 132, 133, 134, 135, 136, 137, 138, 139, 140, 141, 142, 143, 144, 145, 146, 147, 148, 149, 150, 151, 152, 153, 154, 61, 62, 22, 63, 20, 21, 23, 24, 25, 26, 27, 28, 29, 30, 31, 32, 155, 156, 157, 158, 159, 160, 161, 162, 163, 164, 165, 166, 167, 168, 169, 170, 171, 172, 173, 174, 175, 176, 177, 178, 179, 180, 181, 182, 183, 184, 185, 33, 64, 65, 66, 67, 186, 201, 202, 203, 204, 205, 225, 226, 227, 206, 207, 208, 209, 210, 211, 212, 213, 214, 215, 216, 217, 218, 219, 220, 221, 222, 223, 224, 228, 229, 230, 231] (by decide +kernel) (by decide +kernel)) (goodIn_sub (fun _ h => List.mem_cons_of_mem _ (List.mem_append_right _ h)) (by decide +kernel))
set_option maxRecDepth 20000 in
theorem gL_travels_X9_travel : GoodIn wsL_travels (wsV RL 103 RX9 yX9_travel wsX9_travel) := goodIn_app (goodIn_of _ (by decide +kernel)) ggL_travels_X9_travel
set_option maxRecDepth 20000 in
theorem ggL_travels_X9_altitude : GoodIn wsL_travels wsX9_altitude := goodIn_r _ [190, 6, 186, 183, 184, 15, 185, 46, 19, 33, 31, 22, 32, 24, 25, 26, 201, 202, 203, 204, 205, 206, 207, 208, 209, 210, 211, 212, 213, 214, 215] (by decide +kernel) (by decide +kernel)
set_option maxRecDepth 20000 in
theorem gL_travels_X9_altitude : GoodIn wsL_travels (wsV RL 39 RX9 yX9_altitude wsX9_altitude) := goodIn_app (goodIn_of _ (by decide +kernel)) ggL_travels_X9_altitude
set_option maxRecDepth 20000 in
theorem ggL_travels_X9_pressure : GoodIn wsL_travels wsX9_pressure := goodIn_r _ [194, 6, 195, 201, 202, 203, 204, 205, 206, 207, 208, 209, 210, 211, 212, 213, 214, 215] (by decide +kernel) (by decide +kernel)
set_option maxRecDepth 20000 in
theorem gL_travels_X9_pressure : GoodIn wsL_travels (wsV RL 81 RX9 yX9_pressure wsX9_pressure) := goodIn_app (goodIn_of _ (by decide +kernel)) ggL_travels_X9_pressure
set_option maxRecDepth 20000 in
theorem ggL_travels_X9_isStation : GoodIn wsL_travels wsX9_isStation := goodIn_r _ [199, 6, 200, 201, 202, 203, 204, 205, 206, 207, 208, 209, 210, 211, 212, 213, 214, 215] (by decide +kernel) (by decide +kernel)
set_option maxRecDepth 20000 in
theorem gL_travels_X9_isStation : GoodIn wsL_travels (wsV RL 15 RX9 yX9_isStation wsX9_isStation) := goodIn_app (goodIn_of _ (by decide +kernel)) ggL_travels_X9_isStation
theorem dL_travels_0 : decode cL_travels 0 = .ok (.aload_n 0, 1) := by decide +kernel
theorem dL_travels_1 : decode cL_travels 1 = .ok (.iload_n 1, 1) := by decide +kernel
theorem dL_travels_2 : decode cL_travels 2 = .ok (.iload_n 2, 1) := by decide +kernel
theorem dL_travels_3 : decode cL_travels 3 = .ok (.invokevirtual 88, 3) := by decide +kernel
theorem dL_travels_6 : decode cL_travels 6 = .ok (.istore_n 3, 1) := by decide +kernel
theorem dL_travels_7 : decode cL_travels 7 = .ok (.aload_n 0, 1) := by decide +kernel
theorem dL_travels_8 : decode cL_travels 8 = .ok (.iload_n 1, 1) := by decide +kernel
theorem dL_travels_9 : decode cL_travels 9 = .ok (.iload_n 2, 1) := by decide +kernel
theorem dL_travels_10 : decode cL_travels 10 = .ok (.invokevirtual 91, 3) := by decide +kernel
theorem dL_travels_13 : decode cL_travels 13 = .ok (.istore 4, 2) := by decide +kernel
theorem dL_travels_15 : decode cL_travels 15 = .ok (.aload_n 0, 1) := by decide +kernel
theorem dL_travels_16 : decode cL_travels 16 = .ok (.invokevirtual 94, 3) := by decide +kernel
theorem dL_travels_19 : decode cL_travels 19 = .ok (.istore 5, 2) := by decide +kernel
theorem dL_travels_21 : decode cL_travels 21 = .ok (.aload_n 0, 1) := by decide +kernel
theorem dL_travels_22 : decode cL_travels 22 = .ok (.invokevirtual 97, 3) := by decide +kernel
theorem dL_travels_25 : decode cL_travels 25 = .ok (.istore 6, 2) := by decide +kernel
theorem dL_travels_27 : decode cL_travels 27 = .ok (.aload_n 0, 1) := by decide +kernel
theorem dL_travels_28 : decode cL_travels 28 = .ok (.invokevirtual 29, 3) := by decide +kernel
theorem dL_travels_31 : decode cL_travels 31 = .ok (.istore 7, 2) := by decide +kernel
theorem dL_travels_33 : decode cL_travels 33 = .ok (.aload_n 0, 1) := by decide +kernel
theorem dL_travels_34 : decode cL_travels 34 = .ok (.invokevirtual 72, 3) := by decide +kernel
theorem dL_travels_37 : decode cL_travels 37 = .ok (.istore 8, 2) := by decide +kernel
theorem dL_travels_39 : decode cL_travels 39 = .ok (.aload_n 0, 1) := by decide +kernel
theorem dL_travels_40 : decode cL_travels 40 = .ok (.invokevirtual 100, 3) := by decide +kernel
theorem dL_travels_43 : decode cL_travels 43 = .ok (.istore 9, 2) := by decide +kernel
theorem dL_travels_45 : decode cL_travels 45 = .ok (.aload_n 0, 1) := by decide +kernel
theorem dL_travels_46 : decode cL_travels 46 = .ok (.iload_n 1, 1) := by decide +kernel
theorem dL_travels_47 : decode cL_travels 47 = .ok (.iload_n 2, 1) := by decide +kernel
theorem dL_travels_48 : decode cL_travels 48 = .ok (.invokevirtual 103, 3) := by decide +kernel
theorem dL_travels_51 : decode cL_travels 51 = .ok (.iload_n 3, 1) := by decide +kernel
theorem dL_travels_52 : decode cL_travels 52 = .ok (.if_icmp .ne 71, 3) := by decide +kernel
theorem dL_travels_55 : decode cL_travels 55 = .ok (.aload_n 0, 1) := by decide +kernel
theorem dL_travels_56 : decode cL_travels 56 = .ok (.invokevirtual 39, 3) := by decide +kernel
theorem dL_travels_59 : decode cL_travels 59 = .ok (.iload_n 3, 1) := by decide +kernel
theorem dL_travels_60 : decode cL_travels 60 = .ok (.if_icmp .ne 63, 3) := by decide +kernel
theorem dL_travels_63 : decode cL_travels 63 = .ok (.aload_n 0, 1) := by decide +kernel
theorem dL_travels_64 : decode cL_travels 64 = .ok (.invokevirtual 81, 3) := by decide +kernel
theorem dL_travels_67 : decode cL_travels 67 = .ok (.iload_n 2, 1) := by decide +kernel
theorem dL_travels_68 : decode cL_travels 68 = .ok (.if_icmp .ne 55, 3) := by decide +kernel
theorem dL_travels_71 : decode cL_travels 71 = .ok (.aload_n 0, 1) := by decide +kernel
theorem dL_travels_72 : decode cL_travels 72 = .ok (.invokevirtual 72, 3) := by decide +kernel
theorem dL_travels_75 : decode cL_travels 75 = .ok (.iload 8, 2) := by decide +kernel
theorem dL_travels_77 : decode cL_travels 77 = .ok (.iload_n 1, 1) := by decide +kernel
theorem dL_travels_78 : decode cL_travels 78 = .ok (.iadd, 1) := by decide +kernel
theorem dL_travels_79 : decode cL_travels 79 = .ok (.if_icmp .ne 44, 3) := by decide +kernel
theorem dL_travels_82 : decode cL_travels 82 = .ok (.aload_n 0, 1) := by decide +kernel
theorem dL_travels_83 : decode cL_travels 83 = .ok (.invokevirtual 94, 3) := by decide +kernel
theorem dL_travels_86 : decode cL_travels 86 = .ok (.iload 5, 2) := by decide +kernel
theorem dL_travels_88 : decode cL_travels 88 = .ok (.iload 4, 2) := by decide +kernel
theorem dL_travels_90 : decode cL_travels 90 = .ok (.iadd, 1) := by decide +kernel
theorem dL_travels_91 : decode cL_travels 91 = .ok (.if_icmp .ne 32, 3) := by decide +kernel
theorem dL_travels_94 : decode cL_travels 94 = .ok (.iload 4, 2) := by decide +kernel
theorem dL_travels_96 : decode cL_travels 96 = .ok (.ifCond .lt 27, 3) := by decide +kernel
theorem dL_travels_99 : decode cL_travels 99 = .ok (.aload_n 0, 1) := by decide +kernel
theorem dL_travels_100 : decode cL_travels 100 = .ok (.invokevirtual 100, 3) := by decide +kernel
theorem dL_travels_103 : decode cL_travels 103 = .ok (.iload 9, 2) := by decide +kernel
theorem dL_travels_105 : decode cL_travels 105 = .ok (.if_icmp .lt 18, 3) := by decide +kernel
theorem dL_travels_108 : decode cL_travels 108 = .ok (.aload_n 0, 1) := by decide +kernel
theorem dL_travels_109 : decode cL_travels 109 = .ok (.invokevirtual 100, 3) := by decide +kernel
theorem dL_travels_112 : decode cL_travels 112 = .ok (.iload 9, 2) := by decide +kernel
theorem dL_travels_114 : decode cL_travels 114 = .ok (.iload_n 1, 1) := by decide +kernel
theorem dL_travels_115 : decode cL_travels 115 = .ok (.iadd, 1) := by decide +kernel
theorem dL_travels_116 : decode cL_travels 116 = .ok (.if_icmp .gt 7, 3) := by decide +kernel
theorem dL_travels_119 : decode cL_travels 119 = .ok (.iconst 1, 1) := by decide +kernel
theorem dL_travels_120 : decode cL_travels 120 = .ok (.goto 4, 3) := by decide +kernel
theorem dL_travels_123 : decode cL_travels 123 = .ok (.iconst 0, 1) := by decide +kernel
theorem dL_travels_124 : decode cL_travels 124 = .ok (.istore 10, 2) := by decide +kernel
theorem dL_travels_126 : decode cL_travels 126 = .ok (.iload 10, 2) := by decide +kernel
theorem dL_travels_128 : decode cL_travels 128 = .ok (.ifCond .eq 53, 3) := by decide +kernel
theorem dL_travels_131 : decode cL_travels 131 = .ok (.aload_n 0, 1) := by decide +kernel
theorem dL_travels_132 : decode cL_travels 132 = .ok (.invokevirtual 15, 3) := by decide +kernel
theorem dL_travels_135 : decode cL_travels 135 = .ok (.ifCond .eq 24, 3) := by decide +kernel
theorem dL_travels_138 : decode cL_travels 138 = .ok (.aload_n 0, 1) := by decide +kernel
theorem dL_travels_139 : decode cL_travels 139 = .ok (.invokevirtual 94, 3) := by decide +kernel
theorem dL_travels_142 : decode cL_travels 142 = .ok (.iload 5, 2) := by decide +kernel
theorem dL_travels_144 : decode cL_travels 144 = .ok (.if_icmp .ne 37, 3) := by decide +kernel
theorem dL_travels_147 : decode cL_travels 147 = .ok (.aload_n 0, 1) := by decide +kernel
theorem dL_travels_148 : decode cL_travels 148 = .ok (.invokevirtual 97, 3) := by decide +kernel
theorem dL_travels_151 : decode cL_travels 151 = .ok (.iload 6, 2) := by decide +kernel
theorem dL_travels_153 : decode cL_travels 153 = .ok (.if_icmp .ne 28, 3) := by decide +kernel
theorem dL_travels_156 : decode cL_travels 156 = .ok (.goto 21, 3) := by decide +kernel
theorem dL_travels_159 : decode cL_travels 159 = .ok (.aload_n 0, 1) := by decide +kernel
theorem dL_travels_160 : decode cL_travels 160 = .ok (.invokevirtual 29, 3) := by decide +kernel
theorem dL_travels_163 : decode cL_travels 163 = .ok (.iload 7, 2) := by decide +kernel
theorem dL_travels_165 : decode cL_travels 165 = .ok (.if_icmp .ne 16, 3) := by decide +kernel
theorem dL_travels_168 : decode cL_travels 168 = .ok (.aload_n 0, 1) := by decide +kernel
theorem dL_travels_169 : decode cL_travels 169 = .ok (.invokevirtual 97, 3) := by decide +kernel
theorem dL_travels_172 : decode cL_travels 172 = .ok (.iload 6, 2) := by decide +kernel
theorem dL_travels_174 : decode cL_travels 174 = .ok (.if_icmp .lt 7, 3) := by decide +kernel
theorem dL_travels_177 : decode cL_travels 177 = .ok (.iconst 1, 1) := by decide +kernel
theorem dL_travels_178 : decode cL_travels 178 = .ok (.goto 4, 3) := by decide +kernel
theorem dL_travels_181 : decode cL_travels 181 = .ok (.iconst 0, 1) := by decide +kernel
theorem dL_travels_182 : decode cL_travels 182 = .ok (.ireturn, 1) := by decide +kernel
