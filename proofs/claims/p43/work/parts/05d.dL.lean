set_option maxRecDepth 20000 in
theorem ggL_holds_L_up : GoodIn wsL_holds wsL_up := goodIn_r _ [6, 7] (by decide +kernel) (by decide +kernel)
set_option maxRecDepth 20000 in
theorem gL_holds_L_up : GoodIn wsL_holds (va_wsS RL 9 yL_up wsL_up) := goodIn_app (goodIn_of _ (by decide +kernel)) ggL_holds_L_up
set_option maxRecDepth 20000 in
theorem ggL_holds_X9_pressureAt : GoodIn wsL_holds wsX9_pressureAt := goodIn_ca (goodIn_r _ [12, 13, 14, 15, 16, 11, 17, 18, 19, 20, 21, 22, 23, 24, 25, 26, 27, 28, 29, 30, 31, 32, 33, 146, 147, 148, 149, 150, 151, 152, 153, 154, 155, 156, 157, 158, 159, 160] (by decide +kernel) (by decide +kernel)) (goodIn_sub (fun _ h => List.mem_cons_of_mem _ (List.mem_append_left _ (List.mem_append_right _ h))) (by decide +kernel))
set_option maxRecDepth 20000 in
theorem gL_holds_X9_pressureAt : GoodIn wsL_holds (wsV RL 107 RX9 yX9_pressureAt wsX9_pressureAt) := goodIn_app (goodIn_of _ (by decide +kernel)) ggL_holds_X9_pressureAt
set_option maxRecDepth 20000 in
theorem ggL_holds_X9_sea : GoodIn wsL_holds wsX9_sea := goodIn_r _ [37, 14, 38, 146, 147, 148, 149, 150, 151, 152, 153, 154, 155, 156, 157, 158, 159, 160] (by decide +kernel) (by decide +kernel)
set_option maxRecDepth 20000 in
theorem gL_holds_X9_sea : GoodIn wsL_holds (wsV RL 29 RX9 yX9_sea wsX9_sea) := goodIn_app (goodIn_of _ (by decide +kernel)) ggL_holds_X9_sea
set_option maxRecDepth 20000 in
theorem ggL_holds_X9_standard : GoodIn wsL_holds wsX9_standard := goodIn_ca (goodIn_r _ [42, 15, 16, 11, 17, 18, 19, 43, 27, 28, 29] (by decide +kernel) (by decide +kernel)) (goodIn_sub (fun _ h => List.mem_cons_of_mem _ (List.mem_append_left _ (List.mem_append_right _ h))) (by decide +kernel))
set_option maxRecDepth 20000 in
theorem gL_holds_X9_standard : GoodIn wsL_holds (wsV RL 110 RX9 yX9_standard wsX9_standard) := goodIn_app (goodIn_of _ (by decide +kernel)) ggL_holds_X9_standard
set_option maxRecDepth 20000 in
theorem ggL_holds_X9_altitude : GoodIn wsL_holds wsX9_altitude := goodIn_r _ [47, 14, 48, 49, 50, 23, 51, 52, 25, 53, 54, 28, 55, 33, 27, 29, 146, 147, 148, 149, 150, 151, 152, 153, 154, 155, 156, 157, 158, 159, 160] (by decide +kernel) (by decide +kernel)
set_option maxRecDepth 20000 in
theorem gL_holds_X9_altitude : GoodIn wsL_holds (wsV RL 39 RX9 yX9_altitude wsX9_altitude) := goodIn_app (goodIn_of _ (by decide +kernel)) ggL_holds_X9_altitude
set_option maxRecDepth 20000 in
theorem ggL_holds_X9_pressure : GoodIn wsL_holds wsX9_pressure := goodIn_r _ [59, 14, 60, 146, 147, 148, 149, 150, 151, 152, 153, 154, 155, 156, 157, 158, 159, 160] (by decide +kernel) (by decide +kernel)
set_option maxRecDepth 20000 in
theorem gL_holds_X9_pressure : GoodIn wsL_holds (wsV RL 81 RX9 yX9_pressure wsX9_pressure) := goodIn_app (goodIn_of _ (by decide +kernel)) ggL_holds_X9_pressure
set_option maxRecDepth 20000 in
theorem ggL_holds_X9_fall : GoodIn wsL_holds wsX9_fall := goodIn_r _ [64, 14, 65, 66, 67, 68, 69, 70, 71, 72, 73, 74, 75, 76, 77, 78, 79, 80, 81, 11, 82, 146, 147, 148, 149, 150, 151, 152, 153, 154, 155, 156, 157, 158, 159, 160, 161, 162, 163, 164, 165] (by decide +kernel) (by decide +kernel)
set_option maxRecDepth 20000 in
theorem gL_holds_X9_fall : GoodIn wsL_holds (wsV RL 113 RX9 yX9_fall wsX9_fall) := goodIn_app (goodIn_of _ (by decide +kernel)) ggL_holds_X9_fall
set_option maxRecDepth 20000 in
theorem ggL_holds_X9_logged : GoodIn wsL_holds wsX9_logged := goodIn_r _ [86, 14, 65, 87, 146, 147, 148, 149, 150, 151, 152, 153, 154, 155, 156, 157, 158, 159, 160, 161, 162, 163, 164, 165] (by decide +kernel) (by decide +kernel)
set_option maxRecDepth 20000 in
theorem gL_holds_X9_logged : GoodIn wsL_holds (wsV RL 25 RX9 yX9_logged wsX9_logged) := goodIn_app (goodIn_of _ (by decide +kernel)) ggL_holds_X9_logged
set_option maxRecDepth 20000 in
theorem ggL_holds_X9_isStation : GoodIn wsL_holds wsX9_isStation := goodIn_r _ [91, 14, 92, 146, 147, 148, 149, 150, 151, 152, 153, 154, 155, 156, 157, 158, 159, 160] (by decide +kernel) (by decide +kernel)
set_option maxRecDepth 20000 in
theorem gL_holds_X9_isStation : GoodIn wsL_holds (wsV RL 15 RX9 yX9_isStation wsX9_isStation) := goodIn_app (goodIn_of _ (by decide +kernel)) ggL_holds_X9_isStation
set_option maxRecDepth 20000 in
theorem ggL_holds_X9_alarms : GoodIn wsL_holds wsX9_alarms := goodIn_r _ [96, 14, 65, 97, 146, 147, 148, 149, 150, 151, 152, 153, 154, 155, 156, 157, 158, 159, 160, 161, 162, 163, 164, 165] (by decide +kernel) (by decide +kernel)
set_option maxRecDepth 20000 in
theorem gL_holds_X9_alarms : GoodIn wsL_holds (wsV RL 100 RX9 yX9_alarms wsX9_alarms) := goodIn_app (goodIn_of _ (by decide +kernel)) ggL_holds_X9_alarms
set_option maxRecDepth 20000 in
theorem ggL_holds_X9_minutes : GoodIn wsL_holds wsX9_minutes := goodIn_r _ [101, 14, 102, 146, 147, 148, 149, 150, 151, 152, 153, 154, 155, 156, 157, 158, 159, 160] (by decide +kernel) (by decide +kernel)
set_option maxRecDepth 20000 in
theorem gL_holds_X9_minutes : GoodIn wsL_holds (wsV RL 72 RX9 yX9_minutes wsX9_minutes) := goodIn_app (goodIn_of _ (by decide +kernel)) ggL_holds_X9_minutes
set_option maxRecDepth 20000 in
theorem ggL_holds_X9_climbShare : GoodIn wsL_holds wsX9_climbShare := goodIn_r _ [106, 14, 107, 108, 109, 110, 146, 147, 148, 149, 150, 151, 152, 153, 154, 155, 156, 157, 158, 159, 160, 166, 167, 168, 169] (by decide +kernel) (by decide +kernel)
set_option maxRecDepth 20000 in
theorem gL_holds_X9_climbShare : GoodIn wsL_holds (wsV RL 116 RX9 yX9_climbShare wsX9_climbShare) := goodIn_app (goodIn_of _ (by decide +kernel)) ggL_holds_X9_climbShare
set_option maxRecDepth 20000 in
theorem ggL_holds_X9_marks : GoodIn wsL_holds wsX9_marks := goodIn_r _ [114, 14, 115, 116, 146, 147, 148, 149, 150, 151, 152, 153, 154, 155, 156, 157, 158, 159, 160, 170, 171, 172, 173] (by decide +kernel) (by decide +kernel)
set_option maxRecDepth 20000 in
theorem gL_holds_X9_marks : GoodIn wsL_holds (wsV RL 63 RX9 yX9_marks wsX9_marks) := goodIn_app (goodIn_of _ (by decide +kernel)) ggL_holds_X9_marks
set_option maxRecDepth 20000 in
theorem ggL_holds_X9_climbed : GoodIn wsL_holds wsX9_climbed := goodIn_ca (goodIn_r _ [120, 14, 115, 121, 122, 123, 11, 124, 125, 126, 116, 127, 128, 129, 130, 131, 132, 81, 82, 146, 147, 148, 149, 150, 151, 152, 153, 154, 155, 156, 157, 158, 159, 160, 170, 171, 172, 173] (by decide +kernel) (by decide +kernel)) (goodIn_sub (fun _ h => List.mem_cons_of_mem _ (List.mem_append_right _ h)) (by decide +kernel))
set_option maxRecDepth 20000 in
theorem gL_holds_X9_climbed : GoodIn wsL_holds (wsV RL 120 RX9 yX9_climbed wsX9_climbed) := goodIn_app (goodIn_of _ (by decide +kernel)) ggL_holds_X9_climbed
set_option maxRecDepth 20000 in
theorem ggL_holds_X9_isAlarm : GoodIn wsL_holds wsX9_isAlarm := goodIn_r _ [136, 14, 65, 137, 138, 139, 69, 140, 141, 142, 67, 68, 70, 71, 72, 73, 74, 75, 76, 77, 78, 79, 80, 81, 11, 82, 146, 147, 148, 149, 150, 151, 152, 153, 154, 155, 156, 157, 158, 159, 160, 161, 162, 163, 164, 165] (by decide +kernel) (by decide +kernel)
set_option maxRecDepth 20000 in
theorem gL_holds_X9_isAlarm : GoodIn wsL_holds (wsV RL 123 RX9 yX9_isAlarm wsX9_isAlarm) := goodIn_app (goodIn_of _ (by decide +kernel)) ggL_holds_X9_isAlarm
set_option maxRecDepth 20000 in
theorem ggL_holds_L_size : GoodIn wsL_holds wsL_size := goodIn_r _ [145] (by decide +kernel) (by decide +kernel)
set_option maxRecDepth 20000 in
theorem gL_holds_L_size : GoodIn wsL_holds (va_wsS RL 126 yL_size wsL_size) := goodIn_app (goodIn_of _ (by decide +kernel)) ggL_holds_L_size
theorem dL_holds_0 : decode cL_holds 0 = .ok (.sipush 5000, 3) := by decide +kernel
theorem dL_holds_3 : decode cL_holds 3 = .ok (.iload_n 1, 1) := by decide +kernel
theorem dL_holds_4 : decode cL_holds 4 = .ok (.sipush 6000, 3) := by decide +kernel
theorem dL_holds_7 : decode cL_holds 7 = .ok (.invokestatic 9, 3) := by decide +kernel
theorem dL_holds_10 : decode cL_holds 10 = .ok (.iadd, 1) := by decide +kernel
theorem dL_holds_11 : decode cL_holds 11 = .ok (.istore_n 2, 1) := by decide +kernel
theorem dL_holds_12 : decode cL_holds 12 = .ok (.iload_n 1, 1) := by decide +kernel
theorem dL_holds_13 : decode cL_holds 13 = .ok (.iconst 3, 1) := by decide +kernel
theorem dL_holds_14 : decode cL_holds 14 = .ok (.ishr, 1) := by decide +kernel
theorem dL_holds_15 : decode cL_holds 15 = .ok (.ldc 106, 2) := by decide +kernel
theorem dL_holds_17 : decode cL_holds 17 = .ok (.invokestatic 9, 3) := by decide +kernel
theorem dL_holds_20 : decode cL_holds 20 = .ok (.sipush 4000, 3) := by decide +kernel
theorem dL_holds_23 : decode cL_holds 23 = .ok (.isub, 1) := by decide +kernel
theorem dL_holds_24 : decode cL_holds 24 = .ok (.istore_n 3, 1) := by decide +kernel
theorem dL_holds_25 : decode cL_holds 25 = .ok (.aload_n 0, 1) := by decide +kernel
theorem dL_holds_26 : decode cL_holds 26 = .ok (.iload_n 3, 1) := by decide +kernel
theorem dL_holds_27 : decode cL_holds 27 = .ok (.invokevirtual 107, 3) := by decide +kernel
theorem dL_holds_30 : decode cL_holds 30 = .ok (.istore 4, 2) := by decide +kernel
theorem dL_holds_32 : decode cL_holds 32 = .ok (.aload_n 0, 1) := by decide +kernel
theorem dL_holds_33 : decode cL_holds 33 = .ok (.aload_n 0, 1) := by decide +kernel
theorem dL_holds_34 : decode cL_holds 34 = .ok (.invokevirtual 29, 3) := by decide +kernel
theorem dL_holds_37 : decode cL_holds 37 = .ok (.invokevirtual 110, 3) := by decide +kernel
theorem dL_holds_40 : decode cL_holds 40 = .ok (.istore 5, 2) := by decide +kernel
theorem dL_holds_42 : decode cL_holds 42 = .ok (.aload_n 0, 1) := by decide +kernel
theorem dL_holds_43 : decode cL_holds 43 = .ok (.invokevirtual 39, 3) := by decide +kernel
theorem dL_holds_46 : decode cL_holds 46 = .ok (.aload_n 0, 1) := by decide +kernel
theorem dL_holds_47 : decode cL_holds 47 = .ok (.aload_n 0, 1) := by decide +kernel
theorem dL_holds_48 : decode cL_holds 48 = .ok (.invokevirtual 81, 3) := by decide +kernel
theorem dL_holds_51 : decode cL_holds 51 = .ok (.invokevirtual 110, 3) := by decide +kernel
theorem dL_holds_54 : decode cL_holds 54 = .ok (.iload 5, 2) := by decide +kernel
theorem dL_holds_56 : decode cL_holds 56 = .ok (.isub, 1) := by decide +kernel
theorem dL_holds_57 : decode cL_holds 57 = .ok (.if_icmp .ne 62, 3) := by decide +kernel
theorem dL_holds_60 : decode cL_holds 60 = .ok (.aload_n 0, 1) := by decide +kernel
theorem dL_holds_61 : decode cL_holds 61 = .ok (.iload_n 2, 1) := by decide +kernel
theorem dL_holds_62 : decode cL_holds 62 = .ok (.invokevirtual 110, 3) := by decide +kernel
theorem dL_holds_65 : decode cL_holds 65 = .ok (.aload_n 0, 1) := by decide +kernel
theorem dL_holds_66 : decode cL_holds 66 = .ok (.iload_n 2, 1) := by decide +kernel
theorem dL_holds_67 : decode cL_holds 67 = .ok (.iconst 1, 1) := by decide +kernel
theorem dL_holds_68 : decode cL_holds 68 = .ok (.iadd, 1) := by decide +kernel
theorem dL_holds_69 : decode cL_holds 69 = .ok (.invokevirtual 110, 3) := by decide +kernel
theorem dL_holds_72 : decode cL_holds 72 = .ok (.if_icmp .lt 47, 3) := by decide +kernel
theorem dL_holds_75 : decode cL_holds 75 = .ok (.aload_n 0, 1) := by decide +kernel
theorem dL_holds_76 : decode cL_holds 76 = .ok (.invokevirtual 29, 3) := by decide +kernel
theorem dL_holds_79 : decode cL_holds 79 = .ok (.sipush 9000, 3) := by decide +kernel
theorem dL_holds_82 : decode cL_holds 82 = .ok (.if_icmp .lt 37, 3) := by decide +kernel
theorem dL_holds_85 : decode cL_holds 85 = .ok (.aload_n 0, 1) := by decide +kernel
theorem dL_holds_86 : decode cL_holds 86 = .ok (.invokevirtual 29, 3) := by decide +kernel
theorem dL_holds_89 : decode cL_holds 89 = .ok (.sipush 10800, 3) := by decide +kernel
theorem dL_holds_92 : decode cL_holds 92 = .ok (.if_icmp .gt 27, 3) := by decide +kernel
theorem dL_holds_95 : decode cL_holds 95 = .ok (.aload_n 0, 1) := by decide +kernel
theorem dL_holds_96 : decode cL_holds 96 = .ok (.invokevirtual 81, 3) := by decide +kernel
theorem dL_holds_99 : decode cL_holds 99 = .ok (.sipush 5000, 3) := by decide +kernel
theorem dL_holds_102 : decode cL_holds 102 = .ok (.if_icmp .lt 17, 3) := by decide +kernel
theorem dL_holds_105 : decode cL_holds 105 = .ok (.aload_n 0, 1) := by decide +kernel
theorem dL_holds_106 : decode cL_holds 106 = .ok (.invokevirtual 81, 3) := by decide +kernel
theorem dL_holds_109 : decode cL_holds 109 = .ok (.sipush 11000, 3) := by decide +kernel
theorem dL_holds_112 : decode cL_holds 112 = .ok (.if_icmp .gt 7, 3) := by decide +kernel
theorem dL_holds_115 : decode cL_holds 115 = .ok (.iconst 1, 1) := by decide +kernel
theorem dL_holds_116 : decode cL_holds 116 = .ok (.goto 4, 3) := by decide +kernel
theorem dL_holds_119 : decode cL_holds 119 = .ok (.iconst 0, 1) := by decide +kernel
theorem dL_holds_120 : decode cL_holds 120 = .ok (.istore 6, 2) := by decide +kernel
theorem dL_holds_122 : decode cL_holds 122 = .ok (.iload 6, 2) := by decide +kernel
theorem dL_holds_124 : decode cL_holds 124 = .ok (.ifCond .eq 66, 3) := by decide +kernel
theorem dL_holds_127 : decode cL_holds 127 = .ok (.iload 4, 2) := by decide +kernel
theorem dL_holds_129 : decode cL_holds 129 = .ok (.iconst (-1), 1) := by decide +kernel
theorem dL_holds_130 : decode cL_holds 130 = .ok (.if_icmp .ne 20, 3) := by decide +kernel
theorem dL_holds_133 : decode cL_holds 133 = .ok (.aload_n 0, 1) := by decide +kernel
theorem dL_holds_134 : decode cL_holds 134 = .ok (.sipush 5000, 3) := by decide +kernel
theorem dL_holds_137 : decode cL_holds 137 = .ok (.invokevirtual 110, 3) := by decide +kernel
theorem dL_holds_140 : decode cL_holds 140 = .ok (.iload 5, 2) := by decide +kernel
theorem dL_holds_142 : decode cL_holds 142 = .ok (.isub, 1) := by decide +kernel
theorem dL_holds_143 : decode cL_holds 143 = .ok (.iload_n 3, 1) := by decide +kernel
theorem dL_holds_144 : decode cL_holds 144 = .ok (.if_icmp .ge 46, 3) := by decide +kernel
theorem dL_holds_147 : decode cL_holds 147 = .ok (.goto 39, 3) := by decide +kernel
theorem dL_holds_150 : decode cL_holds 150 = .ok (.aload_n 0, 1) := by decide +kernel
theorem dL_holds_151 : decode cL_holds 151 = .ok (.iload 4, 2) := by decide +kernel
theorem dL_holds_153 : decode cL_holds 153 = .ok (.invokevirtual 110, 3) := by decide +kernel
theorem dL_holds_156 : decode cL_holds 156 = .ok (.iload 5, 2) := by decide +kernel
theorem dL_holds_158 : decode cL_holds 158 = .ok (.isub, 1) := by decide +kernel
theorem dL_holds_159 : decode cL_holds 159 = .ok (.iload_n 3, 1) := by decide +kernel
theorem dL_holds_160 : decode cL_holds 160 = .ok (.if_icmp .lt 30, 3) := by decide +kernel
theorem dL_holds_163 : decode cL_holds 163 = .ok (.iload 4, 2) := by decide +kernel
theorem dL_holds_165 : decode cL_holds 165 = .ok (.sipush 11000, 3) := by decide +kernel
theorem dL_holds_168 : decode cL_holds 168 = .ok (.if_icmp .eq 18, 3) := by decide +kernel
theorem dL_holds_171 : decode cL_holds 171 = .ok (.aload_n 0, 1) := by decide +kernel
theorem dL_holds_172 : decode cL_holds 172 = .ok (.iload 4, 2) := by decide +kernel
theorem dL_holds_174 : decode cL_holds 174 = .ok (.iconst 1, 1) := by decide +kernel
theorem dL_holds_175 : decode cL_holds 175 = .ok (.iadd, 1) := by decide +kernel
theorem dL_holds_176 : decode cL_holds 176 = .ok (.invokevirtual 110, 3) := by decide +kernel
theorem dL_holds_179 : decode cL_holds 179 = .ok (.iload 5, 2) := by decide +kernel
theorem dL_holds_181 : decode cL_holds 181 = .ok (.isub, 1) := by decide +kernel
theorem dL_holds_182 : decode cL_holds 182 = .ok (.iload_n 3, 1) := by decide +kernel
theorem dL_holds_183 : decode cL_holds 183 = .ok (.if_icmp .ge 7, 3) := by decide +kernel
theorem dL_holds_186 : decode cL_holds 186 = .ok (.iconst 1, 1) := by decide +kernel
theorem dL_holds_187 : decode cL_holds 187 = .ok (.goto 4, 3) := by decide +kernel
theorem dL_holds_190 : decode cL_holds 190 = .ok (.iconst 0, 1) := by decide +kernel
theorem dL_holds_191 : decode cL_holds 191 = .ok (.istore 6, 2) := by decide +kernel
theorem dL_holds_193 : decode cL_holds 193 = .ok (.iload 6, 2) := by decide +kernel
theorem dL_holds_195 : decode cL_holds 195 = .ok (.ifCond .eq 92, 3) := by decide +kernel
theorem dL_holds_198 : decode cL_holds 198 = .ok (.aload_n 0, 1) := by decide +kernel
theorem dL_holds_199 : decode cL_holds 199 = .ok (.invokevirtual 113, 3) := by decide +kernel
theorem dL_holds_202 : decode cL_holds 202 = .ok (.ifCond .lt 85, 3) := by decide +kernel
theorem dL_holds_205 : decode cL_holds 205 = .ok (.aload_n 0, 1) := by decide +kernel
theorem dL_holds_206 : decode cL_holds 206 = .ok (.invokevirtual 113, 3) := by decide +kernel
theorem dL_holds_209 : decode cL_holds 209 = .ok (.sipush 6000, 3) := by decide +kernel
theorem dL_holds_212 : decode cL_holds 212 = .ok (.if_icmp .gt 75, 3) := by decide +kernel
theorem dL_holds_215 : decode cL_holds 215 = .ok (.aload_n 0, 1) := by decide +kernel
theorem dL_holds_216 : decode cL_holds 216 = .ok (.invokevirtual 25, 3) := by decide +kernel
theorem dL_holds_219 : decode cL_holds 219 = .ok (.bipush 60, 2) := by decide +kernel
theorem dL_holds_221 : decode cL_holds 221 = .ok (.if_icmp .gt 66, 3) := by decide +kernel
theorem dL_holds_224 : decode cL_holds 224 = .ok (.aload_n 0, 1) := by decide +kernel
theorem dL_holds_225 : decode cL_holds 225 = .ok (.invokevirtual 15, 3) := by decide +kernel
theorem dL_holds_228 : decode cL_holds 228 = .ok (.ifCond .ne 17, 3) := by decide +kernel
theorem dL_holds_231 : decode cL_holds 231 = .ok (.aload_n 0, 1) := by decide +kernel
theorem dL_holds_232 : decode cL_holds 232 = .ok (.invokevirtual 25, 3) := by decide +kernel
theorem dL_holds_235 : decode cL_holds 235 = .ok (.ifCond .ne 52, 3) := by decide +kernel
theorem dL_holds_238 : decode cL_holds 238 = .ok (.aload_n 0, 1) := by decide +kernel
theorem dL_holds_239 : decode cL_holds 239 = .ok (.invokevirtual 113, 3) := by decide +kernel
theorem dL_holds_242 : decode cL_holds 242 = .ok (.ifCond .ne 45, 3) := by decide +kernel
theorem dL_holds_245 : decode cL_holds 245 = .ok (.aload_n 0, 1) := by decide +kernel
theorem dL_holds_246 : decode cL_holds 246 = .ok (.invokevirtual 100, 3) := by decide +kernel
theorem dL_holds_249 : decode cL_holds 249 = .ok (.aload_n 0, 1) := by decide +kernel
theorem dL_holds_250 : decode cL_holds 250 = .ok (.invokevirtual 72, 3) := by decide +kernel
theorem dL_holds_253 : decode cL_holds 253 = .ok (.if_icmp .gt 34, 3) := by decide +kernel
theorem dL_holds_256 : decode cL_holds 256 = .ok (.aload_n 0, 1) := by decide +kernel
theorem dL_holds_257 : decode cL_holds 257 = .ok (.invokevirtual 116, 3) := by decide +kernel
theorem dL_holds_260 : decode cL_holds 260 = .ok (.dconst 0, 1) := by decide +kernel
theorem dL_holds_261 : decode cL_holds 261 = .ok (.dcmp .l, 1) := by decide +kernel
theorem dL_holds_262 : decode cL_holds 262 = .ok (.ifCond .lt 25, 3) := by decide +kernel
theorem dL_holds_265 : decode cL_holds 265 = .ok (.aload_n 0, 1) := by decide +kernel
theorem dL_holds_266 : decode cL_holds 266 = .ok (.invokevirtual 116, 3) := by decide +kernel
theorem dL_holds_269 : decode cL_holds 269 = .ok (.dconst 1, 1) := by decide +kernel
theorem dL_holds_270 : decode cL_holds 270 = .ok (.dcmp .g, 1) := by decide +kernel
theorem dL_holds_271 : decode cL_holds 271 = .ok (.ifCond .gt 16, 3) := by decide +kernel
theorem dL_holds_274 : decode cL_holds 274 = .ok (.aload_n 0, 1) := by decide +kernel
theorem dL_holds_275 : decode cL_holds 275 = .ok (.invokevirtual 63, 3) := by decide +kernel
theorem dL_holds_278 : decode cL_holds 278 = .ok (.bipush 10, 2) := by decide +kernel
theorem dL_holds_280 : decode cL_holds 280 = .ok (.if_icmp .gt 7, 3) := by decide +kernel
theorem dL_holds_283 : decode cL_holds 283 = .ok (.iconst 1, 1) := by decide +kernel
theorem dL_holds_284 : decode cL_holds 284 = .ok (.goto 4, 3) := by decide +kernel
theorem dL_holds_287 : decode cL_holds 287 = .ok (.iconst 0, 1) := by decide +kernel
theorem dL_holds_288 : decode cL_holds 288 = .ok (.istore 6, 2) := by decide +kernel
theorem dL_holds_290 : decode cL_holds 290 = .ok (.iconst 1, 1) := by decide +kernel
theorem dL_holds_291 : decode cL_holds 291 = .ok (.istore 7, 2) := by decide +kernel
theorem dL_holds_293 : decode cL_holds 293 = .ok (.iload 7, 2) := by decide +kernel
theorem dL_holds_295 : decode cL_holds 295 = .ok (.aload_n 0, 1) := by decide +kernel
theorem dL_holds_296 : decode cL_holds 296 = .ok (.invokevirtual 63, 3) := by decide +kernel
theorem dL_holds_299 : decode cL_holds 299 = .ok (.if_icmp .ge 69, 3) := by decide +kernel
theorem dL_holds_302 : decode cL_holds 302 = .ok (.iload 6, 2) := by decide +kernel
theorem dL_holds_304 : decode cL_holds 304 = .ok (.ifCond .eq 55, 3) := by decide +kernel
theorem dL_holds_307 : decode cL_holds 307 = .ok (.aload_n 0, 1) := by decide +kernel
theorem dL_holds_308 : decode cL_holds 308 = .ok (.iconst 0, 1) := by decide +kernel
theorem dL_holds_309 : decode cL_holds 309 = .ok (.iload 7, 2) := by decide +kernel
theorem dL_holds_311 : decode cL_holds 311 = .ok (.invokevirtual 120, 3) := by decide +kernel
theorem dL_holds_314 : decode cL_holds 314 = .ok (.aload_n 0, 1) := by decide +kernel
theorem dL_holds_315 : decode cL_holds 315 = .ok (.iload 7, 2) := by decide +kernel
theorem dL_holds_317 : decode cL_holds 317 = .ok (.iconst 0, 1) := by decide +kernel
theorem dL_holds_318 : decode cL_holds 318 = .ok (.invokevirtual 120, 3) := by decide +kernel
theorem dL_holds_321 : decode cL_holds 321 = .ok (.ineg, 1) := by decide +kernel
theorem dL_holds_322 : decode cL_holds 322 = .ok (.if_icmp .ne 37, 3) := by decide +kernel
theorem dL_holds_325 : decode cL_holds 325 = .ok (.aload_n 0, 1) := by decide +kernel
theorem dL_holds_326 : decode cL_holds 326 = .ok (.iconst 0, 1) := by decide +kernel
theorem dL_holds_327 : decode cL_holds 327 = .ok (.iload 7, 2) := by decide +kernel
theorem dL_holds_329 : decode cL_holds 329 = .ok (.invokevirtual 120, 3) := by decide +kernel
theorem dL_holds_332 : decode cL_holds 332 = .ok (.aload_n 0, 1) := by decide +kernel
theorem dL_holds_333 : decode cL_holds 333 = .ok (.iconst 0, 1) := by decide +kernel
theorem dL_holds_334 : decode cL_holds 334 = .ok (.iload 7, 2) := by decide +kernel
theorem dL_holds_336 : decode cL_holds 336 = .ok (.iconst 1, 1) := by decide +kernel
theorem dL_holds_337 : decode cL_holds 337 = .ok (.isub, 1) := by decide +kernel
theorem dL_holds_338 : decode cL_holds 338 = .ok (.invokevirtual 120, 3) := by decide +kernel
theorem dL_holds_341 : decode cL_holds 341 = .ok (.aload_n 0, 1) := by decide +kernel
theorem dL_holds_342 : decode cL_holds 342 = .ok (.iload 7, 2) := by decide +kernel
theorem dL_holds_344 : decode cL_holds 344 = .ok (.iconst 1, 1) := by decide +kernel
theorem dL_holds_345 : decode cL_holds 345 = .ok (.isub, 1) := by decide +kernel
theorem dL_holds_346 : decode cL_holds 346 = .ok (.iload 7, 2) := by decide +kernel
theorem dL_holds_348 : decode cL_holds 348 = .ok (.invokevirtual 120, 3) := by decide +kernel
theorem dL_holds_351 : decode cL_holds 351 = .ok (.iadd, 1) := by decide +kernel
theorem dL_holds_352 : decode cL_holds 352 = .ok (.if_icmp .ne 7, 3) := by decide +kernel
theorem dL_holds_355 : decode cL_holds 355 = .ok (.iconst 1, 1) := by decide +kernel
theorem dL_holds_356 : decode cL_holds 356 = .ok (.goto 4, 3) := by decide +kernel
theorem dL_holds_359 : decode cL_holds 359 = .ok (.iconst 0, 1) := by decide +kernel
theorem dL_holds_360 : decode cL_holds 360 = .ok (.istore 6, 2) := by decide +kernel
theorem dL_holds_362 : decode cL_holds 362 = .ok (.iinc 7 1, 3) := by decide +kernel
theorem dL_holds_365 : decode cL_holds 365 = .ok (.goto (-72), 3) := by decide +kernel
theorem dL_holds_368 : decode cL_holds 368 = .ok (.iload 6, 2) := by decide +kernel
theorem dL_holds_370 : decode cL_holds 370 = .ok (.ifCond .eq 33, 3) := by decide +kernel
theorem dL_holds_373 : decode cL_holds 373 = .ok (.aload_n 0, 1) := by decide +kernel
theorem dL_holds_374 : decode cL_holds 374 = .ok (.invokevirtual 123, 3) := by decide +kernel
theorem dL_holds_377 : decode cL_holds 377 = .ok (.ifCond .eq 10, 3) := by decide +kernel
theorem dL_holds_380 : decode cL_holds 380 = .ok (.aload_n 0, 1) := by decide +kernel
theorem dL_holds_381 : decode cL_holds 381 = .ok (.invokevirtual 15, 3) := by decide +kernel
theorem dL_holds_384 : decode cL_holds 384 = .ok (.ifCond .eq 19, 3) := by decide +kernel
theorem dL_holds_387 : decode cL_holds 387 = .ok (.aload_n 0, 1) := by decide +kernel
theorem dL_holds_388 : decode cL_holds 388 = .ok (.invokevirtual 39, 3) := by decide +kernel
theorem dL_holds_391 : decode cL_holds 391 = .ok (.invokestatic 126, 3) := by decide +kernel
theorem dL_holds_394 : decode cL_holds 394 = .ok (.ldc 129, 2) := by decide +kernel
theorem dL_holds_396 : decode cL_holds 396 = .ok (.if_icmp .ge 7, 3) := by decide +kernel
theorem dL_holds_399 : decode cL_holds 399 = .ok (.iconst 1, 1) := by decide +kernel
theorem dL_holds_400 : decode cL_holds 400 = .ok (.goto 4, 3) := by decide +kernel
theorem dL_holds_403 : decode cL_holds 403 = .ok (.iconst 0, 1) := by decide +kernel
theorem dL_holds_404 : decode cL_holds 404 = .ok (.ireturn, 1) := by decide +kernel
