set_option maxRecDepth 20000 in
theorem ggX9_init_X5_init : GoodIn wsX9_init wsX5_init := goodIn_r _ [22, 23, 2, 3, 24, 25, 26, 27, 28, 29, 30, 31, 32, 33, 34, 35, 36, 37, 38, 39, 40, 41, 42, 43, 44, 45, 46, 47, 48, 49, 50, 51, 52, 53, 69, 70, 71, 72, 73, 74, 75, 76, 77, 78, 91, 92, 93, 94, 95, 96, 97, 98, 99, 100, 101, 102, 103] (by decide +kernel) (by decide +kernel)
set_option maxRecDepth 20000 in
theorem gX9_init_X5_init_n9 : GoodIn wsX9_init (wsX5_init) := ggX9_init_X5_init
set_option maxRecDepth 20000 in
theorem ggX9_init_X4_init : GoodIn wsX9_init wsX4_init := goodIn_r _ [56, 57, 2, 3, 58, 59, 5, 6, 21, 22, 23, 24, 25, 26, 27, 28, 29, 30, 31, 32, 33, 34, 35, 36, 37, 38, 39, 40, 41, 42, 43, 44, 45, 46, 47, 48, 49, 50, 51, 52, 53, 84, 85, 86, 69, 70, 71, 72, 73, 74, 75, 76, 77, 78, 91, 92, 93, 94, 95, 96, 97, 98, 99, 100, 101, 102, 103] (by decide +kernel) (by decide +kernel)
set_option maxRecDepth 20000 in
theorem gX9_init_X4_init : GoodIn wsX9_init (wsX4_init) := ggX9_init_X4_init
set_option maxRecDepth 20000 in
theorem ggX9_init_X3_init : GoodIn wsX9_init wsX3_init := goodIn_r _ [61, 62, 2, 3, 63, 5, 6, 64, 21, 22, 23, 24, 25, 26, 27, 28, 29, 30, 31, 32, 33, 34, 35, 36, 37, 38, 39, 40, 41, 42, 43, 44, 45, 46, 47, 48, 49, 50, 51, 52, 53, 69, 70, 71, 72, 73, 74, 75, 76, 77, 78, 87, 88, 91, 92, 93, 94, 95, 96, 97, 98, 99, 100, 101, 102, 103] (by decide +kernel) (by decide +kernel)
set_option maxRecDepth 20000 in
theorem gX9_init_X3_init_n25 : GoodIn wsX9_init (wsX3_init) := ggX9_init_X3_init
set_option maxRecDepth 20000 in
theorem ggX9_init_X7_init : GoodIn wsX9_init wsX7_init := goodIn_r _ [66, 67, 2, 3, 45, 68, 89, 90] (by decide +kernel) (by decide +kernel)
set_option maxRecDepth 20000 in
theorem gX9_init_X7_init_n35 : GoodIn wsX9_init (wsX7_init) := ggX9_init_X7_init
theorem dX9_init_0 : decode cX9_init 0 = .ok (.aload_n 0, 1) := by decide +kernel
theorem dX9_init_1 : decode cX9_init 1 = .ok (.invokespecial 1, 3) := by decide +kernel
theorem dX9_init_4 : decode cX9_init 4 = .ok (.aload_n 0, 1) := by decide +kernel
theorem dX9_init_5 : decode cX9_init 5 = .ok (.new 7, 3) := by decide +kernel
theorem dX9_init_8 : decode cX9_init 8 = .ok (.dup, 1) := by decide +kernel
theorem dX9_init_9 : decode cX9_init 9 = .ok (.invokespecial 9, 3) := by decide +kernel
theorem dX9_init_12 : decode cX9_init 12 = .ok (.putfield 10, 3) := by decide +kernel
theorem dX9_init_15 : decode cX9_init 15 = .ok (.aload_n 0, 1) := by decide +kernel
theorem dX9_init_16 : decode cX9_init 16 = .ok (.new 16, 3) := by decide +kernel
theorem dX9_init_19 : decode cX9_init 19 = .ok (.dup, 1) := by decide +kernel
theorem dX9_init_20 : decode cX9_init 20 = .ok (.invokespecial 18, 3) := by decide +kernel
theorem dX9_init_23 : decode cX9_init 23 = .ok (.putfield 19, 3) := by decide +kernel
theorem dX9_init_26 : decode cX9_init 26 = .ok (.aload_n 0, 1) := by decide +kernel
theorem dX9_init_27 : decode cX9_init 27 = .ok (.new 23, 3) := by decide +kernel
theorem dX9_init_30 : decode cX9_init 30 = .ok (.dup, 1) := by decide +kernel
theorem dX9_init_31 : decode cX9_init 31 = .ok (.invokespecial 25, 3) := by decide +kernel
theorem dX9_init_34 : decode cX9_init 34 = .ok (.putfield 26, 3) := by decide +kernel
theorem dX9_init_37 : decode cX9_init 37 = .ok (.aload_n 0, 1) := by decide +kernel
theorem dX9_init_38 : decode cX9_init 38 = .ok (.new 23, 3) := by decide +kernel
theorem dX9_init_41 : decode cX9_init 41 = .ok (.dup, 1) := by decide +kernel
theorem dX9_init_42 : decode cX9_init 42 = .ok (.invokespecial 25, 3) := by decide +kernel
theorem dX9_init_45 : decode cX9_init 45 = .ok (.putfield 30, 3) := by decide +kernel
theorem dX9_init_48 : decode cX9_init 48 = .ok (.aload_n 0, 1) := by decide +kernel
theorem dX9_init_49 : decode cX9_init 49 = .ok (.new 33, 3) := by decide +kernel
theorem dX9_init_52 : decode cX9_init 52 = .ok (.dup, 1) := by decide +kernel
theorem dX9_init_53 : decode cX9_init 53 = .ok (.invokespecial 35, 3) := by decide +kernel
theorem dX9_init_56 : decode cX9_init 56 = .ok (.putfield 36, 3) := by decide +kernel
theorem dX9_init_59 : decode cX9_init 59 = .ok (.return_, 1) := by decide +kernel
set_option maxRecDepth 20000 in
theorem ggX9_travel_X9_refuseOutside : GoodIn wsX9_travel wsX9_refuseOutside := goodIn_ca (goodIn_r _ [6, 7, 8] (by decide +kernel) (by decide +kernel)) (goodIn_sub (fun _ h => List.mem_cons_of_mem _ (List.mem_append_right _ h)) (by decide +kernel))
set_option maxRecDepth 20000 in
theorem gX9_travel_X9_refuseOutside : GoodIn wsX9_travel (va_wsS RX9 40 yX9_refuseOutside wsX9_refuseOutside) := goodIn_app (goodIn_of _ (by decide +kernel)) ggX9_travel_X9_refuseOutside
set_option maxRecDepth 20000 in
theorem ggX9_travel_X4_save : GoodIn wsX9_travel wsX4_save := goodIn_r _ [13, 14, 15, 16, 17, 18, 19, 20, 21, 22, 12, 23, 24, 25, 26, 27, 28, 29, 30, 31, 32, 33, 34, 35, 36, 37, 38, 39, 40, 41, 42, 43, 44, 45, 46, 47, 48, 49, 50, 51, 52, 53, 54, 55, 56, 57, 58, 59, 5, 60, 61, 62, 63, 64, 65, 66, 67, 68, 69, 70, 71, 72, 73, 74, 137, 138, 139, 140, 141, 142, 143, 144, 145, 146, 147, 148, 149, 150, 151, 152, 153, 154, 155, 156, 157, 158, 159, 160, 161, 162] (by decide +kernel) (by decide +kernel)
set_option maxRecDepth 20000 in
theorem gX9_travel_X4_save : GoodIn wsX9_travel (wsV RX9 44 RX4 yX4_save wsX4_save) := goodIn_app (goodIn_of _ (by decide +kernel)) ggX9_travel_X4_save
set_option maxRecDepth 20000 in
theorem ggX9_travel_X5_makeTrip : GoodIn wsX9_travel wsX5_makeTrip := goodIn_r _ [78, 32, 34, 30, 31, 33, 38, 37, 79, 80, 81, 82, 83, 84, 85, 86, 87, 88, 89, 90, 91, 92, 93, 94, 95, 96, 97, 52, 98, 58, 57, 99, 100, 101, 102, 55, 54, 103, 5, 104, 105, 106, 107, 108, 56, 109, 110, 111, 112, 113, 114, 115, 116, 117, 118, 18, 119, 120, 121, 122, 123, 124, 28, 125, 126, 127, 128, 129, 43, 130, 45, 48, 46, 47, 140, 141, 142, 143, 144, 145, 146, 147, 148, 149, 154, 155, 156, 157, 158, 150, 151, 152, 153] (by decide +kernel) (by decide +kernel)
set_option maxRecDepth 20000 in
theorem gX9_travel_X5_makeTrip : GoodIn wsX9_travel (wsV RX9 48 RX5 yX5_makeTrip wsX5_makeTrip) := goodIn_app (goodIn_of _ (by decide +kernel)) ggX9_travel_X5_makeTrip
set_option maxRecDepth 20000 in
theorem ggX9_travel_X5_height : GoodIn wsX9_travel wsX5_height := goodIn_r _ [125, 32, 33, 126, 93, 81, 94, 86, 87, 88, 140, 141, 142, 143, 144, 145, 146, 147, 148, 149] (by decide +kernel) (by decide +kernel)
set_option maxRecDepth 20000 in
theorem gX9_travel_X5_height : GoodIn wsX9_travel (wsV RX9 52 RX5 yX5_height wsX5_height) := goodIn_app (goodIn_of _ (by decide +kernel)) ggX9_travel_X5_height
theorem dX9_travel_0 : decode cX9_travel 0 = .ok (.iload_n 1, 1) := by decide +kernel
theorem dX9_travel_1 : decode cX9_travel 1 = .ok (.iconst 1, 1) := by decide +kernel
theorem dX9_travel_2 : decode cX9_travel 2 = .ok (.bipush 120, 2) := by decide +kernel
theorem dX9_travel_4 : decode cX9_travel 4 = .ok (.invokestatic 40, 3) := by decide +kernel
theorem dX9_travel_7 : decode cX9_travel 7 = .ok (.iload_n 2, 1) := by decide +kernel
theorem dX9_travel_8 : decode cX9_travel 8 = .ok (.sipush 5000, 3) := by decide +kernel
theorem dX9_travel_11 : decode cX9_travel 11 = .ok (.sipush 11000, 3) := by decide +kernel
theorem dX9_travel_14 : decode cX9_travel 14 = .ok (.invokestatic 40, 3) := by decide +kernel
theorem dX9_travel_17 : decode cX9_travel 17 = .ok (.aload_n 0, 1) := by decide +kernel
theorem dX9_travel_18 : decode cX9_travel 18 = .ok (.getfield 19, 3) := by decide +kernel
theorem dX9_travel_21 : decode cX9_travel 21 = .ok (.aload_n 0, 1) := by decide +kernel
theorem dX9_travel_22 : decode cX9_travel 22 = .ok (.getfield 10, 3) := by decide +kernel
theorem dX9_travel_25 : decode cX9_travel 25 = .ok (.invokevirtual 44, 3) := by decide +kernel
theorem dX9_travel_28 : decode cX9_travel 28 = .ok (.aload_n 0, 1) := by decide +kernel
theorem dX9_travel_29 : decode cX9_travel 29 = .ok (.getfield 10, 3) := by decide +kernel
theorem dX9_travel_32 : decode cX9_travel 32 = .ok (.iload_n 1, 1) := by decide +kernel
theorem dX9_travel_33 : decode cX9_travel 33 = .ok (.iload_n 2, 1) := by decide +kernel
theorem dX9_travel_34 : decode cX9_travel 34 = .ok (.invokevirtual 48, 3) := by decide +kernel
theorem dX9_travel_37 : decode cX9_travel 37 = .ok (.aload_n 0, 1) := by decide +kernel
theorem dX9_travel_38 : decode cX9_travel 38 = .ok (.getfield 10, 3) := by decide +kernel
theorem dX9_travel_41 : decode cX9_travel 41 = .ok (.invokevirtual 52, 3) := by decide +kernel
theorem dX9_travel_44 : decode cX9_travel 44 = .ok (.ireturn, 1) := by decide +kernel
set_option maxRecDepth 20000 in
theorem ggX9_setStation_X4_save : GoodIn wsX9_setStation wsX4_save := goodIn_r _ [8, 9, 10, 11, 12, 13, 14, 15, 16, 17, 7, 18, 19, 20, 21, 22, 23, 24, 25, 26, 27, 28, 29, 30, 31, 32, 33, 34, 35, 36, 37, 38, 39, 40, 41, 42, 43, 44, 45, 46, 47, 48, 49, 50, 51, 52, 53, 54, 55, 56, 57, 58, 59, 60, 61, 62, 63, 64, 65, 66, 67, 68, 69, 70, 106, 107, 108, 96, 97, 98, 99, 100, 101, 102, 103, 104, 105, 109, 110, 111, 112, 113, 114, 115, 116, 117, 118, 119, 120, 121] (by decide +kernel) (by decide +kernel)
set_option maxRecDepth 20000 in
theorem gX9_setStation_X4_save : GoodIn wsX9_setStation (wsV RX9 44 RX4 yX4_save wsX4_save) := goodIn_app (goodIn_of _ (by decide +kernel)) ggX9_setStation_X4_save
set_option maxRecDepth 20000 in
theorem ggX9_setStation_X5_switchStation : GoodIn wsX9_setStation wsX5_switchStation := goodIn_r _ [74, 25, 33, 26, 32, 75, 76, 77, 78, 47, 79, 50, 53, 80, 81, 82, 23, 83, 27, 28, 84, 85, 86, 87, 88, 89, 90, 96, 97, 98, 99, 100, 101, 102, 103, 104, 105, 109, 110, 111, 112, 113, 114, 115, 116, 117] (by decide +kernel) (by decide +kernel)
set_option maxRecDepth 20000 in
theorem gX9_setStation_X5_switchStation : GoodIn wsX9_setStation (wsV RX9 60 RX5 yX5_switchStation wsX5_switchStation) := goodIn_app (goodIn_of _ (by decide +kernel)) ggX9_setStation_X5_switchStation
theorem dX9_setStation_0 : decode cX9_setStation 0 = .ok (.aload_n 0, 1) := by decide +kernel
theorem dX9_setStation_1 : decode cX9_setStation 1 = .ok (.getfield 10, 3) := by decide +kernel
theorem dX9_setStation_4 : decode cX9_setStation 4 = .ok (.getfield 56, 3) := by decide +kernel
theorem dX9_setStation_7 : decode cX9_setStation 7 = .ok (.istore_n 2, 1) := by decide +kernel
theorem dX9_setStation_8 : decode cX9_setStation 8 = .ok (.aload_n 0, 1) := by decide +kernel
theorem dX9_setStation_9 : decode cX9_setStation 9 = .ok (.getfield 19, 3) := by decide +kernel
theorem dX9_setStation_12 : decode cX9_setStation 12 = .ok (.aload_n 0, 1) := by decide +kernel
theorem dX9_setStation_13 : decode cX9_setStation 13 = .ok (.getfield 10, 3) := by decide +kernel
theorem dX9_setStation_16 : decode cX9_setStation 16 = .ok (.invokevirtual 44, 3) := by decide +kernel
theorem dX9_setStation_19 : decode cX9_setStation 19 = .ok (.aload_n 0, 1) := by decide +kernel
theorem dX9_setStation_20 : decode cX9_setStation 20 = .ok (.getfield 10, 3) := by decide +kernel
theorem dX9_setStation_23 : decode cX9_setStation 23 = .ok (.iload_n 1, 1) := by decide +kernel
theorem dX9_setStation_24 : decode cX9_setStation 24 = .ok (.invokevirtual 60, 3) := by decide +kernel
theorem dX9_setStation_27 : decode cX9_setStation 27 = .ok (.iload_n 2, 1) := by decide +kernel
theorem dX9_setStation_28 : decode cX9_setStation 28 = .ok (.ireturn, 1) := by decide +kernel
theorem dX9_isStation_0 : decode cX9_isStation 0 = .ok (.aload_n 0, 1) := by decide +kernel
theorem dX9_isStation_1 : decode cX9_isStation 1 = .ok (.getfield 10, 3) := by decide +kernel
theorem dX9_isStation_4 : decode cX9_isStation 4 = .ok (.getfield 56, 3) := by decide +kernel
theorem dX9_isStation_7 : decode cX9_isStation 7 = .ok (.ireturn, 1) := by decide +kernel
theorem dX9_pressure_0 : decode cX9_pressure 0 = .ok (.aload_n 0, 1) := by decide +kernel
theorem dX9_pressure_1 : decode cX9_pressure 1 = .ok (.getfield 10, 3) := by decide +kernel
theorem dX9_pressure_4 : decode cX9_pressure 4 = .ok (.getfield 64, 3) := by decide +kernel
theorem dX9_pressure_7 : decode cX9_pressure 7 = .ok (.ireturn, 1) := by decide +kernel
set_option maxRecDepth 20000 in
theorem ggX9_altitude_X5_height : GoodIn wsX9_altitude wsX5_height := goodIn_r _ [6, 7, 8, 9, 10, 11, 12, 13, 14, 15, 21, 22, 23, 24, 25, 26, 27, 28, 29, 30] (by decide +kernel) (by decide +kernel)
set_option maxRecDepth 20000 in
theorem gX9_altitude_X5_height : GoodIn wsX9_altitude (wsV RX9 52 RX5 yX5_height wsX5_height) := goodIn_app (goodIn_of _ (by decide +kernel)) ggX9_altitude_X5_height
theorem dX9_altitude_0 : decode cX9_altitude 0 = .ok (.aload_n 0, 1) := by decide +kernel
theorem dX9_altitude_1 : decode cX9_altitude 1 = .ok (.getfield 10, 3) := by decide +kernel
theorem dX9_altitude_4 : decode cX9_altitude 4 = .ok (.invokevirtual 52, 3) := by decide +kernel
theorem dX9_altitude_7 : decode cX9_altitude 7 = .ok (.ireturn, 1) := by decide +kernel
theorem dX9_minutes_0 : decode cX9_minutes 0 = .ok (.aload_n 0, 1) := by decide +kernel
theorem dX9_minutes_1 : decode cX9_minutes 1 = .ok (.getfield 10, 3) := by decide +kernel
theorem dX9_minutes_4 : decode cX9_minutes 4 = .ok (.getfield 68, 3) := by decide +kernel
theorem dX9_minutes_7 : decode cX9_minutes 7 = .ok (.ireturn, 1) := by decide +kernel
set_option maxRecDepth 20000 in
theorem ggX9_standard_X9_refuseOutside : GoodIn wsX9_standard wsX9_refuseOutside := goodIn_ca (goodIn_r _ [4, 5, 6] (by decide +kernel) (by decide +kernel)) (goodIn_sub (fun _ h => List.mem_cons_of_mem _ (List.mem_append_right _ h)) (by decide +kernel))
set_option maxRecDepth 20000 in
theorem gX9_standard_X9_refuseOutside : GoodIn wsX9_standard (va_wsS RX9 40 yX9_refuseOutside wsX9_refuseOutside) := goodIn_app (goodIn_of _ (by decide +kernel)) ggX9_standard_X9_refuseOutside
set_option maxRecDepth 20000 in
theorem ggX9_standard_X0_standardAltitude : GoodIn wsX9_standard wsX0_standardAltitude := goodIn_r _ [10] (by decide +kernel) (by decide +kernel)
set_option maxRecDepth 20000 in
theorem gX9_standard_X0_standardAltitude : GoodIn wsX9_standard (va_wsS RX9 71 yX0_standardAltitude wsX0_standardAltitude) := goodIn_app (goodIn_of _ (by decide +kernel)) ggX9_standard_X0_standardAltitude
theorem dX9_standard_0 : decode cX9_standard 0 = .ok (.iload_n 1, 1) := by decide +kernel
theorem dX9_standard_1 : decode cX9_standard 1 = .ok (.sipush 5000, 3) := by decide +kernel
theorem dX9_standard_4 : decode cX9_standard 4 = .ok (.sipush 11000, 3) := by decide +kernel
theorem dX9_standard_7 : decode cX9_standard 7 = .ok (.invokestatic 40, 3) := by decide +kernel
theorem dX9_standard_10 : decode cX9_standard 10 = .ok (.iload_n 1, 1) := by decide +kernel
theorem dX9_standard_11 : decode cX9_standard 11 = .ok (.invokestatic 71, 3) := by decide +kernel
theorem dX9_standard_14 : decode cX9_standard 14 = .ok (.ireturn, 1) := by decide +kernel
set_option maxRecDepth 20000 in
theorem ggX9_setSea_X9_refuseOutside : GoodIn wsX9_setSea wsX9_refuseOutside := goodIn_ca (goodIn_r _ [7, 8, 9] (by decide +kernel) (by decide +kernel)) (goodIn_sub (fun _ h => List.mem_cons_of_mem _ (List.mem_append_right _ h)) (by decide +kernel))
set_option maxRecDepth 20000 in
theorem gX9_setSea_X9_refuseOutside : GoodIn wsX9_setSea (va_wsS RX9 40 yX9_refuseOutside wsX9_refuseOutside) := goodIn_app (goodIn_of _ (by decide +kernel)) ggX9_setSea_X9_refuseOutside
set_option maxRecDepth 20000 in
theorem ggX9_setSea_X4_save : GoodIn wsX9_setSea wsX4_save := goodIn_r _ [14, 15, 16, 17, 18, 19, 20, 21, 22, 23, 13, 24, 25, 26, 27, 28, 29, 30, 31, 32, 33, 34, 35, 36, 37, 38, 39, 40, 41, 42, 43, 44, 45, 46, 47, 48, 49, 50, 51, 52, 53, 54, 55, 56, 57, 58, 59, 60, 6, 61, 62, 63, 64, 65, 66, 67, 68, 69, 70, 71, 72, 73, 74, 75, 107, 108, 109, 97, 98, 99, 100, 101, 102, 103, 104, 105, 106, 110, 111, 112, 113, 114, 115, 116, 117, 118, 119, 120, 121, 122] (by decide +kernel) (by decide +kernel)
set_option maxRecDepth 20000 in
theorem gX9_setSea_X4_save : GoodIn wsX9_setSea (wsV RX9 44 RX4 yX4_save wsX4_save) := goodIn_app (goodIn_of _ (by decide +kernel)) ggX9_setSea_X4_save
set_option maxRecDepth 20000 in
theorem ggX9_setSea_X5_takeSea : GoodIn wsX9_setSea wsX5_takeSea := goodIn_r _ [79, 34, 31, 32, 38, 80, 81, 82, 83, 29, 84, 33, 85, 86, 87, 88, 89, 90, 91, 97, 98, 99, 100, 101, 102, 103, 104, 105, 106, 110, 111, 112, 113] (by decide +kernel) (by decide +kernel)
set_option maxRecDepth 20000 in
theorem gX9_setSea_X5_takeSea : GoodIn wsX9_setSea (wsV RX9 80 RX5 yX5_takeSea wsX5_takeSea) := goodIn_app (goodIn_of _ (by decide +kernel)) ggX9_setSea_X5_takeSea
theorem dX9_setSea_0 : decode cX9_setSea 0 = .ok (.iload_n 1, 1) := by decide +kernel
theorem dX9_setSea_1 : decode cX9_setSea 1 = .ok (.sipush 9000, 3) := by decide +kernel
theorem dX9_setSea_4 : decode cX9_setSea 4 = .ok (.sipush 10800, 3) := by decide +kernel
theorem dX9_setSea_7 : decode cX9_setSea 7 = .ok (.invokestatic 40, 3) := by decide +kernel
theorem dX9_setSea_10 : decode cX9_setSea 10 = .ok (.aload_n 0, 1) := by decide +kernel
theorem dX9_setSea_11 : decode cX9_setSea 11 = .ok (.getfield 10, 3) := by decide +kernel
theorem dX9_setSea_14 : decode cX9_setSea 14 = .ok (.getfield 77, 3) := by decide +kernel
theorem dX9_setSea_17 : decode cX9_setSea 17 = .ok (.istore_n 2, 1) := by decide +kernel
theorem dX9_setSea_18 : decode cX9_setSea 18 = .ok (.aload_n 0, 1) := by decide +kernel
theorem dX9_setSea_19 : decode cX9_setSea 19 = .ok (.getfield 19, 3) := by decide +kernel
theorem dX9_setSea_22 : decode cX9_setSea 22 = .ok (.aload_n 0, 1) := by decide +kernel
theorem dX9_setSea_23 : decode cX9_setSea 23 = .ok (.getfield 10, 3) := by decide +kernel
theorem dX9_setSea_26 : decode cX9_setSea 26 = .ok (.invokevirtual 44, 3) := by decide +kernel
theorem dX9_setSea_29 : decode cX9_setSea 29 = .ok (.aload_n 0, 1) := by decide +kernel
theorem dX9_setSea_30 : decode cX9_setSea 30 = .ok (.getfield 10, 3) := by decide +kernel
theorem dX9_setSea_33 : decode cX9_setSea 33 = .ok (.iload_n 1, 1) := by decide +kernel
theorem dX9_setSea_34 : decode cX9_setSea 34 = .ok (.invokevirtual 80, 3) := by decide +kernel
theorem dX9_setSea_37 : decode cX9_setSea 37 = .ok (.iload_n 2, 1) := by decide +kernel
theorem dX9_setSea_38 : decode cX9_setSea 38 = .ok (.ireturn, 1) := by decide +kernel
set_option maxRecDepth 20000 in
theorem ggX9_calibrate_X9_refuseOutside : GoodIn wsX9_calibrate wsX9_refuseOutside := goodIn_ca (goodIn_r _ [7, 8, 9] (by decide +kernel) (by decide +kernel)) (goodIn_sub (fun _ h => List.mem_cons_of_mem _ (List.mem_append_right _ h)) (by decide +kernel))
set_option maxRecDepth 20000 in
theorem gX9_calibrate_X9_refuseOutside : GoodIn wsX9_calibrate (va_wsS RX9 40 yX9_refuseOutside wsX9_refuseOutside) := goodIn_app (goodIn_of _ (by decide +kernel)) ggX9_calibrate_X9_refuseOutside
set_option maxRecDepth 20000 in
theorem ggX9_calibrate_X4_save : GoodIn wsX9_calibrate wsX4_save := goodIn_r _ [14, 15, 16, 17, 18, 19, 20, 21, 22, 23, 13, 24, 25, 26, 27, 28, 29, 30, 31, 32, 33, 34, 35, 36, 37, 38, 39, 40, 41, 42, 43, 44, 45, 46, 47, 48, 49, 50, 51, 52, 53, 54, 55, 56, 57, 58, 59, 60, 6, 61, 62, 63, 64, 65, 66, 67, 68, 69, 70, 71, 72, 73, 74, 75, 108, 109, 110, 111, 112, 113, 114, 115, 116, 117, 118, 119, 120, 121, 122, 123, 124, 125, 126, 127, 128, 129, 130, 131, 132, 133] (by decide +kernel) (by decide +kernel)
set_option maxRecDepth 20000 in
theorem gX9_calibrate_X4_save : GoodIn wsX9_calibrate (wsV RX9 44 RX4 yX4_save wsX4_save) := goodIn_app (goodIn_of _ (by decide +kernel)) ggX9_calibrate_X4_save
set_option maxRecDepth 20000 in
theorem ggX9_calibrate_X5_correctTo : GoodIn wsX9_calibrate wsX5_correctTo := goodIn_r _ [79, 33, 36, 37, 80, 81, 82, 29, 83, 34, 84, 85, 86, 87, 88, 89, 90, 91, 92, 93, 94, 95, 96, 97, 98, 99, 100, 101, 31, 32, 38, 102, 111, 112, 113, 114, 115, 116, 117, 118, 119, 120, 121, 122, 123, 124] (by decide +kernel) (by decide +kernel)
set_option maxRecDepth 20000 in
theorem gX9_calibrate_X5_correctTo : GoodIn wsX9_calibrate (wsV RX9 85 RX5 yX5_correctTo wsX5_correctTo) := goodIn_app (goodIn_of _ (by decide +kernel)) ggX9_calibrate_X5_correctTo
theorem dX9_calibrate_0 : decode cX9_calibrate 0 = .ok (.iload_n 1, 1) := by decide +kernel
theorem dX9_calibrate_1 : decode cX9_calibrate 1 = .ok (.sipush (-5000), 3) := by decide +kernel
theorem dX9_calibrate_4 : decode cX9_calibrate 4 = .ok (.ldc 84, 2) := by decide +kernel
theorem dX9_calibrate_6 : decode cX9_calibrate 6 = .ok (.invokestatic 40, 3) := by decide +kernel
theorem dX9_calibrate_9 : decode cX9_calibrate 9 = .ok (.aload_n 0, 1) := by decide +kernel
theorem dX9_calibrate_10 : decode cX9_calibrate 10 = .ok (.getfield 19, 3) := by decide +kernel
theorem dX9_calibrate_13 : decode cX9_calibrate 13 = .ok (.aload_n 0, 1) := by decide +kernel
theorem dX9_calibrate_14 : decode cX9_calibrate 14 = .ok (.getfield 10, 3) := by decide +kernel
theorem dX9_calibrate_17 : decode cX9_calibrate 17 = .ok (.invokevirtual 44, 3) := by decide +kernel
theorem dX9_calibrate_20 : decode cX9_calibrate 20 = .ok (.aload_n 0, 1) := by decide +kernel
theorem dX9_calibrate_21 : decode cX9_calibrate 21 = .ok (.getfield 10, 3) := by decide +kernel
theorem dX9_calibrate_24 : decode cX9_calibrate 24 = .ok (.iload_n 1, 1) := by decide +kernel
theorem dX9_calibrate_25 : decode cX9_calibrate 25 = .ok (.invokevirtual 85, 3) := by decide +kernel
theorem dX9_calibrate_28 : decode cX9_calibrate 28 = .ok (.ireturn, 1) := by decide +kernel
theorem dX9_sea_0 : decode cX9_sea 0 = .ok (.aload_n 0, 1) := by decide +kernel
theorem dX9_sea_1 : decode cX9_sea 1 = .ok (.getfield 10, 3) := by decide +kernel
theorem dX9_sea_4 : decode cX9_sea 4 = .ok (.getfield 77, 3) := by decide +kernel
theorem dX9_sea_7 : decode cX9_sea 7 = .ok (.ireturn, 1) := by decide +kernel
theorem dX9_drift_0 : decode cX9_drift 0 = .ok (.aload_n 0, 1) := by decide +kernel
theorem dX9_drift_1 : decode cX9_drift 1 = .ok (.getfield 10, 3) := by decide +kernel
theorem dX9_drift_4 : decode cX9_drift 4 = .ok (.getfield 88, 3) := by decide +kernel
theorem dX9_drift_7 : decode cX9_drift 7 = .ok (.ireturn, 1) := by decide +kernel
theorem dX9_calibrations_0 : decode cX9_calibrations 0 = .ok (.aload_n 0, 1) := by decide +kernel
theorem dX9_calibrations_1 : decode cX9_calibrations 1 = .ok (.getfield 10, 3) := by decide +kernel
theorem dX9_calibrations_4 : decode cX9_calibrations 4 = .ok (.getfield 91, 3) := by decide +kernel
theorem dX9_calibrations_7 : decode cX9_calibrations 7 = .ok (.ireturn, 1) := by decide +kernel
set_option maxRecDepth 20000 in
theorem ggX9_setThreshold_X9_refuseOutside : GoodIn wsX9_setThreshold wsX9_refuseOutside := goodIn_ca (goodIn_r _ [8, 9, 10] (by decide +kernel) (by decide +kernel)) (goodIn_sub (fun _ h => List.mem_cons_of_mem _ (List.mem_append_right _ h)) (by decide +kernel))
set_option maxRecDepth 20000 in
theorem gX9_setThreshold_X9_refuseOutside : GoodIn wsX9_setThreshold (va_wsS RX9 40 yX9_refuseOutside wsX9_refuseOutside) := goodIn_app (goodIn_of _ (by decide +kernel)) ggX9_setThreshold_X9_refuseOutside
set_option maxRecDepth 20000 in
theorem ggX9_setThreshold_X4_save : GoodIn wsX9_setThreshold wsX4_save := goodIn_r _ [15, 16, 17, 18, 19, 20, 21, 22, 23, 24, 14, 25, 26, 27, 28, 29, 30, 31, 32, 33, 34, 35, 36, 37, 38, 39, 40, 41, 42, 43, 44, 45, 46, 47, 48, 49, 50, 51, 52, 53, 54, 55, 56, 57, 58, 59, 60, 61, 7, 62, 63, 64, 65, 66, 67, 68, 69, 70, 71, 72, 73, 74, 75, 76, 96, 97, 98, 82, 83, 84, 85, 86, 87, 88, 89, 90, 91, 92, 93, 94, 95, 99, 100, 101, 102, 103, 104, 105, 106, 107] (by decide +kernel) (by decide +kernel)
set_option maxRecDepth 20000 in
theorem gX9_setThreshold_X4_save : GoodIn wsX9_setThreshold (wsV RX9 44 RX4 yX4_save wsX4_save) := goodIn_app (goodIn_of _ (by decide +kernel)) ggX9_setThreshold_X4_save
theorem dX9_setThreshold_0 : decode cX9_setThreshold 0 = .ok (.iload_n 1, 1) := by decide +kernel
theorem dX9_setThreshold_1 : decode cX9_setThreshold 1 = .ok (.bipush 10, 2) := by decide +kernel
theorem dX9_setThreshold_3 : decode cX9_setThreshold 3 = .ok (.sipush 500, 3) := by decide +kernel
theorem dX9_setThreshold_6 : decode cX9_setThreshold 6 = .ok (.invokestatic 40, 3) := by decide +kernel
theorem dX9_setThreshold_9 : decode cX9_setThreshold 9 = .ok (.aload_n 0, 1) := by decide +kernel
theorem dX9_setThreshold_10 : decode cX9_setThreshold 10 = .ok (.getfield 10, 3) := by decide +kernel
theorem dX9_setThreshold_13 : decode cX9_setThreshold 13 = .ok (.getfield 94, 3) := by decide +kernel
theorem dX9_setThreshold_16 : decode cX9_setThreshold 16 = .ok (.getfield 98, 3) := by decide +kernel
theorem dX9_setThreshold_19 : decode cX9_setThreshold 19 = .ok (.istore_n 2, 1) := by decide +kernel
theorem dX9_setThreshold_20 : decode cX9_setThreshold 20 = .ok (.aload_n 0, 1) := by decide +kernel
theorem dX9_setThreshold_21 : decode cX9_setThreshold 21 = .ok (.getfield 19, 3) := by decide +kernel
theorem dX9_setThreshold_24 : decode cX9_setThreshold 24 = .ok (.aload_n 0, 1) := by decide +kernel
theorem dX9_setThreshold_25 : decode cX9_setThreshold 25 = .ok (.getfield 10, 3) := by decide +kernel
theorem dX9_setThreshold_28 : decode cX9_setThreshold 28 = .ok (.invokevirtual 44, 3) := by decide +kernel
theorem dX9_setThreshold_31 : decode cX9_setThreshold 31 = .ok (.aload_n 0, 1) := by decide +kernel
theorem dX9_setThreshold_32 : decode cX9_setThreshold 32 = .ok (.getfield 10, 3) := by decide +kernel
theorem dX9_setThreshold_35 : decode cX9_setThreshold 35 = .ok (.getfield 94, 3) := by decide +kernel
theorem dX9_setThreshold_38 : decode cX9_setThreshold 38 = .ok (.iload_n 1, 1) := by decide +kernel
theorem dX9_setThreshold_39 : decode cX9_setThreshold 39 = .ok (.putfield 98, 3) := by decide +kernel
theorem dX9_setThreshold_42 : decode cX9_setThreshold 42 = .ok (.iload_n 2, 1) := by decide +kernel
theorem dX9_setThreshold_43 : decode cX9_setThreshold 43 = .ok (.ireturn, 1) := by decide +kernel
theorem dX9_ascent_0 : decode cX9_ascent 0 = .ok (.aload_n 0, 1) := by decide +kernel
theorem dX9_ascent_1 : decode cX9_ascent 1 = .ok (.getfield 10, 3) := by decide +kernel
theorem dX9_ascent_4 : decode cX9_ascent 4 = .ok (.getfield 94, 3) := by decide +kernel
theorem dX9_ascent_7 : decode cX9_ascent 7 = .ok (.getfield 103, 3) := by decide +kernel
theorem dX9_ascent_10 : decode cX9_ascent 10 = .ok (.ireturn, 1) := by decide +kernel
theorem dX9_descent_0 : decode cX9_descent 0 = .ok (.aload_n 0, 1) := by decide +kernel
theorem dX9_descent_1 : decode cX9_descent 1 = .ok (.getfield 10, 3) := by decide +kernel
theorem dX9_descent_4 : decode cX9_descent 4 = .ok (.getfield 94, 3) := by decide +kernel
theorem dX9_descent_7 : decode cX9_descent 7 = .ok (.getfield 106, 3) := by decide +kernel
theorem dX9_descent_10 : decode cX9_descent 10 = .ok (.ireturn, 1) := by decide +kernel
theorem dX9_base_0 : decode cX9_base 0 = .ok (.aload_n 0, 1) := by decide +kernel
theorem dX9_base_1 : decode cX9_base 1 = .ok (.getfield 10, 3) := by decide +kernel
theorem dX9_base_4 : decode cX9_base 4 = .ok (.getfield 94, 3) := by decide +kernel
theorem dX9_base_7 : decode cX9_base 7 = .ok (.getfield 109, 3) := by decide +kernel
theorem dX9_base_10 : decode cX9_base 10 = .ok (.ireturn, 1) := by decide +kernel
set_option maxRecDepth 20000 in
theorem ggX9_setMark_X4_save : GoodIn wsX9_setMark wsX4_save := goodIn_r _ [9, 10, 11, 12, 13, 14, 15, 16, 17, 18, 8, 19, 20, 21, 22, 23, 24, 25, 26, 27, 28, 29, 30, 31, 32, 33, 34, 35, 36, 37, 38, 39, 40, 41, 42, 43, 44, 45, 46, 47, 48, 49, 50, 51, 52, 53, 54, 55, 56, 57, 58, 59, 60, 61, 62, 63, 64, 65, 66, 67, 68, 69, 70, 71, 113, 114, 115, 99, 100, 101, 102, 103, 104, 105, 106, 107, 108, 116, 117, 118, 119, 120, 121, 122, 123, 124, 109, 110, 111, 112] (by decide +kernel) (by decide +kernel)
set_option maxRecDepth 20000 in
theorem gX9_setMark_X4_save : GoodIn wsX9_setMark (wsV RX9 44 RX4 yX4_save wsX4_save) := goodIn_app (goodIn_of _ (by decide +kernel)) ggX9_setMark_X4_save
set_option maxRecDepth 20000 in
theorem ggX9_setMark_X5_addMark : GoodIn wsX9_setMark wsX5_addMark := goodIn_r _ [75, 35, 30, 33, 76, 77, 78, 79, 24, 80, 28, 29, 81, 82, 83, 84, 85, 86, 87, 88, 89, 90, 66, 91, 71, 68, 69, 70, 92, 56, 93, 99, 100, 101, 102, 103, 104, 105, 106, 107, 108, 116, 117, 118, 119, 109, 110, 111, 112] (by decide +kernel) (by decide +kernel)
set_option maxRecDepth 20000 in
theorem gX9_setMark_X5_addMark : GoodIn wsX9_setMark (wsV RX9 112 RX5 yX5_addMark wsX5_addMark) := goodIn_app (goodIn_of _ (by decide +kernel)) ggX9_setMark_X5_addMark
theorem dX9_setMark_0 : decode cX9_setMark 0 = .ok (.aload_n 0, 1) := by decide +kernel
theorem dX9_setMark_1 : decode cX9_setMark 1 = .ok (.getfield 19, 3) := by decide +kernel
theorem dX9_setMark_4 : decode cX9_setMark 4 = .ok (.aload_n 0, 1) := by decide +kernel
theorem dX9_setMark_5 : decode cX9_setMark 5 = .ok (.getfield 10, 3) := by decide +kernel
theorem dX9_setMark_8 : decode cX9_setMark 8 = .ok (.invokevirtual 44, 3) := by decide +kernel
theorem dX9_setMark_11 : decode cX9_setMark 11 = .ok (.aload_n 0, 1) := by decide +kernel
theorem dX9_setMark_12 : decode cX9_setMark 12 = .ok (.getfield 10, 3) := by decide +kernel
theorem dX9_setMark_15 : decode cX9_setMark 15 = .ok (.invokevirtual 112, 3) := by decide +kernel
theorem dX9_setMark_18 : decode cX9_setMark 18 = .ok (.aload_n 0, 1) := by decide +kernel
theorem dX9_setMark_19 : decode cX9_setMark 19 = .ok (.getfield 10, 3) := by decide +kernel
theorem dX9_setMark_22 : decode cX9_setMark 22 = .ok (.getfield 115, 3) := by decide +kernel
theorem dX9_setMark_25 : decode cX9_setMark 25 = .ok (.getfield 119, 3) := by decide +kernel
theorem dX9_setMark_28 : decode cX9_setMark 28 = .ok (.ireturn, 1) := by decide +kernel
theorem dX9_marks_0 : decode cX9_marks 0 = .ok (.aload_n 0, 1) := by decide +kernel
theorem dX9_marks_1 : decode cX9_marks 1 = .ok (.getfield 10, 3) := by decide +kernel
theorem dX9_marks_4 : decode cX9_marks 4 = .ok (.getfield 115, 3) := by decide +kernel
theorem dX9_marks_7 : decode cX9_marks 7 = .ok (.getfield 119, 3) := by decide +kernel
theorem dX9_marks_10 : decode cX9_marks 10 = .ok (.ireturn, 1) := by decide +kernel
set_option maxRecDepth 20000 in
theorem ggX9_markTime_X9_refuseNoMark : GoodIn wsX9_markTime wsX9_refuseNoMark := goodIn_ca (goodIn_r _ [7, 8, 9, 1, 2, 10, 19, 20, 21, 22, 23, 24, 25, 26, 27, 28, 29, 30, 31, 32, 33, 34, 35, 36, 37] (by decide +kernel) (by decide +kernel)) (goodIn_sub (fun _ h => List.mem_cons_of_mem _ (List.mem_append_right _ h)) (by decide +kernel))
set_option maxRecDepth 20000 in
theorem gX9_markTime_X9_refuseNoMark : GoodIn wsX9_markTime (wsV RX9 124 RX9 yX9_refuseNoMark wsX9_refuseNoMark) := goodIn_app (goodIn_of _ (by decide +kernel)) ggX9_markTime_X9_refuseNoMark
set_option maxRecDepth 20000 in
theorem ggX9_markTime_X2_timeOf : GoodIn wsX9_markTime wsX2_timeOf := goodIn_r _ [15, 16, 17, 6, 18, 34, 35, 36, 37] (by decide +kernel) (by decide +kernel)
set_option maxRecDepth 20000 in
theorem gX9_markTime_X2_timeOf : GoodIn wsX9_markTime (wsV RX9 127 RX2 yX2_timeOf wsX2_timeOf) := goodIn_app (goodIn_of _ (by decide +kernel)) ggX9_markTime_X2_timeOf
theorem dX9_markTime_0 : decode cX9_markTime 0 = .ok (.aload_n 0, 1) := by decide +kernel
theorem dX9_markTime_1 : decode cX9_markTime 1 = .ok (.iload_n 1, 1) := by decide +kernel
theorem dX9_markTime_2 : decode cX9_markTime 2 = .ok (.invokevirtual 124, 3) := by decide +kernel
theorem dX9_markTime_5 : decode cX9_markTime 5 = .ok (.aload_n 0, 1) := by decide +kernel
theorem dX9_markTime_6 : decode cX9_markTime 6 = .ok (.getfield 10, 3) := by decide +kernel
theorem dX9_markTime_9 : decode cX9_markTime 9 = .ok (.getfield 115, 3) := by decide +kernel
theorem dX9_markTime_12 : decode cX9_markTime 12 = .ok (.iload_n 1, 1) := by decide +kernel
theorem dX9_markTime_13 : decode cX9_markTime 13 = .ok (.invokevirtual 127, 3) := by decide +kernel
theorem dX9_markTime_16 : decode cX9_markTime 16 = .ok (.ireturn, 1) := by decide +kernel
set_option maxRecDepth 20000 in
theorem ggX9_markAltitude_X9_refuseNoMark : GoodIn wsX9_markAltitude wsX9_refuseNoMark := goodIn_ca (goodIn_r _ [7, 8, 9, 1, 2, 10, 19, 20, 21, 22, 23, 24, 25, 26, 27, 28, 29, 30, 31, 32, 33, 34, 35, 36, 37] (by decide +kernel) (by decide +kernel)) (goodIn_sub (fun _ h => List.mem_cons_of_mem _ (List.mem_append_right _ h)) (by decide +kernel))
set_option maxRecDepth 20000 in
theorem gX9_markAltitude_X9_refuseNoMark : GoodIn wsX9_markAltitude (wsV RX9 124 RX9 yX9_refuseNoMark wsX9_refuseNoMark) := goodIn_app (goodIn_of _ (by decide +kernel)) ggX9_markAltitude_X9_refuseNoMark
set_option maxRecDepth 20000 in
theorem ggX9_markAltitude_X2_heightOf : GoodIn wsX9_markAltitude wsX2_heightOf := goodIn_r _ [15, 16, 17, 6, 18, 34, 35, 36, 37] (by decide +kernel) (by decide +kernel)
set_option maxRecDepth 20000 in
theorem gX9_markAltitude_X2_heightOf : GoodIn wsX9_markAltitude (wsV RX9 130 RX2 yX2_heightOf wsX2_heightOf) := goodIn_app (goodIn_of _ (by decide +kernel)) ggX9_markAltitude_X2_heightOf
theorem dX9_markAltitude_0 : decode cX9_markAltitude 0 = .ok (.aload_n 0, 1) := by decide +kernel
theorem dX9_markAltitude_1 : decode cX9_markAltitude 1 = .ok (.iload_n 1, 1) := by decide +kernel
theorem dX9_markAltitude_2 : decode cX9_markAltitude 2 = .ok (.invokevirtual 124, 3) := by decide +kernel
theorem dX9_markAltitude_5 : decode cX9_markAltitude 5 = .ok (.aload_n 0, 1) := by decide +kernel
theorem dX9_markAltitude_6 : decode cX9_markAltitude 6 = .ok (.getfield 10, 3) := by decide +kernel
theorem dX9_markAltitude_9 : decode cX9_markAltitude 9 = .ok (.getfield 115, 3) := by decide +kernel
theorem dX9_markAltitude_12 : decode cX9_markAltitude 12 = .ok (.iload_n 1, 1) := by decide +kernel
theorem dX9_markAltitude_13 : decode cX9_markAltitude 13 = .ok (.invokevirtual 130, 3) := by decide +kernel
theorem dX9_markAltitude_16 : decode cX9_markAltitude 16 = .ok (.ireturn, 1) := by decide +kernel
set_option maxRecDepth 20000 in
theorem ggX9_climbed_X9_refuseNoMark : GoodIn wsX9_climbed wsX9_refuseNoMark := goodIn_ca (goodIn_r _ [7, 8, 9, 1, 2, 10, 19, 20, 21, 22, 23, 24, 25, 26, 27, 28, 29, 30, 31, 32, 33, 34, 35, 36, 37] (by decide +kernel) (by decide +kernel)) (goodIn_sub (fun _ h => List.mem_cons_of_mem _ (List.mem_append_right _ h)) (by decide +kernel))
set_option maxRecDepth 20000 in
theorem gX9_climbed_X9_refuseNoMark : GoodIn wsX9_climbed (wsV RX9 124 RX9 yX9_refuseNoMark wsX9_refuseNoMark) := goodIn_app (goodIn_of _ (by decide +kernel)) ggX9_climbed_X9_refuseNoMark
set_option maxRecDepth 20000 in
theorem ggX9_climbed_X2_ascentOf : GoodIn wsX9_climbed wsX2_ascentOf := goodIn_r _ [15, 16, 17, 6, 18, 34, 35, 36, 37] (by decide +kernel) (by decide +kernel)
set_option maxRecDepth 20000 in
theorem gX9_climbed_X2_ascentOf : GoodIn wsX9_climbed (wsV RX9 133 RX2 yX2_ascentOf wsX2_ascentOf) := goodIn_app (goodIn_of _ (by decide +kernel)) ggX9_climbed_X2_ascentOf
theorem dX9_climbed_0 : decode cX9_climbed 0 = .ok (.aload_n 0, 1) := by decide +kernel
theorem dX9_climbed_1 : decode cX9_climbed 1 = .ok (.iload_n 1, 1) := by decide +kernel
theorem dX9_climbed_2 : decode cX9_climbed 2 = .ok (.invokevirtual 124, 3) := by decide +kernel
theorem dX9_climbed_5 : decode cX9_climbed 5 = .ok (.aload_n 0, 1) := by decide +kernel
theorem dX9_climbed_6 : decode cX9_climbed 6 = .ok (.iload_n 2, 1) := by decide +kernel
theorem dX9_climbed_7 : decode cX9_climbed 7 = .ok (.invokevirtual 124, 3) := by decide +kernel
theorem dX9_climbed_10 : decode cX9_climbed 10 = .ok (.aload_n 0, 1) := by decide +kernel
theorem dX9_climbed_11 : decode cX9_climbed 11 = .ok (.getfield 10, 3) := by decide +kernel
theorem dX9_climbed_14 : decode cX9_climbed 14 = .ok (.getfield 115, 3) := by decide +kernel
theorem dX9_climbed_17 : decode cX9_climbed 17 = .ok (.iload_n 2, 1) := by decide +kernel
theorem dX9_climbed_18 : decode cX9_climbed 18 = .ok (.invokevirtual 133, 3) := by decide +kernel
theorem dX9_climbed_21 : decode cX9_climbed 21 = .ok (.aload_n 0, 1) := by decide +kernel
theorem dX9_climbed_22 : decode cX9_climbed 22 = .ok (.getfield 10, 3) := by decide +kernel
theorem dX9_climbed_25 : decode cX9_climbed 25 = .ok (.getfield 115, 3) := by decide +kernel
theorem dX9_climbed_28 : decode cX9_climbed 28 = .ok (.iload_n 1, 1) := by decide +kernel
theorem dX9_climbed_29 : decode cX9_climbed 29 = .ok (.invokevirtual 133, 3) := by decide +kernel
theorem dX9_climbed_32 : decode cX9_climbed 32 = .ok (.isub, 1) := by decide +kernel
theorem dX9_climbed_33 : decode cX9_climbed 33 = .ok (.ireturn, 1) := by decide +kernel
set_option maxRecDepth 20000 in
theorem ggX9_setAlarm_X9_refuseOutside : GoodIn wsX9_setAlarm wsX9_refuseOutside := goodIn_ca (goodIn_r _ [8, 9, 10] (by decide +kernel) (by decide +kernel)) (goodIn_sub (fun _ h => List.mem_cons_of_mem _ (List.mem_append_right _ h)) (by decide +kernel))
set_option maxRecDepth 20000 in
theorem gX9_setAlarm_X9_refuseOutside : GoodIn wsX9_setAlarm (va_wsS RX9 40 yX9_refuseOutside wsX9_refuseOutside) := goodIn_app (goodIn_of _ (by decide +kernel)) ggX9_setAlarm_X9_refuseOutside
set_option maxRecDepth 20000 in
theorem ggX9_setAlarm_X4_save : GoodIn wsX9_setAlarm wsX4_save := goodIn_r _ [15, 16, 17, 18, 19, 20, 21, 22, 23, 24, 14, 25, 26, 27, 28, 29, 30, 31, 32, 33, 34, 35, 36, 37, 38, 39, 40, 41, 42, 43, 44, 45, 46, 47, 48, 49, 50, 51, 52, 53, 54, 55, 56, 57, 58, 59, 60, 61, 7, 62, 63, 64, 65, 66, 67, 68, 69, 70, 71, 72, 73, 74, 75, 76, 97, 98, 99, 82, 83, 84, 85, 86, 87, 88, 89, 90, 91, 100, 101, 102, 103, 92, 93, 94, 95, 96, 104, 105, 106, 107] (by decide +kernel) (by decide +kernel)
set_option maxRecDepth 20000 in
theorem gX9_setAlarm_X4_save : GoodIn wsX9_setAlarm (wsV RX9 44 RX4 yX4_save wsX4_save) := goodIn_app (goodIn_of _ (by decide +kernel)) ggX9_setAlarm_X4_save
theorem dX9_setAlarm_0 : decode cX9_setAlarm 0 = .ok (.iload_n 1, 1) := by decide +kernel
theorem dX9_setAlarm_1 : decode cX9_setAlarm 1 = .ok (.bipush 10, 2) := by decide +kernel
theorem dX9_setAlarm_3 : decode cX9_setAlarm 3 = .ok (.sipush 200, 3) := by decide +kernel
theorem dX9_setAlarm_6 : decode cX9_setAlarm 6 = .ok (.invokestatic 40, 3) := by decide +kernel
theorem dX9_setAlarm_9 : decode cX9_setAlarm 9 = .ok (.aload_n 0, 1) := by decide +kernel
theorem dX9_setAlarm_10 : decode cX9_setAlarm 10 = .ok (.getfield 10, 3) := by decide +kernel
theorem dX9_setAlarm_13 : decode cX9_setAlarm 13 = .ok (.getfield 136, 3) := by decide +kernel
theorem dX9_setAlarm_16 : decode cX9_setAlarm 16 = .ok (.getfield 140, 3) := by decide +kernel
theorem dX9_setAlarm_19 : decode cX9_setAlarm 19 = .ok (.istore_n 2, 1) := by decide +kernel
theorem dX9_setAlarm_20 : decode cX9_setAlarm 20 = .ok (.aload_n 0, 1) := by decide +kernel
theorem dX9_setAlarm_21 : decode cX9_setAlarm 21 = .ok (.getfield 19, 3) := by decide +kernel
theorem dX9_setAlarm_24 : decode cX9_setAlarm 24 = .ok (.aload_n 0, 1) := by decide +kernel
theorem dX9_setAlarm_25 : decode cX9_setAlarm 25 = .ok (.getfield 10, 3) := by decide +kernel
theorem dX9_setAlarm_28 : decode cX9_setAlarm 28 = .ok (.invokevirtual 44, 3) := by decide +kernel
theorem dX9_setAlarm_31 : decode cX9_setAlarm 31 = .ok (.aload_n 0, 1) := by decide +kernel
theorem dX9_setAlarm_32 : decode cX9_setAlarm 32 = .ok (.getfield 10, 3) := by decide +kernel
theorem dX9_setAlarm_35 : decode cX9_setAlarm 35 = .ok (.getfield 136, 3) := by decide +kernel
theorem dX9_setAlarm_38 : decode cX9_setAlarm 38 = .ok (.iload_n 1, 1) := by decide +kernel
theorem dX9_setAlarm_39 : decode cX9_setAlarm 39 = .ok (.putfield 140, 3) := by decide +kernel
theorem dX9_setAlarm_42 : decode cX9_setAlarm 42 = .ok (.iload_n 2, 1) := by decide +kernel
theorem dX9_setAlarm_43 : decode cX9_setAlarm 43 = .ok (.ireturn, 1) := by decide +kernel
theorem dX9_logged_0 : decode cX9_logged 0 = .ok (.aload_n 0, 1) := by decide +kernel
theorem dX9_logged_1 : decode cX9_logged 1 = .ok (.getfield 10, 3) := by decide +kernel
theorem dX9_logged_4 : decode cX9_logged 4 = .ok (.getfield 136, 3) := by decide +kernel
theorem dX9_logged_7 : decode cX9_logged 7 = .ok (.getfield 145, 3) := by decide +kernel
theorem dX9_logged_10 : decode cX9_logged 10 = .ok (.ireturn, 1) := by decide +kernel
set_option maxRecDepth 20000 in
theorem ggX9_fall_X8_presentFall : GoodIn wsX9_fall wsX8_presentFall := goodIn_r _ [7, 8, 9, 10, 11, 12, 6, 13, 14, 15, 16, 17, 18, 19, 20, 36, 37, 38, 39, 40] (by decide +kernel) (by decide +kernel)
set_option maxRecDepth 20000 in
theorem gX9_fall_X8_presentFall : GoodIn wsX9_fall (wsV RX9 146 RX8 yX8_presentFall wsX8_presentFall) := goodIn_app (goodIn_of _ (by decide +kernel)) ggX9_fall_X8_presentFall
theorem dX9_fall_0 : decode cX9_fall 0 = .ok (.aload_n 0, 1) := by decide +kernel
theorem dX9_fall_1 : decode cX9_fall 1 = .ok (.getfield 10, 3) := by decide +kernel
theorem dX9_fall_4 : decode cX9_fall 4 = .ok (.getfield 136, 3) := by decide +kernel
theorem dX9_fall_7 : decode cX9_fall 7 = .ok (.invokevirtual 146, 3) := by decide +kernel
theorem dX9_fall_10 : decode cX9_fall 10 = .ok (.ireturn, 1) := by decide +kernel
set_option maxRecDepth 20000 in
theorem ggX9_isAlarm_X8_hasAlarm : GoodIn wsX9_isAlarm wsX8_hasAlarm := goodIn_r _ [7, 8, 9, 10, 11, 6, 12, 13, 14, 15, 16, 17, 18, 19, 20, 21, 22, 23, 24, 25, 41, 42, 43, 44, 45] (by decide +kernel) (by decide +kernel)
set_option maxRecDepth 20000 in
theorem gX9_isAlarm_X8_hasAlarm : GoodIn wsX9_isAlarm (wsV RX9 149 RX8 yX8_hasAlarm wsX8_hasAlarm) := goodIn_app (goodIn_of _ (by decide +kernel)) ggX9_isAlarm_X8_hasAlarm
theorem dX9_isAlarm_0 : decode cX9_isAlarm 0 = .ok (.aload_n 0, 1) := by decide +kernel
theorem dX9_isAlarm_1 : decode cX9_isAlarm 1 = .ok (.getfield 10, 3) := by decide +kernel
theorem dX9_isAlarm_4 : decode cX9_isAlarm 4 = .ok (.getfield 136, 3) := by decide +kernel
theorem dX9_isAlarm_7 : decode cX9_isAlarm 7 = .ok (.invokevirtual 149, 3) := by decide +kernel
theorem dX9_isAlarm_10 : decode cX9_isAlarm 10 = .ok (.ireturn, 1) := by decide +kernel
theorem dX9_alarms_0 : decode cX9_alarms 0 = .ok (.aload_n 0, 1) := by decide +kernel
theorem dX9_alarms_1 : decode cX9_alarms 1 = .ok (.getfield 10, 3) := by decide +kernel
theorem dX9_alarms_4 : decode cX9_alarms 4 = .ok (.getfield 136, 3) := by decide +kernel
theorem dX9_alarms_7 : decode cX9_alarms 7 = .ok (.getfield 153, 3) := by decide +kernel
theorem dX9_alarms_10 : decode cX9_alarms 10 = .ok (.ireturn, 1) := by decide +kernel
set_option maxRecDepth 20000 in
theorem ggX9_altitudeAfter_X9_refuseOutside : GoodIn wsX9_altitudeAfter wsX9_refuseOutside := goodIn_ca (goodIn_r _ [5, 6, 7] (by decide +kernel) (by decide +kernel)) (goodIn_sub (fun _ h => List.mem_cons_of_mem _ (List.mem_append_right _ h)) (by decide +kernel))
set_option maxRecDepth 20000 in
theorem gX9_altitudeAfter_X9_refuseOutside : GoodIn wsX9_altitudeAfter (va_wsS RX9 40 yX9_refuseOutside wsX9_refuseOutside) := goodIn_app (goodIn_of _ (by decide +kernel)) ggX9_altitudeAfter_X9_refuseOutside
set_option maxRecDepth 20000 in
theorem ggX9_altitudeAfter_X5_heightAfterTripTo : GoodIn wsX9_altitudeAfter wsX5_heightAfterTripTo := goodIn_r _ [12, 13, 14, 15, 16, 17, 18, 19, 20, 21, 22, 23, 24, 25, 26, 27, 28, 29, 35, 36, 37, 38, 39, 40, 41, 42, 43, 44] (by decide +kernel) (by decide +kernel)
set_option maxRecDepth 20000 in
theorem gX9_altitudeAfter_X5_heightAfterTripTo : GoodIn wsX9_altitudeAfter (wsV RX9 156 RX5 yX5_heightAfterTripTo wsX5_heightAfterTripTo) := goodIn_app (goodIn_of _ (by decide +kernel)) ggX9_altitudeAfter_X5_heightAfterTripTo
theorem dX9_altitudeAfter_0 : decode cX9_altitudeAfter 0 = .ok (.iload_n 1, 1) := by decide +kernel
theorem dX9_altitudeAfter_1 : decode cX9_altitudeAfter 1 = .ok (.iconst 1, 1) := by decide +kernel
theorem dX9_altitudeAfter_2 : decode cX9_altitudeAfter 2 = .ok (.bipush 120, 2) := by decide +kernel
theorem dX9_altitudeAfter_4 : decode cX9_altitudeAfter 4 = .ok (.invokestatic 40, 3) := by decide +kernel
theorem dX9_altitudeAfter_7 : decode cX9_altitudeAfter 7 = .ok (.iload_n 2, 1) := by decide +kernel
theorem dX9_altitudeAfter_8 : decode cX9_altitudeAfter 8 = .ok (.sipush 5000, 3) := by decide +kernel
theorem dX9_altitudeAfter_11 : decode cX9_altitudeAfter 11 = .ok (.sipush 11000, 3) := by decide +kernel
theorem dX9_altitudeAfter_14 : decode cX9_altitudeAfter 14 = .ok (.invokestatic 40, 3) := by decide +kernel
theorem dX9_altitudeAfter_17 : decode cX9_altitudeAfter 17 = .ok (.aload_n 0, 1) := by decide +kernel
theorem dX9_altitudeAfter_18 : decode cX9_altitudeAfter 18 = .ok (.getfield 10, 3) := by decide +kernel
theorem dX9_altitudeAfter_21 : decode cX9_altitudeAfter 21 = .ok (.iload_n 2, 1) := by decide +kernel
theorem dX9_altitudeAfter_22 : decode cX9_altitudeAfter 22 = .ok (.invokevirtual 156, 3) := by decide +kernel
theorem dX9_altitudeAfter_25 : decode cX9_altitudeAfter 25 = .ok (.ireturn, 1) := by decide +kernel
set_option maxRecDepth 20000 in
theorem ggX9_ascentIn_X9_refuseOutside : GoodIn wsX9_ascentIn wsX9_refuseOutside := goodIn_ca (goodIn_r _ [5, 6, 7] (by decide +kernel) (by decide +kernel)) (goodIn_sub (fun _ h => List.mem_cons_of_mem _ (List.mem_append_right _ h)) (by decide +kernel))
set_option maxRecDepth 20000 in
theorem gX9_ascentIn_X9_refuseOutside : GoodIn wsX9_ascentIn (va_wsS RX9 40 yX9_refuseOutside wsX9_refuseOutside) := goodIn_app (goodIn_of _ (by decide +kernel)) ggX9_ascentIn_X9_refuseOutside
set_option maxRecDepth 20000 in
theorem ggX9_ascentIn_X5_ascentOfTrip : GoodIn wsX9_ascentIn wsX5_ascentOfTrip := goodIn_r _ [12, 13, 14, 15, 16, 17, 18, 19, 20, 21, 22, 23, 24, 25, 26, 27, 28, 29, 30, 31, 32, 33, 34, 35, 36, 37, 38, 39, 40, 41, 42, 43, 44, 45, 46, 47, 53, 54, 55, 56, 57, 58, 59, 60, 61, 62, 63, 64, 65, 66] (by decide +kernel) (by decide +kernel)
set_option maxRecDepth 20000 in
theorem gX9_ascentIn_X5_ascentOfTrip : GoodIn wsX9_ascentIn (wsV RX9 159 RX5 yX5_ascentOfTrip wsX5_ascentOfTrip) := goodIn_app (goodIn_of _ (by decide +kernel)) ggX9_ascentIn_X5_ascentOfTrip
theorem dX9_ascentIn_0 : decode cX9_ascentIn 0 = .ok (.iload_n 1, 1) := by decide +kernel
theorem dX9_ascentIn_1 : decode cX9_ascentIn 1 = .ok (.iconst 1, 1) := by decide +kernel
theorem dX9_ascentIn_2 : decode cX9_ascentIn 2 = .ok (.bipush 120, 2) := by decide +kernel
theorem dX9_ascentIn_4 : decode cX9_ascentIn 4 = .ok (.invokestatic 40, 3) := by decide +kernel
theorem dX9_ascentIn_7 : decode cX9_ascentIn 7 = .ok (.iload_n 2, 1) := by decide +kernel
theorem dX9_ascentIn_8 : decode cX9_ascentIn 8 = .ok (.sipush 5000, 3) := by decide +kernel
theorem dX9_ascentIn_11 : decode cX9_ascentIn 11 = .ok (.sipush 11000, 3) := by decide +kernel
theorem dX9_ascentIn_14 : decode cX9_ascentIn 14 = .ok (.invokestatic 40, 3) := by decide +kernel
theorem dX9_ascentIn_17 : decode cX9_ascentIn 17 = .ok (.aload_n 0, 1) := by decide +kernel
theorem dX9_ascentIn_18 : decode cX9_ascentIn 18 = .ok (.getfield 10, 3) := by decide +kernel
theorem dX9_ascentIn_21 : decode cX9_ascentIn 21 = .ok (.iload_n 1, 1) := by decide +kernel
theorem dX9_ascentIn_22 : decode cX9_ascentIn 22 = .ok (.iload_n 2, 1) := by decide +kernel
theorem dX9_ascentIn_23 : decode cX9_ascentIn 23 = .ok (.invokevirtual 159, 3) := by decide +kernel
theorem dX9_ascentIn_26 : decode cX9_ascentIn 26 = .ok (.ireturn, 1) := by decide +kernel
set_option maxRecDepth 20000 in
theorem ggX9_pressureAt_X9_refuseOutside : GoodIn wsX9_pressureAt wsX9_refuseOutside := goodIn_ca (goodIn_r _ [6, 7, 8] (by decide +kernel) (by decide +kernel)) (goodIn_sub (fun _ h => List.mem_cons_of_mem _ (List.mem_append_right _ h)) (by decide +kernel))
set_option maxRecDepth 20000 in
theorem gX9_pressureAt_X9_refuseOutside : GoodIn wsX9_pressureAt (va_wsS RX9 40 yX9_refuseOutside wsX9_refuseOutside) := goodIn_app (goodIn_of _ (by decide +kernel)) ggX9_pressureAt_X9_refuseOutside
set_option maxRecDepth 20000 in
theorem ggX9_pressureAt_X5_pressureAtHeight : GoodIn wsX9_pressureAt wsX5_pressureAtHeight := goodIn_r _ [13, 14, 15, 16, 17, 18, 19, 20, 21, 22, 28, 29, 30, 31, 32, 33, 34, 35, 36, 37] (by decide +kernel) (by decide +kernel)
set_option maxRecDepth 20000 in
theorem gX9_pressureAt_X5_pressureAtHeight : GoodIn wsX9_pressureAt (wsV RX9 163 RX5 yX5_pressureAtHeight wsX5_pressureAtHeight) := goodIn_app (goodIn_of _ (by decide +kernel)) ggX9_pressureAt_X5_pressureAtHeight
theorem dX9_pressureAt_0 : decode cX9_pressureAt 0 = .ok (.iload_n 1, 1) := by decide +kernel
theorem dX9_pressureAt_1 : decode cX9_pressureAt 1 = .ok (.sipush (-5000), 3) := by decide +kernel
theorem dX9_pressureAt_4 : decode cX9_pressureAt 4 = .ok (.ldc 84, 2) := by decide +kernel
theorem dX9_pressureAt_6 : decode cX9_pressureAt 6 = .ok (.invokestatic 40, 3) := by decide +kernel
theorem dX9_pressureAt_9 : decode cX9_pressureAt 9 = .ok (.aload_n 0, 1) := by decide +kernel
theorem dX9_pressureAt_10 : decode cX9_pressureAt 10 = .ok (.getfield 10, 3) := by decide +kernel
theorem dX9_pressureAt_13 : decode cX9_pressureAt 13 = .ok (.iload_n 1, 1) := by decide +kernel
theorem dX9_pressureAt_14 : decode cX9_pressureAt 14 = .ok (.invokevirtual 163, 3) := by decide +kernel
theorem dX9_pressureAt_17 : decode cX9_pressureAt 17 = .ok (.ireturn, 1) := by decide +kernel
set_option maxRecDepth 20000 in
theorem ggX9_minutesToAlarm_X9_refuseOutside : GoodIn wsX9_minutesToAlarm wsX9_refuseOutside := goodIn_ca (goodIn_r _ [5, 6, 7] (by decide +kernel) (by decide +kernel)) (goodIn_sub (fun _ h => List.mem_cons_of_mem _ (List.mem_append_right _ h)) (by decide +kernel))
set_option maxRecDepth 20000 in
theorem gX9_minutesToAlarm_X9_refuseOutside : GoodIn wsX9_minutesToAlarm (va_wsS RX9 40 yX9_refuseOutside wsX9_refuseOutside) := goodIn_app (goodIn_of _ (by decide +kernel)) ggX9_minutesToAlarm_X9_refuseOutside
set_option maxRecDepth 20000 in
theorem ggX9_minutesToAlarm_X5_minutesUntilAlarm : GoodIn wsX9_minutesToAlarm wsX5_minutesUntilAlarm := goodIn_r _ [12, 13, 14, 15, 16, 17, 18, 19, 20, 21, 22, 23, 24, 25, 26, 27, 28, 29, 30, 31, 32, 33, 34, 35, 36, 4, 37, 38, 39, 40, 41, 47, 48, 49, 50, 51, 52, 53, 54, 55, 56, 57, 58, 59, 60, 61] (by decide +kernel) (by decide +kernel)
set_option maxRecDepth 20000 in
theorem gX9_minutesToAlarm_X5_minutesUntilAlarm : GoodIn wsX9_minutesToAlarm (wsV RX9 166 RX5 yX5_minutesUntilAlarm wsX5_minutesUntilAlarm) := goodIn_app (goodIn_of _ (by decide +kernel)) ggX9_minutesToAlarm_X5_minutesUntilAlarm
theorem dX9_minutesToAlarm_0 : decode cX9_minutesToAlarm 0 = .ok (.iload_n 1, 1) := by decide +kernel
theorem dX9_minutesToAlarm_1 : decode cX9_minutesToAlarm 1 = .ok (.iconst 1, 1) := by decide +kernel
theorem dX9_minutesToAlarm_2 : decode cX9_minutesToAlarm 2 = .ok (.bipush 20, 2) := by decide +kernel
theorem dX9_minutesToAlarm_4 : decode cX9_minutesToAlarm 4 = .ok (.invokestatic 40, 3) := by decide +kernel
theorem dX9_minutesToAlarm_7 : decode cX9_minutesToAlarm 7 = .ok (.aload_n 0, 1) := by decide +kernel
theorem dX9_minutesToAlarm_8 : decode cX9_minutesToAlarm 8 = .ok (.getfield 10, 3) := by decide +kernel
theorem dX9_minutesToAlarm_11 : decode cX9_minutesToAlarm 11 = .ok (.iload_n 1, 1) := by decide +kernel
theorem dX9_minutesToAlarm_12 : decode cX9_minutesToAlarm 12 = .ok (.invokevirtual 166, 3) := by decide +kernel
theorem dX9_minutesToAlarm_15 : decode cX9_minutesToAlarm 15 = .ok (.ireturn, 1) := by decide +kernel
theorem dX9_climbShare_0 : decode cX9_climbShare 0 = .ok (.aload_n 0, 1) := by decide +kernel
theorem dX9_climbShare_1 : decode cX9_climbShare 1 = .ok (.getfield 10, 3) := by decide +kernel
theorem dX9_climbShare_4 : decode cX9_climbShare 4 = .ok (.getfield 94, 3) := by decide +kernel
theorem dX9_climbShare_7 : decode cX9_climbShare 7 = .ok (.getfield 103, 3) := by decide +kernel
theorem dX9_climbShare_10 : decode cX9_climbShare 10 = .ok (.aload_n 0, 1) := by decide +kernel
theorem dX9_climbShare_11 : decode cX9_climbShare 11 = .ok (.getfield 10, 3) := by decide +kernel
theorem dX9_climbShare_14 : decode cX9_climbShare 14 = .ok (.getfield 94, 3) := by decide +kernel
theorem dX9_climbShare_17 : decode cX9_climbShare 17 = .ok (.getfield 106, 3) := by decide +kernel
theorem dX9_climbShare_20 : decode cX9_climbShare 20 = .ok (.iadd, 1) := by decide +kernel
theorem dX9_climbShare_21 : decode cX9_climbShare 21 = .ok (.istore_n 1, 1) := by decide +kernel
theorem dX9_climbShare_22 : decode cX9_climbShare 22 = .ok (.iload_n 1, 1) := by decide +kernel
theorem dX9_climbShare_23 : decode cX9_climbShare 23 = .ok (.ifCond .ne 7, 3) := by decide +kernel
theorem dX9_climbShare_26 : decode cX9_climbShare 26 = .ok (.ldc2_w 169, 3) := by decide +kernel
theorem dX9_climbShare_29 : decode cX9_climbShare 29 = .ok (.dreturn, 1) := by decide +kernel
theorem dX9_climbShare_30 : decode cX9_climbShare 30 = .ok (.aload_n 0, 1) := by decide +kernel
theorem dX9_climbShare_31 : decode cX9_climbShare 31 = .ok (.getfield 10, 3) := by decide +kernel
theorem dX9_climbShare_34 : decode cX9_climbShare 34 = .ok (.getfield 94, 3) := by decide +kernel
theorem dX9_climbShare_37 : decode cX9_climbShare 37 = .ok (.getfield 103, 3) := by decide +kernel
theorem dX9_climbShare_40 : decode cX9_climbShare 40 = .ok (.i2d, 1) := by decide +kernel
theorem dX9_climbShare_41 : decode cX9_climbShare 41 = .ok (.iload_n 1, 1) := by decide +kernel
theorem dX9_climbShare_42 : decode cX9_climbShare 42 = .ok (.i2d, 1) := by decide +kernel
theorem dX9_climbShare_43 : decode cX9_climbShare 43 = .ok (.ddiv, 1) := by decide +kernel
theorem dX9_climbShare_44 : decode cX9_climbShare 44 = .ok (.dreturn, 1) := by decide +kernel
set_option maxRecDepth 20000 in
theorem ggX9_undo_X4_restoreLast : GoodIn wsX9_undo wsX4_restoreLast := goodIn_r _ [10, 11, 12, 13, 14, 15, 9, 16, 17, 18, 19, 20, 21, 22, 23, 24, 25, 26, 27, 28, 29, 30, 31, 32, 33, 34, 35, 36, 37, 38, 39, 40, 41, 42, 43, 44, 45, 46, 47, 48, 49, 50, 51, 52, 53, 54, 55, 56, 57, 58, 59, 60, 61, 62, 63, 64, 65, 66, 67, 68, 69, 70, 71, 77, 78, 79, 80, 81, 82, 83, 84, 85, 86, 87, 88, 89, 90, 91, 92, 93, 94, 95, 96, 97, 98, 99, 100, 101, 102] (by decide +kernel) (by decide +kernel)
set_option maxRecDepth 20000 in
theorem gX9_undo_X4_restoreLast : GoodIn wsX9_undo (wsV RX9 214 RX4 yX4_restoreLast wsX4_restoreLast) := goodIn_app (goodIn_of _ (by decide +kernel)) ggX9_undo_X4_restoreLast
theorem dX9_undo_0 : decode cX9_undo 0 = .ok (.aload_n 0, 1) := by decide +kernel
theorem dX9_undo_1 : decode cX9_undo 1 = .ok (.getfield 19, 3) := by decide +kernel
theorem dX9_undo_4 : decode cX9_undo 4 = .ok (.getfield 211, 3) := by decide +kernel
theorem dX9_undo_7 : decode cX9_undo 7 = .ok (.ifCond .ne 13, 3) := by decide +kernel
theorem dX9_undo_10 : decode cX9_undo 10 = .ok (.new 174, 3) := by decide +kernel
theorem dX9_undo_13 : decode cX9_undo 13 = .ok (.dup, 1) := by decide +kernel
theorem dX9_undo_14 : decode cX9_undo 14 = .ok (.ldc 212, 2) := by decide +kernel
theorem dX9_undo_16 : decode cX9_undo 16 = .ok (.invokespecial 178, 3) := by decide +kernel
theorem dX9_undo_19 : decode cX9_undo 19 = .ok (.athrow, 1) := by decide +kernel
theorem dX9_undo_20 : decode cX9_undo 20 = .ok (.aload_n 0, 1) := by decide +kernel
theorem dX9_undo_21 : decode cX9_undo 21 = .ok (.getfield 19, 3) := by decide +kernel
theorem dX9_undo_24 : decode cX9_undo 24 = .ok (.aload_n 0, 1) := by decide +kernel
theorem dX9_undo_25 : decode cX9_undo 25 = .ok (.getfield 10, 3) := by decide +kernel
theorem dX9_undo_28 : decode cX9_undo 28 = .ok (.invokevirtual 214, 3) := by decide +kernel
theorem dX9_undo_31 : decode cX9_undo 31 = .ok (.aload_n 0, 1) := by decide +kernel
theorem dX9_undo_32 : decode cX9_undo 32 = .ok (.getfield 19, 3) := by decide +kernel
theorem dX9_undo_35 : decode cX9_undo 35 = .ok (.getfield 211, 3) := by decide +kernel
theorem dX9_undo_38 : decode cX9_undo 38 = .ok (.ireturn, 1) := by decide +kernel
theorem dX9_savedStates_0 : decode cX9_savedStates 0 = .ok (.aload_n 0, 1) := by decide +kernel
theorem dX9_savedStates_1 : decode cX9_savedStates 1 = .ok (.getfield 19, 3) := by decide +kernel
theorem dX9_savedStates_4 : decode cX9_savedStates 4 = .ok (.getfield 211, 3) := by decide +kernel
theorem dX9_savedStates_7 : decode cX9_savedStates 7 = .ok (.ireturn, 1) := by decide +kernel
set_option maxRecDepth 20000 in
theorem ggX9_store_X9_refuseOutside : GoodIn wsX9_store wsX9_refuseOutside := goodIn_ca (goodIn_r _ [7, 8, 9] (by decide +kernel) (by decide +kernel)) (goodIn_sub (fun _ h => List.mem_cons_of_mem _ (List.mem_append_right _ h)) (by decide +kernel))
set_option maxRecDepth 20000 in
theorem gX9_store_X9_refuseOutside : GoodIn wsX9_store (va_wsS RX9 40 yX9_refuseOutside wsX9_refuseOutside) := goodIn_app (goodIn_of _ (by decide +kernel)) ggX9_store_X9_refuseOutside
set_option maxRecDepth 20000 in
theorem ggX9_store_X9_memoryOf : GoodIn wsX9_store wsX9_memoryOf := goodIn_r _ [13, 14, 15, 82, 83, 84, 85, 86] (by decide +kernel) (by decide +kernel)
set_option maxRecDepth 20000 in
theorem gX9_store_X9_memoryOf : GoodIn wsX9_store (wsV RX9 217 RX9 yX9_memoryOf wsX9_memoryOf) := goodIn_app (goodIn_of _ (by decide +kernel)) ggX9_store_X9_memoryOf
set_option maxRecDepth 20000 in
theorem ggX9_store_X5_copyFrom : GoodIn wsX9_store wsX5_copyFrom := goodIn_r _ [20, 21, 22, 23, 24, 25, 26, 27, 28, 29, 30, 31, 32, 33, 34, 35, 36, 37, 38, 39, 40, 41, 42, 43, 44, 45, 46, 47, 48, 49, 50, 6, 51, 52, 53, 54, 55, 56, 57, 58, 59, 60, 61, 62, 63, 64, 65, 66, 67, 68, 87, 88, 89, 90, 91, 92, 93, 94, 95, 96, 97, 98, 99, 100, 101, 102, 103, 104, 105, 106, 107, 108, 109] (by decide +kernel) (by decide +kernel)
set_option maxRecDepth 20000 in
theorem gX9_store_X5_copyFrom : GoodIn wsX9_store (wsV RX9 224 RX5 yX5_copyFrom wsX5_copyFrom) := goodIn_app (goodIn_of _ (by decide +kernel)) ggX9_store_X5_copyFrom
set_option maxRecDepth 20000 in
theorem ggX9_store_X5_height : GoodIn wsX9_store wsX5_height := goodIn_r _ [72, 23, 24, 73, 74, 75, 76, 77, 78, 79, 87, 88, 89, 90, 91, 92, 93, 94, 95, 96] (by decide +kernel) (by decide +kernel)
set_option maxRecDepth 20000 in
theorem gX9_store_X5_height : GoodIn wsX9_store (wsV RX9 52 RX5 yX5_height wsX5_height) := goodIn_app (goodIn_of _ (by decide +kernel)) ggX9_store_X5_height
theorem dX9_store_0 : decode cX9_store 0 = .ok (.iload_n 1, 1) := by decide +kernel
theorem dX9_store_1 : decode cX9_store 1 = .ok (.iconst 0, 1) := by decide +kernel
theorem dX9_store_2 : decode cX9_store 2 = .ok (.iconst 1, 1) := by decide +kernel
theorem dX9_store_3 : decode cX9_store 3 = .ok (.invokestatic 40, 3) := by decide +kernel
theorem dX9_store_6 : decode cX9_store 6 = .ok (.aload_n 0, 1) := by decide +kernel
theorem dX9_store_7 : decode cX9_store 7 = .ok (.iload_n 1, 1) := by decide +kernel
theorem dX9_store_8 : decode cX9_store 8 = .ok (.invokevirtual 217, 3) := by decide +kernel
theorem dX9_store_11 : decode cX9_store 11 = .ok (.astore_n 2, 1) := by decide +kernel
theorem dX9_store_12 : decode cX9_store 12 = .ok (.aload_n 2, 1) := by decide +kernel
theorem dX9_store_13 : decode cX9_store 13 = .ok (.getfield 221, 3) := by decide +kernel
theorem dX9_store_16 : decode cX9_store 16 = .ok (.aload_n 0, 1) := by decide +kernel
theorem dX9_store_17 : decode cX9_store 17 = .ok (.getfield 10, 3) := by decide +kernel
theorem dX9_store_20 : decode cX9_store 20 = .ok (.invokevirtual 224, 3) := by decide +kernel
theorem dX9_store_23 : decode cX9_store 23 = .ok (.aload_n 2, 1) := by decide +kernel
theorem dX9_store_24 : decode cX9_store 24 = .ok (.iconst 1, 1) := by decide +kernel
theorem dX9_store_25 : decode cX9_store 25 = .ok (.putfield 227, 3) := by decide +kernel
theorem dX9_store_28 : decode cX9_store 28 = .ok (.aload_n 0, 1) := by decide +kernel
theorem dX9_store_29 : decode cX9_store 29 = .ok (.getfield 10, 3) := by decide +kernel
theorem dX9_store_32 : decode cX9_store 32 = .ok (.invokevirtual 52, 3) := by decide +kernel
theorem dX9_store_35 : decode cX9_store 35 = .ok (.ireturn, 1) := by decide +kernel
set_option maxRecDepth 20000 in
theorem ggX9_recall_X9_refuseOutside : GoodIn wsX9_recall wsX9_refuseOutside := goodIn_ca (goodIn_r _ [10, 11, 12] (by decide +kernel) (by decide +kernel)) (goodIn_sub (fun _ h => List.mem_cons_of_mem _ (List.mem_append_right _ h)) (by decide +kernel))
set_option maxRecDepth 20000 in
theorem gX9_recall_X9_refuseOutside : GoodIn wsX9_recall (va_wsS RX9 40 yX9_refuseOutside wsX9_refuseOutside) := goodIn_app (goodIn_of _ (by decide +kernel)) ggX9_recall_X9_refuseOutside
set_option maxRecDepth 20000 in
theorem ggX9_recall_X9_memoryOf : GoodIn wsX9_recall wsX9_memoryOf := goodIn_r _ [16, 17, 18, 99, 100, 101, 102, 103] (by decide +kernel) (by decide +kernel)
set_option maxRecDepth 20000 in
theorem gX9_recall_X9_memoryOf : GoodIn wsX9_recall (wsV RX9 217 RX9 yX9_memoryOf wsX9_memoryOf) := goodIn_app (goodIn_of _ (by decide +kernel)) ggX9_recall_X9_memoryOf
set_option maxRecDepth 20000 in
theorem ggX9_recall_X4_save : GoodIn wsX9_recall wsX4_save := goodIn_r _ [23, 24, 25, 26, 27, 28, 29, 30, 31, 32, 22, 33, 34, 35, 36, 37, 38, 39, 40, 41, 42, 43, 44, 45, 46, 47, 48, 49, 50, 51, 52, 53, 54, 55, 56, 57, 58, 59, 60, 61, 62, 63, 64, 65, 66, 67, 68, 69, 9, 70, 71, 72, 73, 74, 75, 76, 77, 78, 79, 80, 81, 82, 83, 84, 104, 105, 106, 107, 108, 109, 110, 111, 112, 113, 114, 115, 116, 117, 118, 119, 120, 121, 122, 123, 124, 125, 126, 127, 128, 129] (by decide +kernel) (by decide +kernel)
set_option maxRecDepth 20000 in
theorem gX9_recall_X4_save : GoodIn wsX9_recall (wsV RX9 44 RX4 yX4_save wsX4_save) := goodIn_app (goodIn_of _ (by decide +kernel)) ggX9_recall_X4_save
set_option maxRecDepth 20000 in
theorem ggX9_recall_X5_copyFrom : GoodIn wsX9_recall wsX5_copyFrom := goodIn_r _ [39, 40, 41, 42, 43, 44, 45, 46, 47, 48, 49, 50, 51, 52, 53, 54, 55, 56, 57, 58, 59, 60, 61, 62, 63, 64, 65, 66, 67, 68, 69, 9, 70, 71, 27, 28, 29, 72, 73, 74, 75, 76, 77, 78, 79, 80, 81, 82, 83, 84, 107, 108, 109, 110, 111, 112, 113, 114, 115, 116, 117, 118, 119, 120, 121, 122, 123, 124, 125, 126, 127, 128, 129] (by decide +kernel) (by decide +kernel)
set_option maxRecDepth 20000 in
theorem gX9_recall_X5_copyFrom : GoodIn wsX9_recall (wsV RX9 224 RX5 yX5_copyFrom wsX5_copyFrom) := goodIn_app (goodIn_of _ (by decide +kernel)) ggX9_recall_X5_copyFrom
set_option maxRecDepth 20000 in
theorem ggX9_recall_X5_height : GoodIn wsX9_recall wsX5_height := goodIn_r _ [89, 42, 43, 90, 91, 92, 93, 94, 95, 96, 107, 108, 109, 110, 111, 112, 113, 114, 115, 116] (by decide +kernel) (by decide +kernel)
set_option maxRecDepth 20000 in
theorem gX9_recall_X5_height : GoodIn wsX9_recall (wsV RX9 52 RX5 yX5_height wsX5_height) := goodIn_app (goodIn_of _ (by decide +kernel)) ggX9_recall_X5_height
theorem dX9_recall_0 : decode cX9_recall 0 = .ok (.iload_n 1, 1) := by decide +kernel
theorem dX9_recall_1 : decode cX9_recall 1 = .ok (.iconst 0, 1) := by decide +kernel
theorem dX9_recall_2 : decode cX9_recall 2 = .ok (.iconst 1, 1) := by decide +kernel
theorem dX9_recall_3 : decode cX9_recall 3 = .ok (.invokestatic 40, 3) := by decide +kernel
theorem dX9_recall_6 : decode cX9_recall 6 = .ok (.aload_n 0, 1) := by decide +kernel
theorem dX9_recall_7 : decode cX9_recall 7 = .ok (.iload_n 1, 1) := by decide +kernel
theorem dX9_recall_8 : decode cX9_recall 8 = .ok (.invokevirtual 217, 3) := by decide +kernel
theorem dX9_recall_11 : decode cX9_recall 11 = .ok (.astore_n 2, 1) := by decide +kernel
theorem dX9_recall_12 : decode cX9_recall 12 = .ok (.aload_n 2, 1) := by decide +kernel
theorem dX9_recall_13 : decode cX9_recall 13 = .ok (.getfield 227, 3) := by decide +kernel
theorem dX9_recall_16 : decode cX9_recall 16 = .ok (.ifCond .ne 13, 3) := by decide +kernel
theorem dX9_recall_19 : decode cX9_recall 19 = .ok (.new 174, 3) := by decide +kernel
theorem dX9_recall_22 : decode cX9_recall 22 = .ok (.dup, 1) := by decide +kernel
theorem dX9_recall_23 : decode cX9_recall 23 = .ok (.ldc 230, 2) := by decide +kernel
theorem dX9_recall_25 : decode cX9_recall 25 = .ok (.invokespecial 178, 3) := by decide +kernel
theorem dX9_recall_28 : decode cX9_recall 28 = .ok (.athrow, 1) := by decide +kernel
theorem dX9_recall_29 : decode cX9_recall 29 = .ok (.aload_n 0, 1) := by decide +kernel
theorem dX9_recall_30 : decode cX9_recall 30 = .ok (.getfield 19, 3) := by decide +kernel
theorem dX9_recall_33 : decode cX9_recall 33 = .ok (.aload_n 0, 1) := by decide +kernel
theorem dX9_recall_34 : decode cX9_recall 34 = .ok (.getfield 10, 3) := by decide +kernel
theorem dX9_recall_37 : decode cX9_recall 37 = .ok (.invokevirtual 44, 3) := by decide +kernel
theorem dX9_recall_40 : decode cX9_recall 40 = .ok (.aload_n 0, 1) := by decide +kernel
theorem dX9_recall_41 : decode cX9_recall 41 = .ok (.getfield 10, 3) := by decide +kernel
theorem dX9_recall_44 : decode cX9_recall 44 = .ok (.aload_n 2, 1) := by decide +kernel
theorem dX9_recall_45 : decode cX9_recall 45 = .ok (.getfield 221, 3) := by decide +kernel
theorem dX9_recall_48 : decode cX9_recall 48 = .ok (.invokevirtual 224, 3) := by decide +kernel
theorem dX9_recall_51 : decode cX9_recall 51 = .ok (.aload_n 0, 1) := by decide +kernel
theorem dX9_recall_52 : decode cX9_recall 52 = .ok (.getfield 10, 3) := by decide +kernel
theorem dX9_recall_55 : decode cX9_recall 55 = .ok (.invokevirtual 52, 3) := by decide +kernel
theorem dX9_recall_58 : decode cX9_recall 58 = .ok (.ireturn, 1) := by decide +kernel
set_option maxRecDepth 20000 in
theorem ggX9_digest_X9_hashOfReadings : GoodIn wsX9_digest wsX9_hashOfReadings := goodIn_r _ [7, 2, 8, 9, 10, 11, 12, 13, 14, 15, 16, 17, 18, 19, 20, 21, 22, 6, 23, 24, 25, 26, 27, 28, 29, 30, 31, 32, 33, 34, 35, 36, 37, 38, 39, 40, 41, 42, 43, 44, 45, 46, 47, 48, 49, 50, 51, 52, 53, 54, 55, 56, 57, 58, 59, 60, 61, 103, 104, 105, 106, 107, 108, 109, 110, 111, 112, 113, 114, 115, 116, 117, 118, 119, 120, 121, 122, 123, 124, 125, 126] (by decide +kernel) (by decide +kernel)
set_option maxRecDepth 20000 in
theorem gX9_digest_X9_hashOfReadings : GoodIn wsX9_digest (wsV RX9 234 RX9 yX9_hashOfReadings wsX9_hashOfReadings) := goodIn_app (goodIn_of _ (by decide +kernel)) ggX9_digest_X9_hashOfReadings
set_option maxRecDepth 20000 in
theorem ggX9_digest_X9_hashOfMarks : GoodIn wsX9_digest wsX9_hashOfMarks := goodIn_r _ [65, 2, 66, 67, 21, 22, 6, 23, 24, 68, 69, 70, 71, 72, 73, 54, 55, 74, 75, 76, 77, 78, 79, 80, 81, 82, 83, 103, 104, 105, 106, 107, 108, 109, 110, 111, 112, 113, 114, 115, 116, 117, 127, 128, 129, 130] (by decide +kernel) (by decide +kernel)
set_option maxRecDepth 20000 in
theorem gX9_digest_X9_hashOfMarks : GoodIn wsX9_digest (wsV RX9 238 RX9 yX9_hashOfMarks wsX9_hashOfMarks) := goodIn_app (goodIn_of _ (by decide +kernel)) ggX9_digest_X9_hashOfMarks
set_option maxRecDepth 20000 in
theorem ggX9_digest_X5_pressureAtHeight : GoodIn wsX9_digest wsX5_pressureAtHeight := goodIn_r _ [87, 31, 88, 37, 34, 38, 89, 90, 91, 36, 108, 109, 110, 111, 112, 113, 114, 115, 116, 117] (by decide +kernel) (by decide +kernel)
set_option maxRecDepth 20000 in
theorem gX9_digest_X5_pressureAtHeight : GoodIn wsX9_digest (wsV RX9 163 RX5 yX5_pressureAtHeight wsX5_pressureAtHeight) := goodIn_app (goodIn_of _ (by decide +kernel)) ggX9_digest_X5_pressureAtHeight
set_option maxRecDepth 20000 in
theorem ggX9_digest_X9_mixed : GoodIn wsX9_digest wsX9_mixed := goodIn_r _ [23, 24] (by decide +kernel) (by decide +kernel)
set_option maxRecDepth 20000 in
theorem gX9_digest_X9_mixed : GoodIn wsX9_digest (va_wsS RX9 241 yX9_mixed wsX9_mixed) := goodIn_app (goodIn_of _ (by decide +kernel)) ggX9_digest_X9_mixed
set_option maxRecDepth 20000 in
theorem ggX9_digest_X5_minutesUntilAlarm : GoodIn wsX9_digest wsX5_minutesUntilAlarm := goodIn_r _ [95, 96, 97, 30, 98, 57, 58, 42, 59, 60, 61, 40, 41, 43, 44, 45, 46, 47, 48, 49, 50, 51, 52, 53, 54, 6, 55, 99, 100, 101, 102, 108, 109, 110, 111, 112, 113, 114, 115, 116, 117, 122, 123, 124, 125, 126] (by decide +kernel) (by decide +kernel)
set_option maxRecDepth 20000 in
theorem gX9_digest_X5_minutesUntilAlarm : GoodIn wsX9_digest (wsV RX9 166 RX5 yX5_minutesUntilAlarm wsX5_minutesUntilAlarm) := goodIn_app (goodIn_of _ (by decide +kernel)) ggX9_digest_X5_minutesUntilAlarm
theorem dX9_digest_0 : decode cX9_digest 0 = .ok (.aload_n 0, 1) := by decide +kernel
theorem dX9_digest_1 : decode cX9_digest 1 = .ok (.ldc2_w 232, 3) := by decide +kernel
theorem dX9_digest_4 : decode cX9_digest 4 = .ok (.invokevirtual 234, 3) := by decide +kernel
theorem dX9_digest_7 : decode cX9_digest 7 = .ok (.lstore_n 1, 1) := by decide +kernel
theorem dX9_digest_8 : decode cX9_digest 8 = .ok (.aload_n 0, 1) := by decide +kernel
theorem dX9_digest_9 : decode cX9_digest 9 = .ok (.lload_n 1, 1) := by decide +kernel
theorem dX9_digest_10 : decode cX9_digest 10 = .ok (.invokevirtual 238, 3) := by decide +kernel
theorem dX9_digest_13 : decode cX9_digest 13 = .ok (.lstore_n 1, 1) := by decide +kernel
theorem dX9_digest_14 : decode cX9_digest 14 = .ok (.lload_n 1, 1) := by decide +kernel
theorem dX9_digest_15 : decode cX9_digest 15 = .ok (.aload_n 0, 1) := by decide +kernel
theorem dX9_digest_16 : decode cX9_digest 16 = .ok (.getfield 10, 3) := by decide +kernel
theorem dX9_digest_19 : decode cX9_digest 19 = .ok (.sipush 1000, 3) := by decide +kernel
theorem dX9_digest_22 : decode cX9_digest 22 = .ok (.invokevirtual 163, 3) := by decide +kernel
theorem dX9_digest_25 : decode cX9_digest 25 = .ok (.invokestatic 241, 3) := by decide +kernel
theorem dX9_digest_28 : decode cX9_digest 28 = .ok (.lstore_n 1, 1) := by decide +kernel
theorem dX9_digest_29 : decode cX9_digest 29 = .ok (.lload_n 1, 1) := by decide +kernel
theorem dX9_digest_30 : decode cX9_digest 30 = .ok (.aload_n 0, 1) := by decide +kernel
theorem dX9_digest_31 : decode cX9_digest 31 = .ok (.getfield 10, 3) := by decide +kernel
theorem dX9_digest_34 : decode cX9_digest 34 = .ok (.iconst 5, 1) := by decide +kernel
theorem dX9_digest_35 : decode cX9_digest 35 = .ok (.invokevirtual 166, 3) := by decide +kernel
theorem dX9_digest_38 : decode cX9_digest 38 = .ok (.invokestatic 241, 3) := by decide +kernel
theorem dX9_digest_41 : decode cX9_digest 41 = .ok (.lreturn, 1) := by decide +kernel
theorem dX9_refuseOutside_0 : decode cX9_refuseOutside 0 = .ok (.iload_n 0, 1) := by decide +kernel
theorem dX9_refuseOutside_1 : decode cX9_refuseOutside 1 = .ok (.iload_n 1, 1) := by decide +kernel
theorem dX9_refuseOutside_2 : decode cX9_refuseOutside 2 = .ok (.if_icmp .lt 8, 3) := by decide +kernel
theorem dX9_refuseOutside_5 : decode cX9_refuseOutside 5 = .ok (.iload_n 0, 1) := by decide +kernel
theorem dX9_refuseOutside_6 : decode cX9_refuseOutside 6 = .ok (.iload_n 2, 1) := by decide +kernel
theorem dX9_refuseOutside_7 : decode cX9_refuseOutside 7 = .ok (.if_icmp .le 13, 3) := by decide +kernel
theorem dX9_refuseOutside_10 : decode cX9_refuseOutside 10 = .ok (.new 194, 3) := by decide +kernel
theorem dX9_refuseOutside_13 : decode cX9_refuseOutside 13 = .ok (.dup, 1) := by decide +kernel
theorem dX9_refuseOutside_14 : decode cX9_refuseOutside 14 = .ok (.ldc 245, 2) := by decide +kernel
theorem dX9_refuseOutside_16 : decode cX9_refuseOutside 16 = .ok (.invokespecial 198, 3) := by decide +kernel
theorem dX9_refuseOutside_19 : decode cX9_refuseOutside 19 = .ok (.athrow, 1) := by decide +kernel
theorem dX9_refuseOutside_20 : decode cX9_refuseOutside 20 = .ok (.return_, 1) := by decide +kernel
theorem dX9_refuseNoMark_0 : decode cX9_refuseNoMark 0 = .ok (.iload_n 1, 1) := by decide +kernel
theorem dX9_refuseNoMark_1 : decode cX9_refuseNoMark 1 = .ok (.ifCond .lt 17, 3) := by decide +kernel
theorem dX9_refuseNoMark_4 : decode cX9_refuseNoMark 4 = .ok (.iload_n 1, 1) := by decide +kernel
theorem dX9_refuseNoMark_5 : decode cX9_refuseNoMark 5 = .ok (.aload_n 0, 1) := by decide +kernel
theorem dX9_refuseNoMark_6 : decode cX9_refuseNoMark 6 = .ok (.getfield 10, 3) := by decide +kernel
theorem dX9_refuseNoMark_9 : decode cX9_refuseNoMark 9 = .ok (.getfield 115, 3) := by decide +kernel
theorem dX9_refuseNoMark_12 : decode cX9_refuseNoMark 12 = .ok (.getfield 119, 3) := by decide +kernel
theorem dX9_refuseNoMark_15 : decode cX9_refuseNoMark 15 = .ok (.if_icmp .lt 13, 3) := by decide +kernel
theorem dX9_refuseNoMark_18 : decode cX9_refuseNoMark 18 = .ok (.new 247, 3) := by decide +kernel
theorem dX9_refuseNoMark_21 : decode cX9_refuseNoMark 21 = .ok (.dup, 1) := by decide +kernel
theorem dX9_refuseNoMark_22 : decode cX9_refuseNoMark 22 = .ok (.ldc 249, 2) := by decide +kernel
theorem dX9_refuseNoMark_24 : decode cX9_refuseNoMark 24 = .ok (.invokespecial 251, 3) := by decide +kernel
theorem dX9_refuseNoMark_27 : decode cX9_refuseNoMark 27 = .ok (.athrow, 1) := by decide +kernel
theorem dX9_refuseNoMark_28 : decode cX9_refuseNoMark 28 = .ok (.return_, 1) := by decide +kernel
theorem dX9_memoryOf_0 : decode cX9_memoryOf 0 = .ok (.iload_n 1, 1) := by decide +kernel
theorem dX9_memoryOf_1 : decode cX9_memoryOf 1 = .ok (.ifCond .ne 10, 3) := by decide +kernel
theorem dX9_memoryOf_4 : decode cX9_memoryOf 4 = .ok (.aload_n 0, 1) := by decide +kernel
theorem dX9_memoryOf_5 : decode cX9_memoryOf 5 = .ok (.getfield 26, 3) := by decide +kernel
theorem dX9_memoryOf_8 : decode cX9_memoryOf 8 = .ok (.goto 7, 3) := by decide +kernel
theorem dX9_memoryOf_11 : decode cX9_memoryOf 11 = .ok (.aload_n 0, 1) := by decide +kernel
theorem dX9_memoryOf_12 : decode cX9_memoryOf 12 = .ok (.getfield 30, 3) := by decide +kernel
theorem dX9_memoryOf_15 : decode cX9_memoryOf 15 = .ok (.areturn, 1) := by decide +kernel
theorem dX9_mixed_0 : decode cX9_mixed 0 = .ok (.ldc2_w 259, 3) := by decide +kernel
theorem dX9_mixed_3 : decode cX9_mixed 3 = .ok (.lload_n 0, 1) := by decide +kernel
theorem dX9_mixed_4 : decode cX9_mixed 4 = .ok (.lmul, 1) := by decide +kernel
theorem dX9_mixed_5 : decode cX9_mixed 5 = .ok (.iload_n 2, 1) := by decide +kernel
theorem dX9_mixed_6 : decode cX9_mixed 6 = .ok (.i2l, 1) := by decide +kernel
theorem dX9_mixed_7 : decode cX9_mixed 7 = .ok (.ladd, 1) := by decide +kernel
theorem dX9_mixed_8 : decode cX9_mixed 8 = .ok (.lreturn, 1) := by decide +kernel
set_option maxRecDepth 20000 in
theorem ggX9_hashOfReadings_X9_mixed : GoodIn wsX9_hashOfReadings wsX9_mixed := goodIn_r _ [18, 19] (by decide +kernel) (by decide +kernel)
set_option maxRecDepth 20000 in
theorem gX9_hashOfReadings_X9_mixed : GoodIn wsX9_hashOfReadings (va_wsS RX9 241 yX9_mixed wsX9_mixed) := goodIn_app (goodIn_of _ (by decide +kernel)) ggX9_hashOfReadings_X9_mixed
set_option maxRecDepth 20000 in
theorem ggX9_hashOfReadings_X5_height : GoodIn wsX9_hashOfReadings wsX5_height := goodIn_r _ [24, 25, 26, 27, 28, 29, 30, 31, 32, 33, 62, 63, 64, 65, 66, 67, 68, 69, 70, 71] (by decide +kernel) (by decide +kernel)
set_option maxRecDepth 20000 in
theorem gX9_hashOfReadings_X5_height : GoodIn wsX9_hashOfReadings (wsV RX9 52 RX5 yX5_height wsX5_height) := goodIn_app (goodIn_of _ (by decide +kernel)) ggX9_hashOfReadings_X5_height
set_option maxRecDepth 20000 in
theorem ggX9_hashOfReadings_X8_presentFall : GoodIn wsX9_hashOfReadings wsX8_presentFall := goodIn_r _ [38, 39, 40, 41, 42, 43, 37, 44, 45, 46, 47, 48, 49, 17, 50, 76, 77, 78, 79, 80] (by decide +kernel) (by decide +kernel)
set_option maxRecDepth 20000 in
theorem gX9_hashOfReadings_X8_presentFall : GoodIn wsX9_hashOfReadings (wsV RX9 146 RX8 yX8_presentFall wsX8_presentFall) := goodIn_app (goodIn_of _ (by decide +kernel)) ggX9_hashOfReadings_X8_presentFall
set_option maxRecDepth 20000 in
theorem ggX9_hashOfReadings_X8_hasAlarm : GoodIn wsX9_hashOfReadings wsX8_hasAlarm := goodIn_r _ [54, 55, 56, 35, 36, 37, 38, 39, 40, 41, 42, 43, 44, 45, 46, 47, 48, 49, 17, 50, 76, 77, 78, 79, 80] (by decide +kernel) (by decide +kernel)
set_option maxRecDepth 20000 in
theorem gX9_hashOfReadings_X8_hasAlarm : GoodIn wsX9_hashOfReadings (wsV RX9 149 RX8 yX8_hasAlarm wsX8_hasAlarm) := goodIn_app (goodIn_of _ (by decide +kernel)) ggX9_hashOfReadings_X8_hasAlarm
theorem dX9_hashOfReadings_0 : decode cX9_hashOfReadings 0 = .ok (.lload_n 1, 1) := by decide +kernel
theorem dX9_hashOfReadings_1 : decode cX9_hashOfReadings 1 = .ok (.aload_n 0, 1) := by decide +kernel
theorem dX9_hashOfReadings_2 : decode cX9_hashOfReadings 2 = .ok (.getfield 10, 3) := by decide +kernel
theorem dX9_hashOfReadings_5 : decode cX9_hashOfReadings 5 = .ok (.getfield 56, 3) := by decide +kernel
theorem dX9_hashOfReadings_8 : decode cX9_hashOfReadings 8 = .ok (.ifCond .eq 7, 3) := by decide +kernel
theorem dX9_hashOfReadings_11 : decode cX9_hashOfReadings 11 = .ok (.iconst 1, 1) := by decide +kernel
theorem dX9_hashOfReadings_12 : decode cX9_hashOfReadings 12 = .ok (.goto 4, 3) := by decide +kernel
theorem dX9_hashOfReadings_15 : decode cX9_hashOfReadings 15 = .ok (.iconst 0, 1) := by decide +kernel
theorem dX9_hashOfReadings_16 : decode cX9_hashOfReadings 16 = .ok (.invokestatic 241, 3) := by decide +kernel
theorem dX9_hashOfReadings_19 : decode cX9_hashOfReadings 19 = .ok (.lstore_n 3, 1) := by decide +kernel
theorem dX9_hashOfReadings_20 : decode cX9_hashOfReadings 20 = .ok (.lload_n 3, 1) := by decide +kernel
theorem dX9_hashOfReadings_21 : decode cX9_hashOfReadings 21 = .ok (.aload_n 0, 1) := by decide +kernel
theorem dX9_hashOfReadings_22 : decode cX9_hashOfReadings 22 = .ok (.getfield 10, 3) := by decide +kernel
theorem dX9_hashOfReadings_25 : decode cX9_hashOfReadings 25 = .ok (.getfield 64, 3) := by decide +kernel
theorem dX9_hashOfReadings_28 : decode cX9_hashOfReadings 28 = .ok (.invokestatic 241, 3) := by decide +kernel
theorem dX9_hashOfReadings_31 : decode cX9_hashOfReadings 31 = .ok (.lstore_n 3, 1) := by decide +kernel
theorem dX9_hashOfReadings_32 : decode cX9_hashOfReadings 32 = .ok (.lload_n 3, 1) := by decide +kernel
theorem dX9_hashOfReadings_33 : decode cX9_hashOfReadings 33 = .ok (.aload_n 0, 1) := by decide +kernel
theorem dX9_hashOfReadings_34 : decode cX9_hashOfReadings 34 = .ok (.getfield 10, 3) := by decide +kernel
theorem dX9_hashOfReadings_37 : decode cX9_hashOfReadings 37 = .ok (.invokevirtual 52, 3) := by decide +kernel
theorem dX9_hashOfReadings_40 : decode cX9_hashOfReadings 40 = .ok (.invokestatic 241, 3) := by decide +kernel
theorem dX9_hashOfReadings_43 : decode cX9_hashOfReadings 43 = .ok (.lstore_n 3, 1) := by decide +kernel
theorem dX9_hashOfReadings_44 : decode cX9_hashOfReadings 44 = .ok (.lload_n 3, 1) := by decide +kernel
theorem dX9_hashOfReadings_45 : decode cX9_hashOfReadings 45 = .ok (.aload_n 0, 1) := by decide +kernel
theorem dX9_hashOfReadings_46 : decode cX9_hashOfReadings 46 = .ok (.getfield 10, 3) := by decide +kernel
theorem dX9_hashOfReadings_49 : decode cX9_hashOfReadings 49 = .ok (.getfield 68, 3) := by decide +kernel
theorem dX9_hashOfReadings_52 : decode cX9_hashOfReadings 52 = .ok (.invokestatic 241, 3) := by decide +kernel
theorem dX9_hashOfReadings_55 : decode cX9_hashOfReadings 55 = .ok (.lstore_n 3, 1) := by decide +kernel
theorem dX9_hashOfReadings_56 : decode cX9_hashOfReadings 56 = .ok (.lload_n 3, 1) := by decide +kernel
theorem dX9_hashOfReadings_57 : decode cX9_hashOfReadings 57 = .ok (.aload_n 0, 1) := by decide +kernel
theorem dX9_hashOfReadings_58 : decode cX9_hashOfReadings 58 = .ok (.getfield 10, 3) := by decide +kernel
theorem dX9_hashOfReadings_61 : decode cX9_hashOfReadings 61 = .ok (.getfield 77, 3) := by decide +kernel
theorem dX9_hashOfReadings_64 : decode cX9_hashOfReadings 64 = .ok (.invokestatic 241, 3) := by decide +kernel
theorem dX9_hashOfReadings_67 : decode cX9_hashOfReadings 67 = .ok (.lstore_n 3, 1) := by decide +kernel
theorem dX9_hashOfReadings_68 : decode cX9_hashOfReadings 68 = .ok (.lload_n 3, 1) := by decide +kernel
theorem dX9_hashOfReadings_69 : decode cX9_hashOfReadings 69 = .ok (.aload_n 0, 1) := by decide +kernel
theorem dX9_hashOfReadings_70 : decode cX9_hashOfReadings 70 = .ok (.getfield 10, 3) := by decide +kernel
theorem dX9_hashOfReadings_73 : decode cX9_hashOfReadings 73 = .ok (.getfield 88, 3) := by decide +kernel
theorem dX9_hashOfReadings_76 : decode cX9_hashOfReadings 76 = .ok (.invokestatic 241, 3) := by decide +kernel
theorem dX9_hashOfReadings_79 : decode cX9_hashOfReadings 79 = .ok (.lstore_n 3, 1) := by decide +kernel
theorem dX9_hashOfReadings_80 : decode cX9_hashOfReadings 80 = .ok (.lload_n 3, 1) := by decide +kernel
theorem dX9_hashOfReadings_81 : decode cX9_hashOfReadings 81 = .ok (.aload_n 0, 1) := by decide +kernel
theorem dX9_hashOfReadings_82 : decode cX9_hashOfReadings 82 = .ok (.getfield 10, 3) := by decide +kernel
theorem dX9_hashOfReadings_85 : decode cX9_hashOfReadings 85 = .ok (.getfield 91, 3) := by decide +kernel
theorem dX9_hashOfReadings_88 : decode cX9_hashOfReadings 88 = .ok (.invokestatic 241, 3) := by decide +kernel
theorem dX9_hashOfReadings_91 : decode cX9_hashOfReadings 91 = .ok (.lstore_n 3, 1) := by decide +kernel
theorem dX9_hashOfReadings_92 : decode cX9_hashOfReadings 92 = .ok (.lload_n 3, 1) := by decide +kernel
theorem dX9_hashOfReadings_93 : decode cX9_hashOfReadings 93 = .ok (.aload_n 0, 1) := by decide +kernel
theorem dX9_hashOfReadings_94 : decode cX9_hashOfReadings 94 = .ok (.getfield 10, 3) := by decide +kernel
theorem dX9_hashOfReadings_97 : decode cX9_hashOfReadings 97 = .ok (.getfield 94, 3) := by decide +kernel
theorem dX9_hashOfReadings_100 : decode cX9_hashOfReadings 100 = .ok (.getfield 103, 3) := by decide +kernel
theorem dX9_hashOfReadings_103 : decode cX9_hashOfReadings 103 = .ok (.invokestatic 241, 3) := by decide +kernel
theorem dX9_hashOfReadings_106 : decode cX9_hashOfReadings 106 = .ok (.lstore_n 3, 1) := by decide +kernel
theorem dX9_hashOfReadings_107 : decode cX9_hashOfReadings 107 = .ok (.lload_n 3, 1) := by decide +kernel
theorem dX9_hashOfReadings_108 : decode cX9_hashOfReadings 108 = .ok (.aload_n 0, 1) := by decide +kernel
theorem dX9_hashOfReadings_109 : decode cX9_hashOfReadings 109 = .ok (.getfield 10, 3) := by decide +kernel
theorem dX9_hashOfReadings_112 : decode cX9_hashOfReadings 112 = .ok (.getfield 94, 3) := by decide +kernel
theorem dX9_hashOfReadings_115 : decode cX9_hashOfReadings 115 = .ok (.getfield 106, 3) := by decide +kernel
theorem dX9_hashOfReadings_118 : decode cX9_hashOfReadings 118 = .ok (.invokestatic 241, 3) := by decide +kernel
theorem dX9_hashOfReadings_121 : decode cX9_hashOfReadings 121 = .ok (.lstore_n 3, 1) := by decide +kernel
theorem dX9_hashOfReadings_122 : decode cX9_hashOfReadings 122 = .ok (.lload_n 3, 1) := by decide +kernel
theorem dX9_hashOfReadings_123 : decode cX9_hashOfReadings 123 = .ok (.aload_n 0, 1) := by decide +kernel
theorem dX9_hashOfReadings_124 : decode cX9_hashOfReadings 124 = .ok (.getfield 10, 3) := by decide +kernel
theorem dX9_hashOfReadings_127 : decode cX9_hashOfReadings 127 = .ok (.getfield 94, 3) := by decide +kernel
theorem dX9_hashOfReadings_130 : decode cX9_hashOfReadings 130 = .ok (.getfield 109, 3) := by decide +kernel
theorem dX9_hashOfReadings_133 : decode cX9_hashOfReadings 133 = .ok (.invokestatic 241, 3) := by decide +kernel
theorem dX9_hashOfReadings_136 : decode cX9_hashOfReadings 136 = .ok (.lstore_n 3, 1) := by decide +kernel
theorem dX9_hashOfReadings_137 : decode cX9_hashOfReadings 137 = .ok (.lload_n 3, 1) := by decide +kernel
theorem dX9_hashOfReadings_138 : decode cX9_hashOfReadings 138 = .ok (.aload_n 0, 1) := by decide +kernel
theorem dX9_hashOfReadings_139 : decode cX9_hashOfReadings 139 = .ok (.getfield 10, 3) := by decide +kernel
theorem dX9_hashOfReadings_142 : decode cX9_hashOfReadings 142 = .ok (.getfield 136, 3) := by decide +kernel
theorem dX9_hashOfReadings_145 : decode cX9_hashOfReadings 145 = .ok (.getfield 145, 3) := by decide +kernel
theorem dX9_hashOfReadings_148 : decode cX9_hashOfReadings 148 = .ok (.invokestatic 241, 3) := by decide +kernel
theorem dX9_hashOfReadings_151 : decode cX9_hashOfReadings 151 = .ok (.lstore_n 3, 1) := by decide +kernel
theorem dX9_hashOfReadings_152 : decode cX9_hashOfReadings 152 = .ok (.lload_n 3, 1) := by decide +kernel
theorem dX9_hashOfReadings_153 : decode cX9_hashOfReadings 153 = .ok (.aload_n 0, 1) := by decide +kernel
theorem dX9_hashOfReadings_154 : decode cX9_hashOfReadings 154 = .ok (.getfield 10, 3) := by decide +kernel
theorem dX9_hashOfReadings_157 : decode cX9_hashOfReadings 157 = .ok (.getfield 136, 3) := by decide +kernel
theorem dX9_hashOfReadings_160 : decode cX9_hashOfReadings 160 = .ok (.invokevirtual 146, 3) := by decide +kernel
theorem dX9_hashOfReadings_163 : decode cX9_hashOfReadings 163 = .ok (.invokestatic 241, 3) := by decide +kernel
theorem dX9_hashOfReadings_166 : decode cX9_hashOfReadings 166 = .ok (.lstore_n 3, 1) := by decide +kernel
theorem dX9_hashOfReadings_167 : decode cX9_hashOfReadings 167 = .ok (.lload_n 3, 1) := by decide +kernel
theorem dX9_hashOfReadings_168 : decode cX9_hashOfReadings 168 = .ok (.aload_n 0, 1) := by decide +kernel
theorem dX9_hashOfReadings_169 : decode cX9_hashOfReadings 169 = .ok (.getfield 10, 3) := by decide +kernel
theorem dX9_hashOfReadings_172 : decode cX9_hashOfReadings 172 = .ok (.getfield 136, 3) := by decide +kernel
theorem dX9_hashOfReadings_175 : decode cX9_hashOfReadings 175 = .ok (.getfield 153, 3) := by decide +kernel
theorem dX9_hashOfReadings_178 : decode cX9_hashOfReadings 178 = .ok (.invokestatic 241, 3) := by decide +kernel
theorem dX9_hashOfReadings_181 : decode cX9_hashOfReadings 181 = .ok (.lstore_n 3, 1) := by decide +kernel
theorem dX9_hashOfReadings_182 : decode cX9_hashOfReadings 182 = .ok (.lload_n 3, 1) := by decide +kernel
theorem dX9_hashOfReadings_183 : decode cX9_hashOfReadings 183 = .ok (.aload_n 0, 1) := by decide +kernel
theorem dX9_hashOfReadings_184 : decode cX9_hashOfReadings 184 = .ok (.getfield 10, 3) := by decide +kernel
theorem dX9_hashOfReadings_187 : decode cX9_hashOfReadings 187 = .ok (.getfield 136, 3) := by decide +kernel
theorem dX9_hashOfReadings_190 : decode cX9_hashOfReadings 190 = .ok (.invokevirtual 149, 3) := by decide +kernel
theorem dX9_hashOfReadings_193 : decode cX9_hashOfReadings 193 = .ok (.ifCond .eq 7, 3) := by decide +kernel
theorem dX9_hashOfReadings_196 : decode cX9_hashOfReadings 196 = .ok (.iconst 1, 1) := by decide +kernel
theorem dX9_hashOfReadings_197 : decode cX9_hashOfReadings 197 = .ok (.goto 4, 3) := by decide +kernel
theorem dX9_hashOfReadings_200 : decode cX9_hashOfReadings 200 = .ok (.iconst 0, 1) := by decide +kernel
theorem dX9_hashOfReadings_201 : decode cX9_hashOfReadings 201 = .ok (.invokestatic 241, 3) := by decide +kernel
theorem dX9_hashOfReadings_204 : decode cX9_hashOfReadings 204 = .ok (.lreturn, 1) := by decide +kernel
set_option maxRecDepth 20000 in
theorem ggX9_hashOfMarks_X9_mixed : GoodIn wsX9_hashOfMarks wsX9_mixed := goodIn_r _ [7, 8] (by decide +kernel) (by decide +kernel)
set_option maxRecDepth 20000 in
theorem gX9_hashOfMarks_X9_mixed : GoodIn wsX9_hashOfMarks (va_wsS RX9 241 yX9_mixed wsX9_mixed) := goodIn_app (goodIn_of _ (by decide +kernel)) ggX9_hashOfMarks_X9_mixed
set_option maxRecDepth 20000 in
theorem ggX9_hashOfMarks_X2_timeOf : GoodIn wsX9_hashOfMarks wsX2_timeOf := goodIn_r _ [13, 14, 15, 6, 16, 42, 43, 44, 45] (by decide +kernel) (by decide +kernel)
set_option maxRecDepth 20000 in
theorem gX9_hashOfMarks_X2_timeOf : GoodIn wsX9_hashOfMarks (wsV RX9 127 RX2 yX2_timeOf wsX2_timeOf) := goodIn_app (goodIn_of _ (by decide +kernel)) ggX9_hashOfMarks_X2_timeOf
set_option maxRecDepth 20000 in
theorem ggX9_hashOfMarks_X2_heightOf : GoodIn wsX9_hashOfMarks wsX2_heightOf := goodIn_r _ [20, 21, 15, 6, 16, 42, 43, 44, 45] (by decide +kernel) (by decide +kernel)
set_option maxRecDepth 20000 in
theorem gX9_hashOfMarks_X2_heightOf : GoodIn wsX9_hashOfMarks (wsV RX9 130 RX2 yX2_heightOf wsX2_heightOf) := goodIn_app (goodIn_of _ (by decide +kernel)) ggX9_hashOfMarks_X2_heightOf
set_option maxRecDepth 20000 in
theorem ggX9_hashOfMarks_X2_ascentOf : GoodIn wsX9_hashOfMarks wsX2_ascentOf := goodIn_r _ [25, 26, 15, 6, 16, 42, 43, 44, 45] (by decide +kernel) (by decide +kernel)
set_option maxRecDepth 20000 in
theorem gX9_hashOfMarks_X2_ascentOf : GoodIn wsX9_hashOfMarks (wsV RX9 133 RX2 yX2_ascentOf wsX2_ascentOf) := goodIn_app (goodIn_of _ (by decide +kernel)) ggX9_hashOfMarks_X2_ascentOf
theorem dX9_hashOfMarks_0 : decode cX9_hashOfMarks 0 = .ok (.aload_n 0, 1) := by decide +kernel
theorem dX9_hashOfMarks_1 : decode cX9_hashOfMarks 1 = .ok (.getfield 10, 3) := by decide +kernel
theorem dX9_hashOfMarks_4 : decode cX9_hashOfMarks 4 = .ok (.getfield 115, 3) := by decide +kernel
theorem dX9_hashOfMarks_7 : decode cX9_hashOfMarks 7 = .ok (.astore_n 3, 1) := by decide +kernel
theorem dX9_hashOfMarks_8 : decode cX9_hashOfMarks 8 = .ok (.lload_n 1, 1) := by decide +kernel
theorem dX9_hashOfMarks_9 : decode cX9_hashOfMarks 9 = .ok (.aload_n 3, 1) := by decide +kernel
theorem dX9_hashOfMarks_10 : decode cX9_hashOfMarks 10 = .ok (.getfield 119, 3) := by decide +kernel
theorem dX9_hashOfMarks_13 : decode cX9_hashOfMarks 13 = .ok (.invokestatic 241, 3) := by decide +kernel
theorem dX9_hashOfMarks_16 : decode cX9_hashOfMarks 16 = .ok (.lstore 4, 2) := by decide +kernel
theorem dX9_hashOfMarks_18 : decode cX9_hashOfMarks 18 = .ok (.iconst 0, 1) := by decide +kernel
theorem dX9_hashOfMarks_19 : decode cX9_hashOfMarks 19 = .ok (.istore 6, 2) := by decide +kernel
theorem dX9_hashOfMarks_21 : decode cX9_hashOfMarks 21 = .ok (.iload 6, 2) := by decide +kernel
theorem dX9_hashOfMarks_23 : decode cX9_hashOfMarks 23 = .ok (.aload_n 3, 1) := by decide +kernel
theorem dX9_hashOfMarks_24 : decode cX9_hashOfMarks 24 = .ok (.getfield 119, 3) := by decide +kernel
theorem dX9_hashOfMarks_27 : decode cX9_hashOfMarks 27 = .ok (.if_icmp .ge 61, 3) := by decide +kernel
theorem dX9_hashOfMarks_30 : decode cX9_hashOfMarks 30 = .ok (.iload 6, 2) := by decide +kernel
theorem dX9_hashOfMarks_32 : decode cX9_hashOfMarks 32 = .ok (.bipush 10, 2) := by decide +kernel
theorem dX9_hashOfMarks_34 : decode cX9_hashOfMarks 34 = .ok (.if_icmp .ge 54, 3) := by decide +kernel
theorem dX9_hashOfMarks_37 : decode cX9_hashOfMarks 37 = .ok (.lload 4, 2) := by decide +kernel
theorem dX9_hashOfMarks_39 : decode cX9_hashOfMarks 39 = .ok (.aload_n 3, 1) := by decide +kernel
theorem dX9_hashOfMarks_40 : decode cX9_hashOfMarks 40 = .ok (.iload 6, 2) := by decide +kernel
theorem dX9_hashOfMarks_42 : decode cX9_hashOfMarks 42 = .ok (.invokevirtual 127, 3) := by decide +kernel
theorem dX9_hashOfMarks_45 : decode cX9_hashOfMarks 45 = .ok (.invokestatic 241, 3) := by decide +kernel
theorem dX9_hashOfMarks_48 : decode cX9_hashOfMarks 48 = .ok (.lstore 4, 2) := by decide +kernel
theorem dX9_hashOfMarks_50 : decode cX9_hashOfMarks 50 = .ok (.lload 4, 2) := by decide +kernel
theorem dX9_hashOfMarks_52 : decode cX9_hashOfMarks 52 = .ok (.aload_n 3, 1) := by decide +kernel
theorem dX9_hashOfMarks_53 : decode cX9_hashOfMarks 53 = .ok (.iload 6, 2) := by decide +kernel
theorem dX9_hashOfMarks_55 : decode cX9_hashOfMarks 55 = .ok (.invokevirtual 130, 3) := by decide +kernel
theorem dX9_hashOfMarks_58 : decode cX9_hashOfMarks 58 = .ok (.invokestatic 241, 3) := by decide +kernel
theorem dX9_hashOfMarks_61 : decode cX9_hashOfMarks 61 = .ok (.lstore 4, 2) := by decide +kernel
theorem dX9_hashOfMarks_63 : decode cX9_hashOfMarks 63 = .ok (.lload 4, 2) := by decide +kernel
theorem dX9_hashOfMarks_65 : decode cX9_hashOfMarks 65 = .ok (.aload_n 3, 1) := by decide +kernel
theorem dX9_hashOfMarks_66 : decode cX9_hashOfMarks 66 = .ok (.iload 6, 2) := by decide +kernel
theorem dX9_hashOfMarks_68 : decode cX9_hashOfMarks 68 = .ok (.invokevirtual 133, 3) := by decide +kernel
theorem dX9_hashOfMarks_71 : decode cX9_hashOfMarks 71 = .ok (.aload_n 3, 1) := by decide +kernel
theorem dX9_hashOfMarks_72 : decode cX9_hashOfMarks 72 = .ok (.iconst 0, 1) := by decide +kernel
theorem dX9_hashOfMarks_73 : decode cX9_hashOfMarks 73 = .ok (.invokevirtual 133, 3) := by decide +kernel
theorem dX9_hashOfMarks_76 : decode cX9_hashOfMarks 76 = .ok (.isub, 1) := by decide +kernel
theorem dX9_hashOfMarks_77 : decode cX9_hashOfMarks 77 = .ok (.invokestatic 241, 3) := by decide +kernel
theorem dX9_hashOfMarks_80 : decode cX9_hashOfMarks 80 = .ok (.lstore 4, 2) := by decide +kernel
theorem dX9_hashOfMarks_82 : decode cX9_hashOfMarks 82 = .ok (.iinc 6 1, 3) := by decide +kernel
theorem dX9_hashOfMarks_85 : decode cX9_hashOfMarks 85 = .ok (.goto (-64), 3) := by decide +kernel
theorem dX9_hashOfMarks_88 : decode cX9_hashOfMarks 88 = .ok (.lload 4, 2) := by decide +kernel
theorem dX9_hashOfMarks_90 : decode cX9_hashOfMarks 90 = .ok (.lreturn, 1) := by decide +kernel
theorem dX9_copyRow_0 : decode cX9_copyRow 0 = .ok (.aload_n 0, 1) := by decide +kernel
theorem dX9_copyRow_1 : decode cX9_copyRow 1 = .ok (.iconst 0, 1) := by decide +kernel
theorem dX9_copyRow_2 : decode cX9_copyRow 2 = .ok (.aload_n 1, 1) := by decide +kernel
theorem dX9_copyRow_3 : decode cX9_copyRow 3 = .ok (.iconst 0, 1) := by decide +kernel
theorem dX9_copyRow_4 : decode cX9_copyRow 4 = .ok (.aload_n 0, 1) := by decide +kernel
theorem dX9_copyRow_5 : decode cX9_copyRow 5 = .ok (.arraylength, 1) := by decide +kernel
theorem dX9_copyRow_6 : decode cX9_copyRow 6 = .ok (.aload_n 1, 1) := by decide +kernel
theorem dX9_copyRow_7 : decode cX9_copyRow 7 = .ok (.arraylength, 1) := by decide +kernel
theorem dX9_copyRow_8 : decode cX9_copyRow 8 = .ok (.invokestatic 261, 3) := by decide +kernel
theorem dX9_copyRow_11 : decode cX9_copyRow 11 = .ok (.invokestatic 266, 3) := by decide +kernel
theorem dX9_copyRow_14 : decode cX9_copyRow 14 = .ok (.return_, 1) := by decide +kernel
theorem dX9_moveUp_0 : decode cX9_moveUp 0 = .ok (.iconst 1, 1) := by decide +kernel
theorem dX9_moveUp_1 : decode cX9_moveUp 1 = .ok (.istore_n 1, 1) := by decide +kernel
theorem dX9_moveUp_2 : decode cX9_moveUp 2 = .ok (.iload_n 1, 1) := by decide +kernel
theorem dX9_moveUp_3 : decode cX9_moveUp 3 = .ok (.aload_n 0, 1) := by decide +kernel
theorem dX9_moveUp_4 : decode cX9_moveUp 4 = .ok (.arraylength, 1) := by decide +kernel
theorem dX9_moveUp_5 : decode cX9_moveUp 5 = .ok (.if_icmp .ge 17, 3) := by decide +kernel
theorem dX9_moveUp_8 : decode cX9_moveUp 8 = .ok (.aload_n 0, 1) := by decide +kernel
theorem dX9_moveUp_9 : decode cX9_moveUp 9 = .ok (.iload_n 1, 1) := by decide +kernel
theorem dX9_moveUp_10 : decode cX9_moveUp 10 = .ok (.iconst 1, 1) := by decide +kernel
theorem dX9_moveUp_11 : decode cX9_moveUp 11 = .ok (.isub, 1) := by decide +kernel
theorem dX9_moveUp_12 : decode cX9_moveUp 12 = .ok (.aload_n 0, 1) := by decide +kernel
theorem dX9_moveUp_13 : decode cX9_moveUp 13 = .ok (.iload_n 1, 1) := by decide +kernel
theorem dX9_moveUp_14 : decode cX9_moveUp 14 = .ok (.iaload, 1) := by decide +kernel
theorem dX9_moveUp_15 : decode cX9_moveUp 15 = .ok (.iastore, 1) := by decide +kernel
theorem dX9_moveUp_16 : decode cX9_moveUp 16 = .ok (.iinc 1 1, 3) := by decide +kernel
theorem dX9_moveUp_19 : decode cX9_moveUp 19 = .ok (.goto (-17), 3) := by decide +kernel
theorem dX9_moveUp_22 : decode cX9_moveUp 22 = .ok (.return_, 1) := by decide +kernel
theorem dX9_elementOf_0 : decode cX9_elementOf 0 = .ok (.iload_n 1, 1) := by decide +kernel
theorem dX9_elementOf_1 : decode cX9_elementOf 1 = .ok (.ifCond .lt 15, 3) := by decide +kernel
theorem dX9_elementOf_4 : decode cX9_elementOf 4 = .ok (.iload_n 1, 1) := by decide +kernel
theorem dX9_elementOf_5 : decode cX9_elementOf 5 = .ok (.aload_n 0, 1) := by decide +kernel
theorem dX9_elementOf_6 : decode cX9_elementOf 6 = .ok (.arraylength, 1) := by decide +kernel
theorem dX9_elementOf_7 : decode cX9_elementOf 7 = .ok (.if_icmp .ge 9, 3) := by decide +kernel
theorem dX9_elementOf_10 : decode cX9_elementOf 10 = .ok (.aload_n 0, 1) := by decide +kernel
theorem dX9_elementOf_11 : decode cX9_elementOf 11 = .ok (.iload_n 1, 1) := by decide +kernel
theorem dX9_elementOf_12 : decode cX9_elementOf 12 = .ok (.iaload, 1) := by decide +kernel
theorem dX9_elementOf_13 : decode cX9_elementOf 13 = .ok (.goto 4, 3) := by decide +kernel
theorem dX9_elementOf_16 : decode cX9_elementOf 16 = .ok (.iconst 0, 1) := by decide +kernel
theorem dX9_elementOf_17 : decode cX9_elementOf 17 = .ok (.ireturn, 1) := by decide +kernel
