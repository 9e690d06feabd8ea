theorem dX0_standardAltitude_0 : decode cX0_standardAltitude 0 = .ok (.sipush 10132, 3) := by decide +kernel
theorem dX0_standardAltitude_3 : decode cX0_standardAltitude 3 = .ok (.iload_n 0, 1) := by decide +kernel
theorem dX0_standardAltitude_4 : decode cX0_standardAltitude 4 = .ok (.isub, 1) := by decide +kernel
theorem dX0_standardAltitude_5 : decode cX0_standardAltitude 5 = .ok (.istore_n 1, 1) := by decide +kernel
theorem dX0_standardAltitude_6 : decode cX0_standardAltitude 6 = .ok (.iload_n 1, 1) := by decide +kernel
theorem dX0_standardAltitude_7 : decode cX0_standardAltitude 7 = .ok (.ifCond .ge 11, 3) := by decide +kernel
theorem dX0_standardAltitude_10 : decode cX0_standardAltitude 10 = .ok (.iload_n 1, 1) := by decide +kernel
theorem dX0_standardAltitude_11 : decode cX0_standardAltitude 11 = .ok (.bipush 83, 2) := by decide +kernel
theorem dX0_standardAltitude_13 : decode cX0_standardAltitude 13 = .ok (.imul, 1) := by decide +kernel
theorem dX0_standardAltitude_14 : decode cX0_standardAltitude 14 = .ok (.bipush 10, 2) := by decide +kernel
theorem dX0_standardAltitude_16 : decode cX0_standardAltitude 16 = .ok (.idiv, 1) := by decide +kernel
theorem dX0_standardAltitude_17 : decode cX0_standardAltitude 17 = .ok (.ireturn, 1) := by decide +kernel
theorem dX0_standardAltitude_18 : decode cX0_standardAltitude 18 = .ok (.iload_n 1, 1) := by decide +kernel
theorem dX0_standardAltitude_19 : decode cX0_standardAltitude 19 = .ok (.bipush 83, 2) := by decide +kernel
theorem dX0_standardAltitude_21 : decode cX0_standardAltitude 21 = .ok (.iload_n 1, 1) := by decide +kernel
theorem dX0_standardAltitude_22 : decode cX0_standardAltitude 22 = .ok (.sipush 250, 3) := by decide +kernel
theorem dX0_standardAltitude_25 : decode cX0_standardAltitude 25 = .ok (.idiv, 1) := by decide +kernel
theorem dX0_standardAltitude_26 : decode cX0_standardAltitude 26 = .ok (.iadd, 1) := by decide +kernel
theorem dX0_standardAltitude_27 : decode cX0_standardAltitude 27 = .ok (.imul, 1) := by decide +kernel
theorem dX0_standardAltitude_28 : decode cX0_standardAltitude 28 = .ok (.bipush 10, 2) := by decide +kernel
theorem dX0_standardAltitude_30 : decode cX0_standardAltitude 30 = .ok (.idiv, 1) := by decide +kernel
theorem dX0_standardAltitude_31 : decode cX0_standardAltitude 31 = .ok (.ireturn, 1) := by decide +kernel
set_option maxRecDepth 20000 in
theorem ggX0_heightAt_X0_standardAltitude : GoodIn wsX0_heightAt wsX0_standardAltitude := goodIn_r _ [4] (by decide +kernel) (by decide +kernel)
set_option maxRecDepth 20000 in
theorem gX0_heightAt_X0_standardAltitude : GoodIn wsX0_heightAt (va_wsS RX0 9 yX0_standardAltitude wsX0_standardAltitude) := goodIn_app (goodIn_of _ (by decide +kernel)) ggX0_heightAt_X0_standardAltitude
theorem dX0_heightAt_0 : decode cX0_heightAt 0 = .ok (.iload_n 0, 1) := by decide +kernel
theorem dX0_heightAt_1 : decode cX0_heightAt 1 = .ok (.invokestatic 9, 3) := by decide +kernel
theorem dX0_heightAt_4 : decode cX0_heightAt 4 = .ok (.iload_n 1, 1) := by decide +kernel
theorem dX0_heightAt_5 : decode cX0_heightAt 5 = .ok (.invokestatic 9, 3) := by decide +kernel
theorem dX0_heightAt_8 : decode cX0_heightAt 8 = .ok (.isub, 1) := by decide +kernel
theorem dX0_heightAt_9 : decode cX0_heightAt 9 = .ok (.ireturn, 1) := by decide +kernel
theorem dX0_onTheWay_0 : decode cX0_onTheWay 0 = .ok (.iload_n 3, 1) := by decide +kernel
theorem dX0_onTheWay_1 : decode cX0_onTheWay 1 = .ok (.iconst 1, 1) := by decide +kernel
theorem dX0_onTheWay_2 : decode cX0_onTheWay 2 = .ok (.if_icmp .ge 5, 3) := by decide +kernel
theorem dX0_onTheWay_5 : decode cX0_onTheWay 5 = .ok (.iload_n 1, 1) := by decide +kernel
theorem dX0_onTheWay_6 : decode cX0_onTheWay 6 = .ok (.ireturn, 1) := by decide +kernel
theorem dX0_onTheWay_7 : decode cX0_onTheWay 7 = .ok (.iload_n 0, 1) := by decide +kernel
theorem dX0_onTheWay_8 : decode cX0_onTheWay 8 = .ok (.iload_n 1, 1) := by decide +kernel
theorem dX0_onTheWay_9 : decode cX0_onTheWay 9 = .ok (.iload_n 0, 1) := by decide +kernel
theorem dX0_onTheWay_10 : decode cX0_onTheWay 10 = .ok (.isub, 1) := by decide +kernel
theorem dX0_onTheWay_11 : decode cX0_onTheWay 11 = .ok (.iload_n 2, 1) := by decide +kernel
theorem dX0_onTheWay_12 : decode cX0_onTheWay 12 = .ok (.imul, 1) := by decide +kernel
theorem dX0_onTheWay_13 : decode cX0_onTheWay 13 = .ok (.iload_n 3, 1) := by decide +kernel
theorem dX0_onTheWay_14 : decode cX0_onTheWay 14 = .ok (.idiv, 1) := by decide +kernel
theorem dX0_onTheWay_15 : decode cX0_onTheWay 15 = .ok (.iadd, 1) := by decide +kernel
theorem dX0_onTheWay_16 : decode cX0_onTheWay 16 = .ok (.ireturn, 1) := by decide +kernel
set_option maxRecDepth 20000 in
theorem ggX0_greatestPressure_X0_standardAltitude : GoodIn wsX0_greatestPressure wsX0_standardAltitude := goodIn_r _ [4] (by decide +kernel) (by decide +kernel)
set_option maxRecDepth 20000 in
theorem gX0_greatestPressure_X0_standardAltitude : GoodIn wsX0_greatestPressure (va_wsS RX0 9 yX0_standardAltitude wsX0_standardAltitude) := goodIn_app (goodIn_of _ (by decide +kernel)) ggX0_greatestPressure_X0_standardAltitude
theorem dX0_greatestPressure_0 : decode cX0_greatestPressure 0 = .ok (.iconst (-1), 1) := by decide +kernel
theorem dX0_greatestPressure_1 : decode cX0_greatestPressure 1 = .ok (.istore_n 3, 1) := by decide +kernel
theorem dX0_greatestPressure_2 : decode cX0_greatestPressure 2 = .ok (.iload_n 1, 1) := by decide +kernel
theorem dX0_greatestPressure_3 : decode cX0_greatestPressure 3 = .ok (.istore 4, 2) := by decide +kernel
theorem dX0_greatestPressure_5 : decode cX0_greatestPressure 5 = .ok (.iload_n 2, 1) := by decide +kernel
theorem dX0_greatestPressure_6 : decode cX0_greatestPressure 6 = .ok (.istore 5, 2) := by decide +kernel
theorem dX0_greatestPressure_8 : decode cX0_greatestPressure 8 = .ok (.iconst 0, 1) := by decide +kernel
theorem dX0_greatestPressure_9 : decode cX0_greatestPressure 9 = .ok (.istore 6, 2) := by decide +kernel
theorem dX0_greatestPressure_11 : decode cX0_greatestPressure 11 = .ok (.iload 6, 2) := by decide +kernel
theorem dX0_greatestPressure_13 : decode cX0_greatestPressure 13 = .ok (.bipush 13, 2) := by decide +kernel
theorem dX0_greatestPressure_15 : decode cX0_greatestPressure 15 = .ok (.if_icmp .ge 52, 3) := by decide +kernel
theorem dX0_greatestPressure_18 : decode cX0_greatestPressure 18 = .ok (.iload 4, 2) := by decide +kernel
theorem dX0_greatestPressure_20 : decode cX0_greatestPressure 20 = .ok (.iload 5, 2) := by decide +kernel
theorem dX0_greatestPressure_22 : decode cX0_greatestPressure 22 = .ok (.if_icmp .gt 45, 3) := by decide +kernel
theorem dX0_greatestPressure_25 : decode cX0_greatestPressure 25 = .ok (.iload 4, 2) := by decide +kernel
theorem dX0_greatestPressure_27 : decode cX0_greatestPressure 27 = .ok (.iload 5, 2) := by decide +kernel
theorem dX0_greatestPressure_29 : decode cX0_greatestPressure 29 = .ok (.iadd, 1) := by decide +kernel
theorem dX0_greatestPressure_30 : decode cX0_greatestPressure 30 = .ok (.iconst 2, 1) := by decide +kernel
theorem dX0_greatestPressure_31 : decode cX0_greatestPressure 31 = .ok (.idiv, 1) := by decide +kernel
theorem dX0_greatestPressure_32 : decode cX0_greatestPressure 32 = .ok (.istore 7, 2) := by decide +kernel
theorem dX0_greatestPressure_34 : decode cX0_greatestPressure 34 = .ok (.iload 7, 2) := by decide +kernel
theorem dX0_greatestPressure_36 : decode cX0_greatestPressure 36 = .ok (.invokestatic 9, 3) := by decide +kernel
theorem dX0_greatestPressure_39 : decode cX0_greatestPressure 39 = .ok (.iload_n 0, 1) := by decide +kernel
theorem dX0_greatestPressure_40 : decode cX0_greatestPressure 40 = .ok (.if_icmp .lt 15, 3) := by decide +kernel
theorem dX0_greatestPressure_43 : decode cX0_greatestPressure 43 = .ok (.iload 7, 2) := by decide +kernel
theorem dX0_greatestPressure_45 : decode cX0_greatestPressure 45 = .ok (.istore_n 3, 1) := by decide +kernel
theorem dX0_greatestPressure_46 : decode cX0_greatestPressure 46 = .ok (.iload 7, 2) := by decide +kernel
theorem dX0_greatestPressure_48 : decode cX0_greatestPressure 48 = .ok (.iconst 1, 1) := by decide +kernel
theorem dX0_greatestPressure_49 : decode cX0_greatestPressure 49 = .ok (.iadd, 1) := by decide +kernel
theorem dX0_greatestPressure_50 : decode cX0_greatestPressure 50 = .ok (.istore 4, 2) := by decide +kernel
theorem dX0_greatestPressure_52 : decode cX0_greatestPressure 52 = .ok (.goto 9, 3) := by decide +kernel
theorem dX0_greatestPressure_55 : decode cX0_greatestPressure 55 = .ok (.iload 7, 2) := by decide +kernel
theorem dX0_greatestPressure_57 : decode cX0_greatestPressure 57 = .ok (.iconst 1, 1) := by decide +kernel
theorem dX0_greatestPressure_58 : decode cX0_greatestPressure 58 = .ok (.isub, 1) := by decide +kernel
theorem dX0_greatestPressure_59 : decode cX0_greatestPressure 59 = .ok (.istore 5, 2) := by decide +kernel
theorem dX0_greatestPressure_61 : decode cX0_greatestPressure 61 = .ok (.iinc 6 1, 3) := by decide +kernel
theorem dX0_greatestPressure_64 : decode cX0_greatestPressure 64 = .ok (.goto (-53), 3) := by decide +kernel
theorem dX0_greatestPressure_67 : decode cX0_greatestPressure 67 = .ok (.iload_n 3, 1) := by decide +kernel
theorem dX0_greatestPressure_68 : decode cX0_greatestPressure 68 = .ok (.ireturn, 1) := by decide +kernel
set_option maxRecDepth 20000 in
theorem ggX0_nearestSea_X0_standardAltitude : GoodIn wsX0_nearestSea wsX0_standardAltitude := goodIn_r _ [4] (by decide +kernel) (by decide +kernel)
set_option maxRecDepth 20000 in
theorem gX0_nearestSea_X0_standardAltitude : GoodIn wsX0_nearestSea (va_wsS RX0 9 yX0_standardAltitude wsX0_standardAltitude) := goodIn_app (goodIn_of _ (by decide +kernel)) ggX0_nearestSea_X0_standardAltitude
set_option maxRecDepth 20000 in
theorem ggX0_nearestSea_X0_greatestPressure : GoodIn wsX0_nearestSea wsX0_greatestPressure := goodIn_r _ [7, 1, 2, 3, 4] (by decide +kernel) (by decide +kernel)
set_option maxRecDepth 20000 in
theorem gX0_nearestSea_X0_greatestPressure : GoodIn wsX0_nearestSea (va_wsS RX0 15 yX0_greatestPressure wsX0_greatestPressure) := goodIn_app (goodIn_of _ (by decide +kernel)) ggX0_nearestSea_X0_greatestPressure
set_option maxRecDepth 20000 in
theorem ggX0_nearestSea_X0_heightAt : GoodIn wsX0_nearestSea wsX0_heightAt := goodIn_r _ [10, 1, 2, 3, 4] (by decide +kernel) (by decide +kernel)
set_option maxRecDepth 20000 in
theorem gX0_nearestSea_X0_heightAt : GoodIn wsX0_nearestSea (va_wsS RX0 19 yX0_heightAt wsX0_heightAt) := goodIn_app (goodIn_of _ (by decide +kernel)) ggX0_nearestSea_X0_heightAt
theorem dX0_nearestSea_0 : decode cX0_nearestSea 0 = .ok (.iload_n 0, 1) := by decide +kernel
theorem dX0_nearestSea_1 : decode cX0_nearestSea 1 = .ok (.invokestatic 9, 3) := by decide +kernel
theorem dX0_nearestSea_4 : decode cX0_nearestSea 4 = .ok (.iload_n 1, 1) := by decide +kernel
theorem dX0_nearestSea_5 : decode cX0_nearestSea 5 = .ok (.isub, 1) := by decide +kernel
theorem dX0_nearestSea_6 : decode cX0_nearestSea 6 = .ok (.sipush 9000, 3) := by decide +kernel
theorem dX0_nearestSea_9 : decode cX0_nearestSea 9 = .ok (.sipush 10800, 3) := by decide +kernel
theorem dX0_nearestSea_12 : decode cX0_nearestSea 12 = .ok (.invokestatic 15, 3) := by decide +kernel
theorem dX0_nearestSea_15 : decode cX0_nearestSea 15 = .ok (.istore_n 2, 1) := by decide +kernel
theorem dX0_nearestSea_16 : decode cX0_nearestSea 16 = .ok (.iload_n 2, 1) := by decide +kernel
theorem dX0_nearestSea_17 : decode cX0_nearestSea 17 = .ok (.iconst (-1), 1) := by decide +kernel
theorem dX0_nearestSea_18 : decode cX0_nearestSea 18 = .ok (.if_icmp .ne 7, 3) := by decide +kernel
theorem dX0_nearestSea_21 : decode cX0_nearestSea 21 = .ok (.sipush 9000, 3) := by decide +kernel
theorem dX0_nearestSea_24 : decode cX0_nearestSea 24 = .ok (.ireturn, 1) := by decide +kernel
theorem dX0_nearestSea_25 : decode cX0_nearestSea 25 = .ok (.iload_n 2, 1) := by decide +kernel
theorem dX0_nearestSea_26 : decode cX0_nearestSea 26 = .ok (.sipush 10800, 3) := by decide +kernel
theorem dX0_nearestSea_29 : decode cX0_nearestSea 29 = .ok (.if_icmp .lt 7, 3) := by decide +kernel
theorem dX0_nearestSea_32 : decode cX0_nearestSea 32 = .ok (.sipush 10800, 3) := by decide +kernel
theorem dX0_nearestSea_35 : decode cX0_nearestSea 35 = .ok (.ireturn, 1) := by decide +kernel
theorem dX0_nearestSea_36 : decode cX0_nearestSea 36 = .ok (.iload_n 1, 1) := by decide +kernel
theorem dX0_nearestSea_37 : decode cX0_nearestSea 37 = .ok (.iload_n 0, 1) := by decide +kernel
theorem dX0_nearestSea_38 : decode cX0_nearestSea 38 = .ok (.iload_n 2, 1) := by decide +kernel
theorem dX0_nearestSea_39 : decode cX0_nearestSea 39 = .ok (.invokestatic 19, 3) := by decide +kernel
theorem dX0_nearestSea_42 : decode cX0_nearestSea 42 = .ok (.isub, 1) := by decide +kernel
theorem dX0_nearestSea_43 : decode cX0_nearestSea 43 = .ok (.istore_n 3, 1) := by decide +kernel
theorem dX0_nearestSea_44 : decode cX0_nearestSea 44 = .ok (.iload_n 0, 1) := by decide +kernel
theorem dX0_nearestSea_45 : decode cX0_nearestSea 45 = .ok (.iload_n 2, 1) := by decide +kernel
theorem dX0_nearestSea_46 : decode cX0_nearestSea 46 = .ok (.iconst 1, 1) := by decide +kernel
theorem dX0_nearestSea_47 : decode cX0_nearestSea 47 = .ok (.iadd, 1) := by decide +kernel
theorem dX0_nearestSea_48 : decode cX0_nearestSea 48 = .ok (.invokestatic 19, 3) := by decide +kernel
theorem dX0_nearestSea_51 : decode cX0_nearestSea 51 = .ok (.iload_n 1, 1) := by decide +kernel
theorem dX0_nearestSea_52 : decode cX0_nearestSea 52 = .ok (.isub, 1) := by decide +kernel
theorem dX0_nearestSea_53 : decode cX0_nearestSea 53 = .ok (.istore 4, 2) := by decide +kernel
theorem dX0_nearestSea_55 : decode cX0_nearestSea 55 = .ok (.iload_n 3, 1) := by decide +kernel
theorem dX0_nearestSea_56 : decode cX0_nearestSea 56 = .ok (.iload 4, 2) := by decide +kernel
theorem dX0_nearestSea_58 : decode cX0_nearestSea 58 = .ok (.if_icmp .gt 7, 3) := by decide +kernel
theorem dX0_nearestSea_61 : decode cX0_nearestSea 61 = .ok (.iload_n 2, 1) := by decide +kernel
theorem dX0_nearestSea_62 : decode cX0_nearestSea 62 = .ok (.goto 6, 3) := by decide +kernel
theorem dX0_nearestSea_65 : decode cX0_nearestSea 65 = .ok (.iload_n 2, 1) := by decide +kernel
theorem dX0_nearestSea_66 : decode cX0_nearestSea 66 = .ok (.iconst 1, 1) := by decide +kernel
theorem dX0_nearestSea_67 : decode cX0_nearestSea 67 = .ok (.iadd, 1) := by decide +kernel
theorem dX0_nearestSea_68 : decode cX0_nearestSea 68 = .ok (.ireturn, 1) := by decide +kernel
theorem dX1_init_0 : decode cX1_init 0 = .ok (.aload_n 0, 1) := by decide +kernel
theorem dX1_init_1 : decode cX1_init 1 = .ok (.invokespecial 3, 3) := by decide +kernel
theorem dX1_init_4 : decode cX1_init 4 = .ok (.aload_n 0, 1) := by decide +kernel
theorem dX1_init_5 : decode cX1_init 5 = .ok (.bipush 50, 2) := by decide +kernel
theorem dX1_init_7 : decode cX1_init 7 = .ok (.putfield 9, 3) := by decide +kernel
theorem dX1_init_10 : decode cX1_init 10 = .ok (.return_, 1) := by decide +kernel
theorem dX1_copyFrom_0 : decode cX1_copyFrom 0 = .ok (.aload_n 0, 1) := by decide +kernel
theorem dX1_copyFrom_1 : decode cX1_copyFrom 1 = .ok (.aload_n 1, 1) := by decide +kernel
theorem dX1_copyFrom_2 : decode cX1_copyFrom 2 = .ok (.getfield 15, 3) := by decide +kernel
theorem dX1_copyFrom_5 : decode cX1_copyFrom 5 = .ok (.putfield 15, 3) := by decide +kernel
theorem dX1_copyFrom_8 : decode cX1_copyFrom 8 = .ok (.aload_n 0, 1) := by decide +kernel
theorem dX1_copyFrom_9 : decode cX1_copyFrom 9 = .ok (.aload_n 1, 1) := by decide +kernel
theorem dX1_copyFrom_10 : decode cX1_copyFrom 10 = .ok (.getfield 18, 3) := by decide +kernel
theorem dX1_copyFrom_13 : decode cX1_copyFrom 13 = .ok (.putfield 18, 3) := by decide +kernel
theorem dX1_copyFrom_16 : decode cX1_copyFrom 16 = .ok (.aload_n 0, 1) := by decide +kernel
theorem dX1_copyFrom_17 : decode cX1_copyFrom 17 = .ok (.aload_n 1, 1) := by decide +kernel
theorem dX1_copyFrom_18 : decode cX1_copyFrom 18 = .ok (.getfield 21, 3) := by decide +kernel
theorem dX1_copyFrom_21 : decode cX1_copyFrom 21 = .ok (.putfield 21, 3) := by decide +kernel
theorem dX1_copyFrom_24 : decode cX1_copyFrom 24 = .ok (.aload_n 0, 1) := by decide +kernel
theorem dX1_copyFrom_25 : decode cX1_copyFrom 25 = .ok (.aload_n 1, 1) := by decide +kernel
theorem dX1_copyFrom_26 : decode cX1_copyFrom 26 = .ok (.getfield 9, 3) := by decide +kernel
theorem dX1_copyFrom_29 : decode cX1_copyFrom 29 = .ok (.putfield 9, 3) := by decide +kernel
theorem dX1_copyFrom_32 : decode cX1_copyFrom 32 = .ok (.return_, 1) := by decide +kernel
theorem dX1_take_0 : decode cX1_take 0 = .ok (.iload_n 1, 1) := by decide +kernel
theorem dX1_take_1 : decode cX1_take 1 = .ok (.aload_n 0, 1) := by decide +kernel
theorem dX1_take_2 : decode cX1_take 2 = .ok (.getfield 15, 3) := by decide +kernel
theorem dX1_take_5 : decode cX1_take 5 = .ok (.aload_n 0, 1) := by decide +kernel
theorem dX1_take_6 : decode cX1_take 6 = .ok (.getfield 9, 3) := by decide +kernel
theorem dX1_take_9 : decode cX1_take 9 = .ok (.iadd, 1) := by decide +kernel
theorem dX1_take_10 : decode cX1_take 10 = .ok (.if_icmp .lt 26, 3) := by decide +kernel
theorem dX1_take_13 : decode cX1_take 13 = .ok (.aload_n 0, 1) := by decide +kernel
theorem dX1_take_14 : decode cX1_take 14 = .ok (.dup, 1) := by decide +kernel
theorem dX1_take_15 : decode cX1_take 15 = .ok (.getfield 18, 3) := by decide +kernel
theorem dX1_take_18 : decode cX1_take 18 = .ok (.iload_n 1, 1) := by decide +kernel
theorem dX1_take_19 : decode cX1_take 19 = .ok (.aload_n 0, 1) := by decide +kernel
theorem dX1_take_20 : decode cX1_take 20 = .ok (.getfield 15, 3) := by decide +kernel
theorem dX1_take_23 : decode cX1_take 23 = .ok (.isub, 1) := by decide +kernel
theorem dX1_take_24 : decode cX1_take 24 = .ok (.iadd, 1) := by decide +kernel
theorem dX1_take_25 : decode cX1_take 25 = .ok (.putfield 18, 3) := by decide +kernel
theorem dX1_take_28 : decode cX1_take 28 = .ok (.aload_n 0, 1) := by decide +kernel
theorem dX1_take_29 : decode cX1_take 29 = .ok (.iload_n 1, 1) := by decide +kernel
theorem dX1_take_30 : decode cX1_take 30 = .ok (.putfield 15, 3) := by decide +kernel
theorem dX1_take_33 : decode cX1_take 33 = .ok (.goto 36, 3) := by decide +kernel
theorem dX1_take_36 : decode cX1_take 36 = .ok (.iload_n 1, 1) := by decide +kernel
theorem dX1_take_37 : decode cX1_take 37 = .ok (.aload_n 0, 1) := by decide +kernel
theorem dX1_take_38 : decode cX1_take 38 = .ok (.getfield 15, 3) := by decide +kernel
theorem dX1_take_41 : decode cX1_take 41 = .ok (.aload_n 0, 1) := by decide +kernel
theorem dX1_take_42 : decode cX1_take 42 = .ok (.getfield 9, 3) := by decide +kernel
theorem dX1_take_45 : decode cX1_take 45 = .ok (.isub, 1) := by decide +kernel
theorem dX1_take_46 : decode cX1_take 46 = .ok (.if_icmp .gt 23, 3) := by decide +kernel
theorem dX1_take_49 : decode cX1_take 49 = .ok (.aload_n 0, 1) := by decide +kernel
theorem dX1_take_50 : decode cX1_take 50 = .ok (.dup, 1) := by decide +kernel
theorem dX1_take_51 : decode cX1_take 51 = .ok (.getfield 21, 3) := by decide +kernel
theorem dX1_take_54 : decode cX1_take 54 = .ok (.aload_n 0, 1) := by decide +kernel
theorem dX1_take_55 : decode cX1_take 55 = .ok (.getfield 15, 3) := by decide +kernel
theorem dX1_take_58 : decode cX1_take 58 = .ok (.iload_n 1, 1) := by decide +kernel
theorem dX1_take_59 : decode cX1_take 59 = .ok (.isub, 1) := by decide +kernel
theorem dX1_take_60 : decode cX1_take 60 = .ok (.iadd, 1) := by decide +kernel
theorem dX1_take_61 : decode cX1_take 61 = .ok (.putfield 21, 3) := by decide +kernel
theorem dX1_take_64 : decode cX1_take 64 = .ok (.aload_n 0, 1) := by decide +kernel
theorem dX1_take_65 : decode cX1_take 65 = .ok (.iload_n 1, 1) := by decide +kernel
theorem dX1_take_66 : decode cX1_take 66 = .ok (.putfield 15, 3) := by decide +kernel
theorem dX1_take_69 : decode cX1_take 69 = .ok (.return_, 1) := by decide +kernel
theorem dX2_init_0 : decode cX2_init 0 = .ok (.aload_n 0, 1) := by decide +kernel
theorem dX2_init_1 : decode cX2_init 1 = .ok (.invokespecial 3, 3) := by decide +kernel
theorem dX2_init_4 : decode cX2_init 4 = .ok (.aload_n 0, 1) := by decide +kernel
theorem dX2_init_5 : decode cX2_init 5 = .ok (.bipush 10, 2) := by decide +kernel
theorem dX2_init_7 : decode cX2_init 7 = .ok (.newarray .int, 2) := by decide +kernel
theorem dX2_init_9 : decode cX2_init 9 = .ok (.putfield 9, 3) := by decide +kernel
theorem dX2_init_12 : decode cX2_init 12 = .ok (.aload_n 0, 1) := by decide +kernel
theorem dX2_init_13 : decode cX2_init 13 = .ok (.bipush 10, 2) := by decide +kernel
theorem dX2_init_15 : decode cX2_init 15 = .ok (.newarray .int, 2) := by decide +kernel
theorem dX2_init_17 : decode cX2_init 17 = .ok (.putfield 15, 3) := by decide +kernel
theorem dX2_init_20 : decode cX2_init 20 = .ok (.aload_n 0, 1) := by decide +kernel
theorem dX2_init_21 : decode cX2_init 21 = .ok (.bipush 10, 2) := by decide +kernel
theorem dX2_init_23 : decode cX2_init 23 = .ok (.newarray .int, 2) := by decide +kernel
theorem dX2_init_25 : decode cX2_init 25 = .ok (.putfield 18, 3) := by decide +kernel
theorem dX2_init_28 : decode cX2_init 28 = .ok (.return_, 1) := by decide +kernel
set_option maxRecDepth 20000 in
theorem ggX2_copyFrom_X9_copyRow : GoodIn wsX2_copyFrom wsX9_copyRow := goodIn_r _ [7, 8, 9, 10, 11, 12, 13, 14, 15] (by decide +kernel) (by decide +kernel)
set_option maxRecDepth 20000 in
theorem gX2_copyFrom_X9_copyRow_n21 : GoodIn wsX2_copyFrom (wsX9_copyRow) := ggX2_copyFrom_X9_copyRow
theorem dX2_copyFrom_0 : decode cX2_copyFrom 0 = .ok (.aload_n 1, 1) := by decide +kernel
theorem dX2_copyFrom_1 : decode cX2_copyFrom 1 = .ok (.getfield 9, 3) := by decide +kernel
theorem dX2_copyFrom_4 : decode cX2_copyFrom 4 = .ok (.aload_n 0, 1) := by decide +kernel
theorem dX2_copyFrom_5 : decode cX2_copyFrom 5 = .ok (.getfield 9, 3) := by decide +kernel
theorem dX2_copyFrom_8 : decode cX2_copyFrom 8 = .ok (.invokestatic 21, 3) := by decide +kernel
theorem dX2_copyFrom_11 : decode cX2_copyFrom 11 = .ok (.aload_n 1, 1) := by decide +kernel
theorem dX2_copyFrom_12 : decode cX2_copyFrom 12 = .ok (.getfield 15, 3) := by decide +kernel
theorem dX2_copyFrom_15 : decode cX2_copyFrom 15 = .ok (.aload_n 0, 1) := by decide +kernel
theorem dX2_copyFrom_16 : decode cX2_copyFrom 16 = .ok (.getfield 15, 3) := by decide +kernel
theorem dX2_copyFrom_19 : decode cX2_copyFrom 19 = .ok (.invokestatic 21, 3) := by decide +kernel
theorem dX2_copyFrom_22 : decode cX2_copyFrom 22 = .ok (.aload_n 1, 1) := by decide +kernel
theorem dX2_copyFrom_23 : decode cX2_copyFrom 23 = .ok (.getfield 18, 3) := by decide +kernel
theorem dX2_copyFrom_26 : decode cX2_copyFrom 26 = .ok (.aload_n 0, 1) := by decide +kernel
theorem dX2_copyFrom_27 : decode cX2_copyFrom 27 = .ok (.getfield 18, 3) := by decide +kernel
theorem dX2_copyFrom_30 : decode cX2_copyFrom 30 = .ok (.invokestatic 21, 3) := by decide +kernel
theorem dX2_copyFrom_33 : decode cX2_copyFrom 33 = .ok (.aload_n 0, 1) := by decide +kernel
theorem dX2_copyFrom_34 : decode cX2_copyFrom 34 = .ok (.aload_n 1, 1) := by decide +kernel
theorem dX2_copyFrom_35 : decode cX2_copyFrom 35 = .ok (.getfield 25, 3) := by decide +kernel
theorem dX2_copyFrom_38 : decode cX2_copyFrom 38 = .ok (.putfield 25, 3) := by decide +kernel
theorem dX2_copyFrom_41 : decode cX2_copyFrom 41 = .ok (.return_, 1) := by decide +kernel
set_option maxRecDepth 20000 in
theorem ggX2_add_X9_moveUp : GoodIn wsX2_add wsX9_moveUp := goodIn_r _ [7] (by decide +kernel) (by decide +kernel)
set_option maxRecDepth 20000 in
theorem gX2_add_X9_moveUp_n29 : GoodIn wsX2_add (wsX9_moveUp) := ggX2_add_X9_moveUp
theorem dX2_add_0 : decode cX2_add 0 = .ok (.aload_n 0, 1) := by decide +kernel
theorem dX2_add_1 : decode cX2_add 1 = .ok (.getfield 25, 3) := by decide +kernel
theorem dX2_add_4 : decode cX2_add 4 = .ok (.bipush 10, 2) := by decide +kernel
theorem dX2_add_6 : decode cX2_add 6 = .ok (.if_icmp .lt 30, 3) := by decide +kernel
theorem dX2_add_9 : decode cX2_add 9 = .ok (.aload_n 0, 1) := by decide +kernel
theorem dX2_add_10 : decode cX2_add 10 = .ok (.getfield 9, 3) := by decide +kernel
theorem dX2_add_13 : decode cX2_add 13 = .ok (.invokestatic 29, 3) := by decide +kernel
theorem dX2_add_16 : decode cX2_add 16 = .ok (.aload_n 0, 1) := by decide +kernel
theorem dX2_add_17 : decode cX2_add 17 = .ok (.getfield 15, 3) := by decide +kernel
theorem dX2_add_20 : decode cX2_add 20 = .ok (.invokestatic 29, 3) := by decide +kernel
theorem dX2_add_23 : decode cX2_add 23 = .ok (.aload_n 0, 1) := by decide +kernel
theorem dX2_add_24 : decode cX2_add 24 = .ok (.getfield 18, 3) := by decide +kernel
theorem dX2_add_27 : decode cX2_add 27 = .ok (.invokestatic 29, 3) := by decide +kernel
theorem dX2_add_30 : decode cX2_add 30 = .ok (.aload_n 0, 1) := by decide +kernel
theorem dX2_add_31 : decode cX2_add 31 = .ok (.bipush 9, 2) := by decide +kernel
theorem dX2_add_33 : decode cX2_add 33 = .ok (.putfield 25, 3) := by decide +kernel
theorem dX2_add_36 : decode cX2_add 36 = .ok (.aload_n 0, 1) := by decide +kernel
theorem dX2_add_37 : decode cX2_add 37 = .ok (.getfield 25, 3) := by decide +kernel
theorem dX2_add_40 : decode cX2_add 40 = .ok (.ifCond .lt 79, 3) := by decide +kernel
theorem dX2_add_43 : decode cX2_add 43 = .ok (.aload_n 0, 1) := by decide +kernel
theorem dX2_add_44 : decode cX2_add 44 = .ok (.getfield 25, 3) := by decide +kernel
theorem dX2_add_47 : decode cX2_add 47 = .ok (.aload_n 0, 1) := by decide +kernel
theorem dX2_add_48 : decode cX2_add 48 = .ok (.getfield 9, 3) := by decide +kernel
theorem dX2_add_51 : decode cX2_add 51 = .ok (.arraylength, 1) := by decide +kernel
theorem dX2_add_52 : decode cX2_add 52 = .ok (.if_icmp .ge 67, 3) := by decide +kernel
theorem dX2_add_55 : decode cX2_add 55 = .ok (.aload_n 0, 1) := by decide +kernel
theorem dX2_add_56 : decode cX2_add 56 = .ok (.getfield 25, 3) := by decide +kernel
theorem dX2_add_59 : decode cX2_add 59 = .ok (.aload_n 0, 1) := by decide +kernel
theorem dX2_add_60 : decode cX2_add 60 = .ok (.getfield 15, 3) := by decide +kernel
theorem dX2_add_63 : decode cX2_add 63 = .ok (.arraylength, 1) := by decide +kernel
theorem dX2_add_64 : decode cX2_add 64 = .ok (.if_icmp .ge 55, 3) := by decide +kernel
theorem dX2_add_67 : decode cX2_add 67 = .ok (.aload_n 0, 1) := by decide +kernel
theorem dX2_add_68 : decode cX2_add 68 = .ok (.getfield 25, 3) := by decide +kernel
theorem dX2_add_71 : decode cX2_add 71 = .ok (.aload_n 0, 1) := by decide +kernel
theorem dX2_add_72 : decode cX2_add 72 = .ok (.getfield 18, 3) := by decide +kernel
theorem dX2_add_75 : decode cX2_add 75 = .ok (.arraylength, 1) := by decide +kernel
theorem dX2_add_76 : decode cX2_add 76 = .ok (.if_icmp .ge 43, 3) := by decide +kernel
theorem dX2_add_79 : decode cX2_add 79 = .ok (.aload_n 0, 1) := by decide +kernel
theorem dX2_add_80 : decode cX2_add 80 = .ok (.getfield 9, 3) := by decide +kernel
theorem dX2_add_83 : decode cX2_add 83 = .ok (.aload_n 0, 1) := by decide +kernel
theorem dX2_add_84 : decode cX2_add 84 = .ok (.getfield 25, 3) := by decide +kernel
theorem dX2_add_87 : decode cX2_add 87 = .ok (.iload_n 1, 1) := by decide +kernel
theorem dX2_add_88 : decode cX2_add 88 = .ok (.iastore, 1) := by decide +kernel
theorem dX2_add_89 : decode cX2_add 89 = .ok (.aload_n 0, 1) := by decide +kernel
theorem dX2_add_90 : decode cX2_add 90 = .ok (.getfield 15, 3) := by decide +kernel
theorem dX2_add_93 : decode cX2_add 93 = .ok (.aload_n 0, 1) := by decide +kernel
theorem dX2_add_94 : decode cX2_add 94 = .ok (.getfield 25, 3) := by decide +kernel
theorem dX2_add_97 : decode cX2_add 97 = .ok (.iload_n 2, 1) := by decide +kernel
theorem dX2_add_98 : decode cX2_add 98 = .ok (.iastore, 1) := by decide +kernel
theorem dX2_add_99 : decode cX2_add 99 = .ok (.aload_n 0, 1) := by decide +kernel
theorem dX2_add_100 : decode cX2_add 100 = .ok (.getfield 18, 3) := by decide +kernel
theorem dX2_add_103 : decode cX2_add 103 = .ok (.aload_n 0, 1) := by decide +kernel
theorem dX2_add_104 : decode cX2_add 104 = .ok (.getfield 25, 3) := by decide +kernel
theorem dX2_add_107 : decode cX2_add 107 = .ok (.iload_n 3, 1) := by decide +kernel
theorem dX2_add_108 : decode cX2_add 108 = .ok (.iastore, 1) := by decide +kernel
theorem dX2_add_109 : decode cX2_add 109 = .ok (.aload_n 0, 1) := by decide +kernel
theorem dX2_add_110 : decode cX2_add 110 = .ok (.dup, 1) := by decide +kernel
theorem dX2_add_111 : decode cX2_add 111 = .ok (.getfield 25, 3) := by decide +kernel
theorem dX2_add_114 : decode cX2_add 114 = .ok (.iconst 1, 1) := by decide +kernel
theorem dX2_add_115 : decode cX2_add 115 = .ok (.iadd, 1) := by decide +kernel
theorem dX2_add_116 : decode cX2_add 116 = .ok (.putfield 25, 3) := by decide +kernel
theorem dX2_add_119 : decode cX2_add 119 = .ok (.return_, 1) := by decide +kernel
set_option maxRecDepth 20000 in
theorem ggX2_timeOf_X9_elementOf : GoodIn wsX2_timeOf wsX9_elementOf := goodIn_r _ [4] (by decide +kernel) (by decide +kernel)
set_option maxRecDepth 20000 in
theorem gX2_timeOf_X9_elementOf_n33 : GoodIn wsX2_timeOf (wsX9_elementOf) := ggX2_timeOf_X9_elementOf
theorem dX2_timeOf_0 : decode cX2_timeOf 0 = .ok (.aload_n 0, 1) := by decide +kernel
theorem dX2_timeOf_1 : decode cX2_timeOf 1 = .ok (.getfield 9, 3) := by decide +kernel
theorem dX2_timeOf_4 : decode cX2_timeOf 4 = .ok (.iload_n 1, 1) := by decide +kernel
theorem dX2_timeOf_5 : decode cX2_timeOf 5 = .ok (.invokestatic 33, 3) := by decide +kernel
theorem dX2_timeOf_8 : decode cX2_timeOf 8 = .ok (.ireturn, 1) := by decide +kernel
set_option maxRecDepth 20000 in
theorem ggX2_heightOf_X9_elementOf : GoodIn wsX2_heightOf wsX9_elementOf := goodIn_r _ [4] (by decide +kernel) (by decide +kernel)
set_option maxRecDepth 20000 in
theorem gX2_heightOf_X9_elementOf_n33 : GoodIn wsX2_heightOf (wsX9_elementOf) := ggX2_heightOf_X9_elementOf
theorem dX2_heightOf_0 : decode cX2_heightOf 0 = .ok (.aload_n 0, 1) := by decide +kernel
theorem dX2_heightOf_1 : decode cX2_heightOf 1 = .ok (.getfield 15, 3) := by decide +kernel
theorem dX2_heightOf_4 : decode cX2_heightOf 4 = .ok (.iload_n 1, 1) := by decide +kernel
theorem dX2_heightOf_5 : decode cX2_heightOf 5 = .ok (.invokestatic 33, 3) := by decide +kernel
theorem dX2_heightOf_8 : decode cX2_heightOf 8 = .ok (.ireturn, 1) := by decide +kernel
set_option maxRecDepth 20000 in
theorem ggX2_ascentOf_X9_elementOf : GoodIn wsX2_ascentOf wsX9_elementOf := goodIn_r _ [4] (by decide +kernel) (by decide +kernel)
set_option maxRecDepth 20000 in
theorem gX2_ascentOf_X9_elementOf_n33 : GoodIn wsX2_ascentOf (wsX9_elementOf) := ggX2_ascentOf_X9_elementOf
theorem dX2_ascentOf_0 : decode cX2_ascentOf 0 = .ok (.aload_n 0, 1) := by decide +kernel
theorem dX2_ascentOf_1 : decode cX2_ascentOf 1 = .ok (.getfield 18, 3) := by decide +kernel
theorem dX2_ascentOf_4 : decode cX2_ascentOf 4 = .ok (.iload_n 1, 1) := by decide +kernel
theorem dX2_ascentOf_5 : decode cX2_ascentOf 5 = .ok (.invokestatic 33, 3) := by decide +kernel
theorem dX2_ascentOf_8 : decode cX2_ascentOf 8 = .ok (.ireturn, 1) := by decide +kernel
set_option maxRecDepth 20000 in
theorem ggX3_init_X5_init : GoodIn wsX3_init wsX5_init := goodIn_r _ [9, 10, 2, 3, 11, 12, 13, 14, 15, 16, 17, 18, 19, 20, 21, 22, 23, 24, 25, 26, 27, 28, 29, 30, 31, 32, 33, 34, 35, 36, 37, 38, 39, 40, 41, 42, 43, 44, 45, 46, 47, 48, 49, 50, 53, 54, 55, 56, 57, 58, 59, 60, 61, 62, 63, 64, 65] (by decide +kernel) (by decide +kernel)
set_option maxRecDepth 20000 in
theorem gX3_init_X5_init_n9 : GoodIn wsX3_init (wsX5_init) := ggX3_init_X5_init
theorem dX3_init_0 : decode cX3_init 0 = .ok (.aload_n 0, 1) := by decide +kernel
theorem dX3_init_1 : decode cX3_init 1 = .ok (.invokespecial 1, 3) := by decide +kernel
theorem dX3_init_4 : decode cX3_init 4 = .ok (.aload_n 0, 1) := by decide +kernel
theorem dX3_init_5 : decode cX3_init 5 = .ok (.new 7, 3) := by decide +kernel
theorem dX3_init_8 : decode cX3_init 8 = .ok (.dup, 1) := by decide +kernel
theorem dX3_init_9 : decode cX3_init 9 = .ok (.invokespecial 9, 3) := by decide +kernel
theorem dX3_init_12 : decode cX3_init 12 = .ok (.putfield 10, 3) := by decide +kernel
theorem dX3_init_15 : decode cX3_init 15 = .ok (.return_, 1) := by decide +kernel
set_option maxRecDepth 20000 in
theorem ggX4_init_X5_init : GoodIn wsX4_init wsX5_init := goodIn_r _ [9, 10, 2, 3, 11, 12, 13, 14, 15, 16, 17, 18, 19, 20, 21, 22, 23, 24, 25, 26, 27, 28, 29, 30, 31, 32, 33, 34, 35, 36, 37, 38, 39, 40, 44, 45, 46, 47, 48, 49, 50, 51, 52, 53, 54, 55, 56, 57, 58, 59, 60, 61, 62, 63, 64, 65, 66] (by decide +kernel) (by decide +kernel)
set_option maxRecDepth 20000 in
theorem gX4_init_X5_init_n17 : GoodIn wsX4_init (wsX5_init) := ggX4_init_X5_init
theorem dX4_init_0 : decode cX4_init 0 = .ok (.aload_n 0, 1) := by decide +kernel
theorem dX4_init_1 : decode cX4_init 1 = .ok (.invokespecial 3, 3) := by decide +kernel
theorem dX4_init_4 : decode cX4_init 4 = .ok (.aload_n 0, 1) := by decide +kernel
theorem dX4_init_5 : decode cX4_init 5 = .ok (.bipush 6, 2) := by decide +kernel
theorem dX4_init_7 : decode cX4_init 7 = .ok (.anewarray 9, 3) := by decide +kernel
theorem dX4_init_10 : decode cX4_init 10 = .ok (.putfield 11, 3) := by decide +kernel
theorem dX4_init_13 : decode cX4_init 13 = .ok (.iconst 0, 1) := by decide +kernel
theorem dX4_init_14 : decode cX4_init 14 = .ok (.istore_n 1, 1) := by decide +kernel
theorem dX4_init_15 : decode cX4_init 15 = .ok (.iload_n 1, 1) := by decide +kernel
theorem dX4_init_16 : decode cX4_init 16 = .ok (.aload_n 0, 1) := by decide +kernel
theorem dX4_init_17 : decode cX4_init 17 = .ok (.getfield 11, 3) := by decide +kernel
theorem dX4_init_20 : decode cX4_init 20 = .ok (.arraylength, 1) := by decide +kernel
theorem dX4_init_21 : decode cX4_init 21 = .ok (.if_icmp .ge 22, 3) := by decide +kernel
theorem dX4_init_24 : decode cX4_init 24 = .ok (.aload_n 0, 1) := by decide +kernel
theorem dX4_init_25 : decode cX4_init 25 = .ok (.getfield 11, 3) := by decide +kernel
theorem dX4_init_28 : decode cX4_init 28 = .ok (.iload_n 1, 1) := by decide +kernel
theorem dX4_init_29 : decode cX4_init 29 = .ok (.new 9, 3) := by decide +kernel
theorem dX4_init_32 : decode cX4_init 32 = .ok (.dup, 1) := by decide +kernel
theorem dX4_init_33 : decode cX4_init 33 = .ok (.invokespecial 17, 3) := by decide +kernel
theorem dX4_init_36 : decode cX4_init 36 = .ok (.aastore, 1) := by decide +kernel
theorem dX4_init_37 : decode cX4_init 37 = .ok (.iinc 1 1, 3) := by decide +kernel
theorem dX4_init_40 : decode cX4_init 40 = .ok (.goto (-25), 3) := by decide +kernel
theorem dX4_init_43 : decode cX4_init 43 = .ok (.return_, 1) := by decide +kernel
set_option maxRecDepth 20000 in
theorem ggX4_save_X4_placeOf : GoodIn wsX4_save wsX4_placeOf := goodIn_r _ [11, 12, 64, 65, 66] (by decide +kernel) (by decide +kernel)
set_option maxRecDepth 20000 in
theorem gX4_save_X4_placeOf : GoodIn wsX4_save (wsV RX4 22 RX4 yX4_placeOf wsX4_placeOf) := goodIn_app (goodIn_of _ (by decide +kernel)) ggX4_save_X4_placeOf
set_option maxRecDepth 20000 in
theorem ggX4_save_X5_copyFrom : GoodIn wsX4_save wsX5_copyFrom := goodIn_r _ [17, 18, 19, 20, 21, 22, 23, 24, 25, 26, 27, 28, 29, 30, 31, 32, 33, 34, 35, 36, 37, 38, 39, 40, 41, 42, 43, 44, 45, 46, 47, 48, 49, 50, 4, 5, 6, 51, 52, 53, 54, 55, 56, 57, 58, 59, 60, 61, 62, 63, 67, 68, 69, 70, 71, 72, 73, 74, 75, 76, 77, 78, 79, 80, 81, 82, 83, 84, 85, 86, 87, 88, 89] (by decide +kernel) (by decide +kernel)
set_option maxRecDepth 20000 in
theorem gX4_save_X5_copyFrom : GoodIn wsX4_save (wsV RX4 26 RX5 yX5_copyFrom wsX5_copyFrom) := goodIn_app (goodIn_of _ (by decide +kernel)) ggX4_save_X5_copyFrom
theorem dX4_save_0 : decode cX4_save 0 = .ok (.aload_n 0, 1) := by decide +kernel
theorem dX4_save_1 : decode cX4_save 1 = .ok (.aload_n 0, 1) := by decide +kernel
theorem dX4_save_2 : decode cX4_save 2 = .ok (.getfield 18, 3) := by decide +kernel
theorem dX4_save_5 : decode cX4_save 5 = .ok (.invokevirtual 22, 3) := by decide +kernel
theorem dX4_save_8 : decode cX4_save 8 = .ok (.astore_n 2, 1) := by decide +kernel
theorem dX4_save_9 : decode cX4_save 9 = .ok (.aload_n 2, 1) := by decide +kernel
theorem dX4_save_10 : decode cX4_save 10 = .ok (.ifnull 36, 3) := by decide +kernel
theorem dX4_save_13 : decode cX4_save 13 = .ok (.aload_n 2, 1) := by decide +kernel
theorem dX4_save_14 : decode cX4_save 14 = .ok (.aload_n 1, 1) := by decide +kernel
theorem dX4_save_15 : decode cX4_save 15 = .ok (.invokevirtual 26, 3) := by decide +kernel
theorem dX4_save_18 : decode cX4_save 18 = .ok (.aload_n 0, 1) := by decide +kernel
theorem dX4_save_19 : decode cX4_save 19 = .ok (.aload_n 0, 1) := by decide +kernel
theorem dX4_save_20 : decode cX4_save 20 = .ok (.getfield 18, 3) := by decide +kernel
theorem dX4_save_23 : decode cX4_save 23 = .ok (.iconst 1, 1) := by decide +kernel
theorem dX4_save_24 : decode cX4_save 24 = .ok (.iadd, 1) := by decide +kernel
theorem dX4_save_25 : decode cX4_save 25 = .ok (.bipush 6, 2) := by decide +kernel
theorem dX4_save_27 : decode cX4_save 27 = .ok (.irem, 1) := by decide +kernel
theorem dX4_save_28 : decode cX4_save 28 = .ok (.putfield 18, 3) := by decide +kernel
theorem dX4_save_31 : decode cX4_save 31 = .ok (.aload_n 0, 1) := by decide +kernel
theorem dX4_save_32 : decode cX4_save 32 = .ok (.aload_n 0, 1) := by decide +kernel
theorem dX4_save_33 : decode cX4_save 33 = .ok (.getfield 30, 3) := by decide +kernel
theorem dX4_save_36 : decode cX4_save 36 = .ok (.iconst 1, 1) := by decide +kernel
theorem dX4_save_37 : decode cX4_save 37 = .ok (.iadd, 1) := by decide +kernel
theorem dX4_save_38 : decode cX4_save 38 = .ok (.bipush 6, 2) := by decide +kernel
theorem dX4_save_40 : decode cX4_save 40 = .ok (.invokestatic 33, 3) := by decide +kernel
theorem dX4_save_43 : decode cX4_save 43 = .ok (.putfield 30, 3) := by decide +kernel
theorem dX4_save_46 : decode cX4_save 46 = .ok (.return_, 1) := by decide +kernel
set_option maxRecDepth 20000 in
theorem ggX4_restoreLast_X4_placeOf : GoodIn wsX4_restoreLast wsX4_placeOf := goodIn_r _ [7, 8, 63, 64, 65] (by decide +kernel) (by decide +kernel)
set_option maxRecDepth 20000 in
theorem gX4_restoreLast_X4_placeOf : GoodIn wsX4_restoreLast (wsV RX4 22 RX4 yX4_placeOf wsX4_placeOf) := goodIn_app (goodIn_of _ (by decide +kernel)) ggX4_restoreLast_X4_placeOf
set_option maxRecDepth 20000 in
theorem ggX4_restoreLast_X5_copyFrom : GoodIn wsX4_restoreLast wsX5_copyFrom := goodIn_r _ [13, 14, 15, 16, 17, 18, 19, 20, 21, 22, 23, 24, 25, 26, 27, 28, 29, 30, 31, 32, 33, 34, 35, 36, 37, 38, 39, 40, 41, 42, 43, 44, 45, 46, 47, 48, 49, 50, 51, 52, 53, 54, 55, 56, 57, 58, 59, 60, 61, 62, 66, 67, 68, 69, 70, 71, 72, 73, 74, 75, 76, 77, 78, 79, 80, 81, 82, 83, 84, 85, 86, 87, 88] (by decide +kernel) (by decide +kernel)
set_option maxRecDepth 20000 in
theorem gX4_restoreLast_X5_copyFrom : GoodIn wsX4_restoreLast (wsV RX4 26 RX5 yX5_copyFrom wsX5_copyFrom) := goodIn_app (goodIn_of _ (by decide +kernel)) ggX4_restoreLast_X5_copyFrom
theorem dX4_restoreLast_0 : decode cX4_restoreLast 0 = .ok (.aload_n 0, 1) := by decide +kernel
theorem dX4_restoreLast_1 : decode cX4_restoreLast 1 = .ok (.getfield 18, 3) := by decide +kernel
theorem dX4_restoreLast_4 : decode cX4_restoreLast 4 = .ok (.bipush 6, 2) := by decide +kernel
theorem dX4_restoreLast_6 : decode cX4_restoreLast 6 = .ok (.iadd, 1) := by decide +kernel
theorem dX4_restoreLast_7 : decode cX4_restoreLast 7 = .ok (.iconst 1, 1) := by decide +kernel
theorem dX4_restoreLast_8 : decode cX4_restoreLast 8 = .ok (.isub, 1) := by decide +kernel
theorem dX4_restoreLast_9 : decode cX4_restoreLast 9 = .ok (.bipush 6, 2) := by decide +kernel
theorem dX4_restoreLast_11 : decode cX4_restoreLast 11 = .ok (.irem, 1) := by decide +kernel
theorem dX4_restoreLast_12 : decode cX4_restoreLast 12 = .ok (.istore_n 2, 1) := by decide +kernel
theorem dX4_restoreLast_13 : decode cX4_restoreLast 13 = .ok (.aload_n 0, 1) := by decide +kernel
theorem dX4_restoreLast_14 : decode cX4_restoreLast 14 = .ok (.iload_n 2, 1) := by decide +kernel
theorem dX4_restoreLast_15 : decode cX4_restoreLast 15 = .ok (.invokevirtual 22, 3) := by decide +kernel
theorem dX4_restoreLast_18 : decode cX4_restoreLast 18 = .ok (.astore_n 3, 1) := by decide +kernel
theorem dX4_restoreLast_19 : decode cX4_restoreLast 19 = .ok (.aload_n 0, 1) := by decide +kernel
theorem dX4_restoreLast_20 : decode cX4_restoreLast 20 = .ok (.getfield 30, 3) := by decide +kernel
theorem dX4_restoreLast_23 : decode cX4_restoreLast 23 = .ok (.ifCond .le 27, 3) := by decide +kernel
theorem dX4_restoreLast_26 : decode cX4_restoreLast 26 = .ok (.aload_n 3, 1) := by decide +kernel
theorem dX4_restoreLast_27 : decode cX4_restoreLast 27 = .ok (.ifnull 23, 3) := by decide +kernel
theorem dX4_restoreLast_30 : decode cX4_restoreLast 30 = .ok (.aload_n 1, 1) := by decide +kernel
theorem dX4_restoreLast_31 : decode cX4_restoreLast 31 = .ok (.aload_n 3, 1) := by decide +kernel
theorem dX4_restoreLast_32 : decode cX4_restoreLast 32 = .ok (.invokevirtual 26, 3) := by decide +kernel
theorem dX4_restoreLast_35 : decode cX4_restoreLast 35 = .ok (.aload_n 0, 1) := by decide +kernel
theorem dX4_restoreLast_36 : decode cX4_restoreLast 36 = .ok (.iload_n 2, 1) := by decide +kernel
theorem dX4_restoreLast_37 : decode cX4_restoreLast 37 = .ok (.putfield 18, 3) := by decide +kernel
theorem dX4_restoreLast_40 : decode cX4_restoreLast 40 = .ok (.aload_n 0, 1) := by decide +kernel
theorem dX4_restoreLast_41 : decode cX4_restoreLast 41 = .ok (.dup, 1) := by decide +kernel
theorem dX4_restoreLast_42 : decode cX4_restoreLast 42 = .ok (.getfield 30, 3) := by decide +kernel
theorem dX4_restoreLast_45 : decode cX4_restoreLast 45 = .ok (.iconst 1, 1) := by decide +kernel
theorem dX4_restoreLast_46 : decode cX4_restoreLast 46 = .ok (.isub, 1) := by decide +kernel
theorem dX4_restoreLast_47 : decode cX4_restoreLast 47 = .ok (.putfield 30, 3) := by decide +kernel
theorem dX4_restoreLast_50 : decode cX4_restoreLast 50 = .ok (.return_, 1) := by decide +kernel
theorem dX4_placeOf_0 : decode cX4_placeOf 0 = .ok (.iload_n 1, 1) := by decide +kernel
theorem dX4_placeOf_1 : decode cX4_placeOf 1 = .ok (.ifCond .lt 21, 3) := by decide +kernel
theorem dX4_placeOf_4 : decode cX4_placeOf 4 = .ok (.iload_n 1, 1) := by decide +kernel
theorem dX4_placeOf_5 : decode cX4_placeOf 5 = .ok (.aload_n 0, 1) := by decide +kernel
theorem dX4_placeOf_6 : decode cX4_placeOf 6 = .ok (.getfield 11, 3) := by decide +kernel
theorem dX4_placeOf_9 : decode cX4_placeOf 9 = .ok (.arraylength, 1) := by decide +kernel
theorem dX4_placeOf_10 : decode cX4_placeOf 10 = .ok (.if_icmp .ge 12, 3) := by decide +kernel
theorem dX4_placeOf_13 : decode cX4_placeOf 13 = .ok (.aload_n 0, 1) := by decide +kernel
theorem dX4_placeOf_14 : decode cX4_placeOf 14 = .ok (.getfield 11, 3) := by decide +kernel
theorem dX4_placeOf_17 : decode cX4_placeOf 17 = .ok (.iload_n 1, 1) := by decide +kernel
theorem dX4_placeOf_18 : decode cX4_placeOf 18 = .ok (.aaload, 1) := by decide +kernel
theorem dX4_placeOf_19 : decode cX4_placeOf 19 = .ok (.goto 4, 3) := by decide +kernel
theorem dX4_placeOf_22 : decode cX4_placeOf 22 = .ok (.aconst_null, 1) := by decide +kernel
theorem dX4_placeOf_23 : decode cX4_placeOf 23 = .ok (.areturn, 1) := by decide +kernel
set_option maxRecDepth 20000 in
theorem ggX5_init_X1_init : GoodIn wsX5_init wsX1_init := goodIn_r _ [19, 20, 2, 3, 21, 44, 45, 46, 47] (by decide +kernel) (by decide +kernel)
set_option maxRecDepth 20000 in
theorem gX5_init_X1_init_n20 : GoodIn wsX5_init (wsX1_init) := ggX5_init_X1_init
set_option maxRecDepth 20000 in
theorem ggX5_init_X8_init : GoodIn wsX5_init wsX8_init := goodIn_r _ [23, 24, 2, 3, 25, 26, 27, 48, 49, 50, 51, 52] (by decide +kernel) (by decide +kernel)
set_option maxRecDepth 20000 in
theorem gX5_init_X8_init_n27 : GoodIn wsX5_init (wsX8_init) := ggX5_init_X8_init
set_option maxRecDepth 20000 in
theorem ggX5_init_X2_init : GoodIn wsX5_init wsX2_init := goodIn_r _ [29, 30, 2, 3, 25, 31, 32, 33, 53, 54, 55, 56] (by decide +kernel) (by decide +kernel)
set_option maxRecDepth 20000 in
theorem gX5_init_X2_init_n34 : GoodIn wsX5_init (wsX2_init) := ggX5_init_X2_init
theorem dX5_init_0 : decode cX5_init 0 = .ok (.aload_n 0, 1) := by decide +kernel
theorem dX5_init_1 : decode cX5_init 1 = .ok (.invokespecial 3, 3) := by decide +kernel
theorem dX5_init_4 : decode cX5_init 4 = .ok (.aload_n 0, 1) := by decide +kernel
theorem dX5_init_5 : decode cX5_init 5 = .ok (.sipush 10132, 3) := by decide +kernel
theorem dX5_init_8 : decode cX5_init 8 = .ok (.putfield 9, 3) := by decide +kernel
theorem dX5_init_11 : decode cX5_init 11 = .ok (.aload_n 0, 1) := by decide +kernel
theorem dX5_init_12 : decode cX5_init 12 = .ok (.sipush 10132, 3) := by decide +kernel
theorem dX5_init_15 : decode cX5_init 15 = .ok (.putfield 15, 3) := by decide +kernel
theorem dX5_init_18 : decode cX5_init 18 = .ok (.aload_n 0, 1) := by decide +kernel
theorem dX5_init_19 : decode cX5_init 19 = .ok (.new 18, 3) := by decide +kernel
theorem dX5_init_22 : decode cX5_init 22 = .ok (.dup, 1) := by decide +kernel
theorem dX5_init_23 : decode cX5_init 23 = .ok (.invokespecial 20, 3) := by decide +kernel
theorem dX5_init_26 : decode cX5_init 26 = .ok (.putfield 21, 3) := by decide +kernel
theorem dX5_init_29 : decode cX5_init 29 = .ok (.aload_n 0, 1) := by decide +kernel
theorem dX5_init_30 : decode cX5_init 30 = .ok (.new 25, 3) := by decide +kernel
theorem dX5_init_33 : decode cX5_init 33 = .ok (.dup, 1) := by decide +kernel
theorem dX5_init_34 : decode cX5_init 34 = .ok (.invokespecial 27, 3) := by decide +kernel
theorem dX5_init_37 : decode cX5_init 37 = .ok (.putfield 28, 3) := by decide +kernel
theorem dX5_init_40 : decode cX5_init 40 = .ok (.aload_n 0, 1) := by decide +kernel
theorem dX5_init_41 : decode cX5_init 41 = .ok (.new 32, 3) := by decide +kernel
theorem dX5_init_44 : decode cX5_init 44 = .ok (.dup, 1) := by decide +kernel
theorem dX5_init_45 : decode cX5_init 45 = .ok (.invokespecial 34, 3) := by decide +kernel
theorem dX5_init_48 : decode cX5_init 48 = .ok (.putfield 35, 3) := by decide +kernel
theorem dX5_init_51 : decode cX5_init 51 = .ok (.return_, 1) := by decide +kernel
set_option maxRecDepth 20000 in
theorem ggX5_copyFrom_X1_copyFrom : GoodIn wsX5_copyFrom wsX1_copyFrom := goodIn_r _ [15, 16, 17, 18, 19, 60, 61, 62, 63] (by decide +kernel) (by decide +kernel)
set_option maxRecDepth 20000 in
theorem gX5_copyFrom_X1_copyFrom : GoodIn wsX5_copyFrom (wsV RX5 55 RX1 yX1_copyFrom wsX1_copyFrom) := goodIn_app (goodIn_of _ (by decide +kernel)) ggX5_copyFrom_X1_copyFrom
set_option maxRecDepth 20000 in
theorem ggX5_copyFrom_X8_copyFrom : GoodIn wsX5_copyFrom wsX8_copyFrom := goodIn_r _ [24, 25, 26, 27, 28, 29, 30, 31, 32, 33, 34, 35, 36, 37, 38, 39, 40, 64, 65, 66, 67, 68] (by decide +kernel) (by decide +kernel)
set_option maxRecDepth 20000 in
theorem gX5_copyFrom_X8_copyFrom : GoodIn wsX5_copyFrom (wsV RX5 59 RX8 yX8_copyFrom wsX8_copyFrom) := goodIn_app (goodIn_of _ (by decide +kernel)) ggX5_copyFrom_X8_copyFrom
set_option maxRecDepth 20000 in
theorem ggX5_copyFrom_X2_copyFrom : GoodIn wsX5_copyFrom wsX2_copyFrom := goodIn_r _ [45, 46, 47, 48, 49, 30, 31, 32, 33, 34, 35, 36, 37, 38, 39, 40, 69, 70, 71, 72] (by decide +kernel) (by decide +kernel)
set_option maxRecDepth 20000 in
theorem gX5_copyFrom_X2_copyFrom : GoodIn wsX5_copyFrom (wsV RX5 62 RX2 yX2_copyFrom wsX2_copyFrom) := goodIn_app (goodIn_of _ (by decide +kernel)) ggX5_copyFrom_X2_copyFrom
theorem dX5_copyFrom_0 : decode cX5_copyFrom 0 = .ok (.aload_n 0, 1) := by decide +kernel
theorem dX5_copyFrom_1 : decode cX5_copyFrom 1 = .ok (.aload_n 1, 1) := by decide +kernel
theorem dX5_copyFrom_2 : decode cX5_copyFrom 2 = .ok (.getfield 39, 3) := by decide +kernel
theorem dX5_copyFrom_5 : decode cX5_copyFrom 5 = .ok (.putfield 39, 3) := by decide +kernel
theorem dX5_copyFrom_8 : decode cX5_copyFrom 8 = .ok (.aload_n 0, 1) := by decide +kernel
theorem dX5_copyFrom_9 : decode cX5_copyFrom 9 = .ok (.aload_n 1, 1) := by decide +kernel
theorem dX5_copyFrom_10 : decode cX5_copyFrom 10 = .ok (.getfield 43, 3) := by decide +kernel
theorem dX5_copyFrom_13 : decode cX5_copyFrom 13 = .ok (.putfield 43, 3) := by decide +kernel
theorem dX5_copyFrom_16 : decode cX5_copyFrom 16 = .ok (.aload_n 0, 1) := by decide +kernel
theorem dX5_copyFrom_17 : decode cX5_copyFrom 17 = .ok (.aload_n 1, 1) := by decide +kernel
theorem dX5_copyFrom_18 : decode cX5_copyFrom 18 = .ok (.getfield 9, 3) := by decide +kernel
theorem dX5_copyFrom_21 : decode cX5_copyFrom 21 = .ok (.putfield 9, 3) := by decide +kernel
theorem dX5_copyFrom_24 : decode cX5_copyFrom 24 = .ok (.aload_n 0, 1) := by decide +kernel
theorem dX5_copyFrom_25 : decode cX5_copyFrom 25 = .ok (.aload_n 1, 1) := by decide +kernel
theorem dX5_copyFrom_26 : decode cX5_copyFrom 26 = .ok (.getfield 15, 3) := by decide +kernel
theorem dX5_copyFrom_29 : decode cX5_copyFrom 29 = .ok (.putfield 15, 3) := by decide +kernel
theorem dX5_copyFrom_32 : decode cX5_copyFrom 32 = .ok (.aload_n 0, 1) := by decide +kernel
theorem dX5_copyFrom_33 : decode cX5_copyFrom 33 = .ok (.aload_n 1, 1) := by decide +kernel
theorem dX5_copyFrom_34 : decode cX5_copyFrom 34 = .ok (.getfield 46, 3) := by decide +kernel
theorem dX5_copyFrom_37 : decode cX5_copyFrom 37 = .ok (.putfield 46, 3) := by decide +kernel
theorem dX5_copyFrom_40 : decode cX5_copyFrom 40 = .ok (.aload_n 0, 1) := by decide +kernel
theorem dX5_copyFrom_41 : decode cX5_copyFrom 41 = .ok (.aload_n 1, 1) := by decide +kernel
theorem dX5_copyFrom_42 : decode cX5_copyFrom 42 = .ok (.getfield 49, 3) := by decide +kernel
theorem dX5_copyFrom_45 : decode cX5_copyFrom 45 = .ok (.putfield 49, 3) := by decide +kernel
theorem dX5_copyFrom_48 : decode cX5_copyFrom 48 = .ok (.aload_n 0, 1) := by decide +kernel
theorem dX5_copyFrom_49 : decode cX5_copyFrom 49 = .ok (.aload_n 1, 1) := by decide +kernel
theorem dX5_copyFrom_50 : decode cX5_copyFrom 50 = .ok (.getfield 52, 3) := by decide +kernel
theorem dX5_copyFrom_53 : decode cX5_copyFrom 53 = .ok (.putfield 52, 3) := by decide +kernel
theorem dX5_copyFrom_56 : decode cX5_copyFrom 56 = .ok (.aload_n 0, 1) := by decide +kernel
theorem dX5_copyFrom_57 : decode cX5_copyFrom 57 = .ok (.getfield 21, 3) := by decide +kernel
theorem dX5_copyFrom_60 : decode cX5_copyFrom 60 = .ok (.aload_n 1, 1) := by decide +kernel
theorem dX5_copyFrom_61 : decode cX5_copyFrom 61 = .ok (.getfield 21, 3) := by decide +kernel
theorem dX5_copyFrom_64 : decode cX5_copyFrom 64 = .ok (.invokevirtual 55, 3) := by decide +kernel
theorem dX5_copyFrom_67 : decode cX5_copyFrom 67 = .ok (.aload_n 0, 1) := by decide +kernel
theorem dX5_copyFrom_68 : decode cX5_copyFrom 68 = .ok (.getfield 28, 3) := by decide +kernel
theorem dX5_copyFrom_71 : decode cX5_copyFrom 71 = .ok (.aload_n 1, 1) := by decide +kernel
theorem dX5_copyFrom_72 : decode cX5_copyFrom 72 = .ok (.getfield 28, 3) := by decide +kernel
theorem dX5_copyFrom_75 : decode cX5_copyFrom 75 = .ok (.invokevirtual 59, 3) := by decide +kernel
theorem dX5_copyFrom_78 : decode cX5_copyFrom 78 = .ok (.aload_n 0, 1) := by decide +kernel
theorem dX5_copyFrom_79 : decode cX5_copyFrom 79 = .ok (.getfield 35, 3) := by decide +kernel
theorem dX5_copyFrom_82 : decode cX5_copyFrom 82 = .ok (.aload_n 1, 1) := by decide +kernel
theorem dX5_copyFrom_83 : decode cX5_copyFrom 83 = .ok (.getfield 35, 3) := by decide +kernel
theorem dX5_copyFrom_86 : decode cX5_copyFrom 86 = .ok (.invokevirtual 62, 3) := by decide +kernel
theorem dX5_copyFrom_89 : decode cX5_copyFrom 89 = .ok (.return_, 1) := by decide +kernel
set_option maxRecDepth 20000 in
theorem ggX5_height_X0_heightAt : GoodIn wsX5_height wsX0_heightAt := goodIn_r _ [6, 7, 8, 5, 9] (by decide +kernel) (by decide +kernel)
set_option maxRecDepth 20000 in
theorem gX5_height_X0_heightAt : GoodIn wsX5_height (va_wsS RX5 65 yX0_heightAt wsX0_heightAt) := goodIn_app (goodIn_of _ (by decide +kernel)) ggX5_height_X0_heightAt
theorem dX5_height_0 : decode cX5_height 0 = .ok (.aload_n 0, 1) := by decide +kernel
theorem dX5_height_1 : decode cX5_height 1 = .ok (.getfield 9, 3) := by decide +kernel
theorem dX5_height_4 : decode cX5_height 4 = .ok (.aload_n 0, 1) := by decide +kernel
theorem dX5_height_5 : decode cX5_height 5 = .ok (.getfield 15, 3) := by decide +kernel
theorem dX5_height_8 : decode cX5_height 8 = .ok (.invokestatic 65, 3) := by decide +kernel
theorem dX5_height_11 : decode cX5_height 11 = .ok (.ireturn, 1) := by decide +kernel
set_option maxRecDepth 20000 in
theorem ggX5_switchStation_X8_empty : GoodIn wsX5_switchStation wsX8_empty := goodIn_r _ [10, 11, 12, 41, 42, 43, 44, 45] (by decide +kernel) (by decide +kernel)
set_option maxRecDepth 20000 in
theorem gX5_switchStation_X8_empty : GoodIn wsX5_switchStation (wsV RX5 71 RX8 yX8_empty wsX8_empty) := goodIn_app (goodIn_of _ (by decide +kernel)) ggX5_switchStation_X8_empty
set_option maxRecDepth 20000 in
theorem ggX5_switchStation_X5_height : GoodIn wsX5_switchStation wsX5_height := goodIn_r _ [17, 18, 19, 20, 21, 22, 23, 24, 25, 26, 27, 28, 29, 30, 31, 32, 33, 34, 35, 36] (by decide +kernel) (by decide +kernel)
set_option maxRecDepth 20000 in
theorem gX5_switchStation_X5_height : GoodIn wsX5_switchStation (wsV RX5 74 RX5 yX5_height wsX5_height) := goodIn_app (goodIn_of _ (by decide +kernel)) ggX5_switchStation_X5_height
theorem dX5_switchStation_0 : decode cX5_switchStation 0 = .ok (.aload_n 0, 1) := by decide +kernel
theorem dX5_switchStation_1 : decode cX5_switchStation 1 = .ok (.getfield 39, 3) := by decide +kernel
theorem dX5_switchStation_4 : decode cX5_switchStation 4 = .ok (.iload_n 1, 1) := by decide +kernel
theorem dX5_switchStation_5 : decode cX5_switchStation 5 = .ok (.if_icmp .ne 4, 3) := by decide +kernel
theorem dX5_switchStation_8 : decode cX5_switchStation 8 = .ok (.return_, 1) := by decide +kernel
theorem dX5_switchStation_9 : decode cX5_switchStation 9 = .ok (.aload_n 0, 1) := by decide +kernel
theorem dX5_switchStation_10 : decode cX5_switchStation 10 = .ok (.iload_n 1, 1) := by decide +kernel
theorem dX5_switchStation_11 : decode cX5_switchStation 11 = .ok (.putfield 39, 3) := by decide +kernel
theorem dX5_switchStation_14 : decode cX5_switchStation 14 = .ok (.aload_n 0, 1) := by decide +kernel
theorem dX5_switchStation_15 : decode cX5_switchStation 15 = .ok (.getfield 28, 3) := by decide +kernel
theorem dX5_switchStation_18 : decode cX5_switchStation 18 = .ok (.invokevirtual 71, 3) := by decide +kernel
theorem dX5_switchStation_21 : decode cX5_switchStation 21 = .ok (.iload_n 1, 1) := by decide +kernel
theorem dX5_switchStation_22 : decode cX5_switchStation 22 = .ok (.ifCond .eq 14, 3) := by decide +kernel
theorem dX5_switchStation_25 : decode cX5_switchStation 25 = .ok (.aload_n 0, 1) := by decide +kernel
theorem dX5_switchStation_26 : decode cX5_switchStation 26 = .ok (.aload_n 0, 1) := by decide +kernel
theorem dX5_switchStation_27 : decode cX5_switchStation 27 = .ok (.invokevirtual 74, 3) := by decide +kernel
theorem dX5_switchStation_30 : decode cX5_switchStation 30 = .ok (.putfield 43, 3) := by decide +kernel
theorem dX5_switchStation_33 : decode cX5_switchStation 33 = .ok (.goto 14, 3) := by decide +kernel
theorem dX5_switchStation_36 : decode cX5_switchStation 36 = .ok (.aload_n 0, 1) := by decide +kernel
theorem dX5_switchStation_37 : decode cX5_switchStation 37 = .ok (.getfield 21, 3) := by decide +kernel
theorem dX5_switchStation_40 : decode cX5_switchStation 40 = .ok (.aload_n 0, 1) := by decide +kernel
theorem dX5_switchStation_41 : decode cX5_switchStation 41 = .ok (.invokevirtual 74, 3) := by decide +kernel
theorem dX5_switchStation_44 : decode cX5_switchStation 44 = .ok (.putfield 78, 3) := by decide +kernel
theorem dX5_switchStation_47 : decode cX5_switchStation 47 = .ok (.return_, 1) := by decide +kernel
set_option maxRecDepth 20000 in
theorem ggX5_makeTrip_X0_onTheWay : GoodIn wsX5_makeTrip wsX0_onTheWay := goodIn_r _ [11] (by decide +kernel) (by decide +kernel)
set_option maxRecDepth 20000 in
theorem gX5_makeTrip_X0_onTheWay : GoodIn wsX5_makeTrip (va_wsS RX5 81 yX0_onTheWay wsX0_onTheWay) := goodIn_app (goodIn_of _ (by decide +kernel)) ggX5_makeTrip_X0_onTheWay
set_option maxRecDepth 20000 in
theorem ggX5_makeTrip_X0_nearestSea : GoodIn wsX5_makeTrip wsX0_nearestSea := goodIn_r _ [14, 15, 16, 10, 17, 18, 19, 20, 21, 22, 23] (by decide +kernel) (by decide +kernel)
set_option maxRecDepth 20000 in
theorem gX5_makeTrip_X0_nearestSea : GoodIn wsX5_makeTrip (va_wsS RX5 85 yX0_nearestSea wsX0_nearestSea) := goodIn_app (goodIn_of _ (by decide +kernel)) ggX5_makeTrip_X0_nearestSea
set_option maxRecDepth 20000 in
theorem ggX5_makeTrip_X8_passMinute : GoodIn wsX5_makeTrip wsX8_passMinute := goodIn_r _ [28, 29, 30, 31, 32, 33, 27, 34, 35, 36, 37, 38, 39, 40, 41, 42, 43, 44, 45, 46, 47, 48, 49, 50, 51, 52, 53, 54, 55, 56, 57, 58, 84, 85, 86, 87, 88] (by decide +kernel) (by decide +kernel)
set_option maxRecDepth 20000 in
theorem gX5_makeTrip_X8_passMinute : GoodIn wsX5_makeTrip (wsV RX5 88 RX8 yX8_passMinute wsX8_passMinute) := goodIn_app (goodIn_of _ (by decide +kernel)) ggX5_makeTrip_X8_passMinute
set_option maxRecDepth 20000 in
theorem ggX5_makeTrip_X5_height : GoodIn wsX5_makeTrip wsX5_height := goodIn_r _ [63, 1, 5, 64, 22, 10, 23, 15, 16, 17, 74, 75, 76, 77, 78, 79, 80, 81, 82, 83] (by decide +kernel) (by decide +kernel)
set_option maxRecDepth 20000 in
theorem gX5_makeTrip_X5_height : GoodIn wsX5_makeTrip (wsV RX5 74 RX5 yX5_height wsX5_height) := goodIn_app (goodIn_of _ (by decide +kernel)) ggX5_makeTrip_X5_height
set_option maxRecDepth 20000 in
theorem ggX5_makeTrip_X1_take : GoodIn wsX5_makeTrip wsX1_take := goodIn_r _ [69, 70, 71, 72, 73, 89, 90, 91, 92] (by decide +kernel) (by decide +kernel)
set_option maxRecDepth 20000 in
theorem gX5_makeTrip_X1_take : GoodIn wsX5_makeTrip (wsV RX5 92 RX1 yX1_take wsX1_take) := goodIn_app (goodIn_of _ (by decide +kernel)) ggX5_makeTrip_X1_take
theorem dX5_makeTrip_0 : decode cX5_makeTrip 0 = .ok (.aload_n 0, 1) := by decide +kernel
theorem dX5_makeTrip_1 : decode cX5_makeTrip 1 = .ok (.getfield 9, 3) := by decide +kernel
theorem dX5_makeTrip_4 : decode cX5_makeTrip 4 = .ok (.istore_n 3, 1) := by decide +kernel
theorem dX5_makeTrip_5 : decode cX5_makeTrip 5 = .ok (.iconst 1, 1) := by decide +kernel
theorem dX5_makeTrip_6 : decode cX5_makeTrip 6 = .ok (.istore 4, 2) := by decide +kernel
theorem dX5_makeTrip_8 : decode cX5_makeTrip 8 = .ok (.iload 4, 2) := by decide +kernel
theorem dX5_makeTrip_10 : decode cX5_makeTrip 10 = .ok (.iload_n 1, 1) := by decide +kernel
theorem dX5_makeTrip_11 : decode cX5_makeTrip 11 = .ok (.if_icmp .gt 78, 3) := by decide +kernel
theorem dX5_makeTrip_14 : decode cX5_makeTrip 14 = .ok (.aload_n 0, 1) := by decide +kernel
theorem dX5_makeTrip_15 : decode cX5_makeTrip 15 = .ok (.iload_n 3, 1) := by decide +kernel
theorem dX5_makeTrip_16 : decode cX5_makeTrip 16 = .ok (.iload_n 2, 1) := by decide +kernel
theorem dX5_makeTrip_17 : decode cX5_makeTrip 17 = .ok (.iload 4, 2) := by decide +kernel
theorem dX5_makeTrip_19 : decode cX5_makeTrip 19 = .ok (.iload_n 1, 1) := by decide +kernel
theorem dX5_makeTrip_20 : decode cX5_makeTrip 20 = .ok (.invokestatic 81, 3) := by decide +kernel
theorem dX5_makeTrip_23 : decode cX5_makeTrip 23 = .ok (.putfield 9, 3) := by decide +kernel
theorem dX5_makeTrip_26 : decode cX5_makeTrip 26 = .ok (.aload_n 0, 1) := by decide +kernel
theorem dX5_makeTrip_27 : decode cX5_makeTrip 27 = .ok (.dup, 1) := by decide +kernel
theorem dX5_makeTrip_28 : decode cX5_makeTrip 28 = .ok (.getfield 46, 3) := by decide +kernel
theorem dX5_makeTrip_31 : decode cX5_makeTrip 31 = .ok (.iconst 1, 1) := by decide +kernel
theorem dX5_makeTrip_32 : decode cX5_makeTrip 32 = .ok (.iadd, 1) := by decide +kernel
theorem dX5_makeTrip_33 : decode cX5_makeTrip 33 = .ok (.putfield 46, 3) := by decide +kernel
theorem dX5_makeTrip_36 : decode cX5_makeTrip 36 = .ok (.aload_n 0, 1) := by decide +kernel
theorem dX5_makeTrip_37 : decode cX5_makeTrip 37 = .ok (.getfield 39, 3) := by decide +kernel
theorem dX5_makeTrip_40 : decode cX5_makeTrip 40 = .ok (.ifCond .eq 32, 3) := by decide +kernel
theorem dX5_makeTrip_43 : decode cX5_makeTrip 43 = .ok (.aload_n 0, 1) := by decide +kernel
theorem dX5_makeTrip_44 : decode cX5_makeTrip 44 = .ok (.aload_n 0, 1) := by decide +kernel
theorem dX5_makeTrip_45 : decode cX5_makeTrip 45 = .ok (.getfield 9, 3) := by decide +kernel
theorem dX5_makeTrip_48 : decode cX5_makeTrip 48 = .ok (.aload_n 0, 1) := by decide +kernel
theorem dX5_makeTrip_49 : decode cX5_makeTrip 49 = .ok (.getfield 43, 3) := by decide +kernel
theorem dX5_makeTrip_52 : decode cX5_makeTrip 52 = .ok (.invokestatic 85, 3) := by decide +kernel
theorem dX5_makeTrip_55 : decode cX5_makeTrip 55 = .ok (.putfield 15, 3) := by decide +kernel
theorem dX5_makeTrip_58 : decode cX5_makeTrip 58 = .ok (.aload_n 0, 1) := by decide +kernel
theorem dX5_makeTrip_59 : decode cX5_makeTrip 59 = .ok (.getfield 28, 3) := by decide +kernel
theorem dX5_makeTrip_62 : decode cX5_makeTrip 62 = .ok (.aload_n 0, 1) := by decide +kernel
theorem dX5_makeTrip_63 : decode cX5_makeTrip 63 = .ok (.getfield 9, 3) := by decide +kernel
theorem dX5_makeTrip_66 : decode cX5_makeTrip 66 = .ok (.invokevirtual 88, 3) := by decide +kernel
theorem dX5_makeTrip_69 : decode cX5_makeTrip 69 = .ok (.goto 14, 3) := by decide +kernel
theorem dX5_makeTrip_72 : decode cX5_makeTrip 72 = .ok (.aload_n 0, 1) := by decide +kernel
theorem dX5_makeTrip_73 : decode cX5_makeTrip 73 = .ok (.getfield 21, 3) := by decide +kernel
theorem dX5_makeTrip_76 : decode cX5_makeTrip 76 = .ok (.aload_n 0, 1) := by decide +kernel
theorem dX5_makeTrip_77 : decode cX5_makeTrip 77 = .ok (.invokevirtual 74, 3) := by decide +kernel
theorem dX5_makeTrip_80 : decode cX5_makeTrip 80 = .ok (.invokevirtual 92, 3) := by decide +kernel
theorem dX5_makeTrip_83 : decode cX5_makeTrip 83 = .ok (.iinc 4 1, 3) := by decide +kernel
theorem dX5_makeTrip_86 : decode cX5_makeTrip 86 = .ok (.goto (-78), 3) := by decide +kernel
theorem dX5_makeTrip_89 : decode cX5_makeTrip 89 = .ok (.return_, 1) := by decide +kernel
set_option maxRecDepth 20000 in
theorem ggX5_takeSea_X5_height : GoodIn wsX5_takeSea wsX5_height := goodIn_r _ [10, 11, 1, 12, 13, 14, 15, 16, 17, 18, 19, 20, 21, 22, 23, 24, 25, 26, 27, 28] (by decide +kernel) (by decide +kernel)
set_option maxRecDepth 20000 in
theorem gX5_takeSea_X5_height : GoodIn wsX5_takeSea (wsV RX5 74 RX5 yX5_height wsX5_height) := goodIn_app (goodIn_of _ (by decide +kernel)) ggX5_takeSea_X5_height
theorem dX5_takeSea_0 : decode cX5_takeSea 0 = .ok (.aload_n 0, 1) := by decide +kernel
theorem dX5_takeSea_1 : decode cX5_takeSea 1 = .ok (.iload_n 1, 1) := by decide +kernel
theorem dX5_takeSea_2 : decode cX5_takeSea 2 = .ok (.putfield 15, 3) := by decide +kernel
theorem dX5_takeSea_5 : decode cX5_takeSea 5 = .ok (.aload_n 0, 1) := by decide +kernel
theorem dX5_takeSea_6 : decode cX5_takeSea 6 = .ok (.getfield 39, 3) := by decide +kernel
theorem dX5_takeSea_9 : decode cX5_takeSea 9 = .ok (.ifCond .eq 11, 3) := by decide +kernel
theorem dX5_takeSea_12 : decode cX5_takeSea 12 = .ok (.aload_n 0, 1) := by decide +kernel
theorem dX5_takeSea_13 : decode cX5_takeSea 13 = .ok (.aload_n 0, 1) := by decide +kernel
theorem dX5_takeSea_14 : decode cX5_takeSea 14 = .ok (.invokevirtual 74, 3) := by decide +kernel
theorem dX5_takeSea_17 : decode cX5_takeSea 17 = .ok (.putfield 43, 3) := by decide +kernel
theorem dX5_takeSea_20 : decode cX5_takeSea 20 = .ok (.aload_n 0, 1) := by decide +kernel
theorem dX5_takeSea_21 : decode cX5_takeSea 21 = .ok (.getfield 21, 3) := by decide +kernel
theorem dX5_takeSea_24 : decode cX5_takeSea 24 = .ok (.aload_n 0, 1) := by decide +kernel
theorem dX5_takeSea_25 : decode cX5_takeSea 25 = .ok (.invokevirtual 74, 3) := by decide +kernel
theorem dX5_takeSea_28 : decode cX5_takeSea 28 = .ok (.putfield 78, 3) := by decide +kernel
theorem dX5_takeSea_31 : decode cX5_takeSea 31 = .ok (.return_, 1) := by decide +kernel
set_option maxRecDepth 20000 in
theorem ggX5_correctTo_X5_height : GoodIn wsX5_correctTo wsX5_height := goodIn_r _ [8, 1, 9, 10, 11, 12, 13, 14, 15, 16, 32, 33, 34, 35, 36, 37, 38, 39, 40, 41] (by decide +kernel) (by decide +kernel)
set_option maxRecDepth 20000 in
theorem gX5_correctTo_X5_height : GoodIn wsX5_correctTo (wsV RX5 74 RX5 yX5_height wsX5_height) := goodIn_app (goodIn_of _ (by decide +kernel)) ggX5_correctTo_X5_height
set_option maxRecDepth 20000 in
theorem ggX5_correctTo_X0_nearestSea : GoodIn wsX5_correctTo wsX0_nearestSea := goodIn_r _ [19, 14, 15, 12, 16, 20, 21, 22, 23, 11, 13] (by decide +kernel) (by decide +kernel)
set_option maxRecDepth 20000 in
theorem gX5_correctTo_X0_nearestSea : GoodIn wsX5_correctTo (va_wsS RX5 85 yX0_nearestSea wsX0_nearestSea) := goodIn_app (goodIn_of _ (by decide +kernel)) ggX5_correctTo_X0_nearestSea
set_option maxRecDepth 20000 in
theorem ggX5_correctTo_X5_takeSea : GoodIn wsX5_correctTo wsX5_takeSea := goodIn_r _ [27, 9, 28, 29, 30, 31, 4, 5, 6, 7, 8, 1, 10, 11, 12, 13, 14, 15, 16, 32, 33, 34, 35, 36, 37, 38, 39, 40, 41, 42, 43, 44, 45] (by decide +kernel) (by decide +kernel)
set_option maxRecDepth 20000 in
theorem gX5_correctTo_X5_takeSea : GoodIn wsX5_correctTo (wsV RX5 95 RX5 yX5_takeSea wsX5_takeSea) := goodIn_app (goodIn_of _ (by decide +kernel)) ggX5_correctTo_X5_takeSea
theorem dX5_correctTo_0 : decode cX5_correctTo 0 = .ok (.aload_n 0, 1) := by decide +kernel
theorem dX5_correctTo_1 : decode cX5_correctTo 1 = .ok (.invokevirtual 74, 3) := by decide +kernel
theorem dX5_correctTo_4 : decode cX5_correctTo 4 = .ok (.iload_n 1, 1) := by decide +kernel
theorem dX5_correctTo_5 : decode cX5_correctTo 5 = .ok (.isub, 1) := by decide +kernel
theorem dX5_correctTo_6 : decode cX5_correctTo 6 = .ok (.istore_n 2, 1) := by decide +kernel
theorem dX5_correctTo_7 : decode cX5_correctTo 7 = .ok (.aload_n 0, 1) := by decide +kernel
theorem dX5_correctTo_8 : decode cX5_correctTo 8 = .ok (.aload_n 0, 1) := by decide +kernel
theorem dX5_correctTo_9 : decode cX5_correctTo 9 = .ok (.getfield 9, 3) := by decide +kernel
theorem dX5_correctTo_12 : decode cX5_correctTo 12 = .ok (.iload_n 1, 1) := by decide +kernel
theorem dX5_correctTo_13 : decode cX5_correctTo 13 = .ok (.invokestatic 85, 3) := by decide +kernel
theorem dX5_correctTo_16 : decode cX5_correctTo 16 = .ok (.invokevirtual 95, 3) := by decide +kernel
theorem dX5_correctTo_19 : decode cX5_correctTo 19 = .ok (.aload_n 0, 1) := by decide +kernel
theorem dX5_correctTo_20 : decode cX5_correctTo 20 = .ok (.dup, 1) := by decide +kernel
theorem dX5_correctTo_21 : decode cX5_correctTo 21 = .ok (.getfield 49, 3) := by decide +kernel
theorem dX5_correctTo_24 : decode cX5_correctTo 24 = .ok (.iload_n 2, 1) := by decide +kernel
theorem dX5_correctTo_25 : decode cX5_correctTo 25 = .ok (.iadd, 1) := by decide +kernel
theorem dX5_correctTo_26 : decode cX5_correctTo 26 = .ok (.putfield 49, 3) := by decide +kernel
theorem dX5_correctTo_29 : decode cX5_correctTo 29 = .ok (.aload_n 0, 1) := by decide +kernel
theorem dX5_correctTo_30 : decode cX5_correctTo 30 = .ok (.dup, 1) := by decide +kernel
theorem dX5_correctTo_31 : decode cX5_correctTo 31 = .ok (.getfield 52, 3) := by decide +kernel
theorem dX5_correctTo_34 : decode cX5_correctTo 34 = .ok (.iconst 1, 1) := by decide +kernel
theorem dX5_correctTo_35 : decode cX5_correctTo 35 = .ok (.iadd, 1) := by decide +kernel
theorem dX5_correctTo_36 : decode cX5_correctTo 36 = .ok (.putfield 52, 3) := by decide +kernel
theorem dX5_correctTo_39 : decode cX5_correctTo 39 = .ok (.iload_n 2, 1) := by decide +kernel
theorem dX5_correctTo_40 : decode cX5_correctTo 40 = .ok (.ireturn, 1) := by decide +kernel
set_option maxRecDepth 20000 in
theorem ggX5_addMark_X5_height : GoodIn wsX5_addMark wsX5_height := goodIn_r _ [9, 10, 11, 12, 13, 14, 15, 16, 17, 18, 31, 32, 33, 34, 35, 36, 37, 38, 39, 40] (by decide +kernel) (by decide +kernel)
set_option maxRecDepth 20000 in
theorem gX5_addMark_X5_height : GoodIn wsX5_addMark (wsV RX5 74 RX5 yX5_height wsX5_height) := goodIn_app (goodIn_of _ (by decide +kernel)) ggX5_addMark_X5_height
set_option maxRecDepth 20000 in
theorem ggX5_addMark_X2_add : GoodIn wsX5_addMark wsX2_add := goodIn_r _ [23, 24, 25, 26, 27, 28, 29, 30, 45, 46, 47, 48] (by decide +kernel) (by decide +kernel)
set_option maxRecDepth 20000 in
theorem gX5_addMark_X2_add : GoodIn wsX5_addMark (wsV RX5 101 RX2 yX2_add wsX2_add) := goodIn_app (goodIn_of _ (by decide +kernel)) ggX5_addMark_X2_add
theorem dX5_addMark_0 : decode cX5_addMark 0 = .ok (.aload_n 0, 1) := by decide +kernel
theorem dX5_addMark_1 : decode cX5_addMark 1 = .ok (.getfield 35, 3) := by decide +kernel
theorem dX5_addMark_4 : decode cX5_addMark 4 = .ok (.aload_n 0, 1) := by decide +kernel
theorem dX5_addMark_5 : decode cX5_addMark 5 = .ok (.getfield 46, 3) := by decide +kernel
theorem dX5_addMark_8 : decode cX5_addMark 8 = .ok (.aload_n 0, 1) := by decide +kernel
theorem dX5_addMark_9 : decode cX5_addMark 9 = .ok (.invokevirtual 74, 3) := by decide +kernel
theorem dX5_addMark_12 : decode cX5_addMark 12 = .ok (.aload_n 0, 1) := by decide +kernel
theorem dX5_addMark_13 : decode cX5_addMark 13 = .ok (.getfield 21, 3) := by decide +kernel
theorem dX5_addMark_16 : decode cX5_addMark 16 = .ok (.getfield 98, 3) := by decide +kernel
theorem dX5_addMark_19 : decode cX5_addMark 19 = .ok (.invokevirtual 101, 3) := by decide +kernel
theorem dX5_addMark_22 : decode cX5_addMark 22 = .ok (.return_, 1) := by decide +kernel
set_option maxRecDepth 20000 in
theorem ggX5_heightAfterTripTo_X0_nearestSea : GoodIn wsX5_heightAfterTripTo wsX0_nearestSea := goodIn_r _ [7, 8, 9, 6, 10, 11, 12, 13, 14, 15, 16] (by decide +kernel) (by decide +kernel)
set_option maxRecDepth 20000 in
theorem gX5_heightAfterTripTo_X0_nearestSea : GoodIn wsX5_heightAfterTripTo (va_wsS RX5 85 yX0_nearestSea wsX0_nearestSea) := goodIn_app (goodIn_of _ (by decide +kernel)) ggX5_heightAfterTripTo_X0_nearestSea
set_option maxRecDepth 20000 in
theorem ggX5_heightAfterTripTo_X0_heightAt : GoodIn wsX5_heightAfterTripTo wsX0_heightAt := goodIn_r _ [16, 8, 9, 6, 10] (by decide +kernel) (by decide +kernel)
set_option maxRecDepth 20000 in
theorem gX5_heightAfterTripTo_X0_heightAt : GoodIn wsX5_heightAfterTripTo (va_wsS RX5 65 yX0_heightAt wsX0_heightAt) := goodIn_app (goodIn_of _ (by decide +kernel)) ggX5_heightAfterTripTo_X0_heightAt
theorem dX5_heightAfterTripTo_0 : decode cX5_heightAfterTripTo 0 = .ok (.aload_n 0, 1) := by decide +kernel
theorem dX5_heightAfterTripTo_1 : decode cX5_heightAfterTripTo 1 = .ok (.getfield 39, 3) := by decide +kernel
theorem dX5_heightAfterTripTo_4 : decode cX5_heightAfterTripTo 4 = .ok (.ifCond .eq 14, 3) := by decide +kernel
theorem dX5_heightAfterTripTo_7 : decode cX5_heightAfterTripTo 7 = .ok (.iload_n 1, 1) := by decide +kernel
theorem dX5_heightAfterTripTo_8 : decode cX5_heightAfterTripTo 8 = .ok (.aload_n 0, 1) := by decide +kernel
theorem dX5_heightAfterTripTo_9 : decode cX5_heightAfterTripTo 9 = .ok (.getfield 43, 3) := by decide +kernel
theorem dX5_heightAfterTripTo_12 : decode cX5_heightAfterTripTo 12 = .ok (.invokestatic 85, 3) := by decide +kernel
theorem dX5_heightAfterTripTo_15 : decode cX5_heightAfterTripTo 15 = .ok (.goto 7, 3) := by decide +kernel
theorem dX5_heightAfterTripTo_18 : decode cX5_heightAfterTripTo 18 = .ok (.aload_n 0, 1) := by decide +kernel
theorem dX5_heightAfterTripTo_19 : decode cX5_heightAfterTripTo 19 = .ok (.getfield 15, 3) := by decide +kernel
theorem dX5_heightAfterTripTo_22 : decode cX5_heightAfterTripTo 22 = .ok (.istore_n 2, 1) := by decide +kernel
theorem dX5_heightAfterTripTo_23 : decode cX5_heightAfterTripTo 23 = .ok (.iload_n 1, 1) := by decide +kernel
theorem dX5_heightAfterTripTo_24 : decode cX5_heightAfterTripTo 24 = .ok (.iload_n 2, 1) := by decide +kernel
theorem dX5_heightAfterTripTo_25 : decode cX5_heightAfterTripTo 25 = .ok (.invokestatic 65, 3) := by decide +kernel
theorem dX5_heightAfterTripTo_28 : decode cX5_heightAfterTripTo 28 = .ok (.ireturn, 1) := by decide +kernel
set_option maxRecDepth 20000 in
theorem ggX5_ascentOfTrip_X1_init : GoodIn wsX5_ascentOfTrip wsX1_init := goodIn_r _ [10, 11, 12, 13, 14, 46, 47, 48, 49] (by decide +kernel) (by decide +kernel)
set_option maxRecDepth 20000 in
theorem gX5_ascentOfTrip_X1_init_n20 : GoodIn wsX5_ascentOfTrip (wsX1_init) := ggX5_ascentOfTrip_X1_init
set_option maxRecDepth 20000 in
theorem ggX5_ascentOfTrip_X1_copyFrom : GoodIn wsX5_ascentOfTrip wsX1_copyFrom := goodIn_r _ [18, 19, 20, 21, 14, 46, 47, 48, 49] (by decide +kernel) (by decide +kernel)
set_option maxRecDepth 20000 in
theorem gX5_ascentOfTrip_X1_copyFrom : GoodIn wsX5_ascentOfTrip (wsV RX5 55 RX1 yX1_copyFrom wsX1_copyFrom) := goodIn_app (goodIn_of _ (by decide +kernel)) ggX5_ascentOfTrip_X1_copyFrom
set_option maxRecDepth 20000 in
theorem ggX5_ascentOfTrip_X0_onTheWay : GoodIn wsX5_ascentOfTrip wsX0_onTheWay := goodIn_r _ [25] (by decide +kernel) (by decide +kernel)
set_option maxRecDepth 20000 in
theorem gX5_ascentOfTrip_X0_onTheWay : GoodIn wsX5_ascentOfTrip (va_wsS RX5 81 yX0_onTheWay wsX0_onTheWay) := goodIn_app (goodIn_of _ (by decide +kernel)) ggX5_ascentOfTrip_X0_onTheWay
set_option maxRecDepth 20000 in
theorem ggX5_ascentOfTrip_X0_heightAt : GoodIn wsX5_ascentOfTrip wsX0_heightAt := goodIn_r _ [28, 29, 30, 24, 31] (by decide +kernel) (by decide +kernel)
set_option maxRecDepth 20000 in
theorem gX5_ascentOfTrip_X0_heightAt : GoodIn wsX5_ascentOfTrip (va_wsS RX5 65 yX0_heightAt wsX0_heightAt) := goodIn_app (goodIn_of _ (by decide +kernel)) ggX5_ascentOfTrip_X0_heightAt
set_option maxRecDepth 20000 in
theorem ggX5_ascentOfTrip_X1_take : GoodIn wsX5_ascentOfTrip wsX1_take := goodIn_r _ [35, 19, 14, 20, 21, 46, 47, 48, 49] (by decide +kernel) (by decide +kernel)
set_option maxRecDepth 20000 in
theorem gX5_ascentOfTrip_X1_take : GoodIn wsX5_ascentOfTrip (wsV RX5 92 RX1 yX1_take wsX1_take) := goodIn_app (goodIn_of _ (by decide +kernel)) ggX5_ascentOfTrip_X1_take
theorem dX5_ascentOfTrip_0 : decode cX5_ascentOfTrip 0 = .ok (.aload_n 0, 1) := by decide +kernel
theorem dX5_ascentOfTrip_1 : decode cX5_ascentOfTrip 1 = .ok (.getfield 39, 3) := by decide +kernel
theorem dX5_ascentOfTrip_4 : decode cX5_ascentOfTrip 4 = .ok (.ifCond .eq 5, 3) := by decide +kernel
theorem dX5_ascentOfTrip_7 : decode cX5_ascentOfTrip 7 = .ok (.iconst 0, 1) := by decide +kernel
theorem dX5_ascentOfTrip_8 : decode cX5_ascentOfTrip 8 = .ok (.ireturn, 1) := by decide +kernel
theorem dX5_ascentOfTrip_9 : decode cX5_ascentOfTrip 9 = .ok (.new 18, 3) := by decide +kernel
theorem dX5_ascentOfTrip_12 : decode cX5_ascentOfTrip 12 = .ok (.dup, 1) := by decide +kernel
theorem dX5_ascentOfTrip_13 : decode cX5_ascentOfTrip 13 = .ok (.invokespecial 20, 3) := by decide +kernel
theorem dX5_ascentOfTrip_16 : decode cX5_ascentOfTrip 16 = .ok (.astore_n 3, 1) := by decide +kernel
theorem dX5_ascentOfTrip_17 : decode cX5_ascentOfTrip 17 = .ok (.aload_n 3, 1) := by decide +kernel
theorem dX5_ascentOfTrip_18 : decode cX5_ascentOfTrip 18 = .ok (.aload_n 0, 1) := by decide +kernel
theorem dX5_ascentOfTrip_19 : decode cX5_ascentOfTrip 19 = .ok (.getfield 21, 3) := by decide +kernel
theorem dX5_ascentOfTrip_22 : decode cX5_ascentOfTrip 22 = .ok (.invokevirtual 55, 3) := by decide +kernel
theorem dX5_ascentOfTrip_25 : decode cX5_ascentOfTrip 25 = .ok (.iconst 1, 1) := by decide +kernel
theorem dX5_ascentOfTrip_26 : decode cX5_ascentOfTrip 26 = .ok (.istore 4, 2) := by decide +kernel
theorem dX5_ascentOfTrip_28 : decode cX5_ascentOfTrip 28 = .ok (.iload 4, 2) := by decide +kernel
theorem dX5_ascentOfTrip_30 : decode cX5_ascentOfTrip 30 = .ok (.iload_n 1, 1) := by decide +kernel
theorem dX5_ascentOfTrip_31 : decode cX5_ascentOfTrip 31 = .ok (.if_icmp .gt 31, 3) := by decide +kernel
theorem dX5_ascentOfTrip_34 : decode cX5_ascentOfTrip 34 = .ok (.aload_n 3, 1) := by decide +kernel
theorem dX5_ascentOfTrip_35 : decode cX5_ascentOfTrip 35 = .ok (.aload_n 0, 1) := by decide +kernel
theorem dX5_ascentOfTrip_36 : decode cX5_ascentOfTrip 36 = .ok (.getfield 9, 3) := by decide +kernel
theorem dX5_ascentOfTrip_39 : decode cX5_ascentOfTrip 39 = .ok (.iload_n 2, 1) := by decide +kernel
theorem dX5_ascentOfTrip_40 : decode cX5_ascentOfTrip 40 = .ok (.iload 4, 2) := by decide +kernel
theorem dX5_ascentOfTrip_42 : decode cX5_ascentOfTrip 42 = .ok (.iload_n 1, 1) := by decide +kernel
theorem dX5_ascentOfTrip_43 : decode cX5_ascentOfTrip 43 = .ok (.invokestatic 81, 3) := by decide +kernel
theorem dX5_ascentOfTrip_46 : decode cX5_ascentOfTrip 46 = .ok (.aload_n 0, 1) := by decide +kernel
theorem dX5_ascentOfTrip_47 : decode cX5_ascentOfTrip 47 = .ok (.getfield 15, 3) := by decide +kernel
theorem dX5_ascentOfTrip_50 : decode cX5_ascentOfTrip 50 = .ok (.invokestatic 65, 3) := by decide +kernel
theorem dX5_ascentOfTrip_53 : decode cX5_ascentOfTrip 53 = .ok (.invokevirtual 92, 3) := by decide +kernel
theorem dX5_ascentOfTrip_56 : decode cX5_ascentOfTrip 56 = .ok (.iinc 4 1, 3) := by decide +kernel
theorem dX5_ascentOfTrip_59 : decode cX5_ascentOfTrip 59 = .ok (.goto (-31), 3) := by decide +kernel
theorem dX5_ascentOfTrip_62 : decode cX5_ascentOfTrip 62 = .ok (.aload_n 3, 1) := by decide +kernel
theorem dX5_ascentOfTrip_63 : decode cX5_ascentOfTrip 63 = .ok (.getfield 98, 3) := by decide +kernel
theorem dX5_ascentOfTrip_66 : decode cX5_ascentOfTrip 66 = .ok (.aload_n 0, 1) := by decide +kernel
theorem dX5_ascentOfTrip_67 : decode cX5_ascentOfTrip 67 = .ok (.getfield 21, 3) := by decide +kernel
theorem dX5_ascentOfTrip_70 : decode cX5_ascentOfTrip 70 = .ok (.getfield 98, 3) := by decide +kernel
theorem dX5_ascentOfTrip_73 : decode cX5_ascentOfTrip 73 = .ok (.isub, 1) := by decide +kernel
theorem dX5_ascentOfTrip_74 : decode cX5_ascentOfTrip 74 = .ok (.ireturn, 1) := by decide +kernel
set_option maxRecDepth 20000 in
theorem ggX5_pressureAtHeight_X0_standardAltitude : GoodIn wsX5_pressureAtHeight wsX0_standardAltitude := goodIn_r _ [5] (by decide +kernel) (by decide +kernel)
set_option maxRecDepth 20000 in
theorem gX5_pressureAtHeight_X0_standardAltitude : GoodIn wsX5_pressureAtHeight (va_wsS RX5 105 yX0_standardAltitude wsX0_standardAltitude) := goodIn_app (goodIn_of _ (by decide +kernel)) ggX5_pressureAtHeight_X0_standardAltitude
set_option maxRecDepth 20000 in
theorem ggX5_pressureAtHeight_X0_greatestPressure : GoodIn wsX5_pressureAtHeight wsX0_greatestPressure := goodIn_r _ [8, 9, 3, 4, 5] (by decide +kernel) (by decide +kernel)
set_option maxRecDepth 20000 in
theorem gX5_pressureAtHeight_X0_greatestPressure : GoodIn wsX5_pressureAtHeight (va_wsS RX5 109 yX0_greatestPressure wsX0_greatestPressure) := goodIn_app (goodIn_of _ (by decide +kernel)) ggX5_pressureAtHeight_X0_greatestPressure
theorem dX5_pressureAtHeight_0 : decode cX5_pressureAtHeight 0 = .ok (.iload_n 1, 1) := by decide +kernel
theorem dX5_pressureAtHeight_1 : decode cX5_pressureAtHeight 1 = .ok (.aload_n 0, 1) := by decide +kernel
theorem dX5_pressureAtHeight_2 : decode cX5_pressureAtHeight 2 = .ok (.getfield 15, 3) := by decide +kernel
theorem dX5_pressureAtHeight_5 : decode cX5_pressureAtHeight 5 = .ok (.invokestatic 105, 3) := by decide +kernel
theorem dX5_pressureAtHeight_8 : decode cX5_pressureAtHeight 8 = .ok (.iadd, 1) := by decide +kernel
theorem dX5_pressureAtHeight_9 : decode cX5_pressureAtHeight 9 = .ok (.sipush 5000, 3) := by decide +kernel
theorem dX5_pressureAtHeight_12 : decode cX5_pressureAtHeight 12 = .ok (.sipush 11000, 3) := by decide +kernel
theorem dX5_pressureAtHeight_15 : decode cX5_pressureAtHeight 15 = .ok (.invokestatic 109, 3) := by decide +kernel
theorem dX5_pressureAtHeight_18 : decode cX5_pressureAtHeight 18 = .ok (.ireturn, 1) := by decide +kernel
set_option maxRecDepth 20000 in
theorem ggX5_minutesUntilAlarm_X8_hasAlarm : GoodIn wsX5_minutesUntilAlarm wsX8_hasAlarm := goodIn_r _ [8, 9, 10, 11, 12, 7, 13, 14, 15, 16, 17, 18, 19, 20, 21, 22, 23, 24, 25, 26, 41, 42, 43, 44, 45] (by decide +kernel) (by decide +kernel)
set_option maxRecDepth 20000 in
theorem gX5_minutesUntilAlarm_X8_hasAlarm : GoodIn wsX5_minutesUntilAlarm (wsV RX5 113 RX8 yX8_hasAlarm wsX8_hasAlarm) := goodIn_app (goodIn_of _ (by decide +kernel)) ggX5_minutesUntilAlarm_X8_hasAlarm
set_option maxRecDepth 20000 in
theorem ggX5_minutesUntilAlarm_X8_minutesOfFall : GoodIn wsX5_minutesUntilAlarm wsX8_minutesOfFall := goodIn_r _ [30, 20, 21, 22, 23, 9, 16, 17, 18, 7, 19, 14, 15, 41, 42, 43, 44, 45] (by decide +kernel) (by decide +kernel)
set_option maxRecDepth 20000 in
theorem gX5_minutesUntilAlarm_X8_minutesOfFall : GoodIn wsX5_minutesUntilAlarm (wsV RX5 117 RX8 yX8_minutesOfFall wsX8_minutesOfFall) := goodIn_app (goodIn_of _ (by decide +kernel)) ggX5_minutesUntilAlarm_X8_minutesOfFall
theorem dX5_minutesUntilAlarm_0 : decode cX5_minutesUntilAlarm 0 = .ok (.aload_n 0, 1) := by decide +kernel
theorem dX5_minutesUntilAlarm_1 : decode cX5_minutesUntilAlarm 1 = .ok (.getfield 39, 3) := by decide +kernel
theorem dX5_minutesUntilAlarm_4 : decode cX5_minutesUntilAlarm 4 = .ok (.ifCond .ne 5, 3) := by decide +kernel
theorem dX5_minutesUntilAlarm_7 : decode cX5_minutesUntilAlarm 7 = .ok (.iconst (-1), 1) := by decide +kernel
theorem dX5_minutesUntilAlarm_8 : decode cX5_minutesUntilAlarm 8 = .ok (.ireturn, 1) := by decide +kernel
theorem dX5_minutesUntilAlarm_9 : decode cX5_minutesUntilAlarm 9 = .ok (.aload_n 0, 1) := by decide +kernel
theorem dX5_minutesUntilAlarm_10 : decode cX5_minutesUntilAlarm 10 = .ok (.getfield 28, 3) := by decide +kernel
theorem dX5_minutesUntilAlarm_13 : decode cX5_minutesUntilAlarm 13 = .ok (.invokevirtual 113, 3) := by decide +kernel
theorem dX5_minutesUntilAlarm_16 : decode cX5_minutesUntilAlarm 16 = .ok (.ifCond .eq 5, 3) := by decide +kernel
theorem dX5_minutesUntilAlarm_19 : decode cX5_minutesUntilAlarm 19 = .ok (.iconst 0, 1) := by decide +kernel
theorem dX5_minutesUntilAlarm_20 : decode cX5_minutesUntilAlarm 20 = .ok (.ireturn, 1) := by decide +kernel
theorem dX5_minutesUntilAlarm_21 : decode cX5_minutesUntilAlarm 21 = .ok (.aload_n 0, 1) := by decide +kernel
theorem dX5_minutesUntilAlarm_22 : decode cX5_minutesUntilAlarm 22 = .ok (.getfield 28, 3) := by decide +kernel
theorem dX5_minutesUntilAlarm_25 : decode cX5_minutesUntilAlarm 25 = .ok (.aload_n 0, 1) := by decide +kernel
theorem dX5_minutesUntilAlarm_26 : decode cX5_minutesUntilAlarm 26 = .ok (.getfield 9, 3) := by decide +kernel
theorem dX5_minutesUntilAlarm_29 : decode cX5_minutesUntilAlarm 29 = .ok (.iload_n 1, 1) := by decide +kernel
theorem dX5_minutesUntilAlarm_30 : decode cX5_minutesUntilAlarm 30 = .ok (.invokevirtual 117, 3) := by decide +kernel
theorem dX5_minutesUntilAlarm_33 : decode cX5_minutesUntilAlarm 33 = .ok (.ireturn, 1) := by decide +kernel
theorem dX7_init_0 : decode cX7_init 0 = .ok (.aload_n 0, 1) := by decide +kernel
theorem dX7_init_1 : decode cX7_init 1 = .ok (.invokespecial 3, 3) := by decide +kernel
theorem dX7_init_4 : decode cX7_init 4 = .ok (.aload_n 0, 1) := by decide +kernel
theorem dX7_init_5 : decode cX7_init 5 = .ok (.bipush 60, 2) := by decide +kernel
theorem dX7_init_7 : decode cX7_init 7 = .ok (.newarray .int, 2) := by decide +kernel
theorem dX7_init_9 : decode cX7_init 9 = .ok (.putfield 9, 3) := by decide +kernel
theorem dX7_init_12 : decode cX7_init 12 = .ok (.return_, 1) := by decide +kernel
theorem dX8_init_0 : decode cX8_init 0 = .ok (.aload_n 0, 1) := by decide +kernel
theorem dX8_init_1 : decode cX8_init 1 = .ok (.invokespecial 3, 3) := by decide +kernel
theorem dX8_init_4 : decode cX8_init 4 = .ok (.aload_n 0, 1) := by decide +kernel
theorem dX8_init_5 : decode cX8_init 5 = .ok (.bipush 60, 2) := by decide +kernel
theorem dX8_init_7 : decode cX8_init 7 = .ok (.newarray .int, 2) := by decide +kernel
theorem dX8_init_9 : decode cX8_init 9 = .ok (.putfield 9, 3) := by decide +kernel
theorem dX8_init_12 : decode cX8_init 12 = .ok (.aload_n 0, 1) := by decide +kernel
theorem dX8_init_13 : decode cX8_init 13 = .ok (.bipush 40, 2) := by decide +kernel
theorem dX8_init_15 : decode cX8_init 15 = .ok (.putfield 15, 3) := by decide +kernel
theorem dX8_init_18 : decode cX8_init 18 = .ok (.return_, 1) := by decide +kernel
set_option maxRecDepth 20000 in
theorem ggX8_copyFrom_X9_copyRow : GoodIn wsX8_copyFrom wsX9_copyRow := goodIn_r _ [8, 9, 10, 11, 12, 13, 14, 15, 16] (by decide +kernel) (by decide +kernel)
set_option maxRecDepth 20000 in
theorem gX8_copyFrom_X9_copyRow_n19 : GoodIn wsX8_copyFrom (wsX9_copyRow) := ggX8_copyFrom_X9_copyRow
theorem dX8_copyFrom_0 : decode cX8_copyFrom 0 = .ok (.aload_n 1, 1) := by decide +kernel
theorem dX8_copyFrom_1 : decode cX8_copyFrom 1 = .ok (.getfield 9, 3) := by decide +kernel
theorem dX8_copyFrom_4 : decode cX8_copyFrom 4 = .ok (.aload_n 0, 1) := by decide +kernel
theorem dX8_copyFrom_5 : decode cX8_copyFrom 5 = .ok (.getfield 9, 3) := by decide +kernel
theorem dX8_copyFrom_8 : decode cX8_copyFrom 8 = .ok (.invokestatic 19, 3) := by decide +kernel
theorem dX8_copyFrom_11 : decode cX8_copyFrom 11 = .ok (.aload_n 0, 1) := by decide +kernel
theorem dX8_copyFrom_12 : decode cX8_copyFrom 12 = .ok (.aload_n 1, 1) := by decide +kernel
theorem dX8_copyFrom_13 : decode cX8_copyFrom 13 = .ok (.getfield 23, 3) := by decide +kernel
theorem dX8_copyFrom_16 : decode cX8_copyFrom 16 = .ok (.putfield 23, 3) := by decide +kernel
theorem dX8_copyFrom_19 : decode cX8_copyFrom 19 = .ok (.aload_n 0, 1) := by decide +kernel
theorem dX8_copyFrom_20 : decode cX8_copyFrom 20 = .ok (.aload_n 1, 1) := by decide +kernel
theorem dX8_copyFrom_21 : decode cX8_copyFrom 21 = .ok (.getfield 15, 3) := by decide +kernel
theorem dX8_copyFrom_24 : decode cX8_copyFrom 24 = .ok (.putfield 15, 3) := by decide +kernel
theorem dX8_copyFrom_27 : decode cX8_copyFrom 27 = .ok (.aload_n 0, 1) := by decide +kernel
theorem dX8_copyFrom_28 : decode cX8_copyFrom 28 = .ok (.aload_n 1, 1) := by decide +kernel
theorem dX8_copyFrom_29 : decode cX8_copyFrom 29 = .ok (.getfield 26, 3) := by decide +kernel
theorem dX8_copyFrom_32 : decode cX8_copyFrom 32 = .ok (.putfield 26, 3) := by decide +kernel
theorem dX8_copyFrom_35 : decode cX8_copyFrom 35 = .ok (.aload_n 0, 1) := by decide +kernel
theorem dX8_copyFrom_36 : decode cX8_copyFrom 36 = .ok (.aload_n 1, 1) := by decide +kernel
theorem dX8_copyFrom_37 : decode cX8_copyFrom 37 = .ok (.getfield 29, 3) := by decide +kernel
theorem dX8_copyFrom_40 : decode cX8_copyFrom 40 = .ok (.putfield 29, 3) := by decide +kernel
theorem dX8_copyFrom_43 : decode cX8_copyFrom 43 = .ok (.return_, 1) := by decide +kernel
theorem dX8_empty_0 : decode cX8_empty 0 = .ok (.aload_n 0, 1) := by decide +kernel
theorem dX8_empty_1 : decode cX8_empty 1 = .ok (.iconst 0, 1) := by decide +kernel
theorem dX8_empty_2 : decode cX8_empty 2 = .ok (.putfield 23, 3) := by decide +kernel
theorem dX8_empty_5 : decode cX8_empty 5 = .ok (.aload_n 0, 1) := by decide +kernel
theorem dX8_empty_6 : decode cX8_empty 6 = .ok (.iconst 0, 1) := by decide +kernel
theorem dX8_empty_7 : decode cX8_empty 7 = .ok (.putfield 29, 3) := by decide +kernel
theorem dX8_empty_10 : decode cX8_empty 10 = .ok (.return_, 1) := by decide +kernel
set_option maxRecDepth 20000 in
theorem ggX8_passMinute_X8_log : GoodIn wsX8_passMinute wsX8_log := goodIn_r _ [7, 8, 9, 10, 11, 12, 32, 33, 34, 35, 36] (by decide +kernel) (by decide +kernel)
set_option maxRecDepth 20000 in
theorem gX8_passMinute_X8_log : GoodIn wsX8_passMinute (wsV RX8 33 RX8 yX8_log wsX8_log) := goodIn_app (goodIn_of _ (by decide +kernel)) ggX8_passMinute_X8_log
set_option maxRecDepth 20000 in
theorem ggX8_passMinute_X8_hasAlarm : GoodIn wsX8_passMinute wsX8_hasAlarm := goodIn_r _ [16, 17, 18, 19, 20, 6, 21, 8, 9, 22, 23, 24, 25, 26, 27, 28, 29, 30, 11, 31, 32, 33, 34, 35, 36] (by decide +kernel) (by decide +kernel)
set_option maxRecDepth 20000 in
theorem gX8_passMinute_X8_hasAlarm : GoodIn wsX8_passMinute (wsV RX8 37 RX8 yX8_hasAlarm wsX8_hasAlarm) := goodIn_app (goodIn_of _ (by decide +kernel)) ggX8_passMinute_X8_hasAlarm
theorem dX8_passMinute_0 : decode cX8_passMinute 0 = .ok (.aload_n 0, 1) := by decide +kernel
theorem dX8_passMinute_1 : decode cX8_passMinute 1 = .ok (.iload_n 1, 1) := by decide +kernel
theorem dX8_passMinute_2 : decode cX8_passMinute 2 = .ok (.invokevirtual 33, 3) := by decide +kernel
theorem dX8_passMinute_5 : decode cX8_passMinute 5 = .ok (.aload_n 0, 1) := by decide +kernel
theorem dX8_passMinute_6 : decode cX8_passMinute 6 = .ok (.invokevirtual 37, 3) := by decide +kernel
theorem dX8_passMinute_9 : decode cX8_passMinute 9 = .ok (.istore_n 2, 1) := by decide +kernel
theorem dX8_passMinute_10 : decode cX8_passMinute 10 = .ok (.iload_n 2, 1) := by decide +kernel
theorem dX8_passMinute_11 : decode cX8_passMinute 11 = .ok (.ifCond .eq 20, 3) := by decide +kernel
theorem dX8_passMinute_14 : decode cX8_passMinute 14 = .ok (.aload_n 0, 1) := by decide +kernel
theorem dX8_passMinute_15 : decode cX8_passMinute 15 = .ok (.getfield 29, 3) := by decide +kernel
theorem dX8_passMinute_18 : decode cX8_passMinute 18 = .ok (.ifCond .ne 13, 3) := by decide +kernel
theorem dX8_passMinute_21 : decode cX8_passMinute 21 = .ok (.aload_n 0, 1) := by decide +kernel
theorem dX8_passMinute_22 : decode cX8_passMinute 22 = .ok (.dup, 1) := by decide +kernel
theorem dX8_passMinute_23 : decode cX8_passMinute 23 = .ok (.getfield 26, 3) := by decide +kernel
theorem dX8_passMinute_26 : decode cX8_passMinute 26 = .ok (.iconst 1, 1) := by decide +kernel
theorem dX8_passMinute_27 : decode cX8_passMinute 27 = .ok (.iadd, 1) := by decide +kernel
theorem dX8_passMinute_28 : decode cX8_passMinute 28 = .ok (.putfield 26, 3) := by decide +kernel
theorem dX8_passMinute_31 : decode cX8_passMinute 31 = .ok (.aload_n 0, 1) := by decide +kernel
theorem dX8_passMinute_32 : decode cX8_passMinute 32 = .ok (.iload_n 2, 1) := by decide +kernel
theorem dX8_passMinute_33 : decode cX8_passMinute 33 = .ok (.putfield 29, 3) := by decide +kernel
theorem dX8_passMinute_36 : decode cX8_passMinute 36 = .ok (.return_, 1) := by decide +kernel
set_option maxRecDepth 20000 in
theorem ggX8_log_X9_moveUp : GoodIn wsX8_log wsX9_moveUp := goodIn_r _ [5] (by decide +kernel) (by decide +kernel)
set_option maxRecDepth 20000 in
theorem gX8_log_X9_moveUp_n41 : GoodIn wsX8_log (wsX9_moveUp) := ggX8_log_X9_moveUp
theorem dX8_log_0 : decode cX8_log 0 = .ok (.aload_n 0, 1) := by decide +kernel
theorem dX8_log_1 : decode cX8_log 1 = .ok (.getfield 23, 3) := by decide +kernel
theorem dX8_log_4 : decode cX8_log 4 = .ok (.bipush 60, 2) := by decide +kernel
theorem dX8_log_6 : decode cX8_log 6 = .ok (.if_icmp .lt 16, 3) := by decide +kernel
theorem dX8_log_9 : decode cX8_log 9 = .ok (.aload_n 0, 1) := by decide +kernel
theorem dX8_log_10 : decode cX8_log 10 = .ok (.getfield 9, 3) := by decide +kernel
theorem dX8_log_13 : decode cX8_log 13 = .ok (.invokestatic 41, 3) := by decide +kernel
theorem dX8_log_16 : decode cX8_log 16 = .ok (.aload_n 0, 1) := by decide +kernel
theorem dX8_log_17 : decode cX8_log 17 = .ok (.bipush 59, 2) := by decide +kernel
theorem dX8_log_19 : decode cX8_log 19 = .ok (.putfield 23, 3) := by decide +kernel
theorem dX8_log_22 : decode cX8_log 22 = .ok (.aload_n 0, 1) := by decide +kernel
theorem dX8_log_23 : decode cX8_log 23 = .ok (.getfield 23, 3) := by decide +kernel
theorem dX8_log_26 : decode cX8_log 26 = .ok (.ifCond .lt 35, 3) := by decide +kernel
theorem dX8_log_29 : decode cX8_log 29 = .ok (.aload_n 0, 1) := by decide +kernel
theorem dX8_log_30 : decode cX8_log 30 = .ok (.getfield 23, 3) := by decide +kernel
theorem dX8_log_33 : decode cX8_log 33 = .ok (.aload_n 0, 1) := by decide +kernel
theorem dX8_log_34 : decode cX8_log 34 = .ok (.getfield 9, 3) := by decide +kernel
theorem dX8_log_37 : decode cX8_log 37 = .ok (.arraylength, 1) := by decide +kernel
theorem dX8_log_38 : decode cX8_log 38 = .ok (.if_icmp .ge 23, 3) := by decide +kernel
theorem dX8_log_41 : decode cX8_log 41 = .ok (.aload_n 0, 1) := by decide +kernel
theorem dX8_log_42 : decode cX8_log 42 = .ok (.getfield 9, 3) := by decide +kernel
theorem dX8_log_45 : decode cX8_log 45 = .ok (.aload_n 0, 1) := by decide +kernel
theorem dX8_log_46 : decode cX8_log 46 = .ok (.getfield 23, 3) := by decide +kernel
theorem dX8_log_49 : decode cX8_log 49 = .ok (.iload_n 1, 1) := by decide +kernel
theorem dX8_log_50 : decode cX8_log 50 = .ok (.iastore, 1) := by decide +kernel
theorem dX8_log_51 : decode cX8_log 51 = .ok (.aload_n 0, 1) := by decide +kernel
theorem dX8_log_52 : decode cX8_log 52 = .ok (.dup, 1) := by decide +kernel
theorem dX8_log_53 : decode cX8_log 53 = .ok (.getfield 23, 3) := by decide +kernel
theorem dX8_log_56 : decode cX8_log 56 = .ok (.iconst 1, 1) := by decide +kernel
theorem dX8_log_57 : decode cX8_log 57 = .ok (.iadd, 1) := by decide +kernel
theorem dX8_log_58 : decode cX8_log 58 = .ok (.putfield 23, 3) := by decide +kernel
theorem dX8_log_61 : decode cX8_log 61 = .ok (.return_, 1) := by decide +kernel
set_option maxRecDepth 20000 in
theorem ggX8_hasAlarm_X8_presentFall : GoodIn wsX8_hasAlarm wsX8_presentFall := goodIn_r _ [6, 7, 8, 9, 10, 11, 5, 12, 13, 14, 15, 16, 17, 18, 19, 20, 21, 22, 23, 24] (by decide +kernel) (by decide +kernel)
set_option maxRecDepth 20000 in
theorem gX8_hasAlarm_X8_presentFall : GoodIn wsX8_hasAlarm (wsV RX8 45 RX8 yX8_presentFall wsX8_presentFall) := goodIn_app (goodIn_of _ (by decide +kernel)) ggX8_hasAlarm_X8_presentFall
theorem dX8_hasAlarm_0 : decode cX8_hasAlarm 0 = .ok (.aload_n 0, 1) := by decide +kernel
theorem dX8_hasAlarm_1 : decode cX8_hasAlarm 1 = .ok (.invokevirtual 45, 3) := by decide +kernel
theorem dX8_hasAlarm_4 : decode cX8_hasAlarm 4 = .ok (.aload_n 0, 1) := by decide +kernel
theorem dX8_hasAlarm_5 : decode cX8_hasAlarm 5 = .ok (.getfield 15, 3) := by decide +kernel
theorem dX8_hasAlarm_8 : decode cX8_hasAlarm 8 = .ok (.if_icmp .lt 7, 3) := by decide +kernel
theorem dX8_hasAlarm_11 : decode cX8_hasAlarm 11 = .ok (.iconst 1, 1) := by decide +kernel
theorem dX8_hasAlarm_12 : decode cX8_hasAlarm 12 = .ok (.goto 4, 3) := by decide +kernel
theorem dX8_hasAlarm_15 : decode cX8_hasAlarm 15 = .ok (.iconst 0, 1) := by decide +kernel
theorem dX8_hasAlarm_16 : decode cX8_hasAlarm 16 = .ok (.ireturn, 1) := by decide +kernel
set_option maxRecDepth 20000 in
theorem ggX8_presentFall_X8_greatestOfLatest : GoodIn wsX8_presentFall wsX8_greatestOfLatest := goodIn_r _ [7, 1, 8, 9, 10, 11, 2, 15, 16, 17, 18, 19] (by decide +kernel) (by decide +kernel)
set_option maxRecDepth 20000 in
theorem gX8_presentFall_X8_greatestOfLatest : GoodIn wsX8_presentFall (wsV RX8 49 RX8 yX8_greatestOfLatest wsX8_greatestOfLatest) := goodIn_app (goodIn_of _ (by decide +kernel)) ggX8_presentFall_X8_greatestOfLatest
set_option maxRecDepth 20000 in
theorem ggX8_presentFall_X9_elementOf : GoodIn wsX8_presentFall wsX9_elementOf := goodIn_r _ [14] (by decide +kernel) (by decide +kernel)
set_option maxRecDepth 20000 in
theorem gX8_presentFall_X9_elementOf_n53 : GoodIn wsX8_presentFall (wsX9_elementOf) := ggX8_presentFall_X9_elementOf
theorem dX8_presentFall_0 : decode cX8_presentFall 0 = .ok (.aload_n 0, 1) := by decide +kernel
theorem dX8_presentFall_1 : decode cX8_presentFall 1 = .ok (.aload_n 0, 1) := by decide +kernel
theorem dX8_presentFall_2 : decode cX8_presentFall 2 = .ok (.getfield 23, 3) := by decide +kernel
theorem dX8_presentFall_5 : decode cX8_presentFall 5 = .ok (.invokevirtual 49, 3) := by decide +kernel
theorem dX8_presentFall_8 : decode cX8_presentFall 8 = .ok (.aload_n 0, 1) := by decide +kernel
theorem dX8_presentFall_9 : decode cX8_presentFall 9 = .ok (.getfield 9, 3) := by decide +kernel
theorem dX8_presentFall_12 : decode cX8_presentFall 12 = .ok (.aload_n 0, 1) := by decide +kernel
theorem dX8_presentFall_13 : decode cX8_presentFall 13 = .ok (.getfield 23, 3) := by decide +kernel
theorem dX8_presentFall_16 : decode cX8_presentFall 16 = .ok (.iconst 1, 1) := by decide +kernel
theorem dX8_presentFall_17 : decode cX8_presentFall 17 = .ok (.isub, 1) := by decide +kernel
theorem dX8_presentFall_18 : decode cX8_presentFall 18 = .ok (.invokestatic 53, 3) := by decide +kernel
theorem dX8_presentFall_21 : decode cX8_presentFall 21 = .ok (.isub, 1) := by decide +kernel
theorem dX8_presentFall_22 : decode cX8_presentFall 22 = .ok (.ireturn, 1) := by decide +kernel
theorem dX8_greatestOfLatest_0 : decode cX8_greatestOfLatest 0 = .ok (.iconst 0, 1) := by decide +kernel
theorem dX8_greatestOfLatest_1 : decode cX8_greatestOfLatest 1 = .ok (.istore_n 2, 1) := by decide +kernel
theorem dX8_greatestOfLatest_2 : decode cX8_greatestOfLatest 2 = .ok (.iconst 0, 1) := by decide +kernel
theorem dX8_greatestOfLatest_3 : decode cX8_greatestOfLatest 3 = .ok (.aload_n 0, 1) := by decide +kernel
theorem dX8_greatestOfLatest_4 : decode cX8_greatestOfLatest 4 = .ok (.getfield 23, 3) := by decide +kernel
theorem dX8_greatestOfLatest_7 : decode cX8_greatestOfLatest 7 = .ok (.iload_n 1, 1) := by decide +kernel
theorem dX8_greatestOfLatest_8 : decode cX8_greatestOfLatest 8 = .ok (.isub, 1) := by decide +kernel
theorem dX8_greatestOfLatest_9 : decode cX8_greatestOfLatest 9 = .ok (.invokestatic 57, 3) := by decide +kernel
theorem dX8_greatestOfLatest_12 : decode cX8_greatestOfLatest 12 = .ok (.istore_n 3, 1) := by decide +kernel
theorem dX8_greatestOfLatest_13 : decode cX8_greatestOfLatest 13 = .ok (.iload_n 3, 1) := by decide +kernel
theorem dX8_greatestOfLatest_14 : decode cX8_greatestOfLatest 14 = .ok (.aload_n 0, 1) := by decide +kernel
theorem dX8_greatestOfLatest_15 : decode cX8_greatestOfLatest 15 = .ok (.getfield 23, 3) := by decide +kernel
theorem dX8_greatestOfLatest_18 : decode cX8_greatestOfLatest 18 = .ok (.if_icmp .ge 35, 3) := by decide +kernel
theorem dX8_greatestOfLatest_21 : decode cX8_greatestOfLatest 21 = .ok (.iload_n 3, 1) := by decide +kernel
theorem dX8_greatestOfLatest_22 : decode cX8_greatestOfLatest 22 = .ok (.aload_n 0, 1) := by decide +kernel
theorem dX8_greatestOfLatest_23 : decode cX8_greatestOfLatest 23 = .ok (.getfield 9, 3) := by decide +kernel
theorem dX8_greatestOfLatest_26 : decode cX8_greatestOfLatest 26 = .ok (.arraylength, 1) := by decide +kernel
theorem dX8_greatestOfLatest_27 : decode cX8_greatestOfLatest 27 = .ok (.if_icmp .ge 26, 3) := by decide +kernel
theorem dX8_greatestOfLatest_30 : decode cX8_greatestOfLatest 30 = .ok (.aload_n 0, 1) := by decide +kernel
theorem dX8_greatestOfLatest_31 : decode cX8_greatestOfLatest 31 = .ok (.getfield 9, 3) := by decide +kernel
theorem dX8_greatestOfLatest_34 : decode cX8_greatestOfLatest 34 = .ok (.iload_n 3, 1) := by decide +kernel
theorem dX8_greatestOfLatest_35 : decode cX8_greatestOfLatest 35 = .ok (.iaload, 1) := by decide +kernel
theorem dX8_greatestOfLatest_36 : decode cX8_greatestOfLatest 36 = .ok (.iload_n 2, 1) := by decide +kernel
theorem dX8_greatestOfLatest_37 : decode cX8_greatestOfLatest 37 = .ok (.if_icmp .le 10, 3) := by decide +kernel
theorem dX8_greatestOfLatest_40 : decode cX8_greatestOfLatest 40 = .ok (.aload_n 0, 1) := by decide +kernel
theorem dX8_greatestOfLatest_41 : decode cX8_greatestOfLatest 41 = .ok (.getfield 9, 3) := by decide +kernel
theorem dX8_greatestOfLatest_44 : decode cX8_greatestOfLatest 44 = .ok (.iload_n 3, 1) := by decide +kernel
theorem dX8_greatestOfLatest_45 : decode cX8_greatestOfLatest 45 = .ok (.iaload, 1) := by decide +kernel
theorem dX8_greatestOfLatest_46 : decode cX8_greatestOfLatest 46 = .ok (.istore_n 2, 1) := by decide +kernel
theorem dX8_greatestOfLatest_47 : decode cX8_greatestOfLatest 47 = .ok (.iinc 3 1, 3) := by decide +kernel
theorem dX8_greatestOfLatest_50 : decode cX8_greatestOfLatest 50 = .ok (.goto (-37), 3) := by decide +kernel
theorem dX8_greatestOfLatest_53 : decode cX8_greatestOfLatest 53 = .ok (.iload_n 2, 1) := by decide +kernel
theorem dX8_greatestOfLatest_54 : decode cX8_greatestOfLatest 54 = .ok (.ireturn, 1) := by decide +kernel
set_option maxRecDepth 20000 in
theorem ggX8_minutesOfFall_X8_greatestOfLatest : GoodIn wsX8_minutesOfFall wsX8_greatestOfLatest := goodIn_r _ [10, 11, 1, 2, 3, 4, 12, 13, 14, 15, 16, 17] (by decide +kernel) (by decide +kernel)
set_option maxRecDepth 20000 in
theorem gX8_minutesOfFall_X8_greatestOfLatest : GoodIn wsX8_minutesOfFall (wsV RX8 49 RX8 yX8_greatestOfLatest wsX8_greatestOfLatest) := goodIn_app (goodIn_of _ (by decide +kernel)) ggX8_minutesOfFall_X8_greatestOfLatest
theorem dX8_minutesOfFall_0 : decode cX8_minutesOfFall 0 = .ok (.iconst 1, 1) := by decide +kernel
theorem dX8_minutesOfFall_1 : decode cX8_minutesOfFall 1 = .ok (.istore_n 3, 1) := by decide +kernel
theorem dX8_minutesOfFall_2 : decode cX8_minutesOfFall 2 = .ok (.iload_n 3, 1) := by decide +kernel
theorem dX8_minutesOfFall_3 : decode cX8_minutesOfFall 3 = .ok (.bipush 60, 2) := by decide +kernel
theorem dX8_minutesOfFall_5 : decode cX8_minutesOfFall 5 = .ok (.if_icmp .gt 56, 3) := by decide +kernel
theorem dX8_minutesOfFall_8 : decode cX8_minutesOfFall 8 = .ok (.iload_n 1, 1) := by decide +kernel
theorem dX8_minutesOfFall_9 : decode cX8_minutesOfFall 9 = .ok (.iload_n 2, 1) := by decide +kernel
theorem dX8_minutesOfFall_10 : decode cX8_minutesOfFall 10 = .ok (.iload_n 3, 1) := by decide +kernel
theorem dX8_minutesOfFall_11 : decode cX8_minutesOfFall 11 = .ok (.imul, 1) := by decide +kernel
theorem dX8_minutesOfFall_12 : decode cX8_minutesOfFall 12 = .ok (.isub, 1) := by decide +kernel
theorem dX8_minutesOfFall_13 : decode cX8_minutesOfFall 13 = .ok (.istore 4, 2) := by decide +kernel
theorem dX8_minutesOfFall_15 : decode cX8_minutesOfFall 15 = .ok (.iload 4, 2) := by decide +kernel
theorem dX8_minutesOfFall_17 : decode cX8_minutesOfFall 17 = .ok (.sipush 5000, 3) := by decide +kernel
theorem dX8_minutesOfFall_20 : decode cX8_minutesOfFall 20 = .ok (.if_icmp .ge 5, 3) := by decide +kernel
theorem dX8_minutesOfFall_23 : decode cX8_minutesOfFall 23 = .ok (.iconst (-1), 1) := by decide +kernel
theorem dX8_minutesOfFall_24 : decode cX8_minutesOfFall 24 = .ok (.ireturn, 1) := by decide +kernel
theorem dX8_minutesOfFall_25 : decode cX8_minutesOfFall 25 = .ok (.aload_n 0, 1) := by decide +kernel
theorem dX8_minutesOfFall_26 : decode cX8_minutesOfFall 26 = .ok (.bipush 60, 2) := by decide +kernel
theorem dX8_minutesOfFall_28 : decode cX8_minutesOfFall 28 = .ok (.iload_n 3, 1) := by decide +kernel
theorem dX8_minutesOfFall_29 : decode cX8_minutesOfFall 29 = .ok (.isub, 1) := by decide +kernel
theorem dX8_minutesOfFall_30 : decode cX8_minutesOfFall 30 = .ok (.invokevirtual 49, 3) := by decide +kernel
theorem dX8_minutesOfFall_33 : decode cX8_minutesOfFall 33 = .ok (.iload_n 1, 1) := by decide +kernel
theorem dX8_minutesOfFall_34 : decode cX8_minutesOfFall 34 = .ok (.iload_n 2, 1) := by decide +kernel
theorem dX8_minutesOfFall_35 : decode cX8_minutesOfFall 35 = .ok (.isub, 1) := by decide +kernel
theorem dX8_minutesOfFall_36 : decode cX8_minutesOfFall 36 = .ok (.invokestatic 57, 3) := by decide +kernel
theorem dX8_minutesOfFall_39 : decode cX8_minutesOfFall 39 = .ok (.istore 5, 2) := by decide +kernel
theorem dX8_minutesOfFall_41 : decode cX8_minutesOfFall 41 = .ok (.iload 5, 2) := by decide +kernel
theorem dX8_minutesOfFall_43 : decode cX8_minutesOfFall 43 = .ok (.iload 4, 2) := by decide +kernel
theorem dX8_minutesOfFall_45 : decode cX8_minutesOfFall 45 = .ok (.isub, 1) := by decide +kernel
theorem dX8_minutesOfFall_46 : decode cX8_minutesOfFall 46 = .ok (.aload_n 0, 1) := by decide +kernel
theorem dX8_minutesOfFall_47 : decode cX8_minutesOfFall 47 = .ok (.getfield 15, 3) := by decide +kernel
theorem dX8_minutesOfFall_50 : decode cX8_minutesOfFall 50 = .ok (.if_icmp .lt 5, 3) := by decide +kernel
theorem dX8_minutesOfFall_53 : decode cX8_minutesOfFall 53 = .ok (.iload_n 3, 1) := by decide +kernel
theorem dX8_minutesOfFall_54 : decode cX8_minutesOfFall 54 = .ok (.ireturn, 1) := by decide +kernel
theorem dX8_minutesOfFall_55 : decode cX8_minutesOfFall 55 = .ok (.iinc 3 1, 3) := by decide +kernel
theorem dX8_minutesOfFall_58 : decode cX8_minutesOfFall 58 = .ok (.goto (-56), 3) := by decide +kernel
theorem dX8_minutesOfFall_61 : decode cX8_minutesOfFall 61 = .ok (.iconst (-1), 1) := by decide +kernel
theorem dX8_minutesOfFall_62 : decode cX8_minutesOfFall 62 = .ok (.ireturn, 1) := by decide +kernel
