theorem dX10_init_0 : decode cX10_init 0 = .ok (.aload_n 0, 1) := by decide +kernel
theorem dX10_init_1 : decode cX10_init 1 = .ok (.invokespecial 1, 3) := by decide +kernel
theorem dX10_init_4 : decode cX10_init 4 = .ok (.aload_n 0, 1) := by decide +kernel
theorem dX10_init_5 : decode cX10_init 5 = .ok (.sipush 1160, 3) := by decide +kernel
theorem dX10_init_8 : decode cX10_init 8 = .ok (.newarray .int, 2) := by decide +kernel
theorem dX10_init_10 : decode cX10_init 10 = .ok (.putfield 7, 3) := by decide +kernel
theorem dX10_init_13 : decode cX10_init 13 = .ok (.aload_n 0, 1) := by decide +kernel
theorem dX10_init_14 : decode cX10_init 14 = .ok (.iconst 2, 1) := by decide +kernel
theorem dX10_init_15 : decode cX10_init 15 = .ok (.newarray .boolean, 2) := by decide +kernel
theorem dX10_init_17 : decode cX10_init 17 = .ok (.putfield 13, 3) := by decide +kernel
theorem dX10_init_20 : decode cX10_init 20 = .ok (.aload_n 0, 1) := by decide +kernel
theorem dX10_init_21 : decode cX10_init 21 = .ok (.bipush 60, 2) := by decide +kernel
theorem dX10_init_23 : decode cX10_init 23 = .ok (.newarray .int, 2) := by decide +kernel
theorem dX10_init_25 : decode cX10_init 25 = .ok (.putfield 17, 3) := by decide +kernel
theorem dX10_init_28 : decode cX10_init 28 = .ok (.aload_n 0, 1) := by decide +kernel
theorem dX10_init_29 : decode cX10_init 29 = .ok (.getfield 7, 3) := by decide +kernel
theorem dX10_init_32 : decode cX10_init 32 = .ok (.iconst 0, 1) := by decide +kernel
theorem dX10_init_33 : decode cX10_init 33 = .ok (.sipush 10132, 3) := by decide +kernel
theorem dX10_init_36 : decode cX10_init 36 = .ok (.iastore, 1) := by decide +kernel
theorem dX10_init_37 : decode cX10_init 37 = .ok (.aload_n 0, 1) := by decide +kernel
theorem dX10_init_38 : decode cX10_init 38 = .ok (.getfield 7, 3) := by decide +kernel
theorem dX10_init_41 : decode cX10_init 41 = .ok (.iconst 1, 1) := by decide +kernel
theorem dX10_init_42 : decode cX10_init 42 = .ok (.sipush 10132, 3) := by decide +kernel
theorem dX10_init_45 : decode cX10_init 45 = .ok (.iastore, 1) := by decide +kernel
theorem dX10_init_46 : decode cX10_init 46 = .ok (.aload_n 0, 1) := by decide +kernel
theorem dX10_init_47 : decode cX10_init 47 = .ok (.getfield 7, 3) := by decide +kernel
theorem dX10_init_50 : decode cX10_init 50 = .ok (.bipush 10, 2) := by decide +kernel
theorem dX10_init_52 : decode cX10_init 52 = .ok (.bipush 50, 2) := by decide +kernel
theorem dX10_init_54 : decode cX10_init 54 = .ok (.iastore, 1) := by decide +kernel
theorem dX10_init_55 : decode cX10_init 55 = .ok (.aload_n 0, 1) := by decide +kernel
theorem dX10_init_56 : decode cX10_init 56 = .ok (.getfield 7, 3) := by decide +kernel
theorem dX10_init_59 : decode cX10_init 59 = .ok (.bipush 11, 2) := by decide +kernel
theorem dX10_init_61 : decode cX10_init 61 = .ok (.bipush 40, 2) := by decide +kernel
theorem dX10_init_63 : decode cX10_init 63 = .ok (.iastore, 1) := by decide +kernel
theorem dX10_init_64 : decode cX10_init 64 = .ok (.return_, 1) := by decide +kernel
theorem dX10_thrown_0 : decode cX10_thrown 0 = .ok (.aload_n 0, 1) := by decide +kernel
theorem dX10_thrown_1 : decode cX10_thrown 1 = .ok (.getfield 20, 3) := by decide +kernel
theorem dX10_thrown_4 : decode cX10_thrown 4 = .ok (.ireturn, 1) := by decide +kernel
theorem dX10_in_0 : decode cX10_in 0 = .ok (.iload_n 0, 1) := by decide +kernel
theorem dX10_in_1 : decode cX10_in 1 = .ok (.iload_n 1, 1) := by decide +kernel
theorem dX10_in_2 : decode cX10_in 2 = .ok (.if_icmp .lt 12, 3) := by decide +kernel
theorem dX10_in_5 : decode cX10_in 5 = .ok (.iload_n 0, 1) := by decide +kernel
theorem dX10_in_6 : decode cX10_in 6 = .ok (.iload_n 2, 1) := by decide +kernel
theorem dX10_in_7 : decode cX10_in 7 = .ok (.if_icmp .gt 7, 3) := by decide +kernel
theorem dX10_in_10 : decode cX10_in 10 = .ok (.iconst 1, 1) := by decide +kernel
theorem dX10_in_11 : decode cX10_in 11 = .ok (.goto 4, 3) := by decide +kernel
theorem dX10_in_14 : decode cX10_in 14 = .ok (.iconst 0, 1) := by decide +kernel
theorem dX10_in_15 : decode cX10_in 15 = .ok (.ireturn, 1) := by decide +kernel
theorem dX10_holds_0 : decode cX10_holds 0 = .ok (.aload_n 0, 1) := by decide +kernel
theorem dX10_holds_1 : decode cX10_holds 1 = .ok (.iload_n 1, 1) := by decide +kernel
theorem dX10_holds_2 : decode cX10_holds 2 = .ok (.putfield 20, 3) := by decide +kernel
theorem dX10_holds_5 : decode cX10_holds 5 = .ok (.iload_n 1, 1) := by decide +kernel
theorem dX10_holds_6 : decode cX10_holds 6 = .ok (.ifCond .ne 7, 3) := by decide +kernel
theorem dX10_holds_9 : decode cX10_holds 9 = .ok (.iconst 1, 1) := by decide +kernel
theorem dX10_holds_10 : decode cX10_holds 10 = .ok (.goto 4, 3) := by decide +kernel
theorem dX10_holds_13 : decode cX10_holds 13 = .ok (.iconst 0, 1) := by decide +kernel
theorem dX10_holds_14 : decode cX10_holds 14 = .ok (.ireturn, 1) := by decide +kernel
theorem dX10_size_0 : decode cX10_size 0 = .ok (.iload_n 0, 1) := by decide +kernel
theorem dX10_size_1 : decode cX10_size 1 = .ok (.ifCond .ge 8, 3) := by decide +kernel
theorem dX10_size_4 : decode cX10_size 4 = .ok (.iload_n 0, 1) := by decide +kernel
theorem dX10_size_5 : decode cX10_size 5 = .ok (.ineg, 1) := by decide +kernel
theorem dX10_size_6 : decode cX10_size 6 = .ok (.goto 4, 3) := by decide +kernel
theorem dX10_size_9 : decode cX10_size 9 = .ok (.iload_n 0, 1) := by decide +kernel
theorem dX10_size_10 : decode cX10_size 10 = .ok (.ireturn, 1) := by decide +kernel
theorem dX10_standardOf_0 : decode cX10_standardOf 0 = .ok (.sipush 10132, 3) := by decide +kernel
theorem dX10_standardOf_3 : decode cX10_standardOf 3 = .ok (.iload_n 0, 1) := by decide +kernel
theorem dX10_standardOf_4 : decode cX10_standardOf 4 = .ok (.isub, 1) := by decide +kernel
theorem dX10_standardOf_5 : decode cX10_standardOf 5 = .ok (.istore_n 1, 1) := by decide +kernel
theorem dX10_standardOf_6 : decode cX10_standardOf 6 = .ok (.iload_n 1, 1) := by decide +kernel
theorem dX10_standardOf_7 : decode cX10_standardOf 7 = .ok (.ifCond .lt 19, 3) := by decide +kernel
theorem dX10_standardOf_10 : decode cX10_standardOf 10 = .ok (.iload_n 1, 1) := by decide +kernel
theorem dX10_standardOf_11 : decode cX10_standardOf 11 = .ok (.bipush 83, 2) := by decide +kernel
theorem dX10_standardOf_13 : decode cX10_standardOf 13 = .ok (.iload_n 1, 1) := by decide +kernel
theorem dX10_standardOf_14 : decode cX10_standardOf 14 = .ok (.sipush 250, 3) := by decide +kernel
theorem dX10_standardOf_17 : decode cX10_standardOf 17 = .ok (.idiv, 1) := by decide +kernel
theorem dX10_standardOf_18 : decode cX10_standardOf 18 = .ok (.iadd, 1) := by decide +kernel
theorem dX10_standardOf_19 : decode cX10_standardOf 19 = .ok (.imul, 1) := by decide +kernel
theorem dX10_standardOf_20 : decode cX10_standardOf 20 = .ok (.bipush 10, 2) := by decide +kernel
theorem dX10_standardOf_22 : decode cX10_standardOf 22 = .ok (.idiv, 1) := by decide +kernel
theorem dX10_standardOf_23 : decode cX10_standardOf 23 = .ok (.goto 10, 3) := by decide +kernel
theorem dX10_standardOf_26 : decode cX10_standardOf 26 = .ok (.iload_n 1, 1) := by decide +kernel
theorem dX10_standardOf_27 : decode cX10_standardOf 27 = .ok (.bipush 83, 2) := by decide +kernel
theorem dX10_standardOf_29 : decode cX10_standardOf 29 = .ok (.imul, 1) := by decide +kernel
theorem dX10_standardOf_30 : decode cX10_standardOf 30 = .ok (.bipush 10, 2) := by decide +kernel
theorem dX10_standardOf_32 : decode cX10_standardOf 32 = .ok (.idiv, 1) := by decide +kernel
theorem dX10_standardOf_33 : decode cX10_standardOf 33 = .ok (.ireturn, 1) := by decide +kernel
set_option maxRecDepth 20000 in
theorem ggX10_altitudeAt_X10_standardOf : GoodIn wsX10_altitudeAt wsX10_standardOf := goodIn_r _ [5] (by decide +kernel) (by decide +kernel)
set_option maxRecDepth 20000 in
theorem gX10_altitudeAt_X10_standardOf : GoodIn wsX10_altitudeAt (va_wsS RX10 24 yX10_standardOf wsX10_standardOf) := goodIn_app (goodIn_of _ (by decide +kernel)) ggX10_altitudeAt_X10_standardOf
theorem dX10_altitudeAt_0 : decode cX10_altitudeAt 0 = .ok (.aload_n 0, 1) := by decide +kernel
theorem dX10_altitudeAt_1 : decode cX10_altitudeAt 1 = .ok (.getfield 7, 3) := by decide +kernel
theorem dX10_altitudeAt_4 : decode cX10_altitudeAt 4 = .ok (.iload_n 1, 1) := by decide +kernel
theorem dX10_altitudeAt_5 : decode cX10_altitudeAt 5 = .ok (.iconst 0, 1) := by decide +kernel
theorem dX10_altitudeAt_6 : decode cX10_altitudeAt 6 = .ok (.iadd, 1) := by decide +kernel
theorem dX10_altitudeAt_7 : decode cX10_altitudeAt 7 = .ok (.iaload, 1) := by decide +kernel
theorem dX10_altitudeAt_8 : decode cX10_altitudeAt 8 = .ok (.invokestatic 24, 3) := by decide +kernel
theorem dX10_altitudeAt_11 : decode cX10_altitudeAt 11 = .ok (.aload_n 0, 1) := by decide +kernel
theorem dX10_altitudeAt_12 : decode cX10_altitudeAt 12 = .ok (.getfield 7, 3) := by decide +kernel
theorem dX10_altitudeAt_15 : decode cX10_altitudeAt 15 = .ok (.iload_n 1, 1) := by decide +kernel
theorem dX10_altitudeAt_16 : decode cX10_altitudeAt 16 = .ok (.iconst 1, 1) := by decide +kernel
theorem dX10_altitudeAt_17 : decode cX10_altitudeAt 17 = .ok (.iadd, 1) := by decide +kernel
theorem dX10_altitudeAt_18 : decode cX10_altitudeAt 18 = .ok (.iaload, 1) := by decide +kernel
theorem dX10_altitudeAt_19 : decode cX10_altitudeAt 19 = .ok (.invokestatic 24, 3) := by decide +kernel
theorem dX10_altitudeAt_22 : decode cX10_altitudeAt 22 = .ok (.isub, 1) := by decide +kernel
theorem dX10_altitudeAt_23 : decode cX10_altitudeAt 23 = .ok (.ireturn, 1) := by decide +kernel
set_option maxRecDepth 20000 in
theorem ggX10_adjusts_X10_standardOf : GoodIn wsX10_adjusts wsX10_standardOf := goodIn_r _ [5] (by decide +kernel) (by decide +kernel)
set_option maxRecDepth 20000 in
theorem gX10_adjusts_X10_standardOf : GoodIn wsX10_adjusts (va_wsS RX10 24 yX10_standardOf wsX10_standardOf) := goodIn_app (goodIn_of _ (by decide +kernel)) ggX10_adjusts_X10_standardOf
set_option maxRecDepth 20000 in
theorem ggX10_adjusts_X10_size : GoodIn wsX10_adjusts wsX10_size := goodIn_r _ [8] (by decide +kernel) (by decide +kernel)
set_option maxRecDepth 20000 in
theorem gX10_adjusts_X10_size : GoodIn wsX10_adjusts (va_wsS RX10 28 yX10_size wsX10_size) := goodIn_app (goodIn_of _ (by decide +kernel)) ggX10_adjusts_X10_size
theorem dX10_adjusts_0 : decode cX10_adjusts 0 = .ok (.aload_n 0, 1) := by decide +kernel
theorem dX10_adjusts_1 : decode cX10_adjusts 1 = .ok (.getfield 7, 3) := by decide +kernel
theorem dX10_adjusts_4 : decode cX10_adjusts 4 = .ok (.iload_n 1, 1) := by decide +kernel
theorem dX10_adjusts_5 : decode cX10_adjusts 5 = .ok (.iconst 0, 1) := by decide +kernel
theorem dX10_adjusts_6 : decode cX10_adjusts 6 = .ok (.iadd, 1) := by decide +kernel
theorem dX10_adjusts_7 : decode cX10_adjusts 7 = .ok (.iaload, 1) := by decide +kernel
theorem dX10_adjusts_8 : decode cX10_adjusts 8 = .ok (.invokestatic 24, 3) := by decide +kernel
theorem dX10_adjusts_11 : decode cX10_adjusts 11 = .ok (.istore_n 3, 1) := by decide +kernel
theorem dX10_adjusts_12 : decode cX10_adjusts 12 = .ok (.sipush 9000, 3) := by decide +kernel
theorem dX10_adjusts_15 : decode cX10_adjusts 15 = .ok (.istore 4, 2) := by decide +kernel
theorem dX10_adjusts_17 : decode cX10_adjusts 17 = .ok (.iload_n 3, 1) := by decide +kernel
theorem dX10_adjusts_18 : decode cX10_adjusts 18 = .ok (.sipush 9000, 3) := by decide +kernel
theorem dX10_adjusts_21 : decode cX10_adjusts 21 = .ok (.invokestatic 24, 3) := by decide +kernel
theorem dX10_adjusts_24 : decode cX10_adjusts 24 = .ok (.isub, 1) := by decide +kernel
theorem dX10_adjusts_25 : decode cX10_adjusts 25 = .ok (.iload_n 2, 1) := by decide +kernel
theorem dX10_adjusts_26 : decode cX10_adjusts 26 = .ok (.isub, 1) := by decide +kernel
theorem dX10_adjusts_27 : decode cX10_adjusts 27 = .ok (.invokestatic 28, 3) := by decide +kernel
theorem dX10_adjusts_30 : decode cX10_adjusts 30 = .ok (.istore 5, 2) := by decide +kernel
theorem dX10_adjusts_32 : decode cX10_adjusts 32 = .ok (.sipush 9001, 3) := by decide +kernel
theorem dX10_adjusts_35 : decode cX10_adjusts 35 = .ok (.istore 6, 2) := by decide +kernel
theorem dX10_adjusts_37 : decode cX10_adjusts 37 = .ok (.iload 6, 2) := by decide +kernel
theorem dX10_adjusts_39 : decode cX10_adjusts 39 = .ok (.sipush 10800, 3) := by decide +kernel
theorem dX10_adjusts_42 : decode cX10_adjusts 42 = .ok (.if_icmp .gt 55, 3) := by decide +kernel
theorem dX10_adjusts_45 : decode cX10_adjusts 45 = .ok (.iload_n 3, 1) := by decide +kernel
theorem dX10_adjusts_46 : decode cX10_adjusts 46 = .ok (.iload 6, 2) := by decide +kernel
theorem dX10_adjusts_48 : decode cX10_adjusts 48 = .ok (.invokestatic 24, 3) := by decide +kernel
theorem dX10_adjusts_51 : decode cX10_adjusts 51 = .ok (.isub, 1) := by decide +kernel
theorem dX10_adjusts_52 : decode cX10_adjusts 52 = .ok (.iload_n 2, 1) := by decide +kernel
theorem dX10_adjusts_53 : decode cX10_adjusts 53 = .ok (.isub, 1) := by decide +kernel
theorem dX10_adjusts_54 : decode cX10_adjusts 54 = .ok (.invokestatic 28, 3) := by decide +kernel
theorem dX10_adjusts_57 : decode cX10_adjusts 57 = .ok (.istore 7, 2) := by decide +kernel
theorem dX10_adjusts_59 : decode cX10_adjusts 59 = .ok (.iload 7, 2) := by decide +kernel
theorem dX10_adjusts_61 : decode cX10_adjusts 61 = .ok (.iload 5, 2) := by decide +kernel
theorem dX10_adjusts_63 : decode cX10_adjusts 63 = .ok (.if_icmp .ge 8, 3) := by decide +kernel
theorem dX10_adjusts_66 : decode cX10_adjusts 66 = .ok (.iload 6, 2) := by decide +kernel
theorem dX10_adjusts_68 : decode cX10_adjusts 68 = .ok (.goto 5, 3) := by decide +kernel
theorem dX10_adjusts_71 : decode cX10_adjusts 71 = .ok (.iload 4, 2) := by decide +kernel
theorem dX10_adjusts_73 : decode cX10_adjusts 73 = .ok (.istore 4, 2) := by decide +kernel
theorem dX10_adjusts_75 : decode cX10_adjusts 75 = .ok (.iload 7, 2) := by decide +kernel
theorem dX10_adjusts_77 : decode cX10_adjusts 77 = .ok (.iload 5, 2) := by decide +kernel
theorem dX10_adjusts_79 : decode cX10_adjusts 79 = .ok (.if_icmp .ge 8, 3) := by decide +kernel
theorem dX10_adjusts_82 : decode cX10_adjusts 82 = .ok (.iload 7, 2) := by decide +kernel
theorem dX10_adjusts_84 : decode cX10_adjusts 84 = .ok (.goto 5, 3) := by decide +kernel
theorem dX10_adjusts_87 : decode cX10_adjusts 87 = .ok (.iload 5, 2) := by decide +kernel
theorem dX10_adjusts_89 : decode cX10_adjusts 89 = .ok (.istore 5, 2) := by decide +kernel
theorem dX10_adjusts_91 : decode cX10_adjusts 91 = .ok (.iinc 6 1, 3) := by decide +kernel
theorem dX10_adjusts_94 : decode cX10_adjusts 94 = .ok (.goto (-57), 3) := by decide +kernel
theorem dX10_adjusts_97 : decode cX10_adjusts 97 = .ok (.aload_n 0, 1) := by decide +kernel
theorem dX10_adjusts_98 : decode cX10_adjusts 98 = .ok (.getfield 7, 3) := by decide +kernel
theorem dX10_adjusts_101 : decode cX10_adjusts 101 = .ok (.iload_n 1, 1) := by decide +kernel
theorem dX10_adjusts_102 : decode cX10_adjusts 102 = .ok (.iconst 1, 1) := by decide +kernel
theorem dX10_adjusts_103 : decode cX10_adjusts 103 = .ok (.iadd, 1) := by decide +kernel
theorem dX10_adjusts_104 : decode cX10_adjusts 104 = .ok (.iload 4, 2) := by decide +kernel
theorem dX10_adjusts_106 : decode cX10_adjusts 106 = .ok (.iastore, 1) := by decide +kernel
theorem dX10_adjusts_107 : decode cX10_adjusts 107 = .ok (.return_, 1) := by decide +kernel
set_option maxRecDepth 20000 in
theorem ggX10_climbs_X10_altitudeAt : GoodIn wsX10_climbs wsX10_altitudeAt := goodIn_r _ [6, 1, 7, 8, 5, 9, 13, 14, 15, 16, 17, 18, 19, 20, 21, 22, 23] (by decide +kernel) (by decide +kernel)
set_option maxRecDepth 20000 in
theorem gX10_climbs_X10_altitudeAt : GoodIn wsX10_climbs (wsV RX10 31 RX10 yX10_altitudeAt wsX10_altitudeAt) := goodIn_app (goodIn_of _ (by decide +kernel)) ggX10_climbs_X10_altitudeAt
set_option maxRecDepth 20000 in
theorem ggX10_climbs_X10_size : GoodIn wsX10_climbs wsX10_size := goodIn_r _ [12] (by decide +kernel) (by decide +kernel)
set_option maxRecDepth 20000 in
theorem gX10_climbs_X10_size : GoodIn wsX10_climbs (va_wsS RX10 28 yX10_size wsX10_size) := goodIn_app (goodIn_of _ (by decide +kernel)) ggX10_climbs_X10_size
theorem dX10_climbs_0 : decode cX10_climbs 0 = .ok (.aload_n 0, 1) := by decide +kernel
theorem dX10_climbs_1 : decode cX10_climbs 1 = .ok (.iload_n 1, 1) := by decide +kernel
theorem dX10_climbs_2 : decode cX10_climbs 2 = .ok (.invokevirtual 31, 3) := by decide +kernel
theorem dX10_climbs_5 : decode cX10_climbs 5 = .ok (.aload_n 0, 1) := by decide +kernel
theorem dX10_climbs_6 : decode cX10_climbs 6 = .ok (.getfield 7, 3) := by decide +kernel
theorem dX10_climbs_9 : decode cX10_climbs 9 = .ok (.iload_n 1, 1) := by decide +kernel
theorem dX10_climbs_10 : decode cX10_climbs 10 = .ok (.bipush 9, 2) := by decide +kernel
theorem dX10_climbs_12 : decode cX10_climbs 12 = .ok (.iadd, 1) := by decide +kernel
theorem dX10_climbs_13 : decode cX10_climbs 13 = .ok (.iaload, 1) := by decide +kernel
theorem dX10_climbs_14 : decode cX10_climbs 14 = .ok (.isub, 1) := by decide +kernel
theorem dX10_climbs_15 : decode cX10_climbs 15 = .ok (.istore_n 2, 1) := by decide +kernel
theorem dX10_climbs_16 : decode cX10_climbs 16 = .ok (.iload_n 2, 1) := by decide +kernel
theorem dX10_climbs_17 : decode cX10_climbs 17 = .ok (.invokestatic 28, 3) := by decide +kernel
theorem dX10_climbs_20 : decode cX10_climbs 20 = .ok (.aload_n 0, 1) := by decide +kernel
theorem dX10_climbs_21 : decode cX10_climbs 21 = .ok (.getfield 7, 3) := by decide +kernel
theorem dX10_climbs_24 : decode cX10_climbs 24 = .ok (.iload_n 1, 1) := by decide +kernel
theorem dX10_climbs_25 : decode cX10_climbs 25 = .ok (.bipush 10, 2) := by decide +kernel
theorem dX10_climbs_27 : decode cX10_climbs 27 = .ok (.iadd, 1) := by decide +kernel
theorem dX10_climbs_28 : decode cX10_climbs 28 = .ok (.iaload, 1) := by decide +kernel
theorem dX10_climbs_29 : decode cX10_climbs 29 = .ok (.if_icmp .lt 59, 3) := by decide +kernel
theorem dX10_climbs_32 : decode cX10_climbs 32 = .ok (.aload_n 0, 1) := by decide +kernel
theorem dX10_climbs_33 : decode cX10_climbs 33 = .ok (.getfield 7, 3) := by decide +kernel
theorem dX10_climbs_36 : decode cX10_climbs 36 = .ok (.iload_n 1, 1) := by decide +kernel
theorem dX10_climbs_37 : decode cX10_climbs 37 = .ok (.bipush 7, 2) := by decide +kernel
theorem dX10_climbs_39 : decode cX10_climbs 39 = .ok (.iadd, 1) := by decide +kernel
theorem dX10_climbs_40 : decode cX10_climbs 40 = .ok (.dup2, 1) := by decide +kernel
theorem dX10_climbs_41 : decode cX10_climbs 41 = .ok (.iaload, 1) := by decide +kernel
theorem dX10_climbs_42 : decode cX10_climbs 42 = .ok (.iload_n 2, 1) := by decide +kernel
theorem dX10_climbs_43 : decode cX10_climbs 43 = .ok (.ifCond .le 7, 3) := by decide +kernel
theorem dX10_climbs_46 : decode cX10_climbs 46 = .ok (.iload_n 2, 1) := by decide +kernel
theorem dX10_climbs_47 : decode cX10_climbs 47 = .ok (.goto 4, 3) := by decide +kernel
theorem dX10_climbs_50 : decode cX10_climbs 50 = .ok (.iconst 0, 1) := by decide +kernel
theorem dX10_climbs_51 : decode cX10_climbs 51 = .ok (.iadd, 1) := by decide +kernel
theorem dX10_climbs_52 : decode cX10_climbs 52 = .ok (.iastore, 1) := by decide +kernel
theorem dX10_climbs_53 : decode cX10_climbs 53 = .ok (.aload_n 0, 1) := by decide +kernel
theorem dX10_climbs_54 : decode cX10_climbs 54 = .ok (.getfield 7, 3) := by decide +kernel
theorem dX10_climbs_57 : decode cX10_climbs 57 = .ok (.iload_n 1, 1) := by decide +kernel
theorem dX10_climbs_58 : decode cX10_climbs 58 = .ok (.bipush 8, 2) := by decide +kernel
theorem dX10_climbs_60 : decode cX10_climbs 60 = .ok (.iadd, 1) := by decide +kernel
theorem dX10_climbs_61 : decode cX10_climbs 61 = .ok (.dup2, 1) := by decide +kernel
theorem dX10_climbs_62 : decode cX10_climbs 62 = .ok (.iaload, 1) := by decide +kernel
theorem dX10_climbs_63 : decode cX10_climbs 63 = .ok (.iload_n 2, 1) := by decide +kernel
theorem dX10_climbs_64 : decode cX10_climbs 64 = .ok (.ifCond .ge 8, 3) := by decide +kernel
theorem dX10_climbs_67 : decode cX10_climbs 67 = .ok (.iload_n 2, 1) := by decide +kernel
theorem dX10_climbs_68 : decode cX10_climbs 68 = .ok (.ineg, 1) := by decide +kernel
theorem dX10_climbs_69 : decode cX10_climbs 69 = .ok (.goto 4, 3) := by decide +kernel
theorem dX10_climbs_72 : decode cX10_climbs 72 = .ok (.iconst 0, 1) := by decide +kernel
theorem dX10_climbs_73 : decode cX10_climbs 73 = .ok (.iadd, 1) := by decide +kernel
theorem dX10_climbs_74 : decode cX10_climbs 74 = .ok (.iastore, 1) := by decide +kernel
theorem dX10_climbs_75 : decode cX10_climbs 75 = .ok (.aload_n 0, 1) := by decide +kernel
theorem dX10_climbs_76 : decode cX10_climbs 76 = .ok (.getfield 7, 3) := by decide +kernel
theorem dX10_climbs_79 : decode cX10_climbs 79 = .ok (.iload_n 1, 1) := by decide +kernel
theorem dX10_climbs_80 : decode cX10_climbs 80 = .ok (.bipush 9, 2) := by decide +kernel
theorem dX10_climbs_82 : decode cX10_climbs 82 = .ok (.iadd, 1) := by decide +kernel
theorem dX10_climbs_83 : decode cX10_climbs 83 = .ok (.dup2, 1) := by decide +kernel
theorem dX10_climbs_84 : decode cX10_climbs 84 = .ok (.iaload, 1) := by decide +kernel
theorem dX10_climbs_85 : decode cX10_climbs 85 = .ok (.iload_n 2, 1) := by decide +kernel
theorem dX10_climbs_86 : decode cX10_climbs 86 = .ok (.iadd, 1) := by decide +kernel
theorem dX10_climbs_87 : decode cX10_climbs 87 = .ok (.iastore, 1) := by decide +kernel
theorem dX10_climbs_88 : decode cX10_climbs 88 = .ok (.return_, 1) := by decide +kernel
theorem dX10_logs_0 : decode cX10_logs 0 = .ok (.iconst 1, 1) := by decide +kernel
theorem dX10_logs_1 : decode cX10_logs 1 = .ok (.istore_n 2, 1) := by decide +kernel
theorem dX10_logs_2 : decode cX10_logs 2 = .ok (.iload_n 2, 1) := by decide +kernel
theorem dX10_logs_3 : decode cX10_logs 3 = .ok (.bipush 60, 2) := by decide +kernel
theorem dX10_logs_5 : decode cX10_logs 5 = .ok (.if_icmp .ge 47, 3) := by decide +kernel
theorem dX10_logs_8 : decode cX10_logs 8 = .ok (.aload_n 0, 1) := by decide +kernel
theorem dX10_logs_9 : decode cX10_logs 9 = .ok (.getfield 7, 3) := by decide +kernel
theorem dX10_logs_12 : decode cX10_logs 12 = .ok (.iload_n 1, 1) := by decide +kernel
theorem dX10_logs_13 : decode cX10_logs 13 = .ok (.bipush 14, 2) := by decide +kernel
theorem dX10_logs_15 : decode cX10_logs 15 = .ok (.iadd, 1) := by decide +kernel
theorem dX10_logs_16 : decode cX10_logs 16 = .ok (.iaload, 1) := by decide +kernel
theorem dX10_logs_17 : decode cX10_logs 17 = .ok (.bipush 60, 2) := by decide +kernel
theorem dX10_logs_19 : decode cX10_logs 19 = .ok (.if_icmp .ne 33, 3) := by decide +kernel
theorem dX10_logs_22 : decode cX10_logs 22 = .ok (.aload_n 0, 1) := by decide +kernel
theorem dX10_logs_23 : decode cX10_logs 23 = .ok (.getfield 7, 3) := by decide +kernel
theorem dX10_logs_26 : decode cX10_logs 26 = .ok (.iload_n 1, 1) := by decide +kernel
theorem dX10_logs_27 : decode cX10_logs 27 = .ok (.bipush 15, 2) := by decide +kernel
theorem dX10_logs_29 : decode cX10_logs 29 = .ok (.iadd, 1) := by decide +kernel
theorem dX10_logs_30 : decode cX10_logs 30 = .ok (.iload_n 2, 1) := by decide +kernel
theorem dX10_logs_31 : decode cX10_logs 31 = .ok (.iadd, 1) := by decide +kernel
theorem dX10_logs_32 : decode cX10_logs 32 = .ok (.iconst 1, 1) := by decide +kernel
theorem dX10_logs_33 : decode cX10_logs 33 = .ok (.isub, 1) := by decide +kernel
theorem dX10_logs_34 : decode cX10_logs 34 = .ok (.aload_n 0, 1) := by decide +kernel
theorem dX10_logs_35 : decode cX10_logs 35 = .ok (.getfield 7, 3) := by decide +kernel
theorem dX10_logs_38 : decode cX10_logs 38 = .ok (.iload_n 1, 1) := by decide +kernel
theorem dX10_logs_39 : decode cX10_logs 39 = .ok (.bipush 15, 2) := by decide +kernel
theorem dX10_logs_41 : decode cX10_logs 41 = .ok (.iadd, 1) := by decide +kernel
theorem dX10_logs_42 : decode cX10_logs 42 = .ok (.iload_n 2, 1) := by decide +kernel
theorem dX10_logs_43 : decode cX10_logs 43 = .ok (.iadd, 1) := by decide +kernel
theorem dX10_logs_44 : decode cX10_logs 44 = .ok (.iaload, 1) := by decide +kernel
theorem dX10_logs_45 : decode cX10_logs 45 = .ok (.iastore, 1) := by decide +kernel
theorem dX10_logs_46 : decode cX10_logs 46 = .ok (.iinc 2 1, 3) := by decide +kernel
theorem dX10_logs_49 : decode cX10_logs 49 = .ok (.goto (-47), 3) := by decide +kernel
theorem dX10_logs_52 : decode cX10_logs 52 = .ok (.aload_n 0, 1) := by decide +kernel
theorem dX10_logs_53 : decode cX10_logs 53 = .ok (.getfield 7, 3) := by decide +kernel
theorem dX10_logs_56 : decode cX10_logs 56 = .ok (.iload_n 1, 1) := by decide +kernel
theorem dX10_logs_57 : decode cX10_logs 57 = .ok (.bipush 14, 2) := by decide +kernel
theorem dX10_logs_59 : decode cX10_logs 59 = .ok (.iadd, 1) := by decide +kernel
theorem dX10_logs_60 : decode cX10_logs 60 = .ok (.dup2, 1) := by decide +kernel
theorem dX10_logs_61 : decode cX10_logs 61 = .ok (.iaload, 1) := by decide +kernel
theorem dX10_logs_62 : decode cX10_logs 62 = .ok (.aload_n 0, 1) := by decide +kernel
theorem dX10_logs_63 : decode cX10_logs 63 = .ok (.getfield 7, 3) := by decide +kernel
theorem dX10_logs_66 : decode cX10_logs 66 = .ok (.iload_n 1, 1) := by decide +kernel
theorem dX10_logs_67 : decode cX10_logs 67 = .ok (.bipush 14, 2) := by decide +kernel
theorem dX10_logs_69 : decode cX10_logs 69 = .ok (.iadd, 1) := by decide +kernel
theorem dX10_logs_70 : decode cX10_logs 70 = .ok (.iaload, 1) := by decide +kernel
theorem dX10_logs_71 : decode cX10_logs 71 = .ok (.bipush 60, 2) := by decide +kernel
theorem dX10_logs_73 : decode cX10_logs 73 = .ok (.if_icmp .ne 7, 3) := by decide +kernel
theorem dX10_logs_76 : decode cX10_logs 76 = .ok (.iconst 1, 1) := by decide +kernel
theorem dX10_logs_77 : decode cX10_logs 77 = .ok (.goto 4, 3) := by decide +kernel
theorem dX10_logs_80 : decode cX10_logs 80 = .ok (.iconst 0, 1) := by decide +kernel
theorem dX10_logs_81 : decode cX10_logs 81 = .ok (.isub, 1) := by decide +kernel
theorem dX10_logs_82 : decode cX10_logs 82 = .ok (.iastore, 1) := by decide +kernel
theorem dX10_logs_83 : decode cX10_logs 83 = .ok (.aload_n 0, 1) := by decide +kernel
theorem dX10_logs_84 : decode cX10_logs 84 = .ok (.getfield 7, 3) := by decide +kernel
theorem dX10_logs_87 : decode cX10_logs 87 = .ok (.iload_n 1, 1) := by decide +kernel
theorem dX10_logs_88 : decode cX10_logs 88 = .ok (.bipush 15, 2) := by decide +kernel
theorem dX10_logs_90 : decode cX10_logs 90 = .ok (.iadd, 1) := by decide +kernel
theorem dX10_logs_91 : decode cX10_logs 91 = .ok (.aload_n 0, 1) := by decide +kernel
theorem dX10_logs_92 : decode cX10_logs 92 = .ok (.getfield 7, 3) := by decide +kernel
theorem dX10_logs_95 : decode cX10_logs 95 = .ok (.iload_n 1, 1) := by decide +kernel
theorem dX10_logs_96 : decode cX10_logs 96 = .ok (.bipush 14, 2) := by decide +kernel
theorem dX10_logs_98 : decode cX10_logs 98 = .ok (.iadd, 1) := by decide +kernel
theorem dX10_logs_99 : decode cX10_logs 99 = .ok (.iaload, 1) := by decide +kernel
theorem dX10_logs_100 : decode cX10_logs 100 = .ok (.iadd, 1) := by decide +kernel
theorem dX10_logs_101 : decode cX10_logs 101 = .ok (.aload_n 0, 1) := by decide +kernel
theorem dX10_logs_102 : decode cX10_logs 102 = .ok (.getfield 7, 3) := by decide +kernel
theorem dX10_logs_105 : decode cX10_logs 105 = .ok (.iload_n 1, 1) := by decide +kernel
theorem dX10_logs_106 : decode cX10_logs 106 = .ok (.iconst 0, 1) := by decide +kernel
theorem dX10_logs_107 : decode cX10_logs 107 = .ok (.iadd, 1) := by decide +kernel
theorem dX10_logs_108 : decode cX10_logs 108 = .ok (.iaload, 1) := by decide +kernel
theorem dX10_logs_109 : decode cX10_logs 109 = .ok (.iastore, 1) := by decide +kernel
theorem dX10_logs_110 : decode cX10_logs 110 = .ok (.aload_n 0, 1) := by decide +kernel
theorem dX10_logs_111 : decode cX10_logs 111 = .ok (.getfield 7, 3) := by decide +kernel
theorem dX10_logs_114 : decode cX10_logs 114 = .ok (.iload_n 1, 1) := by decide +kernel
theorem dX10_logs_115 : decode cX10_logs 115 = .ok (.bipush 14, 2) := by decide +kernel
theorem dX10_logs_117 : decode cX10_logs 117 = .ok (.iadd, 1) := by decide +kernel
theorem dX10_logs_118 : decode cX10_logs 118 = .ok (.dup2, 1) := by decide +kernel
theorem dX10_logs_119 : decode cX10_logs 119 = .ok (.iaload, 1) := by decide +kernel
theorem dX10_logs_120 : decode cX10_logs 120 = .ok (.iconst 1, 1) := by decide +kernel
theorem dX10_logs_121 : decode cX10_logs 121 = .ok (.iadd, 1) := by decide +kernel
theorem dX10_logs_122 : decode cX10_logs 122 = .ok (.iastore, 1) := by decide +kernel
theorem dX10_logs_123 : decode cX10_logs 123 = .ok (.return_, 1) := by decide +kernel
theorem dX10_fallOf_0 : decode cX10_fallOf 0 = .ok (.aload_n 0, 1) := by decide +kernel
theorem dX10_fallOf_1 : decode cX10_fallOf 1 = .ok (.getfield 7, 3) := by decide +kernel
theorem dX10_fallOf_4 : decode cX10_fallOf 4 = .ok (.iload_n 1, 1) := by decide +kernel
theorem dX10_fallOf_5 : decode cX10_fallOf 5 = .ok (.bipush 14, 2) := by decide +kernel
theorem dX10_fallOf_7 : decode cX10_fallOf 7 = .ok (.iadd, 1) := by decide +kernel
theorem dX10_fallOf_8 : decode cX10_fallOf 8 = .ok (.iaload, 1) := by decide +kernel
theorem dX10_fallOf_9 : decode cX10_fallOf 9 = .ok (.istore_n 2, 1) := by decide +kernel
theorem dX10_fallOf_10 : decode cX10_fallOf 10 = .ok (.iconst 0, 1) := by decide +kernel
theorem dX10_fallOf_11 : decode cX10_fallOf 11 = .ok (.istore_n 3, 1) := by decide +kernel
theorem dX10_fallOf_12 : decode cX10_fallOf 12 = .ok (.iconst 0, 1) := by decide +kernel
theorem dX10_fallOf_13 : decode cX10_fallOf 13 = .ok (.istore 4, 2) := by decide +kernel
theorem dX10_fallOf_15 : decode cX10_fallOf 15 = .ok (.iload 4, 2) := by decide +kernel
theorem dX10_fallOf_17 : decode cX10_fallOf 17 = .ok (.iload_n 2, 1) := by decide +kernel
theorem dX10_fallOf_18 : decode cX10_fallOf 18 = .ok (.if_icmp .ge 42, 3) := by decide +kernel
theorem dX10_fallOf_21 : decode cX10_fallOf 21 = .ok (.aload_n 0, 1) := by decide +kernel
theorem dX10_fallOf_22 : decode cX10_fallOf 22 = .ok (.getfield 7, 3) := by decide +kernel
theorem dX10_fallOf_25 : decode cX10_fallOf 25 = .ok (.iload_n 1, 1) := by decide +kernel
theorem dX10_fallOf_26 : decode cX10_fallOf 26 = .ok (.bipush 15, 2) := by decide +kernel
theorem dX10_fallOf_28 : decode cX10_fallOf 28 = .ok (.iadd, 1) := by decide +kernel
theorem dX10_fallOf_29 : decode cX10_fallOf 29 = .ok (.iload 4, 2) := by decide +kernel
theorem dX10_fallOf_31 : decode cX10_fallOf 31 = .ok (.iadd, 1) := by decide +kernel
theorem dX10_fallOf_32 : decode cX10_fallOf 32 = .ok (.iaload, 1) := by decide +kernel
theorem dX10_fallOf_33 : decode cX10_fallOf 33 = .ok (.iload_n 3, 1) := by decide +kernel
theorem dX10_fallOf_34 : decode cX10_fallOf 34 = .ok (.if_icmp .le 18, 3) := by decide +kernel
theorem dX10_fallOf_37 : decode cX10_fallOf 37 = .ok (.aload_n 0, 1) := by decide +kernel
theorem dX10_fallOf_38 : decode cX10_fallOf 38 = .ok (.getfield 7, 3) := by decide +kernel
theorem dX10_fallOf_41 : decode cX10_fallOf 41 = .ok (.iload_n 1, 1) := by decide +kernel
theorem dX10_fallOf_42 : decode cX10_fallOf 42 = .ok (.bipush 15, 2) := by decide +kernel
theorem dX10_fallOf_44 : decode cX10_fallOf 44 = .ok (.iadd, 1) := by decide +kernel
theorem dX10_fallOf_45 : decode cX10_fallOf 45 = .ok (.iload 4, 2) := by decide +kernel
theorem dX10_fallOf_47 : decode cX10_fallOf 47 = .ok (.iadd, 1) := by decide +kernel
theorem dX10_fallOf_48 : decode cX10_fallOf 48 = .ok (.iaload, 1) := by decide +kernel
theorem dX10_fallOf_49 : decode cX10_fallOf 49 = .ok (.goto 4, 3) := by decide +kernel
theorem dX10_fallOf_52 : decode cX10_fallOf 52 = .ok (.iload_n 3, 1) := by decide +kernel
theorem dX10_fallOf_53 : decode cX10_fallOf 53 = .ok (.istore_n 3, 1) := by decide +kernel
theorem dX10_fallOf_54 : decode cX10_fallOf 54 = .ok (.iinc 4 1, 3) := by decide +kernel
theorem dX10_fallOf_57 : decode cX10_fallOf 57 = .ok (.goto (-42), 3) := by decide +kernel
theorem dX10_fallOf_60 : decode cX10_fallOf 60 = .ok (.iload_n 2, 1) := by decide +kernel
theorem dX10_fallOf_61 : decode cX10_fallOf 61 = .ok (.ifCond .ne 7, 3) := by decide +kernel
theorem dX10_fallOf_64 : decode cX10_fallOf 64 = .ok (.iconst 0, 1) := by decide +kernel
theorem dX10_fallOf_65 : decode cX10_fallOf 65 = .ok (.goto 18, 3) := by decide +kernel
theorem dX10_fallOf_68 : decode cX10_fallOf 68 = .ok (.iload_n 3, 1) := by decide +kernel
theorem dX10_fallOf_69 : decode cX10_fallOf 69 = .ok (.aload_n 0, 1) := by decide +kernel
theorem dX10_fallOf_70 : decode cX10_fallOf 70 = .ok (.getfield 7, 3) := by decide +kernel
theorem dX10_fallOf_73 : decode cX10_fallOf 73 = .ok (.iload_n 1, 1) := by decide +kernel
theorem dX10_fallOf_74 : decode cX10_fallOf 74 = .ok (.bipush 15, 2) := by decide +kernel
theorem dX10_fallOf_76 : decode cX10_fallOf 76 = .ok (.iadd, 1) := by decide +kernel
theorem dX10_fallOf_77 : decode cX10_fallOf 77 = .ok (.iload_n 2, 1) := by decide +kernel
theorem dX10_fallOf_78 : decode cX10_fallOf 78 = .ok (.iadd, 1) := by decide +kernel
theorem dX10_fallOf_79 : decode cX10_fallOf 79 = .ok (.iconst 1, 1) := by decide +kernel
theorem dX10_fallOf_80 : decode cX10_fallOf 80 = .ok (.isub, 1) := by decide +kernel
theorem dX10_fallOf_81 : decode cX10_fallOf 81 = .ok (.iaload, 1) := by decide +kernel
theorem dX10_fallOf_82 : decode cX10_fallOf 82 = .ok (.isub, 1) := by decide +kernel
theorem dX10_fallOf_83 : decode cX10_fallOf 83 = .ok (.ireturn, 1) := by decide +kernel
set_option maxRecDepth 20000 in
theorem ggX10_hasAlarm_X10_fallOf : GoodIn wsX10_hasAlarm wsX10_fallOf := goodIn_r _ [6, 1, 7, 8, 9, 10, 11, 12, 13, 14, 15, 16, 17] (by decide +kernel) (by decide +kernel)
set_option maxRecDepth 20000 in
theorem gX10_hasAlarm_X10_fallOf : GoodIn wsX10_hasAlarm (wsV RX10 34 RX10 yX10_fallOf wsX10_fallOf) := goodIn_app (goodIn_of _ (by decide +kernel)) ggX10_hasAlarm_X10_fallOf
theorem dX10_hasAlarm_0 : decode cX10_hasAlarm 0 = .ok (.aload_n 0, 1) := by decide +kernel
theorem dX10_hasAlarm_1 : decode cX10_hasAlarm 1 = .ok (.iload_n 1, 1) := by decide +kernel
theorem dX10_hasAlarm_2 : decode cX10_hasAlarm 2 = .ok (.invokevirtual 34, 3) := by decide +kernel
theorem dX10_hasAlarm_5 : decode cX10_hasAlarm 5 = .ok (.aload_n 0, 1) := by decide +kernel
theorem dX10_hasAlarm_6 : decode cX10_hasAlarm 6 = .ok (.getfield 7, 3) := by decide +kernel
theorem dX10_hasAlarm_9 : decode cX10_hasAlarm 9 = .ok (.iload_n 1, 1) := by decide +kernel
theorem dX10_hasAlarm_10 : decode cX10_hasAlarm 10 = .ok (.bipush 11, 2) := by decide +kernel
theorem dX10_hasAlarm_12 : decode cX10_hasAlarm 12 = .ok (.iadd, 1) := by decide +kernel
theorem dX10_hasAlarm_13 : decode cX10_hasAlarm 13 = .ok (.iaload, 1) := by decide +kernel
theorem dX10_hasAlarm_14 : decode cX10_hasAlarm 14 = .ok (.if_icmp .lt 7, 3) := by decide +kernel
theorem dX10_hasAlarm_17 : decode cX10_hasAlarm 17 = .ok (.iconst 1, 1) := by decide +kernel
theorem dX10_hasAlarm_18 : decode cX10_hasAlarm 18 = .ok (.goto 4, 3) := by decide +kernel
theorem dX10_hasAlarm_21 : decode cX10_hasAlarm 21 = .ok (.iconst 0, 1) := by decide +kernel
theorem dX10_hasAlarm_22 : decode cX10_hasAlarm 22 = .ok (.ireturn, 1) := by decide +kernel
set_option maxRecDepth 20000 in
theorem ggX10_minutePasses_X10_adjusts : GoodIn wsX10_minutePasses wsX10_adjusts := goodIn_r _ [6, 1, 7, 8, 5, 9, 10, 11, 12, 33, 34, 35, 36, 37, 38, 39, 40, 41, 42, 43] (by decide +kernel) (by decide +kernel)
set_option maxRecDepth 20000 in
theorem gX10_minutePasses_X10_adjusts : GoodIn wsX10_minutePasses (wsV RX10 37 RX10 yX10_adjusts wsX10_adjusts) := goodIn_app (goodIn_of _ (by decide +kernel)) ggX10_minutePasses_X10_adjusts
set_option maxRecDepth 20000 in
theorem ggX10_minutePasses_X10_logs : GoodIn wsX10_minutePasses wsX10_logs := goodIn_r _ [16, 1, 33, 34, 35, 36, 37, 38, 39, 40, 41, 42, 43] (by decide +kernel) (by decide +kernel)
set_option maxRecDepth 20000 in
theorem gX10_minutePasses_X10_logs : GoodIn wsX10_minutePasses (wsV RX10 41 RX10 yX10_logs wsX10_logs) := goodIn_app (goodIn_of _ (by decide +kernel)) ggX10_minutePasses_X10_logs
set_option maxRecDepth 20000 in
theorem ggX10_minutePasses_X10_climbs : GoodIn wsX10_minutePasses wsX10_climbs := goodIn_r _ [20, 1, 21, 22, 23, 5, 24, 7, 8, 9, 10, 11, 12, 33, 34, 35, 36, 37, 38, 39, 40, 41, 42, 43] (by decide +kernel) (by decide +kernel)
set_option maxRecDepth 20000 in
theorem gX10_minutePasses_X10_climbs : GoodIn wsX10_minutePasses (wsV RX10 45 RX10 yX10_climbs wsX10_climbs) := goodIn_app (goodIn_of _ (by decide +kernel)) ggX10_minutePasses_X10_climbs
set_option maxRecDepth 20000 in
theorem ggX10_minutePasses_X10_hasAlarm : GoodIn wsX10_minutePasses wsX10_hasAlarm := goodIn_r _ [28, 1, 29, 30, 31, 5, 32, 33, 34, 35, 36, 37, 38, 39, 40, 41, 42, 43] (by decide +kernel) (by decide +kernel)
set_option maxRecDepth 20000 in
theorem gX10_minutePasses_X10_hasAlarm : GoodIn wsX10_minutePasses (wsV RX10 48 RX10 yX10_hasAlarm wsX10_hasAlarm) := goodIn_app (goodIn_of _ (by decide +kernel)) ggX10_minutePasses_X10_hasAlarm
theorem dX10_minutePasses_0 : decode cX10_minutePasses 0 = .ok (.aload_n 0, 1) := by decide +kernel
theorem dX10_minutePasses_1 : decode cX10_minutePasses 1 = .ok (.getfield 7, 3) := by decide +kernel
theorem dX10_minutePasses_4 : decode cX10_minutePasses 4 = .ok (.iload_n 1, 1) := by decide +kernel
theorem dX10_minutePasses_5 : decode cX10_minutePasses 5 = .ok (.iconst 0, 1) := by decide +kernel
theorem dX10_minutePasses_6 : decode cX10_minutePasses 6 = .ok (.iadd, 1) := by decide +kernel
theorem dX10_minutePasses_7 : decode cX10_minutePasses 7 = .ok (.iload_n 2, 1) := by decide +kernel
theorem dX10_minutePasses_8 : decode cX10_minutePasses 8 = .ok (.iastore, 1) := by decide +kernel
theorem dX10_minutePasses_9 : decode cX10_minutePasses 9 = .ok (.aload_n 0, 1) := by decide +kernel
theorem dX10_minutePasses_10 : decode cX10_minutePasses 10 = .ok (.getfield 7, 3) := by decide +kernel
theorem dX10_minutePasses_13 : decode cX10_minutePasses 13 = .ok (.iload_n 1, 1) := by decide +kernel
theorem dX10_minutePasses_14 : decode cX10_minutePasses 14 = .ok (.iconst 4, 1) := by decide +kernel
theorem dX10_minutePasses_15 : decode cX10_minutePasses 15 = .ok (.iadd, 1) := by decide +kernel
theorem dX10_minutePasses_16 : decode cX10_minutePasses 16 = .ok (.dup2, 1) := by decide +kernel
theorem dX10_minutePasses_17 : decode cX10_minutePasses 17 = .ok (.iaload, 1) := by decide +kernel
theorem dX10_minutePasses_18 : decode cX10_minutePasses 18 = .ok (.iconst 1, 1) := by decide +kernel
theorem dX10_minutePasses_19 : decode cX10_minutePasses 19 = .ok (.iadd, 1) := by decide +kernel
theorem dX10_minutePasses_20 : decode cX10_minutePasses 20 = .ok (.iastore, 1) := by decide +kernel
theorem dX10_minutePasses_21 : decode cX10_minutePasses 21 = .ok (.aload_n 0, 1) := by decide +kernel
theorem dX10_minutePasses_22 : decode cX10_minutePasses 22 = .ok (.getfield 7, 3) := by decide +kernel
theorem dX10_minutePasses_25 : decode cX10_minutePasses 25 = .ok (.iload_n 1, 1) := by decide +kernel
theorem dX10_minutePasses_26 : decode cX10_minutePasses 26 = .ok (.iconst 2, 1) := by decide +kernel
theorem dX10_minutePasses_27 : decode cX10_minutePasses 27 = .ok (.iadd, 1) := by decide +kernel
theorem dX10_minutePasses_28 : decode cX10_minutePasses 28 = .ok (.iaload, 1) := by decide +kernel
theorem dX10_minutePasses_29 : decode cX10_minutePasses 29 = .ok (.iconst 1, 1) := by decide +kernel
theorem dX10_minutePasses_30 : decode cX10_minutePasses 30 = .ok (.if_icmp .ne 24, 3) := by decide +kernel
theorem dX10_minutePasses_33 : decode cX10_minutePasses 33 = .ok (.aload_n 0, 1) := by decide +kernel
theorem dX10_minutePasses_34 : decode cX10_minutePasses 34 = .ok (.iload_n 1, 1) := by decide +kernel
theorem dX10_minutePasses_35 : decode cX10_minutePasses 35 = .ok (.aload_n 0, 1) := by decide +kernel
theorem dX10_minutePasses_36 : decode cX10_minutePasses 36 = .ok (.getfield 7, 3) := by decide +kernel
theorem dX10_minutePasses_39 : decode cX10_minutePasses 39 = .ok (.iload_n 1, 1) := by decide +kernel
theorem dX10_minutePasses_40 : decode cX10_minutePasses 40 = .ok (.iconst 3, 1) := by decide +kernel
theorem dX10_minutePasses_41 : decode cX10_minutePasses 41 = .ok (.iadd, 1) := by decide +kernel
theorem dX10_minutePasses_42 : decode cX10_minutePasses 42 = .ok (.iaload, 1) := by decide +kernel
theorem dX10_minutePasses_43 : decode cX10_minutePasses 43 = .ok (.invokevirtual 37, 3) := by decide +kernel
theorem dX10_minutePasses_46 : decode cX10_minutePasses 46 = .ok (.aload_n 0, 1) := by decide +kernel
theorem dX10_minutePasses_47 : decode cX10_minutePasses 47 = .ok (.iload_n 1, 1) := by decide +kernel
theorem dX10_minutePasses_48 : decode cX10_minutePasses 48 = .ok (.invokevirtual 41, 3) := by decide +kernel
theorem dX10_minutePasses_51 : decode cX10_minutePasses 51 = .ok (.goto 8, 3) := by decide +kernel
theorem dX10_minutePasses_54 : decode cX10_minutePasses 54 = .ok (.aload_n 0, 1) := by decide +kernel
theorem dX10_minutePasses_55 : decode cX10_minutePasses 55 = .ok (.iload_n 1, 1) := by decide +kernel
theorem dX10_minutePasses_56 : decode cX10_minutePasses 56 = .ok (.invokevirtual 45, 3) := by decide +kernel
theorem dX10_minutePasses_59 : decode cX10_minutePasses 59 = .ok (.aload_n 0, 1) := by decide +kernel
theorem dX10_minutePasses_60 : decode cX10_minutePasses 60 = .ok (.iload_n 1, 1) := by decide +kernel
theorem dX10_minutePasses_61 : decode cX10_minutePasses 61 = .ok (.invokevirtual 48, 3) := by decide +kernel
theorem dX10_minutePasses_64 : decode cX10_minutePasses 64 = .ok (.istore_n 3, 1) := by decide +kernel
theorem dX10_minutePasses_65 : decode cX10_minutePasses 65 = .ok (.aload_n 0, 1) := by decide +kernel
theorem dX10_minutePasses_66 : decode cX10_minutePasses 66 = .ok (.getfield 7, 3) := by decide +kernel
theorem dX10_minutePasses_69 : decode cX10_minutePasses 69 = .ok (.iload_n 1, 1) := by decide +kernel
theorem dX10_minutePasses_70 : decode cX10_minutePasses 70 = .ok (.bipush 12, 2) := by decide +kernel
theorem dX10_minutePasses_72 : decode cX10_minutePasses 72 = .ok (.iadd, 1) := by decide +kernel
theorem dX10_minutePasses_73 : decode cX10_minutePasses 73 = .ok (.dup2, 1) := by decide +kernel
theorem dX10_minutePasses_74 : decode cX10_minutePasses 74 = .ok (.iaload, 1) := by decide +kernel
theorem dX10_minutePasses_75 : decode cX10_minutePasses 75 = .ok (.iload_n 3, 1) := by decide +kernel
theorem dX10_minutePasses_76 : decode cX10_minutePasses 76 = .ok (.ifCond .eq 19, 3) := by decide +kernel
theorem dX10_minutePasses_79 : decode cX10_minutePasses 79 = .ok (.aload_n 0, 1) := by decide +kernel
theorem dX10_minutePasses_80 : decode cX10_minutePasses 80 = .ok (.getfield 7, 3) := by decide +kernel
theorem dX10_minutePasses_83 : decode cX10_minutePasses 83 = .ok (.iload_n 1, 1) := by decide +kernel
theorem dX10_minutePasses_84 : decode cX10_minutePasses 84 = .ok (.bipush 13, 2) := by decide +kernel
theorem dX10_minutePasses_86 : decode cX10_minutePasses 86 = .ok (.iadd, 1) := by decide +kernel
theorem dX10_minutePasses_87 : decode cX10_minutePasses 87 = .ok (.iaload, 1) := by decide +kernel
theorem dX10_minutePasses_88 : decode cX10_minutePasses 88 = .ok (.ifCond .ne 7, 3) := by decide +kernel
theorem dX10_minutePasses_91 : decode cX10_minutePasses 91 = .ok (.iconst 1, 1) := by decide +kernel
theorem dX10_minutePasses_92 : decode cX10_minutePasses 92 = .ok (.goto 4, 3) := by decide +kernel
theorem dX10_minutePasses_95 : decode cX10_minutePasses 95 = .ok (.iconst 0, 1) := by decide +kernel
theorem dX10_minutePasses_96 : decode cX10_minutePasses 96 = .ok (.iadd, 1) := by decide +kernel
theorem dX10_minutePasses_97 : decode cX10_minutePasses 97 = .ok (.iastore, 1) := by decide +kernel
theorem dX10_minutePasses_98 : decode cX10_minutePasses 98 = .ok (.aload_n 0, 1) := by decide +kernel
theorem dX10_minutePasses_99 : decode cX10_minutePasses 99 = .ok (.getfield 7, 3) := by decide +kernel
theorem dX10_minutePasses_102 : decode cX10_minutePasses 102 = .ok (.iload_n 1, 1) := by decide +kernel
theorem dX10_minutePasses_103 : decode cX10_minutePasses 103 = .ok (.bipush 13, 2) := by decide +kernel
theorem dX10_minutePasses_105 : decode cX10_minutePasses 105 = .ok (.iadd, 1) := by decide +kernel
theorem dX10_minutePasses_106 : decode cX10_minutePasses 106 = .ok (.iload_n 3, 1) := by decide +kernel
theorem dX10_minutePasses_107 : decode cX10_minutePasses 107 = .ok (.ifCond .eq 7, 3) := by decide +kernel
theorem dX10_minutePasses_110 : decode cX10_minutePasses 110 = .ok (.iconst 1, 1) := by decide +kernel
theorem dX10_minutePasses_111 : decode cX10_minutePasses 111 = .ok (.goto 4, 3) := by decide +kernel
theorem dX10_minutePasses_114 : decode cX10_minutePasses 114 = .ok (.iconst 0, 1) := by decide +kernel
theorem dX10_minutePasses_115 : decode cX10_minutePasses 115 = .ok (.iastore, 1) := by decide +kernel
theorem dX10_minutePasses_116 : decode cX10_minutePasses 116 = .ok (.return_, 1) := by decide +kernel
set_option maxRecDepth 20000 in
theorem ggX10_trips_X10_minutePasses : GoodIn wsX10_trips wsX10_minutePasses := goodIn_r _ [6, 1, 7, 8, 9, 5, 10, 11, 12, 13, 14, 15, 16, 17, 18, 19, 20, 21, 22, 23, 24, 25, 26, 27, 28, 29, 30, 31, 32, 33, 34, 35, 36, 37, 38, 39, 40, 41, 42, 43, 44, 45, 46, 47] (by decide +kernel) (by decide +kernel)
set_option maxRecDepth 20000 in
theorem gX10_trips_X10_minutePasses : GoodIn wsX10_trips (wsV RX10 52 RX10 yX10_minutePasses wsX10_minutePasses) := goodIn_app (goodIn_of _ (by decide +kernel)) ggX10_trips_X10_minutePasses
theorem dX10_trips_0 : decode cX10_trips 0 = .ok (.aload_n 0, 1) := by decide +kernel
theorem dX10_trips_1 : decode cX10_trips 1 = .ok (.getfield 7, 3) := by decide +kernel
theorem dX10_trips_4 : decode cX10_trips 4 = .ok (.iload_n 1, 1) := by decide +kernel
theorem dX10_trips_5 : decode cX10_trips 5 = .ok (.iconst 0, 1) := by decide +kernel
theorem dX10_trips_6 : decode cX10_trips 6 = .ok (.iadd, 1) := by decide +kernel
theorem dX10_trips_7 : decode cX10_trips 7 = .ok (.iaload, 1) := by decide +kernel
theorem dX10_trips_8 : decode cX10_trips 8 = .ok (.istore 4, 2) := by decide +kernel
theorem dX10_trips_10 : decode cX10_trips 10 = .ok (.iconst 1, 1) := by decide +kernel
theorem dX10_trips_11 : decode cX10_trips 11 = .ok (.istore 5, 2) := by decide +kernel
theorem dX10_trips_13 : decode cX10_trips 13 = .ok (.iload 5, 2) := by decide +kernel
theorem dX10_trips_15 : decode cX10_trips 15 = .ok (.iload_n 2, 1) := by decide +kernel
theorem dX10_trips_16 : decode cX10_trips 16 = .ok (.if_icmp .gt 26, 3) := by decide +kernel
theorem dX10_trips_19 : decode cX10_trips 19 = .ok (.aload_n 0, 1) := by decide +kernel
theorem dX10_trips_20 : decode cX10_trips 20 = .ok (.iload_n 1, 1) := by decide +kernel
theorem dX10_trips_21 : decode cX10_trips 21 = .ok (.iload 4, 2) := by decide +kernel
theorem dX10_trips_23 : decode cX10_trips 23 = .ok (.iload_n 3, 1) := by decide +kernel
theorem dX10_trips_24 : decode cX10_trips 24 = .ok (.iload 4, 2) := by decide +kernel
theorem dX10_trips_26 : decode cX10_trips 26 = .ok (.isub, 1) := by decide +kernel
theorem dX10_trips_27 : decode cX10_trips 27 = .ok (.iload 5, 2) := by decide +kernel
theorem dX10_trips_29 : decode cX10_trips 29 = .ok (.imul, 1) := by decide +kernel
theorem dX10_trips_30 : decode cX10_trips 30 = .ok (.iload_n 2, 1) := by decide +kernel
theorem dX10_trips_31 : decode cX10_trips 31 = .ok (.idiv, 1) := by decide +kernel
theorem dX10_trips_32 : decode cX10_trips 32 = .ok (.iadd, 1) := by decide +kernel
theorem dX10_trips_33 : decode cX10_trips 33 = .ok (.invokevirtual 52, 3) := by decide +kernel
theorem dX10_trips_36 : decode cX10_trips 36 = .ok (.iinc 5 1, 3) := by decide +kernel
theorem dX10_trips_39 : decode cX10_trips 39 = .ok (.goto (-26), 3) := by decide +kernel
theorem dX10_trips_42 : decode cX10_trips 42 = .ok (.return_, 1) := by decide +kernel
set_option maxRecDepth 20000 in
theorem ggX10_switches_X10_altitudeAt : GoodIn wsX10_switches wsX10_altitudeAt := goodIn_r _ [6, 1, 7, 8, 5, 9, 10, 11, 12, 13, 14, 15, 16, 17, 18, 19, 20] (by decide +kernel) (by decide +kernel)
set_option maxRecDepth 20000 in
theorem gX10_switches_X10_altitudeAt : GoodIn wsX10_switches (wsV RX10 31 RX10 yX10_altitudeAt wsX10_altitudeAt) := goodIn_app (goodIn_of _ (by decide +kernel)) ggX10_switches_X10_altitudeAt
theorem dX10_switches_0 : decode cX10_switches 0 = .ok (.aload_n 0, 1) := by decide +kernel
theorem dX10_switches_1 : decode cX10_switches 1 = .ok (.getfield 7, 3) := by decide +kernel
theorem dX10_switches_4 : decode cX10_switches 4 = .ok (.iconst 2, 1) := by decide +kernel
theorem dX10_switches_5 : decode cX10_switches 5 = .ok (.iload_n 1, 1) := by decide +kernel
theorem dX10_switches_6 : decode cX10_switches 6 = .ok (.ifCond .eq 7, 3) := by decide +kernel
theorem dX10_switches_9 : decode cX10_switches 9 = .ok (.iconst 1, 1) := by decide +kernel
theorem dX10_switches_10 : decode cX10_switches 10 = .ok (.goto 4, 3) := by decide +kernel
theorem dX10_switches_13 : decode cX10_switches 13 = .ok (.iconst 0, 1) := by decide +kernel
theorem dX10_switches_14 : decode cX10_switches 14 = .ok (.iastore, 1) := by decide +kernel
theorem dX10_switches_15 : decode cX10_switches 15 = .ok (.aload_n 0, 1) := by decide +kernel
theorem dX10_switches_16 : decode cX10_switches 16 = .ok (.getfield 7, 3) := by decide +kernel
theorem dX10_switches_19 : decode cX10_switches 19 = .ok (.bipush 14, 2) := by decide +kernel
theorem dX10_switches_21 : decode cX10_switches 21 = .ok (.iconst 0, 1) := by decide +kernel
theorem dX10_switches_22 : decode cX10_switches 22 = .ok (.iastore, 1) := by decide +kernel
theorem dX10_switches_23 : decode cX10_switches 23 = .ok (.aload_n 0, 1) := by decide +kernel
theorem dX10_switches_24 : decode cX10_switches 24 = .ok (.getfield 7, 3) := by decide +kernel
theorem dX10_switches_27 : decode cX10_switches 27 = .ok (.bipush 13, 2) := by decide +kernel
theorem dX10_switches_29 : decode cX10_switches 29 = .ok (.iconst 0, 1) := by decide +kernel
theorem dX10_switches_30 : decode cX10_switches 30 = .ok (.iastore, 1) := by decide +kernel
theorem dX10_switches_31 : decode cX10_switches 31 = .ok (.iload_n 1, 1) := by decide +kernel
theorem dX10_switches_32 : decode cX10_switches 32 = .ok (.ifCond .eq 17, 3) := by decide +kernel
theorem dX10_switches_35 : decode cX10_switches 35 = .ok (.aload_n 0, 1) := by decide +kernel
theorem dX10_switches_36 : decode cX10_switches 36 = .ok (.getfield 7, 3) := by decide +kernel
theorem dX10_switches_39 : decode cX10_switches 39 = .ok (.iconst 3, 1) := by decide +kernel
theorem dX10_switches_40 : decode cX10_switches 40 = .ok (.aload_n 0, 1) := by decide +kernel
theorem dX10_switches_41 : decode cX10_switches 41 = .ok (.iconst 0, 1) := by decide +kernel
theorem dX10_switches_42 : decode cX10_switches 42 = .ok (.invokevirtual 31, 3) := by decide +kernel
theorem dX10_switches_45 : decode cX10_switches 45 = .ok (.iastore, 1) := by decide +kernel
theorem dX10_switches_46 : decode cX10_switches 46 = .ok (.goto 15, 3) := by decide +kernel
theorem dX10_switches_49 : decode cX10_switches 49 = .ok (.aload_n 0, 1) := by decide +kernel
theorem dX10_switches_50 : decode cX10_switches 50 = .ok (.getfield 7, 3) := by decide +kernel
theorem dX10_switches_53 : decode cX10_switches 53 = .ok (.bipush 9, 2) := by decide +kernel
theorem dX10_switches_55 : decode cX10_switches 55 = .ok (.aload_n 0, 1) := by decide +kernel
theorem dX10_switches_56 : decode cX10_switches 56 = .ok (.iconst 0, 1) := by decide +kernel
theorem dX10_switches_57 : decode cX10_switches 57 = .ok (.invokevirtual 31, 3) := by decide +kernel
theorem dX10_switches_60 : decode cX10_switches 60 = .ok (.iastore, 1) := by decide +kernel
theorem dX10_switches_61 : decode cX10_switches 61 = .ok (.return_, 1) := by decide +kernel
set_option maxRecDepth 20000 in
theorem ggX10_settles_X10_altitudeAt : GoodIn wsX10_settles wsX10_altitudeAt := goodIn_r _ [6, 1, 7, 8, 5, 9, 10, 11, 12, 13, 14, 15, 16, 17, 18, 19, 20] (by decide +kernel) (by decide +kernel)
set_option maxRecDepth 20000 in
theorem gX10_settles_X10_altitudeAt : GoodIn wsX10_settles (wsV RX10 31 RX10 yX10_altitudeAt wsX10_altitudeAt) := goodIn_app (goodIn_of _ (by decide +kernel)) ggX10_settles_X10_altitudeAt
theorem dX10_settles_0 : decode cX10_settles 0 = .ok (.aload_n 0, 1) := by decide +kernel
theorem dX10_settles_1 : decode cX10_settles 1 = .ok (.getfield 7, 3) := by decide +kernel
theorem dX10_settles_4 : decode cX10_settles 4 = .ok (.iconst 3, 1) := by decide +kernel
theorem dX10_settles_5 : decode cX10_settles 5 = .ok (.aload_n 0, 1) := by decide +kernel
theorem dX10_settles_6 : decode cX10_settles 6 = .ok (.getfield 7, 3) := by decide +kernel
theorem dX10_settles_9 : decode cX10_settles 9 = .ok (.iconst 2, 1) := by decide +kernel
theorem dX10_settles_10 : decode cX10_settles 10 = .ok (.iaload, 1) := by decide +kernel
theorem dX10_settles_11 : decode cX10_settles 11 = .ok (.iconst 1, 1) := by decide +kernel
theorem dX10_settles_12 : decode cX10_settles 12 = .ok (.if_icmp .ne 11, 3) := by decide +kernel
theorem dX10_settles_15 : decode cX10_settles 15 = .ok (.aload_n 0, 1) := by decide +kernel
theorem dX10_settles_16 : decode cX10_settles 16 = .ok (.iconst 0, 1) := by decide +kernel
theorem dX10_settles_17 : decode cX10_settles 17 = .ok (.invokevirtual 31, 3) := by decide +kernel
theorem dX10_settles_20 : decode cX10_settles 20 = .ok (.goto 9, 3) := by decide +kernel
theorem dX10_settles_23 : decode cX10_settles 23 = .ok (.aload_n 0, 1) := by decide +kernel
theorem dX10_settles_24 : decode cX10_settles 24 = .ok (.getfield 7, 3) := by decide +kernel
theorem dX10_settles_27 : decode cX10_settles 27 = .ok (.iconst 3, 1) := by decide +kernel
theorem dX10_settles_28 : decode cX10_settles 28 = .ok (.iaload, 1) := by decide +kernel
theorem dX10_settles_29 : decode cX10_settles 29 = .ok (.iastore, 1) := by decide +kernel
theorem dX10_settles_30 : decode cX10_settles 30 = .ok (.aload_n 0, 1) := by decide +kernel
theorem dX10_settles_31 : decode cX10_settles 31 = .ok (.getfield 7, 3) := by decide +kernel
theorem dX10_settles_34 : decode cX10_settles 34 = .ok (.bipush 9, 2) := by decide +kernel
theorem dX10_settles_36 : decode cX10_settles 36 = .ok (.aload_n 0, 1) := by decide +kernel
theorem dX10_settles_37 : decode cX10_settles 37 = .ok (.iconst 0, 1) := by decide +kernel
theorem dX10_settles_38 : decode cX10_settles 38 = .ok (.invokevirtual 31, 3) := by decide +kernel
theorem dX10_settles_41 : decode cX10_settles 41 = .ok (.iastore, 1) := by decide +kernel
theorem dX10_settles_42 : decode cX10_settles 42 = .ok (.return_, 1) := by decide +kernel
set_option maxRecDepth 20000 in
theorem ggX10_calibrates_X10_altitudeAt : GoodIn wsX10_calibrates wsX10_altitudeAt := goodIn_r _ [6, 1, 7, 8, 5, 9, 21, 22, 23, 24, 25, 26, 27, 28, 29, 30, 31] (by decide +kernel) (by decide +kernel)
set_option maxRecDepth 20000 in
theorem gX10_calibrates_X10_altitudeAt : GoodIn wsX10_calibrates (wsV RX10 31 RX10 yX10_altitudeAt wsX10_altitudeAt) := goodIn_app (goodIn_of _ (by decide +kernel)) ggX10_calibrates_X10_altitudeAt
set_option maxRecDepth 20000 in
theorem ggX10_calibrates_X10_adjusts : GoodIn wsX10_calibrates wsX10_adjusts := goodIn_r _ [13, 1, 7, 8, 5, 9, 14, 15, 16, 21, 22, 23, 24, 25, 26, 27, 28, 29, 30, 31] (by decide +kernel) (by decide +kernel)
set_option maxRecDepth 20000 in
theorem gX10_calibrates_X10_adjusts : GoodIn wsX10_calibrates (wsV RX10 37 RX10 yX10_adjusts wsX10_adjusts) := goodIn_app (goodIn_of _ (by decide +kernel)) ggX10_calibrates_X10_adjusts
set_option maxRecDepth 20000 in
theorem ggX10_calibrates_X10_settles : GoodIn wsX10_calibrates wsX10_settles := goodIn_r _ [20, 1, 2, 3, 4, 5, 6, 7, 8, 9, 21, 22, 23, 24, 25, 26, 27, 28, 29, 30, 31] (by decide +kernel) (by decide +kernel)
set_option maxRecDepth 20000 in
theorem gX10_calibrates_X10_settles : GoodIn wsX10_calibrates (wsV RX10 55 RX10 yX10_settles wsX10_settles) := goodIn_app (goodIn_of _ (by decide +kernel)) ggX10_calibrates_X10_settles
theorem dX10_calibrates_0 : decode cX10_calibrates 0 = .ok (.aload_n 0, 1) := by decide +kernel
theorem dX10_calibrates_1 : decode cX10_calibrates 1 = .ok (.iconst 0, 1) := by decide +kernel
theorem dX10_calibrates_2 : decode cX10_calibrates 2 = .ok (.invokevirtual 31, 3) := by decide +kernel
theorem dX10_calibrates_5 : decode cX10_calibrates 5 = .ok (.iload_n 1, 1) := by decide +kernel
theorem dX10_calibrates_6 : decode cX10_calibrates 6 = .ok (.isub, 1) := by decide +kernel
theorem dX10_calibrates_7 : decode cX10_calibrates 7 = .ok (.istore_n 2, 1) := by decide +kernel
theorem dX10_calibrates_8 : decode cX10_calibrates 8 = .ok (.aload_n 0, 1) := by decide +kernel
theorem dX10_calibrates_9 : decode cX10_calibrates 9 = .ok (.iconst 0, 1) := by decide +kernel
theorem dX10_calibrates_10 : decode cX10_calibrates 10 = .ok (.iload_n 1, 1) := by decide +kernel
theorem dX10_calibrates_11 : decode cX10_calibrates 11 = .ok (.invokevirtual 37, 3) := by decide +kernel
theorem dX10_calibrates_14 : decode cX10_calibrates 14 = .ok (.aload_n 0, 1) := by decide +kernel
theorem dX10_calibrates_15 : decode cX10_calibrates 15 = .ok (.invokevirtual 55, 3) := by decide +kernel
theorem dX10_calibrates_18 : decode cX10_calibrates 18 = .ok (.aload_n 0, 1) := by decide +kernel
theorem dX10_calibrates_19 : decode cX10_calibrates 19 = .ok (.getfield 7, 3) := by decide +kernel
theorem dX10_calibrates_22 : decode cX10_calibrates 22 = .ok (.iconst 5, 1) := by decide +kernel
theorem dX10_calibrates_23 : decode cX10_calibrates 23 = .ok (.dup2, 1) := by decide +kernel
theorem dX10_calibrates_24 : decode cX10_calibrates 24 = .ok (.iaload, 1) := by decide +kernel
theorem dX10_calibrates_25 : decode cX10_calibrates 25 = .ok (.iload_n 2, 1) := by decide +kernel
theorem dX10_calibrates_26 : decode cX10_calibrates 26 = .ok (.iadd, 1) := by decide +kernel
theorem dX10_calibrates_27 : decode cX10_calibrates 27 = .ok (.iastore, 1) := by decide +kernel
theorem dX10_calibrates_28 : decode cX10_calibrates 28 = .ok (.aload_n 0, 1) := by decide +kernel
theorem dX10_calibrates_29 : decode cX10_calibrates 29 = .ok (.getfield 7, 3) := by decide +kernel
theorem dX10_calibrates_32 : decode cX10_calibrates 32 = .ok (.bipush 6, 2) := by decide +kernel
theorem dX10_calibrates_34 : decode cX10_calibrates 34 = .ok (.dup2, 1) := by decide +kernel
theorem dX10_calibrates_35 : decode cX10_calibrates 35 = .ok (.iaload, 1) := by decide +kernel
theorem dX10_calibrates_36 : decode cX10_calibrates 36 = .ok (.iconst 1, 1) := by decide +kernel
theorem dX10_calibrates_37 : decode cX10_calibrates 37 = .ok (.iadd, 1) := by decide +kernel
theorem dX10_calibrates_38 : decode cX10_calibrates 38 = .ok (.iastore, 1) := by decide +kernel
theorem dX10_calibrates_39 : decode cX10_calibrates 39 = .ok (.iload_n 2, 1) := by decide +kernel
theorem dX10_calibrates_40 : decode cX10_calibrates 40 = .ok (.ireturn, 1) := by decide +kernel
set_option maxRecDepth 20000 in
theorem ggX10_marked_X10_altitudeAt : GoodIn wsX10_marked wsX10_altitudeAt := goodIn_r _ [6, 1, 7, 8, 5, 9, 10, 11, 12, 13, 14, 15, 16, 17, 18, 19, 20] (by decide +kernel) (by decide +kernel)
set_option maxRecDepth 20000 in
theorem gX10_marked_X10_altitudeAt : GoodIn wsX10_marked (wsV RX10 31 RX10 yX10_altitudeAt wsX10_altitudeAt) := goodIn_app (goodIn_of _ (by decide +kernel)) ggX10_marked_X10_altitudeAt
theorem dX10_marked_0 : decode cX10_marked 0 = .ok (.iconst 0, 1) := by decide +kernel
theorem dX10_marked_1 : decode cX10_marked 1 = .ok (.istore_n 1, 1) := by decide +kernel
theorem dX10_marked_2 : decode cX10_marked 2 = .ok (.iload_n 1, 1) := by decide +kernel
theorem dX10_marked_3 : decode cX10_marked 3 = .ok (.bipush 36, 2) := by decide +kernel
theorem dX10_marked_5 : decode cX10_marked 5 = .ok (.if_icmp .ge 41, 3) := by decide +kernel
theorem dX10_marked_8 : decode cX10_marked 8 = .ok (.aload_n 0, 1) := by decide +kernel
theorem dX10_marked_9 : decode cX10_marked 9 = .ok (.getfield 7, 3) := by decide +kernel
theorem dX10_marked_12 : decode cX10_marked 12 = .ok (.bipush 75, 2) := by decide +kernel
theorem dX10_marked_14 : decode cX10_marked 14 = .ok (.iaload, 1) := by decide +kernel
theorem dX10_marked_15 : decode cX10_marked 15 = .ok (.bipush 10, 2) := by decide +kernel
theorem dX10_marked_17 : decode cX10_marked 17 = .ok (.if_icmp .ne 29, 3) := by decide +kernel
theorem dX10_marked_20 : decode cX10_marked 20 = .ok (.aload_n 0, 1) := by decide +kernel
theorem dX10_marked_21 : decode cX10_marked 21 = .ok (.getfield 7, 3) := by decide +kernel
theorem dX10_marked_24 : decode cX10_marked 24 = .ok (.bipush 76, 2) := by decide +kernel
theorem dX10_marked_26 : decode cX10_marked 26 = .ok (.iload_n 1, 1) := by decide +kernel
theorem dX10_marked_27 : decode cX10_marked 27 = .ok (.iadd, 1) := by decide +kernel
theorem dX10_marked_28 : decode cX10_marked 28 = .ok (.aload_n 0, 1) := by decide +kernel
theorem dX10_marked_29 : decode cX10_marked 29 = .ok (.getfield 7, 3) := by decide +kernel
theorem dX10_marked_32 : decode cX10_marked 32 = .ok (.bipush 76, 2) := by decide +kernel
theorem dX10_marked_34 : decode cX10_marked 34 = .ok (.iload_n 1, 1) := by decide +kernel
theorem dX10_marked_35 : decode cX10_marked 35 = .ok (.iadd, 1) := by decide +kernel
theorem dX10_marked_36 : decode cX10_marked 36 = .ok (.iconst 4, 1) := by decide +kernel
theorem dX10_marked_37 : decode cX10_marked 37 = .ok (.iadd, 1) := by decide +kernel
theorem dX10_marked_38 : decode cX10_marked 38 = .ok (.iaload, 1) := by decide +kernel
theorem dX10_marked_39 : decode cX10_marked 39 = .ok (.iastore, 1) := by decide +kernel
theorem dX10_marked_40 : decode cX10_marked 40 = .ok (.iinc 1 1, 3) := by decide +kernel
theorem dX10_marked_43 : decode cX10_marked 43 = .ok (.goto (-41), 3) := by decide +kernel
theorem dX10_marked_46 : decode cX10_marked 46 = .ok (.aload_n 0, 1) := by decide +kernel
theorem dX10_marked_47 : decode cX10_marked 47 = .ok (.getfield 7, 3) := by decide +kernel
theorem dX10_marked_50 : decode cX10_marked 50 = .ok (.bipush 75, 2) := by decide +kernel
theorem dX10_marked_52 : decode cX10_marked 52 = .ok (.dup2, 1) := by decide +kernel
theorem dX10_marked_53 : decode cX10_marked 53 = .ok (.iaload, 1) := by decide +kernel
theorem dX10_marked_54 : decode cX10_marked 54 = .ok (.aload_n 0, 1) := by decide +kernel
theorem dX10_marked_55 : decode cX10_marked 55 = .ok (.getfield 7, 3) := by decide +kernel
theorem dX10_marked_58 : decode cX10_marked 58 = .ok (.bipush 75, 2) := by decide +kernel
theorem dX10_marked_60 : decode cX10_marked 60 = .ok (.iaload, 1) := by decide +kernel
theorem dX10_marked_61 : decode cX10_marked 61 = .ok (.bipush 10, 2) := by decide +kernel
theorem dX10_marked_63 : decode cX10_marked 63 = .ok (.if_icmp .ne 7, 3) := by decide +kernel
theorem dX10_marked_66 : decode cX10_marked 66 = .ok (.iconst 1, 1) := by decide +kernel
theorem dX10_marked_67 : decode cX10_marked 67 = .ok (.goto 4, 3) := by decide +kernel
theorem dX10_marked_70 : decode cX10_marked 70 = .ok (.iconst 0, 1) := by decide +kernel
theorem dX10_marked_71 : decode cX10_marked 71 = .ok (.isub, 1) := by decide +kernel
theorem dX10_marked_72 : decode cX10_marked 72 = .ok (.iastore, 1) := by decide +kernel
theorem dX10_marked_73 : decode cX10_marked 73 = .ok (.bipush 76, 2) := by decide +kernel
theorem dX10_marked_75 : decode cX10_marked 75 = .ok (.iconst 4, 1) := by decide +kernel
theorem dX10_marked_76 : decode cX10_marked 76 = .ok (.aload_n 0, 1) := by decide +kernel
theorem dX10_marked_77 : decode cX10_marked 77 = .ok (.getfield 7, 3) := by decide +kernel
theorem dX10_marked_80 : decode cX10_marked 80 = .ok (.bipush 75, 2) := by decide +kernel
theorem dX10_marked_82 : decode cX10_marked 82 = .ok (.iaload, 1) := by decide +kernel
theorem dX10_marked_83 : decode cX10_marked 83 = .ok (.imul, 1) := by decide +kernel
theorem dX10_marked_84 : decode cX10_marked 84 = .ok (.iadd, 1) := by decide +kernel
theorem dX10_marked_85 : decode cX10_marked 85 = .ok (.istore_n 1, 1) := by decide +kernel
theorem dX10_marked_86 : decode cX10_marked 86 = .ok (.aload_n 0, 1) := by decide +kernel
theorem dX10_marked_87 : decode cX10_marked 87 = .ok (.getfield 7, 3) := by decide +kernel
theorem dX10_marked_90 : decode cX10_marked 90 = .ok (.iload_n 1, 1) := by decide +kernel
theorem dX10_marked_91 : decode cX10_marked 91 = .ok (.aload_n 0, 1) := by decide +kernel
theorem dX10_marked_92 : decode cX10_marked 92 = .ok (.getfield 7, 3) := by decide +kernel
theorem dX10_marked_95 : decode cX10_marked 95 = .ok (.iconst 4, 1) := by decide +kernel
theorem dX10_marked_96 : decode cX10_marked 96 = .ok (.iaload, 1) := by decide +kernel
theorem dX10_marked_97 : decode cX10_marked 97 = .ok (.iastore, 1) := by decide +kernel
theorem dX10_marked_98 : decode cX10_marked 98 = .ok (.aload_n 0, 1) := by decide +kernel
theorem dX10_marked_99 : decode cX10_marked 99 = .ok (.getfield 7, 3) := by decide +kernel
theorem dX10_marked_102 : decode cX10_marked 102 = .ok (.iload_n 1, 1) := by decide +kernel
theorem dX10_marked_103 : decode cX10_marked 103 = .ok (.iconst 1, 1) := by decide +kernel
theorem dX10_marked_104 : decode cX10_marked 104 = .ok (.iadd, 1) := by decide +kernel
theorem dX10_marked_105 : decode cX10_marked 105 = .ok (.aload_n 0, 1) := by decide +kernel
theorem dX10_marked_106 : decode cX10_marked 106 = .ok (.iconst 0, 1) := by decide +kernel
theorem dX10_marked_107 : decode cX10_marked 107 = .ok (.invokevirtual 31, 3) := by decide +kernel
theorem dX10_marked_110 : decode cX10_marked 110 = .ok (.iastore, 1) := by decide +kernel
theorem dX10_marked_111 : decode cX10_marked 111 = .ok (.aload_n 0, 1) := by decide +kernel
theorem dX10_marked_112 : decode cX10_marked 112 = .ok (.getfield 7, 3) := by decide +kernel
theorem dX10_marked_115 : decode cX10_marked 115 = .ok (.iload_n 1, 1) := by decide +kernel
theorem dX10_marked_116 : decode cX10_marked 116 = .ok (.iconst 2, 1) := by decide +kernel
theorem dX10_marked_117 : decode cX10_marked 117 = .ok (.iadd, 1) := by decide +kernel
theorem dX10_marked_118 : decode cX10_marked 118 = .ok (.aload_n 0, 1) := by decide +kernel
theorem dX10_marked_119 : decode cX10_marked 119 = .ok (.getfield 7, 3) := by decide +kernel
theorem dX10_marked_122 : decode cX10_marked 122 = .ok (.bipush 7, 2) := by decide +kernel
theorem dX10_marked_124 : decode cX10_marked 124 = .ok (.iaload, 1) := by decide +kernel
theorem dX10_marked_125 : decode cX10_marked 125 = .ok (.iastore, 1) := by decide +kernel
theorem dX10_marked_126 : decode cX10_marked 126 = .ok (.aload_n 0, 1) := by decide +kernel
theorem dX10_marked_127 : decode cX10_marked 127 = .ok (.getfield 7, 3) := by decide +kernel
theorem dX10_marked_130 : decode cX10_marked 130 = .ok (.iload_n 1, 1) := by decide +kernel
theorem dX10_marked_131 : decode cX10_marked 131 = .ok (.iconst 3, 1) := by decide +kernel
theorem dX10_marked_132 : decode cX10_marked 132 = .ok (.iadd, 1) := by decide +kernel
theorem dX10_marked_133 : decode cX10_marked 133 = .ok (.aload_n 0, 1) := by decide +kernel
theorem dX10_marked_134 : decode cX10_marked 134 = .ok (.getfield 7, 3) := by decide +kernel
theorem dX10_marked_137 : decode cX10_marked 137 = .ok (.bipush 8, 2) := by decide +kernel
theorem dX10_marked_139 : decode cX10_marked 139 = .ok (.iaload, 1) := by decide +kernel
theorem dX10_marked_140 : decode cX10_marked 140 = .ok (.iastore, 1) := by decide +kernel
theorem dX10_marked_141 : decode cX10_marked 141 = .ok (.aload_n 0, 1) := by decide +kernel
theorem dX10_marked_142 : decode cX10_marked 142 = .ok (.getfield 7, 3) := by decide +kernel
theorem dX10_marked_145 : decode cX10_marked 145 = .ok (.bipush 75, 2) := by decide +kernel
theorem dX10_marked_147 : decode cX10_marked 147 = .ok (.dup2, 1) := by decide +kernel
theorem dX10_marked_148 : decode cX10_marked 148 = .ok (.iaload, 1) := by decide +kernel
theorem dX10_marked_149 : decode cX10_marked 149 = .ok (.iconst 1, 1) := by decide +kernel
theorem dX10_marked_150 : decode cX10_marked 150 = .ok (.iadd, 1) := by decide +kernel
theorem dX10_marked_151 : decode cX10_marked 151 = .ok (.iastore, 1) := by decide +kernel
theorem dX10_marked_152 : decode cX10_marked 152 = .ok (.aload_n 0, 1) := by decide +kernel
theorem dX10_marked_153 : decode cX10_marked 153 = .ok (.getfield 7, 3) := by decide +kernel
theorem dX10_marked_156 : decode cX10_marked 156 = .ok (.bipush 75, 2) := by decide +kernel
theorem dX10_marked_158 : decode cX10_marked 158 = .ok (.iaload, 1) := by decide +kernel
theorem dX10_marked_159 : decode cX10_marked 159 = .ok (.ireturn, 1) := by decide +kernel
theorem dX10_copies_0 : decode cX10_copies 0 = .ok (.iconst 0, 1) := by decide +kernel
theorem dX10_copies_1 : decode cX10_copies 1 = .ok (.istore_n 3, 1) := by decide +kernel
theorem dX10_copies_2 : decode cX10_copies 2 = .ok (.iload_n 3, 1) := by decide +kernel
theorem dX10_copies_3 : decode cX10_copies 3 = .ok (.bipush 116, 2) := by decide +kernel
theorem dX10_copies_5 : decode cX10_copies 5 = .ok (.if_icmp .ge 31, 3) := by decide +kernel
theorem dX10_copies_8 : decode cX10_copies 8 = .ok (.aload_n 0, 1) := by decide +kernel
theorem dX10_copies_9 : decode cX10_copies 9 = .ok (.getfield 7, 3) := by decide +kernel
theorem dX10_copies_12 : decode cX10_copies 12 = .ok (.bipush 116, 2) := by decide +kernel
theorem dX10_copies_14 : decode cX10_copies 14 = .ok (.iload_n 2, 1) := by decide +kernel
theorem dX10_copies_15 : decode cX10_copies 15 = .ok (.imul, 1) := by decide +kernel
theorem dX10_copies_16 : decode cX10_copies 16 = .ok (.iload_n 3, 1) := by decide +kernel
theorem dX10_copies_17 : decode cX10_copies 17 = .ok (.iadd, 1) := by decide +kernel
theorem dX10_copies_18 : decode cX10_copies 18 = .ok (.aload_n 0, 1) := by decide +kernel
theorem dX10_copies_19 : decode cX10_copies 19 = .ok (.getfield 7, 3) := by decide +kernel
theorem dX10_copies_22 : decode cX10_copies 22 = .ok (.bipush 116, 2) := by decide +kernel
theorem dX10_copies_24 : decode cX10_copies 24 = .ok (.iload_n 1, 1) := by decide +kernel
theorem dX10_copies_25 : decode cX10_copies 25 = .ok (.imul, 1) := by decide +kernel
theorem dX10_copies_26 : decode cX10_copies 26 = .ok (.iload_n 3, 1) := by decide +kernel
theorem dX10_copies_27 : decode cX10_copies 27 = .ok (.iadd, 1) := by decide +kernel
theorem dX10_copies_28 : decode cX10_copies 28 = .ok (.iaload, 1) := by decide +kernel
theorem dX10_copies_29 : decode cX10_copies 29 = .ok (.iastore, 1) := by decide +kernel
theorem dX10_copies_30 : decode cX10_copies 30 = .ok (.iinc 3 1, 3) := by decide +kernel
theorem dX10_copies_33 : decode cX10_copies 33 = .ok (.goto (-31), 3) := by decide +kernel
theorem dX10_copies_36 : decode cX10_copies 36 = .ok (.return_, 1) := by decide +kernel
set_option maxRecDepth 20000 in
theorem ggX10_save_X10_copies : GoodIn wsX10_save wsX10_copies := goodIn_r _ [6, 7, 8, 9, 10, 11, 12, 13, 14, 15, 16, 17, 18] (by decide +kernel) (by decide +kernel)
set_option maxRecDepth 20000 in
theorem gX10_save_X10_copies : GoodIn wsX10_save (wsV RX10 61 RX10 yX10_copies wsX10_copies) := goodIn_app (goodIn_of _ (by decide +kernel)) ggX10_save_X10_copies
theorem dX10_save_0 : decode cX10_save 0 = .ok (.iconst 1, 1) := by decide +kernel
theorem dX10_save_1 : decode cX10_save 1 = .ok (.istore_n 1, 1) := by decide +kernel
theorem dX10_save_2 : decode cX10_save 2 = .ok (.iload_n 1, 1) := by decide +kernel
theorem dX10_save_3 : decode cX10_save 3 = .ok (.bipush 6, 2) := by decide +kernel
theorem dX10_save_5 : decode cX10_save 5 = .ok (.if_icmp .ge 26, 3) := by decide +kernel
theorem dX10_save_8 : decode cX10_save 8 = .ok (.aload_n 0, 1) := by decide +kernel
theorem dX10_save_9 : decode cX10_save 9 = .ok (.getfield 58, 3) := by decide +kernel
theorem dX10_save_12 : decode cX10_save 12 = .ok (.bipush 6, 2) := by decide +kernel
theorem dX10_save_14 : decode cX10_save 14 = .ok (.if_icmp .ne 17, 3) := by decide +kernel
theorem dX10_save_17 : decode cX10_save 17 = .ok (.aload_n 0, 1) := by decide +kernel
theorem dX10_save_18 : decode cX10_save 18 = .ok (.iload_n 1, 1) := by decide +kernel
theorem dX10_save_19 : decode cX10_save 19 = .ok (.iconst 1, 1) := by decide +kernel
theorem dX10_save_20 : decode cX10_save 20 = .ok (.iadd, 1) := by decide +kernel
theorem dX10_save_21 : decode cX10_save 21 = .ok (.iload_n 1, 1) := by decide +kernel
theorem dX10_save_22 : decode cX10_save 22 = .ok (.invokevirtual 61, 3) := by decide +kernel
theorem dX10_save_25 : decode cX10_save 25 = .ok (.iinc 1 1, 3) := by decide +kernel
theorem dX10_save_28 : decode cX10_save 28 = .ok (.goto (-26), 3) := by decide +kernel
theorem dX10_save_31 : decode cX10_save 31 = .ok (.aload_n 0, 1) := by decide +kernel
theorem dX10_save_32 : decode cX10_save 32 = .ok (.dup, 1) := by decide +kernel
theorem dX10_save_33 : decode cX10_save 33 = .ok (.getfield 58, 3) := by decide +kernel
theorem dX10_save_36 : decode cX10_save 36 = .ok (.aload_n 0, 1) := by decide +kernel
theorem dX10_save_37 : decode cX10_save 37 = .ok (.getfield 58, 3) := by decide +kernel
theorem dX10_save_40 : decode cX10_save 40 = .ok (.bipush 6, 2) := by decide +kernel
theorem dX10_save_42 : decode cX10_save 42 = .ok (.if_icmp .ge 7, 3) := by decide +kernel
theorem dX10_save_45 : decode cX10_save 45 = .ok (.iconst 1, 1) := by decide +kernel
theorem dX10_save_46 : decode cX10_save 46 = .ok (.goto 4, 3) := by decide +kernel
theorem dX10_save_49 : decode cX10_save 49 = .ok (.iconst 0, 1) := by decide +kernel
theorem dX10_save_50 : decode cX10_save 50 = .ok (.iadd, 1) := by decide +kernel
theorem dX10_save_51 : decode cX10_save 51 = .ok (.putfield 58, 3) := by decide +kernel
theorem dX10_save_54 : decode cX10_save 54 = .ok (.aload_n 0, 1) := by decide +kernel
theorem dX10_save_55 : decode cX10_save 55 = .ok (.iconst 0, 1) := by decide +kernel
theorem dX10_save_56 : decode cX10_save 56 = .ok (.aload_n 0, 1) := by decide +kernel
theorem dX10_save_57 : decode cX10_save 57 = .ok (.getfield 58, 3) := by decide +kernel
theorem dX10_save_60 : decode cX10_save 60 = .ok (.invokevirtual 61, 3) := by decide +kernel
theorem dX10_save_63 : decode cX10_save 63 = .ok (.return_, 1) := by decide +kernel
set_option maxRecDepth 20000 in
theorem ggX10_changed_X10_save : GoodIn wsX10_changed wsX10_save := goodIn_r _ [6, 7, 8, 9, 10, 5, 11, 1, 12, 13, 14, 15, 16, 17, 18, 19, 20, 21, 22] (by decide +kernel) (by decide +kernel)
set_option maxRecDepth 20000 in
theorem gX10_changed_X10_save : GoodIn wsX10_changed (wsV RX10 64 RX10 yX10_save wsX10_save) := goodIn_app (goodIn_of _ (by decide +kernel)) ggX10_changed_X10_save
theorem dX10_changed_0 : decode cX10_changed 0 = .ok (.aload_n 0, 1) := by decide +kernel
theorem dX10_changed_1 : decode cX10_changed 1 = .ok (.invokevirtual 64, 3) := by decide +kernel
theorem dX10_changed_4 : decode cX10_changed 4 = .ok (.aload_n 0, 1) := by decide +kernel
theorem dX10_changed_5 : decode cX10_changed 5 = .ok (.getfield 7, 3) := by decide +kernel
theorem dX10_changed_8 : decode cX10_changed 8 = .ok (.iload_n 1, 1) := by decide +kernel
theorem dX10_changed_9 : decode cX10_changed 9 = .ok (.iaload, 1) := by decide +kernel
theorem dX10_changed_10 : decode cX10_changed 10 = .ok (.istore_n 3, 1) := by decide +kernel
theorem dX10_changed_11 : decode cX10_changed 11 = .ok (.aload_n 0, 1) := by decide +kernel
theorem dX10_changed_12 : decode cX10_changed 12 = .ok (.getfield 7, 3) := by decide +kernel
theorem dX10_changed_15 : decode cX10_changed 15 = .ok (.iload_n 1, 1) := by decide +kernel
theorem dX10_changed_16 : decode cX10_changed 16 = .ok (.iload_n 2, 1) := by decide +kernel
theorem dX10_changed_17 : decode cX10_changed 17 = .ok (.iastore, 1) := by decide +kernel
theorem dX10_changed_18 : decode cX10_changed 18 = .ok (.iload_n 3, 1) := by decide +kernel
theorem dX10_changed_19 : decode cX10_changed 19 = .ok (.ireturn, 1) := by decide +kernel
theorem dX10_told_0 : decode cX10_told 0 = .ok (.aload_n 0, 1) := by decide +kernel
theorem dX10_told_1 : decode cX10_told 1 = .ok (.iconst 0, 1) := by decide +kernel
theorem dX10_told_2 : decode cX10_told 2 = .ok (.putfield 20, 3) := by decide +kernel
theorem dX10_told_5 : decode cX10_told 5 = .ok (.iload_n 1, 1) := by decide +kernel
theorem dX10_told_6 : decode cX10_told 6 = .ok (.ireturn, 1) := by decide +kernel
set_option maxRecDepth 20000 in
theorem ggX10_isTrip_X10_in : GoodIn wsX10_isTrip wsX10_in := goodIn_r _ [4] (by decide +kernel) (by decide +kernel)
set_option maxRecDepth 20000 in
theorem gX10_isTrip_X10_in : GoodIn wsX10_isTrip (va_wsS RX10 67 yX10_in wsX10_in) := goodIn_app (goodIn_of _ (by decide +kernel)) ggX10_isTrip_X10_in
theorem dX10_isTrip_0 : decode cX10_isTrip 0 = .ok (.iload_n 0, 1) := by decide +kernel
theorem dX10_isTrip_1 : decode cX10_isTrip 1 = .ok (.iconst 1, 1) := by decide +kernel
theorem dX10_isTrip_2 : decode cX10_isTrip 2 = .ok (.bipush 120, 2) := by decide +kernel
theorem dX10_isTrip_4 : decode cX10_isTrip 4 = .ok (.invokestatic 67, 3) := by decide +kernel
theorem dX10_isTrip_7 : decode cX10_isTrip 7 = .ok (.ifCond .eq 20, 3) := by decide +kernel
theorem dX10_isTrip_10 : decode cX10_isTrip 10 = .ok (.iload_n 1, 1) := by decide +kernel
theorem dX10_isTrip_11 : decode cX10_isTrip 11 = .ok (.sipush 5000, 3) := by decide +kernel
theorem dX10_isTrip_14 : decode cX10_isTrip 14 = .ok (.sipush 11000, 3) := by decide +kernel
theorem dX10_isTrip_17 : decode cX10_isTrip 17 = .ok (.invokestatic 67, 3) := by decide +kernel
theorem dX10_isTrip_20 : decode cX10_isTrip 20 = .ok (.ifCond .eq 7, 3) := by decide +kernel
theorem dX10_isTrip_23 : decode cX10_isTrip 23 = .ok (.iconst 1, 1) := by decide +kernel
theorem dX10_isTrip_24 : decode cX10_isTrip 24 = .ok (.goto 4, 3) := by decide +kernel
theorem dX10_isTrip_27 : decode cX10_isTrip 27 = .ok (.iconst 0, 1) := by decide +kernel
theorem dX10_isTrip_28 : decode cX10_isTrip 28 = .ok (.ireturn, 1) := by decide +kernel
set_option maxRecDepth 20000 in
theorem ggX10_travel_X10_isTrip : GoodIn wsX10_travel wsX10_isTrip := goodIn_r _ [4, 5, 6, 3, 7] (by decide +kernel) (by decide +kernel)
set_option maxRecDepth 20000 in
theorem gX10_travel_X10_isTrip : GoodIn wsX10_travel (va_wsS RX10 71 yX10_isTrip wsX10_isTrip) := goodIn_app (goodIn_of _ (by decide +kernel)) ggX10_travel_X10_isTrip
set_option maxRecDepth 20000 in
theorem ggX10_travel_X10_holds : GoodIn wsX10_travel wsX10_holds := goodIn_r _ [11, 12, 61, 62, 63, 64, 65, 66, 67, 68, 69, 70, 71] (by decide +kernel) (by decide +kernel)
set_option maxRecDepth 20000 in
theorem gX10_travel_X10_holds : GoodIn wsX10_travel (wsV RX10 75 RX10 yX10_holds wsX10_holds) := goodIn_app (goodIn_of _ (by decide +kernel)) ggX10_travel_X10_holds
set_option maxRecDepth 20000 in
theorem ggX10_travel_X10_save : GoodIn wsX10_travel wsX10_save := goodIn_r _ [16, 17, 18, 19, 20, 3, 21, 22, 61, 62, 63, 64, 65, 66, 67, 68, 69, 70, 71] (by decide +kernel) (by decide +kernel)
set_option maxRecDepth 20000 in
theorem gX10_travel_X10_save : GoodIn wsX10_travel (wsV RX10 64 RX10 yX10_save wsX10_save) := goodIn_app (goodIn_of _ (by decide +kernel)) ggX10_travel_X10_save
set_option maxRecDepth 20000 in
theorem ggX10_travel_X10_trips : GoodIn wsX10_travel wsX10_trips := goodIn_r _ [26, 22, 27, 28, 29, 3, 30, 31, 32, 33, 34, 35, 36, 37, 38, 39, 40, 41, 42, 43, 44, 45, 46, 47, 48, 49, 50, 51, 52, 53, 54, 55, 56, 57, 58, 59, 60, 61, 62, 63, 64, 65, 66, 67, 68, 69, 70, 71] (by decide +kernel) (by decide +kernel)
set_option maxRecDepth 20000 in
theorem gX10_travel_X10_trips : GoodIn wsX10_travel (wsV RX10 78 RX10 yX10_trips wsX10_trips) := goodIn_app (goodIn_of _ (by decide +kernel)) ggX10_travel_X10_trips
set_option maxRecDepth 20000 in
theorem ggX10_travel_X10_altitudeAt : GoodIn wsX10_travel wsX10_altitudeAt := goodIn_r _ [52, 22, 35, 36, 3, 37, 61, 62, 63, 64, 65, 66, 67, 68, 69, 70, 71] (by decide +kernel) (by decide +kernel)
set_option maxRecDepth 20000 in
theorem gX10_travel_X10_altitudeAt : GoodIn wsX10_travel (wsV RX10 31 RX10 yX10_altitudeAt wsX10_altitudeAt) := goodIn_app (goodIn_of _ (by decide +kernel)) ggX10_travel_X10_altitudeAt
theorem dX10_travel_0 : decode cX10_travel 0 = .ok (.aload_n 0, 1) := by decide +kernel
theorem dX10_travel_1 : decode cX10_travel 1 = .ok (.iload_n 1, 1) := by decide +kernel
theorem dX10_travel_2 : decode cX10_travel 2 = .ok (.iload_n 2, 1) := by decide +kernel
theorem dX10_travel_3 : decode cX10_travel 3 = .ok (.invokestatic 71, 3) := by decide +kernel
theorem dX10_travel_6 : decode cX10_travel 6 = .ok (.ifCond .eq 7, 3) := by decide +kernel
theorem dX10_travel_9 : decode cX10_travel 9 = .ok (.iconst 0, 1) := by decide +kernel
theorem dX10_travel_10 : decode cX10_travel 10 = .ok (.goto 4, 3) := by decide +kernel
theorem dX10_travel_13 : decode cX10_travel 13 = .ok (.iconst 1, 1) := by decide +kernel
theorem dX10_travel_14 : decode cX10_travel 14 = .ok (.invokevirtual 75, 3) := by decide +kernel
theorem dX10_travel_17 : decode cX10_travel 17 = .ok (.ifCond .ne 5, 3) := by decide +kernel
theorem dX10_travel_20 : decode cX10_travel 20 = .ok (.iconst 0, 1) := by decide +kernel
theorem dX10_travel_21 : decode cX10_travel 21 = .ok (.ireturn, 1) := by decide +kernel
theorem dX10_travel_22 : decode cX10_travel 22 = .ok (.aload_n 0, 1) := by decide +kernel
theorem dX10_travel_23 : decode cX10_travel 23 = .ok (.invokevirtual 64, 3) := by decide +kernel
theorem dX10_travel_26 : decode cX10_travel 26 = .ok (.aload_n 0, 1) := by decide +kernel
theorem dX10_travel_27 : decode cX10_travel 27 = .ok (.iconst 0, 1) := by decide +kernel
theorem dX10_travel_28 : decode cX10_travel 28 = .ok (.iload_n 1, 1) := by decide +kernel
theorem dX10_travel_29 : decode cX10_travel 29 = .ok (.iload_n 2, 1) := by decide +kernel
theorem dX10_travel_30 : decode cX10_travel 30 = .ok (.invokevirtual 78, 3) := by decide +kernel
theorem dX10_travel_33 : decode cX10_travel 33 = .ok (.aload_n 0, 1) := by decide +kernel
theorem dX10_travel_34 : decode cX10_travel 34 = .ok (.iconst 0, 1) := by decide +kernel
theorem dX10_travel_35 : decode cX10_travel 35 = .ok (.invokevirtual 31, 3) := by decide +kernel
theorem dX10_travel_38 : decode cX10_travel 38 = .ok (.ireturn, 1) := by decide +kernel
set_option maxRecDepth 20000 in
theorem ggX10_setStation_X10_save : GoodIn wsX10_setStation wsX10_save := goodIn_r _ [7, 8, 9, 10, 11, 6, 12, 2, 24, 25, 26, 27, 28, 29, 30, 31, 32, 33, 34] (by decide +kernel) (by decide +kernel)
set_option maxRecDepth 20000 in
theorem gX10_setStation_X10_save : GoodIn wsX10_setStation (wsV RX10 64 RX10 yX10_save wsX10_save) := goodIn_app (goodIn_of _ (by decide +kernel)) ggX10_setStation_X10_save
set_option maxRecDepth 20000 in
theorem ggX10_setStation_X10_switches : GoodIn wsX10_setStation wsX10_switches := goodIn_r _ [16, 2, 17, 18, 19, 6, 20, 21, 22, 23, 24, 25, 26, 27, 28, 29, 30, 31, 32, 33, 34] (by decide +kernel) (by decide +kernel)
set_option maxRecDepth 20000 in
theorem gX10_setStation_X10_switches : GoodIn wsX10_setStation (wsV RX10 82 RX10 yX10_switches wsX10_switches) := goodIn_app (goodIn_of _ (by decide +kernel)) ggX10_setStation_X10_switches
theorem dX10_setStation_0 : decode cX10_setStation 0 = .ok (.aload_n 0, 1) := by decide +kernel
theorem dX10_setStation_1 : decode cX10_setStation 1 = .ok (.iconst 0, 1) := by decide +kernel
theorem dX10_setStation_2 : decode cX10_setStation 2 = .ok (.putfield 20, 3) := by decide +kernel
theorem dX10_setStation_5 : decode cX10_setStation 5 = .ok (.aload_n 0, 1) := by decide +kernel
theorem dX10_setStation_6 : decode cX10_setStation 6 = .ok (.invokevirtual 64, 3) := by decide +kernel
theorem dX10_setStation_9 : decode cX10_setStation 9 = .ok (.aload_n 0, 1) := by decide +kernel
theorem dX10_setStation_10 : decode cX10_setStation 10 = .ok (.getfield 7, 3) := by decide +kernel
theorem dX10_setStation_13 : decode cX10_setStation 13 = .ok (.iconst 2, 1) := by decide +kernel
theorem dX10_setStation_14 : decode cX10_setStation 14 = .ok (.iaload, 1) := by decide +kernel
theorem dX10_setStation_15 : decode cX10_setStation 15 = .ok (.iconst 1, 1) := by decide +kernel
theorem dX10_setStation_16 : decode cX10_setStation 16 = .ok (.if_icmp .ne 7, 3) := by decide +kernel
theorem dX10_setStation_19 : decode cX10_setStation 19 = .ok (.iconst 1, 1) := by decide +kernel
theorem dX10_setStation_20 : decode cX10_setStation 20 = .ok (.goto 4, 3) := by decide +kernel
theorem dX10_setStation_23 : decode cX10_setStation 23 = .ok (.iconst 0, 1) := by decide +kernel
theorem dX10_setStation_24 : decode cX10_setStation 24 = .ok (.istore_n 2, 1) := by decide +kernel
theorem dX10_setStation_25 : decode cX10_setStation 25 = .ok (.iload_n 2, 1) := by decide +kernel
theorem dX10_setStation_26 : decode cX10_setStation 26 = .ok (.iload_n 1, 1) := by decide +kernel
theorem dX10_setStation_27 : decode cX10_setStation 27 = .ok (.if_icmp .eq 8, 3) := by decide +kernel
theorem dX10_setStation_30 : decode cX10_setStation 30 = .ok (.aload_n 0, 1) := by decide +kernel
theorem dX10_setStation_31 : decode cX10_setStation 31 = .ok (.iload_n 1, 1) := by decide +kernel
theorem dX10_setStation_32 : decode cX10_setStation 32 = .ok (.invokevirtual 82, 3) := by decide +kernel
theorem dX10_setStation_35 : decode cX10_setStation 35 = .ok (.iload_n 2, 1) := by decide +kernel
theorem dX10_setStation_36 : decode cX10_setStation 36 = .ok (.ireturn, 1) := by decide +kernel
theorem dX10_isStation_0 : decode cX10_isStation 0 = .ok (.aload_n 0, 1) := by decide +kernel
theorem dX10_isStation_1 : decode cX10_isStation 1 = .ok (.iconst 0, 1) := by decide +kernel
theorem dX10_isStation_2 : decode cX10_isStation 2 = .ok (.putfield 20, 3) := by decide +kernel
theorem dX10_isStation_5 : decode cX10_isStation 5 = .ok (.aload_n 0, 1) := by decide +kernel
theorem dX10_isStation_6 : decode cX10_isStation 6 = .ok (.getfield 7, 3) := by decide +kernel
theorem dX10_isStation_9 : decode cX10_isStation 9 = .ok (.iconst 2, 1) := by decide +kernel
theorem dX10_isStation_10 : decode cX10_isStation 10 = .ok (.iaload, 1) := by decide +kernel
theorem dX10_isStation_11 : decode cX10_isStation 11 = .ok (.iconst 1, 1) := by decide +kernel
theorem dX10_isStation_12 : decode cX10_isStation 12 = .ok (.if_icmp .ne 7, 3) := by decide +kernel
theorem dX10_isStation_15 : decode cX10_isStation 15 = .ok (.iconst 1, 1) := by decide +kernel
theorem dX10_isStation_16 : decode cX10_isStation 16 = .ok (.goto 4, 3) := by decide +kernel
theorem dX10_isStation_19 : decode cX10_isStation 19 = .ok (.iconst 0, 1) := by decide +kernel
theorem dX10_isStation_20 : decode cX10_isStation 20 = .ok (.ireturn, 1) := by decide +kernel
set_option maxRecDepth 20000 in
theorem ggX10_pressure_X10_told : GoodIn wsX10_pressure wsX10_told := goodIn_r _ [6, 7, 8, 9, 10, 11, 12, 13, 14, 15, 16, 17, 18] (by decide +kernel) (by decide +kernel)
set_option maxRecDepth 20000 in
theorem gX10_pressure_X10_told : GoodIn wsX10_pressure (wsV RX10 86 RX10 yX10_told wsX10_told) := goodIn_app (goodIn_of _ (by decide +kernel)) ggX10_pressure_X10_told
theorem dX10_pressure_0 : decode cX10_pressure 0 = .ok (.aload_n 0, 1) := by decide +kernel
theorem dX10_pressure_1 : decode cX10_pressure 1 = .ok (.aload_n 0, 1) := by decide +kernel
theorem dX10_pressure_2 : decode cX10_pressure 2 = .ok (.getfield 7, 3) := by decide +kernel
theorem dX10_pressure_5 : decode cX10_pressure 5 = .ok (.iconst 0, 1) := by decide +kernel
theorem dX10_pressure_6 : decode cX10_pressure 6 = .ok (.iaload, 1) := by decide +kernel
theorem dX10_pressure_7 : decode cX10_pressure 7 = .ok (.invokevirtual 86, 3) := by decide +kernel
theorem dX10_pressure_10 : decode cX10_pressure 10 = .ok (.ireturn, 1) := by decide +kernel
set_option maxRecDepth 20000 in
theorem ggX10_altitude_X10_altitudeAt : GoodIn wsX10_altitude wsX10_altitudeAt := goodIn_r _ [5, 6, 7, 8, 4, 9, 15, 16, 17, 18, 19, 20, 21, 22, 23, 24, 25] (by decide +kernel) (by decide +kernel)
set_option maxRecDepth 20000 in
theorem gX10_altitude_X10_altitudeAt : GoodIn wsX10_altitude (wsV RX10 31 RX10 yX10_altitudeAt wsX10_altitudeAt) := goodIn_app (goodIn_of _ (by decide +kernel)) ggX10_altitude_X10_altitudeAt
set_option maxRecDepth 20000 in
theorem ggX10_altitude_X10_told : GoodIn wsX10_altitude wsX10_told := goodIn_r _ [13, 14, 15, 16, 17, 18, 19, 20, 21, 22, 23, 24, 25] (by decide +kernel) (by decide +kernel)
set_option maxRecDepth 20000 in
theorem gX10_altitude_X10_told : GoodIn wsX10_altitude (wsV RX10 86 RX10 yX10_told wsX10_told) := goodIn_app (goodIn_of _ (by decide +kernel)) ggX10_altitude_X10_told
theorem dX10_altitude_0 : decode cX10_altitude 0 = .ok (.aload_n 0, 1) := by decide +kernel
theorem dX10_altitude_1 : decode cX10_altitude 1 = .ok (.aload_n 0, 1) := by decide +kernel
theorem dX10_altitude_2 : decode cX10_altitude 2 = .ok (.iconst 0, 1) := by decide +kernel
theorem dX10_altitude_3 : decode cX10_altitude 3 = .ok (.invokevirtual 31, 3) := by decide +kernel
theorem dX10_altitude_6 : decode cX10_altitude 6 = .ok (.invokevirtual 86, 3) := by decide +kernel
theorem dX10_altitude_9 : decode cX10_altitude 9 = .ok (.ireturn, 1) := by decide +kernel
set_option maxRecDepth 20000 in
theorem ggX10_minutes_X10_told : GoodIn wsX10_minutes wsX10_told := goodIn_r _ [6, 7, 8, 9, 10, 11, 12, 13, 14, 15, 16, 17, 18] (by decide +kernel) (by decide +kernel)
set_option maxRecDepth 20000 in
theorem gX10_minutes_X10_told : GoodIn wsX10_minutes (wsV RX10 86 RX10 yX10_told wsX10_told) := goodIn_app (goodIn_of _ (by decide +kernel)) ggX10_minutes_X10_told
theorem dX10_minutes_0 : decode cX10_minutes 0 = .ok (.aload_n 0, 1) := by decide +kernel
theorem dX10_minutes_1 : decode cX10_minutes 1 = .ok (.aload_n 0, 1) := by decide +kernel
theorem dX10_minutes_2 : decode cX10_minutes 2 = .ok (.getfield 7, 3) := by decide +kernel
theorem dX10_minutes_5 : decode cX10_minutes 5 = .ok (.iconst 4, 1) := by decide +kernel
theorem dX10_minutes_6 : decode cX10_minutes 6 = .ok (.iaload, 1) := by decide +kernel
theorem dX10_minutes_7 : decode cX10_minutes 7 = .ok (.invokevirtual 86, 3) := by decide +kernel
theorem dX10_minutes_10 : decode cX10_minutes 10 = .ok (.ireturn, 1) := by decide +kernel
set_option maxRecDepth 20000 in
theorem ggX10_standard_X10_in : GoodIn wsX10_standard wsX10_in := goodIn_r _ [4] (by decide +kernel) (by decide +kernel)
set_option maxRecDepth 20000 in
theorem gX10_standard_X10_in : GoodIn wsX10_standard (va_wsS RX10 67 yX10_in wsX10_in) := goodIn_app (goodIn_of _ (by decide +kernel)) ggX10_standard_X10_in
set_option maxRecDepth 20000 in
theorem ggX10_standard_X10_holds : GoodIn wsX10_standard wsX10_holds := goodIn_r _ [8, 9, 13, 14, 15, 16, 17, 18, 19, 20, 21, 22, 23] (by decide +kernel) (by decide +kernel)
set_option maxRecDepth 20000 in
theorem gX10_standard_X10_holds : GoodIn wsX10_standard (wsV RX10 75 RX10 yX10_holds wsX10_holds) := goodIn_app (goodIn_of _ (by decide +kernel)) ggX10_standard_X10_holds
set_option maxRecDepth 20000 in
theorem ggX10_standard_X10_standardOf : GoodIn wsX10_standard wsX10_standardOf := goodIn_r _ [12] (by decide +kernel) (by decide +kernel)
set_option maxRecDepth 20000 in
theorem gX10_standard_X10_standardOf : GoodIn wsX10_standard (va_wsS RX10 24 yX10_standardOf wsX10_standardOf) := goodIn_app (goodIn_of _ (by decide +kernel)) ggX10_standard_X10_standardOf
theorem dX10_standard_0 : decode cX10_standard 0 = .ok (.aload_n 0, 1) := by decide +kernel
theorem dX10_standard_1 : decode cX10_standard 1 = .ok (.iload_n 1, 1) := by decide +kernel
theorem dX10_standard_2 : decode cX10_standard 2 = .ok (.sipush 5000, 3) := by decide +kernel
theorem dX10_standard_5 : decode cX10_standard 5 = .ok (.sipush 11000, 3) := by decide +kernel
theorem dX10_standard_8 : decode cX10_standard 8 = .ok (.invokestatic 67, 3) := by decide +kernel
theorem dX10_standard_11 : decode cX10_standard 11 = .ok (.ifCond .eq 7, 3) := by decide +kernel
theorem dX10_standard_14 : decode cX10_standard 14 = .ok (.iconst 0, 1) := by decide +kernel
theorem dX10_standard_15 : decode cX10_standard 15 = .ok (.goto 4, 3) := by decide +kernel
theorem dX10_standard_18 : decode cX10_standard 18 = .ok (.iconst 1, 1) := by decide +kernel
theorem dX10_standard_19 : decode cX10_standard 19 = .ok (.invokevirtual 75, 3) := by decide +kernel
theorem dX10_standard_22 : decode cX10_standard 22 = .ok (.ifCond .eq 10, 3) := by decide +kernel
theorem dX10_standard_25 : decode cX10_standard 25 = .ok (.iload_n 1, 1) := by decide +kernel
theorem dX10_standard_26 : decode cX10_standard 26 = .ok (.invokestatic 24, 3) := by decide +kernel
theorem dX10_standard_29 : decode cX10_standard 29 = .ok (.goto 4, 3) := by decide +kernel
theorem dX10_standard_32 : decode cX10_standard 32 = .ok (.iconst 0, 1) := by decide +kernel
theorem dX10_standard_33 : decode cX10_standard 33 = .ok (.ireturn, 1) := by decide +kernel
set_option maxRecDepth 20000 in
theorem ggX10_setSea_X10_in : GoodIn wsX10_setSea wsX10_in := goodIn_r _ [4] (by decide +kernel) (by decide +kernel)
set_option maxRecDepth 20000 in
theorem gX10_setSea_X10_in : GoodIn wsX10_setSea (va_wsS RX10 67 yX10_in wsX10_in) := goodIn_app (goodIn_of _ (by decide +kernel)) ggX10_setSea_X10_in
set_option maxRecDepth 20000 in
theorem ggX10_setSea_X10_holds : GoodIn wsX10_setSea wsX10_holds := goodIn_r _ [8, 9, 35, 36, 37, 38, 39, 40, 41, 42, 43, 44, 45] (by decide +kernel) (by decide +kernel)
set_option maxRecDepth 20000 in
theorem gX10_setSea_X10_holds : GoodIn wsX10_setSea (wsV RX10 75 RX10 yX10_holds wsX10_holds) := goodIn_app (goodIn_of _ (by decide +kernel)) ggX10_setSea_X10_holds
set_option maxRecDepth 20000 in
theorem ggX10_setSea_X10_changed : GoodIn wsX10_setSea wsX10_changed := goodIn_r _ [13, 14, 15, 16, 17, 3, 18, 19, 20, 21, 22, 23, 35, 36, 37, 38, 39, 40, 41, 42, 43, 44, 45] (by decide +kernel) (by decide +kernel)
set_option maxRecDepth 20000 in
theorem gX10_setSea_X10_changed : GoodIn wsX10_setSea (wsV RX10 89 RX10 yX10_changed wsX10_changed) := goodIn_app (goodIn_of _ (by decide +kernel)) ggX10_setSea_X10_changed
set_option maxRecDepth 20000 in
theorem ggX10_setSea_X10_settles : GoodIn wsX10_setSea wsX10_settles := goodIn_r _ [27, 14, 28, 29, 30, 3, 31, 32, 33, 34, 35, 36, 37, 38, 39, 40, 41, 42, 43, 44, 45] (by decide +kernel) (by decide +kernel)
set_option maxRecDepth 20000 in
theorem gX10_setSea_X10_settles : GoodIn wsX10_setSea (wsV RX10 55 RX10 yX10_settles wsX10_settles) := goodIn_app (goodIn_of _ (by decide +kernel)) ggX10_setSea_X10_settles
theorem dX10_setSea_0 : decode cX10_setSea 0 = .ok (.aload_n 0, 1) := by decide +kernel
theorem dX10_setSea_1 : decode cX10_setSea 1 = .ok (.iload_n 1, 1) := by decide +kernel
theorem dX10_setSea_2 : decode cX10_setSea 2 = .ok (.sipush 9000, 3) := by decide +kernel
theorem dX10_setSea_5 : decode cX10_setSea 5 = .ok (.sipush 10800, 3) := by decide +kernel
theorem dX10_setSea_8 : decode cX10_setSea 8 = .ok (.invokestatic 67, 3) := by decide +kernel
theorem dX10_setSea_11 : decode cX10_setSea 11 = .ok (.ifCond .eq 7, 3) := by decide +kernel
theorem dX10_setSea_14 : decode cX10_setSea 14 = .ok (.iconst 0, 1) := by decide +kernel
theorem dX10_setSea_15 : decode cX10_setSea 15 = .ok (.goto 4, 3) := by decide +kernel
theorem dX10_setSea_18 : decode cX10_setSea 18 = .ok (.iconst 1, 1) := by decide +kernel
theorem dX10_setSea_19 : decode cX10_setSea 19 = .ok (.invokevirtual 75, 3) := by decide +kernel
theorem dX10_setSea_22 : decode cX10_setSea 22 = .ok (.ifCond .ne 5, 3) := by decide +kernel
theorem dX10_setSea_25 : decode cX10_setSea 25 = .ok (.iconst 0, 1) := by decide +kernel
theorem dX10_setSea_26 : decode cX10_setSea 26 = .ok (.ireturn, 1) := by decide +kernel
theorem dX10_setSea_27 : decode cX10_setSea 27 = .ok (.aload_n 0, 1) := by decide +kernel
theorem dX10_setSea_28 : decode cX10_setSea 28 = .ok (.iconst 1, 1) := by decide +kernel
theorem dX10_setSea_29 : decode cX10_setSea 29 = .ok (.iload_n 1, 1) := by decide +kernel
theorem dX10_setSea_30 : decode cX10_setSea 30 = .ok (.invokevirtual 89, 3) := by decide +kernel
theorem dX10_setSea_33 : decode cX10_setSea 33 = .ok (.istore_n 2, 1) := by decide +kernel
theorem dX10_setSea_34 : decode cX10_setSea 34 = .ok (.aload_n 0, 1) := by decide +kernel
theorem dX10_setSea_35 : decode cX10_setSea 35 = .ok (.invokevirtual 55, 3) := by decide +kernel
theorem dX10_setSea_38 : decode cX10_setSea 38 = .ok (.iload_n 2, 1) := by decide +kernel
theorem dX10_setSea_39 : decode cX10_setSea 39 = .ok (.ireturn, 1) := by decide +kernel
set_option maxRecDepth 20000 in
theorem ggX10_calibrate_X10_in : GoodIn wsX10_calibrate wsX10_in := goodIn_r _ [5] (by decide +kernel) (by decide +kernel)
set_option maxRecDepth 20000 in
theorem gX10_calibrate_X10_in : GoodIn wsX10_calibrate (va_wsS RX10 67 yX10_in wsX10_in) := goodIn_app (goodIn_of _ (by decide +kernel)) ggX10_calibrate_X10_in
set_option maxRecDepth 20000 in
theorem ggX10_calibrate_X10_holds : GoodIn wsX10_calibrate wsX10_holds := goodIn_r _ [9, 10, 43, 44, 45, 46, 47, 48, 49, 50, 51, 52, 53] (by decide +kernel) (by decide +kernel)
set_option maxRecDepth 20000 in
theorem gX10_calibrate_X10_holds : GoodIn wsX10_calibrate (wsV RX10 75 RX10 yX10_holds wsX10_holds) := goodIn_app (goodIn_of _ (by decide +kernel)) ggX10_calibrate_X10_holds
set_option maxRecDepth 20000 in
theorem ggX10_calibrate_X10_save : GoodIn wsX10_calibrate wsX10_save := goodIn_r _ [14, 15, 16, 17, 18, 4, 19, 20, 43, 44, 45, 46, 47, 48, 49, 50, 51, 52, 53] (by decide +kernel) (by decide +kernel)
set_option maxRecDepth 20000 in
theorem gX10_calibrate_X10_save : GoodIn wsX10_calibrate (wsV RX10 64 RX10 yX10_save wsX10_save) := goodIn_app (goodIn_of _ (by decide +kernel)) ggX10_calibrate_X10_save
set_option maxRecDepth 20000 in
theorem ggX10_calibrate_X10_calibrates : GoodIn wsX10_calibrate wsX10_calibrates := goodIn_r _ [24, 20, 25, 26, 27, 4, 28, 29, 30, 31, 32, 33, 34, 35, 36, 37, 38, 39, 40, 41, 42, 43, 44, 45, 46, 47, 48, 49, 50, 51, 52, 53] (by decide +kernel) (by decide +kernel)
set_option maxRecDepth 20000 in
theorem gX10_calibrate_X10_calibrates : GoodIn wsX10_calibrate (wsV RX10 94 RX10 yX10_calibrates wsX10_calibrates) := goodIn_app (goodIn_of _ (by decide +kernel)) ggX10_calibrate_X10_calibrates
theorem dX10_calibrate_0 : decode cX10_calibrate 0 = .ok (.aload_n 0, 1) := by decide +kernel
theorem dX10_calibrate_1 : decode cX10_calibrate 1 = .ok (.iload_n 1, 1) := by decide +kernel
theorem dX10_calibrate_2 : decode cX10_calibrate 2 = .ok (.sipush (-5000), 3) := by decide +kernel
theorem dX10_calibrate_5 : decode cX10_calibrate 5 = .ok (.ldc 93, 2) := by decide +kernel
theorem dX10_calibrate_7 : decode cX10_calibrate 7 = .ok (.invokestatic 67, 3) := by decide +kernel
theorem dX10_calibrate_10 : decode cX10_calibrate 10 = .ok (.ifCond .eq 7, 3) := by decide +kernel
theorem dX10_calibrate_13 : decode cX10_calibrate 13 = .ok (.iconst 0, 1) := by decide +kernel
theorem dX10_calibrate_14 : decode cX10_calibrate 14 = .ok (.goto 4, 3) := by decide +kernel
theorem dX10_calibrate_17 : decode cX10_calibrate 17 = .ok (.iconst 1, 1) := by decide +kernel
theorem dX10_calibrate_18 : decode cX10_calibrate 18 = .ok (.invokevirtual 75, 3) := by decide +kernel
theorem dX10_calibrate_21 : decode cX10_calibrate 21 = .ok (.ifCond .ne 5, 3) := by decide +kernel
theorem dX10_calibrate_24 : decode cX10_calibrate 24 = .ok (.iconst 0, 1) := by decide +kernel
theorem dX10_calibrate_25 : decode cX10_calibrate 25 = .ok (.ireturn, 1) := by decide +kernel
theorem dX10_calibrate_26 : decode cX10_calibrate 26 = .ok (.aload_n 0, 1) := by decide +kernel
theorem dX10_calibrate_27 : decode cX10_calibrate 27 = .ok (.invokevirtual 64, 3) := by decide +kernel
theorem dX10_calibrate_30 : decode cX10_calibrate 30 = .ok (.aload_n 0, 1) := by decide +kernel
theorem dX10_calibrate_31 : decode cX10_calibrate 31 = .ok (.iload_n 1, 1) := by decide +kernel
theorem dX10_calibrate_32 : decode cX10_calibrate 32 = .ok (.invokevirtual 94, 3) := by decide +kernel
theorem dX10_calibrate_35 : decode cX10_calibrate 35 = .ok (.ireturn, 1) := by decide +kernel
set_option maxRecDepth 20000 in
theorem ggX10_sea_X10_told : GoodIn wsX10_sea wsX10_told := goodIn_r _ [6, 7, 8, 9, 10, 11, 12, 13, 14, 15, 16, 17, 18] (by decide +kernel) (by decide +kernel)
set_option maxRecDepth 20000 in
theorem gX10_sea_X10_told : GoodIn wsX10_sea (wsV RX10 86 RX10 yX10_told wsX10_told) := goodIn_app (goodIn_of _ (by decide +kernel)) ggX10_sea_X10_told
theorem dX10_sea_0 : decode cX10_sea 0 = .ok (.aload_n 0, 1) := by decide +kernel
theorem dX10_sea_1 : decode cX10_sea 1 = .ok (.aload_n 0, 1) := by decide +kernel
theorem dX10_sea_2 : decode cX10_sea 2 = .ok (.getfield 7, 3) := by decide +kernel
theorem dX10_sea_5 : decode cX10_sea 5 = .ok (.iconst 1, 1) := by decide +kernel
theorem dX10_sea_6 : decode cX10_sea 6 = .ok (.iaload, 1) := by decide +kernel
theorem dX10_sea_7 : decode cX10_sea 7 = .ok (.invokevirtual 86, 3) := by decide +kernel
theorem dX10_sea_10 : decode cX10_sea 10 = .ok (.ireturn, 1) := by decide +kernel
set_option maxRecDepth 20000 in
theorem ggX10_drift_X10_told : GoodIn wsX10_drift wsX10_told := goodIn_r _ [6, 7, 8, 9, 10, 11, 12, 13, 14, 15, 16, 17, 18] (by decide +kernel) (by decide +kernel)
set_option maxRecDepth 20000 in
theorem gX10_drift_X10_told : GoodIn wsX10_drift (wsV RX10 86 RX10 yX10_told wsX10_told) := goodIn_app (goodIn_of _ (by decide +kernel)) ggX10_drift_X10_told
theorem dX10_drift_0 : decode cX10_drift 0 = .ok (.aload_n 0, 1) := by decide +kernel
theorem dX10_drift_1 : decode cX10_drift 1 = .ok (.aload_n 0, 1) := by decide +kernel
theorem dX10_drift_2 : decode cX10_drift 2 = .ok (.getfield 7, 3) := by decide +kernel
theorem dX10_drift_5 : decode cX10_drift 5 = .ok (.iconst 5, 1) := by decide +kernel
theorem dX10_drift_6 : decode cX10_drift 6 = .ok (.iaload, 1) := by decide +kernel
theorem dX10_drift_7 : decode cX10_drift 7 = .ok (.invokevirtual 86, 3) := by decide +kernel
theorem dX10_drift_10 : decode cX10_drift 10 = .ok (.ireturn, 1) := by decide +kernel
set_option maxRecDepth 20000 in
theorem ggX10_calibrations_X10_told : GoodIn wsX10_calibrations wsX10_told := goodIn_r _ [6, 7, 8, 9, 10, 11, 12, 13, 14, 15, 16, 17, 18] (by decide +kernel) (by decide +kernel)
set_option maxRecDepth 20000 in
theorem gX10_calibrations_X10_told : GoodIn wsX10_calibrations (wsV RX10 86 RX10 yX10_told wsX10_told) := goodIn_app (goodIn_of _ (by decide +kernel)) ggX10_calibrations_X10_told
theorem dX10_calibrations_0 : decode cX10_calibrations 0 = .ok (.aload_n 0, 1) := by decide +kernel
theorem dX10_calibrations_1 : decode cX10_calibrations 1 = .ok (.aload_n 0, 1) := by decide +kernel
theorem dX10_calibrations_2 : decode cX10_calibrations 2 = .ok (.getfield 7, 3) := by decide +kernel
theorem dX10_calibrations_5 : decode cX10_calibrations 5 = .ok (.bipush 6, 2) := by decide +kernel
theorem dX10_calibrations_7 : decode cX10_calibrations 7 = .ok (.iaload, 1) := by decide +kernel
theorem dX10_calibrations_8 : decode cX10_calibrations 8 = .ok (.invokevirtual 86, 3) := by decide +kernel
theorem dX10_calibrations_11 : decode cX10_calibrations 11 = .ok (.ireturn, 1) := by decide +kernel
set_option maxRecDepth 20000 in
theorem ggX10_setThreshold_X10_in : GoodIn wsX10_setThreshold wsX10_in := goodIn_r _ [4] (by decide +kernel) (by decide +kernel)
set_option maxRecDepth 20000 in
theorem gX10_setThreshold_X10_in : GoodIn wsX10_setThreshold (va_wsS RX10 67 yX10_in wsX10_in) := goodIn_app (goodIn_of _ (by decide +kernel)) ggX10_setThreshold_X10_in
set_option maxRecDepth 20000 in
theorem ggX10_setThreshold_X10_holds : GoodIn wsX10_setThreshold wsX10_holds := goodIn_r _ [8, 9, 24, 25, 26, 27, 28, 29, 30, 31, 32, 33, 34] (by decide +kernel) (by decide +kernel)
set_option maxRecDepth 20000 in
theorem gX10_setThreshold_X10_holds : GoodIn wsX10_setThreshold (wsV RX10 75 RX10 yX10_holds wsX10_holds) := goodIn_app (goodIn_of _ (by decide +kernel)) ggX10_setThreshold_X10_holds
set_option maxRecDepth 20000 in
theorem ggX10_setThreshold_X10_changed : GoodIn wsX10_setThreshold wsX10_changed := goodIn_r _ [13, 14, 15, 16, 17, 3, 18, 19, 20, 21, 22, 23, 24, 25, 26, 27, 28, 29, 30, 31, 32, 33, 34] (by decide +kernel) (by decide +kernel)
set_option maxRecDepth 20000 in
theorem gX10_setThreshold_X10_changed : GoodIn wsX10_setThreshold (wsV RX10 89 RX10 yX10_changed wsX10_changed) := goodIn_app (goodIn_of _ (by decide +kernel)) ggX10_setThreshold_X10_changed
theorem dX10_setThreshold_0 : decode cX10_setThreshold 0 = .ok (.aload_n 0, 1) := by decide +kernel
theorem dX10_setThreshold_1 : decode cX10_setThreshold 1 = .ok (.iload_n 1, 1) := by decide +kernel
theorem dX10_setThreshold_2 : decode cX10_setThreshold 2 = .ok (.bipush 10, 2) := by decide +kernel
theorem dX10_setThreshold_4 : decode cX10_setThreshold 4 = .ok (.sipush 500, 3) := by decide +kernel
theorem dX10_setThreshold_7 : decode cX10_setThreshold 7 = .ok (.invokestatic 67, 3) := by decide +kernel
theorem dX10_setThreshold_10 : decode cX10_setThreshold 10 = .ok (.ifCond .eq 7, 3) := by decide +kernel
theorem dX10_setThreshold_13 : decode cX10_setThreshold 13 = .ok (.iconst 0, 1) := by decide +kernel
theorem dX10_setThreshold_14 : decode cX10_setThreshold 14 = .ok (.goto 4, 3) := by decide +kernel
theorem dX10_setThreshold_17 : decode cX10_setThreshold 17 = .ok (.iconst 1, 1) := by decide +kernel
theorem dX10_setThreshold_18 : decode cX10_setThreshold 18 = .ok (.invokevirtual 75, 3) := by decide +kernel
theorem dX10_setThreshold_21 : decode cX10_setThreshold 21 = .ok (.ifCond .eq 13, 3) := by decide +kernel
theorem dX10_setThreshold_24 : decode cX10_setThreshold 24 = .ok (.aload_n 0, 1) := by decide +kernel
theorem dX10_setThreshold_25 : decode cX10_setThreshold 25 = .ok (.bipush 10, 2) := by decide +kernel
theorem dX10_setThreshold_27 : decode cX10_setThreshold 27 = .ok (.iload_n 1, 1) := by decide +kernel
theorem dX10_setThreshold_28 : decode cX10_setThreshold 28 = .ok (.invokevirtual 89, 3) := by decide +kernel
theorem dX10_setThreshold_31 : decode cX10_setThreshold 31 = .ok (.goto 4, 3) := by decide +kernel
theorem dX10_setThreshold_34 : decode cX10_setThreshold 34 = .ok (.iconst 0, 1) := by decide +kernel
theorem dX10_setThreshold_35 : decode cX10_setThreshold 35 = .ok (.ireturn, 1) := by decide +kernel
set_option maxRecDepth 20000 in
theorem ggX10_ascent_X10_told : GoodIn wsX10_ascent wsX10_told := goodIn_r _ [6, 7, 8, 9, 10, 11, 12, 13, 14, 15, 16, 17, 18] (by decide +kernel) (by decide +kernel)
set_option maxRecDepth 20000 in
theorem gX10_ascent_X10_told : GoodIn wsX10_ascent (wsV RX10 86 RX10 yX10_told wsX10_told) := goodIn_app (goodIn_of _ (by decide +kernel)) ggX10_ascent_X10_told
theorem dX10_ascent_0 : decode cX10_ascent 0 = .ok (.aload_n 0, 1) := by decide +kernel
theorem dX10_ascent_1 : decode cX10_ascent 1 = .ok (.aload_n 0, 1) := by decide +kernel
theorem dX10_ascent_2 : decode cX10_ascent 2 = .ok (.getfield 7, 3) := by decide +kernel
theorem dX10_ascent_5 : decode cX10_ascent 5 = .ok (.bipush 7, 2) := by decide +kernel
theorem dX10_ascent_7 : decode cX10_ascent 7 = .ok (.iaload, 1) := by decide +kernel
theorem dX10_ascent_8 : decode cX10_ascent 8 = .ok (.invokevirtual 86, 3) := by decide +kernel
theorem dX10_ascent_11 : decode cX10_ascent 11 = .ok (.ireturn, 1) := by decide +kernel
set_option maxRecDepth 20000 in
theorem ggX10_descent_X10_told : GoodIn wsX10_descent wsX10_told := goodIn_r _ [6, 7, 8, 9, 10, 11, 12, 13, 14, 15, 16, 17, 18] (by decide +kernel) (by decide +kernel)
set_option maxRecDepth 20000 in
theorem gX10_descent_X10_told : GoodIn wsX10_descent (wsV RX10 86 RX10 yX10_told wsX10_told) := goodIn_app (goodIn_of _ (by decide +kernel)) ggX10_descent_X10_told
theorem dX10_descent_0 : decode cX10_descent 0 = .ok (.aload_n 0, 1) := by decide +kernel
theorem dX10_descent_1 : decode cX10_descent 1 = .ok (.aload_n 0, 1) := by decide +kernel
theorem dX10_descent_2 : decode cX10_descent 2 = .ok (.getfield 7, 3) := by decide +kernel
theorem dX10_descent_5 : decode cX10_descent 5 = .ok (.bipush 8, 2) := by decide +kernel
theorem dX10_descent_7 : decode cX10_descent 7 = .ok (.iaload, 1) := by decide +kernel
theorem dX10_descent_8 : decode cX10_descent 8 = .ok (.invokevirtual 86, 3) := by decide +kernel
theorem dX10_descent_11 : decode cX10_descent 11 = .ok (.ireturn, 1) := by decide +kernel
set_option maxRecDepth 20000 in
theorem ggX10_base_X10_told : GoodIn wsX10_base wsX10_told := goodIn_r _ [6, 7, 8, 9, 10, 11, 12, 13, 14, 15, 16, 17, 18] (by decide +kernel) (by decide +kernel)
set_option maxRecDepth 20000 in
theorem gX10_base_X10_told : GoodIn wsX10_base (wsV RX10 86 RX10 yX10_told wsX10_told) := goodIn_app (goodIn_of _ (by decide +kernel)) ggX10_base_X10_told
theorem dX10_base_0 : decode cX10_base 0 = .ok (.aload_n 0, 1) := by decide +kernel
theorem dX10_base_1 : decode cX10_base 1 = .ok (.aload_n 0, 1) := by decide +kernel
theorem dX10_base_2 : decode cX10_base 2 = .ok (.getfield 7, 3) := by decide +kernel
theorem dX10_base_5 : decode cX10_base 5 = .ok (.bipush 9, 2) := by decide +kernel
theorem dX10_base_7 : decode cX10_base 7 = .ok (.iaload, 1) := by decide +kernel
theorem dX10_base_8 : decode cX10_base 8 = .ok (.invokevirtual 86, 3) := by decide +kernel
theorem dX10_base_11 : decode cX10_base 11 = .ok (.ireturn, 1) := by decide +kernel
set_option maxRecDepth 20000 in
theorem ggX10_setMark_X10_save : GoodIn wsX10_setMark wsX10_save := goodIn_r _ [6, 7, 8, 9, 10, 5, 11, 12, 24, 25, 26, 27, 28, 29, 30, 31, 32, 33, 34] (by decide +kernel) (by decide +kernel)
set_option maxRecDepth 20000 in
theorem gX10_setMark_X10_save : GoodIn wsX10_setMark (wsV RX10 64 RX10 yX10_save wsX10_save) := goodIn_app (goodIn_of _ (by decide +kernel)) ggX10_setMark_X10_save
set_option maxRecDepth 20000 in
theorem ggX10_setMark_X10_marked : GoodIn wsX10_setMark wsX10_marked := goodIn_r _ [16, 12, 17, 18, 19, 5, 20, 21, 22, 23, 24, 25, 26, 27, 28, 29, 30, 31, 32, 33, 34] (by decide +kernel) (by decide +kernel)
set_option maxRecDepth 20000 in
theorem gX10_setMark_X10_marked : GoodIn wsX10_setMark (wsV RX10 97 RX10 yX10_marked wsX10_marked) := goodIn_app (goodIn_of _ (by decide +kernel)) ggX10_setMark_X10_marked
theorem dX10_setMark_0 : decode cX10_setMark 0 = .ok (.aload_n 0, 1) := by decide +kernel
theorem dX10_setMark_1 : decode cX10_setMark 1 = .ok (.iconst 0, 1) := by decide +kernel
theorem dX10_setMark_2 : decode cX10_setMark 2 = .ok (.putfield 20, 3) := by decide +kernel
theorem dX10_setMark_5 : decode cX10_setMark 5 = .ok (.aload_n 0, 1) := by decide +kernel
theorem dX10_setMark_6 : decode cX10_setMark 6 = .ok (.invokevirtual 64, 3) := by decide +kernel
theorem dX10_setMark_9 : decode cX10_setMark 9 = .ok (.aload_n 0, 1) := by decide +kernel
theorem dX10_setMark_10 : decode cX10_setMark 10 = .ok (.invokevirtual 97, 3) := by decide +kernel
theorem dX10_setMark_13 : decode cX10_setMark 13 = .ok (.ireturn, 1) := by decide +kernel
set_option maxRecDepth 20000 in
theorem ggX10_marks_X10_told : GoodIn wsX10_marks wsX10_told := goodIn_r _ [6, 7, 8, 9, 10, 11, 12, 13, 14, 15, 16, 17, 18] (by decide +kernel) (by decide +kernel)
set_option maxRecDepth 20000 in
theorem gX10_marks_X10_told : GoodIn wsX10_marks (wsV RX10 86 RX10 yX10_told wsX10_told) := goodIn_app (goodIn_of _ (by decide +kernel)) ggX10_marks_X10_told
theorem dX10_marks_0 : decode cX10_marks 0 = .ok (.aload_n 0, 1) := by decide +kernel
theorem dX10_marks_1 : decode cX10_marks 1 = .ok (.aload_n 0, 1) := by decide +kernel
theorem dX10_marks_2 : decode cX10_marks 2 = .ok (.getfield 7, 3) := by decide +kernel
theorem dX10_marks_5 : decode cX10_marks 5 = .ok (.bipush 75, 2) := by decide +kernel
theorem dX10_marks_7 : decode cX10_marks 7 = .ok (.iaload, 1) := by decide +kernel
theorem dX10_marks_8 : decode cX10_marks 8 = .ok (.invokevirtual 86, 3) := by decide +kernel
theorem dX10_marks_11 : decode cX10_marks 11 = .ok (.ireturn, 1) := by decide +kernel
set_option maxRecDepth 20000 in
theorem ggX10_isMark_X10_in : GoodIn wsX10_isMark wsX10_in := goodIn_r _ [5] (by decide +kernel) (by decide +kernel)
set_option maxRecDepth 20000 in
theorem gX10_isMark_X10_in : GoodIn wsX10_isMark (va_wsS RX10 67 yX10_in wsX10_in) := goodIn_app (goodIn_of _ (by decide +kernel)) ggX10_isMark_X10_in
theorem dX10_isMark_0 : decode cX10_isMark 0 = .ok (.iload_n 1, 1) := by decide +kernel
theorem dX10_isMark_1 : decode cX10_isMark 1 = .ok (.iconst 0, 1) := by decide +kernel
theorem dX10_isMark_2 : decode cX10_isMark 2 = .ok (.aload_n 0, 1) := by decide +kernel
theorem dX10_isMark_3 : decode cX10_isMark 3 = .ok (.getfield 7, 3) := by decide +kernel
theorem dX10_isMark_6 : decode cX10_isMark 6 = .ok (.bipush 75, 2) := by decide +kernel
theorem dX10_isMark_8 : decode cX10_isMark 8 = .ok (.iaload, 1) := by decide +kernel
theorem dX10_isMark_9 : decode cX10_isMark 9 = .ok (.iconst 1, 1) := by decide +kernel
theorem dX10_isMark_10 : decode cX10_isMark 10 = .ok (.isub, 1) := by decide +kernel
theorem dX10_isMark_11 : decode cX10_isMark 11 = .ok (.invokestatic 67, 3) := by decide +kernel
theorem dX10_isMark_14 : decode cX10_isMark 14 = .ok (.ireturn, 1) := by decide +kernel
set_option maxRecDepth 20000 in
theorem ggX10_markTime_X10_isMark : GoodIn wsX10_markTime wsX10_isMark := goodIn_r _ [6, 1, 7, 8, 5, 9, 15, 16, 17, 18, 19, 20, 21, 22, 23, 24, 25] (by decide +kernel) (by decide +kernel)
set_option maxRecDepth 20000 in
theorem gX10_markTime_X10_isMark : GoodIn wsX10_markTime (wsV RX10 101 RX10 yX10_isMark wsX10_isMark) := goodIn_app (goodIn_of _ (by decide +kernel)) ggX10_markTime_X10_isMark
set_option maxRecDepth 20000 in
theorem ggX10_markTime_X10_holds : GoodIn wsX10_markTime wsX10_holds := goodIn_r _ [13, 14, 15, 16, 17, 18, 19, 20, 21, 22, 23, 24, 25] (by decide +kernel) (by decide +kernel)
set_option maxRecDepth 20000 in
theorem gX10_markTime_X10_holds : GoodIn wsX10_markTime (wsV RX10 75 RX10 yX10_holds wsX10_holds) := goodIn_app (goodIn_of _ (by decide +kernel)) ggX10_markTime_X10_holds
theorem dX10_markTime_0 : decode cX10_markTime 0 = .ok (.aload_n 0, 1) := by decide +kernel
theorem dX10_markTime_1 : decode cX10_markTime 1 = .ok (.aload_n 0, 1) := by decide +kernel
theorem dX10_markTime_2 : decode cX10_markTime 2 = .ok (.iload_n 1, 1) := by decide +kernel
theorem dX10_markTime_3 : decode cX10_markTime 3 = .ok (.invokevirtual 101, 3) := by decide +kernel
theorem dX10_markTime_6 : decode cX10_markTime 6 = .ok (.ifCond .eq 7, 3) := by decide +kernel
theorem dX10_markTime_9 : decode cX10_markTime 9 = .ok (.iconst 0, 1) := by decide +kernel
theorem dX10_markTime_10 : decode cX10_markTime 10 = .ok (.goto 4, 3) := by decide +kernel
theorem dX10_markTime_13 : decode cX10_markTime 13 = .ok (.iconst 1, 1) := by decide +kernel
theorem dX10_markTime_14 : decode cX10_markTime 14 = .ok (.invokevirtual 75, 3) := by decide +kernel
theorem dX10_markTime_17 : decode cX10_markTime 17 = .ok (.ifCond .eq 17, 3) := by decide +kernel
theorem dX10_markTime_20 : decode cX10_markTime 20 = .ok (.aload_n 0, 1) := by decide +kernel
theorem dX10_markTime_21 : decode cX10_markTime 21 = .ok (.getfield 7, 3) := by decide +kernel
theorem dX10_markTime_24 : decode cX10_markTime 24 = .ok (.bipush 76, 2) := by decide +kernel
theorem dX10_markTime_26 : decode cX10_markTime 26 = .ok (.iconst 4, 1) := by decide +kernel
theorem dX10_markTime_27 : decode cX10_markTime 27 = .ok (.iload_n 1, 1) := by decide +kernel
theorem dX10_markTime_28 : decode cX10_markTime 28 = .ok (.imul, 1) := by decide +kernel
theorem dX10_markTime_29 : decode cX10_markTime 29 = .ok (.iadd, 1) := by decide +kernel
theorem dX10_markTime_30 : decode cX10_markTime 30 = .ok (.iaload, 1) := by decide +kernel
theorem dX10_markTime_31 : decode cX10_markTime 31 = .ok (.goto 4, 3) := by decide +kernel
theorem dX10_markTime_34 : decode cX10_markTime 34 = .ok (.iconst 0, 1) := by decide +kernel
theorem dX10_markTime_35 : decode cX10_markTime 35 = .ok (.ireturn, 1) := by decide +kernel
set_option maxRecDepth 20000 in
theorem ggX10_markAltitude_X10_isMark : GoodIn wsX10_markAltitude wsX10_isMark := goodIn_r _ [6, 1, 7, 8, 5, 9, 15, 16, 17, 18, 19, 20, 21, 22, 23, 24, 25] (by decide +kernel) (by decide +kernel)
set_option maxRecDepth 20000 in
theorem gX10_markAltitude_X10_isMark : GoodIn wsX10_markAltitude (wsV RX10 101 RX10 yX10_isMark wsX10_isMark) := goodIn_app (goodIn_of _ (by decide +kernel)) ggX10_markAltitude_X10_isMark
set_option maxRecDepth 20000 in
theorem ggX10_markAltitude_X10_holds : GoodIn wsX10_markAltitude wsX10_holds := goodIn_r _ [13, 14, 15, 16, 17, 18, 19, 20, 21, 22, 23, 24, 25] (by decide +kernel) (by decide +kernel)
set_option maxRecDepth 20000 in
theorem gX10_markAltitude_X10_holds : GoodIn wsX10_markAltitude (wsV RX10 75 RX10 yX10_holds wsX10_holds) := goodIn_app (goodIn_of _ (by decide +kernel)) ggX10_markAltitude_X10_holds
theorem dX10_markAltitude_0 : decode cX10_markAltitude 0 = .ok (.aload_n 0, 1) := by decide +kernel
theorem dX10_markAltitude_1 : decode cX10_markAltitude 1 = .ok (.aload_n 0, 1) := by decide +kernel
theorem dX10_markAltitude_2 : decode cX10_markAltitude 2 = .ok (.iload_n 1, 1) := by decide +kernel
theorem dX10_markAltitude_3 : decode cX10_markAltitude 3 = .ok (.invokevirtual 101, 3) := by decide +kernel
theorem dX10_markAltitude_6 : decode cX10_markAltitude 6 = .ok (.ifCond .eq 7, 3) := by decide +kernel
theorem dX10_markAltitude_9 : decode cX10_markAltitude 9 = .ok (.iconst 0, 1) := by decide +kernel
theorem dX10_markAltitude_10 : decode cX10_markAltitude 10 = .ok (.goto 4, 3) := by decide +kernel
theorem dX10_markAltitude_13 : decode cX10_markAltitude 13 = .ok (.iconst 1, 1) := by decide +kernel
theorem dX10_markAltitude_14 : decode cX10_markAltitude 14 = .ok (.invokevirtual 75, 3) := by decide +kernel
theorem dX10_markAltitude_17 : decode cX10_markAltitude 17 = .ok (.ifCond .eq 19, 3) := by decide +kernel
theorem dX10_markAltitude_20 : decode cX10_markAltitude 20 = .ok (.aload_n 0, 1) := by decide +kernel
theorem dX10_markAltitude_21 : decode cX10_markAltitude 21 = .ok (.getfield 7, 3) := by decide +kernel
theorem dX10_markAltitude_24 : decode cX10_markAltitude 24 = .ok (.bipush 76, 2) := by decide +kernel
theorem dX10_markAltitude_26 : decode cX10_markAltitude 26 = .ok (.iconst 4, 1) := by decide +kernel
theorem dX10_markAltitude_27 : decode cX10_markAltitude 27 = .ok (.iload_n 1, 1) := by decide +kernel
theorem dX10_markAltitude_28 : decode cX10_markAltitude 28 = .ok (.imul, 1) := by decide +kernel
theorem dX10_markAltitude_29 : decode cX10_markAltitude 29 = .ok (.iadd, 1) := by decide +kernel
theorem dX10_markAltitude_30 : decode cX10_markAltitude 30 = .ok (.iconst 1, 1) := by decide +kernel
theorem dX10_markAltitude_31 : decode cX10_markAltitude 31 = .ok (.iadd, 1) := by decide +kernel
theorem dX10_markAltitude_32 : decode cX10_markAltitude 32 = .ok (.iaload, 1) := by decide +kernel
theorem dX10_markAltitude_33 : decode cX10_markAltitude 33 = .ok (.goto 4, 3) := by decide +kernel
theorem dX10_markAltitude_36 : decode cX10_markAltitude 36 = .ok (.iconst 0, 1) := by decide +kernel
theorem dX10_markAltitude_37 : decode cX10_markAltitude 37 = .ok (.ireturn, 1) := by decide +kernel
set_option maxRecDepth 20000 in
theorem ggX10_climbed_X10_isMark : GoodIn wsX10_climbed wsX10_isMark := goodIn_r _ [6, 1, 7, 8, 5, 9, 15, 16, 17, 18, 19, 20, 21, 22, 23, 24, 25] (by decide +kernel) (by decide +kernel)
set_option maxRecDepth 20000 in
theorem gX10_climbed_X10_isMark : GoodIn wsX10_climbed (wsV RX10 101 RX10 yX10_isMark wsX10_isMark) := goodIn_app (goodIn_of _ (by decide +kernel)) ggX10_climbed_X10_isMark
set_option maxRecDepth 20000 in
theorem ggX10_climbed_X10_holds : GoodIn wsX10_climbed wsX10_holds := goodIn_r _ [13, 14, 15, 16, 17, 18, 19, 20, 21, 22, 23, 24, 25] (by decide +kernel) (by decide +kernel)
set_option maxRecDepth 20000 in
theorem gX10_climbed_X10_holds : GoodIn wsX10_climbed (wsV RX10 75 RX10 yX10_holds wsX10_holds) := goodIn_app (goodIn_of _ (by decide +kernel)) ggX10_climbed_X10_holds
theorem dX10_climbed_0 : decode cX10_climbed 0 = .ok (.aload_n 0, 1) := by decide +kernel
theorem dX10_climbed_1 : decode cX10_climbed 1 = .ok (.aload_n 0, 1) := by decide +kernel
theorem dX10_climbed_2 : decode cX10_climbed 2 = .ok (.iload_n 1, 1) := by decide +kernel
theorem dX10_climbed_3 : decode cX10_climbed 3 = .ok (.invokevirtual 101, 3) := by decide +kernel
theorem dX10_climbed_6 : decode cX10_climbed 6 = .ok (.ifCond .eq 15, 3) := by decide +kernel
theorem dX10_climbed_9 : decode cX10_climbed 9 = .ok (.aload_n 0, 1) := by decide +kernel
theorem dX10_climbed_10 : decode cX10_climbed 10 = .ok (.iload_n 2, 1) := by decide +kernel
theorem dX10_climbed_11 : decode cX10_climbed 11 = .ok (.invokevirtual 101, 3) := by decide +kernel
theorem dX10_climbed_14 : decode cX10_climbed 14 = .ok (.ifCond .eq 7, 3) := by decide +kernel
theorem dX10_climbed_17 : decode cX10_climbed 17 = .ok (.iconst 0, 1) := by decide +kernel
theorem dX10_climbed_18 : decode cX10_climbed 18 = .ok (.goto 4, 3) := by decide +kernel
theorem dX10_climbed_21 : decode cX10_climbed 21 = .ok (.iconst 1, 1) := by decide +kernel
theorem dX10_climbed_22 : decode cX10_climbed 22 = .ok (.invokevirtual 75, 3) := by decide +kernel
theorem dX10_climbed_25 : decode cX10_climbed 25 = .ok (.ifCond .eq 33, 3) := by decide +kernel
theorem dX10_climbed_28 : decode cX10_climbed 28 = .ok (.aload_n 0, 1) := by decide +kernel
theorem dX10_climbed_29 : decode cX10_climbed 29 = .ok (.getfield 7, 3) := by decide +kernel
theorem dX10_climbed_32 : decode cX10_climbed 32 = .ok (.bipush 76, 2) := by decide +kernel
theorem dX10_climbed_34 : decode cX10_climbed 34 = .ok (.iconst 4, 1) := by decide +kernel
theorem dX10_climbed_35 : decode cX10_climbed 35 = .ok (.iload_n 2, 1) := by decide +kernel
theorem dX10_climbed_36 : decode cX10_climbed 36 = .ok (.imul, 1) := by decide +kernel
theorem dX10_climbed_37 : decode cX10_climbed 37 = .ok (.iadd, 1) := by decide +kernel
theorem dX10_climbed_38 : decode cX10_climbed 38 = .ok (.iconst 2, 1) := by decide +kernel
theorem dX10_climbed_39 : decode cX10_climbed 39 = .ok (.iadd, 1) := by decide +kernel
theorem dX10_climbed_40 : decode cX10_climbed 40 = .ok (.iaload, 1) := by decide +kernel
theorem dX10_climbed_41 : decode cX10_climbed 41 = .ok (.aload_n 0, 1) := by decide +kernel
theorem dX10_climbed_42 : decode cX10_climbed 42 = .ok (.getfield 7, 3) := by decide +kernel
theorem dX10_climbed_45 : decode cX10_climbed 45 = .ok (.bipush 76, 2) := by decide +kernel
theorem dX10_climbed_47 : decode cX10_climbed 47 = .ok (.iconst 4, 1) := by decide +kernel
theorem dX10_climbed_48 : decode cX10_climbed 48 = .ok (.iload_n 1, 1) := by decide +kernel
theorem dX10_climbed_49 : decode cX10_climbed 49 = .ok (.imul, 1) := by decide +kernel
theorem dX10_climbed_50 : decode cX10_climbed 50 = .ok (.iadd, 1) := by decide +kernel
theorem dX10_climbed_51 : decode cX10_climbed 51 = .ok (.iconst 2, 1) := by decide +kernel
theorem dX10_climbed_52 : decode cX10_climbed 52 = .ok (.iadd, 1) := by decide +kernel
theorem dX10_climbed_53 : decode cX10_climbed 53 = .ok (.iaload, 1) := by decide +kernel
theorem dX10_climbed_54 : decode cX10_climbed 54 = .ok (.isub, 1) := by decide +kernel
theorem dX10_climbed_55 : decode cX10_climbed 55 = .ok (.goto 4, 3) := by decide +kernel
theorem dX10_climbed_58 : decode cX10_climbed 58 = .ok (.iconst 0, 1) := by decide +kernel
theorem dX10_climbed_59 : decode cX10_climbed 59 = .ok (.ireturn, 1) := by decide +kernel
set_option maxRecDepth 20000 in
theorem ggX10_setAlarm_X10_in : GoodIn wsX10_setAlarm wsX10_in := goodIn_r _ [4] (by decide +kernel) (by decide +kernel)
set_option maxRecDepth 20000 in
theorem gX10_setAlarm_X10_in : GoodIn wsX10_setAlarm (va_wsS RX10 67 yX10_in wsX10_in) := goodIn_app (goodIn_of _ (by decide +kernel)) ggX10_setAlarm_X10_in
set_option maxRecDepth 20000 in
theorem ggX10_setAlarm_X10_holds : GoodIn wsX10_setAlarm wsX10_holds := goodIn_r _ [8, 9, 24, 25, 26, 27, 28, 29, 30, 31, 32, 33, 34] (by decide +kernel) (by decide +kernel)
set_option maxRecDepth 20000 in
theorem gX10_setAlarm_X10_holds : GoodIn wsX10_setAlarm (wsV RX10 75 RX10 yX10_holds wsX10_holds) := goodIn_app (goodIn_of _ (by decide +kernel)) ggX10_setAlarm_X10_holds
set_option maxRecDepth 20000 in
theorem ggX10_setAlarm_X10_changed : GoodIn wsX10_setAlarm wsX10_changed := goodIn_r _ [13, 14, 15, 16, 17, 3, 18, 19, 20, 21, 22, 23, 24, 25, 26, 27, 28, 29, 30, 31, 32, 33, 34] (by decide +kernel) (by decide +kernel)
set_option maxRecDepth 20000 in
theorem gX10_setAlarm_X10_changed : GoodIn wsX10_setAlarm (wsV RX10 89 RX10 yX10_changed wsX10_changed) := goodIn_app (goodIn_of _ (by decide +kernel)) ggX10_setAlarm_X10_changed
theorem dX10_setAlarm_0 : decode cX10_setAlarm 0 = .ok (.aload_n 0, 1) := by decide +kernel
theorem dX10_setAlarm_1 : decode cX10_setAlarm 1 = .ok (.iload_n 1, 1) := by decide +kernel
theorem dX10_setAlarm_2 : decode cX10_setAlarm 2 = .ok (.bipush 10, 2) := by decide +kernel
theorem dX10_setAlarm_4 : decode cX10_setAlarm 4 = .ok (.sipush 200, 3) := by decide +kernel
theorem dX10_setAlarm_7 : decode cX10_setAlarm 7 = .ok (.invokestatic 67, 3) := by decide +kernel
theorem dX10_setAlarm_10 : decode cX10_setAlarm 10 = .ok (.ifCond .eq 7, 3) := by decide +kernel
theorem dX10_setAlarm_13 : decode cX10_setAlarm 13 = .ok (.iconst 0, 1) := by decide +kernel
theorem dX10_setAlarm_14 : decode cX10_setAlarm 14 = .ok (.goto 4, 3) := by decide +kernel
theorem dX10_setAlarm_17 : decode cX10_setAlarm 17 = .ok (.iconst 1, 1) := by decide +kernel
theorem dX10_setAlarm_18 : decode cX10_setAlarm 18 = .ok (.invokevirtual 75, 3) := by decide +kernel
theorem dX10_setAlarm_21 : decode cX10_setAlarm 21 = .ok (.ifCond .eq 13, 3) := by decide +kernel
theorem dX10_setAlarm_24 : decode cX10_setAlarm 24 = .ok (.aload_n 0, 1) := by decide +kernel
theorem dX10_setAlarm_25 : decode cX10_setAlarm 25 = .ok (.bipush 11, 2) := by decide +kernel
theorem dX10_setAlarm_27 : decode cX10_setAlarm 27 = .ok (.iload_n 1, 1) := by decide +kernel
theorem dX10_setAlarm_28 : decode cX10_setAlarm 28 = .ok (.invokevirtual 89, 3) := by decide +kernel
theorem dX10_setAlarm_31 : decode cX10_setAlarm 31 = .ok (.goto 4, 3) := by decide +kernel
theorem dX10_setAlarm_34 : decode cX10_setAlarm 34 = .ok (.iconst 0, 1) := by decide +kernel
theorem dX10_setAlarm_35 : decode cX10_setAlarm 35 = .ok (.ireturn, 1) := by decide +kernel
set_option maxRecDepth 20000 in
theorem ggX10_logged_X10_told : GoodIn wsX10_logged wsX10_told := goodIn_r _ [6, 7, 8, 9, 10, 11, 12, 13, 14, 15, 16, 17, 18] (by decide +kernel) (by decide +kernel)
set_option maxRecDepth 20000 in
theorem gX10_logged_X10_told : GoodIn wsX10_logged (wsV RX10 86 RX10 yX10_told wsX10_told) := goodIn_app (goodIn_of _ (by decide +kernel)) ggX10_logged_X10_told
theorem dX10_logged_0 : decode cX10_logged 0 = .ok (.aload_n 0, 1) := by decide +kernel
theorem dX10_logged_1 : decode cX10_logged 1 = .ok (.aload_n 0, 1) := by decide +kernel
theorem dX10_logged_2 : decode cX10_logged 2 = .ok (.getfield 7, 3) := by decide +kernel
theorem dX10_logged_5 : decode cX10_logged 5 = .ok (.bipush 14, 2) := by decide +kernel
theorem dX10_logged_7 : decode cX10_logged 7 = .ok (.iaload, 1) := by decide +kernel
theorem dX10_logged_8 : decode cX10_logged 8 = .ok (.invokevirtual 86, 3) := by decide +kernel
theorem dX10_logged_11 : decode cX10_logged 11 = .ok (.ireturn, 1) := by decide +kernel
set_option maxRecDepth 20000 in
theorem ggX10_fall_X10_fallOf : GoodIn wsX10_fall wsX10_fallOf := goodIn_r _ [5, 6, 12, 13, 14, 15, 16, 17, 18, 19, 20, 21, 22] (by decide +kernel) (by decide +kernel)
set_option maxRecDepth 20000 in
theorem gX10_fall_X10_fallOf : GoodIn wsX10_fall (wsV RX10 34 RX10 yX10_fallOf wsX10_fallOf) := goodIn_app (goodIn_of _ (by decide +kernel)) ggX10_fall_X10_fallOf
set_option maxRecDepth 20000 in
theorem ggX10_fall_X10_told : GoodIn wsX10_fall wsX10_told := goodIn_r _ [10, 11, 12, 13, 14, 15, 16, 17, 18, 19, 20, 21, 22] (by decide +kernel) (by decide +kernel)
set_option maxRecDepth 20000 in
theorem gX10_fall_X10_told : GoodIn wsX10_fall (wsV RX10 86 RX10 yX10_told wsX10_told) := goodIn_app (goodIn_of _ (by decide +kernel)) ggX10_fall_X10_told
theorem dX10_fall_0 : decode cX10_fall 0 = .ok (.aload_n 0, 1) := by decide +kernel
theorem dX10_fall_1 : decode cX10_fall 1 = .ok (.aload_n 0, 1) := by decide +kernel
theorem dX10_fall_2 : decode cX10_fall 2 = .ok (.iconst 0, 1) := by decide +kernel
theorem dX10_fall_3 : decode cX10_fall 3 = .ok (.invokevirtual 34, 3) := by decide +kernel
theorem dX10_fall_6 : decode cX10_fall 6 = .ok (.invokevirtual 86, 3) := by decide +kernel
theorem dX10_fall_9 : decode cX10_fall 9 = .ok (.ireturn, 1) := by decide +kernel
set_option maxRecDepth 20000 in
theorem ggX10_isAlarm_X10_hasAlarm : GoodIn wsX10_isAlarm wsX10_hasAlarm := goodIn_r _ [6, 7, 8, 9, 10, 5, 11, 12, 13, 14, 15, 16, 17, 18, 19, 20, 21, 22] (by decide +kernel) (by decide +kernel)
set_option maxRecDepth 20000 in
theorem gX10_isAlarm_X10_hasAlarm : GoodIn wsX10_isAlarm (wsV RX10 48 RX10 yX10_hasAlarm wsX10_hasAlarm) := goodIn_app (goodIn_of _ (by decide +kernel)) ggX10_isAlarm_X10_hasAlarm
theorem dX10_isAlarm_0 : decode cX10_isAlarm 0 = .ok (.aload_n 0, 1) := by decide +kernel
theorem dX10_isAlarm_1 : decode cX10_isAlarm 1 = .ok (.iconst 0, 1) := by decide +kernel
theorem dX10_isAlarm_2 : decode cX10_isAlarm 2 = .ok (.putfield 20, 3) := by decide +kernel
theorem dX10_isAlarm_5 : decode cX10_isAlarm 5 = .ok (.aload_n 0, 1) := by decide +kernel
theorem dX10_isAlarm_6 : decode cX10_isAlarm 6 = .ok (.iconst 0, 1) := by decide +kernel
theorem dX10_isAlarm_7 : decode cX10_isAlarm 7 = .ok (.invokevirtual 48, 3) := by decide +kernel
theorem dX10_isAlarm_10 : decode cX10_isAlarm 10 = .ok (.ireturn, 1) := by decide +kernel
set_option maxRecDepth 20000 in
theorem ggX10_alarms_X10_told : GoodIn wsX10_alarms wsX10_told := goodIn_r _ [6, 7, 8, 9, 10, 11, 12, 13, 14, 15, 16, 17, 18] (by decide +kernel) (by decide +kernel)
set_option maxRecDepth 20000 in
theorem gX10_alarms_X10_told : GoodIn wsX10_alarms (wsV RX10 86 RX10 yX10_told wsX10_told) := goodIn_app (goodIn_of _ (by decide +kernel)) ggX10_alarms_X10_told
theorem dX10_alarms_0 : decode cX10_alarms 0 = .ok (.aload_n 0, 1) := by decide +kernel
theorem dX10_alarms_1 : decode cX10_alarms 1 = .ok (.aload_n 0, 1) := by decide +kernel
theorem dX10_alarms_2 : decode cX10_alarms 2 = .ok (.getfield 7, 3) := by decide +kernel
theorem dX10_alarms_5 : decode cX10_alarms 5 = .ok (.bipush 12, 2) := by decide +kernel
theorem dX10_alarms_7 : decode cX10_alarms 7 = .ok (.iaload, 1) := by decide +kernel
theorem dX10_alarms_8 : decode cX10_alarms 8 = .ok (.invokevirtual 86, 3) := by decide +kernel
theorem dX10_alarms_11 : decode cX10_alarms 11 = .ok (.ireturn, 1) := by decide +kernel
set_option maxRecDepth 20000 in
theorem ggX10_altitudeAfter_X10_isTrip : GoodIn wsX10_altitudeAfter wsX10_isTrip := goodIn_r _ [4, 5, 6, 3, 7] (by decide +kernel) (by decide +kernel)
set_option maxRecDepth 20000 in
theorem gX10_altitudeAfter_X10_isTrip : GoodIn wsX10_altitudeAfter (va_wsS RX10 71 yX10_isTrip wsX10_isTrip) := goodIn_app (goodIn_of _ (by decide +kernel)) ggX10_altitudeAfter_X10_isTrip
set_option maxRecDepth 20000 in
theorem ggX10_altitudeAfter_X10_holds : GoodIn wsX10_altitudeAfter wsX10_holds := goodIn_r _ [11, 12, 56, 57, 58, 59, 60, 61, 62, 63, 64, 65, 66] (by decide +kernel) (by decide +kernel)
set_option maxRecDepth 20000 in
theorem gX10_altitudeAfter_X10_holds : GoodIn wsX10_altitudeAfter (wsV RX10 75 RX10 yX10_holds wsX10_holds) := goodIn_app (goodIn_of _ (by decide +kernel)) ggX10_altitudeAfter_X10_holds
set_option maxRecDepth 20000 in
theorem ggX10_altitudeAfter_X10_copies : GoodIn wsX10_altitudeAfter wsX10_copies := goodIn_r _ [16, 17, 56, 57, 58, 59, 60, 61, 62, 63, 64, 65, 66] (by decide +kernel) (by decide +kernel)
set_option maxRecDepth 20000 in
theorem gX10_altitudeAfter_X10_copies : GoodIn wsX10_altitudeAfter (wsV RX10 61 RX10 yX10_copies wsX10_copies) := goodIn_app (goodIn_of _ (by decide +kernel)) ggX10_altitudeAfter_X10_copies
set_option maxRecDepth 20000 in
theorem ggX10_altitudeAfter_X10_trips : GoodIn wsX10_altitudeAfter wsX10_trips := goodIn_r _ [21, 17, 22, 23, 24, 3, 25, 26, 27, 28, 29, 30, 31, 32, 33, 34, 35, 36, 37, 38, 39, 40, 41, 42, 43, 44, 45, 46, 47, 48, 49, 50, 51, 52, 53, 54, 55, 56, 57, 58, 59, 60, 61, 62, 63, 64, 65, 66] (by decide +kernel) (by decide +kernel)
set_option maxRecDepth 20000 in
theorem gX10_altitudeAfter_X10_trips : GoodIn wsX10_altitudeAfter (wsV RX10 78 RX10 yX10_trips wsX10_trips) := goodIn_app (goodIn_of _ (by decide +kernel)) ggX10_altitudeAfter_X10_trips
set_option maxRecDepth 20000 in
theorem ggX10_altitudeAfter_X10_altitudeAt : GoodIn wsX10_altitudeAfter wsX10_altitudeAt := goodIn_r _ [47, 17, 30, 31, 3, 32, 56, 57, 58, 59, 60, 61, 62, 63, 64, 65, 66] (by decide +kernel) (by decide +kernel)
set_option maxRecDepth 20000 in
theorem gX10_altitudeAfter_X10_altitudeAt : GoodIn wsX10_altitudeAfter (wsV RX10 31 RX10 yX10_altitudeAt wsX10_altitudeAt) := goodIn_app (goodIn_of _ (by decide +kernel)) ggX10_altitudeAfter_X10_altitudeAt
theorem dX10_altitudeAfter_0 : decode cX10_altitudeAfter 0 = .ok (.aload_n 0, 1) := by decide +kernel
theorem dX10_altitudeAfter_1 : decode cX10_altitudeAfter 1 = .ok (.iload_n 1, 1) := by decide +kernel
theorem dX10_altitudeAfter_2 : decode cX10_altitudeAfter 2 = .ok (.iload_n 2, 1) := by decide +kernel
theorem dX10_altitudeAfter_3 : decode cX10_altitudeAfter 3 = .ok (.invokestatic 71, 3) := by decide +kernel
theorem dX10_altitudeAfter_6 : decode cX10_altitudeAfter 6 = .ok (.ifCond .eq 7, 3) := by decide +kernel
theorem dX10_altitudeAfter_9 : decode cX10_altitudeAfter 9 = .ok (.iconst 0, 1) := by decide +kernel
theorem dX10_altitudeAfter_10 : decode cX10_altitudeAfter 10 = .ok (.goto 4, 3) := by decide +kernel
theorem dX10_altitudeAfter_13 : decode cX10_altitudeAfter 13 = .ok (.iconst 1, 1) := by decide +kernel
theorem dX10_altitudeAfter_14 : decode cX10_altitudeAfter 14 = .ok (.invokevirtual 75, 3) := by decide +kernel
theorem dX10_altitudeAfter_17 : decode cX10_altitudeAfter 17 = .ok (.ifCond .ne 5, 3) := by decide +kernel
theorem dX10_altitudeAfter_20 : decode cX10_altitudeAfter 20 = .ok (.iconst 0, 1) := by decide +kernel
theorem dX10_altitudeAfter_21 : decode cX10_altitudeAfter 21 = .ok (.ireturn, 1) := by decide +kernel
theorem dX10_altitudeAfter_22 : decode cX10_altitudeAfter 22 = .ok (.aload_n 0, 1) := by decide +kernel
theorem dX10_altitudeAfter_23 : decode cX10_altitudeAfter 23 = .ok (.iconst 0, 1) := by decide +kernel
theorem dX10_altitudeAfter_24 : decode cX10_altitudeAfter 24 = .ok (.bipush 9, 2) := by decide +kernel
theorem dX10_altitudeAfter_26 : decode cX10_altitudeAfter 26 = .ok (.invokevirtual 61, 3) := by decide +kernel
theorem dX10_altitudeAfter_29 : decode cX10_altitudeAfter 29 = .ok (.aload_n 0, 1) := by decide +kernel
theorem dX10_altitudeAfter_30 : decode cX10_altitudeAfter 30 = .ok (.sipush 1044, 3) := by decide +kernel
theorem dX10_altitudeAfter_33 : decode cX10_altitudeAfter 33 = .ok (.iload_n 1, 1) := by decide +kernel
theorem dX10_altitudeAfter_34 : decode cX10_altitudeAfter 34 = .ok (.iload_n 2, 1) := by decide +kernel
theorem dX10_altitudeAfter_35 : decode cX10_altitudeAfter 35 = .ok (.invokevirtual 78, 3) := by decide +kernel
theorem dX10_altitudeAfter_38 : decode cX10_altitudeAfter 38 = .ok (.aload_n 0, 1) := by decide +kernel
theorem dX10_altitudeAfter_39 : decode cX10_altitudeAfter 39 = .ok (.sipush 1044, 3) := by decide +kernel
theorem dX10_altitudeAfter_42 : decode cX10_altitudeAfter 42 = .ok (.invokevirtual 31, 3) := by decide +kernel
theorem dX10_altitudeAfter_45 : decode cX10_altitudeAfter 45 = .ok (.ireturn, 1) := by decide +kernel
set_option maxRecDepth 20000 in
theorem ggX10_ascentIn_X10_isTrip : GoodIn wsX10_ascentIn wsX10_isTrip := goodIn_r _ [5, 6, 7, 4, 8] (by decide +kernel) (by decide +kernel)
set_option maxRecDepth 20000 in
theorem gX10_ascentIn_X10_isTrip : GoodIn wsX10_ascentIn (va_wsS RX10 71 yX10_isTrip wsX10_isTrip) := goodIn_app (goodIn_of _ (by decide +kernel)) ggX10_ascentIn_X10_isTrip
set_option maxRecDepth 20000 in
theorem ggX10_ascentIn_X10_holds : GoodIn wsX10_ascentIn wsX10_holds := goodIn_r _ [12, 13, 56, 57, 58, 59, 60, 61, 62, 63, 64, 65, 66] (by decide +kernel) (by decide +kernel)
set_option maxRecDepth 20000 in
theorem gX10_ascentIn_X10_holds : GoodIn wsX10_ascentIn (wsV RX10 75 RX10 yX10_holds wsX10_holds) := goodIn_app (goodIn_of _ (by decide +kernel)) ggX10_ascentIn_X10_holds
set_option maxRecDepth 20000 in
theorem ggX10_ascentIn_X10_copies : GoodIn wsX10_ascentIn wsX10_copies := goodIn_r _ [17, 1, 56, 57, 58, 59, 60, 61, 62, 63, 64, 65, 66] (by decide +kernel) (by decide +kernel)
set_option maxRecDepth 20000 in
theorem gX10_ascentIn_X10_copies : GoodIn wsX10_ascentIn (wsV RX10 61 RX10 yX10_copies wsX10_copies) := goodIn_app (goodIn_of _ (by decide +kernel)) ggX10_ascentIn_X10_copies
set_option maxRecDepth 20000 in
theorem ggX10_ascentIn_X10_trips : GoodIn wsX10_ascentIn wsX10_trips := goodIn_r _ [21, 1, 22, 23, 24, 4, 25, 26, 27, 28, 29, 30, 31, 32, 33, 34, 35, 36, 37, 38, 39, 40, 41, 42, 43, 44, 45, 46, 47, 48, 49, 50, 51, 52, 53, 54, 55, 56, 57, 58, 59, 60, 61, 62, 63, 64, 65, 66] (by decide +kernel) (by decide +kernel)
set_option maxRecDepth 20000 in
theorem gX10_ascentIn_X10_trips : GoodIn wsX10_ascentIn (wsV RX10 78 RX10 yX10_trips wsX10_trips) := goodIn_app (goodIn_of _ (by decide +kernel)) ggX10_ascentIn_X10_trips
theorem dX10_ascentIn_0 : decode cX10_ascentIn 0 = .ok (.aload_n 0, 1) := by decide +kernel
theorem dX10_ascentIn_1 : decode cX10_ascentIn 1 = .ok (.iload_n 1, 1) := by decide +kernel
theorem dX10_ascentIn_2 : decode cX10_ascentIn 2 = .ok (.iload_n 2, 1) := by decide +kernel
theorem dX10_ascentIn_3 : decode cX10_ascentIn 3 = .ok (.invokestatic 71, 3) := by decide +kernel
theorem dX10_ascentIn_6 : decode cX10_ascentIn 6 = .ok (.ifCond .eq 7, 3) := by decide +kernel
theorem dX10_ascentIn_9 : decode cX10_ascentIn 9 = .ok (.iconst 0, 1) := by decide +kernel
theorem dX10_ascentIn_10 : decode cX10_ascentIn 10 = .ok (.goto 4, 3) := by decide +kernel
theorem dX10_ascentIn_13 : decode cX10_ascentIn 13 = .ok (.iconst 1, 1) := by decide +kernel
theorem dX10_ascentIn_14 : decode cX10_ascentIn 14 = .ok (.invokevirtual 75, 3) := by decide +kernel
theorem dX10_ascentIn_17 : decode cX10_ascentIn 17 = .ok (.ifCond .ne 5, 3) := by decide +kernel
theorem dX10_ascentIn_20 : decode cX10_ascentIn 20 = .ok (.iconst 0, 1) := by decide +kernel
theorem dX10_ascentIn_21 : decode cX10_ascentIn 21 = .ok (.ireturn, 1) := by decide +kernel
theorem dX10_ascentIn_22 : decode cX10_ascentIn 22 = .ok (.aload_n 0, 1) := by decide +kernel
theorem dX10_ascentIn_23 : decode cX10_ascentIn 23 = .ok (.iconst 0, 1) := by decide +kernel
theorem dX10_ascentIn_24 : decode cX10_ascentIn 24 = .ok (.bipush 9, 2) := by decide +kernel
theorem dX10_ascentIn_26 : decode cX10_ascentIn 26 = .ok (.invokevirtual 61, 3) := by decide +kernel
theorem dX10_ascentIn_29 : decode cX10_ascentIn 29 = .ok (.aload_n 0, 1) := by decide +kernel
theorem dX10_ascentIn_30 : decode cX10_ascentIn 30 = .ok (.sipush 1044, 3) := by decide +kernel
theorem dX10_ascentIn_33 : decode cX10_ascentIn 33 = .ok (.iload_n 1, 1) := by decide +kernel
theorem dX10_ascentIn_34 : decode cX10_ascentIn 34 = .ok (.iload_n 2, 1) := by decide +kernel
theorem dX10_ascentIn_35 : decode cX10_ascentIn 35 = .ok (.invokevirtual 78, 3) := by decide +kernel
theorem dX10_ascentIn_38 : decode cX10_ascentIn 38 = .ok (.aload_n 0, 1) := by decide +kernel
theorem dX10_ascentIn_39 : decode cX10_ascentIn 39 = .ok (.getfield 7, 3) := by decide +kernel
theorem dX10_ascentIn_42 : decode cX10_ascentIn 42 = .ok (.sipush 1051, 3) := by decide +kernel
theorem dX10_ascentIn_45 : decode cX10_ascentIn 45 = .ok (.iaload, 1) := by decide +kernel
theorem dX10_ascentIn_46 : decode cX10_ascentIn 46 = .ok (.aload_n 0, 1) := by decide +kernel
theorem dX10_ascentIn_47 : decode cX10_ascentIn 47 = .ok (.getfield 7, 3) := by decide +kernel
theorem dX10_ascentIn_50 : decode cX10_ascentIn 50 = .ok (.bipush 7, 2) := by decide +kernel
theorem dX10_ascentIn_52 : decode cX10_ascentIn 52 = .ok (.iaload, 1) := by decide +kernel
theorem dX10_ascentIn_53 : decode cX10_ascentIn 53 = .ok (.isub, 1) := by decide +kernel
theorem dX10_ascentIn_54 : decode cX10_ascentIn 54 = .ok (.ireturn, 1) := by decide +kernel
set_option maxRecDepth 20000 in
theorem ggX10_pressureFor_X10_standardOf : GoodIn wsX10_pressureFor wsX10_standardOf := goodIn_r _ [5] (by decide +kernel) (by decide +kernel)
set_option maxRecDepth 20000 in
theorem gX10_pressureFor_X10_standardOf : GoodIn wsX10_pressureFor (va_wsS RX10 24 yX10_standardOf wsX10_standardOf) := goodIn_app (goodIn_of _ (by decide +kernel)) ggX10_pressureFor_X10_standardOf
theorem dX10_pressureFor_0 : decode cX10_pressureFor 0 = .ok (.sipush 11000, 3) := by decide +kernel
theorem dX10_pressureFor_3 : decode cX10_pressureFor 3 = .ok (.istore_n 2, 1) := by decide +kernel
theorem dX10_pressureFor_4 : decode cX10_pressureFor 4 = .ok (.iload_n 2, 1) := by decide +kernel
theorem dX10_pressureFor_5 : decode cX10_pressureFor 5 = .ok (.sipush 5000, 3) := by decide +kernel
theorem dX10_pressureFor_8 : decode cX10_pressureFor 8 = .ok (.if_icmp .lt 27, 3) := by decide +kernel
theorem dX10_pressureFor_11 : decode cX10_pressureFor 11 = .ok (.iload_n 2, 1) := by decide +kernel
theorem dX10_pressureFor_12 : decode cX10_pressureFor 12 = .ok (.invokestatic 24, 3) := by decide +kernel
theorem dX10_pressureFor_15 : decode cX10_pressureFor 15 = .ok (.aload_n 0, 1) := by decide +kernel
theorem dX10_pressureFor_16 : decode cX10_pressureFor 16 = .ok (.getfield 7, 3) := by decide +kernel
theorem dX10_pressureFor_19 : decode cX10_pressureFor 19 = .ok (.iconst 1, 1) := by decide +kernel
theorem dX10_pressureFor_20 : decode cX10_pressureFor 20 = .ok (.iaload, 1) := by decide +kernel
theorem dX10_pressureFor_21 : decode cX10_pressureFor 21 = .ok (.invokestatic 24, 3) := by decide +kernel
theorem dX10_pressureFor_24 : decode cX10_pressureFor 24 = .ok (.isub, 1) := by decide +kernel
theorem dX10_pressureFor_25 : decode cX10_pressureFor 25 = .ok (.iload_n 1, 1) := by decide +kernel
theorem dX10_pressureFor_26 : decode cX10_pressureFor 26 = .ok (.if_icmp .ge 9, 3) := by decide +kernel
theorem dX10_pressureFor_29 : decode cX10_pressureFor 29 = .ok (.iinc 2 (-1), 3) := by decide +kernel
theorem dX10_pressureFor_32 : decode cX10_pressureFor 32 = .ok (.goto (-28), 3) := by decide +kernel
theorem dX10_pressureFor_35 : decode cX10_pressureFor 35 = .ok (.iload_n 2, 1) := by decide +kernel
theorem dX10_pressureFor_36 : decode cX10_pressureFor 36 = .ok (.sipush 5000, 3) := by decide +kernel
theorem dX10_pressureFor_39 : decode cX10_pressureFor 39 = .ok (.if_icmp .ge 7, 3) := by decide +kernel
theorem dX10_pressureFor_42 : decode cX10_pressureFor 42 = .ok (.iconst (-1), 1) := by decide +kernel
theorem dX10_pressureFor_43 : decode cX10_pressureFor 43 = .ok (.goto 4, 3) := by decide +kernel
theorem dX10_pressureFor_46 : decode cX10_pressureFor 46 = .ok (.iload_n 2, 1) := by decide +kernel
theorem dX10_pressureFor_47 : decode cX10_pressureFor 47 = .ok (.ireturn, 1) := by decide +kernel
set_option maxRecDepth 20000 in
theorem ggX10_pressureAt_X10_in : GoodIn wsX10_pressureAt wsX10_in := goodIn_r _ [5] (by decide +kernel) (by decide +kernel)
set_option maxRecDepth 20000 in
theorem gX10_pressureAt_X10_in : GoodIn wsX10_pressureAt (va_wsS RX10 67 yX10_in wsX10_in) := goodIn_app (goodIn_of _ (by decide +kernel)) ggX10_pressureAt_X10_in
set_option maxRecDepth 20000 in
theorem ggX10_pressureAt_X10_holds : GoodIn wsX10_pressureAt wsX10_holds := goodIn_r _ [9, 10, 19, 20, 21, 22, 23, 24, 25, 26, 27, 28, 29] (by decide +kernel) (by decide +kernel)
set_option maxRecDepth 20000 in
theorem gX10_pressureAt_X10_holds : GoodIn wsX10_pressureAt (wsV RX10 75 RX10 yX10_holds wsX10_holds) := goodIn_app (goodIn_of _ (by decide +kernel)) ggX10_pressureAt_X10_holds
set_option maxRecDepth 20000 in
theorem ggX10_pressureAt_X10_pressureFor : GoodIn wsX10_pressureAt wsX10_pressureFor := goodIn_r _ [14, 15, 16, 17, 4, 18, 19, 20, 21, 22, 23, 24, 25, 26, 27, 28, 29] (by decide +kernel) (by decide +kernel)
set_option maxRecDepth 20000 in
theorem gX10_pressureAt_X10_pressureFor : GoodIn wsX10_pressureAt (wsV RX10 104 RX10 yX10_pressureFor wsX10_pressureFor) := goodIn_app (goodIn_of _ (by decide +kernel)) ggX10_pressureAt_X10_pressureFor
theorem dX10_pressureAt_0 : decode cX10_pressureAt 0 = .ok (.aload_n 0, 1) := by decide +kernel
theorem dX10_pressureAt_1 : decode cX10_pressureAt 1 = .ok (.iload_n 1, 1) := by decide +kernel
theorem dX10_pressureAt_2 : decode cX10_pressureAt 2 = .ok (.sipush (-5000), 3) := by decide +kernel
theorem dX10_pressureAt_5 : decode cX10_pressureAt 5 = .ok (.ldc 93, 2) := by decide +kernel
theorem dX10_pressureAt_7 : decode cX10_pressureAt 7 = .ok (.invokestatic 67, 3) := by decide +kernel
theorem dX10_pressureAt_10 : decode cX10_pressureAt 10 = .ok (.ifCond .eq 7, 3) := by decide +kernel
theorem dX10_pressureAt_13 : decode cX10_pressureAt 13 = .ok (.iconst 0, 1) := by decide +kernel
theorem dX10_pressureAt_14 : decode cX10_pressureAt 14 = .ok (.goto 4, 3) := by decide +kernel
theorem dX10_pressureAt_17 : decode cX10_pressureAt 17 = .ok (.iconst 1, 1) := by decide +kernel
theorem dX10_pressureAt_18 : decode cX10_pressureAt 18 = .ok (.invokevirtual 75, 3) := by decide +kernel
theorem dX10_pressureAt_21 : decode cX10_pressureAt 21 = .ok (.ifCond .eq 11, 3) := by decide +kernel
theorem dX10_pressureAt_24 : decode cX10_pressureAt 24 = .ok (.aload_n 0, 1) := by decide +kernel
theorem dX10_pressureAt_25 : decode cX10_pressureAt 25 = .ok (.iload_n 1, 1) := by decide +kernel
theorem dX10_pressureAt_26 : decode cX10_pressureAt 26 = .ok (.invokevirtual 104, 3) := by decide +kernel
theorem dX10_pressureAt_29 : decode cX10_pressureAt 29 = .ok (.goto 4, 3) := by decide +kernel
theorem dX10_pressureAt_32 : decode cX10_pressureAt 32 = .ok (.iconst 0, 1) := by decide +kernel
theorem dX10_pressureAt_33 : decode cX10_pressureAt 33 = .ok (.ireturn, 1) := by decide +kernel
set_option maxRecDepth 20000 in
theorem ggX10_untilAlarm_X10_copies : GoodIn wsX10_untilAlarm wsX10_copies := goodIn_r _ [6, 1, 19, 20, 21, 22, 23, 24, 25, 26, 27, 28, 29] (by decide +kernel) (by decide +kernel)
set_option maxRecDepth 20000 in
theorem gX10_untilAlarm_X10_copies : GoodIn wsX10_untilAlarm (wsV RX10 61 RX10 yX10_copies wsX10_copies) := goodIn_app (goodIn_of _ (by decide +kernel)) ggX10_untilAlarm_X10_copies
set_option maxRecDepth 20000 in
theorem ggX10_untilAlarm_X10_hasAlarm : GoodIn wsX10_untilAlarm wsX10_hasAlarm := goodIn_r _ [10, 1, 11, 12, 13, 5, 14, 19, 20, 21, 22, 23, 24, 25, 26, 27, 28, 29] (by decide +kernel) (by decide +kernel)
set_option maxRecDepth 20000 in
theorem gX10_untilAlarm_X10_hasAlarm : GoodIn wsX10_untilAlarm (wsV RX10 48 RX10 yX10_hasAlarm wsX10_hasAlarm) := goodIn_app (goodIn_of _ (by decide +kernel)) ggX10_untilAlarm_X10_hasAlarm
set_option maxRecDepth 20000 in
theorem ggX10_untilAlarm_X10_logs : GoodIn wsX10_untilAlarm wsX10_logs := goodIn_r _ [18, 1, 19, 20, 21, 22, 23, 24, 25, 26, 27, 28, 29] (by decide +kernel) (by decide +kernel)
set_option maxRecDepth 20000 in
theorem gX10_untilAlarm_X10_logs : GoodIn wsX10_untilAlarm (wsV RX10 41 RX10 yX10_logs wsX10_logs) := goodIn_app (goodIn_of _ (by decide +kernel)) ggX10_untilAlarm_X10_logs
theorem dX10_untilAlarm_0 : decode cX10_untilAlarm 0 = .ok (.aload_n 0, 1) := by decide +kernel
theorem dX10_untilAlarm_1 : decode cX10_untilAlarm 1 = .ok (.getfield 7, 3) := by decide +kernel
theorem dX10_untilAlarm_4 : decode cX10_untilAlarm 4 = .ok (.iconst 2, 1) := by decide +kernel
theorem dX10_untilAlarm_5 : decode cX10_untilAlarm 5 = .ok (.iaload, 1) := by decide +kernel
theorem dX10_untilAlarm_6 : decode cX10_untilAlarm 6 = .ok (.ifCond .ne 5, 3) := by decide +kernel
theorem dX10_untilAlarm_9 : decode cX10_untilAlarm 9 = .ok (.iconst (-1), 1) := by decide +kernel
theorem dX10_untilAlarm_10 : decode cX10_untilAlarm 10 = .ok (.ireturn, 1) := by decide +kernel
theorem dX10_untilAlarm_11 : decode cX10_untilAlarm 11 = .ok (.aload_n 0, 1) := by decide +kernel
theorem dX10_untilAlarm_12 : decode cX10_untilAlarm 12 = .ok (.iconst 0, 1) := by decide +kernel
theorem dX10_untilAlarm_13 : decode cX10_untilAlarm 13 = .ok (.bipush 9, 2) := by decide +kernel
theorem dX10_untilAlarm_15 : decode cX10_untilAlarm 15 = .ok (.invokevirtual 61, 3) := by decide +kernel
theorem dX10_untilAlarm_18 : decode cX10_untilAlarm 18 = .ok (.iconst 0, 1) := by decide +kernel
theorem dX10_untilAlarm_19 : decode cX10_untilAlarm 19 = .ok (.istore_n 2, 1) := by decide +kernel
theorem dX10_untilAlarm_20 : decode cX10_untilAlarm 20 = .ok (.aload_n 0, 1) := by decide +kernel
theorem dX10_untilAlarm_21 : decode cX10_untilAlarm 21 = .ok (.sipush 1044, 3) := by decide +kernel
theorem dX10_untilAlarm_24 : decode cX10_untilAlarm 24 = .ok (.invokevirtual 48, 3) := by decide +kernel
theorem dX10_untilAlarm_27 : decode cX10_untilAlarm 27 = .ok (.ifCond .ne 44, 3) := by decide +kernel
theorem dX10_untilAlarm_30 : decode cX10_untilAlarm 30 = .ok (.aload_n 0, 1) := by decide +kernel
theorem dX10_untilAlarm_31 : decode cX10_untilAlarm 31 = .ok (.getfield 7, 3) := by decide +kernel
theorem dX10_untilAlarm_34 : decode cX10_untilAlarm 34 = .ok (.sipush 1044, 3) := by decide +kernel
theorem dX10_untilAlarm_37 : decode cX10_untilAlarm 37 = .ok (.dup2, 1) := by decide +kernel
theorem dX10_untilAlarm_38 : decode cX10_untilAlarm 38 = .ok (.iaload, 1) := by decide +kernel
theorem dX10_untilAlarm_39 : decode cX10_untilAlarm 39 = .ok (.iload_n 1, 1) := by decide +kernel
theorem dX10_untilAlarm_40 : decode cX10_untilAlarm 40 = .ok (.isub, 1) := by decide +kernel
theorem dX10_untilAlarm_41 : decode cX10_untilAlarm 41 = .ok (.iastore, 1) := by decide +kernel
theorem dX10_untilAlarm_42 : decode cX10_untilAlarm 42 = .ok (.aload_n 0, 1) := by decide +kernel
theorem dX10_untilAlarm_43 : decode cX10_untilAlarm 43 = .ok (.getfield 7, 3) := by decide +kernel
theorem dX10_untilAlarm_46 : decode cX10_untilAlarm 46 = .ok (.sipush 1044, 3) := by decide +kernel
theorem dX10_untilAlarm_49 : decode cX10_untilAlarm 49 = .ok (.iaload, 1) := by decide +kernel
theorem dX10_untilAlarm_50 : decode cX10_untilAlarm 50 = .ok (.sipush 5000, 3) := by decide +kernel
theorem dX10_untilAlarm_53 : decode cX10_untilAlarm 53 = .ok (.if_icmp .ge 5, 3) := by decide +kernel
theorem dX10_untilAlarm_56 : decode cX10_untilAlarm 56 = .ok (.iconst (-1), 1) := by decide +kernel
theorem dX10_untilAlarm_57 : decode cX10_untilAlarm 57 = .ok (.ireturn, 1) := by decide +kernel
theorem dX10_untilAlarm_58 : decode cX10_untilAlarm 58 = .ok (.aload_n 0, 1) := by decide +kernel
theorem dX10_untilAlarm_59 : decode cX10_untilAlarm 59 = .ok (.sipush 1044, 3) := by decide +kernel
theorem dX10_untilAlarm_62 : decode cX10_untilAlarm 62 = .ok (.invokevirtual 41, 3) := by decide +kernel
theorem dX10_untilAlarm_65 : decode cX10_untilAlarm 65 = .ok (.iinc 2 1, 3) := by decide +kernel
theorem dX10_untilAlarm_68 : decode cX10_untilAlarm 68 = .ok (.goto (-48), 3) := by decide +kernel
theorem dX10_untilAlarm_71 : decode cX10_untilAlarm 71 = .ok (.iload_n 2, 1) := by decide +kernel
theorem dX10_untilAlarm_72 : decode cX10_untilAlarm 72 = .ok (.ireturn, 1) := by decide +kernel
set_option maxRecDepth 20000 in
theorem ggX10_minutesToAlarm_X10_in : GoodIn wsX10_minutesToAlarm wsX10_in := goodIn_r _ [4] (by decide +kernel) (by decide +kernel)
set_option maxRecDepth 20000 in
theorem gX10_minutesToAlarm_X10_in : GoodIn wsX10_minutesToAlarm (va_wsS RX10 67 yX10_in wsX10_in) := goodIn_app (goodIn_of _ (by decide +kernel)) ggX10_minutesToAlarm_X10_in
set_option maxRecDepth 20000 in
theorem ggX10_minutesToAlarm_X10_holds : GoodIn wsX10_minutesToAlarm wsX10_holds := goodIn_r _ [8, 9, 31, 32, 33, 34, 35, 36, 37, 38, 39, 40, 41] (by decide +kernel) (by decide +kernel)
set_option maxRecDepth 20000 in
theorem gX10_minutesToAlarm_X10_holds : GoodIn wsX10_minutesToAlarm (wsV RX10 75 RX10 yX10_holds wsX10_holds) := goodIn_app (goodIn_of _ (by decide +kernel)) ggX10_minutesToAlarm_X10_holds
set_option maxRecDepth 20000 in
theorem ggX10_minutesToAlarm_X10_untilAlarm : GoodIn wsX10_minutesToAlarm wsX10_untilAlarm := goodIn_r _ [13, 14, 15, 16, 17, 3, 18, 19, 20, 21, 22, 23, 24, 25, 26, 27, 28, 29, 30, 31, 32, 33, 34, 35, 36, 37, 38, 39, 40, 41] (by decide +kernel) (by decide +kernel)
set_option maxRecDepth 20000 in
theorem gX10_minutesToAlarm_X10_untilAlarm : GoodIn wsX10_minutesToAlarm (wsV RX10 107 RX10 yX10_untilAlarm wsX10_untilAlarm) := goodIn_app (goodIn_of _ (by decide +kernel)) ggX10_minutesToAlarm_X10_untilAlarm
theorem dX10_minutesToAlarm_0 : decode cX10_minutesToAlarm 0 = .ok (.aload_n 0, 1) := by decide +kernel
theorem dX10_minutesToAlarm_1 : decode cX10_minutesToAlarm 1 = .ok (.iload_n 1, 1) := by decide +kernel
theorem dX10_minutesToAlarm_2 : decode cX10_minutesToAlarm 2 = .ok (.iconst 1, 1) := by decide +kernel
theorem dX10_minutesToAlarm_3 : decode cX10_minutesToAlarm 3 = .ok (.bipush 20, 2) := by decide +kernel
theorem dX10_minutesToAlarm_5 : decode cX10_minutesToAlarm 5 = .ok (.invokestatic 67, 3) := by decide +kernel
theorem dX10_minutesToAlarm_8 : decode cX10_minutesToAlarm 8 = .ok (.ifCond .eq 7, 3) := by decide +kernel
theorem dX10_minutesToAlarm_11 : decode cX10_minutesToAlarm 11 = .ok (.iconst 0, 1) := by decide +kernel
theorem dX10_minutesToAlarm_12 : decode cX10_minutesToAlarm 12 = .ok (.goto 4, 3) := by decide +kernel
theorem dX10_minutesToAlarm_15 : decode cX10_minutesToAlarm 15 = .ok (.iconst 1, 1) := by decide +kernel
theorem dX10_minutesToAlarm_16 : decode cX10_minutesToAlarm 16 = .ok (.invokevirtual 75, 3) := by decide +kernel
theorem dX10_minutesToAlarm_19 : decode cX10_minutesToAlarm 19 = .ok (.ifCond .eq 11, 3) := by decide +kernel
theorem dX10_minutesToAlarm_22 : decode cX10_minutesToAlarm 22 = .ok (.aload_n 0, 1) := by decide +kernel
theorem dX10_minutesToAlarm_23 : decode cX10_minutesToAlarm 23 = .ok (.iload_n 1, 1) := by decide +kernel
theorem dX10_minutesToAlarm_24 : decode cX10_minutesToAlarm 24 = .ok (.invokevirtual 107, 3) := by decide +kernel
theorem dX10_minutesToAlarm_27 : decode cX10_minutesToAlarm 27 = .ok (.goto 4, 3) := by decide +kernel
theorem dX10_minutesToAlarm_30 : decode cX10_minutesToAlarm 30 = .ok (.iconst 0, 1) := by decide +kernel
theorem dX10_minutesToAlarm_31 : decode cX10_minutesToAlarm 31 = .ok (.ireturn, 1) := by decide +kernel
theorem dX10_climbShare_0 : decode cX10_climbShare 0 = .ok (.aload_n 0, 1) := by decide +kernel
theorem dX10_climbShare_1 : decode cX10_climbShare 1 = .ok (.iconst 0, 1) := by decide +kernel
theorem dX10_climbShare_2 : decode cX10_climbShare 2 = .ok (.putfield 20, 3) := by decide +kernel
theorem dX10_climbShare_5 : decode cX10_climbShare 5 = .ok (.aload_n 0, 1) := by decide +kernel
theorem dX10_climbShare_6 : decode cX10_climbShare 6 = .ok (.getfield 7, 3) := by decide +kernel
theorem dX10_climbShare_9 : decode cX10_climbShare 9 = .ok (.bipush 7, 2) := by decide +kernel
theorem dX10_climbShare_11 : decode cX10_climbShare 11 = .ok (.iaload, 1) := by decide +kernel
theorem dX10_climbShare_12 : decode cX10_climbShare 12 = .ok (.aload_n 0, 1) := by decide +kernel
theorem dX10_climbShare_13 : decode cX10_climbShare 13 = .ok (.getfield 7, 3) := by decide +kernel
theorem dX10_climbShare_16 : decode cX10_climbShare 16 = .ok (.bipush 8, 2) := by decide +kernel
theorem dX10_climbShare_18 : decode cX10_climbShare 18 = .ok (.iaload, 1) := by decide +kernel
theorem dX10_climbShare_19 : decode cX10_climbShare 19 = .ok (.iadd, 1) := by decide +kernel
theorem dX10_climbShare_20 : decode cX10_climbShare 20 = .ok (.istore_n 1, 1) := by decide +kernel
theorem dX10_climbShare_21 : decode cX10_climbShare 21 = .ok (.iload_n 1, 1) := by decide +kernel
theorem dX10_climbShare_22 : decode cX10_climbShare 22 = .ok (.ifCond .ne 9, 3) := by decide +kernel
theorem dX10_climbShare_25 : decode cX10_climbShare 25 = .ok (.ldc2_w 110, 3) := by decide +kernel
theorem dX10_climbShare_28 : decode cX10_climbShare 28 = .ok (.goto 14, 3) := by decide +kernel
theorem dX10_climbShare_31 : decode cX10_climbShare 31 = .ok (.aload_n 0, 1) := by decide +kernel
theorem dX10_climbShare_32 : decode cX10_climbShare 32 = .ok (.getfield 7, 3) := by decide +kernel
theorem dX10_climbShare_35 : decode cX10_climbShare 35 = .ok (.bipush 7, 2) := by decide +kernel
theorem dX10_climbShare_37 : decode cX10_climbShare 37 = .ok (.iaload, 1) := by decide +kernel
theorem dX10_climbShare_38 : decode cX10_climbShare 38 = .ok (.i2d, 1) := by decide +kernel
theorem dX10_climbShare_39 : decode cX10_climbShare 39 = .ok (.iload_n 1, 1) := by decide +kernel
theorem dX10_climbShare_40 : decode cX10_climbShare 40 = .ok (.i2d, 1) := by decide +kernel
theorem dX10_climbShare_41 : decode cX10_climbShare 41 = .ok (.ddiv, 1) := by decide +kernel
theorem dX10_climbShare_42 : decode cX10_climbShare 42 = .ok (.dreturn, 1) := by decide +kernel
set_option maxRecDepth 20000 in
theorem ggX10_append_X10_in : GoodIn wsX10_append wsX10_in := goodIn_r _ [6] (by decide +kernel) (by decide +kernel)
set_option maxRecDepth 20000 in
theorem gX10_append_X10_in : GoodIn wsX10_append (va_wsS RX10 67 yX10_in wsX10_in) := goodIn_app (goodIn_of _ (by decide +kernel)) ggX10_append_X10_in
set_option maxRecDepth 20000 in
theorem ggX10_append_X10_holds : GoodIn wsX10_append wsX10_holds := goodIn_r _ [10, 11, 12, 13, 14, 15, 16, 17, 18, 19, 20, 21, 22] (by decide +kernel) (by decide +kernel)
set_option maxRecDepth 20000 in
theorem gX10_append_X10_holds : GoodIn wsX10_append (wsV RX10 75 RX10 yX10_holds wsX10_holds) := goodIn_app (goodIn_of _ (by decide +kernel)) ggX10_append_X10_holds
theorem dX10_append_0 : decode cX10_append 0 = .ok (.aload_n 0, 1) := by decide +kernel
theorem dX10_append_1 : decode cX10_append 1 = .ok (.iload_n 1, 1) := by decide +kernel
theorem dX10_append_2 : decode cX10_append 2 = .ok (.bipush 33, 2) := by decide +kernel
theorem dX10_append_4 : decode cX10_append 4 = .ok (.bipush 126, 2) := by decide +kernel
theorem dX10_append_6 : decode cX10_append 6 = .ok (.invokestatic 67, 3) := by decide +kernel
theorem dX10_append_9 : decode cX10_append 9 = .ok (.ifCond .ne 7, 3) := by decide +kernel
theorem dX10_append_12 : decode cX10_append 12 = .ok (.iconst 1, 1) := by decide +kernel
theorem dX10_append_13 : decode cX10_append 13 = .ok (.goto 17, 3) := by decide +kernel
theorem dX10_append_16 : decode cX10_append 16 = .ok (.aload_n 0, 1) := by decide +kernel
theorem dX10_append_17 : decode cX10_append 17 = .ok (.getfield 112, 3) := by decide +kernel
theorem dX10_append_20 : decode cX10_append 20 = .ok (.bipush 60, 2) := by decide +kernel
theorem dX10_append_22 : decode cX10_append 22 = .ok (.if_icmp .ne 7, 3) := by decide +kernel
theorem dX10_append_25 : decode cX10_append 25 = .ok (.iconst 2, 1) := by decide +kernel
theorem dX10_append_26 : decode cX10_append 26 = .ok (.goto 4, 3) := by decide +kernel
theorem dX10_append_29 : decode cX10_append 29 = .ok (.iconst 0, 1) := by decide +kernel
theorem dX10_append_30 : decode cX10_append 30 = .ok (.invokevirtual 75, 3) := by decide +kernel
theorem dX10_append_33 : decode cX10_append 33 = .ok (.ifCond .ne 5, 3) := by decide +kernel
theorem dX10_append_36 : decode cX10_append 36 = .ok (.iconst 0, 1) := by decide +kernel
theorem dX10_append_37 : decode cX10_append 37 = .ok (.ireturn, 1) := by decide +kernel
theorem dX10_append_38 : decode cX10_append 38 = .ok (.aload_n 0, 1) := by decide +kernel
theorem dX10_append_39 : decode cX10_append 39 = .ok (.getfield 17, 3) := by decide +kernel
theorem dX10_append_42 : decode cX10_append 42 = .ok (.aload_n 0, 1) := by decide +kernel
theorem dX10_append_43 : decode cX10_append 43 = .ok (.getfield 112, 3) := by decide +kernel
theorem dX10_append_46 : decode cX10_append 46 = .ok (.iload_n 1, 1) := by decide +kernel
theorem dX10_append_47 : decode cX10_append 47 = .ok (.iastore, 1) := by decide +kernel
theorem dX10_append_48 : decode cX10_append 48 = .ok (.aload_n 0, 1) := by decide +kernel
theorem dX10_append_49 : decode cX10_append 49 = .ok (.dup, 1) := by decide +kernel
theorem dX10_append_50 : decode cX10_append 50 = .ok (.getfield 112, 3) := by decide +kernel
theorem dX10_append_53 : decode cX10_append 53 = .ok (.iconst 1, 1) := by decide +kernel
theorem dX10_append_54 : decode cX10_append 54 = .ok (.iadd, 1) := by decide +kernel
theorem dX10_append_55 : decode cX10_append 55 = .ok (.putfield 112, 3) := by decide +kernel
theorem dX10_append_58 : decode cX10_append 58 = .ok (.aload_n 0, 1) := by decide +kernel
theorem dX10_append_59 : decode cX10_append 59 = .ok (.getfield 112, 3) := by decide +kernel
theorem dX10_append_62 : decode cX10_append 62 = .ok (.ireturn, 1) := by decide +kernel
theorem dX10_clearText_0 : decode cX10_clearText 0 = .ok (.aload_n 0, 1) := by decide +kernel
theorem dX10_clearText_1 : decode cX10_clearText 1 = .ok (.iconst 0, 1) := by decide +kernel
theorem dX10_clearText_2 : decode cX10_clearText 2 = .ok (.putfield 20, 3) := by decide +kernel
theorem dX10_clearText_5 : decode cX10_clearText 5 = .ok (.aload_n 0, 1) := by decide +kernel
theorem dX10_clearText_6 : decode cX10_clearText 6 = .ok (.getfield 112, 3) := by decide +kernel
theorem dX10_clearText_9 : decode cX10_clearText 9 = .ok (.istore_n 1, 1) := by decide +kernel
theorem dX10_clearText_10 : decode cX10_clearText 10 = .ok (.aload_n 0, 1) := by decide +kernel
theorem dX10_clearText_11 : decode cX10_clearText 11 = .ok (.iconst 0, 1) := by decide +kernel
theorem dX10_clearText_12 : decode cX10_clearText 12 = .ok (.putfield 112, 3) := by decide +kernel
theorem dX10_clearText_15 : decode cX10_clearText 15 = .ok (.iload_n 1, 1) := by decide +kernel
theorem dX10_clearText_16 : decode cX10_clearText 16 = .ok (.ireturn, 1) := by decide +kernel
theorem dX10_sign_0 : decode cX10_sign 0 = .ok (.aload_n 0, 1) := by decide +kernel
theorem dX10_sign_1 : decode cX10_sign 1 = .ok (.getfield 115, 3) := by decide +kernel
theorem dX10_sign_4 : decode cX10_sign 4 = .ok (.aload_n 0, 1) := by decide +kernel
theorem dX10_sign_5 : decode cX10_sign 5 = .ok (.getfield 112, 3) := by decide +kernel
theorem dX10_sign_8 : decode cX10_sign 8 = .ok (.if_icmp .ge 15, 3) := by decide +kernel
theorem dX10_sign_11 : decode cX10_sign 11 = .ok (.aload_n 0, 1) := by decide +kernel
theorem dX10_sign_12 : decode cX10_sign 12 = .ok (.getfield 17, 3) := by decide +kernel
theorem dX10_sign_15 : decode cX10_sign 15 = .ok (.aload_n 0, 1) := by decide +kernel
theorem dX10_sign_16 : decode cX10_sign 16 = .ok (.getfield 115, 3) := by decide +kernel
theorem dX10_sign_19 : decode cX10_sign 19 = .ok (.iaload, 1) := by decide +kernel
theorem dX10_sign_20 : decode cX10_sign 20 = .ok (.goto 4, 3) := by decide +kernel
theorem dX10_sign_23 : decode cX10_sign 23 = .ok (.iconst 0, 1) := by decide +kernel
theorem dX10_sign_24 : decode cX10_sign 24 = .ok (.ireturn, 1) := by decide +kernel
set_option maxRecDepth 20000 in
theorem ggX10_takes_X10_sign : GoodIn wsX10_takes wsX10_sign := goodIn_r _ [6, 1, 7, 8, 9, 10, 11, 12, 13, 14, 15, 16, 17, 18, 19] (by decide +kernel) (by decide +kernel)
set_option maxRecDepth 20000 in
theorem gX10_takes_X10_sign : GoodIn wsX10_takes (wsV RX10 118 RX10 yX10_sign wsX10_sign) := goodIn_app (goodIn_of _ (by decide +kernel)) ggX10_takes_X10_sign
theorem dX10_takes_0 : decode cX10_takes 0 = .ok (.aload_n 0, 1) := by decide +kernel
theorem dX10_takes_1 : decode cX10_takes 1 = .ok (.invokevirtual 118, 3) := by decide +kernel
theorem dX10_takes_4 : decode cX10_takes 4 = .ok (.iload_n 1, 1) := by decide +kernel
theorem dX10_takes_5 : decode cX10_takes 5 = .ok (.if_icmp .ne 7, 3) := by decide +kernel
theorem dX10_takes_8 : decode cX10_takes 8 = .ok (.iconst 1, 1) := by decide +kernel
theorem dX10_takes_9 : decode cX10_takes 9 = .ok (.goto 4, 3) := by decide +kernel
theorem dX10_takes_12 : decode cX10_takes 12 = .ok (.iconst 0, 1) := by decide +kernel
theorem dX10_takes_13 : decode cX10_takes 13 = .ok (.istore_n 2, 1) := by decide +kernel
theorem dX10_takes_14 : decode cX10_takes 14 = .ok (.aload_n 0, 1) := by decide +kernel
theorem dX10_takes_15 : decode cX10_takes 15 = .ok (.dup, 1) := by decide +kernel
theorem dX10_takes_16 : decode cX10_takes 16 = .ok (.getfield 115, 3) := by decide +kernel
theorem dX10_takes_19 : decode cX10_takes 19 = .ok (.iload_n 2, 1) := by decide +kernel
theorem dX10_takes_20 : decode cX10_takes 20 = .ok (.ifCond .eq 7, 3) := by decide +kernel
theorem dX10_takes_23 : decode cX10_takes 23 = .ok (.iconst 1, 1) := by decide +kernel
theorem dX10_takes_24 : decode cX10_takes 24 = .ok (.goto 4, 3) := by decide +kernel
theorem dX10_takes_27 : decode cX10_takes 27 = .ok (.iconst 0, 1) := by decide +kernel
theorem dX10_takes_28 : decode cX10_takes 28 = .ok (.iadd, 1) := by decide +kernel
theorem dX10_takes_29 : decode cX10_takes 29 = .ok (.putfield 115, 3) := by decide +kernel
theorem dX10_takes_32 : decode cX10_takes 32 = .ok (.iload_n 2, 1) := by decide +kernel
theorem dX10_takes_33 : decode cX10_takes 33 = .ok (.ireturn, 1) := by decide +kernel
theorem dX10_begins_0 : decode cX10_begins 0 = .ok (.iload_n 0, 1) := by decide +kernel
theorem dX10_begins_1 : decode cX10_begins 1 = .ok (.istore_n 3, 1) := by decide +kernel
theorem dX10_begins_2 : decode cX10_begins 2 = .ok (.iload_n 0, 1) := by decide +kernel
theorem dX10_begins_3 : decode cX10_begins 3 = .ok (.istore 4, 2) := by decide +kernel
theorem dX10_begins_5 : decode cX10_begins 5 = .ok (.iconst 0, 1) := by decide +kernel
theorem dX10_begins_6 : decode cX10_begins 6 = .ok (.istore 5, 2) := by decide +kernel
theorem dX10_begins_8 : decode cX10_begins 8 = .ok (.iload_n 3, 1) := by decide +kernel
theorem dX10_begins_9 : decode cX10_begins 9 = .ok (.iload_n 2, 1) := by decide +kernel
theorem dX10_begins_10 : decode cX10_begins 10 = .ok (.if_icmp .gt 39, 3) := by decide +kernel
theorem dX10_begins_13 : decode cX10_begins 13 = .ok (.iload 5, 2) := by decide +kernel
theorem dX10_begins_15 : decode cX10_begins 15 = .ok (.ifCond .ne 9, 3) := by decide +kernel
theorem dX10_begins_18 : decode cX10_begins 18 = .ok (.iload 4, 2) := by decide +kernel
theorem dX10_begins_20 : decode cX10_begins 20 = .ok (.iload_n 1, 1) := by decide +kernel
theorem dX10_begins_21 : decode cX10_begins 21 = .ok (.if_icmp .lt 7, 3) := by decide +kernel
theorem dX10_begins_24 : decode cX10_begins 24 = .ok (.iconst 1, 1) := by decide +kernel
theorem dX10_begins_25 : decode cX10_begins 25 = .ok (.goto 4, 3) := by decide +kernel
theorem dX10_begins_28 : decode cX10_begins 28 = .ok (.iconst 0, 1) := by decide +kernel
theorem dX10_begins_29 : decode cX10_begins 29 = .ok (.istore 5, 2) := by decide +kernel
theorem dX10_begins_31 : decode cX10_begins 31 = .ok (.bipush 10, 2) := by decide +kernel
theorem dX10_begins_33 : decode cX10_begins 33 = .ok (.iload_n 3, 1) := by decide +kernel
theorem dX10_begins_34 : decode cX10_begins 34 = .ok (.imul, 1) := by decide +kernel
theorem dX10_begins_35 : decode cX10_begins 35 = .ok (.istore_n 3, 1) := by decide +kernel
theorem dX10_begins_36 : decode cX10_begins 36 = .ok (.bipush 10, 2) := by decide +kernel
theorem dX10_begins_38 : decode cX10_begins 38 = .ok (.iload 4, 2) := by decide +kernel
theorem dX10_begins_40 : decode cX10_begins 40 = .ok (.imul, 1) := by decide +kernel
theorem dX10_begins_41 : decode cX10_begins 41 = .ok (.bipush 9, 2) := by decide +kernel
theorem dX10_begins_43 : decode cX10_begins 43 = .ok (.iadd, 1) := by decide +kernel
theorem dX10_begins_44 : decode cX10_begins 44 = .ok (.istore 4, 2) := by decide +kernel
theorem dX10_begins_46 : decode cX10_begins 46 = .ok (.goto (-38), 3) := by decide +kernel
theorem dX10_begins_49 : decode cX10_begins 49 = .ok (.iload 5, 2) := by decide +kernel
theorem dX10_begins_51 : decode cX10_begins 51 = .ok (.ireturn, 1) := by decide +kernel
set_option maxRecDepth 20000 in
theorem ggX10_readsNumber_X10_sign : GoodIn wsX10_readsNumber wsX10_sign := goodIn_r _ [7, 2, 8, 9, 16, 17, 18, 19, 20, 21, 22, 23, 24, 25, 26] (by decide +kernel) (by decide +kernel)
set_option maxRecDepth 20000 in
theorem gX10_readsNumber_X10_sign : GoodIn wsX10_readsNumber (wsV RX10 118 RX10 yX10_sign wsX10_sign) := goodIn_app (goodIn_of _ (by decide +kernel)) ggX10_readsNumber_X10_sign
set_option maxRecDepth 20000 in
theorem ggX10_readsNumber_X10_in : GoodIn wsX10_readsNumber wsX10_in := goodIn_r _ [12] (by decide +kernel) (by decide +kernel)
set_option maxRecDepth 20000 in
theorem gX10_readsNumber_X10_in : GoodIn wsX10_readsNumber (va_wsS RX10 67 yX10_in wsX10_in) := goodIn_app (goodIn_of _ (by decide +kernel)) ggX10_readsNumber_X10_in
set_option maxRecDepth 20000 in
theorem ggX10_readsNumber_X10_begins : GoodIn wsX10_readsNumber wsX10_begins := goodIn_r _ [15] (by decide +kernel) (by decide +kernel)
set_option maxRecDepth 20000 in
theorem gX10_readsNumber_X10_begins : GoodIn wsX10_readsNumber (va_wsS RX10 124 yX10_begins wsX10_begins) := goodIn_app (goodIn_of _ (by decide +kernel)) ggX10_readsNumber_X10_begins
theorem dX10_readsNumber_0 : decode cX10_readsNumber 0 = .ok (.aload_n 0, 1) := by decide +kernel
theorem dX10_readsNumber_1 : decode cX10_readsNumber 1 = .ok (.iconst 0, 1) := by decide +kernel
theorem dX10_readsNumber_2 : decode cX10_readsNumber 2 = .ok (.putfield 121, 3) := by decide +kernel
theorem dX10_readsNumber_5 : decode cX10_readsNumber 5 = .ok (.aload_n 0, 1) := by decide +kernel
theorem dX10_readsNumber_6 : decode cX10_readsNumber 6 = .ok (.getfield 115, 3) := by decide +kernel
theorem dX10_readsNumber_9 : decode cX10_readsNumber 9 = .ok (.istore_n 3, 1) := by decide +kernel
theorem dX10_readsNumber_10 : decode cX10_readsNumber 10 = .ok (.aload_n 0, 1) := by decide +kernel
theorem dX10_readsNumber_11 : decode cX10_readsNumber 11 = .ok (.invokevirtual 118, 3) := by decide +kernel
theorem dX10_readsNumber_14 : decode cX10_readsNumber 14 = .ok (.bipush 48, 2) := by decide +kernel
theorem dX10_readsNumber_16 : decode cX10_readsNumber 16 = .ok (.bipush 57, 2) := by decide +kernel
theorem dX10_readsNumber_18 : decode cX10_readsNumber 18 = .ok (.invokestatic 67, 3) := by decide +kernel
theorem dX10_readsNumber_21 : decode cX10_readsNumber 21 = .ok (.ifCond .eq 97, 3) := by decide +kernel
theorem dX10_readsNumber_24 : decode cX10_readsNumber 24 = .ok (.aload_n 0, 1) := by decide +kernel
theorem dX10_readsNumber_25 : decode cX10_readsNumber 25 = .ok (.getfield 115, 3) := by decide +kernel
theorem dX10_readsNumber_28 : decode cX10_readsNumber 28 = .ok (.iload_n 3, 1) := by decide +kernel
theorem dX10_readsNumber_29 : decode cX10_readsNumber 29 = .ok (.if_icmp .eq 10, 3) := by decide +kernel
theorem dX10_readsNumber_32 : decode cX10_readsNumber 32 = .ok (.aload_n 0, 1) := by decide +kernel
theorem dX10_readsNumber_33 : decode cX10_readsNumber 33 = .ok (.getfield 121, 3) := by decide +kernel
theorem dX10_readsNumber_36 : decode cX10_readsNumber 36 = .ok (.ifCond .le 82, 3) := by decide +kernel
theorem dX10_readsNumber_39 : decode cX10_readsNumber 39 = .ok (.aload_n 0, 1) := by decide +kernel
theorem dX10_readsNumber_40 : decode cX10_readsNumber 40 = .ok (.invokevirtual 118, 3) := by decide +kernel
theorem dX10_readsNumber_43 : decode cX10_readsNumber 43 = .ok (.bipush 48, 2) := by decide +kernel
theorem dX10_readsNumber_45 : decode cX10_readsNumber 45 = .ok (.if_icmp .ne 18, 3) := by decide +kernel
theorem dX10_readsNumber_48 : decode cX10_readsNumber 48 = .ok (.aload_n 0, 1) := by decide +kernel
theorem dX10_readsNumber_49 : decode cX10_readsNumber 49 = .ok (.getfield 115, 3) := by decide +kernel
theorem dX10_readsNumber_52 : decode cX10_readsNumber 52 = .ok (.iload_n 3, 1) := by decide +kernel
theorem dX10_readsNumber_53 : decode cX10_readsNumber 53 = .ok (.if_icmp .ne 10, 3) := by decide +kernel
theorem dX10_readsNumber_56 : decode cX10_readsNumber 56 = .ok (.iload_n 1, 1) := by decide +kernel
theorem dX10_readsNumber_57 : decode cX10_readsNumber 57 = .ok (.ifCond .ne 61, 3) := by decide +kernel
theorem dX10_readsNumber_60 : decode cX10_readsNumber 60 = .ok (.goto 26, 3) := by decide +kernel
theorem dX10_readsNumber_63 : decode cX10_readsNumber 63 = .ok (.bipush 10, 2) := by decide +kernel
theorem dX10_readsNumber_65 : decode cX10_readsNumber 65 = .ok (.aload_n 0, 1) := by decide +kernel
theorem dX10_readsNumber_66 : decode cX10_readsNumber 66 = .ok (.getfield 121, 3) := by decide +kernel
theorem dX10_readsNumber_69 : decode cX10_readsNumber 69 = .ok (.imul, 1) := by decide +kernel
theorem dX10_readsNumber_70 : decode cX10_readsNumber 70 = .ok (.aload_n 0, 1) := by decide +kernel
theorem dX10_readsNumber_71 : decode cX10_readsNumber 71 = .ok (.invokevirtual 118, 3) := by decide +kernel
theorem dX10_readsNumber_74 : decode cX10_readsNumber 74 = .ok (.iadd, 1) := by decide +kernel
theorem dX10_readsNumber_75 : decode cX10_readsNumber 75 = .ok (.bipush 48, 2) := by decide +kernel
theorem dX10_readsNumber_77 : decode cX10_readsNumber 77 = .ok (.isub, 1) := by decide +kernel
theorem dX10_readsNumber_78 : decode cX10_readsNumber 78 = .ok (.iload_n 1, 1) := by decide +kernel
theorem dX10_readsNumber_79 : decode cX10_readsNumber 79 = .ok (.iload_n 2, 1) := by decide +kernel
theorem dX10_readsNumber_80 : decode cX10_readsNumber 80 = .ok (.invokestatic 124, 3) := by decide +kernel
theorem dX10_readsNumber_83 : decode cX10_readsNumber 83 = .ok (.ifCond .eq 35, 3) := by decide +kernel
theorem dX10_readsNumber_86 : decode cX10_readsNumber 86 = .ok (.aload_n 0, 1) := by decide +kernel
theorem dX10_readsNumber_87 : decode cX10_readsNumber 87 = .ok (.bipush 10, 2) := by decide +kernel
theorem dX10_readsNumber_89 : decode cX10_readsNumber 89 = .ok (.aload_n 0, 1) := by decide +kernel
theorem dX10_readsNumber_90 : decode cX10_readsNumber 90 = .ok (.getfield 121, 3) := by decide +kernel
theorem dX10_readsNumber_93 : decode cX10_readsNumber 93 = .ok (.imul, 1) := by decide +kernel
theorem dX10_readsNumber_94 : decode cX10_readsNumber 94 = .ok (.aload_n 0, 1) := by decide +kernel
theorem dX10_readsNumber_95 : decode cX10_readsNumber 95 = .ok (.invokevirtual 118, 3) := by decide +kernel
theorem dX10_readsNumber_98 : decode cX10_readsNumber 98 = .ok (.iadd, 1) := by decide +kernel
theorem dX10_readsNumber_99 : decode cX10_readsNumber 99 = .ok (.bipush 48, 2) := by decide +kernel
theorem dX10_readsNumber_101 : decode cX10_readsNumber 101 = .ok (.isub, 1) := by decide +kernel
theorem dX10_readsNumber_102 : decode cX10_readsNumber 102 = .ok (.putfield 121, 3) := by decide +kernel
theorem dX10_readsNumber_105 : decode cX10_readsNumber 105 = .ok (.aload_n 0, 1) := by decide +kernel
theorem dX10_readsNumber_106 : decode cX10_readsNumber 106 = .ok (.dup, 1) := by decide +kernel
theorem dX10_readsNumber_107 : decode cX10_readsNumber 107 = .ok (.getfield 115, 3) := by decide +kernel
theorem dX10_readsNumber_110 : decode cX10_readsNumber 110 = .ok (.iconst 1, 1) := by decide +kernel
theorem dX10_readsNumber_111 : decode cX10_readsNumber 111 = .ok (.iadd, 1) := by decide +kernel
theorem dX10_readsNumber_112 : decode cX10_readsNumber 112 = .ok (.putfield 115, 3) := by decide +kernel
theorem dX10_readsNumber_115 : decode cX10_readsNumber 115 = .ok (.goto (-105), 3) := by decide +kernel
theorem dX10_readsNumber_118 : decode cX10_readsNumber 118 = .ok (.aload_n 0, 1) := by decide +kernel
theorem dX10_readsNumber_119 : decode cX10_readsNumber 119 = .ok (.getfield 115, 3) := by decide +kernel
theorem dX10_readsNumber_122 : decode cX10_readsNumber 122 = .ok (.iload_n 3, 1) := by decide +kernel
theorem dX10_readsNumber_123 : decode cX10_readsNumber 123 = .ok (.if_icmp .le 19, 3) := by decide +kernel
theorem dX10_readsNumber_126 : decode cX10_readsNumber 126 = .ok (.aload_n 0, 1) := by decide +kernel
theorem dX10_readsNumber_127 : decode cX10_readsNumber 127 = .ok (.getfield 121, 3) := by decide +kernel
theorem dX10_readsNumber_130 : decode cX10_readsNumber 130 = .ok (.iload_n 1, 1) := by decide +kernel
theorem dX10_readsNumber_131 : decode cX10_readsNumber 131 = .ok (.iload_n 2, 1) := by decide +kernel
theorem dX10_readsNumber_132 : decode cX10_readsNumber 132 = .ok (.invokestatic 67, 3) := by decide +kernel
theorem dX10_readsNumber_135 : decode cX10_readsNumber 135 = .ok (.ifCond .eq 7, 3) := by decide +kernel
theorem dX10_readsNumber_138 : decode cX10_readsNumber 138 = .ok (.iconst 1, 1) := by decide +kernel
theorem dX10_readsNumber_139 : decode cX10_readsNumber 139 = .ok (.goto 4, 3) := by decide +kernel
theorem dX10_readsNumber_142 : decode cX10_readsNumber 142 = .ok (.iconst 0, 1) := by decide +kernel
theorem dX10_readsNumber_143 : decode cX10_readsNumber 143 = .ok (.ireturn, 1) := by decide +kernel
set_option maxRecDepth 20000 in
theorem ggX10_readsPart_X10_sign : GoodIn wsX10_readsPart wsX10_sign := goodIn_r _ [9, 10, 11, 12, 27, 28, 29, 30, 31, 32, 33, 34, 35, 36, 37] (by decide +kernel) (by decide +kernel)
set_option maxRecDepth 20000 in
theorem gX10_readsPart_X10_sign : GoodIn wsX10_readsPart (wsV RX10 118 RX10 yX10_sign wsX10_sign) := goodIn_app (goodIn_of _ (by decide +kernel)) ggX10_readsPart_X10_sign
set_option maxRecDepth 20000 in
theorem ggX10_readsPart_X10_takes : GoodIn wsX10_readsPart wsX10_takes := goodIn_r _ [16, 10, 5, 6, 7, 8, 9, 11, 12, 27, 28, 29, 30, 31, 32, 33, 34, 35, 36, 37] (by decide +kernel) (by decide +kernel)
set_option maxRecDepth 20000 in
theorem gX10_readsPart_X10_takes : GoodIn wsX10_readsPart (wsV RX10 130 RX10 yX10_takes wsX10_takes) := goodIn_app (goodIn_of _ (by decide +kernel)) ggX10_readsPart_X10_takes
set_option maxRecDepth 20000 in
theorem ggX10_readsPart_X10_readsNumber : GoodIn wsX10_readsPart wsX10_readsNumber := goodIn_r _ [20, 3, 10, 5, 6, 7, 8, 9, 11, 12, 21, 22, 23, 24, 25, 26, 27, 28, 29, 30, 31, 32, 33, 34, 35, 36, 37] (by decide +kernel) (by decide +kernel)
set_option maxRecDepth 20000 in
theorem gX10_readsPart_X10_readsNumber : GoodIn wsX10_readsPart (wsV RX10 133 RX10 yX10_readsNumber wsX10_readsNumber) := goodIn_app (goodIn_of _ (by decide +kernel)) ggX10_readsPart_X10_readsNumber
theorem dX10_readsPart_0 : decode cX10_readsPart 0 = .ok (.aload_n 0, 1) := by decide +kernel
theorem dX10_readsPart_1 : decode cX10_readsPart 1 = .ok (.aload_n 0, 1) := by decide +kernel
theorem dX10_readsPart_2 : decode cX10_readsPart 2 = .ok (.invokevirtual 118, 3) := by decide +kernel
theorem dX10_readsPart_5 : decode cX10_readsPart 5 = .ok (.putfield 127, 3) := by decide +kernel
theorem dX10_readsPart_8 : decode cX10_readsPart 8 = .ok (.aload_n 0, 1) := by decide +kernel
theorem dX10_readsPart_9 : decode cX10_readsPart 9 = .ok (.bipush 115, 2) := by decide +kernel
theorem dX10_readsPart_11 : decode cX10_readsPart 11 = .ok (.invokevirtual 130, 3) := by decide +kernel
theorem dX10_readsPart_14 : decode cX10_readsPart 14 = .ok (.ifCond .ne 12, 3) := by decide +kernel
theorem dX10_readsPart_17 : decode cX10_readsPart 17 = .ok (.aload_n 0, 1) := by decide +kernel
theorem dX10_readsPart_18 : decode cX10_readsPart 18 = .ok (.bipush 109, 2) := by decide +kernel
theorem dX10_readsPart_20 : decode cX10_readsPart 20 = .ok (.invokevirtual 130, 3) := by decide +kernel
theorem dX10_readsPart_23 : decode cX10_readsPart 23 = .ok (.ifCond .eq 5, 3) := by decide +kernel
theorem dX10_readsPart_26 : decode cX10_readsPart 26 = .ok (.iconst 1, 1) := by decide +kernel
theorem dX10_readsPart_27 : decode cX10_readsPart 27 = .ok (.ireturn, 1) := by decide +kernel
theorem dX10_readsPart_28 : decode cX10_readsPart 28 = .ok (.aload_n 0, 1) := by decide +kernel
theorem dX10_readsPart_29 : decode cX10_readsPart 29 = .ok (.bipush 99, 2) := by decide +kernel
theorem dX10_readsPart_31 : decode cX10_readsPart 31 = .ok (.invokevirtual 130, 3) := by decide +kernel
theorem dX10_readsPart_34 : decode cX10_readsPart 34 = .ok (.ifCond .eq 11, 3) := by decide +kernel
theorem dX10_readsPart_37 : decode cX10_readsPart 37 = .ok (.aload_n 0, 1) := by decide +kernel
theorem dX10_readsPart_38 : decode cX10_readsPart 38 = .ok (.iconst 0, 1) := by decide +kernel
theorem dX10_readsPart_39 : decode cX10_readsPart 39 = .ok (.ldc 93, 2) := by decide +kernel
theorem dX10_readsPart_41 : decode cX10_readsPart 41 = .ok (.invokevirtual 133, 3) := by decide +kernel
theorem dX10_readsPart_44 : decode cX10_readsPart 44 = .ok (.ireturn, 1) := by decide +kernel
theorem dX10_readsPart_45 : decode cX10_readsPart 45 = .ok (.aload_n 0, 1) := by decide +kernel
theorem dX10_readsPart_46 : decode cX10_readsPart 46 = .ok (.iconst 0, 1) := by decide +kernel
theorem dX10_readsPart_47 : decode cX10_readsPart 47 = .ok (.putfield 127, 3) := by decide +kernel
theorem dX10_readsPart_50 : decode cX10_readsPart 50 = .ok (.aload_n 0, 1) := by decide +kernel
theorem dX10_readsPart_51 : decode cX10_readsPart 51 = .ok (.iconst 1, 1) := by decide +kernel
theorem dX10_readsPart_52 : decode cX10_readsPart 52 = .ok (.bipush 120, 2) := by decide +kernel
theorem dX10_readsPart_54 : decode cX10_readsPart 54 = .ok (.invokevirtual 133, 3) := by decide +kernel
theorem dX10_readsPart_57 : decode cX10_readsPart 57 = .ok (.ifCond .eq 12, 3) := by decide +kernel
theorem dX10_readsPart_60 : decode cX10_readsPart 60 = .ok (.aload_n 0, 1) := by decide +kernel
theorem dX10_readsPart_61 : decode cX10_readsPart 61 = .ok (.bipush 62, 2) := by decide +kernel
theorem dX10_readsPart_63 : decode cX10_readsPart 63 = .ok (.invokevirtual 130, 3) := by decide +kernel
theorem dX10_readsPart_66 : decode cX10_readsPart 66 = .ok (.ifCond .ne 5, 3) := by decide +kernel
theorem dX10_readsPart_69 : decode cX10_readsPart 69 = .ok (.iconst 0, 1) := by decide +kernel
theorem dX10_readsPart_70 : decode cX10_readsPart 70 = .ok (.ireturn, 1) := by decide +kernel
theorem dX10_readsPart_71 : decode cX10_readsPart 71 = .ok (.aload_n 0, 1) := by decide +kernel
theorem dX10_readsPart_72 : decode cX10_readsPart 72 = .ok (.aload_n 0, 1) := by decide +kernel
theorem dX10_readsPart_73 : decode cX10_readsPart 73 = .ok (.getfield 121, 3) := by decide +kernel
theorem dX10_readsPart_76 : decode cX10_readsPart 76 = .ok (.putfield 136, 3) := by decide +kernel
theorem dX10_readsPart_79 : decode cX10_readsPart 79 = .ok (.aload_n 0, 1) := by decide +kernel
theorem dX10_readsPart_80 : decode cX10_readsPart 80 = .ok (.sipush 5000, 3) := by decide +kernel
theorem dX10_readsPart_83 : decode cX10_readsPart 83 = .ok (.sipush 11000, 3) := by decide +kernel
theorem dX10_readsPart_86 : decode cX10_readsPart 86 = .ok (.invokevirtual 133, 3) := by decide +kernel
theorem dX10_readsPart_89 : decode cX10_readsPart 89 = .ok (.ireturn, 1) := by decide +kernel
set_option maxRecDepth 20000 in
theorem ggX10_isTripText_X10_readsPart : GoodIn wsX10_isTripText wsX10_readsPart := goodIn_r _ [7, 8, 9, 10, 11, 12, 13, 14, 6, 15, 1, 2, 16, 17, 18, 19, 20, 21, 22, 23, 24, 25, 26, 27, 28, 29, 30, 31, 32, 33, 34, 35, 36, 37, 38, 39, 40, 41] (by decide +kernel) (by decide +kernel)
set_option maxRecDepth 20000 in
theorem gX10_isTripText_X10_readsPart : GoodIn wsX10_isTripText (wsV RX10 139 RX10 yX10_readsPart wsX10_readsPart) := goodIn_app (goodIn_of _ (by decide +kernel)) ggX10_isTripText_X10_readsPart
set_option maxRecDepth 20000 in
theorem ggX10_isTripText_X10_takes : GoodIn wsX10_isTripText wsX10_takes := goodIn_r _ [20, 1, 12, 13, 14, 6, 15, 2, 16, 31, 32, 33, 34, 35, 36, 37, 38, 39, 40, 41] (by decide +kernel) (by decide +kernel)
set_option maxRecDepth 20000 in
theorem gX10_isTripText_X10_takes : GoodIn wsX10_isTripText (wsV RX10 130 RX10 yX10_takes wsX10_takes) := goodIn_app (goodIn_of _ (by decide +kernel)) ggX10_isTripText_X10_takes
theorem dX10_isTripText_0 : decode cX10_isTripText 0 = .ok (.aload_n 0, 1) := by decide +kernel
theorem dX10_isTripText_1 : decode cX10_isTripText 1 = .ok (.iconst 0, 1) := by decide +kernel
theorem dX10_isTripText_2 : decode cX10_isTripText 2 = .ok (.putfield 115, 3) := by decide +kernel
theorem dX10_isTripText_5 : decode cX10_isTripText 5 = .ok (.aload_n 0, 1) := by decide +kernel
theorem dX10_isTripText_6 : decode cX10_isTripText 6 = .ok (.invokevirtual 139, 3) := by decide +kernel
theorem dX10_isTripText_9 : decode cX10_isTripText 9 = .ok (.ifCond .eq 27, 3) := by decide +kernel
theorem dX10_isTripText_12 : decode cX10_isTripText 12 = .ok (.aload_n 0, 1) := by decide +kernel
theorem dX10_isTripText_13 : decode cX10_isTripText 13 = .ok (.getfield 115, 3) := by decide +kernel
theorem dX10_isTripText_16 : decode cX10_isTripText 16 = .ok (.aload_n 0, 1) := by decide +kernel
theorem dX10_isTripText_17 : decode cX10_isTripText 17 = .ok (.getfield 112, 3) := by decide +kernel
theorem dX10_isTripText_20 : decode cX10_isTripText 20 = .ok (.if_icmp .ne 5, 3) := by decide +kernel
theorem dX10_isTripText_23 : decode cX10_isTripText 23 = .ok (.iconst 1, 1) := by decide +kernel
theorem dX10_isTripText_24 : decode cX10_isTripText 24 = .ok (.ireturn, 1) := by decide +kernel
theorem dX10_isTripText_25 : decode cX10_isTripText 25 = .ok (.aload_n 0, 1) := by decide +kernel
theorem dX10_isTripText_26 : decode cX10_isTripText 26 = .ok (.bipush 59, 2) := by decide +kernel
theorem dX10_isTripText_28 : decode cX10_isTripText 28 = .ok (.invokevirtual 130, 3) := by decide +kernel
theorem dX10_isTripText_31 : decode cX10_isTripText 31 = .ok (.ifCond .ne (-26), 3) := by decide +kernel
theorem dX10_isTripText_34 : decode cX10_isTripText 34 = .ok (.iconst 0, 1) := by decide +kernel
theorem dX10_isTripText_35 : decode cX10_isTripText 35 = .ok (.ireturn, 1) := by decide +kernel
theorem dX10_isTripText_36 : decode cX10_isTripText 36 = .ok (.iconst 0, 1) := by decide +kernel
theorem dX10_isTripText_37 : decode cX10_isTripText 37 = .ok (.ireturn, 1) := by decide +kernel
set_option maxRecDepth 20000 in
theorem ggX10_firstError_X10_isTripText : GoodIn wsX10_firstError wsX10_isTripText := goodIn_r _ [7, 2, 8, 9, 10, 11, 6, 12, 13, 14, 15, 16, 17, 18, 19, 20, 21, 22, 23, 24, 25, 26, 27, 28, 29, 30, 31, 32, 33, 34, 35, 36, 37, 38, 39, 40, 41, 42, 43, 44, 45, 46] (by decide +kernel) (by decide +kernel)
set_option maxRecDepth 20000 in
theorem gX10_firstError_X10_isTripText : GoodIn wsX10_firstError (wsV RX10 143 RX10 yX10_isTripText wsX10_isTripText) := goodIn_app (goodIn_of _ (by decide +kernel)) ggX10_firstError_X10_isTripText
theorem dX10_firstError_0 : decode cX10_firstError 0 = .ok (.aload_n 0, 1) := by decide +kernel
theorem dX10_firstError_1 : decode cX10_firstError 1 = .ok (.iconst 0, 1) := by decide +kernel
theorem dX10_firstError_2 : decode cX10_firstError 2 = .ok (.putfield 20, 3) := by decide +kernel
theorem dX10_firstError_5 : decode cX10_firstError 5 = .ok (.aload_n 0, 1) := by decide +kernel
theorem dX10_firstError_6 : decode cX10_firstError 6 = .ok (.invokevirtual 143, 3) := by decide +kernel
theorem dX10_firstError_9 : decode cX10_firstError 9 = .ok (.pop, 1) := by decide +kernel
theorem dX10_firstError_10 : decode cX10_firstError 10 = .ok (.aload_n 0, 1) := by decide +kernel
theorem dX10_firstError_11 : decode cX10_firstError 11 = .ok (.getfield 115, 3) := by decide +kernel
theorem dX10_firstError_14 : decode cX10_firstError 14 = .ok (.ireturn, 1) := by decide +kernel
set_option maxRecDepth 20000 in
theorem ggX10_does_X10_switches : GoodIn wsX10_does wsX10_switches := goodIn_r _ [9, 2, 10, 11, 12, 8, 13, 14, 15, 16, 60, 61, 62, 63, 64, 65, 66, 67, 68, 69, 70] (by decide +kernel) (by decide +kernel)
set_option maxRecDepth 20000 in
theorem gX10_does_X10_switches : GoodIn wsX10_does (wsV RX10 82 RX10 yX10_switches wsX10_switches) := goodIn_app (goodIn_of _ (by decide +kernel)) ggX10_does_X10_switches
set_option maxRecDepth 20000 in
theorem ggX10_does_X10_marked : GoodIn wsX10_does wsX10_marked := goodIn_r _ [20, 2, 10, 11, 12, 8, 13, 14, 15, 16, 60, 61, 62, 63, 64, 65, 66, 67, 68, 69, 70] (by decide +kernel) (by decide +kernel)
set_option maxRecDepth 20000 in
theorem gX10_does_X10_marked : GoodIn wsX10_does (wsV RX10 97 RX10 yX10_marked wsX10_marked) := goodIn_app (goodIn_of _ (by decide +kernel)) ggX10_does_X10_marked
set_option maxRecDepth 20000 in
theorem ggX10_does_X10_calibrates : GoodIn wsX10_does wsX10_calibrates := goodIn_r _ [24, 2, 10, 11, 12, 8, 13, 14, 15, 16, 25, 26, 27, 28, 29, 30, 31, 32, 33, 34, 35, 60, 61, 62, 63, 64, 65, 66, 67, 68, 69, 70] (by decide +kernel) (by decide +kernel)
set_option maxRecDepth 20000 in
theorem gX10_does_X10_calibrates : GoodIn wsX10_does (wsV RX10 94 RX10 yX10_calibrates wsX10_calibrates) := goodIn_app (goodIn_of _ (by decide +kernel)) ggX10_does_X10_calibrates
set_option maxRecDepth 20000 in
theorem ggX10_does_X10_trips : GoodIn wsX10_does wsX10_trips := goodIn_r _ [39, 2, 40, 41, 42, 8, 43, 25, 26, 27, 28, 14, 15, 16, 29, 30, 31, 44, 45, 46, 47, 48, 49, 50, 51, 10, 11, 12, 13, 52, 53, 54, 55, 56, 57, 58, 59, 60, 61, 62, 63, 64, 65, 66, 67, 68, 69, 70] (by decide +kernel) (by decide +kernel)
set_option maxRecDepth 20000 in
theorem gX10_does_X10_trips : GoodIn wsX10_does (wsV RX10 78 RX10 yX10_trips wsX10_trips) := goodIn_app (goodIn_of _ (by decide +kernel)) ggX10_does_X10_trips
theorem dX10_does_0 : decode cX10_does 0 = .ok (.aload_n 0, 1) := by decide +kernel
theorem dX10_does_1 : decode cX10_does 1 = .ok (.getfield 127, 3) := by decide +kernel
theorem dX10_does_4 : decode cX10_does 4 = .ok (.lookupswitch 77 #[(99, 65), (109, 57), (115, 36)], 36) := by decide +kernel
theorem dX10_does_40 : decode cX10_does 40 = .ok (.aload_n 0, 1) := by decide +kernel
theorem dX10_does_41 : decode cX10_does 41 = .ok (.aload_n 0, 1) := by decide +kernel
theorem dX10_does_42 : decode cX10_does 42 = .ok (.getfield 7, 3) := by decide +kernel
theorem dX10_does_45 : decode cX10_does 45 = .ok (.iconst 2, 1) := by decide +kernel
theorem dX10_does_46 : decode cX10_does 46 = .ok (.iaload, 1) := by decide +kernel
theorem dX10_does_47 : decode cX10_does 47 = .ok (.ifCond .ne 7, 3) := by decide +kernel
theorem dX10_does_50 : decode cX10_does 50 = .ok (.iconst 1, 1) := by decide +kernel
theorem dX10_does_51 : decode cX10_does 51 = .ok (.goto 4, 3) := by decide +kernel
theorem dX10_does_54 : decode cX10_does 54 = .ok (.iconst 0, 1) := by decide +kernel
theorem dX10_does_55 : decode cX10_does 55 = .ok (.invokevirtual 82, 3) := by decide +kernel
theorem dX10_does_58 : decode cX10_does 58 = .ok (.goto 36, 3) := by decide +kernel
theorem dX10_does_61 : decode cX10_does 61 = .ok (.aload_n 0, 1) := by decide +kernel
theorem dX10_does_62 : decode cX10_does 62 = .ok (.invokevirtual 97, 3) := by decide +kernel
theorem dX10_does_65 : decode cX10_does 65 = .ok (.pop, 1) := by decide +kernel
theorem dX10_does_66 : decode cX10_does 66 = .ok (.goto 28, 3) := by decide +kernel
theorem dX10_does_69 : decode cX10_does 69 = .ok (.aload_n 0, 1) := by decide +kernel
theorem dX10_does_70 : decode cX10_does 70 = .ok (.aload_n 0, 1) := by decide +kernel
theorem dX10_does_71 : decode cX10_does 71 = .ok (.getfield 121, 3) := by decide +kernel
theorem dX10_does_74 : decode cX10_does 74 = .ok (.invokevirtual 94, 3) := by decide +kernel
theorem dX10_does_77 : decode cX10_does 77 = .ok (.pop, 1) := by decide +kernel
theorem dX10_does_78 : decode cX10_does 78 = .ok (.goto 16, 3) := by decide +kernel
theorem dX10_does_81 : decode cX10_does 81 = .ok (.aload_n 0, 1) := by decide +kernel
theorem dX10_does_82 : decode cX10_does 82 = .ok (.iconst 0, 1) := by decide +kernel
theorem dX10_does_83 : decode cX10_does 83 = .ok (.aload_n 0, 1) := by decide +kernel
theorem dX10_does_84 : decode cX10_does 84 = .ok (.getfield 136, 3) := by decide +kernel
theorem dX10_does_87 : decode cX10_does 87 = .ok (.aload_n 0, 1) := by decide +kernel
theorem dX10_does_88 : decode cX10_does 88 = .ok (.getfield 121, 3) := by decide +kernel
theorem dX10_does_91 : decode cX10_does 91 = .ok (.invokevirtual 78, 3) := by decide +kernel
theorem dX10_does_94 : decode cX10_does 94 = .ok (.return_, 1) := by decide +kernel
set_option maxRecDepth 20000 in
theorem ggX10_run_X10_isTripText : GoodIn wsX10_run wsX10_isTripText := goodIn_r _ [7, 1, 2, 8, 9, 10, 6, 11, 12, 13, 14, 15, 16, 17, 18, 19, 20, 21, 22, 23, 24, 25, 26, 27, 28, 29, 30, 31, 32, 33, 34, 108, 109, 110, 111, 112, 113, 114, 115, 116, 117, 118] (by decide +kernel) (by decide +kernel)
set_option maxRecDepth 20000 in
theorem gX10_run_X10_isTripText : GoodIn wsX10_run (wsV RX10 143 RX10 yX10_isTripText wsX10_isTripText) := goodIn_app (goodIn_of _ (by decide +kernel)) ggX10_run_X10_isTripText
set_option maxRecDepth 20000 in
theorem ggX10_run_X10_holds : GoodIn wsX10_run wsX10_holds := goodIn_r _ [38, 39, 108, 109, 110, 111, 112, 113, 114, 115, 116, 117, 118] (by decide +kernel) (by decide +kernel)
set_option maxRecDepth 20000 in
theorem gX10_run_X10_holds : GoodIn wsX10_run (wsV RX10 75 RX10 yX10_holds wsX10_holds) := goodIn_app (goodIn_of _ (by decide +kernel)) ggX10_run_X10_holds
set_option maxRecDepth 20000 in
theorem ggX10_run_X10_save : GoodIn wsX10_run wsX10_save := goodIn_r _ [43, 44, 45, 46, 47, 6, 48, 49, 108, 109, 110, 111, 112, 113, 114, 115, 116, 117, 118] (by decide +kernel) (by decide +kernel)
set_option maxRecDepth 20000 in
theorem gX10_run_X10_save : GoodIn wsX10_run (wsV RX10 64 RX10 yX10_save wsX10_save) := goodIn_app (goodIn_of _ (by decide +kernel)) ggX10_run_X10_save
set_option maxRecDepth 20000 in
theorem ggX10_run_X10_readsPart : GoodIn wsX10_run wsX10_readsPart := goodIn_r _ [11, 12, 13, 14, 15, 16, 17, 18, 6, 19, 1, 2, 20, 21, 22, 23, 24, 25, 26, 27, 28, 29, 30, 31, 32, 33, 34, 108, 109, 110, 111, 112, 113, 114, 115, 116, 117, 118] (by decide +kernel) (by decide +kernel)
set_option maxRecDepth 20000 in
theorem gX10_run_X10_readsPart : GoodIn wsX10_run (wsV RX10 139 RX10 yX10_readsPart wsX10_readsPart) := goodIn_app (goodIn_of _ (by decide +kernel)) ggX10_run_X10_readsPart
set_option maxRecDepth 20000 in
theorem ggX10_run_X10_does : GoodIn wsX10_run wsX10_does := goodIn_r _ [53, 12, 49, 14, 15, 54, 55, 56, 6, 57, 58, 59, 60, 61, 62, 63, 64, 65, 66, 67, 68, 69, 70, 71, 72, 73, 74, 75, 76, 77, 78, 79, 80, 81, 82, 83, 84, 85, 86, 87, 88, 89, 90, 91, 92, 93, 94, 95, 96, 97, 98, 99, 100, 101, 102, 103, 104, 105, 106, 107, 108, 109, 110, 111, 112, 113, 114, 115, 116, 117, 118] (by decide +kernel) (by decide +kernel)
set_option maxRecDepth 20000 in
theorem gX10_run_X10_does : GoodIn wsX10_run (wsV RX10 146 RX10 yX10_does wsX10_does) := goodIn_app (goodIn_of _ (by decide +kernel)) ggX10_run_X10_does
set_option maxRecDepth 20000 in
theorem ggX10_run_X10_takes : GoodIn wsX10_run wsX10_takes := goodIn_r _ [24, 1, 16, 17, 18, 6, 19, 2, 20, 108, 109, 110, 111, 112, 113, 114, 115, 116, 117, 118] (by decide +kernel) (by decide +kernel)
set_option maxRecDepth 20000 in
theorem gX10_run_X10_takes : GoodIn wsX10_run (wsV RX10 130 RX10 yX10_takes wsX10_takes) := goodIn_app (goodIn_of _ (by decide +kernel)) ggX10_run_X10_takes
set_option maxRecDepth 20000 in
theorem ggX10_run_X10_altitudeAt : GoodIn wsX10_run wsX10_altitudeAt := goodIn_r _ [61, 49, 62, 63, 6, 64, 108, 109, 110, 111, 112, 113, 114, 115, 116, 117, 118] (by decide +kernel) (by decide +kernel)
set_option maxRecDepth 20000 in
theorem gX10_run_X10_altitudeAt : GoodIn wsX10_run (wsV RX10 31 RX10 yX10_altitudeAt wsX10_altitudeAt) := goodIn_app (goodIn_of _ (by decide +kernel)) ggX10_run_X10_altitudeAt
theorem dX10_run_0 : decode cX10_run 0 = .ok (.aload_n 0, 1) := by decide +kernel
theorem dX10_run_1 : decode cX10_run 1 = .ok (.aload_n 0, 1) := by decide +kernel
theorem dX10_run_2 : decode cX10_run 2 = .ok (.invokevirtual 143, 3) := by decide +kernel
theorem dX10_run_5 : decode cX10_run 5 = .ok (.ifCond .eq 7, 3) := by decide +kernel
theorem dX10_run_8 : decode cX10_run 8 = .ok (.iconst 0, 1) := by decide +kernel
theorem dX10_run_9 : decode cX10_run 9 = .ok (.goto 4, 3) := by decide +kernel
theorem dX10_run_12 : decode cX10_run 12 = .ok (.iconst 1, 1) := by decide +kernel
theorem dX10_run_13 : decode cX10_run 13 = .ok (.invokevirtual 75, 3) := by decide +kernel
theorem dX10_run_16 : decode cX10_run 16 = .ok (.ifCond .ne 5, 3) := by decide +kernel
theorem dX10_run_19 : decode cX10_run 19 = .ok (.iconst 0, 1) := by decide +kernel
theorem dX10_run_20 : decode cX10_run 20 = .ok (.ireturn, 1) := by decide +kernel
theorem dX10_run_21 : decode cX10_run 21 = .ok (.aload_n 0, 1) := by decide +kernel
theorem dX10_run_22 : decode cX10_run 22 = .ok (.invokevirtual 64, 3) := by decide +kernel
theorem dX10_run_25 : decode cX10_run 25 = .ok (.aload_n 0, 1) := by decide +kernel
theorem dX10_run_26 : decode cX10_run 26 = .ok (.iconst 0, 1) := by decide +kernel
theorem dX10_run_27 : decode cX10_run 27 = .ok (.putfield 115, 3) := by decide +kernel
theorem dX10_run_30 : decode cX10_run 30 = .ok (.aload_n 0, 1) := by decide +kernel
theorem dX10_run_31 : decode cX10_run 31 = .ok (.invokevirtual 139, 3) := by decide +kernel
theorem dX10_run_34 : decode cX10_run 34 = .ok (.ifCond .eq 17, 3) := by decide +kernel
theorem dX10_run_37 : decode cX10_run 37 = .ok (.aload_n 0, 1) := by decide +kernel
theorem dX10_run_38 : decode cX10_run 38 = .ok (.invokevirtual 146, 3) := by decide +kernel
theorem dX10_run_41 : decode cX10_run 41 = .ok (.aload_n 0, 1) := by decide +kernel
theorem dX10_run_42 : decode cX10_run 42 = .ok (.bipush 59, 2) := by decide +kernel
theorem dX10_run_44 : decode cX10_run 44 = .ok (.invokevirtual 130, 3) := by decide +kernel
theorem dX10_run_47 : decode cX10_run 47 = .ok (.pop, 1) := by decide +kernel
theorem dX10_run_48 : decode cX10_run 48 = .ok (.goto (-18), 3) := by decide +kernel
theorem dX10_run_51 : decode cX10_run 51 = .ok (.aload_n 0, 1) := by decide +kernel
theorem dX10_run_52 : decode cX10_run 52 = .ok (.iconst 0, 1) := by decide +kernel
theorem dX10_run_53 : decode cX10_run 53 = .ok (.putfield 112, 3) := by decide +kernel
theorem dX10_run_56 : decode cX10_run 56 = .ok (.aload_n 0, 1) := by decide +kernel
theorem dX10_run_57 : decode cX10_run 57 = .ok (.iconst 0, 1) := by decide +kernel
theorem dX10_run_58 : decode cX10_run 58 = .ok (.invokevirtual 31, 3) := by decide +kernel
theorem dX10_run_61 : decode cX10_run 61 = .ok (.ireturn, 1) := by decide +kernel
set_option maxRecDepth 20000 in
theorem ggX10_undo_X10_holds : GoodIn wsX10_undo wsX10_holds := goodIn_r _ [6, 7, 13, 14, 15, 16, 17, 18, 19, 20, 21, 22, 23] (by decide +kernel) (by decide +kernel)
set_option maxRecDepth 20000 in
theorem gX10_undo_X10_holds : GoodIn wsX10_undo (wsV RX10 75 RX10 yX10_holds wsX10_holds) := goodIn_app (goodIn_of _ (by decide +kernel)) ggX10_undo_X10_holds
set_option maxRecDepth 20000 in
theorem ggX10_undo_X10_copies : GoodIn wsX10_undo wsX10_copies := goodIn_r _ [11, 12, 13, 14, 15, 16, 17, 18, 19, 20, 21, 22, 23] (by decide +kernel) (by decide +kernel)
set_option maxRecDepth 20000 in
theorem gX10_undo_X10_copies : GoodIn wsX10_undo (wsV RX10 61 RX10 yX10_copies wsX10_copies) := goodIn_app (goodIn_of _ (by decide +kernel)) ggX10_undo_X10_copies
theorem dX10_undo_0 : decode cX10_undo 0 = .ok (.aload_n 0, 1) := by decide +kernel
theorem dX10_undo_1 : decode cX10_undo 1 = .ok (.aload_n 0, 1) := by decide +kernel
theorem dX10_undo_2 : decode cX10_undo 2 = .ok (.getfield 58, 3) := by decide +kernel
theorem dX10_undo_5 : decode cX10_undo 5 = .ok (.ifCond .le 7, 3) := by decide +kernel
theorem dX10_undo_8 : decode cX10_undo 8 = .ok (.iconst 0, 1) := by decide +kernel
theorem dX10_undo_9 : decode cX10_undo 9 = .ok (.goto 4, 3) := by decide +kernel
theorem dX10_undo_12 : decode cX10_undo 12 = .ok (.iconst 1, 1) := by decide +kernel
theorem dX10_undo_13 : decode cX10_undo 13 = .ok (.invokevirtual 75, 3) := by decide +kernel
theorem dX10_undo_16 : decode cX10_undo 16 = .ok (.ifCond .ne 5, 3) := by decide +kernel
theorem dX10_undo_19 : decode cX10_undo 19 = .ok (.iconst 0, 1) := by decide +kernel
theorem dX10_undo_20 : decode cX10_undo 20 = .ok (.ireturn, 1) := by decide +kernel
theorem dX10_undo_21 : decode cX10_undo 21 = .ok (.aload_n 0, 1) := by decide +kernel
theorem dX10_undo_22 : decode cX10_undo 22 = .ok (.aload_n 0, 1) := by decide +kernel
theorem dX10_undo_23 : decode cX10_undo 23 = .ok (.getfield 58, 3) := by decide +kernel
theorem dX10_undo_26 : decode cX10_undo 26 = .ok (.iconst 0, 1) := by decide +kernel
theorem dX10_undo_27 : decode cX10_undo 27 = .ok (.invokevirtual 61, 3) := by decide +kernel
theorem dX10_undo_30 : decode cX10_undo 30 = .ok (.aload_n 0, 1) := by decide +kernel
theorem dX10_undo_31 : decode cX10_undo 31 = .ok (.dup, 1) := by decide +kernel
theorem dX10_undo_32 : decode cX10_undo 32 = .ok (.getfield 58, 3) := by decide +kernel
theorem dX10_undo_35 : decode cX10_undo 35 = .ok (.iconst 1, 1) := by decide +kernel
theorem dX10_undo_36 : decode cX10_undo 36 = .ok (.isub, 1) := by decide +kernel
theorem dX10_undo_37 : decode cX10_undo 37 = .ok (.putfield 58, 3) := by decide +kernel
theorem dX10_undo_40 : decode cX10_undo 40 = .ok (.aload_n 0, 1) := by decide +kernel
theorem dX10_undo_41 : decode cX10_undo 41 = .ok (.getfield 58, 3) := by decide +kernel
theorem dX10_undo_44 : decode cX10_undo 44 = .ok (.ireturn, 1) := by decide +kernel
set_option maxRecDepth 20000 in
theorem ggX10_savedStates_X10_told : GoodIn wsX10_savedStates wsX10_told := goodIn_r _ [6, 7, 8, 9, 10, 11, 12, 13, 14, 15, 16, 17, 18] (by decide +kernel) (by decide +kernel)
set_option maxRecDepth 20000 in
theorem gX10_savedStates_X10_told : GoodIn wsX10_savedStates (wsV RX10 86 RX10 yX10_told wsX10_told) := goodIn_app (goodIn_of _ (by decide +kernel)) ggX10_savedStates_X10_told
theorem dX10_savedStates_0 : decode cX10_savedStates 0 = .ok (.aload_n 0, 1) := by decide +kernel
theorem dX10_savedStates_1 : decode cX10_savedStates 1 = .ok (.aload_n 0, 1) := by decide +kernel
theorem dX10_savedStates_2 : decode cX10_savedStates 2 = .ok (.getfield 58, 3) := by decide +kernel
theorem dX10_savedStates_5 : decode cX10_savedStates 5 = .ok (.invokevirtual 86, 3) := by decide +kernel
theorem dX10_savedStates_8 : decode cX10_savedStates 8 = .ok (.ireturn, 1) := by decide +kernel
set_option maxRecDepth 20000 in
theorem ggX10_store_X10_in : GoodIn wsX10_store wsX10_in := goodIn_r _ [5] (by decide +kernel) (by decide +kernel)
set_option maxRecDepth 20000 in
theorem gX10_store_X10_in : GoodIn wsX10_store (va_wsS RX10 67 yX10_in wsX10_in) := goodIn_app (goodIn_of _ (by decide +kernel)) ggX10_store_X10_in
set_option maxRecDepth 20000 in
theorem ggX10_store_X10_holds : GoodIn wsX10_store wsX10_holds := goodIn_r _ [9, 10, 23, 24, 25, 26, 27, 28, 29, 30, 31, 32, 33] (by decide +kernel) (by decide +kernel)
set_option maxRecDepth 20000 in
theorem gX10_store_X10_holds : GoodIn wsX10_store (wsV RX10 75 RX10 yX10_holds wsX10_holds) := goodIn_app (goodIn_of _ (by decide +kernel)) ggX10_store_X10_holds
set_option maxRecDepth 20000 in
theorem ggX10_store_X10_copies : GoodIn wsX10_store wsX10_copies := goodIn_r _ [14, 15, 23, 24, 25, 26, 27, 28, 29, 30, 31, 32, 33] (by decide +kernel) (by decide +kernel)
set_option maxRecDepth 20000 in
theorem gX10_store_X10_copies : GoodIn wsX10_store (wsV RX10 61 RX10 yX10_copies wsX10_copies) := goodIn_app (goodIn_of _ (by decide +kernel)) ggX10_store_X10_copies
set_option maxRecDepth 20000 in
theorem ggX10_store_X10_altitudeAt : GoodIn wsX10_store wsX10_altitudeAt := goodIn_r _ [19, 15, 20, 21, 4, 22, 23, 24, 25, 26, 27, 28, 29, 30, 31, 32, 33] (by decide +kernel) (by decide +kernel)
set_option maxRecDepth 20000 in
theorem gX10_store_X10_altitudeAt : GoodIn wsX10_store (wsV RX10 31 RX10 yX10_altitudeAt wsX10_altitudeAt) := goodIn_app (goodIn_of _ (by decide +kernel)) ggX10_store_X10_altitudeAt
theorem dX10_store_0 : decode cX10_store 0 = .ok (.aload_n 0, 1) := by decide +kernel
theorem dX10_store_1 : decode cX10_store 1 = .ok (.iload_n 1, 1) := by decide +kernel
theorem dX10_store_2 : decode cX10_store 2 = .ok (.iconst 0, 1) := by decide +kernel
theorem dX10_store_3 : decode cX10_store 3 = .ok (.iconst 1, 1) := by decide +kernel
theorem dX10_store_4 : decode cX10_store 4 = .ok (.invokestatic 67, 3) := by decide +kernel
theorem dX10_store_7 : decode cX10_store 7 = .ok (.ifCond .eq 7, 3) := by decide +kernel
theorem dX10_store_10 : decode cX10_store 10 = .ok (.iconst 0, 1) := by decide +kernel
theorem dX10_store_11 : decode cX10_store 11 = .ok (.goto 4, 3) := by decide +kernel
theorem dX10_store_14 : decode cX10_store 14 = .ok (.iconst 1, 1) := by decide +kernel
theorem dX10_store_15 : decode cX10_store 15 = .ok (.invokevirtual 75, 3) := by decide +kernel
theorem dX10_store_18 : decode cX10_store 18 = .ok (.ifCond .ne 5, 3) := by decide +kernel
theorem dX10_store_21 : decode cX10_store 21 = .ok (.iconst 0, 1) := by decide +kernel
theorem dX10_store_22 : decode cX10_store 22 = .ok (.ireturn, 1) := by decide +kernel
theorem dX10_store_23 : decode cX10_store 23 = .ok (.aload_n 0, 1) := by decide +kernel
theorem dX10_store_24 : decode cX10_store 24 = .ok (.iconst 0, 1) := by decide +kernel
theorem dX10_store_25 : decode cX10_store 25 = .ok (.bipush 7, 2) := by decide +kernel
theorem dX10_store_27 : decode cX10_store 27 = .ok (.iload_n 1, 1) := by decide +kernel
theorem dX10_store_28 : decode cX10_store 28 = .ok (.iadd, 1) := by decide +kernel
theorem dX10_store_29 : decode cX10_store 29 = .ok (.invokevirtual 61, 3) := by decide +kernel
theorem dX10_store_32 : decode cX10_store 32 = .ok (.aload_n 0, 1) := by decide +kernel
theorem dX10_store_33 : decode cX10_store 33 = .ok (.getfield 13, 3) := by decide +kernel
theorem dX10_store_36 : decode cX10_store 36 = .ok (.iload_n 1, 1) := by decide +kernel
theorem dX10_store_37 : decode cX10_store 37 = .ok (.iconst 1, 1) := by decide +kernel
theorem dX10_store_38 : decode cX10_store 38 = .ok (.bastore, 1) := by decide +kernel
theorem dX10_store_39 : decode cX10_store 39 = .ok (.aload_n 0, 1) := by decide +kernel
theorem dX10_store_40 : decode cX10_store 40 = .ok (.iconst 0, 1) := by decide +kernel
theorem dX10_store_41 : decode cX10_store 41 = .ok (.invokevirtual 31, 3) := by decide +kernel
theorem dX10_store_44 : decode cX10_store 44 = .ok (.ireturn, 1) := by decide +kernel
set_option maxRecDepth 20000 in
theorem ggX10_recall_X10_in : GoodIn wsX10_recall wsX10_in := goodIn_r _ [5] (by decide +kernel) (by decide +kernel)
set_option maxRecDepth 20000 in
theorem gX10_recall_X10_in : GoodIn wsX10_recall (va_wsS RX10 67 yX10_in wsX10_in) := goodIn_app (goodIn_of _ (by decide +kernel)) ggX10_recall_X10_in
set_option maxRecDepth 20000 in
theorem ggX10_recall_X10_holds : GoodIn wsX10_recall wsX10_holds := goodIn_r _ [9, 10, 28, 29, 30, 31, 32, 33, 34, 35, 36, 37, 38] (by decide +kernel) (by decide +kernel)
set_option maxRecDepth 20000 in
theorem gX10_recall_X10_holds : GoodIn wsX10_recall (wsV RX10 75 RX10 yX10_holds wsX10_holds) := goodIn_app (goodIn_of _ (by decide +kernel)) ggX10_recall_X10_holds
set_option maxRecDepth 20000 in
theorem ggX10_recall_X10_save : GoodIn wsX10_recall wsX10_save := goodIn_r _ [14, 15, 16, 17, 18, 4, 19, 20, 28, 29, 30, 31, 32, 33, 34, 35, 36, 37, 38] (by decide +kernel) (by decide +kernel)
set_option maxRecDepth 20000 in
theorem gX10_recall_X10_save : GoodIn wsX10_recall (wsV RX10 64 RX10 yX10_save wsX10_save) := goodIn_app (goodIn_of _ (by decide +kernel)) ggX10_recall_X10_save
set_option maxRecDepth 20000 in
theorem ggX10_recall_X10_copies : GoodIn wsX10_recall wsX10_copies := goodIn_r _ [19, 20, 28, 29, 30, 31, 32, 33, 34, 35, 36, 37, 38] (by decide +kernel) (by decide +kernel)
set_option maxRecDepth 20000 in
theorem gX10_recall_X10_copies : GoodIn wsX10_recall (wsV RX10 61 RX10 yX10_copies wsX10_copies) := goodIn_app (goodIn_of _ (by decide +kernel)) ggX10_recall_X10_copies
set_option maxRecDepth 20000 in
theorem ggX10_recall_X10_altitudeAt : GoodIn wsX10_recall wsX10_altitudeAt := goodIn_r _ [24, 20, 25, 26, 4, 27, 28, 29, 30, 31, 32, 33, 34, 35, 36, 37, 38] (by decide +kernel) (by decide +kernel)
set_option maxRecDepth 20000 in
theorem gX10_recall_X10_altitudeAt : GoodIn wsX10_recall (wsV RX10 31 RX10 yX10_altitudeAt wsX10_altitudeAt) := goodIn_app (goodIn_of _ (by decide +kernel)) ggX10_recall_X10_altitudeAt
theorem dX10_recall_0 : decode cX10_recall 0 = .ok (.aload_n 0, 1) := by decide +kernel
theorem dX10_recall_1 : decode cX10_recall 1 = .ok (.iload_n 1, 1) := by decide +kernel
theorem dX10_recall_2 : decode cX10_recall 2 = .ok (.iconst 0, 1) := by decide +kernel
theorem dX10_recall_3 : decode cX10_recall 3 = .ok (.iconst 1, 1) := by decide +kernel
theorem dX10_recall_4 : decode cX10_recall 4 = .ok (.invokestatic 67, 3) := by decide +kernel
theorem dX10_recall_7 : decode cX10_recall 7 = .ok (.ifCond .ne 7, 3) := by decide +kernel
theorem dX10_recall_10 : decode cX10_recall 10 = .ok (.iconst 1, 1) := by decide +kernel
theorem dX10_recall_11 : decode cX10_recall 11 = .ok (.goto 17, 3) := by decide +kernel
theorem dX10_recall_14 : decode cX10_recall 14 = .ok (.aload_n 0, 1) := by decide +kernel
theorem dX10_recall_15 : decode cX10_recall 15 = .ok (.getfield 13, 3) := by decide +kernel
theorem dX10_recall_18 : decode cX10_recall 18 = .ok (.iload_n 1, 1) := by decide +kernel
theorem dX10_recall_19 : decode cX10_recall 19 = .ok (.baload, 1) := by decide +kernel
theorem dX10_recall_20 : decode cX10_recall 20 = .ok (.ifCond .ne 7, 3) := by decide +kernel
theorem dX10_recall_23 : decode cX10_recall 23 = .ok (.iconst 2, 1) := by decide +kernel
theorem dX10_recall_24 : decode cX10_recall 24 = .ok (.goto 4, 3) := by decide +kernel
theorem dX10_recall_27 : decode cX10_recall 27 = .ok (.iconst 0, 1) := by decide +kernel
theorem dX10_recall_28 : decode cX10_recall 28 = .ok (.invokevirtual 75, 3) := by decide +kernel
theorem dX10_recall_31 : decode cX10_recall 31 = .ok (.ifCond .ne 5, 3) := by decide +kernel
theorem dX10_recall_34 : decode cX10_recall 34 = .ok (.iconst 0, 1) := by decide +kernel
theorem dX10_recall_35 : decode cX10_recall 35 = .ok (.ireturn, 1) := by decide +kernel
theorem dX10_recall_36 : decode cX10_recall 36 = .ok (.aload_n 0, 1) := by decide +kernel
theorem dX10_recall_37 : decode cX10_recall 37 = .ok (.invokevirtual 64, 3) := by decide +kernel
theorem dX10_recall_40 : decode cX10_recall 40 = .ok (.aload_n 0, 1) := by decide +kernel
theorem dX10_recall_41 : decode cX10_recall 41 = .ok (.bipush 7, 2) := by decide +kernel
theorem dX10_recall_43 : decode cX10_recall 43 = .ok (.iload_n 1, 1) := by decide +kernel
theorem dX10_recall_44 : decode cX10_recall 44 = .ok (.iadd, 1) := by decide +kernel
theorem dX10_recall_45 : decode cX10_recall 45 = .ok (.iconst 0, 1) := by decide +kernel
theorem dX10_recall_46 : decode cX10_recall 46 = .ok (.invokevirtual 61, 3) := by decide +kernel
theorem dX10_recall_49 : decode cX10_recall 49 = .ok (.aload_n 0, 1) := by decide +kernel
theorem dX10_recall_50 : decode cX10_recall 50 = .ok (.iconst 0, 1) := by decide +kernel
theorem dX10_recall_51 : decode cX10_recall 51 = .ok (.invokevirtual 31, 3) := by decide +kernel
theorem dX10_recall_54 : decode cX10_recall 54 = .ok (.ireturn, 1) := by decide +kernel
theorem dX10_mix_0 : decode cX10_mix 0 = .ok (.aload_n 0, 1) := by decide +kernel
theorem dX10_mix_1 : decode cX10_mix 1 = .ok (.ldc2_w 149, 3) := by decide +kernel
theorem dX10_mix_4 : decode cX10_mix 4 = .ok (.aload_n 0, 1) := by decide +kernel
theorem dX10_mix_5 : decode cX10_mix 5 = .ok (.getfield 151, 3) := by decide +kernel
theorem dX10_mix_8 : decode cX10_mix 8 = .ok (.lmul, 1) := by decide +kernel
theorem dX10_mix_9 : decode cX10_mix 9 = .ok (.lload_n 1, 1) := by decide +kernel
theorem dX10_mix_10 : decode cX10_mix 10 = .ok (.ladd, 1) := by decide +kernel
theorem dX10_mix_11 : decode cX10_mix 11 = .ok (.putfield 151, 3) := by decide +kernel
theorem dX10_mix_14 : decode cX10_mix 14 = .ok (.return_, 1) := by decide +kernel
set_option maxRecDepth 20000 in
theorem ggX10_digest_X10_mix : GoodIn wsX10_digest wsX10_mix := goodIn_r _ [9, 10, 3, 42, 43, 44, 45, 46, 47, 48, 49, 50, 51, 52] (by decide +kernel) (by decide +kernel)
set_option maxRecDepth 20000 in
theorem gX10_digest_X10_mix : GoodIn wsX10_digest (wsV RX10 157 RX10 yX10_mix wsX10_mix) := goodIn_app (goodIn_of _ (by decide +kernel)) ggX10_digest_X10_mix
set_option maxRecDepth 20000 in
theorem ggX10_digest_X10_altitudeAt : GoodIn wsX10_digest wsX10_altitudeAt := goodIn_r _ [14, 4, 15, 16, 8, 17, 42, 43, 44, 45, 46, 47, 48, 49, 50, 51, 52] (by decide +kernel) (by decide +kernel)
set_option maxRecDepth 20000 in
theorem gX10_digest_X10_altitudeAt : GoodIn wsX10_digest (wsV RX10 31 RX10 yX10_altitudeAt wsX10_altitudeAt) := goodIn_app (goodIn_of _ (by decide +kernel)) ggX10_digest_X10_altitudeAt
set_option maxRecDepth 20000 in
theorem ggX10_digest_X10_fallOf : GoodIn wsX10_digest wsX10_fallOf := goodIn_r _ [21, 4, 42, 43, 44, 45, 46, 47, 48, 49, 50, 51, 52] (by decide +kernel) (by decide +kernel)
set_option maxRecDepth 20000 in
theorem gX10_digest_X10_fallOf : GoodIn wsX10_digest (wsV RX10 34 RX10 yX10_fallOf wsX10_fallOf) := goodIn_app (goodIn_of _ (by decide +kernel)) ggX10_digest_X10_fallOf
set_option maxRecDepth 20000 in
theorem ggX10_digest_X10_hasAlarm : GoodIn wsX10_digest wsX10_hasAlarm := goodIn_r _ [25, 4, 18, 19, 20, 8, 21, 42, 43, 44, 45, 46, 47, 48, 49, 50, 51, 52] (by decide +kernel) (by decide +kernel)
set_option maxRecDepth 20000 in
theorem gX10_digest_X10_hasAlarm : GoodIn wsX10_digest (wsV RX10 48 RX10 yX10_hasAlarm wsX10_hasAlarm) := goodIn_app (goodIn_of _ (by decide +kernel)) ggX10_digest_X10_hasAlarm
set_option maxRecDepth 20000 in
theorem ggX10_digest_X10_pressureFor : GoodIn wsX10_digest wsX10_pressureFor := goodIn_r _ [29, 4, 15, 16, 8, 17, 42, 43, 44, 45, 46, 47, 48, 49, 50, 51, 52] (by decide +kernel) (by decide +kernel)
set_option maxRecDepth 20000 in
theorem gX10_digest_X10_pressureFor : GoodIn wsX10_digest (wsV RX10 104 RX10 yX10_pressureFor wsX10_pressureFor) := goodIn_app (goodIn_of _ (by decide +kernel)) ggX10_digest_X10_pressureFor
set_option maxRecDepth 20000 in
theorem ggX10_digest_X10_untilAlarm : GoodIn wsX10_digest wsX10_untilAlarm := goodIn_r _ [33, 4, 34, 35, 36, 8, 37, 22, 23, 24, 25, 18, 19, 20, 21, 38, 39, 40, 41, 42, 43, 44, 45, 46, 47, 48, 49, 50, 51, 52] (by decide +kernel) (by decide +kernel)
set_option maxRecDepth 20000 in
theorem gX10_digest_X10_untilAlarm : GoodIn wsX10_digest (wsV RX10 107 RX10 yX10_untilAlarm wsX10_untilAlarm) := goodIn_app (goodIn_of _ (by decide +kernel)) ggX10_digest_X10_untilAlarm
theorem dX10_digest_0 : decode cX10_digest 0 = .ok (.aload_n 0, 1) := by decide +kernel
theorem dX10_digest_1 : decode cX10_digest 1 = .ok (.iconst 0, 1) := by decide +kernel
theorem dX10_digest_2 : decode cX10_digest 2 = .ok (.putfield 20, 3) := by decide +kernel
theorem dX10_digest_5 : decode cX10_digest 5 = .ok (.aload_n 0, 1) := by decide +kernel
theorem dX10_digest_6 : decode cX10_digest 6 = .ok (.ldc2_w 155, 3) := by decide +kernel
theorem dX10_digest_9 : decode cX10_digest 9 = .ok (.putfield 151, 3) := by decide +kernel
theorem dX10_digest_12 : decode cX10_digest 12 = .ok (.aload_n 0, 1) := by decide +kernel
theorem dX10_digest_13 : decode cX10_digest 13 = .ok (.aload_n 0, 1) := by decide +kernel
theorem dX10_digest_14 : decode cX10_digest 14 = .ok (.getfield 7, 3) := by decide +kernel
theorem dX10_digest_17 : decode cX10_digest 17 = .ok (.iconst 2, 1) := by decide +kernel
theorem dX10_digest_18 : decode cX10_digest 18 = .ok (.iaload, 1) := by decide +kernel
theorem dX10_digest_19 : decode cX10_digest 19 = .ok (.i2l, 1) := by decide +kernel
theorem dX10_digest_20 : decode cX10_digest 20 = .ok (.invokevirtual 157, 3) := by decide +kernel
theorem dX10_digest_23 : decode cX10_digest 23 = .ok (.aload_n 0, 1) := by decide +kernel
theorem dX10_digest_24 : decode cX10_digest 24 = .ok (.aload_n 0, 1) := by decide +kernel
theorem dX10_digest_25 : decode cX10_digest 25 = .ok (.getfield 7, 3) := by decide +kernel
theorem dX10_digest_28 : decode cX10_digest 28 = .ok (.iconst 0, 1) := by decide +kernel
theorem dX10_digest_29 : decode cX10_digest 29 = .ok (.iaload, 1) := by decide +kernel
theorem dX10_digest_30 : decode cX10_digest 30 = .ok (.i2l, 1) := by decide +kernel
theorem dX10_digest_31 : decode cX10_digest 31 = .ok (.invokevirtual 157, 3) := by decide +kernel
theorem dX10_digest_34 : decode cX10_digest 34 = .ok (.aload_n 0, 1) := by decide +kernel
theorem dX10_digest_35 : decode cX10_digest 35 = .ok (.aload_n 0, 1) := by decide +kernel
theorem dX10_digest_36 : decode cX10_digest 36 = .ok (.iconst 0, 1) := by decide +kernel
theorem dX10_digest_37 : decode cX10_digest 37 = .ok (.invokevirtual 31, 3) := by decide +kernel
theorem dX10_digest_40 : decode cX10_digest 40 = .ok (.i2l, 1) := by decide +kernel
theorem dX10_digest_41 : decode cX10_digest 41 = .ok (.invokevirtual 157, 3) := by decide +kernel
theorem dX10_digest_44 : decode cX10_digest 44 = .ok (.aload_n 0, 1) := by decide +kernel
theorem dX10_digest_45 : decode cX10_digest 45 = .ok (.aload_n 0, 1) := by decide +kernel
theorem dX10_digest_46 : decode cX10_digest 46 = .ok (.getfield 7, 3) := by decide +kernel
theorem dX10_digest_49 : decode cX10_digest 49 = .ok (.iconst 4, 1) := by decide +kernel
theorem dX10_digest_50 : decode cX10_digest 50 = .ok (.iaload, 1) := by decide +kernel
theorem dX10_digest_51 : decode cX10_digest 51 = .ok (.i2l, 1) := by decide +kernel
theorem dX10_digest_52 : decode cX10_digest 52 = .ok (.invokevirtual 157, 3) := by decide +kernel
theorem dX10_digest_55 : decode cX10_digest 55 = .ok (.aload_n 0, 1) := by decide +kernel
theorem dX10_digest_56 : decode cX10_digest 56 = .ok (.aload_n 0, 1) := by decide +kernel
theorem dX10_digest_57 : decode cX10_digest 57 = .ok (.getfield 7, 3) := by decide +kernel
theorem dX10_digest_60 : decode cX10_digest 60 = .ok (.iconst 1, 1) := by decide +kernel
theorem dX10_digest_61 : decode cX10_digest 61 = .ok (.iaload, 1) := by decide +kernel
theorem dX10_digest_62 : decode cX10_digest 62 = .ok (.i2l, 1) := by decide +kernel
theorem dX10_digest_63 : decode cX10_digest 63 = .ok (.invokevirtual 157, 3) := by decide +kernel
theorem dX10_digest_66 : decode cX10_digest 66 = .ok (.aload_n 0, 1) := by decide +kernel
theorem dX10_digest_67 : decode cX10_digest 67 = .ok (.aload_n 0, 1) := by decide +kernel
theorem dX10_digest_68 : decode cX10_digest 68 = .ok (.getfield 7, 3) := by decide +kernel
theorem dX10_digest_71 : decode cX10_digest 71 = .ok (.iconst 5, 1) := by decide +kernel
theorem dX10_digest_72 : decode cX10_digest 72 = .ok (.iaload, 1) := by decide +kernel
theorem dX10_digest_73 : decode cX10_digest 73 = .ok (.i2l, 1) := by decide +kernel
theorem dX10_digest_74 : decode cX10_digest 74 = .ok (.invokevirtual 157, 3) := by decide +kernel
theorem dX10_digest_77 : decode cX10_digest 77 = .ok (.aload_n 0, 1) := by decide +kernel
theorem dX10_digest_78 : decode cX10_digest 78 = .ok (.aload_n 0, 1) := by decide +kernel
theorem dX10_digest_79 : decode cX10_digest 79 = .ok (.getfield 7, 3) := by decide +kernel
theorem dX10_digest_82 : decode cX10_digest 82 = .ok (.bipush 6, 2) := by decide +kernel
theorem dX10_digest_84 : decode cX10_digest 84 = .ok (.iaload, 1) := by decide +kernel
theorem dX10_digest_85 : decode cX10_digest 85 = .ok (.i2l, 1) := by decide +kernel
theorem dX10_digest_86 : decode cX10_digest 86 = .ok (.invokevirtual 157, 3) := by decide +kernel
theorem dX10_digest_89 : decode cX10_digest 89 = .ok (.aload_n 0, 1) := by decide +kernel
theorem dX10_digest_90 : decode cX10_digest 90 = .ok (.aload_n 0, 1) := by decide +kernel
theorem dX10_digest_91 : decode cX10_digest 91 = .ok (.getfield 7, 3) := by decide +kernel
theorem dX10_digest_94 : decode cX10_digest 94 = .ok (.bipush 7, 2) := by decide +kernel
theorem dX10_digest_96 : decode cX10_digest 96 = .ok (.iaload, 1) := by decide +kernel
theorem dX10_digest_97 : decode cX10_digest 97 = .ok (.i2l, 1) := by decide +kernel
theorem dX10_digest_98 : decode cX10_digest 98 = .ok (.invokevirtual 157, 3) := by decide +kernel
theorem dX10_digest_101 : decode cX10_digest 101 = .ok (.aload_n 0, 1) := by decide +kernel
theorem dX10_digest_102 : decode cX10_digest 102 = .ok (.aload_n 0, 1) := by decide +kernel
theorem dX10_digest_103 : decode cX10_digest 103 = .ok (.getfield 7, 3) := by decide +kernel
theorem dX10_digest_106 : decode cX10_digest 106 = .ok (.bipush 8, 2) := by decide +kernel
theorem dX10_digest_108 : decode cX10_digest 108 = .ok (.iaload, 1) := by decide +kernel
theorem dX10_digest_109 : decode cX10_digest 109 = .ok (.i2l, 1) := by decide +kernel
theorem dX10_digest_110 : decode cX10_digest 110 = .ok (.invokevirtual 157, 3) := by decide +kernel
theorem dX10_digest_113 : decode cX10_digest 113 = .ok (.aload_n 0, 1) := by decide +kernel
theorem dX10_digest_114 : decode cX10_digest 114 = .ok (.aload_n 0, 1) := by decide +kernel
theorem dX10_digest_115 : decode cX10_digest 115 = .ok (.getfield 7, 3) := by decide +kernel
theorem dX10_digest_118 : decode cX10_digest 118 = .ok (.bipush 9, 2) := by decide +kernel
theorem dX10_digest_120 : decode cX10_digest 120 = .ok (.iaload, 1) := by decide +kernel
theorem dX10_digest_121 : decode cX10_digest 121 = .ok (.i2l, 1) := by decide +kernel
theorem dX10_digest_122 : decode cX10_digest 122 = .ok (.invokevirtual 157, 3) := by decide +kernel
theorem dX10_digest_125 : decode cX10_digest 125 = .ok (.aload_n 0, 1) := by decide +kernel
theorem dX10_digest_126 : decode cX10_digest 126 = .ok (.aload_n 0, 1) := by decide +kernel
theorem dX10_digest_127 : decode cX10_digest 127 = .ok (.getfield 7, 3) := by decide +kernel
theorem dX10_digest_130 : decode cX10_digest 130 = .ok (.bipush 14, 2) := by decide +kernel
theorem dX10_digest_132 : decode cX10_digest 132 = .ok (.iaload, 1) := by decide +kernel
theorem dX10_digest_133 : decode cX10_digest 133 = .ok (.i2l, 1) := by decide +kernel
theorem dX10_digest_134 : decode cX10_digest 134 = .ok (.invokevirtual 157, 3) := by decide +kernel
theorem dX10_digest_137 : decode cX10_digest 137 = .ok (.aload_n 0, 1) := by decide +kernel
theorem dX10_digest_138 : decode cX10_digest 138 = .ok (.aload_n 0, 1) := by decide +kernel
theorem dX10_digest_139 : decode cX10_digest 139 = .ok (.iconst 0, 1) := by decide +kernel
theorem dX10_digest_140 : decode cX10_digest 140 = .ok (.invokevirtual 34, 3) := by decide +kernel
theorem dX10_digest_143 : decode cX10_digest 143 = .ok (.i2l, 1) := by decide +kernel
theorem dX10_digest_144 : decode cX10_digest 144 = .ok (.invokevirtual 157, 3) := by decide +kernel
theorem dX10_digest_147 : decode cX10_digest 147 = .ok (.aload_n 0, 1) := by decide +kernel
theorem dX10_digest_148 : decode cX10_digest 148 = .ok (.aload_n 0, 1) := by decide +kernel
theorem dX10_digest_149 : decode cX10_digest 149 = .ok (.getfield 7, 3) := by decide +kernel
theorem dX10_digest_152 : decode cX10_digest 152 = .ok (.bipush 12, 2) := by decide +kernel
theorem dX10_digest_154 : decode cX10_digest 154 = .ok (.iaload, 1) := by decide +kernel
theorem dX10_digest_155 : decode cX10_digest 155 = .ok (.i2l, 1) := by decide +kernel
theorem dX10_digest_156 : decode cX10_digest 156 = .ok (.invokevirtual 157, 3) := by decide +kernel
theorem dX10_digest_159 : decode cX10_digest 159 = .ok (.aload_n 0, 1) := by decide +kernel
theorem dX10_digest_160 : decode cX10_digest 160 = .ok (.aload_n 0, 1) := by decide +kernel
theorem dX10_digest_161 : decode cX10_digest 161 = .ok (.iconst 0, 1) := by decide +kernel
theorem dX10_digest_162 : decode cX10_digest 162 = .ok (.invokevirtual 48, 3) := by decide +kernel
theorem dX10_digest_165 : decode cX10_digest 165 = .ok (.ifCond .eq 7, 3) := by decide +kernel
theorem dX10_digest_168 : decode cX10_digest 168 = .ok (.lconst 1, 1) := by decide +kernel
theorem dX10_digest_169 : decode cX10_digest 169 = .ok (.goto 4, 3) := by decide +kernel
theorem dX10_digest_172 : decode cX10_digest 172 = .ok (.lconst 0, 1) := by decide +kernel
theorem dX10_digest_173 : decode cX10_digest 173 = .ok (.invokevirtual 157, 3) := by decide +kernel
theorem dX10_digest_176 : decode cX10_digest 176 = .ok (.aload_n 0, 1) := by decide +kernel
theorem dX10_digest_177 : decode cX10_digest 177 = .ok (.aload_n 0, 1) := by decide +kernel
theorem dX10_digest_178 : decode cX10_digest 178 = .ok (.getfield 7, 3) := by decide +kernel
theorem dX10_digest_181 : decode cX10_digest 181 = .ok (.bipush 75, 2) := by decide +kernel
theorem dX10_digest_183 : decode cX10_digest 183 = .ok (.iaload, 1) := by decide +kernel
theorem dX10_digest_184 : decode cX10_digest 184 = .ok (.i2l, 1) := by decide +kernel
theorem dX10_digest_185 : decode cX10_digest 185 = .ok (.invokevirtual 157, 3) := by decide +kernel
theorem dX10_digest_188 : decode cX10_digest 188 = .ok (.iconst 0, 1) := by decide +kernel
theorem dX10_digest_189 : decode cX10_digest 189 = .ok (.istore_n 1, 1) := by decide +kernel
theorem dX10_digest_190 : decode cX10_digest 190 = .ok (.iload_n 1, 1) := by decide +kernel
theorem dX10_digest_191 : decode cX10_digest 191 = .ok (.aload_n 0, 1) := by decide +kernel
theorem dX10_digest_192 : decode cX10_digest 192 = .ok (.getfield 7, 3) := by decide +kernel
theorem dX10_digest_195 : decode cX10_digest 195 = .ok (.bipush 75, 2) := by decide +kernel
theorem dX10_digest_197 : decode cX10_digest 197 = .ok (.iaload, 1) := by decide +kernel
theorem dX10_digest_198 : decode cX10_digest 198 = .ok (.if_icmp .ge 69, 3) := by decide +kernel
theorem dX10_digest_201 : decode cX10_digest 201 = .ok (.aload_n 0, 1) := by decide +kernel
theorem dX10_digest_202 : decode cX10_digest 202 = .ok (.aload_n 0, 1) := by decide +kernel
theorem dX10_digest_203 : decode cX10_digest 203 = .ok (.getfield 7, 3) := by decide +kernel
theorem dX10_digest_206 : decode cX10_digest 206 = .ok (.bipush 76, 2) := by decide +kernel
theorem dX10_digest_208 : decode cX10_digest 208 = .ok (.iconst 4, 1) := by decide +kernel
theorem dX10_digest_209 : decode cX10_digest 209 = .ok (.iload_n 1, 1) := by decide +kernel
theorem dX10_digest_210 : decode cX10_digest 210 = .ok (.imul, 1) := by decide +kernel
theorem dX10_digest_211 : decode cX10_digest 211 = .ok (.iadd, 1) := by decide +kernel
theorem dX10_digest_212 : decode cX10_digest 212 = .ok (.iaload, 1) := by decide +kernel
theorem dX10_digest_213 : decode cX10_digest 213 = .ok (.i2l, 1) := by decide +kernel
theorem dX10_digest_214 : decode cX10_digest 214 = .ok (.invokevirtual 157, 3) := by decide +kernel
theorem dX10_digest_217 : decode cX10_digest 217 = .ok (.aload_n 0, 1) := by decide +kernel
theorem dX10_digest_218 : decode cX10_digest 218 = .ok (.aload_n 0, 1) := by decide +kernel
theorem dX10_digest_219 : decode cX10_digest 219 = .ok (.getfield 7, 3) := by decide +kernel
theorem dX10_digest_222 : decode cX10_digest 222 = .ok (.bipush 76, 2) := by decide +kernel
theorem dX10_digest_224 : decode cX10_digest 224 = .ok (.iconst 4, 1) := by decide +kernel
theorem dX10_digest_225 : decode cX10_digest 225 = .ok (.iload_n 1, 1) := by decide +kernel
theorem dX10_digest_226 : decode cX10_digest 226 = .ok (.imul, 1) := by decide +kernel
theorem dX10_digest_227 : decode cX10_digest 227 = .ok (.iadd, 1) := by decide +kernel
theorem dX10_digest_228 : decode cX10_digest 228 = .ok (.iconst 1, 1) := by decide +kernel
theorem dX10_digest_229 : decode cX10_digest 229 = .ok (.iadd, 1) := by decide +kernel
theorem dX10_digest_230 : decode cX10_digest 230 = .ok (.iaload, 1) := by decide +kernel
theorem dX10_digest_231 : decode cX10_digest 231 = .ok (.i2l, 1) := by decide +kernel
theorem dX10_digest_232 : decode cX10_digest 232 = .ok (.invokevirtual 157, 3) := by decide +kernel
theorem dX10_digest_235 : decode cX10_digest 235 = .ok (.aload_n 0, 1) := by decide +kernel
theorem dX10_digest_236 : decode cX10_digest 236 = .ok (.aload_n 0, 1) := by decide +kernel
theorem dX10_digest_237 : decode cX10_digest 237 = .ok (.getfield 7, 3) := by decide +kernel
theorem dX10_digest_240 : decode cX10_digest 240 = .ok (.bipush 76, 2) := by decide +kernel
theorem dX10_digest_242 : decode cX10_digest 242 = .ok (.iconst 4, 1) := by decide +kernel
theorem dX10_digest_243 : decode cX10_digest 243 = .ok (.iload_n 1, 1) := by decide +kernel
theorem dX10_digest_244 : decode cX10_digest 244 = .ok (.imul, 1) := by decide +kernel
theorem dX10_digest_245 : decode cX10_digest 245 = .ok (.iadd, 1) := by decide +kernel
theorem dX10_digest_246 : decode cX10_digest 246 = .ok (.iconst 2, 1) := by decide +kernel
theorem dX10_digest_247 : decode cX10_digest 247 = .ok (.iadd, 1) := by decide +kernel
theorem dX10_digest_248 : decode cX10_digest 248 = .ok (.iaload, 1) := by decide +kernel
theorem dX10_digest_249 : decode cX10_digest 249 = .ok (.aload_n 0, 1) := by decide +kernel
theorem dX10_digest_250 : decode cX10_digest 250 = .ok (.getfield 7, 3) := by decide +kernel
theorem dX10_digest_253 : decode cX10_digest 253 = .ok (.bipush 78, 2) := by decide +kernel
theorem dX10_digest_255 : decode cX10_digest 255 = .ok (.iaload, 1) := by decide +kernel
theorem dX10_digest_256 : decode cX10_digest 256 = .ok (.isub, 1) := by decide +kernel
theorem dX10_digest_257 : decode cX10_digest 257 = .ok (.i2l, 1) := by decide +kernel
theorem dX10_digest_258 : decode cX10_digest 258 = .ok (.invokevirtual 157, 3) := by decide +kernel
theorem dX10_digest_261 : decode cX10_digest 261 = .ok (.iinc 1 1, 3) := by decide +kernel
theorem dX10_digest_264 : decode cX10_digest 264 = .ok (.goto (-74), 3) := by decide +kernel
theorem dX10_digest_267 : decode cX10_digest 267 = .ok (.aload_n 0, 1) := by decide +kernel
theorem dX10_digest_268 : decode cX10_digest 268 = .ok (.aload_n 0, 1) := by decide +kernel
theorem dX10_digest_269 : decode cX10_digest 269 = .ok (.sipush 1000, 3) := by decide +kernel
theorem dX10_digest_272 : decode cX10_digest 272 = .ok (.invokevirtual 104, 3) := by decide +kernel
theorem dX10_digest_275 : decode cX10_digest 275 = .ok (.i2l, 1) := by decide +kernel
theorem dX10_digest_276 : decode cX10_digest 276 = .ok (.invokevirtual 157, 3) := by decide +kernel
theorem dX10_digest_279 : decode cX10_digest 279 = .ok (.aload_n 0, 1) := by decide +kernel
theorem dX10_digest_280 : decode cX10_digest 280 = .ok (.aload_n 0, 1) := by decide +kernel
theorem dX10_digest_281 : decode cX10_digest 281 = .ok (.iconst 5, 1) := by decide +kernel
theorem dX10_digest_282 : decode cX10_digest 282 = .ok (.invokevirtual 107, 3) := by decide +kernel
theorem dX10_digest_285 : decode cX10_digest 285 = .ok (.i2l, 1) := by decide +kernel
theorem dX10_digest_286 : decode cX10_digest 286 = .ok (.invokevirtual 157, 3) := by decide +kernel
theorem dX10_digest_289 : decode cX10_digest 289 = .ok (.aload_n 0, 1) := by decide +kernel
theorem dX10_digest_290 : decode cX10_digest 290 = .ok (.getfield 151, 3) := by decide +kernel
theorem dX10_digest_293 : decode cX10_digest 293 = .ok (.lreturn, 1) := by decide +kernel
theorem dJ9_max_7cf53_0 : decode cJ9_max_7cf53 0 = .ok (.iload_n 0, 1) := by decide +kernel
theorem dJ9_max_7cf53_1 : decode cJ9_max_7cf53 1 = .ok (.iload_n 1, 1) := by decide +kernel
theorem dJ9_max_7cf53_2 : decode cJ9_max_7cf53 2 = .ok (.if_icmp .lt 7, 3) := by decide +kernel
theorem dJ9_max_7cf53_5 : decode cJ9_max_7cf53 5 = .ok (.iload_n 0, 1) := by decide +kernel
theorem dJ9_max_7cf53_6 : decode cJ9_max_7cf53 6 = .ok (.goto 4, 3) := by decide +kernel
theorem dJ9_max_7cf53_9 : decode cJ9_max_7cf53 9 = .ok (.iload_n 1, 1) := by decide +kernel
theorem dJ9_max_7cf53_10 : decode cJ9_max_7cf53 10 = .ok (.ireturn, 1) := by decide +kernel
theorem dJ9_min_7cf53_0 : decode cJ9_min_7cf53 0 = .ok (.iload_n 0, 1) := by decide +kernel
theorem dJ9_min_7cf53_1 : decode cJ9_min_7cf53 1 = .ok (.iload_n 1, 1) := by decide +kernel
theorem dJ9_min_7cf53_2 : decode cJ9_min_7cf53 2 = .ok (.if_icmp .gt 7, 3) := by decide +kernel
theorem dJ9_min_7cf53_5 : decode cJ9_min_7cf53 5 = .ok (.iload_n 0, 1) := by decide +kernel
theorem dJ9_min_7cf53_6 : decode cJ9_min_7cf53 6 = .ok (.goto 4, 3) := by decide +kernel
theorem dJ9_min_7cf53_9 : decode cJ9_min_7cf53 9 = .ok (.iload_n 1, 1) := by decide +kernel
theorem dJ9_min_7cf53_10 : decode cJ9_min_7cf53 10 = .ok (.ireturn, 1) := by decide +kernel
