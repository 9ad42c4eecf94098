set_option maxRecDepth 20000 in
theorem ggX10_areTwo_X10_there : GoodIn wsX10_areTwo wsX10_there := goodIn_r _ [5, 6, 7, 8, 9, 10, 11, 12, 13, 14, 15, 16, 17, 18, 19, 20, 21, 22, 23, 24, 25, 26, 27, 28, 29] rfl (by decide +kernel)
set_option maxRecDepth 20000 in
theorem gX10_areTwo_X10_there : GoodIn wsX10_areTwo (wsV RX10 123 RX10 yX10_there wsX10_there) := goodIn_app (goodIn_of _ (by decide +kernel)) ggX10_areTwo_X10_there
set_option maxRecDepth 20000 in
theorem ggX10_best_X10_refuse : GoodIn wsX10_best wsX10_refuse := goodIn_r _ [19, 20, 55, 56, 57, 58, 59, 60, 61, 62, 63, 64, 65, 66, 67, 68] rfl (by decide +kernel)
set_option maxRecDepth 20000 in
theorem gX10_best_X10_refuse : GoodIn wsX10_best (wsV RX10 83 RX10 yX10_refuse wsX10_refuse) := goodIn_app (goodIn_of _ (by decide +kernel)) ggX10_best_X10_refuse
set_option maxRecDepth 20000 in
theorem ggX10_best_X10_there : GoodIn wsX10_best wsX10_there := goodIn_r _ [11, 1, 12, 55, 56, 57, 58, 59, 60, 61, 62, 63, 64, 65, 66, 67, 68, 69, 70, 71, 72, 73, 74, 75, 76] rfl (by decide +kernel)
set_option maxRecDepth 20000 in
theorem gX10_best_X10_there : GoodIn wsX10_best (wsV RX10 123 RX10 yX10_there wsX10_there) := goodIn_app (goodIn_of _ (by decide +kernel)) ggX10_best_X10_there
set_option maxRecDepth 20000 in
theorem ggX10_best_X10_within : GoodIn wsX10_best wsX10_within := goodIn_r _ [15] rfl (by decide +kernel)
set_option maxRecDepth 20000 in
theorem gX10_best_X10_within : GoodIn wsX10_best (va_wsS RX10 79 yX10_within wsX10_within) := goodIn_app (goodIn_of _ (by decide +kernel)) ggX10_best_X10_within
set_option maxRecDepth 20000 in
theorem ggX10_best_X8_copyFrom : GoodIn wsX10_best wsX8_copyFrom := goodIn_r _ [30, 31, 32, 33, 34, 35, 36, 37, 26, 77, 78, 79, 80, 81, 82, 83, 84] rfl (by decide +kernel)
set_option maxRecDepth 20000 in
theorem gX10_best_X8_copyFrom : GoodIn wsX10_best (wsV RX10 148 RX8 yX8_copyFrom wsX8_copyFrom) := goodIn_app (goodIn_of _ (by decide +kernel)) ggX10_best_X8_copyFrom
set_option maxRecDepth 20000 in
theorem ggX10_best_X8_isHome : GoodIn wsX10_best wsX8_isHome := goodIn_r _ [25, 26, 77, 78, 79, 80, 81, 82, 83, 84] rfl (by decide +kernel)
set_option maxRecDepth 20000 in
theorem gX10_best_X8_isHome : GoodIn wsX10_best (wsV RX10 133 RX8 yX8_isHome wsX8_isHome) := goodIn_app (goodIn_of _ (by decide +kernel)) ggX10_best_X8_isHome
set_option maxRecDepth 20000 in
theorem ggX10_best_X8_ticksToHome : GoodIn wsX10_best wsX8_ticksToHome := goodIn_r _ [41, 42, 22, 23, 24, 25, 26, 43, 44, 45, 46, 37, 31, 32, 34, 33, 36, 35, 47, 48, 49, 50, 51, 52, 53, 54, 77, 78, 79, 80, 81, 82, 83, 84] rfl (by decide +kernel)
set_option maxRecDepth 20000 in
theorem gX10_best_X8_ticksToHome : GoodIn wsX10_best (wsV RX10 165 RX8 yX8_ticksToHome wsX8_ticksToHome) := goodIn_app (goodIn_of _ (by decide +kernel)) ggX10_best_X8_ticksToHome
set_option maxRecDepth 20000 in
theorem ggX10_first_X10_homeBehind : GoodIn wsX10_first wsX10_homeBehind := goodIn_r _ [14, 15, 1, 3, 16, 17, 18, 19, 20, 7, 21, 22, 23, 24, 25, 26, 27, 28, 9, 29, 30, 31, 32, 33, 5, 6, 8, 34, 35, 36, 37, 38, 39, 40, 41, 42, 43, 44, 45, 46, 47, 48, 49, 50, 51, 52, 53, 54, 55, 56, 57, 58, 59, 60, 61, 62, 63, 64, 65, 66, 67, 68, 69, 70, 71, 72, 73, 74, 75] rfl (by decide +kernel)
set_option maxRecDepth 20000 in
theorem gX10_first_X10_homeBehind : GoodIn wsX10_first (wsV RX10 156 RX10 yX10_homeBehind wsX10_homeBehind) := goodIn_app (goodIn_of _ (by decide +kernel)) ggX10_first_X10_homeBehind
set_option maxRecDepth 20000 in
theorem ggX10_first_X8_isHome : GoodIn wsX10_first wsX8_isHome := goodIn_r _ [8, 9, 68, 69, 70, 71, 72, 73, 74, 75] rfl (by decide +kernel)
set_option maxRecDepth 20000 in
theorem gX10_first_X8_isHome : GoodIn wsX10_first (wsV RX10 133 RX8 yX8_isHome wsX8_isHome) := goodIn_app (goodIn_of _ (by decide +kernel)) ggX10_first_X8_isHome
set_option maxRecDepth 20000 in
theorem ggX10_home_X10_homeBehind : GoodIn wsX10_home wsX10_homeBehind := goodIn_r _ [11, 12, 6, 13, 14, 15, 16, 17, 18, 19, 20, 21, 22, 23, 24, 25, 26, 27, 28, 29, 30, 31, 32, 33, 34, 35, 36, 37, 38, 39, 40, 41, 42, 43, 44, 45, 46, 47, 48, 54, 55, 56, 57, 58, 59, 60, 61, 62, 63, 64, 65, 66, 67, 68, 69, 70, 71, 72, 73, 74, 75, 76, 77, 78, 79, 80, 81, 82, 83] rfl (by decide +kernel)
set_option maxRecDepth 20000 in
theorem gX10_home_X10_homeBehind : GoodIn wsX10_home (wsV RX10 156 RX10 yX10_homeBehind wsX10_homeBehind) := goodIn_app (goodIn_of _ (by decide +kernel)) ggX10_home_X10_homeBehind
set_option maxRecDepth 20000 in
theorem ggX10_home_X10_refuse : GoodIn wsX10_home wsX10_refuse := goodIn_r _ [52, 53, 54, 55, 56, 57, 58, 59, 60, 61, 62, 63, 64, 65, 66, 67] rfl (by decide +kernel)
set_option maxRecDepth 20000 in
theorem gX10_home_X10_refuse : GoodIn wsX10_home (wsV RX10 83 RX10 yX10_refuse wsX10_refuse) := goodIn_app (goodIn_of _ (by decide +kernel)) ggX10_home_X10_refuse
set_option maxRecDepth 20000 in
theorem ggX10_home_X10_there : GoodIn wsX10_home wsX10_there := goodIn_r _ [5, 6, 7, 54, 55, 56, 57, 58, 59, 60, 61, 62, 63, 64, 65, 66, 67, 68, 69, 70, 71, 72, 73, 74, 75] rfl (by decide +kernel)
set_option maxRecDepth 20000 in
theorem gX10_home_X10_there : GoodIn wsX10_home (wsV RX10 123 RX10 yX10_there wsX10_there) := goodIn_app (goodIn_of _ (by decide +kernel)) ggX10_home_X10_there
set_option maxRecDepth 20000 in
theorem ggX10_order_X10_aheadOf : GoodIn wsX10_order wsX10_aheadOf := goodIn_r _ [60, 1, 2, 14, 61, 62, 63, 64, 65, 66, 67, 68, 69, 70, 71, 72, 73, 74, 75, 76, 77, 78, 79, 80, 81, 82] rfl (by decide +kernel)
set_option maxRecDepth 20000 in
theorem gX10_order_X10_aheadOf : GoodIn wsX10_order (wsV RX10 162 RX10 yX10_aheadOf wsX10_aheadOf) := goodIn_app (goodIn_of _ (by decide +kernel)) ggX10_order_X10_aheadOf
set_option maxRecDepth 20000 in
theorem ggX10_order_X10_rankAll : GoodIn wsX10_order wsX10_rankAll := goodIn_r _ [12, 1, 2, 13, 14, 15, 16, 17, 18, 6, 19, 20, 21, 22, 23, 24, 25, 26, 27, 28, 29, 30, 31, 32, 33, 34, 35, 36, 37, 38, 39, 40, 41, 42, 43, 44, 45, 46, 47, 48, 49, 50, 51, 52, 53, 54, 55, 56, 61, 62, 63, 64, 65, 66, 67, 68, 69, 70, 71, 72, 73, 74, 75, 76, 77, 78, 79, 80, 81, 82, 83, 84, 85, 86, 87, 88, 89, 90] rfl (by decide +kernel)
set_option maxRecDepth 20000 in
theorem gX10_order_X10_rankAll : GoodIn wsX10_order (wsV RX10 159 RX10 yX10_rankAll wsX10_rankAll) := goodIn_app (goodIn_of _ (by decide +kernel)) ggX10_order_X10_rankAll
set_option maxRecDepth 20000 in
theorem ggX10_order_X10_refuse : GoodIn wsX10_order wsX10_refuse := goodIn_r _ [7, 8, 61, 62, 63, 64, 65, 66, 67, 68, 69, 70, 71, 72, 73, 74] rfl (by decide +kernel)
set_option maxRecDepth 20000 in
theorem gX10_order_X10_refuse : GoodIn wsX10_order (wsV RX10 83 RX10 yX10_refuse wsX10_refuse) := goodIn_app (goodIn_of _ (by decide +kernel)) ggX10_order_X10_refuse
set_option maxRecDepth 20000 in
theorem ggX10_rankAll_X10_homeBehind : GoodIn wsX10_rankAll wsX10_homeBehind := goodIn_r _ [10, 11, 1, 3, 12, 13, 14, 15, 16, 17, 18, 19, 20, 21, 22, 23, 24, 25, 26, 27, 28, 29, 30, 31, 32, 33, 34, 35, 36, 37, 38, 39, 40, 41, 42, 43, 44, 45, 46, 48, 49, 50, 51, 52, 53, 54, 55, 56, 57, 58, 59, 60, 61, 62, 63, 64, 65, 66, 67, 68, 69, 70, 71, 72, 73, 74, 75, 76, 77] rfl (by decide +kernel)
set_option maxRecDepth 20000 in
theorem gX10_rankAll_X10_homeBehind : GoodIn wsX10_rankAll (wsV RX10 156 RX10 yX10_homeBehind wsX10_homeBehind) := goodIn_app (goodIn_of _ (by decide +kernel)) ggX10_rankAll_X10_homeBehind
set_option maxRecDepth 20000 in
theorem ggX10_rankAll_X8_isHome : GoodIn wsX10_rankAll wsX8_isHome := goodIn_r _ [34, 26, 70, 71, 72, 73, 74, 75, 76, 77] rfl (by decide +kernel)
set_option maxRecDepth 20000 in
theorem gX10_rankAll_X8_isHome : GoodIn wsX10_rankAll (wsV RX10 133 RX8 yX8_isHome wsX8_isHome) := goodIn_app (goodIn_of _ (by decide +kernel)) ggX10_rankAll_X8_isHome
theorem dX10_aheadOf_0 : decode cX10_aheadOf 0 = .ok (.iconst 0, 1) := by decide +kernel
theorem dX10_aheadOf_1 : decode cX10_aheadOf 1 = .ok (.istore_n 2, 1) := by decide +kernel
theorem dX10_aheadOf_12 : decode cX10_aheadOf 12 = .ok (.if_icmp .ge 47, 3) := by decide +kernel
theorem dX10_aheadOf_15 : decode cX10_aheadOf 15 = .ok (.aload_n 0, 1) := by decide +kernel
theorem dX10_aheadOf_16 : decode cX10_aheadOf 16 = .ok (.getfield 76, 3) := by decide +kernel
theorem dX10_aheadOf_19 : decode cX10_aheadOf 19 = .ok (.iload_n 3, 1) := by decide +kernel
theorem dX10_aheadOf_2 : decode cX10_aheadOf 2 = .ok (.iconst 0, 1) := by decide +kernel
theorem dX10_aheadOf_20 : decode cX10_aheadOf 20 = .ok (.iaload, 1) := by decide +kernel
theorem dX10_aheadOf_21 : decode cX10_aheadOf 21 = .ok (.aload_n 0, 1) := by decide +kernel
theorem dX10_aheadOf_22 : decode cX10_aheadOf 22 = .ok (.getfield 76, 3) := by decide +kernel
theorem dX10_aheadOf_25 : decode cX10_aheadOf 25 = .ok (.iload_n 1, 1) := by decide +kernel
theorem dX10_aheadOf_26 : decode cX10_aheadOf 26 = .ok (.iaload, 1) := by decide +kernel
theorem dX10_aheadOf_27 : decode cX10_aheadOf 27 = .ok (.if_icmp .lt 23, 3) := by decide +kernel
theorem dX10_aheadOf_3 : decode cX10_aheadOf 3 = .ok (.istore_n 3, 1) := by decide +kernel
theorem dX10_aheadOf_30 : decode cX10_aheadOf 30 = .ok (.aload_n 0, 1) := by decide +kernel
theorem dX10_aheadOf_31 : decode cX10_aheadOf 31 = .ok (.getfield 76, 3) := by decide +kernel
theorem dX10_aheadOf_34 : decode cX10_aheadOf 34 = .ok (.iload_n 3, 1) := by decide +kernel
theorem dX10_aheadOf_35 : decode cX10_aheadOf 35 = .ok (.iaload, 1) := by decide +kernel
theorem dX10_aheadOf_36 : decode cX10_aheadOf 36 = .ok (.aload_n 0, 1) := by decide +kernel
theorem dX10_aheadOf_37 : decode cX10_aheadOf 37 = .ok (.getfield 76, 3) := by decide +kernel
theorem dX10_aheadOf_4 : decode cX10_aheadOf 4 = .ok (.iload_n 3, 1) := by decide +kernel
theorem dX10_aheadOf_40 : decode cX10_aheadOf 40 = .ok (.iload_n 1, 1) := by decide +kernel
theorem dX10_aheadOf_41 : decode cX10_aheadOf 41 = .ok (.iaload, 1) := by decide +kernel
theorem dX10_aheadOf_42 : decode cX10_aheadOf 42 = .ok (.if_icmp .ne 11, 3) := by decide +kernel
theorem dX10_aheadOf_45 : decode cX10_aheadOf 45 = .ok (.iload_n 3, 1) := by decide +kernel
theorem dX10_aheadOf_46 : decode cX10_aheadOf 46 = .ok (.iload_n 1, 1) := by decide +kernel
theorem dX10_aheadOf_47 : decode cX10_aheadOf 47 = .ok (.if_icmp .ge 6, 3) := by decide +kernel
theorem dX10_aheadOf_5 : decode cX10_aheadOf 5 = .ok (.aload_n 0, 1) := by decide +kernel
theorem dX10_aheadOf_50 : decode cX10_aheadOf 50 = .ok (.iinc 2 1, 3) := by decide +kernel
theorem dX10_aheadOf_53 : decode cX10_aheadOf 53 = .ok (.iinc 3 1, 3) := by decide +kernel
theorem dX10_aheadOf_56 : decode cX10_aheadOf 56 = .ok (.goto (-52), 3) := by decide +kernel
theorem dX10_aheadOf_59 : decode cX10_aheadOf 59 = .ok (.iload_n 2, 1) := by decide +kernel
theorem dX10_aheadOf_6 : decode cX10_aheadOf 6 = .ok (.getfield 10, 3) := by decide +kernel
theorem dX10_aheadOf_60 : decode cX10_aheadOf 60 = .ok (.ireturn, 1) := by decide +kernel
theorem dX10_aheadOf_9 : decode cX10_aheadOf 9 = .ok (.getfield 87, 3) := by decide +kernel
theorem dX10_areTwo_0 : decode cX10_areTwo 0 = .ok (.aload_n 0, 1) := by decide +kernel
theorem dX10_areTwo_1 : decode cX10_areTwo 1 = .ok (.iload_n 1, 1) := by decide +kernel
theorem dX10_areTwo_10 : decode cX10_areTwo 10 = .ok (.invokevirtual 123, 3) := by decide +kernel
theorem dX10_areTwo_13 : decode cX10_areTwo 13 = .ok (.ifCond .eq 12, 3) := by decide +kernel
theorem dX10_areTwo_16 : decode cX10_areTwo 16 = .ok (.iload_n 1, 1) := by decide +kernel
theorem dX10_areTwo_17 : decode cX10_areTwo 17 = .ok (.iload_n 2, 1) := by decide +kernel
theorem dX10_areTwo_18 : decode cX10_areTwo 18 = .ok (.if_icmp .eq 7, 3) := by decide +kernel
theorem dX10_areTwo_2 : decode cX10_areTwo 2 = .ok (.invokevirtual 123, 3) := by decide +kernel
theorem dX10_areTwo_21 : decode cX10_areTwo 21 = .ok (.iconst 1, 1) := by decide +kernel
theorem dX10_areTwo_22 : decode cX10_areTwo 22 = .ok (.goto 4, 3) := by decide +kernel
theorem dX10_areTwo_25 : decode cX10_areTwo 25 = .ok (.iconst 0, 1) := by decide +kernel
theorem dX10_areTwo_26 : decode cX10_areTwo 26 = .ok (.ireturn, 1) := by decide +kernel
theorem dX10_areTwo_5 : decode cX10_areTwo 5 = .ok (.ifCond .eq 20, 3) := by decide +kernel
theorem dX10_areTwo_8 : decode cX10_areTwo 8 = .ok (.aload_n 0, 1) := by decide +kernel
theorem dX10_areTwo_9 : decode cX10_areTwo 9 = .ok (.iload_n 2, 1) := by decide +kernel
theorem dX10_best_0 : decode cX10_best 0 = .ok (.aload_n 0, 1) := by decide +kernel
theorem dX10_best_1 : decode cX10_best 1 = .ok (.iload_n 1, 1) := by decide +kernel
theorem dX10_best_10 : decode cX10_best 10 = .ok (.iconst 1, 1) := by decide +kernel
theorem dX10_best_100 : decode cX10_best 100 = .ok (.getfield 140, 3) := by decide +kernel
theorem dX10_best_103 : decode cX10_best 103 = .ok (.iload 5, 2) := by decide +kernel
theorem dX10_best_105 : decode cX10_best 105 = .ok (.invokevirtual 165, 3) := by decide +kernel
theorem dX10_best_108 : decode cX10_best 108 = .ok (.istore 7, 2) := by decide +kernel
theorem dX10_best_11 : decode cX10_best 11 = .ok (.invokestatic 79, 3) := by decide +kernel
theorem dX10_best_110 : decode cX10_best 110 = .ok (.iload 7, 2) := by decide +kernel
theorem dX10_best_112 : decode cX10_best 112 = .ok (.iconst (-1), 1) := by decide +kernel
theorem dX10_best_113 : decode cX10_best 113 = .ok (.if_icmp .eq 16, 3) := by decide +kernel
theorem dX10_best_116 : decode cX10_best 116 = .ok (.iload 6, 2) := by decide +kernel
theorem dX10_best_118 : decode cX10_best 118 = .ok (.istore_n 3, 1) := by decide +kernel
theorem dX10_best_119 : decode cX10_best 119 = .ok (.iload 7, 2) := by decide +kernel
theorem dX10_best_121 : decode cX10_best 121 = .ok (.istore 4, 2) := by decide +kernel
theorem dX10_best_123 : decode cX10_best 123 = .ok (.iload 7, 2) := by decide +kernel
theorem dX10_best_125 : decode cX10_best 125 = .ok (.iconst 1, 1) := by decide +kernel
theorem dX10_best_126 : decode cX10_best 126 = .ok (.isub, 1) := by decide +kernel
theorem dX10_best_127 : decode cX10_best 127 = .ok (.istore 5, 2) := by decide +kernel
theorem dX10_best_129 : decode cX10_best 129 = .ok (.iinc 6 1, 3) := by decide +kernel
theorem dX10_best_132 : decode cX10_best 132 = .ok (.goto (-79), 3) := by decide +kernel
theorem dX10_best_135 : decode cX10_best 135 = .ok (.iload_n 2, 1) := by decide +kernel
theorem dX10_best_136 : decode cX10_best 136 = .ok (.ifCond .ne 7, 3) := by decide +kernel
theorem dX10_best_139 : decode cX10_best 139 = .ok (.iload_n 3, 1) := by decide +kernel
theorem dX10_best_14 : decode cX10_best 14 = .ok (.ifCond .ne 10, 3) := by decide +kernel
theorem dX10_best_140 : decode cX10_best 140 = .ok (.goto 5, 3) := by decide +kernel
theorem dX10_best_143 : decode cX10_best 143 = .ok (.iload 4, 2) := by decide +kernel
theorem dX10_best_145 : decode cX10_best 145 = .ok (.ireturn, 1) := by decide +kernel
theorem dX10_best_17 : decode cX10_best 17 = .ok (.aload_n 0, 1) := by decide +kernel
theorem dX10_best_18 : decode cX10_best 18 = .ok (.bipush (-2), 2) := by decide +kernel
theorem dX10_best_2 : decode cX10_best 2 = .ok (.invokevirtual 123, 3) := by decide +kernel
theorem dX10_best_20 : decode cX10_best 20 = .ok (.invokevirtual 83, 3) := by decide +kernel
theorem dX10_best_23 : decode cX10_best 23 = .ok (.ireturn, 1) := by decide +kernel
theorem dX10_best_24 : decode cX10_best 24 = .ok (.aload_n 0, 1) := by decide +kernel
theorem dX10_best_25 : decode cX10_best 25 = .ok (.getfield 10, 3) := by decide +kernel
theorem dX10_best_28 : decode cX10_best 28 = .ok (.getfield 126, 3) := by decide +kernel
theorem dX10_best_31 : decode cX10_best 31 = .ok (.iload_n 1, 1) := by decide +kernel
theorem dX10_best_32 : decode cX10_best 32 = .ok (.aaload, 1) := by decide +kernel
theorem dX10_best_33 : decode cX10_best 33 = .ok (.invokevirtual 133, 3) := by decide +kernel
theorem dX10_best_36 : decode cX10_best 36 = .ok (.ifCond .eq 5, 3) := by decide +kernel
theorem dX10_best_39 : decode cX10_best 39 = .ok (.iconst (-1), 1) := by decide +kernel
theorem dX10_best_40 : decode cX10_best 40 = .ok (.ireturn, 1) := by decide +kernel
theorem dX10_best_41 : decode cX10_best 41 = .ok (.iconst (-1), 1) := by decide +kernel
theorem dX10_best_42 : decode cX10_best 42 = .ok (.istore_n 3, 1) := by decide +kernel
theorem dX10_best_43 : decode cX10_best 43 = .ok (.iconst (-1), 1) := by decide +kernel
theorem dX10_best_44 : decode cX10_best 44 = .ok (.istore 4, 2) := by decide +kernel
theorem dX10_best_46 : decode cX10_best 46 = .ok (.bipush 60, 2) := by decide +kernel
theorem dX10_best_48 : decode cX10_best 48 = .ok (.istore 5, 2) := by decide +kernel
theorem dX10_best_5 : decode cX10_best 5 = .ok (.ifCond .eq 12, 3) := by decide +kernel
theorem dX10_best_50 : decode cX10_best 50 = .ok (.iconst 0, 1) := by decide +kernel
theorem dX10_best_51 : decode cX10_best 51 = .ok (.istore 6, 2) := by decide +kernel
theorem dX10_best_53 : decode cX10_best 53 = .ok (.iload 6, 2) := by decide +kernel
theorem dX10_best_55 : decode cX10_best 55 = .ok (.bipush 9, 2) := by decide +kernel
theorem dX10_best_57 : decode cX10_best 57 = .ok (.if_icmp .gt 78, 3) := by decide +kernel
theorem dX10_best_60 : decode cX10_best 60 = .ok (.aload_n 0, 1) := by decide +kernel
theorem dX10_best_61 : decode cX10_best 61 = .ok (.getfield 48, 3) := by decide +kernel
theorem dX10_best_64 : decode cX10_best 64 = .ok (.aload_n 0, 1) := by decide +kernel
theorem dX10_best_65 : decode cX10_best 65 = .ok (.getfield 10, 3) := by decide +kernel
theorem dX10_best_68 : decode cX10_best 68 = .ok (.getfield 126, 3) := by decide +kernel
theorem dX10_best_71 : decode cX10_best 71 = .ok (.iload_n 1, 1) := by decide +kernel
theorem dX10_best_72 : decode cX10_best 72 = .ok (.aaload, 1) := by decide +kernel
theorem dX10_best_73 : decode cX10_best 73 = .ok (.invokevirtual 148, 3) := by decide +kernel
theorem dX10_best_76 : decode cX10_best 76 = .ok (.aload_n 0, 1) := by decide +kernel
theorem dX10_best_77 : decode cX10_best 77 = .ok (.getfield 48, 3) := by decide +kernel
theorem dX10_best_8 : decode cX10_best 8 = .ok (.iload_n 2, 1) := by decide +kernel
theorem dX10_best_80 : decode cX10_best 80 = .ok (.iload 6, 2) := by decide +kernel
theorem dX10_best_82 : decode cX10_best 82 = .ok (.putfield 130, 3) := by decide +kernel
theorem dX10_best_85 : decode cX10_best 85 = .ok (.aload_n 0, 1) := by decide +kernel
theorem dX10_best_86 : decode cX10_best 86 = .ok (.getfield 48, 3) := by decide +kernel
theorem dX10_best_89 : decode cX10_best 89 = .ok (.aload_n 0, 1) := by decide +kernel
theorem dX10_best_9 : decode cX10_best 9 = .ok (.iconst 0, 1) := by decide +kernel
theorem dX10_best_90 : decode cX10_best 90 = .ok (.getfield 10, 3) := by decide +kernel
theorem dX10_best_93 : decode cX10_best 93 = .ok (.getfield 110, 3) := by decide +kernel
theorem dX10_best_96 : decode cX10_best 96 = .ok (.aload_n 0, 1) := by decide +kernel
theorem dX10_best_97 : decode cX10_best 97 = .ok (.getfield 10, 3) := by decide +kernel
theorem dX10_first_0 : decode cX10_first 0 = .ok (.iconst (-1), 1) := by decide +kernel
theorem dX10_first_1 : decode cX10_first 1 = .ok (.istore_n 1, 1) := by decide +kernel
theorem dX10_first_12 : decode cX10_first 12 = .ok (.getfield 87, 3) := by decide +kernel
theorem dX10_first_15 : decode cX10_first 15 = .ok (.if_icmp .ge 49, 3) := by decide +kernel
theorem dX10_first_18 : decode cX10_first 18 = .ok (.aload_n 0, 1) := by decide +kernel
theorem dX10_first_19 : decode cX10_first 19 = .ok (.getfield 10, 3) := by decide +kernel
theorem dX10_first_2 : decode cX10_first 2 = .ok (.bipush 60, 2) := by decide +kernel
theorem dX10_first_22 : decode cX10_first 22 = .ok (.getfield 126, 3) := by decide +kernel
theorem dX10_first_25 : decode cX10_first 25 = .ok (.iload_n 3, 1) := by decide +kernel
theorem dX10_first_26 : decode cX10_first 26 = .ok (.aaload, 1) := by decide +kernel
theorem dX10_first_27 : decode cX10_first 27 = .ok (.invokevirtual 133, 3) := by decide +kernel
theorem dX10_first_30 : decode cX10_first 30 = .ok (.ifCond .eq 7, 3) := by decide +kernel
theorem dX10_first_33 : decode cX10_first 33 = .ok (.iconst (-1), 1) := by decide +kernel
theorem dX10_first_34 : decode cX10_first 34 = .ok (.goto 9, 3) := by decide +kernel
theorem dX10_first_37 : decode cX10_first 37 = .ok (.aload_n 0, 1) := by decide +kernel
theorem dX10_first_38 : decode cX10_first 38 = .ok (.iload_n 3, 1) := by decide +kernel
theorem dX10_first_39 : decode cX10_first 39 = .ok (.iload_n 2, 1) := by decide +kernel
theorem dX10_first_4 : decode cX10_first 4 = .ok (.istore_n 2, 1) := by decide +kernel
theorem dX10_first_40 : decode cX10_first 40 = .ok (.invokevirtual 156, 3) := by decide +kernel
theorem dX10_first_43 : decode cX10_first 43 = .ok (.istore 4, 2) := by decide +kernel
theorem dX10_first_45 : decode cX10_first 45 = .ok (.iload 4, 2) := by decide +kernel
theorem dX10_first_47 : decode cX10_first 47 = .ok (.iconst (-1), 1) := by decide +kernel
theorem dX10_first_48 : decode cX10_first 48 = .ok (.if_icmp .eq 10, 3) := by decide +kernel
theorem dX10_first_5 : decode cX10_first 5 = .ok (.iconst 0, 1) := by decide +kernel
theorem dX10_first_51 : decode cX10_first 51 = .ok (.iload_n 3, 1) := by decide +kernel
theorem dX10_first_52 : decode cX10_first 52 = .ok (.istore_n 1, 1) := by decide +kernel
theorem dX10_first_53 : decode cX10_first 53 = .ok (.iload 4, 2) := by decide +kernel
theorem dX10_first_55 : decode cX10_first 55 = .ok (.iconst 1, 1) := by decide +kernel
theorem dX10_first_56 : decode cX10_first 56 = .ok (.isub, 1) := by decide +kernel
theorem dX10_first_57 : decode cX10_first 57 = .ok (.istore_n 2, 1) := by decide +kernel
theorem dX10_first_58 : decode cX10_first 58 = .ok (.iinc 3 1, 3) := by decide +kernel
theorem dX10_first_6 : decode cX10_first 6 = .ok (.istore_n 3, 1) := by decide +kernel
theorem dX10_first_61 : decode cX10_first 61 = .ok (.goto (-54), 3) := by decide +kernel
theorem dX10_first_64 : decode cX10_first 64 = .ok (.iload_n 1, 1) := by decide +kernel
theorem dX10_first_65 : decode cX10_first 65 = .ok (.ireturn, 1) := by decide +kernel
theorem dX10_first_7 : decode cX10_first 7 = .ok (.iload_n 3, 1) := by decide +kernel
theorem dX10_first_8 : decode cX10_first 8 = .ok (.aload_n 0, 1) := by decide +kernel
theorem dX10_first_9 : decode cX10_first 9 = .ok (.getfield 10, 3) := by decide +kernel
theorem dX10_home_0 : decode cX10_home 0 = .ok (.aload_n 0, 1) := by decide +kernel
theorem dX10_home_1 : decode cX10_home 1 = .ok (.iload_n 1, 1) := by decide +kernel
theorem dX10_home_10 : decode cX10_home 10 = .ok (.bipush 60, 2) := by decide +kernel
theorem dX10_home_12 : decode cX10_home 12 = .ok (.invokevirtual 156, 3) := by decide +kernel
theorem dX10_home_15 : decode cX10_home 15 = .ok (.goto 9, 3) := by decide +kernel
theorem dX10_home_18 : decode cX10_home 18 = .ok (.aload_n 0, 1) := by decide +kernel
theorem dX10_home_19 : decode cX10_home 19 = .ok (.bipush (-2), 2) := by decide +kernel
theorem dX10_home_2 : decode cX10_home 2 = .ok (.invokevirtual 123, 3) := by decide +kernel
theorem dX10_home_21 : decode cX10_home 21 = .ok (.invokevirtual 83, 3) := by decide +kernel
theorem dX10_home_24 : decode cX10_home 24 = .ok (.ireturn, 1) := by decide +kernel
theorem dX10_home_5 : decode cX10_home 5 = .ok (.ifCond .eq 13, 3) := by decide +kernel
theorem dX10_home_8 : decode cX10_home 8 = .ok (.aload_n 0, 1) := by decide +kernel
theorem dX10_home_9 : decode cX10_home 9 = .ok (.iload_n 1, 1) := by decide +kernel
theorem dX10_order_0 : decode cX10_order 0 = .ok (.iload_n 1, 1) := by decide +kernel
theorem dX10_order_1 : decode cX10_order 1 = .ok (.ifCond .ge 10, 3) := by decide +kernel
theorem dX10_order_10 : decode cX10_order 10 = .ok (.ireturn, 1) := by decide +kernel
theorem dX10_order_11 : decode cX10_order 11 = .ok (.iload_n 1, 1) := by decide +kernel
theorem dX10_order_12 : decode cX10_order 12 = .ok (.aload_n 0, 1) := by decide +kernel
theorem dX10_order_13 : decode cX10_order 13 = .ok (.getfield 10, 3) := by decide +kernel
theorem dX10_order_16 : decode cX10_order 16 = .ok (.getfield 87, 3) := by decide +kernel
theorem dX10_order_19 : decode cX10_order 19 = .ok (.if_icmp .lt 10, 3) := by decide +kernel
theorem dX10_order_22 : decode cX10_order 22 = .ok (.aload_n 0, 1) := by decide +kernel
theorem dX10_order_23 : decode cX10_order 23 = .ok (.bipush (-3), 2) := by decide +kernel
theorem dX10_order_25 : decode cX10_order 25 = .ok (.invokevirtual 83, 3) := by decide +kernel
theorem dX10_order_28 : decode cX10_order 28 = .ok (.ireturn, 1) := by decide +kernel
theorem dX10_order_29 : decode cX10_order 29 = .ok (.aload_n 0, 1) := by decide +kernel
theorem dX10_order_30 : decode cX10_order 30 = .ok (.invokevirtual 159, 3) := by decide +kernel
theorem dX10_order_33 : decode cX10_order 33 = .ok (.iconst 0, 1) := by decide +kernel
theorem dX10_order_34 : decode cX10_order 34 = .ok (.istore_n 2, 1) := by decide +kernel
theorem dX10_order_35 : decode cX10_order 35 = .ok (.iload_n 2, 1) := by decide +kernel
theorem dX10_order_36 : decode cX10_order 36 = .ok (.aload_n 0, 1) := by decide +kernel
theorem dX10_order_37 : decode cX10_order 37 = .ok (.getfield 10, 3) := by decide +kernel
theorem dX10_order_4 : decode cX10_order 4 = .ok (.aload_n 0, 1) := by decide +kernel
theorem dX10_order_40 : decode cX10_order 40 = .ok (.getfield 87, 3) := by decide +kernel
theorem dX10_order_43 : decode cX10_order 43 = .ok (.if_icmp .ge 20, 3) := by decide +kernel
theorem dX10_order_46 : decode cX10_order 46 = .ok (.aload_n 0, 1) := by decide +kernel
theorem dX10_order_47 : decode cX10_order 47 = .ok (.iload_n 2, 1) := by decide +kernel
theorem dX10_order_48 : decode cX10_order 48 = .ok (.invokevirtual 162, 3) := by decide +kernel
theorem dX10_order_5 : decode cX10_order 5 = .ok (.bipush (-2), 2) := by decide +kernel
theorem dX10_order_51 : decode cX10_order 51 = .ok (.iload_n 1, 1) := by decide +kernel
theorem dX10_order_52 : decode cX10_order 52 = .ok (.if_icmp .ne 5, 3) := by decide +kernel
theorem dX10_order_55 : decode cX10_order 55 = .ok (.iload_n 2, 1) := by decide +kernel
theorem dX10_order_56 : decode cX10_order 56 = .ok (.ireturn, 1) := by decide +kernel
theorem dX10_order_57 : decode cX10_order 57 = .ok (.iinc 2 1, 3) := by decide +kernel
theorem dX10_order_60 : decode cX10_order 60 = .ok (.goto (-25), 3) := by decide +kernel
theorem dX10_order_63 : decode cX10_order 63 = .ok (.iconst (-1), 1) := by decide +kernel
theorem dX10_order_64 : decode cX10_order 64 = .ok (.ireturn, 1) := by decide +kernel
theorem dX10_order_7 : decode cX10_order 7 = .ok (.invokevirtual 83, 3) := by decide +kernel
theorem dX10_rankAll_0 : decode cX10_rankAll 0 = .ok (.iconst 0, 1) := by decide +kernel
theorem dX10_rankAll_1 : decode cX10_rankAll 1 = .ok (.istore_n 1, 1) := by decide +kernel
theorem dX10_rankAll_10 : decode cX10_rankAll 10 = .ok (.if_icmp .ge 66, 3) := by decide +kernel
theorem dX10_rankAll_13 : decode cX10_rankAll 13 = .ok (.aload_n 0, 1) := by decide +kernel
theorem dX10_rankAll_14 : decode cX10_rankAll 14 = .ok (.getfield 10, 3) := by decide +kernel
theorem dX10_rankAll_17 : decode cX10_rankAll 17 = .ok (.getfield 126, 3) := by decide +kernel
theorem dX10_rankAll_2 : decode cX10_rankAll 2 = .ok (.iload_n 1, 1) := by decide +kernel
theorem dX10_rankAll_20 : decode cX10_rankAll 20 = .ok (.iload_n 1, 1) := by decide +kernel
theorem dX10_rankAll_21 : decode cX10_rankAll 21 = .ok (.aaload, 1) := by decide +kernel
theorem dX10_rankAll_22 : decode cX10_rankAll 22 = .ok (.astore_n 2, 1) := by decide +kernel
theorem dX10_rankAll_23 : decode cX10_rankAll 23 = .ok (.aload_n 0, 1) := by decide +kernel
theorem dX10_rankAll_24 : decode cX10_rankAll 24 = .ok (.iload_n 1, 1) := by decide +kernel
theorem dX10_rankAll_25 : decode cX10_rankAll 25 = .ok (.bipush 60, 2) := by decide +kernel
theorem dX10_rankAll_27 : decode cX10_rankAll 27 = .ok (.invokevirtual 156, 3) := by decide +kernel
theorem dX10_rankAll_3 : decode cX10_rankAll 3 = .ok (.aload_n 0, 1) := by decide +kernel
theorem dX10_rankAll_30 : decode cX10_rankAll 30 = .ok (.istore_n 3, 1) := by decide +kernel
theorem dX10_rankAll_31 : decode cX10_rankAll 31 = .ok (.iload_n 3, 1) := by decide +kernel
theorem dX10_rankAll_32 : decode cX10_rankAll 32 = .ok (.iconst (-1), 1) := by decide +kernel
theorem dX10_rankAll_33 : decode cX10_rankAll 33 = .ok (.if_icmp .ne 8, 3) := by decide +kernel
theorem dX10_rankAll_36 : decode cX10_rankAll 36 = .ok (.bipush 61, 2) := by decide +kernel
theorem dX10_rankAll_38 : decode cX10_rankAll 38 = .ok (.goto 4, 3) := by decide +kernel
theorem dX10_rankAll_4 : decode cX10_rankAll 4 = .ok (.getfield 10, 3) := by decide +kernel
theorem dX10_rankAll_41 : decode cX10_rankAll 41 = .ok (.iload_n 3, 1) := by decide +kernel
theorem dX10_rankAll_42 : decode cX10_rankAll 42 = .ok (.istore 4, 2) := by decide +kernel
theorem dX10_rankAll_44 : decode cX10_rankAll 44 = .ok (.aload_n 0, 1) := by decide +kernel
theorem dX10_rankAll_45 : decode cX10_rankAll 45 = .ok (.getfield 76, 3) := by decide +kernel
theorem dX10_rankAll_48 : decode cX10_rankAll 48 = .ok (.iload_n 1, 1) := by decide +kernel
theorem dX10_rankAll_49 : decode cX10_rankAll 49 = .ok (.aload_n 2, 1) := by decide +kernel
theorem dX10_rankAll_50 : decode cX10_rankAll 50 = .ok (.invokevirtual 133, 3) := by decide +kernel
theorem dX10_rankAll_53 : decode cX10_rankAll 53 = .ok (.ifCond .eq 10, 3) := by decide +kernel
theorem dX10_rankAll_56 : decode cX10_rankAll 56 = .ok (.aload_n 2, 1) := by decide +kernel
theorem dX10_rankAll_57 : decode cX10_rankAll 57 = .ok (.getfield 303, 3) := by decide +kernel
theorem dX10_rankAll_60 : decode cX10_rankAll 60 = .ok (.goto 9, 3) := by decide +kernel
theorem dX10_rankAll_63 : decode cX10_rankAll 63 = .ok (.sipush 9999, 3) := by decide +kernel
theorem dX10_rankAll_66 : decode cX10_rankAll 66 = .ok (.iload 4, 2) := by decide +kernel
theorem dX10_rankAll_68 : decode cX10_rankAll 68 = .ok (.iadd, 1) := by decide +kernel
theorem dX10_rankAll_69 : decode cX10_rankAll 69 = .ok (.iastore, 1) := by decide +kernel
theorem dX10_rankAll_7 : decode cX10_rankAll 7 = .ok (.getfield 87, 3) := by decide +kernel
theorem dX10_rankAll_70 : decode cX10_rankAll 70 = .ok (.iinc 1 1, 3) := by decide +kernel
theorem dX10_rankAll_73 : decode cX10_rankAll 73 = .ok (.goto (-71), 3) := by decide +kernel
theorem dX10_rankAll_76 : decode cX10_rankAll 76 = .ok (.return_, 1) := by decide +kernel
theorem hdV_X10_homeBehind : yX10_homeBehind.cls = RX10 ∧ yX10_homeBehind.cls ≠ "java/lang/invoke/MethodHandle" ∧ yX10_homeBehind.cls ≠ "java/lang/invoke/VarHandle" ∧ (parseMethodDescriptor yX10_homeBehind.desc).map (fun d => d.parameters.length) = some 2 := by decide +kernel
set_option maxHeartbeats 4000000 in
set_option maxRecDepth 100000 in
/-- home -/
theorem s_home (l : Launch) (X : EX) (h0 : Nat) (nw : Nat) (sp : Nat) (xa : Nat → Nat) (la : Int64) (lb : Int64) (an : Nat → Nat) (sv : Nat → Int32) (dv : Nat → Int32) (n0 : Nat) (n1 : Nat) (n2 : Nat) (n3 : Nat) (n4 : Nat) (g0 : Nat → Int32) (gs : Nat → Int32) (gn : Nat → Int32) (gm : Nat → Int32) (ag : Nat → Int32) (dg : Nat → Int32) (fr : Nat → Int32) (x1 : Int32) (hI_n0 : n0 ≤ 6) (hI_n1 : n1 ≤ 8) (hI_n2 : n2 ≤ 5) (hI_n3 : n3 ≤ 6) (hI_n4 : n4 ≤ 6) (sz : Nat) : Met l yX10_home wsX10_home ({ frames := 4, cells := 0, slots := 0, locals := 95 } : Room) (pE X [.ref h0, .int x1] (@HAppend.hAppend va_W va_W va_W _ (xW h0 nw sp xa la lb) (@HAppend.hAppend va_W va_W va_W _ (rcV X nw an sv dv n0 n1 n2 n3 n4 g0 gs gn gm) (@HAppend.hAppend va_W va_W va_W _ (rnV (xa 8) ag dg) ([((xa 5), .inl (X.2.1, 3, .inl fr))])))) sz) (qI (fun (r : Int32) (u : (Nat → Int32) × (Nat → Int32) × (Nat → Int32)) => (True)) X (fun (u : (Nat → Int32) × (Nat → Int32) × (Nat → Int32)) => @HAppend.hAppend va_W va_W va_W _ (xW h0 nw sp xa la lb) (@HAppend.hAppend va_W va_W va_W _ (rcV X nw an sv dv n0 n1 n2 n3 n4 g0 gs gn gm) (@HAppend.hAppend va_W va_W va_W _ (rnV (xa 8) u.1 u.2.1) ([((xa 5), .inl (X.2.1, 3, .inl u.2.2))])))) (@HAppend.hAppend va_W va_W va_W _ (xW h0 nw sp xa la lb) (@HAppend.hAppend va_W va_W va_W _ (rcV X nw an sv dv n0 n1 n2 n3 n4 g0 gs gn gm) (@HAppend.hAppend va_W va_W va_W _ (rnV (xa 8) ag dg) ([((xa 5), .inl (X.2.1, 3, .inl fr))])))) sz) 0 0 (va_A (@HAppend.hAppend va_W va_W va_W _ (xW h0 nw sp xa la lb) (@HAppend.hAppend va_W va_W va_W _ (rcV X nw an sv dv n0 n1 n2 n3 n4 g0 gs gn gm) (@HAppend.hAppend va_W va_W va_W _ (rnV (xa 8) ag dg) ([((xa 5), .inl (X.2.1, 3, .inl fr))])))) sz) := by
  refine mk_met (B := (va_A (@HAppend.hAppend va_W va_W va_W _ (xW h0 nw sp xa la lb) (@HAppend.hAppend va_W va_W va_W _ (rcV X nw an sv dv n0 n1 n2 n3 n4 g0 gs gn gm) (@HAppend.hAppend va_W va_W va_W _ (rnV (xa 8) ag dg) ([((xa 5), .inl (X.2.1, 3, .inl fr))])))) sz)) (A := (va_A (@HAppend.hAppend va_W va_W va_W _ (xW h0 nw sp xa la lb) (@HAppend.hAppend va_W va_W va_W _ (rcV X nw an sv dv n0 n1 n2 n3 n4 g0 gs gn gm) (@HAppend.hAppend va_W va_W va_W _ (rnV (xa 8) ag dg) ([((xa 5), .inl (X.2.1, 3, .inl fr))])))) sz)) (cc := cX10_home) (maxL := 2) (ret := (some .int)) (by decide) rfl (Nat.le_of_ble_eq_true rfl) k_w k_a (fun p e s m below meth c S zr zlk znm zsz G ls hl => ?_)
  have S : CallFix p m c cX10_home 2 s _ wsX10_home RX10 := S
  have zx := S.1
  have zb := S.2.1
  have hl : lv_has ls 2 [(0, .ref h0), (1, .int x1)] := hl
  refine lv_aload_n zx zb dX10_home_0 rfl (lv_at hl 0 rfl) ?_
  refine lv_iload_n zx zb dX10_home_1 rfl (lv_at hl 1 rfl) ?_
  refine o_ri (cells' := 0) (slots' := 0) G rfl rfl (n_V (As := [.int x1]) (rest := []) (C := RX10) (T := TX10) (N := 14) (ci := 8) S G (s_there l X h0 nw sp xa la lb an sv dv n0 n1 n2 n3 n4 g0 gs gn gm x1 hI_n0 hI_n1 hI_n2 hI_n3 hI_n4 s.heap.size) gX10_home_X10_there rfl rfl rfl hdV_X10_there ⟨Nat.le_of_ble_eq_true rfl, Nat.le_of_ble_eq_true rfl⟩ [0, 1, 2, 3, 4, 5, 6, 7, 8, 9, 10, 11, 12, 13, 14, 15, 16] rfl rfl 0 rfl rfl rfl hl.1 (Nat.le_of_ble_eq_true rfl) dX10_home_2 ⟨Nat.le_of_ble_eq_true rfl, Nat.le_of_ble_eq_true rfl⟩) (fun r_1 u_1 H locs hp_1 G => ?_)
  have G : wd X (va_A (@HAppend.hAppend va_W va_W va_W _ (xW h0 nw sp xa la lb) (@HAppend.hAppend va_W va_W va_W _ (rcV X nw an sv dv n0 n1 n2 n3 n4 g0 gs gn gm) (@HAppend.hAppend va_W va_W va_W _ (rnV (xa 8) ag dg) ([((xa 5), .inl (X.2.1, 3, .inl fr))])))) sz) (va_A (@HAppend.hAppend va_W va_W va_W _ (xW h0 nw sp xa la lb) (@HAppend.hAppend va_W va_W va_W _ (rcV X nw an sv dv n0 n1 n2 n3 n4 g0 gs gn gm) (@HAppend.hAppend va_W va_W va_W _ (rnV (xa 8) ag dg) ([((xa 5), .inl (X.2.1, 3, .inl fr))])))) sz) s (@HAppend.hAppend va_W va_W va_W _ (xW h0 nw sp xa la lb) (@HAppend.hAppend va_W va_W va_W _ (rcV X nw an sv dv n0 n1 n2 n3 n4 g0 gs gn gm) (@HAppend.hAppend va_W va_W va_W _ (rnV (xa 8) ag dg) ([((xa 5), .inl (X.2.1, 3, .inl fr))])))) H locs := G
  rcases hp_1 with ⟨rfl, hj_1⟩ | ⟨rfl, hj_1⟩
  · obtain ⟨j_1, hj_1, rfl⟩ := hj_1
    refine lv_if_eq (tgt := 18) zx zb dX10_home_5 (by decide) (fun c_2 => absurd c_2 (by decide)) (fun c_2 => ?_)
    refine lv_aload_n zx zb dX10_home_8 rfl (lv_at hl 0 rfl) ?_
    refine lv_iload_n zx zb dX10_home_9 rfl (lv_at hl 1 rfl) ?_
    refine lv_bipush (v := 60) zx zb dX10_home_10 (by decide) ?_
    refine b_wi (cells' := 0) (slots' := 0) (wr := [((xa 5), .inl (X.2.1, 3, .inl fr))]) G rfl rfl [0, 1, 2, 3, 4, 5, 6, 7, 8, 9, 10, 11, 12, 13, 14, 15, 16, 17] [18] rfl rfl rfl rfl (n_V (As := [.int (nI j_1), .int 60]) (rest := []) (C := RX10) (T := TX10) (N := 14) (ci := 8) S G (s_homeBehind l X h0 nw sp xa la lb an sv dv n0 n1 n2 n3 n4 g0 gs gn gm ag dg j_1 60 hI_n0 hI_n1 hI_n2 hI_n3 hI_n4 (by omega) (by first | decide | assumption | exact k_60a (by assumption)) H.size) gX10_home_X10_homeBehind rfl rfl rfl hdV_X10_homeBehind ⟨Nat.le_of_ble_eq_true rfl, Nat.le_of_ble_eq_true rfl⟩ [0, 1, 2, 3, 4, 5, 6, 7, 8, 9, 10, 11, 12, 13, 14, 15, 16, 17] rfl rfl 0 rfl rfl rfl hl.1 (Nat.le_of_ble_eq_true rfl) dX10_home_12 ⟨Nat.le_of_ble_eq_true rfl, Nat.le_of_ble_eq_true rfl⟩) (fun r_3 u_3 H locs hp_3 G => ?_)
    obtain ⟨a_3a, d_3b⟩ := u_3
    have hq_3 := hp_3
    have G : wd X (va_A (@HAppend.hAppend va_W va_W va_W _ (xW h0 nw sp xa la lb) (@HAppend.hAppend va_W va_W va_W _ (rcV X nw an sv dv n0 n1 n2 n3 n4 g0 gs gn gm) (@HAppend.hAppend va_W va_W va_W _ (rnV (xa 8) ag dg) ([((xa 5), .inl (X.2.1, 3, .inl fr))])))) sz) (va_A (@HAppend.hAppend va_W va_W va_W _ (xW h0 nw sp xa la lb) (@HAppend.hAppend va_W va_W va_W _ (rcV X nw an sv dv n0 n1 n2 n3 n4 g0 gs gn gm) (@HAppend.hAppend va_W va_W va_W _ (rnV (xa 8) ag dg) ([((xa 5), .inl (X.2.1, 3, .inl fr))])))) sz) s (@HAppend.hAppend va_W va_W va_W _ ([((xa 5), .inl (X.2.1, 3, .inl fr))]) (@HAppend.hAppend va_W va_W va_W _ (xW h0 nw sp xa la lb) (@HAppend.hAppend va_W va_W va_W _ (rcV X nw an sv dv n0 n1 n2 n3 n4 g0 gs gn gm) (rnV (xa 8) a_3a d_3b)))) H locs := G
    refine lv_goto (tgt := 24) zx zb dX10_home_15 (by decide) ?_
    exact e_int S zr zlk (vp_nar_int _) G (a_3a, d_3b, fr) [1, 2, 3, 4, 5, 6, 7, 8, 9, 10, 11, 12, 13, 14, 15, 16, 17, 18, 0] rfl rfl (Or.inr rfl) (trivial) dX10_home_24
  · refine lv_if_eq (tgt := 18) zx zb dX10_home_5 (by decide) (fun c_4 => ?_) (fun c_4 => absurd (by decide) c_4)
    refine lv_aload_n zx zb dX10_home_18 rfl (lv_at hl 0 rfl) ?_
    refine lv_bipush (v := (-2)) zx zb dX10_home_19 (by decide) ?_
    refine b_wi (cells' := 0) (slots' := 0) (wr := @HAppend.hAppend va_W va_W va_W _ (rcV X nw an sv dv n0 n1 n2 n3 n4 g0 gs gn gm) (rnV (xa 8) ag dg)) G rfl rfl [0, 18] [1, 2, 3, 4, 5, 6, 7, 8, 9, 10, 11, 12, 13, 14, 15, 16, 17] rfl rfl rfl rfl (n_V (As := [.int (-2)]) (rest := []) (C := RX10) (T := TX10) (N := 14) (ci := 8) S G (s_refuse l X h0 nw sp xa la lb fr (-2) H.size) gX10_home_X10_refuse rfl rfl rfl hdV_X10_refuse ⟨Nat.le_of_ble_eq_true rfl, Nat.le_of_ble_eq_true rfl⟩ [0, 18] rfl rfl 0 rfl rfl rfl hl.1 (Nat.le_of_ble_eq_true rfl) dX10_home_21 ⟨Nat.le_of_ble_eq_true rfl, Nat.le_of_ble_eq_true rfl⟩) (fun r_5 u_5 H locs hp_5 G => ?_)
    obtain ⟨f_5, rfl⟩ : ∃ z, z = u_5 := ⟨_, rfl⟩
    have hq_5 := hp_5
    have G : wd X (va_A (@HAppend.hAppend va_W va_W va_W _ (xW h0 nw sp xa la lb) (@HAppend.hAppend va_W va_W va_W _ (rcV X nw an sv dv n0 n1 n2 n3 n4 g0 gs gn gm) (@HAppend.hAppend va_W va_W va_W _ (rnV (xa 8) ag dg) ([((xa 5), .inl (X.2.1, 3, .inl fr))])))) sz) (va_A (@HAppend.hAppend va_W va_W va_W _ (xW h0 nw sp xa la lb) (@HAppend.hAppend va_W va_W va_W _ (rcV X nw an sv dv n0 n1 n2 n3 n4 g0 gs gn gm) (@HAppend.hAppend va_W va_W va_W _ (rnV (xa 8) ag dg) ([((xa 5), .inl (X.2.1, 3, .inl fr))])))) sz) s (@HAppend.hAppend va_W va_W va_W _ (rcV X nw an sv dv n0 n1 n2 n3 n4 g0 gs gn gm) (@HAppend.hAppend va_W va_W va_W _ (rnV (xa 8) ag dg) (@HAppend.hAppend va_W va_W va_W _ (xW h0 nw sp xa la lb) ([((xa 5), .inl (X.2.1, 3, .inl f_5))])))) H locs := G
    exact e_int S zr zlk (vp_nar_int _) G (ag, dg, f_5) [17, 0, 1, 2, 3, 4, 5, 6, 7, 8, 9, 10, 11, 12, 13, 14, 15, 16, 18] rfl rfl (Or.inr rfl) (trivial) dX10_home_24
theorem in_X10_first_X10 : ∀ w ∈ wsX100, w ∈ wsX10_first := by decide +kernel
theorem lk_X10_first_10 : Cond.fieldLink RX10 10 "EggSpoons" "now" "LEggSpoons$Race;" ∈ wsX10_first := by decide +kernel
theorem in_X10_first_X5 : ∀ w ∈ wsX50, w ∈ wsX10_first := by decide +kernel
theorem lk_X10_first_87 : Cond.fieldLink RX10 87 "EggSpoons$Race" "runners" "I" ∈ wsX10_first := by decide +kernel
theorem lk_X10_first_126 : Cond.fieldLink RX10 126 "EggSpoons$Race" "row" "[LEggSpoons$Runner;" ∈ wsX10_first := by decide +kernel
set_option maxHeartbeats 4000000 in
set_option maxRecDepth 100000 in
/-- first -/
theorem s_first (l : Launch) (X : EX) (h0 : Nat) (nw : Nat) (sp : Nat) (xa : Nat → Nat) (la : Int64) (lb : Int64) (an : Nat → Nat) (sv : Nat → Int32) (dv : Nat → Int32) (n0 : Nat) (n1 : Nat) (n2 : Nat) (n3 : Nat) (n4 : Nat) (g0 : Nat → Int32) (gs : Nat → Int32) (gn : Nat → Int32) (gm : Nat → Int32) (ag : Nat → Int32) (dg : Nat → Int32) (hI_n0 : n0 ≤ 6) (hI_n1 : n1 ≤ 8) (hI_n2 : n2 ≤ 5) (hI_n3 : n3 ≤ 6) (hI_n4 : n4 ≤ 6) (sz : Nat) : Met l yX10_first wsX10_first ({ frames := 4, cells := 0, slots := 0, locals := 95 } : Room) (pE X [.ref h0] (@HAppend.hAppend va_W va_W va_W _ (xW h0 nw sp xa la lb) (@HAppend.hAppend va_W va_W va_W _ (rcV X nw an sv dv n0 n1 n2 n3 n4 g0 gs gn gm) (rnV (xa 8) ag dg))) sz) (qI (fun (r : Int32) (u : (Nat → Int32) × (Nat → Int32)) => (True)) X (fun (u : (Nat → Int32) × (Nat → Int32)) => @HAppend.hAppend va_W va_W va_W _ (xW h0 nw sp xa la lb) (@HAppend.hAppend va_W va_W va_W _ (rcV X nw an sv dv n0 n1 n2 n3 n4 g0 gs gn gm) (rnV (xa 8) u.1 u.2))) (@HAppend.hAppend va_W va_W va_W _ (xW h0 nw sp xa la lb) (@HAppend.hAppend va_W va_W va_W _ (rcV X nw an sv dv n0 n1 n2 n3 n4 g0 gs gn gm) (rnV (xa 8) ag dg))) sz) 0 0 (va_A (@HAppend.hAppend va_W va_W va_W _ (xW h0 nw sp xa la lb) (@HAppend.hAppend va_W va_W va_W _ (rcV X nw an sv dv n0 n1 n2 n3 n4 g0 gs gn gm) (rnV (xa 8) ag dg))) sz) := by
  refine mk_met (B := (va_A (@HAppend.hAppend va_W va_W va_W _ (xW h0 nw sp xa la lb) (@HAppend.hAppend va_W va_W va_W _ (rcV X nw an sv dv n0 n1 n2 n3 n4 g0 gs gn gm) (rnV (xa 8) ag dg))) sz)) (A := (va_A (@HAppend.hAppend va_W va_W va_W _ (xW h0 nw sp xa la lb) (@HAppend.hAppend va_W va_W va_W _ (rcV X nw an sv dv n0 n1 n2 n3 n4 g0 gs gn gm) (rnV (xa 8) ag dg))) sz)) (cc := cX10_first) (maxL := 5) (ret := (some .int)) (by decide) rfl (Nat.le_of_ble_eq_true rfl) k_w k_a (fun p e s m below meth c S zr zlk znm zsz G ls hl => ?_)
  have S : CallFix p m c cX10_first 5 s _ wsX10_first RX10 := S
  have zx := S.1
  have zb := S.2.1
  have hl : lv_has ls 5 [(0, .ref h0)] := hl
  refine lv_iconst (v := (-1)) zx zb dX10_first_0 (by decide) ?_
  refine lv_istore_n (lv' := [(1, .int (-1)), (0, .ref h0)]) zx zb dX10_first_1 rfl hl (by decide) rfl (fun ls hl => ?_)
  refine lv_bipush (v := 60) zx zb dX10_first_2 (by decide) ?_
  refine lv_istore_n (lv' := [(2, .int 60), (1, .int (-1)), (0, .ref h0)]) zx zb dX10_first_4 rfl hl (by decide) rfl (fun ls hl => ?_)
  refine lv_iconst (v := 0) zx zb dX10_first_5 (by decide) ?_
  refine lv_istore_n (lv' := [(3, .int 0), (2, .int 60), (1, .int (-1)), (0, .ref h0)]) zx zb dX10_first_6 rfl hl (by decide) rfl (fun ls hl => ?_)
  refine k_loop (P := ∀ (zm : Nat) (k7 : Nat) (x7_2 : Int32) (x7_1 : Int32) (a7_2 : Nat → Int32) (d7_2 : Nat → Int32) (H : Heap) (locs : List Loc) (ls : Array Slot), 6 + 1 ≤ k7 + zm → (k7 ≤ 6) → (x7_2 ≤ 60) → wd X (va_A (@HAppend.hAppend va_W va_W va_W _ (xW h0 nw sp xa la lb) (@HAppend.hAppend va_W va_W va_W _ (rcV X nw an sv dv n0 n1 n2 n3 n4 g0 gs gn gm) (rnV (xa 8) ag dg))) sz) (va_A (@HAppend.hAppend va_W va_W va_W _ (xW h0 nw sp xa la lb) (@HAppend.hAppend va_W va_W va_W _ (rcV X nw an sv dv n0 n1 n2 n3 n4 g0 gs gn gm) (rnV (xa 8) ag dg))) sz) s (@HAppend.hAppend va_W va_W va_W _ (xW h0 nw sp xa la lb) (@HAppend.hAppend va_W va_W va_W _ (rcV X nw an sv dv n0 n1 n2 n3 n4 g0 gs gn gm) (rnV (xa 8) a7_2 d7_2))) H locs → lv_has ls 5 [(3, .int (nI k7)), (2, .int x7_2), (1, .int x7_1), (0, .ref h0)] → W p l e _ s m _ below meth c H locs _ _ _ (F0 m 7 ls [])) (fun loop => loop (6 + 1) 0 60 (-1) ag dg _ _ _ (by omega) (by omega) (by first | assumption | decide | exact k_m60 (by assumption)) G hl) ?_
  intro zm
  induction zm with
  | zero => intro k7 x7_2 x7_1 a7_2 d7_2 H locs ls zz q_hk_k7 q_hk_x7_2 _ _; exact absurd zz (by omega)
  | succ zm ih7 =>
    intro k7 x7_2 x7_1 a7_2 d7_2 H locs ls zm_7 hk_k7 hk_x7_2 G hl
    refine lv_iload_n zx zb dX10_first_7 rfl (lv_at hl 0 rfl) ?_
    refine lv_aload_n zx zb dX10_first_8 rfl (lv_at hl 3 rfl) ?_
    refine r_get (C := RX10) (T := TX10) (N := 14) (ci := 8) (v := .ref nw) S in_X10_first_X10 G 0 rfl rfl 0 (by decide) lk_X10_first_10 rfl dX10_first_9 ?_
    refine r_get (C := RX5) (T := TX5) (N := 8) (ci := 3) (v := .int (nI n0)) S in_X10_first_X5 G 1 rfl rfl 2 (by decide) lk_X10_first_87 rfl dX10_first_12 ?_
    refine lv_icmp_ge (tgt := 64) zx zb dX10_first_15 (by decide) (fun c_1 => ?_) (fun c_1 => ?_)
    · have fc_1 := j_le (a := n0) (b := k7) (by omega) (by omega) c_1
      refine lv_iload_n zx zb dX10_first_64 rfl (lv_at hl 2 rfl) ?_
      exact e_int S zr zlk (vp_nar_int _) G (a7_2, d7_2) [0, 1, 2, 3, 4, 5, 6, 7, 8, 9, 10, 11, 12, 13, 14, 15, 16, 17] rfl rfl (Or.inr rfl) (trivial) dX10_first_65
    · have fc_1 := j_nle (a := n0) (b := k7) (by omega) (by omega) c_1
      refine lv_aload_n zx zb dX10_first_18 rfl (lv_at hl 3 rfl) ?_
      refine r_get (C := RX10) (T := TX10) (N := 14) (ci := 8) (v := .ref nw) S in_X10_first_X10 G 0 rfl rfl 0 (by decide) lk_X10_first_10 rfl dX10_first_19 ?_
      refine r_get (C := RX5) (T := TX5) (N := 8) (ci := 3) (v := .ref (an 0)) S in_X10_first_X5 G 1 rfl rfl 3 (by decide) lk_X10_first_126 rfl dX10_first_22 ?_
      refine lv_iload_n zx zb dX10_first_25 rfl (lv_at hl 0 rfl) ?_
      rcases k_6c (show k7 < 6 by omega) with rfl | rfl | rfl | rfl | rfl | rfl
      · refine k_it (v := 0) rfl ?_
        refine r_aald (C := RX8) (b := (an 1)) S G 2 3 rfl rfl (k_vp (by decide)) rfl dX10_first_26 ?_
        refine o_ri (cells' := 0) (slots' := 0) G rfl rfl (n_V (As := []) (rest := []) (C := RX8) (T := TX8) (N := 8) (ci := 6) S G (s_isHome l X (an 1) (fun k => sv (0 + k)) (fun k => dv (10 + k)) H.size) gX10_first_X8_isHome rfl rfl rfl hdV_X8_isHome ⟨Nat.le_of_ble_eq_true rfl, Nat.le_of_ble_eq_true rfl⟩ [3] rfl rfl 3 rfl rfl rfl hl.1 (Nat.le_of_ble_eq_true rfl) dX10_first_27 ⟨Nat.le_of_ble_eq_true rfl, Nat.le_of_ble_eq_true rfl⟩) (fun r_2 u_2 H locs hp_2 G => ?_)
        have G : wd X (va_A (@HAppend.hAppend va_W va_W va_W _ (xW h0 nw sp xa la lb) (@HAppend.hAppend va_W va_W va_W _ (rcV X nw an sv dv n0 n1 n2 n3 n4 g0 gs gn gm) (rnV (xa 8) ag dg))) sz) (va_A (@HAppend.hAppend va_W va_W va_W _ (xW h0 nw sp xa la lb) (@HAppend.hAppend va_W va_W va_W _ (rcV X nw an sv dv n0 n1 n2 n3 n4 g0 gs gn gm) (rnV (xa 8) ag dg))) sz) s (@HAppend.hAppend va_W va_W va_W _ (xW h0 nw sp xa la lb) (@HAppend.hAppend va_W va_W va_W _ (rcV X nw an sv dv n0 n1 n2 n3 n4 g0 gs gn gm) (rnV (xa 8) a7_2 d7_2))) H locs := G
        refine k_cutW (PP := fun Wx => ∀ (x_4 : Int32) (a_5 : Nat → Int32) (d_6 : Nat → Int32) (H : Heap) (locs : List Loc) (ls : Array Slot), ((-1 : Int32) ≤ x_4 ∧ x_4 ≤ 60) → wd X (va_A (@HAppend.hAppend va_W va_W va_W _ (xW h0 nw sp xa la lb) (@HAppend.hAppend va_W va_W va_W _ (rcV X nw an sv dv n0 n1 n2 n3 n4 g0 gs gn gm) (rnV (xa 8) ag dg))) sz) (va_A (@HAppend.hAppend va_W va_W va_W _ (xW h0 nw sp xa la lb) (@HAppend.hAppend va_W va_W va_W _ (rcV X nw an sv dv n0 n1 n2 n3 n4 g0 gs gn gm) (rnV (xa 8) ag dg))) sz) s (@HAppend.hAppend va_W va_W va_W _ (xW h0 nw sp xa la lb) (@HAppend.hAppend va_W va_W va_W _ (rcV X nw an sv dv n0 n1 n2 n3 n4 g0 gs gn gm) (rnV (xa 8) a_5 d_6))) H locs → lv_has ls 5 [(3, .int 0), (2, .int x7_2), (1, .int x7_1), (0, .ref h0)] → Wx (F0 m 43 ls [.int x_4]) H locs) ?_ ?_
        · intro join_30
          refine lv_if_eq (tgt := 37) zx zb dX10_first_30 (by decide) (fun c_3 => ?_) (fun c_3 => ?_)
          · refine lv_aload_n zx zb dX10_first_37 rfl (lv_at hl 3 rfl) ?_
            refine lv_iload_n zx zb dX10_first_38 rfl (lv_at hl 0 rfl) ?_
            refine lv_iload_n zx zb dX10_first_39 rfl (lv_at hl 1 rfl) ?_
            refine b_wi (cells' := 0) (slots' := 0) (wr := []) G rfl rfl [0, 1, 2, 3, 4, 5, 6, 7, 8, 9, 10, 11, 12, 13, 14, 15, 16, 17] [] rfl rfl rfl rfl (n_V (As := [.int 0, .int x7_2]) (rest := []) (C := RX10) (T := TX10) (N := 14) (ci := 8) S G (s_homeBehind l X h0 nw sp xa la lb an sv dv n0 n1 n2 n3 n4 g0 gs gn gm a7_2 d7_2 0 x7_2 hI_n0 hI_n1 hI_n2 hI_n3 hI_n4 (by omega) (by first | decide | assumption | exact k_60a (by assumption)) H.size) gX10_first_X10_homeBehind rfl rfl rfl hdV_X10_homeBehind ⟨Nat.le_of_ble_eq_true rfl, Nat.le_of_ble_eq_true rfl⟩ [0, 1, 2, 3, 4, 5, 6, 7, 8, 9, 10, 11, 12, 13, 14, 15, 16, 17] rfl rfl 0 rfl rfl rfl hl.1 (Nat.le_of_ble_eq_true rfl) dX10_first_40 ⟨Nat.le_of_ble_eq_true rfl, Nat.le_of_ble_eq_true rfl⟩) (fun r_7 u_7 H locs hp_7 G => ?_)
            obtain ⟨a_7a, d_7b⟩ := u_7
            have hq_7 := hp_7
            have G : wd X (va_A (@HAppend.hAppend va_W va_W va_W _ (xW h0 nw sp xa la lb) (@HAppend.hAppend va_W va_W va_W _ (rcV X nw an sv dv n0 n1 n2 n3 n4 g0 gs gn gm) (rnV (xa 8) ag dg))) sz) (va_A (@HAppend.hAppend va_W va_W va_W _ (xW h0 nw sp xa la lb) (@HAppend.hAppend va_W va_W va_W _ (rcV X nw an sv dv n0 n1 n2 n3 n4 g0 gs gn gm) (rnV (xa 8) ag dg))) sz) s (@HAppend.hAppend va_W va_W va_W _ (xW h0 nw sp xa la lb) (@HAppend.hAppend va_W va_W va_W _ (rcV X nw an sv dv n0 n1 n2 n3 n4 g0 gs gn gm) (rnV (xa 8) a_7a d_7b))) H locs := G
            exact join_30 r_7 a_7a d_7b _ _ _ (by first | assumption | decide | exact k_m60 (by assumption)) G hl
          · refine lv_iconst (v := (-1)) zx zb dX10_first_33 (by decide) ?_
            refine lv_goto (tgt := 43) zx zb dX10_first_34 (by decide) ?_
            exact join_30 (-1) a7_2 d7_2 _ _ _ (by first | assumption | decide | exact k_m60 (by assumption)) G hl
        · intro x_4 a_5 d_6 H locs ls hk_x_4 G hl
          refine lv_istore (lv' := [(4, .int x_4), (3, .int 0), (2, .int x7_2), (1, .int x7_1), (0, .ref h0)]) zx zb dX10_first_43 hl (by decide) rfl (fun ls hl => ?_)
          refine lv_iload zx zb dX10_first_45 (lv_at hl 0 rfl) ?_
          refine lv_iconst (v := (-1)) zx zb dX10_first_47 (by decide) ?_
          refine k_cutW (PP := fun Wx => ∀ (x_9 : Int32) (x_10 : Int32) (H : Heap) (locs : List Loc) (ls : Array Slot), (x_9 ≤ 60) → wd X (va_A (@HAppend.hAppend va_W va_W va_W _ (xW h0 nw sp xa la lb) (@HAppend.hAppend va_W va_W va_W _ (rcV X nw an sv dv n0 n1 n2 n3 n4 g0 gs gn gm) (rnV (xa 8) ag dg))) sz) (va_A (@HAppend.hAppend va_W va_W va_W _ (xW h0 nw sp xa la lb) (@HAppend.hAppend va_W va_W va_W _ (rcV X nw an sv dv n0 n1 n2 n3 n4 g0 gs gn gm) (rnV (xa 8) ag dg))) sz) s (@HAppend.hAppend va_W va_W va_W _ (xW h0 nw sp xa la lb) (@HAppend.hAppend va_W va_W va_W _ (rcV X nw an sv dv n0 n1 n2 n3 n4 g0 gs gn gm) (rnV (xa 8) a_5 d_6))) H locs → lv_has ls 5 [(4, .int x_4), (3, .int 0), (2, .int x_9), (1, .int x_10), (0, .ref h0)] → Wx (F0 m 58 ls []) H locs) ?_ ?_
          · intro join_48
            refine lv_icmp_eq (tgt := 58) zx zb dX10_first_48 (by decide) (fun c_8 => ?_) (fun c_8 => ?_)
            · exact join_48 x7_2 x7_1 _ _ _ (by first | assumption | decide | exact k_m60 (by assumption)) G hl
            · refine lv_iload_n zx zb dX10_first_51 rfl (lv_at hl 1 rfl) ?_
              refine lv_istore_n (lv' := [(1, .int 0), (4, .int x_4), (3, .int 0), (2, .int x7_2), (0, .ref h0)]) zx zb dX10_first_52 rfl hl (by decide) rfl (fun ls hl => ?_)
              refine lv_iload zx zb dX10_first_53 (lv_at hl 1 rfl) ?_
              refine lv_iconst (v := 1) zx zb dX10_first_55 (by decide) ?_
              refine r_isub (v := (x_4 - 1)) S rfl dX10_first_56 ?_
              refine lv_istore_n (lv' := [(2, .int (x_4 - 1)), (1, .int 0), (4, .int x_4), (3, .int 0), (0, .ref h0)]) zx zb dX10_first_57 rfl hl (by decide) rfl (fun ls hl => ?_)
              have hl := lv_sub hl (l' := [(4, .int x_4), (3, .int 0), (2, .int (x_4 - 1)), (1, .int 0), (0, .ref h0)]) [2, 3, 0, 1, 4] rfl
              exact join_48 (x_4 - 1) 0 _ _ _ (by first | assumption | decide | exact k_m60 (by assumption)) G hl
          · intro x_9 x_10 H locs ls hk_x_9 G hl
            refine lv_iinc (v := 1) (lv' := [(3, .int 1), (4, .int x_4), (2, .int x_9), (1, .int x_10), (0, .ref h0)]) zx zb dX10_first_58 hl (k := 1) rfl (by decide) (by decide) rfl (fun ls hl => ?_)
            refine lv_goto (tgt := 7) zx zb dX10_first_61 (by decide) ?_
            have hl := lv_sub hl (l' := [(3, .int 1), (2, .int x_9), (1, .int x_10), (0, .ref h0)]) [0, 2, 3, 4] rfl
            exact ih7 1 x_9 x_10 a_5 d_6 _ _ _ (by omega) (by omega) (by first | assumption | decide | exact k_m60 (by assumption)) G hl
      · refine k_it (v := 1) rfl ?_
        refine r_aald (C := RX8) (b := (an 2)) S G 2 3 rfl rfl (k_vp (by decide)) rfl dX10_first_26 ?_
        refine o_ri (cells' := 0) (slots' := 0) G rfl rfl (n_V (As := []) (rest := []) (C := RX8) (T := TX8) (N := 8) (ci := 6) S G (s_isHome l X (an 2) (fun k => sv (3 + k)) (fun k => dv (15 + k)) H.size) gX10_first_X8_isHome rfl rfl rfl hdV_X8_isHome ⟨Nat.le_of_ble_eq_true rfl, Nat.le_of_ble_eq_true rfl⟩ [4] rfl rfl 4 rfl rfl rfl hl.1 (Nat.le_of_ble_eq_true rfl) dX10_first_27 ⟨Nat.le_of_ble_eq_true rfl, Nat.le_of_ble_eq_true rfl⟩) (fun r_11 u_11 H locs hp_11 G => ?_)
        have G : wd X (va_A (@HAppend.hAppend va_W va_W va_W _ (xW h0 nw sp xa la lb) (@HAppend.hAppend va_W va_W va_W _ (rcV X nw an sv dv n0 n1 n2 n3 n4 g0 gs gn gm) (rnV (xa 8) ag dg))) sz) (va_A (@HAppend.hAppend va_W va_W va_W _ (xW h0 nw sp xa la lb) (@HAppend.hAppend va_W va_W va_W _ (rcV X nw an sv dv n0 n1 n2 n3 n4 g0 gs gn gm) (rnV (xa 8) ag dg))) sz) s (@HAppend.hAppend va_W va_W va_W _ (xW h0 nw sp xa la lb) (@HAppend.hAppend va_W va_W va_W _ (rcV X nw an sv dv n0 n1 n2 n3 n4 g0 gs gn gm) (rnV (xa 8) a7_2 d7_2))) H locs := G
        refine k_cutW (PP := fun Wx => ∀ (x_13 : Int32) (a_14 : Nat → Int32) (d_15 : Nat → Int32) (H : Heap) (locs : List Loc) (ls : Array Slot), ((-1 : Int32) ≤ x_13 ∧ x_13 ≤ 60) → wd X (va_A (@HAppend.hAppend va_W va_W va_W _ (xW h0 nw sp xa la lb) (@HAppend.hAppend va_W va_W va_W _ (rcV X nw an sv dv n0 n1 n2 n3 n4 g0 gs gn gm) (rnV (xa 8) ag dg))) sz) (va_A (@HAppend.hAppend va_W va_W va_W _ (xW h0 nw sp xa la lb) (@HAppend.hAppend va_W va_W va_W _ (rcV X nw an sv dv n0 n1 n2 n3 n4 g0 gs gn gm) (rnV (xa 8) ag dg))) sz) s (@HAppend.hAppend va_W va_W va_W _ (xW h0 nw sp xa la lb) (@HAppend.hAppend va_W va_W va_W _ (rcV X nw an sv dv n0 n1 n2 n3 n4 g0 gs gn gm) (rnV (xa 8) a_14 d_15))) H locs → lv_has ls 5 [(3, .int 1), (2, .int x7_2), (1, .int x7_1), (0, .ref h0)] → Wx (F0 m 43 ls [.int x_13]) H locs) ?_ ?_
        · intro join_30
          refine lv_if_eq (tgt := 37) zx zb dX10_first_30 (by decide) (fun c_12 => ?_) (fun c_12 => ?_)
          · refine lv_aload_n zx zb dX10_first_37 rfl (lv_at hl 3 rfl) ?_
            refine lv_iload_n zx zb dX10_first_38 rfl (lv_at hl 0 rfl) ?_
            refine lv_iload_n zx zb dX10_first_39 rfl (lv_at hl 1 rfl) ?_
            refine b_wi (cells' := 0) (slots' := 0) (wr := []) G rfl rfl [0, 1, 2, 3, 4, 5, 6, 7, 8, 9, 10, 11, 12, 13, 14, 15, 16, 17] [] rfl rfl rfl rfl (n_V (As := [.int 1, .int x7_2]) (rest := []) (C := RX10) (T := TX10) (N := 14) (ci := 8) S G (s_homeBehind l X h0 nw sp xa la lb an sv dv n0 n1 n2 n3 n4 g0 gs gn gm a7_2 d7_2 1 x7_2 hI_n0 hI_n1 hI_n2 hI_n3 hI_n4 (by omega) (by first | decide | assumption | exact k_60a (by assumption)) H.size) gX10_first_X10_homeBehind rfl rfl rfl hdV_X10_homeBehind ⟨Nat.le_of_ble_eq_true rfl, Nat.le_of_ble_eq_true rfl⟩ [0, 1, 2, 3, 4, 5, 6, 7, 8, 9, 10, 11, 12, 13, 14, 15, 16, 17] rfl rfl 0 rfl rfl rfl hl.1 (Nat.le_of_ble_eq_true rfl) dX10_first_40 ⟨Nat.le_of_ble_eq_true rfl, Nat.le_of_ble_eq_true rfl⟩) (fun r_16 u_16 H locs hp_16 G => ?_)
            obtain ⟨a_16a, d_16b⟩ := u_16
            have hq_16 := hp_16
            have G : wd X (va_A (@HAppend.hAppend va_W va_W va_W _ (xW h0 nw sp xa la lb) (@HAppend.hAppend va_W va_W va_W _ (rcV X nw an sv dv n0 n1 n2 n3 n4 g0 gs gn gm) (rnV (xa 8) ag dg))) sz) (va_A (@HAppend.hAppend va_W va_W va_W _ (xW h0 nw sp xa la lb) (@HAppend.hAppend va_W va_W va_W _ (rcV X nw an sv dv n0 n1 n2 n3 n4 g0 gs gn gm) (rnV (xa 8) ag dg))) sz) s (@HAppend.hAppend va_W va_W va_W _ (xW h0 nw sp xa la lb) (@HAppend.hAppend va_W va_W va_W _ (rcV X nw an sv dv n0 n1 n2 n3 n4 g0 gs gn gm) (rnV (xa 8) a_16a d_16b))) H locs := G
            exact join_30 r_16 a_16a d_16b _ _ _ (by first | assumption | decide | exact k_m60 (by assumption)) G hl
          · refine lv_iconst (v := (-1)) zx zb dX10_first_33 (by decide) ?_
            refine lv_goto (tgt := 43) zx zb dX10_first_34 (by decide) ?_
            exact join_30 (-1) a7_2 d7_2 _ _ _ (by first | assumption | decide | exact k_m60 (by assumption)) G hl
        · intro x_13 a_14 d_15 H locs ls hk_x_13 G hl
          refine lv_istore (lv' := [(4, .int x_13), (3, .int 1), (2, .int x7_2), (1, .int x7_1), (0, .ref h0)]) zx zb dX10_first_43 hl (by decide) rfl (fun ls hl => ?_)
          refine lv_iload zx zb dX10_first_45 (lv_at hl 0 rfl) ?_
          refine lv_iconst (v := (-1)) zx zb dX10_first_47 (by decide) ?_
          refine k_cutW (PP := fun Wx => ∀ (x_18 : Int32) (x_19 : Int32) (H : Heap) (locs : List Loc) (ls : Array Slot), (x_18 ≤ 60) → wd X (va_A (@HAppend.hAppend va_W va_W va_W _ (xW h0 nw sp xa la lb) (@HAppend.hAppend va_W va_W va_W _ (rcV X nw an sv dv n0 n1 n2 n3 n4 g0 gs gn gm) (rnV (xa 8) ag dg))) sz) (va_A (@HAppend.hAppend va_W va_W va_W _ (xW h0 nw sp xa la lb) (@HAppend.hAppend va_W va_W va_W _ (rcV X nw an sv dv n0 n1 n2 n3 n4 g0 gs gn gm) (rnV (xa 8) ag dg))) sz) s (@HAppend.hAppend va_W va_W va_W _ (xW h0 nw sp xa la lb) (@HAppend.hAppend va_W va_W va_W _ (rcV X nw an sv dv n0 n1 n2 n3 n4 g0 gs gn gm) (rnV (xa 8) a_14 d_15))) H locs → lv_has ls 5 [(4, .int x_13), (3, .int 1), (2, .int x_18), (1, .int x_19), (0, .ref h0)] → Wx (F0 m 58 ls []) H locs) ?_ ?_
          · intro join_48
            refine lv_icmp_eq (tgt := 58) zx zb dX10_first_48 (by decide) (fun c_17 => ?_) (fun c_17 => ?_)
            · exact join_48 x7_2 x7_1 _ _ _ (by first | assumption | decide | exact k_m60 (by assumption)) G hl
            · refine lv_iload_n zx zb dX10_first_51 rfl (lv_at hl 1 rfl) ?_
              refine lv_istore_n (lv' := [(1, .int 1), (4, .int x_13), (3, .int 1), (2, .int x7_2), (0, .ref h0)]) zx zb dX10_first_52 rfl hl (by decide) rfl (fun ls hl => ?_)
              refine lv_iload zx zb dX10_first_53 (lv_at hl 1 rfl) ?_
              refine lv_iconst (v := 1) zx zb dX10_first_55 (by decide) ?_
              refine r_isub (v := (x_13 - 1)) S rfl dX10_first_56 ?_
              refine lv_istore_n (lv' := [(2, .int (x_13 - 1)), (1, .int 1), (4, .int x_13), (3, .int 1), (0, .ref h0)]) zx zb dX10_first_57 rfl hl (by decide) rfl (fun ls hl => ?_)
              have hl := lv_sub hl (l' := [(4, .int x_13), (3, .int 1), (2, .int (x_13 - 1)), (1, .int 1), (0, .ref h0)]) [2, 3, 0, 1, 4] rfl
              exact join_48 (x_13 - 1) 1 _ _ _ (by first | assumption | decide | exact k_m60 (by assumption)) G hl
          · intro x_18 x_19 H locs ls hk_x_18 G hl
            refine lv_iinc (v := 2) (lv' := [(3, .int 2), (4, .int x_13), (2, .int x_18), (1, .int x_19), (0, .ref h0)]) zx zb dX10_first_58 hl (k := 1) rfl (by decide) (by decide) rfl (fun ls hl => ?_)
            refine lv_goto (tgt := 7) zx zb dX10_first_61 (by decide) ?_
            have hl := lv_sub hl (l' := [(3, .int 2), (2, .int x_18), (1, .int x_19), (0, .ref h0)]) [0, 2, 3, 4] rfl
            exact ih7 2 x_18 x_19 a_14 d_15 _ _ _ (by omega) (by omega) (by first | assumption | decide | exact k_m60 (by assumption)) G hl
      · refine k_it (v := 2) rfl ?_
        refine r_aald (C := RX8) (b := (an 3)) S G 2 3 rfl rfl (k_vp (by decide)) rfl dX10_first_26 ?_
        refine o_ri (cells' := 0) (slots' := 0) G rfl rfl (n_V (As := []) (rest := []) (C := RX8) (T := TX8) (N := 8) (ci := 6) S G (s_isHome l X (an 3) (fun k => sv (6 + k)) (fun k => dv (20 + k)) H.size) gX10_first_X8_isHome rfl rfl rfl hdV_X8_isHome ⟨Nat.le_of_ble_eq_true rfl, Nat.le_of_ble_eq_true rfl⟩ [5] rfl rfl 5 rfl rfl rfl hl.1 (Nat.le_of_ble_eq_true rfl) dX10_first_27 ⟨Nat.le_of_ble_eq_true rfl, Nat.le_of_ble_eq_true rfl⟩) (fun r_20 u_20 H locs hp_20 G => ?_)
        have G : wd X (va_A (@HAppend.hAppend va_W va_W va_W _ (xW h0 nw sp xa la lb) (@HAppend.hAppend va_W va_W va_W _ (rcV X nw an sv dv n0 n1 n2 n3 n4 g0 gs gn gm) (rnV (xa 8) ag dg))) sz) (va_A (@HAppend.hAppend va_W va_W va_W _ (xW h0 nw sp xa la lb) (@HAppend.hAppend va_W va_W va_W _ (rcV X nw an sv dv n0 n1 n2 n3 n4 g0 gs gn gm) (rnV (xa 8) ag dg))) sz) s (@HAppend.hAppend va_W va_W va_W _ (xW h0 nw sp xa la lb) (@HAppend.hAppend va_W va_W va_W _ (rcV X nw an sv dv n0 n1 n2 n3 n4 g0 gs gn gm) (rnV (xa 8) a7_2 d7_2))) H locs := G
        refine k_cutW (PP := fun Wx => ∀ (x_22 : Int32) (a_23 : Nat → Int32) (d_24 : Nat → Int32) (H : Heap) (locs : List Loc) (ls : Array Slot), ((-1 : Int32) ≤ x_22 ∧ x_22 ≤ 60) → wd X (va_A (@HAppend.hAppend va_W va_W va_W _ (xW h0 nw sp xa la lb) (@HAppend.hAppend va_W va_W va_W _ (rcV X nw an sv dv n0 n1 n2 n3 n4 g0 gs gn gm) (rnV (xa 8) ag dg))) sz) (va_A (@HAppend.hAppend va_W va_W va_W _ (xW h0 nw sp xa la lb) (@HAppend.hAppend va_W va_W va_W _ (rcV X nw an sv dv n0 n1 n2 n3 n4 g0 gs gn gm) (rnV (xa 8) ag dg))) sz) s (@HAppend.hAppend va_W va_W va_W _ (xW h0 nw sp xa la lb) (@HAppend.hAppend va_W va_W va_W _ (rcV X nw an sv dv n0 n1 n2 n3 n4 g0 gs gn gm) (rnV (xa 8) a_23 d_24))) H locs → lv_has ls 5 [(3, .int 2), (2, .int x7_2), (1, .int x7_1), (0, .ref h0)] → Wx (F0 m 43 ls [.int x_22]) H locs) ?_ ?_
        · intro join_30
          refine lv_if_eq (tgt := 37) zx zb dX10_first_30 (by decide) (fun c_21 => ?_) (fun c_21 => ?_)
          · refine lv_aload_n zx zb dX10_first_37 rfl (lv_at hl 3 rfl) ?_
            refine lv_iload_n zx zb dX10_first_38 rfl (lv_at hl 0 rfl) ?_
            refine lv_iload_n zx zb dX10_first_39 rfl (lv_at hl 1 rfl) ?_
            refine b_wi (cells' := 0) (slots' := 0) (wr := []) G rfl rfl [0, 1, 2, 3, 4, 5, 6, 7, 8, 9, 10, 11, 12, 13, 14, 15, 16, 17] [] rfl rfl rfl rfl (n_V (As := [.int 2, .int x7_2]) (rest := []) (C := RX10) (T := TX10) (N := 14) (ci := 8) S G (s_homeBehind l X h0 nw sp xa la lb an sv dv n0 n1 n2 n3 n4 g0 gs gn gm a7_2 d7_2 2 x7_2 hI_n0 hI_n1 hI_n2 hI_n3 hI_n4 (by omega) (by first | decide | assumption | exact k_60a (by assumption)) H.size) gX10_first_X10_homeBehind rfl rfl rfl hdV_X10_homeBehind ⟨Nat.le_of_ble_eq_true rfl, Nat.le_of_ble_eq_true rfl⟩ [0, 1, 2, 3, 4, 5, 6, 7, 8, 9, 10, 11, 12, 13, 14, 15, 16, 17] rfl rfl 0 rfl rfl rfl hl.1 (Nat.le_of_ble_eq_true rfl) dX10_first_40 ⟨Nat.le_of_ble_eq_true rfl, Nat.le_of_ble_eq_true rfl⟩) (fun r_25 u_25 H locs hp_25 G => ?_)
            obtain ⟨a_25a, d_25b⟩ := u_25
            have hq_25 := hp_25
            have G : wd X (va_A (@HAppend.hAppend va_W va_W va_W _ (xW h0 nw sp xa la lb) (@HAppend.hAppend va_W va_W va_W _ (rcV X nw an sv dv n0 n1 n2 n3 n4 g0 gs gn gm) (rnV (xa 8) ag dg))) sz) (va_A (@HAppend.hAppend va_W va_W va_W _ (xW h0 nw sp xa la lb) (@HAppend.hAppend va_W va_W va_W _ (rcV X nw an sv dv n0 n1 n2 n3 n4 g0 gs gn gm) (rnV (xa 8) ag dg))) sz) s (@HAppend.hAppend va_W va_W va_W _ (xW h0 nw sp xa la lb) (@HAppend.hAppend va_W va_W va_W _ (rcV X nw an sv dv n0 n1 n2 n3 n4 g0 gs gn gm) (rnV (xa 8) a_25a d_25b))) H locs := G
            exact join_30 r_25 a_25a d_25b _ _ _ (by first | assumption | decide | exact k_m60 (by assumption)) G hl
          · refine lv_iconst (v := (-1)) zx zb dX10_first_33 (by decide) ?_
            refine lv_goto (tgt := 43) zx zb dX10_first_34 (by decide) ?_
            exact join_30 (-1) a7_2 d7_2 _ _ _ (by first | assumption | decide | exact k_m60 (by assumption)) G hl
        · intro x_22 a_23 d_24 H locs ls hk_x_22 G hl
          refine lv_istore (lv' := [(4, .int x_22), (3, .int 2), (2, .int x7_2), (1, .int x7_1), (0, .ref h0)]) zx zb dX10_first_43 hl (by decide) rfl (fun ls hl => ?_)
          refine lv_iload zx zb dX10_first_45 (lv_at hl 0 rfl) ?_
          refine lv_iconst (v := (-1)) zx zb dX10_first_47 (by decide) ?_
          refine k_cutW (PP := fun Wx => ∀ (x_27 : Int32) (x_28 : Int32) (H : Heap) (locs : List Loc) (ls : Array Slot), (x_27 ≤ 60) → wd X (va_A (@HAppend.hAppend va_W va_W va_W _ (xW h0 nw sp xa la lb) (@HAppend.hAppend va_W va_W va_W _ (rcV X nw an sv dv n0 n1 n2 n3 n4 g0 gs gn gm) (rnV (xa 8) ag dg))) sz) (va_A (@HAppend.hAppend va_W va_W va_W _ (xW h0 nw sp xa la lb) (@HAppend.hAppend va_W va_W va_W _ (rcV X nw an sv dv n0 n1 n2 n3 n4 g0 gs gn gm) (rnV (xa 8) ag dg))) sz) s (@HAppend.hAppend va_W va_W va_W _ (xW h0 nw sp xa la lb) (@HAppend.hAppend va_W va_W va_W _ (rcV X nw an sv dv n0 n1 n2 n3 n4 g0 gs gn gm) (rnV (xa 8) a_23 d_24))) H locs → lv_has ls 5 [(4, .int x_22), (3, .int 2), (2, .int x_27), (1, .int x_28), (0, .ref h0)] → Wx (F0 m 58 ls []) H locs) ?_ ?_
          · intro join_48
            refine lv_icmp_eq (tgt := 58) zx zb dX10_first_48 (by decide) (fun c_26 => ?_) (fun c_26 => ?_)
            · exact join_48 x7_2 x7_1 _ _ _ (by first | assumption | decide | exact k_m60 (by assumption)) G hl
            · refine lv_iload_n zx zb dX10_first_51 rfl (lv_at hl 1 rfl) ?_
              refine lv_istore_n (lv' := [(1, .int 2), (4, .int x_22), (3, .int 2), (2, .int x7_2), (0, .ref h0)]) zx zb dX10_first_52 rfl hl (by decide) rfl (fun ls hl => ?_)
              refine lv_iload zx zb dX10_first_53 (lv_at hl 1 rfl) ?_
              refine lv_iconst (v := 1) zx zb dX10_first_55 (by decide) ?_
              refine r_isub (v := (x_22 - 1)) S rfl dX10_first_56 ?_
              refine lv_istore_n (lv' := [(2, .int (x_22 - 1)), (1, .int 2), (4, .int x_22), (3, .int 2), (0, .ref h0)]) zx zb dX10_first_57 rfl hl (by decide) rfl (fun ls hl => ?_)
              have hl := lv_sub hl (l' := [(4, .int x_22), (3, .int 2), (2, .int (x_22 - 1)), (1, .int 2), (0, .ref h0)]) [2, 3, 0, 1, 4] rfl
              exact join_48 (x_22 - 1) 2 _ _ _ (by first | assumption | decide | exact k_m60 (by assumption)) G hl
          · intro x_27 x_28 H locs ls hk_x_27 G hl
            refine lv_iinc (v := 3) (lv' := [(3, .int 3), (4, .int x_22), (2, .int x_27), (1, .int x_28), (0, .ref h0)]) zx zb dX10_first_58 hl (k := 1) rfl (by decide) (by decide) rfl (fun ls hl => ?_)
            refine lv_goto (tgt := 7) zx zb dX10_first_61 (by decide) ?_
            have hl := lv_sub hl (l' := [(3, .int 3), (2, .int x_27), (1, .int x_28), (0, .ref h0)]) [0, 2, 3, 4] rfl
            exact ih7 3 x_27 x_28 a_23 d_24 _ _ _ (by omega) (by omega) (by first | assumption | decide | exact k_m60 (by assumption)) G hl
      · refine k_it (v := 3) rfl ?_
        refine r_aald (C := RX8) (b := (an 4)) S G 2 3 rfl rfl (k_vp (by decide)) rfl dX10_first_26 ?_
        refine o_ri (cells' := 0) (slots' := 0) G rfl rfl (n_V (As := []) (rest := []) (C := RX8) (T := TX8) (N := 8) (ci := 6) S G (s_isHome l X (an 4) (fun k => sv (9 + k)) (fun k => dv (25 + k)) H.size) gX10_first_X8_isHome rfl rfl rfl hdV_X8_isHome ⟨Nat.le_of_ble_eq_true rfl, Nat.le_of_ble_eq_true rfl⟩ [6] rfl rfl 6 rfl rfl rfl hl.1 (Nat.le_of_ble_eq_true rfl) dX10_first_27 ⟨Nat.le_of_ble_eq_true rfl, Nat.le_of_ble_eq_true rfl⟩) (fun r_29 u_29 H locs hp_29 G => ?_)
        have G : wd X (va_A (@HAppend.hAppend va_W va_W va_W _ (xW h0 nw sp xa la lb) (@HAppend.hAppend va_W va_W va_W _ (rcV X nw an sv dv n0 n1 n2 n3 n4 g0 gs gn gm) (rnV (xa 8) ag dg))) sz) (va_A (@HAppend.hAppend va_W va_W va_W _ (xW h0 nw sp xa la lb) (@HAppend.hAppend va_W va_W va_W _ (rcV X nw an sv dv n0 n1 n2 n3 n4 g0 gs gn gm) (rnV (xa 8) ag dg))) sz) s (@HAppend.hAppend va_W va_W va_W _ (xW h0 nw sp xa la lb) (@HAppend.hAppend va_W va_W va_W _ (rcV X nw an sv dv n0 n1 n2 n3 n4 g0 gs gn gm) (rnV (xa 8) a7_2 d7_2))) H locs := G
        refine k_cutW (PP := fun Wx => ∀ (x_31 : Int32) (a_32 : Nat → Int32) (d_33 : Nat → Int32) (H : Heap) (locs : List Loc) (ls : Array Slot), ((-1 : Int32) ≤ x_31 ∧ x_31 ≤ 60) → wd X (va_A (@HAppend.hAppend va_W va_W va_W _ (xW h0 nw sp xa la lb) (@HAppend.hAppend va_W va_W va_W _ (rcV X nw an sv dv n0 n1 n2 n3 n4 g0 gs gn gm) (rnV (xa 8) ag dg))) sz) (va_A (@HAppend.hAppend va_W va_W va_W _ (xW h0 nw sp xa la lb) (@HAppend.hAppend va_W va_W va_W _ (rcV X nw an sv dv n0 n1 n2 n3 n4 g0 gs gn gm) (rnV (xa 8) ag dg))) sz) s (@HAppend.hAppend va_W va_W va_W _ (xW h0 nw sp xa la lb) (@HAppend.hAppend va_W va_W va_W _ (rcV X nw an sv dv n0 n1 n2 n3 n4 g0 gs gn gm) (rnV (xa 8) a_32 d_33))) H locs → lv_has ls 5 [(3, .int 3), (2, .int x7_2), (1, .int x7_1), (0, .ref h0)] → Wx (F0 m 43 ls [.int x_31]) H locs) ?_ ?_
        · intro join_30
          refine lv_if_eq (tgt := 37) zx zb dX10_first_30 (by decide) (fun c_30 => ?_) (fun c_30 => ?_)
          · refine lv_aload_n zx zb dX10_first_37 rfl (lv_at hl 3 rfl) ?_
            refine lv_iload_n zx zb dX10_first_38 rfl (lv_at hl 0 rfl) ?_
            refine lv_iload_n zx zb dX10_first_39 rfl (lv_at hl 1 rfl) ?_
            refine b_wi (cells' := 0) (slots' := 0) (wr := []) G rfl rfl [0, 1, 2, 3, 4, 5, 6, 7, 8, 9, 10, 11, 12, 13, 14, 15, 16, 17] [] rfl rfl rfl rfl (n_V (As := [.int 3, .int x7_2]) (rest := []) (C := RX10) (T := TX10) (N := 14) (ci := 8) S G (s_homeBehind l X h0 nw sp xa la lb an sv dv n0 n1 n2 n3 n4 g0 gs gn gm a7_2 d7_2 3 x7_2 hI_n0 hI_n1 hI_n2 hI_n3 hI_n4 (by omega) (by first | decide | assumption | exact k_60a (by assumption)) H.size) gX10_first_X10_homeBehind rfl rfl rfl hdV_X10_homeBehind ⟨Nat.le_of_ble_eq_true rfl, Nat.le_of_ble_eq_true rfl⟩ [0, 1, 2, 3, 4, 5, 6, 7, 8, 9, 10, 11, 12, 13, 14, 15, 16, 17] rfl rfl 0 rfl rfl rfl hl.1 (Nat.le_of_ble_eq_true rfl) dX10_first_40 ⟨Nat.le_of_ble_eq_true rfl, Nat.le_of_ble_eq_true rfl⟩) (fun r_34 u_34 H locs hp_34 G => ?_)
            obtain ⟨a_34a, d_34b⟩ := u_34
            have hq_34 := hp_34
            have G : wd X (va_A (@HAppend.hAppend va_W va_W va_W _ (xW h0 nw sp xa la lb) (@HAppend.hAppend va_W va_W va_W _ (rcV X nw an sv dv n0 n1 n2 n3 n4 g0 gs gn gm) (rnV (xa 8) ag dg))) sz) (va_A (@HAppend.hAppend va_W va_W va_W _ (xW h0 nw sp xa la lb) (@HAppend.hAppend va_W va_W va_W _ (rcV X nw an sv dv n0 n1 n2 n3 n4 g0 gs gn gm) (rnV (xa 8) ag dg))) sz) s (@HAppend.hAppend va_W va_W va_W _ (xW h0 nw sp xa la lb) (@HAppend.hAppend va_W va_W va_W _ (rcV X nw an sv dv n0 n1 n2 n3 n4 g0 gs gn gm) (rnV (xa 8) a_34a d_34b))) H locs := G
            exact join_30 r_34 a_34a d_34b _ _ _ (by first | assumption | decide | exact k_m60 (by assumption)) G hl
          · refine lv_iconst (v := (-1)) zx zb dX10_first_33 (by decide) ?_
            refine lv_goto (tgt := 43) zx zb dX10_first_34 (by decide) ?_
            exact join_30 (-1) a7_2 d7_2 _ _ _ (by first | assumption | decide | exact k_m60 (by assumption)) G hl
        · intro x_31 a_32 d_33 H locs ls hk_x_31 G hl
          refine lv_istore (lv' := [(4, .int x_31), (3, .int 3), (2, .int x7_2), (1, .int x7_1), (0, .ref h0)]) zx zb dX10_first_43 hl (by decide) rfl (fun ls hl => ?_)
          refine lv_iload zx zb dX10_first_45 (lv_at hl 0 rfl) ?_
          refine lv_iconst (v := (-1)) zx zb dX10_first_47 (by decide) ?_
          refine k_cutW (PP := fun Wx => ∀ (x_36 : Int32) (x_37 : Int32) (H : Heap) (locs : List Loc) (ls : Array Slot), (x_36 ≤ 60) → wd X (va_A (@HAppend.hAppend va_W va_W va_W _ (xW h0 nw sp xa la lb) (@HAppend.hAppend va_W va_W va_W _ (rcV X nw an sv dv n0 n1 n2 n3 n4 g0 gs gn gm) (rnV (xa 8) ag dg))) sz) (va_A (@HAppend.hAppend va_W va_W va_W _ (xW h0 nw sp xa la lb) (@HAppend.hAppend va_W va_W va_W _ (rcV X nw an sv dv n0 n1 n2 n3 n4 g0 gs gn gm) (rnV (xa 8) ag dg))) sz) s (@HAppend.hAppend va_W va_W va_W _ (xW h0 nw sp xa la lb) (@HAppend.hAppend va_W va_W va_W _ (rcV X nw an sv dv n0 n1 n2 n3 n4 g0 gs gn gm) (rnV (xa 8) a_32 d_33))) H locs → lv_has ls 5 [(4, .int x_31), (3, .int 3), (2, .int x_36), (1, .int x_37), (0, .ref h0)] → Wx (F0 m 58 ls []) H locs) ?_ ?_
          · intro join_48
            refine lv_icmp_eq (tgt := 58) zx zb dX10_first_48 (by decide) (fun c_35 => ?_) (fun c_35 => ?_)
            · exact join_48 x7_2 x7_1 _ _ _ (by first | assumption | decide | exact k_m60 (by assumption)) G hl
            · refine lv_iload_n zx zb dX10_first_51 rfl (lv_at hl 1 rfl) ?_
              refine lv_istore_n (lv' := [(1, .int 3), (4, .int x_31), (3, .int 3), (2, .int x7_2), (0, .ref h0)]) zx zb dX10_first_52 rfl hl (by decide) rfl (fun ls hl => ?_)
              refine lv_iload zx zb dX10_first_53 (lv_at hl 1 rfl) ?_
              refine lv_iconst (v := 1) zx zb dX10_first_55 (by decide) ?_
              refine r_isub (v := (x_31 - 1)) S rfl dX10_first_56 ?_
              refine lv_istore_n (lv' := [(2, .int (x_31 - 1)), (1, .int 3), (4, .int x_31), (3, .int 3), (0, .ref h0)]) zx zb dX10_first_57 rfl hl (by decide) rfl (fun ls hl => ?_)
              have hl := lv_sub hl (l' := [(4, .int x_31), (3, .int 3), (2, .int (x_31 - 1)), (1, .int 3), (0, .ref h0)]) [2, 3, 0, 1, 4] rfl
              exact join_48 (x_31 - 1) 3 _ _ _ (by first | assumption | decide | exact k_m60 (by assumption)) G hl
          · intro x_36 x_37 H locs ls hk_x_36 G hl
            refine lv_iinc (v := 4) (lv' := [(3, .int 4), (4, .int x_31), (2, .int x_36), (1, .int x_37), (0, .ref h0)]) zx zb dX10_first_58 hl (k := 1) rfl (by decide) (by decide) rfl (fun ls hl => ?_)
            refine lv_goto (tgt := 7) zx zb dX10_first_61 (by decide) ?_
            have hl := lv_sub hl (l' := [(3, .int 4), (2, .int x_36), (1, .int x_37), (0, .ref h0)]) [0, 2, 3, 4] rfl
            exact ih7 4 x_36 x_37 a_32 d_33 _ _ _ (by omega) (by omega) (by first | assumption | decide | exact k_m60 (by assumption)) G hl
      · refine k_it (v := 4) rfl ?_
        refine r_aald (C := RX8) (b := (an 5)) S G 2 3 rfl rfl (k_vp (by decide)) rfl dX10_first_26 ?_
        refine o_ri (cells' := 0) (slots' := 0) G rfl rfl (n_V (As := []) (rest := []) (C := RX8) (T := TX8) (N := 8) (ci := 6) S G (s_isHome l X (an 5) (fun k => sv (12 + k)) (fun k => dv (30 + k)) H.size) gX10_first_X8_isHome rfl rfl rfl hdV_X8_isHome ⟨Nat.le_of_ble_eq_true rfl, Nat.le_of_ble_eq_true rfl⟩ [7] rfl rfl 7 rfl rfl rfl hl.1 (Nat.le_of_ble_eq_true rfl) dX10_first_27 ⟨Nat.le_of_ble_eq_true rfl, Nat.le_of_ble_eq_true rfl⟩) (fun r_38 u_38 H locs hp_38 G => ?_)
        have G : wd X (va_A (@HAppend.hAppend va_W va_W va_W _ (xW h0 nw sp xa la lb) (@HAppend.hAppend va_W va_W va_W _ (rcV X nw an sv dv n0 n1 n2 n3 n4 g0 gs gn gm) (rnV (xa 8) ag dg))) sz) (va_A (@HAppend.hAppend va_W va_W va_W _ (xW h0 nw sp xa la lb) (@HAppend.hAppend va_W va_W va_W _ (rcV X nw an sv dv n0 n1 n2 n3 n4 g0 gs gn gm) (rnV (xa 8) ag dg))) sz) s (@HAppend.hAppend va_W va_W va_W _ (xW h0 nw sp xa la lb) (@HAppend.hAppend va_W va_W va_W _ (rcV X nw an sv dv n0 n1 n2 n3 n4 g0 gs gn gm) (rnV (xa 8) a7_2 d7_2))) H locs := G
        refine k_cutW (PP := fun Wx => ∀ (x_40 : Int32) (a_41 : Nat → Int32) (d_42 : Nat → Int32) (H : Heap) (locs : List Loc) (ls : Array Slot), ((-1 : Int32) ≤ x_40 ∧ x_40 ≤ 60) → wd X (va_A (@HAppend.hAppend va_W va_W va_W _ (xW h0 nw sp xa la lb) (@HAppend.hAppend va_W va_W va_W _ (rcV X nw an sv dv n0 n1 n2 n3 n4 g0 gs gn gm) (rnV (xa 8) ag dg))) sz) (va_A (@HAppend.hAppend va_W va_W va_W _ (xW h0 nw sp xa la lb) (@HAppend.hAppend va_W va_W va_W _ (rcV X nw an sv dv n0 n1 n2 n3 n4 g0 gs gn gm) (rnV (xa 8) ag dg))) sz) s (@HAppend.hAppend va_W va_W va_W _ (xW h0 nw sp xa la lb) (@HAppend.hAppend va_W va_W va_W _ (rcV X nw an sv dv n0 n1 n2 n3 n4 g0 gs gn gm) (rnV (xa 8) a_41 d_42))) H locs → lv_has ls 5 [(3, .int 4), (2, .int x7_2), (1, .int x7_1), (0, .ref h0)] → Wx (F0 m 43 ls [.int x_40]) H locs) ?_ ?_
        · intro join_30
          refine lv_if_eq (tgt := 37) zx zb dX10_first_30 (by decide) (fun c_39 => ?_) (fun c_39 => ?_)
          · refine lv_aload_n zx zb dX10_first_37 rfl (lv_at hl 3 rfl) ?_
            refine lv_iload_n zx zb dX10_first_38 rfl (lv_at hl 0 rfl) ?_
            refine lv_iload_n zx zb dX10_first_39 rfl (lv_at hl 1 rfl) ?_
            refine b_wi (cells' := 0) (slots' := 0) (wr := []) G rfl rfl [0, 1, 2, 3, 4, 5, 6, 7, 8, 9, 10, 11, 12, 13, 14, 15, 16, 17] [] rfl rfl rfl rfl (n_V (As := [.int 4, .int x7_2]) (rest := []) (C := RX10) (T := TX10) (N := 14) (ci := 8) S G (s_homeBehind l X h0 nw sp xa la lb an sv dv n0 n1 n2 n3 n4 g0 gs gn gm a7_2 d7_2 4 x7_2 hI_n0 hI_n1 hI_n2 hI_n3 hI_n4 (by omega) (by first | decide | assumption | exact k_60a (by assumption)) H.size) gX10_first_X10_homeBehind rfl rfl rfl hdV_X10_homeBehind ⟨Nat.le_of_ble_eq_true rfl, Nat.le_of_ble_eq_true rfl⟩ [0, 1, 2, 3, 4, 5, 6, 7, 8, 9, 10, 11, 12, 13, 14, 15, 16, 17] rfl rfl 0 rfl rfl rfl hl.1 (Nat.le_of_ble_eq_true rfl) dX10_first_40 ⟨Nat.le_of_ble_eq_true rfl, Nat.le_of_ble_eq_true rfl⟩) (fun r_43 u_43 H locs hp_43 G => ?_)
            obtain ⟨a_43a, d_43b⟩ := u_43
            have hq_43 := hp_43
            have G : wd X (va_A (@HAppend.hAppend va_W va_W va_W _ (xW h0 nw sp xa la lb) (@HAppend.hAppend va_W va_W va_W _ (rcV X nw an sv dv n0 n1 n2 n3 n4 g0 gs gn gm) (rnV (xa 8) ag dg))) sz) (va_A (@HAppend.hAppend va_W va_W va_W _ (xW h0 nw sp xa la lb) (@HAppend.hAppend va_W va_W va_W _ (rcV X nw an sv dv n0 n1 n2 n3 n4 g0 gs gn gm) (rnV (xa 8) ag dg))) sz) s (@HAppend.hAppend va_W va_W va_W _ (xW h0 nw sp xa la lb) (@HAppend.hAppend va_W va_W va_W _ (rcV X nw an sv dv n0 n1 n2 n3 n4 g0 gs gn gm) (rnV (xa 8) a_43a d_43b))) H locs := G
            exact join_30 r_43 a_43a d_43b _ _ _ (by first | assumption | decide | exact k_m60 (by assumption)) G hl
          · refine lv_iconst (v := (-1)) zx zb dX10_first_33 (by decide) ?_
            refine lv_goto (tgt := 43) zx zb dX10_first_34 (by decide) ?_
            exact join_30 (-1) a7_2 d7_2 _ _ _ (by first | assumption | decide | exact k_m60 (by assumption)) G hl
        · intro x_40 a_41 d_42 H locs ls hk_x_40 G hl
          refine lv_istore (lv' := [(4, .int x_40), (3, .int 4), (2, .int x7_2), (1, .int x7_1), (0, .ref h0)]) zx zb dX10_first_43 hl (by decide) rfl (fun ls hl => ?_)
          refine lv_iload zx zb dX10_first_45 (lv_at hl 0 rfl) ?_
          refine lv_iconst (v := (-1)) zx zb dX10_first_47 (by decide) ?_
          refine k_cutW (PP := fun Wx => ∀ (x_45 : Int32) (x_46 : Int32) (H : Heap) (locs : List Loc) (ls : Array Slot), (x_45 ≤ 60) → wd X (va_A (@HAppend.hAppend va_W va_W va_W _ (xW h0 nw sp xa la lb) (@HAppend.hAppend va_W va_W va_W _ (rcV X nw an sv dv n0 n1 n2 n3 n4 g0 gs gn gm) (rnV (xa 8) ag dg))) sz) (va_A (@HAppend.hAppend va_W va_W va_W _ (xW h0 nw sp xa la lb) (@HAppend.hAppend va_W va_W va_W _ (rcV X nw an sv dv n0 n1 n2 n3 n4 g0 gs gn gm) (rnV (xa 8) ag dg))) sz) s (@HAppend.hAppend va_W va_W va_W _ (xW h0 nw sp xa la lb) (@HAppend.hAppend va_W va_W va_W _ (rcV X nw an sv dv n0 n1 n2 n3 n4 g0 gs gn gm) (rnV (xa 8) a_41 d_42))) H locs → lv_has ls 5 [(4, .int x_40), (3, .int 4), (2, .int x_45), (1, .int x_46), (0, .ref h0)] → Wx (F0 m 58 ls []) H locs) ?_ ?_
          · intro join_48
            refine lv_icmp_eq (tgt := 58) zx zb dX10_first_48 (by decide) (fun c_44 => ?_) (fun c_44 => ?_)
            · exact join_48 x7_2 x7_1 _ _ _ (by first | assumption | decide | exact k_m60 (by assumption)) G hl
            · refine lv_iload_n zx zb dX10_first_51 rfl (lv_at hl 1 rfl) ?_
              refine lv_istore_n (lv' := [(1, .int 4), (4, .int x_40), (3, .int 4), (2, .int x7_2), (0, .ref h0)]) zx zb dX10_first_52 rfl hl (by decide) rfl (fun ls hl => ?_)
              refine lv_iload zx zb dX10_first_53 (lv_at hl 1 rfl) ?_
              refine lv_iconst (v := 1) zx zb dX10_first_55 (by decide) ?_
              refine r_isub (v := (x_40 - 1)) S rfl dX10_first_56 ?_
              refine lv_istore_n (lv' := [(2, .int (x_40 - 1)), (1, .int 4), (4, .int x_40), (3, .int 4), (0, .ref h0)]) zx zb dX10_first_57 rfl hl (by decide) rfl (fun ls hl => ?_)
              have hl := lv_sub hl (l' := [(4, .int x_40), (3, .int 4), (2, .int (x_40 - 1)), (1, .int 4), (0, .ref h0)]) [2, 3, 0, 1, 4] rfl
              exact join_48 (x_40 - 1) 4 _ _ _ (by first | assumption | decide | exact k_m60 (by assumption)) G hl
          · intro x_45 x_46 H locs ls hk_x_45 G hl
            refine lv_iinc (v := 5) (lv' := [(3, .int 5), (4, .int x_40), (2, .int x_45), (1, .int x_46), (0, .ref h0)]) zx zb dX10_first_58 hl (k := 1) rfl (by decide) (by decide) rfl (fun ls hl => ?_)
            refine lv_goto (tgt := 7) zx zb dX10_first_61 (by decide) ?_
            have hl := lv_sub hl (l' := [(3, .int 5), (2, .int x_45), (1, .int x_46), (0, .ref h0)]) [0, 2, 3, 4] rfl
            exact ih7 5 x_45 x_46 a_41 d_42 _ _ _ (by omega) (by omega) (by first | assumption | decide | exact k_m60 (by assumption)) G hl
      · refine k_it (v := 5) rfl ?_
        refine r_aald (C := RX8) (b := (an 6)) S G 2 3 rfl rfl (k_vp (by decide)) rfl dX10_first_26 ?_
        refine o_ri (cells' := 0) (slots' := 0) G rfl rfl (n_V (As := []) (rest := []) (C := RX8) (T := TX8) (N := 8) (ci := 6) S G (s_isHome l X (an 6) (fun k => sv (15 + k)) (fun k => dv (35 + k)) H.size) gX10_first_X8_isHome rfl rfl rfl hdV_X8_isHome ⟨Nat.le_of_ble_eq_true rfl, Nat.le_of_ble_eq_true rfl⟩ [8] rfl rfl 8 rfl rfl rfl hl.1 (Nat.le_of_ble_eq_true rfl) dX10_first_27 ⟨Nat.le_of_ble_eq_true rfl, Nat.le_of_ble_eq_true rfl⟩) (fun r_47 u_47 H locs hp_47 G => ?_)
        have G : wd X (va_A (@HAppend.hAppend va_W va_W va_W _ (xW h0 nw sp xa la lb) (@HAppend.hAppend va_W va_W va_W _ (rcV X nw an sv dv n0 n1 n2 n3 n4 g0 gs gn gm) (rnV (xa 8) ag dg))) sz) (va_A (@HAppend.hAppend va_W va_W va_W _ (xW h0 nw sp xa la lb) (@HAppend.hAppend va_W va_W va_W _ (rcV X nw an sv dv n0 n1 n2 n3 n4 g0 gs gn gm) (rnV (xa 8) ag dg))) sz) s (@HAppend.hAppend va_W va_W va_W _ (xW h0 nw sp xa la lb) (@HAppend.hAppend va_W va_W va_W _ (rcV X nw an sv dv n0 n1 n2 n3 n4 g0 gs gn gm) (rnV (xa 8) a7_2 d7_2))) H locs := G
        refine k_cutW (PP := fun Wx => ∀ (x_49 : Int32) (a_50 : Nat → Int32) (d_51 : Nat → Int32) (H : Heap) (locs : List Loc) (ls : Array Slot), ((-1 : Int32) ≤ x_49 ∧ x_49 ≤ 60) → wd X (va_A (@HAppend.hAppend va_W va_W va_W _ (xW h0 nw sp xa la lb) (@HAppend.hAppend va_W va_W va_W _ (rcV X nw an sv dv n0 n1 n2 n3 n4 g0 gs gn gm) (rnV (xa 8) ag dg))) sz) (va_A (@HAppend.hAppend va_W va_W va_W _ (xW h0 nw sp xa la lb) (@HAppend.hAppend va_W va_W va_W _ (rcV X nw an sv dv n0 n1 n2 n3 n4 g0 gs gn gm) (rnV (xa 8) ag dg))) sz) s (@HAppend.hAppend va_W va_W va_W _ (xW h0 nw sp xa la lb) (@HAppend.hAppend va_W va_W va_W _ (rcV X nw an sv dv n0 n1 n2 n3 n4 g0 gs gn gm) (rnV (xa 8) a_50 d_51))) H locs → lv_has ls 5 [(3, .int 5), (2, .int x7_2), (1, .int x7_1), (0, .ref h0)] → Wx (F0 m 43 ls [.int x_49]) H locs) ?_ ?_
        · intro join_30
          refine lv_if_eq (tgt := 37) zx zb dX10_first_30 (by decide) (fun c_48 => ?_) (fun c_48 => ?_)
          · refine lv_aload_n zx zb dX10_first_37 rfl (lv_at hl 3 rfl) ?_
            refine lv_iload_n zx zb dX10_first_38 rfl (lv_at hl 0 rfl) ?_
            refine lv_iload_n zx zb dX10_first_39 rfl (lv_at hl 1 rfl) ?_
            refine b_wi (cells' := 0) (slots' := 0) (wr := []) G rfl rfl [0, 1, 2, 3, 4, 5, 6, 7, 8, 9, 10, 11, 12, 13, 14, 15, 16, 17] [] rfl rfl rfl rfl (n_V (As := [.int 5, .int x7_2]) (rest := []) (C := RX10) (T := TX10) (N := 14) (ci := 8) S G (s_homeBehind l X h0 nw sp xa la lb an sv dv n0 n1 n2 n3 n4 g0 gs gn gm a7_2 d7_2 5 x7_2 hI_n0 hI_n1 hI_n2 hI_n3 hI_n4 (by omega) (by first | decide | assumption | exact k_60a (by assumption)) H.size) gX10_first_X10_homeBehind rfl rfl rfl hdV_X10_homeBehind ⟨Nat.le_of_ble_eq_true rfl, Nat.le_of_ble_eq_true rfl⟩ [0, 1, 2, 3, 4, 5, 6, 7, 8, 9, 10, 11, 12, 13, 14, 15, 16, 17] rfl rfl 0 rfl rfl rfl hl.1 (Nat.le_of_ble_eq_true rfl) dX10_first_40 ⟨Nat.le_of_ble_eq_true rfl, Nat.le_of_ble_eq_true rfl⟩) (fun r_52 u_52 H locs hp_52 G => ?_)
            obtain ⟨a_52a, d_52b⟩ := u_52
            have hq_52 := hp_52
            have G : wd X (va_A (@HAppend.hAppend va_W va_W va_W _ (xW h0 nw sp xa la lb) (@HAppend.hAppend va_W va_W va_W _ (rcV X nw an sv dv n0 n1 n2 n3 n4 g0 gs gn gm) (rnV (xa 8) ag dg))) sz) (va_A (@HAppend.hAppend va_W va_W va_W _ (xW h0 nw sp xa la lb) (@HAppend.hAppend va_W va_W va_W _ (rcV X nw an sv dv n0 n1 n2 n3 n4 g0 gs gn gm) (rnV (xa 8) ag dg))) sz) s (@HAppend.hAppend va_W va_W va_W _ (xW h0 nw sp xa la lb) (@HAppend.hAppend va_W va_W va_W _ (rcV X nw an sv dv n0 n1 n2 n3 n4 g0 gs gn gm) (rnV (xa 8) a_52a d_52b))) H locs := G
            exact join_30 r_52 a_52a d_52b _ _ _ (by first | assumption | decide | exact k_m60 (by assumption)) G hl
          · refine lv_iconst (v := (-1)) zx zb dX10_first_33 (by decide) ?_
            refine lv_goto (tgt := 43) zx zb dX10_first_34 (by decide) ?_
            exact join_30 (-1) a7_2 d7_2 _ _ _ (by first | assumption | decide | exact k_m60 (by assumption)) G hl
        · intro x_49 a_50 d_51 H locs ls hk_x_49 G hl
          refine lv_istore (lv' := [(4, .int x_49), (3, .int 5), (2, .int x7_2), (1, .int x7_1), (0, .ref h0)]) zx zb dX10_first_43 hl (by decide) rfl (fun ls hl => ?_)
          refine lv_iload zx zb dX10_first_45 (lv_at hl 0 rfl) ?_
          refine lv_iconst (v := (-1)) zx zb dX10_first_47 (by decide) ?_
          refine k_cutW (PP := fun Wx => ∀ (x_54 : Int32) (x_55 : Int32) (H : Heap) (locs : List Loc) (ls : Array Slot), (x_54 ≤ 60) → wd X (va_A (@HAppend.hAppend va_W va_W va_W _ (xW h0 nw sp xa la lb) (@HAppend.hAppend va_W va_W va_W _ (rcV X nw an sv dv n0 n1 n2 n3 n4 g0 gs gn gm) (rnV (xa 8) ag dg))) sz) (va_A (@HAppend.hAppend va_W va_W va_W _ (xW h0 nw sp xa la lb) (@HAppend.hAppend va_W va_W va_W _ (rcV X nw an sv dv n0 n1 n2 n3 n4 g0 gs gn gm) (rnV (xa 8) ag dg))) sz) s (@HAppend.hAppend va_W va_W va_W _ (xW h0 nw sp xa la lb) (@HAppend.hAppend va_W va_W va_W _ (rcV X nw an sv dv n0 n1 n2 n3 n4 g0 gs gn gm) (rnV (xa 8) a_50 d_51))) H locs → lv_has ls 5 [(4, .int x_49), (3, .int 5), (2, .int x_54), (1, .int x_55), (0, .ref h0)] → Wx (F0 m 58 ls []) H locs) ?_ ?_
          · intro join_48
            refine lv_icmp_eq (tgt := 58) zx zb dX10_first_48 (by decide) (fun c_53 => ?_) (fun c_53 => ?_)
            · exact join_48 x7_2 x7_1 _ _ _ (by first | assumption | decide | exact k_m60 (by assumption)) G hl
            · refine lv_iload_n zx zb dX10_first_51 rfl (lv_at hl 1 rfl) ?_
              refine lv_istore_n (lv' := [(1, .int 5), (4, .int x_49), (3, .int 5), (2, .int x7_2), (0, .ref h0)]) zx zb dX10_first_52 rfl hl (by decide) rfl (fun ls hl => ?_)
              refine lv_iload zx zb dX10_first_53 (lv_at hl 1 rfl) ?_
              refine lv_iconst (v := 1) zx zb dX10_first_55 (by decide) ?_
              refine r_isub (v := (x_49 - 1)) S rfl dX10_first_56 ?_
              refine lv_istore_n (lv' := [(2, .int (x_49 - 1)), (1, .int 5), (4, .int x_49), (3, .int 5), (0, .ref h0)]) zx zb dX10_first_57 rfl hl (by decide) rfl (fun ls hl => ?_)
              have hl := lv_sub hl (l' := [(4, .int x_49), (3, .int 5), (2, .int (x_49 - 1)), (1, .int 5), (0, .ref h0)]) [2, 3, 0, 1, 4] rfl
              exact join_48 (x_49 - 1) 5 _ _ _ (by first | assumption | decide | exact k_m60 (by assumption)) G hl
          · intro x_54 x_55 H locs ls hk_x_54 G hl
            refine lv_iinc (v := 6) (lv' := [(3, .int 6), (4, .int x_49), (2, .int x_54), (1, .int x_55), (0, .ref h0)]) zx zb dX10_first_58 hl (k := 1) rfl (by decide) (by decide) rfl (fun ls hl => ?_)
            refine lv_goto (tgt := 7) zx zb dX10_first_61 (by decide) ?_
            have hl := lv_sub hl (l' := [(3, .int 6), (2, .int x_54), (1, .int x_55), (0, .ref h0)]) [0, 2, 3, 4] rfl
            exact ih7 6 x_54 x_55 a_50 d_51 _ _ _ (by omega) (by omega) (by first | assumption | decide | exact k_m60 (by assumption)) G hl
set_option maxHeartbeats 4000000 in
set_option maxRecDepth 100000 in
/-- areTwo -/
theorem s_areTwo (l : Launch) (X : EX) (h0 : Nat) (nw : Nat) (sp : Nat) (xa : Nat → Nat) (la : Int64) (lb : Int64) (an : Nat → Nat) (sv : Nat → Int32) (dv : Nat → Int32) (n0 : Nat) (n1 : Nat) (n2 : Nat) (n3 : Nat) (n4 : Nat) (g0 : Nat → Int32) (gs : Nat → Int32) (gn : Nat → Int32) (gm : Nat → Int32) (i : Int32) (j : Int32) (hI_n0 : n0 ≤ 6) (hI_n1 : n1 ≤ 8) (hI_n2 : n2 ≤ 5) (hI_n3 : n3 ≤ 6) (hI_n4 : n4 ≤ 6) (sz : Nat) : Met l yX10_areTwo wsX10_areTwo ({ frames := 1, cells := 0, slots := 0, locals := 21 } : Room) (pE X [.ref h0, .int i, .int j] (@HAppend.hAppend va_W va_W va_W _ (xW h0 nw sp xa la lb) (rcV X nw an sv dv n0 n1 n2 n3 n4 g0 gs gn gm)) sz) (qI (fun (r : Int32) (u : Unit) => (r = 1 ∧ (∃ a : Nat, a < n0 ∧ i = nI a) ∧ ∃ a : Nat, a < n0 ∧ j = nI a) ∨ r = 0) X (fun (u : Unit) => []) [] sz) 0 0 (va_A [] sz) := by
  refine mk_met (B := (fun _ => True)) (A := (va_A [] sz)) (cc := cX10_areTwo) (maxL := 3) (ret := (some .boolean)) (by decide) rfl (Nat.le_of_ble_eq_true rfl) k_ro k_a (fun p e s m below meth c S zr zlk znm zsz G ls hl => ?_)
  have S : CallFix p m c cX10_areTwo 3 s _ wsX10_areTwo RX10 := S
  have zx := S.1
  have zb := S.2.1
  have hl : lv_has ls 3 [(0, .ref h0), (1, .int i), (2, .int j)] := hl
  refine lv_aload_n zx zb dX10_areTwo_0 rfl (lv_at hl 0 rfl) ?_
  refine lv_iload_n zx zb dX10_areTwo_1 rfl (lv_at hl 1 rfl) ?_
  refine o_ri (cells' := 0) (slots' := 0) G rfl rfl (n_V (As := [.int i]) (rest := []) (C := RX10) (T := TX10) (N := 14) (ci := 8) S G (s_there l X h0 nw sp xa la lb an sv dv n0 n1 n2 n3 n4 g0 gs gn gm i hI_n0 hI_n1 hI_n2 hI_n3 hI_n4 s.heap.size) gX10_areTwo_X10_there rfl rfl rfl hdV_X10_there ⟨Nat.le_of_ble_eq_true rfl, Nat.le_of_ble_eq_true rfl⟩ [0, 1, 2, 3, 4, 5, 6, 7, 8, 9, 10, 11, 12, 13, 14, 15, 16] rfl rfl 0 rfl rfl rfl hl.1 (Nat.le_of_ble_eq_true rfl) dX10_areTwo_2 ⟨Nat.le_of_ble_eq_true rfl, Nat.le_of_ble_eq_true rfl⟩) (fun r_1 u_1 H locs hp_1 G => ?_)
  have G : wd X (fun _ => True) (va_A [] sz) s (@HAppend.hAppend va_W va_W va_W _ (xW h0 nw sp xa la lb) (rcV X nw an sv dv n0 n1 n2 n3 n4 g0 gs gn gm)) H locs := G
  rcases hp_1 with ⟨rfl, hj_1⟩ | ⟨rfl, hj_1⟩
  · obtain ⟨j_1, hj_1, rfl⟩ := hj_1
    refine lv_if_eq (tgt := 25) zx zb dX10_areTwo_5 (by decide) (fun c_2 => absurd c_2 (by decide)) (fun c_2 => ?_)
    refine lv_aload_n zx zb dX10_areTwo_8 rfl (lv_at hl 0 rfl) ?_
    refine lv_iload_n zx zb dX10_areTwo_9 rfl (lv_at hl 2 rfl) ?_
    refine o_ri (cells' := 0) (slots' := 0) G rfl rfl (n_V (As := [.int j]) (rest := []) (C := RX10) (T := TX10) (N := 14) (ci := 8) S G (s_there l X h0 nw sp xa la lb an sv dv n0 n1 n2 n3 n4 g0 gs gn gm j hI_n0 hI_n1 hI_n2 hI_n3 hI_n4 H.size) gX10_areTwo_X10_there rfl rfl rfl hdV_X10_there ⟨Nat.le_of_ble_eq_true rfl, Nat.le_of_ble_eq_true rfl⟩ [0, 1, 2, 3, 4, 5, 6, 7, 8, 9, 10, 11, 12, 13, 14, 15, 16] rfl rfl 0 rfl rfl rfl hl.1 (Nat.le_of_ble_eq_true rfl) dX10_areTwo_10 ⟨Nat.le_of_ble_eq_true rfl, Nat.le_of_ble_eq_true rfl⟩) (fun r_3 u_3 H locs hp_3 G => ?_)
    have G : wd X (fun _ => True) (va_A [] sz) s (@HAppend.hAppend va_W va_W va_W _ (xW h0 nw sp xa la lb) (rcV X nw an sv dv n0 n1 n2 n3 n4 g0 gs gn gm)) H locs := G
    rcases hp_3 with ⟨rfl, hj_3⟩ | ⟨rfl, hj_3⟩
    · obtain ⟨j_3, hj_3, rfl⟩ := hj_3
      refine lv_if_eq (tgt := 25) zx zb dX10_areTwo_13 (by decide) (fun c_4 => absurd c_4 (by decide)) (fun c_4 => ?_)
      refine lv_iload_n zx zb dX10_areTwo_16 rfl (lv_at hl 1 rfl) ?_
      refine lv_iload_n zx zb dX10_areTwo_17 rfl (lv_at hl 2 rfl) ?_
      refine lv_icmp_eq (tgt := 25) zx zb dX10_areTwo_18 (by decide) (fun c_5 => ?_) (fun c_5 => ?_)
      · have fc_5 := j_eq (a := j_1) (b := j_3) (by omega) (by omega) c_5
        refine lv_iconst (v := 0) zx zb dX10_areTwo_25 (by decide) ?_
        exact e_int S zr zlk (by decide) G () [] rfl rfl (Or.inl rfl) (Or.inr rfl) dX10_areTwo_26
      · have fc_5 := j_ne (a := j_1) (b := j_3) c_5
        refine lv_iconst (v := 1) zx zb dX10_areTwo_21 (by decide) ?_
        refine lv_goto (tgt := 26) zx zb dX10_areTwo_22 (by decide) ?_
        exact e_int S zr zlk (by decide) G () [] rfl rfl (Or.inl rfl) (Or.inl ⟨rfl, ⟨_, hj_1, rfl⟩, ⟨_, hj_3, rfl⟩⟩) dX10_areTwo_26
    · refine lv_if_eq (tgt := 25) zx zb dX10_areTwo_13 (by decide) (fun c_6 => ?_) (fun c_6 => absurd (by decide) c_6)
      refine lv_iconst (v := 0) zx zb dX10_areTwo_25 (by decide) ?_
      exact e_int S zr zlk (by decide) G () [] rfl rfl (Or.inl rfl) (Or.inr rfl) dX10_areTwo_26
  · refine lv_if_eq (tgt := 25) zx zb dX10_areTwo_5 (by decide) (fun c_7 => ?_) (fun c_7 => absurd (by decide) c_7)
    refine lv_iconst (v := 0) zx zb dX10_areTwo_25 (by decide) ?_
    exact e_int S zr zlk (by decide) G () [] rfl rfl (Or.inl rfl) (Or.inr rfl) dX10_areTwo_26
theorem in_X10_rankAll_X10 : ∀ w ∈ wsX100, w ∈ wsX10_rankAll := by decide +kernel
theorem lk_X10_rankAll_10 : Cond.fieldLink RX10 10 "EggSpoons" "now" "LEggSpoons$Race;" ∈ wsX10_rankAll := by decide +kernel
theorem in_X10_rankAll_X5 : ∀ w ∈ wsX50, w ∈ wsX10_rankAll := by decide +kernel
theorem lk_X10_rankAll_87 : Cond.fieldLink RX10 87 "EggSpoons$Race" "runners" "I" ∈ wsX10_rankAll := by decide +kernel
theorem lk_X10_rankAll_126 : Cond.fieldLink RX10 126 "EggSpoons$Race" "row" "[LEggSpoons$Runner;" ∈ wsX10_rankAll := by decide +kernel
theorem lk_X10_rankAll_76 : Cond.fieldLink RX10 76 "EggSpoons" "ranks" "[I" ∈ wsX10_rankAll := by decide +kernel
theorem in_X10_rankAll_X8 : ∀ w ∈ wsX80, w ∈ wsX10_rankAll := by decide +kernel
theorem lk_X10_rankAll_303 : Cond.fieldLink RX10 303 "EggSpoons$Runner" "homeAt" "I" ∈ wsX10_rankAll := by decide +kernel
set_option maxHeartbeats 4000000 in
set_option maxRecDepth 100000 in
/-- rankAll -/
theorem s_rankAll (l : Launch) (X : EX) (h0 : Nat) (nw : Nat) (sp : Nat) (xa : Nat → Nat) (la : Int64) (lb : Int64) (an : Nat → Nat) (sv : Nat → Int32) (dv : Nat → Int32) (n0 : Nat) (n1 : Nat) (n2 : Nat) (n3 : Nat) (n4 : Nat) (g0 : Nat → Int32) (gs : Nat → Int32) (gn : Nat → Int32) (gm : Nat → Int32) (ag : Nat → Int32) (dg : Nat → Int32) (fk : Nat → Int32) (hI_n0 : n0 ≤ 6) (hI_n1 : n1 ≤ 8) (hI_n2 : n2 ≤ 5) (hI_n3 : n3 ≤ 6) (hI_n4 : n4 ≤ 6) (sz : Nat) : Met l yX10_rankAll wsX10_rankAll ({ frames := 4, cells := 0, slots := 0, locals := 95 } : Room) (pE X [.ref h0] (@HAppend.hAppend va_W va_W va_W _ (xW h0 nw sp xa la lb) (@HAppend.hAppend va_W va_W va_W _ (rcV X nw an sv dv n0 n1 n2 n3 n4 g0 gs gn gm) (@HAppend.hAppend va_W va_W va_W _ (rnV (xa 8) ag dg) ([((xa 13), .inl (X.2.1, 6, .inl fk))])))) sz) (qV (fun (u : (Nat → Int32) × (Nat → Int32) × (Nat → Int32)) => (True)) X (fun (u : (Nat → Int32) × (Nat → Int32) × (Nat → Int32)) => @HAppend.hAppend va_W va_W va_W _ (xW h0 nw sp xa la lb) (@HAppend.hAppend va_W va_W va_W _ (rcV X nw an sv dv n0 n1 n2 n3 n4 g0 gs gn gm) (@HAppend.hAppend va_W va_W va_W _ (rnV (xa 8) u.1 u.2.1) ([((xa 13), .inl (X.2.1, 6, .inl u.2.2))])))) (@HAppend.hAppend va_W va_W va_W _ (xW h0 nw sp xa la lb) (@HAppend.hAppend va_W va_W va_W _ (rcV X nw an sv dv n0 n1 n2 n3 n4 g0 gs gn gm) (@HAppend.hAppend va_W va_W va_W _ (rnV (xa 8) ag dg) ([((xa 13), .inl (X.2.1, 6, .inl fk))])))) sz) 0 0 (va_A (@HAppend.hAppend va_W va_W va_W _ (xW h0 nw sp xa la lb) (@HAppend.hAppend va_W va_W va_W _ (rcV X nw an sv dv n0 n1 n2 n3 n4 g0 gs gn gm) (@HAppend.hAppend va_W va_W va_W _ (rnV (xa 8) ag dg) ([((xa 13), .inl (X.2.1, 6, .inl fk))])))) sz) := by
  refine mk_met (B := (va_A (@HAppend.hAppend va_W va_W va_W _ (xW h0 nw sp xa la lb) (@HAppend.hAppend va_W va_W va_W _ (rcV X nw an sv dv n0 n1 n2 n3 n4 g0 gs gn gm) (@HAppend.hAppend va_W va_W va_W _ (rnV (xa 8) ag dg) ([((xa 13), .inl (X.2.1, 6, .inl fk))])))) sz)) (A := (va_A (@HAppend.hAppend va_W va_W va_W _ (xW h0 nw sp xa la lb) (@HAppend.hAppend va_W va_W va_W _ (rcV X nw an sv dv n0 n1 n2 n3 n4 g0 gs gn gm) (@HAppend.hAppend va_W va_W va_W _ (rnV (xa 8) ag dg) ([((xa 13), .inl (X.2.1, 6, .inl fk))])))) sz)) (cc := cX10_rankAll) (maxL := 5) (ret := none) (by decide) rfl (Nat.le_of_ble_eq_true rfl) k_w k_a (fun p e s m below meth c S zr zlk znm zsz G ls hl => ?_)
  have S : CallFix p m c cX10_rankAll 5 s _ wsX10_rankAll RX10 := S
  have zx := S.1
  have zb := S.2.1
  have hl : lv_has ls 5 [(0, .ref h0)] := hl
  refine lv_iconst (v := 0) zx zb dX10_rankAll_0 (by decide) ?_
  refine lv_istore_n (lv' := [(1, .int 0), (0, .ref h0)]) zx zb dX10_rankAll_1 rfl hl (by decide) rfl (fun ls hl => ?_)
  refine k_loop (P := ∀ (zm : Nat) (k2 : Nat) (a2_2 : Nat → Int32) (d2_2 : Nat → Int32) (f2_3 : Nat → Int32) (H : Heap) (locs : List Loc) (ls : Array Slot), 6 + 1 ≤ k2 + zm → (k2 ≤ 6) → wd X (va_A (@HAppend.hAppend va_W va_W va_W _ (xW h0 nw sp xa la lb) (@HAppend.hAppend va_W va_W va_W _ (rcV X nw an sv dv n0 n1 n2 n3 n4 g0 gs gn gm) (@HAppend.hAppend va_W va_W va_W _ (rnV (xa 8) ag dg) ([((xa 13), .inl (X.2.1, 6, .inl fk))])))) sz) (va_A (@HAppend.hAppend va_W va_W va_W _ (xW h0 nw sp xa la lb) (@HAppend.hAppend va_W va_W va_W _ (rcV X nw an sv dv n0 n1 n2 n3 n4 g0 gs gn gm) (@HAppend.hAppend va_W va_W va_W _ (rnV (xa 8) ag dg) ([((xa 13), .inl (X.2.1, 6, .inl fk))])))) sz) s (@HAppend.hAppend va_W va_W va_W _ (xW h0 nw sp xa la lb) (@HAppend.hAppend va_W va_W va_W _ (rcV X nw an sv dv n0 n1 n2 n3 n4 g0 gs gn gm) (@HAppend.hAppend va_W va_W va_W _ (rnV (xa 8) a2_2 d2_2) ([((xa 13), .inl (X.2.1, 6, .inl f2_3))])))) H locs → lv_has ls 5 [(1, .int (nI k2)), (0, .ref h0)] → W p l e _ s m _ below meth c H locs _ _ _ (F0 m 2 ls [])) (fun loop => loop (6 + 1) 0 ag dg fk _ _ _ (by omega) (by omega) G hl) ?_
  intro zm
  induction zm with
  | zero => intro k2 a2_2 d2_2 f2_3 H locs ls zz q_hk_k2 _ _; exact absurd zz (by omega)
  | succ zm ih2 =>
    intro k2 a2_2 d2_2 f2_3 H locs ls zm_2 hk_k2 G hl
    refine lv_iload_n zx zb dX10_rankAll_2 rfl (lv_at hl 0 rfl) ?_
    refine lv_aload_n zx zb dX10_rankAll_3 rfl (lv_at hl 1 rfl) ?_
    refine r_get (C := RX10) (T := TX10) (N := 14) (ci := 8) (v := .ref nw) S in_X10_rankAll_X10 G 0 rfl rfl 0 (by decide) lk_X10_rankAll_10 rfl dX10_rankAll_4 ?_
    refine r_get (C := RX5) (T := TX5) (N := 8) (ci := 3) (v := .int (nI n0)) S in_X10_rankAll_X5 G 1 rfl rfl 2 (by decide) lk_X10_rankAll_87 rfl dX10_rankAll_7 ?_
    refine lv_icmp_ge (tgt := 76) zx zb dX10_rankAll_10 (by decide) (fun c_1 => ?_) (fun c_1 => ?_)
    · have fc_1 := j_le (a := n0) (b := k2) (by omega) (by omega) c_1
      exact e_void S zr zlk G (a2_2, d2_2, f2_3) [0, 1, 2, 3, 4, 5, 6, 7, 8, 9, 10, 11, 12, 13, 14, 15, 16, 17, 18] rfl rfl (Or.inr rfl) (trivial) dX10_rankAll_76
    · have fc_1 := j_nle (a := n0) (b := k2) (by omega) (by omega) c_1
      refine lv_aload_n zx zb dX10_rankAll_13 rfl (lv_at hl 1 rfl) ?_
      refine r_get (C := RX10) (T := TX10) (N := 14) (ci := 8) (v := .ref nw) S in_X10_rankAll_X10 G 0 rfl rfl 0 (by decide) lk_X10_rankAll_10 rfl dX10_rankAll_14 ?_
      refine r_get (C := RX5) (T := TX5) (N := 8) (ci := 3) (v := .ref (an 0)) S in_X10_rankAll_X5 G 1 rfl rfl 3 (by decide) lk_X10_rankAll_126 rfl dX10_rankAll_17 ?_
      refine lv_iload_n zx zb dX10_rankAll_20 rfl (lv_at hl 0 rfl) ?_
      rcases k_6c (show k2 < 6 by omega) with rfl | rfl | rfl | rfl | rfl | rfl
      · refine k_it (v := 0) rfl ?_
        refine r_aald (C := RX8) (b := (an 1)) S G 2 3 rfl rfl (k_vp (by decide)) rfl dX10_rankAll_21 ?_
        refine lv_astore_n (lv' := [(2, .ref (an 1)), (1, .int 0), (0, .ref h0)]) zx zb dX10_rankAll_22 rfl hl (by decide) rfl (fun ls hl => ?_)
        refine lv_aload_n zx zb dX10_rankAll_23 rfl (lv_at hl 2 rfl) ?_
        refine lv_iload_n zx zb dX10_rankAll_24 rfl (lv_at hl 1 rfl) ?_
        refine lv_bipush (v := 60) zx zb dX10_rankAll_25 (by decide) ?_
        refine b_wi (cells' := 0) (slots' := 0) (wr := [((xa 13), .inl (X.2.1, 6, .inl f2_3))]) G rfl rfl [0, 1, 2, 3, 4, 5, 6, 7, 8, 9, 10, 11, 12, 13, 14, 15, 16, 17] [18] rfl rfl rfl rfl (n_V (As := [.int 0, .int 60]) (rest := []) (C := RX10) (T := TX10) (N := 14) (ci := 8) S G (s_homeBehind l X h0 nw sp xa la lb an sv dv n0 n1 n2 n3 n4 g0 gs gn gm a2_2 d2_2 0 60 hI_n0 hI_n1 hI_n2 hI_n3 hI_n4 (by omega) (by first | decide | assumption | exact k_60a (by assumption)) H.size) gX10_rankAll_X10_homeBehind rfl rfl rfl hdV_X10_homeBehind ⟨Nat.le_of_ble_eq_true rfl, Nat.le_of_ble_eq_true rfl⟩ [0, 1, 2, 3, 4, 5, 6, 7, 8, 9, 10, 11, 12, 13, 14, 15, 16, 17] rfl rfl 0 rfl rfl rfl hl.1 (Nat.le_of_ble_eq_true rfl) dX10_rankAll_27 ⟨Nat.le_of_ble_eq_true rfl, Nat.le_of_ble_eq_true rfl⟩) (fun r_2 u_2 H locs hp_2 G => ?_)
        obtain ⟨a_2a, d_2b⟩ := u_2
        have hq_2 := hp_2
        have G : wd X (va_A (@HAppend.hAppend va_W va_W va_W _ (xW h0 nw sp xa la lb) (@HAppend.hAppend va_W va_W va_W _ (rcV X nw an sv dv n0 n1 n2 n3 n4 g0 gs gn gm) (@HAppend.hAppend va_W va_W va_W _ (rnV (xa 8) ag dg) ([((xa 13), .inl (X.2.1, 6, .inl fk))])))) sz) (va_A (@HAppend.hAppend va_W va_W va_W _ (xW h0 nw sp xa la lb) (@HAppend.hAppend va_W va_W va_W _ (rcV X nw an sv dv n0 n1 n2 n3 n4 g0 gs gn gm) (@HAppend.hAppend va_W va_W va_W _ (rnV (xa 8) ag dg) ([((xa 13), .inl (X.2.1, 6, .inl fk))])))) sz) s (@HAppend.hAppend va_W va_W va_W _ ([((xa 13), .inl (X.2.1, 6, .inl f2_3))]) (@HAppend.hAppend va_W va_W va_W _ (xW h0 nw sp xa la lb) (@HAppend.hAppend va_W va_W va_W _ (rcV X nw an sv dv n0 n1 n2 n3 n4 g0 gs gn gm) (rnV (xa 8) a_2a d_2b)))) H locs := G
        refine lv_istore_n (lv' := [(3, .int r_2), (2, .ref (an 1)), (1, .int 0), (0, .ref h0)]) zx zb dX10_rankAll_30 rfl hl (by decide) rfl (fun ls hl => ?_)
        refine lv_iload_n zx zb dX10_rankAll_31 rfl (lv_at hl 0 rfl) ?_
        refine lv_iconst (v := (-1)) zx zb dX10_rankAll_32 (by decide) ?_
        refine k_cutW (PP := fun Wx => ∀ (x_4 : Int32) (H : Heap) (locs : List Loc) (ls : Array Slot), wd X (va_A (@HAppend.hAppend va_W va_W va_W _ (xW h0 nw sp xa la lb) (@HAppend.hAppend va_W va_W va_W _ (rcV X nw an sv dv n0 n1 n2 n3 n4 g0 gs gn gm) (@HAppend.hAppend va_W va_W va_W _ (rnV (xa 8) ag dg) ([((xa 13), .inl (X.2.1, 6, .inl fk))])))) sz) (va_A (@HAppend.hAppend va_W va_W va_W _ (xW h0 nw sp xa la lb) (@HAppend.hAppend va_W va_W va_W _ (rcV X nw an sv dv n0 n1 n2 n3 n4 g0 gs gn gm) (@HAppend.hAppend va_W va_W va_W _ (rnV (xa 8) ag dg) ([((xa 13), .inl (X.2.1, 6, .inl fk))])))) sz) s (@HAppend.hAppend va_W va_W va_W _ ([((xa 13), .inl (X.2.1, 6, .inl f2_3))]) (@HAppend.hAppend va_W va_W va_W _ (xW h0 nw sp xa la lb) (@HAppend.hAppend va_W va_W va_W _ (rcV X nw an sv dv n0 n1 n2 n3 n4 g0 gs gn gm) (rnV (xa 8) a_2a d_2b)))) H locs → lv_has ls 5 [(3, .int r_2), (2, .ref (an 1)), (1, .int 0), (0, .ref h0)] → Wx (F0 m 42 ls [.int x_4]) H locs) ?_ ?_
        · intro join_33
          refine lv_icmp_ne (tgt := 41) zx zb dX10_rankAll_33 (by decide) (fun c_3 => ?_) (fun c_3 => ?_)
          · refine lv_iload_n zx zb dX10_rankAll_41 rfl (lv_at hl 0 rfl) ?_
            exact join_33 r_2 _ _ _  G hl
          · refine lv_bipush (v := 61) zx zb dX10_rankAll_36 (by decide) ?_
            refine lv_goto (tgt := 42) zx zb dX10_rankAll_38 (by decide) ?_
            exact join_33 61 _ _ _  G hl
        · intro x_4 H locs ls  G hl
          refine lv_istore (lv' := [(4, .int x_4), (3, .int r_2), (2, .ref (an 1)), (1, .int 0), (0, .ref h0)]) zx zb dX10_rankAll_42 hl (by decide) rfl (fun ls hl => ?_)
          refine lv_aload_n zx zb dX10_rankAll_44 rfl (lv_at hl 4 rfl) ?_
          refine r_get (C := RX10) (T := TX10) (N := 14) (ci := 8) (v := .ref (xa 13)) S in_X10_rankAll_X10 G 1 rfl rfl 13 (by decide) lk_X10_rankAll_76 rfl dX10_rankAll_45 ?_
          refine lv_iload_n zx zb dX10_rankAll_48 rfl (lv_at hl 3 rfl) ?_
          refine lv_aload_n zx zb dX10_rankAll_49 rfl (lv_at hl 2 rfl) ?_
          refine o_ri (cells' := 0) (slots' := 0) G rfl rfl (n_V (As := []) (rest := [.int 0, .ref (xa 13)]) (C := RX8) (T := TX8) (N := 8) (ci := 6) S G (s_isHome l X (an 1) (fun k => sv (0 + k)) (fun k => dv (10 + k)) H.size) gX10_rankAll_X8_isHome rfl rfl rfl hdV_X8_isHome ⟨Nat.le_of_ble_eq_true rfl, Nat.le_of_ble_eq_true rfl⟩ [4] rfl rfl 4 rfl rfl rfl hl.1 (Nat.le_of_ble_eq_true rfl) dX10_rankAll_50 ⟨Nat.le_of_ble_eq_true rfl, Nat.le_of_ble_eq_true rfl⟩) (fun r_5 u_5 H locs hp_5 G => ?_)
          have G : wd X (va_A (@HAppend.hAppend va_W va_W va_W _ (xW h0 nw sp xa la lb) (@HAppend.hAppend va_W va_W va_W _ (rcV X nw an sv dv n0 n1 n2 n3 n4 g0 gs gn gm) (@HAppend.hAppend va_W va_W va_W _ (rnV (xa 8) ag dg) ([((xa 13), .inl (X.2.1, 6, .inl fk))])))) sz) (va_A (@HAppend.hAppend va_W va_W va_W _ (xW h0 nw sp xa la lb) (@HAppend.hAppend va_W va_W va_W _ (rcV X nw an sv dv n0 n1 n2 n3 n4 g0 gs gn gm) (@HAppend.hAppend va_W va_W va_W _ (rnV (xa 8) ag dg) ([((xa 13), .inl (X.2.1, 6, .inl fk))])))) sz) s (@HAppend.hAppend va_W va_W va_W _ ([((xa 13), .inl (X.2.1, 6, .inl f2_3))]) (@HAppend.hAppend va_W va_W va_W _ (xW h0 nw sp xa la lb) (@HAppend.hAppend va_W va_W va_W _ (rcV X nw an sv dv n0 n1 n2 n3 n4 g0 gs gn gm) (rnV (xa 8) a_2a d_2b)))) H locs := G
          refine k_cutW (PP := fun Wx => ∀ (x_7 : Int32) (H : Heap) (locs : List Loc) (ls : Array Slot), wd X (va_A (@HAppend.hAppend va_W va_W va_W _ (xW h0 nw sp xa la lb) (@HAppend.hAppend va_W va_W va_W _ (rcV X nw an sv dv n0 n1 n2 n3 n4 g0 gs gn gm) (@HAppend.hAppend va_W va_W va_W _ (rnV (xa 8) ag dg) ([((xa 13), .inl (X.2.1, 6, .inl fk))])))) sz) (va_A (@HAppend.hAppend va_W va_W va_W _ (xW h0 nw sp xa la lb) (@HAppend.hAppend va_W va_W va_W _ (rcV X nw an sv dv n0 n1 n2 n3 n4 g0 gs gn gm) (@HAppend.hAppend va_W va_W va_W _ (rnV (xa 8) ag dg) ([((xa 13), .inl (X.2.1, 6, .inl fk))])))) sz) s (@HAppend.hAppend va_W va_W va_W _ ([((xa 13), .inl (X.2.1, 6, .inl f2_3))]) (@HAppend.hAppend va_W va_W va_W _ (xW h0 nw sp xa la lb) (@HAppend.hAppend va_W va_W va_W _ (rcV X nw an sv dv n0 n1 n2 n3 n4 g0 gs gn gm) (rnV (xa 8) a_2a d_2b)))) H locs → lv_has ls 5 [(4, .int x_4), (3, .int r_2), (2, .ref (an 1)), (1, .int 0), (0, .ref h0)] → Wx (F0 m 69 ls [.int x_7, .int 0, .ref (xa 13)]) H locs) ?_ ?_
          · intro join_53
            refine lv_if_eq (tgt := 63) zx zb dX10_rankAll_53 (by decide) (fun c_6 => ?_) (fun c_6 => ?_)
            · refine lv_sipush (v := 9999) zx zb dX10_rankAll_63 (by decide) ?_
              refine lv_iload zx zb dX10_rankAll_66 (lv_at hl 0 rfl) ?_
              refine r_iadd (v := (9999 + x_4)) S rfl dX10_rankAll_68 ?_
              exact join_53 (9999 + x_4) _ _ _  G hl
            · refine lv_aload_n zx zb dX10_rankAll_56 rfl (lv_at hl 2 rfl) ?_
              refine r_get (C := RX8) (T := TX8) (N := 8) (ci := 6) (v := .int (dv 14)) S in_X10_rankAll_X8 G 4 rfl rfl 7 (by decide) lk_X10_rankAll_303 rfl dX10_rankAll_57 ?_
              refine lv_goto (tgt := 69) zx zb dX10_rankAll_60 (by decide) ?_
              exact join_53 (dv 14) _ _ _  G hl
          · intro x_7 H locs ls  G hl
            refine r_iast S G 0 rfl (k_vp (by decide)) dX10_rankAll_69 (fun H locs G => ?_)
            obtain ⟨f_8, G⟩ : ∃ f_8 : Nat → Int32, wd X (va_A (@HAppend.hAppend va_W va_W va_W _ (xW h0 nw sp xa la lb) (@HAppend.hAppend va_W va_W va_W _ (rcV X nw an sv dv n0 n1 n2 n3 n4 g0 gs gn gm) (@HAppend.hAppend va_W va_W va_W _ (rnV (xa 8) ag dg) ([((xa 13), .inl (X.2.1, 6, .inl fk))])))) sz) (va_A (@HAppend.hAppend va_W va_W va_W _ (xW h0 nw sp xa la lb) (@HAppend.hAppend va_W va_W va_W _ (rcV X nw an sv dv n0 n1 n2 n3 n4 g0 gs gn gm) (@HAppend.hAppend va_W va_W va_W _ (rnV (xa 8) ag dg) ([((xa 13), .inl (X.2.1, 6, .inl fk))])))) sz) s (@HAppend.hAppend va_W va_W va_W _ ([((xa 13), .inl (X.2.1, 6, .inl f_8))]) (@HAppend.hAppend va_W va_W va_W _ (xW h0 nw sp xa la lb) (@HAppend.hAppend va_W va_W va_W _ (rcV X nw an sv dv n0 n1 n2 n3 n4 g0 gs gn gm) (rnV (xa 8) a_2a d_2b)))) H locs := ⟨_, G⟩
            refine lv_iinc (v := 1) (lv' := [(1, .int 1), (4, .int x_4), (3, .int r_2), (2, .ref (an 1)), (0, .ref h0)]) zx zb dX10_rankAll_70 hl (k := 3) rfl (by decide) (by decide) rfl (fun ls hl => ?_)
            refine lv_goto (tgt := 2) zx zb dX10_rankAll_73 (by decide) ?_
            have G : wd X (va_A (@HAppend.hAppend va_W va_W va_W _ (xW h0 nw sp xa la lb) (@HAppend.hAppend va_W va_W va_W _ (rcV X nw an sv dv n0 n1 n2 n3 n4 g0 gs gn gm) (@HAppend.hAppend va_W va_W va_W _ (rnV (xa 8) ag dg) ([((xa 13), .inl (X.2.1, 6, .inl fk))])))) sz) (va_A (@HAppend.hAppend va_W va_W va_W _ (xW h0 nw sp xa la lb) (@HAppend.hAppend va_W va_W va_W _ (rcV X nw an sv dv n0 n1 n2 n3 n4 g0 gs gn gm) (@HAppend.hAppend va_W va_W va_W _ (rnV (xa 8) ag dg) ([((xa 13), .inl (X.2.1, 6, .inl fk))])))) sz) s (@HAppend.hAppend va_W va_W va_W _ (xW h0 nw sp xa la lb) (@HAppend.hAppend va_W va_W va_W _ (rcV X nw an sv dv n0 n1 n2 n3 n4 g0 gs gn gm) (@HAppend.hAppend va_W va_W va_W _ (rnV (xa 8) a_2a d_2b) ([((xa 13), .inl (X.2.1, 6, .inl f_8))])))) H locs := wd_sub G [1, 2, 3, 4, 5, 6, 7, 8, 9, 10, 11, 12, 13, 14, 15, 16, 17, 18, 0] rfl rfl
            have hl := lv_sub hl (l' := [(1, .int 1), (0, .ref h0)]) [0, 4] rfl
            exact ih2 1 a_2a d_2b f_8 _ _ _ (by omega) (by omega) G hl
      · refine k_it (v := 1) rfl ?_
        refine r_aald (C := RX8) (b := (an 2)) S G 2 3 rfl rfl (k_vp (by decide)) rfl dX10_rankAll_21 ?_
        refine lv_astore_n (lv' := [(2, .ref (an 2)), (1, .int 1), (0, .ref h0)]) zx zb dX10_rankAll_22 rfl hl (by decide) rfl (fun ls hl => ?_)
        refine lv_aload_n zx zb dX10_rankAll_23 rfl (lv_at hl 2 rfl) ?_
        refine lv_iload_n zx zb dX10_rankAll_24 rfl (lv_at hl 1 rfl) ?_
        refine lv_bipush (v := 60) zx zb dX10_rankAll_25 (by decide) ?_
        refine b_wi (cells' := 0) (slots' := 0) (wr := [((xa 13), .inl (X.2.1, 6, .inl f2_3))]) G rfl rfl [0, 1, 2, 3, 4, 5, 6, 7, 8, 9, 10, 11, 12, 13, 14, 15, 16, 17] [18] rfl rfl rfl rfl (n_V (As := [.int 1, .int 60]) (rest := []) (C := RX10) (T := TX10) (N := 14) (ci := 8) S G (s_homeBehind l X h0 nw sp xa la lb an sv dv n0 n1 n2 n3 n4 g0 gs gn gm a2_2 d2_2 1 60 hI_n0 hI_n1 hI_n2 hI_n3 hI_n4 (by omega) (by first | decide | assumption | exact k_60a (by assumption)) H.size) gX10_rankAll_X10_homeBehind rfl rfl rfl hdV_X10_homeBehind ⟨Nat.le_of_ble_eq_true rfl, Nat.le_of_ble_eq_true rfl⟩ [0, 1, 2, 3, 4, 5, 6, 7, 8, 9, 10, 11, 12, 13, 14, 15, 16, 17] rfl rfl 0 rfl rfl rfl hl.1 (Nat.le_of_ble_eq_true rfl) dX10_rankAll_27 ⟨Nat.le_of_ble_eq_true rfl, Nat.le_of_ble_eq_true rfl⟩) (fun r_9 u_9 H locs hp_9 G => ?_)
        obtain ⟨a_9a, d_9b⟩ := u_9
        have hq_9 := hp_9
        have G : wd X (va_A (@HAppend.hAppend va_W va_W va_W _ (xW h0 nw sp xa la lb) (@HAppend.hAppend va_W va_W va_W _ (rcV X nw an sv dv n0 n1 n2 n3 n4 g0 gs gn gm) (@HAppend.hAppend va_W va_W va_W _ (rnV (xa 8) ag dg) ([((xa 13), .inl (X.2.1, 6, .inl fk))])))) sz) (va_A (@HAppend.hAppend va_W va_W va_W _ (xW h0 nw sp xa la lb) (@HAppend.hAppend va_W va_W va_W _ (rcV X nw an sv dv n0 n1 n2 n3 n4 g0 gs gn gm) (@HAppend.hAppend va_W va_W va_W _ (rnV (xa 8) ag dg) ([((xa 13), .inl (X.2.1, 6, .inl fk))])))) sz) s (@HAppend.hAppend va_W va_W va_W _ ([((xa 13), .inl (X.2.1, 6, .inl f2_3))]) (@HAppend.hAppend va_W va_W va_W _ (xW h0 nw sp xa la lb) (@HAppend.hAppend va_W va_W va_W _ (rcV X nw an sv dv n0 n1 n2 n3 n4 g0 gs gn gm) (rnV (xa 8) a_9a d_9b)))) H locs := G
        refine lv_istore_n (lv' := [(3, .int r_9), (2, .ref (an 2)), (1, .int 1), (0, .ref h0)]) zx zb dX10_rankAll_30 rfl hl (by decide) rfl (fun ls hl => ?_)
        refine lv_iload_n zx zb dX10_rankAll_31 rfl (lv_at hl 0 rfl) ?_
        refine lv_iconst (v := (-1)) zx zb dX10_rankAll_32 (by decide) ?_
        refine k_cutW (PP := fun Wx => ∀ (x_11 : Int32) (H : Heap) (locs : List Loc) (ls : Array Slot), wd X (va_A (@HAppend.hAppend va_W va_W va_W _ (xW h0 nw sp xa la lb) (@HAppend.hAppend va_W va_W va_W _ (rcV X nw an sv dv n0 n1 n2 n3 n4 g0 gs gn gm) (@HAppend.hAppend va_W va_W va_W _ (rnV (xa 8) ag dg) ([((xa 13), .inl (X.2.1, 6, .inl fk))])))) sz) (va_A (@HAppend.hAppend va_W va_W va_W _ (xW h0 nw sp xa la lb) (@HAppend.hAppend va_W va_W va_W _ (rcV X nw an sv dv n0 n1 n2 n3 n4 g0 gs gn gm) (@HAppend.hAppend va_W va_W va_W _ (rnV (xa 8) ag dg) ([((xa 13), .inl (X.2.1, 6, .inl fk))])))) sz) s (@HAppend.hAppend va_W va_W va_W _ ([((xa 13), .inl (X.2.1, 6, .inl f2_3))]) (@HAppend.hAppend va_W va_W va_W _ (xW h0 nw sp xa la lb) (@HAppend.hAppend va_W va_W va_W _ (rcV X nw an sv dv n0 n1 n2 n3 n4 g0 gs gn gm) (rnV (xa 8) a_9a d_9b)))) H locs → lv_has ls 5 [(3, .int r_9), (2, .ref (an 2)), (1, .int 1), (0, .ref h0)] → Wx (F0 m 42 ls [.int x_11]) H locs) ?_ ?_
        · intro join_33
          refine lv_icmp_ne (tgt := 41) zx zb dX10_rankAll_33 (by decide) (fun c_10 => ?_) (fun c_10 => ?_)
          · refine lv_iload_n zx zb dX10_rankAll_41 rfl (lv_at hl 0 rfl) ?_
            exact join_33 r_9 _ _ _  G hl
          · refine lv_bipush (v := 61) zx zb dX10_rankAll_36 (by decide) ?_
            refine lv_goto (tgt := 42) zx zb dX10_rankAll_38 (by decide) ?_
            exact join_33 61 _ _ _  G hl
        · intro x_11 H locs ls  G hl
          refine lv_istore (lv' := [(4, .int x_11), (3, .int r_9), (2, .ref (an 2)), (1, .int 1), (0, .ref h0)]) zx zb dX10_rankAll_42 hl (by decide) rfl (fun ls hl => ?_)
          refine lv_aload_n zx zb dX10_rankAll_44 rfl (lv_at hl 4 rfl) ?_
          refine r_get (C := RX10) (T := TX10) (N := 14) (ci := 8) (v := .ref (xa 13)) S in_X10_rankAll_X10 G 1 rfl rfl 13 (by decide) lk_X10_rankAll_76 rfl dX10_rankAll_45 ?_
          refine lv_iload_n zx zb dX10_rankAll_48 rfl (lv_at hl 3 rfl) ?_
          refine lv_aload_n zx zb dX10_rankAll_49 rfl (lv_at hl 2 rfl) ?_
          refine o_ri (cells' := 0) (slots' := 0) G rfl rfl (n_V (As := []) (rest := [.int 1, .ref (xa 13)]) (C := RX8) (T := TX8) (N := 8) (ci := 6) S G (s_isHome l X (an 2) (fun k => sv (3 + k)) (fun k => dv (15 + k)) H.size) gX10_rankAll_X8_isHome rfl rfl rfl hdV_X8_isHome ⟨Nat.le_of_ble_eq_true rfl, Nat.le_of_ble_eq_true rfl⟩ [5] rfl rfl 5 rfl rfl rfl hl.1 (Nat.le_of_ble_eq_true rfl) dX10_rankAll_50 ⟨Nat.le_of_ble_eq_true rfl, Nat.le_of_ble_eq_true rfl⟩) (fun r_12 u_12 H locs hp_12 G => ?_)
          have G : wd X (va_A (@HAppend.hAppend va_W va_W va_W _ (xW h0 nw sp xa la lb) (@HAppend.hAppend va_W va_W va_W _ (rcV X nw an sv dv n0 n1 n2 n3 n4 g0 gs gn gm) (@HAppend.hAppend va_W va_W va_W _ (rnV (xa 8) ag dg) ([((xa 13), .inl (X.2.1, 6, .inl fk))])))) sz) (va_A (@HAppend.hAppend va_W va_W va_W _ (xW h0 nw sp xa la lb) (@HAppend.hAppend va_W va_W va_W _ (rcV X nw an sv dv n0 n1 n2 n3 n4 g0 gs gn gm) (@HAppend.hAppend va_W va_W va_W _ (rnV (xa 8) ag dg) ([((xa 13), .inl (X.2.1, 6, .inl fk))])))) sz) s (@HAppend.hAppend va_W va_W va_W _ ([((xa 13), .inl (X.2.1, 6, .inl f2_3))]) (@HAppend.hAppend va_W va_W va_W _ (xW h0 nw sp xa la lb) (@HAppend.hAppend va_W va_W va_W _ (rcV X nw an sv dv n0 n1 n2 n3 n4 g0 gs gn gm) (rnV (xa 8) a_9a d_9b)))) H locs := G
          refine k_cutW (PP := fun Wx => ∀ (x_14 : Int32) (H : Heap) (locs : List Loc) (ls : Array Slot), wd X (va_A (@HAppend.hAppend va_W va_W va_W _ (xW h0 nw sp xa la lb) (@HAppend.hAppend va_W va_W va_W _ (rcV X nw an sv dv n0 n1 n2 n3 n4 g0 gs gn gm) (@HAppend.hAppend va_W va_W va_W _ (rnV (xa 8) ag dg) ([((xa 13), .inl (X.2.1, 6, .inl fk))])))) sz) (va_A (@HAppend.hAppend va_W va_W va_W _ (xW h0 nw sp xa la lb) (@HAppend.hAppend va_W va_W va_W _ (rcV X nw an sv dv n0 n1 n2 n3 n4 g0 gs gn gm) (@HAppend.hAppend va_W va_W va_W _ (rnV (xa 8) ag dg) ([((xa 13), .inl (X.2.1, 6, .inl fk))])))) sz) s (@HAppend.hAppend va_W va_W va_W _ ([((xa 13), .inl (X.2.1, 6, .inl f2_3))]) (@HAppend.hAppend va_W va_W va_W _ (xW h0 nw sp xa la lb) (@HAppend.hAppend va_W va_W va_W _ (rcV X nw an sv dv n0 n1 n2 n3 n4 g0 gs gn gm) (rnV (xa 8) a_9a d_9b)))) H locs → lv_has ls 5 [(4, .int x_11), (3, .int r_9), (2, .ref (an 2)), (1, .int 1), (0, .ref h0)] → Wx (F0 m 69 ls [.int x_14, .int 1, .ref (xa 13)]) H locs) ?_ ?_
          · intro join_53
            refine lv_if_eq (tgt := 63) zx zb dX10_rankAll_53 (by decide) (fun c_13 => ?_) (fun c_13 => ?_)
            · refine lv_sipush (v := 9999) zx zb dX10_rankAll_63 (by decide) ?_
              refine lv_iload zx zb dX10_rankAll_66 (lv_at hl 0 rfl) ?_
              refine r_iadd (v := (9999 + x_11)) S rfl dX10_rankAll_68 ?_
              exact join_53 (9999 + x_11) _ _ _  G hl
            · refine lv_aload_n zx zb dX10_rankAll_56 rfl (lv_at hl 2 rfl) ?_
              refine r_get (C := RX8) (T := TX8) (N := 8) (ci := 6) (v := .int (dv 19)) S in_X10_rankAll_X8 G 5 rfl rfl 7 (by decide) lk_X10_rankAll_303 rfl dX10_rankAll_57 ?_
              refine lv_goto (tgt := 69) zx zb dX10_rankAll_60 (by decide) ?_
              exact join_53 (dv 19) _ _ _  G hl
          · intro x_14 H locs ls  G hl
            refine r_iast S G 0 rfl (k_vp (by decide)) dX10_rankAll_69 (fun H locs G => ?_)
            obtain ⟨f_15, G⟩ : ∃ f_15 : Nat → Int32, wd X (va_A (@HAppend.hAppend va_W va_W va_W _ (xW h0 nw sp xa la lb) (@HAppend.hAppend va_W va_W va_W _ (rcV X nw an sv dv n0 n1 n2 n3 n4 g0 gs gn gm) (@HAppend.hAppend va_W va_W va_W _ (rnV (xa 8) ag dg) ([((xa 13), .inl (X.2.1, 6, .inl fk))])))) sz) (va_A (@HAppend.hAppend va_W va_W va_W _ (xW h0 nw sp xa la lb) (@HAppend.hAppend va_W va_W va_W _ (rcV X nw an sv dv n0 n1 n2 n3 n4 g0 gs gn gm) (@HAppend.hAppend va_W va_W va_W _ (rnV (xa 8) ag dg) ([((xa 13), .inl (X.2.1, 6, .inl fk))])))) sz) s (@HAppend.hAppend va_W va_W va_W _ ([((xa 13), .inl (X.2.1, 6, .inl f_15))]) (@HAppend.hAppend va_W va_W va_W _ (xW h0 nw sp xa la lb) (@HAppend.hAppend va_W va_W va_W _ (rcV X nw an sv dv n0 n1 n2 n3 n4 g0 gs gn gm) (rnV (xa 8) a_9a d_9b)))) H locs := ⟨_, G⟩
            refine lv_iinc (v := 2) (lv' := [(1, .int 2), (4, .int x_11), (3, .int r_9), (2, .ref (an 2)), (0, .ref h0)]) zx zb dX10_rankAll_70 hl (k := 3) rfl (by decide) (by decide) rfl (fun ls hl => ?_)
            refine lv_goto (tgt := 2) zx zb dX10_rankAll_73 (by decide) ?_
            have G : wd X (va_A (@HAppend.hAppend va_W va_W va_W _ (xW h0 nw sp xa la lb) (@HAppend.hAppend va_W va_W va_W _ (rcV X nw an sv dv n0 n1 n2 n3 n4 g0 gs gn gm) (@HAppend.hAppend va_W va_W va_W _ (rnV (xa 8) ag dg) ([((xa 13), .inl (X.2.1, 6, .inl fk))])))) sz) (va_A (@HAppend.hAppend va_W va_W va_W _ (xW h0 nw sp xa la lb) (@HAppend.hAppend va_W va_W va_W _ (rcV X nw an sv dv n0 n1 n2 n3 n4 g0 gs gn gm) (@HAppend.hAppend va_W va_W va_W _ (rnV (xa 8) ag dg) ([((xa 13), .inl (X.2.1, 6, .inl fk))])))) sz) s (@HAppend.hAppend va_W va_W va_W _ (xW h0 nw sp xa la lb) (@HAppend.hAppend va_W va_W va_W _ (rcV X nw an sv dv n0 n1 n2 n3 n4 g0 gs gn gm) (@HAppend.hAppend va_W va_W va_W _ (rnV (xa 8) a_9a d_9b) ([((xa 13), .inl (X.2.1, 6, .inl f_15))])))) H locs := wd_sub G [1, 2, 3, 4, 5, 6, 7, 8, 9, 10, 11, 12, 13, 14, 15, 16, 17, 18, 0] rfl rfl
            have hl := lv_sub hl (l' := [(1, .int 2), (0, .ref h0)]) [0, 4] rfl
            exact ih2 2 a_9a d_9b f_15 _ _ _ (by omega) (by omega) G hl
      · refine k_it (v := 2) rfl ?_
        refine r_aald (C := RX8) (b := (an 3)) S G 2 3 rfl rfl (k_vp (by decide)) rfl dX10_rankAll_21 ?_
        refine lv_astore_n (lv' := [(2, .ref (an 3)), (1, .int 2), (0, .ref h0)]) zx zb dX10_rankAll_22 rfl hl (by decide) rfl (fun ls hl => ?_)
        refine lv_aload_n zx zb dX10_rankAll_23 rfl (lv_at hl 2 rfl) ?_
        refine lv_iload_n zx zb dX10_rankAll_24 rfl (lv_at hl 1 rfl) ?_
        refine lv_bipush (v := 60) zx zb dX10_rankAll_25 (by decide) ?_
        refine b_wi (cells' := 0) (slots' := 0) (wr := [((xa 13), .inl (X.2.1, 6, .inl f2_3))]) G rfl rfl [0, 1, 2, 3, 4, 5, 6, 7, 8, 9, 10, 11, 12, 13, 14, 15, 16, 17] [18] rfl rfl rfl rfl (n_V (As := [.int 2, .int 60]) (rest := []) (C := RX10) (T := TX10) (N := 14) (ci := 8) S G (s_homeBehind l X h0 nw sp xa la lb an sv dv n0 n1 n2 n3 n4 g0 gs gn gm a2_2 d2_2 2 60 hI_n0 hI_n1 hI_n2 hI_n3 hI_n4 (by omega) (by first | decide | assumption | exact k_60a (by assumption)) H.size) gX10_rankAll_X10_homeBehind rfl rfl rfl hdV_X10_homeBehind ⟨Nat.le_of_ble_eq_true rfl, Nat.le_of_ble_eq_true rfl⟩ [0, 1, 2, 3, 4, 5, 6, 7, 8, 9, 10, 11, 12, 13, 14, 15, 16, 17] rfl rfl 0 rfl rfl rfl hl.1 (Nat.le_of_ble_eq_true rfl) dX10_rankAll_27 ⟨Nat.le_of_ble_eq_true rfl, Nat.le_of_ble_eq_true rfl⟩) (fun r_16 u_16 H locs hp_16 G => ?_)
        obtain ⟨a_16a, d_16b⟩ := u_16
        have hq_16 := hp_16
        have G : wd X (va_A (@HAppend.hAppend va_W va_W va_W _ (xW h0 nw sp xa la lb) (@HAppend.hAppend va_W va_W va_W _ (rcV X nw an sv dv n0 n1 n2 n3 n4 g0 gs gn gm) (@HAppend.hAppend va_W va_W va_W _ (rnV (xa 8) ag dg) ([((xa 13), .inl (X.2.1, 6, .inl fk))])))) sz) (va_A (@HAppend.hAppend va_W va_W va_W _ (xW h0 nw sp xa la lb) (@HAppend.hAppend va_W va_W va_W _ (rcV X nw an sv dv n0 n1 n2 n3 n4 g0 gs gn gm) (@HAppend.hAppend va_W va_W va_W _ (rnV (xa 8) ag dg) ([((xa 13), .inl (X.2.1, 6, .inl fk))])))) sz) s (@HAppend.hAppend va_W va_W va_W _ ([((xa 13), .inl (X.2.1, 6, .inl f2_3))]) (@HAppend.hAppend va_W va_W va_W _ (xW h0 nw sp xa la lb) (@HAppend.hAppend va_W va_W va_W _ (rcV X nw an sv dv n0 n1 n2 n3 n4 g0 gs gn gm) (rnV (xa 8) a_16a d_16b)))) H locs := G
        refine lv_istore_n (lv' := [(3, .int r_16), (2, .ref (an 3)), (1, .int 2), (0, .ref h0)]) zx zb dX10_rankAll_30 rfl hl (by decide) rfl (fun ls hl => ?_)
        refine lv_iload_n zx zb dX10_rankAll_31 rfl (lv_at hl 0 rfl) ?_
        refine lv_iconst (v := (-1)) zx zb dX10_rankAll_32 (by decide) ?_
        refine k_cutW (PP := fun Wx => ∀ (x_18 : Int32) (H : Heap) (locs : List Loc) (ls : Array Slot), wd X (va_A (@HAppend.hAppend va_W va_W va_W _ (xW h0 nw sp xa la lb) (@HAppend.hAppend va_W va_W va_W _ (rcV X nw an sv dv n0 n1 n2 n3 n4 g0 gs gn gm) (@HAppend.hAppend va_W va_W va_W _ (rnV (xa 8) ag dg) ([((xa 13), .inl (X.2.1, 6, .inl fk))])))) sz) (va_A (@HAppend.hAppend va_W va_W va_W _ (xW h0 nw sp xa la lb) (@HAppend.hAppend va_W va_W va_W _ (rcV X nw an sv dv n0 n1 n2 n3 n4 g0 gs gn gm) (@HAppend.hAppend va_W va_W va_W _ (rnV (xa 8) ag dg) ([((xa 13), .inl (X.2.1, 6, .inl fk))])))) sz) s (@HAppend.hAppend va_W va_W va_W _ ([((xa 13), .inl (X.2.1, 6, .inl f2_3))]) (@HAppend.hAppend va_W va_W va_W _ (xW h0 nw sp xa la lb) (@HAppend.hAppend va_W va_W va_W _ (rcV X nw an sv dv n0 n1 n2 n3 n4 g0 gs gn gm) (rnV (xa 8) a_16a d_16b)))) H locs → lv_has ls 5 [(3, .int r_16), (2, .ref (an 3)), (1, .int 2), (0, .ref h0)] → Wx (F0 m 42 ls [.int x_18]) H locs) ?_ ?_
        · intro join_33
          refine lv_icmp_ne (tgt := 41) zx zb dX10_rankAll_33 (by decide) (fun c_17 => ?_) (fun c_17 => ?_)
          · refine lv_iload_n zx zb dX10_rankAll_41 rfl (lv_at hl 0 rfl) ?_
            exact join_33 r_16 _ _ _  G hl
          · refine lv_bipush (v := 61) zx zb dX10_rankAll_36 (by decide) ?_
            refine lv_goto (tgt := 42) zx zb dX10_rankAll_38 (by decide) ?_
            exact join_33 61 _ _ _  G hl
        · intro x_18 H locs ls  G hl
          refine lv_istore (lv' := [(4, .int x_18), (3, .int r_16), (2, .ref (an 3)), (1, .int 2), (0, .ref h0)]) zx zb dX10_rankAll_42 hl (by decide) rfl (fun ls hl => ?_)
          refine lv_aload_n zx zb dX10_rankAll_44 rfl (lv_at hl 4 rfl) ?_
          refine r_get (C := RX10) (T := TX10) (N := 14) (ci := 8) (v := .ref (xa 13)) S in_X10_rankAll_X10 G 1 rfl rfl 13 (by decide) lk_X10_rankAll_76 rfl dX10_rankAll_45 ?_
          refine lv_iload_n zx zb dX10_rankAll_48 rfl (lv_at hl 3 rfl) ?_
          refine lv_aload_n zx zb dX10_rankAll_49 rfl (lv_at hl 2 rfl) ?_
          refine o_ri (cells' := 0) (slots' := 0) G rfl rfl (n_V (As := []) (rest := [.int 2, .ref (xa 13)]) (C := RX8) (T := TX8) (N := 8) (ci := 6) S G (s_isHome l X (an 3) (fun k => sv (6 + k)) (fun k => dv (20 + k)) H.size) gX10_rankAll_X8_isHome rfl rfl rfl hdV_X8_isHome ⟨Nat.le_of_ble_eq_true rfl, Nat.le_of_ble_eq_true rfl⟩ [6] rfl rfl 6 rfl rfl rfl hl.1 (Nat.le_of_ble_eq_true rfl) dX10_rankAll_50 ⟨Nat.le_of_ble_eq_true rfl, Nat.le_of_ble_eq_true rfl⟩) (fun r_19 u_19 H locs hp_19 G => ?_)
          have G : wd X (va_A (@HAppend.hAppend va_W va_W va_W _ (xW h0 nw sp xa la lb) (@HAppend.hAppend va_W va_W va_W _ (rcV X nw an sv dv n0 n1 n2 n3 n4 g0 gs gn gm) (@HAppend.hAppend va_W va_W va_W _ (rnV (xa 8) ag dg) ([((xa 13), .inl (X.2.1, 6, .inl fk))])))) sz) (va_A (@HAppend.hAppend va_W va_W va_W _ (xW h0 nw sp xa la lb) (@HAppend.hAppend va_W va_W va_W _ (rcV X nw an sv dv n0 n1 n2 n3 n4 g0 gs gn gm) (@HAppend.hAppend va_W va_W va_W _ (rnV (xa 8) ag dg) ([((xa 13), .inl (X.2.1, 6, .inl fk))])))) sz) s (@HAppend.hAppend va_W va_W va_W _ ([((xa 13), .inl (X.2.1, 6, .inl f2_3))]) (@HAppend.hAppend va_W va_W va_W _ (xW h0 nw sp xa la lb) (@HAppend.hAppend va_W va_W va_W _ (rcV X nw an sv dv n0 n1 n2 n3 n4 g0 gs gn gm) (rnV (xa 8) a_16a d_16b)))) H locs := G
          refine k_cutW (PP := fun Wx => ∀ (x_21 : Int32) (H : Heap) (locs : List Loc) (ls : Array Slot), wd X (va_A (@HAppend.hAppend va_W va_W va_W _ (xW h0 nw sp xa la lb) (@HAppend.hAppend va_W va_W va_W _ (rcV X nw an sv dv n0 n1 n2 n3 n4 g0 gs gn gm) (@HAppend.hAppend va_W va_W va_W _ (rnV (xa 8) ag dg) ([((xa 13), .inl (X.2.1, 6, .inl fk))])))) sz) (va_A (@HAppend.hAppend va_W va_W va_W _ (xW h0 nw sp xa la lb) (@HAppend.hAppend va_W va_W va_W _ (rcV X nw an sv dv n0 n1 n2 n3 n4 g0 gs gn gm) (@HAppend.hAppend va_W va_W va_W _ (rnV (xa 8) ag dg) ([((xa 13), .inl (X.2.1, 6, .inl fk))])))) sz) s (@HAppend.hAppend va_W va_W va_W _ ([((xa 13), .inl (X.2.1, 6, .inl f2_3))]) (@HAppend.hAppend va_W va_W va_W _ (xW h0 nw sp xa la lb) (@HAppend.hAppend va_W va_W va_W _ (rcV X nw an sv dv n0 n1 n2 n3 n4 g0 gs gn gm) (rnV (xa 8) a_16a d_16b)))) H locs → lv_has ls 5 [(4, .int x_18), (3, .int r_16), (2, .ref (an 3)), (1, .int 2), (0, .ref h0)] → Wx (F0 m 69 ls [.int x_21, .int 2, .ref (xa 13)]) H locs) ?_ ?_
          · intro join_53
            refine lv_if_eq (tgt := 63) zx zb dX10_rankAll_53 (by decide) (fun c_20 => ?_) (fun c_20 => ?_)
            · refine lv_sipush (v := 9999) zx zb dX10_rankAll_63 (by decide) ?_
              refine lv_iload zx zb dX10_rankAll_66 (lv_at hl 0 rfl) ?_
              refine r_iadd (v := (9999 + x_18)) S rfl dX10_rankAll_68 ?_
              exact join_53 (9999 + x_18) _ _ _  G hl
            · refine lv_aload_n zx zb dX10_rankAll_56 rfl (lv_at hl 2 rfl) ?_
              refine r_get (C := RX8) (T := TX8) (N := 8) (ci := 6) (v := .int (dv 24)) S in_X10_rankAll_X8 G 6 rfl rfl 7 (by decide) lk_X10_rankAll_303 rfl dX10_rankAll_57 ?_
              refine lv_goto (tgt := 69) zx zb dX10_rankAll_60 (by decide) ?_
              exact join_53 (dv 24) _ _ _  G hl
          · intro x_21 H locs ls  G hl
            refine r_iast S G 0 rfl (k_vp (by decide)) dX10_rankAll_69 (fun H locs G => ?_)
            obtain ⟨f_22, G⟩ : ∃ f_22 : Nat → Int32, wd X (va_A (@HAppend.hAppend va_W va_W va_W _ (xW h0 nw sp xa la lb) (@HAppend.hAppend va_W va_W va_W _ (rcV X nw an sv dv n0 n1 n2 n3 n4 g0 gs gn gm) (@HAppend.hAppend va_W va_W va_W _ (rnV (xa 8) ag dg) ([((xa 13), .inl (X.2.1, 6, .inl fk))])))) sz) (va_A (@HAppend.hAppend va_W va_W va_W _ (xW h0 nw sp xa la lb) (@HAppend.hAppend va_W va_W va_W _ (rcV X nw an sv dv n0 n1 n2 n3 n4 g0 gs gn gm) (@HAppend.hAppend va_W va_W va_W _ (rnV (xa 8) ag dg) ([((xa 13), .inl (X.2.1, 6, .inl fk))])))) sz) s (@HAppend.hAppend va_W va_W va_W _ ([((xa 13), .inl (X.2.1, 6, .inl f_22))]) (@HAppend.hAppend va_W va_W va_W _ (xW h0 nw sp xa la lb) (@HAppend.hAppend va_W va_W va_W _ (rcV X nw an sv dv n0 n1 n2 n3 n4 g0 gs gn gm) (rnV (xa 8) a_16a d_16b)))) H locs := ⟨_, G⟩
            refine lv_iinc (v := 3) (lv' := [(1, .int 3), (4, .int x_18), (3, .int r_16), (2, .ref (an 3)), (0, .ref h0)]) zx zb dX10_rankAll_70 hl (k := 3) rfl (by decide) (by decide) rfl (fun ls hl => ?_)
            refine lv_goto (tgt := 2) zx zb dX10_rankAll_73 (by decide) ?_
            have G : wd X (va_A (@HAppend.hAppend va_W va_W va_W _ (xW h0 nw sp xa la lb) (@HAppend.hAppend va_W va_W va_W _ (rcV X nw an sv dv n0 n1 n2 n3 n4 g0 gs gn gm) (@HAppend.hAppend va_W va_W va_W _ (rnV (xa 8) ag dg) ([((xa 13), .inl (X.2.1, 6, .inl fk))])))) sz) (va_A (@HAppend.hAppend va_W va_W va_W _ (xW h0 nw sp xa la lb) (@HAppend.hAppend va_W va_W va_W _ (rcV X nw an sv dv n0 n1 n2 n3 n4 g0 gs gn gm) (@HAppend.hAppend va_W va_W va_W _ (rnV (xa 8) ag dg) ([((xa 13), .inl (X.2.1, 6, .inl fk))])))) sz) s (@HAppend.hAppend va_W va_W va_W _ (xW h0 nw sp xa la lb) (@HAppend.hAppend va_W va_W va_W _ (rcV X nw an sv dv n0 n1 n2 n3 n4 g0 gs gn gm) (@HAppend.hAppend va_W va_W va_W _ (rnV (xa 8) a_16a d_16b) ([((xa 13), .inl (X.2.1, 6, .inl f_22))])))) H locs := wd_sub G [1, 2, 3, 4, 5, 6, 7, 8, 9, 10, 11, 12, 13, 14, 15, 16, 17, 18, 0] rfl rfl
            have hl := lv_sub hl (l' := [(1, .int 3), (0, .ref h0)]) [0, 4] rfl
            exact ih2 3 a_16a d_16b f_22 _ _ _ (by omega) (by omega) G hl
      · refine k_it (v := 3) rfl ?_
        refine r_aald (C := RX8) (b := (an 4)) S G 2 3 rfl rfl (k_vp (by decide)) rfl dX10_rankAll_21 ?_
        refine lv_astore_n (lv' := [(2, .ref (an 4)), (1, .int 3), (0, .ref h0)]) zx zb dX10_rankAll_22 rfl hl (by decide) rfl (fun ls hl => ?_)
        refine lv_aload_n zx zb dX10_rankAll_23 rfl (lv_at hl 2 rfl) ?_
        refine lv_iload_n zx zb dX10_rankAll_24 rfl (lv_at hl 1 rfl) ?_
        refine lv_bipush (v := 60) zx zb dX10_rankAll_25 (by decide) ?_
        refine b_wi (cells' := 0) (slots' := 0) (wr := [((xa 13), .inl (X.2.1, 6, .inl f2_3))]) G rfl rfl [0, 1, 2, 3, 4, 5, 6, 7, 8, 9, 10, 11, 12, 13, 14, 15, 16, 17] [18] rfl rfl rfl rfl (n_V (As := [.int 3, .int 60]) (rest := []) (C := RX10) (T := TX10) (N := 14) (ci := 8) S G (s_homeBehind l X h0 nw sp xa la lb an sv dv n0 n1 n2 n3 n4 g0 gs gn gm a2_2 d2_2 3 60 hI_n0 hI_n1 hI_n2 hI_n3 hI_n4 (by omega) (by first | decide | assumption | exact k_60a (by assumption)) H.size) gX10_rankAll_X10_homeBehind rfl rfl rfl hdV_X10_homeBehind ⟨Nat.le_of_ble_eq_true rfl, Nat.le_of_ble_eq_true rfl⟩ [0, 1, 2, 3, 4, 5, 6, 7, 8, 9, 10, 11, 12, 13, 14, 15, 16, 17] rfl rfl 0 rfl rfl rfl hl.1 (Nat.le_of_ble_eq_true rfl) dX10_rankAll_27 ⟨Nat.le_of_ble_eq_true rfl, Nat.le_of_ble_eq_true rfl⟩) (fun r_23 u_23 H locs hp_23 G => ?_)
        obtain ⟨a_23a, d_23b⟩ := u_23
        have hq_23 := hp_23
        have G : wd X (va_A (@HAppend.hAppend va_W va_W va_W _ (xW h0 nw sp xa la lb) (@HAppend.hAppend va_W va_W va_W _ (rcV X nw an sv dv n0 n1 n2 n3 n4 g0 gs gn gm) (@HAppend.hAppend va_W va_W va_W _ (rnV (xa 8) ag dg) ([((xa 13), .inl (X.2.1, 6, .inl fk))])))) sz) (va_A (@HAppend.hAppend va_W va_W va_W _ (xW h0 nw sp xa la lb) (@HAppend.hAppend va_W va_W va_W _ (rcV X nw an sv dv n0 n1 n2 n3 n4 g0 gs gn gm) (@HAppend.hAppend va_W va_W va_W _ (rnV (xa 8) ag dg) ([((xa 13), .inl (X.2.1, 6, .inl fk))])))) sz) s (@HAppend.hAppend va_W va_W va_W _ ([((xa 13), .inl (X.2.1, 6, .inl f2_3))]) (@HAppend.hAppend va_W va_W va_W _ (xW h0 nw sp xa la lb) (@HAppend.hAppend va_W va_W va_W _ (rcV X nw an sv dv n0 n1 n2 n3 n4 g0 gs gn gm) (rnV (xa 8) a_23a d_23b)))) H locs := G
        refine lv_istore_n (lv' := [(3, .int r_23), (2, .ref (an 4)), (1, .int 3), (0, .ref h0)]) zx zb dX10_rankAll_30 rfl hl (by decide) rfl (fun ls hl => ?_)
        refine lv_iload_n zx zb dX10_rankAll_31 rfl (lv_at hl 0 rfl) ?_
        refine lv_iconst (v := (-1)) zx zb dX10_rankAll_32 (by decide) ?_
        refine k_cutW (PP := fun Wx => ∀ (x_25 : Int32) (H : Heap) (locs : List Loc) (ls : Array Slot), wd X (va_A (@HAppend.hAppend va_W va_W va_W _ (xW h0 nw sp xa la lb) (@HAppend.hAppend va_W va_W va_W _ (rcV X nw an sv dv n0 n1 n2 n3 n4 g0 gs gn gm) (@HAppend.hAppend va_W va_W va_W _ (rnV (xa 8) ag dg) ([((xa 13), .inl (X.2.1, 6, .inl fk))])))) sz) (va_A (@HAppend.hAppend va_W va_W va_W _ (xW h0 nw sp xa la lb) (@HAppend.hAppend va_W va_W va_W _ (rcV X nw an sv dv n0 n1 n2 n3 n4 g0 gs gn gm) (@HAppend.hAppend va_W va_W va_W _ (rnV (xa 8) ag dg) ([((xa 13), .inl (X.2.1, 6, .inl fk))])))) sz) s (@HAppend.hAppend va_W va_W va_W _ ([((xa 13), .inl (X.2.1, 6, .inl f2_3))]) (@HAppend.hAppend va_W va_W va_W _ (xW h0 nw sp xa la lb) (@HAppend.hAppend va_W va_W va_W _ (rcV X nw an sv dv n0 n1 n2 n3 n4 g0 gs gn gm) (rnV (xa 8) a_23a d_23b)))) H locs → lv_has ls 5 [(3, .int r_23), (2, .ref (an 4)), (1, .int 3), (0, .ref h0)] → Wx (F0 m 42 ls [.int x_25]) H locs) ?_ ?_
        · intro join_33
          refine lv_icmp_ne (tgt := 41) zx zb dX10_rankAll_33 (by decide) (fun c_24 => ?_) (fun c_24 => ?_)
          · refine lv_iload_n zx zb dX10_rankAll_41 rfl (lv_at hl 0 rfl) ?_
            exact join_33 r_23 _ _ _  G hl
          · refine lv_bipush (v := 61) zx zb dX10_rankAll_36 (by decide) ?_
            refine lv_goto (tgt := 42) zx zb dX10_rankAll_38 (by decide) ?_
            exact join_33 61 _ _ _  G hl
        · intro x_25 H locs ls  G hl
          refine lv_istore (lv' := [(4, .int x_25), (3, .int r_23), (2, .ref (an 4)), (1, .int 3), (0, .ref h0)]) zx zb dX10_rankAll_42 hl (by decide) rfl (fun ls hl => ?_)
          refine lv_aload_n zx zb dX10_rankAll_44 rfl (lv_at hl 4 rfl) ?_
          refine r_get (C := RX10) (T := TX10) (N := 14) (ci := 8) (v := .ref (xa 13)) S in_X10_rankAll_X10 G 1 rfl rfl 13 (by decide) lk_X10_rankAll_76 rfl dX10_rankAll_45 ?_
          refine lv_iload_n zx zb dX10_rankAll_48 rfl (lv_at hl 3 rfl) ?_
          refine lv_aload_n zx zb dX10_rankAll_49 rfl (lv_at hl 2 rfl) ?_
          refine o_ri (cells' := 0) (slots' := 0) G rfl rfl (n_V (As := []) (rest := [.int 3, .ref (xa 13)]) (C := RX8) (T := TX8) (N := 8) (ci := 6) S G (s_isHome l X (an 4) (fun k => sv (9 + k)) (fun k => dv (25 + k)) H.size) gX10_rankAll_X8_isHome rfl rfl rfl hdV_X8_isHome ⟨Nat.le_of_ble_eq_true rfl, Nat.le_of_ble_eq_true rfl⟩ [7] rfl rfl 7 rfl rfl rfl hl.1 (Nat.le_of_ble_eq_true rfl) dX10_rankAll_50 ⟨Nat.le_of_ble_eq_true rfl, Nat.le_of_ble_eq_true rfl⟩) (fun r_26 u_26 H locs hp_26 G => ?_)
          have G : wd X (va_A (@HAppend.hAppend va_W va_W va_W _ (xW h0 nw sp xa la lb) (@HAppend.hAppend va_W va_W va_W _ (rcV X nw an sv dv n0 n1 n2 n3 n4 g0 gs gn gm) (@HAppend.hAppend va_W va_W va_W _ (rnV (xa 8) ag dg) ([((xa 13), .inl (X.2.1, 6, .inl fk))])))) sz) (va_A (@HAppend.hAppend va_W va_W va_W _ (xW h0 nw sp xa la lb) (@HAppend.hAppend va_W va_W va_W _ (rcV X nw an sv dv n0 n1 n2 n3 n4 g0 gs gn gm) (@HAppend.hAppend va_W va_W va_W _ (rnV (xa 8) ag dg) ([((xa 13), .inl (X.2.1, 6, .inl fk))])))) sz) s (@HAppend.hAppend va_W va_W va_W _ ([((xa 13), .inl (X.2.1, 6, .inl f2_3))]) (@HAppend.hAppend va_W va_W va_W _ (xW h0 nw sp xa la lb) (@HAppend.hAppend va_W va_W va_W _ (rcV X nw an sv dv n0 n1 n2 n3 n4 g0 gs gn gm) (rnV (xa 8) a_23a d_23b)))) H locs := G
          refine k_cutW (PP := fun Wx => ∀ (x_28 : Int32) (H : Heap) (locs : List Loc) (ls : Array Slot), wd X (va_A (@HAppend.hAppend va_W va_W va_W _ (xW h0 nw sp xa la lb) (@HAppend.hAppend va_W va_W va_W _ (rcV X nw an sv dv n0 n1 n2 n3 n4 g0 gs gn gm) (@HAppend.hAppend va_W va_W va_W _ (rnV (xa 8) ag dg) ([((xa 13), .inl (X.2.1, 6, .inl fk))])))) sz) (va_A (@HAppend.hAppend va_W va_W va_W _ (xW h0 nw sp xa la lb) (@HAppend.hAppend va_W va_W va_W _ (rcV X nw an sv dv n0 n1 n2 n3 n4 g0 gs gn gm) (@HAppend.hAppend va_W va_W va_W _ (rnV (xa 8) ag dg) ([((xa 13), .inl (X.2.1, 6, .inl fk))])))) sz) s (@HAppend.hAppend va_W va_W va_W _ ([((xa 13), .inl (X.2.1, 6, .inl f2_3))]) (@HAppend.hAppend va_W va_W va_W _ (xW h0 nw sp xa la lb) (@HAppend.hAppend va_W va_W va_W _ (rcV X nw an sv dv n0 n1 n2 n3 n4 g0 gs gn gm) (rnV (xa 8) a_23a d_23b)))) H locs → lv_has ls 5 [(4, .int x_25), (3, .int r_23), (2, .ref (an 4)), (1, .int 3), (0, .ref h0)] → Wx (F0 m 69 ls [.int x_28, .int 3, .ref (xa 13)]) H locs) ?_ ?_
          · intro join_53
            refine lv_if_eq (tgt := 63) zx zb dX10_rankAll_53 (by decide) (fun c_27 => ?_) (fun c_27 => ?_)
            · refine lv_sipush (v := 9999) zx zb dX10_rankAll_63 (by decide) ?_
              refine lv_iload zx zb dX10_rankAll_66 (lv_at hl 0 rfl) ?_
              refine r_iadd (v := (9999 + x_25)) S rfl dX10_rankAll_68 ?_
              exact join_53 (9999 + x_25) _ _ _  G hl
            · refine lv_aload_n zx zb dX10_rankAll_56 rfl (lv_at hl 2 rfl) ?_
              refine r_get (C := RX8) (T := TX8) (N := 8) (ci := 6) (v := .int (dv 29)) S in_X10_rankAll_X8 G 7 rfl rfl 7 (by decide) lk_X10_rankAll_303 rfl dX10_rankAll_57 ?_
              refine lv_goto (tgt := 69) zx zb dX10_rankAll_60 (by decide) ?_
              exact join_53 (dv 29) _ _ _  G hl
          · intro x_28 H locs ls  G hl
            refine r_iast S G 0 rfl (k_vp (by decide)) dX10_rankAll_69 (fun H locs G => ?_)
            obtain ⟨f_29, G⟩ : ∃ f_29 : Nat → Int32, wd X (va_A (@HAppend.hAppend va_W va_W va_W _ (xW h0 nw sp xa la lb) (@HAppend.hAppend va_W va_W va_W _ (rcV X nw an sv dv n0 n1 n2 n3 n4 g0 gs gn gm) (@HAppend.hAppend va_W va_W va_W _ (rnV (xa 8) ag dg) ([((xa 13), .inl (X.2.1, 6, .inl fk))])))) sz) (va_A (@HAppend.hAppend va_W va_W va_W _ (xW h0 nw sp xa la lb) (@HAppend.hAppend va_W va_W va_W _ (rcV X nw an sv dv n0 n1 n2 n3 n4 g0 gs gn gm) (@HAppend.hAppend va_W va_W va_W _ (rnV (xa 8) ag dg) ([((xa 13), .inl (X.2.1, 6, .inl fk))])))) sz) s (@HAppend.hAppend va_W va_W va_W _ ([((xa 13), .inl (X.2.1, 6, .inl f_29))]) (@HAppend.hAppend va_W va_W va_W _ (xW h0 nw sp xa la lb) (@HAppend.hAppend va_W va_W va_W _ (rcV X nw an sv dv n0 n1 n2 n3 n4 g0 gs gn gm) (rnV (xa 8) a_23a d_23b)))) H locs := ⟨_, G⟩
            refine lv_iinc (v := 4) (lv' := [(1, .int 4), (4, .int x_25), (3, .int r_23), (2, .ref (an 4)), (0, .ref h0)]) zx zb dX10_rankAll_70 hl (k := 3) rfl (by decide) (by decide) rfl (fun ls hl => ?_)
            refine lv_goto (tgt := 2) zx zb dX10_rankAll_73 (by decide) ?_
            have G : wd X (va_A (@HAppend.hAppend va_W va_W va_W _ (xW h0 nw sp xa la lb) (@HAppend.hAppend va_W va_W va_W _ (rcV X nw an sv dv n0 n1 n2 n3 n4 g0 gs gn gm) (@HAppend.hAppend va_W va_W va_W _ (rnV (xa 8) ag dg) ([((xa 13), .inl (X.2.1, 6, .inl fk))])))) sz) (va_A (@HAppend.hAppend va_W va_W va_W _ (xW h0 nw sp xa la lb) (@HAppend.hAppend va_W va_W va_W _ (rcV X nw an sv dv n0 n1 n2 n3 n4 g0 gs gn gm) (@HAppend.hAppend va_W va_W va_W _ (rnV (xa 8) ag dg) ([((xa 13), .inl (X.2.1, 6, .inl fk))])))) sz) s (@HAppend.hAppend va_W va_W va_W _ (xW h0 nw sp xa la lb) (@HAppend.hAppend va_W va_W va_W _ (rcV X nw an sv dv n0 n1 n2 n3 n4 g0 gs gn gm) (@HAppend.hAppend va_W va_W va_W _ (rnV (xa 8) a_23a d_23b) ([((xa 13), .inl (X.2.1, 6, .inl f_29))])))) H locs := wd_sub G [1, 2, 3, 4, 5, 6, 7, 8, 9, 10, 11, 12, 13, 14, 15, 16, 17, 18, 0] rfl rfl
            have hl := lv_sub hl (l' := [(1, .int 4), (0, .ref h0)]) [0, 4] rfl
            exact ih2 4 a_23a d_23b f_29 _ _ _ (by omega) (by omega) G hl
      · refine k_it (v := 4) rfl ?_
        refine r_aald (C := RX8) (b := (an 5)) S G 2 3 rfl rfl (k_vp (by decide)) rfl dX10_rankAll_21 ?_
        refine lv_astore_n (lv' := [(2, .ref (an 5)), (1, .int 4), (0, .ref h0)]) zx zb dX10_rankAll_22 rfl hl (by decide) rfl (fun ls hl => ?_)
        refine lv_aload_n zx zb dX10_rankAll_23 rfl (lv_at hl 2 rfl) ?_
        refine lv_iload_n zx zb dX10_rankAll_24 rfl (lv_at hl 1 rfl) ?_
        refine lv_bipush (v := 60) zx zb dX10_rankAll_25 (by decide) ?_
        refine b_wi (cells' := 0) (slots' := 0) (wr := [((xa 13), .inl (X.2.1, 6, .inl f2_3))]) G rfl rfl [0, 1, 2, 3, 4, 5, 6, 7, 8, 9, 10, 11, 12, 13, 14, 15, 16, 17] [18] rfl rfl rfl rfl (n_V (As := [.int 4, .int 60]) (rest := []) (C := RX10) (T := TX10) (N := 14) (ci := 8) S G (s_homeBehind l X h0 nw sp xa la lb an sv dv n0 n1 n2 n3 n4 g0 gs gn gm a2_2 d2_2 4 60 hI_n0 hI_n1 hI_n2 hI_n3 hI_n4 (by omega) (by first | decide | assumption | exact k_60a (by assumption)) H.size) gX10_rankAll_X10_homeBehind rfl rfl rfl hdV_X10_homeBehind ⟨Nat.le_of_ble_eq_true rfl, Nat.le_of_ble_eq_true rfl⟩ [0, 1, 2, 3, 4, 5, 6, 7, 8, 9, 10, 11, 12, 13, 14, 15, 16, 17] rfl rfl 0 rfl rfl rfl hl.1 (Nat.le_of_ble_eq_true rfl) dX10_rankAll_27 ⟨Nat.le_of_ble_eq_true rfl, Nat.le_of_ble_eq_true rfl⟩) (fun r_30 u_30 H locs hp_30 G => ?_)
        obtain ⟨a_30a, d_30b⟩ := u_30
        have hq_30 := hp_30
        have G : wd X (va_A (@HAppend.hAppend va_W va_W va_W _ (xW h0 nw sp xa la lb) (@HAppend.hAppend va_W va_W va_W _ (rcV X nw an sv dv n0 n1 n2 n3 n4 g0 gs gn gm) (@HAppend.hAppend va_W va_W va_W _ (rnV (xa 8) ag dg) ([((xa 13), .inl (X.2.1, 6, .inl fk))])))) sz) (va_A (@HAppend.hAppend va_W va_W va_W _ (xW h0 nw sp xa la lb) (@HAppend.hAppend va_W va_W va_W _ (rcV X nw an sv dv n0 n1 n2 n3 n4 g0 gs gn gm) (@HAppend.hAppend va_W va_W va_W _ (rnV (xa 8) ag dg) ([((xa 13), .inl (X.2.1, 6, .inl fk))])))) sz) s (@HAppend.hAppend va_W va_W va_W _ ([((xa 13), .inl (X.2.1, 6, .inl f2_3))]) (@HAppend.hAppend va_W va_W va_W _ (xW h0 nw sp xa la lb) (@HAppend.hAppend va_W va_W va_W _ (rcV X nw an sv dv n0 n1 n2 n3 n4 g0 gs gn gm) (rnV (xa 8) a_30a d_30b)))) H locs := G
        refine lv_istore_n (lv' := [(3, .int r_30), (2, .ref (an 5)), (1, .int 4), (0, .ref h0)]) zx zb dX10_rankAll_30 rfl hl (by decide) rfl (fun ls hl => ?_)
        refine lv_iload_n zx zb dX10_rankAll_31 rfl (lv_at hl 0 rfl) ?_
        refine lv_iconst (v := (-1)) zx zb dX10_rankAll_32 (by decide) ?_
        refine k_cutW (PP := fun Wx => ∀ (x_32 : Int32) (H : Heap) (locs : List Loc) (ls : Array Slot), wd X (va_A (@HAppend.hAppend va_W va_W va_W _ (xW h0 nw sp xa la lb) (@HAppend.hAppend va_W va_W va_W _ (rcV X nw an sv dv n0 n1 n2 n3 n4 g0 gs gn gm) (@HAppend.hAppend va_W va_W va_W _ (rnV (xa 8) ag dg) ([((xa 13), .inl (X.2.1, 6, .inl fk))])))) sz) (va_A (@HAppend.hAppend va_W va_W va_W _ (xW h0 nw sp xa la lb) (@HAppend.hAppend va_W va_W va_W _ (rcV X nw an sv dv n0 n1 n2 n3 n4 g0 gs gn gm) (@HAppend.hAppend va_W va_W va_W _ (rnV (xa 8) ag dg) ([((xa 13), .inl (X.2.1, 6, .inl fk))])))) sz) s (@HAppend.hAppend va_W va_W va_W _ ([((xa 13), .inl (X.2.1, 6, .inl f2_3))]) (@HAppend.hAppend va_W va_W va_W _ (xW h0 nw sp xa la lb) (@HAppend.hAppend va_W va_W va_W _ (rcV X nw an sv dv n0 n1 n2 n3 n4 g0 gs gn gm) (rnV (xa 8) a_30a d_30b)))) H locs → lv_has ls 5 [(3, .int r_30), (2, .ref (an 5)), (1, .int 4), (0, .ref h0)] → Wx (F0 m 42 ls [.int x_32]) H locs) ?_ ?_
        · intro join_33
          refine lv_icmp_ne (tgt := 41) zx zb dX10_rankAll_33 (by decide) (fun c_31 => ?_) (fun c_31 => ?_)
          · refine lv_iload_n zx zb dX10_rankAll_41 rfl (lv_at hl 0 rfl) ?_
            exact join_33 r_30 _ _ _  G hl
          · refine lv_bipush (v := 61) zx zb dX10_rankAll_36 (by decide) ?_
            refine lv_goto (tgt := 42) zx zb dX10_rankAll_38 (by decide) ?_
            exact join_33 61 _ _ _  G hl
        · intro x_32 H locs ls  G hl
          refine lv_istore (lv' := [(4, .int x_32), (3, .int r_30), (2, .ref (an 5)), (1, .int 4), (0, .ref h0)]) zx zb dX10_rankAll_42 hl (by decide) rfl (fun ls hl => ?_)
          refine lv_aload_n zx zb dX10_rankAll_44 rfl (lv_at hl 4 rfl) ?_
          refine r_get (C := RX10) (T := TX10) (N := 14) (ci := 8) (v := .ref (xa 13)) S in_X10_rankAll_X10 G 1 rfl rfl 13 (by decide) lk_X10_rankAll_76 rfl dX10_rankAll_45 ?_
          refine lv_iload_n zx zb dX10_rankAll_48 rfl (lv_at hl 3 rfl) ?_
          refine lv_aload_n zx zb dX10_rankAll_49 rfl (lv_at hl 2 rfl) ?_
          refine o_ri (cells' := 0) (slots' := 0) G rfl rfl (n_V (As := []) (rest := [.int 4, .ref (xa 13)]) (C := RX8) (T := TX8) (N := 8) (ci := 6) S G (s_isHome l X (an 5) (fun k => sv (12 + k)) (fun k => dv (30 + k)) H.size) gX10_rankAll_X8_isHome rfl rfl rfl hdV_X8_isHome ⟨Nat.le_of_ble_eq_true rfl, Nat.le_of_ble_eq_true rfl⟩ [8] rfl rfl 8 rfl rfl rfl hl.1 (Nat.le_of_ble_eq_true rfl) dX10_rankAll_50 ⟨Nat.le_of_ble_eq_true rfl, Nat.le_of_ble_eq_true rfl⟩) (fun r_33 u_33 H locs hp_33 G => ?_)
          have G : wd X (va_A (@HAppend.hAppend va_W va_W va_W _ (xW h0 nw sp xa la lb) (@HAppend.hAppend va_W va_W va_W _ (rcV X nw an sv dv n0 n1 n2 n3 n4 g0 gs gn gm) (@HAppend.hAppend va_W va_W va_W _ (rnV (xa 8) ag dg) ([((xa 13), .inl (X.2.1, 6, .inl fk))])))) sz) (va_A (@HAppend.hAppend va_W va_W va_W _ (xW h0 nw sp xa la lb) (@HAppend.hAppend va_W va_W va_W _ (rcV X nw an sv dv n0 n1 n2 n3 n4 g0 gs gn gm) (@HAppend.hAppend va_W va_W va_W _ (rnV (xa 8) ag dg) ([((xa 13), .inl (X.2.1, 6, .inl fk))])))) sz) s (@HAppend.hAppend va_W va_W va_W _ ([((xa 13), .inl (X.2.1, 6, .inl f2_3))]) (@HAppend.hAppend va_W va_W va_W _ (xW h0 nw sp xa la lb) (@HAppend.hAppend va_W va_W va_W _ (rcV X nw an sv dv n0 n1 n2 n3 n4 g0 gs gn gm) (rnV (xa 8) a_30a d_30b)))) H locs := G
          refine k_cutW (PP := fun Wx => ∀ (x_35 : Int32) (H : Heap) (locs : List Loc) (ls : Array Slot), wd X (va_A (@HAppend.hAppend va_W va_W va_W _ (xW h0 nw sp xa la lb) (@HAppend.hAppend va_W va_W va_W _ (rcV X nw an sv dv n0 n1 n2 n3 n4 g0 gs gn gm) (@HAppend.hAppend va_W va_W va_W _ (rnV (xa 8) ag dg) ([((xa 13), .inl (X.2.1, 6, .inl fk))])))) sz) (va_A (@HAppend.hAppend va_W va_W va_W _ (xW h0 nw sp xa la lb) (@HAppend.hAppend va_W va_W va_W _ (rcV X nw an sv dv n0 n1 n2 n3 n4 g0 gs gn gm) (@HAppend.hAppend va_W va_W va_W _ (rnV (xa 8) ag dg) ([((xa 13), .inl (X.2.1, 6, .inl fk))])))) sz) s (@HAppend.hAppend va_W va_W va_W _ ([((xa 13), .inl (X.2.1, 6, .inl f2_3))]) (@HAppend.hAppend va_W va_W va_W _ (xW h0 nw sp xa la lb) (@HAppend.hAppend va_W va_W va_W _ (rcV X nw an sv dv n0 n1 n2 n3 n4 g0 gs gn gm) (rnV (xa 8) a_30a d_30b)))) H locs → lv_has ls 5 [(4, .int x_32), (3, .int r_30), (2, .ref (an 5)), (1, .int 4), (0, .ref h0)] → Wx (F0 m 69 ls [.int x_35, .int 4, .ref (xa 13)]) H locs) ?_ ?_
          · intro join_53
            refine lv_if_eq (tgt := 63) zx zb dX10_rankAll_53 (by decide) (fun c_34 => ?_) (fun c_34 => ?_)
            · refine lv_sipush (v := 9999) zx zb dX10_rankAll_63 (by decide) ?_
              refine lv_iload zx zb dX10_rankAll_66 (lv_at hl 0 rfl) ?_
              refine r_iadd (v := (9999 + x_32)) S rfl dX10_rankAll_68 ?_
              exact join_53 (9999 + x_32) _ _ _  G hl
            · refine lv_aload_n zx zb dX10_rankAll_56 rfl (lv_at hl 2 rfl) ?_
              refine r_get (C := RX8) (T := TX8) (N := 8) (ci := 6) (v := .int (dv 34)) S in_X10_rankAll_X8 G 8 rfl rfl 7 (by decide) lk_X10_rankAll_303 rfl dX10_rankAll_57 ?_
              refine lv_goto (tgt := 69) zx zb dX10_rankAll_60 (by decide) ?_
              exact join_53 (dv 34) _ _ _  G hl
          · intro x_35 H locs ls  G hl
            refine r_iast S G 0 rfl (k_vp (by decide)) dX10_rankAll_69 (fun H locs G => ?_)
            obtain ⟨f_36, G⟩ : ∃ f_36 : Nat → Int32, wd X (va_A (@HAppend.hAppend va_W va_W va_W _ (xW h0 nw sp xa la lb) (@HAppend.hAppend va_W va_W va_W _ (rcV X nw an sv dv n0 n1 n2 n3 n4 g0 gs gn gm) (@HAppend.hAppend va_W va_W va_W _ (rnV (xa 8) ag dg) ([((xa 13), .inl (X.2.1, 6, .inl fk))])))) sz) (va_A (@HAppend.hAppend va_W va_W va_W _ (xW h0 nw sp xa la lb) (@HAppend.hAppend va_W va_W va_W _ (rcV X nw an sv dv n0 n1 n2 n3 n4 g0 gs gn gm) (@HAppend.hAppend va_W va_W va_W _ (rnV (xa 8) ag dg) ([((xa 13), .inl (X.2.1, 6, .inl fk))])))) sz) s (@HAppend.hAppend va_W va_W va_W _ ([((xa 13), .inl (X.2.1, 6, .inl f_36))]) (@HAppend.hAppend va_W va_W va_W _ (xW h0 nw sp xa la lb) (@HAppend.hAppend va_W va_W va_W _ (rcV X nw an sv dv n0 n1 n2 n3 n4 g0 gs gn gm) (rnV (xa 8) a_30a d_30b)))) H locs := ⟨_, G⟩
            refine lv_iinc (v := 5) (lv' := [(1, .int 5), (4, .int x_32), (3, .int r_30), (2, .ref (an 5)), (0, .ref h0)]) zx zb dX10_rankAll_70 hl (k := 3) rfl (by decide) (by decide) rfl (fun ls hl => ?_)
            refine lv_goto (tgt := 2) zx zb dX10_rankAll_73 (by decide) ?_
            have G : wd X (va_A (@HAppend.hAppend va_W va_W va_W _ (xW h0 nw sp xa la lb) (@HAppend.hAppend va_W va_W va_W _ (rcV X nw an sv dv n0 n1 n2 n3 n4 g0 gs gn gm) (@HAppend.hAppend va_W va_W va_W _ (rnV (xa 8) ag dg) ([((xa 13), .inl (X.2.1, 6, .inl fk))])))) sz) (va_A (@HAppend.hAppend va_W va_W va_W _ (xW h0 nw sp xa la lb) (@HAppend.hAppend va_W va_W va_W _ (rcV X nw an sv dv n0 n1 n2 n3 n4 g0 gs gn gm) (@HAppend.hAppend va_W va_W va_W _ (rnV (xa 8) ag dg) ([((xa 13), .inl (X.2.1, 6, .inl fk))])))) sz) s (@HAppend.hAppend va_W va_W va_W _ (xW h0 nw sp xa la lb) (@HAppend.hAppend va_W va_W va_W _ (rcV X nw an sv dv n0 n1 n2 n3 n4 g0 gs gn gm) (@HAppend.hAppend va_W va_W va_W _ (rnV (xa 8) a_30a d_30b) ([((xa 13), .inl (X.2.1, 6, .inl f_36))])))) H locs := wd_sub G [1, 2, 3, 4, 5, 6, 7, 8, 9, 10, 11, 12, 13, 14, 15, 16, 17, 18, 0] rfl rfl
            have hl := lv_sub hl (l' := [(1, .int 5), (0, .ref h0)]) [0, 4] rfl
            exact ih2 5 a_30a d_30b f_36 _ _ _ (by omega) (by omega) G hl
      · refine k_it (v := 5) rfl ?_
        refine r_aald (C := RX8) (b := (an 6)) S G 2 3 rfl rfl (k_vp (by decide)) rfl dX10_rankAll_21 ?_
        refine lv_astore_n (lv' := [(2, .ref (an 6)), (1, .int 5), (0, .ref h0)]) zx zb dX10_rankAll_22 rfl hl (by decide) rfl (fun ls hl => ?_)
        refine lv_aload_n zx zb dX10_rankAll_23 rfl (lv_at hl 2 rfl) ?_
        refine lv_iload_n zx zb dX10_rankAll_24 rfl (lv_at hl 1 rfl) ?_
        refine lv_bipush (v := 60) zx zb dX10_rankAll_25 (by decide) ?_
        refine b_wi (cells' := 0) (slots' := 0) (wr := [((xa 13), .inl (X.2.1, 6, .inl f2_3))]) G rfl rfl [0, 1, 2, 3, 4, 5, 6, 7, 8, 9, 10, 11, 12, 13, 14, 15, 16, 17] [18] rfl rfl rfl rfl (n_V (As := [.int 5, .int 60]) (rest := []) (C := RX10) (T := TX10) (N := 14) (ci := 8) S G (s_homeBehind l X h0 nw sp xa la lb an sv dv n0 n1 n2 n3 n4 g0 gs gn gm a2_2 d2_2 5 60 hI_n0 hI_n1 hI_n2 hI_n3 hI_n4 (by omega) (by first | decide | assumption | exact k_60a (by assumption)) H.size) gX10_rankAll_X10_homeBehind rfl rfl rfl hdV_X10_homeBehind ⟨Nat.le_of_ble_eq_true rfl, Nat.le_of_ble_eq_true rfl⟩ [0, 1, 2, 3, 4, 5, 6, 7, 8, 9, 10, 11, 12, 13, 14, 15, 16, 17] rfl rfl 0 rfl rfl rfl hl.1 (Nat.le_of_ble_eq_true rfl) dX10_rankAll_27 ⟨Nat.le_of_ble_eq_true rfl, Nat.le_of_ble_eq_true rfl⟩) (fun r_37 u_37 H locs hp_37 G => ?_)
        obtain ⟨a_37a, d_37b⟩ := u_37
        have hq_37 := hp_37
        have G : wd X (va_A (@HAppend.hAppend va_W va_W va_W _ (xW h0 nw sp xa la lb) (@HAppend.hAppend va_W va_W va_W _ (rcV X nw an sv dv n0 n1 n2 n3 n4 g0 gs gn gm) (@HAppend.hAppend va_W va_W va_W _ (rnV (xa 8) ag dg) ([((xa 13), .inl (X.2.1, 6, .inl fk))])))) sz) (va_A (@HAppend.hAppend va_W va_W va_W _ (xW h0 nw sp xa la lb) (@HAppend.hAppend va_W va_W va_W _ (rcV X nw an sv dv n0 n1 n2 n3 n4 g0 gs gn gm) (@HAppend.hAppend va_W va_W va_W _ (rnV (xa 8) ag dg) ([((xa 13), .inl (X.2.1, 6, .inl fk))])))) sz) s (@HAppend.hAppend va_W va_W va_W _ ([((xa 13), .inl (X.2.1, 6, .inl f2_3))]) (@HAppend.hAppend va_W va_W va_W _ (xW h0 nw sp xa la lb) (@HAppend.hAppend va_W va_W va_W _ (rcV X nw an sv dv n0 n1 n2 n3 n4 g0 gs gn gm) (rnV (xa 8) a_37a d_37b)))) H locs := G
        refine lv_istore_n (lv' := [(3, .int r_37), (2, .ref (an 6)), (1, .int 5), (0, .ref h0)]) zx zb dX10_rankAll_30 rfl hl (by decide) rfl (fun ls hl => ?_)
        refine lv_iload_n zx zb dX10_rankAll_31 rfl (lv_at hl 0 rfl) ?_
        refine lv_iconst (v := (-1)) zx zb dX10_rankAll_32 (by decide) ?_
        refine k_cutW (PP := fun Wx => ∀ (x_39 : Int32) (H : Heap) (locs : List Loc) (ls : Array Slot), wd X (va_A (@HAppend.hAppend va_W va_W va_W _ (xW h0 nw sp xa la lb) (@HAppend.hAppend va_W va_W va_W _ (rcV X nw an sv dv n0 n1 n2 n3 n4 g0 gs gn gm) (@HAppend.hAppend va_W va_W va_W _ (rnV (xa 8) ag dg) ([((xa 13), .inl (X.2.1, 6, .inl fk))])))) sz) (va_A (@HAppend.hAppend va_W va_W va_W _ (xW h0 nw sp xa la lb) (@HAppend.hAppend va_W va_W va_W _ (rcV X nw an sv dv n0 n1 n2 n3 n4 g0 gs gn gm) (@HAppend.hAppend va_W va_W va_W _ (rnV (xa 8) ag dg) ([((xa 13), .inl (X.2.1, 6, .inl fk))])))) sz) s (@HAppend.hAppend va_W va_W va_W _ ([((xa 13), .inl (X.2.1, 6, .inl f2_3))]) (@HAppend.hAppend va_W va_W va_W _ (xW h0 nw sp xa la lb) (@HAppend.hAppend va_W va_W va_W _ (rcV X nw an sv dv n0 n1 n2 n3 n4 g0 gs gn gm) (rnV (xa 8) a_37a d_37b)))) H locs → lv_has ls 5 [(3, .int r_37), (2, .ref (an 6)), (1, .int 5), (0, .ref h0)] → Wx (F0 m 42 ls [.int x_39]) H locs) ?_ ?_
        · intro join_33
          refine lv_icmp_ne (tgt := 41) zx zb dX10_rankAll_33 (by decide) (fun c_38 => ?_) (fun c_38 => ?_)
          · refine lv_iload_n zx zb dX10_rankAll_41 rfl (lv_at hl 0 rfl) ?_
            exact join_33 r_37 _ _ _  G hl
          · refine lv_bipush (v := 61) zx zb dX10_rankAll_36 (by decide) ?_
            refine lv_goto (tgt := 42) zx zb dX10_rankAll_38 (by decide) ?_
            exact join_33 61 _ _ _  G hl
        · intro x_39 H locs ls  G hl
          refine lv_istore (lv' := [(4, .int x_39), (3, .int r_37), (2, .ref (an 6)), (1, .int 5), (0, .ref h0)]) zx zb dX10_rankAll_42 hl (by decide) rfl (fun ls hl => ?_)
          refine lv_aload_n zx zb dX10_rankAll_44 rfl (lv_at hl 4 rfl) ?_
          refine r_get (C := RX10) (T := TX10) (N := 14) (ci := 8) (v := .ref (xa 13)) S in_X10_rankAll_X10 G 1 rfl rfl 13 (by decide) lk_X10_rankAll_76 rfl dX10_rankAll_45 ?_
          refine lv_iload_n zx zb dX10_rankAll_48 rfl (lv_at hl 3 rfl) ?_
          refine lv_aload_n zx zb dX10_rankAll_49 rfl (lv_at hl 2 rfl) ?_
          refine o_ri (cells' := 0) (slots' := 0) G rfl rfl (n_V (As := []) (rest := [.int 5, .ref (xa 13)]) (C := RX8) (T := TX8) (N := 8) (ci := 6) S G (s_isHome l X (an 6) (fun k => sv (15 + k)) (fun k => dv (35 + k)) H.size) gX10_rankAll_X8_isHome rfl rfl rfl hdV_X8_isHome ⟨Nat.le_of_ble_eq_true rfl, Nat.le_of_ble_eq_true rfl⟩ [9] rfl rfl 9 rfl rfl rfl hl.1 (Nat.le_of_ble_eq_true rfl) dX10_rankAll_50 ⟨Nat.le_of_ble_eq_true rfl, Nat.le_of_ble_eq_true rfl⟩) (fun r_40 u_40 H locs hp_40 G => ?_)
          have G : wd X (va_A (@HAppend.hAppend va_W va_W va_W _ (xW h0 nw sp xa la lb) (@HAppend.hAppend va_W va_W va_W _ (rcV X nw an sv dv n0 n1 n2 n3 n4 g0 gs gn gm) (@HAppend.hAppend va_W va_W va_W _ (rnV (xa 8) ag dg) ([((xa 13), .inl (X.2.1, 6, .inl fk))])))) sz) (va_A (@HAppend.hAppend va_W va_W va_W _ (xW h0 nw sp xa la lb) (@HAppend.hAppend va_W va_W va_W _ (rcV X nw an sv dv n0 n1 n2 n3 n4 g0 gs gn gm) (@HAppend.hAppend va_W va_W va_W _ (rnV (xa 8) ag dg) ([((xa 13), .inl (X.2.1, 6, .inl fk))])))) sz) s (@HAppend.hAppend va_W va_W va_W _ ([((xa 13), .inl (X.2.1, 6, .inl f2_3))]) (@HAppend.hAppend va_W va_W va_W _ (xW h0 nw sp xa la lb) (@HAppend.hAppend va_W va_W va_W _ (rcV X nw an sv dv n0 n1 n2 n3 n4 g0 gs gn gm) (rnV (xa 8) a_37a d_37b)))) H locs := G
          refine k_cutW (PP := fun Wx => ∀ (x_42 : Int32) (H : Heap) (locs : List Loc) (ls : Array Slot), wd X (va_A (@HAppend.hAppend va_W va_W va_W _ (xW h0 nw sp xa la lb) (@HAppend.hAppend va_W va_W va_W _ (rcV X nw an sv dv n0 n1 n2 n3 n4 g0 gs gn gm) (@HAppend.hAppend va_W va_W va_W _ (rnV (xa 8) ag dg) ([((xa 13), .inl (X.2.1, 6, .inl fk))])))) sz) (va_A (@HAppend.hAppend va_W va_W va_W _ (xW h0 nw sp xa la lb) (@HAppend.hAppend va_W va_W va_W _ (rcV X nw an sv dv n0 n1 n2 n3 n4 g0 gs gn gm) (@HAppend.hAppend va_W va_W va_W _ (rnV (xa 8) ag dg) ([((xa 13), .inl (X.2.1, 6, .inl fk))])))) sz) s (@HAppend.hAppend va_W va_W va_W _ ([((xa 13), .inl (X.2.1, 6, .inl f2_3))]) (@HAppend.hAppend va_W va_W va_W _ (xW h0 nw sp xa la lb) (@HAppend.hAppend va_W va_W va_W _ (rcV X nw an sv dv n0 n1 n2 n3 n4 g0 gs gn gm) (rnV (xa 8) a_37a d_37b)))) H locs → lv_has ls 5 [(4, .int x_39), (3, .int r_37), (2, .ref (an 6)), (1, .int 5), (0, .ref h0)] → Wx (F0 m 69 ls [.int x_42, .int 5, .ref (xa 13)]) H locs) ?_ ?_
          · intro join_53
            refine lv_if_eq (tgt := 63) zx zb dX10_rankAll_53 (by decide) (fun c_41 => ?_) (fun c_41 => ?_)
            · refine lv_sipush (v := 9999) zx zb dX10_rankAll_63 (by decide) ?_
              refine lv_iload zx zb dX10_rankAll_66 (lv_at hl 0 rfl) ?_
              refine r_iadd (v := (9999 + x_39)) S rfl dX10_rankAll_68 ?_
              exact join_53 (9999 + x_39) _ _ _  G hl
            · refine lv_aload_n zx zb dX10_rankAll_56 rfl (lv_at hl 2 rfl) ?_
              refine r_get (C := RX8) (T := TX8) (N := 8) (ci := 6) (v := .int (dv 39)) S in_X10_rankAll_X8 G 9 rfl rfl 7 (by decide) lk_X10_rankAll_303 rfl dX10_rankAll_57 ?_
              refine lv_goto (tgt := 69) zx zb dX10_rankAll_60 (by decide) ?_
              exact join_53 (dv 39) _ _ _  G hl
          · intro x_42 H locs ls  G hl
            refine r_iast S G 0 rfl (k_vp (by decide)) dX10_rankAll_69 (fun H locs G => ?_)
            obtain ⟨f_43, G⟩ : ∃ f_43 : Nat → Int32, wd X (va_A (@HAppend.hAppend va_W va_W va_W _ (xW h0 nw sp xa la lb) (@HAppend.hAppend va_W va_W va_W _ (rcV X nw an sv dv n0 n1 n2 n3 n4 g0 gs gn gm) (@HAppend.hAppend va_W va_W va_W _ (rnV (xa 8) ag dg) ([((xa 13), .inl (X.2.1, 6, .inl fk))])))) sz) (va_A (@HAppend.hAppend va_W va_W va_W _ (xW h0 nw sp xa la lb) (@HAppend.hAppend va_W va_W va_W _ (rcV X nw an sv dv n0 n1 n2 n3 n4 g0 gs gn gm) (@HAppend.hAppend va_W va_W va_W _ (rnV (xa 8) ag dg) ([((xa 13), .inl (X.2.1, 6, .inl fk))])))) sz) s (@HAppend.hAppend va_W va_W va_W _ ([((xa 13), .inl (X.2.1, 6, .inl f_43))]) (@HAppend.hAppend va_W va_W va_W _ (xW h0 nw sp xa la lb) (@HAppend.hAppend va_W va_W va_W _ (rcV X nw an sv dv n0 n1 n2 n3 n4 g0 gs gn gm) (rnV (xa 8) a_37a d_37b)))) H locs := ⟨_, G⟩
            refine lv_iinc (v := 6) (lv' := [(1, .int 6), (4, .int x_39), (3, .int r_37), (2, .ref (an 6)), (0, .ref h0)]) zx zb dX10_rankAll_70 hl (k := 3) rfl (by decide) (by decide) rfl (fun ls hl => ?_)
            refine lv_goto (tgt := 2) zx zb dX10_rankAll_73 (by decide) ?_
            have G : wd X (va_A (@HAppend.hAppend va_W va_W va_W _ (xW h0 nw sp xa la lb) (@HAppend.hAppend va_W va_W va_W _ (rcV X nw an sv dv n0 n1 n2 n3 n4 g0 gs gn gm) (@HAppend.hAppend va_W va_W va_W _ (rnV (xa 8) ag dg) ([((xa 13), .inl (X.2.1, 6, .inl fk))])))) sz) (va_A (@HAppend.hAppend va_W va_W va_W _ (xW h0 nw sp xa la lb) (@HAppend.hAppend va_W va_W va_W _ (rcV X nw an sv dv n0 n1 n2 n3 n4 g0 gs gn gm) (@HAppend.hAppend va_W va_W va_W _ (rnV (xa 8) ag dg) ([((xa 13), .inl (X.2.1, 6, .inl fk))])))) sz) s (@HAppend.hAppend va_W va_W va_W _ (xW h0 nw sp xa la lb) (@HAppend.hAppend va_W va_W va_W _ (rcV X nw an sv dv n0 n1 n2 n3 n4 g0 gs gn gm) (@HAppend.hAppend va_W va_W va_W _ (rnV (xa 8) a_37a d_37b) ([((xa 13), .inl (X.2.1, 6, .inl f_43))])))) H locs := wd_sub G [1, 2, 3, 4, 5, 6, 7, 8, 9, 10, 11, 12, 13, 14, 15, 16, 17, 18, 0] rfl rfl
            have hl := lv_sub hl (l' := [(1, .int 6), (0, .ref h0)]) [0, 4] rfl
            exact ih2 6 a_37a d_37b f_43 _ _ _ (by omega) (by omega) G hl
theorem in_X10_aheadOf_X10 : ∀ w ∈ wsX100, w ∈ wsX10_aheadOf := by decide +kernel
theorem lk_X10_aheadOf_10 : Cond.fieldLink RX10 10 "EggSpoons" "now" "LEggSpoons$Race;" ∈ wsX10_aheadOf := by decide +kernel
theorem in_X10_aheadOf_X5 : ∀ w ∈ wsX50, w ∈ wsX10_aheadOf := by decide +kernel
theorem lk_X10_aheadOf_87 : Cond.fieldLink RX10 87 "EggSpoons$Race" "runners" "I" ∈ wsX10_aheadOf := by decide +kernel
theorem lk_X10_aheadOf_76 : Cond.fieldLink RX10 76 "EggSpoons" "ranks" "[I" ∈ wsX10_aheadOf := by decide +kernel
set_option maxHeartbeats 4000000 in
set_option maxRecDepth 100000 in
/-- aheadOf -/
theorem s_aheadOf (l : Launch) (X : EX) (h0 : Nat) (nw : Nat) (sp : Nat) (xa : Nat → Nat) (la : Int64) (lb : Int64) (an : Nat → Nat) (sv : Nat → Int32) (dv : Nat → Int32) (n0 : Nat) (n1 : Nat) (n2 : Nat) (n3 : Nat) (n4 : Nat) (g0 : Nat → Int32) (gs : Nat → Int32) (gn : Nat → Int32) (gm : Nat → Int32) (fk : Nat → Int32) (i : Nat) (hI_n0 : n0 ≤ 6) (hI_n1 : n1 ≤ 8) (hI_n2 : n2 ≤ 5) (hI_n3 : n3 ≤ 6) (hI_n4 : n4 ≤ 6) (hi6 : i < 6) (sz : Nat) : Met l yX10_aheadOf wsX10_aheadOf ({ frames := 0, cells := 0, slots := 0, locals := 0 } : Room) (pE X [.ref h0, .int (nI i)] (@HAppend.hAppend va_W va_W va_W _ (xW h0 nw sp xa la lb) (@HAppend.hAppend va_W va_W va_W _ (rcV X nw an sv dv n0 n1 n2 n3 n4 g0 gs gn gm) ([((xa 13), .inl (X.2.1, 6, .inl fk))]))) sz) (qI (fun (r : Int32) (u : Unit) => True) X (fun (u : Unit) => []) [] sz) 0 0 (va_A [] sz) := by
  refine mk_met (B := (fun _ => True)) (A := (va_A [] sz)) (cc := cX10_aheadOf) (maxL := 4) (ret := (some .int)) (by decide) rfl (Nat.le_of_ble_eq_true rfl) k_ro k_a (fun p e s m below meth c S zr zlk znm zsz G ls hl => ?_)
  have S : CallFix p m c cX10_aheadOf 4 s _ wsX10_aheadOf RX10 := S
  have zx := S.1
  have zb := S.2.1
  have hl : lv_has ls 4 [(0, .ref h0), (1, .int (nI i))] := hl
  refine lv_iconst (v := 0) zx zb dX10_aheadOf_0 (by decide) ?_
  refine lv_istore_n (lv' := [(2, .int 0), (0, .ref h0), (1, .int (nI i))]) zx zb dX10_aheadOf_1 rfl hl (by decide) rfl (fun ls hl => ?_)
  refine lv_iconst (v := 0) zx zb dX10_aheadOf_2 (by decide) ?_
  refine lv_istore_n (lv' := [(3, .int 0), (2, .int 0), (0, .ref h0), (1, .int (nI i))]) zx zb dX10_aheadOf_3 rfl hl (by decide) rfl (fun ls hl => ?_)
  refine k_loop (P := ∀ (zm : Nat) (k4 : Nat) (x4_2 : Int32) (H : Heap) (locs : List Loc) (ls : Array Slot), 6 + 1 ≤ k4 + zm → (k4 ≤ 6) → wd X (fun _ => True) (va_A [] sz) s (@HAppend.hAppend va_W va_W va_W _ (xW h0 nw sp xa la lb) (@HAppend.hAppend va_W va_W va_W _ (rcV X nw an sv dv n0 n1 n2 n3 n4 g0 gs gn gm) ([((xa 13), .inl (X.2.1, 6, .inl fk))]))) H locs → lv_has ls 4 [(3, .int (nI k4)), (2, .int x4_2), (0, .ref h0), (1, .int (nI i))] → W p l e _ s m _ below meth c H locs _ _ _ (F0 m 4 ls [])) (fun loop => loop (6 + 1) 0 0 _ _ _ (by omega) (by omega) G hl) ?_
  intro zm
  induction zm with
  | zero => intro k4 x4_2 H locs ls zz q_hk_k4 _ _; exact absurd zz (by omega)
  | succ zm ih4 =>
    intro k4 x4_2 H locs ls zm_4 hk_k4 G hl
    refine lv_iload_n zx zb dX10_aheadOf_4 rfl (lv_at hl 0 rfl) ?_
    refine lv_aload_n zx zb dX10_aheadOf_5 rfl (lv_at hl 2 rfl) ?_
    refine r_get (C := RX10) (T := TX10) (N := 14) (ci := 8) (v := .ref nw) S in_X10_aheadOf_X10 G 0 rfl rfl 0 (by decide) lk_X10_aheadOf_10 rfl dX10_aheadOf_6 ?_
    refine r_get (C := RX5) (T := TX5) (N := 8) (ci := 3) (v := .int (nI n0)) S in_X10_aheadOf_X5 G 1 rfl rfl 2 (by decide) lk_X10_aheadOf_87 rfl dX10_aheadOf_9 ?_
    refine lv_icmp_ge (tgt := 59) zx zb dX10_aheadOf_12 (by decide) (fun c_1 => ?_) (fun c_1 => ?_)
    · have fc_1 := j_le (a := n0) (b := k4) (by omega) (by omega) c_1
      refine lv_iload_n zx zb dX10_aheadOf_59 rfl (lv_at hl 1 rfl) ?_
      exact e_int S zr zlk (vp_nar_int _) G () [] rfl rfl (Or.inl rfl) (trivial) dX10_aheadOf_60
    · have fc_1 := j_nle (a := n0) (b := k4) (by omega) (by omega) c_1
      refine lv_aload_n zx zb dX10_aheadOf_15 rfl (lv_at hl 2 rfl) ?_
      refine r_get (C := RX10) (T := TX10) (N := 14) (ci := 8) (v := .ref (xa 13)) S in_X10_aheadOf_X10 G 0 rfl rfl 13 (by decide) lk_X10_aheadOf_76 rfl dX10_aheadOf_16 ?_
      refine lv_iload_n zx zb dX10_aheadOf_19 rfl (lv_at hl 0 rfl) ?_
      refine r_iald S G 17 rfl (vp_in_nI (by omega) (by decide)) rfl dX10_aheadOf_20 ?_
      refine k_itE (fun y_2 => ?_)
      refine lv_aload_n zx zb dX10_aheadOf_21 rfl (lv_at hl 2 rfl) ?_
      refine r_get (C := RX10) (T := TX10) (N := 14) (ci := 8) (v := .ref (xa 13)) S in_X10_aheadOf_X10 G 0 rfl rfl 13 (by decide) lk_X10_aheadOf_76 rfl dX10_aheadOf_22 ?_
      refine lv_iload_n zx zb dX10_aheadOf_25 rfl (lv_at hl 3 rfl) ?_
      refine r_iald S G 17 rfl (vp_in_nI (by omega) (by decide)) rfl dX10_aheadOf_26 ?_
      refine k_itE (fun y_3 => ?_)
      refine k_cutW (PP := fun Wx => ∀ (x_5 : Int32) (H : Heap) (locs : List Loc) (ls : Array Slot), wd X (fun _ => True) (va_A [] sz) s (@HAppend.hAppend va_W va_W va_W _ (xW h0 nw sp xa la lb) (@HAppend.hAppend va_W va_W va_W _ (rcV X nw an sv dv n0 n1 n2 n3 n4 g0 gs gn gm) ([((xa 13), .inl (X.2.1, 6, .inl fk))]))) H locs → lv_has ls 4 [(2, .int x_5), (3, .int (nI k4)), (0, .ref h0), (1, .int (nI i))] → Wx (F0 m 53 ls []) H locs) ?_ ?_
      · intro join_27
        refine lv_icmp_lt (tgt := 50) zx zb dX10_aheadOf_27 (by decide) (fun c_4 => ?_) (fun c_4 => ?_)
        · refine lv_iinc (v := (x4_2 + 1)) (lv' := [(2, .int (x4_2 + 1)), (3, .int (nI k4)), (0, .ref h0), (1, .int (nI i))]) zx zb dX10_aheadOf_50 hl (k := 1) rfl rfl (by decide) rfl (fun ls hl => ?_)
          exact join_27 (x4_2 + 1) _ _ _  G hl
        · refine lv_aload_n zx zb dX10_aheadOf_30 rfl (lv_at hl 2 rfl) ?_
          refine r_get (C := RX10) (T := TX10) (N := 14) (ci := 8) (v := .ref (xa 13)) S in_X10_aheadOf_X10 G 0 rfl rfl 13 (by decide) lk_X10_aheadOf_76 rfl dX10_aheadOf_31 ?_
          refine lv_iload_n zx zb dX10_aheadOf_34 rfl (lv_at hl 0 rfl) ?_
          refine r_iald S G 17 rfl (vp_in_nI (by omega) (by decide)) rfl dX10_aheadOf_35 ?_
          refine k_itE (fun y_6 => ?_)
          refine lv_aload_n zx zb dX10_aheadOf_36 rfl (lv_at hl 2 rfl) ?_
          refine r_get (C := RX10) (T := TX10) (N := 14) (ci := 8) (v := .ref (xa 13)) S in_X10_aheadOf_X10 G 0 rfl rfl 13 (by decide) lk_X10_aheadOf_76 rfl dX10_aheadOf_37 ?_
          refine lv_iload_n zx zb dX10_aheadOf_40 rfl (lv_at hl 3 rfl) ?_
          refine r_iald S G 17 rfl (vp_in_nI (by omega) (by decide)) rfl dX10_aheadOf_41 ?_
          refine k_itE (fun y_7 => ?_)
          refine lv_icmp_ne (tgt := 53) zx zb dX10_aheadOf_42 (by decide) (fun c_8 => ?_) (fun c_8 => ?_)
          · have hl := lv_sub hl (l' := [(2, .int x4_2), (3, .int (nI k4)), (0, .ref h0), (1, .int (nI i))]) [1, 0, 2, 3] rfl
            exact join_27 x4_2 _ _ _  G hl
          · refine lv_iload_n zx zb dX10_aheadOf_45 rfl (lv_at hl 0 rfl) ?_
            refine lv_iload_n zx zb dX10_aheadOf_46 rfl (lv_at hl 3 rfl) ?_
            refine lv_icmp_ge (tgt := 53) zx zb dX10_aheadOf_47 (by decide) (fun c_9 => ?_) (fun c_9 => ?_)
            · have fc_9 := j_le (a := i) (b := k4) (by omega) (by omega) c_9
              have hl := lv_sub hl (l' := [(2, .int x4_2), (3, .int (nI k4)), (0, .ref h0), (1, .int (nI i))]) [1, 0, 2, 3] rfl
              exact join_27 x4_2 _ _ _  G hl
            · have fc_9 := j_nle (a := i) (b := k4) (by omega) (by omega) c_9
              refine lv_iinc (v := (x4_2 + 1)) (lv' := [(2, .int (x4_2 + 1)), (3, .int (nI k4)), (0, .ref h0), (1, .int (nI i))]) zx zb dX10_aheadOf_50 hl (k := 1) rfl rfl (by decide) rfl (fun ls hl => ?_)
              exact join_27 (x4_2 + 1) _ _ _  G hl
      · intro x_5 H locs ls  G hl
        refine lv_iinc (v := (nI (k4 + 1))) (lv' := [(3, .int (nI (k4 + 1))), (2, .int x_5), (0, .ref h0), (1, .int (nI i))]) zx zb dX10_aheadOf_53 hl (k := 1) rfl (nI_add k4 1) (by decide) rfl (fun ls hl => ?_)
        refine lv_goto (tgt := 4) zx zb dX10_aheadOf_56 (by decide) ?_
        exact ih4 (k4 + 1) x_5 _ _ _ (by omega) (by omega) G hl
theorem in_X10_order_X10 : ∀ w ∈ wsX100, w ∈ wsX10_order := by decide +kernel
theorem lk_X10_order_10 : Cond.fieldLink RX10 10 "EggSpoons" "now" "LEggSpoons$Race;" ∈ wsX10_order := by decide +kernel
theorem in_X10_order_X5 : ∀ w ∈ wsX50, w ∈ wsX10_order := by decide +kernel
theorem lk_X10_order_87 : Cond.fieldLink RX10 87 "EggSpoons$Race" "runners" "I" ∈ wsX10_order := by decide +kernel
theorem hdV_X10_rankAll : yX10_rankAll.cls = RX10 ∧ yX10_rankAll.cls ≠ "java/lang/invoke/MethodHandle" ∧ yX10_rankAll.cls ≠ "java/lang/invoke/VarHandle" ∧ (parseMethodDescriptor yX10_rankAll.desc).map (fun d => d.parameters.length) = some 0 := by decide +kernel
theorem hdV_X10_aheadOf : yX10_aheadOf.cls = RX10 ∧ yX10_aheadOf.cls ≠ "java/lang/invoke/MethodHandle" ∧ yX10_aheadOf.cls ≠ "java/lang/invoke/VarHandle" ∧ (parseMethodDescriptor yX10_aheadOf.desc).map (fun d => d.parameters.length) = some 1 := by decide +kernel
set_option maxHeartbeats 4000000 in
set_option maxRecDepth 100000 in
/-- order -/
theorem s_order (l : Launch) (X : EX) (h0 : Nat) (nw : Nat) (sp : Nat) (xa : Nat → Nat) (la : Int64) (lb : Int64) (an : Nat → Nat) (sv : Nat → Int32) (dv : Nat → Int32) (n0 : Nat) (n1 : Nat) (n2 : Nat) (n3 : Nat) (n4 : Nat) (g0 : Nat → Int32) (gs : Nat → Int32) (gn : Nat → Int32) (gm : Nat → Int32) (ag : Nat → Int32) (dg : Nat → Int32) (fk : Nat → Int32) (fr : Nat → Int32) (x1 : Int32) (hI_n0 : n0 ≤ 6) (hI_n1 : n1 ≤ 8) (hI_n2 : n2 ≤ 5) (hI_n3 : n3 ≤ 6) (hI_n4 : n4 ≤ 6) (sz : Nat) : Met l yX10_order wsX10_order ({ frames := 5, cells := 0, slots := 0, locals := 119 } : Room) (pE X [.ref h0, .int x1] (@HAppend.hAppend va_W va_W va_W _ (xW h0 nw sp xa la lb) (@HAppend.hAppend va_W va_W va_W _ (rcV X nw an sv dv n0 n1 n2 n3 n4 g0 gs gn gm) (@HAppend.hAppend va_W va_W va_W _ (rnV (xa 8) ag dg) (@HAppend.hAppend va_W va_W va_W _ ([((xa 13), .inl (X.2.1, 6, .inl fk))]) ([((xa 5), .inl (X.2.1, 3, .inl fr))]))))) sz) (qI (fun (r : Int32) (u : (Nat → Int32) × (Nat → Int32) × (Nat → Int32) × (Nat → Int32)) => (True)) X (fun (u : (Nat → Int32) × (Nat → Int32) × (Nat → Int32) × (Nat → Int32)) => @HAppend.hAppend va_W va_W va_W _ (xW h0 nw sp xa la lb) (@HAppend.hAppend va_W va_W va_W _ (rcV X nw an sv dv n0 n1 n2 n3 n4 g0 gs gn gm) (@HAppend.hAppend va_W va_W va_W _ (rnV (xa 8) u.1 u.2.1) (@HAppend.hAppend va_W va_W va_W _ ([((xa 13), .inl (X.2.1, 6, .inl u.2.2.1))]) ([((xa 5), .inl (X.2.1, 3, .inl u.2.2.2))]))))) (@HAppend.hAppend va_W va_W va_W _ (xW h0 nw sp xa la lb) (@HAppend.hAppend va_W va_W va_W _ (rcV X nw an sv dv n0 n1 n2 n3 n4 g0 gs gn gm) (@HAppend.hAppend va_W va_W va_W _ (rnV (xa 8) ag dg) (@HAppend.hAppend va_W va_W va_W _ ([((xa 13), .inl (X.2.1, 6, .inl fk))]) ([((xa 5), .inl (X.2.1, 3, .inl fr))]))))) sz) 0 0 (va_A (@HAppend.hAppend va_W va_W va_W _ (xW h0 nw sp xa la lb) (@HAppend.hAppend va_W va_W va_W _ (rcV X nw an sv dv n0 n1 n2 n3 n4 g0 gs gn gm) (@HAppend.hAppend va_W va_W va_W _ (rnV (xa 8) ag dg) (@HAppend.hAppend va_W va_W va_W _ ([((xa 13), .inl (X.2.1, 6, .inl fk))]) ([((xa 5), .inl (X.2.1, 3, .inl fr))]))))) sz) := by
  refine mk_met (B := (va_A (@HAppend.hAppend va_W va_W va_W _ (xW h0 nw sp xa la lb) (@HAppend.hAppend va_W va_W va_W _ (rcV X nw an sv dv n0 n1 n2 n3 n4 g0 gs gn gm) (@HAppend.hAppend va_W va_W va_W _ (rnV (xa 8) ag dg) (@HAppend.hAppend va_W va_W va_W _ ([((xa 13), .inl (X.2.1, 6, .inl fk))]) ([((xa 5), .inl (X.2.1, 3, .inl fr))]))))) sz)) (A := (va_A (@HAppend.hAppend va_W va_W va_W _ (xW h0 nw sp xa la lb) (@HAppend.hAppend va_W va_W va_W _ (rcV X nw an sv dv n0 n1 n2 n3 n4 g0 gs gn gm) (@HAppend.hAppend va_W va_W va_W _ (rnV (xa 8) ag dg) (@HAppend.hAppend va_W va_W va_W _ ([((xa 13), .inl (X.2.1, 6, .inl fk))]) ([((xa 5), .inl (X.2.1, 3, .inl fr))]))))) sz)) (cc := cX10_order) (maxL := 3) (ret := (some .int)) (by decide) rfl (Nat.le_of_ble_eq_true rfl) k_w k_a (fun p e s m below meth c S zr zlk znm zsz G ls hl => ?_)
  have S : CallFix p m c cX10_order 3 s _ wsX10_order RX10 := S
  have zx := S.1
  have zb := S.2.1
  have hl : lv_has ls 3 [(0, .ref h0), (1, .int x1)] := hl
  refine lv_iload_n zx zb dX10_order_0 rfl (lv_at hl 1 rfl) ?_
  refine lv_if_ge (tgt := 11) zx zb dX10_order_1 (by decide) (fun c_1 => ?_) (fun c_1 => ?_)
  · refine lv_iload_n zx zb dX10_order_11 rfl (lv_at hl 1 rfl) ?_
    refine lv_aload_n zx zb dX10_order_12 rfl (lv_at hl 0 rfl) ?_
    refine r_get (C := RX10) (T := TX10) (N := 14) (ci := 8) (v := .ref nw) S in_X10_order_X10 G 0 rfl rfl 0 (by decide) lk_X10_order_10 rfl dX10_order_13 ?_
    refine r_get (C := RX5) (T := TX5) (N := 8) (ci := 3) (v := .int (nI n0)) S in_X10_order_X5 G 1 rfl rfl 2 (by decide) lk_X10_order_87 rfl dX10_order_16 ?_
    refine lv_icmp_lt (tgt := 29) zx zb dX10_order_19 (by decide) (fun c_2 => ?_) (fun c_2 => ?_)
    · refine lv_aload_n zx zb dX10_order_29 rfl (lv_at hl 0 rfl) ?_
      refine b_wv (cells' := 0) (slots' := 0) (wr := [((xa 5), .inl (X.2.1, 3, .inl fr))]) G rfl rfl [0, 1, 2, 3, 4, 5, 6, 7, 8, 9, 10, 11, 12, 13, 14, 15, 16, 17, 18] [19] rfl rfl rfl rfl (n_V (As := []) (rest := []) (C := RX10) (T := TX10) (N := 14) (ci := 8) S G (s_rankAll l X h0 nw sp xa la lb an sv dv n0 n1 n2 n3 n4 g0 gs gn gm ag dg fk hI_n0 hI_n1 hI_n2 hI_n3 hI_n4 s.heap.size) gX10_order_X10_rankAll rfl rfl rfl hdV_X10_rankAll ⟨Nat.le_of_ble_eq_true rfl, Nat.le_of_ble_eq_true rfl⟩ [0, 1, 2, 3, 4, 5, 6, 7, 8, 9, 10, 11, 12, 13, 14, 15, 16, 17, 18] rfl rfl 0 rfl rfl rfl hl.1 (Nat.le_of_ble_eq_true rfl) dX10_order_30 ⟨Nat.le_of_ble_eq_true rfl, Nat.le_of_ble_eq_true rfl⟩) (fun u_3 H locs hp_3 G => ?_)
      obtain ⟨a_3a, d_3b, f_3c⟩ := u_3
      have hq_3 := hp_3
      have G : wd X (va_A (@HAppend.hAppend va_W va_W va_W _ (xW h0 nw sp xa la lb) (@HAppend.hAppend va_W va_W va_W _ (rcV X nw an sv dv n0 n1 n2 n3 n4 g0 gs gn gm) (@HAppend.hAppend va_W va_W va_W _ (rnV (xa 8) ag dg) (@HAppend.hAppend va_W va_W va_W _ ([((xa 13), .inl (X.2.1, 6, .inl fk))]) ([((xa 5), .inl (X.2.1, 3, .inl fr))]))))) sz) (va_A (@HAppend.hAppend va_W va_W va_W _ (xW h0 nw sp xa la lb) (@HAppend.hAppend va_W va_W va_W _ (rcV X nw an sv dv n0 n1 n2 n3 n4 g0 gs gn gm) (@HAppend.hAppend va_W va_W va_W _ (rnV (xa 8) ag dg) (@HAppend.hAppend va_W va_W va_W _ ([((xa 13), .inl (X.2.1, 6, .inl fk))]) ([((xa 5), .inl (X.2.1, 3, .inl fr))]))))) sz) s (@HAppend.hAppend va_W va_W va_W _ ([((xa 5), .inl (X.2.1, 3, .inl fr))]) (@HAppend.hAppend va_W va_W va_W _ (xW h0 nw sp xa la lb) (@HAppend.hAppend va_W va_W va_W _ (rcV X nw an sv dv n0 n1 n2 n3 n4 g0 gs gn gm) (@HAppend.hAppend va_W va_W va_W _ (rnV (xa 8) a_3a d_3b) ([((xa 13), .inl (X.2.1, 6, .inl f_3c))]))))) H locs := G
      refine lv_iconst (v := 0) zx zb dX10_order_33 (by decide) ?_
      refine lv_istore_n (lv' := [(2, .int 0), (0, .ref h0), (1, .int x1)]) zx zb dX10_order_34 rfl hl (by decide) rfl (fun ls hl => ?_)
      refine k_loop (P := ∀ (zm : Nat) (k35 : Nat) (H : Heap) (locs : List Loc) (ls : Array Slot), 6 + 1 ≤ k35 + zm → (k35 ≤ 6) → wd X (va_A (@HAppend.hAppend va_W va_W va_W _ (xW h0 nw sp xa la lb) (@HAppend.hAppend va_W va_W va_W _ (rcV X nw an sv dv n0 n1 n2 n3 n4 g0 gs gn gm) (@HAppend.hAppend va_W va_W va_W _ (rnV (xa 8) ag dg) (@HAppend.hAppend va_W va_W va_W _ ([((xa 13), .inl (X.2.1, 6, .inl fk))]) ([((xa 5), .inl (X.2.1, 3, .inl fr))]))))) sz) (va_A (@HAppend.hAppend va_W va_W va_W _ (xW h0 nw sp xa la lb) (@HAppend.hAppend va_W va_W va_W _ (rcV X nw an sv dv n0 n1 n2 n3 n4 g0 gs gn gm) (@HAppend.hAppend va_W va_W va_W _ (rnV (xa 8) ag dg) (@HAppend.hAppend va_W va_W va_W _ ([((xa 13), .inl (X.2.1, 6, .inl fk))]) ([((xa 5), .inl (X.2.1, 3, .inl fr))]))))) sz) s (@HAppend.hAppend va_W va_W va_W _ ([((xa 5), .inl (X.2.1, 3, .inl fr))]) (@HAppend.hAppend va_W va_W va_W _ (xW h0 nw sp xa la lb) (@HAppend.hAppend va_W va_W va_W _ (rcV X nw an sv dv n0 n1 n2 n3 n4 g0 gs gn gm) (@HAppend.hAppend va_W va_W va_W _ (rnV (xa 8) a_3a d_3b) ([((xa 13), .inl (X.2.1, 6, .inl f_3c))]))))) H locs → lv_has ls 3 [(2, .int (nI k35)), (0, .ref h0), (1, .int x1)] → W p l e _ s m _ below meth c H locs _ _ _ (F0 m 35 ls [])) (fun loop => loop (6 + 1) 0 _ _ _ (by omega) (by omega) G hl) ?_
      intro zm
      induction zm with
      | zero => intro k35 H locs ls zz q_hk_k35 _ _; exact absurd zz (by omega)
      | succ zm ih35 =>
        intro k35 H locs ls zm_35 hk_k35 G hl
        refine lv_iload_n zx zb dX10_order_35 rfl (lv_at hl 0 rfl) ?_
        refine lv_aload_n zx zb dX10_order_36 rfl (lv_at hl 1 rfl) ?_
        refine r_get (C := RX10) (T := TX10) (N := 14) (ci := 8) (v := .ref nw) S in_X10_order_X10 G 1 rfl rfl 0 (by decide) lk_X10_order_10 rfl dX10_order_37 ?_
        refine r_get (C := RX5) (T := TX5) (N := 8) (ci := 3) (v := .int (nI n0)) S in_X10_order_X5 G 2 rfl rfl 2 (by decide) lk_X10_order_87 rfl dX10_order_40 ?_
        refine lv_icmp_ge (tgt := 63) zx zb dX10_order_43 (by decide) (fun c_4 => ?_) (fun c_4 => ?_)
        · have fc_4 := j_le (a := n0) (b := k35) (by omega) (by omega) c_4
          refine lv_iconst (v := (-1)) zx zb dX10_order_63 (by decide) ?_
          exact e_int S zr zlk (vp_nar_int _) G (a_3a, d_3b, f_3c, fr) [1, 2, 3, 4, 5, 6, 7, 8, 9, 10, 11, 12, 13, 14, 15, 16, 17, 18, 19, 0] rfl rfl (Or.inr rfl) (trivial) dX10_order_64
        · have fc_4 := j_nle (a := n0) (b := k35) (by omega) (by omega) c_4
          refine lv_aload_n zx zb dX10_order_46 rfl (lv_at hl 1 rfl) ?_
          refine lv_iload_n zx zb dX10_order_47 rfl (lv_at hl 0 rfl) ?_
          refine o_ri (cells' := 0) (slots' := 0) G rfl rfl (n_V (As := [.int (nI k35)]) (rest := []) (C := RX10) (T := TX10) (N := 14) (ci := 8) S G (s_aheadOf l X h0 nw sp xa la lb an sv dv n0 n1 n2 n3 n4 g0 gs gn gm f_3c k35 hI_n0 hI_n1 hI_n2 hI_n3 hI_n4 (by omega) H.size) gX10_order_X10_aheadOf rfl rfl rfl hdV_X10_aheadOf ⟨Nat.le_of_ble_eq_true rfl, Nat.le_of_ble_eq_true rfl⟩ [1, 2, 3, 4, 5, 6, 7, 8, 9, 10, 11, 12, 13, 14, 15, 16, 17, 19] rfl rfl 1 rfl rfl rfl hl.1 (Nat.le_of_ble_eq_true rfl) dX10_order_48 ⟨Nat.le_of_ble_eq_true rfl, Nat.le_of_ble_eq_true rfl⟩) (fun r_5 u_5 H locs hp_5 G => ?_)
          have G : wd X (va_A (@HAppend.hAppend va_W va_W va_W _ (xW h0 nw sp xa la lb) (@HAppend.hAppend va_W va_W va_W _ (rcV X nw an sv dv n0 n1 n2 n3 n4 g0 gs gn gm) (@HAppend.hAppend va_W va_W va_W _ (rnV (xa 8) ag dg) (@HAppend.hAppend va_W va_W va_W _ ([((xa 13), .inl (X.2.1, 6, .inl fk))]) ([((xa 5), .inl (X.2.1, 3, .inl fr))]))))) sz) (va_A (@HAppend.hAppend va_W va_W va_W _ (xW h0 nw sp xa la lb) (@HAppend.hAppend va_W va_W va_W _ (rcV X nw an sv dv n0 n1 n2 n3 n4 g0 gs gn gm) (@HAppend.hAppend va_W va_W va_W _ (rnV (xa 8) ag dg) (@HAppend.hAppend va_W va_W va_W _ ([((xa 13), .inl (X.2.1, 6, .inl fk))]) ([((xa 5), .inl (X.2.1, 3, .inl fr))]))))) sz) s (@HAppend.hAppend va_W va_W va_W _ ([((xa 5), .inl (X.2.1, 3, .inl fr))]) (@HAppend.hAppend va_W va_W va_W _ (xW h0 nw sp xa la lb) (@HAppend.hAppend va_W va_W va_W _ (rcV X nw an sv dv n0 n1 n2 n3 n4 g0 gs gn gm) (@HAppend.hAppend va_W va_W va_W _ (rnV (xa 8) a_3a d_3b) ([((xa 13), .inl (X.2.1, 6, .inl f_3c))]))))) H locs := G
          refine lv_iload_n zx zb dX10_order_51 rfl (lv_at hl 2 rfl) ?_
          refine lv_icmp_ne (tgt := 57) zx zb dX10_order_52 (by decide) (fun c_6 => ?_) (fun c_6 => ?_)
          · refine lv_iinc (v := (nI (k35 + 1))) (lv' := [(2, .int (nI (k35 + 1))), (0, .ref h0), (1, .int x1)]) zx zb dX10_order_57 hl (k := 0) rfl (nI_add k35 1) (by decide) rfl (fun ls hl => ?_)
            refine lv_goto (tgt := 35) zx zb dX10_order_60 (by decide) ?_
            exact ih35 (k35 + 1) _ _ _ (by omega) (by omega) G hl
          · refine lv_iload_n zx zb dX10_order_55 rfl (lv_at hl 0 rfl) ?_
            exact e_int S zr zlk (vp_nar_int _) G (a_3a, d_3b, f_3c, fr) [1, 2, 3, 4, 5, 6, 7, 8, 9, 10, 11, 12, 13, 14, 15, 16, 17, 18, 19, 0] rfl rfl (Or.inr rfl) (trivial) dX10_order_56
    · refine lv_aload_n zx zb dX10_order_22 rfl (lv_at hl 0 rfl) ?_
      refine lv_bipush (v := (-3)) zx zb dX10_order_23 (by decide) ?_
      refine b_wi (cells' := 0) (slots' := 0) (wr := @HAppend.hAppend va_W va_W va_W _ (rcV X nw an sv dv n0 n1 n2 n3 n4 g0 gs gn gm) (@HAppend.hAppend va_W va_W va_W _ (rnV (xa 8) ag dg) ([((xa 13), .inl (X.2.1, 6, .inl fk))]))) G rfl rfl [0, 19] [1, 2, 3, 4, 5, 6, 7, 8, 9, 10, 11, 12, 13, 14, 15, 16, 17, 18] rfl rfl rfl rfl (n_V (As := [.int (-3)]) (rest := []) (C := RX10) (T := TX10) (N := 14) (ci := 8) S G (s_refuse l X h0 nw sp xa la lb fr (-3) s.heap.size) gX10_order_X10_refuse rfl rfl rfl hdV_X10_refuse ⟨Nat.le_of_ble_eq_true rfl, Nat.le_of_ble_eq_true rfl⟩ [0, 19] rfl rfl 0 rfl rfl rfl hl.1 (Nat.le_of_ble_eq_true rfl) dX10_order_25 ⟨Nat.le_of_ble_eq_true rfl, Nat.le_of_ble_eq_true rfl⟩) (fun r_7 u_7 H locs hp_7 G => ?_)
      obtain ⟨f_7, rfl⟩ : ∃ z, z = u_7 := ⟨_, rfl⟩
      have hq_7 := hp_7
      have G : wd X (va_A (@HAppend.hAppend va_W va_W va_W _ (xW h0 nw sp xa la lb) (@HAppend.hAppend va_W va_W va_W _ (rcV X nw an sv dv n0 n1 n2 n3 n4 g0 gs gn gm) (@HAppend.hAppend va_W va_W va_W _ (rnV (xa 8) ag dg) (@HAppend.hAppend va_W va_W va_W _ ([((xa 13), .inl (X.2.1, 6, .inl fk))]) ([((xa 5), .inl (X.2.1, 3, .inl fr))]))))) sz) (va_A (@HAppend.hAppend va_W va_W va_W _ (xW h0 nw sp xa la lb) (@HAppend.hAppend va_W va_W va_W _ (rcV X nw an sv dv n0 n1 n2 n3 n4 g0 gs gn gm) (@HAppend.hAppend va_W va_W va_W _ (rnV (xa 8) ag dg) (@HAppend.hAppend va_W va_W va_W _ ([((xa 13), .inl (X.2.1, 6, .inl fk))]) ([((xa 5), .inl (X.2.1, 3, .inl fr))]))))) sz) s (@HAppend.hAppend va_W va_W va_W _ (rcV X nw an sv dv n0 n1 n2 n3 n4 g0 gs gn gm) (@HAppend.hAppend va_W va_W va_W _ (rnV (xa 8) ag dg) (@HAppend.hAppend va_W va_W va_W _ ([((xa 13), .inl (X.2.1, 6, .inl fk))]) (@HAppend.hAppend va_W va_W va_W _ (xW h0 nw sp xa la lb) ([((xa 5), .inl (X.2.1, 3, .inl f_7))]))))) H locs := G
      exact e_int S zr zlk (vp_nar_int _) G (ag, dg, fk, f_7) [18, 0, 1, 2, 3, 4, 5, 6, 7, 8, 9, 10, 11, 12, 13, 14, 15, 16, 17, 19] rfl rfl (Or.inr rfl) (trivial) dX10_order_28
  · refine lv_aload_n zx zb dX10_order_4 rfl (lv_at hl 0 rfl) ?_
    refine lv_bipush (v := (-2)) zx zb dX10_order_5 (by decide) ?_
    refine b_wi (cells' := 0) (slots' := 0) (wr := @HAppend.hAppend va_W va_W va_W _ (rcV X nw an sv dv n0 n1 n2 n3 n4 g0 gs gn gm) (@HAppend.hAppend va_W va_W va_W _ (rnV (xa 8) ag dg) ([((xa 13), .inl (X.2.1, 6, .inl fk))]))) G rfl rfl [0, 19] [1, 2, 3, 4, 5, 6, 7, 8, 9, 10, 11, 12, 13, 14, 15, 16, 17, 18] rfl rfl rfl rfl (n_V (As := [.int (-2)]) (rest := []) (C := RX10) (T := TX10) (N := 14) (ci := 8) S G (s_refuse l X h0 nw sp xa la lb fr (-2) s.heap.size) gX10_order_X10_refuse rfl rfl rfl hdV_X10_refuse ⟨Nat.le_of_ble_eq_true rfl, Nat.le_of_ble_eq_true rfl⟩ [0, 19] rfl rfl 0 rfl rfl rfl hl.1 (Nat.le_of_ble_eq_true rfl) dX10_order_7 ⟨Nat.le_of_ble_eq_true rfl, Nat.le_of_ble_eq_true rfl⟩) (fun r_8 u_8 H locs hp_8 G => ?_)
    obtain ⟨f_8, rfl⟩ : ∃ z, z = u_8 := ⟨_, rfl⟩
    have hq_8 := hp_8
    have G : wd X (va_A (@HAppend.hAppend va_W va_W va_W _ (xW h0 nw sp xa la lb) (@HAppend.hAppend va_W va_W va_W _ (rcV X nw an sv dv n0 n1 n2 n3 n4 g0 gs gn gm) (@HAppend.hAppend va_W va_W va_W _ (rnV (xa 8) ag dg) (@HAppend.hAppend va_W va_W va_W _ ([((xa 13), .inl (X.2.1, 6, .inl fk))]) ([((xa 5), .inl (X.2.1, 3, .inl fr))]))))) sz) (va_A (@HAppend.hAppend va_W va_W va_W _ (xW h0 nw sp xa la lb) (@HAppend.hAppend va_W va_W va_W _ (rcV X nw an sv dv n0 n1 n2 n3 n4 g0 gs gn gm) (@HAppend.hAppend va_W va_W va_W _ (rnV (xa 8) ag dg) (@HAppend.hAppend va_W va_W va_W _ ([((xa 13), .inl (X.2.1, 6, .inl fk))]) ([((xa 5), .inl (X.2.1, 3, .inl fr))]))))) sz) s (@HAppend.hAppend va_W va_W va_W _ (rcV X nw an sv dv n0 n1 n2 n3 n4 g0 gs gn gm) (@HAppend.hAppend va_W va_W va_W _ (rnV (xa 8) ag dg) (@HAppend.hAppend va_W va_W va_W _ ([((xa 13), .inl (X.2.1, 6, .inl fk))]) (@HAppend.hAppend va_W va_W va_W _ (xW h0 nw sp xa la lb) ([((xa 5), .inl (X.2.1, 3, .inl f_8))]))))) H locs := G
    exact e_int S zr zlk (vp_nar_int _) G (ag, dg, fk, f_8) [18, 0, 1, 2, 3, 4, 5, 6, 7, 8, 9, 10, 11, 12, 13, 14, 15, 16, 17, 19] rfl rfl (Or.inr rfl) (trivial) dX10_order_10
theorem in_X10_best_X10 : ∀ w ∈ wsX100, w ∈ wsX10_best := by decide +kernel
theorem lk_X10_best_10 : Cond.fieldLink RX10 10 "EggSpoons" "now" "LEggSpoons$Race;" ∈ wsX10_best := by decide +kernel
theorem in_X10_best_X5 : ∀ w ∈ wsX50, w ∈ wsX10_best := by decide +kernel
theorem lk_X10_best_126 : Cond.fieldLink RX10 126 "EggSpoons$Race" "row" "[LEggSpoons$Runner;" ∈ wsX10_best := by decide +kernel
theorem lk_X10_best_48 : Cond.fieldLink RX10 48 "EggSpoons" "ghost" "LEggSpoons$Runner;" ∈ wsX10_best := by decide +kernel
theorem in_X10_best_X8 : ∀ w ∈ wsX80, w ∈ wsX10_best := by decide +kernel
theorem lk_X10_best_130 : Cond.fieldLink RX10 130 "EggSpoons$Runner" "speed" "I" ∈ wsX10_best := by decide +kernel
theorem lk_X10_best_110 : Cond.fieldLink RX10 110 "EggSpoons$Race" "tick" "I" ∈ wsX10_best := by decide +kernel
theorem lk_X10_best_140 : Cond.fieldLink RX10 140 "EggSpoons$Race" "length" "I" ∈ wsX10_best := by decide +kernel
set_option maxHeartbeats 4000000 in
set_option maxRecDepth 100000 in
/-- best -/
theorem s_best (l : Launch) (X : EX) (h0 : Nat) (nw : Nat) (sp : Nat) (xa : Nat → Nat) (la : Int64) (lb : Int64) (an : Nat → Nat) (sv : Nat → Int32) (dv : Nat → Int32) (n0 : Nat) (n1 : Nat) (n2 : Nat) (n3 : Nat) (n4 : Nat) (g0 : Nat → Int32) (gs : Nat → Int32) (gn : Nat → Int32) (gm : Nat → Int32) (ag : Nat → Int32) (dg : Nat → Int32) (fr : Nat → Int32) (x1 : Int32) (x2 : Int32) (hI_n0 : n0 ≤ 6) (hI_n1 : n1 ≤ 8) (hI_n2 : n2 ≤ 5) (hI_n3 : n3 ≤ 6) (hI_n4 : n4 ≤ 6) (sz : Nat) : Met l yX10_best wsX10_best ({ frames := 3, cells := 0, slots := 0, locals := 73 } : Room) (pE X [.ref h0, .int x1, .int x2] (@HAppend.hAppend va_W va_W va_W _ (xW h0 nw sp xa la lb) (@HAppend.hAppend va_W va_W va_W _ (rcV X nw an sv dv n0 n1 n2 n3 n4 g0 gs gn gm) (@HAppend.hAppend va_W va_W va_W _ (rnV (xa 8) ag dg) ([((xa 5), .inl (X.2.1, 3, .inl fr))])))) sz) (qI (fun (r : Int32) (u : (Nat → Int32) × (Nat → Int32) × (Nat → Int32)) => (True)) X (fun (u : (Nat → Int32) × (Nat → Int32) × (Nat → Int32)) => @HAppend.hAppend va_W va_W va_W _ (xW h0 nw sp xa la lb) (@HAppend.hAppend va_W va_W va_W _ (rcV X nw an sv dv n0 n1 n2 n3 n4 g0 gs gn gm) (@HAppend.hAppend va_W va_W va_W _ (rnV (xa 8) u.1 u.2.1) ([((xa 5), .inl (X.2.1, 3, .inl u.2.2))])))) (@HAppend.hAppend va_W va_W va_W _ (xW h0 nw sp xa la lb) (@HAppend.hAppend va_W va_W va_W _ (rcV X nw an sv dv n0 n1 n2 n3 n4 g0 gs gn gm) (@HAppend.hAppend va_W va_W va_W _ (rnV (xa 8) ag dg) ([((xa 5), .inl (X.2.1, 3, .inl fr))])))) sz) 0 0 (va_A (@HAppend.hAppend va_W va_W va_W _ (xW h0 nw sp xa la lb) (@HAppend.hAppend va_W va_W va_W _ (rcV X nw an sv dv n0 n1 n2 n3 n4 g0 gs gn gm) (@HAppend.hAppend va_W va_W va_W _ (rnV (xa 8) ag dg) ([((xa 5), .inl (X.2.1, 3, .inl fr))])))) sz) := by
  refine mk_met (B := (va_A (@HAppend.hAppend va_W va_W va_W _ (xW h0 nw sp xa la lb) (@HAppend.hAppend va_W va_W va_W _ (rcV X nw an sv dv n0 n1 n2 n3 n4 g0 gs gn gm) (@HAppend.hAppend va_W va_W va_W _ (rnV (xa 8) ag dg) ([((xa 5), .inl (X.2.1, 3, .inl fr))])))) sz)) (A := (va_A (@HAppend.hAppend va_W va_W va_W _ (xW h0 nw sp xa la lb) (@HAppend.hAppend va_W va_W va_W _ (rcV X nw an sv dv n0 n1 n2 n3 n4 g0 gs gn gm) (@HAppend.hAppend va_W va_W va_W _ (rnV (xa 8) ag dg) ([((xa 5), .inl (X.2.1, 3, .inl fr))])))) sz)) (cc := cX10_best) (maxL := 8) (ret := (some .int)) (by decide) rfl (Nat.le_of_ble_eq_true rfl) k_w k_a (fun p e s m below meth c S zr zlk znm zsz G ls hl => ?_)
  have S : CallFix p m c cX10_best 8 s _ wsX10_best RX10 := S
  have zx := S.1
  have zb := S.2.1
  have hl : lv_has ls 8 [(0, .ref h0), (1, .int x1), (2, .int x2)] := hl
  refine lv_aload_n zx zb dX10_best_0 rfl (lv_at hl 0 rfl) ?_
  refine lv_iload_n zx zb dX10_best_1 rfl (lv_at hl 1 rfl) ?_
  refine o_ri (cells' := 0) (slots' := 0) G rfl rfl (n_V (As := [.int x1]) (rest := []) (C := RX10) (T := TX10) (N := 14) (ci := 8) S G (s_there l X h0 nw sp xa la lb an sv dv n0 n1 n2 n3 n4 g0 gs gn gm x1 hI_n0 hI_n1 hI_n2 hI_n3 hI_n4 s.heap.size) gX10_best_X10_there rfl rfl rfl hdV_X10_there ⟨Nat.le_of_ble_eq_true rfl, Nat.le_of_ble_eq_true rfl⟩ [0, 1, 2, 3, 4, 5, 6, 7, 8, 9, 10, 11, 12, 13, 14, 15, 16] rfl rfl 0 rfl rfl rfl hl.1 (Nat.le_of_ble_eq_true rfl) dX10_best_2 ⟨Nat.le_of_ble_eq_true rfl, Nat.le_of_ble_eq_true rfl⟩) (fun r_1 u_1 H locs hp_1 G => ?_)
  have G : wd X (va_A (@HAppend.hAppend va_W va_W va_W _ (xW h0 nw sp xa la lb) (@HAppend.hAppend va_W va_W va_W _ (rcV X nw an sv dv n0 n1 n2 n3 n4 g0 gs gn gm) (@HAppend.hAppend va_W va_W va_W _ (rnV (xa 8) ag dg) ([((xa 5), .inl (X.2.1, 3, .inl fr))])))) sz) (va_A (@HAppend.hAppend va_W va_W va_W _ (xW h0 nw sp xa la lb) (@HAppend.hAppend va_W va_W va_W _ (rcV X nw an sv dv n0 n1 n2 n3 n4 g0 gs gn gm) (@HAppend.hAppend va_W va_W va_W _ (rnV (xa 8) ag dg) ([((xa 5), .inl (X.2.1, 3, .inl fr))])))) sz) s (@HAppend.hAppend va_W va_W va_W _ (xW h0 nw sp xa la lb) (@HAppend.hAppend va_W va_W va_W _ (rcV X nw an sv dv n0 n1 n2 n3 n4 g0 gs gn gm) (@HAppend.hAppend va_W va_W va_W _ (rnV (xa 8) ag dg) ([((xa 5), .inl (X.2.1, 3, .inl fr))])))) H locs := G
  rcases hp_1 with ⟨rfl, hj_1⟩ | ⟨rfl, hj_1⟩
  · obtain ⟨j_1, hj_1, rfl⟩ := hj_1
    refine lv_if_eq (tgt := 17) zx zb dX10_best_5 (by decide) (fun c_2 => absurd c_2 (by decide)) (fun c_2 => ?_)
    refine lv_iload_n zx zb dX10_best_8 rfl (lv_at hl 2 rfl) ?_
    refine lv_iconst (v := 0) zx zb dX10_best_9 (by decide) ?_
    refine lv_iconst (v := 1) zx zb dX10_best_10 (by decide) ?_
    refine o_ri (cells' := 0) (slots' := 0) G rfl rfl (n_S (As := [.int x2, .int 0, .int 1]) (rest := []) S G (s_within l X x2 0 1 H.size) gX10_best_X10_within rfl rfl rfl hdS_X10_within ⟨Nat.le_of_ble_eq_true rfl, Nat.le_of_ble_eq_true rfl⟩ [] rfl rfl rfl hl.1 (Nat.le_of_ble_eq_true rfl) dX10_best_11 ⟨Nat.le_of_ble_eq_true rfl, Nat.le_of_ble_eq_true rfl⟩) (fun r_3 u_3 H locs hp_3 G => ?_)
    have G : wd X (va_A (@HAppend.hAppend va_W va_W va_W _ (xW h0 nw sp xa la lb) (@HAppend.hAppend va_W va_W va_W _ (rcV X nw an sv dv n0 n1 n2 n3 n4 g0 gs gn gm) (@HAppend.hAppend va_W va_W va_W _ (rnV (xa 8) ag dg) ([((xa 5), .inl (X.2.1, 3, .inl fr))])))) sz) (va_A (@HAppend.hAppend va_W va_W va_W _ (xW h0 nw sp xa la lb) (@HAppend.hAppend va_W va_W va_W _ (rcV X nw an sv dv n0 n1 n2 n3 n4 g0 gs gn gm) (@HAppend.hAppend va_W va_W va_W _ (rnV (xa 8) ag dg) ([((xa 5), .inl (X.2.1, 3, .inl fr))])))) sz) s (@HAppend.hAppend va_W va_W va_W _ (xW h0 nw sp xa la lb) (@HAppend.hAppend va_W va_W va_W _ (rcV X nw an sv dv n0 n1 n2 n3 n4 g0 gs gn gm) (@HAppend.hAppend va_W va_W va_W _ (rnV (xa 8) ag dg) ([((xa 5), .inl (X.2.1, 3, .inl fr))])))) H locs := G
    rcases hp_3 with ⟨rfl, hw_3⟩ | ⟨rfl, hw_3⟩
    · refine lv_if_ne (tgt := 24) zx zb dX10_best_14 (by decide) (fun c_4 => ?_) (fun c_4 => absurd c_4 (by decide))
      refine lv_aload_n zx zb dX10_best_24 rfl (lv_at hl 0 rfl) ?_
      refine r_get (C := RX10) (T := TX10) (N := 14) (ci := 8) (v := .ref nw) S in_X10_best_X10 G 0 rfl rfl 0 (by decide) lk_X10_best_10 rfl dX10_best_25 ?_
      refine r_get (C := RX5) (T := TX5) (N := 8) (ci := 3) (v := .ref (an 0)) S in_X10_best_X5 G 1 rfl rfl 3 (by decide) lk_X10_best_126 rfl dX10_best_28 ?_
      refine lv_iload_n zx zb dX10_best_31 rfl (lv_at hl 1 rfl) ?_
      rcases k_6c (show j_1 < 6 by omega) with rfl | rfl | rfl | rfl | rfl | rfl
      · refine k_it (v := 0) rfl ?_
        refine r_aald (C := RX8) (b := (an 1)) S G 2 3 rfl rfl (k_vp (by decide)) rfl dX10_best_32 ?_
        refine o_ri (cells' := 0) (slots' := 0) G rfl rfl (n_V (As := []) (rest := []) (C := RX8) (T := TX8) (N := 8) (ci := 6) S G (s_isHome l X (an 1) (fun k => sv (0 + k)) (fun k => dv (10 + k)) H.size) gX10_best_X8_isHome rfl rfl rfl hdV_X8_isHome ⟨Nat.le_of_ble_eq_true rfl, Nat.le_of_ble_eq_true rfl⟩ [3] rfl rfl 3 rfl rfl rfl hl.1 (Nat.le_of_ble_eq_true rfl) dX10_best_33 ⟨Nat.le_of_ble_eq_true rfl, Nat.le_of_ble_eq_true rfl⟩) (fun r_5 u_5 H locs hp_5 G => ?_)
        have G : wd X (va_A (@HAppend.hAppend va_W va_W va_W _ (xW h0 nw sp xa la lb) (@HAppend.hAppend va_W va_W va_W _ (rcV X nw an sv dv n0 n1 n2 n3 n4 g0 gs gn gm) (@HAppend.hAppend va_W va_W va_W _ (rnV (xa 8) ag dg) ([((xa 5), .inl (X.2.1, 3, .inl fr))])))) sz) (va_A (@HAppend.hAppend va_W va_W va_W _ (xW h0 nw sp xa la lb) (@HAppend.hAppend va_W va_W va_W _ (rcV X nw an sv dv n0 n1 n2 n3 n4 g0 gs gn gm) (@HAppend.hAppend va_W va_W va_W _ (rnV (xa 8) ag dg) ([((xa 5), .inl (X.2.1, 3, .inl fr))])))) sz) s (@HAppend.hAppend va_W va_W va_W _ (xW h0 nw sp xa la lb) (@HAppend.hAppend va_W va_W va_W _ (rcV X nw an sv dv n0 n1 n2 n3 n4 g0 gs gn gm) (@HAppend.hAppend va_W va_W va_W _ (rnV (xa 8) ag dg) ([((xa 5), .inl (X.2.1, 3, .inl fr))])))) H locs := G
        refine lv_if_eq (tgt := 41) zx zb dX10_best_36 (by decide) (fun c_6 => ?_) (fun c_6 => ?_)
        · refine lv_iconst (v := (-1)) zx zb dX10_best_41 (by decide) ?_
          refine lv_istore_n (lv' := [(3, .int (-1)), (0, .ref h0), (1, .int 0), (2, .int x2)]) zx zb dX10_best_42 rfl hl (by decide) rfl (fun ls hl => ?_)
          refine lv_iconst (v := (-1)) zx zb dX10_best_43 (by decide) ?_
          refine lv_istore (lv' := [(4, .int (-1)), (3, .int (-1)), (0, .ref h0), (1, .int 0), (2, .int x2)]) zx zb dX10_best_44 hl (by decide) rfl (fun ls hl => ?_)
          refine lv_bipush (v := 60) zx zb dX10_best_46 (by decide) ?_
          refine lv_istore (lv' := [(5, .int 60), (4, .int (-1)), (3, .int (-1)), (0, .ref h0), (1, .int 0), (2, .int x2)]) zx zb dX10_best_48 hl (by decide) rfl (fun ls hl => ?_)
          refine lv_iconst (v := 0) zx zb dX10_best_50 (by decide) ?_
          refine lv_istore (lv' := [(6, .int 0), (5, .int 60), (4, .int (-1)), (3, .int (-1)), (0, .ref h0), (1, .int 0), (2, .int x2)]) zx zb dX10_best_51 hl (by decide) rfl (fun ls hl => ?_)
          refine k_loop (P := ∀ (zm : Nat) (k53 : Nat) (x53_5 : Int32) (x53_4 : Int32) (x53_3 : Int32) (a53_2 : Nat → Int32) (d53_2 : Nat → Int32) (H : Heap) (locs : List Loc) (ls : Array Slot), 10 + 1 ≤ k53 + zm → (k53 ≤ 10) → (x53_5 ≤ 60) → wd X (va_A (@HAppend.hAppend va_W va_W va_W _ (xW h0 nw sp xa la lb) (@HAppend.hAppend va_W va_W va_W _ (rcV X nw an sv dv n0 n1 n2 n3 n4 g0 gs gn gm) (@HAppend.hAppend va_W va_W va_W _ (rnV (xa 8) ag dg) ([((xa 5), .inl (X.2.1, 3, .inl fr))])))) sz) (va_A (@HAppend.hAppend va_W va_W va_W _ (xW h0 nw sp xa la lb) (@HAppend.hAppend va_W va_W va_W _ (rcV X nw an sv dv n0 n1 n2 n3 n4 g0 gs gn gm) (@HAppend.hAppend va_W va_W va_W _ (rnV (xa 8) ag dg) ([((xa 5), .inl (X.2.1, 3, .inl fr))])))) sz) s (@HAppend.hAppend va_W va_W va_W _ (xW h0 nw sp xa la lb) (@HAppend.hAppend va_W va_W va_W _ (rcV X nw an sv dv n0 n1 n2 n3 n4 g0 gs gn gm) (@HAppend.hAppend va_W va_W va_W _ (rnV (xa 8) a53_2 d53_2) ([((xa 5), .inl (X.2.1, 3, .inl fr))])))) H locs → lv_has ls 8 [(6, .int (nI k53)), (5, .int x53_5), (4, .int x53_4), (3, .int x53_3), (0, .ref h0), (1, .int 0), (2, .int x2)] → W p l e _ s m _ below meth c H locs _ _ _ (F0 m 53 ls [])) (fun loop => loop (10 + 1) 0 60 (-1) (-1) ag dg _ _ _ (by omega) (by omega) (by first | assumption | decide | exact k_m60 (by assumption)) G hl) ?_
          intro zm
          induction zm with
          | zero => intro k53 x53_5 x53_4 x53_3 a53_2 d53_2 H locs ls zz q_hk_k53 q_hk_x53_5 _ _; exact absurd zz (by omega)
          | succ zm ih53 =>
            intro k53 x53_5 x53_4 x53_3 a53_2 d53_2 H locs ls zm_53 hk_k53 hk_x53_5 G hl
            refine lv_iload zx zb dX10_best_53 (lv_at hl 0 rfl) ?_
            refine lv_bipush (v := 9) zx zb dX10_best_55 (by decide) ?_
            refine lv_icmp_gt (tgt := 135) zx zb dX10_best_57 (by decide) (fun c_7 => ?_) (fun c_7 => ?_)
            · have fc_7 := j_lt (a := 9) (b := k53) (by omega) (by omega) c_7
              refine lv_iload_n zx zb dX10_best_135 rfl (lv_at hl 6 rfl) ?_
              refine k_cutW (PP := fun Wx => ∀ (x_9 : Int32) (H : Heap) (locs : List Loc) (ls : Array Slot), wd X (va_A (@HAppend.hAppend va_W va_W va_W _ (xW h0 nw sp xa la lb) (@HAppend.hAppend va_W va_W va_W _ (rcV X nw an sv dv n0 n1 n2 n3 n4 g0 gs gn gm) (@HAppend.hAppend va_W va_W va_W _ (rnV (xa 8) ag dg) ([((xa 5), .inl (X.2.1, 3, .inl fr))])))) sz) (va_A (@HAppend.hAppend va_W va_W va_W _ (xW h0 nw sp xa la lb) (@HAppend.hAppend va_W va_W va_W _ (rcV X nw an sv dv n0 n1 n2 n3 n4 g0 gs gn gm) (@HAppend.hAppend va_W va_W va_W _ (rnV (xa 8) ag dg) ([((xa 5), .inl (X.2.1, 3, .inl fr))])))) sz) s (@HAppend.hAppend va_W va_W va_W _ (xW h0 nw sp xa la lb) (@HAppend.hAppend va_W va_W va_W _ (rcV X nw an sv dv n0 n1 n2 n3 n4 g0 gs gn gm) (@HAppend.hAppend va_W va_W va_W _ (rnV (xa 8) a53_2 d53_2) ([((xa 5), .inl (X.2.1, 3, .inl fr))])))) H locs → lv_has ls 8 [(6, .int (nI k53)), (5, .int x53_5), (4, .int x53_4), (3, .int x53_3), (0, .ref h0), (1, .int 0), (2, .int x2)] → Wx (F0 m 145 ls [.int x_9]) H locs) ?_ ?_
              · intro join_136
                refine lv_if_ne (tgt := 143) zx zb dX10_best_136 (by decide) (fun c_8 => ?_) (fun c_8 => ?_)
                · refine lv_iload zx zb dX10_best_143 (lv_at hl 2 rfl) ?_
                  exact join_136 x53_4 _ _ _  G hl
                · refine lv_iload_n zx zb dX10_best_139 rfl (lv_at hl 3 rfl) ?_
                  refine lv_goto (tgt := 145) zx zb dX10_best_140 (by decide) ?_
                  exact join_136 x53_3 _ _ _  G hl
              · intro x_9 H locs ls  G hl
                exact e_int S zr zlk (vp_nar_int _) G (a53_2, d53_2, fr) [0, 1, 2, 3, 4, 5, 6, 7, 8, 9, 10, 11, 12, 13, 14, 15, 16, 17, 18] rfl rfl (Or.inr rfl) (trivial) dX10_best_145
            · have fc_7 := j_nlt (a := 9) (b := k53) (by omega) (by omega) c_7
              refine lv_aload_n zx zb dX10_best_60 rfl (lv_at hl 4 rfl) ?_
              refine r_get (C := RX10) (T := TX10) (N := 14) (ci := 8) (v := .ref (xa 8)) S in_X10_best_X10 G 0 rfl rfl 8 (by decide) lk_X10_best_48 rfl dX10_best_61 ?_
              refine lv_aload_n zx zb dX10_best_64 rfl (lv_at hl 4 rfl) ?_
              refine r_get (C := RX10) (T := TX10) (N := 14) (ci := 8) (v := .ref nw) S in_X10_best_X10 G 0 rfl rfl 0 (by decide) lk_X10_best_10 rfl dX10_best_65 ?_
              refine r_get (C := RX5) (T := TX5) (N := 8) (ci := 3) (v := .ref (an 0)) S in_X10_best_X5 G 1 rfl rfl 3 (by decide) lk_X10_best_126 rfl dX10_best_68 ?_
              refine lv_iload_n zx zb dX10_best_71 rfl (lv_at hl 5 rfl) ?_
              refine r_aald (C := RX8) (b := (an 1)) S G 2 3 rfl rfl (k_vp (by decide)) rfl dX10_best_72 ?_
              refine b_wv (cells' := 0) (slots' := 0) (wr := @HAppend.hAppend va_W va_W va_W _ (xW h0 nw sp xa la lb) (@HAppend.hAppend va_W va_W va_W _ ([(nw, .inr (3, [.int (dv 0), .int (dv 1), .int (nI n0), .ref (an 0), .ref (an 7), .ref (an 9), .ref (an 11), .ref (an 13)])), ((an 0), .inl (X.2.2.2.2, 6, .inr (.inr (.inr (.inr (rowQ an)))))), ((an 2), .inr (6, [.int (sv 3), .int (sv 4), .int (sv 5), .int (dv 15), .int (dv 16), .int (dv 17), .int (dv 18), .int (dv 19)])), ((an 3), .inr (6, [.int (sv 6), .int (sv 7), .int (sv 8), .int (dv 20), .int (dv 21), .int (dv 22), .int (dv 23), .int (dv 24)])), ((an 4), .inr (6, [.int (sv 9), .int (sv 10), .int (sv 11), .int (dv 25), .int (dv 26), .int (dv 27), .int (dv 28), .int (dv 29)])), ((an 5), .inr (6, [.int (sv 12), .int (sv 13), .int (sv 14), .int (dv 30), .int (dv 31), .int (dv 32), .int (dv 33), .int (dv 34)])), ((an 6), .inr (6, [.int (sv 15), .int (sv 16), .int (sv 17), .int (dv 35), .int (dv 36), .int (dv 37), .int (dv 38), .int (dv 39)])), ((an 7), .inr (2, [.ref (an 8), .int (nI n1)])), ((an 8), .inl (X.2.1, 248, .inl g0)), ((an 9), .inr (5, [.int 5, .int 0, .int 1, .ref (an 10), .int (nI n2)])), ((an 10), .inl (X.2.1, 25, .inl gs)), ((an 11), .inr (5, [.int 6, .int 1, .int 1, .ref (an 12), .int (nI n3)])), ((an 12), .inl (X.2.1, 30, .inl gn)), ((an 13), .inr (5, [.int 6, .int 0, .int 0, .ref (an 14), .int (nI n4)])), ((an 14), .inl (X.2.1, 30, .inl gm))]) ([((xa 5), .inl (X.2.1, 3, .inl fr))]))) G rfl rfl [17, 3] [0, 1, 2, 4, 5, 6, 7, 8, 9, 10, 11, 12, 13, 14, 15, 16, 18] rfl rfl rfl rfl (n_V (As := [.ref (an 1)]) (rest := []) (C := RX8) (T := TX8) (N := 8) (ci := 6) S G (s_rcopy l X (xa 8) a53_2 d53_2 (an 1) (fun k => sv (0 + k)) (fun k => dv (10 + k)) H.size) gX10_best_X8_copyFrom rfl rfl rfl hdV_X8_copyFrom ⟨Nat.le_of_ble_eq_true rfl, Nat.le_of_ble_eq_true rfl⟩ [17, 3] rfl rfl 17 rfl rfl rfl hl.1 (Nat.le_of_ble_eq_true rfl) dX10_best_73 ⟨Nat.le_of_ble_eq_true rfl, Nat.le_of_ble_eq_true rfl⟩) (fun u_10 H locs hp_10 G => ?_)
              obtain ⟨a_10a, d_10b⟩ := u_10
              have hq_10 := hp_10
              have G : wd X (va_A (@HAppend.hAppend va_W va_W va_W _ (xW h0 nw sp xa la lb) (@HAppend.hAppend va_W va_W va_W _ (rcV X nw an sv dv n0 n1 n2 n3 n4 g0 gs gn gm) (@HAppend.hAppend va_W va_W va_W _ (rnV (xa 8) ag dg) ([((xa 5), .inl (X.2.1, 3, .inl fr))])))) sz) (va_A (@HAppend.hAppend va_W va_W va_W _ (xW h0 nw sp xa la lb) (@HAppend.hAppend va_W va_W va_W _ (rcV X nw an sv dv n0 n1 n2 n3 n4 g0 gs gn gm) (@HAppend.hAppend va_W va_W va_W _ (rnV (xa 8) ag dg) ([((xa 5), .inl (X.2.1, 3, .inl fr))])))) sz) s (@HAppend.hAppend va_W va_W va_W _ (xW h0 nw sp xa la lb) (@HAppend.hAppend va_W va_W va_W _ (rcV X nw an sv dv n0 n1 n2 n3 n4 g0 gs gn gm) (@HAppend.hAppend va_W va_W va_W _ ([((xa 5), .inl (X.2.1, 3, .inl fr))]) (rnV (xa 8) a_10a d_10b)))) H locs := wd_sub G [0, 1, 2, 18, 3, 4, 5, 6, 7, 8, 9, 10, 11, 12, 13, 14, 15, 16, 17] rfl rfl
              refine lv_aload_n zx zb dX10_best_76 rfl (lv_at hl 4 rfl) ?_
              refine r_get (C := RX10) (T := TX10) (N := 14) (ci := 8) (v := .ref (xa 8)) S in_X10_best_X10 G 0 rfl rfl 8 (by decide) lk_X10_best_48 rfl dX10_best_77 ?_
              refine lv_iload zx zb dX10_best_80 (lv_at hl 0 rfl) ?_
              refine r_put (C := RX8) (T := TX8) (N := 8) (ci := 6) (v := .int (nI k53)) S in_X10_best_X8 tyX8_ok nmX8 G 18 rfl rfl 3 (by decide) lk_X10_best_130 rfl (vp_nar_int _) rfl (Nat.le_of_ble_eq_true rfl) dX10_best_82 (fun H locs G => ?_)
              obtain ⟨d_11, G⟩ : ∃ d_11 : Nat → Int32, wd X (va_A (@HAppend.hAppend va_W va_W va_W _ (xW h0 nw sp xa la lb) (@HAppend.hAppend va_W va_W va_W _ (rcV X nw an sv dv n0 n1 n2 n3 n4 g0 gs gn gm) (@HAppend.hAppend va_W va_W va_W _ (rnV (xa 8) ag dg) ([((xa 5), .inl (X.2.1, 3, .inl fr))])))) sz) (va_A (@HAppend.hAppend va_W va_W va_W _ (xW h0 nw sp xa la lb) (@HAppend.hAppend va_W va_W va_W _ (rcV X nw an sv dv n0 n1 n2 n3 n4 g0 gs gn gm) (@HAppend.hAppend va_W va_W va_W _ (rnV (xa 8) ag dg) ([((xa 5), .inl (X.2.1, 3, .inl fr))])))) sz) s (@HAppend.hAppend va_W va_W va_W _ (xW h0 nw sp xa la lb) (@HAppend.hAppend va_W va_W va_W _ (rcV X nw an sv dv n0 n1 n2 n3 n4 g0 gs gn gm) (@HAppend.hAppend va_W va_W va_W _ ([((xa 5), .inl (X.2.1, 3, .inl fr))]) (rnV (xa 8) a_10a d_11)))) H locs := ⟨upd d_10b 0 (nI k53), G⟩
              refine lv_aload_n zx zb dX10_best_85 rfl (lv_at hl 4 rfl) ?_
              refine r_get (C := RX10) (T := TX10) (N := 14) (ci := 8) (v := .ref (xa 8)) S in_X10_best_X10 G 0 rfl rfl 8 (by decide) lk_X10_best_48 rfl dX10_best_86 ?_
              refine lv_aload_n zx zb dX10_best_89 rfl (lv_at hl 4 rfl) ?_
              refine r_get (C := RX10) (T := TX10) (N := 14) (ci := 8) (v := .ref nw) S in_X10_best_X10 G 0 rfl rfl 0 (by decide) lk_X10_best_10 rfl dX10_best_90 ?_
              refine r_get (C := RX5) (T := TX5) (N := 8) (ci := 3) (v := .int (dv 1)) S in_X10_best_X5 G 1 rfl rfl 1 (by decide) lk_X10_best_110 rfl dX10_best_93 ?_
              refine lv_aload_n zx zb dX10_best_96 rfl (lv_at hl 4 rfl) ?_
              refine r_get (C := RX10) (T := TX10) (N := 14) (ci := 8) (v := .ref nw) S in_X10_best_X10 G 0 rfl rfl 0 (by decide) lk_X10_best_10 rfl dX10_best_97 ?_
              refine r_get (C := RX5) (T := TX5) (N := 8) (ci := 3) (v := .int (dv 0)) S in_X10_best_X5 G 1 rfl rfl 0 (by decide) lk_X10_best_140 rfl dX10_best_100 ?_
              refine lv_iload zx zb dX10_best_103 (lv_at hl 1 rfl) ?_
              refine b_wi (cells' := 0) (slots' := 0) (wr := @HAppend.hAppend va_W va_W va_W _ (xW h0 nw sp xa la lb) (@HAppend.hAppend va_W va_W va_W _ (rcV X nw an sv dv n0 n1 n2 n3 n4 g0 gs gn gm) ([((xa 5), .inl (X.2.1, 3, .inl fr))]))) G rfl rfl [18] [0, 1, 2, 3, 4, 5, 6, 7, 8, 9, 10, 11, 12, 13, 14, 15, 16, 17] rfl rfl rfl rfl (n_V (As := [.int (dv 1), .int (dv 0), .int x53_5]) (rest := []) (C := RX8) (T := TX8) (N := 8) (ci := 6) S G (s_ticksToHome l X (xa 8) a_10a d_11 (dv 1) (dv 0) x53_5 (by first | decide | assumption | exact k_60a (by assumption) | exact hw_3.2) H.size) gX10_best_X8_ticksToHome rfl rfl rfl hdV_X8_ticksToHome ⟨Nat.le_of_ble_eq_true rfl, Nat.le_of_ble_eq_true rfl⟩ [18] rfl rfl 18 rfl rfl rfl hl.1 (Nat.le_of_ble_eq_true rfl) dX10_best_105 ⟨Nat.le_of_ble_eq_true rfl, Nat.le_of_ble_eq_true rfl⟩) (fun r_12 u_12 H locs hp_12 G => ?_)
              obtain ⟨d_12, rfl⟩ : ∃ z, z = u_12 := ⟨_, rfl⟩
              have hq_12 := hp_12
              obtain ⟨hq_12, hs_12⟩ := hq_12
              have G : wd X (va_A (@HAppend.hAppend va_W va_W va_W _ (xW h0 nw sp xa la lb) (@HAppend.hAppend va_W va_W va_W _ (rcV X nw an sv dv n0 n1 n2 n3 n4 g0 gs gn gm) (@HAppend.hAppend va_W va_W va_W _ (rnV (xa 8) ag dg) ([((xa 5), .inl (X.2.1, 3, .inl fr))])))) sz) (va_A (@HAppend.hAppend va_W va_W va_W _ (xW h0 nw sp xa la lb) (@HAppend.hAppend va_W va_W va_W _ (rcV X nw an sv dv n0 n1 n2 n3 n4 g0 gs gn gm) (@HAppend.hAppend va_W va_W va_W _ (rnV (xa 8) ag dg) ([((xa 5), .inl (X.2.1, 3, .inl fr))])))) sz) s (@HAppend.hAppend va_W va_W va_W _ (xW h0 nw sp xa la lb) (@HAppend.hAppend va_W va_W va_W _ (rcV X nw an sv dv n0 n1 n2 n3 n4 g0 gs gn gm) (@HAppend.hAppend va_W va_W va_W _ ([((xa 5), .inl (X.2.1, 3, .inl fr))]) (rnV (xa 8) a_10a d_12)))) H locs := G
              refine lv_istore (lv' := [(7, .int r_12), (6, .int (nI k53)), (5, .int x53_5), (4, .int x53_4), (3, .int x53_3), (0, .ref h0), (1, .int 0), (2, .int x2)]) zx zb dX10_best_108 hl (by decide) rfl (fun ls hl => ?_)
              refine lv_iload zx zb dX10_best_110 (lv_at hl 0 rfl) ?_
              refine lv_iconst (v := (-1)) zx zb dX10_best_112 (by decide) ?_
              refine k_cutW (PP := fun Wx => ∀ (x_14 : Int32) (x_15 : Int32) (x_16 : Int32) (H : Heap) (locs : List Loc) (ls : Array Slot), (x_14 ≤ 60) → wd X (va_A (@HAppend.hAppend va_W va_W va_W _ (xW h0 nw sp xa la lb) (@HAppend.hAppend va_W va_W va_W _ (rcV X nw an sv dv n0 n1 n2 n3 n4 g0 gs gn gm) (@HAppend.hAppend va_W va_W va_W _ (rnV (xa 8) ag dg) ([((xa 5), .inl (X.2.1, 3, .inl fr))])))) sz) (va_A (@HAppend.hAppend va_W va_W va_W _ (xW h0 nw sp xa la lb) (@HAppend.hAppend va_W va_W va_W _ (rcV X nw an sv dv n0 n1 n2 n3 n4 g0 gs gn gm) (@HAppend.hAppend va_W va_W va_W _ (rnV (xa 8) ag dg) ([((xa 5), .inl (X.2.1, 3, .inl fr))])))) sz) s (@HAppend.hAppend va_W va_W va_W _ (xW h0 nw sp xa la lb) (@HAppend.hAppend va_W va_W va_W _ (rcV X nw an sv dv n0 n1 n2 n3 n4 g0 gs gn gm) (@HAppend.hAppend va_W va_W va_W _ ([((xa 5), .inl (X.2.1, 3, .inl fr))]) (rnV (xa 8) a_10a d_12)))) H locs → lv_has ls 8 [(7, .int r_12), (6, .int (nI k53)), (5, .int x_14), (4, .int x_15), (3, .int x_16), (0, .ref h0), (1, .int 0), (2, .int x2)] → Wx (F0 m 129 ls []) H locs) ?_ ?_
              · intro join_113
                refine lv_icmp_eq (tgt := 129) zx zb dX10_best_113 (by decide) (fun c_13 => ?_) (fun c_13 => ?_)
                · exact join_113 x53_5 x53_4 x53_3 _ _ _ (by first | assumption | decide | exact k_m60 (by assumption)) G hl
                · refine lv_iload zx zb dX10_best_116 (lv_at hl 1 rfl) ?_
                  refine lv_istore_n (lv' := [(3, .int (nI k53)), (7, .int r_12), (6, .int (nI k53)), (5, .int x53_5), (4, .int x53_4), (0, .ref h0), (1, .int 0), (2, .int x2)]) zx zb dX10_best_118 rfl hl (by decide) rfl (fun ls hl => ?_)
                  refine lv_iload zx zb dX10_best_119 (lv_at hl 1 rfl) ?_
                  refine lv_istore (lv' := [(4, .int r_12), (3, .int (nI k53)), (7, .int r_12), (6, .int (nI k53)), (5, .int x53_5), (0, .ref h0), (1, .int 0), (2, .int x2)]) zx zb dX10_best_121 hl (by decide) rfl (fun ls hl => ?_)
                  refine lv_iload zx zb dX10_best_123 (lv_at hl 2 rfl) ?_
                  refine lv_iconst (v := 1) zx zb dX10_best_125 (by decide) ?_
                  refine r_isub (v := (r_12 - 1)) S rfl dX10_best_126 ?_
                  refine lv_istore (lv' := [(5, .int (r_12 - 1)), (4, .int r_12), (3, .int (nI k53)), (7, .int r_12), (6, .int (nI k53)), (0, .ref h0), (1, .int 0), (2, .int x2)]) zx zb dX10_best_127 hl (by decide) rfl (fun ls hl => ?_)
                  have hl := lv_sub hl (l' := [(7, .int r_12), (6, .int (nI k53)), (5, .int (r_12 - 1)), (4, .int r_12), (3, .int (nI k53)), (0, .ref h0), (1, .int 0), (2, .int x2)]) [3, 4, 0, 1, 2, 5, 6, 7] rfl
                  exact join_113 (r_12 - 1) r_12 (nI k53) _ _ _ (by first | assumption | decide | exact k_m60 (by assumption)) G hl
              · intro x_14 x_15 x_16 H locs ls hk_x_14 G hl
                refine lv_iinc (v := (nI (k53 + 1))) (lv' := [(6, .int (nI (k53 + 1))), (7, .int r_12), (5, .int x_14), (4, .int x_15), (3, .int x_16), (0, .ref h0), (1, .int 0), (2, .int x2)]) zx zb dX10_best_129 hl (k := 1) rfl (nI_add k53 1) (by decide) rfl (fun ls hl => ?_)
                refine lv_goto (tgt := 53) zx zb dX10_best_132 (by decide) ?_
                have G : wd X (va_A (@HAppend.hAppend va_W va_W va_W _ (xW h0 nw sp xa la lb) (@HAppend.hAppend va_W va_W va_W _ (rcV X nw an sv dv n0 n1 n2 n3 n4 g0 gs gn gm) (@HAppend.hAppend va_W va_W va_W _ (rnV (xa 8) ag dg) ([((xa 5), .inl (X.2.1, 3, .inl fr))])))) sz) (va_A (@HAppend.hAppend va_W va_W va_W _ (xW h0 nw sp xa la lb) (@HAppend.hAppend va_W va_W va_W _ (rcV X nw an sv dv n0 n1 n2 n3 n4 g0 gs gn gm) (@HAppend.hAppend va_W va_W va_W _ (rnV (xa 8) ag dg) ([((xa 5), .inl (X.2.1, 3, .inl fr))])))) sz) s (@HAppend.hAppend va_W va_W va_W _ (xW h0 nw sp xa la lb) (@HAppend.hAppend va_W va_W va_W _ (rcV X nw an sv dv n0 n1 n2 n3 n4 g0 gs gn gm) (@HAppend.hAppend va_W va_W va_W _ (rnV (xa 8) a_10a d_12) ([((xa 5), .inl (X.2.1, 3, .inl fr))])))) H locs := wd_sub G [0, 1, 2, 3, 4, 5, 6, 7, 8, 9, 10, 11, 12, 13, 14, 15, 16, 18, 17] rfl rfl
                have hl := lv_sub hl (l' := [(6, .int (nI (k53 + 1))), (5, .int x_14), (4, .int x_15), (3, .int x_16), (0, .ref h0), (1, .int 0), (2, .int x2)]) [0, 2, 3, 4, 5, 6, 7] rfl
                exact ih53 (k53 + 1) x_14 x_15 x_16 a_10a d_12 _ _ _ (by omega) (by omega) (by first | assumption | decide | exact k_m60 (by assumption)) G hl
        · refine lv_iconst (v := (-1)) zx zb dX10_best_39 (by decide) ?_
          exact e_int S zr zlk (vp_nar_int _) G (ag, dg, fr) [0, 1, 2, 3, 4, 5, 6, 7, 8, 9, 10, 11, 12, 13, 14, 15, 16, 17, 18] rfl rfl (Or.inr rfl) (trivial) dX10_best_40
      · refine k_it (v := 1) rfl ?_
        refine r_aald (C := RX8) (b := (an 2)) S G 2 3 rfl rfl (k_vp (by decide)) rfl dX10_best_32 ?_
        refine o_ri (cells' := 0) (slots' := 0) G rfl rfl (n_V (As := []) (rest := []) (C := RX8) (T := TX8) (N := 8) (ci := 6) S G (s_isHome l X (an 2) (fun k => sv (3 + k)) (fun k => dv (15 + k)) H.size) gX10_best_X8_isHome rfl rfl rfl hdV_X8_isHome ⟨Nat.le_of_ble_eq_true rfl, Nat.le_of_ble_eq_true rfl⟩ [4] rfl rfl 4 rfl rfl rfl hl.1 (Nat.le_of_ble_eq_true rfl) dX10_best_33 ⟨Nat.le_of_ble_eq_true rfl, Nat.le_of_ble_eq_true rfl⟩) (fun r_17 u_17 H locs hp_17 G => ?_)
        have G : wd X (va_A (@HAppend.hAppend va_W va_W va_W _ (xW h0 nw sp xa la lb) (@HAppend.hAppend va_W va_W va_W _ (rcV X nw an sv dv n0 n1 n2 n3 n4 g0 gs gn gm) (@HAppend.hAppend va_W va_W va_W _ (rnV (xa 8) ag dg) ([((xa 5), .inl (X.2.1, 3, .inl fr))])))) sz) (va_A (@HAppend.hAppend va_W va_W va_W _ (xW h0 nw sp xa la lb) (@HAppend.hAppend va_W va_W va_W _ (rcV X nw an sv dv n0 n1 n2 n3 n4 g0 gs gn gm) (@HAppend.hAppend va_W va_W va_W _ (rnV (xa 8) ag dg) ([((xa 5), .inl (X.2.1, 3, .inl fr))])))) sz) s (@HAppend.hAppend va_W va_W va_W _ (xW h0 nw sp xa la lb) (@HAppend.hAppend va_W va_W va_W _ (rcV X nw an sv dv n0 n1 n2 n3 n4 g0 gs gn gm) (@HAppend.hAppend va_W va_W va_W _ (rnV (xa 8) ag dg) ([((xa 5), .inl (X.2.1, 3, .inl fr))])))) H locs := G
        refine lv_if_eq (tgt := 41) zx zb dX10_best_36 (by decide) (fun c_18 => ?_) (fun c_18 => ?_)
        · refine lv_iconst (v := (-1)) zx zb dX10_best_41 (by decide) ?_
          refine lv_istore_n (lv' := [(3, .int (-1)), (0, .ref h0), (1, .int 1), (2, .int x2)]) zx zb dX10_best_42 rfl hl (by decide) rfl (fun ls hl => ?_)
          refine lv_iconst (v := (-1)) zx zb dX10_best_43 (by decide) ?_
          refine lv_istore (lv' := [(4, .int (-1)), (3, .int (-1)), (0, .ref h0), (1, .int 1), (2, .int x2)]) zx zb dX10_best_44 hl (by decide) rfl (fun ls hl => ?_)
          refine lv_bipush (v := 60) zx zb dX10_best_46 (by decide) ?_
          refine lv_istore (lv' := [(5, .int 60), (4, .int (-1)), (3, .int (-1)), (0, .ref h0), (1, .int 1), (2, .int x2)]) zx zb dX10_best_48 hl (by decide) rfl (fun ls hl => ?_)
          refine lv_iconst (v := 0) zx zb dX10_best_50 (by decide) ?_
          refine lv_istore (lv' := [(6, .int 0), (5, .int 60), (4, .int (-1)), (3, .int (-1)), (0, .ref h0), (1, .int 1), (2, .int x2)]) zx zb dX10_best_51 hl (by decide) rfl (fun ls hl => ?_)
          refine k_loop (P := ∀ (zm : Nat) (k53 : Nat) (x53_5 : Int32) (x53_4 : Int32) (x53_3 : Int32) (a53_2 : Nat → Int32) (d53_2 : Nat → Int32) (H : Heap) (locs : List Loc) (ls : Array Slot), 10 + 1 ≤ k53 + zm → (k53 ≤ 10) → (x53_5 ≤ 60) → wd X (va_A (@HAppend.hAppend va_W va_W va_W _ (xW h0 nw sp xa la lb) (@HAppend.hAppend va_W va_W va_W _ (rcV X nw an sv dv n0 n1 n2 n3 n4 g0 gs gn gm) (@HAppend.hAppend va_W va_W va_W _ (rnV (xa 8) ag dg) ([((xa 5), .inl (X.2.1, 3, .inl fr))])))) sz) (va_A (@HAppend.hAppend va_W va_W va_W _ (xW h0 nw sp xa la lb) (@HAppend.hAppend va_W va_W va_W _ (rcV X nw an sv dv n0 n1 n2 n3 n4 g0 gs gn gm) (@HAppend.hAppend va_W va_W va_W _ (rnV (xa 8) ag dg) ([((xa 5), .inl (X.2.1, 3, .inl fr))])))) sz) s (@HAppend.hAppend va_W va_W va_W _ (xW h0 nw sp xa la lb) (@HAppend.hAppend va_W va_W va_W _ (rcV X nw an sv dv n0 n1 n2 n3 n4 g0 gs gn gm) (@HAppend.hAppend va_W va_W va_W _ (rnV (xa 8) a53_2 d53_2) ([((xa 5), .inl (X.2.1, 3, .inl fr))])))) H locs → lv_has ls 8 [(6, .int (nI k53)), (5, .int x53_5), (4, .int x53_4), (3, .int x53_3), (0, .ref h0), (1, .int 1), (2, .int x2)] → W p l e _ s m _ below meth c H locs _ _ _ (F0 m 53 ls [])) (fun loop => loop (10 + 1) 0 60 (-1) (-1) ag dg _ _ _ (by omega) (by omega) (by first | assumption | decide | exact k_m60 (by assumption)) G hl) ?_
          intro zm
          induction zm with
          | zero => intro k53 x53_5 x53_4 x53_3 a53_2 d53_2 H locs ls zz q_hk_k53 q_hk_x53_5 _ _; exact absurd zz (by omega)
          | succ zm ih53 =>
            intro k53 x53_5 x53_4 x53_3 a53_2 d53_2 H locs ls zm_53 hk_k53 hk_x53_5 G hl
            refine lv_iload zx zb dX10_best_53 (lv_at hl 0 rfl) ?_
            refine lv_bipush (v := 9) zx zb dX10_best_55 (by decide) ?_
            refine lv_icmp_gt (tgt := 135) zx zb dX10_best_57 (by decide) (fun c_19 => ?_) (fun c_19 => ?_)
            · have fc_19 := j_lt (a := 9) (b := k53) (by omega) (by omega) c_19
              refine lv_iload_n zx zb dX10_best_135 rfl (lv_at hl 6 rfl) ?_
              refine k_cutW (PP := fun Wx => ∀ (x_21 : Int32) (H : Heap) (locs : List Loc) (ls : Array Slot), wd X (va_A (@HAppend.hAppend va_W va_W va_W _ (xW h0 nw sp xa la lb) (@HAppend.hAppend va_W va_W va_W _ (rcV X nw an sv dv n0 n1 n2 n3 n4 g0 gs gn gm) (@HAppend.hAppend va_W va_W va_W _ (rnV (xa 8) ag dg) ([((xa 5), .inl (X.2.1, 3, .inl fr))])))) sz) (va_A (@HAppend.hAppend va_W va_W va_W _ (xW h0 nw sp xa la lb) (@HAppend.hAppend va_W va_W va_W _ (rcV X nw an sv dv n0 n1 n2 n3 n4 g0 gs gn gm) (@HAppend.hAppend va_W va_W va_W _ (rnV (xa 8) ag dg) ([((xa 5), .inl (X.2.1, 3, .inl fr))])))) sz) s (@HAppend.hAppend va_W va_W va_W _ (xW h0 nw sp xa la lb) (@HAppend.hAppend va_W va_W va_W _ (rcV X nw an sv dv n0 n1 n2 n3 n4 g0 gs gn gm) (@HAppend.hAppend va_W va_W va_W _ (rnV (xa 8) a53_2 d53_2) ([((xa 5), .inl (X.2.1, 3, .inl fr))])))) H locs → lv_has ls 8 [(6, .int (nI k53)), (5, .int x53_5), (4, .int x53_4), (3, .int x53_3), (0, .ref h0), (1, .int 1), (2, .int x2)] → Wx (F0 m 145 ls [.int x_21]) H locs) ?_ ?_
              · intro join_136
                refine lv_if_ne (tgt := 143) zx zb dX10_best_136 (by decide) (fun c_20 => ?_) (fun c_20 => ?_)
                · refine lv_iload zx zb dX10_best_143 (lv_at hl 2 rfl) ?_
                  exact join_136 x53_4 _ _ _  G hl
                · refine lv_iload_n zx zb dX10_best_139 rfl (lv_at hl 3 rfl) ?_
                  refine lv_goto (tgt := 145) zx zb dX10_best_140 (by decide) ?_
                  exact join_136 x53_3 _ _ _  G hl
              · intro x_21 H locs ls  G hl
                exact e_int S zr zlk (vp_nar_int _) G (a53_2, d53_2, fr) [0, 1, 2, 3, 4, 5, 6, 7, 8, 9, 10, 11, 12, 13, 14, 15, 16, 17, 18] rfl rfl (Or.inr rfl) (trivial) dX10_best_145
            · have fc_19 := j_nlt (a := 9) (b := k53) (by omega) (by omega) c_19
              refine lv_aload_n zx zb dX10_best_60 rfl (lv_at hl 4 rfl) ?_
              refine r_get (C := RX10) (T := TX10) (N := 14) (ci := 8) (v := .ref (xa 8)) S in_X10_best_X10 G 0 rfl rfl 8 (by decide) lk_X10_best_48 rfl dX10_best_61 ?_
              refine lv_aload_n zx zb dX10_best_64 rfl (lv_at hl 4 rfl) ?_
              refine r_get (C := RX10) (T := TX10) (N := 14) (ci := 8) (v := .ref nw) S in_X10_best_X10 G 0 rfl rfl 0 (by decide) lk_X10_best_10 rfl dX10_best_65 ?_
              refine r_get (C := RX5) (T := TX5) (N := 8) (ci := 3) (v := .ref (an 0)) S in_X10_best_X5 G 1 rfl rfl 3 (by decide) lk_X10_best_126 rfl dX10_best_68 ?_
              refine lv_iload_n zx zb dX10_best_71 rfl (lv_at hl 5 rfl) ?_
              refine r_aald (C := RX8) (b := (an 2)) S G 2 3 rfl rfl (k_vp (by decide)) rfl dX10_best_72 ?_
              refine b_wv (cells' := 0) (slots' := 0) (wr := @HAppend.hAppend va_W va_W va_W _ (xW h0 nw sp xa la lb) (@HAppend.hAppend va_W va_W va_W _ ([(nw, .inr (3, [.int (dv 0), .int (dv 1), .int (nI n0), .ref (an 0), .ref (an 7), .ref (an 9), .ref (an 11), .ref (an 13)])), ((an 0), .inl (X.2.2.2.2, 6, .inr (.inr (.inr (.inr (rowQ an)))))), ((an 1), .inr (6, [.int (sv 0), .int (sv 1), .int (sv 2), .int (dv 10), .int (dv 11), .int (dv 12), .int (dv 13), .int (dv 14)])), ((an 3), .inr (6, [.int (sv 6), .int (sv 7), .int (sv 8), .int (dv 20), .int (dv 21), .int (dv 22), .int (dv 23), .int (dv 24)])), ((an 4), .inr (6, [.int (sv 9), .int (sv 10), .int (sv 11), .int (dv 25), .int (dv 26), .int (dv 27), .int (dv 28), .int (dv 29)])), ((an 5), .inr (6, [.int (sv 12), .int (sv 13), .int (sv 14), .int (dv 30), .int (dv 31), .int (dv 32), .int (dv 33), .int (dv 34)])), ((an 6), .inr (6, [.int (sv 15), .int (sv 16), .int (sv 17), .int (dv 35), .int (dv 36), .int (dv 37), .int (dv 38), .int (dv 39)])), ((an 7), .inr (2, [.ref (an 8), .int (nI n1)])), ((an 8), .inl (X.2.1, 248, .inl g0)), ((an 9), .inr (5, [.int 5, .int 0, .int 1, .ref (an 10), .int (nI n2)])), ((an 10), .inl (X.2.1, 25, .inl gs)), ((an 11), .inr (5, [.int 6, .int 1, .int 1, .ref (an 12), .int (nI n3)])), ((an 12), .inl (X.2.1, 30, .inl gn)), ((an 13), .inr (5, [.int 6, .int 0, .int 0, .ref (an 14), .int (nI n4)])), ((an 14), .inl (X.2.1, 30, .inl gm))]) ([((xa 5), .inl (X.2.1, 3, .inl fr))]))) G rfl rfl [17, 4] [0, 1, 2, 3, 5, 6, 7, 8, 9, 10, 11, 12, 13, 14, 15, 16, 18] rfl rfl rfl rfl (n_V (As := [.ref (an 2)]) (rest := []) (C := RX8) (T := TX8) (N := 8) (ci := 6) S G (s_rcopy l X (xa 8) a53_2 d53_2 (an 2) (fun k => sv (3 + k)) (fun k => dv (15 + k)) H.size) gX10_best_X8_copyFrom rfl rfl rfl hdV_X8_copyFrom ⟨Nat.le_of_ble_eq_true rfl, Nat.le_of_ble_eq_true rfl⟩ [17, 4] rfl rfl 17 rfl rfl rfl hl.1 (Nat.le_of_ble_eq_true rfl) dX10_best_73 ⟨Nat.le_of_ble_eq_true rfl, Nat.le_of_ble_eq_true rfl⟩) (fun u_22 H locs hp_22 G => ?_)
              obtain ⟨a_22a, d_22b⟩ := u_22
              have hq_22 := hp_22
              have G : wd X (va_A (@HAppend.hAppend va_W va_W va_W _ (xW h0 nw sp xa la lb) (@HAppend.hAppend va_W va_W va_W _ (rcV X nw an sv dv n0 n1 n2 n3 n4 g0 gs gn gm) (@HAppend.hAppend va_W va_W va_W _ (rnV (xa 8) ag dg) ([((xa 5), .inl (X.2.1, 3, .inl fr))])))) sz) (va_A (@HAppend.hAppend va_W va_W va_W _ (xW h0 nw sp xa la lb) (@HAppend.hAppend va_W va_W va_W _ (rcV X nw an sv dv n0 n1 n2 n3 n4 g0 gs gn gm) (@HAppend.hAppend va_W va_W va_W _ (rnV (xa 8) ag dg) ([((xa 5), .inl (X.2.1, 3, .inl fr))])))) sz) s (@HAppend.hAppend va_W va_W va_W _ (xW h0 nw sp xa la lb) (@HAppend.hAppend va_W va_W va_W _ (rcV X nw an sv dv n0 n1 n2 n3 n4 g0 gs gn gm) (@HAppend.hAppend va_W va_W va_W _ ([((xa 5), .inl (X.2.1, 3, .inl fr))]) (rnV (xa 8) a_22a d_22b)))) H locs := wd_sub G [0, 1, 2, 3, 18, 4, 5, 6, 7, 8, 9, 10, 11, 12, 13, 14, 15, 16, 17] rfl rfl
              refine lv_aload_n zx zb dX10_best_76 rfl (lv_at hl 4 rfl) ?_
              refine r_get (C := RX10) (T := TX10) (N := 14) (ci := 8) (v := .ref (xa 8)) S in_X10_best_X10 G 0 rfl rfl 8 (by decide) lk_X10_best_48 rfl dX10_best_77 ?_
              refine lv_iload zx zb dX10_best_80 (lv_at hl 0 rfl) ?_
              refine r_put (C := RX8) (T := TX8) (N := 8) (ci := 6) (v := .int (nI k53)) S in_X10_best_X8 tyX8_ok nmX8 G 18 rfl rfl 3 (by decide) lk_X10_best_130 rfl (vp_nar_int _) rfl (Nat.le_of_ble_eq_true rfl) dX10_best_82 (fun H locs G => ?_)
              obtain ⟨d_23, G⟩ : ∃ d_23 : Nat → Int32, wd X (va_A (@HAppend.hAppend va_W va_W va_W _ (xW h0 nw sp xa la lb) (@HAppend.hAppend va_W va_W va_W _ (rcV X nw an sv dv n0 n1 n2 n3 n4 g0 gs gn gm) (@HAppend.hAppend va_W va_W va_W _ (rnV (xa 8) ag dg) ([((xa 5), .inl (X.2.1, 3, .inl fr))])))) sz) (va_A (@HAppend.hAppend va_W va_W va_W _ (xW h0 nw sp xa la lb) (@HAppend.hAppend va_W va_W va_W _ (rcV X nw an sv dv n0 n1 n2 n3 n4 g0 gs gn gm) (@HAppend.hAppend va_W va_W va_W _ (rnV (xa 8) ag dg) ([((xa 5), .inl (X.2.1, 3, .inl fr))])))) sz) s (@HAppend.hAppend va_W va_W va_W _ (xW h0 nw sp xa la lb) (@HAppend.hAppend va_W va_W va_W _ (rcV X nw an sv dv n0 n1 n2 n3 n4 g0 gs gn gm) (@HAppend.hAppend va_W va_W va_W _ ([((xa 5), .inl (X.2.1, 3, .inl fr))]) (rnV (xa 8) a_22a d_23)))) H locs := ⟨upd d_22b 0 (nI k53), G⟩
              refine lv_aload_n zx zb dX10_best_85 rfl (lv_at hl 4 rfl) ?_
              refine r_get (C := RX10) (T := TX10) (N := 14) (ci := 8) (v := .ref (xa 8)) S in_X10_best_X10 G 0 rfl rfl 8 (by decide) lk_X10_best_48 rfl dX10_best_86 ?_
              refine lv_aload_n zx zb dX10_best_89 rfl (lv_at hl 4 rfl) ?_
              refine r_get (C := RX10) (T := TX10) (N := 14) (ci := 8) (v := .ref nw) S in_X10_best_X10 G 0 rfl rfl 0 (by decide) lk_X10_best_10 rfl dX10_best_90 ?_
              refine r_get (C := RX5) (T := TX5) (N := 8) (ci := 3) (v := .int (dv 1)) S in_X10_best_X5 G 1 rfl rfl 1 (by decide) lk_X10_best_110 rfl dX10_best_93 ?_
              refine lv_aload_n zx zb dX10_best_96 rfl (lv_at hl 4 rfl) ?_
              refine r_get (C := RX10) (T := TX10) (N := 14) (ci := 8) (v := .ref nw) S in_X10_best_X10 G 0 rfl rfl 0 (by decide) lk_X10_best_10 rfl dX10_best_97 ?_
              refine r_get (C := RX5) (T := TX5) (N := 8) (ci := 3) (v := .int (dv 0)) S in_X10_best_X5 G 1 rfl rfl 0 (by decide) lk_X10_best_140 rfl dX10_best_100 ?_
              refine lv_iload zx zb dX10_best_103 (lv_at hl 1 rfl) ?_
              refine b_wi (cells' := 0) (slots' := 0) (wr := @HAppend.hAppend va_W va_W va_W _ (xW h0 nw sp xa la lb) (@HAppend.hAppend va_W va_W va_W _ (rcV X nw an sv dv n0 n1 n2 n3 n4 g0 gs gn gm) ([((xa 5), .inl (X.2.1, 3, .inl fr))]))) G rfl rfl [18] [0, 1, 2, 3, 4, 5, 6, 7, 8, 9, 10, 11, 12, 13, 14, 15, 16, 17] rfl rfl rfl rfl (n_V (As := [.int (dv 1), .int (dv 0), .int x53_5]) (rest := []) (C := RX8) (T := TX8) (N := 8) (ci := 6) S G (s_ticksToHome l X (xa 8) a_22a d_23 (dv 1) (dv 0) x53_5 (by first | decide | assumption | exact k_60a (by assumption) | exact hw_3.2) H.size) gX10_best_X8_ticksToHome rfl rfl rfl hdV_X8_ticksToHome ⟨Nat.le_of_ble_eq_true rfl, Nat.le_of_ble_eq_true rfl⟩ [18] rfl rfl 18 rfl rfl rfl hl.1 (Nat.le_of_ble_eq_true rfl) dX10_best_105 ⟨Nat.le_of_ble_eq_true rfl, Nat.le_of_ble_eq_true rfl⟩) (fun r_24 u_24 H locs hp_24 G => ?_)
              obtain ⟨d_24, rfl⟩ : ∃ z, z = u_24 := ⟨_, rfl⟩
              have hq_24 := hp_24
              obtain ⟨hq_24, hs_24⟩ := hq_24
              have G : wd X (va_A (@HAppend.hAppend va_W va_W va_W _ (xW h0 nw sp xa la lb) (@HAppend.hAppend va_W va_W va_W _ (rcV X nw an sv dv n0 n1 n2 n3 n4 g0 gs gn gm) (@HAppend.hAppend va_W va_W va_W _ (rnV (xa 8) ag dg) ([((xa 5), .inl (X.2.1, 3, .inl fr))])))) sz) (va_A (@HAppend.hAppend va_W va_W va_W _ (xW h0 nw sp xa la lb) (@HAppend.hAppend va_W va_W va_W _ (rcV X nw an sv dv n0 n1 n2 n3 n4 g0 gs gn gm) (@HAppend.hAppend va_W va_W va_W _ (rnV (xa 8) ag dg) ([((xa 5), .inl (X.2.1, 3, .inl fr))])))) sz) s (@HAppend.hAppend va_W va_W va_W _ (xW h0 nw sp xa la lb) (@HAppend.hAppend va_W va_W va_W _ (rcV X nw an sv dv n0 n1 n2 n3 n4 g0 gs gn gm) (@HAppend.hAppend va_W va_W va_W _ ([((xa 5), .inl (X.2.1, 3, .inl fr))]) (rnV (xa 8) a_22a d_24)))) H locs := G
              refine lv_istore (lv' := [(7, .int r_24), (6, .int (nI k53)), (5, .int x53_5), (4, .int x53_4), (3, .int x53_3), (0, .ref h0), (1, .int 1), (2, .int x2)]) zx zb dX10_best_108 hl (by decide) rfl (fun ls hl => ?_)
              refine lv_iload zx zb dX10_best_110 (lv_at hl 0 rfl) ?_
              refine lv_iconst (v := (-1)) zx zb dX10_best_112 (by decide) ?_
              refine k_cutW (PP := fun Wx => ∀ (x_26 : Int32) (x_27 : Int32) (x_28 : Int32) (H : Heap) (locs : List Loc) (ls : Array Slot), (x_26 ≤ 60) → wd X (va_A (@HAppend.hAppend va_W va_W va_W _ (xW h0 nw sp xa la lb) (@HAppend.hAppend va_W va_W va_W _ (rcV X nw an sv dv n0 n1 n2 n3 n4 g0 gs gn gm) (@HAppend.hAppend va_W va_W va_W _ (rnV (xa 8) ag dg) ([((xa 5), .inl (X.2.1, 3, .inl fr))])))) sz) (va_A (@HAppend.hAppend va_W va_W va_W _ (xW h0 nw sp xa la lb) (@HAppend.hAppend va_W va_W va_W _ (rcV X nw an sv dv n0 n1 n2 n3 n4 g0 gs gn gm) (@HAppend.hAppend va_W va_W va_W _ (rnV (xa 8) ag dg) ([((xa 5), .inl (X.2.1, 3, .inl fr))])))) sz) s (@HAppend.hAppend va_W va_W va_W _ (xW h0 nw sp xa la lb) (@HAppend.hAppend va_W va_W va_W _ (rcV X nw an sv dv n0 n1 n2 n3 n4 g0 gs gn gm) (@HAppend.hAppend va_W va_W va_W _ ([((xa 5), .inl (X.2.1, 3, .inl fr))]) (rnV (xa 8) a_22a d_24)))) H locs → lv_has ls 8 [(7, .int r_24), (6, .int (nI k53)), (5, .int x_26), (4, .int x_27), (3, .int x_28), (0, .ref h0), (1, .int 1), (2, .int x2)] → Wx (F0 m 129 ls []) H locs) ?_ ?_
              · intro join_113
                refine lv_icmp_eq (tgt := 129) zx zb dX10_best_113 (by decide) (fun c_25 => ?_) (fun c_25 => ?_)
                · exact join_113 x53_5 x53_4 x53_3 _ _ _ (by first | assumption | decide | exact k_m60 (by assumption)) G hl
                · refine lv_iload zx zb dX10_best_116 (lv_at hl 1 rfl) ?_
                  refine lv_istore_n (lv' := [(3, .int (nI k53)), (7, .int r_24), (6, .int (nI k53)), (5, .int x53_5), (4, .int x53_4), (0, .ref h0), (1, .int 1), (2, .int x2)]) zx zb dX10_best_118 rfl hl (by decide) rfl (fun ls hl => ?_)
                  refine lv_iload zx zb dX10_best_119 (lv_at hl 1 rfl) ?_
                  refine lv_istore (lv' := [(4, .int r_24), (3, .int (nI k53)), (7, .int r_24), (6, .int (nI k53)), (5, .int x53_5), (0, .ref h0), (1, .int 1), (2, .int x2)]) zx zb dX10_best_121 hl (by decide) rfl (fun ls hl => ?_)
                  refine lv_iload zx zb dX10_best_123 (lv_at hl 2 rfl) ?_
                  refine lv_iconst (v := 1) zx zb dX10_best_125 (by decide) ?_
                  refine r_isub (v := (r_24 - 1)) S rfl dX10_best_126 ?_
                  refine lv_istore (lv' := [(5, .int (r_24 - 1)), (4, .int r_24), (3, .int (nI k53)), (7, .int r_24), (6, .int (nI k53)), (0, .ref h0), (1, .int 1), (2, .int x2)]) zx zb dX10_best_127 hl (by decide) rfl (fun ls hl => ?_)
                  have hl := lv_sub hl (l' := [(7, .int r_24), (6, .int (nI k53)), (5, .int (r_24 - 1)), (4, .int r_24), (3, .int (nI k53)), (0, .ref h0), (1, .int 1), (2, .int x2)]) [3, 4, 0, 1, 2, 5, 6, 7] rfl
                  exact join_113 (r_24 - 1) r_24 (nI k53) _ _ _ (by first | assumption | decide | exact k_m60 (by assumption)) G hl
              · intro x_26 x_27 x_28 H locs ls hk_x_26 G hl
                refine lv_iinc (v := (nI (k53 + 1))) (lv' := [(6, .int (nI (k53 + 1))), (7, .int r_24), (5, .int x_26), (4, .int x_27), (3, .int x_28), (0, .ref h0), (1, .int 1), (2, .int x2)]) zx zb dX10_best_129 hl (k := 1) rfl (nI_add k53 1) (by decide) rfl (fun ls hl => ?_)
                refine lv_goto (tgt := 53) zx zb dX10_best_132 (by decide) ?_
                have G : wd X (va_A (@HAppend.hAppend va_W va_W va_W _ (xW h0 nw sp xa la lb) (@HAppend.hAppend va_W va_W va_W _ (rcV X nw an sv dv n0 n1 n2 n3 n4 g0 gs gn gm) (@HAppend.hAppend va_W va_W va_W _ (rnV (xa 8) ag dg) ([((xa 5), .inl (X.2.1, 3, .inl fr))])))) sz) (va_A (@HAppend.hAppend va_W va_W va_W _ (xW h0 nw sp xa la lb) (@HAppend.hAppend va_W va_W va_W _ (rcV X nw an sv dv n0 n1 n2 n3 n4 g0 gs gn gm) (@HAppend.hAppend va_W va_W va_W _ (rnV (xa 8) ag dg) ([((xa 5), .inl (X.2.1, 3, .inl fr))])))) sz) s (@HAppend.hAppend va_W va_W va_W _ (xW h0 nw sp xa la lb) (@HAppend.hAppend va_W va_W va_W _ (rcV X nw an sv dv n0 n1 n2 n3 n4 g0 gs gn gm) (@HAppend.hAppend va_W va_W va_W _ (rnV (xa 8) a_22a d_24) ([((xa 5), .inl (X.2.1, 3, .inl fr))])))) H locs := wd_sub G [0, 1, 2, 3, 4, 5, 6, 7, 8, 9, 10, 11, 12, 13, 14, 15, 16, 18, 17] rfl rfl
                have hl := lv_sub hl (l' := [(6, .int (nI (k53 + 1))), (5, .int x_26), (4, .int x_27), (3, .int x_28), (0, .ref h0), (1, .int 1), (2, .int x2)]) [0, 2, 3, 4, 5, 6, 7] rfl
                exact ih53 (k53 + 1) x_26 x_27 x_28 a_22a d_24 _ _ _ (by omega) (by omega) (by first | assumption | decide | exact k_m60 (by assumption)) G hl
        · refine lv_iconst (v := (-1)) zx zb dX10_best_39 (by decide) ?_
          exact e_int S zr zlk (vp_nar_int _) G (ag, dg, fr) [0, 1, 2, 3, 4, 5, 6, 7, 8, 9, 10, 11, 12, 13, 14, 15, 16, 17, 18] rfl rfl (Or.inr rfl) (trivial) dX10_best_40
      · refine k_it (v := 2) rfl ?_
        refine r_aald (C := RX8) (b := (an 3)) S G 2 3 rfl rfl (k_vp (by decide)) rfl dX10_best_32 ?_
        refine o_ri (cells' := 0) (slots' := 0) G rfl rfl (n_V (As := []) (rest := []) (C := RX8) (T := TX8) (N := 8) (ci := 6) S G (s_isHome l X (an 3) (fun k => sv (6 + k)) (fun k => dv (20 + k)) H.size) gX10_best_X8_isHome rfl rfl rfl hdV_X8_isHome ⟨Nat.le_of_ble_eq_true rfl, Nat.le_of_ble_eq_true rfl⟩ [5] rfl rfl 5 rfl rfl rfl hl.1 (Nat.le_of_ble_eq_true rfl) dX10_best_33 ⟨Nat.le_of_ble_eq_true rfl, Nat.le_of_ble_eq_true rfl⟩) (fun r_29 u_29 H locs hp_29 G => ?_)
        have G : wd X (va_A (@HAppend.hAppend va_W va_W va_W _ (xW h0 nw sp xa la lb) (@HAppend.hAppend va_W va_W va_W _ (rcV X nw an sv dv n0 n1 n2 n3 n4 g0 gs gn gm) (@HAppend.hAppend va_W va_W va_W _ (rnV (xa 8) ag dg) ([((xa 5), .inl (X.2.1, 3, .inl fr))])))) sz) (va_A (@HAppend.hAppend va_W va_W va_W _ (xW h0 nw sp xa la lb) (@HAppend.hAppend va_W va_W va_W _ (rcV X nw an sv dv n0 n1 n2 n3 n4 g0 gs gn gm) (@HAppend.hAppend va_W va_W va_W _ (rnV (xa 8) ag dg) ([((xa 5), .inl (X.2.1, 3, .inl fr))])))) sz) s (@HAppend.hAppend va_W va_W va_W _ (xW h0 nw sp xa la lb) (@HAppend.hAppend va_W va_W va_W _ (rcV X nw an sv dv n0 n1 n2 n3 n4 g0 gs gn gm) (@HAppend.hAppend va_W va_W va_W _ (rnV (xa 8) ag dg) ([((xa 5), .inl (X.2.1, 3, .inl fr))])))) H locs := G
        refine lv_if_eq (tgt := 41) zx zb dX10_best_36 (by decide) (fun c_30 => ?_) (fun c_30 => ?_)
        · refine lv_iconst (v := (-1)) zx zb dX10_best_41 (by decide) ?_
          refine lv_istore_n (lv' := [(3, .int (-1)), (0, .ref h0), (1, .int 2), (2, .int x2)]) zx zb dX10_best_42 rfl hl (by decide) rfl (fun ls hl => ?_)
          refine lv_iconst (v := (-1)) zx zb dX10_best_43 (by decide) ?_
          refine lv_istore (lv' := [(4, .int (-1)), (3, .int (-1)), (0, .ref h0), (1, .int 2), (2, .int x2)]) zx zb dX10_best_44 hl (by decide) rfl (fun ls hl => ?_)
          refine lv_bipush (v := 60) zx zb dX10_best_46 (by decide) ?_
          refine lv_istore (lv' := [(5, .int 60), (4, .int (-1)), (3, .int (-1)), (0, .ref h0), (1, .int 2), (2, .int x2)]) zx zb dX10_best_48 hl (by decide) rfl (fun ls hl => ?_)
          refine lv_iconst (v := 0) zx zb dX10_best_50 (by decide) ?_
          refine lv_istore (lv' := [(6, .int 0), (5, .int 60), (4, .int (-1)), (3, .int (-1)), (0, .ref h0), (1, .int 2), (2, .int x2)]) zx zb dX10_best_51 hl (by decide) rfl (fun ls hl => ?_)
          refine k_loop (P := ∀ (zm : Nat) (k53 : Nat) (x53_5 : Int32) (x53_4 : Int32) (x53_3 : Int32) (a53_2 : Nat → Int32) (d53_2 : Nat → Int32) (H : Heap) (locs : List Loc) (ls : Array Slot), 10 + 1 ≤ k53 + zm → (k53 ≤ 10) → (x53_5 ≤ 60) → wd X (va_A (@HAppend.hAppend va_W va_W va_W _ (xW h0 nw sp xa la lb) (@HAppend.hAppend va_W va_W va_W _ (rcV X nw an sv dv n0 n1 n2 n3 n4 g0 gs gn gm) (@HAppend.hAppend va_W va_W va_W _ (rnV (xa 8) ag dg) ([((xa 5), .inl (X.2.1, 3, .inl fr))])))) sz) (va_A (@HAppend.hAppend va_W va_W va_W _ (xW h0 nw sp xa la lb) (@HAppend.hAppend va_W va_W va_W _ (rcV X nw an sv dv n0 n1 n2 n3 n4 g0 gs gn gm) (@HAppend.hAppend va_W va_W va_W _ (rnV (xa 8) ag dg) ([((xa 5), .inl (X.2.1, 3, .inl fr))])))) sz) s (@HAppend.hAppend va_W va_W va_W _ (xW h0 nw sp xa la lb) (@HAppend.hAppend va_W va_W va_W _ (rcV X nw an sv dv n0 n1 n2 n3 n4 g0 gs gn gm) (@HAppend.hAppend va_W va_W va_W _ (rnV (xa 8) a53_2 d53_2) ([((xa 5), .inl (X.2.1, 3, .inl fr))])))) H locs → lv_has ls 8 [(6, .int (nI k53)), (5, .int x53_5), (4, .int x53_4), (3, .int x53_3), (0, .ref h0), (1, .int 2), (2, .int x2)] → W p l e _ s m _ below meth c H locs _ _ _ (F0 m 53 ls [])) (fun loop => loop (10 + 1) 0 60 (-1) (-1) ag dg _ _ _ (by omega) (by omega) (by first | assumption | decide | exact k_m60 (by assumption)) G hl) ?_
          intro zm
          induction zm with
          | zero => intro k53 x53_5 x53_4 x53_3 a53_2 d53_2 H locs ls zz q_hk_k53 q_hk_x53_5 _ _; exact absurd zz (by omega)
          | succ zm ih53 =>
            intro k53 x53_5 x53_4 x53_3 a53_2 d53_2 H locs ls zm_53 hk_k53 hk_x53_5 G hl
            refine lv_iload zx zb dX10_best_53 (lv_at hl 0 rfl) ?_
            refine lv_bipush (v := 9) zx zb dX10_best_55 (by decide) ?_
            refine lv_icmp_gt (tgt := 135) zx zb dX10_best_57 (by decide) (fun c_31 => ?_) (fun c_31 => ?_)
            · have fc_31 := j_lt (a := 9) (b := k53) (by omega) (by omega) c_31
              refine lv_iload_n zx zb dX10_best_135 rfl (lv_at hl 6 rfl) ?_
              refine k_cutW (PP := fun Wx => ∀ (x_33 : Int32) (H : Heap) (locs : List Loc) (ls : Array Slot), wd X (va_A (@HAppend.hAppend va_W va_W va_W _ (xW h0 nw sp xa la lb) (@HAppend.hAppend va_W va_W va_W _ (rcV X nw an sv dv n0 n1 n2 n3 n4 g0 gs gn gm) (@HAppend.hAppend va_W va_W va_W _ (rnV (xa 8) ag dg) ([((xa 5), .inl (X.2.1, 3, .inl fr))])))) sz) (va_A (@HAppend.hAppend va_W va_W va_W _ (xW h0 nw sp xa la lb) (@HAppend.hAppend va_W va_W va_W _ (rcV X nw an sv dv n0 n1 n2 n3 n4 g0 gs gn gm) (@HAppend.hAppend va_W va_W va_W _ (rnV (xa 8) ag dg) ([((xa 5), .inl (X.2.1, 3, .inl fr))])))) sz) s (@HAppend.hAppend va_W va_W va_W _ (xW h0 nw sp xa la lb) (@HAppend.hAppend va_W va_W va_W _ (rcV X nw an sv dv n0 n1 n2 n3 n4 g0 gs gn gm) (@HAppend.hAppend va_W va_W va_W _ (rnV (xa 8) a53_2 d53_2) ([((xa 5), .inl (X.2.1, 3, .inl fr))])))) H locs → lv_has ls 8 [(6, .int (nI k53)), (5, .int x53_5), (4, .int x53_4), (3, .int x53_3), (0, .ref h0), (1, .int 2), (2, .int x2)] → Wx (F0 m 145 ls [.int x_33]) H locs) ?_ ?_
              · intro join_136
                refine lv_if_ne (tgt := 143) zx zb dX10_best_136 (by decide) (fun c_32 => ?_) (fun c_32 => ?_)
                · refine lv_iload zx zb dX10_best_143 (lv_at hl 2 rfl) ?_
                  exact join_136 x53_4 _ _ _  G hl
                · refine lv_iload_n zx zb dX10_best_139 rfl (lv_at hl 3 rfl) ?_
                  refine lv_goto (tgt := 145) zx zb dX10_best_140 (by decide) ?_
                  exact join_136 x53_3 _ _ _  G hl
              · intro x_33 H locs ls  G hl
                exact e_int S zr zlk (vp_nar_int _) G (a53_2, d53_2, fr) [0, 1, 2, 3, 4, 5, 6, 7, 8, 9, 10, 11, 12, 13, 14, 15, 16, 17, 18] rfl rfl (Or.inr rfl) (trivial) dX10_best_145
            · have fc_31 := j_nlt (a := 9) (b := k53) (by omega) (by omega) c_31
              refine lv_aload_n zx zb dX10_best_60 rfl (lv_at hl 4 rfl) ?_
              refine r_get (C := RX10) (T := TX10) (N := 14) (ci := 8) (v := .ref (xa 8)) S in_X10_best_X10 G 0 rfl rfl 8 (by decide) lk_X10_best_48 rfl dX10_best_61 ?_
              refine lv_aload_n zx zb dX10_best_64 rfl (lv_at hl 4 rfl) ?_
              refine r_get (C := RX10) (T := TX10) (N := 14) (ci := 8) (v := .ref nw) S in_X10_best_X10 G 0 rfl rfl 0 (by decide) lk_X10_best_10 rfl dX10_best_65 ?_
              refine r_get (C := RX5) (T := TX5) (N := 8) (ci := 3) (v := .ref (an 0)) S in_X10_best_X5 G 1 rfl rfl 3 (by decide) lk_X10_best_126 rfl dX10_best_68 ?_
              refine lv_iload_n zx zb dX10_best_71 rfl (lv_at hl 5 rfl) ?_
              refine r_aald (C := RX8) (b := (an 3)) S G 2 3 rfl rfl (k_vp (by decide)) rfl dX10_best_72 ?_
              refine b_wv (cells' := 0) (slots' := 0) (wr := @HAppend.hAppend va_W va_W va_W _ (xW h0 nw sp xa la lb) (@HAppend.hAppend va_W va_W va_W _ ([(nw, .inr (3, [.int (dv 0), .int (dv 1), .int (nI n0), .ref (an 0), .ref (an 7), .ref (an 9), .ref (an 11), .ref (an 13)])), ((an 0), .inl (X.2.2.2.2, 6, .inr (.inr (.inr (.inr (rowQ an)))))), ((an 1), .inr (6, [.int (sv 0), .int (sv 1), .int (sv 2), .int (dv 10), .int (dv 11), .int (dv 12), .int (dv 13), .int (dv 14)])), ((an 2), .inr (6, [.int (sv 3), .int (sv 4), .int (sv 5), .int (dv 15), .int (dv 16), .int (dv 17), .int (dv 18), .int (dv 19)])), ((an 4), .inr (6, [.int (sv 9), .int (sv 10), .int (sv 11), .int (dv 25), .int (dv 26), .int (dv 27), .int (dv 28), .int (dv 29)])), ((an 5), .inr (6, [.int (sv 12), .int (sv 13), .int (sv 14), .int (dv 30), .int (dv 31), .int (dv 32), .int (dv 33), .int (dv 34)])), ((an 6), .inr (6, [.int (sv 15), .int (sv 16), .int (sv 17), .int (dv 35), .int (dv 36), .int (dv 37), .int (dv 38), .int (dv 39)])), ((an 7), .inr (2, [.ref (an 8), .int (nI n1)])), ((an 8), .inl (X.2.1, 248, .inl g0)), ((an 9), .inr (5, [.int 5, .int 0, .int 1, .ref (an 10), .int (nI n2)])), ((an 10), .inl (X.2.1, 25, .inl gs)), ((an 11), .inr (5, [.int 6, .int 1, .int 1, .ref (an 12), .int (nI n3)])), ((an 12), .inl (X.2.1, 30, .inl gn)), ((an 13), .inr (5, [.int 6, .int 0, .int 0, .ref (an 14), .int (nI n4)])), ((an 14), .inl (X.2.1, 30, .inl gm))]) ([((xa 5), .inl (X.2.1, 3, .inl fr))]))) G rfl rfl [17, 5] [0, 1, 2, 3, 4, 6, 7, 8, 9, 10, 11, 12, 13, 14, 15, 16, 18] rfl rfl rfl rfl (n_V (As := [.ref (an 3)]) (rest := []) (C := RX8) (T := TX8) (N := 8) (ci := 6) S G (s_rcopy l X (xa 8) a53_2 d53_2 (an 3) (fun k => sv (6 + k)) (fun k => dv (20 + k)) H.size) gX10_best_X8_copyFrom rfl rfl rfl hdV_X8_copyFrom ⟨Nat.le_of_ble_eq_true rfl, Nat.le_of_ble_eq_true rfl⟩ [17, 5] rfl rfl 17 rfl rfl rfl hl.1 (Nat.le_of_ble_eq_true rfl) dX10_best_73 ⟨Nat.le_of_ble_eq_true rfl, Nat.le_of_ble_eq_true rfl⟩) (fun u_34 H locs hp_34 G => ?_)
              obtain ⟨a_34a, d_34b⟩ := u_34
              have hq_34 := hp_34
              have G : wd X (va_A (@HAppend.hAppend va_W va_W va_W _ (xW h0 nw sp xa la lb) (@HAppend.hAppend va_W va_W va_W _ (rcV X nw an sv dv n0 n1 n2 n3 n4 g0 gs gn gm) (@HAppend.hAppend va_W va_W va_W _ (rnV (xa 8) ag dg) ([((xa 5), .inl (X.2.1, 3, .inl fr))])))) sz) (va_A (@HAppend.hAppend va_W va_W va_W _ (xW h0 nw sp xa la lb) (@HAppend.hAppend va_W va_W va_W _ (rcV X nw an sv dv n0 n1 n2 n3 n4 g0 gs gn gm) (@HAppend.hAppend va_W va_W va_W _ (rnV (xa 8) ag dg) ([((xa 5), .inl (X.2.1, 3, .inl fr))])))) sz) s (@HAppend.hAppend va_W va_W va_W _ (xW h0 nw sp xa la lb) (@HAppend.hAppend va_W va_W va_W _ (rcV X nw an sv dv n0 n1 n2 n3 n4 g0 gs gn gm) (@HAppend.hAppend va_W va_W va_W _ ([((xa 5), .inl (X.2.1, 3, .inl fr))]) (rnV (xa 8) a_34a d_34b)))) H locs := wd_sub G [0, 1, 2, 3, 4, 18, 5, 6, 7, 8, 9, 10, 11, 12, 13, 14, 15, 16, 17] rfl rfl
              refine lv_aload_n zx zb dX10_best_76 rfl (lv_at hl 4 rfl) ?_
              refine r_get (C := RX10) (T := TX10) (N := 14) (ci := 8) (v := .ref (xa 8)) S in_X10_best_X10 G 0 rfl rfl 8 (by decide) lk_X10_best_48 rfl dX10_best_77 ?_
              refine lv_iload zx zb dX10_best_80 (lv_at hl 0 rfl) ?_
              refine r_put (C := RX8) (T := TX8) (N := 8) (ci := 6) (v := .int (nI k53)) S in_X10_best_X8 tyX8_ok nmX8 G 18 rfl rfl 3 (by decide) lk_X10_best_130 rfl (vp_nar_int _) rfl (Nat.le_of_ble_eq_true rfl) dX10_best_82 (fun H locs G => ?_)
              obtain ⟨d_35, G⟩ : ∃ d_35 : Nat → Int32, wd X (va_A (@HAppend.hAppend va_W va_W va_W _ (xW h0 nw sp xa la lb) (@HAppend.hAppend va_W va_W va_W _ (rcV X nw an sv dv n0 n1 n2 n3 n4 g0 gs gn gm) (@HAppend.hAppend va_W va_W va_W _ (rnV (xa 8) ag dg) ([((xa 5), .inl (X.2.1, 3, .inl fr))])))) sz) (va_A (@HAppend.hAppend va_W va_W va_W _ (xW h0 nw sp xa la lb) (@HAppend.hAppend va_W va_W va_W _ (rcV X nw an sv dv n0 n1 n2 n3 n4 g0 gs gn gm) (@HAppend.hAppend va_W va_W va_W _ (rnV (xa 8) ag dg) ([((xa 5), .inl (X.2.1, 3, .inl fr))])))) sz) s (@HAppend.hAppend va_W va_W va_W _ (xW h0 nw sp xa la lb) (@HAppend.hAppend va_W va_W va_W _ (rcV X nw an sv dv n0 n1 n2 n3 n4 g0 gs gn gm) (@HAppend.hAppend va_W va_W va_W _ ([((xa 5), .inl (X.2.1, 3, .inl fr))]) (rnV (xa 8) a_34a d_35)))) H locs := ⟨upd d_34b 0 (nI k53), G⟩
              refine lv_aload_n zx zb dX10_best_85 rfl (lv_at hl 4 rfl) ?_
              refine r_get (C := RX10) (T := TX10) (N := 14) (ci := 8) (v := .ref (xa 8)) S in_X10_best_X10 G 0 rfl rfl 8 (by decide) lk_X10_best_48 rfl dX10_best_86 ?_
              refine lv_aload_n zx zb dX10_best_89 rfl (lv_at hl 4 rfl) ?_
              refine r_get (C := RX10) (T := TX10) (N := 14) (ci := 8) (v := .ref nw) S in_X10_best_X10 G 0 rfl rfl 0 (by decide) lk_X10_best_10 rfl dX10_best_90 ?_
              refine r_get (C := RX5) (T := TX5) (N := 8) (ci := 3) (v := .int (dv 1)) S in_X10_best_X5 G 1 rfl rfl 1 (by decide) lk_X10_best_110 rfl dX10_best_93 ?_
              refine lv_aload_n zx zb dX10_best_96 rfl (lv_at hl 4 rfl) ?_
              refine r_get (C := RX10) (T := TX10) (N := 14) (ci := 8) (v := .ref nw) S in_X10_best_X10 G 0 rfl rfl 0 (by decide) lk_X10_best_10 rfl dX10_best_97 ?_
              refine r_get (C := RX5) (T := TX5) (N := 8) (ci := 3) (v := .int (dv 0)) S in_X10_best_X5 G 1 rfl rfl 0 (by decide) lk_X10_best_140 rfl dX10_best_100 ?_
              refine lv_iload zx zb dX10_best_103 (lv_at hl 1 rfl) ?_
              refine b_wi (cells' := 0) (slots' := 0) (wr := @HAppend.hAppend va_W va_W va_W _ (xW h0 nw sp xa la lb) (@HAppend.hAppend va_W va_W va_W _ (rcV X nw an sv dv n0 n1 n2 n3 n4 g0 gs gn gm) ([((xa 5), .inl (X.2.1, 3, .inl fr))]))) G rfl rfl [18] [0, 1, 2, 3, 4, 5, 6, 7, 8, 9, 10, 11, 12, 13, 14, 15, 16, 17] rfl rfl rfl rfl (n_V (As := [.int (dv 1), .int (dv 0), .int x53_5]) (rest := []) (C := RX8) (T := TX8) (N := 8) (ci := 6) S G (s_ticksToHome l X (xa 8) a_34a d_35 (dv 1) (dv 0) x53_5 (by first | decide | assumption | exact k_60a (by assumption) | exact hw_3.2) H.size) gX10_best_X8_ticksToHome rfl rfl rfl hdV_X8_ticksToHome ⟨Nat.le_of_ble_eq_true rfl, Nat.le_of_ble_eq_true rfl⟩ [18] rfl rfl 18 rfl rfl rfl hl.1 (Nat.le_of_ble_eq_true rfl) dX10_best_105 ⟨Nat.le_of_ble_eq_true rfl, Nat.le_of_ble_eq_true rfl⟩) (fun r_36 u_36 H locs hp_36 G => ?_)
              obtain ⟨d_36, rfl⟩ : ∃ z, z = u_36 := ⟨_, rfl⟩
              have hq_36 := hp_36
              obtain ⟨hq_36, hs_36⟩ := hq_36
              have G : wd X (va_A (@HAppend.hAppend va_W va_W va_W _ (xW h0 nw sp xa la lb) (@HAppend.hAppend va_W va_W va_W _ (rcV X nw an sv dv n0 n1 n2 n3 n4 g0 gs gn gm) (@HAppend.hAppend va_W va_W va_W _ (rnV (xa 8) ag dg) ([((xa 5), .inl (X.2.1, 3, .inl fr))])))) sz) (va_A (@HAppend.hAppend va_W va_W va_W _ (xW h0 nw sp xa la lb) (@HAppend.hAppend va_W va_W va_W _ (rcV X nw an sv dv n0 n1 n2 n3 n4 g0 gs gn gm) (@HAppend.hAppend va_W va_W va_W _ (rnV (xa 8) ag dg) ([((xa 5), .inl (X.2.1, 3, .inl fr))])))) sz) s (@HAppend.hAppend va_W va_W va_W _ (xW h0 nw sp xa la lb) (@HAppend.hAppend va_W va_W va_W _ (rcV X nw an sv dv n0 n1 n2 n3 n4 g0 gs gn gm) (@HAppend.hAppend va_W va_W va_W _ ([((xa 5), .inl (X.2.1, 3, .inl fr))]) (rnV (xa 8) a_34a d_36)))) H locs := G
              refine lv_istore (lv' := [(7, .int r_36), (6, .int (nI k53)), (5, .int x53_5), (4, .int x53_4), (3, .int x53_3), (0, .ref h0), (1, .int 2), (2, .int x2)]) zx zb dX10_best_108 hl (by decide) rfl (fun ls hl => ?_)
              refine lv_iload zx zb dX10_best_110 (lv_at hl 0 rfl) ?_
              refine lv_iconst (v := (-1)) zx zb dX10_best_112 (by decide) ?_
              refine k_cutW (PP := fun Wx => ∀ (x_38 : Int32) (x_39 : Int32) (x_40 : Int32) (H : Heap) (locs : List Loc) (ls : Array Slot), (x_38 ≤ 60) → wd X (va_A (@HAppend.hAppend va_W va_W va_W _ (xW h0 nw sp xa la lb) (@HAppend.hAppend va_W va_W va_W _ (rcV X nw an sv dv n0 n1 n2 n3 n4 g0 gs gn gm) (@HAppend.hAppend va_W va_W va_W _ (rnV (xa 8) ag dg) ([((xa 5), .inl (X.2.1, 3, .inl fr))])))) sz) (va_A (@HAppend.hAppend va_W va_W va_W _ (xW h0 nw sp xa la lb) (@HAppend.hAppend va_W va_W va_W _ (rcV X nw an sv dv n0 n1 n2 n3 n4 g0 gs gn gm) (@HAppend.hAppend va_W va_W va_W _ (rnV (xa 8) ag dg) ([((xa 5), .inl (X.2.1, 3, .inl fr))])))) sz) s (@HAppend.hAppend va_W va_W va_W _ (xW h0 nw sp xa la lb) (@HAppend.hAppend va_W va_W va_W _ (rcV X nw an sv dv n0 n1 n2 n3 n4 g0 gs gn gm) (@HAppend.hAppend va_W va_W va_W _ ([((xa 5), .inl (X.2.1, 3, .inl fr))]) (rnV (xa 8) a_34a d_36)))) H locs → lv_has ls 8 [(7, .int r_36), (6, .int (nI k53)), (5, .int x_38), (4, .int x_39), (3, .int x_40), (0, .ref h0), (1, .int 2), (2, .int x2)] → Wx (F0 m 129 ls []) H locs) ?_ ?_
              · intro join_113
                refine lv_icmp_eq (tgt := 129) zx zb dX10_best_113 (by decide) (fun c_37 => ?_) (fun c_37 => ?_)
                · exact join_113 x53_5 x53_4 x53_3 _ _ _ (by first | assumption | decide | exact k_m60 (by assumption)) G hl
                · refine lv_iload zx zb dX10_best_116 (lv_at hl 1 rfl) ?_
                  refine lv_istore_n (lv' := [(3, .int (nI k53)), (7, .int r_36), (6, .int (nI k53)), (5, .int x53_5), (4, .int x53_4), (0, .ref h0), (1, .int 2), (2, .int x2)]) zx zb dX10_best_118 rfl hl (by decide) rfl (fun ls hl => ?_)
                  refine lv_iload zx zb dX10_best_119 (lv_at hl 1 rfl) ?_
                  refine lv_istore (lv' := [(4, .int r_36), (3, .int (nI k53)), (7, .int r_36), (6, .int (nI k53)), (5, .int x53_5), (0, .ref h0), (1, .int 2), (2, .int x2)]) zx zb dX10_best_121 hl (by decide) rfl (fun ls hl => ?_)
                  refine lv_iload zx zb dX10_best_123 (lv_at hl 2 rfl) ?_
                  refine lv_iconst (v := 1) zx zb dX10_best_125 (by decide) ?_
                  refine r_isub (v := (r_36 - 1)) S rfl dX10_best_126 ?_
                  refine lv_istore (lv' := [(5, .int (r_36 - 1)), (4, .int r_36), (3, .int (nI k53)), (7, .int r_36), (6, .int (nI k53)), (0, .ref h0), (1, .int 2), (2, .int x2)]) zx zb dX10_best_127 hl (by decide) rfl (fun ls hl => ?_)
                  have hl := lv_sub hl (l' := [(7, .int r_36), (6, .int (nI k53)), (5, .int (r_36 - 1)), (4, .int r_36), (3, .int (nI k53)), (0, .ref h0), (1, .int 2), (2, .int x2)]) [3, 4, 0, 1, 2, 5, 6, 7] rfl
                  exact join_113 (r_36 - 1) r_36 (nI k53) _ _ _ (by first | assumption | decide | exact k_m60 (by assumption)) G hl
              · intro x_38 x_39 x_40 H locs ls hk_x_38 G hl
                refine lv_iinc (v := (nI (k53 + 1))) (lv' := [(6, .int (nI (k53 + 1))), (7, .int r_36), (5, .int x_38), (4, .int x_39), (3, .int x_40), (0, .ref h0), (1, .int 2), (2, .int x2)]) zx zb dX10_best_129 hl (k := 1) rfl (nI_add k53 1) (by decide) rfl (fun ls hl => ?_)
                refine lv_goto (tgt := 53) zx zb dX10_best_132 (by decide) ?_
                have G : wd X (va_A (@HAppend.hAppend va_W va_W va_W _ (xW h0 nw sp xa la lb) (@HAppend.hAppend va_W va_W va_W _ (rcV X nw an sv dv n0 n1 n2 n3 n4 g0 gs gn gm) (@HAppend.hAppend va_W va_W va_W _ (rnV (xa 8) ag dg) ([((xa 5), .inl (X.2.1, 3, .inl fr))])))) sz) (va_A (@HAppend.hAppend va_W va_W va_W _ (xW h0 nw sp xa la lb) (@HAppend.hAppend va_W va_W va_W _ (rcV X nw an sv dv n0 n1 n2 n3 n4 g0 gs gn gm) (@HAppend.hAppend va_W va_W va_W _ (rnV (xa 8) ag dg) ([((xa 5), .inl (X.2.1, 3, .inl fr))])))) sz) s (@HAppend.hAppend va_W va_W va_W _ (xW h0 nw sp xa la lb) (@HAppend.hAppend va_W va_W va_W _ (rcV X nw an sv dv n0 n1 n2 n3 n4 g0 gs gn gm) (@HAppend.hAppend va_W va_W va_W _ (rnV (xa 8) a_34a d_36) ([((xa 5), .inl (X.2.1, 3, .inl fr))])))) H locs := wd_sub G [0, 1, 2, 3, 4, 5, 6, 7, 8, 9, 10, 11, 12, 13, 14, 15, 16, 18, 17] rfl rfl
                have hl := lv_sub hl (l' := [(6, .int (nI (k53 + 1))), (5, .int x_38), (4, .int x_39), (3, .int x_40), (0, .ref h0), (1, .int 2), (2, .int x2)]) [0, 2, 3, 4, 5, 6, 7] rfl
                exact ih53 (k53 + 1) x_38 x_39 x_40 a_34a d_36 _ _ _ (by omega) (by omega) (by first | assumption | decide | exact k_m60 (by assumption)) G hl
        · refine lv_iconst (v := (-1)) zx zb dX10_best_39 (by decide) ?_
          exact e_int S zr zlk (vp_nar_int _) G (ag, dg, fr) [0, 1, 2, 3, 4, 5, 6, 7, 8, 9, 10, 11, 12, 13, 14, 15, 16, 17, 18] rfl rfl (Or.inr rfl) (trivial) dX10_best_40
      · refine k_it (v := 3) rfl ?_
        refine r_aald (C := RX8) (b := (an 4)) S G 2 3 rfl rfl (k_vp (by decide)) rfl dX10_best_32 ?_
        refine o_ri (cells' := 0) (slots' := 0) G rfl rfl (n_V (As := []) (rest := []) (C := RX8) (T := TX8) (N := 8) (ci := 6) S G (s_isHome l X (an 4) (fun k => sv (9 + k)) (fun k => dv (25 + k)) H.size) gX10_best_X8_isHome rfl rfl rfl hdV_X8_isHome ⟨Nat.le_of_ble_eq_true rfl, Nat.le_of_ble_eq_true rfl⟩ [6] rfl rfl 6 rfl rfl rfl hl.1 (Nat.le_of_ble_eq_true rfl) dX10_best_33 ⟨Nat.le_of_ble_eq_true rfl, Nat.le_of_ble_eq_true rfl⟩) (fun r_41 u_41 H locs hp_41 G => ?_)
        have G : wd X (va_A (@HAppend.hAppend va_W va_W va_W _ (xW h0 nw sp xa la lb) (@HAppend.hAppend va_W va_W va_W _ (rcV X nw an sv dv n0 n1 n2 n3 n4 g0 gs gn gm) (@HAppend.hAppend va_W va_W va_W _ (rnV (xa 8) ag dg) ([((xa 5), .inl (X.2.1, 3, .inl fr))])))) sz) (va_A (@HAppend.hAppend va_W va_W va_W _ (xW h0 nw sp xa la lb) (@HAppend.hAppend va_W va_W va_W _ (rcV X nw an sv dv n0 n1 n2 n3 n4 g0 gs gn gm) (@HAppend.hAppend va_W va_W va_W _ (rnV (xa 8) ag dg) ([((xa 5), .inl (X.2.1, 3, .inl fr))])))) sz) s (@HAppend.hAppend va_W va_W va_W _ (xW h0 nw sp xa la lb) (@HAppend.hAppend va_W va_W va_W _ (rcV X nw an sv dv n0 n1 n2 n3 n4 g0 gs gn gm) (@HAppend.hAppend va_W va_W va_W _ (rnV (xa 8) ag dg) ([((xa 5), .inl (X.2.1, 3, .inl fr))])))) H locs := G
        refine lv_if_eq (tgt := 41) zx zb dX10_best_36 (by decide) (fun c_42 => ?_) (fun c_42 => ?_)
        · refine lv_iconst (v := (-1)) zx zb dX10_best_41 (by decide) ?_
          refine lv_istore_n (lv' := [(3, .int (-1)), (0, .ref h0), (1, .int 3), (2, .int x2)]) zx zb dX10_best_42 rfl hl (by decide) rfl (fun ls hl => ?_)
          refine lv_iconst (v := (-1)) zx zb dX10_best_43 (by decide) ?_
          refine lv_istore (lv' := [(4, .int (-1)), (3, .int (-1)), (0, .ref h0), (1, .int 3), (2, .int x2)]) zx zb dX10_best_44 hl (by decide) rfl (fun ls hl => ?_)
          refine lv_bipush (v := 60) zx zb dX10_best_46 (by decide) ?_
          refine lv_istore (lv' := [(5, .int 60), (4, .int (-1)), (3, .int (-1)), (0, .ref h0), (1, .int 3), (2, .int x2)]) zx zb dX10_best_48 hl (by decide) rfl (fun ls hl => ?_)
          refine lv_iconst (v := 0) zx zb dX10_best_50 (by decide) ?_
          refine lv_istore (lv' := [(6, .int 0), (5, .int 60), (4, .int (-1)), (3, .int (-1)), (0, .ref h0), (1, .int 3), (2, .int x2)]) zx zb dX10_best_51 hl (by decide) rfl (fun ls hl => ?_)
          refine k_loop (P := ∀ (zm : Nat) (k53 : Nat) (x53_5 : Int32) (x53_4 : Int32) (x53_3 : Int32) (a53_2 : Nat → Int32) (d53_2 : Nat → Int32) (H : Heap) (locs : List Loc) (ls : Array Slot), 10 + 1 ≤ k53 + zm → (k53 ≤ 10) → (x53_5 ≤ 60) → wd X (va_A (@HAppend.hAppend va_W va_W va_W _ (xW h0 nw sp xa la lb) (@HAppend.hAppend va_W va_W va_W _ (rcV X nw an sv dv n0 n1 n2 n3 n4 g0 gs gn gm) (@HAppend.hAppend va_W va_W va_W _ (rnV (xa 8) ag dg) ([((xa 5), .inl (X.2.1, 3, .inl fr))])))) sz) (va_A (@HAppend.hAppend va_W va_W va_W _ (xW h0 nw sp xa la lb) (@HAppend.hAppend va_W va_W va_W _ (rcV X nw an sv dv n0 n1 n2 n3 n4 g0 gs gn gm) (@HAppend.hAppend va_W va_W va_W _ (rnV (xa 8) ag dg) ([((xa 5), .inl (X.2.1, 3, .inl fr))])))) sz) s (@HAppend.hAppend va_W va_W va_W _ (xW h0 nw sp xa la lb) (@HAppend.hAppend va_W va_W va_W _ (rcV X nw an sv dv n0 n1 n2 n3 n4 g0 gs gn gm) (@HAppend.hAppend va_W va_W va_W _ (rnV (xa 8) a53_2 d53_2) ([((xa 5), .inl (X.2.1, 3, .inl fr))])))) H locs → lv_has ls 8 [(6, .int (nI k53)), (5, .int x53_5), (4, .int x53_4), (3, .int x53_3), (0, .ref h0), (1, .int 3), (2, .int x2)] → W p l e _ s m _ below meth c H locs _ _ _ (F0 m 53 ls [])) (fun loop => loop (10 + 1) 0 60 (-1) (-1) ag dg _ _ _ (by omega) (by omega) (by first | assumption | decide | exact k_m60 (by assumption)) G hl) ?_
          intro zm
          induction zm with
          | zero => intro k53 x53_5 x53_4 x53_3 a53_2 d53_2 H locs ls zz q_hk_k53 q_hk_x53_5 _ _; exact absurd zz (by omega)
          | succ zm ih53 =>
            intro k53 x53_5 x53_4 x53_3 a53_2 d53_2 H locs ls zm_53 hk_k53 hk_x53_5 G hl
            refine lv_iload zx zb dX10_best_53 (lv_at hl 0 rfl) ?_
            refine lv_bipush (v := 9) zx zb dX10_best_55 (by decide) ?_
            refine lv_icmp_gt (tgt := 135) zx zb dX10_best_57 (by decide) (fun c_43 => ?_) (fun c_43 => ?_)
            · have fc_43 := j_lt (a := 9) (b := k53) (by omega) (by omega) c_43
              refine lv_iload_n zx zb dX10_best_135 rfl (lv_at hl 6 rfl) ?_
              refine k_cutW (PP := fun Wx => ∀ (x_45 : Int32) (H : Heap) (locs : List Loc) (ls : Array Slot), wd X (va_A (@HAppend.hAppend va_W va_W va_W _ (xW h0 nw sp xa la lb) (@HAppend.hAppend va_W va_W va_W _ (rcV X nw an sv dv n0 n1 n2 n3 n4 g0 gs gn gm) (@HAppend.hAppend va_W va_W va_W _ (rnV (xa 8) ag dg) ([((xa 5), .inl (X.2.1, 3, .inl fr))])))) sz) (va_A (@HAppend.hAppend va_W va_W va_W _ (xW h0 nw sp xa la lb) (@HAppend.hAppend va_W va_W va_W _ (rcV X nw an sv dv n0 n1 n2 n3 n4 g0 gs gn gm) (@HAppend.hAppend va_W va_W va_W _ (rnV (xa 8) ag dg) ([((xa 5), .inl (X.2.1, 3, .inl fr))])))) sz) s (@HAppend.hAppend va_W va_W va_W _ (xW h0 nw sp xa la lb) (@HAppend.hAppend va_W va_W va_W _ (rcV X nw an sv dv n0 n1 n2 n3 n4 g0 gs gn gm) (@HAppend.hAppend va_W va_W va_W _ (rnV (xa 8) a53_2 d53_2) ([((xa 5), .inl (X.2.1, 3, .inl fr))])))) H locs → lv_has ls 8 [(6, .int (nI k53)), (5, .int x53_5), (4, .int x53_4), (3, .int x53_3), (0, .ref h0), (1, .int 3), (2, .int x2)] → Wx (F0 m 145 ls [.int x_45]) H locs) ?_ ?_
              · intro join_136
                refine lv_if_ne (tgt := 143) zx zb dX10_best_136 (by decide) (fun c_44 => ?_) (fun c_44 => ?_)
                · refine lv_iload zx zb dX10_best_143 (lv_at hl 2 rfl) ?_
                  exact join_136 x53_4 _ _ _  G hl
                · refine lv_iload_n zx zb dX10_best_139 rfl (lv_at hl 3 rfl) ?_
                  refine lv_goto (tgt := 145) zx zb dX10_best_140 (by decide) ?_
                  exact join_136 x53_3 _ _ _  G hl
              · intro x_45 H locs ls  G hl
                exact e_int S zr zlk (vp_nar_int _) G (a53_2, d53_2, fr) [0, 1, 2, 3, 4, 5, 6, 7, 8, 9, 10, 11, 12, 13, 14, 15, 16, 17, 18] rfl rfl (Or.inr rfl) (trivial) dX10_best_145
            · have fc_43 := j_nlt (a := 9) (b := k53) (by omega) (by omega) c_43
              refine lv_aload_n zx zb dX10_best_60 rfl (lv_at hl 4 rfl) ?_
              refine r_get (C := RX10) (T := TX10) (N := 14) (ci := 8) (v := .ref (xa 8)) S in_X10_best_X10 G 0 rfl rfl 8 (by decide) lk_X10_best_48 rfl dX10_best_61 ?_
              refine lv_aload_n zx zb dX10_best_64 rfl (lv_at hl 4 rfl) ?_
              refine r_get (C := RX10) (T := TX10) (N := 14) (ci := 8) (v := .ref nw) S in_X10_best_X10 G 0 rfl rfl 0 (by decide) lk_X10_best_10 rfl dX10_best_65 ?_
              refine r_get (C := RX5) (T := TX5) (N := 8) (ci := 3) (v := .ref (an 0)) S in_X10_best_X5 G 1 rfl rfl 3 (by decide) lk_X10_best_126 rfl dX10_best_68 ?_
              refine lv_iload_n zx zb dX10_best_71 rfl (lv_at hl 5 rfl) ?_
              refine r_aald (C := RX8) (b := (an 4)) S G 2 3 rfl rfl (k_vp (by decide)) rfl dX10_best_72 ?_
              refine b_wv (cells' := 0) (slots' := 0) (wr := @HAppend.hAppend va_W va_W va_W _ (xW h0 nw sp xa la lb) (@HAppend.hAppend va_W va_W va_W _ ([(nw, .inr (3, [.int (dv 0), .int (dv 1), .int (nI n0), .ref (an 0), .ref (an 7), .ref (an 9), .ref (an 11), .ref (an 13)])), ((an 0), .inl (X.2.2.2.2, 6, .inr (.inr (.inr (.inr (rowQ an)))))), ((an 1), .inr (6, [.int (sv 0), .int (sv 1), .int (sv 2), .int (dv 10), .int (dv 11), .int (dv 12), .int (dv 13), .int (dv 14)])), ((an 2), .inr (6, [.int (sv 3), .int (sv 4), .int (sv 5), .int (dv 15), .int (dv 16), .int (dv 17), .int (dv 18), .int (dv 19)])), ((an 3), .inr (6, [.int (sv 6), .int (sv 7), .int (sv 8), .int (dv 20), .int (dv 21), .int (dv 22), .int (dv 23), .int (dv 24)])), ((an 5), .inr (6, [.int (sv 12), .int (sv 13), .int (sv 14), .int (dv 30), .int (dv 31), .int (dv 32), .int (dv 33), .int (dv 34)])), ((an 6), .inr (6, [.int (sv 15), .int (sv 16), .int (sv 17), .int (dv 35), .int (dv 36), .int (dv 37), .int (dv 38), .int (dv 39)])), ((an 7), .inr (2, [.ref (an 8), .int (nI n1)])), ((an 8), .inl (X.2.1, 248, .inl g0)), ((an 9), .inr (5, [.int 5, .int 0, .int 1, .ref (an 10), .int (nI n2)])), ((an 10), .inl (X.2.1, 25, .inl gs)), ((an 11), .inr (5, [.int 6, .int 1, .int 1, .ref (an 12), .int (nI n3)])), ((an 12), .inl (X.2.1, 30, .inl gn)), ((an 13), .inr (5, [.int 6, .int 0, .int 0, .ref (an 14), .int (nI n4)])), ((an 14), .inl (X.2.1, 30, .inl gm))]) ([((xa 5), .inl (X.2.1, 3, .inl fr))]))) G rfl rfl [17, 6] [0, 1, 2, 3, 4, 5, 7, 8, 9, 10, 11, 12, 13, 14, 15, 16, 18] rfl rfl rfl rfl (n_V (As := [.ref (an 4)]) (rest := []) (C := RX8) (T := TX8) (N := 8) (ci := 6) S G (s_rcopy l X (xa 8) a53_2 d53_2 (an 4) (fun k => sv (9 + k)) (fun k => dv (25 + k)) H.size) gX10_best_X8_copyFrom rfl rfl rfl hdV_X8_copyFrom ⟨Nat.le_of_ble_eq_true rfl, Nat.le_of_ble_eq_true rfl⟩ [17, 6] rfl rfl 17 rfl rfl rfl hl.1 (Nat.le_of_ble_eq_true rfl) dX10_best_73 ⟨Nat.le_of_ble_eq_true rfl, Nat.le_of_ble_eq_true rfl⟩) (fun u_46 H locs hp_46 G => ?_)
              obtain ⟨a_46a, d_46b⟩ := u_46
              have hq_46 := hp_46
              have G : wd X (va_A (@HAppend.hAppend va_W va_W va_W _ (xW h0 nw sp xa la lb) (@HAppend.hAppend va_W va_W va_W _ (rcV X nw an sv dv n0 n1 n2 n3 n4 g0 gs gn gm) (@HAppend.hAppend va_W va_W va_W _ (rnV (xa 8) ag dg) ([((xa 5), .inl (X.2.1, 3, .inl fr))])))) sz) (va_A (@HAppend.hAppend va_W va_W va_W _ (xW h0 nw sp xa la lb) (@HAppend.hAppend va_W va_W va_W _ (rcV X nw an sv dv n0 n1 n2 n3 n4 g0 gs gn gm) (@HAppend.hAppend va_W va_W va_W _ (rnV (xa 8) ag dg) ([((xa 5), .inl (X.2.1, 3, .inl fr))])))) sz) s (@HAppend.hAppend va_W va_W va_W _ (xW h0 nw sp xa la lb) (@HAppend.hAppend va_W va_W va_W _ (rcV X nw an sv dv n0 n1 n2 n3 n4 g0 gs gn gm) (@HAppend.hAppend va_W va_W va_W _ ([((xa 5), .inl (X.2.1, 3, .inl fr))]) (rnV (xa 8) a_46a d_46b)))) H locs := wd_sub G [0, 1, 2, 3, 4, 5, 18, 6, 7, 8, 9, 10, 11, 12, 13, 14, 15, 16, 17] rfl rfl
              refine lv_aload_n zx zb dX10_best_76 rfl (lv_at hl 4 rfl) ?_
              refine r_get (C := RX10) (T := TX10) (N := 14) (ci := 8) (v := .ref (xa 8)) S in_X10_best_X10 G 0 rfl rfl 8 (by decide) lk_X10_best_48 rfl dX10_best_77 ?_
              refine lv_iload zx zb dX10_best_80 (lv_at hl 0 rfl) ?_
              refine r_put (C := RX8) (T := TX8) (N := 8) (ci := 6) (v := .int (nI k53)) S in_X10_best_X8 tyX8_ok nmX8 G 18 rfl rfl 3 (by decide) lk_X10_best_130 rfl (vp_nar_int _) rfl (Nat.le_of_ble_eq_true rfl) dX10_best_82 (fun H locs G => ?_)
              obtain ⟨d_47, G⟩ : ∃ d_47 : Nat → Int32, wd X (va_A (@HAppend.hAppend va_W va_W va_W _ (xW h0 nw sp xa la lb) (@HAppend.hAppend va_W va_W va_W _ (rcV X nw an sv dv n0 n1 n2 n3 n4 g0 gs gn gm) (@HAppend.hAppend va_W va_W va_W _ (rnV (xa 8) ag dg) ([((xa 5), .inl (X.2.1, 3, .inl fr))])))) sz) (va_A (@HAppend.hAppend va_W va_W va_W _ (xW h0 nw sp xa la lb) (@HAppend.hAppend va_W va_W va_W _ (rcV X nw an sv dv n0 n1 n2 n3 n4 g0 gs gn gm) (@HAppend.hAppend va_W va_W va_W _ (rnV (xa 8) ag dg) ([((xa 5), .inl (X.2.1, 3, .inl fr))])))) sz) s (@HAppend.hAppend va_W va_W va_W _ (xW h0 nw sp xa la lb) (@HAppend.hAppend va_W va_W va_W _ (rcV X nw an sv dv n0 n1 n2 n3 n4 g0 gs gn gm) (@HAppend.hAppend va_W va_W va_W _ ([((xa 5), .inl (X.2.1, 3, .inl fr))]) (rnV (xa 8) a_46a d_47)))) H locs := ⟨upd d_46b 0 (nI k53), G⟩
              refine lv_aload_n zx zb dX10_best_85 rfl (lv_at hl 4 rfl) ?_
              refine r_get (C := RX10) (T := TX10) (N := 14) (ci := 8) (v := .ref (xa 8)) S in_X10_best_X10 G 0 rfl rfl 8 (by decide) lk_X10_best_48 rfl dX10_best_86 ?_
              refine lv_aload_n zx zb dX10_best_89 rfl (lv_at hl 4 rfl) ?_
              refine r_get (C := RX10) (T := TX10) (N := 14) (ci := 8) (v := .ref nw) S in_X10_best_X10 G 0 rfl rfl 0 (by decide) lk_X10_best_10 rfl dX10_best_90 ?_
              refine r_get (C := RX5) (T := TX5) (N := 8) (ci := 3) (v := .int (dv 1)) S in_X10_best_X5 G 1 rfl rfl 1 (by decide) lk_X10_best_110 rfl dX10_best_93 ?_
              refine lv_aload_n zx zb dX10_best_96 rfl (lv_at hl 4 rfl) ?_
              refine r_get (C := RX10) (T := TX10) (N := 14) (ci := 8) (v := .ref nw) S in_X10_best_X10 G 0 rfl rfl 0 (by decide) lk_X10_best_10 rfl dX10_best_97 ?_
              refine r_get (C := RX5) (T := TX5) (N := 8) (ci := 3) (v := .int (dv 0)) S in_X10_best_X5 G 1 rfl rfl 0 (by decide) lk_X10_best_140 rfl dX10_best_100 ?_
              refine lv_iload zx zb dX10_best_103 (lv_at hl 1 rfl) ?_
              refine b_wi (cells' := 0) (slots' := 0) (wr := @HAppend.hAppend va_W va_W va_W _ (xW h0 nw sp xa la lb) (@HAppend.hAppend va_W va_W va_W _ (rcV X nw an sv dv n0 n1 n2 n3 n4 g0 gs gn gm) ([((xa 5), .inl (X.2.1, 3, .inl fr))]))) G rfl rfl [18] [0, 1, 2, 3, 4, 5, 6, 7, 8, 9, 10, 11, 12, 13, 14, 15, 16, 17] rfl rfl rfl rfl (n_V (As := [.int (dv 1), .int (dv 0), .int x53_5]) (rest := []) (C := RX8) (T := TX8) (N := 8) (ci := 6) S G (s_ticksToHome l X (xa 8) a_46a d_47 (dv 1) (dv 0) x53_5 (by first | decide | assumption | exact k_60a (by assumption) | exact hw_3.2) H.size) gX10_best_X8_ticksToHome rfl rfl rfl hdV_X8_ticksToHome ⟨Nat.le_of_ble_eq_true rfl, Nat.le_of_ble_eq_true rfl⟩ [18] rfl rfl 18 rfl rfl rfl hl.1 (Nat.le_of_ble_eq_true rfl) dX10_best_105 ⟨Nat.le_of_ble_eq_true rfl, Nat.le_of_ble_eq_true rfl⟩) (fun r_48 u_48 H locs hp_48 G => ?_)
              obtain ⟨d_48, rfl⟩ : ∃ z, z = u_48 := ⟨_, rfl⟩
              have hq_48 := hp_48
              obtain ⟨hq_48, hs_48⟩ := hq_48
              have G : wd X (va_A (@HAppend.hAppend va_W va_W va_W _ (xW h0 nw sp xa la lb) (@HAppend.hAppend va_W va_W va_W _ (rcV X nw an sv dv n0 n1 n2 n3 n4 g0 gs gn gm) (@HAppend.hAppend va_W va_W va_W _ (rnV (xa 8) ag dg) ([((xa 5), .inl (X.2.1, 3, .inl fr))])))) sz) (va_A (@HAppend.hAppend va_W va_W va_W _ (xW h0 nw sp xa la lb) (@HAppend.hAppend va_W va_W va_W _ (rcV X nw an sv dv n0 n1 n2 n3 n4 g0 gs gn gm) (@HAppend.hAppend va_W va_W va_W _ (rnV (xa 8) ag dg) ([((xa 5), .inl (X.2.1, 3, .inl fr))])))) sz) s (@HAppend.hAppend va_W va_W va_W _ (xW h0 nw sp xa la lb) (@HAppend.hAppend va_W va_W va_W _ (rcV X nw an sv dv n0 n1 n2 n3 n4 g0 gs gn gm) (@HAppend.hAppend va_W va_W va_W _ ([((xa 5), .inl (X.2.1, 3, .inl fr))]) (rnV (xa 8) a_46a d_48)))) H locs := G
              refine lv_istore (lv' := [(7, .int r_48), (6, .int (nI k53)), (5, .int x53_5), (4, .int x53_4), (3, .int x53_3), (0, .ref h0), (1, .int 3), (2, .int x2)]) zx zb dX10_best_108 hl (by decide) rfl (fun ls hl => ?_)
              refine lv_iload zx zb dX10_best_110 (lv_at hl 0 rfl) ?_
              refine lv_iconst (v := (-1)) zx zb dX10_best_112 (by decide) ?_
              refine k_cutW (PP := fun Wx => ∀ (x_50 : Int32) (x_51 : Int32) (x_52 : Int32) (H : Heap) (locs : List Loc) (ls : Array Slot), (x_50 ≤ 60) → wd X (va_A (@HAppend.hAppend va_W va_W va_W _ (xW h0 nw sp xa la lb) (@HAppend.hAppend va_W va_W va_W _ (rcV X nw an sv dv n0 n1 n2 n3 n4 g0 gs gn gm) (@HAppend.hAppend va_W va_W va_W _ (rnV (xa 8) ag dg) ([((xa 5), .inl (X.2.1, 3, .inl fr))])))) sz) (va_A (@HAppend.hAppend va_W va_W va_W _ (xW h0 nw sp xa la lb) (@HAppend.hAppend va_W va_W va_W _ (rcV X nw an sv dv n0 n1 n2 n3 n4 g0 gs gn gm) (@HAppend.hAppend va_W va_W va_W _ (rnV (xa 8) ag dg) ([((xa 5), .inl (X.2.1, 3, .inl fr))])))) sz) s (@HAppend.hAppend va_W va_W va_W _ (xW h0 nw sp xa la lb) (@HAppend.hAppend va_W va_W va_W _ (rcV X nw an sv dv n0 n1 n2 n3 n4 g0 gs gn gm) (@HAppend.hAppend va_W va_W va_W _ ([((xa 5), .inl (X.2.1, 3, .inl fr))]) (rnV (xa 8) a_46a d_48)))) H locs → lv_has ls 8 [(7, .int r_48), (6, .int (nI k53)), (5, .int x_50), (4, .int x_51), (3, .int x_52), (0, .ref h0), (1, .int 3), (2, .int x2)] → Wx (F0 m 129 ls []) H locs) ?_ ?_
              · intro join_113
                refine lv_icmp_eq (tgt := 129) zx zb dX10_best_113 (by decide) (fun c_49 => ?_) (fun c_49 => ?_)
                · exact join_113 x53_5 x53_4 x53_3 _ _ _ (by first | assumption | decide | exact k_m60 (by assumption)) G hl
                · refine lv_iload zx zb dX10_best_116 (lv_at hl 1 rfl) ?_
                  refine lv_istore_n (lv' := [(3, .int (nI k53)), (7, .int r_48), (6, .int (nI k53)), (5, .int x53_5), (4, .int x53_4), (0, .ref h0), (1, .int 3), (2, .int x2)]) zx zb dX10_best_118 rfl hl (by decide) rfl (fun ls hl => ?_)
                  refine lv_iload zx zb dX10_best_119 (lv_at hl 1 rfl) ?_
                  refine lv_istore (lv' := [(4, .int r_48), (3, .int (nI k53)), (7, .int r_48), (6, .int (nI k53)), (5, .int x53_5), (0, .ref h0), (1, .int 3), (2, .int x2)]) zx zb dX10_best_121 hl (by decide) rfl (fun ls hl => ?_)
                  refine lv_iload zx zb dX10_best_123 (lv_at hl 2 rfl) ?_
                  refine lv_iconst (v := 1) zx zb dX10_best_125 (by decide) ?_
                  refine r_isub (v := (r_48 - 1)) S rfl dX10_best_126 ?_
                  refine lv_istore (lv' := [(5, .int (r_48 - 1)), (4, .int r_48), (3, .int (nI k53)), (7, .int r_48), (6, .int (nI k53)), (0, .ref h0), (1, .int 3), (2, .int x2)]) zx zb dX10_best_127 hl (by decide) rfl (fun ls hl => ?_)
                  have hl := lv_sub hl (l' := [(7, .int r_48), (6, .int (nI k53)), (5, .int (r_48 - 1)), (4, .int r_48), (3, .int (nI k53)), (0, .ref h0), (1, .int 3), (2, .int x2)]) [3, 4, 0, 1, 2, 5, 6, 7] rfl
                  exact join_113 (r_48 - 1) r_48 (nI k53) _ _ _ (by first | assumption | decide | exact k_m60 (by assumption)) G hl
              · intro x_50 x_51 x_52 H locs ls hk_x_50 G hl
                refine lv_iinc (v := (nI (k53 + 1))) (lv' := [(6, .int (nI (k53 + 1))), (7, .int r_48), (5, .int x_50), (4, .int x_51), (3, .int x_52), (0, .ref h0), (1, .int 3), (2, .int x2)]) zx zb dX10_best_129 hl (k := 1) rfl (nI_add k53 1) (by decide) rfl (fun ls hl => ?_)
                refine lv_goto (tgt := 53) zx zb dX10_best_132 (by decide) ?_
                have G : wd X (va_A (@HAppend.hAppend va_W va_W va_W _ (xW h0 nw sp xa la lb) (@HAppend.hAppend va_W va_W va_W _ (rcV X nw an sv dv n0 n1 n2 n3 n4 g0 gs gn gm) (@HAppend.hAppend va_W va_W va_W _ (rnV (xa 8) ag dg) ([((xa 5), .inl (X.2.1, 3, .inl fr))])))) sz) (va_A (@HAppend.hAppend va_W va_W va_W _ (xW h0 nw sp xa la lb) (@HAppend.hAppend va_W va_W va_W _ (rcV X nw an sv dv n0 n1 n2 n3 n4 g0 gs gn gm) (@HAppend.hAppend va_W va_W va_W _ (rnV (xa 8) ag dg) ([((xa 5), .inl (X.2.1, 3, .inl fr))])))) sz) s (@HAppend.hAppend va_W va_W va_W _ (xW h0 nw sp xa la lb) (@HAppend.hAppend va_W va_W va_W _ (rcV X nw an sv dv n0 n1 n2 n3 n4 g0 gs gn gm) (@HAppend.hAppend va_W va_W va_W _ (rnV (xa 8) a_46a d_48) ([((xa 5), .inl (X.2.1, 3, .inl fr))])))) H locs := wd_sub G [0, 1, 2, 3, 4, 5, 6, 7, 8, 9, 10, 11, 12, 13, 14, 15, 16, 18, 17] rfl rfl
                have hl := lv_sub hl (l' := [(6, .int (nI (k53 + 1))), (5, .int x_50), (4, .int x_51), (3, .int x_52), (0, .ref h0), (1, .int 3), (2, .int x2)]) [0, 2, 3, 4, 5, 6, 7] rfl
                exact ih53 (k53 + 1) x_50 x_51 x_52 a_46a d_48 _ _ _ (by omega) (by omega) (by first | assumption | decide | exact k_m60 (by assumption)) G hl
        · refine lv_iconst (v := (-1)) zx zb dX10_best_39 (by decide) ?_
          exact e_int S zr zlk (vp_nar_int _) G (ag, dg, fr) [0, 1, 2, 3, 4, 5, 6, 7, 8, 9, 10, 11, 12, 13, 14, 15, 16, 17, 18] rfl rfl (Or.inr rfl) (trivial) dX10_best_40
      · refine k_it (v := 4) rfl ?_
        refine r_aald (C := RX8) (b := (an 5)) S G 2 3 rfl rfl (k_vp (by decide)) rfl dX10_best_32 ?_
        refine o_ri (cells' := 0) (slots' := 0) G rfl rfl (n_V (As := []) (rest := []) (C := RX8) (T := TX8) (N := 8) (ci := 6) S G (s_isHome l X (an 5) (fun k => sv (12 + k)) (fun k => dv (30 + k)) H.size) gX10_best_X8_isHome rfl rfl rfl hdV_X8_isHome ⟨Nat.le_of_ble_eq_true rfl, Nat.le_of_ble_eq_true rfl⟩ [7] rfl rfl 7 rfl rfl rfl hl.1 (Nat.le_of_ble_eq_true rfl) dX10_best_33 ⟨Nat.le_of_ble_eq_true rfl, Nat.le_of_ble_eq_true rfl⟩) (fun r_53 u_53 H locs hp_53 G => ?_)
        have G : wd X (va_A (@HAppend.hAppend va_W va_W va_W _ (xW h0 nw sp xa la lb) (@HAppend.hAppend va_W va_W va_W _ (rcV X nw an sv dv n0 n1 n2 n3 n4 g0 gs gn gm) (@HAppend.hAppend va_W va_W va_W _ (rnV (xa 8) ag dg) ([((xa 5), .inl (X.2.1, 3, .inl fr))])))) sz) (va_A (@HAppend.hAppend va_W va_W va_W _ (xW h0 nw sp xa la lb) (@HAppend.hAppend va_W va_W va_W _ (rcV X nw an sv dv n0 n1 n2 n3 n4 g0 gs gn gm) (@HAppend.hAppend va_W va_W va_W _ (rnV (xa 8) ag dg) ([((xa 5), .inl (X.2.1, 3, .inl fr))])))) sz) s (@HAppend.hAppend va_W va_W va_W _ (xW h0 nw sp xa la lb) (@HAppend.hAppend va_W va_W va_W _ (rcV X nw an sv dv n0 n1 n2 n3 n4 g0 gs gn gm) (@HAppend.hAppend va_W va_W va_W _ (rnV (xa 8) ag dg) ([((xa 5), .inl (X.2.1, 3, .inl fr))])))) H locs := G
        refine lv_if_eq (tgt := 41) zx zb dX10_best_36 (by decide) (fun c_54 => ?_) (fun c_54 => ?_)
        · refine lv_iconst (v := (-1)) zx zb dX10_best_41 (by decide) ?_
          refine lv_istore_n (lv' := [(3, .int (-1)), (0, .ref h0), (1, .int 4), (2, .int x2)]) zx zb dX10_best_42 rfl hl (by decide) rfl (fun ls hl => ?_)
          refine lv_iconst (v := (-1)) zx zb dX10_best_43 (by decide) ?_
          refine lv_istore (lv' := [(4, .int (-1)), (3, .int (-1)), (0, .ref h0), (1, .int 4), (2, .int x2)]) zx zb dX10_best_44 hl (by decide) rfl (fun ls hl => ?_)
          refine lv_bipush (v := 60) zx zb dX10_best_46 (by decide) ?_
          refine lv_istore (lv' := [(5, .int 60), (4, .int (-1)), (3, .int (-1)), (0, .ref h0), (1, .int 4), (2, .int x2)]) zx zb dX10_best_48 hl (by decide) rfl (fun ls hl => ?_)
          refine lv_iconst (v := 0) zx zb dX10_best_50 (by decide) ?_
          refine lv_istore (lv' := [(6, .int 0), (5, .int 60), (4, .int (-1)), (3, .int (-1)), (0, .ref h0), (1, .int 4), (2, .int x2)]) zx zb dX10_best_51 hl (by decide) rfl (fun ls hl => ?_)
          refine k_loop (P := ∀ (zm : Nat) (k53 : Nat) (x53_5 : Int32) (x53_4 : Int32) (x53_3 : Int32) (a53_2 : Nat → Int32) (d53_2 : Nat → Int32) (H : Heap) (locs : List Loc) (ls : Array Slot), 10 + 1 ≤ k53 + zm → (k53 ≤ 10) → (x53_5 ≤ 60) → wd X (va_A (@HAppend.hAppend va_W va_W va_W _ (xW h0 nw sp xa la lb) (@HAppend.hAppend va_W va_W va_W _ (rcV X nw an sv dv n0 n1 n2 n3 n4 g0 gs gn gm) (@HAppend.hAppend va_W va_W va_W _ (rnV (xa 8) ag dg) ([((xa 5), .inl (X.2.1, 3, .inl fr))])))) sz) (va_A (@HAppend.hAppend va_W va_W va_W _ (xW h0 nw sp xa la lb) (@HAppend.hAppend va_W va_W va_W _ (rcV X nw an sv dv n0 n1 n2 n3 n4 g0 gs gn gm) (@HAppend.hAppend va_W va_W va_W _ (rnV (xa 8) ag dg) ([((xa 5), .inl (X.2.1, 3, .inl fr))])))) sz) s (@HAppend.hAppend va_W va_W va_W _ (xW h0 nw sp xa la lb) (@HAppend.hAppend va_W va_W va_W _ (rcV X nw an sv dv n0 n1 n2 n3 n4 g0 gs gn gm) (@HAppend.hAppend va_W va_W va_W _ (rnV (xa 8) a53_2 d53_2) ([((xa 5), .inl (X.2.1, 3, .inl fr))])))) H locs → lv_has ls 8 [(6, .int (nI k53)), (5, .int x53_5), (4, .int x53_4), (3, .int x53_3), (0, .ref h0), (1, .int 4), (2, .int x2)] → W p l e _ s m _ below meth c H locs _ _ _ (F0 m 53 ls [])) (fun loop => loop (10 + 1) 0 60 (-1) (-1) ag dg _ _ _ (by omega) (by omega) (by first | assumption | decide | exact k_m60 (by assumption)) G hl) ?_
          intro zm
          induction zm with
          | zero => intro k53 x53_5 x53_4 x53_3 a53_2 d53_2 H locs ls zz q_hk_k53 q_hk_x53_5 _ _; exact absurd zz (by omega)
          | succ zm ih53 =>
            intro k53 x53_5 x53_4 x53_3 a53_2 d53_2 H locs ls zm_53 hk_k53 hk_x53_5 G hl
            refine lv_iload zx zb dX10_best_53 (lv_at hl 0 rfl) ?_
            refine lv_bipush (v := 9) zx zb dX10_best_55 (by decide) ?_
            refine lv_icmp_gt (tgt := 135) zx zb dX10_best_57 (by decide) (fun c_55 => ?_) (fun c_55 => ?_)
            · have fc_55 := j_lt (a := 9) (b := k53) (by omega) (by omega) c_55
              refine lv_iload_n zx zb dX10_best_135 rfl (lv_at hl 6 rfl) ?_
              refine k_cutW (PP := fun Wx => ∀ (x_57 : Int32) (H : Heap) (locs : List Loc) (ls : Array Slot), wd X (va_A (@HAppend.hAppend va_W va_W va_W _ (xW h0 nw sp xa la lb) (@HAppend.hAppend va_W va_W va_W _ (rcV X nw an sv dv n0 n1 n2 n3 n4 g0 gs gn gm) (@HAppend.hAppend va_W va_W va_W _ (rnV (xa 8) ag dg) ([((xa 5), .inl (X.2.1, 3, .inl fr))])))) sz) (va_A (@HAppend.hAppend va_W va_W va_W _ (xW h0 nw sp xa la lb) (@HAppend.hAppend va_W va_W va_W _ (rcV X nw an sv dv n0 n1 n2 n3 n4 g0 gs gn gm) (@HAppend.hAppend va_W va_W va_W _ (rnV (xa 8) ag dg) ([((xa 5), .inl (X.2.1, 3, .inl fr))])))) sz) s (@HAppend.hAppend va_W va_W va_W _ (xW h0 nw sp xa la lb) (@HAppend.hAppend va_W va_W va_W _ (rcV X nw an sv dv n0 n1 n2 n3 n4 g0 gs gn gm) (@HAppend.hAppend va_W va_W va_W _ (rnV (xa 8) a53_2 d53_2) ([((xa 5), .inl (X.2.1, 3, .inl fr))])))) H locs → lv_has ls 8 [(6, .int (nI k53)), (5, .int x53_5), (4, .int x53_4), (3, .int x53_3), (0, .ref h0), (1, .int 4), (2, .int x2)] → Wx (F0 m 145 ls [.int x_57]) H locs) ?_ ?_
              · intro join_136
                refine lv_if_ne (tgt := 143) zx zb dX10_best_136 (by decide) (fun c_56 => ?_) (fun c_56 => ?_)
                · refine lv_iload zx zb dX10_best_143 (lv_at hl 2 rfl) ?_
                  exact join_136 x53_4 _ _ _  G hl
                · refine lv_iload_n zx zb dX10_best_139 rfl (lv_at hl 3 rfl) ?_
                  refine lv_goto (tgt := 145) zx zb dX10_best_140 (by decide) ?_
                  exact join_136 x53_3 _ _ _  G hl
              · intro x_57 H locs ls  G hl
                exact e_int S zr zlk (vp_nar_int _) G (a53_2, d53_2, fr) [0, 1, 2, 3, 4, 5, 6, 7, 8, 9, 10, 11, 12, 13, 14, 15, 16, 17, 18] rfl rfl (Or.inr rfl) (trivial) dX10_best_145
            · have fc_55 := j_nlt (a := 9) (b := k53) (by omega) (by omega) c_55
              refine lv_aload_n zx zb dX10_best_60 rfl (lv_at hl 4 rfl) ?_
              refine r_get (C := RX10) (T := TX10) (N := 14) (ci := 8) (v := .ref (xa 8)) S in_X10_best_X10 G 0 rfl rfl 8 (by decide) lk_X10_best_48 rfl dX10_best_61 ?_
              refine lv_aload_n zx zb dX10_best_64 rfl (lv_at hl 4 rfl) ?_
              refine r_get (C := RX10) (T := TX10) (N := 14) (ci := 8) (v := .ref nw) S in_X10_best_X10 G 0 rfl rfl 0 (by decide) lk_X10_best_10 rfl dX10_best_65 ?_
              refine r_get (C := RX5) (T := TX5) (N := 8) (ci := 3) (v := .ref (an 0)) S in_X10_best_X5 G 1 rfl rfl 3 (by decide) lk_X10_best_126 rfl dX10_best_68 ?_
              refine lv_iload_n zx zb dX10_best_71 rfl (lv_at hl 5 rfl) ?_
              refine r_aald (C := RX8) (b := (an 5)) S G 2 3 rfl rfl (k_vp (by decide)) rfl dX10_best_72 ?_
              refine b_wv (cells' := 0) (slots' := 0) (wr := @HAppend.hAppend va_W va_W va_W _ (xW h0 nw sp xa la lb) (@HAppend.hAppend va_W va_W va_W _ ([(nw, .inr (3, [.int (dv 0), .int (dv 1), .int (nI n0), .ref (an 0), .ref (an 7), .ref (an 9), .ref (an 11), .ref (an 13)])), ((an 0), .inl (X.2.2.2.2, 6, .inr (.inr (.inr (.inr (rowQ an)))))), ((an 1), .inr (6, [.int (sv 0), .int (sv 1), .int (sv 2), .int (dv 10), .int (dv 11), .int (dv 12), .int (dv 13), .int (dv 14)])), ((an 2), .inr (6, [.int (sv 3), .int (sv 4), .int (sv 5), .int (dv 15), .int (dv 16), .int (dv 17), .int (dv 18), .int (dv 19)])), ((an 3), .inr (6, [.int (sv 6), .int (sv 7), .int (sv 8), .int (dv 20), .int (dv 21), .int (dv 22), .int (dv 23), .int (dv 24)])), ((an 4), .inr (6, [.int (sv 9), .int (sv 10), .int (sv 11), .int (dv 25), .int (dv 26), .int (dv 27), .int (dv 28), .int (dv 29)])), ((an 6), .inr (6, [.int (sv 15), .int (sv 16), .int (sv 17), .int (dv 35), .int (dv 36), .int (dv 37), .int (dv 38), .int (dv 39)])), ((an 7), .inr (2, [.ref (an 8), .int (nI n1)])), ((an 8), .inl (X.2.1, 248, .inl g0)), ((an 9), .inr (5, [.int 5, .int 0, .int 1, .ref (an 10), .int (nI n2)])), ((an 10), .inl (X.2.1, 25, .inl gs)), ((an 11), .inr (5, [.int 6, .int 1, .int 1, .ref (an 12), .int (nI n3)])), ((an 12), .inl (X.2.1, 30, .inl gn)), ((an 13), .inr (5, [.int 6, .int 0, .int 0, .ref (an 14), .int (nI n4)])), ((an 14), .inl (X.2.1, 30, .inl gm))]) ([((xa 5), .inl (X.2.1, 3, .inl fr))]))) G rfl rfl [17, 7] [0, 1, 2, 3, 4, 5, 6, 8, 9, 10, 11, 12, 13, 14, 15, 16, 18] rfl rfl rfl rfl (n_V (As := [.ref (an 5)]) (rest := []) (C := RX8) (T := TX8) (N := 8) (ci := 6) S G (s_rcopy l X (xa 8) a53_2 d53_2 (an 5) (fun k => sv (12 + k)) (fun k => dv (30 + k)) H.size) gX10_best_X8_copyFrom rfl rfl rfl hdV_X8_copyFrom ⟨Nat.le_of_ble_eq_true rfl, Nat.le_of_ble_eq_true rfl⟩ [17, 7] rfl rfl 17 rfl rfl rfl hl.1 (Nat.le_of_ble_eq_true rfl) dX10_best_73 ⟨Nat.le_of_ble_eq_true rfl, Nat.le_of_ble_eq_true rfl⟩) (fun u_58 H locs hp_58 G => ?_)
              obtain ⟨a_58a, d_58b⟩ := u_58
              have hq_58 := hp_58
              have G : wd X (va_A (@HAppend.hAppend va_W va_W va_W _ (xW h0 nw sp xa la lb) (@HAppend.hAppend va_W va_W va_W _ (rcV X nw an sv dv n0 n1 n2 n3 n4 g0 gs gn gm) (@HAppend.hAppend va_W va_W va_W _ (rnV (xa 8) ag dg) ([((xa 5), .inl (X.2.1, 3, .inl fr))])))) sz) (va_A (@HAppend.hAppend va_W va_W va_W _ (xW h0 nw sp xa la lb) (@HAppend.hAppend va_W va_W va_W _ (rcV X nw an sv dv n0 n1 n2 n3 n4 g0 gs gn gm) (@HAppend.hAppend va_W va_W va_W _ (rnV (xa 8) ag dg) ([((xa 5), .inl (X.2.1, 3, .inl fr))])))) sz) s (@HAppend.hAppend va_W va_W va_W _ (xW h0 nw sp xa la lb) (@HAppend.hAppend va_W va_W va_W _ (rcV X nw an sv dv n0 n1 n2 n3 n4 g0 gs gn gm) (@HAppend.hAppend va_W va_W va_W _ ([((xa 5), .inl (X.2.1, 3, .inl fr))]) (rnV (xa 8) a_58a d_58b)))) H locs := wd_sub G [0, 1, 2, 3, 4, 5, 6, 18, 7, 8, 9, 10, 11, 12, 13, 14, 15, 16, 17] rfl rfl
              refine lv_aload_n zx zb dX10_best_76 rfl (lv_at hl 4 rfl) ?_
              refine r_get (C := RX10) (T := TX10) (N := 14) (ci := 8) (v := .ref (xa 8)) S in_X10_best_X10 G 0 rfl rfl 8 (by decide) lk_X10_best_48 rfl dX10_best_77 ?_
              refine lv_iload zx zb dX10_best_80 (lv_at hl 0 rfl) ?_
              refine r_put (C := RX8) (T := TX8) (N := 8) (ci := 6) (v := .int (nI k53)) S in_X10_best_X8 tyX8_ok nmX8 G 18 rfl rfl 3 (by decide) lk_X10_best_130 rfl (vp_nar_int _) rfl (Nat.le_of_ble_eq_true rfl) dX10_best_82 (fun H locs G => ?_)
              obtain ⟨d_59, G⟩ : ∃ d_59 : Nat → Int32, wd X (va_A (@HAppend.hAppend va_W va_W va_W _ (xW h0 nw sp xa la lb) (@HAppend.hAppend va_W va_W va_W _ (rcV X nw an sv dv n0 n1 n2 n3 n4 g0 gs gn gm) (@HAppend.hAppend va_W va_W va_W _ (rnV (xa 8) ag dg) ([((xa 5), .inl (X.2.1, 3, .inl fr))])))) sz) (va_A (@HAppend.hAppend va_W va_W va_W _ (xW h0 nw sp xa la lb) (@HAppend.hAppend va_W va_W va_W _ (rcV X nw an sv dv n0 n1 n2 n3 n4 g0 gs gn gm) (@HAppend.hAppend va_W va_W va_W _ (rnV (xa 8) ag dg) ([((xa 5), .inl (X.2.1, 3, .inl fr))])))) sz) s (@HAppend.hAppend va_W va_W va_W _ (xW h0 nw sp xa la lb) (@HAppend.hAppend va_W va_W va_W _ (rcV X nw an sv dv n0 n1 n2 n3 n4 g0 gs gn gm) (@HAppend.hAppend va_W va_W va_W _ ([((xa 5), .inl (X.2.1, 3, .inl fr))]) (rnV (xa 8) a_58a d_59)))) H locs := ⟨upd d_58b 0 (nI k53), G⟩
              refine lv_aload_n zx zb dX10_best_85 rfl (lv_at hl 4 rfl) ?_
              refine r_get (C := RX10) (T := TX10) (N := 14) (ci := 8) (v := .ref (xa 8)) S in_X10_best_X10 G 0 rfl rfl 8 (by decide) lk_X10_best_48 rfl dX10_best_86 ?_
              refine lv_aload_n zx zb dX10_best_89 rfl (lv_at hl 4 rfl) ?_
              refine r_get (C := RX10) (T := TX10) (N := 14) (ci := 8) (v := .ref nw) S in_X10_best_X10 G 0 rfl rfl 0 (by decide) lk_X10_best_10 rfl dX10_best_90 ?_
              refine r_get (C := RX5) (T := TX5) (N := 8) (ci := 3) (v := .int (dv 1)) S in_X10_best_X5 G 1 rfl rfl 1 (by decide) lk_X10_best_110 rfl dX10_best_93 ?_
              refine lv_aload_n zx zb dX10_best_96 rfl (lv_at hl 4 rfl) ?_
              refine r_get (C := RX10) (T := TX10) (N := 14) (ci := 8) (v := .ref nw) S in_X10_best_X10 G 0 rfl rfl 0 (by decide) lk_X10_best_10 rfl dX10_best_97 ?_
              refine r_get (C := RX5) (T := TX5) (N := 8) (ci := 3) (v := .int (dv 0)) S in_X10_best_X5 G 1 rfl rfl 0 (by decide) lk_X10_best_140 rfl dX10_best_100 ?_
              refine lv_iload zx zb dX10_best_103 (lv_at hl 1 rfl) ?_
              refine b_wi (cells' := 0) (slots' := 0) (wr := @HAppend.hAppend va_W va_W va_W _ (xW h0 nw sp xa la lb) (@HAppend.hAppend va_W va_W va_W _ (rcV X nw an sv dv n0 n1 n2 n3 n4 g0 gs gn gm) ([((xa 5), .inl (X.2.1, 3, .inl fr))]))) G rfl rfl [18] [0, 1, 2, 3, 4, 5, 6, 7, 8, 9, 10, 11, 12, 13, 14, 15, 16, 17] rfl rfl rfl rfl (n_V (As := [.int (dv 1), .int (dv 0), .int x53_5]) (rest := []) (C := RX8) (T := TX8) (N := 8) (ci := 6) S G (s_ticksToHome l X (xa 8) a_58a d_59 (dv 1) (dv 0) x53_5 (by first | decide | assumption | exact k_60a (by assumption) | exact hw_3.2) H.size) gX10_best_X8_ticksToHome rfl rfl rfl hdV_X8_ticksToHome ⟨Nat.le_of_ble_eq_true rfl, Nat.le_of_ble_eq_true rfl⟩ [18] rfl rfl 18 rfl rfl rfl hl.1 (Nat.le_of_ble_eq_true rfl) dX10_best_105 ⟨Nat.le_of_ble_eq_true rfl, Nat.le_of_ble_eq_true rfl⟩) (fun r_60 u_60 H locs hp_60 G => ?_)
              obtain ⟨d_60, rfl⟩ : ∃ z, z = u_60 := ⟨_, rfl⟩
              have hq_60 := hp_60
              obtain ⟨hq_60, hs_60⟩ := hq_60
              have G : wd X (va_A (@HAppend.hAppend va_W va_W va_W _ (xW h0 nw sp xa la lb) (@HAppend.hAppend va_W va_W va_W _ (rcV X nw an sv dv n0 n1 n2 n3 n4 g0 gs gn gm) (@HAppend.hAppend va_W va_W va_W _ (rnV (xa 8) ag dg) ([((xa 5), .inl (X.2.1, 3, .inl fr))])))) sz) (va_A (@HAppend.hAppend va_W va_W va_W _ (xW h0 nw sp xa la lb) (@HAppend.hAppend va_W va_W va_W _ (rcV X nw an sv dv n0 n1 n2 n3 n4 g0 gs gn gm) (@HAppend.hAppend va_W va_W va_W _ (rnV (xa 8) ag dg) ([((xa 5), .inl (X.2.1, 3, .inl fr))])))) sz) s (@HAppend.hAppend va_W va_W va_W _ (xW h0 nw sp xa la lb) (@HAppend.hAppend va_W va_W va_W _ (rcV X nw an sv dv n0 n1 n2 n3 n4 g0 gs gn gm) (@HAppend.hAppend va_W va_W va_W _ ([((xa 5), .inl (X.2.1, 3, .inl fr))]) (rnV (xa 8) a_58a d_60)))) H locs := G
              refine lv_istore (lv' := [(7, .int r_60), (6, .int (nI k53)), (5, .int x53_5), (4, .int x53_4), (3, .int x53_3), (0, .ref h0), (1, .int 4), (2, .int x2)]) zx zb dX10_best_108 hl (by decide) rfl (fun ls hl => ?_)
              refine lv_iload zx zb dX10_best_110 (lv_at hl 0 rfl) ?_
              refine lv_iconst (v := (-1)) zx zb dX10_best_112 (by decide) ?_
              refine k_cutW (PP := fun Wx => ∀ (x_62 : Int32) (x_63 : Int32) (x_64 : Int32) (H : Heap) (locs : List Loc) (ls : Array Slot), (x_62 ≤ 60) → wd X (va_A (@HAppend.hAppend va_W va_W va_W _ (xW h0 nw sp xa la lb) (@HAppend.hAppend va_W va_W va_W _ (rcV X nw an sv dv n0 n1 n2 n3 n4 g0 gs gn gm) (@HAppend.hAppend va_W va_W va_W _ (rnV (xa 8) ag dg) ([((xa 5), .inl (X.2.1, 3, .inl fr))])))) sz) (va_A (@HAppend.hAppend va_W va_W va_W _ (xW h0 nw sp xa la lb) (@HAppend.hAppend va_W va_W va_W _ (rcV X nw an sv dv n0 n1 n2 n3 n4 g0 gs gn gm) (@HAppend.hAppend va_W va_W va_W _ (rnV (xa 8) ag dg) ([((xa 5), .inl (X.2.1, 3, .inl fr))])))) sz) s (@HAppend.hAppend va_W va_W va_W _ (xW h0 nw sp xa la lb) (@HAppend.hAppend va_W va_W va_W _ (rcV X nw an sv dv n0 n1 n2 n3 n4 g0 gs gn gm) (@HAppend.hAppend va_W va_W va_W _ ([((xa 5), .inl (X.2.1, 3, .inl fr))]) (rnV (xa 8) a_58a d_60)))) H locs → lv_has ls 8 [(7, .int r_60), (6, .int (nI k53)), (5, .int x_62), (4, .int x_63), (3, .int x_64), (0, .ref h0), (1, .int 4), (2, .int x2)] → Wx (F0 m 129 ls []) H locs) ?_ ?_
              · intro join_113
                refine lv_icmp_eq (tgt := 129) zx zb dX10_best_113 (by decide) (fun c_61 => ?_) (fun c_61 => ?_)
                · exact join_113 x53_5 x53_4 x53_3 _ _ _ (by first | assumption | decide | exact k_m60 (by assumption)) G hl
                · refine lv_iload zx zb dX10_best_116 (lv_at hl 1 rfl) ?_
                  refine lv_istore_n (lv' := [(3, .int (nI k53)), (7, .int r_60), (6, .int (nI k53)), (5, .int x53_5), (4, .int x53_4), (0, .ref h0), (1, .int 4), (2, .int x2)]) zx zb dX10_best_118 rfl hl (by decide) rfl (fun ls hl => ?_)
                  refine lv_iload zx zb dX10_best_119 (lv_at hl 1 rfl) ?_
                  refine lv_istore (lv' := [(4, .int r_60), (3, .int (nI k53)), (7, .int r_60), (6, .int (nI k53)), (5, .int x53_5), (0, .ref h0), (1, .int 4), (2, .int x2)]) zx zb dX10_best_121 hl (by decide) rfl (fun ls hl => ?_)
                  refine lv_iload zx zb dX10_best_123 (lv_at hl 2 rfl) ?_
                  refine lv_iconst (v := 1) zx zb dX10_best_125 (by decide) ?_
                  refine r_isub (v := (r_60 - 1)) S rfl dX10_best_126 ?_
                  refine lv_istore (lv' := [(5, .int (r_60 - 1)), (4, .int r_60), (3, .int (nI k53)), (7, .int r_60), (6, .int (nI k53)), (0, .ref h0), (1, .int 4), (2, .int x2)]) zx zb dX10_best_127 hl (by decide) rfl (fun ls hl => ?_)
                  have hl := lv_sub hl (l' := [(7, .int r_60), (6, .int (nI k53)), (5, .int (r_60 - 1)), (4, .int r_60), (3, .int (nI k53)), (0, .ref h0), (1, .int 4), (2, .int x2)]) [3, 4, 0, 1, 2, 5, 6, 7] rfl
                  exact join_113 (r_60 - 1) r_60 (nI k53) _ _ _ (by first | assumption | decide | exact k_m60 (by assumption)) G hl
              · intro x_62 x_63 x_64 H locs ls hk_x_62 G hl
                refine lv_iinc (v := (nI (k53 + 1))) (lv' := [(6, .int (nI (k53 + 1))), (7, .int r_60), (5, .int x_62), (4, .int x_63), (3, .int x_64), (0, .ref h0), (1, .int 4), (2, .int x2)]) zx zb dX10_best_129 hl (k := 1) rfl (nI_add k53 1) (by decide) rfl (fun ls hl => ?_)
                refine lv_goto (tgt := 53) zx zb dX10_best_132 (by decide) ?_
                have G : wd X (va_A (@HAppend.hAppend va_W va_W va_W _ (xW h0 nw sp xa la lb) (@HAppend.hAppend va_W va_W va_W _ (rcV X nw an sv dv n0 n1 n2 n3 n4 g0 gs gn gm) (@HAppend.hAppend va_W va_W va_W _ (rnV (xa 8) ag dg) ([((xa 5), .inl (X.2.1, 3, .inl fr))])))) sz) (va_A (@HAppend.hAppend va_W va_W va_W _ (xW h0 nw sp xa la lb) (@HAppend.hAppend va_W va_W va_W _ (rcV X nw an sv dv n0 n1 n2 n3 n4 g0 gs gn gm) (@HAppend.hAppend va_W va_W va_W _ (rnV (xa 8) ag dg) ([((xa 5), .inl (X.2.1, 3, .inl fr))])))) sz) s (@HAppend.hAppend va_W va_W va_W _ (xW h0 nw sp xa la lb) (@HAppend.hAppend va_W va_W va_W _ (rcV X nw an sv dv n0 n1 n2 n3 n4 g0 gs gn gm) (@HAppend.hAppend va_W va_W va_W _ (rnV (xa 8) a_58a d_60) ([((xa 5), .inl (X.2.1, 3, .inl fr))])))) H locs := wd_sub G [0, 1, 2, 3, 4, 5, 6, 7, 8, 9, 10, 11, 12, 13, 14, 15, 16, 18, 17] rfl rfl
                have hl := lv_sub hl (l' := [(6, .int (nI (k53 + 1))), (5, .int x_62), (4, .int x_63), (3, .int x_64), (0, .ref h0), (1, .int 4), (2, .int x2)]) [0, 2, 3, 4, 5, 6, 7] rfl
                exact ih53 (k53 + 1) x_62 x_63 x_64 a_58a d_60 _ _ _ (by omega) (by omega) (by first | assumption | decide | exact k_m60 (by assumption)) G hl
        · refine lv_iconst (v := (-1)) zx zb dX10_best_39 (by decide) ?_
          exact e_int S zr zlk (vp_nar_int _) G (ag, dg, fr) [0, 1, 2, 3, 4, 5, 6, 7, 8, 9, 10, 11, 12, 13, 14, 15, 16, 17, 18] rfl rfl (Or.inr rfl) (trivial) dX10_best_40
      · refine k_it (v := 5) rfl ?_
        refine r_aald (C := RX8) (b := (an 6)) S G 2 3 rfl rfl (k_vp (by decide)) rfl dX10_best_32 ?_
        refine o_ri (cells' := 0) (slots' := 0) G rfl rfl (n_V (As := []) (rest := []) (C := RX8) (T := TX8) (N := 8) (ci := 6) S G (s_isHome l X (an 6) (fun k => sv (15 + k)) (fun k => dv (35 + k)) H.size) gX10_best_X8_isHome rfl rfl rfl hdV_X8_isHome ⟨Nat.le_of_ble_eq_true rfl, Nat.le_of_ble_eq_true rfl⟩ [8] rfl rfl 8 rfl rfl rfl hl.1 (Nat.le_of_ble_eq_true rfl) dX10_best_33 ⟨Nat.le_of_ble_eq_true rfl, Nat.le_of_ble_eq_true rfl⟩) (fun r_65 u_65 H locs hp_65 G => ?_)
        have G : wd X (va_A (@HAppend.hAppend va_W va_W va_W _ (xW h0 nw sp xa la lb) (@HAppend.hAppend va_W va_W va_W _ (rcV X nw an sv dv n0 n1 n2 n3 n4 g0 gs gn gm) (@HAppend.hAppend va_W va_W va_W _ (rnV (xa 8) ag dg) ([((xa 5), .inl (X.2.1, 3, .inl fr))])))) sz) (va_A (@HAppend.hAppend va_W va_W va_W _ (xW h0 nw sp xa la lb) (@HAppend.hAppend va_W va_W va_W _ (rcV X nw an sv dv n0 n1 n2 n3 n4 g0 gs gn gm) (@HAppend.hAppend va_W va_W va_W _ (rnV (xa 8) ag dg) ([((xa 5), .inl (X.2.1, 3, .inl fr))])))) sz) s (@HAppend.hAppend va_W va_W va_W _ (xW h0 nw sp xa la lb) (@HAppend.hAppend va_W va_W va_W _ (rcV X nw an sv dv n0 n1 n2 n3 n4 g0 gs gn gm) (@HAppend.hAppend va_W va_W va_W _ (rnV (xa 8) ag dg) ([((xa 5), .inl (X.2.1, 3, .inl fr))])))) H locs := G
        refine lv_if_eq (tgt := 41) zx zb dX10_best_36 (by decide) (fun c_66 => ?_) (fun c_66 => ?_)
        · refine lv_iconst (v := (-1)) zx zb dX10_best_41 (by decide) ?_
          refine lv_istore_n (lv' := [(3, .int (-1)), (0, .ref h0), (1, .int 5), (2, .int x2)]) zx zb dX10_best_42 rfl hl (by decide) rfl (fun ls hl => ?_)
          refine lv_iconst (v := (-1)) zx zb dX10_best_43 (by decide) ?_
          refine lv_istore (lv' := [(4, .int (-1)), (3, .int (-1)), (0, .ref h0), (1, .int 5), (2, .int x2)]) zx zb dX10_best_44 hl (by decide) rfl (fun ls hl => ?_)
          refine lv_bipush (v := 60) zx zb dX10_best_46 (by decide) ?_
          refine lv_istore (lv' := [(5, .int 60), (4, .int (-1)), (3, .int (-1)), (0, .ref h0), (1, .int 5), (2, .int x2)]) zx zb dX10_best_48 hl (by decide) rfl (fun ls hl => ?_)
          refine lv_iconst (v := 0) zx zb dX10_best_50 (by decide) ?_
          refine lv_istore (lv' := [(6, .int 0), (5, .int 60), (4, .int (-1)), (3, .int (-1)), (0, .ref h0), (1, .int 5), (2, .int x2)]) zx zb dX10_best_51 hl (by decide) rfl (fun ls hl => ?_)
          refine k_loop (P := ∀ (zm : Nat) (k53 : Nat) (x53_5 : Int32) (x53_4 : Int32) (x53_3 : Int32) (a53_2 : Nat → Int32) (d53_2 : Nat → Int32) (H : Heap) (locs : List Loc) (ls : Array Slot), 10 + 1 ≤ k53 + zm → (k53 ≤ 10) → (x53_5 ≤ 60) → wd X (va_A (@HAppend.hAppend va_W va_W va_W _ (xW h0 nw sp xa la lb) (@HAppend.hAppend va_W va_W va_W _ (rcV X nw an sv dv n0 n1 n2 n3 n4 g0 gs gn gm) (@HAppend.hAppend va_W va_W va_W _ (rnV (xa 8) ag dg) ([((xa 5), .inl (X.2.1, 3, .inl fr))])))) sz) (va_A (@HAppend.hAppend va_W va_W va_W _ (xW h0 nw sp xa la lb) (@HAppend.hAppend va_W va_W va_W _ (rcV X nw an sv dv n0 n1 n2 n3 n4 g0 gs gn gm) (@HAppend.hAppend va_W va_W va_W _ (rnV (xa 8) ag dg) ([((xa 5), .inl (X.2.1, 3, .inl fr))])))) sz) s (@HAppend.hAppend va_W va_W va_W _ (xW h0 nw sp xa la lb) (@HAppend.hAppend va_W va_W va_W _ (rcV X nw an sv dv n0 n1 n2 n3 n4 g0 gs gn gm) (@HAppend.hAppend va_W va_W va_W _ (rnV (xa 8) a53_2 d53_2) ([((xa 5), .inl (X.2.1, 3, .inl fr))])))) H locs → lv_has ls 8 [(6, .int (nI k53)), (5, .int x53_5), (4, .int x53_4), (3, .int x53_3), (0, .ref h0), (1, .int 5), (2, .int x2)] → W p l e _ s m _ below meth c H locs _ _ _ (F0 m 53 ls [])) (fun loop => loop (10 + 1) 0 60 (-1) (-1) ag dg _ _ _ (by omega) (by omega) (by first | assumption | decide | exact k_m60 (by assumption)) G hl) ?_
          intro zm
          induction zm with
          | zero => intro k53 x53_5 x53_4 x53_3 a53_2 d53_2 H locs ls zz q_hk_k53 q_hk_x53_5 _ _; exact absurd zz (by omega)
          | succ zm ih53 =>
            intro k53 x53_5 x53_4 x53_3 a53_2 d53_2 H locs ls zm_53 hk_k53 hk_x53_5 G hl
            refine lv_iload zx zb dX10_best_53 (lv_at hl 0 rfl) ?_
            refine lv_bipush (v := 9) zx zb dX10_best_55 (by decide) ?_
            refine lv_icmp_gt (tgt := 135) zx zb dX10_best_57 (by decide) (fun c_67 => ?_) (fun c_67 => ?_)
            · have fc_67 := j_lt (a := 9) (b := k53) (by omega) (by omega) c_67
              refine lv_iload_n zx zb dX10_best_135 rfl (lv_at hl 6 rfl) ?_
              refine k_cutW (PP := fun Wx => ∀ (x_69 : Int32) (H : Heap) (locs : List Loc) (ls : Array Slot), wd X (va_A (@HAppend.hAppend va_W va_W va_W _ (xW h0 nw sp xa la lb) (@HAppend.hAppend va_W va_W va_W _ (rcV X nw an sv dv n0 n1 n2 n3 n4 g0 gs gn gm) (@HAppend.hAppend va_W va_W va_W _ (rnV (xa 8) ag dg) ([((xa 5), .inl (X.2.1, 3, .inl fr))])))) sz) (va_A (@HAppend.hAppend va_W va_W va_W _ (xW h0 nw sp xa la lb) (@HAppend.hAppend va_W va_W va_W _ (rcV X nw an sv dv n0 n1 n2 n3 n4 g0 gs gn gm) (@HAppend.hAppend va_W va_W va_W _ (rnV (xa 8) ag dg) ([((xa 5), .inl (X.2.1, 3, .inl fr))])))) sz) s (@HAppend.hAppend va_W va_W va_W _ (xW h0 nw sp xa la lb) (@HAppend.hAppend va_W va_W va_W _ (rcV X nw an sv dv n0 n1 n2 n3 n4 g0 gs gn gm) (@HAppend.hAppend va_W va_W va_W _ (rnV (xa 8) a53_2 d53_2) ([((xa 5), .inl (X.2.1, 3, .inl fr))])))) H locs → lv_has ls 8 [(6, .int (nI k53)), (5, .int x53_5), (4, .int x53_4), (3, .int x53_3), (0, .ref h0), (1, .int 5), (2, .int x2)] → Wx (F0 m 145 ls [.int x_69]) H locs) ?_ ?_
              · intro join_136
                refine lv_if_ne (tgt := 143) zx zb dX10_best_136 (by decide) (fun c_68 => ?_) (fun c_68 => ?_)
                · refine lv_iload zx zb dX10_best_143 (lv_at hl 2 rfl) ?_
                  exact join_136 x53_4 _ _ _  G hl
                · refine lv_iload_n zx zb dX10_best_139 rfl (lv_at hl 3 rfl) ?_
                  refine lv_goto (tgt := 145) zx zb dX10_best_140 (by decide) ?_
                  exact join_136 x53_3 _ _ _  G hl
              · intro x_69 H locs ls  G hl
                exact e_int S zr zlk (vp_nar_int _) G (a53_2, d53_2, fr) [0, 1, 2, 3, 4, 5, 6, 7, 8, 9, 10, 11, 12, 13, 14, 15, 16, 17, 18] rfl rfl (Or.inr rfl) (trivial) dX10_best_145
            · have fc_67 := j_nlt (a := 9) (b := k53) (by omega) (by omega) c_67
              refine lv_aload_n zx zb dX10_best_60 rfl (lv_at hl 4 rfl) ?_
              refine r_get (C := RX10) (T := TX10) (N := 14) (ci := 8) (v := .ref (xa 8)) S in_X10_best_X10 G 0 rfl rfl 8 (by decide) lk_X10_best_48 rfl dX10_best_61 ?_
              refine lv_aload_n zx zb dX10_best_64 rfl (lv_at hl 4 rfl) ?_
              refine r_get (C := RX10) (T := TX10) (N := 14) (ci := 8) (v := .ref nw) S in_X10_best_X10 G 0 rfl rfl 0 (by decide) lk_X10_best_10 rfl dX10_best_65 ?_
              refine r_get (C := RX5) (T := TX5) (N := 8) (ci := 3) (v := .ref (an 0)) S in_X10_best_X5 G 1 rfl rfl 3 (by decide) lk_X10_best_126 rfl dX10_best_68 ?_
              refine lv_iload_n zx zb dX10_best_71 rfl (lv_at hl 5 rfl) ?_
              refine r_aald (C := RX8) (b := (an 6)) S G 2 3 rfl rfl (k_vp (by decide)) rfl dX10_best_72 ?_
              refine b_wv (cells' := 0) (slots' := 0) (wr := @HAppend.hAppend va_W va_W va_W _ (xW h0 nw sp xa la lb) (@HAppend.hAppend va_W va_W va_W _ ([(nw, .inr (3, [.int (dv 0), .int (dv 1), .int (nI n0), .ref (an 0), .ref (an 7), .ref (an 9), .ref (an 11), .ref (an 13)])), ((an 0), .inl (X.2.2.2.2, 6, .inr (.inr (.inr (.inr (rowQ an)))))), ((an 1), .inr (6, [.int (sv 0), .int (sv 1), .int (sv 2), .int (dv 10), .int (dv 11), .int (dv 12), .int (dv 13), .int (dv 14)])), ((an 2), .inr (6, [.int (sv 3), .int (sv 4), .int (sv 5), .int (dv 15), .int (dv 16), .int (dv 17), .int (dv 18), .int (dv 19)])), ((an 3), .inr (6, [.int (sv 6), .int (sv 7), .int (sv 8), .int (dv 20), .int (dv 21), .int (dv 22), .int (dv 23), .int (dv 24)])), ((an 4), .inr (6, [.int (sv 9), .int (sv 10), .int (sv 11), .int (dv 25), .int (dv 26), .int (dv 27), .int (dv 28), .int (dv 29)])), ((an 5), .inr (6, [.int (sv 12), .int (sv 13), .int (sv 14), .int (dv 30), .int (dv 31), .int (dv 32), .int (dv 33), .int (dv 34)])), ((an 7), .inr (2, [.ref (an 8), .int (nI n1)])), ((an 8), .inl (X.2.1, 248, .inl g0)), ((an 9), .inr (5, [.int 5, .int 0, .int 1, .ref (an 10), .int (nI n2)])), ((an 10), .inl (X.2.1, 25, .inl gs)), ((an 11), .inr (5, [.int 6, .int 1, .int 1, .ref (an 12), .int (nI n3)])), ((an 12), .inl (X.2.1, 30, .inl gn)), ((an 13), .inr (5, [.int 6, .int 0, .int 0, .ref (an 14), .int (nI n4)])), ((an 14), .inl (X.2.1, 30, .inl gm))]) ([((xa 5), .inl (X.2.1, 3, .inl fr))]))) G rfl rfl [17, 8] [0, 1, 2, 3, 4, 5, 6, 7, 9, 10, 11, 12, 13, 14, 15, 16, 18] rfl rfl rfl rfl (n_V (As := [.ref (an 6)]) (rest := []) (C := RX8) (T := TX8) (N := 8) (ci := 6) S G (s_rcopy l X (xa 8) a53_2 d53_2 (an 6) (fun k => sv (15 + k)) (fun k => dv (35 + k)) H.size) gX10_best_X8_copyFrom rfl rfl rfl hdV_X8_copyFrom ⟨Nat.le_of_ble_eq_true rfl, Nat.le_of_ble_eq_true rfl⟩ [17, 8] rfl rfl 17 rfl rfl rfl hl.1 (Nat.le_of_ble_eq_true rfl) dX10_best_73 ⟨Nat.le_of_ble_eq_true rfl, Nat.le_of_ble_eq_true rfl⟩) (fun u_70 H locs hp_70 G => ?_)
              obtain ⟨a_70a, d_70b⟩ := u_70
              have hq_70 := hp_70
              have G : wd X (va_A (@HAppend.hAppend va_W va_W va_W _ (xW h0 nw sp xa la lb) (@HAppend.hAppend va_W va_W va_W _ (rcV X nw an sv dv n0 n1 n2 n3 n4 g0 gs gn gm) (@HAppend.hAppend va_W va_W va_W _ (rnV (xa 8) ag dg) ([((xa 5), .inl (X.2.1, 3, .inl fr))])))) sz) (va_A (@HAppend.hAppend va_W va_W va_W _ (xW h0 nw sp xa la lb) (@HAppend.hAppend va_W va_W va_W _ (rcV X nw an sv dv n0 n1 n2 n3 n4 g0 gs gn gm) (@HAppend.hAppend va_W va_W va_W _ (rnV (xa 8) ag dg) ([((xa 5), .inl (X.2.1, 3, .inl fr))])))) sz) s (@HAppend.hAppend va_W va_W va_W _ (xW h0 nw sp xa la lb) (@HAppend.hAppend va_W va_W va_W _ (rcV X nw an sv dv n0 n1 n2 n3 n4 g0 gs gn gm) (@HAppend.hAppend va_W va_W va_W _ ([((xa 5), .inl (X.2.1, 3, .inl fr))]) (rnV (xa 8) a_70a d_70b)))) H locs := wd_sub G [0, 1, 2, 3, 4, 5, 6, 7, 18, 8, 9, 10, 11, 12, 13, 14, 15, 16, 17] rfl rfl
              refine lv_aload_n zx zb dX10_best_76 rfl (lv_at hl 4 rfl) ?_
              refine r_get (C := RX10) (T := TX10) (N := 14) (ci := 8) (v := .ref (xa 8)) S in_X10_best_X10 G 0 rfl rfl 8 (by decide) lk_X10_best_48 rfl dX10_best_77 ?_
              refine lv_iload zx zb dX10_best_80 (lv_at hl 0 rfl) ?_
              refine r_put (C := RX8) (T := TX8) (N := 8) (ci := 6) (v := .int (nI k53)) S in_X10_best_X8 tyX8_ok nmX8 G 18 rfl rfl 3 (by decide) lk_X10_best_130 rfl (vp_nar_int _) rfl (Nat.le_of_ble_eq_true rfl) dX10_best_82 (fun H locs G => ?_)
              obtain ⟨d_71, G⟩ : ∃ d_71 : Nat → Int32, wd X (va_A (@HAppend.hAppend va_W va_W va_W _ (xW h0 nw sp xa la lb) (@HAppend.hAppend va_W va_W va_W _ (rcV X nw an sv dv n0 n1 n2 n3 n4 g0 gs gn gm) (@HAppend.hAppend va_W va_W va_W _ (rnV (xa 8) ag dg) ([((xa 5), .inl (X.2.1, 3, .inl fr))])))) sz) (va_A (@HAppend.hAppend va_W va_W va_W _ (xW h0 nw sp xa la lb) (@HAppend.hAppend va_W va_W va_W _ (rcV X nw an sv dv n0 n1 n2 n3 n4 g0 gs gn gm) (@HAppend.hAppend va_W va_W va_W _ (rnV (xa 8) ag dg) ([((xa 5), .inl (X.2.1, 3, .inl fr))])))) sz) s (@HAppend.hAppend va_W va_W va_W _ (xW h0 nw sp xa la lb) (@HAppend.hAppend va_W va_W va_W _ (rcV X nw an sv dv n0 n1 n2 n3 n4 g0 gs gn gm) (@HAppend.hAppend va_W va_W va_W _ ([((xa 5), .inl (X.2.1, 3, .inl fr))]) (rnV (xa 8) a_70a d_71)))) H locs := ⟨upd d_70b 0 (nI k53), G⟩
              refine lv_aload_n zx zb dX10_best_85 rfl (lv_at hl 4 rfl) ?_
              refine r_get (C := RX10) (T := TX10) (N := 14) (ci := 8) (v := .ref (xa 8)) S in_X10_best_X10 G 0 rfl rfl 8 (by decide) lk_X10_best_48 rfl dX10_best_86 ?_
              refine lv_aload_n zx zb dX10_best_89 rfl (lv_at hl 4 rfl) ?_
              refine r_get (C := RX10) (T := TX10) (N := 14) (ci := 8) (v := .ref nw) S in_X10_best_X10 G 0 rfl rfl 0 (by decide) lk_X10_best_10 rfl dX10_best_90 ?_
              refine r_get (C := RX5) (T := TX5) (N := 8) (ci := 3) (v := .int (dv 1)) S in_X10_best_X5 G 1 rfl rfl 1 (by decide) lk_X10_best_110 rfl dX10_best_93 ?_
              refine lv_aload_n zx zb dX10_best_96 rfl (lv_at hl 4 rfl) ?_
              refine r_get (C := RX10) (T := TX10) (N := 14) (ci := 8) (v := .ref nw) S in_X10_best_X10 G 0 rfl rfl 0 (by decide) lk_X10_best_10 rfl dX10_best_97 ?_
              refine r_get (C := RX5) (T := TX5) (N := 8) (ci := 3) (v := .int (dv 0)) S in_X10_best_X5 G 1 rfl rfl 0 (by decide) lk_X10_best_140 rfl dX10_best_100 ?_
              refine lv_iload zx zb dX10_best_103 (lv_at hl 1 rfl) ?_
              refine b_wi (cells' := 0) (slots' := 0) (wr := @HAppend.hAppend va_W va_W va_W _ (xW h0 nw sp xa la lb) (@HAppend.hAppend va_W va_W va_W _ (rcV X nw an sv dv n0 n1 n2 n3 n4 g0 gs gn gm) ([((xa 5), .inl (X.2.1, 3, .inl fr))]))) G rfl rfl [18] [0, 1, 2, 3, 4, 5, 6, 7, 8, 9, 10, 11, 12, 13, 14, 15, 16, 17] rfl rfl rfl rfl (n_V (As := [.int (dv 1), .int (dv 0), .int x53_5]) (rest := []) (C := RX8) (T := TX8) (N := 8) (ci := 6) S G (s_ticksToHome l X (xa 8) a_70a d_71 (dv 1) (dv 0) x53_5 (by first | decide | assumption | exact k_60a (by assumption) | exact hw_3.2) H.size) gX10_best_X8_ticksToHome rfl rfl rfl hdV_X8_ticksToHome ⟨Nat.le_of_ble_eq_true rfl, Nat.le_of_ble_eq_true rfl⟩ [18] rfl rfl 18 rfl rfl rfl hl.1 (Nat.le_of_ble_eq_true rfl) dX10_best_105 ⟨Nat.le_of_ble_eq_true rfl, Nat.le_of_ble_eq_true rfl⟩) (fun r_72 u_72 H locs hp_72 G => ?_)
              obtain ⟨d_72, rfl⟩ : ∃ z, z = u_72 := ⟨_, rfl⟩
              have hq_72 := hp_72
              obtain ⟨hq_72, hs_72⟩ := hq_72
              have G : wd X (va_A (@HAppend.hAppend va_W va_W va_W _ (xW h0 nw sp xa la lb) (@HAppend.hAppend va_W va_W va_W _ (rcV X nw an sv dv n0 n1 n2 n3 n4 g0 gs gn gm) (@HAppend.hAppend va_W va_W va_W _ (rnV (xa 8) ag dg) ([((xa 5), .inl (X.2.1, 3, .inl fr))])))) sz) (va_A (@HAppend.hAppend va_W va_W va_W _ (xW h0 nw sp xa la lb) (@HAppend.hAppend va_W va_W va_W _ (rcV X nw an sv dv n0 n1 n2 n3 n4 g0 gs gn gm) (@HAppend.hAppend va_W va_W va_W _ (rnV (xa 8) ag dg) ([((xa 5), .inl (X.2.1, 3, .inl fr))])))) sz) s (@HAppend.hAppend va_W va_W va_W _ (xW h0 nw sp xa la lb) (@HAppend.hAppend va_W va_W va_W _ (rcV X nw an sv dv n0 n1 n2 n3 n4 g0 gs gn gm) (@HAppend.hAppend va_W va_W va_W _ ([((xa 5), .inl (X.2.1, 3, .inl fr))]) (rnV (xa 8) a_70a d_72)))) H locs := G
              refine lv_istore (lv' := [(7, .int r_72), (6, .int (nI k53)), (5, .int x53_5), (4, .int x53_4), (3, .int x53_3), (0, .ref h0), (1, .int 5), (2, .int x2)]) zx zb dX10_best_108 hl (by decide) rfl (fun ls hl => ?_)
              refine lv_iload zx zb dX10_best_110 (lv_at hl 0 rfl) ?_
              refine lv_iconst (v := (-1)) zx zb dX10_best_112 (by decide) ?_
              refine k_cutW (PP := fun Wx => ∀ (x_74 : Int32) (x_75 : Int32) (x_76 : Int32) (H : Heap) (locs : List Loc) (ls : Array Slot), (x_74 ≤ 60) → wd X (va_A (@HAppend.hAppend va_W va_W va_W _ (xW h0 nw sp xa la lb) (@HAppend.hAppend va_W va_W va_W _ (rcV X nw an sv dv n0 n1 n2 n3 n4 g0 gs gn gm) (@HAppend.hAppend va_W va_W va_W _ (rnV (xa 8) ag dg) ([((xa 5), .inl (X.2.1, 3, .inl fr))])))) sz) (va_A (@HAppend.hAppend va_W va_W va_W _ (xW h0 nw sp xa la lb) (@HAppend.hAppend va_W va_W va_W _ (rcV X nw an sv dv n0 n1 n2 n3 n4 g0 gs gn gm) (@HAppend.hAppend va_W va_W va_W _ (rnV (xa 8) ag dg) ([((xa 5), .inl (X.2.1, 3, .inl fr))])))) sz) s (@HAppend.hAppend va_W va_W va_W _ (xW h0 nw sp xa la lb) (@HAppend.hAppend va_W va_W va_W _ (rcV X nw an sv dv n0 n1 n2 n3 n4 g0 gs gn gm) (@HAppend.hAppend va_W va_W va_W _ ([((xa 5), .inl (X.2.1, 3, .inl fr))]) (rnV (xa 8) a_70a d_72)))) H locs → lv_has ls 8 [(7, .int r_72), (6, .int (nI k53)), (5, .int x_74), (4, .int x_75), (3, .int x_76), (0, .ref h0), (1, .int 5), (2, .int x2)] → Wx (F0 m 129 ls []) H locs) ?_ ?_
              · intro join_113
                refine lv_icmp_eq (tgt := 129) zx zb dX10_best_113 (by decide) (fun c_73 => ?_) (fun c_73 => ?_)
                · exact join_113 x53_5 x53_4 x53_3 _ _ _ (by first | assumption | decide | exact k_m60 (by assumption)) G hl
                · refine lv_iload zx zb dX10_best_116 (lv_at hl 1 rfl) ?_
                  refine lv_istore_n (lv' := [(3, .int (nI k53)), (7, .int r_72), (6, .int (nI k53)), (5, .int x53_5), (4, .int x53_4), (0, .ref h0), (1, .int 5), (2, .int x2)]) zx zb dX10_best_118 rfl hl (by decide) rfl (fun ls hl => ?_)
                  refine lv_iload zx zb dX10_best_119 (lv_at hl 1 rfl) ?_
                  refine lv_istore (lv' := [(4, .int r_72), (3, .int (nI k53)), (7, .int r_72), (6, .int (nI k53)), (5, .int x53_5), (0, .ref h0), (1, .int 5), (2, .int x2)]) zx zb dX10_best_121 hl (by decide) rfl (fun ls hl => ?_)
                  refine lv_iload zx zb dX10_best_123 (lv_at hl 2 rfl) ?_
                  refine lv_iconst (v := 1) zx zb dX10_best_125 (by decide) ?_
                  refine r_isub (v := (r_72 - 1)) S rfl dX10_best_126 ?_
                  refine lv_istore (lv' := [(5, .int (r_72 - 1)), (4, .int r_72), (3, .int (nI k53)), (7, .int r_72), (6, .int (nI k53)), (0, .ref h0), (1, .int 5), (2, .int x2)]) zx zb dX10_best_127 hl (by decide) rfl (fun ls hl => ?_)
                  have hl := lv_sub hl (l' := [(7, .int r_72), (6, .int (nI k53)), (5, .int (r_72 - 1)), (4, .int r_72), (3, .int (nI k53)), (0, .ref h0), (1, .int 5), (2, .int x2)]) [3, 4, 0, 1, 2, 5, 6, 7] rfl
                  exact join_113 (r_72 - 1) r_72 (nI k53) _ _ _ (by first | assumption | decide | exact k_m60 (by assumption)) G hl
              · intro x_74 x_75 x_76 H locs ls hk_x_74 G hl
                refine lv_iinc (v := (nI (k53 + 1))) (lv' := [(6, .int (nI (k53 + 1))), (7, .int r_72), (5, .int x_74), (4, .int x_75), (3, .int x_76), (0, .ref h0), (1, .int 5), (2, .int x2)]) zx zb dX10_best_129 hl (k := 1) rfl (nI_add k53 1) (by decide) rfl (fun ls hl => ?_)
                refine lv_goto (tgt := 53) zx zb dX10_best_132 (by decide) ?_
                have G : wd X (va_A (@HAppend.hAppend va_W va_W va_W _ (xW h0 nw sp xa la lb) (@HAppend.hAppend va_W va_W va_W _ (rcV X nw an sv dv n0 n1 n2 n3 n4 g0 gs gn gm) (@HAppend.hAppend va_W va_W va_W _ (rnV (xa 8) ag dg) ([((xa 5), .inl (X.2.1, 3, .inl fr))])))) sz) (va_A (@HAppend.hAppend va_W va_W va_W _ (xW h0 nw sp xa la lb) (@HAppend.hAppend va_W va_W va_W _ (rcV X nw an sv dv n0 n1 n2 n3 n4 g0 gs gn gm) (@HAppend.hAppend va_W va_W va_W _ (rnV (xa 8) ag dg) ([((xa 5), .inl (X.2.1, 3, .inl fr))])))) sz) s (@HAppend.hAppend va_W va_W va_W _ (xW h0 nw sp xa la lb) (@HAppend.hAppend va_W va_W va_W _ (rcV X nw an sv dv n0 n1 n2 n3 n4 g0 gs gn gm) (@HAppend.hAppend va_W va_W va_W _ (rnV (xa 8) a_70a d_72) ([((xa 5), .inl (X.2.1, 3, .inl fr))])))) H locs := wd_sub G [0, 1, 2, 3, 4, 5, 6, 7, 8, 9, 10, 11, 12, 13, 14, 15, 16, 18, 17] rfl rfl
                have hl := lv_sub hl (l' := [(6, .int (nI (k53 + 1))), (5, .int x_74), (4, .int x_75), (3, .int x_76), (0, .ref h0), (1, .int 5), (2, .int x2)]) [0, 2, 3, 4, 5, 6, 7] rfl
                exact ih53 (k53 + 1) x_74 x_75 x_76 a_70a d_72 _ _ _ (by omega) (by omega) (by first | assumption | decide | exact k_m60 (by assumption)) G hl
        · refine lv_iconst (v := (-1)) zx zb dX10_best_39 (by decide) ?_
          exact e_int S zr zlk (vp_nar_int _) G (ag, dg, fr) [0, 1, 2, 3, 4, 5, 6, 7, 8, 9, 10, 11, 12, 13, 14, 15, 16, 17, 18] rfl rfl (Or.inr rfl) (trivial) dX10_best_40
    · refine lv_if_ne (tgt := 24) zx zb dX10_best_14 (by decide) (fun c_77 => absurd (by decide) c_77) (fun c_77 => ?_)
      refine lv_aload_n zx zb dX10_best_17 rfl (lv_at hl 0 rfl) ?_
      refine lv_bipush (v := (-2)) zx zb dX10_best_18 (by decide) ?_
      refine b_wi (cells' := 0) (slots' := 0) (wr := @HAppend.hAppend va_W va_W va_W _ (rcV X nw an sv dv n0 n1 n2 n3 n4 g0 gs gn gm) (rnV (xa 8) ag dg)) G rfl rfl [0, 18] [1, 2, 3, 4, 5, 6, 7, 8, 9, 10, 11, 12, 13, 14, 15, 16, 17] rfl rfl rfl rfl (n_V (As := [.int (-2)]) (rest := []) (C := RX10) (T := TX10) (N := 14) (ci := 8) S G (s_refuse l X h0 nw sp xa la lb fr (-2) H.size) gX10_best_X10_refuse rfl rfl rfl hdV_X10_refuse ⟨Nat.le_of_ble_eq_true rfl, Nat.le_of_ble_eq_true rfl⟩ [0, 18] rfl rfl 0 rfl rfl rfl hl.1 (Nat.le_of_ble_eq_true rfl) dX10_best_20 ⟨Nat.le_of_ble_eq_true rfl, Nat.le_of_ble_eq_true rfl⟩) (fun r_78 u_78 H locs hp_78 G => ?_)
      obtain ⟨f_78, rfl⟩ : ∃ z, z = u_78 := ⟨_, rfl⟩
      have hq_78 := hp_78
      have G : wd X (va_A (@HAppend.hAppend va_W va_W va_W _ (xW h0 nw sp xa la lb) (@HAppend.hAppend va_W va_W va_W _ (rcV X nw an sv dv n0 n1 n2 n3 n4 g0 gs gn gm) (@HAppend.hAppend va_W va_W va_W _ (rnV (xa 8) ag dg) ([((xa 5), .inl (X.2.1, 3, .inl fr))])))) sz) (va_A (@HAppend.hAppend va_W va_W va_W _ (xW h0 nw sp xa la lb) (@HAppend.hAppend va_W va_W va_W _ (rcV X nw an sv dv n0 n1 n2 n3 n4 g0 gs gn gm) (@HAppend.hAppend va_W va_W va_W _ (rnV (xa 8) ag dg) ([((xa 5), .inl (X.2.1, 3, .inl fr))])))) sz) s (@HAppend.hAppend va_W va_W va_W _ (rcV X nw an sv dv n0 n1 n2 n3 n4 g0 gs gn gm) (@HAppend.hAppend va_W va_W va_W _ (rnV (xa 8) ag dg) (@HAppend.hAppend va_W va_W va_W _ (xW h0 nw sp xa la lb) ([((xa 5), .inl (X.2.1, 3, .inl f_78))])))) H locs := G
      exact e_int S zr zlk (vp_nar_int _) G (ag, dg, f_78) [17, 0, 1, 2, 3, 4, 5, 6, 7, 8, 9, 10, 11, 12, 13, 14, 15, 16, 18] rfl rfl (Or.inr rfl) (trivial) dX10_best_23
  · refine lv_if_eq (tgt := 17) zx zb dX10_best_5 (by decide) (fun c_79 => ?_) (fun c_79 => absurd (by decide) c_79)
    refine lv_aload_n zx zb dX10_best_17 rfl (lv_at hl 0 rfl) ?_
    refine lv_bipush (v := (-2)) zx zb dX10_best_18 (by decide) ?_
    refine b_wi (cells' := 0) (slots' := 0) (wr := @HAppend.hAppend va_W va_W va_W _ (rcV X nw an sv dv n0 n1 n2 n3 n4 g0 gs gn gm) (rnV (xa 8) ag dg)) G rfl rfl [0, 18] [1, 2, 3, 4, 5, 6, 7, 8, 9, 10, 11, 12, 13, 14, 15, 16, 17] rfl rfl rfl rfl (n_V (As := [.int (-2)]) (rest := []) (C := RX10) (T := TX10) (N := 14) (ci := 8) S G (s_refuse l X h0 nw sp xa la lb fr (-2) H.size) gX10_best_X10_refuse rfl rfl rfl hdV_X10_refuse ⟨Nat.le_of_ble_eq_true rfl, Nat.le_of_ble_eq_true rfl⟩ [0, 18] rfl rfl 0 rfl rfl rfl hl.1 (Nat.le_of_ble_eq_true rfl) dX10_best_20 ⟨Nat.le_of_ble_eq_true rfl, Nat.le_of_ble_eq_true rfl⟩) (fun r_80 u_80 H locs hp_80 G => ?_)
    obtain ⟨f_80, rfl⟩ : ∃ z, z = u_80 := ⟨_, rfl⟩
    have hq_80 := hp_80
    have G : wd X (va_A (@HAppend.hAppend va_W va_W va_W _ (xW h0 nw sp xa la lb) (@HAppend.hAppend va_W va_W va_W _ (rcV X nw an sv dv n0 n1 n2 n3 n4 g0 gs gn gm) (@HAppend.hAppend va_W va_W va_W _ (rnV (xa 8) ag dg) ([((xa 5), .inl (X.2.1, 3, .inl fr))])))) sz) (va_A (@HAppend.hAppend va_W va_W va_W _ (xW h0 nw sp xa la lb) (@HAppend.hAppend va_W va_W va_W _ (rcV X nw an sv dv n0 n1 n2 n3 n4 g0 gs gn gm) (@HAppend.hAppend va_W va_W va_W _ (rnV (xa 8) ag dg) ([((xa 5), .inl (X.2.1, 3, .inl fr))])))) sz) s (@HAppend.hAppend va_W va_W va_W _ (rcV X nw an sv dv n0 n1 n2 n3 n4 g0 gs gn gm) (@HAppend.hAppend va_W va_W va_W _ (rnV (xa 8) ag dg) (@HAppend.hAppend va_W va_W va_W _ (xW h0 nw sp xa la lb) ([((xa 5), .inl (X.2.1, 3, .inl f_80))])))) H locs := G
    exact e_int S zr zlk (vp_nar_int _) G (ag, dg, f_80) [17, 0, 1, 2, 3, 4, 5, 6, 7, 8, 9, 10, 11, 12, 13, 14, 15, 16, 18] rfl rfl (Or.inr rfl) (trivial) dX10_best_23
