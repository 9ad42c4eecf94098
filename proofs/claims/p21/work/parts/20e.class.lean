set_option maxRecDepth 20000 in
theorem ggX10_best_X10_refuse : GoodIn wsX10_best wsX10_refuse := goodIn_r _ [19, 20, 55, 56, 57, 58, 59, 60, 61, 62, 63, 64, 65, 66, 67, 68] rfl (by decide +kernel)
set_option maxRecDepth 20000 in
theorem gX10_best_X10_refuse : GoodIn wsX10_best (wsV RX10 83 RX10 yX10_refuse wsX10_refuse) := goodIn_app (goodIn_of _ (by decide +kernel)) ggX10_best_X10_refuse
set_option maxRecDepth 20000 in
theorem ggX10_best_X10_there : GoodIn wsX10_best wsX10_there := goodIn_r _ [11, 1, 12, 55, 56, 57, 58, 59, 60, 61, 62, 63, 64, 65, 66, 67, 68, 69, 70, 71, 72, 73, 74, 75, 76] rfl (by decide +kernel)
set_option maxRecDepth 20000 in
theorem gX10_best_X10_there : GoodIn wsX10_best (wsV RX10 123 RX10 yX10_there wsX10_there) := goodIn_app (goodIn_of _ (by decide +kernel)) ggX10_best_X10_there
set_option maxRecDepth 20000 in
theorem ggX10_best_X10_within : GoodIn wsX10_best wsX10_within := goodIn_r _ [15] rfl (by decide +kernel)
set_option maxRecDepth 20000 in
theorem gX10_best_X10_within : GoodIn wsX10_best (va_wsS RX10 79 yX10_within wsX10_within) := goodIn_app (goodIn_of _ (by decide +kernel)) ggX10_best_X10_within
set_option maxRecDepth 20000 in
theorem ggX10_best_X8_copyFrom : GoodIn wsX10_best wsX8_copyFrom := goodIn_r _ [30, 31, 32, 33, 34, 35, 36, 37, 26, 77, 78, 79, 80, 81, 82, 83, 84] rfl (by decide +kernel)
set_option maxRecDepth 20000 in
theorem gX10_best_X8_copyFrom : GoodIn wsX10_best (wsV RX10 148 RX8 yX8_copyFrom wsX8_copyFrom) := goodIn_app (goodIn_of _ (by decide +kernel)) ggX10_best_X8_copyFrom
set_option maxRecDepth 20000 in
theorem ggX10_best_X8_isHome : GoodIn wsX10_best wsX8_isHome := goodIn_r _ [25, 26, 77, 78, 79, 80, 81, 82, 83, 84] rfl (by decide +kernel)
set_option maxRecDepth 20000 in
theorem gX10_best_X8_isHome : GoodIn wsX10_best (wsV RX10 133 RX8 yX8_isHome wsX8_isHome) := goodIn_app (goodIn_of _ (by decide +kernel)) ggX10_best_X8_isHome
set_option maxRecDepth 20000 in
theorem ggX10_best_X8_ticksToHome : GoodIn wsX10_best wsX8_ticksToHome := goodIn_r _ [41, 42, 22, 23, 24, 25, 26, 43, 44, 45, 46, 37, 31, 32, 34, 33, 36, 35, 47, 48, 49, 50, 51, 52, 53, 54, 77, 78, 79, 80, 81, 82, 83, 84] rfl (by decide +kernel)
set_option maxRecDepth 20000 in
theorem gX10_best_X8_ticksToHome : GoodIn wsX10_best (wsV RX10 165 RX8 yX8_ticksToHome wsX8_ticksToHome) := goodIn_app (goodIn_of _ (by decide +kernel)) ggX10_best_X8_ticksToHome
set_option maxRecDepth 20000 in
theorem ggX10_homeTurning_X10_homeBehind : GoodIn wsX10_homeTurning wsX10_homeBehind := goodIn_r _ [14, 5, 7, 15, 8, 9, 16, 17, 18, 19, 20, 21, 22, 23, 24, 25, 26, 27, 28, 29, 30, 31, 32, 33, 34, 35, 36, 37, 38, 39, 40, 41, 42, 43, 44, 45, 46, 47, 48, 49, 50, 51, 52, 53, 54, 55, 56, 57, 58, 59, 60, 61, 62, 71, 72, 73, 74, 75, 76, 77, 78, 63, 64, 65, 66, 67, 68, 69, 70] rfl (by decide +kernel)
set_option maxRecDepth 20000 in
theorem gX10_homeTurning_X10_homeBehind : GoodIn wsX10_homeTurning (wsV RX10 156 RX10 yX10_homeBehind wsX10_homeBehind) := goodIn_app (goodIn_of _ (by decide +kernel)) ggX10_homeTurning_X10_homeBehind
set_option maxRecDepth 20000 in
theorem ggX10_homeTurning_X8_ticksToHome : GoodIn wsX10_homeTurning wsX8_ticksToHome := goodIn_r _ [32, 33, 34, 35, 19, 36, 28, 37, 38, 39, 40, 27, 21, 22, 24, 23, 26, 25, 41, 42, 43, 44, 45, 46, 47, 48, 63, 64, 65, 66, 67, 68, 69, 70] rfl (by decide +kernel)
set_option maxRecDepth 20000 in
theorem gX10_homeTurning_X8_ticksToHome : GoodIn wsX10_homeTurning (wsV RX10 165 RX8 yX8_ticksToHome wsX8_ticksToHome) := goodIn_app (goodIn_of _ (by decide +kernel)) ggX10_homeTurning_X8_ticksToHome
set_option maxRecDepth 20000 in
theorem ggX10_order_X10_aheadOf : GoodIn wsX10_order wsX10_aheadOf := goodIn_r _ [60, 1, 2, 14, 61, 62, 63, 64, 65, 66, 67, 68, 69, 70, 71, 72, 73, 74, 75, 76, 77, 78, 79, 80, 81, 82] rfl (by decide +kernel)
set_option maxRecDepth 20000 in
theorem gX10_order_X10_aheadOf : GoodIn wsX10_order (wsV RX10 162 RX10 yX10_aheadOf wsX10_aheadOf) := goodIn_app (goodIn_of _ (by decide +kernel)) ggX10_order_X10_aheadOf
set_option maxRecDepth 20000 in
theorem ggX10_order_X10_rankAll : GoodIn wsX10_order wsX10_rankAll := goodIn_r _ [12, 1, 2, 13, 14, 15, 16, 17, 18, 6, 19, 20, 21, 22, 23, 24, 25, 26, 27, 28, 29, 30, 31, 32, 33, 34, 35, 36, 37, 38, 39, 40, 41, 42, 43, 44, 45, 46, 47, 48, 49, 50, 51, 52, 53, 54, 55, 56, 61, 62, 63, 64, 65, 66, 67, 68, 69, 70, 71, 72, 73, 74, 75, 76, 77, 78, 79, 80, 81, 82, 83, 84, 85, 86, 87, 88, 89, 90] rfl (by decide +kernel)
set_option maxRecDepth 20000 in
theorem gX10_order_X10_rankAll : GoodIn wsX10_order (wsV RX10 159 RX10 yX10_rankAll wsX10_rankAll) := goodIn_app (goodIn_of _ (by decide +kernel)) ggX10_order_X10_rankAll
set_option maxRecDepth 20000 in
theorem ggX10_order_X10_refuse : GoodIn wsX10_order wsX10_refuse := goodIn_r _ [7, 8, 61, 62, 63, 64, 65, 66, 67, 68, 69, 70, 71, 72, 73, 74] rfl (by decide +kernel)
set_option maxRecDepth 20000 in
theorem gX10_order_X10_refuse : GoodIn wsX10_order (wsV RX10 83 RX10 yX10_refuse wsX10_refuse) := goodIn_app (goodIn_of _ (by decide +kernel)) ggX10_order_X10_refuse
set_option maxRecDepth 20000 in
theorem ggX10_turn_X10_homeTurning : GoodIn wsX10_turn wsX10_homeTurning := goodIn_r _ [26, 27, 28, 29, 30, 31, 32, 1, 33, 34, 35, 36, 37, 6, 38, 2, 39, 40, 41, 20, 42, 43, 44, 45, 46, 47, 48, 49, 22, 50, 51, 52, 53, 54, 18, 19, 21, 55, 56, 57, 58, 59, 60, 61, 62, 63, 64, 65, 66, 67, 68, 69, 70, 71, 72, 73, 74, 75, 76, 77, 78, 79, 80, 89, 90, 91, 92, 93, 94, 95, 96, 81, 82, 83, 84, 85, 86, 87, 88] rfl (by decide +kernel)
set_option maxRecDepth 20000 in
theorem gX10_turn_X10_homeTurning : GoodIn wsX10_turn (wsV RX10 168 RX10 yX10_homeTurning wsX10_homeTurning) := goodIn_app (goodIn_of _ (by decide +kernel)) ggX10_turn_X10_homeTurning
set_option maxRecDepth 20000 in
theorem ggX10_turn_X10_refuse : GoodIn wsX10_turn wsX10_refuse := goodIn_r _ [15, 16, 67, 68, 69, 70, 71, 72, 73, 74, 75, 76, 77, 78, 79, 80] rfl (by decide +kernel)
set_option maxRecDepth 20000 in
theorem gX10_turn_X10_refuse : GoodIn wsX10_turn (wsV RX10 83 RX10 yX10_refuse wsX10_refuse) := goodIn_app (goodIn_of _ (by decide +kernel)) ggX10_turn_X10_refuse
set_option maxRecDepth 20000 in
theorem ggX10_turn_X10_there : GoodIn wsX10_turn wsX10_there := goodIn_r _ [7, 1, 8, 67, 68, 69, 70, 71, 72, 73, 74, 75, 76, 77, 78, 79, 80, 81, 82, 83, 84, 85, 86, 87, 88] rfl (by decide +kernel)
set_option maxRecDepth 20000 in
theorem gX10_turn_X10_there : GoodIn wsX10_turn (wsV RX10 123 RX10 yX10_there wsX10_there) := goodIn_app (goodIn_of _ (by decide +kernel)) ggX10_turn_X10_there
set_option maxRecDepth 20000 in
theorem ggX10_turn_X10_within : GoodIn wsX10_turn wsX10_within := goodIn_r _ [11] rfl (by decide +kernel)
set_option maxRecDepth 20000 in
theorem gX10_turn_X10_within : GoodIn wsX10_turn (va_wsS RX10 79 yX10_within wsX10_within) := goodIn_app (goodIn_of _ (by decide +kernel)) ggX10_turn_X10_within
set_option maxRecDepth 20000 in
theorem ggX10_turn_X8_isHome : GoodIn wsX10_turn wsX8_isHome := goodIn_r _ [21, 22, 89, 90, 91, 92, 93, 94, 95, 96] rfl (by decide +kernel)
set_option maxRecDepth 20000 in
theorem gX10_turn_X8_isHome : GoodIn wsX10_turn (wsV RX10 133 RX8 yX8_isHome wsX8_isHome) := goodIn_app (goodIn_of _ (by decide +kernel)) ggX10_turn_X8_isHome
theorem dX10_aheadOf_0 : decode cX10_aheadOf 0 = .ok (.iconst 0, 1) := by decide +kernel
theorem dX10_aheadOf_1 : decode cX10_aheadOf 1 = .ok (.istore_n 2, 1) := by decide +kernel
theorem dX10_aheadOf_12 : decode cX10_aheadOf 12 = .ok (.if_icmp .ge 47, 3) := by decide +kernel
theorem dX10_aheadOf_15 : decode cX10_aheadOf 15 = .ok (.aload_n 0, 1) := by decide +kernel
theorem dX10_aheadOf_16 : decode cX10_aheadOf 16 = .ok (.getfield 76, 3) := by decide +kernel
theorem dX10_aheadOf_19 : decode cX10_aheadOf 19 = .ok (.iload_n 3, 1) := by decide +kernel
theorem dX10_aheadOf_2 : decode cX10_aheadOf 2 = .ok (.iconst 0, 1) := by decide +kernel
theorem dX10_aheadOf_20 : decode cX10_aheadOf 20 = .ok (.iaload, 1) := by decide +kernel
theorem dX10_aheadOf_21 : decode cX10_aheadOf 21 = .ok (.aload_n 0, 1) := by decide +kernel
theorem dX10_aheadOf_22 : decode cX10_aheadOf 22 = .ok (.getfield 76, 3) := by decide +kernel
theorem dX10_aheadOf_25 : decode cX10_aheadOf 25 = .ok (.iload_n 1, 1) := by decide +kernel
theorem dX10_aheadOf_26 : decode cX10_aheadOf 26 = .ok (.iaload, 1) := by decide +kernel
theorem dX10_aheadOf_27 : decode cX10_aheadOf 27 = .ok (.if_icmp .lt 23, 3) := by decide +kernel
theorem dX10_aheadOf_3 : decode cX10_aheadOf 3 = .ok (.istore_n 3, 1) := by decide +kernel
theorem dX10_aheadOf_30 : decode cX10_aheadOf 30 = .ok (.aload_n 0, 1) := by decide +kernel
theorem dX10_aheadOf_31 : decode cX10_aheadOf 31 = .ok (.getfield 76, 3) := by decide +kernel
theorem dX10_aheadOf_34 : decode cX10_aheadOf 34 = .ok (.iload_n 3, 1) := by decide +kernel
theorem dX10_aheadOf_35 : decode cX10_aheadOf 35 = .ok (.iaload, 1) := by decide +kernel
theorem dX10_aheadOf_36 : decode cX10_aheadOf 36 = .ok (.aload_n 0, 1) := by decide +kernel
theorem dX10_aheadOf_37 : decode cX10_aheadOf 37 = .ok (.getfield 76, 3) := by decide +kernel
theorem dX10_aheadOf_4 : decode cX10_aheadOf 4 = .ok (.iload_n 3, 1) := by decide +kernel
theorem dX10_aheadOf_40 : decode cX10_aheadOf 40 = .ok (.iload_n 1, 1) := by decide +kernel
theorem dX10_aheadOf_41 : decode cX10_aheadOf 41 = .ok (.iaload, 1) := by decide +kernel
theorem dX10_aheadOf_42 : decode cX10_aheadOf 42 = .ok (.if_icmp .ne 11, 3) := by decide +kernel
theorem dX10_aheadOf_45 : decode cX10_aheadOf 45 = .ok (.iload_n 3, 1) := by decide +kernel
theorem dX10_aheadOf_46 : decode cX10_aheadOf 46 = .ok (.iload_n 1, 1) := by decide +kernel
theorem dX10_aheadOf_47 : decode cX10_aheadOf 47 = .ok (.if_icmp .ge 6, 3) := by decide +kernel
theorem dX10_aheadOf_5 : decode cX10_aheadOf 5 = .ok (.aload_n 0, 1) := by decide +kernel
theorem dX10_aheadOf_50 : decode cX10_aheadOf 50 = .ok (.iinc 2 1, 3) := by decide +kernel
theorem dX10_aheadOf_53 : decode cX10_aheadOf 53 = .ok (.iinc 3 1, 3) := by decide +kernel
theorem dX10_aheadOf_56 : decode cX10_aheadOf 56 = .ok (.goto (-52), 3) := by decide +kernel
theorem dX10_aheadOf_59 : decode cX10_aheadOf 59 = .ok (.iload_n 2, 1) := by decide +kernel
theorem dX10_aheadOf_6 : decode cX10_aheadOf 6 = .ok (.getfield 10, 3) := by decide +kernel
theorem dX10_aheadOf_60 : decode cX10_aheadOf 60 = .ok (.ireturn, 1) := by decide +kernel
theorem dX10_aheadOf_9 : decode cX10_aheadOf 9 = .ok (.getfield 87, 3) := by decide +kernel
theorem dX10_best_0 : decode cX10_best 0 = .ok (.aload_n 0, 1) := by decide +kernel
theorem dX10_best_1 : decode cX10_best 1 = .ok (.iload_n 1, 1) := by decide +kernel
theorem dX10_best_10 : decode cX10_best 10 = .ok (.iconst 1, 1) := by decide +kernel
theorem dX10_best_100 : decode cX10_best 100 = .ok (.getfield 140, 3) := by decide +kernel
theorem dX10_best_103 : decode cX10_best 103 = .ok (.iload 5, 2) := by decide +kernel
theorem dX10_best_105 : decode cX10_best 105 = .ok (.invokevirtual 165, 3) := by decide +kernel
theorem dX10_best_108 : decode cX10_best 108 = .ok (.istore 7, 2) := by decide +kernel
theorem dX10_best_11 : decode cX10_best 11 = .ok (.invokestatic 79, 3) := by decide +kernel
theorem dX10_best_110 : decode cX10_best 110 = .ok (.iload 7, 2) := by decide +kernel
theorem dX10_best_112 : decode cX10_best 112 = .ok (.iconst (-1), 1) := by decide +kernel
theorem dX10_best_113 : decode cX10_best 113 = .ok (.if_icmp .eq 16, 3) := by decide +kernel
theorem dX10_best_116 : decode cX10_best 116 = .ok (.iload 6, 2) := by decide +kernel
theorem dX10_best_118 : decode cX10_best 118 = .ok (.istore_n 3, 1) := by decide +kernel
theorem dX10_best_119 : decode cX10_best 119 = .ok (.iload 7, 2) := by decide +kernel
theorem dX10_best_121 : decode cX10_best 121 = .ok (.istore 4, 2) := by decide +kernel
theorem dX10_best_123 : decode cX10_best 123 = .ok (.iload 7, 2) := by decide +kernel
theorem dX10_best_125 : decode cX10_best 125 = .ok (.iconst 1, 1) := by decide +kernel
theorem dX10_best_126 : decode cX10_best 126 = .ok (.isub, 1) := by decide +kernel
theorem dX10_best_127 : decode cX10_best 127 = .ok (.istore 5, 2) := by decide +kernel
theorem dX10_best_129 : decode cX10_best 129 = .ok (.iinc 6 1, 3) := by decide +kernel
theorem dX10_best_132 : decode cX10_best 132 = .ok (.goto (-79), 3) := by decide +kernel
theorem dX10_best_135 : decode cX10_best 135 = .ok (.iload_n 2, 1) := by decide +kernel
theorem dX10_best_136 : decode cX10_best 136 = .ok (.ifCond .ne 7, 3) := by decide +kernel
theorem dX10_best_139 : decode cX10_best 139 = .ok (.iload_n 3, 1) := by decide +kernel
theorem dX10_best_14 : decode cX10_best 14 = .ok (.ifCond .ne 10, 3) := by decide +kernel
theorem dX10_best_140 : decode cX10_best 140 = .ok (.goto 5, 3) := by decide +kernel
theorem dX10_best_143 : decode cX10_best 143 = .ok (.iload 4, 2) := by decide +kernel
theorem dX10_best_145 : decode cX10_best 145 = .ok (.ireturn, 1) := by decide +kernel
theorem dX10_best_17 : decode cX10_best 17 = .ok (.aload_n 0, 1) := by decide +kernel
theorem dX10_best_18 : decode cX10_best 18 = .ok (.bipush (-2), 2) := by decide +kernel
theorem dX10_best_2 : decode cX10_best 2 = .ok (.invokevirtual 123, 3) := by decide +kernel
theorem dX10_best_20 : decode cX10_best 20 = .ok (.invokevirtual 83, 3) := by decide +kernel
theorem dX10_best_23 : decode cX10_best 23 = .ok (.ireturn, 1) := by decide +kernel
theorem dX10_best_24 : decode cX10_best 24 = .ok (.aload_n 0, 1) := by decide +kernel
theorem dX10_best_25 : decode cX10_best 25 = .ok (.getfield 10, 3) := by decide +kernel
theorem dX10_best_28 : decode cX10_best 28 = .ok (.getfield 126, 3) := by decide +kernel
theorem dX10_best_31 : decode cX10_best 31 = .ok (.iload_n 1, 1) := by decide +kernel
theorem dX10_best_32 : decode cX10_best 32 = .ok (.aaload, 1) := by decide +kernel
theorem dX10_best_33 : decode cX10_best 33 = .ok (.invokevirtual 133, 3) := by decide +kernel
theorem dX10_best_36 : decode cX10_best 36 = .ok (.ifCond .eq 5, 3) := by decide +kernel
theorem dX10_best_39 : decode cX10_best 39 = .ok (.iconst (-1), 1) := by decide +kernel
theorem dX10_best_40 : decode cX10_best 40 = .ok (.ireturn, 1) := by decide +kernel
theorem dX10_best_41 : decode cX10_best 41 = .ok (.iconst (-1), 1) := by decide +kernel
theorem dX10_best_42 : decode cX10_best 42 = .ok (.istore_n 3, 1) := by decide +kernel
theorem dX10_best_43 : decode cX10_best 43 = .ok (.iconst (-1), 1) := by decide +kernel
theorem dX10_best_44 : decode cX10_best 44 = .ok (.istore 4, 2) := by decide +kernel
theorem dX10_best_46 : decode cX10_best 46 = .ok (.bipush 60, 2) := by decide +kernel
theorem dX10_best_48 : decode cX10_best 48 = .ok (.istore 5, 2) := by decide +kernel
theorem dX10_best_5 : decode cX10_best 5 = .ok (.ifCond .eq 12, 3) := by decide +kernel
theorem dX10_best_50 : decode cX10_best 50 = .ok (.iconst 0, 1) := by decide +kernel
theorem dX10_best_51 : decode cX10_best 51 = .ok (.istore 6, 2) := by decide +kernel
theorem dX10_best_53 : decode cX10_best 53 = .ok (.iload 6, 2) := by decide +kernel
theorem dX10_best_55 : decode cX10_best 55 = .ok (.bipush 9, 2) := by decide +kernel
theorem dX10_best_57 : decode cX10_best 57 = .ok (.if_icmp .gt 78, 3) := by decide +kernel
theorem dX10_best_60 : decode cX10_best 60 = .ok (.aload_n 0, 1) := by decide +kernel
theorem dX10_best_61 : decode cX10_best 61 = .ok (.getfield 48, 3) := by decide +kernel
theorem dX10_best_64 : decode cX10_best 64 = .ok (.aload_n 0, 1) := by decide +kernel
theorem dX10_best_65 : decode cX10_best 65 = .ok (.getfield 10, 3) := by decide +kernel
theorem dX10_best_68 : decode cX10_best 68 = .ok (.getfield 126, 3) := by decide +kernel
theorem dX10_best_71 : decode cX10_best 71 = .ok (.iload_n 1, 1) := by decide +kernel
theorem dX10_best_72 : decode cX10_best 72 = .ok (.aaload, 1) := by decide +kernel
theorem dX10_best_73 : decode cX10_best 73 = .ok (.invokevirtual 148, 3) := by decide +kernel
theorem dX10_best_76 : decode cX10_best 76 = .ok (.aload_n 0, 1) := by decide +kernel
theorem dX10_best_77 : decode cX10_best 77 = .ok (.getfield 48, 3) := by decide +kernel
theorem dX10_best_8 : decode cX10_best 8 = .ok (.iload_n 2, 1) := by decide +kernel
theorem dX10_best_80 : decode cX10_best 80 = .ok (.iload 6, 2) := by decide +kernel
theorem dX10_best_82 : decode cX10_best 82 = .ok (.putfield 130, 3) := by decide +kernel
theorem dX10_best_85 : decode cX10_best 85 = .ok (.aload_n 0, 1) := by decide +kernel
theorem dX10_best_86 : decode cX10_best 86 = .ok (.getfield 48, 3) := by decide +kernel
theorem dX10_best_89 : decode cX10_best 89 = .ok (.aload_n 0, 1) := by decide +kernel
theorem dX10_best_9 : decode cX10_best 9 = .ok (.iconst 0, 1) := by decide +kernel
theorem dX10_best_90 : decode cX10_best 90 = .ok (.getfield 10, 3) := by decide +kernel
theorem dX10_best_93 : decode cX10_best 93 = .ok (.getfield 110, 3) := by decide +kernel
theorem dX10_best_96 : decode cX10_best 96 = .ok (.aload_n 0, 1) := by decide +kernel
theorem dX10_best_97 : decode cX10_best 97 = .ok (.getfield 10, 3) := by decide +kernel
theorem dX10_homeTurning_0 : decode cX10_homeTurning 0 = .ok (.aload_n 0, 1) := by decide +kernel
theorem dX10_homeTurning_1 : decode cX10_homeTurning 1 = .ok (.iload_n 1, 1) := by decide +kernel
theorem dX10_homeTurning_11 : decode cX10_homeTurning 11 = .ok (.istore 5, 2) := by decide +kernel
theorem dX10_homeTurning_13 : decode cX10_homeTurning 13 = .ok (.iload 5, 2) := by decide +kernel
theorem dX10_homeTurning_15 : decode cX10_homeTurning 15 = .ok (.iconst (-1), 1) := by decide +kernel
theorem dX10_homeTurning_16 : decode cX10_homeTurning 16 = .ok (.if_icmp .ne 9, 3) := by decide +kernel
theorem dX10_homeTurning_19 : decode cX10_homeTurning 19 = .ok (.iload_n 3, 1) := by decide +kernel
theorem dX10_homeTurning_2 : decode cX10_homeTurning 2 = .ok (.iload_n 3, 1) := by decide +kernel
theorem dX10_homeTurning_20 : decode cX10_homeTurning 20 = .ok (.iload 4, 2) := by decide +kernel
theorem dX10_homeTurning_22 : decode cX10_homeTurning 22 = .ok (.if_icmp .lt 6, 3) := by decide +kernel
theorem dX10_homeTurning_25 : decode cX10_homeTurning 25 = .ok (.iload 5, 2) := by decide +kernel
theorem dX10_homeTurning_27 : decode cX10_homeTurning 27 = .ok (.ireturn, 1) := by decide +kernel
theorem dX10_homeTurning_28 : decode cX10_homeTurning 28 = .ok (.aload_n 0, 1) := by decide +kernel
theorem dX10_homeTurning_29 : decode cX10_homeTurning 29 = .ok (.getfield 48, 3) := by decide +kernel
theorem dX10_homeTurning_3 : decode cX10_homeTurning 3 = .ok (.iload 4, 2) := by decide +kernel
theorem dX10_homeTurning_32 : decode cX10_homeTurning 32 = .ok (.iload_n 2, 1) := by decide +kernel
theorem dX10_homeTurning_33 : decode cX10_homeTurning 33 = .ok (.putfield 130, 3) := by decide +kernel
theorem dX10_homeTurning_36 : decode cX10_homeTurning 36 = .ok (.aload_n 0, 1) := by decide +kernel
theorem dX10_homeTurning_37 : decode cX10_homeTurning 37 = .ok (.getfield 48, 3) := by decide +kernel
theorem dX10_homeTurning_40 : decode cX10_homeTurning 40 = .ok (.aload_n 0, 1) := by decide +kernel
theorem dX10_homeTurning_41 : decode cX10_homeTurning 41 = .ok (.getfield 10, 3) := by decide +kernel
theorem dX10_homeTurning_44 : decode cX10_homeTurning 44 = .ok (.getfield 110, 3) := by decide +kernel
theorem dX10_homeTurning_47 : decode cX10_homeTurning 47 = .ok (.iload_n 3, 1) := by decide +kernel
theorem dX10_homeTurning_48 : decode cX10_homeTurning 48 = .ok (.iadd, 1) := by decide +kernel
theorem dX10_homeTurning_49 : decode cX10_homeTurning 49 = .ok (.aload_n 0, 1) := by decide +kernel
theorem dX10_homeTurning_5 : decode cX10_homeTurning 5 = .ok (.invokestatic 300, 3) := by decide +kernel
theorem dX10_homeTurning_50 : decode cX10_homeTurning 50 = .ok (.getfield 10, 3) := by decide +kernel
theorem dX10_homeTurning_53 : decode cX10_homeTurning 53 = .ok (.getfield 140, 3) := by decide +kernel
theorem dX10_homeTurning_56 : decode cX10_homeTurning 56 = .ok (.iload 4, 2) := by decide +kernel
theorem dX10_homeTurning_58 : decode cX10_homeTurning 58 = .ok (.iload_n 3, 1) := by decide +kernel
theorem dX10_homeTurning_59 : decode cX10_homeTurning 59 = .ok (.isub, 1) := by decide +kernel
theorem dX10_homeTurning_60 : decode cX10_homeTurning 60 = .ok (.invokevirtual 165, 3) := by decide +kernel
theorem dX10_homeTurning_63 : decode cX10_homeTurning 63 = .ok (.istore 6, 2) := by decide +kernel
theorem dX10_homeTurning_65 : decode cX10_homeTurning 65 = .ok (.iload 6, 2) := by decide +kernel
theorem dX10_homeTurning_67 : decode cX10_homeTurning 67 = .ok (.iconst (-1), 1) := by decide +kernel
theorem dX10_homeTurning_68 : decode cX10_homeTurning 68 = .ok (.if_icmp .ne 7, 3) := by decide +kernel
theorem dX10_homeTurning_71 : decode cX10_homeTurning 71 = .ok (.iconst (-1), 1) := by decide +kernel
theorem dX10_homeTurning_72 : decode cX10_homeTurning 72 = .ok (.goto 7, 3) := by decide +kernel
theorem dX10_homeTurning_75 : decode cX10_homeTurning 75 = .ok (.iload_n 3, 1) := by decide +kernel
theorem dX10_homeTurning_76 : decode cX10_homeTurning 76 = .ok (.iload 6, 2) := by decide +kernel
theorem dX10_homeTurning_78 : decode cX10_homeTurning 78 = .ok (.iadd, 1) := by decide +kernel
theorem dX10_homeTurning_79 : decode cX10_homeTurning 79 = .ok (.ireturn, 1) := by decide +kernel
theorem dX10_homeTurning_8 : decode cX10_homeTurning 8 = .ok (.invokevirtual 156, 3) := by decide +kernel
theorem dX10_order_0 : decode cX10_order 0 = .ok (.iload_n 1, 1) := by decide +kernel
theorem dX10_order_1 : decode cX10_order 1 = .ok (.ifCond .ge 10, 3) := by decide +kernel
theorem dX10_order_10 : decode cX10_order 10 = .ok (.ireturn, 1) := by decide +kernel
theorem dX10_order_11 : decode cX10_order 11 = .ok (.iload_n 1, 1) := by decide +kernel
theorem dX10_order_12 : decode cX10_order 12 = .ok (.aload_n 0, 1) := by decide +kernel
theorem dX10_order_13 : decode cX10_order 13 = .ok (.getfield 10, 3) := by decide +kernel
theorem dX10_order_16 : decode cX10_order 16 = .ok (.getfield 87, 3) := by decide +kernel
theorem dX10_order_19 : decode cX10_order 19 = .ok (.if_icmp .lt 10, 3) := by decide +kernel
theorem dX10_order_22 : decode cX10_order 22 = .ok (.aload_n 0, 1) := by decide +kernel
theorem dX10_order_23 : decode cX10_order 23 = .ok (.bipush (-3), 2) := by decide +kernel
theorem dX10_order_25 : decode cX10_order 25 = .ok (.invokevirtual 83, 3) := by decide +kernel
theorem dX10_order_28 : decode cX10_order 28 = .ok (.ireturn, 1) := by decide +kernel
theorem dX10_order_29 : decode cX10_order 29 = .ok (.aload_n 0, 1) := by decide +kernel
theorem dX10_order_30 : decode cX10_order 30 = .ok (.invokevirtual 159, 3) := by decide +kernel
theorem dX10_order_33 : decode cX10_order 33 = .ok (.iconst 0, 1) := by decide +kernel
theorem dX10_order_34 : decode cX10_order 34 = .ok (.istore_n 2, 1) := by decide +kernel
theorem dX10_order_35 : decode cX10_order 35 = .ok (.iload_n 2, 1) := by decide +kernel
theorem dX10_order_36 : decode cX10_order 36 = .ok (.aload_n 0, 1) := by decide +kernel
theorem dX10_order_37 : decode cX10_order 37 = .ok (.getfield 10, 3) := by decide +kernel
theorem dX10_order_4 : decode cX10_order 4 = .ok (.aload_n 0, 1) := by decide +kernel
theorem dX10_order_40 : decode cX10_order 40 = .ok (.getfield 87, 3) := by decide +kernel
theorem dX10_order_43 : decode cX10_order 43 = .ok (.if_icmp .ge 20, 3) := by decide +kernel
theorem dX10_order_46 : decode cX10_order 46 = .ok (.aload_n 0, 1) := by decide +kernel
theorem dX10_order_47 : decode cX10_order 47 = .ok (.iload_n 2, 1) := by decide +kernel
theorem dX10_order_48 : decode cX10_order 48 = .ok (.invokevirtual 162, 3) := by decide +kernel
theorem dX10_order_5 : decode cX10_order 5 = .ok (.bipush (-2), 2) := by decide +kernel
theorem dX10_order_51 : decode cX10_order 51 = .ok (.iload_n 1, 1) := by decide +kernel
theorem dX10_order_52 : decode cX10_order 52 = .ok (.if_icmp .ne 5, 3) := by decide +kernel
theorem dX10_order_55 : decode cX10_order 55 = .ok (.iload_n 2, 1) := by decide +kernel
theorem dX10_order_56 : decode cX10_order 56 = .ok (.ireturn, 1) := by decide +kernel
theorem dX10_order_57 : decode cX10_order 57 = .ok (.iinc 2 1, 3) := by decide +kernel
theorem dX10_order_60 : decode cX10_order 60 = .ok (.goto (-25), 3) := by decide +kernel
theorem dX10_order_63 : decode cX10_order 63 = .ok (.iconst (-1), 1) := by decide +kernel
theorem dX10_order_64 : decode cX10_order 64 = .ok (.ireturn, 1) := by decide +kernel
theorem dX10_order_7 : decode cX10_order 7 = .ok (.invokevirtual 83, 3) := by decide +kernel
theorem dX10_turn_0 : decode cX10_turn 0 = .ok (.aload_n 0, 1) := by decide +kernel
theorem dX10_turn_1 : decode cX10_turn 1 = .ok (.iload_n 1, 1) := by decide +kernel
theorem dX10_turn_10 : decode cX10_turn 10 = .ok (.bipush 9, 2) := by decide +kernel
theorem dX10_turn_100 : decode cX10_turn 100 = .ok (.isub, 1) := by decide +kernel
theorem dX10_turn_101 : decode cX10_turn 101 = .ok (.istore 6, 2) := by decide +kernel
theorem dX10_turn_103 : decode cX10_turn 103 = .ok (.iinc 7 1, 3) := by decide +kernel
theorem dX10_turn_106 : decode cX10_turn 106 = .ok (.goto (-42), 3) := by decide +kernel
theorem dX10_turn_109 : decode cX10_turn 109 = .ok (.iload_n 3, 1) := by decide +kernel
theorem dX10_turn_110 : decode cX10_turn 110 = .ok (.ifCond .ne 8, 3) := by decide +kernel
theorem dX10_turn_113 : decode cX10_turn 113 = .ok (.iload 4, 2) := by decide +kernel
theorem dX10_turn_115 : decode cX10_turn 115 = .ok (.goto 5, 3) := by decide +kernel
theorem dX10_turn_118 : decode cX10_turn 118 = .ok (.iload 5, 2) := by decide +kernel
theorem dX10_turn_12 : decode cX10_turn 12 = .ok (.invokestatic 79, 3) := by decide +kernel
theorem dX10_turn_120 : decode cX10_turn 120 = .ok (.ireturn, 1) := by decide +kernel
theorem dX10_turn_15 : decode cX10_turn 15 = .ok (.ifCond .eq 12, 3) := by decide +kernel
theorem dX10_turn_18 : decode cX10_turn 18 = .ok (.iload_n 3, 1) := by decide +kernel
theorem dX10_turn_19 : decode cX10_turn 19 = .ok (.iconst 0, 1) := by decide +kernel
theorem dX10_turn_2 : decode cX10_turn 2 = .ok (.invokevirtual 123, 3) := by decide +kernel
theorem dX10_turn_20 : decode cX10_turn 20 = .ok (.iconst 1, 1) := by decide +kernel
theorem dX10_turn_21 : decode cX10_turn 21 = .ok (.invokestatic 79, 3) := by decide +kernel
theorem dX10_turn_24 : decode cX10_turn 24 = .ok (.ifCond .ne 10, 3) := by decide +kernel
theorem dX10_turn_27 : decode cX10_turn 27 = .ok (.aload_n 0, 1) := by decide +kernel
theorem dX10_turn_28 : decode cX10_turn 28 = .ok (.bipush (-2), 2) := by decide +kernel
theorem dX10_turn_30 : decode cX10_turn 30 = .ok (.invokevirtual 83, 3) := by decide +kernel
theorem dX10_turn_33 : decode cX10_turn 33 = .ok (.ireturn, 1) := by decide +kernel
theorem dX10_turn_34 : decode cX10_turn 34 = .ok (.aload_n 0, 1) := by decide +kernel
theorem dX10_turn_35 : decode cX10_turn 35 = .ok (.getfield 10, 3) := by decide +kernel
theorem dX10_turn_38 : decode cX10_turn 38 = .ok (.getfield 126, 3) := by decide +kernel
theorem dX10_turn_41 : decode cX10_turn 41 = .ok (.iload_n 1, 1) := by decide +kernel
theorem dX10_turn_42 : decode cX10_turn 42 = .ok (.aaload, 1) := by decide +kernel
theorem dX10_turn_43 : decode cX10_turn 43 = .ok (.invokevirtual 133, 3) := by decide +kernel
theorem dX10_turn_46 : decode cX10_turn 46 = .ok (.ifCond .eq 5, 3) := by decide +kernel
theorem dX10_turn_49 : decode cX10_turn 49 = .ok (.iconst (-1), 1) := by decide +kernel
theorem dX10_turn_5 : decode cX10_turn 5 = .ok (.ifCond .eq 22, 3) := by decide +kernel
theorem dX10_turn_50 : decode cX10_turn 50 = .ok (.ireturn, 1) := by decide +kernel
theorem dX10_turn_51 : decode cX10_turn 51 = .ok (.iconst (-1), 1) := by decide +kernel
theorem dX10_turn_52 : decode cX10_turn 52 = .ok (.istore 4, 2) := by decide +kernel
theorem dX10_turn_54 : decode cX10_turn 54 = .ok (.iconst (-1), 1) := by decide +kernel
theorem dX10_turn_55 : decode cX10_turn 55 = .ok (.istore 5, 2) := by decide +kernel
theorem dX10_turn_57 : decode cX10_turn 57 = .ok (.bipush 60, 2) := by decide +kernel
theorem dX10_turn_59 : decode cX10_turn 59 = .ok (.istore 6, 2) := by decide +kernel
theorem dX10_turn_61 : decode cX10_turn 61 = .ok (.iconst 0, 1) := by decide +kernel
theorem dX10_turn_62 : decode cX10_turn 62 = .ok (.istore 7, 2) := by decide +kernel
theorem dX10_turn_64 : decode cX10_turn 64 = .ok (.iload 7, 2) := by decide +kernel
theorem dX10_turn_66 : decode cX10_turn 66 = .ok (.bipush 30, 2) := by decide +kernel
theorem dX10_turn_68 : decode cX10_turn 68 = .ok (.if_icmp .gt 41, 3) := by decide +kernel
theorem dX10_turn_71 : decode cX10_turn 71 = .ok (.aload_n 0, 1) := by decide +kernel
theorem dX10_turn_72 : decode cX10_turn 72 = .ok (.iload_n 1, 1) := by decide +kernel
theorem dX10_turn_73 : decode cX10_turn 73 = .ok (.iload_n 2, 1) := by decide +kernel
theorem dX10_turn_74 : decode cX10_turn 74 = .ok (.iload 7, 2) := by decide +kernel
theorem dX10_turn_76 : decode cX10_turn 76 = .ok (.iload 6, 2) := by decide +kernel
theorem dX10_turn_78 : decode cX10_turn 78 = .ok (.invokevirtual 168, 3) := by decide +kernel
theorem dX10_turn_8 : decode cX10_turn 8 = .ok (.iload_n 2, 1) := by decide +kernel
theorem dX10_turn_81 : decode cX10_turn 81 = .ok (.istore 8, 2) := by decide +kernel
theorem dX10_turn_83 : decode cX10_turn 83 = .ok (.iload 8, 2) := by decide +kernel
theorem dX10_turn_85 : decode cX10_turn 85 = .ok (.iconst (-1), 1) := by decide +kernel
theorem dX10_turn_86 : decode cX10_turn 86 = .ok (.if_icmp .eq 17, 3) := by decide +kernel
theorem dX10_turn_89 : decode cX10_turn 89 = .ok (.iload 7, 2) := by decide +kernel
theorem dX10_turn_9 : decode cX10_turn 9 = .ok (.iconst 0, 1) := by decide +kernel
theorem dX10_turn_91 : decode cX10_turn 91 = .ok (.istore 4, 2) := by decide +kernel
theorem dX10_turn_93 : decode cX10_turn 93 = .ok (.iload 8, 2) := by decide +kernel
theorem dX10_turn_95 : decode cX10_turn 95 = .ok (.istore 5, 2) := by decide +kernel
theorem dX10_turn_97 : decode cX10_turn 97 = .ok (.iload 8, 2) := by decide +kernel
theorem dX10_turn_99 : decode cX10_turn 99 = .ok (.iconst 1, 1) := by decide +kernel
theorem in_X10_aheadOf_X10 : ∀ w ∈ wsX100, w ∈ wsX10_aheadOf := by decide +kernel
theorem lk_X10_aheadOf_10 : Cond.fieldLink RX10 10 "EggSpoons" "now" "LEggSpoons$Race;" ∈ wsX10_aheadOf := by decide +kernel
theorem in_X10_aheadOf_X5 : ∀ w ∈ wsX50, w ∈ wsX10_aheadOf := by decide +kernel
theorem lk_X10_aheadOf_87 : Cond.fieldLink RX10 87 "EggSpoons$Race" "runners" "I" ∈ wsX10_aheadOf := by decide +kernel
theorem lk_X10_aheadOf_76 : Cond.fieldLink RX10 76 "EggSpoons" "ranks" "[I" ∈ wsX10_aheadOf := by decide +kernel
set_option maxHeartbeats 4000000 in
set_option maxRecDepth 100000 in
/-- aheadOf -/
theorem s_aheadOf (l : Launch) (X : EX) (h0 : Nat) (nw : Nat) (sp : Nat) (xa : Nat → Nat) (la : Int64) (lb : Int64) (an : Nat → Nat) (sv : Nat → Int32) (dv : Nat → Int32) (n0 : Nat) (n1 : Nat) (n2 : Nat) (n3 : Nat) (n4 : Nat) (g0 : Nat → Int32) (gs : Nat → Int32) (gn : Nat → Int32) (gm : Nat → Int32) (fk : Nat → Int32) (i : Nat) (hI_n0 : n0 ≤ 6) (hI_n1 : n1 ≤ 8) (hI_n2 : n2 ≤ 5) (hI_n3 : n3 ≤ 6) (hI_n4 : n4 ≤ 6) (hi6 : i < 6) (sz : Nat) : Met l yX10_aheadOf wsX10_aheadOf ({ frames := 0, cells := 0, slots := 0, locals := 0 } : Room) (pE X [.ref h0, .int (nI i)] (@HAppend.hAppend va_W va_W va_W _ (xW h0 nw sp xa la lb) (@HAppend.hAppend va_W va_W va_W _ (rcV X nw an sv dv n0 n1 n2 n3 n4 g0 gs gn gm) ([((xa 13), .inl (X.2.1, 6, .inl fk))]))) sz) (qI (fun (r : Int32) (u : Unit) => True) X (fun (u : Unit) => []) [] sz) 0 0 (va_A [] sz) := by
  refine mk_met (B := (fun _ => True)) (A := (va_A [] sz)) (cc := cX10_aheadOf) (maxL := 4) (ret := (some .int)) (by decide) rfl (Nat.le_of_ble_eq_true rfl) k_ro k_a (fun p e s m below meth c S zr zlk znm zsz G ls hl => ?_)
  have S : CallFix p m c cX10_aheadOf 4 s _ wsX10_aheadOf RX10 := S
  have zx := S.1
  have zb := S.2.1
  have hl : lv_has ls 4 [(0, .ref h0), (1, .int (nI i))] := hl
  refine lv_iconst (v := 0) zx zb dX10_aheadOf_0 (by decide) ?_
  refine lv_istore_n (lv' := [(2, .int 0), (0, .ref h0), (1, .int (nI i))]) zx zb dX10_aheadOf_1 rfl hl (by decide) rfl (fun ls hl => ?_)
  refine lv_iconst (v := 0) zx zb dX10_aheadOf_2 (by decide) ?_
  refine lv_istore_n (lv' := [(3, .int 0), (2, .int 0), (0, .ref h0), (1, .int (nI i))]) zx zb dX10_aheadOf_3 rfl hl (by decide) rfl (fun ls hl => ?_)
  refine k_loop (P := ∀ (zm : Nat) (k4 : Nat) (x4_2 : Int32) (H : Heap) (locs : List Loc) (ls : Array Slot), 6 + 1 ≤ k4 + zm → (k4 ≤ 6) → wd X (fun _ => True) (va_A [] sz) s (@HAppend.hAppend va_W va_W va_W _ (xW h0 nw sp xa la lb) (@HAppend.hAppend va_W va_W va_W _ (rcV X nw an sv dv n0 n1 n2 n3 n4 g0 gs gn gm) ([((xa 13), .inl (X.2.1, 6, .inl fk))]))) H locs → lv_has ls 4 [(3, .int (nI k4)), (2, .int x4_2), (0, .ref h0), (1, .int (nI i))] → W p l e _ s m _ below meth c H locs _ _ _ (F0 m 4 ls [])) (fun loop => loop (6 + 1) 0 0 _ _ _ (by omega) (by omega) G hl) ?_
  intro zm
  induction zm with
  | zero => intro k4 x4_2 H locs ls zz q_hk_k4 _ _; exact absurd zz (by omega)
  | succ zm ih4 =>
    intro k4 x4_2 H locs ls zm_4 hk_k4 G hl
    refine lv_iload_n zx zb dX10_aheadOf_4 rfl (lv_at hl 0 rfl) ?_
    refine lv_aload_n zx zb dX10_aheadOf_5 rfl (lv_at hl 2 rfl) ?_
    refine r_get (C := RX10) (T := TX10) (N := 14) (ci := 8) (v := .ref nw) S in_X10_aheadOf_X10 G 0 rfl rfl 0 (by decide) lk_X10_aheadOf_10 rfl dX10_aheadOf_6 ?_
    refine r_get (C := RX5) (T := TX5) (N := 8) (ci := 3) (v := .int (nI n0)) S in_X10_aheadOf_X5 G 1 rfl rfl 2 (by decide) lk_X10_aheadOf_87 rfl dX10_aheadOf_9 ?_
    refine lv_icmp_ge (tgt := 59) zx zb dX10_aheadOf_12 (by decide) (fun c_1 => ?_) (fun c_1 => ?_)
    · have fc_1 := j_le (a := n0) (b := k4) (by omega) (by omega) c_1
      refine lv_iload_n zx zb dX10_aheadOf_59 rfl (lv_at hl 1 rfl) ?_
      exact e_int S zr zlk (vp_nar_int _) G () [] rfl rfl (Or.inl rfl) (trivial) dX10_aheadOf_60
    · have fc_1 := j_nle (a := n0) (b := k4) (by omega) (by omega) c_1
      refine lv_aload_n zx zb dX10_aheadOf_15 rfl (lv_at hl 2 rfl) ?_
      refine r_get (C := RX10) (T := TX10) (N := 14) (ci := 8) (v := .ref (xa 13)) S in_X10_aheadOf_X10 G 0 rfl rfl 13 (by decide) lk_X10_aheadOf_76 rfl dX10_aheadOf_16 ?_
      refine lv_iload_n zx zb dX10_aheadOf_19 rfl (lv_at hl 0 rfl) ?_
      refine r_iald S G 17 rfl (vp_in_nI (by omega) (by decide)) rfl dX10_aheadOf_20 ?_
      refine k_itE (fun y_2 => ?_)
      refine lv_aload_n zx zb dX10_aheadOf_21 rfl (lv_at hl 2 rfl) ?_
      refine r_get (C := RX10) (T := TX10) (N := 14) (ci := 8) (v := .ref (xa 13)) S in_X10_aheadOf_X10 G 0 rfl rfl 13 (by decide) lk_X10_aheadOf_76 rfl dX10_aheadOf_22 ?_
      refine lv_iload_n zx zb dX10_aheadOf_25 rfl (lv_at hl 3 rfl) ?_
      refine r_iald S G 17 rfl (vp_in_nI (by omega) (by decide)) rfl dX10_aheadOf_26 ?_
      refine k_itE (fun y_3 => ?_)
      refine k_cutW (PP := fun Wx => ∀ (x_5 : Int32) (H : Heap) (locs : List Loc) (ls : Array Slot), wd X (fun _ => True) (va_A [] sz) s (@HAppend.hAppend va_W va_W va_W _ (xW h0 nw sp xa la lb) (@HAppend.hAppend va_W va_W va_W _ (rcV X nw an sv dv n0 n1 n2 n3 n4 g0 gs gn gm) ([((xa 13), .inl (X.2.1, 6, .inl fk))]))) H locs → lv_has ls 4 [(2, .int x_5), (3, .int (nI k4)), (0, .ref h0), (1, .int (nI i))] → Wx (F0 m 53 ls []) H locs) ?_ ?_
      · intro join_27
        refine lv_icmp_lt (tgt := 50) zx zb dX10_aheadOf_27 (by decide) (fun c_4 => ?_) (fun c_4 => ?_)
        · refine lv_iinc (v := (x4_2 + 1)) (lv' := [(2, .int (x4_2 + 1)), (3, .int (nI k4)), (0, .ref h0), (1, .int (nI i))]) zx zb dX10_aheadOf_50 hl (k := 1) rfl rfl (by decide) rfl (fun ls hl => ?_)
          exact join_27 (x4_2 + 1) _ _ _  G hl
        · refine lv_aload_n zx zb dX10_aheadOf_30 rfl (lv_at hl 2 rfl) ?_
          refine r_get (C := RX10) (T := TX10) (N := 14) (ci := 8) (v := .ref (xa 13)) S in_X10_aheadOf_X10 G 0 rfl rfl 13 (by decide) lk_X10_aheadOf_76 rfl dX10_aheadOf_31 ?_
          refine lv_iload_n zx zb dX10_aheadOf_34 rfl (lv_at hl 0 rfl) ?_
          refine r_iald S G 17 rfl (vp_in_nI (by omega) (by decide)) rfl dX10_aheadOf_35 ?_
          refine k_itE (fun y_6 => ?_)
          refine lv_aload_n zx zb dX10_aheadOf_36 rfl (lv_at hl 2 rfl) ?_
          refine r_get (C := RX10) (T := TX10) (N := 14) (ci := 8) (v := .ref (xa 13)) S in_X10_aheadOf_X10 G 0 rfl rfl 13 (by decide) lk_X10_aheadOf_76 rfl dX10_aheadOf_37 ?_
          refine lv_iload_n zx zb dX10_aheadOf_40 rfl (lv_at hl 3 rfl) ?_
          refine r_iald S G 17 rfl (vp_in_nI (by omega) (by decide)) rfl dX10_aheadOf_41 ?_
          refine k_itE (fun y_7 => ?_)
          refine lv_icmp_ne (tgt := 53) zx zb dX10_aheadOf_42 (by decide) (fun c_8 => ?_) (fun c_8 => ?_)
          · have hl := lv_sub hl (l' := [(2, .int x4_2), (3, .int (nI k4)), (0, .ref h0), (1, .int (nI i))]) [1, 0, 2, 3] rfl
            exact join_27 x4_2 _ _ _  G hl
          · refine lv_iload_n zx zb dX10_aheadOf_45 rfl (lv_at hl 0 rfl) ?_
            refine lv_iload_n zx zb dX10_aheadOf_46 rfl (lv_at hl 3 rfl) ?_
            refine lv_icmp_ge (tgt := 53) zx zb dX10_aheadOf_47 (by decide) (fun c_9 => ?_) (fun c_9 => ?_)
            · have fc_9 := j_le (a := i) (b := k4) (by omega) (by omega) c_9
              have hl := lv_sub hl (l' := [(2, .int x4_2), (3, .int (nI k4)), (0, .ref h0), (1, .int (nI i))]) [1, 0, 2, 3] rfl
              exact join_27 x4_2 _ _ _  G hl
            · have fc_9 := j_nle (a := i) (b := k4) (by omega) (by omega) c_9
              refine lv_iinc (v := (x4_2 + 1)) (lv' := [(2, .int (x4_2 + 1)), (3, .int (nI k4)), (0, .ref h0), (1, .int (nI i))]) zx zb dX10_aheadOf_50 hl (k := 1) rfl rfl (by decide) rfl (fun ls hl => ?_)
              exact join_27 (x4_2 + 1) _ _ _  G hl
      · intro x_5 H locs ls  G hl
        refine lv_iinc (v := (nI (k4 + 1))) (lv' := [(3, .int (nI (k4 + 1))), (2, .int x_5), (0, .ref h0), (1, .int (nI i))]) zx zb dX10_aheadOf_53 hl (k := 1) rfl (nI_add k4 1) (by decide) rfl (fun ls hl => ?_)
        refine lv_goto (tgt := 4) zx zb dX10_aheadOf_56 (by decide) ?_
        exact ih4 (k4 + 1) x_5 _ _ _ (by omega) (by omega) G hl
theorem in_X10_order_X10 : ∀ w ∈ wsX100, w ∈ wsX10_order := by decide +kernel
theorem lk_X10_order_10 : Cond.fieldLink RX10 10 "EggSpoons" "now" "LEggSpoons$Race;" ∈ wsX10_order := by decide +kernel
theorem in_X10_order_X5 : ∀ w ∈ wsX50, w ∈ wsX10_order := by decide +kernel
theorem lk_X10_order_87 : Cond.fieldLink RX10 87 "EggSpoons$Race" "runners" "I" ∈ wsX10_order := by decide +kernel
theorem hdV_X10_rankAll : yX10_rankAll.cls = RX10 ∧ yX10_rankAll.cls ≠ "java/lang/invoke/MethodHandle" ∧ yX10_rankAll.cls ≠ "java/lang/invoke/VarHandle" ∧ (parseMethodDescriptor yX10_rankAll.desc).map (fun d => d.parameters.length) = some 0 := by decide +kernel
theorem hdV_X10_aheadOf : yX10_aheadOf.cls = RX10 ∧ yX10_aheadOf.cls ≠ "java/lang/invoke/MethodHandle" ∧ yX10_aheadOf.cls ≠ "java/lang/invoke/VarHandle" ∧ (parseMethodDescriptor yX10_aheadOf.desc).map (fun d => d.parameters.length) = some 1 := by decide +kernel
set_option maxHeartbeats 4000000 in
set_option maxRecDepth 100000 in
/-- order -/
theorem s_order (l : Launch) (X : EX) (h0 : Nat) (nw : Nat) (sp : Nat) (xa : Nat → Nat) (la : Int64) (lb : Int64) (an : Nat → Nat) (sv : Nat → Int32) (dv : Nat → Int32) (n0 : Nat) (n1 : Nat) (n2 : Nat) (n3 : Nat) (n4 : Nat) (g0 : Nat → Int32) (gs : Nat → Int32) (gn : Nat → Int32) (gm : Nat → Int32) (ag : Nat → Int32) (dg : Nat → Int32) (fk : Nat → Int32) (fr : Nat → Int32) (x1 : Int32) (hI_n0 : n0 ≤ 6) (hI_n1 : n1 ≤ 8) (hI_n2 : n2 ≤ 5) (hI_n3 : n3 ≤ 6) (hI_n4 : n4 ≤ 6) (sz : Nat) : Met l yX10_order wsX10_order ({ frames := 5, cells := 0, slots := 0, locals := 119 } : Room) (pE X [.ref h0, .int x1] (@HAppend.hAppend va_W va_W va_W _ (xW h0 nw sp xa la lb) (@HAppend.hAppend va_W va_W va_W _ (rcV X nw an sv dv n0 n1 n2 n3 n4 g0 gs gn gm) (@HAppend.hAppend va_W va_W va_W _ (rnV (xa 8) ag dg) (@HAppend.hAppend va_W va_W va_W _ ([((xa 13), .inl (X.2.1, 6, .inl fk))]) ([((xa 5), .inl (X.2.1, 3, .inl fr))]))))) sz) (qI (fun (r : Int32) (u : (Nat → Int32) × (Nat → Int32) × (Nat → Int32) × (Nat → Int32)) => (True)) X (fun (u : (Nat → Int32) × (Nat → Int32) × (Nat → Int32) × (Nat → Int32)) => @HAppend.hAppend va_W va_W va_W _ (xW h0 nw sp xa la lb) (@HAppend.hAppend va_W va_W va_W _ (rcV X nw an sv dv n0 n1 n2 n3 n4 g0 gs gn gm) (@HAppend.hAppend va_W va_W va_W _ (rnV (xa 8) u.1 u.2.1) (@HAppend.hAppend va_W va_W va_W _ ([((xa 13), .inl (X.2.1, 6, .inl u.2.2.1))]) ([((xa 5), .inl (X.2.1, 3, .inl u.2.2.2))]))))) (@HAppend.hAppend va_W va_W va_W _ (xW h0 nw sp xa la lb) (@HAppend.hAppend va_W va_W va_W _ (rcV X nw an sv dv n0 n1 n2 n3 n4 g0 gs gn gm) (@HAppend.hAppend va_W va_W va_W _ (rnV (xa 8) ag dg) (@HAppend.hAppend va_W va_W va_W _ ([((xa 13), .inl (X.2.1, 6, .inl fk))]) ([((xa 5), .inl (X.2.1, 3, .inl fr))]))))) sz) 0 0 (va_A (@HAppend.hAppend va_W va_W va_W _ (xW h0 nw sp xa la lb) (@HAppend.hAppend va_W va_W va_W _ (rcV X nw an sv dv n0 n1 n2 n3 n4 g0 gs gn gm) (@HAppend.hAppend va_W va_W va_W _ (rnV (xa 8) ag dg) (@HAppend.hAppend va_W va_W va_W _ ([((xa 13), .inl (X.2.1, 6, .inl fk))]) ([((xa 5), .inl (X.2.1, 3, .inl fr))]))))) sz) := by
  refine mk_met (B := (va_A (@HAppend.hAppend va_W va_W va_W _ (xW h0 nw sp xa la lb) (@HAppend.hAppend va_W va_W va_W _ (rcV X nw an sv dv n0 n1 n2 n3 n4 g0 gs gn gm) (@HAppend.hAppend va_W va_W va_W _ (rnV (xa 8) ag dg) (@HAppend.hAppend va_W va_W va_W _ ([((xa 13), .inl (X.2.1, 6, .inl fk))]) ([((xa 5), .inl (X.2.1, 3, .inl fr))]))))) sz)) (A := (va_A (@HAppend.hAppend va_W va_W va_W _ (xW h0 nw sp xa la lb) (@HAppend.hAppend va_W va_W va_W _ (rcV X nw an sv dv n0 n1 n2 n3 n4 g0 gs gn gm) (@HAppend.hAppend va_W va_W va_W _ (rnV (xa 8) ag dg) (@HAppend.hAppend va_W va_W va_W _ ([((xa 13), .inl (X.2.1, 6, .inl fk))]) ([((xa 5), .inl (X.2.1, 3, .inl fr))]))))) sz)) (cc := cX10_order) (maxL := 3) (ret := (some .int)) (by decide) rfl (Nat.le_of_ble_eq_true rfl) k_w k_a (fun p e s m below meth c S zr zlk znm zsz G ls hl => ?_)
  have S : CallFix p m c cX10_order 3 s _ wsX10_order RX10 := S
  have zx := S.1
  have zb := S.2.1
  have hl : lv_has ls 3 [(0, .ref h0), (1, .int x1)] := hl
  refine lv_iload_n zx zb dX10_order_0 rfl (lv_at hl 1 rfl) ?_
  refine lv_if_ge (tgt := 11) zx zb dX10_order_1 (by decide) (fun c_1 => ?_) (fun c_1 => ?_)
  · refine lv_iload_n zx zb dX10_order_11 rfl (lv_at hl 1 rfl) ?_
    refine lv_aload_n zx zb dX10_order_12 rfl (lv_at hl 0 rfl) ?_
    refine r_get (C := RX10) (T := TX10) (N := 14) (ci := 8) (v := .ref nw) S in_X10_order_X10 G 0 rfl rfl 0 (by decide) lk_X10_order_10 rfl dX10_order_13 ?_
    refine r_get (C := RX5) (T := TX5) (N := 8) (ci := 3) (v := .int (nI n0)) S in_X10_order_X5 G 1 rfl rfl 2 (by decide) lk_X10_order_87 rfl dX10_order_16 ?_
    refine lv_icmp_lt (tgt := 29) zx zb dX10_order_19 (by decide) (fun c_2 => ?_) (fun c_2 => ?_)
    · refine lv_aload_n zx zb dX10_order_29 rfl (lv_at hl 0 rfl) ?_
      refine b_wv (cells' := 0) (slots' := 0) (wr := [((xa 5), .inl (X.2.1, 3, .inl fr))]) G rfl rfl [0, 1, 2, 3, 4, 5, 6, 7, 8, 9, 10, 11, 12, 13, 14, 15, 16, 17, 18] [19] rfl rfl rfl rfl (n_V (As := []) (rest := []) (C := RX10) (T := TX10) (N := 14) (ci := 8) S G (s_rankAll l X h0 nw sp xa la lb an sv dv n0 n1 n2 n3 n4 g0 gs gn gm ag dg fk hI_n0 hI_n1 hI_n2 hI_n3 hI_n4 s.heap.size) gX10_order_X10_rankAll rfl rfl rfl hdV_X10_rankAll ⟨Nat.le_of_ble_eq_true rfl, Nat.le_of_ble_eq_true rfl⟩ [0, 1, 2, 3, 4, 5, 6, 7, 8, 9, 10, 11, 12, 13, 14, 15, 16, 17, 18] rfl rfl 0 rfl rfl rfl hl.1 (Nat.le_of_ble_eq_true rfl) dX10_order_30 ⟨Nat.le_of_ble_eq_true rfl, Nat.le_of_ble_eq_true rfl⟩) (fun u_3 H locs hp_3 G => ?_)
      obtain ⟨a_3a, d_3b, f_3c⟩ := u_3
      have hq_3 := hp_3
      have G : wd X (va_A (@HAppend.hAppend va_W va_W va_W _ (xW h0 nw sp xa la lb) (@HAppend.hAppend va_W va_W va_W _ (rcV X nw an sv dv n0 n1 n2 n3 n4 g0 gs gn gm) (@HAppend.hAppend va_W va_W va_W _ (rnV (xa 8) ag dg) (@HAppend.hAppend va_W va_W va_W _ ([((xa 13), .inl (X.2.1, 6, .inl fk))]) ([((xa 5), .inl (X.2.1, 3, .inl fr))]))))) sz) (va_A (@HAppend.hAppend va_W va_W va_W _ (xW h0 nw sp xa la lb) (@HAppend.hAppend va_W va_W va_W _ (rcV X nw an sv dv n0 n1 n2 n3 n4 g0 gs gn gm) (@HAppend.hAppend va_W va_W va_W _ (rnV (xa 8) ag dg) (@HAppend.hAppend va_W va_W va_W _ ([((xa 13), .inl (X.2.1, 6, .inl fk))]) ([((xa 5), .inl (X.2.1, 3, .inl fr))]))))) sz) s (@HAppend.hAppend va_W va_W va_W _ ([((xa 5), .inl (X.2.1, 3, .inl fr))]) (@HAppend.hAppend va_W va_W va_W _ (xW h0 nw sp xa la lb) (@HAppend.hAppend va_W va_W va_W _ (rcV X nw an sv dv n0 n1 n2 n3 n4 g0 gs gn gm) (@HAppend.hAppend va_W va_W va_W _ (rnV (xa 8) a_3a d_3b) ([((xa 13), .inl (X.2.1, 6, .inl f_3c))]))))) H locs := G
      refine lv_iconst (v := 0) zx zb dX10_order_33 (by decide) ?_
      refine lv_istore_n (lv' := [(2, .int 0), (0, .ref h0), (1, .int x1)]) zx zb dX10_order_34 rfl hl (by decide) rfl (fun ls hl => ?_)
      refine k_loop (P := ∀ (zm : Nat) (k35 : Nat) (H : Heap) (locs : List Loc) (ls : Array Slot), 6 + 1 ≤ k35 + zm → (k35 ≤ 6) → wd X (va_A (@HAppend.hAppend va_W va_W va_W _ (xW h0 nw sp xa la lb) (@HAppend.hAppend va_W va_W va_W _ (rcV X nw an sv dv n0 n1 n2 n3 n4 g0 gs gn gm) (@HAppend.hAppend va_W va_W va_W _ (rnV (xa 8) ag dg) (@HAppend.hAppend va_W va_W va_W _ ([((xa 13), .inl (X.2.1, 6, .inl fk))]) ([((xa 5), .inl (X.2.1, 3, .inl fr))]))))) sz) (va_A (@HAppend.hAppend va_W va_W va_W _ (xW h0 nw sp xa la lb) (@HAppend.hAppend va_W va_W va_W _ (rcV X nw an sv dv n0 n1 n2 n3 n4 g0 gs gn gm) (@HAppend.hAppend va_W va_W va_W _ (rnV (xa 8) ag dg) (@HAppend.hAppend va_W va_W va_W _ ([((xa 13), .inl (X.2.1, 6, .inl fk))]) ([((xa 5), .inl (X.2.1, 3, .inl fr))]))))) sz) s (@HAppend.hAppend va_W va_W va_W _ ([((xa 5), .inl (X.2.1, 3, .inl fr))]) (@HAppend.hAppend va_W va_W va_W _ (xW h0 nw sp xa la lb) (@HAppend.hAppend va_W va_W va_W _ (rcV X nw an sv dv n0 n1 n2 n3 n4 g0 gs gn gm) (@HAppend.hAppend va_W va_W va_W _ (rnV (xa 8) a_3a d_3b) ([((xa 13), .inl (X.2.1, 6, .inl f_3c))]))))) H locs → lv_has ls 3 [(2, .int (nI k35)), (0, .ref h0), (1, .int x1)] → W p l e _ s m _ below meth c H locs _ _ _ (F0 m 35 ls [])) (fun loop => loop (6 + 1) 0 _ _ _ (by omega) (by omega) G hl) ?_
      intro zm
      induction zm with
      | zero => intro k35 H locs ls zz q_hk_k35 _ _; exact absurd zz (by omega)
      | succ zm ih35 =>
        intro k35 H locs ls zm_35 hk_k35 G hl
        refine lv_iload_n zx zb dX10_order_35 rfl (lv_at hl 0 rfl) ?_
        refine lv_aload_n zx zb dX10_order_36 rfl (lv_at hl 1 rfl) ?_
        refine r_get (C := RX10) (T := TX10) (N := 14) (ci := 8) (v := .ref nw) S in_X10_order_X10 G 1 rfl rfl 0 (by decide) lk_X10_order_10 rfl dX10_order_37 ?_
        refine r_get (C := RX5) (T := TX5) (N := 8) (ci := 3) (v := .int (nI n0)) S in_X10_order_X5 G 2 rfl rfl 2 (by decide) lk_X10_order_87 rfl dX10_order_40 ?_
        refine lv_icmp_ge (tgt := 63) zx zb dX10_order_43 (by decide) (fun c_4 => ?_) (fun c_4 => ?_)
        · have fc_4 := j_le (a := n0) (b := k35) (by omega) (by omega) c_4
          refine lv_iconst (v := (-1)) zx zb dX10_order_63 (by decide) ?_
          exact e_int S zr zlk (vp_nar_int _) G (a_3a, d_3b, f_3c, fr) [1, 2, 3, 4, 5, 6, 7, 8, 9, 10, 11, 12, 13, 14, 15, 16, 17, 18, 19, 0] rfl rfl (Or.inr rfl) (trivial) dX10_order_64
        · have fc_4 := j_nle (a := n0) (b := k35) (by omega) (by omega) c_4
          refine lv_aload_n zx zb dX10_order_46 rfl (lv_at hl 1 rfl) ?_
          refine lv_iload_n zx zb dX10_order_47 rfl (lv_at hl 0 rfl) ?_
          refine o_ri (cells' := 0) (slots' := 0) G rfl rfl (n_V (As := [.int (nI k35)]) (rest := []) (C := RX10) (T := TX10) (N := 14) (ci := 8) S G (s_aheadOf l X h0 nw sp xa la lb an sv dv n0 n1 n2 n3 n4 g0 gs gn gm f_3c k35 hI_n0 hI_n1 hI_n2 hI_n3 hI_n4 (by omega) H.size) gX10_order_X10_aheadOf rfl rfl rfl hdV_X10_aheadOf ⟨Nat.le_of_ble_eq_true rfl, Nat.le_of_ble_eq_true rfl⟩ [1, 2, 3, 4, 5, 6, 7, 8, 9, 10, 11, 12, 13, 14, 15, 16, 17, 19] rfl rfl 1 rfl rfl rfl hl.1 (Nat.le_of_ble_eq_true rfl) dX10_order_48 ⟨Nat.le_of_ble_eq_true rfl, Nat.le_of_ble_eq_true rfl⟩) (fun r_5 u_5 H locs hp_5 G => ?_)
          have G : wd X (va_A (@HAppend.hAppend va_W va_W va_W _ (xW h0 nw sp xa la lb) (@HAppend.hAppend va_W va_W va_W _ (rcV X nw an sv dv n0 n1 n2 n3 n4 g0 gs gn gm) (@HAppend.hAppend va_W va_W va_W _ (rnV (xa 8) ag dg) (@HAppend.hAppend va_W va_W va_W _ ([((xa 13), .inl (X.2.1, 6, .inl fk))]) ([((xa 5), .inl (X.2.1, 3, .inl fr))]))))) sz) (va_A (@HAppend.hAppend va_W va_W va_W _ (xW h0 nw sp xa la lb) (@HAppend.hAppend va_W va_W va_W _ (rcV X nw an sv dv n0 n1 n2 n3 n4 g0 gs gn gm) (@HAppend.hAppend va_W va_W va_W _ (rnV (xa 8) ag dg) (@HAppend.hAppend va_W va_W va_W _ ([((xa 13), .inl (X.2.1, 6, .inl fk))]) ([((xa 5), .inl (X.2.1, 3, .inl fr))]))))) sz) s (@HAppend.hAppend va_W va_W va_W _ ([((xa 5), .inl (X.2.1, 3, .inl fr))]) (@HAppend.hAppend va_W va_W va_W _ (xW h0 nw sp xa la lb) (@HAppend.hAppend va_W va_W va_W _ (rcV X nw an sv dv n0 n1 n2 n3 n4 g0 gs gn gm) (@HAppend.hAppend va_W va_W va_W _ (rnV (xa 8) a_3a d_3b) ([((xa 13), .inl (X.2.1, 6, .inl f_3c))]))))) H locs := G
          refine lv_iload_n zx zb dX10_order_51 rfl (lv_at hl 2 rfl) ?_
          refine lv_icmp_ne (tgt := 57) zx zb dX10_order_52 (by decide) (fun c_6 => ?_) (fun c_6 => ?_)
          · refine lv_iinc (v := (nI (k35 + 1))) (lv' := [(2, .int (nI (k35 + 1))), (0, .ref h0), (1, .int x1)]) zx zb dX10_order_57 hl (k := 0) rfl (nI_add k35 1) (by decide) rfl (fun ls hl => ?_)
            refine lv_goto (tgt := 35) zx zb dX10_order_60 (by decide) ?_
            exact ih35 (k35 + 1) _ _ _ (by omega) (by omega) G hl
          · refine lv_iload_n zx zb dX10_order_55 rfl (lv_at hl 0 rfl) ?_
            exact e_int S zr zlk (vp_nar_int _) G (a_3a, d_3b, f_3c, fr) [1, 2, 3, 4, 5, 6, 7, 8, 9, 10, 11, 12, 13, 14, 15, 16, 17, 18, 19, 0] rfl rfl (Or.inr rfl) (trivial) dX10_order_56
    · refine lv_aload_n zx zb dX10_order_22 rfl (lv_at hl 0 rfl) ?_
      refine lv_bipush (v := (-3)) zx zb dX10_order_23 (by decide) ?_
      refine b_wi (cells' := 0) (slots' := 0) (wr := @HAppend.hAppend va_W va_W va_W _ (rcV X nw an sv dv n0 n1 n2 n3 n4 g0 gs gn gm) (@HAppend.hAppend va_W va_W va_W _ (rnV (xa 8) ag dg) ([((xa 13), .inl (X.2.1, 6, .inl fk))]))) G rfl rfl [0, 19] [1, 2, 3, 4, 5, 6, 7, 8, 9, 10, 11, 12, 13, 14, 15, 16, 17, 18] rfl rfl rfl rfl (n_V (As := [.int (-3)]) (rest := []) (C := RX10) (T := TX10) (N := 14) (ci := 8) S G (s_refuse l X h0 nw sp xa la lb fr (-3) s.heap.size) gX10_order_X10_refuse rfl rfl rfl hdV_X10_refuse ⟨Nat.le_of_ble_eq_true rfl, Nat.le_of_ble_eq_true rfl⟩ [0, 19] rfl rfl 0 rfl rfl rfl hl.1 (Nat.le_of_ble_eq_true rfl) dX10_order_25 ⟨Nat.le_of_ble_eq_true rfl, Nat.le_of_ble_eq_true rfl⟩) (fun r_7 u_7 H locs hp_7 G => ?_)
      obtain ⟨f_7, rfl⟩ : ∃ z, z = u_7 := ⟨_, rfl⟩
      have hq_7 := hp_7
      have G : wd X (va_A (@HAppend.hAppend va_W va_W va_W _ (xW h0 nw sp xa la lb) (@HAppend.hAppend va_W va_W va_W _ (rcV X nw an sv dv n0 n1 n2 n3 n4 g0 gs gn gm) (@HAppend.hAppend va_W va_W va_W _ (rnV (xa 8) ag dg) (@HAppend.hAppend va_W va_W va_W _ ([((xa 13), .inl (X.2.1, 6, .inl fk))]) ([((xa 5), .inl (X.2.1, 3, .inl fr))]))))) sz) (va_A (@HAppend.hAppend va_W va_W va_W _ (xW h0 nw sp xa la lb) (@HAppend.hAppend va_W va_W va_W _ (rcV X nw an sv dv n0 n1 n2 n3 n4 g0 gs gn gm) (@HAppend.hAppend va_W va_W va_W _ (rnV (xa 8) ag dg) (@HAppend.hAppend va_W va_W va_W _ ([((xa 13), .inl (X.2.1, 6, .inl fk))]) ([((xa 5), .inl (X.2.1, 3, .inl fr))]))))) sz) s (@HAppend.hAppend va_W va_W va_W _ (rcV X nw an sv dv n0 n1 n2 n3 n4 g0 gs gn gm) (@HAppend.hAppend va_W va_W va_W _ (rnV (xa 8) ag dg) (@HAppend.hAppend va_W va_W va_W _ ([((xa 13), .inl (X.2.1, 6, .inl fk))]) (@HAppend.hAppend va_W va_W va_W _ (xW h0 nw sp xa la lb) ([((xa 5), .inl (X.2.1, 3, .inl f_7))]))))) H locs := G
      exact e_int S zr zlk (vp_nar_int _) G (ag, dg, fk, f_7) [18, 0, 1, 2, 3, 4, 5, 6, 7, 8, 9, 10, 11, 12, 13, 14, 15, 16, 17, 19] rfl rfl (Or.inr rfl) (trivial) dX10_order_28
  · refine lv_aload_n zx zb dX10_order_4 rfl (lv_at hl 0 rfl) ?_
    refine lv_bipush (v := (-2)) zx zb dX10_order_5 (by decide) ?_
    refine b_wi (cells' := 0) (slots' := 0) (wr := @HAppend.hAppend va_W va_W va_W _ (rcV X nw an sv dv n0 n1 n2 n3 n4 g0 gs gn gm) (@HAppend.hAppend va_W va_W va_W _ (rnV (xa 8) ag dg) ([((xa 13), .inl (X.2.1, 6, .inl fk))]))) G rfl rfl [0, 19] [1, 2, 3, 4, 5, 6, 7, 8, 9, 10, 11, 12, 13, 14, 15, 16, 17, 18] rfl rfl rfl rfl (n_V (As := [.int (-2)]) (rest := []) (C := RX10) (T := TX10) (N := 14) (ci := 8) S G (s_refuse l X h0 nw sp xa la lb fr (-2) s.heap.size) gX10_order_X10_refuse rfl rfl rfl hdV_X10_refuse ⟨Nat.le_of_ble_eq_true rfl, Nat.le_of_ble_eq_true rfl⟩ [0, 19] rfl rfl 0 rfl rfl rfl hl.1 (Nat.le_of_ble_eq_true rfl) dX10_order_7 ⟨Nat.le_of_ble_eq_true rfl, Nat.le_of_ble_eq_true rfl⟩) (fun r_8 u_8 H locs hp_8 G => ?_)
    obtain ⟨f_8, rfl⟩ : ∃ z, z = u_8 := ⟨_, rfl⟩
    have hq_8 := hp_8
    have G : wd X (va_A (@HAppend.hAppend va_W va_W va_W _ (xW h0 nw sp xa la lb) (@HAppend.hAppend va_W va_W va_W _ (rcV X nw an sv dv n0 n1 n2 n3 n4 g0 gs gn gm) (@HAppend.hAppend va_W va_W va_W _ (rnV (xa 8) ag dg) (@HAppend.hAppend va_W va_W va_W _ ([((xa 13), .inl (X.2.1, 6, .inl fk))]) ([((xa 5), .inl (X.2.1, 3, .inl fr))]))))) sz) (va_A (@HAppend.hAppend va_W va_W va_W _ (xW h0 nw sp xa la lb) (@HAppend.hAppend va_W va_W va_W _ (rcV X nw an sv dv n0 n1 n2 n3 n4 g0 gs gn gm) (@HAppend.hAppend va_W va_W va_W _ (rnV (xa 8) ag dg) (@HAppend.hAppend va_W va_W va_W _ ([((xa 13), .inl (X.2.1, 6, .inl fk))]) ([((xa 5), .inl (X.2.1, 3, .inl fr))]))))) sz) s (@HAppend.hAppend va_W va_W va_W _ (rcV X nw an sv dv n0 n1 n2 n3 n4 g0 gs gn gm) (@HAppend.hAppend va_W va_W va_W _ (rnV (xa 8) ag dg) (@HAppend.hAppend va_W va_W va_W _ ([((xa 13), .inl (X.2.1, 6, .inl fk))]) (@HAppend.hAppend va_W va_W va_W _ (xW h0 nw sp xa la lb) ([((xa 5), .inl (X.2.1, 3, .inl f_8))]))))) H locs := G
    exact e_int S zr zlk (vp_nar_int _) G (ag, dg, fk, f_8) [18, 0, 1, 2, 3, 4, 5, 6, 7, 8, 9, 10, 11, 12, 13, 14, 15, 16, 17, 19] rfl rfl (Or.inr rfl) (trivial) dX10_order_10
theorem in_X10_best_X10 : ∀ w ∈ wsX100, w ∈ wsX10_best := by decide +kernel
theorem lk_X10_best_10 : Cond.fieldLink RX10 10 "EggSpoons" "now" "LEggSpoons$Race;" ∈ wsX10_best := by decide +kernel
theorem in_X10_best_X5 : ∀ w ∈ wsX50, w ∈ wsX10_best := by decide +kernel
theorem lk_X10_best_126 : Cond.fieldLink RX10 126 "EggSpoons$Race" "row" "[LEggSpoons$Runner;" ∈ wsX10_best := by decide +kernel
theorem lk_X10_best_48 : Cond.fieldLink RX10 48 "EggSpoons" "ghost" "LEggSpoons$Runner;" ∈ wsX10_best := by decide +kernel
theorem in_X10_best_X8 : ∀ w ∈ wsX80, w ∈ wsX10_best := by decide +kernel
theorem lk_X10_best_130 : Cond.fieldLink RX10 130 "EggSpoons$Runner" "speed" "I" ∈ wsX10_best := by decide +kernel
theorem lk_X10_best_110 : Cond.fieldLink RX10 110 "EggSpoons$Race" "tick" "I" ∈ wsX10_best := by decide +kernel
theorem lk_X10_best_140 : Cond.fieldLink RX10 140 "EggSpoons$Race" "length" "I" ∈ wsX10_best := by decide +kernel
set_option maxHeartbeats 4000000 in
set_option maxRecDepth 100000 in
/-- best -/
theorem s_best (l : Launch) (X : EX) (h0 : Nat) (nw : Nat) (sp : Nat) (xa : Nat → Nat) (la : Int64) (lb : Int64) (an : Nat → Nat) (sv : Nat → Int32) (dv : Nat → Int32) (n0 : Nat) (n1 : Nat) (n2 : Nat) (n3 : Nat) (n4 : Nat) (g0 : Nat → Int32) (gs : Nat → Int32) (gn : Nat → Int32) (gm : Nat → Int32) (ag : Nat → Int32) (dg : Nat → Int32) (fr : Nat → Int32) (x1 : Int32) (x2 : Int32) (hI_n0 : n0 ≤ 6) (hI_n1 : n1 ≤ 8) (hI_n2 : n2 ≤ 5) (hI_n3 : n3 ≤ 6) (hI_n4 : n4 ≤ 6) (sz : Nat) : Met l yX10_best wsX10_best ({ frames := 3, cells := 0, slots := 0, locals := 73 } : Room) (pE X [.ref h0, .int x1, .int x2] (@HAppend.hAppend va_W va_W va_W _ (xW h0 nw sp xa la lb) (@HAppend.hAppend va_W va_W va_W _ (rcV X nw an sv dv n0 n1 n2 n3 n4 g0 gs gn gm) (@HAppend.hAppend va_W va_W va_W _ (rnV (xa 8) ag dg) ([((xa 5), .inl (X.2.1, 3, .inl fr))])))) sz) (qI (fun (r : Int32) (u : (Nat → Int32) × (Nat → Int32) × (Nat → Int32)) => (True)) X (fun (u : (Nat → Int32) × (Nat → Int32) × (Nat → Int32)) => @HAppend.hAppend va_W va_W va_W _ (xW h0 nw sp xa la lb) (@HAppend.hAppend va_W va_W va_W _ (rcV X nw an sv dv n0 n1 n2 n3 n4 g0 gs gn gm) (@HAppend.hAppend va_W va_W va_W _ (rnV (xa 8) u.1 u.2.1) ([((xa 5), .inl (X.2.1, 3, .inl u.2.2))])))) (@HAppend.hAppend va_W va_W va_W _ (xW h0 nw sp xa la lb) (@HAppend.hAppend va_W va_W va_W _ (rcV X nw an sv dv n0 n1 n2 n3 n4 g0 gs gn gm) (@HAppend.hAppend va_W va_W va_W _ (rnV (xa 8) ag dg) ([((xa 5), .inl (X.2.1, 3, .inl fr))])))) sz) 0 0 (va_A (@HAppend.hAppend va_W va_W va_W _ (xW h0 nw sp xa la lb) (@HAppend.hAppend va_W va_W va_W _ (rcV X nw an sv dv n0 n1 n2 n3 n4 g0 gs gn gm) (@HAppend.hAppend va_W va_W va_W _ (rnV (xa 8) ag dg) ([((xa 5), .inl (X.2.1, 3, .inl fr))])))) sz) := by
  refine mk_met (B := (va_A (@HAppend.hAppend va_W va_W va_W _ (xW h0 nw sp xa la lb) (@HAppend.hAppend va_W va_W va_W _ (rcV X nw an sv dv n0 n1 n2 n3 n4 g0 gs gn gm) (@HAppend.hAppend va_W va_W va_W _ (rnV (xa 8) ag dg) ([((xa 5), .inl (X.2.1, 3, .inl fr))])))) sz)) (A := (va_A (@HAppend.hAppend va_W va_W va_W _ (xW h0 nw sp xa la lb) (@HAppend.hAppend va_W va_W va_W _ (rcV X nw an sv dv n0 n1 n2 n3 n4 g0 gs gn gm) (@HAppend.hAppend va_W va_W va_W _ (rnV (xa 8) ag dg) ([((xa 5), .inl (X.2.1, 3, .inl fr))])))) sz)) (cc := cX10_best) (maxL := 8) (ret := (some .int)) (by decide) rfl (Nat.le_of_ble_eq_true rfl) k_w k_a (fun p e s m below meth c S zr zlk znm zsz G ls hl => ?_)
  have S : CallFix p m c cX10_best 8 s _ wsX10_best RX10 := S
  have zx := S.1
  have zb := S.2.1
  have hl : lv_has ls 8 [(0, .ref h0), (1, .int x1), (2, .int x2)] := hl
  refine lv_aload_n zx zb dX10_best_0 rfl (lv_at hl 0 rfl) ?_
  refine lv_iload_n zx zb dX10_best_1 rfl (lv_at hl 1 rfl) ?_
  refine o_ri (cells' := 0) (slots' := 0) G rfl rfl (n_V (As := [.int x1]) (rest := []) (C := RX10) (T := TX10) (N := 14) (ci := 8) S G (s_there l X h0 nw sp xa la lb an sv dv n0 n1 n2 n3 n4 g0 gs gn gm x1 hI_n0 hI_n1 hI_n2 hI_n3 hI_n4 s.heap.size) gX10_best_X10_there rfl rfl rfl hdV_X10_there ⟨Nat.le_of_ble_eq_true rfl, Nat.le_of_ble_eq_true rfl⟩ [0, 1, 2, 3, 4, 5, 6, 7, 8, 9, 10, 11, 12, 13, 14, 15, 16] rfl rfl 0 rfl rfl rfl hl.1 (Nat.le_of_ble_eq_true rfl) dX10_best_2 ⟨Nat.le_of_ble_eq_true rfl, Nat.le_of_ble_eq_true rfl⟩) (fun r_1 u_1 H locs hp_1 G => ?_)
  have G : wd X (va_A (@HAppend.hAppend va_W va_W va_W _ (xW h0 nw sp xa la lb) (@HAppend.hAppend va_W va_W va_W _ (rcV X nw an sv dv n0 n1 n2 n3 n4 g0 gs gn gm) (@HAppend.hAppend va_W va_W va_W _ (rnV (xa 8) ag dg) ([((xa 5), .inl (X.2.1, 3, .inl fr))])))) sz) (va_A (@HAppend.hAppend va_W va_W va_W _ (xW h0 nw sp xa la lb) (@HAppend.hAppend va_W va_W va_W _ (rcV X nw an sv dv n0 n1 n2 n3 n4 g0 gs gn gm) (@HAppend.hAppend va_W va_W va_W _ (rnV (xa 8) ag dg) ([((xa 5), .inl (X.2.1, 3, .inl fr))])))) sz) s (@HAppend.hAppend va_W va_W va_W _ (xW h0 nw sp xa la lb) (@HAppend.hAppend va_W va_W va_W _ (rcV X nw an sv dv n0 n1 n2 n3 n4 g0 gs gn gm) (@HAppend.hAppend va_W va_W va_W _ (rnV (xa 8) ag dg) ([((xa 5), .inl (X.2.1, 3, .inl fr))])))) H locs := G
  rcases hp_1 with ⟨rfl, hj_1⟩ | ⟨rfl, hj_1⟩
  · obtain ⟨j_1, hj_1, rfl⟩ := hj_1
    refine lv_if_eq (tgt := 17) zx zb dX10_best_5 (by decide) (fun c_2 => absurd c_2 (by decide)) (fun c_2 => ?_)
    refine lv_iload_n zx zb dX10_best_8 rfl (lv_at hl 2 rfl) ?_
    refine lv_iconst (v := 0) zx zb dX10_best_9 (by decide) ?_
    refine lv_iconst (v := 1) zx zb dX10_best_10 (by decide) ?_
    refine o_ri (cells' := 0) (slots' := 0) G rfl rfl (n_S (As := [.int x2, .int 0, .int 1]) (rest := []) S G (s_within l X x2 0 1 H.size) gX10_best_X10_within rfl rfl rfl hdS_X10_within ⟨Nat.le_of_ble_eq_true rfl, Nat.le_of_ble_eq_true rfl⟩ [] rfl rfl rfl hl.1 (Nat.le_of_ble_eq_true rfl) dX10_best_11 ⟨Nat.le_of_ble_eq_true rfl, Nat.le_of_ble_eq_true rfl⟩) (fun r_3 u_3 H locs hp_3 G => ?_)
    have G : wd X (va_A (@HAppend.hAppend va_W va_W va_W _ (xW h0 nw sp xa la lb) (@HAppend.hAppend va_W va_W va_W _ (rcV X nw an sv dv n0 n1 n2 n3 n4 g0 gs gn gm) (@HAppend.hAppend va_W va_W va_W _ (rnV (xa 8) ag dg) ([((xa 5), .inl (X.2.1, 3, .inl fr))])))) sz) (va_A (@HAppend.hAppend va_W va_W va_W _ (xW h0 nw sp xa la lb) (@HAppend.hAppend va_W va_W va_W _ (rcV X nw an sv dv n0 n1 n2 n3 n4 g0 gs gn gm) (@HAppend.hAppend va_W va_W va_W _ (rnV (xa 8) ag dg) ([((xa 5), .inl (X.2.1, 3, .inl fr))])))) sz) s (@HAppend.hAppend va_W va_W va_W _ (xW h0 nw sp xa la lb) (@HAppend.hAppend va_W va_W va_W _ (rcV X nw an sv dv n0 n1 n2 n3 n4 g0 gs gn gm) (@HAppend.hAppend va_W va_W va_W _ (rnV (xa 8) ag dg) ([((xa 5), .inl (X.2.1, 3, .inl fr))])))) H locs := G
    rcases hp_3 with ⟨rfl, hw_3⟩ | ⟨rfl, hw_3⟩
    · refine lv_if_ne (tgt := 24) zx zb dX10_best_14 (by decide) (fun c_4 => ?_) (fun c_4 => absurd c_4 (by decide))
      refine lv_aload_n zx zb dX10_best_24 rfl (lv_at hl 0 rfl) ?_
      refine r_get (C := RX10) (T := TX10) (N := 14) (ci := 8) (v := .ref nw) S in_X10_best_X10 G 0 rfl rfl 0 (by decide) lk_X10_best_10 rfl dX10_best_25 ?_
      refine r_get (C := RX5) (T := TX5) (N := 8) (ci := 3) (v := .ref (an 0)) S in_X10_best_X5 G 1 rfl rfl 3 (by decide) lk_X10_best_126 rfl dX10_best_28 ?_
      refine lv_iload_n zx zb dX10_best_31 rfl (lv_at hl 1 rfl) ?_
      rcases k_6c (show j_1 < 6 by omega) with rfl | rfl | rfl | rfl | rfl | rfl
      · refine k_it (v := 0) rfl ?_
        refine r_aald (C := RX8) (b := (an 1)) S G 2 3 rfl rfl (k_vp (by decide)) rfl dX10_best_32 ?_
        refine o_ri (cells' := 0) (slots' := 0) G rfl rfl (n_V (As := []) (rest := []) (C := RX8) (T := TX8) (N := 8) (ci := 6) S G (s_isHome l X (an 1) (fun k => sv (0 + k)) (fun k => dv (10 + k)) H.size) gX10_best_X8_isHome rfl rfl rfl hdV_X8_isHome ⟨Nat.le_of_ble_eq_true rfl, Nat.le_of_ble_eq_true rfl⟩ [3] rfl rfl 3 rfl rfl rfl hl.1 (Nat.le_of_ble_eq_true rfl) dX10_best_33 ⟨Nat.le_of_ble_eq_true rfl, Nat.le_of_ble_eq_true rfl⟩) (fun r_5 u_5 H locs hp_5 G => ?_)
        have G : wd X (va_A (@HAppend.hAppend va_W va_W va_W _ (xW h0 nw sp xa la lb) (@HAppend.hAppend va_W va_W va_W _ (rcV X nw an sv dv n0 n1 n2 n3 n4 g0 gs gn gm) (@HAppend.hAppend va_W va_W va_W _ (rnV (xa 8) ag dg) ([((xa 5), .inl (X.2.1, 3, .inl fr))])))) sz) (va_A (@HAppend.hAppend va_W va_W va_W _ (xW h0 nw sp xa la lb) (@HAppend.hAppend va_W va_W va_W _ (rcV X nw an sv dv n0 n1 n2 n3 n4 g0 gs gn gm) (@HAppend.hAppend va_W va_W va_W _ (rnV (xa 8) ag dg) ([((xa 5), .inl (X.2.1, 3, .inl fr))])))) sz) s (@HAppend.hAppend va_W va_W va_W _ (xW h0 nw sp xa la lb) (@HAppend.hAppend va_W va_W va_W _ (rcV X nw an sv dv n0 n1 n2 n3 n4 g0 gs gn gm) (@HAppend.hAppend va_W va_W va_W _ (rnV (xa 8) ag dg) ([((xa 5), .inl (X.2.1, 3, .inl fr))])))) H locs := G
        refine lv_if_eq (tgt := 41) zx zb dX10_best_36 (by decide) (fun c_6 => ?_) (fun c_6 => ?_)
        · refine lv_iconst (v := (-1)) zx zb dX10_best_41 (by decide) ?_
          refine lv_istore_n (lv' := [(3, .int (-1)), (0, .ref h0), (1, .int 0), (2, .int x2)]) zx zb dX10_best_42 rfl hl (by decide) rfl (fun ls hl => ?_)
          refine lv_iconst (v := (-1)) zx zb dX10_best_43 (by decide) ?_
          refine lv_istore (lv' := [(4, .int (-1)), (3, .int (-1)), (0, .ref h0), (1, .int 0), (2, .int x2)]) zx zb dX10_best_44 hl (by decide) rfl (fun ls hl => ?_)
          refine lv_bipush (v := 60) zx zb dX10_best_46 (by decide) ?_
          refine lv_istore (lv' := [(5, .int 60), (4, .int (-1)), (3, .int (-1)), (0, .ref h0), (1, .int 0), (2, .int x2)]) zx zb dX10_best_48 hl (by decide) rfl (fun ls hl => ?_)
          refine lv_iconst (v := 0) zx zb dX10_best_50 (by decide) ?_
          refine lv_istore (lv' := [(6, .int 0), (5, .int 60), (4, .int (-1)), (3, .int (-1)), (0, .ref h0), (1, .int 0), (2, .int x2)]) zx zb dX10_best_51 hl (by decide) rfl (fun ls hl => ?_)
          refine k_loop (P := ∀ (zm : Nat) (k53 : Nat) (x53_5 : Int32) (x53_4 : Int32) (x53_3 : Int32) (a53_2 : Nat → Int32) (d53_2 : Nat → Int32) (H : Heap) (locs : List Loc) (ls : Array Slot), 10 + 1 ≤ k53 + zm → (k53 ≤ 10) → (x53_5 ≤ 60) → wd X (va_A (@HAppend.hAppend va_W va_W va_W _ (xW h0 nw sp xa la lb) (@HAppend.hAppend va_W va_W va_W _ (rcV X nw an sv dv n0 n1 n2 n3 n4 g0 gs gn gm) (@HAppend.hAppend va_W va_W va_W _ (rnV (xa 8) ag dg) ([((xa 5), .inl (X.2.1, 3, .inl fr))])))) sz) (va_A (@HAppend.hAppend va_W va_W va_W _ (xW h0 nw sp xa la lb) (@HAppend.hAppend va_W va_W va_W _ (rcV X nw an sv dv n0 n1 n2 n3 n4 g0 gs gn gm) (@HAppend.hAppend va_W va_W va_W _ (rnV (xa 8) ag dg) ([((xa 5), .inl (X.2.1, 3, .inl fr))])))) sz) s (@HAppend.hAppend va_W va_W va_W _ (xW h0 nw sp xa la lb) (@HAppend.hAppend va_W va_W va_W _ (rcV X nw an sv dv n0 n1 n2 n3 n4 g0 gs gn gm) (@HAppend.hAppend va_W va_W va_W _ (rnV (xa 8) a53_2 d53_2) ([((xa 5), .inl (X.2.1, 3, .inl fr))])))) H locs → lv_has ls 8 [(6, .int (nI k53)), (5, .int x53_5), (4, .int x53_4), (3, .int x53_3), (0, .ref h0), (1, .int 0), (2, .int x2)] → W p l e _ s m _ below meth c H locs _ _ _ (F0 m 53 ls [])) (fun loop => loop (10 + 1) 0 60 (-1) (-1) ag dg _ _ _ (by omega) (by omega) (by first | assumption | decide | exact k_m60 (by assumption)) G hl) ?_
          intro zm
          induction zm with
          | zero => intro k53 x53_5 x53_4 x53_3 a53_2 d53_2 H locs ls zz q_hk_k53 q_hk_x53_5 _ _; exact absurd zz (by omega)
          | succ zm ih53 =>
            intro k53 x53_5 x53_4 x53_3 a53_2 d53_2 H locs ls zm_53 hk_k53 hk_x53_5 G hl
            refine lv_iload zx zb dX10_best_53 (lv_at hl 0 rfl) ?_
            refine lv_bipush (v := 9) zx zb dX10_best_55 (by decide) ?_
            refine lv_icmp_gt (tgt := 135) zx zb dX10_best_57 (by decide) (fun c_7 => ?_) (fun c_7 => ?_)
            · have fc_7 := j_lt (a := 9) (b := k53) (by omega) (by omega) c_7
              refine lv_iload_n zx zb dX10_best_135 rfl (lv_at hl 6 rfl) ?_
              refine k_cutW (PP := fun Wx => ∀ (x_9 : Int32) (H : Heap) (locs : List Loc) (ls : Array Slot), wd X (va_A (@HAppend.hAppend va_W va_W va_W _ (xW h0 nw sp xa la lb) (@HAppend.hAppend va_W va_W va_W _ (rcV X nw an sv dv n0 n1 n2 n3 n4 g0 gs gn gm) (@HAppend.hAppend va_W va_W va_W _ (rnV (xa 8) ag dg) ([((xa 5), .inl (X.2.1, 3, .inl fr))])))) sz) (va_A (@HAppend.hAppend va_W va_W va_W _ (xW h0 nw sp xa la lb) (@HAppend.hAppend va_W va_W va_W _ (rcV X nw an sv dv n0 n1 n2 n3 n4 g0 gs gn gm) (@HAppend.hAppend va_W va_W va_W _ (rnV (xa 8) ag dg) ([((xa 5), .inl (X.2.1, 3, .inl fr))])))) sz) s (@HAppend.hAppend va_W va_W va_W _ (xW h0 nw sp xa la lb) (@HAppend.hAppend va_W va_W va_W _ (rcV X nw an sv dv n0 n1 n2 n3 n4 g0 gs gn gm) (@HAppend.hAppend va_W va_W va_W _ (rnV (xa 8) a53_2 d53_2) ([((xa 5), .inl (X.2.1, 3, .inl fr))])))) H locs → lv_has ls 8 [(6, .int (nI k53)), (5, .int x53_5), (4, .int x53_4), (3, .int x53_3), (0, .ref h0), (1, .int 0), (2, .int x2)] → Wx (F0 m 145 ls [.int x_9]) H locs) ?_ ?_
              · intro join_136
                refine lv_if_ne (tgt := 143) zx zb dX10_best_136 (by decide) (fun c_8 => ?_) (fun c_8 => ?_)
                · refine lv_iload zx zb dX10_best_143 (lv_at hl 2 rfl) ?_
                  exact join_136 x53_4 _ _ _  G hl
                · refine lv_iload_n zx zb dX10_best_139 rfl (lv_at hl 3 rfl) ?_
                  refine lv_goto (tgt := 145) zx zb dX10_best_140 (by decide) ?_
                  exact join_136 x53_3 _ _ _  G hl
              · intro x_9 H locs ls  G hl
                exact e_int S zr zlk (vp_nar_int _) G (a53_2, d53_2, fr) [0, 1, 2, 3, 4, 5, 6, 7, 8, 9, 10, 11, 12, 13, 14, 15, 16, 17, 18] rfl rfl (Or.inr rfl) (trivial) dX10_best_145
            · have fc_7 := j_nlt (a := 9) (b := k53) (by omega) (by omega) c_7
              refine lv_aload_n zx zb dX10_best_60 rfl (lv_at hl 4 rfl) ?_
              refine r_get (C := RX10) (T := TX10) (N := 14) (ci := 8) (v := .ref (xa 8)) S in_X10_best_X10 G 0 rfl rfl 8 (by decide) lk_X10_best_48 rfl dX10_best_61 ?_
              refine lv_aload_n zx zb dX10_best_64 rfl (lv_at hl 4 rfl) ?_
              refine r_get (C := RX10) (T := TX10) (N := 14) (ci := 8) (v := .ref nw) S in_X10_best_X10 G 0 rfl rfl 0 (by decide) lk_X10_best_10 rfl dX10_best_65 ?_
              refine r_get (C := RX5) (T := TX5) (N := 8) (ci := 3) (v := .ref (an 0)) S in_X10_best_X5 G 1 rfl rfl 3 (by decide) lk_X10_best_126 rfl dX10_best_68 ?_
              refine lv_iload_n zx zb dX10_best_71 rfl (lv_at hl 5 rfl) ?_
              refine r_aald (C := RX8) (b := (an 1)) S G 2 3 rfl rfl (k_vp (by decide)) rfl dX10_best_72 ?_
              refine b_wv (cells' := 0) (slots' := 0) (wr := @HAppend.hAppend va_W va_W va_W _ (xW h0 nw sp xa la lb) (@HAppend.hAppend va_W va_W va_W _ ([(nw, .inr (3, [.int (dv 0), .int (dv 1), .int (nI n0), .ref (an 0), .ref (an 7), .ref (an 9), .ref (an 11), .ref (an 13)])), ((an 0), .inl (X.2.2.2.2, 6, .inr (.inr (.inr (.inr (rowQ an)))))), ((an 2), .inr (6, [.int (sv 3), .int (sv 4), .int (sv 5), .int (dv 15), .int (dv 16), .int (dv 17), .int (dv 18), .int (dv 19)])), ((an 3), .inr (6, [.int (sv 6), .int (sv 7), .int (sv 8), .int (dv 20), .int (dv 21), .int (dv 22), .int (dv 23), .int (dv 24)])), ((an 4), .inr (6, [.int (sv 9), .int (sv 10), .int (sv 11), .int (dv 25), .int (dv 26), .int (dv 27), .int (dv 28), .int (dv 29)])), ((an 5), .inr (6, [.int (sv 12), .int (sv 13), .int (sv 14), .int (dv 30), .int (dv 31), .int (dv 32), .int (dv 33), .int (dv 34)])), ((an 6), .inr (6, [.int (sv 15), .int (sv 16), .int (sv 17), .int (dv 35), .int (dv 36), .int (dv 37), .int (dv 38), .int (dv 39)])), ((an 7), .inr (2, [.ref (an 8), .int (nI n1)])), ((an 8), .inl (X.2.1, 248, .inl g0)), ((an 9), .inr (5, [.int 5, .int 0, .int 1, .ref (an 10), .int (nI n2)])), ((an 10), .inl (X.2.1, 25, .inl gs)), ((an 11), .inr (5, [.int 6, .int 1, .int 1, .ref (an 12), .int (nI n3)])), ((an 12), .inl (X.2.1, 30, .inl gn)), ((an 13), .inr (5, [.int 6, .int 0, .int 0, .ref (an 14), .int (nI n4)])), ((an 14), .inl (X.2.1, 30, .inl gm))]) ([((xa 5), .inl (X.2.1, 3, .inl fr))]))) G rfl rfl [17, 3] [0, 1, 2, 4, 5, 6, 7, 8, 9, 10, 11, 12, 13, 14, 15, 16, 18] rfl rfl rfl rfl (n_V (As := [.ref (an 1)]) (rest := []) (C := RX8) (T := TX8) (N := 8) (ci := 6) S G (s_rcopy l X (xa 8) a53_2 d53_2 (an 1) (fun k => sv (0 + k)) (fun k => dv (10 + k)) H.size) gX10_best_X8_copyFrom rfl rfl rfl hdV_X8_copyFrom ⟨Nat.le_of_ble_eq_true rfl, Nat.le_of_ble_eq_true rfl⟩ [17, 3] rfl rfl 17 rfl rfl rfl hl.1 (Nat.le_of_ble_eq_true rfl) dX10_best_73 ⟨Nat.le_of_ble_eq_true rfl, Nat.le_of_ble_eq_true rfl⟩) (fun u_10 H locs hp_10 G => ?_)
              obtain ⟨a_10a, d_10b⟩ := u_10
              have hq_10 := hp_10
              have G : wd X (va_A (@HAppend.hAppend va_W va_W va_W _ (xW h0 nw sp xa la lb) (@HAppend.hAppend va_W va_W va_W _ (rcV X nw an sv dv n0 n1 n2 n3 n4 g0 gs gn gm) (@HAppend.hAppend va_W va_W va_W _ (rnV (xa 8) ag dg) ([((xa 5), .inl (X.2.1, 3, .inl fr))])))) sz) (va_A (@HAppend.hAppend va_W va_W va_W _ (xW h0 nw sp xa la lb) (@HAppend.hAppend va_W va_W va_W _ (rcV X nw an sv dv n0 n1 n2 n3 n4 g0 gs gn gm) (@HAppend.hAppend va_W va_W va_W _ (rnV (xa 8) ag dg) ([((xa 5), .inl (X.2.1, 3, .inl fr))])))) sz) s (@HAppend.hAppend va_W va_W va_W _ (xW h0 nw sp xa la lb) (@HAppend.hAppend va_W va_W va_W _ (rcV X nw an sv dv n0 n1 n2 n3 n4 g0 gs gn gm) (@HAppend.hAppend va_W va_W va_W _ ([((xa 5), .inl (X.2.1, 3, .inl fr))]) (rnV (xa 8) a_10a d_10b)))) H locs := wd_sub G [0, 1, 2, 18, 3, 4, 5, 6, 7, 8, 9, 10, 11, 12, 13, 14, 15, 16, 17] rfl rfl
              refine lv_aload_n zx zb dX10_best_76 rfl (lv_at hl 4 rfl) ?_
              refine r_get (C := RX10) (T := TX10) (N := 14) (ci := 8) (v := .ref (xa 8)) S in_X10_best_X10 G 0 rfl rfl 8 (by decide) lk_X10_best_48 rfl dX10_best_77 ?_
              refine lv_iload zx zb dX10_best_80 (lv_at hl 0 rfl) ?_
              refine r_put (C := RX8) (T := TX8) (N := 8) (ci := 6) (v := .int (nI k53)) S in_X10_best_X8 tyX8_ok nmX8 G 18 rfl rfl 3 (by decide) lk_X10_best_130 rfl (vp_nar_int _) rfl (Nat.le_of_ble_eq_true rfl) dX10_best_82 (fun H locs G => ?_)
              obtain ⟨d_11, G⟩ : ∃ d_11 : Nat → Int32, wd X (va_A (@HAppend.hAppend va_W va_W va_W _ (xW h0 nw sp xa la lb) (@HAppend.hAppend va_W va_W va_W _ (rcV X nw an sv dv n0 n1 n2 n3 n4 g0 gs gn gm) (@HAppend.hAppend va_W va_W va_W _ (rnV (xa 8) ag dg) ([((xa 5), .inl (X.2.1, 3, .inl fr))])))) sz) (va_A (@HAppend.hAppend va_W va_W va_W _ (xW h0 nw sp xa la lb) (@HAppend.hAppend va_W va_W va_W _ (rcV X nw an sv dv n0 n1 n2 n3 n4 g0 gs gn gm) (@HAppend.hAppend va_W va_W va_W _ (rnV (xa 8) ag dg) ([((xa 5), .inl (X.2.1, 3, .inl fr))])))) sz) s (@HAppend.hAppend va_W va_W va_W _ (xW h0 nw sp xa la lb) (@HAppend.hAppend va_W va_W va_W _ (rcV X nw an sv dv n0 n1 n2 n3 n4 g0 gs gn gm) (@HAppend.hAppend va_W va_W va_W _ ([((xa 5), .inl (X.2.1, 3, .inl fr))]) (rnV (xa 8) a_10a d_11)))) H locs := ⟨upd d_10b 0 (nI k53), G⟩
              refine lv_aload_n zx zb dX10_best_85 rfl (lv_at hl 4 rfl) ?_
              refine r_get (C := RX10) (T := TX10) (N := 14) (ci := 8) (v := .ref (xa 8)) S in_X10_best_X10 G 0 rfl rfl 8 (by decide) lk_X10_best_48 rfl dX10_best_86 ?_
              refine lv_aload_n zx zb dX10_best_89 rfl (lv_at hl 4 rfl) ?_
              refine r_get (C := RX10) (T := TX10) (N := 14) (ci := 8) (v := .ref nw) S in_X10_best_X10 G 0 rfl rfl 0 (by decide) lk_X10_best_10 rfl dX10_best_90 ?_
              refine r_get (C := RX5) (T := TX5) (N := 8) (ci := 3) (v := .int (dv 1)) S in_X10_best_X5 G 1 rfl rfl 1 (by decide) lk_X10_best_110 rfl dX10_best_93 ?_
              refine lv_aload_n zx zb dX10_best_96 rfl (lv_at hl 4 rfl) ?_
              refine r_get (C := RX10) (T := TX10) (N := 14) (ci := 8) (v := .ref nw) S in_X10_best_X10 G 0 rfl rfl 0 (by decide) lk_X10_best_10 rfl dX10_best_97 ?_
              refine r_get (C := RX5) (T := TX5) (N := 8) (ci := 3) (v := .int (dv 0)) S in_X10_best_X5 G 1 rfl rfl 0 (by decide) lk_X10_best_140 rfl dX10_best_100 ?_
              refine lv_iload zx zb dX10_best_103 (lv_at hl 1 rfl) ?_
              refine b_wi (cells' := 0) (slots' := 0) (wr := @HAppend.hAppend va_W va_W va_W _ (xW h0 nw sp xa la lb) (@HAppend.hAppend va_W va_W va_W _ (rcV X nw an sv dv n0 n1 n2 n3 n4 g0 gs gn gm) ([((xa 5), .inl (X.2.1, 3, .inl fr))]))) G rfl rfl [18] [0, 1, 2, 3, 4, 5, 6, 7, 8, 9, 10, 11, 12, 13, 14, 15, 16, 17] rfl rfl rfl rfl (n_V (As := [.int (dv 1), .int (dv 0), .int x53_5]) (rest := []) (C := RX8) (T := TX8) (N := 8) (ci := 6) S G (s_ticksToHome l X (xa 8) a_10a d_11 (dv 1) (dv 0) x53_5 (by first | decide | assumption | exact k_60a (by assumption) | exact hw_3.2) H.size) gX10_best_X8_ticksToHome rfl rfl rfl hdV_X8_ticksToHome ⟨Nat.le_of_ble_eq_true rfl, Nat.le_of_ble_eq_true rfl⟩ [18] rfl rfl 18 rfl rfl rfl hl.1 (Nat.le_of_ble_eq_true rfl) dX10_best_105 ⟨Nat.le_of_ble_eq_true rfl, Nat.le_of_ble_eq_true rfl⟩) (fun r_12 u_12 H locs hp_12 G => ?_)
              obtain ⟨d_12, rfl⟩ : ∃ z, z = u_12 := ⟨_, rfl⟩
              have hq_12 := hp_12
              obtain ⟨hq_12, hs_12⟩ := hq_12
              have G : wd X (va_A (@HAppend.hAppend va_W va_W va_W _ (xW h0 nw sp xa la lb) (@HAppend.hAppend va_W va_W va_W _ (rcV X nw an sv dv n0 n1 n2 n3 n4 g0 gs gn gm) (@HAppend.hAppend va_W va_W va_W _ (rnV (xa 8) ag dg) ([((xa 5), .inl (X.2.1, 3, .inl fr))])))) sz) (va_A (@HAppend.hAppend va_W va_W va_W _ (xW h0 nw sp xa la lb) (@HAppend.hAppend va_W va_W va_W _ (rcV X nw an sv dv n0 n1 n2 n3 n4 g0 gs gn gm) (@HAppend.hAppend va_W va_W va_W _ (rnV (xa 8) ag dg) ([((xa 5), .inl (X.2.1, 3, .inl fr))])))) sz) s (@HAppend.hAppend va_W va_W va_W _ (xW h0 nw sp xa la lb) (@HAppend.hAppend va_W va_W va_W _ (rcV X nw an sv dv n0 n1 n2 n3 n4 g0 gs gn gm) (@HAppend.hAppend va_W va_W va_W _ ([((xa 5), .inl (X.2.1, 3, .inl fr))]) (rnV (xa 8) a_10a d_12)))) H locs := G
              refine lv_istore (lv' := [(7, .int r_12), (6, .int (nI k53)), (5, .int x53_5), (4, .int x53_4), (3, .int x53_3), (0, .ref h0), (1, .int 0), (2, .int x2)]) zx zb dX10_best_108 hl (by decide) rfl (fun ls hl => ?_)
              refine lv_iload zx zb dX10_best_110 (lv_at hl 0 rfl) ?_
              refine lv_iconst (v := (-1)) zx zb dX10_best_112 (by decide) ?_
              refine k_cutW (PP := fun Wx => ∀ (x_14 : Int32) (x_15 : Int32) (x_16 : Int32) (H : Heap) (locs : List Loc) (ls : Array Slot), (x_14 ≤ 60) → wd X (va_A (@HAppend.hAppend va_W va_W va_W _ (xW h0 nw sp xa la lb) (@HAppend.hAppend va_W va_W va_W _ (rcV X nw an sv dv n0 n1 n2 n3 n4 g0 gs gn gm) (@HAppend.hAppend va_W va_W va_W _ (rnV (xa 8) ag dg) ([((xa 5), .inl (X.2.1, 3, .inl fr))])))) sz) (va_A (@HAppend.hAppend va_W va_W va_W _ (xW h0 nw sp xa la lb) (@HAppend.hAppend va_W va_W va_W _ (rcV X nw an sv dv n0 n1 n2 n3 n4 g0 gs gn gm) (@HAppend.hAppend va_W va_W va_W _ (rnV (xa 8) ag dg) ([((xa 5), .inl (X.2.1, 3, .inl fr))])))) sz) s (@HAppend.hAppend va_W va_W va_W _ (xW h0 nw sp xa la lb) (@HAppend.hAppend va_W va_W va_W _ (rcV X nw an sv dv n0 n1 n2 n3 n4 g0 gs gn gm) (@HAppend.hAppend va_W va_W va_W _ ([((xa 5), .inl (X.2.1, 3, .inl fr))]) (rnV (xa 8) a_10a d_12)))) H locs → lv_has ls 8 [(7, .int r_12), (6, .int (nI k53)), (5, .int x_14), (4, .int x_15), (3, .int x_16), (0, .ref h0), (1, .int 0), (2, .int x2)] → Wx (F0 m 129 ls []) H locs) ?_ ?_
              · intro join_113
                refine lv_icmp_eq (tgt := 129) zx zb dX10_best_113 (by decide) (fun c_13 => ?_) (fun c_13 => ?_)
                · exact join_113 x53_5 x53_4 x53_3 _ _ _ (by first | assumption | decide | exact k_m60 (by assumption)) G hl
                · refine lv_iload zx zb dX10_best_116 (lv_at hl 1 rfl) ?_
                  refine lv_istore_n (lv' := [(3, .int (nI k53)), (7, .int r_12), (6, .int (nI k53)), (5, .int x53_5), (4, .int x53_4), (0, .ref h0), (1, .int 0), (2, .int x2)]) zx zb dX10_best_118 rfl hl (by decide) rfl (fun ls hl => ?_)
                  refine lv_iload zx zb dX10_best_119 (lv_at hl 1 rfl) ?_
                  refine lv_istore (lv' := [(4, .int r_12), (3, .int (nI k53)), (7, .int r_12), (6, .int (nI k53)), (5, .int x53_5), (0, .ref h0), (1, .int 0), (2, .int x2)]) zx zb dX10_best_121 hl (by decide) rfl (fun ls hl => ?_)
                  refine lv_iload zx zb dX10_best_123 (lv_at hl 2 rfl) ?_
                  refine lv_iconst (v := 1) zx zb dX10_best_125 (by decide) ?_
                  refine r_isub (v := (r_12 - 1)) S rfl dX10_best_126 ?_
                  refine lv_istore (lv' := [(5, .int (r_12 - 1)), (4, .int r_12), (3, .int (nI k53)), (7, .int r_12), (6, .int (nI k53)), (0, .ref h0), (1, .int 0), (2, .int x2)]) zx zb dX10_best_127 hl (by decide) rfl (fun ls hl => ?_)
                  have hl := lv_sub hl (l' := [(7, .int r_12), (6, .int (nI k53)), (5, .int (r_12 - 1)), (4, .int r_12), (3, .int (nI k53)), (0, .ref h0), (1, .int 0), (2, .int x2)]) [3, 4, 0, 1, 2, 5, 6, 7] rfl
                  exact join_113 (r_12 - 1) r_12 (nI k53) _ _ _ (by first | assumption | decide | exact k_m60 (by assumption)) G hl
              · intro x_14 x_15 x_16 H locs ls hk_x_14 G hl
                refine lv_iinc (v := (nI (k53 + 1))) (lv' := [(6, .int (nI (k53 + 1))), (7, .int r_12), (5, .int x_14), (4, .int x_15), (3, .int x_16), (0, .ref h0), (1, .int 0), (2, .int x2)]) zx zb dX10_best_129 hl (k := 1) rfl (nI_add k53 1) (by decide) rfl (fun ls hl => ?_)
                refine lv_goto (tgt := 53) zx zb dX10_best_132 (by decide) ?_
                have G : wd X (va_A (@HAppend.hAppend va_W va_W va_W _ (xW h0 nw sp xa la lb) (@HAppend.hAppend va_W va_W va_W _ (rcV X nw an sv dv n0 n1 n2 n3 n4 g0 gs gn gm) (@HAppend.hAppend va_W va_W va_W _ (rnV (xa 8) ag dg) ([((xa 5), .inl (X.2.1, 3, .inl fr))])))) sz) (va_A (@HAppend.hAppend va_W va_W va_W _ (xW h0 nw sp xa la lb) (@HAppend.hAppend va_W va_W va_W _ (rcV X nw an sv dv n0 n1 n2 n3 n4 g0 gs gn gm) (@HAppend.hAppend va_W va_W va_W _ (rnV (xa 8) ag dg) ([((xa 5), .inl (X.2.1, 3, .inl fr))])))) sz) s (@HAppend.hAppend va_W va_W va_W _ (xW h0 nw sp xa la lb) (@HAppend.hAppend va_W va_W va_W _ (rcV X nw an sv dv n0 n1 n2 n3 n4 g0 gs gn gm) (@HAppend.hAppend va_W va_W va_W _ (rnV (xa 8) a_10a d_12) ([((xa 5), .inl (X.2.1, 3, .inl fr))])))) H locs := wd_sub G [0, 1, 2, 3, 4, 5, 6, 7, 8, 9, 10, 11, 12, 13, 14, 15, 16, 18, 17] rfl rfl
                have hl := lv_sub hl (l' := [(6, .int (nI (k53 + 1))), (5, .int x_14), (4, .int x_15), (3, .int x_16), (0, .ref h0), (1, .int 0), (2, .int x2)]) [0, 2, 3, 4, 5, 6, 7] rfl
                exact ih53 (k53 + 1) x_14 x_15 x_16 a_10a d_12 _ _ _ (by omega) (by omega) (by first | assumption | decide | exact k_m60 (by assumption)) G hl
        · refine lv_iconst (v := (-1)) zx zb dX10_best_39 (by decide) ?_
          exact e_int S zr zlk (vp_nar_int _) G (ag, dg, fr) [0, 1, 2, 3, 4, 5, 6, 7, 8, 9, 10, 11, 12, 13, 14, 15, 16, 17, 18] rfl rfl (Or.inr rfl) (trivial) dX10_best_40
      · refine k_it (v := 1) rfl ?_
        refine r_aald (C := RX8) (b := (an 2)) S G 2 3 rfl rfl (k_vp (by decide)) rfl dX10_best_32 ?_
        refine o_ri (cells' := 0) (slots' := 0) G rfl rfl (n_V (As := []) (rest := []) (C := RX8) (T := TX8) (N := 8) (ci := 6) S G (s_isHome l X (an 2) (fun k => sv (3 + k)) (fun k => dv (15 + k)) H.size) gX10_best_X8_isHome rfl rfl rfl hdV_X8_isHome ⟨Nat.le_of_ble_eq_true rfl, Nat.le_of_ble_eq_true rfl⟩ [4] rfl rfl 4 rfl rfl rfl hl.1 (Nat.le_of_ble_eq_true rfl) dX10_best_33 ⟨Nat.le_of_ble_eq_true rfl, Nat.le_of_ble_eq_true rfl⟩) (fun r_17 u_17 H locs hp_17 G => ?_)
        have G : wd X (va_A (@HAppend.hAppend va_W va_W va_W _ (xW h0 nw sp xa la lb) (@HAppend.hAppend va_W va_W va_W _ (rcV X nw an sv dv n0 n1 n2 n3 n4 g0 gs gn gm) (@HAppend.hAppend va_W va_W va_W _ (rnV (xa 8) ag dg) ([((xa 5), .inl (X.2.1, 3, .inl fr))])))) sz) (va_A (@HAppend.hAppend va_W va_W va_W _ (xW h0 nw sp xa la lb) (@HAppend.hAppend va_W va_W va_W _ (rcV X nw an sv dv n0 n1 n2 n3 n4 g0 gs gn gm) (@HAppend.hAppend va_W va_W va_W _ (rnV (xa 8) ag dg) ([((xa 5), .inl (X.2.1, 3, .inl fr))])))) sz) s (@HAppend.hAppend va_W va_W va_W _ (xW h0 nw sp xa la lb) (@HAppend.hAppend va_W va_W va_W _ (rcV X nw an sv dv n0 n1 n2 n3 n4 g0 gs gn gm) (@HAppend.hAppend va_W va_W va_W _ (rnV (xa 8) ag dg) ([((xa 5), .inl (X.2.1, 3, .inl fr))])))) H locs := G
        refine lv_if_eq (tgt := 41) zx zb dX10_best_36 (by decide) (fun c_18 => ?_) (fun c_18 => ?_)
        · refine lv_iconst (v := (-1)) zx zb dX10_best_41 (by decide) ?_
          refine lv_istore_n (lv' := [(3, .int (-1)), (0, .ref h0), (1, .int 1), (2, .int x2)]) zx zb dX10_best_42 rfl hl (by decide) rfl (fun ls hl => ?_)
          refine lv_iconst (v := (-1)) zx zb dX10_best_43 (by decide) ?_
          refine lv_istore (lv' := [(4, .int (-1)), (3, .int (-1)), (0, .ref h0), (1, .int 1), (2, .int x2)]) zx zb dX10_best_44 hl (by decide) rfl (fun ls hl => ?_)
          refine lv_bipush (v := 60) zx zb dX10_best_46 (by decide) ?_
          refine lv_istore (lv' := [(5, .int 60), (4, .int (-1)), (3, .int (-1)), (0, .ref h0), (1, .int 1), (2, .int x2)]) zx zb dX10_best_48 hl (by decide) rfl (fun ls hl => ?_)
          refine lv_iconst (v := 0) zx zb dX10_best_50 (by decide) ?_
          refine lv_istore (lv' := [(6, .int 0), (5, .int 60), (4, .int (-1)), (3, .int (-1)), (0, .ref h0), (1, .int 1), (2, .int x2)]) zx zb dX10_best_51 hl (by decide) rfl (fun ls hl => ?_)
          refine k_loop (P := ∀ (zm : Nat) (k53 : Nat) (x53_5 : Int32) (x53_4 : Int32) (x53_3 : Int32) (a53_2 : Nat → Int32) (d53_2 : Nat → Int32) (H : Heap) (locs : List Loc) (ls : Array Slot), 10 + 1 ≤ k53 + zm → (k53 ≤ 10) → (x53_5 ≤ 60) → wd X (va_A (@HAppend.hAppend va_W va_W va_W _ (xW h0 nw sp xa la lb) (@HAppend.hAppend va_W va_W va_W _ (rcV X nw an sv dv n0 n1 n2 n3 n4 g0 gs gn gm) (@HAppend.hAppend va_W va_W va_W _ (rnV (xa 8) ag dg) ([((xa 5), .inl (X.2.1, 3, .inl fr))])))) sz) (va_A (@HAppend.hAppend va_W va_W va_W _ (xW h0 nw sp xa la lb) (@HAppend.hAppend va_W va_W va_W _ (rcV X nw an sv dv n0 n1 n2 n3 n4 g0 gs gn gm) (@HAppend.hAppend va_W va_W va_W _ (rnV (xa 8) ag dg) ([((xa 5), .inl (X.2.1, 3, .inl fr))])))) sz) s (@HAppend.hAppend va_W va_W va_W _ (xW h0 nw sp xa la lb) (@HAppend.hAppend va_W va_W va_W _ (rcV X nw an sv dv n0 n1 n2 n3 n4 g0 gs gn gm) (@HAppend.hAppend va_W va_W va_W _ (rnV (xa 8) a53_2 d53_2) ([((xa 5), .inl (X.2.1, 3, .inl fr))])))) H locs → lv_has ls 8 [(6, .int (nI k53)), (5, .int x53_5), (4, .int x53_4), (3, .int x53_3), (0, .ref h0), (1, .int 1), (2, .int x2)] → W p l e _ s m _ below meth c H locs _ _ _ (F0 m 53 ls [])) (fun loop => loop (10 + 1) 0 60 (-1) (-1) ag dg _ _ _ (by omega) (by omega) (by first | assumption | decide | exact k_m60 (by assumption)) G hl) ?_
          intro zm
          induction zm with
          | zero => intro k53 x53_5 x53_4 x53_3 a53_2 d53_2 H locs ls zz q_hk_k53 q_hk_x53_5 _ _; exact absurd zz (by omega)
          | succ zm ih53 =>
            intro k53 x53_5 x53_4 x53_3 a53_2 d53_2 H locs ls zm_53 hk_k53 hk_x53_5 G hl
            refine lv_iload zx zb dX10_best_53 (lv_at hl 0 rfl) ?_
            refine lv_bipush (v := 9) zx zb dX10_best_55 (by decide) ?_
            refine lv_icmp_gt (tgt := 135) zx zb dX10_best_57 (by decide) (fun c_19 => ?_) (fun c_19 => ?_)
            · have fc_19 := j_lt (a := 9) (b := k53) (by omega) (by omega) c_19
              refine lv_iload_n zx zb dX10_best_135 rfl (lv_at hl 6 rfl) ?_
              refine k_cutW (PP := fun Wx => ∀ (x_21 : Int32) (H : Heap) (locs : List Loc) (ls : Array Slot), wd X (va_A (@HAppend.hAppend va_W va_W va_W _ (xW h0 nw sp xa la lb) (@HAppend.hAppend va_W va_W va_W _ (rcV X nw an sv dv n0 n1 n2 n3 n4 g0 gs gn gm) (@HAppend.hAppend va_W va_W va_W _ (rnV (xa 8) ag dg) ([((xa 5), .inl (X.2.1, 3, .inl fr))])))) sz) (va_A (@HAppend.hAppend va_W va_W va_W _ (xW h0 nw sp xa la lb) (@HAppend.hAppend va_W va_W va_W _ (rcV X nw an sv dv n0 n1 n2 n3 n4 g0 gs gn gm) (@HAppend.hAppend va_W va_W va_W _ (rnV (xa 8) ag dg) ([((xa 5), .inl (X.2.1, 3, .inl fr))])))) sz) s (@HAppend.hAppend va_W va_W va_W _ (xW h0 nw sp xa la lb) (@HAppend.hAppend va_W va_W va_W _ (rcV X nw an sv dv n0 n1 n2 n3 n4 g0 gs gn gm) (@HAppend.hAppend va_W va_W va_W _ (rnV (xa 8) a53_2 d53_2) ([((xa 5), .inl (X.2.1, 3, .inl fr))])))) H locs → lv_has ls 8 [(6, .int (nI k53)), (5, .int x53_5), (4, .int x53_4), (3, .int x53_3), (0, .ref h0), (1, .int 1), (2, .int x2)] → Wx (F0 m 145 ls [.int x_21]) H locs) ?_ ?_
              · intro join_136
                refine lv_if_ne (tgt := 143) zx zb dX10_best_136 (by decide) (fun c_20 => ?_) (fun c_20 => ?_)
                · refine lv_iload zx zb dX10_best_143 (lv_at hl 2 rfl) ?_
                  exact join_136 x53_4 _ _ _  G hl
                · refine lv_iload_n zx zb dX10_best_139 rfl (lv_at hl 3 rfl) ?_
                  refine lv_goto (tgt := 145) zx zb dX10_best_140 (by decide) ?_
                  exact join_136 x53_3 _ _ _  G hl
              · intro x_21 H locs ls  G hl
                exact e_int S zr zlk (vp_nar_int _) G (a53_2, d53_2, fr) [0, 1, 2, 3, 4, 5, 6, 7, 8, 9, 10, 11, 12, 13, 14, 15, 16, 17, 18] rfl rfl (Or.inr rfl) (trivial) dX10_best_145
            · have fc_19 := j_nlt (a := 9) (b := k53) (by omega) (by omega) c_19
              refine lv_aload_n zx zb dX10_best_60 rfl (lv_at hl 4 rfl) ?_
              refine r_get (C := RX10) (T := TX10) (N := 14) (ci := 8) (v := .ref (xa 8)) S in_X10_best_X10 G 0 rfl rfl 8 (by decide) lk_X10_best_48 rfl dX10_best_61 ?_
              refine lv_aload_n zx zb dX10_best_64 rfl (lv_at hl 4 rfl) ?_
              refine r_get (C := RX10) (T := TX10) (N := 14) (ci := 8) (v := .ref nw) S in_X10_best_X10 G 0 rfl rfl 0 (by decide) lk_X10_best_10 rfl dX10_best_65 ?_
              refine r_get (C := RX5) (T := TX5) (N := 8) (ci := 3) (v := .ref (an 0)) S in_X10_best_X5 G 1 rfl rfl 3 (by decide) lk_X10_best_126 rfl dX10_best_68 ?_
              refine lv_iload_n zx zb dX10_best_71 rfl (lv_at hl 5 rfl) ?_
              refine r_aald (C := RX8) (b := (an 2)) S G 2 3 rfl rfl (k_vp (by decide)) rfl dX10_best_72 ?_
              refine b_wv (cells' := 0) (slots' := 0) (wr := @HAppend.hAppend va_W va_W va_W _ (xW h0 nw sp xa la lb) (@HAppend.hAppend va_W va_W va_W _ ([(nw, .inr (3, [.int (dv 0), .int (dv 1), .int (nI n0), .ref (an 0), .ref (an 7), .ref (an 9), .ref (an 11), .ref (an 13)])), ((an 0), .inl (X.2.2.2.2, 6, .inr (.inr (.inr (.inr (rowQ an)))))), ((an 1), .inr (6, [.int (sv 0), .int (sv 1), .int (sv 2), .int (dv 10), .int (dv 11), .int (dv 12), .int (dv 13), .int (dv 14)])), ((an 3), .inr (6, [.int (sv 6), .int (sv 7), .int (sv 8), .int (dv 20), .int (dv 21), .int (dv 22), .int (dv 23), .int (dv 24)])), ((an 4), .inr (6, [.int (sv 9), .int (sv 10), .int (sv 11), .int (dv 25), .int (dv 26), .int (dv 27), .int (dv 28), .int (dv 29)])), ((an 5), .inr (6, [.int (sv 12), .int (sv 13), .int (sv 14), .int (dv 30), .int (dv 31), .int (dv 32), .int (dv 33), .int (dv 34)])), ((an 6), .inr (6, [.int (sv 15), .int (sv 16), .int (sv 17), .int (dv 35), .int (dv 36), .int (dv 37), .int (dv 38), .int (dv 39)])), ((an 7), .inr (2, [.ref (an 8), .int (nI n1)])), ((an 8), .inl (X.2.1, 248, .inl g0)), ((an 9), .inr (5, [.int 5, .int 0, .int 1, .ref (an 10), .int (nI n2)])), ((an 10), .inl (X.2.1, 25, .inl gs)), ((an 11), .inr (5, [.int 6, .int 1, .int 1, .ref (an 12), .int (nI n3)])), ((an 12), .inl (X.2.1, 30, .inl gn)), ((an 13), .inr (5, [.int 6, .int 0, .int 0, .ref (an 14), .int (nI n4)])), ((an 14), .inl (X.2.1, 30, .inl gm))]) ([((xa 5), .inl (X.2.1, 3, .inl fr))]))) G rfl rfl [17, 4] [0, 1, 2, 3, 5, 6, 7, 8, 9, 10, 11, 12, 13, 14, 15, 16, 18] rfl rfl rfl rfl (n_V (As := [.ref (an 2)]) (rest := []) (C := RX8) (T := TX8) (N := 8) (ci := 6) S G (s_rcopy l X (xa 8) a53_2 d53_2 (an 2) (fun k => sv (3 + k)) (fun k => dv (15 + k)) H.size) gX10_best_X8_copyFrom rfl rfl rfl hdV_X8_copyFrom ⟨Nat.le_of_ble_eq_true rfl, Nat.le_of_ble_eq_true rfl⟩ [17, 4] rfl rfl 17 rfl rfl rfl hl.1 (Nat.le_of_ble_eq_true rfl) dX10_best_73 ⟨Nat.le_of_ble_eq_true rfl, Nat.le_of_ble_eq_true rfl⟩) (fun u_22 H locs hp_22 G => ?_)
              obtain ⟨a_22a, d_22b⟩ := u_22
              have hq_22 := hp_22
              have G : wd X (va_A (@HAppend.hAppend va_W va_W va_W _ (xW h0 nw sp xa la lb) (@HAppend.hAppend va_W va_W va_W _ (rcV X nw an sv dv n0 n1 n2 n3 n4 g0 gs gn gm) (@HAppend.hAppend va_W va_W va_W _ (rnV (xa 8) ag dg) ([((xa 5), .inl (X.2.1, 3, .inl fr))])))) sz) (va_A (@HAppend.hAppend va_W va_W va_W _ (xW h0 nw sp xa la lb) (@HAppend.hAppend va_W va_W va_W _ (rcV X nw an sv dv n0 n1 n2 n3 n4 g0 gs gn gm) (@HAppend.hAppend va_W va_W va_W _ (rnV (xa 8) ag dg) ([((xa 5), .inl (X.2.1, 3, .inl fr))])))) sz) s (@HAppend.hAppend va_W va_W va_W _ (xW h0 nw sp xa la lb) (@HAppend.hAppend va_W va_W va_W _ (rcV X nw an sv dv n0 n1 n2 n3 n4 g0 gs gn gm) (@HAppend.hAppend va_W va_W va_W _ ([((xa 5), .inl (X.2.1, 3, .inl fr))]) (rnV (xa 8) a_22a d_22b)))) H locs := wd_sub G [0, 1, 2, 3, 18, 4, 5, 6, 7, 8, 9, 10, 11, 12, 13, 14, 15, 16, 17] rfl rfl
              refine lv_aload_n zx zb dX10_best_76 rfl (lv_at hl 4 rfl) ?_
              refine r_get (C := RX10) (T := TX10) (N := 14) (ci := 8) (v := .ref (xa 8)) S in_X10_best_X10 G 0 rfl rfl 8 (by decide) lk_X10_best_48 rfl dX10_best_77 ?_
              refine lv_iload zx zb dX10_best_80 (lv_at hl 0 rfl) ?_
              refine r_put (C := RX8) (T := TX8) (N := 8) (ci := 6) (v := .int (nI k53)) S in_X10_best_X8 tyX8_ok nmX8 G 18 rfl rfl 3 (by decide) lk_X10_best_130 rfl (vp_nar_int _) rfl (Nat.le_of_ble_eq_true rfl) dX10_best_82 (fun H locs G => ?_)
              obtain ⟨d_23, G⟩ : ∃ d_23 : Nat → Int32, wd X (va_A (@HAppend.hAppend va_W va_W va_W _ (xW h0 nw sp xa la lb) (@HAppend.hAppend va_W va_W va_W _ (rcV X nw an sv dv n0 n1 n2 n3 n4 g0 gs gn gm) (@HAppend.hAppend va_W va_W va_W _ (rnV (xa 8) ag dg) ([((xa 5), .inl (X.2.1, 3, .inl fr))])))) sz) (va_A (@HAppend.hAppend va_W va_W va_W _ (xW h0 nw sp xa la lb) (@HAppend.hAppend va_W va_W va_W _ (rcV X nw an sv dv n0 n1 n2 n3 n4 g0 gs gn gm) (@HAppend.hAppend va_W va_W va_W _ (rnV (xa 8) ag dg) ([((xa 5), .inl (X.2.1, 3, .inl fr))])))) sz) s (@HAppend.hAppend va_W va_W va_W _ (xW h0 nw sp xa la lb) (@HAppend.hAppend va_W va_W va_W _ (rcV X nw an sv dv n0 n1 n2 n3 n4 g0 gs gn gm) (@HAppend.hAppend va_W va_W va_W _ ([((xa 5), .inl (X.2.1, 3, .inl fr))]) (rnV (xa 8) a_22a d_23)))) H locs := ⟨upd d_22b 0 (nI k53), G⟩
              refine lv_aload_n zx zb dX10_best_85 rfl (lv_at hl 4 rfl) ?_
              refine r_get (C := RX10) (T := TX10) (N := 14) (ci := 8) (v := .ref (xa 8)) S in_X10_best_X10 G 0 rfl rfl 8 (by decide) lk_X10_best_48 rfl dX10_best_86 ?_
              refine lv_aload_n zx zb dX10_best_89 rfl (lv_at hl 4 rfl) ?_
              refine r_get (C := RX10) (T := TX10) (N := 14) (ci := 8) (v := .ref nw) S in_X10_best_X10 G 0 rfl rfl 0 (by decide) lk_X10_best_10 rfl dX10_best_90 ?_
              refine r_get (C := RX5) (T := TX5) (N := 8) (ci := 3) (v := .int (dv 1)) S in_X10_best_X5 G 1 rfl rfl 1 (by decide) lk_X10_best_110 rfl dX10_best_93 ?_
              refine lv_aload_n zx zb dX10_best_96 rfl (lv_at hl 4 rfl) ?_
              refine r_get (C := RX10) (T := TX10) (N := 14) (ci := 8) (v := .ref nw) S in_X10_best_X10 G 0 rfl rfl 0 (by decide) lk_X10_best_10 rfl dX10_best_97 ?_
              refine r_get (C := RX5) (T := TX5) (N := 8) (ci := 3) (v := .int (dv 0)) S in_X10_best_X5 G 1 rfl rfl 0 (by decide) lk_X10_best_140 rfl dX10_best_100 ?_
              refine lv_iload zx zb dX10_best_103 (lv_at hl 1 rfl) ?_
              refine b_wi (cells' := 0) (slots' := 0) (wr := @HAppend.hAppend va_W va_W va_W _ (xW h0 nw sp xa la lb) (@HAppend.hAppend va_W va_W va_W _ (rcV X nw an sv dv n0 n1 n2 n3 n4 g0 gs gn gm) ([((xa 5), .inl (X.2.1, 3, .inl fr))]))) G rfl rfl [18] [0, 1, 2, 3, 4, 5, 6, 7, 8, 9, 10, 11, 12, 13, 14, 15, 16, 17] rfl rfl rfl rfl (n_V (As := [.int (dv 1), .int (dv 0), .int x53_5]) (rest := []) (C := RX8) (T := TX8) (N := 8) (ci := 6) S G (s_ticksToHome l X (xa 8) a_22a d_23 (dv 1) (dv 0) x53_5 (by first | decide | assumption | exact k_60a (by assumption) | exact hw_3.2) H.size) gX10_best_X8_ticksToHome rfl rfl rfl hdV_X8_ticksToHome ⟨Nat.le_of_ble_eq_true rfl, Nat.le_of_ble_eq_true rfl⟩ [18] rfl rfl 18 rfl rfl rfl hl.1 (Nat.le_of_ble_eq_true rfl) dX10_best_105 ⟨Nat.le_of_ble_eq_true rfl, Nat.le_of_ble_eq_true rfl⟩) (fun r_24 u_24 H locs hp_24 G => ?_)
              obtain ⟨d_24, rfl⟩ : ∃ z, z = u_24 := ⟨_, rfl⟩
              have hq_24 := hp_24
              obtain ⟨hq_24, hs_24⟩ := hq_24
              have G : wd X (va_A (@HAppend.hAppend va_W va_W va_W _ (xW h0 nw sp xa la lb) (@HAppend.hAppend va_W va_W va_W _ (rcV X nw an sv dv n0 n1 n2 n3 n4 g0 gs gn gm) (@HAppend.hAppend va_W va_W va_W _ (rnV (xa 8) ag dg) ([((xa 5), .inl (X.2.1, 3, .inl fr))])))) sz) (va_A (@HAppend.hAppend va_W va_W va_W _ (xW h0 nw sp xa la lb) (@HAppend.hAppend va_W va_W va_W _ (rcV X nw an sv dv n0 n1 n2 n3 n4 g0 gs gn gm) (@HAppend.hAppend va_W va_W va_W _ (rnV (xa 8) ag dg) ([((xa 5), .inl (X.2.1, 3, .inl fr))])))) sz) s (@HAppend.hAppend va_W va_W va_W _ (xW h0 nw sp xa la lb) (@HAppend.hAppend va_W va_W va_W _ (rcV X nw an sv dv n0 n1 n2 n3 n4 g0 gs gn gm) (@HAppend.hAppend va_W va_W va_W _ ([((xa 5), .inl (X.2.1, 3, .inl fr))]) (rnV (xa 8) a_22a d_24)))) H locs := G
              refine lv_istore (lv' := [(7, .int r_24), (6, .int (nI k53)), (5, .int x53_5), (4, .int x53_4), (3, .int x53_3), (0, .ref h0), (1, .int 1), (2, .int x2)]) zx zb dX10_best_108 hl (by decide) rfl (fun ls hl => ?_)
              refine lv_iload zx zb dX10_best_110 (lv_at hl 0 rfl) ?_
              refine lv_iconst (v := (-1)) zx zb dX10_best_112 (by decide) ?_
              refine k_cutW (PP := fun Wx => ∀ (x_26 : Int32) (x_27 : Int32) (x_28 : Int32) (H : Heap) (locs : List Loc) (ls : Array Slot), (x_26 ≤ 60) → wd X (va_A (@HAppend.hAppend va_W va_W va_W _ (xW h0 nw sp xa la lb) (@HAppend.hAppend va_W va_W va_W _ (rcV X nw an sv dv n0 n1 n2 n3 n4 g0 gs gn gm) (@HAppend.hAppend va_W va_W va_W _ (rnV (xa 8) ag dg) ([((xa 5), .inl (X.2.1, 3, .inl fr))])))) sz) (va_A (@HAppend.hAppend va_W va_W va_W _ (xW h0 nw sp xa la lb) (@HAppend.hAppend va_W va_W va_W _ (rcV X nw an sv dv n0 n1 n2 n3 n4 g0 gs gn gm) (@HAppend.hAppend va_W va_W va_W _ (rnV (xa 8) ag dg) ([((xa 5), .inl (X.2.1, 3, .inl fr))])))) sz) s (@HAppend.hAppend va_W va_W va_W _ (xW h0 nw sp xa la lb) (@HAppend.hAppend va_W va_W va_W _ (rcV X nw an sv dv n0 n1 n2 n3 n4 g0 gs gn gm) (@HAppend.hAppend va_W va_W va_W _ ([((xa 5), .inl (X.2.1, 3, .inl fr))]) (rnV (xa 8) a_22a d_24)))) H locs → lv_has ls 8 [(7, .int r_24), (6, .int (nI k53)), (5, .int x_26), (4, .int x_27), (3, .int x_28), (0, .ref h0), (1, .int 1), (2, .int x2)] → Wx (F0 m 129 ls []) H locs) ?_ ?_
              · intro join_113
                refine lv_icmp_eq (tgt := 129) zx zb dX10_best_113 (by decide) (fun c_25 => ?_) (fun c_25 => ?_)
                · exact join_113 x53_5 x53_4 x53_3 _ _ _ (by first | assumption | decide | exact k_m60 (by assumption)) G hl
                · refine lv_iload zx zb dX10_best_116 (lv_at hl 1 rfl) ?_
                  refine lv_istore_n (lv' := [(3, .int (nI k53)), (7, .int r_24), (6, .int (nI k53)), (5, .int x53_5), (4, .int x53_4), (0, .ref h0), (1, .int 1), (2, .int x2)]) zx zb dX10_best_118 rfl hl (by decide) rfl (fun ls hl => ?_)
                  refine lv_iload zx zb dX10_best_119 (lv_at hl 1 rfl) ?_
                  refine lv_istore (lv' := [(4, .int r_24), (3, .int (nI k53)), (7, .int r_24), (6, .int (nI k53)), (5, .int x53_5), (0, .ref h0), (1, .int 1), (2, .int x2)]) zx zb dX10_best_121 hl (by decide) rfl (fun ls hl => ?_)
                  refine lv_iload zx zb dX10_best_123 (lv_at hl 2 rfl) ?_
                  refine lv_iconst (v := 1) zx zb dX10_best_125 (by decide) ?_
                  refine r_isub (v := (r_24 - 1)) S rfl dX10_best_126 ?_
                  refine lv_istore (lv' := [(5, .int (r_24 - 1)), (4, .int r_24), (3, .int (nI k53)), (7, .int r_24), (6, .int (nI k53)), (0, .ref h0), (1, .int 1), (2, .int x2)]) zx zb dX10_best_127 hl (by decide) rfl (fun ls hl => ?_)
                  have hl := lv_sub hl (l' := [(7, .int r_24), (6, .int (nI k53)), (5, .int (r_24 - 1)), (4, .int r_24), (3, .int (nI k53)), (0, .ref h0), (1, .int 1), (2, .int x2)]) [3, 4, 0, 1, 2, 5, 6, 7] rfl
                  exact join_113 (r_24 - 1) r_24 (nI k53) _ _ _ (by first | assumption | decide | exact k_m60 (by assumption)) G hl
              · intro x_26 x_27 x_28 H locs ls hk_x_26 G hl
                refine lv_iinc (v := (nI (k53 + 1))) (lv' := [(6, .int (nI (k53 + 1))), (7, .int r_24), (5, .int x_26), (4, .int x_27), (3, .int x_28), (0, .ref h0), (1, .int 1), (2, .int x2)]) zx zb dX10_best_129 hl (k := 1) rfl (nI_add k53 1) (by decide) rfl (fun ls hl => ?_)
                refine lv_goto (tgt := 53) zx zb dX10_best_132 (by decide) ?_
                have G : wd X (va_A (@HAppend.hAppend va_W va_W va_W _ (xW h0 nw sp xa la lb) (@HAppend.hAppend va_W va_W va_W _ (rcV X nw an sv dv n0 n1 n2 n3 n4 g0 gs gn gm) (@HAppend.hAppend va_W va_W va_W _ (rnV (xa 8) ag dg) ([((xa 5), .inl (X.2.1, 3, .inl fr))])))) sz) (va_A (@HAppend.hAppend va_W va_W va_W _ (xW h0 nw sp xa la lb) (@HAppend.hAppend va_W va_W va_W _ (rcV X nw an sv dv n0 n1 n2 n3 n4 g0 gs gn gm) (@HAppend.hAppend va_W va_W va_W _ (rnV (xa 8) ag dg) ([((xa 5), .inl (X.2.1, 3, .inl fr))])))) sz) s (@HAppend.hAppend va_W va_W va_W _ (xW h0 nw sp xa la lb) (@HAppend.hAppend va_W va_W va_W _ (rcV X nw an sv dv n0 n1 n2 n3 n4 g0 gs gn gm) (@HAppend.hAppend va_W va_W va_W _ (rnV (xa 8) a_22a d_24) ([((xa 5), .inl (X.2.1, 3, .inl fr))])))) H locs := wd_sub G [0, 1, 2, 3, 4, 5, 6, 7, 8, 9, 10, 11, 12, 13, 14, 15, 16, 18, 17] rfl rfl
                have hl := lv_sub hl (l' := [(6, .int (nI (k53 + 1))), (5, .int x_26), (4, .int x_27), (3, .int x_28), (0, .ref h0), (1, .int 1), (2, .int x2)]) [0, 2, 3, 4, 5, 6, 7] rfl
                exact ih53 (k53 + 1) x_26 x_27 x_28 a_22a d_24 _ _ _ (by omega) (by omega) (by first | assumption | decide | exact k_m60 (by assumption)) G hl
        · refine lv_iconst (v := (-1)) zx zb dX10_best_39 (by decide) ?_
          exact e_int S zr zlk (vp_nar_int _) G (ag, dg, fr) [0, 1, 2, 3, 4, 5, 6, 7, 8, 9, 10, 11, 12, 13, 14, 15, 16, 17, 18] rfl rfl (Or.inr rfl) (trivial) dX10_best_40
      · refine k_it (v := 2) rfl ?_
        refine r_aald (C := RX8) (b := (an 3)) S G 2 3 rfl rfl (k_vp (by decide)) rfl dX10_best_32 ?_
        refine o_ri (cells' := 0) (slots' := 0) G rfl rfl (n_V (As := []) (rest := []) (C := RX8) (T := TX8) (N := 8) (ci := 6) S G (s_isHome l X (an 3) (fun k => sv (6 + k)) (fun k => dv (20 + k)) H.size) gX10_best_X8_isHome rfl rfl rfl hdV_X8_isHome ⟨Nat.le_of_ble_eq_true rfl, Nat.le_of_ble_eq_true rfl⟩ [5] rfl rfl 5 rfl rfl rfl hl.1 (Nat.le_of_ble_eq_true rfl) dX10_best_33 ⟨Nat.le_of_ble_eq_true rfl, Nat.le_of_ble_eq_true rfl⟩) (fun r_29 u_29 H locs hp_29 G => ?_)
        have G : wd X (va_A (@HAppend.hAppend va_W va_W va_W _ (xW h0 nw sp xa la lb) (@HAppend.hAppend va_W va_W va_W _ (rcV X nw an sv dv n0 n1 n2 n3 n4 g0 gs gn gm) (@HAppend.hAppend va_W va_W va_W _ (rnV (xa 8) ag dg) ([((xa 5), .inl (X.2.1, 3, .inl fr))])))) sz) (va_A (@HAppend.hAppend va_W va_W va_W _ (xW h0 nw sp xa la lb) (@HAppend.hAppend va_W va_W va_W _ (rcV X nw an sv dv n0 n1 n2 n3 n4 g0 gs gn gm) (@HAppend.hAppend va_W va_W va_W _ (rnV (xa 8) ag dg) ([((xa 5), .inl (X.2.1, 3, .inl fr))])))) sz) s (@HAppend.hAppend va_W va_W va_W _ (xW h0 nw sp xa la lb) (@HAppend.hAppend va_W va_W va_W _ (rcV X nw an sv dv n0 n1 n2 n3 n4 g0 gs gn gm) (@HAppend.hAppend va_W va_W va_W _ (rnV (xa 8) ag dg) ([((xa 5), .inl (X.2.1, 3, .inl fr))])))) H locs := G
        refine lv_if_eq (tgt := 41) zx zb dX10_best_36 (by decide) (fun c_30 => ?_) (fun c_30 => ?_)
        · refine lv_iconst (v := (-1)) zx zb dX10_best_41 (by decide) ?_
          refine lv_istore_n (lv' := [(3, .int (-1)), (0, .ref h0), (1, .int 2), (2, .int x2)]) zx zb dX10_best_42 rfl hl (by decide) rfl (fun ls hl => ?_)
          refine lv_iconst (v := (-1)) zx zb dX10_best_43 (by decide) ?_
          refine lv_istore (lv' := [(4, .int (-1)), (3, .int (-1)), (0, .ref h0), (1, .int 2), (2, .int x2)]) zx zb dX10_best_44 hl (by decide) rfl (fun ls hl => ?_)
          refine lv_bipush (v := 60) zx zb dX10_best_46 (by decide) ?_
          refine lv_istore (lv' := [(5, .int 60), (4, .int (-1)), (3, .int (-1)), (0, .ref h0), (1, .int 2), (2, .int x2)]) zx zb dX10_best_48 hl (by decide) rfl (fun ls hl => ?_)
          refine lv_iconst (v := 0) zx zb dX10_best_50 (by decide) ?_
          refine lv_istore (lv' := [(6, .int 0), (5, .int 60), (4, .int (-1)), (3, .int (-1)), (0, .ref h0), (1, .int 2), (2, .int x2)]) zx zb dX10_best_51 hl (by decide) rfl (fun ls hl => ?_)
          refine k_loop (P := ∀ (zm : Nat) (k53 : Nat) (x53_5 : Int32) (x53_4 : Int32) (x53_3 : Int32) (a53_2 : Nat → Int32) (d53_2 : Nat → Int32) (H : Heap) (locs : List Loc) (ls : Array Slot), 10 + 1 ≤ k53 + zm → (k53 ≤ 10) → (x53_5 ≤ 60) → wd X (va_A (@HAppend.hAppend va_W va_W va_W _ (xW h0 nw sp xa la lb) (@HAppend.hAppend va_W va_W va_W _ (rcV X nw an sv dv n0 n1 n2 n3 n4 g0 gs gn gm) (@HAppend.hAppend va_W va_W va_W _ (rnV (xa 8) ag dg) ([((xa 5), .inl (X.2.1, 3, .inl fr))])))) sz) (va_A (@HAppend.hAppend va_W va_W va_W _ (xW h0 nw sp xa la lb) (@HAppend.hAppend va_W va_W va_W _ (rcV X nw an sv dv n0 n1 n2 n3 n4 g0 gs gn gm) (@HAppend.hAppend va_W va_W va_W _ (rnV (xa 8) ag dg) ([((xa 5), .inl (X.2.1, 3, .inl fr))])))) sz) s (@HAppend.hAppend va_W va_W va_W _ (xW h0 nw sp xa la lb) (@HAppend.hAppend va_W va_W va_W _ (rcV X nw an sv dv n0 n1 n2 n3 n4 g0 gs gn gm) (@HAppend.hAppend va_W va_W va_W _ (rnV (xa 8) a53_2 d53_2) ([((xa 5), .inl (X.2.1, 3, .inl fr))])))) H locs → lv_has ls 8 [(6, .int (nI k53)), (5, .int x53_5), (4, .int x53_4), (3, .int x53_3), (0, .ref h0), (1, .int 2), (2, .int x2)] → W p l e _ s m _ below meth c H locs _ _ _ (F0 m 53 ls [])) (fun loop => loop (10 + 1) 0 60 (-1) (-1) ag dg _ _ _ (by omega) (by omega) (by first | assumption | decide | exact k_m60 (by assumption)) G hl) ?_
          intro zm
          induction zm with
          | zero => intro k53 x53_5 x53_4 x53_3 a53_2 d53_2 H locs ls zz q_hk_k53 q_hk_x53_5 _ _; exact absurd zz (by omega)
          | succ zm ih53 =>
            intro k53 x53_5 x53_4 x53_3 a53_2 d53_2 H locs ls zm_53 hk_k53 hk_x53_5 G hl
            refine lv_iload zx zb dX10_best_53 (lv_at hl 0 rfl) ?_
            refine lv_bipush (v := 9) zx zb dX10_best_55 (by decide) ?_
            refine lv_icmp_gt (tgt := 135) zx zb dX10_best_57 (by decide) (fun c_31 => ?_) (fun c_31 => ?_)
            · have fc_31 := j_lt (a := 9) (b := k53) (by omega) (by omega) c_31
              refine lv_iload_n zx zb dX10_best_135 rfl (lv_at hl 6 rfl) ?_
              refine k_cutW (PP := fun Wx => ∀ (x_33 : Int32) (H : Heap) (locs : List Loc) (ls : Array Slot), wd X (va_A (@HAppend.hAppend va_W va_W va_W _ (xW h0 nw sp xa la lb) (@HAppend.hAppend va_W va_W va_W _ (rcV X nw an sv dv n0 n1 n2 n3 n4 g0 gs gn gm) (@HAppend.hAppend va_W va_W va_W _ (rnV (xa 8) ag dg) ([((xa 5), .inl (X.2.1, 3, .inl fr))])))) sz) (va_A (@HAppend.hAppend va_W va_W va_W _ (xW h0 nw sp xa la lb) (@HAppend.hAppend va_W va_W va_W _ (rcV X nw an sv dv n0 n1 n2 n3 n4 g0 gs gn gm) (@HAppend.hAppend va_W va_W va_W _ (rnV (xa 8) ag dg) ([((xa 5), .inl (X.2.1, 3, .inl fr))])))) sz) s (@HAppend.hAppend va_W va_W va_W _ (xW h0 nw sp xa la lb) (@HAppend.hAppend va_W va_W va_W _ (rcV X nw an sv dv n0 n1 n2 n3 n4 g0 gs gn gm) (@HAppend.hAppend va_W va_W va_W _ (rnV (xa 8) a53_2 d53_2) ([((xa 5), .inl (X.2.1, 3, .inl fr))])))) H locs → lv_has ls 8 [(6, .int (nI k53)), (5, .int x53_5), (4, .int x53_4), (3, .int x53_3), (0, .ref h0), (1, .int 2), (2, .int x2)] → Wx (F0 m 145 ls [.int x_33]) H locs) ?_ ?_
              · intro join_136
                refine lv_if_ne (tgt := 143) zx zb dX10_best_136 (by decide) (fun c_32 => ?_) (fun c_32 => ?_)
                · refine lv_iload zx zb dX10_best_143 (lv_at hl 2 rfl) ?_
                  exact join_136 x53_4 _ _ _  G hl
                · refine lv_iload_n zx zb dX10_best_139 rfl (lv_at hl 3 rfl) ?_
                  refine lv_goto (tgt := 145) zx zb dX10_best_140 (by decide) ?_
                  exact join_136 x53_3 _ _ _  G hl
              · intro x_33 H locs ls  G hl
                exact e_int S zr zlk (vp_nar_int _) G (a53_2, d53_2, fr) [0, 1, 2, 3, 4, 5, 6, 7, 8, 9, 10, 11, 12, 13, 14, 15, 16, 17, 18] rfl rfl (Or.inr rfl) (trivial) dX10_best_145
            · have fc_31 := j_nlt (a := 9) (b := k53) (by omega) (by omega) c_31
              refine lv_aload_n zx zb dX10_best_60 rfl (lv_at hl 4 rfl) ?_
              refine r_get (C := RX10) (T := TX10) (N := 14) (ci := 8) (v := .ref (xa 8)) S in_X10_best_X10 G 0 rfl rfl 8 (by decide) lk_X10_best_48 rfl dX10_best_61 ?_
              refine lv_aload_n zx zb dX10_best_64 rfl (lv_at hl 4 rfl) ?_
              refine r_get (C := RX10) (T := TX10) (N := 14) (ci := 8) (v := .ref nw) S in_X10_best_X10 G 0 rfl rfl 0 (by decide) lk_X10_best_10 rfl dX10_best_65 ?_
              refine r_get (C := RX5) (T := TX5) (N := 8) (ci := 3) (v := .ref (an 0)) S in_X10_best_X5 G 1 rfl rfl 3 (by decide) lk_X10_best_126 rfl dX10_best_68 ?_
              refine lv_iload_n zx zb dX10_best_71 rfl (lv_at hl 5 rfl) ?_
              refine r_aald (C := RX8) (b := (an 3)) S G 2 3 rfl rfl (k_vp (by decide)) rfl dX10_best_72 ?_
              refine b_wv (cells' := 0) (slots' := 0) (wr := @HAppend.hAppend va_W va_W va_W _ (xW h0 nw sp xa la lb) (@HAppend.hAppend va_W va_W va_W _ ([(nw, .inr (3, [.int (dv 0), .int (dv 1), .int (nI n0), .ref (an 0), .ref (an 7), .ref (an 9), .ref (an 11), .ref (an 13)])), ((an 0), .inl (X.2.2.2.2, 6, .inr (.inr (.inr (.inr (rowQ an)))))), ((an 1), .inr (6, [.int (sv 0), .int (sv 1), .int (sv 2), .int (dv 10), .int (dv 11), .int (dv 12), .int (dv 13), .int (dv 14)])), ((an 2), .inr (6, [.int (sv 3), .int (sv 4), .int (sv 5), .int (dv 15), .int (dv 16), .int (dv 17), .int (dv 18), .int (dv 19)])), ((an 4), .inr (6, [.int (sv 9), .int (sv 10), .int (sv 11), .int (dv 25), .int (dv 26), .int (dv 27), .int (dv 28), .int (dv 29)])), ((an 5), .inr (6, [.int (sv 12), .int (sv 13), .int (sv 14), .int (dv 30), .int (dv 31), .int (dv 32), .int (dv 33), .int (dv 34)])), ((an 6), .inr (6, [.int (sv 15), .int (sv 16), .int (sv 17), .int (dv 35), .int (dv 36), .int (dv 37), .int (dv 38), .int (dv 39)])), ((an 7), .inr (2, [.ref (an 8), .int (nI n1)])), ((an 8), .inl (X.2.1, 248, .inl g0)), ((an 9), .inr (5, [.int 5, .int 0, .int 1, .ref (an 10), .int (nI n2)])), ((an 10), .inl (X.2.1, 25, .inl gs)), ((an 11), .inr (5, [.int 6, .int 1, .int 1, .ref (an 12), .int (nI n3)])), ((an 12), .inl (X.2.1, 30, .inl gn)), ((an 13), .inr (5, [.int 6, .int 0, .int 0, .ref (an 14), .int (nI n4)])), ((an 14), .inl (X.2.1, 30, .inl gm))]) ([((xa 5), .inl (X.2.1, 3, .inl fr))]))) G rfl rfl [17, 5] [0, 1, 2, 3, 4, 6, 7, 8, 9, 10, 11, 12, 13, 14, 15, 16, 18] rfl rfl rfl rfl (n_V (As := [.ref (an 3)]) (rest := []) (C := RX8) (T := TX8) (N := 8) (ci := 6) S G (s_rcopy l X (xa 8) a53_2 d53_2 (an 3) (fun k => sv (6 + k)) (fun k => dv (20 + k)) H.size) gX10_best_X8_copyFrom rfl rfl rfl hdV_X8_copyFrom ⟨Nat.le_of_ble_eq_true rfl, Nat.le_of_ble_eq_true rfl⟩ [17, 5] rfl rfl 17 rfl rfl rfl hl.1 (Nat.le_of_ble_eq_true rfl) dX10_best_73 ⟨Nat.le_of_ble_eq_true rfl, Nat.le_of_ble_eq_true rfl⟩) (fun u_34 H locs hp_34 G => ?_)
              obtain ⟨a_34a, d_34b⟩ := u_34
              have hq_34 := hp_34
              have G : wd X (va_A (@HAppend.hAppend va_W va_W va_W _ (xW h0 nw sp xa la lb) (@HAppend.hAppend va_W va_W va_W _ (rcV X nw an sv dv n0 n1 n2 n3 n4 g0 gs gn gm) (@HAppend.hAppend va_W va_W va_W _ (rnV (xa 8) ag dg) ([((xa 5), .inl (X.2.1, 3, .inl fr))])))) sz) (va_A (@HAppend.hAppend va_W va_W va_W _ (xW h0 nw sp xa la lb) (@HAppend.hAppend va_W va_W va_W _ (rcV X nw an sv dv n0 n1 n2 n3 n4 g0 gs gn gm) (@HAppend.hAppend va_W va_W va_W _ (rnV (xa 8) ag dg) ([((xa 5), .inl (X.2.1, 3, .inl fr))])))) sz) s (@HAppend.hAppend va_W va_W va_W _ (xW h0 nw sp xa la lb) (@HAppend.hAppend va_W va_W va_W _ (rcV X nw an sv dv n0 n1 n2 n3 n4 g0 gs gn gm) (@HAppend.hAppend va_W va_W va_W _ ([((xa 5), .inl (X.2.1, 3, .inl fr))]) (rnV (xa 8) a_34a d_34b)))) H locs := wd_sub G [0, 1, 2, 3, 4, 18, 5, 6, 7, 8, 9, 10, 11, 12, 13, 14, 15, 16, 17] rfl rfl
              refine lv_aload_n zx zb dX10_best_76 rfl (lv_at hl 4 rfl) ?_
              refine r_get (C := RX10) (T := TX10) (N := 14) (ci := 8) (v := .ref (xa 8)) S in_X10_best_X10 G 0 rfl rfl 8 (by decide) lk_X10_best_48 rfl dX10_best_77 ?_
              refine lv_iload zx zb dX10_best_80 (lv_at hl 0 rfl) ?_
              refine r_put (C := RX8) (T := TX8) (N := 8) (ci := 6) (v := .int (nI k53)) S in_X10_best_X8 tyX8_ok nmX8 G 18 rfl rfl 3 (by decide) lk_X10_best_130 rfl (vp_nar_int _) rfl (Nat.le_of_ble_eq_true rfl) dX10_best_82 (fun H locs G => ?_)
              obtain ⟨d_35, G⟩ : ∃ d_35 : Nat → Int32, wd X (va_A (@HAppend.hAppend va_W va_W va_W _ (xW h0 nw sp xa la lb) (@HAppend.hAppend va_W va_W va_W _ (rcV X nw an sv dv n0 n1 n2 n3 n4 g0 gs gn gm) (@HAppend.hAppend va_W va_W va_W _ (rnV (xa 8) ag dg) ([((xa 5), .inl (X.2.1, 3, .inl fr))])))) sz) (va_A (@HAppend.hAppend va_W va_W va_W _ (xW h0 nw sp xa la lb) (@HAppend.hAppend va_W va_W va_W _ (rcV X nw an sv dv n0 n1 n2 n3 n4 g0 gs gn gm) (@HAppend.hAppend va_W va_W va_W _ (rnV (xa 8) ag dg) ([((xa 5), .inl (X.2.1, 3, .inl fr))])))) sz) s (@HAppend.hAppend va_W va_W va_W _ (xW h0 nw sp xa la lb) (@HAppend.hAppend va_W va_W va_W _ (rcV X nw an sv dv n0 n1 n2 n3 n4 g0 gs gn gm) (@HAppend.hAppend va_W va_W va_W _ ([((xa 5), .inl (X.2.1, 3, .inl fr))]) (rnV (xa 8) a_34a d_35)))) H locs := ⟨upd d_34b 0 (nI k53), G⟩
              refine lv_aload_n zx zb dX10_best_85 rfl (lv_at hl 4 rfl) ?_
              refine r_get (C := RX10) (T := TX10) (N := 14) (ci := 8) (v := .ref (xa 8)) S in_X10_best_X10 G 0 rfl rfl 8 (by decide) lk_X10_best_48 rfl dX10_best_86 ?_
              refine lv_aload_n zx zb dX10_best_89 rfl (lv_at hl 4 rfl) ?_
              refine r_get (C := RX10) (T := TX10) (N := 14) (ci := 8) (v := .ref nw) S in_X10_best_X10 G 0 rfl rfl 0 (by decide) lk_X10_best_10 rfl dX10_best_90 ?_
              refine r_get (C := RX5) (T := TX5) (N := 8) (ci := 3) (v := .int (dv 1)) S in_X10_best_X5 G 1 rfl rfl 1 (by decide) lk_X10_best_110 rfl dX10_best_93 ?_
              refine lv_aload_n zx zb dX10_best_96 rfl (lv_at hl 4 rfl) ?_
              refine r_get (C := RX10) (T := TX10) (N := 14) (ci := 8) (v := .ref nw) S in_X10_best_X10 G 0 rfl rfl 0 (by decide) lk_X10_best_10 rfl dX10_best_97 ?_
              refine r_get (C := RX5) (T := TX5) (N := 8) (ci := 3) (v := .int (dv 0)) S in_X10_best_X5 G 1 rfl rfl 0 (by decide) lk_X10_best_140 rfl dX10_best_100 ?_
              refine lv_iload zx zb dX10_best_103 (lv_at hl 1 rfl) ?_
              refine b_wi (cells' := 0) (slots' := 0) (wr := @HAppend.hAppend va_W va_W va_W _ (xW h0 nw sp xa la lb) (@HAppend.hAppend va_W va_W va_W _ (rcV X nw an sv dv n0 n1 n2 n3 n4 g0 gs gn gm) ([((xa 5), .inl (X.2.1, 3, .inl fr))]))) G rfl rfl [18] [0, 1, 2, 3, 4, 5, 6, 7, 8, 9, 10, 11, 12, 13, 14, 15, 16, 17] rfl rfl rfl rfl (n_V (As := [.int (dv 1), .int (dv 0), .int x53_5]) (rest := []) (C := RX8) (T := TX8) (N := 8) (ci := 6) S G (s_ticksToHome l X (xa 8) a_34a d_35 (dv 1) (dv 0) x53_5 (by first | decide | assumption | exact k_60a (by assumption) | exact hw_3.2) H.size) gX10_best_X8_ticksToHome rfl rfl rfl hdV_X8_ticksToHome ⟨Nat.le_of_ble_eq_true rfl, Nat.le_of_ble_eq_true rfl⟩ [18] rfl rfl 18 rfl rfl rfl hl.1 (Nat.le_of_ble_eq_true rfl) dX10_best_105 ⟨Nat.le_of_ble_eq_true rfl, Nat.le_of_ble_eq_true rfl⟩) (fun r_36 u_36 H locs hp_36 G => ?_)
              obtain ⟨d_36, rfl⟩ : ∃ z, z = u_36 := ⟨_, rfl⟩
              have hq_36 := hp_36
              obtain ⟨hq_36, hs_36⟩ := hq_36
              have G : wd X (va_A (@HAppend.hAppend va_W va_W va_W _ (xW h0 nw sp xa la lb) (@HAppend.hAppend va_W va_W va_W _ (rcV X nw an sv dv n0 n1 n2 n3 n4 g0 gs gn gm) (@HAppend.hAppend va_W va_W va_W _ (rnV (xa 8) ag dg) ([((xa 5), .inl (X.2.1, 3, .inl fr))])))) sz) (va_A (@HAppend.hAppend va_W va_W va_W _ (xW h0 nw sp xa la lb) (@HAppend.hAppend va_W va_W va_W _ (rcV X nw an sv dv n0 n1 n2 n3 n4 g0 gs gn gm) (@HAppend.hAppend va_W va_W va_W _ (rnV (xa 8) ag dg) ([((xa 5), .inl (X.2.1, 3, .inl fr))])))) sz) s (@HAppend.hAppend va_W va_W va_W _ (xW h0 nw sp xa la lb) (@HAppend.hAppend va_W va_W va_W _ (rcV X nw an sv dv n0 n1 n2 n3 n4 g0 gs gn gm) (@HAppend.hAppend va_W va_W va_W _ ([((xa 5), .inl (X.2.1, 3, .inl fr))]) (rnV (xa 8) a_34a d_36)))) H locs := G
              refine lv_istore (lv' := [(7, .int r_36), (6, .int (nI k53)), (5, .int x53_5), (4, .int x53_4), (3, .int x53_3), (0, .ref h0), (1, .int 2), (2, .int x2)]) zx zb dX10_best_108 hl (by decide) rfl (fun ls hl => ?_)
              refine lv_iload zx zb dX10_best_110 (lv_at hl 0 rfl) ?_
              refine lv_iconst (v := (-1)) zx zb dX10_best_112 (by decide) ?_
              refine k_cutW (PP := fun Wx => ∀ (x_38 : Int32) (x_39 : Int32) (x_40 : Int32) (H : Heap) (locs : List Loc) (ls : Array Slot), (x_38 ≤ 60) → wd X (va_A (@HAppend.hAppend va_W va_W va_W _ (xW h0 nw sp xa la lb) (@HAppend.hAppend va_W va_W va_W _ (rcV X nw an sv dv n0 n1 n2 n3 n4 g0 gs gn gm) (@HAppend.hAppend va_W va_W va_W _ (rnV (xa 8) ag dg) ([((xa 5), .inl (X.2.1, 3, .inl fr))])))) sz) (va_A (@HAppend.hAppend va_W va_W va_W _ (xW h0 nw sp xa la lb) (@HAppend.hAppend va_W va_W va_W _ (rcV X nw an sv dv n0 n1 n2 n3 n4 g0 gs gn gm) (@HAppend.hAppend va_W va_W va_W _ (rnV (xa 8) ag dg) ([((xa 5), .inl (X.2.1, 3, .inl fr))])))) sz) s (@HAppend.hAppend va_W va_W va_W _ (xW h0 nw sp xa la lb) (@HAppend.hAppend va_W va_W va_W _ (rcV X nw an sv dv n0 n1 n2 n3 n4 g0 gs gn gm) (@HAppend.hAppend va_W va_W va_W _ ([((xa 5), .inl (X.2.1, 3, .inl fr))]) (rnV (xa 8) a_34a d_36)))) H locs → lv_has ls 8 [(7, .int r_36), (6, .int (nI k53)), (5, .int x_38), (4, .int x_39), (3, .int x_40), (0, .ref h0), (1, .int 2), (2, .int x2)] → Wx (F0 m 129 ls []) H locs) ?_ ?_
              · intro join_113
                refine lv_icmp_eq (tgt := 129) zx zb dX10_best_113 (by decide) (fun c_37 => ?_) (fun c_37 => ?_)
                · exact join_113 x53_5 x53_4 x53_3 _ _ _ (by first | assumption | decide | exact k_m60 (by assumption)) G hl
                · refine lv_iload zx zb dX10_best_116 (lv_at hl 1 rfl) ?_
                  refine lv_istore_n (lv' := [(3, .int (nI k53)), (7, .int r_36), (6, .int (nI k53)), (5, .int x53_5), (4, .int x53_4), (0, .ref h0), (1, .int 2), (2, .int x2)]) zx zb dX10_best_118 rfl hl (by decide) rfl (fun ls hl => ?_)
                  refine lv_iload zx zb dX10_best_119 (lv_at hl 1 rfl) ?_
                  refine lv_istore (lv' := [(4, .int r_36), (3, .int (nI k53)), (7, .int r_36), (6, .int (nI k53)), (5, .int x53_5), (0, .ref h0), (1, .int 2), (2, .int x2)]) zx zb dX10_best_121 hl (by decide) rfl (fun ls hl => ?_)
                  refine lv_iload zx zb dX10_best_123 (lv_at hl 2 rfl) ?_
                  refine lv_iconst (v := 1) zx zb dX10_best_125 (by decide) ?_
                  refine r_isub (v := (r_36 - 1)) S rfl dX10_best_126 ?_
                  refine lv_istore (lv' := [(5, .int (r_36 - 1)), (4, .int r_36), (3, .int (nI k53)), (7, .int r_36), (6, .int (nI k53)), (0, .ref h0), (1, .int 2), (2, .int x2)]) zx zb dX10_best_127 hl (by decide) rfl (fun ls hl => ?_)
                  have hl := lv_sub hl (l' := [(7, .int r_36), (6, .int (nI k53)), (5, .int (r_36 - 1)), (4, .int r_36), (3, .int (nI k53)), (0, .ref h0), (1, .int 2), (2, .int x2)]) [3, 4, 0, 1, 2, 5, 6, 7] rfl
                  exact join_113 (r_36 - 1) r_36 (nI k53) _ _ _ (by first | assumption | decide | exact k_m60 (by assumption)) G hl
              · intro x_38 x_39 x_40 H locs ls hk_x_38 G hl
                refine lv_iinc (v := (nI (k53 + 1))) (lv' := [(6, .int (nI (k53 + 1))), (7, .int r_36), (5, .int x_38), (4, .int x_39), (3, .int x_40), (0, .ref h0), (1, .int 2), (2, .int x2)]) zx zb dX10_best_129 hl (k := 1) rfl (nI_add k53 1) (by decide) rfl (fun ls hl => ?_)
                refine lv_goto (tgt := 53) zx zb dX10_best_132 (by decide) ?_
                have G : wd X (va_A (@HAppend.hAppend va_W va_W va_W _ (xW h0 nw sp xa la lb) (@HAppend.hAppend va_W va_W va_W _ (rcV X nw an sv dv n0 n1 n2 n3 n4 g0 gs gn gm) (@HAppend.hAppend va_W va_W va_W _ (rnV (xa 8) ag dg) ([((xa 5), .inl (X.2.1, 3, .inl fr))])))) sz) (va_A (@HAppend.hAppend va_W va_W va_W _ (xW h0 nw sp xa la lb) (@HAppend.hAppend va_W va_W va_W _ (rcV X nw an sv dv n0 n1 n2 n3 n4 g0 gs gn gm) (@HAppend.hAppend va_W va_W va_W _ (rnV (xa 8) ag dg) ([((xa 5), .inl (X.2.1, 3, .inl fr))])))) sz) s (@HAppend.hAppend va_W va_W va_W _ (xW h0 nw sp xa la lb) (@HAppend.hAppend va_W va_W va_W _ (rcV X nw an sv dv n0 n1 n2 n3 n4 g0 gs gn gm) (@HAppend.hAppend va_W va_W va_W _ (rnV (xa 8) a_34a d_36) ([((xa 5), .inl (X.2.1, 3, .inl fr))])))) H locs := wd_sub G [0, 1, 2, 3, 4, 5, 6, 7, 8, 9, 10, 11, 12, 13, 14, 15, 16, 18, 17] rfl rfl
                have hl := lv_sub hl (l' := [(6, .int (nI (k53 + 1))), (5, .int x_38), (4, .int x_39), (3, .int x_40), (0, .ref h0), (1, .int 2), (2, .int x2)]) [0, 2, 3, 4, 5, 6, 7] rfl
                exact ih53 (k53 + 1) x_38 x_39 x_40 a_34a d_36 _ _ _ (by omega) (by omega) (by first | assumption | decide | exact k_m60 (by assumption)) G hl
        · refine lv_iconst (v := (-1)) zx zb dX10_best_39 (by decide) ?_
          exact e_int S zr zlk (vp_nar_int _) G (ag, dg, fr) [0, 1, 2, 3, 4, 5, 6, 7, 8, 9, 10, 11, 12, 13, 14, 15, 16, 17, 18] rfl rfl (Or.inr rfl) (trivial) dX10_best_40
      · refine k_it (v := 3) rfl ?_
        refine r_aald (C := RX8) (b := (an 4)) S G 2 3 rfl rfl (k_vp (by decide)) rfl dX10_best_32 ?_
        refine o_ri (cells' := 0) (slots' := 0) G rfl rfl (n_V (As := []) (rest := []) (C := RX8) (T := TX8) (N := 8) (ci := 6) S G (s_isHome l X (an 4) (fun k => sv (9 + k)) (fun k => dv (25 + k)) H.size) gX10_best_X8_isHome rfl rfl rfl hdV_X8_isHome ⟨Nat.le_of_ble_eq_true rfl, Nat.le_of_ble_eq_true rfl⟩ [6] rfl rfl 6 rfl rfl rfl hl.1 (Nat.le_of_ble_eq_true rfl) dX10_best_33 ⟨Nat.le_of_ble_eq_true rfl, Nat.le_of_ble_eq_true rfl⟩) (fun r_41 u_41 H locs hp_41 G => ?_)
        have G : wd X (va_A (@HAppend.hAppend va_W va_W va_W _ (xW h0 nw sp xa la lb) (@HAppend.hAppend va_W va_W va_W _ (rcV X nw an sv dv n0 n1 n2 n3 n4 g0 gs gn gm) (@HAppend.hAppend va_W va_W va_W _ (rnV (xa 8) ag dg) ([((xa 5), .inl (X.2.1, 3, .inl fr))])))) sz) (va_A (@HAppend.hAppend va_W va_W va_W _ (xW h0 nw sp xa la lb) (@HAppend.hAppend va_W va_W va_W _ (rcV X nw an sv dv n0 n1 n2 n3 n4 g0 gs gn gm) (@HAppend.hAppend va_W va_W va_W _ (rnV (xa 8) ag dg) ([((xa 5), .inl (X.2.1, 3, .inl fr))])))) sz) s (@HAppend.hAppend va_W va_W va_W _ (xW h0 nw sp xa la lb) (@HAppend.hAppend va_W va_W va_W _ (rcV X nw an sv dv n0 n1 n2 n3 n4 g0 gs gn gm) (@HAppend.hAppend va_W va_W va_W _ (rnV (xa 8) ag dg) ([((xa 5), .inl (X.2.1, 3, .inl fr))])))) H locs := G
        refine lv_if_eq (tgt := 41) zx zb dX10_best_36 (by decide) (fun c_42 => ?_) (fun c_42 => ?_)
        · refine lv_iconst (v := (-1)) zx zb dX10_best_41 (by decide) ?_
          refine lv_istore_n (lv' := [(3, .int (-1)), (0, .ref h0), (1, .int 3), (2, .int x2)]) zx zb dX10_best_42 rfl hl (by decide) rfl (fun ls hl => ?_)
          refine lv_iconst (v := (-1)) zx zb dX10_best_43 (by decide) ?_
          refine lv_istore (lv' := [(4, .int (-1)), (3, .int (-1)), (0, .ref h0), (1, .int 3), (2, .int x2)]) zx zb dX10_best_44 hl (by decide) rfl (fun ls hl => ?_)
          refine lv_bipush (v := 60) zx zb dX10_best_46 (by decide) ?_
          refine lv_istore (lv' := [(5, .int 60), (4, .int (-1)), (3, .int (-1)), (0, .ref h0), (1, .int 3), (2, .int x2)]) zx zb dX10_best_48 hl (by decide) rfl (fun ls hl => ?_)
          refine lv_iconst (v := 0) zx zb dX10_best_50 (by decide) ?_
          refine lv_istore (lv' := [(6, .int 0), (5, .int 60), (4, .int (-1)), (3, .int (-1)), (0, .ref h0), (1, .int 3), (2, .int x2)]) zx zb dX10_best_51 hl (by decide) rfl (fun ls hl => ?_)
          refine k_loop (P := ∀ (zm : Nat) (k53 : Nat) (x53_5 : Int32) (x53_4 : Int32) (x53_3 : Int32) (a53_2 : Nat → Int32) (d53_2 : Nat → Int32) (H : Heap) (locs : List Loc) (ls : Array Slot), 10 + 1 ≤ k53 + zm → (k53 ≤ 10) → (x53_5 ≤ 60) → wd X (va_A (@HAppend.hAppend va_W va_W va_W _ (xW h0 nw sp xa la lb) (@HAppend.hAppend va_W va_W va_W _ (rcV X nw an sv dv n0 n1 n2 n3 n4 g0 gs gn gm) (@HAppend.hAppend va_W va_W va_W _ (rnV (xa 8) ag dg) ([((xa 5), .inl (X.2.1, 3, .inl fr))])))) sz) (va_A (@HAppend.hAppend va_W va_W va_W _ (xW h0 nw sp xa la lb) (@HAppend.hAppend va_W va_W va_W _ (rcV X nw an sv dv n0 n1 n2 n3 n4 g0 gs gn gm) (@HAppend.hAppend va_W va_W va_W _ (rnV (xa 8) ag dg) ([((xa 5), .inl (X.2.1, 3, .inl fr))])))) sz) s (@HAppend.hAppend va_W va_W va_W _ (xW h0 nw sp xa la lb) (@HAppend.hAppend va_W va_W va_W _ (rcV X nw an sv dv n0 n1 n2 n3 n4 g0 gs gn gm) (@HAppend.hAppend va_W va_W va_W _ (rnV (xa 8) a53_2 d53_2) ([((xa 5), .inl (X.2.1, 3, .inl fr))])))) H locs → lv_has ls 8 [(6, .int (nI k53)), (5, .int x53_5), (4, .int x53_4), (3, .int x53_3), (0, .ref h0), (1, .int 3), (2, .int x2)] → W p l e _ s m _ below meth c H locs _ _ _ (F0 m 53 ls [])) (fun loop => loop (10 + 1) 0 60 (-1) (-1) ag dg _ _ _ (by omega) (by omega) (by first | assumption | decide | exact k_m60 (by assumption)) G hl) ?_
          intro zm
          induction zm with
          | zero => intro k53 x53_5 x53_4 x53_3 a53_2 d53_2 H locs ls zz q_hk_k53 q_hk_x53_5 _ _; exact absurd zz (by omega)
          | succ zm ih53 =>
            intro k53 x53_5 x53_4 x53_3 a53_2 d53_2 H locs ls zm_53 hk_k53 hk_x53_5 G hl
            refine lv_iload zx zb dX10_best_53 (lv_at hl 0 rfl) ?_
            refine lv_bipush (v := 9) zx zb dX10_best_55 (by decide) ?_
            refine lv_icmp_gt (tgt := 135) zx zb dX10_best_57 (by decide) (fun c_43 => ?_) (fun c_43 => ?_)
            · have fc_43 := j_lt (a := 9) (b := k53) (by omega) (by omega) c_43
              refine lv_iload_n zx zb dX10_best_135 rfl (lv_at hl 6 rfl) ?_
              refine k_cutW (PP := fun Wx => ∀ (x_45 : Int32) (H : Heap) (locs : List Loc) (ls : Array Slot), wd X (va_A (@HAppend.hAppend va_W va_W va_W _ (xW h0 nw sp xa la lb) (@HAppend.hAppend va_W va_W va_W _ (rcV X nw an sv dv n0 n1 n2 n3 n4 g0 gs gn gm) (@HAppend.hAppend va_W va_W va_W _ (rnV (xa 8) ag dg) ([((xa 5), .inl (X.2.1, 3, .inl fr))])))) sz) (va_A (@HAppend.hAppend va_W va_W va_W _ (xW h0 nw sp xa la lb) (@HAppend.hAppend va_W va_W va_W _ (rcV X nw an sv dv n0 n1 n2 n3 n4 g0 gs gn gm) (@HAppend.hAppend va_W va_W va_W _ (rnV (xa 8) ag dg) ([((xa 5), .inl (X.2.1, 3, .inl fr))])))) sz) s (@HAppend.hAppend va_W va_W va_W _ (xW h0 nw sp xa la lb) (@HAppend.hAppend va_W va_W va_W _ (rcV X nw an sv dv n0 n1 n2 n3 n4 g0 gs gn gm) (@HAppend.hAppend va_W va_W va_W _ (rnV (xa 8) a53_2 d53_2) ([((xa 5), .inl (X.2.1, 3, .inl fr))])))) H locs → lv_has ls 8 [(6, .int (nI k53)), (5, .int x53_5), (4, .int x53_4), (3, .int x53_3), (0, .ref h0), (1, .int 3), (2, .int x2)] → Wx (F0 m 145 ls [.int x_45]) H locs) ?_ ?_
              · intro join_136
                refine lv_if_ne (tgt := 143) zx zb dX10_best_136 (by decide) (fun c_44 => ?_) (fun c_44 => ?_)
                · refine lv_iload zx zb dX10_best_143 (lv_at hl 2 rfl) ?_
                  exact join_136 x53_4 _ _ _  G hl
                · refine lv_iload_n zx zb dX10_best_139 rfl (lv_at hl 3 rfl) ?_
                  refine lv_goto (tgt := 145) zx zb dX10_best_140 (by decide) ?_
                  exact join_136 x53_3 _ _ _  G hl
              · intro x_45 H locs ls  G hl
                exact e_int S zr zlk (vp_nar_int _) G (a53_2, d53_2, fr) [0, 1, 2, 3, 4, 5, 6, 7, 8, 9, 10, 11, 12, 13, 14, 15, 16, 17, 18] rfl rfl (Or.inr rfl) (trivial) dX10_best_145
            · have fc_43 := j_nlt (a := 9) (b := k53) (by omega) (by omega) c_43
              refine lv_aload_n zx zb dX10_best_60 rfl (lv_at hl 4 rfl) ?_
              refine r_get (C := RX10) (T := TX10) (N := 14) (ci := 8) (v := .ref (xa 8)) S in_X10_best_X10 G 0 rfl rfl 8 (by decide) lk_X10_best_48 rfl dX10_best_61 ?_
              refine lv_aload_n zx zb dX10_best_64 rfl (lv_at hl 4 rfl) ?_
              refine r_get (C := RX10) (T := TX10) (N := 14) (ci := 8) (v := .ref nw) S in_X10_best_X10 G 0 rfl rfl 0 (by decide) lk_X10_best_10 rfl dX10_best_65 ?_
              refine r_get (C := RX5) (T := TX5) (N := 8) (ci := 3) (v := .ref (an 0)) S in_X10_best_X5 G 1 rfl rfl 3 (by decide) lk_X10_best_126 rfl dX10_best_68 ?_
              refine lv_iload_n zx zb dX10_best_71 rfl (lv_at hl 5 rfl) ?_
              refine r_aald (C := RX8) (b := (an 4)) S G 2 3 rfl rfl (k_vp (by decide)) rfl dX10_best_72 ?_
              refine b_wv (cells' := 0) (slots' := 0) (wr := @HAppend.hAppend va_W va_W va_W _ (xW h0 nw sp xa la lb) (@HAppend.hAppend va_W va_W va_W _ ([(nw, .inr (3, [.int (dv 0), .int (dv 1), .int (nI n0), .ref (an 0), .ref (an 7), .ref (an 9), .ref (an 11), .ref (an 13)])), ((an 0), .inl (X.2.2.2.2, 6, .inr (.inr (.inr (.inr (rowQ an)))))), ((an 1), .inr (6, [.int (sv 0), .int (sv 1), .int (sv 2), .int (dv 10), .int (dv 11), .int (dv 12), .int (dv 13), .int (dv 14)])), ((an 2), .inr (6, [.int (sv 3), .int (sv 4), .int (sv 5), .int (dv 15), .int (dv 16), .int (dv 17), .int (dv 18), .int (dv 19)])), ((an 3), .inr (6, [.int (sv 6), .int (sv 7), .int (sv 8), .int (dv 20), .int (dv 21), .int (dv 22), .int (dv 23), .int (dv 24)])), ((an 5), .inr (6, [.int (sv 12), .int (sv 13), .int (sv 14), .int (dv 30), .int (dv 31), .int (dv 32), .int (dv 33), .int (dv 34)])), ((an 6), .inr (6, [.int (sv 15), .int (sv 16), .int (sv 17), .int (dv 35), .int (dv 36), .int (dv 37), .int (dv 38), .int (dv 39)])), ((an 7), .inr (2, [.ref (an 8), .int (nI n1)])), ((an 8), .inl (X.2.1, 248, .inl g0)), ((an 9), .inr (5, [.int 5, .int 0, .int 1, .ref (an 10), .int (nI n2)])), ((an 10), .inl (X.2.1, 25, .inl gs)), ((an 11), .inr (5, [.int 6, .int 1, .int 1, .ref (an 12), .int (nI n3)])), ((an 12), .inl (X.2.1, 30, .inl gn)), ((an 13), .inr (5, [.int 6, .int 0, .int 0, .ref (an 14), .int (nI n4)])), ((an 14), .inl (X.2.1, 30, .inl gm))]) ([((xa 5), .inl (X.2.1, 3, .inl fr))]))) G rfl rfl [17, 6] [0, 1, 2, 3, 4, 5, 7, 8, 9, 10, 11, 12, 13, 14, 15, 16, 18] rfl rfl rfl rfl (n_V (As := [.ref (an 4)]) (rest := []) (C := RX8) (T := TX8) (N := 8) (ci := 6) S G (s_rcopy l X (xa 8) a53_2 d53_2 (an 4) (fun k => sv (9 + k)) (fun k => dv (25 + k)) H.size) gX10_best_X8_copyFrom rfl rfl rfl hdV_X8_copyFrom ⟨Nat.le_of_ble_eq_true rfl, Nat.le_of_ble_eq_true rfl⟩ [17, 6] rfl rfl 17 rfl rfl rfl hl.1 (Nat.le_of_ble_eq_true rfl) dX10_best_73 ⟨Nat.le_of_ble_eq_true rfl, Nat.le_of_ble_eq_true rfl⟩) (fun u_46 H locs hp_46 G => ?_)
              obtain ⟨a_46a, d_46b⟩ := u_46
              have hq_46 := hp_46
              have G : wd X (va_A (@HAppend.hAppend va_W va_W va_W _ (xW h0 nw sp xa la lb) (@HAppend.hAppend va_W va_W va_W _ (rcV X nw an sv dv n0 n1 n2 n3 n4 g0 gs gn gm) (@HAppend.hAppend va_W va_W va_W _ (rnV (xa 8) ag dg) ([((xa 5), .inl (X.2.1, 3, .inl fr))])))) sz) (va_A (@HAppend.hAppend va_W va_W va_W _ (xW h0 nw sp xa la lb) (@HAppend.hAppend va_W va_W va_W _ (rcV X nw an sv dv n0 n1 n2 n3 n4 g0 gs gn gm) (@HAppend.hAppend va_W va_W va_W _ (rnV (xa 8) ag dg) ([((xa 5), .inl (X.2.1, 3, .inl fr))])))) sz) s (@HAppend.hAppend va_W va_W va_W _ (xW h0 nw sp xa la lb) (@HAppend.hAppend va_W va_W va_W _ (rcV X nw an sv dv n0 n1 n2 n3 n4 g0 gs gn gm) (@HAppend.hAppend va_W va_W va_W _ ([((xa 5), .inl (X.2.1, 3, .inl fr))]) (rnV (xa 8) a_46a d_46b)))) H locs := wd_sub G [0, 1, 2, 3, 4, 5, 18, 6, 7, 8, 9, 10, 11, 12, 13, 14, 15, 16, 17] rfl rfl
              refine lv_aload_n zx zb dX10_best_76 rfl (lv_at hl 4 rfl) ?_
              refine r_get (C := RX10) (T := TX10) (N := 14) (ci := 8) (v := .ref (xa 8)) S in_X10_best_X10 G 0 rfl rfl 8 (by decide) lk_X10_best_48 rfl dX10_best_77 ?_
              refine lv_iload zx zb dX10_best_80 (lv_at hl 0 rfl) ?_
              refine r_put (C := RX8) (T := TX8) (N := 8) (ci := 6) (v := .int (nI k53)) S in_X10_best_X8 tyX8_ok nmX8 G 18 rfl rfl 3 (by decide) lk_X10_best_130 rfl (vp_nar_int _) rfl (Nat.le_of_ble_eq_true rfl) dX10_best_82 (fun H locs G => ?_)
              obtain ⟨d_47, G⟩ : ∃ d_47 : Nat → Int32, wd X (va_A (@HAppend.hAppend va_W va_W va_W _ (xW h0 nw sp xa la lb) (@HAppend.hAppend va_W va_W va_W _ (rcV X nw an sv dv n0 n1 n2 n3 n4 g0 gs gn gm) (@HAppend.hAppend va_W va_W va_W _ (rnV (xa 8) ag dg) ([((xa 5), .inl (X.2.1, 3, .inl fr))])))) sz) (va_A (@HAppend.hAppend va_W va_W va_W _ (xW h0 nw sp xa la lb) (@HAppend.hAppend va_W va_W va_W _ (rcV X nw an sv dv n0 n1 n2 n3 n4 g0 gs gn gm) (@HAppend.hAppend va_W va_W va_W _ (rnV (xa 8) ag dg) ([((xa 5), .inl (X.2.1, 3, .inl fr))])))) sz) s (@HAppend.hAppend va_W va_W va_W _ (xW h0 nw sp xa la lb) (@HAppend.hAppend va_W va_W va_W _ (rcV X nw an sv dv n0 n1 n2 n3 n4 g0 gs gn gm) (@HAppend.hAppend va_W va_W va_W _ ([((xa 5), .inl (X.2.1, 3, .inl fr))]) (rnV (xa 8) a_46a d_47)))) H locs := ⟨upd d_46b 0 (nI k53), G⟩
              refine lv_aload_n zx zb dX10_best_85 rfl (lv_at hl 4 rfl) ?_
              refine r_get (C := RX10) (T := TX10) (N := 14) (ci := 8) (v := .ref (xa 8)) S in_X10_best_X10 G 0 rfl rfl 8 (by decide) lk_X10_best_48 rfl dX10_best_86 ?_
              refine lv_aload_n zx zb dX10_best_89 rfl (lv_at hl 4 rfl) ?_
              refine r_get (C := RX10) (T := TX10) (N := 14) (ci := 8) (v := .ref nw) S in_X10_best_X10 G 0 rfl rfl 0 (by decide) lk_X10_best_10 rfl dX10_best_90 ?_
              refine r_get (C := RX5) (T := TX5) (N := 8) (ci := 3) (v := .int (dv 1)) S in_X10_best_X5 G 1 rfl rfl 1 (by decide) lk_X10_best_110 rfl dX10_best_93 ?_
              refine lv_aload_n zx zb dX10_best_96 rfl (lv_at hl 4 rfl) ?_
              refine r_get (C := RX10) (T := TX10) (N := 14) (ci := 8) (v := .ref nw) S in_X10_best_X10 G 0 rfl rfl 0 (by decide) lk_X10_best_10 rfl dX10_best_97 ?_
              refine r_get (C := RX5) (T := TX5) (N := 8) (ci := 3) (v := .int (dv 0)) S in_X10_best_X5 G 1 rfl rfl 0 (by decide) lk_X10_best_140 rfl dX10_best_100 ?_
              refine lv_iload zx zb dX10_best_103 (lv_at hl 1 rfl) ?_
              refine b_wi (cells' := 0) (slots' := 0) (wr := @HAppend.hAppend va_W va_W va_W _ (xW h0 nw sp xa la lb) (@HAppend.hAppend va_W va_W va_W _ (rcV X nw an sv dv n0 n1 n2 n3 n4 g0 gs gn gm) ([((xa 5), .inl (X.2.1, 3, .inl fr))]))) G rfl rfl [18] [0, 1, 2, 3, 4, 5, 6, 7, 8, 9, 10, 11, 12, 13, 14, 15, 16, 17] rfl rfl rfl rfl (n_V (As := [.int (dv 1), .int (dv 0), .int x53_5]) (rest := []) (C := RX8) (T := TX8) (N := 8) (ci := 6) S G (s_ticksToHome l X (xa 8) a_46a d_47 (dv 1) (dv 0) x53_5 (by first | decide | assumption | exact k_60a (by assumption) | exact hw_3.2) H.size) gX10_best_X8_ticksToHome rfl rfl rfl hdV_X8_ticksToHome ⟨Nat.le_of_ble_eq_true rfl, Nat.le_of_ble_eq_true rfl⟩ [18] rfl rfl 18 rfl rfl rfl hl.1 (Nat.le_of_ble_eq_true rfl) dX10_best_105 ⟨Nat.le_of_ble_eq_true rfl, Nat.le_of_ble_eq_true rfl⟩) (fun r_48 u_48 H locs hp_48 G => ?_)
              obtain ⟨d_48, rfl⟩ : ∃ z, z = u_48 := ⟨_, rfl⟩
              have hq_48 := hp_48
              obtain ⟨hq_48, hs_48⟩ := hq_48
              have G : wd X (va_A (@HAppend.hAppend va_W va_W va_W _ (xW h0 nw sp xa la lb) (@HAppend.hAppend va_W va_W va_W _ (rcV X nw an sv dv n0 n1 n2 n3 n4 g0 gs gn gm) (@HAppend.hAppend va_W va_W va_W _ (rnV (xa 8) ag dg) ([((xa 5), .inl (X.2.1, 3, .inl fr))])))) sz) (va_A (@HAppend.hAppend va_W va_W va_W _ (xW h0 nw sp xa la lb) (@HAppend.hAppend va_W va_W va_W _ (rcV X nw an sv dv n0 n1 n2 n3 n4 g0 gs gn gm) (@HAppend.hAppend va_W va_W va_W _ (rnV (xa 8) ag dg) ([((xa 5), .inl (X.2.1, 3, .inl fr))])))) sz) s (@HAppend.hAppend va_W va_W va_W _ (xW h0 nw sp xa la lb) (@HAppend.hAppend va_W va_W va_W _ (rcV X nw an sv dv n0 n1 n2 n3 n4 g0 gs gn gm) (@HAppend.hAppend va_W va_W va_W _ ([((xa 5), .inl (X.2.1, 3, .inl fr))]) (rnV (xa 8) a_46a d_48)))) H locs := G
              refine lv_istore (lv' := [(7, .int r_48), (6, .int (nI k53)), (5, .int x53_5), (4, .int x53_4), (3, .int x53_3), (0, .ref h0), (1, .int 3), (2, .int x2)]) zx zb dX10_best_108 hl (by decide) rfl (fun ls hl => ?_)
              refine lv_iload zx zb dX10_best_110 (lv_at hl 0 rfl) ?_
              refine lv_iconst (v := (-1)) zx zb dX10_best_112 (by decide) ?_
              refine k_cutW (PP := fun Wx => ∀ (x_50 : Int32) (x_51 : Int32) (x_52 : Int32) (H : Heap) (locs : List Loc) (ls : Array Slot), (x_50 ≤ 60) → wd X (va_A (@HAppend.hAppend va_W va_W va_W _ (xW h0 nw sp xa la lb) (@HAppend.hAppend va_W va_W va_W _ (rcV X nw an sv dv n0 n1 n2 n3 n4 g0 gs gn gm) (@HAppend.hAppend va_W va_W va_W _ (rnV (xa 8) ag dg) ([((xa 5), .inl (X.2.1, 3, .inl fr))])))) sz) (va_A (@HAppend.hAppend va_W va_W va_W _ (xW h0 nw sp xa la lb) (@HAppend.hAppend va_W va_W va_W _ (rcV X nw an sv dv n0 n1 n2 n3 n4 g0 gs gn gm) (@HAppend.hAppend va_W va_W va_W _ (rnV (xa 8) ag dg) ([((xa 5), .inl (X.2.1, 3, .inl fr))])))) sz) s (@HAppend.hAppend va_W va_W va_W _ (xW h0 nw sp xa la lb) (@HAppend.hAppend va_W va_W va_W _ (rcV X nw an sv dv n0 n1 n2 n3 n4 g0 gs gn gm) (@HAppend.hAppend va_W va_W va_W _ ([((xa 5), .inl (X.2.1, 3, .inl fr))]) (rnV (xa 8) a_46a d_48)))) H locs → lv_has ls 8 [(7, .int r_48), (6, .int (nI k53)), (5, .int x_50), (4, .int x_51), (3, .int x_52), (0, .ref h0), (1, .int 3), (2, .int x2)] → Wx (F0 m 129 ls []) H locs) ?_ ?_
              · intro join_113
                refine lv_icmp_eq (tgt := 129) zx zb dX10_best_113 (by decide) (fun c_49 => ?_) (fun c_49 => ?_)
                · exact join_113 x53_5 x53_4 x53_3 _ _ _ (by first | assumption | decide | exact k_m60 (by assumption)) G hl
                · refine lv_iload zx zb dX10_best_116 (lv_at hl 1 rfl) ?_
                  refine lv_istore_n (lv' := [(3, .int (nI k53)), (7, .int r_48), (6, .int (nI k53)), (5, .int x53_5), (4, .int x53_4), (0, .ref h0), (1, .int 3), (2, .int x2)]) zx zb dX10_best_118 rfl hl (by decide) rfl (fun ls hl => ?_)
                  refine lv_iload zx zb dX10_best_119 (lv_at hl 1 rfl) ?_
                  refine lv_istore (lv' := [(4, .int r_48), (3, .int (nI k53)), (7, .int r_48), (6, .int (nI k53)), (5, .int x53_5), (0, .ref h0), (1, .int 3), (2, .int x2)]) zx zb dX10_best_121 hl (by decide) rfl (fun ls hl => ?_)
                  refine lv_iload zx zb dX10_best_123 (lv_at hl 2 rfl) ?_
                  refine lv_iconst (v := 1) zx zb dX10_best_125 (by decide) ?_
                  refine r_isub (v := (r_48 - 1)) S rfl dX10_best_126 ?_
                  refine lv_istore (lv' := [(5, .int (r_48 - 1)), (4, .int r_48), (3, .int (nI k53)), (7, .int r_48), (6, .int (nI k53)), (0, .ref h0), (1, .int 3), (2, .int x2)]) zx zb dX10_best_127 hl (by decide) rfl (fun ls hl => ?_)
                  have hl := lv_sub hl (l' := [(7, .int r_48), (6, .int (nI k53)), (5, .int (r_48 - 1)), (4, .int r_48), (3, .int (nI k53)), (0, .ref h0), (1, .int 3), (2, .int x2)]) [3, 4, 0, 1, 2, 5, 6, 7] rfl
                  exact join_113 (r_48 - 1) r_48 (nI k53) _ _ _ (by first | assumption | decide | exact k_m60 (by assumption)) G hl
              · intro x_50 x_51 x_52 H locs ls hk_x_50 G hl
                refine lv_iinc (v := (nI (k53 + 1))) (lv' := [(6, .int (nI (k53 + 1))), (7, .int r_48), (5, .int x_50), (4, .int x_51), (3, .int x_52), (0, .ref h0), (1, .int 3), (2, .int x2)]) zx zb dX10_best_129 hl (k := 1) rfl (nI_add k53 1) (by decide) rfl (fun ls hl => ?_)
                refine lv_goto (tgt := 53) zx zb dX10_best_132 (by decide) ?_
                have G : wd X (va_A (@HAppend.hAppend va_W va_W va_W _ (xW h0 nw sp xa la lb) (@HAppend.hAppend va_W va_W va_W _ (rcV X nw an sv dv n0 n1 n2 n3 n4 g0 gs gn gm) (@HAppend.hAppend va_W va_W va_W _ (rnV (xa 8) ag dg) ([((xa 5), .inl (X.2.1, 3, .inl fr))])))) sz) (va_A (@HAppend.hAppend va_W va_W va_W _ (xW h0 nw sp xa la lb) (@HAppend.hAppend va_W va_W va_W _ (rcV X nw an sv dv n0 n1 n2 n3 n4 g0 gs gn gm) (@HAppend.hAppend va_W va_W va_W _ (rnV (xa 8) ag dg) ([((xa 5), .inl (X.2.1, 3, .inl fr))])))) sz) s (@HAppend.hAppend va_W va_W va_W _ (xW h0 nw sp xa la lb) (@HAppend.hAppend va_W va_W va_W _ (rcV X nw an sv dv n0 n1 n2 n3 n4 g0 gs gn gm) (@HAppend.hAppend va_W va_W va_W _ (rnV (xa 8) a_46a d_48) ([((xa 5), .inl (X.2.1, 3, .inl fr))])))) H locs := wd_sub G [0, 1, 2, 3, 4, 5, 6, 7, 8, 9, 10, 11, 12, 13, 14, 15, 16, 18, 17] rfl rfl
                have hl := lv_sub hl (l' := [(6, .int (nI (k53 + 1))), (5, .int x_50), (4, .int x_51), (3, .int x_52), (0, .ref h0), (1, .int 3), (2, .int x2)]) [0, 2, 3, 4, 5, 6, 7] rfl
                exact ih53 (k53 + 1) x_50 x_51 x_52 a_46a d_48 _ _ _ (by omega) (by omega) (by first | assumption | decide | exact k_m60 (by assumption)) G hl
        · refine lv_iconst (v := (-1)) zx zb dX10_best_39 (by decide) ?_
          exact e_int S zr zlk (vp_nar_int _) G (ag, dg, fr) [0, 1, 2, 3, 4, 5, 6, 7, 8, 9, 10, 11, 12, 13, 14, 15, 16, 17, 18] rfl rfl (Or.inr rfl) (trivial) dX10_best_40
      · refine k_it (v := 4) rfl ?_
        refine r_aald (C := RX8) (b := (an 5)) S G 2 3 rfl rfl (k_vp (by decide)) rfl dX10_best_32 ?_
        refine o_ri (cells' := 0) (slots' := 0) G rfl rfl (n_V (As := []) (rest := []) (C := RX8) (T := TX8) (N := 8) (ci := 6) S G (s_isHome l X (an 5) (fun k => sv (12 + k)) (fun k => dv (30 + k)) H.size) gX10_best_X8_isHome rfl rfl rfl hdV_X8_isHome ⟨Nat.le_of_ble_eq_true rfl, Nat.le_of_ble_eq_true rfl⟩ [7] rfl rfl 7 rfl rfl rfl hl.1 (Nat.le_of_ble_eq_true rfl) dX10_best_33 ⟨Nat.le_of_ble_eq_true rfl, Nat.le_of_ble_eq_true rfl⟩) (fun r_53 u_53 H locs hp_53 G => ?_)
        have G : wd X (va_A (@HAppend.hAppend va_W va_W va_W _ (xW h0 nw sp xa la lb) (@HAppend.hAppend va_W va_W va_W _ (rcV X nw an sv dv n0 n1 n2 n3 n4 g0 gs gn gm) (@HAppend.hAppend va_W va_W va_W _ (rnV (xa 8) ag dg) ([((xa 5), .inl (X.2.1, 3, .inl fr))])))) sz) (va_A (@HAppend.hAppend va_W va_W va_W _ (xW h0 nw sp xa la lb) (@HAppend.hAppend va_W va_W va_W _ (rcV X nw an sv dv n0 n1 n2 n3 n4 g0 gs gn gm) (@HAppend.hAppend va_W va_W va_W _ (rnV (xa 8) ag dg) ([((xa 5), .inl (X.2.1, 3, .inl fr))])))) sz) s (@HAppend.hAppend va_W va_W va_W _ (xW h0 nw sp xa la lb) (@HAppend.hAppend va_W va_W va_W _ (rcV X nw an sv dv n0 n1 n2 n3 n4 g0 gs gn gm) (@HAppend.hAppend va_W va_W va_W _ (rnV (xa 8) ag dg) ([((xa 5), .inl (X.2.1, 3, .inl fr))])))) H locs := G
        refine lv_if_eq (tgt := 41) zx zb dX10_best_36 (by decide) (fun c_54 => ?_) (fun c_54 => ?_)
        · refine lv_iconst (v := (-1)) zx zb dX10_best_41 (by decide) ?_
          refine lv_istore_n (lv' := [(3, .int (-1)), (0, .ref h0), (1, .int 4), (2, .int x2)]) zx zb dX10_best_42 rfl hl (by decide) rfl (fun ls hl => ?_)
          refine lv_iconst (v := (-1)) zx zb dX10_best_43 (by decide) ?_
          refine lv_istore (lv' := [(4, .int (-1)), (3, .int (-1)), (0, .ref h0), (1, .int 4), (2, .int x2)]) zx zb dX10_best_44 hl (by decide) rfl (fun ls hl => ?_)
          refine lv_bipush (v := 60) zx zb dX10_best_46 (by decide) ?_
          refine lv_istore (lv' := [(5, .int 60), (4, .int (-1)), (3, .int (-1)), (0, .ref h0), (1, .int 4), (2, .int x2)]) zx zb dX10_best_48 hl (by decide) rfl (fun ls hl => ?_)
          refine lv_iconst (v := 0) zx zb dX10_best_50 (by decide) ?_
          refine lv_istore (lv' := [(6, .int 0), (5, .int 60), (4, .int (-1)), (3, .int (-1)), (0, .ref h0), (1, .int 4), (2, .int x2)]) zx zb dX10_best_51 hl (by decide) rfl (fun ls hl => ?_)
          refine k_loop (P := ∀ (zm : Nat) (k53 : Nat) (x53_5 : Int32) (x53_4 : Int32) (x53_3 : Int32) (a53_2 : Nat → Int32) (d53_2 : Nat → Int32) (H : Heap) (locs : List Loc) (ls : Array Slot), 10 + 1 ≤ k53 + zm → (k53 ≤ 10) → (x53_5 ≤ 60) → wd X (va_A (@HAppend.hAppend va_W va_W va_W _ (xW h0 nw sp xa la lb) (@HAppend.hAppend va_W va_W va_W _ (rcV X nw an sv dv n0 n1 n2 n3 n4 g0 gs gn gm) (@HAppend.hAppend va_W va_W va_W _ (rnV (xa 8) ag dg) ([((xa 5), .inl (X.2.1, 3, .inl fr))])))) sz) (va_A (@HAppend.hAppend va_W va_W va_W _ (xW h0 nw sp xa la lb) (@HAppend.hAppend va_W va_W va_W _ (rcV X nw an sv dv n0 n1 n2 n3 n4 g0 gs gn gm) (@HAppend.hAppend va_W va_W va_W _ (rnV (xa 8) ag dg) ([((xa 5), .inl (X.2.1, 3, .inl fr))])))) sz) s (@HAppend.hAppend va_W va_W va_W _ (xW h0 nw sp xa la lb) (@HAppend.hAppend va_W va_W va_W _ (rcV X nw an sv dv n0 n1 n2 n3 n4 g0 gs gn gm) (@HAppend.hAppend va_W va_W va_W _ (rnV (xa 8) a53_2 d53_2) ([((xa 5), .inl (X.2.1, 3, .inl fr))])))) H locs → lv_has ls 8 [(6, .int (nI k53)), (5, .int x53_5), (4, .int x53_4), (3, .int x53_3), (0, .ref h0), (1, .int 4), (2, .int x2)] → W p l e _ s m _ below meth c H locs _ _ _ (F0 m 53 ls [])) (fun loop => loop (10 + 1) 0 60 (-1) (-1) ag dg _ _ _ (by omega) (by omega) (by first | assumption | decide | exact k_m60 (by assumption)) G hl) ?_
          intro zm
          induction zm with
          | zero => intro k53 x53_5 x53_4 x53_3 a53_2 d53_2 H locs ls zz q_hk_k53 q_hk_x53_5 _ _; exact absurd zz (by omega)
          | succ zm ih53 =>
            intro k53 x53_5 x53_4 x53_3 a53_2 d53_2 H locs ls zm_53 hk_k53 hk_x53_5 G hl
            refine lv_iload zx zb dX10_best_53 (lv_at hl 0 rfl) ?_
            refine lv_bipush (v := 9) zx zb dX10_best_55 (by decide) ?_
            refine lv_icmp_gt (tgt := 135) zx zb dX10_best_57 (by decide) (fun c_55 => ?_) (fun c_55 => ?_)
            · have fc_55 := j_lt (a := 9) (b := k53) (by omega) (by omega) c_55
              refine lv_iload_n zx zb dX10_best_135 rfl (lv_at hl 6 rfl) ?_
              refine k_cutW (PP := fun Wx => ∀ (x_57 : Int32) (H : Heap) (locs : List Loc) (ls : Array Slot), wd X (va_A (@HAppend.hAppend va_W va_W va_W _ (xW h0 nw sp xa la lb) (@HAppend.hAppend va_W va_W va_W _ (rcV X nw an sv dv n0 n1 n2 n3 n4 g0 gs gn gm) (@HAppend.hAppend va_W va_W va_W _ (rnV (xa 8) ag dg) ([((xa 5), .inl (X.2.1, 3, .inl fr))])))) sz) (va_A (@HAppend.hAppend va_W va_W va_W _ (xW h0 nw sp xa la lb) (@HAppend.hAppend va_W va_W va_W _ (rcV X nw an sv dv n0 n1 n2 n3 n4 g0 gs gn gm) (@HAppend.hAppend va_W va_W va_W _ (rnV (xa 8) ag dg) ([((xa 5), .inl (X.2.1, 3, .inl fr))])))) sz) s (@HAppend.hAppend va_W va_W va_W _ (xW h0 nw sp xa la lb) (@HAppend.hAppend va_W va_W va_W _ (rcV X nw an sv dv n0 n1 n2 n3 n4 g0 gs gn gm) (@HAppend.hAppend va_W va_W va_W _ (rnV (xa 8) a53_2 d53_2) ([((xa 5), .inl (X.2.1, 3, .inl fr))])))) H locs → lv_has ls 8 [(6, .int (nI k53)), (5, .int x53_5), (4, .int x53_4), (3, .int x53_3), (0, .ref h0), (1, .int 4), (2, .int x2)] → Wx (F0 m 145 ls [.int x_57]) H locs) ?_ ?_
              · intro join_136
                refine lv_if_ne (tgt := 143) zx zb dX10_best_136 (by decide) (fun c_56 => ?_) (fun c_56 => ?_)
                · refine lv_iload zx zb dX10_best_143 (lv_at hl 2 rfl) ?_
                  exact join_136 x53_4 _ _ _  G hl
                · refine lv_iload_n zx zb dX10_best_139 rfl (lv_at hl 3 rfl) ?_
                  refine lv_goto (tgt := 145) zx zb dX10_best_140 (by decide) ?_
                  exact join_136 x53_3 _ _ _  G hl
              · intro x_57 H locs ls  G hl
                exact e_int S zr zlk (vp_nar_int _) G (a53_2, d53_2, fr) [0, 1, 2, 3, 4, 5, 6, 7, 8, 9, 10, 11, 12, 13, 14, 15, 16, 17, 18] rfl rfl (Or.inr rfl) (trivial) dX10_best_145
            · have fc_55 := j_nlt (a := 9) (b := k53) (by omega) (by omega) c_55
              refine lv_aload_n zx zb dX10_best_60 rfl (lv_at hl 4 rfl) ?_
              refine r_get (C := RX10) (T := TX10) (N := 14) (ci := 8) (v := .ref (xa 8)) S in_X10_best_X10 G 0 rfl rfl 8 (by decide) lk_X10_best_48 rfl dX10_best_61 ?_
              refine lv_aload_n zx zb dX10_best_64 rfl (lv_at hl 4 rfl) ?_
              refine r_get (C := RX10) (T := TX10) (N := 14) (ci := 8) (v := .ref nw) S in_X10_best_X10 G 0 rfl rfl 0 (by decide) lk_X10_best_10 rfl dX10_best_65 ?_
              refine r_get (C := RX5) (T := TX5) (N := 8) (ci := 3) (v := .ref (an 0)) S in_X10_best_X5 G 1 rfl rfl 3 (by decide) lk_X10_best_126 rfl dX10_best_68 ?_
              refine lv_iload_n zx zb dX10_best_71 rfl (lv_at hl 5 rfl) ?_
              refine r_aald (C := RX8) (b := (an 5)) S G 2 3 rfl rfl (k_vp (by decide)) rfl dX10_best_72 ?_
              refine b_wv (cells' := 0) (slots' := 0) (wr := @HAppend.hAppend va_W va_W va_W _ (xW h0 nw sp xa la lb) (@HAppend.hAppend va_W va_W va_W _ ([(nw, .inr (3, [.int (dv 0), .int (dv 1), .int (nI n0), .ref (an 0), .ref (an 7), .ref (an 9), .ref (an 11), .ref (an 13)])), ((an 0), .inl (X.2.2.2.2, 6, .inr (.inr (.inr (.inr (rowQ an)))))), ((an 1), .inr (6, [.int (sv 0), .int (sv 1), .int (sv 2), .int (dv 10), .int (dv 11), .int (dv 12), .int (dv 13), .int (dv 14)])), ((an 2), .inr (6, [.int (sv 3), .int (sv 4), .int (sv 5), .int (dv 15), .int (dv 16), .int (dv 17), .int (dv 18), .int (dv 19)])), ((an 3), .inr (6, [.int (sv 6), .int (sv 7), .int (sv 8), .int (dv 20), .int (dv 21), .int (dv 22), .int (dv 23), .int (dv 24)])), ((an 4), .inr (6, [.int (sv 9), .int (sv 10), .int (sv 11), .int (dv 25), .int (dv 26), .int (dv 27), .int (dv 28), .int (dv 29)])), ((an 6), .inr (6, [.int (sv 15), .int (sv 16), .int (sv 17), .int (dv 35), .int (dv 36), .int (dv 37), .int (dv 38), .int (dv 39)])), ((an 7), .inr (2, [.ref (an 8), .int (nI n1)])), ((an 8), .inl (X.2.1, 248, .inl g0)), ((an 9), .inr (5, [.int 5, .int 0, .int 1, .ref (an 10), .int (nI n2)])), ((an 10), .inl (X.2.1, 25, .inl gs)), ((an 11), .inr (5, [.int 6, .int 1, .int 1, .ref (an 12), .int (nI n3)])), ((an 12), .inl (X.2.1, 30, .inl gn)), ((an 13), .inr (5, [.int 6, .int 0, .int 0, .ref (an 14), .int (nI n4)])), ((an 14), .inl (X.2.1, 30, .inl gm))]) ([((xa 5), .inl (X.2.1, 3, .inl fr))]))) G rfl rfl [17, 7] [0, 1, 2, 3, 4, 5, 6, 8, 9, 10, 11, 12, 13, 14, 15, 16, 18] rfl rfl rfl rfl (n_V (As := [.ref (an 5)]) (rest := []) (C := RX8) (T := TX8) (N := 8) (ci := 6) S G (s_rcopy l X (xa 8) a53_2 d53_2 (an 5) (fun k => sv (12 + k)) (fun k => dv (30 + k)) H.size) gX10_best_X8_copyFrom rfl rfl rfl hdV_X8_copyFrom ⟨Nat.le_of_ble_eq_true rfl, Nat.le_of_ble_eq_true rfl⟩ [17, 7] rfl rfl 17 rfl rfl rfl hl.1 (Nat.le_of_ble_eq_true rfl) dX10_best_73 ⟨Nat.le_of_ble_eq_true rfl, Nat.le_of_ble_eq_true rfl⟩) (fun u_58 H locs hp_58 G => ?_)
              obtain ⟨a_58a, d_58b⟩ := u_58
              have hq_58 := hp_58
              have G : wd X (va_A (@HAppend.hAppend va_W va_W va_W _ (xW h0 nw sp xa la lb) (@HAppend.hAppend va_W va_W va_W _ (rcV X nw an sv dv n0 n1 n2 n3 n4 g0 gs gn gm) (@HAppend.hAppend va_W va_W va_W _ (rnV (xa 8) ag dg) ([((xa 5), .inl (X.2.1, 3, .inl fr))])))) sz) (va_A (@HAppend.hAppend va_W va_W va_W _ (xW h0 nw sp xa la lb) (@HAppend.hAppend va_W va_W va_W _ (rcV X nw an sv dv n0 n1 n2 n3 n4 g0 gs gn gm) (@HAppend.hAppend va_W va_W va_W _ (rnV (xa 8) ag dg) ([((xa 5), .inl (X.2.1, 3, .inl fr))])))) sz) s (@HAppend.hAppend va_W va_W va_W _ (xW h0 nw sp xa la lb) (@HAppend.hAppend va_W va_W va_W _ (rcV X nw an sv dv n0 n1 n2 n3 n4 g0 gs gn gm) (@HAppend.hAppend va_W va_W va_W _ ([((xa 5), .inl (X.2.1, 3, .inl fr))]) (rnV (xa 8) a_58a d_58b)))) H locs := wd_sub G [0, 1, 2, 3, 4, 5, 6, 18, 7, 8, 9, 10, 11, 12, 13, 14, 15, 16, 17] rfl rfl
              refine lv_aload_n zx zb dX10_best_76 rfl (lv_at hl 4 rfl) ?_
              refine r_get (C := RX10) (T := TX10) (N := 14) (ci := 8) (v := .ref (xa 8)) S in_X10_best_X10 G 0 rfl rfl 8 (by decide) lk_X10_best_48 rfl dX10_best_77 ?_
              refine lv_iload zx zb dX10_best_80 (lv_at hl 0 rfl) ?_
              refine r_put (C := RX8) (T := TX8) (N := 8) (ci := 6) (v := .int (nI k53)) S in_X10_best_X8 tyX8_ok nmX8 G 18 rfl rfl 3 (by decide) lk_X10_best_130 rfl (vp_nar_int _) rfl (Nat.le_of_ble_eq_true rfl) dX10_best_82 (fun H locs G => ?_)
              obtain ⟨d_59, G⟩ : ∃ d_59 : Nat → Int32, wd X (va_A (@HAppend.hAppend va_W va_W va_W _ (xW h0 nw sp xa la lb) (@HAppend.hAppend va_W va_W va_W _ (rcV X nw an sv dv n0 n1 n2 n3 n4 g0 gs gn gm) (@HAppend.hAppend va_W va_W va_W _ (rnV (xa 8) ag dg) ([((xa 5), .inl (X.2.1, 3, .inl fr))])))) sz) (va_A (@HAppend.hAppend va_W va_W va_W _ (xW h0 nw sp xa la lb) (@HAppend.hAppend va_W va_W va_W _ (rcV X nw an sv dv n0 n1 n2 n3 n4 g0 gs gn gm) (@HAppend.hAppend va_W va_W va_W _ (rnV (xa 8) ag dg) ([((xa 5), .inl (X.2.1, 3, .inl fr))])))) sz) s (@HAppend.hAppend va_W va_W va_W _ (xW h0 nw sp xa la lb) (@HAppend.hAppend va_W va_W va_W _ (rcV X nw an sv dv n0 n1 n2 n3 n4 g0 gs gn gm) (@HAppend.hAppend va_W va_W va_W _ ([((xa 5), .inl (X.2.1, 3, .inl fr))]) (rnV (xa 8) a_58a d_59)))) H locs := ⟨upd d_58b 0 (nI k53), G⟩
              refine lv_aload_n zx zb dX10_best_85 rfl (lv_at hl 4 rfl) ?_
              refine r_get (C := RX10) (T := TX10) (N := 14) (ci := 8) (v := .ref (xa 8)) S in_X10_best_X10 G 0 rfl rfl 8 (by decide) lk_X10_best_48 rfl dX10_best_86 ?_
              refine lv_aload_n zx zb dX10_best_89 rfl (lv_at hl 4 rfl) ?_
              refine r_get (C := RX10) (T := TX10) (N := 14) (ci := 8) (v := .ref nw) S in_X10_best_X10 G 0 rfl rfl 0 (by decide) lk_X10_best_10 rfl dX10_best_90 ?_
              refine r_get (C := RX5) (T := TX5) (N := 8) (ci := 3) (v := .int (dv 1)) S in_X10_best_X5 G 1 rfl rfl 1 (by decide) lk_X10_best_110 rfl dX10_best_93 ?_
              refine lv_aload_n zx zb dX10_best_96 rfl (lv_at hl 4 rfl) ?_
              refine r_get (C := RX10) (T := TX10) (N := 14) (ci := 8) (v := .ref nw) S in_X10_best_X10 G 0 rfl rfl 0 (by decide) lk_X10_best_10 rfl dX10_best_97 ?_
              refine r_get (C := RX5) (T := TX5) (N := 8) (ci := 3) (v := .int (dv 0)) S in_X10_best_X5 G 1 rfl rfl 0 (by decide) lk_X10_best_140 rfl dX10_best_100 ?_
              refine lv_iload zx zb dX10_best_103 (lv_at hl 1 rfl) ?_
              refine b_wi (cells' := 0) (slots' := 0) (wr := @HAppend.hAppend va_W va_W va_W _ (xW h0 nw sp xa la lb) (@HAppend.hAppend va_W va_W va_W _ (rcV X nw an sv dv n0 n1 n2 n3 n4 g0 gs gn gm) ([((xa 5), .inl (X.2.1, 3, .inl fr))]))) G rfl rfl [18] [0, 1, 2, 3, 4, 5, 6, 7, 8, 9, 10, 11, 12, 13, 14, 15, 16, 17] rfl rfl rfl rfl (n_V (As := [.int (dv 1), .int (dv 0), .int x53_5]) (rest := []) (C := RX8) (T := TX8) (N := 8) (ci := 6) S G (s_ticksToHome l X (xa 8) a_58a d_59 (dv 1) (dv 0) x53_5 (by first | decide | assumption | exact k_60a (by assumption) | exact hw_3.2) H.size) gX10_best_X8_ticksToHome rfl rfl rfl hdV_X8_ticksToHome ⟨Nat.le_of_ble_eq_true rfl, Nat.le_of_ble_eq_true rfl⟩ [18] rfl rfl 18 rfl rfl rfl hl.1 (Nat.le_of_ble_eq_true rfl) dX10_best_105 ⟨Nat.le_of_ble_eq_true rfl, Nat.le_of_ble_eq_true rfl⟩) (fun r_60 u_60 H locs hp_60 G => ?_)
              obtain ⟨d_60, rfl⟩ : ∃ z, z = u_60 := ⟨_, rfl⟩
              have hq_60 := hp_60
              obtain ⟨hq_60, hs_60⟩ := hq_60
              have G : wd X (va_A (@HAppend.hAppend va_W va_W va_W _ (xW h0 nw sp xa la lb) (@HAppend.hAppend va_W va_W va_W _ (rcV X nw an sv dv n0 n1 n2 n3 n4 g0 gs gn gm) (@HAppend.hAppend va_W va_W va_W _ (rnV (xa 8) ag dg) ([((xa 5), .inl (X.2.1, 3, .inl fr))])))) sz) (va_A (@HAppend.hAppend va_W va_W va_W _ (xW h0 nw sp xa la lb) (@HAppend.hAppend va_W va_W va_W _ (rcV X nw an sv dv n0 n1 n2 n3 n4 g0 gs gn gm) (@HAppend.hAppend va_W va_W va_W _ (rnV (xa 8) ag dg) ([((xa 5), .inl (X.2.1, 3, .inl fr))])))) sz) s (@HAppend.hAppend va_W va_W va_W _ (xW h0 nw sp xa la lb) (@HAppend.hAppend va_W va_W va_W _ (rcV X nw an sv dv n0 n1 n2 n3 n4 g0 gs gn gm) (@HAppend.hAppend va_W va_W va_W _ ([((xa 5), .inl (X.2.1, 3, .inl fr))]) (rnV (xa 8) a_58a d_60)))) H locs := G
              refine lv_istore (lv' := [(7, .int r_60), (6, .int (nI k53)), (5, .int x53_5), (4, .int x53_4), (3, .int x53_3), (0, .ref h0), (1, .int 4), (2, .int x2)]) zx zb dX10_best_108 hl (by decide) rfl (fun ls hl => ?_)
              refine lv_iload zx zb dX10_best_110 (lv_at hl 0 rfl) ?_
              refine lv_iconst (v := (-1)) zx zb dX10_best_112 (by decide) ?_
              refine k_cutW (PP := fun Wx => ∀ (x_62 : Int32) (x_63 : Int32) (x_64 : Int32) (H : Heap) (locs : List Loc) (ls : Array Slot), (x_62 ≤ 60) → wd X (va_A (@HAppend.hAppend va_W va_W va_W _ (xW h0 nw sp xa la lb) (@HAppend.hAppend va_W va_W va_W _ (rcV X nw an sv dv n0 n1 n2 n3 n4 g0 gs gn gm) (@HAppend.hAppend va_W va_W va_W _ (rnV (xa 8) ag dg) ([((xa 5), .inl (X.2.1, 3, .inl fr))])))) sz) (va_A (@HAppend.hAppend va_W va_W va_W _ (xW h0 nw sp xa la lb) (@HAppend.hAppend va_W va_W va_W _ (rcV X nw an sv dv n0 n1 n2 n3 n4 g0 gs gn gm) (@HAppend.hAppend va_W va_W va_W _ (rnV (xa 8) ag dg) ([((xa 5), .inl (X.2.1, 3, .inl fr))])))) sz) s (@HAppend.hAppend va_W va_W va_W _ (xW h0 nw sp xa la lb) (@HAppend.hAppend va_W va_W va_W _ (rcV X nw an sv dv n0 n1 n2 n3 n4 g0 gs gn gm) (@HAppend.hAppend va_W va_W va_W _ ([((xa 5), .inl (X.2.1, 3, .inl fr))]) (rnV (xa 8) a_58a d_60)))) H locs → lv_has ls 8 [(7, .int r_60), (6, .int (nI k53)), (5, .int x_62), (4, .int x_63), (3, .int x_64), (0, .ref h0), (1, .int 4), (2, .int x2)] → Wx (F0 m 129 ls []) H locs) ?_ ?_
              · intro join_113
                refine lv_icmp_eq (tgt := 129) zx zb dX10_best_113 (by decide) (fun c_61 => ?_) (fun c_61 => ?_)
                · exact join_113 x53_5 x53_4 x53_3 _ _ _ (by first | assumption | decide | exact k_m60 (by assumption)) G hl
                · refine lv_iload zx zb dX10_best_116 (lv_at hl 1 rfl) ?_
                  refine lv_istore_n (lv' := [(3, .int (nI k53)), (7, .int r_60), (6, .int (nI k53)), (5, .int x53_5), (4, .int x53_4), (0, .ref h0), (1, .int 4), (2, .int x2)]) zx zb dX10_best_118 rfl hl (by decide) rfl (fun ls hl => ?_)
                  refine lv_iload zx zb dX10_best_119 (lv_at hl 1 rfl) ?_
                  refine lv_istore (lv' := [(4, .int r_60), (3, .int (nI k53)), (7, .int r_60), (6, .int (nI k53)), (5, .int x53_5), (0, .ref h0), (1, .int 4), (2, .int x2)]) zx zb dX10_best_121 hl (by decide) rfl (fun ls hl => ?_)
                  refine lv_iload zx zb dX10_best_123 (lv_at hl 2 rfl) ?_
                  refine lv_iconst (v := 1) zx zb dX10_best_125 (by decide) ?_
                  refine r_isub (v := (r_60 - 1)) S rfl dX10_best_126 ?_
                  refine lv_istore (lv' := [(5, .int (r_60 - 1)), (4, .int r_60), (3, .int (nI k53)), (7, .int r_60), (6, .int (nI k53)), (0, .ref h0), (1, .int 4), (2, .int x2)]) zx zb dX10_best_127 hl (by decide) rfl (fun ls hl => ?_)
                  have hl := lv_sub hl (l' := [(7, .int r_60), (6, .int (nI k53)), (5, .int (r_60 - 1)), (4, .int r_60), (3, .int (nI k53)), (0, .ref h0), (1, .int 4), (2, .int x2)]) [3, 4, 0, 1, 2, 5, 6, 7] rfl
                  exact join_113 (r_60 - 1) r_60 (nI k53) _ _ _ (by first | assumption | decide | exact k_m60 (by assumption)) G hl
              · intro x_62 x_63 x_64 H locs ls hk_x_62 G hl
                refine lv_iinc (v := (nI (k53 + 1))) (lv' := [(6, .int (nI (k53 + 1))), (7, .int r_60), (5, .int x_62), (4, .int x_63), (3, .int x_64), (0, .ref h0), (1, .int 4), (2, .int x2)]) zx zb dX10_best_129 hl (k := 1) rfl (nI_add k53 1) (by decide) rfl (fun ls hl => ?_)
                refine lv_goto (tgt := 53) zx zb dX10_best_132 (by decide) ?_
                have G : wd X (va_A (@HAppend.hAppend va_W va_W va_W _ (xW h0 nw sp xa la lb) (@HAppend.hAppend va_W va_W va_W _ (rcV X nw an sv dv n0 n1 n2 n3 n4 g0 gs gn gm) (@HAppend.hAppend va_W va_W va_W _ (rnV (xa 8) ag dg) ([((xa 5), .inl (X.2.1, 3, .inl fr))])))) sz) (va_A (@HAppend.hAppend va_W va_W va_W _ (xW h0 nw sp xa la lb) (@HAppend.hAppend va_W va_W va_W _ (rcV X nw an sv dv n0 n1 n2 n3 n4 g0 gs gn gm) (@HAppend.hAppend va_W va_W va_W _ (rnV (xa 8) ag dg) ([((xa 5), .inl (X.2.1, 3, .inl fr))])))) sz) s (@HAppend.hAppend va_W va_W va_W _ (xW h0 nw sp xa la lb) (@HAppend.hAppend va_W va_W va_W _ (rcV X nw an sv dv n0 n1 n2 n3 n4 g0 gs gn gm) (@HAppend.hAppend va_W va_W va_W _ (rnV (xa 8) a_58a d_60) ([((xa 5), .inl (X.2.1, 3, .inl fr))])))) H locs := wd_sub G [0, 1, 2, 3, 4, 5, 6, 7, 8, 9, 10, 11, 12, 13, 14, 15, 16, 18, 17] rfl rfl
                have hl := lv_sub hl (l' := [(6, .int (nI (k53 + 1))), (5, .int x_62), (4, .int x_63), (3, .int x_64), (0, .ref h0), (1, .int 4), (2, .int x2)]) [0, 2, 3, 4, 5, 6, 7] rfl
                exact ih53 (k53 + 1) x_62 x_63 x_64 a_58a d_60 _ _ _ (by omega) (by omega) (by first | assumption | decide | exact k_m60 (by assumption)) G hl
        · refine lv_iconst (v := (-1)) zx zb dX10_best_39 (by decide) ?_
          exact e_int S zr zlk (vp_nar_int _) G (ag, dg, fr) [0, 1, 2, 3, 4, 5, 6, 7, 8, 9, 10, 11, 12, 13, 14, 15, 16, 17, 18] rfl rfl (Or.inr rfl) (trivial) dX10_best_40
      · refine k_it (v := 5) rfl ?_
        refine r_aald (C := RX8) (b := (an 6)) S G 2 3 rfl rfl (k_vp (by decide)) rfl dX10_best_32 ?_
        refine o_ri (cells' := 0) (slots' := 0) G rfl rfl (n_V (As := []) (rest := []) (C := RX8) (T := TX8) (N := 8) (ci := 6) S G (s_isHome l X (an 6) (fun k => sv (15 + k)) (fun k => dv (35 + k)) H.size) gX10_best_X8_isHome rfl rfl rfl hdV_X8_isHome ⟨Nat.le_of_ble_eq_true rfl, Nat.le_of_ble_eq_true rfl⟩ [8] rfl rfl 8 rfl rfl rfl hl.1 (Nat.le_of_ble_eq_true rfl) dX10_best_33 ⟨Nat.le_of_ble_eq_true rfl, Nat.le_of_ble_eq_true rfl⟩) (fun r_65 u_65 H locs hp_65 G => ?_)
        have G : wd X (va_A (@HAppend.hAppend va_W va_W va_W _ (xW h0 nw sp xa la lb) (@HAppend.hAppend va_W va_W va_W _ (rcV X nw an sv dv n0 n1 n2 n3 n4 g0 gs gn gm) (@HAppend.hAppend va_W va_W va_W _ (rnV (xa 8) ag dg) ([((xa 5), .inl (X.2.1, 3, .inl fr))])))) sz) (va_A (@HAppend.hAppend va_W va_W va_W _ (xW h0 nw sp xa la lb) (@HAppend.hAppend va_W va_W va_W _ (rcV X nw an sv dv n0 n1 n2 n3 n4 g0 gs gn gm) (@HAppend.hAppend va_W va_W va_W _ (rnV (xa 8) ag dg) ([((xa 5), .inl (X.2.1, 3, .inl fr))])))) sz) s (@HAppend.hAppend va_W va_W va_W _ (xW h0 nw sp xa la lb) (@HAppend.hAppend va_W va_W va_W _ (rcV X nw an sv dv n0 n1 n2 n3 n4 g0 gs gn gm) (@HAppend.hAppend va_W va_W va_W _ (rnV (xa 8) ag dg) ([((xa 5), .inl (X.2.1, 3, .inl fr))])))) H locs := G
        refine lv_if_eq (tgt := 41) zx zb dX10_best_36 (by decide) (fun c_66 => ?_) (fun c_66 => ?_)
        · refine lv_iconst (v := (-1)) zx zb dX10_best_41 (by decide) ?_
          refine lv_istore_n (lv' := [(3, .int (-1)), (0, .ref h0), (1, .int 5), (2, .int x2)]) zx zb dX10_best_42 rfl hl (by decide) rfl (fun ls hl => ?_)
          refine lv_iconst (v := (-1)) zx zb dX10_best_43 (by decide) ?_
          refine lv_istore (lv' := [(4, .int (-1)), (3, .int (-1)), (0, .ref h0), (1, .int 5), (2, .int x2)]) zx zb dX10_best_44 hl (by decide) rfl (fun ls hl => ?_)
          refine lv_bipush (v := 60) zx zb dX10_best_46 (by decide) ?_
          refine lv_istore (lv' := [(5, .int 60), (4, .int (-1)), (3, .int (-1)), (0, .ref h0), (1, .int 5), (2, .int x2)]) zx zb dX10_best_48 hl (by decide) rfl (fun ls hl => ?_)
          refine lv_iconst (v := 0) zx zb dX10_best_50 (by decide) ?_
          refine lv_istore (lv' := [(6, .int 0), (5, .int 60), (4, .int (-1)), (3, .int (-1)), (0, .ref h0), (1, .int 5), (2, .int x2)]) zx zb dX10_best_51 hl (by decide) rfl (fun ls hl => ?_)
          refine k_loop (P := ∀ (zm : Nat) (k53 : Nat) (x53_5 : Int32) (x53_4 : Int32) (x53_3 : Int32) (a53_2 : Nat → Int32) (d53_2 : Nat → Int32) (H : Heap) (locs : List Loc) (ls : Array Slot), 10 + 1 ≤ k53 + zm → (k53 ≤ 10) → (x53_5 ≤ 60) → wd X (va_A (@HAppend.hAppend va_W va_W va_W _ (xW h0 nw sp xa la lb) (@HAppend.hAppend va_W va_W va_W _ (rcV X nw an sv dv n0 n1 n2 n3 n4 g0 gs gn gm) (@HAppend.hAppend va_W va_W va_W _ (rnV (xa 8) ag dg) ([((xa 5), .inl (X.2.1, 3, .inl fr))])))) sz) (va_A (@HAppend.hAppend va_W va_W va_W _ (xW h0 nw sp xa la lb) (@HAppend.hAppend va_W va_W va_W _ (rcV X nw an sv dv n0 n1 n2 n3 n4 g0 gs gn gm) (@HAppend.hAppend va_W va_W va_W _ (rnV (xa 8) ag dg) ([((xa 5), .inl (X.2.1, 3, .inl fr))])))) sz) s (@HAppend.hAppend va_W va_W va_W _ (xW h0 nw sp xa la lb) (@HAppend.hAppend va_W va_W va_W _ (rcV X nw an sv dv n0 n1 n2 n3 n4 g0 gs gn gm) (@HAppend.hAppend va_W va_W va_W _ (rnV (xa 8) a53_2 d53_2) ([((xa 5), .inl (X.2.1, 3, .inl fr))])))) H locs → lv_has ls 8 [(6, .int (nI k53)), (5, .int x53_5), (4, .int x53_4), (3, .int x53_3), (0, .ref h0), (1, .int 5), (2, .int x2)] → W p l e _ s m _ below meth c H locs _ _ _ (F0 m 53 ls [])) (fun loop => loop (10 + 1) 0 60 (-1) (-1) ag dg _ _ _ (by omega) (by omega) (by first | assumption | decide | exact k_m60 (by assumption)) G hl) ?_
          intro zm
          induction zm with
          | zero => intro k53 x53_5 x53_4 x53_3 a53_2 d53_2 H locs ls zz q_hk_k53 q_hk_x53_5 _ _; exact absurd zz (by omega)
          | succ zm ih53 =>
            intro k53 x53_5 x53_4 x53_3 a53_2 d53_2 H locs ls zm_53 hk_k53 hk_x53_5 G hl
            refine lv_iload zx zb dX10_best_53 (lv_at hl 0 rfl) ?_
            refine lv_bipush (v := 9) zx zb dX10_best_55 (by decide) ?_
            refine lv_icmp_gt (tgt := 135) zx zb dX10_best_57 (by decide) (fun c_67 => ?_) (fun c_67 => ?_)
            · have fc_67 := j_lt (a := 9) (b := k53) (by omega) (by omega) c_67
              refine lv_iload_n zx zb dX10_best_135 rfl (lv_at hl 6 rfl) ?_
              refine k_cutW (PP := fun Wx => ∀ (x_69 : Int32) (H : Heap) (locs : List Loc) (ls : Array Slot), wd X (va_A (@HAppend.hAppend va_W va_W va_W _ (xW h0 nw sp xa la lb) (@HAppend.hAppend va_W va_W va_W _ (rcV X nw an sv dv n0 n1 n2 n3 n4 g0 gs gn gm) (@HAppend.hAppend va_W va_W va_W _ (rnV (xa 8) ag dg) ([((xa 5), .inl (X.2.1, 3, .inl fr))])))) sz) (va_A (@HAppend.hAppend va_W va_W va_W _ (xW h0 nw sp xa la lb) (@HAppend.hAppend va_W va_W va_W _ (rcV X nw an sv dv n0 n1 n2 n3 n4 g0 gs gn gm) (@HAppend.hAppend va_W va_W va_W _ (rnV (xa 8) ag dg) ([((xa 5), .inl (X.2.1, 3, .inl fr))])))) sz) s (@HAppend.hAppend va_W va_W va_W _ (xW h0 nw sp xa la lb) (@HAppend.hAppend va_W va_W va_W _ (rcV X nw an sv dv n0 n1 n2 n3 n4 g0 gs gn gm) (@HAppend.hAppend va_W va_W va_W _ (rnV (xa 8) a53_2 d53_2) ([((xa 5), .inl (X.2.1, 3, .inl fr))])))) H locs → lv_has ls 8 [(6, .int (nI k53)), (5, .int x53_5), (4, .int x53_4), (3, .int x53_3), (0, .ref h0), (1, .int 5), (2, .int x2)] → Wx (F0 m 145 ls [.int x_69]) H locs) ?_ ?_
              · intro join_136
                refine lv_if_ne (tgt := 143) zx zb dX10_best_136 (by decide) (fun c_68 => ?_) (fun c_68 => ?_)
                · refine lv_iload zx zb dX10_best_143 (lv_at hl 2 rfl) ?_
                  exact join_136 x53_4 _ _ _  G hl
                · refine lv_iload_n zx zb dX10_best_139 rfl (lv_at hl 3 rfl) ?_
                  refine lv_goto (tgt := 145) zx zb dX10_best_140 (by decide) ?_
                  exact join_136 x53_3 _ _ _  G hl
              · intro x_69 H locs ls  G hl
                exact e_int S zr zlk (vp_nar_int _) G (a53_2, d53_2, fr) [0, 1, 2, 3, 4, 5, 6, 7, 8, 9, 10, 11, 12, 13, 14, 15, 16, 17, 18] rfl rfl (Or.inr rfl) (trivial) dX10_best_145
            · have fc_67 := j_nlt (a := 9) (b := k53) (by omega) (by omega) c_67
              refine lv_aload_n zx zb dX10_best_60 rfl (lv_at hl 4 rfl) ?_
              refine r_get (C := RX10) (T := TX10) (N := 14) (ci := 8) (v := .ref (xa 8)) S in_X10_best_X10 G 0 rfl rfl 8 (by decide) lk_X10_best_48 rfl dX10_best_61 ?_
              refine lv_aload_n zx zb dX10_best_64 rfl (lv_at hl 4 rfl) ?_
              refine r_get (C := RX10) (T := TX10) (N := 14) (ci := 8) (v := .ref nw) S in_X10_best_X10 G 0 rfl rfl 0 (by decide) lk_X10_best_10 rfl dX10_best_65 ?_
              refine r_get (C := RX5) (T := TX5) (N := 8) (ci := 3) (v := .ref (an 0)) S in_X10_best_X5 G 1 rfl rfl 3 (by decide) lk_X10_best_126 rfl dX10_best_68 ?_
              refine lv_iload_n zx zb dX10_best_71 rfl (lv_at hl 5 rfl) ?_
              refine r_aald (C := RX8) (b := (an 6)) S G 2 3 rfl rfl (k_vp (by decide)) rfl dX10_best_72 ?_
              refine b_wv (cells' := 0) (slots' := 0) (wr := @HAppend.hAppend va_W va_W va_W _ (xW h0 nw sp xa la lb) (@HAppend.hAppend va_W va_W va_W _ ([(nw, .inr (3, [.int (dv 0), .int (dv 1), .int (nI n0), .ref (an 0), .ref (an 7), .ref (an 9), .ref (an 11), .ref (an 13)])), ((an 0), .inl (X.2.2.2.2, 6, .inr (.inr (.inr (.inr (rowQ an)))))), ((an 1), .inr (6, [.int (sv 0), .int (sv 1), .int (sv 2), .int (dv 10), .int (dv 11), .int (dv 12), .int (dv 13), .int (dv 14)])), ((an 2), .inr (6, [.int (sv 3), .int (sv 4), .int (sv 5), .int (dv 15), .int (dv 16), .int (dv 17), .int (dv 18), .int (dv 19)])), ((an 3), .inr (6, [.int (sv 6), .int (sv 7), .int (sv 8), .int (dv 20), .int (dv 21), .int (dv 22), .int (dv 23), .int (dv 24)])), ((an 4), .inr (6, [.int (sv 9), .int (sv 10), .int (sv 11), .int (dv 25), .int (dv 26), .int (dv 27), .int (dv 28), .int (dv 29)])), ((an 5), .inr (6, [.int (sv 12), .int (sv 13), .int (sv 14), .int (dv 30), .int (dv 31), .int (dv 32), .int (dv 33), .int (dv 34)])), ((an 7), .inr (2, [.ref (an 8), .int (nI n1)])), ((an 8), .inl (X.2.1, 248, .inl g0)), ((an 9), .inr (5, [.int 5, .int 0, .int 1, .ref (an 10), .int (nI n2)])), ((an 10), .inl (X.2.1, 25, .inl gs)), ((an 11), .inr (5, [.int 6, .int 1, .int 1, .ref (an 12), .int (nI n3)])), ((an 12), .inl (X.2.1, 30, .inl gn)), ((an 13), .inr (5, [.int 6, .int 0, .int 0, .ref (an 14), .int (nI n4)])), ((an 14), .inl (X.2.1, 30, .inl gm))]) ([((xa 5), .inl (X.2.1, 3, .inl fr))]))) G rfl rfl [17, 8] [0, 1, 2, 3, 4, 5, 6, 7, 9, 10, 11, 12, 13, 14, 15, 16, 18] rfl rfl rfl rfl (n_V (As := [.ref (an 6)]) (rest := []) (C := RX8) (T := TX8) (N := 8) (ci := 6) S G (s_rcopy l X (xa 8) a53_2 d53_2 (an 6) (fun k => sv (15 + k)) (fun k => dv (35 + k)) H.size) gX10_best_X8_copyFrom rfl rfl rfl hdV_X8_copyFrom ⟨Nat.le_of_ble_eq_true rfl, Nat.le_of_ble_eq_true rfl⟩ [17, 8] rfl rfl 17 rfl rfl rfl hl.1 (Nat.le_of_ble_eq_true rfl) dX10_best_73 ⟨Nat.le_of_ble_eq_true rfl, Nat.le_of_ble_eq_true rfl⟩) (fun u_70 H locs hp_70 G => ?_)
              obtain ⟨a_70a, d_70b⟩ := u_70
              have hq_70 := hp_70
              have G : wd X (va_A (@HAppend.hAppend va_W va_W va_W _ (xW h0 nw sp xa la lb) (@HAppend.hAppend va_W va_W va_W _ (rcV X nw an sv dv n0 n1 n2 n3 n4 g0 gs gn gm) (@HAppend.hAppend va_W va_W va_W _ (rnV (xa 8) ag dg) ([((xa 5), .inl (X.2.1, 3, .inl fr))])))) sz) (va_A (@HAppend.hAppend va_W va_W va_W _ (xW h0 nw sp xa la lb) (@HAppend.hAppend va_W va_W va_W _ (rcV X nw an sv dv n0 n1 n2 n3 n4 g0 gs gn gm) (@HAppend.hAppend va_W va_W va_W _ (rnV (xa 8) ag dg) ([((xa 5), .inl (X.2.1, 3, .inl fr))])))) sz) s (@HAppend.hAppend va_W va_W va_W _ (xW h0 nw sp xa la lb) (@HAppend.hAppend va_W va_W va_W _ (rcV X nw an sv dv n0 n1 n2 n3 n4 g0 gs gn gm) (@HAppend.hAppend va_W va_W va_W _ ([((xa 5), .inl (X.2.1, 3, .inl fr))]) (rnV (xa 8) a_70a d_70b)))) H locs := wd_sub G [0, 1, 2, 3, 4, 5, 6, 7, 18, 8, 9, 10, 11, 12, 13, 14, 15, 16, 17] rfl rfl
              refine lv_aload_n zx zb dX10_best_76 rfl (lv_at hl 4 rfl) ?_
              refine r_get (C := RX10) (T := TX10) (N := 14) (ci := 8) (v := .ref (xa 8)) S in_X10_best_X10 G 0 rfl rfl 8 (by decide) lk_X10_best_48 rfl dX10_best_77 ?_
              refine lv_iload zx zb dX10_best_80 (lv_at hl 0 rfl) ?_
              refine r_put (C := RX8) (T := TX8) (N := 8) (ci := 6) (v := .int (nI k53)) S in_X10_best_X8 tyX8_ok nmX8 G 18 rfl rfl 3 (by decide) lk_X10_best_130 rfl (vp_nar_int _) rfl (Nat.le_of_ble_eq_true rfl) dX10_best_82 (fun H locs G => ?_)
              obtain ⟨d_71, G⟩ : ∃ d_71 : Nat → Int32, wd X (va_A (@HAppend.hAppend va_W va_W va_W _ (xW h0 nw sp xa la lb) (@HAppend.hAppend va_W va_W va_W _ (rcV X nw an sv dv n0 n1 n2 n3 n4 g0 gs gn gm) (@HAppend.hAppend va_W va_W va_W _ (rnV (xa 8) ag dg) ([((xa 5), .inl (X.2.1, 3, .inl fr))])))) sz) (va_A (@HAppend.hAppend va_W va_W va_W _ (xW h0 nw sp xa la lb) (@HAppend.hAppend va_W va_W va_W _ (rcV X nw an sv dv n0 n1 n2 n3 n4 g0 gs gn gm) (@HAppend.hAppend va_W va_W va_W _ (rnV (xa 8) ag dg) ([((xa 5), .inl (X.2.1, 3, .inl fr))])))) sz) s (@HAppend.hAppend va_W va_W va_W _ (xW h0 nw sp xa la lb) (@HAppend.hAppend va_W va_W va_W _ (rcV X nw an sv dv n0 n1 n2 n3 n4 g0 gs gn gm) (@HAppend.hAppend va_W va_W va_W _ ([((xa 5), .inl (X.2.1, 3, .inl fr))]) (rnV (xa 8) a_70a d_71)))) H locs := ⟨upd d_70b 0 (nI k53), G⟩
              refine lv_aload_n zx zb dX10_best_85 rfl (lv_at hl 4 rfl) ?_
              refine r_get (C := RX10) (T := TX10) (N := 14) (ci := 8) (v := .ref (xa 8)) S in_X10_best_X10 G 0 rfl rfl 8 (by decide) lk_X10_best_48 rfl dX10_best_86 ?_
              refine lv_aload_n zx zb dX10_best_89 rfl (lv_at hl 4 rfl) ?_
              refine r_get (C := RX10) (T := TX10) (N := 14) (ci := 8) (v := .ref nw) S in_X10_best_X10 G 0 rfl rfl 0 (by decide) lk_X10_best_10 rfl dX10_best_90 ?_
              refine r_get (C := RX5) (T := TX5) (N := 8) (ci := 3) (v := .int (dv 1)) S in_X10_best_X5 G 1 rfl rfl 1 (by decide) lk_X10_best_110 rfl dX10_best_93 ?_
              refine lv_aload_n zx zb dX10_best_96 rfl (lv_at hl 4 rfl) ?_
              refine r_get (C := RX10) (T := TX10) (N := 14) (ci := 8) (v := .ref nw) S in_X10_best_X10 G 0 rfl rfl 0 (by decide) lk_X10_best_10 rfl dX10_best_97 ?_
              refine r_get (C := RX5) (T := TX5) (N := 8) (ci := 3) (v := .int (dv 0)) S in_X10_best_X5 G 1 rfl rfl 0 (by decide) lk_X10_best_140 rfl dX10_best_100 ?_
              refine lv_iload zx zb dX10_best_103 (lv_at hl 1 rfl) ?_
              refine b_wi (cells' := 0) (slots' := 0) (wr := @HAppend.hAppend va_W va_W va_W _ (xW h0 nw sp xa la lb) (@HAppend.hAppend va_W va_W va_W _ (rcV X nw an sv dv n0 n1 n2 n3 n4 g0 gs gn gm) ([((xa 5), .inl (X.2.1, 3, .inl fr))]))) G rfl rfl [18] [0, 1, 2, 3, 4, 5, 6, 7, 8, 9, 10, 11, 12, 13, 14, 15, 16, 17] rfl rfl rfl rfl (n_V (As := [.int (dv 1), .int (dv 0), .int x53_5]) (rest := []) (C := RX8) (T := TX8) (N := 8) (ci := 6) S G (s_ticksToHome l X (xa 8) a_70a d_71 (dv 1) (dv 0) x53_5 (by first | decide | assumption | exact k_60a (by assumption) | exact hw_3.2) H.size) gX10_best_X8_ticksToHome rfl rfl rfl hdV_X8_ticksToHome ⟨Nat.le_of_ble_eq_true rfl, Nat.le_of_ble_eq_true rfl⟩ [18] rfl rfl 18 rfl rfl rfl hl.1 (Nat.le_of_ble_eq_true rfl) dX10_best_105 ⟨Nat.le_of_ble_eq_true rfl, Nat.le_of_ble_eq_true rfl⟩) (fun r_72 u_72 H locs hp_72 G => ?_)
              obtain ⟨d_72, rfl⟩ : ∃ z, z = u_72 := ⟨_, rfl⟩
              have hq_72 := hp_72
              obtain ⟨hq_72, hs_72⟩ := hq_72
              have G : wd X (va_A (@HAppend.hAppend va_W va_W va_W _ (xW h0 nw sp xa la lb) (@HAppend.hAppend va_W va_W va_W _ (rcV X nw an sv dv n0 n1 n2 n3 n4 g0 gs gn gm) (@HAppend.hAppend va_W va_W va_W _ (rnV (xa 8) ag dg) ([((xa 5), .inl (X.2.1, 3, .inl fr))])))) sz) (va_A (@HAppend.hAppend va_W va_W va_W _ (xW h0 nw sp xa la lb) (@HAppend.hAppend va_W va_W va_W _ (rcV X nw an sv dv n0 n1 n2 n3 n4 g0 gs gn gm) (@HAppend.hAppend va_W va_W va_W _ (rnV (xa 8) ag dg) ([((xa 5), .inl (X.2.1, 3, .inl fr))])))) sz) s (@HAppend.hAppend va_W va_W va_W _ (xW h0 nw sp xa la lb) (@HAppend.hAppend va_W va_W va_W _ (rcV X nw an sv dv n0 n1 n2 n3 n4 g0 gs gn gm) (@HAppend.hAppend va_W va_W va_W _ ([((xa 5), .inl (X.2.1, 3, .inl fr))]) (rnV (xa 8) a_70a d_72)))) H locs := G
              refine lv_istore (lv' := [(7, .int r_72), (6, .int (nI k53)), (5, .int x53_5), (4, .int x53_4), (3, .int x53_3), (0, .ref h0), (1, .int 5), (2, .int x2)]) zx zb dX10_best_108 hl (by decide) rfl (fun ls hl => ?_)
              refine lv_iload zx zb dX10_best_110 (lv_at hl 0 rfl) ?_
              refine lv_iconst (v := (-1)) zx zb dX10_best_112 (by decide) ?_
              refine k_cutW (PP := fun Wx => ∀ (x_74 : Int32) (x_75 : Int32) (x_76 : Int32) (H : Heap) (locs : List Loc) (ls : Array Slot), (x_74 ≤ 60) → wd X (va_A (@HAppend.hAppend va_W va_W va_W _ (xW h0 nw sp xa la lb) (@HAppend.hAppend va_W va_W va_W _ (rcV X nw an sv dv n0 n1 n2 n3 n4 g0 gs gn gm) (@HAppend.hAppend va_W va_W va_W _ (rnV (xa 8) ag dg) ([((xa 5), .inl (X.2.1, 3, .inl fr))])))) sz) (va_A (@HAppend.hAppend va_W va_W va_W _ (xW h0 nw sp xa la lb) (@HAppend.hAppend va_W va_W va_W _ (rcV X nw an sv dv n0 n1 n2 n3 n4 g0 gs gn gm) (@HAppend.hAppend va_W va_W va_W _ (rnV (xa 8) ag dg) ([((xa 5), .inl (X.2.1, 3, .inl fr))])))) sz) s (@HAppend.hAppend va_W va_W va_W _ (xW h0 nw sp xa la lb) (@HAppend.hAppend va_W va_W va_W _ (rcV X nw an sv dv n0 n1 n2 n3 n4 g0 gs gn gm) (@HAppend.hAppend va_W va_W va_W _ ([((xa 5), .inl (X.2.1, 3, .inl fr))]) (rnV (xa 8) a_70a d_72)))) H locs → lv_has ls 8 [(7, .int r_72), (6, .int (nI k53)), (5, .int x_74), (4, .int x_75), (3, .int x_76), (0, .ref h0), (1, .int 5), (2, .int x2)] → Wx (F0 m 129 ls []) H locs) ?_ ?_
              · intro join_113
                refine lv_icmp_eq (tgt := 129) zx zb dX10_best_113 (by decide) (fun c_73 => ?_) (fun c_73 => ?_)
                · exact join_113 x53_5 x53_4 x53_3 _ _ _ (by first | assumption | decide | exact k_m60 (by assumption)) G hl
                · refine lv_iload zx zb dX10_best_116 (lv_at hl 1 rfl) ?_
                  refine lv_istore_n (lv' := [(3, .int (nI k53)), (7, .int r_72), (6, .int (nI k53)), (5, .int x53_5), (4, .int x53_4), (0, .ref h0), (1, .int 5), (2, .int x2)]) zx zb dX10_best_118 rfl hl (by decide) rfl (fun ls hl => ?_)
                  refine lv_iload zx zb dX10_best_119 (lv_at hl 1 rfl) ?_
                  refine lv_istore (lv' := [(4, .int r_72), (3, .int (nI k53)), (7, .int r_72), (6, .int (nI k53)), (5, .int x53_5), (0, .ref h0), (1, .int 5), (2, .int x2)]) zx zb dX10_best_121 hl (by decide) rfl (fun ls hl => ?_)
                  refine lv_iload zx zb dX10_best_123 (lv_at hl 2 rfl) ?_
                  refine lv_iconst (v := 1) zx zb dX10_best_125 (by decide) ?_
                  refine r_isub (v := (r_72 - 1)) S rfl dX10_best_126 ?_
                  refine lv_istore (lv' := [(5, .int (r_72 - 1)), (4, .int r_72), (3, .int (nI k53)), (7, .int r_72), (6, .int (nI k53)), (0, .ref h0), (1, .int 5), (2, .int x2)]) zx zb dX10_best_127 hl (by decide) rfl (fun ls hl => ?_)
                  have hl := lv_sub hl (l' := [(7, .int r_72), (6, .int (nI k53)), (5, .int (r_72 - 1)), (4, .int r_72), (3, .int (nI k53)), (0, .ref h0), (1, .int 5), (2, .int x2)]) [3, 4, 0, 1, 2, 5, 6, 7] rfl
                  exact join_113 (r_72 - 1) r_72 (nI k53) _ _ _ (by first | assumption | decide | exact k_m60 (by assumption)) G hl
              · intro x_74 x_75 x_76 H locs ls hk_x_74 G hl
                refine lv_iinc (v := (nI (k53 + 1))) (lv' := [(6, .int (nI (k53 + 1))), (7, .int r_72), (5, .int x_74), (4, .int x_75), (3, .int x_76), (0, .ref h0), (1, .int 5), (2, .int x2)]) zx zb dX10_best_129 hl (k := 1) rfl (nI_add k53 1) (by decide) rfl (fun ls hl => ?_)
                refine lv_goto (tgt := 53) zx zb dX10_best_132 (by decide) ?_
                have G : wd X (va_A (@HAppend.hAppend va_W va_W va_W _ (xW h0 nw sp xa la lb) (@HAppend.hAppend va_W va_W va_W _ (rcV X nw an sv dv n0 n1 n2 n3 n4 g0 gs gn gm) (@HAppend.hAppend va_W va_W va_W _ (rnV (xa 8) ag dg) ([((xa 5), .inl (X.2.1, 3, .inl fr))])))) sz) (va_A (@HAppend.hAppend va_W va_W va_W _ (xW h0 nw sp xa la lb) (@HAppend.hAppend va_W va_W va_W _ (rcV X nw an sv dv n0 n1 n2 n3 n4 g0 gs gn gm) (@HAppend.hAppend va_W va_W va_W _ (rnV (xa 8) ag dg) ([((xa 5), .inl (X.2.1, 3, .inl fr))])))) sz) s (@HAppend.hAppend va_W va_W va_W _ (xW h0 nw sp xa la lb) (@HAppend.hAppend va_W va_W va_W _ (rcV X nw an sv dv n0 n1 n2 n3 n4 g0 gs gn gm) (@HAppend.hAppend va_W va_W va_W _ (rnV (xa 8) a_70a d_72) ([((xa 5), .inl (X.2.1, 3, .inl fr))])))) H locs := wd_sub G [0, 1, 2, 3, 4, 5, 6, 7, 8, 9, 10, 11, 12, 13, 14, 15, 16, 18, 17] rfl rfl
                have hl := lv_sub hl (l' := [(6, .int (nI (k53 + 1))), (5, .int x_74), (4, .int x_75), (3, .int x_76), (0, .ref h0), (1, .int 5), (2, .int x2)]) [0, 2, 3, 4, 5, 6, 7] rfl
                exact ih53 (k53 + 1) x_74 x_75 x_76 a_70a d_72 _ _ _ (by omega) (by omega) (by first | assumption | decide | exact k_m60 (by assumption)) G hl
        · refine lv_iconst (v := (-1)) zx zb dX10_best_39 (by decide) ?_
          exact e_int S zr zlk (vp_nar_int _) G (ag, dg, fr) [0, 1, 2, 3, 4, 5, 6, 7, 8, 9, 10, 11, 12, 13, 14, 15, 16, 17, 18] rfl rfl (Or.inr rfl) (trivial) dX10_best_40
    · refine lv_if_ne (tgt := 24) zx zb dX10_best_14 (by decide) (fun c_77 => absurd (by decide) c_77) (fun c_77 => ?_)
      refine lv_aload_n zx zb dX10_best_17 rfl (lv_at hl 0 rfl) ?_
      refine lv_bipush (v := (-2)) zx zb dX10_best_18 (by decide) ?_
      refine b_wi (cells' := 0) (slots' := 0) (wr := @HAppend.hAppend va_W va_W va_W _ (rcV X nw an sv dv n0 n1 n2 n3 n4 g0 gs gn gm) (rnV (xa 8) ag dg)) G rfl rfl [0, 18] [1, 2, 3, 4, 5, 6, 7, 8, 9, 10, 11, 12, 13, 14, 15, 16, 17] rfl rfl rfl rfl (n_V (As := [.int (-2)]) (rest := []) (C := RX10) (T := TX10) (N := 14) (ci := 8) S G (s_refuse l X h0 nw sp xa la lb fr (-2) H.size) gX10_best_X10_refuse rfl rfl rfl hdV_X10_refuse ⟨Nat.le_of_ble_eq_true rfl, Nat.le_of_ble_eq_true rfl⟩ [0, 18] rfl rfl 0 rfl rfl rfl hl.1 (Nat.le_of_ble_eq_true rfl) dX10_best_20 ⟨Nat.le_of_ble_eq_true rfl, Nat.le_of_ble_eq_true rfl⟩) (fun r_78 u_78 H locs hp_78 G => ?_)
      obtain ⟨f_78, rfl⟩ : ∃ z, z = u_78 := ⟨_, rfl⟩
      have hq_78 := hp_78
      have G : wd X (va_A (@HAppend.hAppend va_W va_W va_W _ (xW h0 nw sp xa la lb) (@HAppend.hAppend va_W va_W va_W _ (rcV X nw an sv dv n0 n1 n2 n3 n4 g0 gs gn gm) (@HAppend.hAppend va_W va_W va_W _ (rnV (xa 8) ag dg) ([((xa 5), .inl (X.2.1, 3, .inl fr))])))) sz) (va_A (@HAppend.hAppend va_W va_W va_W _ (xW h0 nw sp xa la lb) (@HAppend.hAppend va_W va_W va_W _ (rcV X nw an sv dv n0 n1 n2 n3 n4 g0 gs gn gm) (@HAppend.hAppend va_W va_W va_W _ (rnV (xa 8) ag dg) ([((xa 5), .inl (X.2.1, 3, .inl fr))])))) sz) s (@HAppend.hAppend va_W va_W va_W _ (rcV X nw an sv dv n0 n1 n2 n3 n4 g0 gs gn gm) (@HAppend.hAppend va_W va_W va_W _ (rnV (xa 8) ag dg) (@HAppend.hAppend va_W va_W va_W _ (xW h0 nw sp xa la lb) ([((xa 5), .inl (X.2.1, 3, .inl f_78))])))) H locs := G
      exact e_int S zr zlk (vp_nar_int _) G (ag, dg, f_78) [17, 0, 1, 2, 3, 4, 5, 6, 7, 8, 9, 10, 11, 12, 13, 14, 15, 16, 18] rfl rfl (Or.inr rfl) (trivial) dX10_best_23
  · refine lv_if_eq (tgt := 17) zx zb dX10_best_5 (by decide) (fun c_79 => ?_) (fun c_79 => absurd (by decide) c_79)
    refine lv_aload_n zx zb dX10_best_17 rfl (lv_at hl 0 rfl) ?_
    refine lv_bipush (v := (-2)) zx zb dX10_best_18 (by decide) ?_
    refine b_wi (cells' := 0) (slots' := 0) (wr := @HAppend.hAppend va_W va_W va_W _ (rcV X nw an sv dv n0 n1 n2 n3 n4 g0 gs gn gm) (rnV (xa 8) ag dg)) G rfl rfl [0, 18] [1, 2, 3, 4, 5, 6, 7, 8, 9, 10, 11, 12, 13, 14, 15, 16, 17] rfl rfl rfl rfl (n_V (As := [.int (-2)]) (rest := []) (C := RX10) (T := TX10) (N := 14) (ci := 8) S G (s_refuse l X h0 nw sp xa la lb fr (-2) H.size) gX10_best_X10_refuse rfl rfl rfl hdV_X10_refuse ⟨Nat.le_of_ble_eq_true rfl, Nat.le_of_ble_eq_true rfl⟩ [0, 18] rfl rfl 0 rfl rfl rfl hl.1 (Nat.le_of_ble_eq_true rfl) dX10_best_20 ⟨Nat.le_of_ble_eq_true rfl, Nat.le_of_ble_eq_true rfl⟩) (fun r_80 u_80 H locs hp_80 G => ?_)
    obtain ⟨f_80, rfl⟩ : ∃ z, z = u_80 := ⟨_, rfl⟩
    have hq_80 := hp_80
    have G : wd X (va_A (@HAppend.hAppend va_W va_W va_W _ (xW h0 nw sp xa la lb) (@HAppend.hAppend va_W va_W va_W _ (rcV X nw an sv dv n0 n1 n2 n3 n4 g0 gs gn gm) (@HAppend.hAppend va_W va_W va_W _ (rnV (xa 8) ag dg) ([((xa 5), .inl (X.2.1, 3, .inl fr))])))) sz) (va_A (@HAppend.hAppend va_W va_W va_W _ (xW h0 nw sp xa la lb) (@HAppend.hAppend va_W va_W va_W _ (rcV X nw an sv dv n0 n1 n2 n3 n4 g0 gs gn gm) (@HAppend.hAppend va_W va_W va_W _ (rnV (xa 8) ag dg) ([((xa 5), .inl (X.2.1, 3, .inl fr))])))) sz) s (@HAppend.hAppend va_W va_W va_W _ (rcV X nw an sv dv n0 n1 n2 n3 n4 g0 gs gn gm) (@HAppend.hAppend va_W va_W va_W _ (rnV (xa 8) ag dg) (@HAppend.hAppend va_W va_W va_W _ (xW h0 nw sp xa la lb) ([((xa 5), .inl (X.2.1, 3, .inl f_80))])))) H locs := G
    exact e_int S zr zlk (vp_nar_int _) G (ag, dg, f_80) [17, 0, 1, 2, 3, 4, 5, 6, 7, 8, 9, 10, 11, 12, 13, 14, 15, 16, 18] rfl rfl (Or.inr rfl) (trivial) dX10_best_23
theorem mm_X10_homeTurning_ml300 : Cond.methodLink RX10 300 Lib.Math.min.name ∈ wsX10_homeTurning := by decide +kernel
theorem mm_X10_homeTurning_msmin : Cond.static Lib.Math.min.name ∈ wsX10_homeTurning := by decide +kernel
theorem mm_X10_homeTurning_mi : Cond.initialized "java/lang/Math" ∈ wsX10_homeTurning := by decide +kernel
theorem mm_X10_homeTurning_mcmin : Cond.code Lib.Math.min.name Lib.Math.min.code 2 (some .int) ∈ wsX10_homeTurning := by decide +kernel
theorem in_X10_homeTurning_X10 : ∀ w ∈ wsX100, w ∈ wsX10_homeTurning := by decide +kernel
theorem lk_X10_homeTurning_48 : Cond.fieldLink RX10 48 "EggSpoons" "ghost" "LEggSpoons$Runner;" ∈ wsX10_homeTurning := by decide +kernel
theorem in_X10_homeTurning_X8 : ∀ w ∈ wsX80, w ∈ wsX10_homeTurning := by decide +kernel
theorem lk_X10_homeTurning_130 : Cond.fieldLink RX10 130 "EggSpoons$Runner" "speed" "I" ∈ wsX10_homeTurning := by decide +kernel
theorem lk_X10_homeTurning_10 : Cond.fieldLink RX10 10 "EggSpoons" "now" "LEggSpoons$Race;" ∈ wsX10_homeTurning := by decide +kernel
theorem in_X10_homeTurning_X5 : ∀ w ∈ wsX50, w ∈ wsX10_homeTurning := by decide +kernel
theorem lk_X10_homeTurning_110 : Cond.fieldLink RX10 110 "EggSpoons$Race" "tick" "I" ∈ wsX10_homeTurning := by decide +kernel
theorem lk_X10_homeTurning_140 : Cond.fieldLink RX10 140 "EggSpoons$Race" "length" "I" ∈ wsX10_homeTurning := by decide +kernel
set_option maxHeartbeats 4000000 in
set_option maxRecDepth 100000 in
/-- homeTurning -/
theorem s_homeTurning (l : Launch) (X : EX) (h0 : Nat) (nw : Nat) (sp : Nat) (xa : Nat → Nat) (la : Int64) (lb : Int64) (an : Nat → Nat) (sv : Nat → Int32) (dv : Nat → Int32) (n0 : Nat) (n1 : Nat) (n2 : Nat) (n3 : Nat) (n4 : Nat) (g0 : Nat → Int32) (gs : Nat → Int32) (gn : Nat → Int32) (gm : Nat → Int32) (ag : Nat → Int32) (dg : Nat → Int32) (i : Nat) (x2 : Int32) (k : Nat) (x4 : Int32) (hI_n0 : n0 ≤ 6) (hI_n1 : n1 ≤ 8) (hI_n2 : n2 ≤ 5) (hI_n3 : n3 ≤ 6) (hI_n4 : n4 ≤ 6) (hi6 : i < 6) (hk3 : k ≤ 30) (hl6 : x4 ≤ 60) (sz : Nat) : Met l yX10_homeTurning wsX10_homeTurning ({ frames := 4, cells := 0, slots := 0, locals := 95 } : Room) (pE X [.ref h0, .int (nI i), .int x2, .int (nI k), .int x4] (@HAppend.hAppend va_W va_W va_W _ (xW h0 nw sp xa la lb) (@HAppend.hAppend va_W va_W va_W _ (rcV X nw an sv dv n0 n1 n2 n3 n4 g0 gs gn gm) (rnV (xa 8) ag dg))) sz) (qI (fun (r : Int32) (u : (Nat → Int32) × (Nat → Int32)) => ((-1 : Int32) ≤ r ∧ r ≤ 60)) X (fun (u : (Nat → Int32) × (Nat → Int32)) => @HAppend.hAppend va_W va_W va_W _ (xW h0 nw sp xa la lb) (@HAppend.hAppend va_W va_W va_W _ (rcV X nw an sv dv n0 n1 n2 n3 n4 g0 gs gn gm) (rnV (xa 8) u.1 u.2))) (@HAppend.hAppend va_W va_W va_W _ (xW h0 nw sp xa la lb) (@HAppend.hAppend va_W va_W va_W _ (rcV X nw an sv dv n0 n1 n2 n3 n4 g0 gs gn gm) (rnV (xa 8) ag dg))) sz) 0 0 (va_A (@HAppend.hAppend va_W va_W va_W _ (xW h0 nw sp xa la lb) (@HAppend.hAppend va_W va_W va_W _ (rcV X nw an sv dv n0 n1 n2 n3 n4 g0 gs gn gm) (rnV (xa 8) ag dg))) sz) := by
  refine mk_met (B := (va_A (@HAppend.hAppend va_W va_W va_W _ (xW h0 nw sp xa la lb) (@HAppend.hAppend va_W va_W va_W _ (rcV X nw an sv dv n0 n1 n2 n3 n4 g0 gs gn gm) (rnV (xa 8) ag dg))) sz)) (A := (va_A (@HAppend.hAppend va_W va_W va_W _ (xW h0 nw sp xa la lb) (@HAppend.hAppend va_W va_W va_W _ (rcV X nw an sv dv n0 n1 n2 n3 n4 g0 gs gn gm) (rnV (xa 8) ag dg))) sz)) (cc := cX10_homeTurning) (maxL := 7) (ret := (some .int)) (by decide) rfl (Nat.le_of_ble_eq_true rfl) k_w k_a (fun p e s m below meth c S zr zlk znm zsz G ls hl => ?_)
  have S : CallFix p m c cX10_homeTurning 7 s _ wsX10_homeTurning RX10 := S
  have zx := S.1
  have zb := S.2.1
  have hl : lv_has ls 7 [(0, .ref h0), (1, .int (nI i)), (2, .int x2), (3, .int (nI k)), (4, .int x4)] := hl
  refine lv_aload_n zx zb dX10_homeTurning_0 rfl (lv_at hl 0 rfl) ?_
  refine lv_iload_n zx zb dX10_homeTurning_1 rfl (lv_at hl 1 rfl) ?_
  refine lv_iload_n zx zb dX10_homeTurning_2 rfl (lv_at hl 3 rfl) ?_
  refine lv_iload zx zb dX10_homeTurning_3 (lv_at hl 4 rfl) ?_
  refine r_mminP S hl.1 mm_X10_homeTurning_ml300 mm_X10_homeTurning_msmin mm_X10_homeTurning_mi mm_X10_homeTurning_mcmin (Nat.le_of_ble_eq_true rfl) (Nat.le_of_ble_eq_true rfl) (Nat.zero_le _) (Nat.zero_le _) dX10_homeTurning_5 (by first | decide | assumption) (fun y_1 h_y_1 => ?_)
  refine b_wi (cells' := 0) (slots' := 0) (wr := []) G rfl rfl [0, 1, 2, 3, 4, 5, 6, 7, 8, 9, 10, 11, 12, 13, 14, 15, 16, 17] [] rfl rfl rfl rfl (n_V (As := [.int (nI i), .int y_1]) (rest := []) (C := RX10) (T := TX10) (N := 14) (ci := 8) S G (s_homeBehind l X h0 nw sp xa la lb an sv dv n0 n1 n2 n3 n4 g0 gs gn gm ag dg i y_1 hI_n0 hI_n1 hI_n2 hI_n3 hI_n4 (by omega) (by first | decide | assumption | exact k_60a (by assumption)) s.heap.size) gX10_homeTurning_X10_homeBehind rfl rfl rfl hdV_X10_homeBehind ⟨Nat.le_of_ble_eq_true rfl, Nat.le_of_ble_eq_true rfl⟩ [0, 1, 2, 3, 4, 5, 6, 7, 8, 9, 10, 11, 12, 13, 14, 15, 16, 17] rfl rfl 0 rfl rfl rfl hl.1 (Nat.le_of_ble_eq_true rfl) dX10_homeTurning_8 ⟨Nat.le_of_ble_eq_true rfl, Nat.le_of_ble_eq_true rfl⟩) (fun r_2 u_2 H locs hp_2 G => ?_)
  obtain ⟨a_2a, d_2b⟩ := u_2
  have hq_2 := hp_2
  have G : wd X (va_A (@HAppend.hAppend va_W va_W va_W _ (xW h0 nw sp xa la lb) (@HAppend.hAppend va_W va_W va_W _ (rcV X nw an sv dv n0 n1 n2 n3 n4 g0 gs gn gm) (rnV (xa 8) ag dg))) sz) (va_A (@HAppend.hAppend va_W va_W va_W _ (xW h0 nw sp xa la lb) (@HAppend.hAppend va_W va_W va_W _ (rcV X nw an sv dv n0 n1 n2 n3 n4 g0 gs gn gm) (rnV (xa 8) ag dg))) sz) s (@HAppend.hAppend va_W va_W va_W _ (xW h0 nw sp xa la lb) (@HAppend.hAppend va_W va_W va_W _ (rcV X nw an sv dv n0 n1 n2 n3 n4 g0 gs gn gm) (rnV (xa 8) a_2a d_2b))) H locs := G
  refine lv_istore (lv' := [(5, .int r_2), (0, .ref h0), (1, .int (nI i)), (2, .int x2), (3, .int (nI k)), (4, .int x4)]) zx zb dX10_homeTurning_11 hl (by decide) rfl (fun ls hl => ?_)
  refine lv_iload zx zb dX10_homeTurning_13 (lv_at hl 0 rfl) ?_
  refine lv_iconst (v := (-1)) zx zb dX10_homeTurning_15 (by decide) ?_
  refine lv_icmp_ne (tgt := 25) zx zb dX10_homeTurning_16 (by decide) (fun c_3 => ?_) (fun c_3 => ?_)
  · refine lv_iload zx zb dX10_homeTurning_25 (lv_at hl 0 rfl) ?_
    exact e_int S zr zlk (vp_nar_int _) G (a_2a, d_2b) [0, 1, 2, 3, 4, 5, 6, 7, 8, 9, 10, 11, 12, 13, 14, 15, 16, 17] rfl rfl (Or.inr rfl) (by first | assumption | decide | exact k_tu hk3 hl6 (by assumption) (by assumption) (by assumption)) dX10_homeTurning_27
  · refine lv_iload_n zx zb dX10_homeTurning_19 rfl (lv_at hl 4 rfl) ?_
    refine lv_iload zx zb dX10_homeTurning_20 (lv_at hl 5 rfl) ?_
    refine lv_icmp_lt (tgt := 28) zx zb dX10_homeTurning_22 (by decide) (fun c_4 => ?_) (fun c_4 => ?_)
    · refine lv_aload_n zx zb dX10_homeTurning_28 rfl (lv_at hl 1 rfl) ?_
      refine r_get (C := RX10) (T := TX10) (N := 14) (ci := 8) (v := .ref (xa 8)) S in_X10_homeTurning_X10 G 0 rfl rfl 8 (by decide) lk_X10_homeTurning_48 rfl dX10_homeTurning_29 ?_
      refine lv_iload_n zx zb dX10_homeTurning_32 rfl (lv_at hl 3 rfl) ?_
      refine r_put (C := RX8) (T := TX8) (N := 8) (ci := 6) (v := .int x2) S in_X10_homeTurning_X8 tyX8_ok nmX8 G 17 rfl rfl 3 (by decide) lk_X10_homeTurning_130 rfl (vp_nar_int _) rfl (Nat.le_of_ble_eq_true rfl) dX10_homeTurning_33 (fun H locs G => ?_)
      obtain ⟨d_5, G⟩ : ∃ d_5 : Nat → Int32, wd X (va_A (@HAppend.hAppend va_W va_W va_W _ (xW h0 nw sp xa la lb) (@HAppend.hAppend va_W va_W va_W _ (rcV X nw an sv dv n0 n1 n2 n3 n4 g0 gs gn gm) (rnV (xa 8) ag dg))) sz) (va_A (@HAppend.hAppend va_W va_W va_W _ (xW h0 nw sp xa la lb) (@HAppend.hAppend va_W va_W va_W _ (rcV X nw an sv dv n0 n1 n2 n3 n4 g0 gs gn gm) (rnV (xa 8) ag dg))) sz) s (@HAppend.hAppend va_W va_W va_W _ (xW h0 nw sp xa la lb) (@HAppend.hAppend va_W va_W va_W _ (rcV X nw an sv dv n0 n1 n2 n3 n4 g0 gs gn gm) (rnV (xa 8) a_2a d_5))) H locs := ⟨upd d_2b 0 x2, G⟩
      refine lv_aload_n zx zb dX10_homeTurning_36 rfl (lv_at hl 1 rfl) ?_
      refine r_get (C := RX10) (T := TX10) (N := 14) (ci := 8) (v := .ref (xa 8)) S in_X10_homeTurning_X10 G 0 rfl rfl 8 (by decide) lk_X10_homeTurning_48 rfl dX10_homeTurning_37 ?_
      refine lv_aload_n zx zb dX10_homeTurning_40 rfl (lv_at hl 1 rfl) ?_
      refine r_get (C := RX10) (T := TX10) (N := 14) (ci := 8) (v := .ref nw) S in_X10_homeTurning_X10 G 0 rfl rfl 0 (by decide) lk_X10_homeTurning_10 rfl dX10_homeTurning_41 ?_
      refine r_get (C := RX5) (T := TX5) (N := 8) (ci := 3) (v := .int (dv 1)) S in_X10_homeTurning_X5 G 1 rfl rfl 1 (by decide) lk_X10_homeTurning_110 rfl dX10_homeTurning_44 ?_
      refine lv_iload_n zx zb dX10_homeTurning_47 rfl (lv_at hl 4 rfl) ?_
      refine r_iadd (v := ((dv 1) + (nI k))) S rfl dX10_homeTurning_48 ?_
      refine lv_aload_n zx zb dX10_homeTurning_49 rfl (lv_at hl 1 rfl) ?_
      refine r_get (C := RX10) (T := TX10) (N := 14) (ci := 8) (v := .ref nw) S in_X10_homeTurning_X10 G 0 rfl rfl 0 (by decide) lk_X10_homeTurning_10 rfl dX10_homeTurning_50 ?_
      refine r_get (C := RX5) (T := TX5) (N := 8) (ci := 3) (v := .int (dv 0)) S in_X10_homeTurning_X5 G 1 rfl rfl 0 (by decide) lk_X10_homeTurning_140 rfl dX10_homeTurning_53 ?_
      refine lv_iload zx zb dX10_homeTurning_56 (lv_at hl 5 rfl) ?_
      refine lv_iload_n zx zb dX10_homeTurning_58 rfl (lv_at hl 4 rfl) ?_
      refine r_isub (v := (x4 - (nI k))) S rfl dX10_homeTurning_59 ?_
      refine b_wi (cells' := 0) (slots' := 0) (wr := @HAppend.hAppend va_W va_W va_W _ (xW h0 nw sp xa la lb) (rcV X nw an sv dv n0 n1 n2 n3 n4 g0 gs gn gm)) G rfl rfl [17] [0, 1, 2, 3, 4, 5, 6, 7, 8, 9, 10, 11, 12, 13, 14, 15, 16] rfl rfl rfl rfl (n_V (As := [.int ((dv 1) + (nI k)), .int (dv 0), .int (x4 - (nI k))]) (rest := []) (C := RX8) (T := TX8) (N := 8) (ci := 6) S G (s_ticksToHome l X (xa 8) a_2a d_5 ((dv 1) + (nI k)) (dv 0) (x4 - (nI k)) (by first | decide | assumption | exact k_60a (by assumption) | exact k_s60 hk3 hl6 (by assumption)) H.size) gX10_homeTurning_X8_ticksToHome rfl rfl rfl hdV_X8_ticksToHome ⟨Nat.le_of_ble_eq_true rfl, Nat.le_of_ble_eq_true rfl⟩ [17] rfl rfl 17 rfl rfl rfl hl.1 (Nat.le_of_ble_eq_true rfl) dX10_homeTurning_60 ⟨Nat.le_of_ble_eq_true rfl, Nat.le_of_ble_eq_true rfl⟩) (fun r_6 u_6 H locs hp_6 G => ?_)
      obtain ⟨d_6, rfl⟩ : ∃ z, z = u_6 := ⟨_, rfl⟩
      have hq_6 := hp_6
      obtain ⟨hq_6, hs_6⟩ := hq_6
      have G : wd X (va_A (@HAppend.hAppend va_W va_W va_W _ (xW h0 nw sp xa la lb) (@HAppend.hAppend va_W va_W va_W _ (rcV X nw an sv dv n0 n1 n2 n3 n4 g0 gs gn gm) (rnV (xa 8) ag dg))) sz) (va_A (@HAppend.hAppend va_W va_W va_W _ (xW h0 nw sp xa la lb) (@HAppend.hAppend va_W va_W va_W _ (rcV X nw an sv dv n0 n1 n2 n3 n4 g0 gs gn gm) (rnV (xa 8) ag dg))) sz) s (@HAppend.hAppend va_W va_W va_W _ (xW h0 nw sp xa la lb) (@HAppend.hAppend va_W va_W va_W _ (rcV X nw an sv dv n0 n1 n2 n3 n4 g0 gs gn gm) (rnV (xa 8) a_2a d_6))) H locs := G
      refine lv_istore (lv' := [(6, .int r_6), (5, .int r_2), (0, .ref h0), (1, .int (nI i)), (2, .int x2), (3, .int (nI k)), (4, .int x4)]) zx zb dX10_homeTurning_63 hl (by decide) rfl (fun ls hl => ?_)
      refine lv_iload zx zb dX10_homeTurning_65 (lv_at hl 0 rfl) ?_
      refine lv_iconst (v := (-1)) zx zb dX10_homeTurning_67 (by decide) ?_
      refine lv_icmp_ne (tgt := 75) zx zb dX10_homeTurning_68 (by decide) (fun c_7 => ?_) (fun c_7 => ?_)
      · refine lv_iload_n zx zb dX10_homeTurning_75 rfl (lv_at hl 5 rfl) ?_
        refine lv_iload zx zb dX10_homeTurning_76 (lv_at hl 0 rfl) ?_
        refine r_iadd (v := ((nI k) + r_6)) S rfl dX10_homeTurning_78 ?_
        exact e_int S zr zlk (vp_nar_int _) G (a_2a, d_6) [0, 1, 2, 3, 4, 5, 6, 7, 8, 9, 10, 11, 12, 13, 14, 15, 16, 17] rfl rfl (Or.inr rfl) (by first | assumption | decide | exact k_tu hk3 hl6 (by assumption) (by assumption) (by assumption)) dX10_homeTurning_79
      · refine lv_iconst (v := (-1)) zx zb dX10_homeTurning_71 (by decide) ?_
        refine lv_goto (tgt := 79) zx zb dX10_homeTurning_72 (by decide) ?_
        exact e_int S zr zlk (vp_nar_int _) G (a_2a, d_6) [0, 1, 2, 3, 4, 5, 6, 7, 8, 9, 10, 11, 12, 13, 14, 15, 16, 17] rfl rfl (Or.inr rfl) (by first | assumption | decide | exact k_tu hk3 hl6 (by assumption) (by assumption) (by assumption)) dX10_homeTurning_79
    · refine lv_iload zx zb dX10_homeTurning_25 (lv_at hl 0 rfl) ?_
      exact e_int S zr zlk (vp_nar_int _) G (a_2a, d_2b) [0, 1, 2, 3, 4, 5, 6, 7, 8, 9, 10, 11, 12, 13, 14, 15, 16, 17] rfl rfl (Or.inr rfl) (by first | assumption | decide | exact k_tu hk3 hl6 (by assumption) (by assumption) (by assumption)) dX10_homeTurning_27
theorem in_X10_turn_X10 : ∀ w ∈ wsX100, w ∈ wsX10_turn := by decide +kernel
theorem lk_X10_turn_10 : Cond.fieldLink RX10 10 "EggSpoons" "now" "LEggSpoons$Race;" ∈ wsX10_turn := by decide +kernel
theorem in_X10_turn_X5 : ∀ w ∈ wsX50, w ∈ wsX10_turn := by decide +kernel
theorem lk_X10_turn_126 : Cond.fieldLink RX10 126 "EggSpoons$Race" "row" "[LEggSpoons$Runner;" ∈ wsX10_turn := by decide +kernel
theorem hdV_X10_homeTurning : yX10_homeTurning.cls = RX10 ∧ yX10_homeTurning.cls ≠ "java/lang/invoke/MethodHandle" ∧ yX10_homeTurning.cls ≠ "java/lang/invoke/VarHandle" ∧ (parseMethodDescriptor yX10_homeTurning.desc).map (fun d => d.parameters.length) = some 4 := by decide +kernel
set_option maxHeartbeats 4000000 in
set_option maxRecDepth 100000 in
/-- turn -/
theorem s_turn (l : Launch) (X : EX) (h0 : Nat) (nw : Nat) (sp : Nat) (xa : Nat → Nat) (la : Int64) (lb : Int64) (an : Nat → Nat) (sv : Nat → Int32) (dv : Nat → Int32) (n0 : Nat) (n1 : Nat) (n2 : Nat) (n3 : Nat) (n4 : Nat) (g0 : Nat → Int32) (gs : Nat → Int32) (gn : Nat → Int32) (gm : Nat → Int32) (ag : Nat → Int32) (dg : Nat → Int32) (fr : Nat → Int32) (x1 : Int32) (x2 : Int32) (x3 : Int32) (hI_n0 : n0 ≤ 6) (hI_n1 : n1 ≤ 8) (hI_n2 : n2 ≤ 5) (hI_n3 : n3 ≤ 6) (hI_n4 : n4 ≤ 6) (sz : Nat) : Met l yX10_turn wsX10_turn ({ frames := 5, cells := 0, slots := 0, locals := 121 } : Room) (pE X [.ref h0, .int x1, .int x2, .int x3] (@HAppend.hAppend va_W va_W va_W _ (xW h0 nw sp xa la lb) (@HAppend.hAppend va_W va_W va_W _ (rcV X nw an sv dv n0 n1 n2 n3 n4 g0 gs gn gm) (@HAppend.hAppend va_W va_W va_W _ (rnV (xa 8) ag dg) ([((xa 5), .inl (X.2.1, 3, .inl fr))])))) sz) (qI (fun (r : Int32) (u : (Nat → Int32) × (Nat → Int32) × (Nat → Int32)) => (True)) X (fun (u : (Nat → Int32) × (Nat → Int32) × (Nat → Int32)) => @HAppend.hAppend va_W va_W va_W _ (xW h0 nw sp xa la lb) (@HAppend.hAppend va_W va_W va_W _ (rcV X nw an sv dv n0 n1 n2 n3 n4 g0 gs gn gm) (@HAppend.hAppend va_W va_W va_W _ (rnV (xa 8) u.1 u.2.1) ([((xa 5), .inl (X.2.1, 3, .inl u.2.2))])))) (@HAppend.hAppend va_W va_W va_W _ (xW h0 nw sp xa la lb) (@HAppend.hAppend va_W va_W va_W _ (rcV X nw an sv dv n0 n1 n2 n3 n4 g0 gs gn gm) (@HAppend.hAppend va_W va_W va_W _ (rnV (xa 8) ag dg) ([((xa 5), .inl (X.2.1, 3, .inl fr))])))) sz) 0 0 (va_A (@HAppend.hAppend va_W va_W va_W _ (xW h0 nw sp xa la lb) (@HAppend.hAppend va_W va_W va_W _ (rcV X nw an sv dv n0 n1 n2 n3 n4 g0 gs gn gm) (@HAppend.hAppend va_W va_W va_W _ (rnV (xa 8) ag dg) ([((xa 5), .inl (X.2.1, 3, .inl fr))])))) sz) := by
  refine mk_met (B := (va_A (@HAppend.hAppend va_W va_W va_W _ (xW h0 nw sp xa la lb) (@HAppend.hAppend va_W va_W va_W _ (rcV X nw an sv dv n0 n1 n2 n3 n4 g0 gs gn gm) (@HAppend.hAppend va_W va_W va_W _ (rnV (xa 8) ag dg) ([((xa 5), .inl (X.2.1, 3, .inl fr))])))) sz)) (A := (va_A (@HAppend.hAppend va_W va_W va_W _ (xW h0 nw sp xa la lb) (@HAppend.hAppend va_W va_W va_W _ (rcV X nw an sv dv n0 n1 n2 n3 n4 g0 gs gn gm) (@HAppend.hAppend va_W va_W va_W _ (rnV (xa 8) ag dg) ([((xa 5), .inl (X.2.1, 3, .inl fr))])))) sz)) (cc := cX10_turn) (maxL := 9) (ret := (some .int)) (by decide) rfl (Nat.le_of_ble_eq_true rfl) k_w k_a (fun p e s m below meth c S zr zlk znm zsz G ls hl => ?_)
  have S : CallFix p m c cX10_turn 9 s _ wsX10_turn RX10 := S
  have zx := S.1
  have zb := S.2.1
  have hl : lv_has ls 9 [(0, .ref h0), (1, .int x1), (2, .int x2), (3, .int x3)] := hl
  refine lv_aload_n zx zb dX10_turn_0 rfl (lv_at hl 0 rfl) ?_
  refine lv_iload_n zx zb dX10_turn_1 rfl (lv_at hl 1 rfl) ?_
  refine o_ri (cells' := 0) (slots' := 0) G rfl rfl (n_V (As := [.int x1]) (rest := []) (C := RX10) (T := TX10) (N := 14) (ci := 8) S G (s_there l X h0 nw sp xa la lb an sv dv n0 n1 n2 n3 n4 g0 gs gn gm x1 hI_n0 hI_n1 hI_n2 hI_n3 hI_n4 s.heap.size) gX10_turn_X10_there rfl rfl rfl hdV_X10_there ⟨Nat.le_of_ble_eq_true rfl, Nat.le_of_ble_eq_true rfl⟩ [0, 1, 2, 3, 4, 5, 6, 7, 8, 9, 10, 11, 12, 13, 14, 15, 16] rfl rfl 0 rfl rfl rfl hl.1 (Nat.le_of_ble_eq_true rfl) dX10_turn_2 ⟨Nat.le_of_ble_eq_true rfl, Nat.le_of_ble_eq_true rfl⟩) (fun r_1 u_1 H locs hp_1 G => ?_)
  have G : wd X (va_A (@HAppend.hAppend va_W va_W va_W _ (xW h0 nw sp xa la lb) (@HAppend.hAppend va_W va_W va_W _ (rcV X nw an sv dv n0 n1 n2 n3 n4 g0 gs gn gm) (@HAppend.hAppend va_W va_W va_W _ (rnV (xa 8) ag dg) ([((xa 5), .inl (X.2.1, 3, .inl fr))])))) sz) (va_A (@HAppend.hAppend va_W va_W va_W _ (xW h0 nw sp xa la lb) (@HAppend.hAppend va_W va_W va_W _ (rcV X nw an sv dv n0 n1 n2 n3 n4 g0 gs gn gm) (@HAppend.hAppend va_W va_W va_W _ (rnV (xa 8) ag dg) ([((xa 5), .inl (X.2.1, 3, .inl fr))])))) sz) s (@HAppend.hAppend va_W va_W va_W _ (xW h0 nw sp xa la lb) (@HAppend.hAppend va_W va_W va_W _ (rcV X nw an sv dv n0 n1 n2 n3 n4 g0 gs gn gm) (@HAppend.hAppend va_W va_W va_W _ (rnV (xa 8) ag dg) ([((xa 5), .inl (X.2.1, 3, .inl fr))])))) H locs := G
  rcases hp_1 with ⟨rfl, hj_1⟩ | ⟨rfl, hj_1⟩
  · obtain ⟨j_1, hj_1, rfl⟩ := hj_1
    refine lv_if_eq (tgt := 27) zx zb dX10_turn_5 (by decide) (fun c_2 => absurd c_2 (by decide)) (fun c_2 => ?_)
    refine lv_iload_n zx zb dX10_turn_8 rfl (lv_at hl 2 rfl) ?_
    refine lv_iconst (v := 0) zx zb dX10_turn_9 (by decide) ?_
    refine lv_bipush (v := 9) zx zb dX10_turn_10 (by decide) ?_
    refine o_ri (cells' := 0) (slots' := 0) G rfl rfl (n_S (As := [.int x2, .int 0, .int 9]) (rest := []) S G (s_within l X x2 0 9 H.size) gX10_turn_X10_within rfl rfl rfl hdS_X10_within ⟨Nat.le_of_ble_eq_true rfl, Nat.le_of_ble_eq_true rfl⟩ [] rfl rfl rfl hl.1 (Nat.le_of_ble_eq_true rfl) dX10_turn_12 ⟨Nat.le_of_ble_eq_true rfl, Nat.le_of_ble_eq_true rfl⟩) (fun r_3 u_3 H locs hp_3 G => ?_)
    have G : wd X (va_A (@HAppend.hAppend va_W va_W va_W _ (xW h0 nw sp xa la lb) (@HAppend.hAppend va_W va_W va_W _ (rcV X nw an sv dv n0 n1 n2 n3 n4 g0 gs gn gm) (@HAppend.hAppend va_W va_W va_W _ (rnV (xa 8) ag dg) ([((xa 5), .inl (X.2.1, 3, .inl fr))])))) sz) (va_A (@HAppend.hAppend va_W va_W va_W _ (xW h0 nw sp xa la lb) (@HAppend.hAppend va_W va_W va_W _ (rcV X nw an sv dv n0 n1 n2 n3 n4 g0 gs gn gm) (@HAppend.hAppend va_W va_W va_W _ (rnV (xa 8) ag dg) ([((xa 5), .inl (X.2.1, 3, .inl fr))])))) sz) s (@HAppend.hAppend va_W va_W va_W _ (xW h0 nw sp xa la lb) (@HAppend.hAppend va_W va_W va_W _ (rcV X nw an sv dv n0 n1 n2 n3 n4 g0 gs gn gm) (@HAppend.hAppend va_W va_W va_W _ (rnV (xa 8) ag dg) ([((xa 5), .inl (X.2.1, 3, .inl fr))])))) H locs := G
    rcases hp_3 with ⟨rfl, hw_3⟩ | ⟨rfl, hw_3⟩
    · refine lv_if_eq (tgt := 27) zx zb dX10_turn_15 (by decide) (fun c_4 => absurd c_4 (by decide)) (fun c_4 => ?_)
      refine lv_iload_n zx zb dX10_turn_18 rfl (lv_at hl 3 rfl) ?_
      refine lv_iconst (v := 0) zx zb dX10_turn_19 (by decide) ?_
      refine lv_iconst (v := 1) zx zb dX10_turn_20 (by decide) ?_
      refine o_ri (cells' := 0) (slots' := 0) G rfl rfl (n_S (As := [.int x3, .int 0, .int 1]) (rest := []) S G (s_within l X x3 0 1 H.size) gX10_turn_X10_within rfl rfl rfl hdS_X10_within ⟨Nat.le_of_ble_eq_true rfl, Nat.le_of_ble_eq_true rfl⟩ [] rfl rfl rfl hl.1 (Nat.le_of_ble_eq_true rfl) dX10_turn_21 ⟨Nat.le_of_ble_eq_true rfl, Nat.le_of_ble_eq_true rfl⟩) (fun r_5 u_5 H locs hp_5 G => ?_)
      have G : wd X (va_A (@HAppend.hAppend va_W va_W va_W _ (xW h0 nw sp xa la lb) (@HAppend.hAppend va_W va_W va_W _ (rcV X nw an sv dv n0 n1 n2 n3 n4 g0 gs gn gm) (@HAppend.hAppend va_W va_W va_W _ (rnV (xa 8) ag dg) ([((xa 5), .inl (X.2.1, 3, .inl fr))])))) sz) (va_A (@HAppend.hAppend va_W va_W va_W _ (xW h0 nw sp xa la lb) (@HAppend.hAppend va_W va_W va_W _ (rcV X nw an sv dv n0 n1 n2 n3 n4 g0 gs gn gm) (@HAppend.hAppend va_W va_W va_W _ (rnV (xa 8) ag dg) ([((xa 5), .inl (X.2.1, 3, .inl fr))])))) sz) s (@HAppend.hAppend va_W va_W va_W _ (xW h0 nw sp xa la lb) (@HAppend.hAppend va_W va_W va_W _ (rcV X nw an sv dv n0 n1 n2 n3 n4 g0 gs gn gm) (@HAppend.hAppend va_W va_W va_W _ (rnV (xa 8) ag dg) ([((xa 5), .inl (X.2.1, 3, .inl fr))])))) H locs := G
      rcases hp_5 with ⟨rfl, hw_5⟩ | ⟨rfl, hw_5⟩
      · refine lv_if_ne (tgt := 34) zx zb dX10_turn_24 (by decide) (fun c_6 => ?_) (fun c_6 => absurd c_6 (by decide))
        refine lv_aload_n zx zb dX10_turn_34 rfl (lv_at hl 0 rfl) ?_
        refine r_get (C := RX10) (T := TX10) (N := 14) (ci := 8) (v := .ref nw) S in_X10_turn_X10 G 0 rfl rfl 0 (by decide) lk_X10_turn_10 rfl dX10_turn_35 ?_
        refine r_get (C := RX5) (T := TX5) (N := 8) (ci := 3) (v := .ref (an 0)) S in_X10_turn_X5 G 1 rfl rfl 3 (by decide) lk_X10_turn_126 rfl dX10_turn_38 ?_
        refine lv_iload_n zx zb dX10_turn_41 rfl (lv_at hl 1 rfl) ?_
        rcases k_6c (show j_1 < 6 by omega) with rfl | rfl | rfl | rfl | rfl | rfl
        · refine k_it (v := 0) rfl ?_
          refine r_aald (C := RX8) (b := (an 1)) S G 2 3 rfl rfl (k_vp (by decide)) rfl dX10_turn_42 ?_
          refine o_ri (cells' := 0) (slots' := 0) G rfl rfl (n_V (As := []) (rest := []) (C := RX8) (T := TX8) (N := 8) (ci := 6) S G (s_isHome l X (an 1) (fun k => sv (0 + k)) (fun k => dv (10 + k)) H.size) gX10_turn_X8_isHome rfl rfl rfl hdV_X8_isHome ⟨Nat.le_of_ble_eq_true rfl, Nat.le_of_ble_eq_true rfl⟩ [3] rfl rfl 3 rfl rfl rfl hl.1 (Nat.le_of_ble_eq_true rfl) dX10_turn_43 ⟨Nat.le_of_ble_eq_true rfl, Nat.le_of_ble_eq_true rfl⟩) (fun r_7 u_7 H locs hp_7 G => ?_)
          have G : wd X (va_A (@HAppend.hAppend va_W va_W va_W _ (xW h0 nw sp xa la lb) (@HAppend.hAppend va_W va_W va_W _ (rcV X nw an sv dv n0 n1 n2 n3 n4 g0 gs gn gm) (@HAppend.hAppend va_W va_W va_W _ (rnV (xa 8) ag dg) ([((xa 5), .inl (X.2.1, 3, .inl fr))])))) sz) (va_A (@HAppend.hAppend va_W va_W va_W _ (xW h0 nw sp xa la lb) (@HAppend.hAppend va_W va_W va_W _ (rcV X nw an sv dv n0 n1 n2 n3 n4 g0 gs gn gm) (@HAppend.hAppend va_W va_W va_W _ (rnV (xa 8) ag dg) ([((xa 5), .inl (X.2.1, 3, .inl fr))])))) sz) s (@HAppend.hAppend va_W va_W va_W _ (xW h0 nw sp xa la lb) (@HAppend.hAppend va_W va_W va_W _ (rcV X nw an sv dv n0 n1 n2 n3 n4 g0 gs gn gm) (@HAppend.hAppend va_W va_W va_W _ (rnV (xa 8) ag dg) ([((xa 5), .inl (X.2.1, 3, .inl fr))])))) H locs := G
          refine lv_if_eq (tgt := 51) zx zb dX10_turn_46 (by decide) (fun c_8 => ?_) (fun c_8 => ?_)
          · refine lv_iconst (v := (-1)) zx zb dX10_turn_51 (by decide) ?_
            refine lv_istore (lv' := [(4, .int (-1)), (0, .ref h0), (1, .int 0), (2, .int x2), (3, .int x3)]) zx zb dX10_turn_52 hl (by decide) rfl (fun ls hl => ?_)
            refine lv_iconst (v := (-1)) zx zb dX10_turn_54 (by decide) ?_
            refine lv_istore (lv' := [(5, .int (-1)), (4, .int (-1)), (0, .ref h0), (1, .int 0), (2, .int x2), (3, .int x3)]) zx zb dX10_turn_55 hl (by decide) rfl (fun ls hl => ?_)
            refine lv_bipush (v := 60) zx zb dX10_turn_57 (by decide) ?_
            refine lv_istore (lv' := [(6, .int 60), (5, .int (-1)), (4, .int (-1)), (0, .ref h0), (1, .int 0), (2, .int x2), (3, .int x3)]) zx zb dX10_turn_59 hl (by decide) rfl (fun ls hl => ?_)
            refine lv_iconst (v := 0) zx zb dX10_turn_61 (by decide) ?_
            refine lv_istore (lv' := [(7, .int 0), (6, .int 60), (5, .int (-1)), (4, .int (-1)), (0, .ref h0), (1, .int 0), (2, .int x2), (3, .int x3)]) zx zb dX10_turn_62 hl (by decide) rfl (fun ls hl => ?_)
            refine k_loop (P := ∀ (zm : Nat) (k64 : Nat) (x64_6 : Int32) (x64_5 : Int32) (x64_4 : Int32) (a64_2 : Nat → Int32) (d64_2 : Nat → Int32) (H : Heap) (locs : List Loc) (ls : Array Slot), 31 + 1 ≤ k64 + zm → (k64 ≤ 31) → (x64_6 ≤ 60) → wd X (va_A (@HAppend.hAppend va_W va_W va_W _ (xW h0 nw sp xa la lb) (@HAppend.hAppend va_W va_W va_W _ (rcV X nw an sv dv n0 n1 n2 n3 n4 g0 gs gn gm) (@HAppend.hAppend va_W va_W va_W _ (rnV (xa 8) ag dg) ([((xa 5), .inl (X.2.1, 3, .inl fr))])))) sz) (va_A (@HAppend.hAppend va_W va_W va_W _ (xW h0 nw sp xa la lb) (@HAppend.hAppend va_W va_W va_W _ (rcV X nw an sv dv n0 n1 n2 n3 n4 g0 gs gn gm) (@HAppend.hAppend va_W va_W va_W _ (rnV (xa 8) ag dg) ([((xa 5), .inl (X.2.1, 3, .inl fr))])))) sz) s (@HAppend.hAppend va_W va_W va_W _ (xW h0 nw sp xa la lb) (@HAppend.hAppend va_W va_W va_W _ (rcV X nw an sv dv n0 n1 n2 n3 n4 g0 gs gn gm) (@HAppend.hAppend va_W va_W va_W _ (rnV (xa 8) a64_2 d64_2) ([((xa 5), .inl (X.2.1, 3, .inl fr))])))) H locs → lv_has ls 9 [(7, .int (nI k64)), (6, .int x64_6), (5, .int x64_5), (4, .int x64_4), (0, .ref h0), (1, .int 0), (2, .int x2), (3, .int x3)] → W p l e _ s m _ below meth c H locs _ _ _ (F0 m 64 ls [])) (fun loop => loop (31 + 1) 0 60 (-1) (-1) ag dg _ _ _ (by omega) (by omega) (by first | assumption | decide | exact k_m60 (by assumption)) G hl) ?_
            intro zm
            induction zm with
            | zero => intro k64 x64_6 x64_5 x64_4 a64_2 d64_2 H locs ls zz q_hk_k64 q_hk_x64_6 _ _; exact absurd zz (by omega)
            | succ zm ih64 =>
              intro k64 x64_6 x64_5 x64_4 a64_2 d64_2 H locs ls zm_64 hk_k64 hk_x64_6 G hl
              refine lv_iload zx zb dX10_turn_64 (lv_at hl 0 rfl) ?_
              refine lv_bipush (v := 30) zx zb dX10_turn_66 (by decide) ?_
              refine lv_icmp_gt (tgt := 109) zx zb dX10_turn_68 (by decide) (fun c_9 => ?_) (fun c_9 => ?_)
              · have fc_9 := j_lt (a := 30) (b := k64) (by omega) (by omega) c_9
                refine lv_iload_n zx zb dX10_turn_109 rfl (lv_at hl 7 rfl) ?_
                refine k_cutW (PP := fun Wx => ∀ (x_11 : Int32) (H : Heap) (locs : List Loc) (ls : Array Slot), wd X (va_A (@HAppend.hAppend va_W va_W va_W _ (xW h0 nw sp xa la lb) (@HAppend.hAppend va_W va_W va_W _ (rcV X nw an sv dv n0 n1 n2 n3 n4 g0 gs gn gm) (@HAppend.hAppend va_W va_W va_W _ (rnV (xa 8) ag dg) ([((xa 5), .inl (X.2.1, 3, .inl fr))])))) sz) (va_A (@HAppend.hAppend va_W va_W va_W _ (xW h0 nw sp xa la lb) (@HAppend.hAppend va_W va_W va_W _ (rcV X nw an sv dv n0 n1 n2 n3 n4 g0 gs gn gm) (@HAppend.hAppend va_W va_W va_W _ (rnV (xa 8) ag dg) ([((xa 5), .inl (X.2.1, 3, .inl fr))])))) sz) s (@HAppend.hAppend va_W va_W va_W _ (xW h0 nw sp xa la lb) (@HAppend.hAppend va_W va_W va_W _ (rcV X nw an sv dv n0 n1 n2 n3 n4 g0 gs gn gm) (@HAppend.hAppend va_W va_W va_W _ (rnV (xa 8) a64_2 d64_2) ([((xa 5), .inl (X.2.1, 3, .inl fr))])))) H locs → lv_has ls 9 [(7, .int (nI k64)), (6, .int x64_6), (5, .int x64_5), (4, .int x64_4), (0, .ref h0), (1, .int 0), (2, .int x2), (3, .int x3)] → Wx (F0 m 120 ls [.int x_11]) H locs) ?_ ?_
                · intro join_110
                  refine lv_if_ne (tgt := 118) zx zb dX10_turn_110 (by decide) (fun c_10 => ?_) (fun c_10 => ?_)
                  · refine lv_iload zx zb dX10_turn_118 (lv_at hl 2 rfl) ?_
                    exact join_110 x64_5 _ _ _  G hl
                  · refine lv_iload zx zb dX10_turn_113 (lv_at hl 3 rfl) ?_
                    refine lv_goto (tgt := 120) zx zb dX10_turn_115 (by decide) ?_
                    exact join_110 x64_4 _ _ _  G hl
                · intro x_11 H locs ls  G hl
                  exact e_int S zr zlk (vp_nar_int _) G (a64_2, d64_2, fr) [0, 1, 2, 3, 4, 5, 6, 7, 8, 9, 10, 11, 12, 13, 14, 15, 16, 17, 18] rfl rfl (Or.inr rfl) (trivial) dX10_turn_120
              · have fc_9 := j_nlt (a := 30) (b := k64) (by omega) (by omega) c_9
                refine lv_aload_n zx zb dX10_turn_71 rfl (lv_at hl 4 rfl) ?_
                refine lv_iload_n zx zb dX10_turn_72 rfl (lv_at hl 5 rfl) ?_
                refine lv_iload_n zx zb dX10_turn_73 rfl (lv_at hl 6 rfl) ?_
                refine lv_iload zx zb dX10_turn_74 (lv_at hl 0 rfl) ?_
                refine lv_iload zx zb dX10_turn_76 (lv_at hl 1 rfl) ?_
                refine b_wi (cells' := 0) (slots' := 0) (wr := [((xa 5), .inl (X.2.1, 3, .inl fr))]) G rfl rfl [0, 1, 2, 3, 4, 5, 6, 7, 8, 9, 10, 11, 12, 13, 14, 15, 16, 17] [18] rfl rfl rfl rfl (n_V (As := [.int 0, .int x2, .int (nI k64), .int x64_6]) (rest := []) (C := RX10) (T := TX10) (N := 14) (ci := 8) S G (s_homeTurning l X h0 nw sp xa la lb an sv dv n0 n1 n2 n3 n4 g0 gs gn gm a64_2 d64_2 0 x2 k64 x64_6 hI_n0 hI_n1 hI_n2 hI_n3 hI_n4 (by omega) (by omega) (by first | decide | assumption | exact k_60a (by assumption)) H.size) gX10_turn_X10_homeTurning rfl rfl rfl hdV_X10_homeTurning ⟨Nat.le_of_ble_eq_true rfl, Nat.le_of_ble_eq_true rfl⟩ [0, 1, 2, 3, 4, 5, 6, 7, 8, 9, 10, 11, 12, 13, 14, 15, 16, 17] rfl rfl 0 rfl rfl rfl hl.1 (Nat.le_of_ble_eq_true rfl) dX10_turn_78 ⟨Nat.le_of_ble_eq_true rfl, Nat.le_of_ble_eq_true rfl⟩) (fun r_12 u_12 H locs hp_12 G => ?_)
                obtain ⟨a_12a, d_12b⟩ := u_12
                have hq_12 := hp_12
                have G : wd X (va_A (@HAppend.hAppend va_W va_W va_W _ (xW h0 nw sp xa la lb) (@HAppend.hAppend va_W va_W va_W _ (rcV X nw an sv dv n0 n1 n2 n3 n4 g0 gs gn gm) (@HAppend.hAppend va_W va_W va_W _ (rnV (xa 8) ag dg) ([((xa 5), .inl (X.2.1, 3, .inl fr))])))) sz) (va_A (@HAppend.hAppend va_W va_W va_W _ (xW h0 nw sp xa la lb) (@HAppend.hAppend va_W va_W va_W _ (rcV X nw an sv dv n0 n1 n2 n3 n4 g0 gs gn gm) (@HAppend.hAppend va_W va_W va_W _ (rnV (xa 8) ag dg) ([((xa 5), .inl (X.2.1, 3, .inl fr))])))) sz) s (@HAppend.hAppend va_W va_W va_W _ ([((xa 5), .inl (X.2.1, 3, .inl fr))]) (@HAppend.hAppend va_W va_W va_W _ (xW h0 nw sp xa la lb) (@HAppend.hAppend va_W va_W va_W _ (rcV X nw an sv dv n0 n1 n2 n3 n4 g0 gs gn gm) (rnV (xa 8) a_12a d_12b)))) H locs := G
                refine lv_istore (lv' := [(8, .int r_12), (7, .int (nI k64)), (6, .int x64_6), (5, .int x64_5), (4, .int x64_4), (0, .ref h0), (1, .int 0), (2, .int x2), (3, .int x3)]) zx zb dX10_turn_81 hl (by decide) rfl (fun ls hl => ?_)
                refine lv_iload zx zb dX10_turn_83 (lv_at hl 0 rfl) ?_
                refine lv_iconst (v := (-1)) zx zb dX10_turn_85 (by decide) ?_
                refine k_cutW (PP := fun Wx => ∀ (x_14 : Int32) (x_15 : Int32) (x_16 : Int32) (H : Heap) (locs : List Loc) (ls : Array Slot), (x_14 ≤ 60) → wd X (va_A (@HAppend.hAppend va_W va_W va_W _ (xW h0 nw sp xa la lb) (@HAppend.hAppend va_W va_W va_W _ (rcV X nw an sv dv n0 n1 n2 n3 n4 g0 gs gn gm) (@HAppend.hAppend va_W va_W va_W _ (rnV (xa 8) ag dg) ([((xa 5), .inl (X.2.1, 3, .inl fr))])))) sz) (va_A (@HAppend.hAppend va_W va_W va_W _ (xW h0 nw sp xa la lb) (@HAppend.hAppend va_W va_W va_W _ (rcV X nw an sv dv n0 n1 n2 n3 n4 g0 gs gn gm) (@HAppend.hAppend va_W va_W va_W _ (rnV (xa 8) ag dg) ([((xa 5), .inl (X.2.1, 3, .inl fr))])))) sz) s (@HAppend.hAppend va_W va_W va_W _ ([((xa 5), .inl (X.2.1, 3, .inl fr))]) (@HAppend.hAppend va_W va_W va_W _ (xW h0 nw sp xa la lb) (@HAppend.hAppend va_W va_W va_W _ (rcV X nw an sv dv n0 n1 n2 n3 n4 g0 gs gn gm) (rnV (xa 8) a_12a d_12b)))) H locs → lv_has ls 9 [(8, .int r_12), (7, .int (nI k64)), (6, .int x_14), (5, .int x_15), (4, .int x_16), (0, .ref h0), (1, .int 0), (2, .int x2), (3, .int x3)] → Wx (F0 m 103 ls []) H locs) ?_ ?_
                · intro join_86
                  refine lv_icmp_eq (tgt := 103) zx zb dX10_turn_86 (by decide) (fun c_13 => ?_) (fun c_13 => ?_)
                  · exact join_86 x64_6 x64_5 x64_4 _ _ _ (by first | assumption | decide | exact k_m60 (by assumption)) G hl
                  · refine lv_iload zx zb dX10_turn_89 (lv_at hl 1 rfl) ?_
                    refine lv_istore (lv' := [(4, .int (nI k64)), (8, .int r_12), (7, .int (nI k64)), (6, .int x64_6), (5, .int x64_5), (0, .ref h0), (1, .int 0), (2, .int x2), (3, .int x3)]) zx zb dX10_turn_91 hl (by decide) rfl (fun ls hl => ?_)
                    refine lv_iload zx zb dX10_turn_93 (lv_at hl 1 rfl) ?_
                    refine lv_istore (lv' := [(5, .int r_12), (4, .int (nI k64)), (8, .int r_12), (7, .int (nI k64)), (6, .int x64_6), (0, .ref h0), (1, .int 0), (2, .int x2), (3, .int x3)]) zx zb dX10_turn_95 hl (by decide) rfl (fun ls hl => ?_)
                    refine lv_iload zx zb dX10_turn_97 (lv_at hl 2 rfl) ?_
                    refine lv_iconst (v := 1) zx zb dX10_turn_99 (by decide) ?_
                    refine r_isub (v := (r_12 - 1)) S rfl dX10_turn_100 ?_
                    refine lv_istore (lv' := [(6, .int (r_12 - 1)), (5, .int r_12), (4, .int (nI k64)), (8, .int r_12), (7, .int (nI k64)), (0, .ref h0), (1, .int 0), (2, .int x2), (3, .int x3)]) zx zb dX10_turn_101 hl (by decide) rfl (fun ls hl => ?_)
                    have hl := lv_sub hl (l' := [(8, .int r_12), (7, .int (nI k64)), (6, .int (r_12 - 1)), (5, .int r_12), (4, .int (nI k64)), (0, .ref h0), (1, .int 0), (2, .int x2), (3, .int x3)]) [3, 4, 0, 1, 2, 5, 6, 7, 8] rfl
                    exact join_86 (r_12 - 1) r_12 (nI k64) _ _ _ (by first | assumption | decide | exact k_m60 (by assumption)) G hl
                · intro x_14 x_15 x_16 H locs ls hk_x_14 G hl
                  refine lv_iinc (v := (nI (k64 + 1))) (lv' := [(7, .int (nI (k64 + 1))), (8, .int r_12), (6, .int x_14), (5, .int x_15), (4, .int x_16), (0, .ref h0), (1, .int 0), (2, .int x2), (3, .int x3)]) zx zb dX10_turn_103 hl (k := 1) rfl (nI_add k64 1) (by decide) rfl (fun ls hl => ?_)
                  refine lv_goto (tgt := 64) zx zb dX10_turn_106 (by decide) ?_
                  have G : wd X (va_A (@HAppend.hAppend va_W va_W va_W _ (xW h0 nw sp xa la lb) (@HAppend.hAppend va_W va_W va_W _ (rcV X nw an sv dv n0 n1 n2 n3 n4 g0 gs gn gm) (@HAppend.hAppend va_W va_W va_W _ (rnV (xa 8) ag dg) ([((xa 5), .inl (X.2.1, 3, .inl fr))])))) sz) (va_A (@HAppend.hAppend va_W va_W va_W _ (xW h0 nw sp xa la lb) (@HAppend.hAppend va_W va_W va_W _ (rcV X nw an sv dv n0 n1 n2 n3 n4 g0 gs gn gm) (@HAppend.hAppend va_W va_W va_W _ (rnV (xa 8) ag dg) ([((xa 5), .inl (X.2.1, 3, .inl fr))])))) sz) s (@HAppend.hAppend va_W va_W va_W _ (xW h0 nw sp xa la lb) (@HAppend.hAppend va_W va_W va_W _ (rcV X nw an sv dv n0 n1 n2 n3 n4 g0 gs gn gm) (@HAppend.hAppend va_W va_W va_W _ (rnV (xa 8) a_12a d_12b) ([((xa 5), .inl (X.2.1, 3, .inl fr))])))) H locs := wd_sub G [1, 2, 3, 4, 5, 6, 7, 8, 9, 10, 11, 12, 13, 14, 15, 16, 17, 18, 0] rfl rfl
                  have hl := lv_sub hl (l' := [(7, .int (nI (k64 + 1))), (6, .int x_14), (5, .int x_15), (4, .int x_16), (0, .ref h0), (1, .int 0), (2, .int x2), (3, .int x3)]) [0, 2, 3, 4, 5, 6, 7, 8] rfl
                  exact ih64 (k64 + 1) x_14 x_15 x_16 a_12a d_12b _ _ _ (by omega) (by omega) (by first | assumption | decide | exact k_m60 (by assumption)) G hl
          · refine lv_iconst (v := (-1)) zx zb dX10_turn_49 (by decide) ?_
            exact e_int S zr zlk (vp_nar_int _) G (ag, dg, fr) [0, 1, 2, 3, 4, 5, 6, 7, 8, 9, 10, 11, 12, 13, 14, 15, 16, 17, 18] rfl rfl (Or.inr rfl) (trivial) dX10_turn_50
        · refine k_it (v := 1) rfl ?_
          refine r_aald (C := RX8) (b := (an 2)) S G 2 3 rfl rfl (k_vp (by decide)) rfl dX10_turn_42 ?_
          refine o_ri (cells' := 0) (slots' := 0) G rfl rfl (n_V (As := []) (rest := []) (C := RX8) (T := TX8) (N := 8) (ci := 6) S G (s_isHome l X (an 2) (fun k => sv (3 + k)) (fun k => dv (15 + k)) H.size) gX10_turn_X8_isHome rfl rfl rfl hdV_X8_isHome ⟨Nat.le_of_ble_eq_true rfl, Nat.le_of_ble_eq_true rfl⟩ [4] rfl rfl 4 rfl rfl rfl hl.1 (Nat.le_of_ble_eq_true rfl) dX10_turn_43 ⟨Nat.le_of_ble_eq_true rfl, Nat.le_of_ble_eq_true rfl⟩) (fun r_17 u_17 H locs hp_17 G => ?_)
          have G : wd X (va_A (@HAppend.hAppend va_W va_W va_W _ (xW h0 nw sp xa la lb) (@HAppend.hAppend va_W va_W va_W _ (rcV X nw an sv dv n0 n1 n2 n3 n4 g0 gs gn gm) (@HAppend.hAppend va_W va_W va_W _ (rnV (xa 8) ag dg) ([((xa 5), .inl (X.2.1, 3, .inl fr))])))) sz) (va_A (@HAppend.hAppend va_W va_W va_W _ (xW h0 nw sp xa la lb) (@HAppend.hAppend va_W va_W va_W _ (rcV X nw an sv dv n0 n1 n2 n3 n4 g0 gs gn gm) (@HAppend.hAppend va_W va_W va_W _ (rnV (xa 8) ag dg) ([((xa 5), .inl (X.2.1, 3, .inl fr))])))) sz) s (@HAppend.hAppend va_W va_W va_W _ (xW h0 nw sp xa la lb) (@HAppend.hAppend va_W va_W va_W _ (rcV X nw an sv dv n0 n1 n2 n3 n4 g0 gs gn gm) (@HAppend.hAppend va_W va_W va_W _ (rnV (xa 8) ag dg) ([((xa 5), .inl (X.2.1, 3, .inl fr))])))) H locs := G
          refine lv_if_eq (tgt := 51) zx zb dX10_turn_46 (by decide) (fun c_18 => ?_) (fun c_18 => ?_)
          · refine lv_iconst (v := (-1)) zx zb dX10_turn_51 (by decide) ?_
            refine lv_istore (lv' := [(4, .int (-1)), (0, .ref h0), (1, .int 1), (2, .int x2), (3, .int x3)]) zx zb dX10_turn_52 hl (by decide) rfl (fun ls hl => ?_)
            refine lv_iconst (v := (-1)) zx zb dX10_turn_54 (by decide) ?_
            refine lv_istore (lv' := [(5, .int (-1)), (4, .int (-1)), (0, .ref h0), (1, .int 1), (2, .int x2), (3, .int x3)]) zx zb dX10_turn_55 hl (by decide) rfl (fun ls hl => ?_)
            refine lv_bipush (v := 60) zx zb dX10_turn_57 (by decide) ?_
            refine lv_istore (lv' := [(6, .int 60), (5, .int (-1)), (4, .int (-1)), (0, .ref h0), (1, .int 1), (2, .int x2), (3, .int x3)]) zx zb dX10_turn_59 hl (by decide) rfl (fun ls hl => ?_)
            refine lv_iconst (v := 0) zx zb dX10_turn_61 (by decide) ?_
            refine lv_istore (lv' := [(7, .int 0), (6, .int 60), (5, .int (-1)), (4, .int (-1)), (0, .ref h0), (1, .int 1), (2, .int x2), (3, .int x3)]) zx zb dX10_turn_62 hl (by decide) rfl (fun ls hl => ?_)
            refine k_loop (P := ∀ (zm : Nat) (k64 : Nat) (x64_6 : Int32) (x64_5 : Int32) (x64_4 : Int32) (a64_2 : Nat → Int32) (d64_2 : Nat → Int32) (H : Heap) (locs : List Loc) (ls : Array Slot), 31 + 1 ≤ k64 + zm → (k64 ≤ 31) → (x64_6 ≤ 60) → wd X (va_A (@HAppend.hAppend va_W va_W va_W _ (xW h0 nw sp xa la lb) (@HAppend.hAppend va_W va_W va_W _ (rcV X nw an sv dv n0 n1 n2 n3 n4 g0 gs gn gm) (@HAppend.hAppend va_W va_W va_W _ (rnV (xa 8) ag dg) ([((xa 5), .inl (X.2.1, 3, .inl fr))])))) sz) (va_A (@HAppend.hAppend va_W va_W va_W _ (xW h0 nw sp xa la lb) (@HAppend.hAppend va_W va_W va_W _ (rcV X nw an sv dv n0 n1 n2 n3 n4 g0 gs gn gm) (@HAppend.hAppend va_W va_W va_W _ (rnV (xa 8) ag dg) ([((xa 5), .inl (X.2.1, 3, .inl fr))])))) sz) s (@HAppend.hAppend va_W va_W va_W _ (xW h0 nw sp xa la lb) (@HAppend.hAppend va_W va_W va_W _ (rcV X nw an sv dv n0 n1 n2 n3 n4 g0 gs gn gm) (@HAppend.hAppend va_W va_W va_W _ (rnV (xa 8) a64_2 d64_2) ([((xa 5), .inl (X.2.1, 3, .inl fr))])))) H locs → lv_has ls 9 [(7, .int (nI k64)), (6, .int x64_6), (5, .int x64_5), (4, .int x64_4), (0, .ref h0), (1, .int 1), (2, .int x2), (3, .int x3)] → W p l e _ s m _ below meth c H locs _ _ _ (F0 m 64 ls [])) (fun loop => loop (31 + 1) 0 60 (-1) (-1) ag dg _ _ _ (by omega) (by omega) (by first | assumption | decide | exact k_m60 (by assumption)) G hl) ?_
            intro zm
            induction zm with
            | zero => intro k64 x64_6 x64_5 x64_4 a64_2 d64_2 H locs ls zz q_hk_k64 q_hk_x64_6 _ _; exact absurd zz (by omega)
            | succ zm ih64 =>
              intro k64 x64_6 x64_5 x64_4 a64_2 d64_2 H locs ls zm_64 hk_k64 hk_x64_6 G hl
              refine lv_iload zx zb dX10_turn_64 (lv_at hl 0 rfl) ?_
              refine lv_bipush (v := 30) zx zb dX10_turn_66 (by decide) ?_
              refine lv_icmp_gt (tgt := 109) zx zb dX10_turn_68 (by decide) (fun c_19 => ?_) (fun c_19 => ?_)
              · have fc_19 := j_lt (a := 30) (b := k64) (by omega) (by omega) c_19
                refine lv_iload_n zx zb dX10_turn_109 rfl (lv_at hl 7 rfl) ?_
                refine k_cutW (PP := fun Wx => ∀ (x_21 : Int32) (H : Heap) (locs : List Loc) (ls : Array Slot), wd X (va_A (@HAppend.hAppend va_W va_W va_W _ (xW h0 nw sp xa la lb) (@HAppend.hAppend va_W va_W va_W _ (rcV X nw an sv dv n0 n1 n2 n3 n4 g0 gs gn gm) (@HAppend.hAppend va_W va_W va_W _ (rnV (xa 8) ag dg) ([((xa 5), .inl (X.2.1, 3, .inl fr))])))) sz) (va_A (@HAppend.hAppend va_W va_W va_W _ (xW h0 nw sp xa la lb) (@HAppend.hAppend va_W va_W va_W _ (rcV X nw an sv dv n0 n1 n2 n3 n4 g0 gs gn gm) (@HAppend.hAppend va_W va_W va_W _ (rnV (xa 8) ag dg) ([((xa 5), .inl (X.2.1, 3, .inl fr))])))) sz) s (@HAppend.hAppend va_W va_W va_W _ (xW h0 nw sp xa la lb) (@HAppend.hAppend va_W va_W va_W _ (rcV X nw an sv dv n0 n1 n2 n3 n4 g0 gs gn gm) (@HAppend.hAppend va_W va_W va_W _ (rnV (xa 8) a64_2 d64_2) ([((xa 5), .inl (X.2.1, 3, .inl fr))])))) H locs → lv_has ls 9 [(7, .int (nI k64)), (6, .int x64_6), (5, .int x64_5), (4, .int x64_4), (0, .ref h0), (1, .int 1), (2, .int x2), (3, .int x3)] → Wx (F0 m 120 ls [.int x_21]) H locs) ?_ ?_
                · intro join_110
                  refine lv_if_ne (tgt := 118) zx zb dX10_turn_110 (by decide) (fun c_20 => ?_) (fun c_20 => ?_)
                  · refine lv_iload zx zb dX10_turn_118 (lv_at hl 2 rfl) ?_
                    exact join_110 x64_5 _ _ _  G hl
                  · refine lv_iload zx zb dX10_turn_113 (lv_at hl 3 rfl) ?_
                    refine lv_goto (tgt := 120) zx zb dX10_turn_115 (by decide) ?_
                    exact join_110 x64_4 _ _ _  G hl
                · intro x_21 H locs ls  G hl
                  exact e_int S zr zlk (vp_nar_int _) G (a64_2, d64_2, fr) [0, 1, 2, 3, 4, 5, 6, 7, 8, 9, 10, 11, 12, 13, 14, 15, 16, 17, 18] rfl rfl (Or.inr rfl) (trivial) dX10_turn_120
              · have fc_19 := j_nlt (a := 30) (b := k64) (by omega) (by omega) c_19
                refine lv_aload_n zx zb dX10_turn_71 rfl (lv_at hl 4 rfl) ?_
                refine lv_iload_n zx zb dX10_turn_72 rfl (lv_at hl 5 rfl) ?_
                refine lv_iload_n zx zb dX10_turn_73 rfl (lv_at hl 6 rfl) ?_
                refine lv_iload zx zb dX10_turn_74 (lv_at hl 0 rfl) ?_
                refine lv_iload zx zb dX10_turn_76 (lv_at hl 1 rfl) ?_
                refine b_wi (cells' := 0) (slots' := 0) (wr := [((xa 5), .inl (X.2.1, 3, .inl fr))]) G rfl rfl [0, 1, 2, 3, 4, 5, 6, 7, 8, 9, 10, 11, 12, 13, 14, 15, 16, 17] [18] rfl rfl rfl rfl (n_V (As := [.int 1, .int x2, .int (nI k64), .int x64_6]) (rest := []) (C := RX10) (T := TX10) (N := 14) (ci := 8) S G (s_homeTurning l X h0 nw sp xa la lb an sv dv n0 n1 n2 n3 n4 g0 gs gn gm a64_2 d64_2 1 x2 k64 x64_6 hI_n0 hI_n1 hI_n2 hI_n3 hI_n4 (by omega) (by omega) (by first | decide | assumption | exact k_60a (by assumption)) H.size) gX10_turn_X10_homeTurning rfl rfl rfl hdV_X10_homeTurning ⟨Nat.le_of_ble_eq_true rfl, Nat.le_of_ble_eq_true rfl⟩ [0, 1, 2, 3, 4, 5, 6, 7, 8, 9, 10, 11, 12, 13, 14, 15, 16, 17] rfl rfl 0 rfl rfl rfl hl.1 (Nat.le_of_ble_eq_true rfl) dX10_turn_78 ⟨Nat.le_of_ble_eq_true rfl, Nat.le_of_ble_eq_true rfl⟩) (fun r_22 u_22 H locs hp_22 G => ?_)
                obtain ⟨a_22a, d_22b⟩ := u_22
                have hq_22 := hp_22
                have G : wd X (va_A (@HAppend.hAppend va_W va_W va_W _ (xW h0 nw sp xa la lb) (@HAppend.hAppend va_W va_W va_W _ (rcV X nw an sv dv n0 n1 n2 n3 n4 g0 gs gn gm) (@HAppend.hAppend va_W va_W va_W _ (rnV (xa 8) ag dg) ([((xa 5), .inl (X.2.1, 3, .inl fr))])))) sz) (va_A (@HAppend.hAppend va_W va_W va_W _ (xW h0 nw sp xa la lb) (@HAppend.hAppend va_W va_W va_W _ (rcV X nw an sv dv n0 n1 n2 n3 n4 g0 gs gn gm) (@HAppend.hAppend va_W va_W va_W _ (rnV (xa 8) ag dg) ([((xa 5), .inl (X.2.1, 3, .inl fr))])))) sz) s (@HAppend.hAppend va_W va_W va_W _ ([((xa 5), .inl (X.2.1, 3, .inl fr))]) (@HAppend.hAppend va_W va_W va_W _ (xW h0 nw sp xa la lb) (@HAppend.hAppend va_W va_W va_W _ (rcV X nw an sv dv n0 n1 n2 n3 n4 g0 gs gn gm) (rnV (xa 8) a_22a d_22b)))) H locs := G
                refine lv_istore (lv' := [(8, .int r_22), (7, .int (nI k64)), (6, .int x64_6), (5, .int x64_5), (4, .int x64_4), (0, .ref h0), (1, .int 1), (2, .int x2), (3, .int x3)]) zx zb dX10_turn_81 hl (by decide) rfl (fun ls hl => ?_)
                refine lv_iload zx zb dX10_turn_83 (lv_at hl 0 rfl) ?_
                refine lv_iconst (v := (-1)) zx zb dX10_turn_85 (by decide) ?_
                refine k_cutW (PP := fun Wx => ∀ (x_24 : Int32) (x_25 : Int32) (x_26 : Int32) (H : Heap) (locs : List Loc) (ls : Array Slot), (x_24 ≤ 60) → wd X (va_A (@HAppend.hAppend va_W va_W va_W _ (xW h0 nw sp xa la lb) (@HAppend.hAppend va_W va_W va_W _ (rcV X nw an sv dv n0 n1 n2 n3 n4 g0 gs gn gm) (@HAppend.hAppend va_W va_W va_W _ (rnV (xa 8) ag dg) ([((xa 5), .inl (X.2.1, 3, .inl fr))])))) sz) (va_A (@HAppend.hAppend va_W va_W va_W _ (xW h0 nw sp xa la lb) (@HAppend.hAppend va_W va_W va_W _ (rcV X nw an sv dv n0 n1 n2 n3 n4 g0 gs gn gm) (@HAppend.hAppend va_W va_W va_W _ (rnV (xa 8) ag dg) ([((xa 5), .inl (X.2.1, 3, .inl fr))])))) sz) s (@HAppend.hAppend va_W va_W va_W _ ([((xa 5), .inl (X.2.1, 3, .inl fr))]) (@HAppend.hAppend va_W va_W va_W _ (xW h0 nw sp xa la lb) (@HAppend.hAppend va_W va_W va_W _ (rcV X nw an sv dv n0 n1 n2 n3 n4 g0 gs gn gm) (rnV (xa 8) a_22a d_22b)))) H locs → lv_has ls 9 [(8, .int r_22), (7, .int (nI k64)), (6, .int x_24), (5, .int x_25), (4, .int x_26), (0, .ref h0), (1, .int 1), (2, .int x2), (3, .int x3)] → Wx (F0 m 103 ls []) H locs) ?_ ?_
                · intro join_86
                  refine lv_icmp_eq (tgt := 103) zx zb dX10_turn_86 (by decide) (fun c_23 => ?_) (fun c_23 => ?_)
                  · exact join_86 x64_6 x64_5 x64_4 _ _ _ (by first | assumption | decide | exact k_m60 (by assumption)) G hl
                  · refine lv_iload zx zb dX10_turn_89 (lv_at hl 1 rfl) ?_
                    refine lv_istore (lv' := [(4, .int (nI k64)), (8, .int r_22), (7, .int (nI k64)), (6, .int x64_6), (5, .int x64_5), (0, .ref h0), (1, .int 1), (2, .int x2), (3, .int x3)]) zx zb dX10_turn_91 hl (by decide) rfl (fun ls hl => ?_)
                    refine lv_iload zx zb dX10_turn_93 (lv_at hl 1 rfl) ?_
                    refine lv_istore (lv' := [(5, .int r_22), (4, .int (nI k64)), (8, .int r_22), (7, .int (nI k64)), (6, .int x64_6), (0, .ref h0), (1, .int 1), (2, .int x2), (3, .int x3)]) zx zb dX10_turn_95 hl (by decide) rfl (fun ls hl => ?_)
                    refine lv_iload zx zb dX10_turn_97 (lv_at hl 2 rfl) ?_
                    refine lv_iconst (v := 1) zx zb dX10_turn_99 (by decide) ?_
                    refine r_isub (v := (r_22 - 1)) S rfl dX10_turn_100 ?_
                    refine lv_istore (lv' := [(6, .int (r_22 - 1)), (5, .int r_22), (4, .int (nI k64)), (8, .int r_22), (7, .int (nI k64)), (0, .ref h0), (1, .int 1), (2, .int x2), (3, .int x3)]) zx zb dX10_turn_101 hl (by decide) rfl (fun ls hl => ?_)
                    have hl := lv_sub hl (l' := [(8, .int r_22), (7, .int (nI k64)), (6, .int (r_22 - 1)), (5, .int r_22), (4, .int (nI k64)), (0, .ref h0), (1, .int 1), (2, .int x2), (3, .int x3)]) [3, 4, 0, 1, 2, 5, 6, 7, 8] rfl
                    exact join_86 (r_22 - 1) r_22 (nI k64) _ _ _ (by first | assumption | decide | exact k_m60 (by assumption)) G hl
                · intro x_24 x_25 x_26 H locs ls hk_x_24 G hl
                  refine lv_iinc (v := (nI (k64 + 1))) (lv' := [(7, .int (nI (k64 + 1))), (8, .int r_22), (6, .int x_24), (5, .int x_25), (4, .int x_26), (0, .ref h0), (1, .int 1), (2, .int x2), (3, .int x3)]) zx zb dX10_turn_103 hl (k := 1) rfl (nI_add k64 1) (by decide) rfl (fun ls hl => ?_)
                  refine lv_goto (tgt := 64) zx zb dX10_turn_106 (by decide) ?_
                  have G : wd X (va_A (@HAppend.hAppend va_W va_W va_W _ (xW h0 nw sp xa la lb) (@HAppend.hAppend va_W va_W va_W _ (rcV X nw an sv dv n0 n1 n2 n3 n4 g0 gs gn gm) (@HAppend.hAppend va_W va_W va_W _ (rnV (xa 8) ag dg) ([((xa 5), .inl (X.2.1, 3, .inl fr))])))) sz) (va_A (@HAppend.hAppend va_W va_W va_W _ (xW h0 nw sp xa la lb) (@HAppend.hAppend va_W va_W va_W _ (rcV X nw an sv dv n0 n1 n2 n3 n4 g0 gs gn gm) (@HAppend.hAppend va_W va_W va_W _ (rnV (xa 8) ag dg) ([((xa 5), .inl (X.2.1, 3, .inl fr))])))) sz) s (@HAppend.hAppend va_W va_W va_W _ (xW h0 nw sp xa la lb) (@HAppend.hAppend va_W va_W va_W _ (rcV X nw an sv dv n0 n1 n2 n3 n4 g0 gs gn gm) (@HAppend.hAppend va_W va_W va_W _ (rnV (xa 8) a_22a d_22b) ([((xa 5), .inl (X.2.1, 3, .inl fr))])))) H locs := wd_sub G [1, 2, 3, 4, 5, 6, 7, 8, 9, 10, 11, 12, 13, 14, 15, 16, 17, 18, 0] rfl rfl
                  have hl := lv_sub hl (l' := [(7, .int (nI (k64 + 1))), (6, .int x_24), (5, .int x_25), (4, .int x_26), (0, .ref h0), (1, .int 1), (2, .int x2), (3, .int x3)]) [0, 2, 3, 4, 5, 6, 7, 8] rfl
                  exact ih64 (k64 + 1) x_24 x_25 x_26 a_22a d_22b _ _ _ (by omega) (by omega) (by first | assumption | decide | exact k_m60 (by assumption)) G hl
          · refine lv_iconst (v := (-1)) zx zb dX10_turn_49 (by decide) ?_
            exact e_int S zr zlk (vp_nar_int _) G (ag, dg, fr) [0, 1, 2, 3, 4, 5, 6, 7, 8, 9, 10, 11, 12, 13, 14, 15, 16, 17, 18] rfl rfl (Or.inr rfl) (trivial) dX10_turn_50
        · refine k_it (v := 2) rfl ?_
          refine r_aald (C := RX8) (b := (an 3)) S G 2 3 rfl rfl (k_vp (by decide)) rfl dX10_turn_42 ?_
          refine o_ri (cells' := 0) (slots' := 0) G rfl rfl (n_V (As := []) (rest := []) (C := RX8) (T := TX8) (N := 8) (ci := 6) S G (s_isHome l X (an 3) (fun k => sv (6 + k)) (fun k => dv (20 + k)) H.size) gX10_turn_X8_isHome rfl rfl rfl hdV_X8_isHome ⟨Nat.le_of_ble_eq_true rfl, Nat.le_of_ble_eq_true rfl⟩ [5] rfl rfl 5 rfl rfl rfl hl.1 (Nat.le_of_ble_eq_true rfl) dX10_turn_43 ⟨Nat.le_of_ble_eq_true rfl, Nat.le_of_ble_eq_true rfl⟩) (fun r_27 u_27 H locs hp_27 G => ?_)
          have G : wd X (va_A (@HAppend.hAppend va_W va_W va_W _ (xW h0 nw sp xa la lb) (@HAppend.hAppend va_W va_W va_W _ (rcV X nw an sv dv n0 n1 n2 n3 n4 g0 gs gn gm) (@HAppend.hAppend va_W va_W va_W _ (rnV (xa 8) ag dg) ([((xa 5), .inl (X.2.1, 3, .inl fr))])))) sz) (va_A (@HAppend.hAppend va_W va_W va_W _ (xW h0 nw sp xa la lb) (@HAppend.hAppend va_W va_W va_W _ (rcV X nw an sv dv n0 n1 n2 n3 n4 g0 gs gn gm) (@HAppend.hAppend va_W va_W va_W _ (rnV (xa 8) ag dg) ([((xa 5), .inl (X.2.1, 3, .inl fr))])))) sz) s (@HAppend.hAppend va_W va_W va_W _ (xW h0 nw sp xa la lb) (@HAppend.hAppend va_W va_W va_W _ (rcV X nw an sv dv n0 n1 n2 n3 n4 g0 gs gn gm) (@HAppend.hAppend va_W va_W va_W _ (rnV (xa 8) ag dg) ([((xa 5), .inl (X.2.1, 3, .inl fr))])))) H locs := G
          refine lv_if_eq (tgt := 51) zx zb dX10_turn_46 (by decide) (fun c_28 => ?_) (fun c_28 => ?_)
          · refine lv_iconst (v := (-1)) zx zb dX10_turn_51 (by decide) ?_
            refine lv_istore (lv' := [(4, .int (-1)), (0, .ref h0), (1, .int 2), (2, .int x2), (3, .int x3)]) zx zb dX10_turn_52 hl (by decide) rfl (fun ls hl => ?_)
            refine lv_iconst (v := (-1)) zx zb dX10_turn_54 (by decide) ?_
            refine lv_istore (lv' := [(5, .int (-1)), (4, .int (-1)), (0, .ref h0), (1, .int 2), (2, .int x2), (3, .int x3)]) zx zb dX10_turn_55 hl (by decide) rfl (fun ls hl => ?_)
            refine lv_bipush (v := 60) zx zb dX10_turn_57 (by decide) ?_
            refine lv_istore (lv' := [(6, .int 60), (5, .int (-1)), (4, .int (-1)), (0, .ref h0), (1, .int 2), (2, .int x2), (3, .int x3)]) zx zb dX10_turn_59 hl (by decide) rfl (fun ls hl => ?_)
            refine lv_iconst (v := 0) zx zb dX10_turn_61 (by decide) ?_
            refine lv_istore (lv' := [(7, .int 0), (6, .int 60), (5, .int (-1)), (4, .int (-1)), (0, .ref h0), (1, .int 2), (2, .int x2), (3, .int x3)]) zx zb dX10_turn_62 hl (by decide) rfl (fun ls hl => ?_)
            refine k_loop (P := ∀ (zm : Nat) (k64 : Nat) (x64_6 : Int32) (x64_5 : Int32) (x64_4 : Int32) (a64_2 : Nat → Int32) (d64_2 : Nat → Int32) (H : Heap) (locs : List Loc) (ls : Array Slot), 31 + 1 ≤ k64 + zm → (k64 ≤ 31) → (x64_6 ≤ 60) → wd X (va_A (@HAppend.hAppend va_W va_W va_W _ (xW h0 nw sp xa la lb) (@HAppend.hAppend va_W va_W va_W _ (rcV X nw an sv dv n0 n1 n2 n3 n4 g0 gs gn gm) (@HAppend.hAppend va_W va_W va_W _ (rnV (xa 8) ag dg) ([((xa 5), .inl (X.2.1, 3, .inl fr))])))) sz) (va_A (@HAppend.hAppend va_W va_W va_W _ (xW h0 nw sp xa la lb) (@HAppend.hAppend va_W va_W va_W _ (rcV X nw an sv dv n0 n1 n2 n3 n4 g0 gs gn gm) (@HAppend.hAppend va_W va_W va_W _ (rnV (xa 8) ag dg) ([((xa 5), .inl (X.2.1, 3, .inl fr))])))) sz) s (@HAppend.hAppend va_W va_W va_W _ (xW h0 nw sp xa la lb) (@HAppend.hAppend va_W va_W va_W _ (rcV X nw an sv dv n0 n1 n2 n3 n4 g0 gs gn gm) (@HAppend.hAppend va_W va_W va_W _ (rnV (xa 8) a64_2 d64_2) ([((xa 5), .inl (X.2.1, 3, .inl fr))])))) H locs → lv_has ls 9 [(7, .int (nI k64)), (6, .int x64_6), (5, .int x64_5), (4, .int x64_4), (0, .ref h0), (1, .int 2), (2, .int x2), (3, .int x3)] → W p l e _ s m _ below meth c H locs _ _ _ (F0 m 64 ls [])) (fun loop => loop (31 + 1) 0 60 (-1) (-1) ag dg _ _ _ (by omega) (by omega) (by first | assumption | decide | exact k_m60 (by assumption)) G hl) ?_
            intro zm
            induction zm with
            | zero => intro k64 x64_6 x64_5 x64_4 a64_2 d64_2 H locs ls zz q_hk_k64 q_hk_x64_6 _ _; exact absurd zz (by omega)
            | succ zm ih64 =>
              intro k64 x64_6 x64_5 x64_4 a64_2 d64_2 H locs ls zm_64 hk_k64 hk_x64_6 G hl
              refine lv_iload zx zb dX10_turn_64 (lv_at hl 0 rfl) ?_
              refine lv_bipush (v := 30) zx zb dX10_turn_66 (by decide) ?_
              refine lv_icmp_gt (tgt := 109) zx zb dX10_turn_68 (by decide) (fun c_29 => ?_) (fun c_29 => ?_)
              · have fc_29 := j_lt (a := 30) (b := k64) (by omega) (by omega) c_29
                refine lv_iload_n zx zb dX10_turn_109 rfl (lv_at hl 7 rfl) ?_
                refine k_cutW (PP := fun Wx => ∀ (x_31 : Int32) (H : Heap) (locs : List Loc) (ls : Array Slot), wd X (va_A (@HAppend.hAppend va_W va_W va_W _ (xW h0 nw sp xa la lb) (@HAppend.hAppend va_W va_W va_W _ (rcV X nw an sv dv n0 n1 n2 n3 n4 g0 gs gn gm) (@HAppend.hAppend va_W va_W va_W _ (rnV (xa 8) ag dg) ([((xa 5), .inl (X.2.1, 3, .inl fr))])))) sz) (va_A (@HAppend.hAppend va_W va_W va_W _ (xW h0 nw sp xa la lb) (@HAppend.hAppend va_W va_W va_W _ (rcV X nw an sv dv n0 n1 n2 n3 n4 g0 gs gn gm) (@HAppend.hAppend va_W va_W va_W _ (rnV (xa 8) ag dg) ([((xa 5), .inl (X.2.1, 3, .inl fr))])))) sz) s (@HAppend.hAppend va_W va_W va_W _ (xW h0 nw sp xa la lb) (@HAppend.hAppend va_W va_W va_W _ (rcV X nw an sv dv n0 n1 n2 n3 n4 g0 gs gn gm) (@HAppend.hAppend va_W va_W va_W _ (rnV (xa 8) a64_2 d64_2) ([((xa 5), .inl (X.2.1, 3, .inl fr))])))) H locs → lv_has ls 9 [(7, .int (nI k64)), (6, .int x64_6), (5, .int x64_5), (4, .int x64_4), (0, .ref h0), (1, .int 2), (2, .int x2), (3, .int x3)] → Wx (F0 m 120 ls [.int x_31]) H locs) ?_ ?_
                · intro join_110
                  refine lv_if_ne (tgt := 118) zx zb dX10_turn_110 (by decide) (fun c_30 => ?_) (fun c_30 => ?_)
                  · refine lv_iload zx zb dX10_turn_118 (lv_at hl 2 rfl) ?_
                    exact join_110 x64_5 _ _ _  G hl
                  · refine lv_iload zx zb dX10_turn_113 (lv_at hl 3 rfl) ?_
                    refine lv_goto (tgt := 120) zx zb dX10_turn_115 (by decide) ?_
                    exact join_110 x64_4 _ _ _  G hl
                · intro x_31 H locs ls  G hl
                  exact e_int S zr zlk (vp_nar_int _) G (a64_2, d64_2, fr) [0, 1, 2, 3, 4, 5, 6, 7, 8, 9, 10, 11, 12, 13, 14, 15, 16, 17, 18] rfl rfl (Or.inr rfl) (trivial) dX10_turn_120
              · have fc_29 := j_nlt (a := 30) (b := k64) (by omega) (by omega) c_29
                refine lv_aload_n zx zb dX10_turn_71 rfl (lv_at hl 4 rfl) ?_
                refine lv_iload_n zx zb dX10_turn_72 rfl (lv_at hl 5 rfl) ?_
                refine lv_iload_n zx zb dX10_turn_73 rfl (lv_at hl 6 rfl) ?_
                refine lv_iload zx zb dX10_turn_74 (lv_at hl 0 rfl) ?_
                refine lv_iload zx zb dX10_turn_76 (lv_at hl 1 rfl) ?_
                refine b_wi (cells' := 0) (slots' := 0) (wr := [((xa 5), .inl (X.2.1, 3, .inl fr))]) G rfl rfl [0, 1, 2, 3, 4, 5, 6, 7, 8, 9, 10, 11, 12, 13, 14, 15, 16, 17] [18] rfl rfl rfl rfl (n_V (As := [.int 2, .int x2, .int (nI k64), .int x64_6]) (rest := []) (C := RX10) (T := TX10) (N := 14) (ci := 8) S G (s_homeTurning l X h0 nw sp xa la lb an sv dv n0 n1 n2 n3 n4 g0 gs gn gm a64_2 d64_2 2 x2 k64 x64_6 hI_n0 hI_n1 hI_n2 hI_n3 hI_n4 (by omega) (by omega) (by first | decide | assumption | exact k_60a (by assumption)) H.size) gX10_turn_X10_homeTurning rfl rfl rfl hdV_X10_homeTurning ⟨Nat.le_of_ble_eq_true rfl, Nat.le_of_ble_eq_true rfl⟩ [0, 1, 2, 3, 4, 5, 6, 7, 8, 9, 10, 11, 12, 13, 14, 15, 16, 17] rfl rfl 0 rfl rfl rfl hl.1 (Nat.le_of_ble_eq_true rfl) dX10_turn_78 ⟨Nat.le_of_ble_eq_true rfl, Nat.le_of_ble_eq_true rfl⟩) (fun r_32 u_32 H locs hp_32 G => ?_)
                obtain ⟨a_32a, d_32b⟩ := u_32
                have hq_32 := hp_32
                have G : wd X (va_A (@HAppend.hAppend va_W va_W va_W _ (xW h0 nw sp xa la lb) (@HAppend.hAppend va_W va_W va_W _ (rcV X nw an sv dv n0 n1 n2 n3 n4 g0 gs gn gm) (@HAppend.hAppend va_W va_W va_W _ (rnV (xa 8) ag dg) ([((xa 5), .inl (X.2.1, 3, .inl fr))])))) sz) (va_A (@HAppend.hAppend va_W va_W va_W _ (xW h0 nw sp xa la lb) (@HAppend.hAppend va_W va_W va_W _ (rcV X nw an sv dv n0 n1 n2 n3 n4 g0 gs gn gm) (@HAppend.hAppend va_W va_W va_W _ (rnV (xa 8) ag dg) ([((xa 5), .inl (X.2.1, 3, .inl fr))])))) sz) s (@HAppend.hAppend va_W va_W va_W _ ([((xa 5), .inl (X.2.1, 3, .inl fr))]) (@HAppend.hAppend va_W va_W va_W _ (xW h0 nw sp xa la lb) (@HAppend.hAppend va_W va_W va_W _ (rcV X nw an sv dv n0 n1 n2 n3 n4 g0 gs gn gm) (rnV (xa 8) a_32a d_32b)))) H locs := G
                refine lv_istore (lv' := [(8, .int r_32), (7, .int (nI k64)), (6, .int x64_6), (5, .int x64_5), (4, .int x64_4), (0, .ref h0), (1, .int 2), (2, .int x2), (3, .int x3)]) zx zb dX10_turn_81 hl (by decide) rfl (fun ls hl => ?_)
                refine lv_iload zx zb dX10_turn_83 (lv_at hl 0 rfl) ?_
                refine lv_iconst (v := (-1)) zx zb dX10_turn_85 (by decide) ?_
                refine k_cutW (PP := fun Wx => ∀ (x_34 : Int32) (x_35 : Int32) (x_36 : Int32) (H : Heap) (locs : List Loc) (ls : Array Slot), (x_34 ≤ 60) → wd X (va_A (@HAppend.hAppend va_W va_W va_W _ (xW h0 nw sp xa la lb) (@HAppend.hAppend va_W va_W va_W _ (rcV X nw an sv dv n0 n1 n2 n3 n4 g0 gs gn gm) (@HAppend.hAppend va_W va_W va_W _ (rnV (xa 8) ag dg) ([((xa 5), .inl (X.2.1, 3, .inl fr))])))) sz) (va_A (@HAppend.hAppend va_W va_W va_W _ (xW h0 nw sp xa la lb) (@HAppend.hAppend va_W va_W va_W _ (rcV X nw an sv dv n0 n1 n2 n3 n4 g0 gs gn gm) (@HAppend.hAppend va_W va_W va_W _ (rnV (xa 8) ag dg) ([((xa 5), .inl (X.2.1, 3, .inl fr))])))) sz) s (@HAppend.hAppend va_W va_W va_W _ ([((xa 5), .inl (X.2.1, 3, .inl fr))]) (@HAppend.hAppend va_W va_W va_W _ (xW h0 nw sp xa la lb) (@HAppend.hAppend va_W va_W va_W _ (rcV X nw an sv dv n0 n1 n2 n3 n4 g0 gs gn gm) (rnV (xa 8) a_32a d_32b)))) H locs → lv_has ls 9 [(8, .int r_32), (7, .int (nI k64)), (6, .int x_34), (5, .int x_35), (4, .int x_36), (0, .ref h0), (1, .int 2), (2, .int x2), (3, .int x3)] → Wx (F0 m 103 ls []) H locs) ?_ ?_
                · intro join_86
                  refine lv_icmp_eq (tgt := 103) zx zb dX10_turn_86 (by decide) (fun c_33 => ?_) (fun c_33 => ?_)
                  · exact join_86 x64_6 x64_5 x64_4 _ _ _ (by first | assumption | decide | exact k_m60 (by assumption)) G hl
                  · refine lv_iload zx zb dX10_turn_89 (lv_at hl 1 rfl) ?_
                    refine lv_istore (lv' := [(4, .int (nI k64)), (8, .int r_32), (7, .int (nI k64)), (6, .int x64_6), (5, .int x64_5), (0, .ref h0), (1, .int 2), (2, .int x2), (3, .int x3)]) zx zb dX10_turn_91 hl (by decide) rfl (fun ls hl => ?_)
                    refine lv_iload zx zb dX10_turn_93 (lv_at hl 1 rfl) ?_
                    refine lv_istore (lv' := [(5, .int r_32), (4, .int (nI k64)), (8, .int r_32), (7, .int (nI k64)), (6, .int x64_6), (0, .ref h0), (1, .int 2), (2, .int x2), (3, .int x3)]) zx zb dX10_turn_95 hl (by decide) rfl (fun ls hl => ?_)
                    refine lv_iload zx zb dX10_turn_97 (lv_at hl 2 rfl) ?_
                    refine lv_iconst (v := 1) zx zb dX10_turn_99 (by decide) ?_
                    refine r_isub (v := (r_32 - 1)) S rfl dX10_turn_100 ?_
                    refine lv_istore (lv' := [(6, .int (r_32 - 1)), (5, .int r_32), (4, .int (nI k64)), (8, .int r_32), (7, .int (nI k64)), (0, .ref h0), (1, .int 2), (2, .int x2), (3, .int x3)]) zx zb dX10_turn_101 hl (by decide) rfl (fun ls hl => ?_)
                    have hl := lv_sub hl (l' := [(8, .int r_32), (7, .int (nI k64)), (6, .int (r_32 - 1)), (5, .int r_32), (4, .int (nI k64)), (0, .ref h0), (1, .int 2), (2, .int x2), (3, .int x3)]) [3, 4, 0, 1, 2, 5, 6, 7, 8] rfl
                    exact join_86 (r_32 - 1) r_32 (nI k64) _ _ _ (by first | assumption | decide | exact k_m60 (by assumption)) G hl
                · intro x_34 x_35 x_36 H locs ls hk_x_34 G hl
                  refine lv_iinc (v := (nI (k64 + 1))) (lv' := [(7, .int (nI (k64 + 1))), (8, .int r_32), (6, .int x_34), (5, .int x_35), (4, .int x_36), (0, .ref h0), (1, .int 2), (2, .int x2), (3, .int x3)]) zx zb dX10_turn_103 hl (k := 1) rfl (nI_add k64 1) (by decide) rfl (fun ls hl => ?_)
                  refine lv_goto (tgt := 64) zx zb dX10_turn_106 (by decide) ?_
                  have G : wd X (va_A (@HAppend.hAppend va_W va_W va_W _ (xW h0 nw sp xa la lb) (@HAppend.hAppend va_W va_W va_W _ (rcV X nw an sv dv n0 n1 n2 n3 n4 g0 gs gn gm) (@HAppend.hAppend va_W va_W va_W _ (rnV (xa 8) ag dg) ([((xa 5), .inl (X.2.1, 3, .inl fr))])))) sz) (va_A (@HAppend.hAppend va_W va_W va_W _ (xW h0 nw sp xa la lb) (@HAppend.hAppend va_W va_W va_W _ (rcV X nw an sv dv n0 n1 n2 n3 n4 g0 gs gn gm) (@HAppend.hAppend va_W va_W va_W _ (rnV (xa 8) ag dg) ([((xa 5), .inl (X.2.1, 3, .inl fr))])))) sz) s (@HAppend.hAppend va_W va_W va_W _ (xW h0 nw sp xa la lb) (@HAppend.hAppend va_W va_W va_W _ (rcV X nw an sv dv n0 n1 n2 n3 n4 g0 gs gn gm) (@HAppend.hAppend va_W va_W va_W _ (rnV (xa 8) a_32a d_32b) ([((xa 5), .inl (X.2.1, 3, .inl fr))])))) H locs := wd_sub G [1, 2, 3, 4, 5, 6, 7, 8, 9, 10, 11, 12, 13, 14, 15, 16, 17, 18, 0] rfl rfl
                  have hl := lv_sub hl (l' := [(7, .int (nI (k64 + 1))), (6, .int x_34), (5, .int x_35), (4, .int x_36), (0, .ref h0), (1, .int 2), (2, .int x2), (3, .int x3)]) [0, 2, 3, 4, 5, 6, 7, 8] rfl
                  exact ih64 (k64 + 1) x_34 x_35 x_36 a_32a d_32b _ _ _ (by omega) (by omega) (by first | assumption | decide | exact k_m60 (by assumption)) G hl
          · refine lv_iconst (v := (-1)) zx zb dX10_turn_49 (by decide) ?_
            exact e_int S zr zlk (vp_nar_int _) G (ag, dg, fr) [0, 1, 2, 3, 4, 5, 6, 7, 8, 9, 10, 11, 12, 13, 14, 15, 16, 17, 18] rfl rfl (Or.inr rfl) (trivial) dX10_turn_50
        · refine k_it (v := 3) rfl ?_
          refine r_aald (C := RX8) (b := (an 4)) S G 2 3 rfl rfl (k_vp (by decide)) rfl dX10_turn_42 ?_
          refine o_ri (cells' := 0) (slots' := 0) G rfl rfl (n_V (As := []) (rest := []) (C := RX8) (T := TX8) (N := 8) (ci := 6) S G (s_isHome l X (an 4) (fun k => sv (9 + k)) (fun k => dv (25 + k)) H.size) gX10_turn_X8_isHome rfl rfl rfl hdV_X8_isHome ⟨Nat.le_of_ble_eq_true rfl, Nat.le_of_ble_eq_true rfl⟩ [6] rfl rfl 6 rfl rfl rfl hl.1 (Nat.le_of_ble_eq_true rfl) dX10_turn_43 ⟨Nat.le_of_ble_eq_true rfl, Nat.le_of_ble_eq_true rfl⟩) (fun r_37 u_37 H locs hp_37 G => ?_)
          have G : wd X (va_A (@HAppend.hAppend va_W va_W va_W _ (xW h0 nw sp xa la lb) (@HAppend.hAppend va_W va_W va_W _ (rcV X nw an sv dv n0 n1 n2 n3 n4 g0 gs gn gm) (@HAppend.hAppend va_W va_W va_W _ (rnV (xa 8) ag dg) ([((xa 5), .inl (X.2.1, 3, .inl fr))])))) sz) (va_A (@HAppend.hAppend va_W va_W va_W _ (xW h0 nw sp xa la lb) (@HAppend.hAppend va_W va_W va_W _ (rcV X nw an sv dv n0 n1 n2 n3 n4 g0 gs gn gm) (@HAppend.hAppend va_W va_W va_W _ (rnV (xa 8) ag dg) ([((xa 5), .inl (X.2.1, 3, .inl fr))])))) sz) s (@HAppend.hAppend va_W va_W va_W _ (xW h0 nw sp xa la lb) (@HAppend.hAppend va_W va_W va_W _ (rcV X nw an sv dv n0 n1 n2 n3 n4 g0 gs gn gm) (@HAppend.hAppend va_W va_W va_W _ (rnV (xa 8) ag dg) ([((xa 5), .inl (X.2.1, 3, .inl fr))])))) H locs := G
          refine lv_if_eq (tgt := 51) zx zb dX10_turn_46 (by decide) (fun c_38 => ?_) (fun c_38 => ?_)
          · refine lv_iconst (v := (-1)) zx zb dX10_turn_51 (by decide) ?_
            refine lv_istore (lv' := [(4, .int (-1)), (0, .ref h0), (1, .int 3), (2, .int x2), (3, .int x3)]) zx zb dX10_turn_52 hl (by decide) rfl (fun ls hl => ?_)
            refine lv_iconst (v := (-1)) zx zb dX10_turn_54 (by decide) ?_
            refine lv_istore (lv' := [(5, .int (-1)), (4, .int (-1)), (0, .ref h0), (1, .int 3), (2, .int x2), (3, .int x3)]) zx zb dX10_turn_55 hl (by decide) rfl (fun ls hl => ?_)
            refine lv_bipush (v := 60) zx zb dX10_turn_57 (by decide) ?_
            refine lv_istore (lv' := [(6, .int 60), (5, .int (-1)), (4, .int (-1)), (0, .ref h0), (1, .int 3), (2, .int x2), (3, .int x3)]) zx zb dX10_turn_59 hl (by decide) rfl (fun ls hl => ?_)
            refine lv_iconst (v := 0) zx zb dX10_turn_61 (by decide) ?_
            refine lv_istore (lv' := [(7, .int 0), (6, .int 60), (5, .int (-1)), (4, .int (-1)), (0, .ref h0), (1, .int 3), (2, .int x2), (3, .int x3)]) zx zb dX10_turn_62 hl (by decide) rfl (fun ls hl => ?_)
            refine k_loop (P := ∀ (zm : Nat) (k64 : Nat) (x64_6 : Int32) (x64_5 : Int32) (x64_4 : Int32) (a64_2 : Nat → Int32) (d64_2 : Nat → Int32) (H : Heap) (locs : List Loc) (ls : Array Slot), 31 + 1 ≤ k64 + zm → (k64 ≤ 31) → (x64_6 ≤ 60) → wd X (va_A (@HAppend.hAppend va_W va_W va_W _ (xW h0 nw sp xa la lb) (@HAppend.hAppend va_W va_W va_W _ (rcV X nw an sv dv n0 n1 n2 n3 n4 g0 gs gn gm) (@HAppend.hAppend va_W va_W va_W _ (rnV (xa 8) ag dg) ([((xa 5), .inl (X.2.1, 3, .inl fr))])))) sz) (va_A (@HAppend.hAppend va_W va_W va_W _ (xW h0 nw sp xa la lb) (@HAppend.hAppend va_W va_W va_W _ (rcV X nw an sv dv n0 n1 n2 n3 n4 g0 gs gn gm) (@HAppend.hAppend va_W va_W va_W _ (rnV (xa 8) ag dg) ([((xa 5), .inl (X.2.1, 3, .inl fr))])))) sz) s (@HAppend.hAppend va_W va_W va_W _ (xW h0 nw sp xa la lb) (@HAppend.hAppend va_W va_W va_W _ (rcV X nw an sv dv n0 n1 n2 n3 n4 g0 gs gn gm) (@HAppend.hAppend va_W va_W va_W _ (rnV (xa 8) a64_2 d64_2) ([((xa 5), .inl (X.2.1, 3, .inl fr))])))) H locs → lv_has ls 9 [(7, .int (nI k64)), (6, .int x64_6), (5, .int x64_5), (4, .int x64_4), (0, .ref h0), (1, .int 3), (2, .int x2), (3, .int x3)] → W p l e _ s m _ below meth c H locs _ _ _ (F0 m 64 ls [])) (fun loop => loop (31 + 1) 0 60 (-1) (-1) ag dg _ _ _ (by omega) (by omega) (by first | assumption | decide | exact k_m60 (by assumption)) G hl) ?_
            intro zm
            induction zm with
            | zero => intro k64 x64_6 x64_5 x64_4 a64_2 d64_2 H locs ls zz q_hk_k64 q_hk_x64_6 _ _; exact absurd zz (by omega)
            | succ zm ih64 =>
              intro k64 x64_6 x64_5 x64_4 a64_2 d64_2 H locs ls zm_64 hk_k64 hk_x64_6 G hl
              refine lv_iload zx zb dX10_turn_64 (lv_at hl 0 rfl) ?_
              refine lv_bipush (v := 30) zx zb dX10_turn_66 (by decide) ?_
              refine lv_icmp_gt (tgt := 109) zx zb dX10_turn_68 (by decide) (fun c_39 => ?_) (fun c_39 => ?_)
              · have fc_39 := j_lt (a := 30) (b := k64) (by omega) (by omega) c_39
                refine lv_iload_n zx zb dX10_turn_109 rfl (lv_at hl 7 rfl) ?_
                refine k_cutW (PP := fun Wx => ∀ (x_41 : Int32) (H : Heap) (locs : List Loc) (ls : Array Slot), wd X (va_A (@HAppend.hAppend va_W va_W va_W _ (xW h0 nw sp xa la lb) (@HAppend.hAppend va_W va_W va_W _ (rcV X nw an sv dv n0 n1 n2 n3 n4 g0 gs gn gm) (@HAppend.hAppend va_W va_W va_W _ (rnV (xa 8) ag dg) ([((xa 5), .inl (X.2.1, 3, .inl fr))])))) sz) (va_A (@HAppend.hAppend va_W va_W va_W _ (xW h0 nw sp xa la lb) (@HAppend.hAppend va_W va_W va_W _ (rcV X nw an sv dv n0 n1 n2 n3 n4 g0 gs gn gm) (@HAppend.hAppend va_W va_W va_W _ (rnV (xa 8) ag dg) ([((xa 5), .inl (X.2.1, 3, .inl fr))])))) sz) s (@HAppend.hAppend va_W va_W va_W _ (xW h0 nw sp xa la lb) (@HAppend.hAppend va_W va_W va_W _ (rcV X nw an sv dv n0 n1 n2 n3 n4 g0 gs gn gm) (@HAppend.hAppend va_W va_W va_W _ (rnV (xa 8) a64_2 d64_2) ([((xa 5), .inl (X.2.1, 3, .inl fr))])))) H locs → lv_has ls 9 [(7, .int (nI k64)), (6, .int x64_6), (5, .int x64_5), (4, .int x64_4), (0, .ref h0), (1, .int 3), (2, .int x2), (3, .int x3)] → Wx (F0 m 120 ls [.int x_41]) H locs) ?_ ?_
                · intro join_110
                  refine lv_if_ne (tgt := 118) zx zb dX10_turn_110 (by decide) (fun c_40 => ?_) (fun c_40 => ?_)
                  · refine lv_iload zx zb dX10_turn_118 (lv_at hl 2 rfl) ?_
                    exact join_110 x64_5 _ _ _  G hl
                  · refine lv_iload zx zb dX10_turn_113 (lv_at hl 3 rfl) ?_
                    refine lv_goto (tgt := 120) zx zb dX10_turn_115 (by decide) ?_
                    exact join_110 x64_4 _ _ _  G hl
                · intro x_41 H locs ls  G hl
                  exact e_int S zr zlk (vp_nar_int _) G (a64_2, d64_2, fr) [0, 1, 2, 3, 4, 5, 6, 7, 8, 9, 10, 11, 12, 13, 14, 15, 16, 17, 18] rfl rfl (Or.inr rfl) (trivial) dX10_turn_120
              · have fc_39 := j_nlt (a := 30) (b := k64) (by omega) (by omega) c_39
                refine lv_aload_n zx zb dX10_turn_71 rfl (lv_at hl 4 rfl) ?_
                refine lv_iload_n zx zb dX10_turn_72 rfl (lv_at hl 5 rfl) ?_
                refine lv_iload_n zx zb dX10_turn_73 rfl (lv_at hl 6 rfl) ?_
                refine lv_iload zx zb dX10_turn_74 (lv_at hl 0 rfl) ?_
                refine lv_iload zx zb dX10_turn_76 (lv_at hl 1 rfl) ?_
                refine b_wi (cells' := 0) (slots' := 0) (wr := [((xa 5), .inl (X.2.1, 3, .inl fr))]) G rfl rfl [0, 1, 2, 3, 4, 5, 6, 7, 8, 9, 10, 11, 12, 13, 14, 15, 16, 17] [18] rfl rfl rfl rfl (n_V (As := [.int 3, .int x2, .int (nI k64), .int x64_6]) (rest := []) (C := RX10) (T := TX10) (N := 14) (ci := 8) S G (s_homeTurning l X h0 nw sp xa la lb an sv dv n0 n1 n2 n3 n4 g0 gs gn gm a64_2 d64_2 3 x2 k64 x64_6 hI_n0 hI_n1 hI_n2 hI_n3 hI_n4 (by omega) (by omega) (by first | decide | assumption | exact k_60a (by assumption)) H.size) gX10_turn_X10_homeTurning rfl rfl rfl hdV_X10_homeTurning ⟨Nat.le_of_ble_eq_true rfl, Nat.le_of_ble_eq_true rfl⟩ [0, 1, 2, 3, 4, 5, 6, 7, 8, 9, 10, 11, 12, 13, 14, 15, 16, 17] rfl rfl 0 rfl rfl rfl hl.1 (Nat.le_of_ble_eq_true rfl) dX10_turn_78 ⟨Nat.le_of_ble_eq_true rfl, Nat.le_of_ble_eq_true rfl⟩) (fun r_42 u_42 H locs hp_42 G => ?_)
                obtain ⟨a_42a, d_42b⟩ := u_42
                have hq_42 := hp_42
                have G : wd X (va_A (@HAppend.hAppend va_W va_W va_W _ (xW h0 nw sp xa la lb) (@HAppend.hAppend va_W va_W va_W _ (rcV X nw an sv dv n0 n1 n2 n3 n4 g0 gs gn gm) (@HAppend.hAppend va_W va_W va_W _ (rnV (xa 8) ag dg) ([((xa 5), .inl (X.2.1, 3, .inl fr))])))) sz) (va_A (@HAppend.hAppend va_W va_W va_W _ (xW h0 nw sp xa la lb) (@HAppend.hAppend va_W va_W va_W _ (rcV X nw an sv dv n0 n1 n2 n3 n4 g0 gs gn gm) (@HAppend.hAppend va_W va_W va_W _ (rnV (xa 8) ag dg) ([((xa 5), .inl (X.2.1, 3, .inl fr))])))) sz) s (@HAppend.hAppend va_W va_W va_W _ ([((xa 5), .inl (X.2.1, 3, .inl fr))]) (@HAppend.hAppend va_W va_W va_W _ (xW h0 nw sp xa la lb) (@HAppend.hAppend va_W va_W va_W _ (rcV X nw an sv dv n0 n1 n2 n3 n4 g0 gs gn gm) (rnV (xa 8) a_42a d_42b)))) H locs := G
                refine lv_istore (lv' := [(8, .int r_42), (7, .int (nI k64)), (6, .int x64_6), (5, .int x64_5), (4, .int x64_4), (0, .ref h0), (1, .int 3), (2, .int x2), (3, .int x3)]) zx zb dX10_turn_81 hl (by decide) rfl (fun ls hl => ?_)
                refine lv_iload zx zb dX10_turn_83 (lv_at hl 0 rfl) ?_
                refine lv_iconst (v := (-1)) zx zb dX10_turn_85 (by decide) ?_
                refine k_cutW (PP := fun Wx => ∀ (x_44 : Int32) (x_45 : Int32) (x_46 : Int32) (H : Heap) (locs : List Loc) (ls : Array Slot), (x_44 ≤ 60) → wd X (va_A (@HAppend.hAppend va_W va_W va_W _ (xW h0 nw sp xa la lb) (@HAppend.hAppend va_W va_W va_W _ (rcV X nw an sv dv n0 n1 n2 n3 n4 g0 gs gn gm) (@HAppend.hAppend va_W va_W va_W _ (rnV (xa 8) ag dg) ([((xa 5), .inl (X.2.1, 3, .inl fr))])))) sz) (va_A (@HAppend.hAppend va_W va_W va_W _ (xW h0 nw sp xa la lb) (@HAppend.hAppend va_W va_W va_W _ (rcV X nw an sv dv n0 n1 n2 n3 n4 g0 gs gn gm) (@HAppend.hAppend va_W va_W va_W _ (rnV (xa 8) ag dg) ([((xa 5), .inl (X.2.1, 3, .inl fr))])))) sz) s (@HAppend.hAppend va_W va_W va_W _ ([((xa 5), .inl (X.2.1, 3, .inl fr))]) (@HAppend.hAppend va_W va_W va_W _ (xW h0 nw sp xa la lb) (@HAppend.hAppend va_W va_W va_W _ (rcV X nw an sv dv n0 n1 n2 n3 n4 g0 gs gn gm) (rnV (xa 8) a_42a d_42b)))) H locs → lv_has ls 9 [(8, .int r_42), (7, .int (nI k64)), (6, .int x_44), (5, .int x_45), (4, .int x_46), (0, .ref h0), (1, .int 3), (2, .int x2), (3, .int x3)] → Wx (F0 m 103 ls []) H locs) ?_ ?_
                · intro join_86
                  refine lv_icmp_eq (tgt := 103) zx zb dX10_turn_86 (by decide) (fun c_43 => ?_) (fun c_43 => ?_)
                  · exact join_86 x64_6 x64_5 x64_4 _ _ _ (by first | assumption | decide | exact k_m60 (by assumption)) G hl
                  · refine lv_iload zx zb dX10_turn_89 (lv_at hl 1 rfl) ?_
                    refine lv_istore (lv' := [(4, .int (nI k64)), (8, .int r_42), (7, .int (nI k64)), (6, .int x64_6), (5, .int x64_5), (0, .ref h0), (1, .int 3), (2, .int x2), (3, .int x3)]) zx zb dX10_turn_91 hl (by decide) rfl (fun ls hl => ?_)
                    refine lv_iload zx zb dX10_turn_93 (lv_at hl 1 rfl) ?_
                    refine lv_istore (lv' := [(5, .int r_42), (4, .int (nI k64)), (8, .int r_42), (7, .int (nI k64)), (6, .int x64_6), (0, .ref h0), (1, .int 3), (2, .int x2), (3, .int x3)]) zx zb dX10_turn_95 hl (by decide) rfl (fun ls hl => ?_)
                    refine lv_iload zx zb dX10_turn_97 (lv_at hl 2 rfl) ?_
                    refine lv_iconst (v := 1) zx zb dX10_turn_99 (by decide) ?_
                    refine r_isub (v := (r_42 - 1)) S rfl dX10_turn_100 ?_
                    refine lv_istore (lv' := [(6, .int (r_42 - 1)), (5, .int r_42), (4, .int (nI k64)), (8, .int r_42), (7, .int (nI k64)), (0, .ref h0), (1, .int 3), (2, .int x2), (3, .int x3)]) zx zb dX10_turn_101 hl (by decide) rfl (fun ls hl => ?_)
                    have hl := lv_sub hl (l' := [(8, .int r_42), (7, .int (nI k64)), (6, .int (r_42 - 1)), (5, .int r_42), (4, .int (nI k64)), (0, .ref h0), (1, .int 3), (2, .int x2), (3, .int x3)]) [3, 4, 0, 1, 2, 5, 6, 7, 8] rfl
                    exact join_86 (r_42 - 1) r_42 (nI k64) _ _ _ (by first | assumption | decide | exact k_m60 (by assumption)) G hl
                · intro x_44 x_45 x_46 H locs ls hk_x_44 G hl
                  refine lv_iinc (v := (nI (k64 + 1))) (lv' := [(7, .int (nI (k64 + 1))), (8, .int r_42), (6, .int x_44), (5, .int x_45), (4, .int x_46), (0, .ref h0), (1, .int 3), (2, .int x2), (3, .int x3)]) zx zb dX10_turn_103 hl (k := 1) rfl (nI_add k64 1) (by decide) rfl (fun ls hl => ?_)
                  refine lv_goto (tgt := 64) zx zb dX10_turn_106 (by decide) ?_
                  have G : wd X (va_A (@HAppend.hAppend va_W va_W va_W _ (xW h0 nw sp xa la lb) (@HAppend.hAppend va_W va_W va_W _ (rcV X nw an sv dv n0 n1 n2 n3 n4 g0 gs gn gm) (@HAppend.hAppend va_W va_W va_W _ (rnV (xa 8) ag dg) ([((xa 5), .inl (X.2.1, 3, .inl fr))])))) sz) (va_A (@HAppend.hAppend va_W va_W va_W _ (xW h0 nw sp xa la lb) (@HAppend.hAppend va_W va_W va_W _ (rcV X nw an sv dv n0 n1 n2 n3 n4 g0 gs gn gm) (@HAppend.hAppend va_W va_W va_W _ (rnV (xa 8) ag dg) ([((xa 5), .inl (X.2.1, 3, .inl fr))])))) sz) s (@HAppend.hAppend va_W va_W va_W _ (xW h0 nw sp xa la lb) (@HAppend.hAppend va_W va_W va_W _ (rcV X nw an sv dv n0 n1 n2 n3 n4 g0 gs gn gm) (@HAppend.hAppend va_W va_W va_W _ (rnV (xa 8) a_42a d_42b) ([((xa 5), .inl (X.2.1, 3, .inl fr))])))) H locs := wd_sub G [1, 2, 3, 4, 5, 6, 7, 8, 9, 10, 11, 12, 13, 14, 15, 16, 17, 18, 0] rfl rfl
                  have hl := lv_sub hl (l' := [(7, .int (nI (k64 + 1))), (6, .int x_44), (5, .int x_45), (4, .int x_46), (0, .ref h0), (1, .int 3), (2, .int x2), (3, .int x3)]) [0, 2, 3, 4, 5, 6, 7, 8] rfl
                  exact ih64 (k64 + 1) x_44 x_45 x_46 a_42a d_42b _ _ _ (by omega) (by omega) (by first | assumption | decide | exact k_m60 (by assumption)) G hl
          · refine lv_iconst (v := (-1)) zx zb dX10_turn_49 (by decide) ?_
            exact e_int S zr zlk (vp_nar_int _) G (ag, dg, fr) [0, 1, 2, 3, 4, 5, 6, 7, 8, 9, 10, 11, 12, 13, 14, 15, 16, 17, 18] rfl rfl (Or.inr rfl) (trivial) dX10_turn_50
        · refine k_it (v := 4) rfl ?_
          refine r_aald (C := RX8) (b := (an 5)) S G 2 3 rfl rfl (k_vp (by decide)) rfl dX10_turn_42 ?_
          refine o_ri (cells' := 0) (slots' := 0) G rfl rfl (n_V (As := []) (rest := []) (C := RX8) (T := TX8) (N := 8) (ci := 6) S G (s_isHome l X (an 5) (fun k => sv (12 + k)) (fun k => dv (30 + k)) H.size) gX10_turn_X8_isHome rfl rfl rfl hdV_X8_isHome ⟨Nat.le_of_ble_eq_true rfl, Nat.le_of_ble_eq_true rfl⟩ [7] rfl rfl 7 rfl rfl rfl hl.1 (Nat.le_of_ble_eq_true rfl) dX10_turn_43 ⟨Nat.le_of_ble_eq_true rfl, Nat.le_of_ble_eq_true rfl⟩) (fun r_47 u_47 H locs hp_47 G => ?_)
          have G : wd X (va_A (@HAppend.hAppend va_W va_W va_W _ (xW h0 nw sp xa la lb) (@HAppend.hAppend va_W va_W va_W _ (rcV X nw an sv dv n0 n1 n2 n3 n4 g0 gs gn gm) (@HAppend.hAppend va_W va_W va_W _ (rnV (xa 8) ag dg) ([((xa 5), .inl (X.2.1, 3, .inl fr))])))) sz) (va_A (@HAppend.hAppend va_W va_W va_W _ (xW h0 nw sp xa la lb) (@HAppend.hAppend va_W va_W va_W _ (rcV X nw an sv dv n0 n1 n2 n3 n4 g0 gs gn gm) (@HAppend.hAppend va_W va_W va_W _ (rnV (xa 8) ag dg) ([((xa 5), .inl (X.2.1, 3, .inl fr))])))) sz) s (@HAppend.hAppend va_W va_W va_W _ (xW h0 nw sp xa la lb) (@HAppend.hAppend va_W va_W va_W _ (rcV X nw an sv dv n0 n1 n2 n3 n4 g0 gs gn gm) (@HAppend.hAppend va_W va_W va_W _ (rnV (xa 8) ag dg) ([((xa 5), .inl (X.2.1, 3, .inl fr))])))) H locs := G
          refine lv_if_eq (tgt := 51) zx zb dX10_turn_46 (by decide) (fun c_48 => ?_) (fun c_48 => ?_)
          · refine lv_iconst (v := (-1)) zx zb dX10_turn_51 (by decide) ?_
            refine lv_istore (lv' := [(4, .int (-1)), (0, .ref h0), (1, .int 4), (2, .int x2), (3, .int x3)]) zx zb dX10_turn_52 hl (by decide) rfl (fun ls hl => ?_)
            refine lv_iconst (v := (-1)) zx zb dX10_turn_54 (by decide) ?_
            refine lv_istore (lv' := [(5, .int (-1)), (4, .int (-1)), (0, .ref h0), (1, .int 4), (2, .int x2), (3, .int x3)]) zx zb dX10_turn_55 hl (by decide) rfl (fun ls hl => ?_)
            refine lv_bipush (v := 60) zx zb dX10_turn_57 (by decide) ?_
            refine lv_istore (lv' := [(6, .int 60), (5, .int (-1)), (4, .int (-1)), (0, .ref h0), (1, .int 4), (2, .int x2), (3, .int x3)]) zx zb dX10_turn_59 hl (by decide) rfl (fun ls hl => ?_)
            refine lv_iconst (v := 0) zx zb dX10_turn_61 (by decide) ?_
            refine lv_istore (lv' := [(7, .int 0), (6, .int 60), (5, .int (-1)), (4, .int (-1)), (0, .ref h0), (1, .int 4), (2, .int x2), (3, .int x3)]) zx zb dX10_turn_62 hl (by decide) rfl (fun ls hl => ?_)
            refine k_loop (P := ∀ (zm : Nat) (k64 : Nat) (x64_6 : Int32) (x64_5 : Int32) (x64_4 : Int32) (a64_2 : Nat → Int32) (d64_2 : Nat → Int32) (H : Heap) (locs : List Loc) (ls : Array Slot), 31 + 1 ≤ k64 + zm → (k64 ≤ 31) → (x64_6 ≤ 60) → wd X (va_A (@HAppend.hAppend va_W va_W va_W _ (xW h0 nw sp xa la lb) (@HAppend.hAppend va_W va_W va_W _ (rcV X nw an sv dv n0 n1 n2 n3 n4 g0 gs gn gm) (@HAppend.hAppend va_W va_W va_W _ (rnV (xa 8) ag dg) ([((xa 5), .inl (X.2.1, 3, .inl fr))])))) sz) (va_A (@HAppend.hAppend va_W va_W va_W _ (xW h0 nw sp xa la lb) (@HAppend.hAppend va_W va_W va_W _ (rcV X nw an sv dv n0 n1 n2 n3 n4 g0 gs gn gm) (@HAppend.hAppend va_W va_W va_W _ (rnV (xa 8) ag dg) ([((xa 5), .inl (X.2.1, 3, .inl fr))])))) sz) s (@HAppend.hAppend va_W va_W va_W _ (xW h0 nw sp xa la lb) (@HAppend.hAppend va_W va_W va_W _ (rcV X nw an sv dv n0 n1 n2 n3 n4 g0 gs gn gm) (@HAppend.hAppend va_W va_W va_W _ (rnV (xa 8) a64_2 d64_2) ([((xa 5), .inl (X.2.1, 3, .inl fr))])))) H locs → lv_has ls 9 [(7, .int (nI k64)), (6, .int x64_6), (5, .int x64_5), (4, .int x64_4), (0, .ref h0), (1, .int 4), (2, .int x2), (3, .int x3)] → W p l e _ s m _ below meth c H locs _ _ _ (F0 m 64 ls [])) (fun loop => loop (31 + 1) 0 60 (-1) (-1) ag dg _ _ _ (by omega) (by omega) (by first | assumption | decide | exact k_m60 (by assumption)) G hl) ?_
            intro zm
            induction zm with
            | zero => intro k64 x64_6 x64_5 x64_4 a64_2 d64_2 H locs ls zz q_hk_k64 q_hk_x64_6 _ _; exact absurd zz (by omega)
            | succ zm ih64 =>
              intro k64 x64_6 x64_5 x64_4 a64_2 d64_2 H locs ls zm_64 hk_k64 hk_x64_6 G hl
              refine lv_iload zx zb dX10_turn_64 (lv_at hl 0 rfl) ?_
              refine lv_bipush (v := 30) zx zb dX10_turn_66 (by decide) ?_
              refine lv_icmp_gt (tgt := 109) zx zb dX10_turn_68 (by decide) (fun c_49 => ?_) (fun c_49 => ?_)
              · have fc_49 := j_lt (a := 30) (b := k64) (by omega) (by omega) c_49
                refine lv_iload_n zx zb dX10_turn_109 rfl (lv_at hl 7 rfl) ?_
                refine k_cutW (PP := fun Wx => ∀ (x_51 : Int32) (H : Heap) (locs : List Loc) (ls : Array Slot), wd X (va_A (@HAppend.hAppend va_W va_W va_W _ (xW h0 nw sp xa la lb) (@HAppend.hAppend va_W va_W va_W _ (rcV X nw an sv dv n0 n1 n2 n3 n4 g0 gs gn gm) (@HAppend.hAppend va_W va_W va_W _ (rnV (xa 8) ag dg) ([((xa 5), .inl (X.2.1, 3, .inl fr))])))) sz) (va_A (@HAppend.hAppend va_W va_W va_W _ (xW h0 nw sp xa la lb) (@HAppend.hAppend va_W va_W va_W _ (rcV X nw an sv dv n0 n1 n2 n3 n4 g0 gs gn gm) (@HAppend.hAppend va_W va_W va_W _ (rnV (xa 8) ag dg) ([((xa 5), .inl (X.2.1, 3, .inl fr))])))) sz) s (@HAppend.hAppend va_W va_W va_W _ (xW h0 nw sp xa la lb) (@HAppend.hAppend va_W va_W va_W _ (rcV X nw an sv dv n0 n1 n2 n3 n4 g0 gs gn gm) (@HAppend.hAppend va_W va_W va_W _ (rnV (xa 8) a64_2 d64_2) ([((xa 5), .inl (X.2.1, 3, .inl fr))])))) H locs → lv_has ls 9 [(7, .int (nI k64)), (6, .int x64_6), (5, .int x64_5), (4, .int x64_4), (0, .ref h0), (1, .int 4), (2, .int x2), (3, .int x3)] → Wx (F0 m 120 ls [.int x_51]) H locs) ?_ ?_
                · intro join_110
                  refine lv_if_ne (tgt := 118) zx zb dX10_turn_110 (by decide) (fun c_50 => ?_) (fun c_50 => ?_)
                  · refine lv_iload zx zb dX10_turn_118 (lv_at hl 2 rfl) ?_
                    exact join_110 x64_5 _ _ _  G hl
                  · refine lv_iload zx zb dX10_turn_113 (lv_at hl 3 rfl) ?_
                    refine lv_goto (tgt := 120) zx zb dX10_turn_115 (by decide) ?_
                    exact join_110 x64_4 _ _ _  G hl
                · intro x_51 H locs ls  G hl
                  exact e_int S zr zlk (vp_nar_int _) G (a64_2, d64_2, fr) [0, 1, 2, 3, 4, 5, 6, 7, 8, 9, 10, 11, 12, 13, 14, 15, 16, 17, 18] rfl rfl (Or.inr rfl) (trivial) dX10_turn_120
              · have fc_49 := j_nlt (a := 30) (b := k64) (by omega) (by omega) c_49
                refine lv_aload_n zx zb dX10_turn_71 rfl (lv_at hl 4 rfl) ?_
                refine lv_iload_n zx zb dX10_turn_72 rfl (lv_at hl 5 rfl) ?_
                refine lv_iload_n zx zb dX10_turn_73 rfl (lv_at hl 6 rfl) ?_
                refine lv_iload zx zb dX10_turn_74 (lv_at hl 0 rfl) ?_
                refine lv_iload zx zb dX10_turn_76 (lv_at hl 1 rfl) ?_
                refine b_wi (cells' := 0) (slots' := 0) (wr := [((xa 5), .inl (X.2.1, 3, .inl fr))]) G rfl rfl [0, 1, 2, 3, 4, 5, 6, 7, 8, 9, 10, 11, 12, 13, 14, 15, 16, 17] [18] rfl rfl rfl rfl (n_V (As := [.int 4, .int x2, .int (nI k64), .int x64_6]) (rest := []) (C := RX10) (T := TX10) (N := 14) (ci := 8) S G (s_homeTurning l X h0 nw sp xa la lb an sv dv n0 n1 n2 n3 n4 g0 gs gn gm a64_2 d64_2 4 x2 k64 x64_6 hI_n0 hI_n1 hI_n2 hI_n3 hI_n4 (by omega) (by omega) (by first | decide | assumption | exact k_60a (by assumption)) H.size) gX10_turn_X10_homeTurning rfl rfl rfl hdV_X10_homeTurning ⟨Nat.le_of_ble_eq_true rfl, Nat.le_of_ble_eq_true rfl⟩ [0, 1, 2, 3, 4, 5, 6, 7, 8, 9, 10, 11, 12, 13, 14, 15, 16, 17] rfl rfl 0 rfl rfl rfl hl.1 (Nat.le_of_ble_eq_true rfl) dX10_turn_78 ⟨Nat.le_of_ble_eq_true rfl, Nat.le_of_ble_eq_true rfl⟩) (fun r_52 u_52 H locs hp_52 G => ?_)
                obtain ⟨a_52a, d_52b⟩ := u_52
                have hq_52 := hp_52
                have G : wd X (va_A (@HAppend.hAppend va_W va_W va_W _ (xW h0 nw sp xa la lb) (@HAppend.hAppend va_W va_W va_W _ (rcV X nw an sv dv n0 n1 n2 n3 n4 g0 gs gn gm) (@HAppend.hAppend va_W va_W va_W _ (rnV (xa 8) ag dg) ([((xa 5), .inl (X.2.1, 3, .inl fr))])))) sz) (va_A (@HAppend.hAppend va_W va_W va_W _ (xW h0 nw sp xa la lb) (@HAppend.hAppend va_W va_W va_W _ (rcV X nw an sv dv n0 n1 n2 n3 n4 g0 gs gn gm) (@HAppend.hAppend va_W va_W va_W _ (rnV (xa 8) ag dg) ([((xa 5), .inl (X.2.1, 3, .inl fr))])))) sz) s (@HAppend.hAppend va_W va_W va_W _ ([((xa 5), .inl (X.2.1, 3, .inl fr))]) (@HAppend.hAppend va_W va_W va_W _ (xW h0 nw sp xa la lb) (@HAppend.hAppend va_W va_W va_W _ (rcV X nw an sv dv n0 n1 n2 n3 n4 g0 gs gn gm) (rnV (xa 8) a_52a d_52b)))) H locs := G
                refine lv_istore (lv' := [(8, .int r_52), (7, .int (nI k64)), (6, .int x64_6), (5, .int x64_5), (4, .int x64_4), (0, .ref h0), (1, .int 4), (2, .int x2), (3, .int x3)]) zx zb dX10_turn_81 hl (by decide) rfl (fun ls hl => ?_)
                refine lv_iload zx zb dX10_turn_83 (lv_at hl 0 rfl) ?_
                refine lv_iconst (v := (-1)) zx zb dX10_turn_85 (by decide) ?_
                refine k_cutW (PP := fun Wx => ∀ (x_54 : Int32) (x_55 : Int32) (x_56 : Int32) (H : Heap) (locs : List Loc) (ls : Array Slot), (x_54 ≤ 60) → wd X (va_A (@HAppend.hAppend va_W va_W va_W _ (xW h0 nw sp xa la lb) (@HAppend.hAppend va_W va_W va_W _ (rcV X nw an sv dv n0 n1 n2 n3 n4 g0 gs gn gm) (@HAppend.hAppend va_W va_W va_W _ (rnV (xa 8) ag dg) ([((xa 5), .inl (X.2.1, 3, .inl fr))])))) sz) (va_A (@HAppend.hAppend va_W va_W va_W _ (xW h0 nw sp xa la lb) (@HAppend.hAppend va_W va_W va_W _ (rcV X nw an sv dv n0 n1 n2 n3 n4 g0 gs gn gm) (@HAppend.hAppend va_W va_W va_W _ (rnV (xa 8) ag dg) ([((xa 5), .inl (X.2.1, 3, .inl fr))])))) sz) s (@HAppend.hAppend va_W va_W va_W _ ([((xa 5), .inl (X.2.1, 3, .inl fr))]) (@HAppend.hAppend va_W va_W va_W _ (xW h0 nw sp xa la lb) (@HAppend.hAppend va_W va_W va_W _ (rcV X nw an sv dv n0 n1 n2 n3 n4 g0 gs gn gm) (rnV (xa 8) a_52a d_52b)))) H locs → lv_has ls 9 [(8, .int r_52), (7, .int (nI k64)), (6, .int x_54), (5, .int x_55), (4, .int x_56), (0, .ref h0), (1, .int 4), (2, .int x2), (3, .int x3)] → Wx (F0 m 103 ls []) H locs) ?_ ?_
                · intro join_86
                  refine lv_icmp_eq (tgt := 103) zx zb dX10_turn_86 (by decide) (fun c_53 => ?_) (fun c_53 => ?_)
                  · exact join_86 x64_6 x64_5 x64_4 _ _ _ (by first | assumption | decide | exact k_m60 (by assumption)) G hl
                  · refine lv_iload zx zb dX10_turn_89 (lv_at hl 1 rfl) ?_
                    refine lv_istore (lv' := [(4, .int (nI k64)), (8, .int r_52), (7, .int (nI k64)), (6, .int x64_6), (5, .int x64_5), (0, .ref h0), (1, .int 4), (2, .int x2), (3, .int x3)]) zx zb dX10_turn_91 hl (by decide) rfl (fun ls hl => ?_)
                    refine lv_iload zx zb dX10_turn_93 (lv_at hl 1 rfl) ?_
                    refine lv_istore (lv' := [(5, .int r_52), (4, .int (nI k64)), (8, .int r_52), (7, .int (nI k64)), (6, .int x64_6), (0, .ref h0), (1, .int 4), (2, .int x2), (3, .int x3)]) zx zb dX10_turn_95 hl (by decide) rfl (fun ls hl => ?_)
                    refine lv_iload zx zb dX10_turn_97 (lv_at hl 2 rfl) ?_
                    refine lv_iconst (v := 1) zx zb dX10_turn_99 (by decide) ?_
                    refine r_isub (v := (r_52 - 1)) S rfl dX10_turn_100 ?_
                    refine lv_istore (lv' := [(6, .int (r_52 - 1)), (5, .int r_52), (4, .int (nI k64)), (8, .int r_52), (7, .int (nI k64)), (0, .ref h0), (1, .int 4), (2, .int x2), (3, .int x3)]) zx zb dX10_turn_101 hl (by decide) rfl (fun ls hl => ?_)
                    have hl := lv_sub hl (l' := [(8, .int r_52), (7, .int (nI k64)), (6, .int (r_52 - 1)), (5, .int r_52), (4, .int (nI k64)), (0, .ref h0), (1, .int 4), (2, .int x2), (3, .int x3)]) [3, 4, 0, 1, 2, 5, 6, 7, 8] rfl
                    exact join_86 (r_52 - 1) r_52 (nI k64) _ _ _ (by first | assumption | decide | exact k_m60 (by assumption)) G hl
                · intro x_54 x_55 x_56 H locs ls hk_x_54 G hl
                  refine lv_iinc (v := (nI (k64 + 1))) (lv' := [(7, .int (nI (k64 + 1))), (8, .int r_52), (6, .int x_54), (5, .int x_55), (4, .int x_56), (0, .ref h0), (1, .int 4), (2, .int x2), (3, .int x3)]) zx zb dX10_turn_103 hl (k := 1) rfl (nI_add k64 1) (by decide) rfl (fun ls hl => ?_)
                  refine lv_goto (tgt := 64) zx zb dX10_turn_106 (by decide) ?_
                  have G : wd X (va_A (@HAppend.hAppend va_W va_W va_W _ (xW h0 nw sp xa la lb) (@HAppend.hAppend va_W va_W va_W _ (rcV X nw an sv dv n0 n1 n2 n3 n4 g0 gs gn gm) (@HAppend.hAppend va_W va_W va_W _ (rnV (xa 8) ag dg) ([((xa 5), .inl (X.2.1, 3, .inl fr))])))) sz) (va_A (@HAppend.hAppend va_W va_W va_W _ (xW h0 nw sp xa la lb) (@HAppend.hAppend va_W va_W va_W _ (rcV X nw an sv dv n0 n1 n2 n3 n4 g0 gs gn gm) (@HAppend.hAppend va_W va_W va_W _ (rnV (xa 8) ag dg) ([((xa 5), .inl (X.2.1, 3, .inl fr))])))) sz) s (@HAppend.hAppend va_W va_W va_W _ (xW h0 nw sp xa la lb) (@HAppend.hAppend va_W va_W va_W _ (rcV X nw an sv dv n0 n1 n2 n3 n4 g0 gs gn gm) (@HAppend.hAppend va_W va_W va_W _ (rnV (xa 8) a_52a d_52b) ([((xa 5), .inl (X.2.1, 3, .inl fr))])))) H locs := wd_sub G [1, 2, 3, 4, 5, 6, 7, 8, 9, 10, 11, 12, 13, 14, 15, 16, 17, 18, 0] rfl rfl
                  have hl := lv_sub hl (l' := [(7, .int (nI (k64 + 1))), (6, .int x_54), (5, .int x_55), (4, .int x_56), (0, .ref h0), (1, .int 4), (2, .int x2), (3, .int x3)]) [0, 2, 3, 4, 5, 6, 7, 8] rfl
                  exact ih64 (k64 + 1) x_54 x_55 x_56 a_52a d_52b _ _ _ (by omega) (by omega) (by first | assumption | decide | exact k_m60 (by assumption)) G hl
          · refine lv_iconst (v := (-1)) zx zb dX10_turn_49 (by decide) ?_
            exact e_int S zr zlk (vp_nar_int _) G (ag, dg, fr) [0, 1, 2, 3, 4, 5, 6, 7, 8, 9, 10, 11, 12, 13, 14, 15, 16, 17, 18] rfl rfl (Or.inr rfl) (trivial) dX10_turn_50
        · refine k_it (v := 5) rfl ?_
          refine r_aald (C := RX8) (b := (an 6)) S G 2 3 rfl rfl (k_vp (by decide)) rfl dX10_turn_42 ?_
          refine o_ri (cells' := 0) (slots' := 0) G rfl rfl (n_V (As := []) (rest := []) (C := RX8) (T := TX8) (N := 8) (ci := 6) S G (s_isHome l X (an 6) (fun k => sv (15 + k)) (fun k => dv (35 + k)) H.size) gX10_turn_X8_isHome rfl rfl rfl hdV_X8_isHome ⟨Nat.le_of_ble_eq_true rfl, Nat.le_of_ble_eq_true rfl⟩ [8] rfl rfl 8 rfl rfl rfl hl.1 (Nat.le_of_ble_eq_true rfl) dX10_turn_43 ⟨Nat.le_of_ble_eq_true rfl, Nat.le_of_ble_eq_true rfl⟩) (fun r_57 u_57 H locs hp_57 G => ?_)
          have G : wd X (va_A (@HAppend.hAppend va_W va_W va_W _ (xW h0 nw sp xa la lb) (@HAppend.hAppend va_W va_W va_W _ (rcV X nw an sv dv n0 n1 n2 n3 n4 g0 gs gn gm) (@HAppend.hAppend va_W va_W va_W _ (rnV (xa 8) ag dg) ([((xa 5), .inl (X.2.1, 3, .inl fr))])))) sz) (va_A (@HAppend.hAppend va_W va_W va_W _ (xW h0 nw sp xa la lb) (@HAppend.hAppend va_W va_W va_W _ (rcV X nw an sv dv n0 n1 n2 n3 n4 g0 gs gn gm) (@HAppend.hAppend va_W va_W va_W _ (rnV (xa 8) ag dg) ([((xa 5), .inl (X.2.1, 3, .inl fr))])))) sz) s (@HAppend.hAppend va_W va_W va_W _ (xW h0 nw sp xa la lb) (@HAppend.hAppend va_W va_W va_W _ (rcV X nw an sv dv n0 n1 n2 n3 n4 g0 gs gn gm) (@HAppend.hAppend va_W va_W va_W _ (rnV (xa 8) ag dg) ([((xa 5), .inl (X.2.1, 3, .inl fr))])))) H locs := G
          refine lv_if_eq (tgt := 51) zx zb dX10_turn_46 (by decide) (fun c_58 => ?_) (fun c_58 => ?_)
          · refine lv_iconst (v := (-1)) zx zb dX10_turn_51 (by decide) ?_
            refine lv_istore (lv' := [(4, .int (-1)), (0, .ref h0), (1, .int 5), (2, .int x2), (3, .int x3)]) zx zb dX10_turn_52 hl (by decide) rfl (fun ls hl => ?_)
            refine lv_iconst (v := (-1)) zx zb dX10_turn_54 (by decide) ?_
            refine lv_istore (lv' := [(5, .int (-1)), (4, .int (-1)), (0, .ref h0), (1, .int 5), (2, .int x2), (3, .int x3)]) zx zb dX10_turn_55 hl (by decide) rfl (fun ls hl => ?_)
            refine lv_bipush (v := 60) zx zb dX10_turn_57 (by decide) ?_
            refine lv_istore (lv' := [(6, .int 60), (5, .int (-1)), (4, .int (-1)), (0, .ref h0), (1, .int 5), (2, .int x2), (3, .int x3)]) zx zb dX10_turn_59 hl (by decide) rfl (fun ls hl => ?_)
            refine lv_iconst (v := 0) zx zb dX10_turn_61 (by decide) ?_
            refine lv_istore (lv' := [(7, .int 0), (6, .int 60), (5, .int (-1)), (4, .int (-1)), (0, .ref h0), (1, .int 5), (2, .int x2), (3, .int x3)]) zx zb dX10_turn_62 hl (by decide) rfl (fun ls hl => ?_)
            refine k_loop (P := ∀ (zm : Nat) (k64 : Nat) (x64_6 : Int32) (x64_5 : Int32) (x64_4 : Int32) (a64_2 : Nat → Int32) (d64_2 : Nat → Int32) (H : Heap) (locs : List Loc) (ls : Array Slot), 31 + 1 ≤ k64 + zm → (k64 ≤ 31) → (x64_6 ≤ 60) → wd X (va_A (@HAppend.hAppend va_W va_W va_W _ (xW h0 nw sp xa la lb) (@HAppend.hAppend va_W va_W va_W _ (rcV X nw an sv dv n0 n1 n2 n3 n4 g0 gs gn gm) (@HAppend.hAppend va_W va_W va_W _ (rnV (xa 8) ag dg) ([((xa 5), .inl (X.2.1, 3, .inl fr))])))) sz) (va_A (@HAppend.hAppend va_W va_W va_W _ (xW h0 nw sp xa la lb) (@HAppend.hAppend va_W va_W va_W _ (rcV X nw an sv dv n0 n1 n2 n3 n4 g0 gs gn gm) (@HAppend.hAppend va_W va_W va_W _ (rnV (xa 8) ag dg) ([((xa 5), .inl (X.2.1, 3, .inl fr))])))) sz) s (@HAppend.hAppend va_W va_W va_W _ (xW h0 nw sp xa la lb) (@HAppend.hAppend va_W va_W va_W _ (rcV X nw an sv dv n0 n1 n2 n3 n4 g0 gs gn gm) (@HAppend.hAppend va_W va_W va_W _ (rnV (xa 8) a64_2 d64_2) ([((xa 5), .inl (X.2.1, 3, .inl fr))])))) H locs → lv_has ls 9 [(7, .int (nI k64)), (6, .int x64_6), (5, .int x64_5), (4, .int x64_4), (0, .ref h0), (1, .int 5), (2, .int x2), (3, .int x3)] → W p l e _ s m _ below meth c H locs _ _ _ (F0 m 64 ls [])) (fun loop => loop (31 + 1) 0 60 (-1) (-1) ag dg _ _ _ (by omega) (by omega) (by first | assumption | decide | exact k_m60 (by assumption)) G hl) ?_
            intro zm
            induction zm with
            | zero => intro k64 x64_6 x64_5 x64_4 a64_2 d64_2 H locs ls zz q_hk_k64 q_hk_x64_6 _ _; exact absurd zz (by omega)
            | succ zm ih64 =>
              intro k64 x64_6 x64_5 x64_4 a64_2 d64_2 H locs ls zm_64 hk_k64 hk_x64_6 G hl
              refine lv_iload zx zb dX10_turn_64 (lv_at hl 0 rfl) ?_
              refine lv_bipush (v := 30) zx zb dX10_turn_66 (by decide) ?_
              refine lv_icmp_gt (tgt := 109) zx zb dX10_turn_68 (by decide) (fun c_59 => ?_) (fun c_59 => ?_)
              · have fc_59 := j_lt (a := 30) (b := k64) (by omega) (by omega) c_59
                refine lv_iload_n zx zb dX10_turn_109 rfl (lv_at hl 7 rfl) ?_
                refine k_cutW (PP := fun Wx => ∀ (x_61 : Int32) (H : Heap) (locs : List Loc) (ls : Array Slot), wd X (va_A (@HAppend.hAppend va_W va_W va_W _ (xW h0 nw sp xa la lb) (@HAppend.hAppend va_W va_W va_W _ (rcV X nw an sv dv n0 n1 n2 n3 n4 g0 gs gn gm) (@HAppend.hAppend va_W va_W va_W _ (rnV (xa 8) ag dg) ([((xa 5), .inl (X.2.1, 3, .inl fr))])))) sz) (va_A (@HAppend.hAppend va_W va_W va_W _ (xW h0 nw sp xa la lb) (@HAppend.hAppend va_W va_W va_W _ (rcV X nw an sv dv n0 n1 n2 n3 n4 g0 gs gn gm) (@HAppend.hAppend va_W va_W va_W _ (rnV (xa 8) ag dg) ([((xa 5), .inl (X.2.1, 3, .inl fr))])))) sz) s (@HAppend.hAppend va_W va_W va_W _ (xW h0 nw sp xa la lb) (@HAppend.hAppend va_W va_W va_W _ (rcV X nw an sv dv n0 n1 n2 n3 n4 g0 gs gn gm) (@HAppend.hAppend va_W va_W va_W _ (rnV (xa 8) a64_2 d64_2) ([((xa 5), .inl (X.2.1, 3, .inl fr))])))) H locs → lv_has ls 9 [(7, .int (nI k64)), (6, .int x64_6), (5, .int x64_5), (4, .int x64_4), (0, .ref h0), (1, .int 5), (2, .int x2), (3, .int x3)] → Wx (F0 m 120 ls [.int x_61]) H locs) ?_ ?_
                · intro join_110
                  refine lv_if_ne (tgt := 118) zx zb dX10_turn_110 (by decide) (fun c_60 => ?_) (fun c_60 => ?_)
                  · refine lv_iload zx zb dX10_turn_118 (lv_at hl 2 rfl) ?_
                    exact join_110 x64_5 _ _ _  G hl
                  · refine lv_iload zx zb dX10_turn_113 (lv_at hl 3 rfl) ?_
                    refine lv_goto (tgt := 120) zx zb dX10_turn_115 (by decide) ?_
                    exact join_110 x64_4 _ _ _  G hl
                · intro x_61 H locs ls  G hl
                  exact e_int S zr zlk (vp_nar_int _) G (a64_2, d64_2, fr) [0, 1, 2, 3, 4, 5, 6, 7, 8, 9, 10, 11, 12, 13, 14, 15, 16, 17, 18] rfl rfl (Or.inr rfl) (trivial) dX10_turn_120
              · have fc_59 := j_nlt (a := 30) (b := k64) (by omega) (by omega) c_59
                refine lv_aload_n zx zb dX10_turn_71 rfl (lv_at hl 4 rfl) ?_
                refine lv_iload_n zx zb dX10_turn_72 rfl (lv_at hl 5 rfl) ?_
                refine lv_iload_n zx zb dX10_turn_73 rfl (lv_at hl 6 rfl) ?_
                refine lv_iload zx zb dX10_turn_74 (lv_at hl 0 rfl) ?_
                refine lv_iload zx zb dX10_turn_76 (lv_at hl 1 rfl) ?_
                refine b_wi (cells' := 0) (slots' := 0) (wr := [((xa 5), .inl (X.2.1, 3, .inl fr))]) G rfl rfl [0, 1, 2, 3, 4, 5, 6, 7, 8, 9, 10, 11, 12, 13, 14, 15, 16, 17] [18] rfl rfl rfl rfl (n_V (As := [.int 5, .int x2, .int (nI k64), .int x64_6]) (rest := []) (C := RX10) (T := TX10) (N := 14) (ci := 8) S G (s_homeTurning l X h0 nw sp xa la lb an sv dv n0 n1 n2 n3 n4 g0 gs gn gm a64_2 d64_2 5 x2 k64 x64_6 hI_n0 hI_n1 hI_n2 hI_n3 hI_n4 (by omega) (by omega) (by first | decide | assumption | exact k_60a (by assumption)) H.size) gX10_turn_X10_homeTurning rfl rfl rfl hdV_X10_homeTurning ⟨Nat.le_of_ble_eq_true rfl, Nat.le_of_ble_eq_true rfl⟩ [0, 1, 2, 3, 4, 5, 6, 7, 8, 9, 10, 11, 12, 13, 14, 15, 16, 17] rfl rfl 0 rfl rfl rfl hl.1 (Nat.le_of_ble_eq_true rfl) dX10_turn_78 ⟨Nat.le_of_ble_eq_true rfl, Nat.le_of_ble_eq_true rfl⟩) (fun r_62 u_62 H locs hp_62 G => ?_)
                obtain ⟨a_62a, d_62b⟩ := u_62
                have hq_62 := hp_62
                have G : wd X (va_A (@HAppend.hAppend va_W va_W va_W _ (xW h0 nw sp xa la lb) (@HAppend.hAppend va_W va_W va_W _ (rcV X nw an sv dv n0 n1 n2 n3 n4 g0 gs gn gm) (@HAppend.hAppend va_W va_W va_W _ (rnV (xa 8) ag dg) ([((xa 5), .inl (X.2.1, 3, .inl fr))])))) sz) (va_A (@HAppend.hAppend va_W va_W va_W _ (xW h0 nw sp xa la lb) (@HAppend.hAppend va_W va_W va_W _ (rcV X nw an sv dv n0 n1 n2 n3 n4 g0 gs gn gm) (@HAppend.hAppend va_W va_W va_W _ (rnV (xa 8) ag dg) ([((xa 5), .inl (X.2.1, 3, .inl fr))])))) sz) s (@HAppend.hAppend va_W va_W va_W _ ([((xa 5), .inl (X.2.1, 3, .inl fr))]) (@HAppend.hAppend va_W va_W va_W _ (xW h0 nw sp xa la lb) (@HAppend.hAppend va_W va_W va_W _ (rcV X nw an sv dv n0 n1 n2 n3 n4 g0 gs gn gm) (rnV (xa 8) a_62a d_62b)))) H locs := G
                refine lv_istore (lv' := [(8, .int r_62), (7, .int (nI k64)), (6, .int x64_6), (5, .int x64_5), (4, .int x64_4), (0, .ref h0), (1, .int 5), (2, .int x2), (3, .int x3)]) zx zb dX10_turn_81 hl (by decide) rfl (fun ls hl => ?_)
                refine lv_iload zx zb dX10_turn_83 (lv_at hl 0 rfl) ?_
                refine lv_iconst (v := (-1)) zx zb dX10_turn_85 (by decide) ?_
                refine k_cutW (PP := fun Wx => ∀ (x_64 : Int32) (x_65 : Int32) (x_66 : Int32) (H : Heap) (locs : List Loc) (ls : Array Slot), (x_64 ≤ 60) → wd X (va_A (@HAppend.hAppend va_W va_W va_W _ (xW h0 nw sp xa la lb) (@HAppend.hAppend va_W va_W va_W _ (rcV X nw an sv dv n0 n1 n2 n3 n4 g0 gs gn gm) (@HAppend.hAppend va_W va_W va_W _ (rnV (xa 8) ag dg) ([((xa 5), .inl (X.2.1, 3, .inl fr))])))) sz) (va_A (@HAppend.hAppend va_W va_W va_W _ (xW h0 nw sp xa la lb) (@HAppend.hAppend va_W va_W va_W _ (rcV X nw an sv dv n0 n1 n2 n3 n4 g0 gs gn gm) (@HAppend.hAppend va_W va_W va_W _ (rnV (xa 8) ag dg) ([((xa 5), .inl (X.2.1, 3, .inl fr))])))) sz) s (@HAppend.hAppend va_W va_W va_W _ ([((xa 5), .inl (X.2.1, 3, .inl fr))]) (@HAppend.hAppend va_W va_W va_W _ (xW h0 nw sp xa la lb) (@HAppend.hAppend va_W va_W va_W _ (rcV X nw an sv dv n0 n1 n2 n3 n4 g0 gs gn gm) (rnV (xa 8) a_62a d_62b)))) H locs → lv_has ls 9 [(8, .int r_62), (7, .int (nI k64)), (6, .int x_64), (5, .int x_65), (4, .int x_66), (0, .ref h0), (1, .int 5), (2, .int x2), (3, .int x3)] → Wx (F0 m 103 ls []) H locs) ?_ ?_
                · intro join_86
                  refine lv_icmp_eq (tgt := 103) zx zb dX10_turn_86 (by decide) (fun c_63 => ?_) (fun c_63 => ?_)
                  · exact join_86 x64_6 x64_5 x64_4 _ _ _ (by first | assumption | decide | exact k_m60 (by assumption)) G hl
                  · refine lv_iload zx zb dX10_turn_89 (lv_at hl 1 rfl) ?_
                    refine lv_istore (lv' := [(4, .int (nI k64)), (8, .int r_62), (7, .int (nI k64)), (6, .int x64_6), (5, .int x64_5), (0, .ref h0), (1, .int 5), (2, .int x2), (3, .int x3)]) zx zb dX10_turn_91 hl (by decide) rfl (fun ls hl => ?_)
                    refine lv_iload zx zb dX10_turn_93 (lv_at hl 1 rfl) ?_
                    refine lv_istore (lv' := [(5, .int r_62), (4, .int (nI k64)), (8, .int r_62), (7, .int (nI k64)), (6, .int x64_6), (0, .ref h0), (1, .int 5), (2, .int x2), (3, .int x3)]) zx zb dX10_turn_95 hl (by decide) rfl (fun ls hl => ?_)
                    refine lv_iload zx zb dX10_turn_97 (lv_at hl 2 rfl) ?_
                    refine lv_iconst (v := 1) zx zb dX10_turn_99 (by decide) ?_
                    refine r_isub (v := (r_62 - 1)) S rfl dX10_turn_100 ?_
                    refine lv_istore (lv' := [(6, .int (r_62 - 1)), (5, .int r_62), (4, .int (nI k64)), (8, .int r_62), (7, .int (nI k64)), (0, .ref h0), (1, .int 5), (2, .int x2), (3, .int x3)]) zx zb dX10_turn_101 hl (by decide) rfl (fun ls hl => ?_)
                    have hl := lv_sub hl (l' := [(8, .int r_62), (7, .int (nI k64)), (6, .int (r_62 - 1)), (5, .int r_62), (4, .int (nI k64)), (0, .ref h0), (1, .int 5), (2, .int x2), (3, .int x3)]) [3, 4, 0, 1, 2, 5, 6, 7, 8] rfl
                    exact join_86 (r_62 - 1) r_62 (nI k64) _ _ _ (by first | assumption | decide | exact k_m60 (by assumption)) G hl
                · intro x_64 x_65 x_66 H locs ls hk_x_64 G hl
                  refine lv_iinc (v := (nI (k64 + 1))) (lv' := [(7, .int (nI (k64 + 1))), (8, .int r_62), (6, .int x_64), (5, .int x_65), (4, .int x_66), (0, .ref h0), (1, .int 5), (2, .int x2), (3, .int x3)]) zx zb dX10_turn_103 hl (k := 1) rfl (nI_add k64 1) (by decide) rfl (fun ls hl => ?_)
                  refine lv_goto (tgt := 64) zx zb dX10_turn_106 (by decide) ?_
                  have G : wd X (va_A (@HAppend.hAppend va_W va_W va_W _ (xW h0 nw sp xa la lb) (@HAppend.hAppend va_W va_W va_W _ (rcV X nw an sv dv n0 n1 n2 n3 n4 g0 gs gn gm) (@HAppend.hAppend va_W va_W va_W _ (rnV (xa 8) ag dg) ([((xa 5), .inl (X.2.1, 3, .inl fr))])))) sz) (va_A (@HAppend.hAppend va_W va_W va_W _ (xW h0 nw sp xa la lb) (@HAppend.hAppend va_W va_W va_W _ (rcV X nw an sv dv n0 n1 n2 n3 n4 g0 gs gn gm) (@HAppend.hAppend va_W va_W va_W _ (rnV (xa 8) ag dg) ([((xa 5), .inl (X.2.1, 3, .inl fr))])))) sz) s (@HAppend.hAppend va_W va_W va_W _ (xW h0 nw sp xa la lb) (@HAppend.hAppend va_W va_W va_W _ (rcV X nw an sv dv n0 n1 n2 n3 n4 g0 gs gn gm) (@HAppend.hAppend va_W va_W va_W _ (rnV (xa 8) a_62a d_62b) ([((xa 5), .inl (X.2.1, 3, .inl fr))])))) H locs := wd_sub G [1, 2, 3, 4, 5, 6, 7, 8, 9, 10, 11, 12, 13, 14, 15, 16, 17, 18, 0] rfl rfl
                  have hl := lv_sub hl (l' := [(7, .int (nI (k64 + 1))), (6, .int x_64), (5, .int x_65), (4, .int x_66), (0, .ref h0), (1, .int 5), (2, .int x2), (3, .int x3)]) [0, 2, 3, 4, 5, 6, 7, 8] rfl
                  exact ih64 (k64 + 1) x_64 x_65 x_66 a_62a d_62b _ _ _ (by omega) (by omega) (by first | assumption | decide | exact k_m60 (by assumption)) G hl
          · refine lv_iconst (v := (-1)) zx zb dX10_turn_49 (by decide) ?_
            exact e_int S zr zlk (vp_nar_int _) G (ag, dg, fr) [0, 1, 2, 3, 4, 5, 6, 7, 8, 9, 10, 11, 12, 13, 14, 15, 16, 17, 18] rfl rfl (Or.inr rfl) (trivial) dX10_turn_50
      · refine lv_if_ne (tgt := 34) zx zb dX10_turn_24 (by decide) (fun c_67 => absurd (by decide) c_67) (fun c_67 => ?_)
        refine lv_aload_n zx zb dX10_turn_27 rfl (lv_at hl 0 rfl) ?_
        refine lv_bipush (v := (-2)) zx zb dX10_turn_28 (by decide) ?_
        refine b_wi (cells' := 0) (slots' := 0) (wr := @HAppend.hAppend va_W va_W va_W _ (rcV X nw an sv dv n0 n1 n2 n3 n4 g0 gs gn gm) (rnV (xa 8) ag dg)) G rfl rfl [0, 18] [1, 2, 3, 4, 5, 6, 7, 8, 9, 10, 11, 12, 13, 14, 15, 16, 17] rfl rfl rfl rfl (n_V (As := [.int (-2)]) (rest := []) (C := RX10) (T := TX10) (N := 14) (ci := 8) S G (s_refuse l X h0 nw sp xa la lb fr (-2) H.size) gX10_turn_X10_refuse rfl rfl rfl hdV_X10_refuse ⟨Nat.le_of_ble_eq_true rfl, Nat.le_of_ble_eq_true rfl⟩ [0, 18] rfl rfl 0 rfl rfl rfl hl.1 (Nat.le_of_ble_eq_true rfl) dX10_turn_30 ⟨Nat.le_of_ble_eq_true rfl, Nat.le_of_ble_eq_true rfl⟩) (fun r_68 u_68 H locs hp_68 G => ?_)
        obtain ⟨f_68, rfl⟩ : ∃ z, z = u_68 := ⟨_, rfl⟩
        have hq_68 := hp_68
        have G : wd X (va_A (@HAppend.hAppend va_W va_W va_W _ (xW h0 nw sp xa la lb) (@HAppend.hAppend va_W va_W va_W _ (rcV X nw an sv dv n0 n1 n2 n3 n4 g0 gs gn gm) (@HAppend.hAppend va_W va_W va_W _ (rnV (xa 8) ag dg) ([((xa 5), .inl (X.2.1, 3, .inl fr))])))) sz) (va_A (@HAppend.hAppend va_W va_W va_W _ (xW h0 nw sp xa la lb) (@HAppend.hAppend va_W va_W va_W _ (rcV X nw an sv dv n0 n1 n2 n3 n4 g0 gs gn gm) (@HAppend.hAppend va_W va_W va_W _ (rnV (xa 8) ag dg) ([((xa 5), .inl (X.2.1, 3, .inl fr))])))) sz) s (@HAppend.hAppend va_W va_W va_W _ (rcV X nw an sv dv n0 n1 n2 n3 n4 g0 gs gn gm) (@HAppend.hAppend va_W va_W va_W _ (rnV (xa 8) ag dg) (@HAppend.hAppend va_W va_W va_W _ (xW h0 nw sp xa la lb) ([((xa 5), .inl (X.2.1, 3, .inl f_68))])))) H locs := G
        exact e_int S zr zlk (vp_nar_int _) G (ag, dg, f_68) [17, 0, 1, 2, 3, 4, 5, 6, 7, 8, 9, 10, 11, 12, 13, 14, 15, 16, 18] rfl rfl (Or.inr rfl) (trivial) dX10_turn_33
    · refine lv_if_eq (tgt := 27) zx zb dX10_turn_15 (by decide) (fun c_69 => ?_) (fun c_69 => absurd (by decide) c_69)
      refine lv_aload_n zx zb dX10_turn_27 rfl (lv_at hl 0 rfl) ?_
      refine lv_bipush (v := (-2)) zx zb dX10_turn_28 (by decide) ?_
      refine b_wi (cells' := 0) (slots' := 0) (wr := @HAppend.hAppend va_W va_W va_W _ (rcV X nw an sv dv n0 n1 n2 n3 n4 g0 gs gn gm) (rnV (xa 8) ag dg)) G rfl rfl [0, 18] [1, 2, 3, 4, 5, 6, 7, 8, 9, 10, 11, 12, 13, 14, 15, 16, 17] rfl rfl rfl rfl (n_V (As := [.int (-2)]) (rest := []) (C := RX10) (T := TX10) (N := 14) (ci := 8) S G (s_refuse l X h0 nw sp xa la lb fr (-2) H.size) gX10_turn_X10_refuse rfl rfl rfl hdV_X10_refuse ⟨Nat.le_of_ble_eq_true rfl, Nat.le_of_ble_eq_true rfl⟩ [0, 18] rfl rfl 0 rfl rfl rfl hl.1 (Nat.le_of_ble_eq_true rfl) dX10_turn_30 ⟨Nat.le_of_ble_eq_true rfl, Nat.le_of_ble_eq_true rfl⟩) (fun r_70 u_70 H locs hp_70 G => ?_)
      obtain ⟨f_70, rfl⟩ : ∃ z, z = u_70 := ⟨_, rfl⟩
      have hq_70 := hp_70
      have G : wd X (va_A (@HAppend.hAppend va_W va_W va_W _ (xW h0 nw sp xa la lb) (@HAppend.hAppend va_W va_W va_W _ (rcV X nw an sv dv n0 n1 n2 n3 n4 g0 gs gn gm) (@HAppend.hAppend va_W va_W va_W _ (rnV (xa 8) ag dg) ([((xa 5), .inl (X.2.1, 3, .inl fr))])))) sz) (va_A (@HAppend.hAppend va_W va_W va_W _ (xW h0 nw sp xa la lb) (@HAppend.hAppend va_W va_W va_W _ (rcV X nw an sv dv n0 n1 n2 n3 n4 g0 gs gn gm) (@HAppend.hAppend va_W va_W va_W _ (rnV (xa 8) ag dg) ([((xa 5), .inl (X.2.1, 3, .inl fr))])))) sz) s (@HAppend.hAppend va_W va_W va_W _ (rcV X nw an sv dv n0 n1 n2 n3 n4 g0 gs gn gm) (@HAppend.hAppend va_W va_W va_W _ (rnV (xa 8) ag dg) (@HAppend.hAppend va_W va_W va_W _ (xW h0 nw sp xa la lb) ([((xa 5), .inl (X.2.1, 3, .inl f_70))])))) H locs := G
      exact e_int S zr zlk (vp_nar_int _) G (ag, dg, f_70) [17, 0, 1, 2, 3, 4, 5, 6, 7, 8, 9, 10, 11, 12, 13, 14, 15, 16, 18] rfl rfl (Or.inr rfl) (trivial) dX10_turn_33
  · refine lv_if_eq (tgt := 27) zx zb dX10_turn_5 (by decide) (fun c_71 => ?_) (fun c_71 => absurd (by decide) c_71)
    refine lv_aload_n zx zb dX10_turn_27 rfl (lv_at hl 0 rfl) ?_
    refine lv_bipush (v := (-2)) zx zb dX10_turn_28 (by decide) ?_
    refine b_wi (cells' := 0) (slots' := 0) (wr := @HAppend.hAppend va_W va_W va_W _ (rcV X nw an sv dv n0 n1 n2 n3 n4 g0 gs gn gm) (rnV (xa 8) ag dg)) G rfl rfl [0, 18] [1, 2, 3, 4, 5, 6, 7, 8, 9, 10, 11, 12, 13, 14, 15, 16, 17] rfl rfl rfl rfl (n_V (As := [.int (-2)]) (rest := []) (C := RX10) (T := TX10) (N := 14) (ci := 8) S G (s_refuse l X h0 nw sp xa la lb fr (-2) H.size) gX10_turn_X10_refuse rfl rfl rfl hdV_X10_refuse ⟨Nat.le_of_ble_eq_true rfl, Nat.le_of_ble_eq_true rfl⟩ [0, 18] rfl rfl 0 rfl rfl rfl hl.1 (Nat.le_of_ble_eq_true rfl) dX10_turn_30 ⟨Nat.le_of_ble_eq_true rfl, Nat.le_of_ble_eq_true rfl⟩) (fun r_72 u_72 H locs hp_72 G => ?_)
    obtain ⟨f_72, rfl⟩ : ∃ z, z = u_72 := ⟨_, rfl⟩
    have hq_72 := hp_72
    have G : wd X (va_A (@HAppend.hAppend va_W va_W va_W _ (xW h0 nw sp xa la lb) (@HAppend.hAppend va_W va_W va_W _ (rcV X nw an sv dv n0 n1 n2 n3 n4 g0 gs gn gm) (@HAppend.hAppend va_W va_W va_W _ (rnV (xa 8) ag dg) ([((xa 5), .inl (X.2.1, 3, .inl fr))])))) sz) (va_A (@HAppend.hAppend va_W va_W va_W _ (xW h0 nw sp xa la lb) (@HAppend.hAppend va_W va_W va_W _ (rcV X nw an sv dv n0 n1 n2 n3 n4 g0 gs gn gm) (@HAppend.hAppend va_W va_W va_W _ (rnV (xa 8) ag dg) ([((xa 5), .inl (X.2.1, 3, .inl fr))])))) sz) s (@HAppend.hAppend va_W va_W va_W _ (rcV X nw an sv dv n0 n1 n2 n3 n4 g0 gs gn gm) (@HAppend.hAppend va_W va_W va_W _ (rnV (xa 8) ag dg) (@HAppend.hAppend va_W va_W va_W _ (xW h0 nw sp xa la lb) ([((xa 5), .inl (X.2.1, 3, .inl f_72))])))) H locs := G
    exact e_int S zr zlk (vp_nar_int _) G (ag, dg, f_72) [17, 0, 1, 2, 3, 4, 5, 6, 7, 8, 9, 10, 11, 12, 13, 14, 15, 16, 18] rfl rfl (Or.inr rfl) (trivial) dX10_turn_33
