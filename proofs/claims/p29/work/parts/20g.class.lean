set_option maxRecDepth 20000 in
theorem ggX0_greatestGain_X0_gain : GoodIn wsX0_greatestGain wsX0_gain := goodIn_r _ [8] rfl (by decide +kernel)
set_option maxRecDepth 20000 in
theorem gX0_greatestGain_X0_gain : GoodIn wsX0_greatestGain (va_wsS RX0 31 yX0_gain wsX0_gain) := goodIn_app (goodIn_of _ (by decide +kernel)) ggX0_greatestGain_X0_gain
set_option maxRecDepth 20000 in
theorem ggX0_weigh_X0_gain : GoodIn wsX0_weigh wsX0_gain := goodIn_r _ [16] rfl (by decide +kernel)
set_option maxRecDepth 20000 in
theorem gX0_weigh_X0_gain : GoodIn wsX0_weigh (va_wsS RX0 31 yX0_gain wsX0_gain) := goodIn_app (goodIn_of _ (by decide +kernel)) ggX0_weigh_X0_gain
set_option maxRecDepth 20000 in
theorem ggX0_weigh_X0_greatestGain : GoodIn wsX0_weigh wsX0_greatestGain := goodIn_r _ [9, 10, 11, 12, 13, 14, 15, 8, 16] rfl (by decide +kernel)
set_option maxRecDepth 20000 in
theorem gX0_weigh_X0_greatestGain : GoodIn wsX0_weigh (va_wsS RX0 27 yX0_greatestGain wsX0_greatestGain) := goodIn_app (goodIn_of _ (by decide +kernel)) ggX0_weigh_X0_greatestGain
set_option maxRecDepth 20000 in
theorem ggX10_close_X10_areTwo : GoodIn wsX10_close wsX10_areTwo := goodIn_r _ [16, 17, 18, 19, 15, 20, 2, 21, 59, 60, 61, 62, 63, 64, 65, 66, 67, 68, 69, 70, 71, 72, 73, 74, 75, 76, 77, 78, 79, 80] rfl (by decide +kernel)
set_option maxRecDepth 20000 in
theorem gX10_close_X10_areTwo : GoodIn wsX10_close (wsV RX10 172 RX10 yX10_areTwo wsX10_areTwo) := goodIn_app (goodIn_of _ (by decide +kernel)) ggX10_close_X10_areTwo
set_option maxRecDepth 20000 in
theorem ggX10_close_X10_refuse : GoodIn wsX10_close wsX10_refuse := goodIn_r _ [28, 29, 59, 60, 61, 62, 63, 64, 65, 66, 67, 68, 69, 70, 71, 72] rfl (by decide +kernel)
set_option maxRecDepth 20000 in
theorem gX10_close_X10_refuse : GoodIn wsX10_close (wsV RX10 83 RX10 yX10_refuse wsX10_refuse) := goodIn_app (goodIn_of _ (by decide +kernel)) ggX10_close_X10_refuse
set_option maxRecDepth 20000 in
theorem ggX10_close_X10_within : GoodIn wsX10_close wsX10_within := goodIn_r _ [24] rfl (by decide +kernel)
set_option maxRecDepth 20000 in
theorem gX10_close_X10_within : GoodIn wsX10_close (va_wsS RX10 79 yX10_within wsX10_within) := goodIn_app (goodIn_of _ (by decide +kernel)) ggX10_close_X10_within
set_option maxRecDepth 20000 in
theorem ggX10_close_X8_copyFrom : GoodIn wsX10_close wsX8_copyFrom := goodIn_r _ [34, 35, 36, 37, 38, 39, 40, 41, 42, 81, 82, 83, 84, 85, 86, 87, 88] rfl (by decide +kernel)
set_option maxRecDepth 20000 in
theorem gX10_close_X8_copyFrom : GoodIn wsX10_close (wsV RX10 148 RX8 yX8_copyFrom wsX8_copyFrom) := goodIn_app (goodIn_of _ (by decide +kernel)) ggX10_close_X8_copyFrom
set_option maxRecDepth 20000 in
theorem ggX10_close_X8_step : GoodIn wsX10_close wsX8_step := goodIn_r _ [46, 41, 35, 36, 38, 37, 40, 39, 42, 47, 48, 49, 33, 50, 51, 52, 53, 54, 55, 56, 57, 58, 81, 82, 83, 84, 85, 86, 87, 88] rfl (by decide +kernel)
set_option maxRecDepth 20000 in
theorem gX10_close_X8_step : GoodIn wsX10_close (wsV RX10 181 RX8 yX8_step wsX8_step) := goodIn_app (goodIn_of _ (by decide +kernel)) ggX10_close_X8_step
set_option maxRecDepth 20000 in
theorem ggX10_pair_X0_put : GoodIn wsX10_pair wsX0_put := goodIn_r _ [65, 66, 67, 119, 120, 121, 122, 123] rfl (by decide +kernel)
set_option maxRecDepth 20000 in
theorem gX10_pair_X0_put : GoodIn wsX10_pair (wsV RX10 227 RX0 yX0_put wsX0_put) := goodIn_app (goodIn_of _ (by decide +kernel)) ggX10_pair_X0_put
set_option maxRecDepth 20000 in
theorem ggX10_pair_X0_restingPair : GoodIn wsX10_pair wsX0_restingPair := goodIn_r _ [88, 74, 119, 120, 121, 122, 123] rfl (by decide +kernel)
set_option maxRecDepth 20000 in
theorem gX10_pair_X0_restingPair : GoodIn wsX10_pair (wsV RX10 233 RX0 yX0_restingPair wsX0_restingPair) := goodIn_app (goodIn_of _ (by decide +kernel)) ggX10_pair_X0_restingPair
set_option maxRecDepth 20000 in
theorem ggX10_pair_X0_weigh : GoodIn wsX10_pair wsX0_weigh := goodIn_r _ [71, 72, 66, 67, 73, 74, 75, 76, 64, 77, 78, 79, 80, 81, 82, 83, 84, 119, 120, 121, 122, 123] rfl (by decide +kernel)
set_option maxRecDepth 20000 in
theorem gX10_pair_X0_weigh : GoodIn wsX10_pair (wsV RX10 230 RX0 yX0_weigh wsX0_weigh) := goodIn_app (goodIn_of _ (by decide +kernel)) ggX10_pair_X0_weigh
set_option maxRecDepth 20000 in
theorem ggX10_pair_X10_areTwo : GoodIn wsX10_pair wsX10_areTwo := goodIn_r _ [9, 10, 11, 12, 8, 13, 2, 14, 89, 90, 91, 92, 93, 94, 95, 96, 97, 98, 99, 100, 101, 102, 103, 104, 105, 106, 107, 108, 109, 110] rfl (by decide +kernel)
set_option maxRecDepth 20000 in
theorem gX10_pair_X10_areTwo : GoodIn wsX10_pair (wsV RX10 172 RX10 yX10_areTwo wsX10_areTwo) := goodIn_app (goodIn_of _ (by decide +kernel)) ggX10_pair_X10_areTwo
set_option maxRecDepth 20000 in
theorem ggX10_pair_X10_placeBehindFive : GoodIn wsX10_pair wsX10_placeBehindFive := goodIn_r _ [23, 24, 2, 3, 25, 26, 27, 28, 29, 30, 31, 32, 33, 34, 35, 36, 37, 38, 39, 40, 41, 42, 43, 44, 45, 46, 47, 48, 49, 50, 51, 52, 53, 54, 55, 56, 57, 58, 59, 60, 89, 90, 91, 92, 93, 94, 95, 96, 97, 98, 99, 100, 101, 102, 103, 104, 105, 106, 107, 108, 109, 110, 111, 112, 113, 114, 115, 116, 117, 118] rfl (by decide +kernel)
set_option maxRecDepth 20000 in
theorem gX10_pair_X10_placeBehindFive : GoodIn wsX10_pair (wsV RX10 224 RX10 yX10_placeBehindFive wsX10_placeBehindFive) := goodIn_app (goodIn_of _ (by decide +kernel)) ggX10_pair_X10_placeBehindFive
set_option maxRecDepth 20000 in
theorem ggX10_pair_X10_refuse : GoodIn wsX10_pair wsX10_refuse := goodIn_r _ [18, 19, 89, 90, 91, 92, 93, 94, 95, 96, 97, 98, 99, 100, 101, 102] rfl (by decide +kernel)
set_option maxRecDepth 20000 in
theorem gX10_pair_X10_refuse : GoodIn wsX10_pair (wsV RX10 83 RX10 yX10_refuse wsX10_refuse) := goodIn_app (goodIn_of _ (by decide +kernel)) ggX10_pair_X10_refuse
set_option maxRecDepth 20000 in
theorem ggX10_placeBehindFive_X8_copyFrom : GoodIn wsX10_placeBehindFive wsX8_copyFrom := goodIn_r _ [11, 12, 13, 14, 15, 16, 17, 18, 19, 62, 63, 64, 65, 66, 67, 68, 69] rfl (by decide +kernel)
set_option maxRecDepth 20000 in
theorem gX10_placeBehindFive_X8_copyFrom : GoodIn wsX10_placeBehindFive (wsV RX10 148 RX8 yX8_copyFrom wsX8_copyFrom) := goodIn_app (goodIn_of _ (by decide +kernel)) ggX10_placeBehindFive_X8_copyFrom
set_option maxRecDepth 20000 in
theorem ggX10_placeBehindFive_X8_placeBehind : GoodIn wsX10_placeBehindFive wsX8_placeBehind := goodIn_r _ [23, 16, 24, 25, 26, 10, 27, 18, 12, 13, 15, 14, 17, 19, 28, 29, 30, 31, 32, 33, 34, 35, 36, 37, 38, 39, 62, 63, 64, 65, 66, 67, 68, 69] rfl (by decide +kernel)
set_option maxRecDepth 20000 in
theorem gX10_placeBehindFive_X8_placeBehind : GoodIn wsX10_placeBehindFive (wsV RX10 152 RX8 yX8_placeBehind wsX8_placeBehind) := goodIn_app (goodIn_of _ (by decide +kernel)) ggX10_placeBehindFive_X8_placeBehind
theorem dX0_gain_0 : decode cX0_gain 0 = .ok (.iload_n 0, 1) := by decide +kernel
theorem dX0_gain_1 : decode cX0_gain 1 = .ok (.iload_n 1, 1) := by decide +kernel
theorem dX0_gain_12 : decode cX0_gain 12 = .ok (.iconst 0, 1) := by decide +kernel
theorem dX0_gain_13 : decode cX0_gain 13 = .ok (.iadd, 1) := by decide +kernel
theorem dX0_gain_14 : decode cX0_gain 14 = .ok (.ireturn, 1) := by decide +kernel
theorem dX0_gain_2 : decode cX0_gain 2 = .ok (.isub, 1) := by decide +kernel
theorem dX0_gain_3 : decode cX0_gain 3 = .ok (.iload_n 0, 1) := by decide +kernel
theorem dX0_gain_4 : decode cX0_gain 4 = .ok (.iload_n 2, 1) := by decide +kernel
theorem dX0_gain_5 : decode cX0_gain 5 = .ok (.if_icmp .le 7, 3) := by decide +kernel
theorem dX0_gain_8 : decode cX0_gain 8 = .ok (.iconst 3, 1) := by decide +kernel
theorem dX0_gain_9 : decode cX0_gain 9 = .ok (.goto 4, 3) := by decide +kernel
theorem dX0_greatestGain_0 : decode cX0_greatestGain 0 = .ok (.iconst 0, 1) := by decide +kernel
theorem dX0_greatestGain_1 : decode cX0_greatestGain 1 = .ok (.istore_n 3, 1) := by decide +kernel
theorem dX0_greatestGain_12 : decode cX0_greatestGain 12 = .ok (.iload_n 3, 1) := by decide +kernel
theorem dX0_greatestGain_13 : decode cX0_greatestGain 13 = .ok (.aload_n 0, 1) := by decide +kernel
theorem dX0_greatestGain_14 : decode cX0_greatestGain 14 = .ok (.iload 4, 2) := by decide +kernel
theorem dX0_greatestGain_16 : decode cX0_greatestGain 16 = .ok (.iaload, 1) := by decide +kernel
theorem dX0_greatestGain_17 : decode cX0_greatestGain 17 = .ok (.iload_n 1, 1) := by decide +kernel
theorem dX0_greatestGain_18 : decode cX0_greatestGain 18 = .ok (.iload_n 2, 1) := by decide +kernel
theorem dX0_greatestGain_19 : decode cX0_greatestGain 19 = .ok (.invokestatic 31, 3) := by decide +kernel
theorem dX0_greatestGain_2 : decode cX0_greatestGain 2 = .ok (.iconst 0, 1) := by decide +kernel
theorem dX0_greatestGain_22 : decode cX0_greatestGain 22 = .ok (.invokestatic 35, 3) := by decide +kernel
theorem dX0_greatestGain_25 : decode cX0_greatestGain 25 = .ok (.istore_n 3, 1) := by decide +kernel
theorem dX0_greatestGain_26 : decode cX0_greatestGain 26 = .ok (.iinc 4 1, 3) := by decide +kernel
theorem dX0_greatestGain_29 : decode cX0_greatestGain 29 = .ok (.goto (-24), 3) := by decide +kernel
theorem dX0_greatestGain_3 : decode cX0_greatestGain 3 = .ok (.istore 4, 2) := by decide +kernel
theorem dX0_greatestGain_32 : decode cX0_greatestGain 32 = .ok (.iload_n 3, 1) := by decide +kernel
theorem dX0_greatestGain_33 : decode cX0_greatestGain 33 = .ok (.ireturn, 1) := by decide +kernel
theorem dX0_greatestGain_5 : decode cX0_greatestGain 5 = .ok (.iload 4, 2) := by decide +kernel
theorem dX0_greatestGain_7 : decode cX0_greatestGain 7 = .ok (.aload_n 0, 1) := by decide +kernel
theorem dX0_greatestGain_8 : decode cX0_greatestGain 8 = .ok (.arraylength, 1) := by decide +kernel
theorem dX0_greatestGain_9 : decode cX0_greatestGain 9 = .ok (.if_icmp .ge 23, 3) := by decide +kernel
theorem dX0_put_0 : decode cX0_put 0 = .ok (.iload_n 1, 1) := by decide +kernel
theorem dX0_put_1 : decode cX0_put 1 = .ok (.ifCond .lt 23, 3) := by decide +kernel
theorem dX0_put_10 : decode cX0_put 10 = .ok (.aload_n 0, 1) := by decide +kernel
theorem dX0_put_11 : decode cX0_put 11 = .ok (.getfield 11, 3) := by decide +kernel
theorem dX0_put_14 : decode cX0_put 14 = .ok (.iload_n 1, 1) := by decide +kernel
theorem dX0_put_15 : decode cX0_put 15 = .ok (.iload_n 2, 1) := by decide +kernel
theorem dX0_put_16 : decode cX0_put 16 = .ok (.iastore, 1) := by decide +kernel
theorem dX0_put_17 : decode cX0_put 17 = .ok (.aload_n 0, 1) := by decide +kernel
theorem dX0_put_18 : decode cX0_put 18 = .ok (.getfield 15, 3) := by decide +kernel
theorem dX0_put_21 : decode cX0_put 21 = .ok (.iload_n 1, 1) := by decide +kernel
theorem dX0_put_22 : decode cX0_put 22 = .ok (.iload_n 3, 1) := by decide +kernel
theorem dX0_put_23 : decode cX0_put 23 = .ok (.iastore, 1) := by decide +kernel
theorem dX0_put_24 : decode cX0_put 24 = .ok (.return_, 1) := by decide +kernel
theorem dX0_put_4 : decode cX0_put 4 = .ok (.iload_n 1, 1) := by decide +kernel
theorem dX0_put_5 : decode cX0_put 5 = .ok (.bipush 10, 2) := by decide +kernel
theorem dX0_put_7 : decode cX0_put 7 = .ok (.if_icmp .ge 17, 3) := by decide +kernel
theorem dX0_restingPair_0 : decode cX0_restingPair 0 = .ok (.iload_n 1, 1) := by decide +kernel
theorem dX0_restingPair_1 : decode cX0_restingPair 1 = .ok (.ifCond .lt 21, 3) := by decide +kernel
theorem dX0_restingPair_10 : decode cX0_restingPair 10 = .ok (.if_icmp .ge 12, 3) := by decide +kernel
theorem dX0_restingPair_13 : decode cX0_restingPair 13 = .ok (.aload_n 0, 1) := by decide +kernel
theorem dX0_restingPair_14 : decode cX0_restingPair 14 = .ok (.getfield 24, 3) := by decide +kernel
theorem dX0_restingPair_17 : decode cX0_restingPair 17 = .ok (.iload_n 1, 1) := by decide +kernel
theorem dX0_restingPair_18 : decode cX0_restingPair 18 = .ok (.iaload, 1) := by decide +kernel
theorem dX0_restingPair_19 : decode cX0_restingPair 19 = .ok (.goto 4, 3) := by decide +kernel
theorem dX0_restingPair_22 : decode cX0_restingPair 22 = .ok (.iconst (-1), 1) := by decide +kernel
theorem dX0_restingPair_23 : decode cX0_restingPair 23 = .ok (.ireturn, 1) := by decide +kernel
theorem dX0_restingPair_4 : decode cX0_restingPair 4 = .ok (.iload_n 1, 1) := by decide +kernel
theorem dX0_restingPair_5 : decode cX0_restingPair 5 = .ok (.aload_n 0, 1) := by decide +kernel
theorem dX0_restingPair_6 : decode cX0_restingPair 6 = .ok (.getfield 24, 3) := by decide +kernel
theorem dX0_restingPair_9 : decode cX0_restingPair 9 = .ok (.arraylength, 1) := by decide +kernel
theorem dX0_weigh_0 : decode cX0_weigh 0 = .ok (.iconst 0, 1) := by decide +kernel
theorem dX0_weigh_1 : decode cX0_weigh 1 = .ok (.istore_n 3, 1) := by decide +kernel
theorem dX0_weigh_101 : decode cX0_weigh 101 = .ok (.aload_n 0, 1) := by decide +kernel
theorem dX0_weigh_102 : decode cX0_weigh 102 = .ok (.getfield 18, 3) := by decide +kernel
theorem dX0_weigh_105 : decode cX0_weigh 105 = .ok (.iload 6, 2) := by decide +kernel
theorem dX0_weigh_107 : decode cX0_weigh 107 = .ok (.iaload, 1) := by decide +kernel
theorem dX0_weigh_108 : decode cX0_weigh 108 = .ok (.if_icmp .ne 42, 3) := by decide +kernel
theorem dX0_weigh_111 : decode cX0_weigh 111 = .ok (.aload_n 0, 1) := by decide +kernel
theorem dX0_weigh_112 : decode cX0_weigh 112 = .ok (.getfield 15, 3) := by decide +kernel
theorem dX0_weigh_115 : decode cX0_weigh 115 = .ok (.iload 6, 2) := by decide +kernel
theorem dX0_weigh_117 : decode cX0_weigh 117 = .ok (.iaload, 1) := by decide +kernel
theorem dX0_weigh_118 : decode cX0_weigh 118 = .ok (.iload_n 2, 1) := by decide +kernel
theorem dX0_weigh_119 : decode cX0_weigh 119 = .ok (.aload_n 0, 1) := by decide +kernel
theorem dX0_weigh_12 : decode cX0_weigh 12 = .ok (.iload_n 3, 1) := by decide +kernel
theorem dX0_weigh_120 : decode cX0_weigh 120 = .ok (.getfield 11, 3) := by decide +kernel
theorem dX0_weigh_123 : decode cX0_weigh 123 = .ok (.iload 5, 2) := by decide +kernel
theorem dX0_weigh_125 : decode cX0_weigh 125 = .ok (.iaload, 1) := by decide +kernel
theorem dX0_weigh_126 : decode cX0_weigh 126 = .ok (.invokestatic 31, 3) := by decide +kernel
theorem dX0_weigh_129 : decode cX0_weigh 129 = .ok (.aload_n 0, 1) := by decide +kernel
theorem dX0_weigh_13 : decode cX0_weigh 13 = .ok (.aload_n 0, 1) := by decide +kernel
theorem dX0_weigh_130 : decode cX0_weigh 130 = .ok (.getfield 21, 3) := by decide +kernel
theorem dX0_weigh_133 : decode cX0_weigh 133 = .ok (.iload 5, 2) := by decide +kernel
theorem dX0_weigh_135 : decode cX0_weigh 135 = .ok (.iaload, 1) := by decide +kernel
theorem dX0_weigh_136 : decode cX0_weigh 136 = .ok (.if_icmp .ne 14, 3) := by decide +kernel
theorem dX0_weigh_139 : decode cX0_weigh 139 = .ok (.aload_n 0, 1) := by decide +kernel
theorem dX0_weigh_14 : decode cX0_weigh 14 = .ok (.getfield 11, 3) := by decide +kernel
theorem dX0_weigh_140 : decode cX0_weigh 140 = .ok (.getfield 24, 3) := by decide +kernel
theorem dX0_weigh_143 : decode cX0_weigh 143 = .ok (.iload_n 3, 1) := by decide +kernel
theorem dX0_weigh_144 : decode cX0_weigh 144 = .ok (.iload 4, 2) := by decide +kernel
theorem dX0_weigh_146 : decode cX0_weigh 146 = .ok (.iastore, 1) := by decide +kernel
theorem dX0_weigh_147 : decode cX0_weigh 147 = .ok (.iinc 3 1, 3) := by decide +kernel
theorem dX0_weigh_150 : decode cX0_weigh 150 = .ok (.iinc 4 1, 3) := by decide +kernel
theorem dX0_weigh_153 : decode cX0_weigh 153 = .ok (.goto (-94), 3) := by decide +kernel
theorem dX0_weigh_156 : decode cX0_weigh 156 = .ok (.iload_n 3, 1) := by decide +kernel
theorem dX0_weigh_157 : decode cX0_weigh 157 = .ok (.ireturn, 1) := by decide +kernel
theorem dX0_weigh_17 : decode cX0_weigh 17 = .ok (.iload_n 1, 1) := by decide +kernel
theorem dX0_weigh_18 : decode cX0_weigh 18 = .ok (.aload_n 0, 1) := by decide +kernel
theorem dX0_weigh_19 : decode cX0_weigh 19 = .ok (.getfield 15, 3) := by decide +kernel
theorem dX0_weigh_2 : decode cX0_weigh 2 = .ok (.iload_n 3, 1) := by decide +kernel
theorem dX0_weigh_22 : decode cX0_weigh 22 = .ok (.iload_n 3, 1) := by decide +kernel
theorem dX0_weigh_23 : decode cX0_weigh 23 = .ok (.iaload, 1) := by decide +kernel
theorem dX0_weigh_24 : decode cX0_weigh 24 = .ok (.invokestatic 27, 3) := by decide +kernel
theorem dX0_weigh_27 : decode cX0_weigh 27 = .ok (.iastore, 1) := by decide +kernel
theorem dX0_weigh_28 : decode cX0_weigh 28 = .ok (.aload_n 0, 1) := by decide +kernel
theorem dX0_weigh_29 : decode cX0_weigh 29 = .ok (.getfield 21, 3) := by decide +kernel
theorem dX0_weigh_3 : decode cX0_weigh 3 = .ok (.bipush 10, 2) := by decide +kernel
theorem dX0_weigh_32 : decode cX0_weigh 32 = .ok (.iload_n 3, 1) := by decide +kernel
theorem dX0_weigh_33 : decode cX0_weigh 33 = .ok (.aload_n 0, 1) := by decide +kernel
theorem dX0_weigh_34 : decode cX0_weigh 34 = .ok (.getfield 15, 3) := by decide +kernel
theorem dX0_weigh_37 : decode cX0_weigh 37 = .ok (.iload_n 2, 1) := by decide +kernel
theorem dX0_weigh_38 : decode cX0_weigh 38 = .ok (.aload_n 0, 1) := by decide +kernel
theorem dX0_weigh_39 : decode cX0_weigh 39 = .ok (.getfield 11, 3) := by decide +kernel
theorem dX0_weigh_42 : decode cX0_weigh 42 = .ok (.iload_n 3, 1) := by decide +kernel
theorem dX0_weigh_43 : decode cX0_weigh 43 = .ok (.iaload, 1) := by decide +kernel
theorem dX0_weigh_44 : decode cX0_weigh 44 = .ok (.invokestatic 27, 3) := by decide +kernel
theorem dX0_weigh_47 : decode cX0_weigh 47 = .ok (.iastore, 1) := by decide +kernel
theorem dX0_weigh_48 : decode cX0_weigh 48 = .ok (.iinc 3 1, 3) := by decide +kernel
theorem dX0_weigh_5 : decode cX0_weigh 5 = .ok (.if_icmp .ge 49, 3) := by decide +kernel
theorem dX0_weigh_51 : decode cX0_weigh 51 = .ok (.goto (-49), 3) := by decide +kernel
theorem dX0_weigh_54 : decode cX0_weigh 54 = .ok (.iconst 0, 1) := by decide +kernel
theorem dX0_weigh_55 : decode cX0_weigh 55 = .ok (.istore_n 3, 1) := by decide +kernel
theorem dX0_weigh_56 : decode cX0_weigh 56 = .ok (.iconst 0, 1) := by decide +kernel
theorem dX0_weigh_57 : decode cX0_weigh 57 = .ok (.istore 4, 2) := by decide +kernel
theorem dX0_weigh_59 : decode cX0_weigh 59 = .ok (.iload 4, 2) := by decide +kernel
theorem dX0_weigh_61 : decode cX0_weigh 61 = .ok (.aload_n 0, 1) := by decide +kernel
theorem dX0_weigh_62 : decode cX0_weigh 62 = .ok (.getfield 24, 3) := by decide +kernel
theorem dX0_weigh_65 : decode cX0_weigh 65 = .ok (.arraylength, 1) := by decide +kernel
theorem dX0_weigh_66 : decode cX0_weigh 66 = .ok (.if_icmp .ge 90, 3) := by decide +kernel
theorem dX0_weigh_69 : decode cX0_weigh 69 = .ok (.iload 4, 2) := by decide +kernel
theorem dX0_weigh_71 : decode cX0_weigh 71 = .ok (.bipush 10, 2) := by decide +kernel
theorem dX0_weigh_73 : decode cX0_weigh 73 = .ok (.idiv, 1) := by decide +kernel
theorem dX0_weigh_74 : decode cX0_weigh 74 = .ok (.istore 5, 2) := by decide +kernel
theorem dX0_weigh_76 : decode cX0_weigh 76 = .ok (.iload 4, 2) := by decide +kernel
theorem dX0_weigh_78 : decode cX0_weigh 78 = .ok (.bipush 10, 2) := by decide +kernel
theorem dX0_weigh_8 : decode cX0_weigh 8 = .ok (.aload_n 0, 1) := by decide +kernel
theorem dX0_weigh_80 : decode cX0_weigh 80 = .ok (.irem, 1) := by decide +kernel
theorem dX0_weigh_81 : decode cX0_weigh 81 = .ok (.istore 6, 2) := by decide +kernel
theorem dX0_weigh_83 : decode cX0_weigh 83 = .ok (.aload_n 0, 1) := by decide +kernel
theorem dX0_weigh_84 : decode cX0_weigh 84 = .ok (.getfield 11, 3) := by decide +kernel
theorem dX0_weigh_87 : decode cX0_weigh 87 = .ok (.iload 5, 2) := by decide +kernel
theorem dX0_weigh_89 : decode cX0_weigh 89 = .ok (.iaload, 1) := by decide +kernel
theorem dX0_weigh_9 : decode cX0_weigh 9 = .ok (.getfield 18, 3) := by decide +kernel
theorem dX0_weigh_90 : decode cX0_weigh 90 = .ok (.iload_n 1, 1) := by decide +kernel
theorem dX0_weigh_91 : decode cX0_weigh 91 = .ok (.aload_n 0, 1) := by decide +kernel
theorem dX0_weigh_92 : decode cX0_weigh 92 = .ok (.getfield 15, 3) := by decide +kernel
theorem dX0_weigh_95 : decode cX0_weigh 95 = .ok (.iload 6, 2) := by decide +kernel
theorem dX0_weigh_97 : decode cX0_weigh 97 = .ok (.iaload, 1) := by decide +kernel
theorem dX0_weigh_98 : decode cX0_weigh 98 = .ok (.invokestatic 31, 3) := by decide +kernel
theorem dX10_close_0 : decode cX10_close 0 = .ok (.aload_n 0, 1) := by decide +kernel
theorem dX10_close_1 : decode cX10_close 1 = .ok (.iload_n 1, 1) := by decide +kernel
theorem dX10_close_10 : decode cX10_close 10 = .ok (.iconst 0, 1) := by decide +kernel
theorem dX10_close_101 : decode cX10_close 101 = .ok (.iload 6, 2) := by decide +kernel
theorem dX10_close_103 : decode cX10_close 103 = .ok (.iadd, 1) := by decide +kernel
theorem dX10_close_104 : decode cX10_close 104 = .ok (.aload_n 0, 1) := by decide +kernel
theorem dX10_close_105 : decode cX10_close 105 = .ok (.getfield 10, 3) := by decide +kernel
theorem dX10_close_108 : decode cX10_close 108 = .ok (.getfield 140, 3) := by decide +kernel
theorem dX10_close_11 : decode cX10_close 11 = .ok (.iconst 1, 1) := by decide +kernel
theorem dX10_close_111 : decode cX10_close 111 = .ok (.invokevirtual 181, 3) := by decide +kernel
theorem dX10_close_114 : decode cX10_close 114 = .ok (.aload_n 0, 1) := by decide +kernel
theorem dX10_close_115 : decode cX10_close 115 = .ok (.getfield 52, 3) := by decide +kernel
theorem dX10_close_118 : decode cX10_close 118 = .ok (.aload_n 0, 1) := by decide +kernel
theorem dX10_close_119 : decode cX10_close 119 = .ok (.getfield 10, 3) := by decide +kernel
theorem dX10_close_12 : decode cX10_close 12 = .ok (.invokestatic 79, 3) := by decide +kernel
theorem dX10_close_122 : decode cX10_close 122 = .ok (.getfield 110, 3) := by decide +kernel
theorem dX10_close_125 : decode cX10_close 125 = .ok (.iload 6, 2) := by decide +kernel
theorem dX10_close_127 : decode cX10_close 127 = .ok (.iadd, 1) := by decide +kernel
theorem dX10_close_128 : decode cX10_close 128 = .ok (.aload_n 0, 1) := by decide +kernel
theorem dX10_close_129 : decode cX10_close 129 = .ok (.getfield 10, 3) := by decide +kernel
theorem dX10_close_132 : decode cX10_close 132 = .ok (.getfield 140, 3) := by decide +kernel
theorem dX10_close_135 : decode cX10_close 135 = .ok (.invokevirtual 181, 3) := by decide +kernel
theorem dX10_close_138 : decode cX10_close 138 = .ok (.aload_n 0, 1) := by decide +kernel
theorem dX10_close_139 : decode cX10_close 139 = .ok (.getfield 48, 3) := by decide +kernel
theorem dX10_close_142 : decode cX10_close 142 = .ok (.getfield 137, 3) := by decide +kernel
theorem dX10_close_145 : decode cX10_close 145 = .ok (.aload_n 0, 1) := by decide +kernel
theorem dX10_close_146 : decode cX10_close 146 = .ok (.getfield 52, 3) := by decide +kernel
theorem dX10_close_149 : decode cX10_close 149 = .ok (.getfield 137, 3) := by decide +kernel
theorem dX10_close_15 : decode cX10_close 15 = .ok (.ifCond .ne 10, 3) := by decide +kernel
theorem dX10_close_152 : decode cX10_close 152 = .ok (.isub, 1) := by decide +kernel
theorem dX10_close_153 : decode cX10_close 153 = .ok (.invokestatic 176, 3) := by decide +kernel
theorem dX10_close_156 : decode cX10_close 156 = .ok (.istore 7, 2) := by decide +kernel
theorem dX10_close_158 : decode cX10_close 158 = .ok (.iload 7, 2) := by decide +kernel
theorem dX10_close_160 : decode cX10_close 160 = .ok (.iload 5, 2) := by decide +kernel
theorem dX10_close_162 : decode cX10_close 162 = .ok (.if_icmp .ge 11, 3) := by decide +kernel
theorem dX10_close_165 : decode cX10_close 165 = .ok (.iload 7, 2) := by decide +kernel
theorem dX10_close_167 : decode cX10_close 167 = .ok (.istore 5, 2) := by decide +kernel
theorem dX10_close_169 : decode cX10_close 169 = .ok (.iload 6, 2) := by decide +kernel
theorem dX10_close_171 : decode cX10_close 171 = .ok (.istore 4, 2) := by decide +kernel
theorem dX10_close_173 : decode cX10_close 173 = .ok (.iinc 6 1, 3) := by decide +kernel
theorem dX10_close_176 : decode cX10_close 176 = .ok (.goto (-93), 3) := by decide +kernel
theorem dX10_close_179 : decode cX10_close 179 = .ok (.iload_n 3, 1) := by decide +kernel
theorem dX10_close_18 : decode cX10_close 18 = .ok (.aload_n 0, 1) := by decide +kernel
theorem dX10_close_180 : decode cX10_close 180 = .ok (.ifCond .ne 8, 3) := by decide +kernel
theorem dX10_close_183 : decode cX10_close 183 = .ok (.iload 4, 2) := by decide +kernel
theorem dX10_close_185 : decode cX10_close 185 = .ok (.goto 5, 3) := by decide +kernel
theorem dX10_close_188 : decode cX10_close 188 = .ok (.iload 5, 2) := by decide +kernel
theorem dX10_close_19 : decode cX10_close 19 = .ok (.bipush (-2), 2) := by decide +kernel
theorem dX10_close_190 : decode cX10_close 190 = .ok (.ireturn, 1) := by decide +kernel
theorem dX10_close_2 : decode cX10_close 2 = .ok (.iload_n 2, 1) := by decide +kernel
theorem dX10_close_21 : decode cX10_close 21 = .ok (.invokevirtual 83, 3) := by decide +kernel
theorem dX10_close_24 : decode cX10_close 24 = .ok (.ireturn, 1) := by decide +kernel
theorem dX10_close_25 : decode cX10_close 25 = .ok (.aload_n 0, 1) := by decide +kernel
theorem dX10_close_26 : decode cX10_close 26 = .ok (.getfield 48, 3) := by decide +kernel
theorem dX10_close_29 : decode cX10_close 29 = .ok (.aload_n 0, 1) := by decide +kernel
theorem dX10_close_3 : decode cX10_close 3 = .ok (.invokevirtual 172, 3) := by decide +kernel
theorem dX10_close_30 : decode cX10_close 30 = .ok (.getfield 10, 3) := by decide +kernel
theorem dX10_close_33 : decode cX10_close 33 = .ok (.getfield 126, 3) := by decide +kernel
theorem dX10_close_36 : decode cX10_close 36 = .ok (.iload_n 1, 1) := by decide +kernel
theorem dX10_close_37 : decode cX10_close 37 = .ok (.aaload, 1) := by decide +kernel
theorem dX10_close_38 : decode cX10_close 38 = .ok (.invokevirtual 148, 3) := by decide +kernel
theorem dX10_close_41 : decode cX10_close 41 = .ok (.aload_n 0, 1) := by decide +kernel
theorem dX10_close_42 : decode cX10_close 42 = .ok (.getfield 52, 3) := by decide +kernel
theorem dX10_close_45 : decode cX10_close 45 = .ok (.aload_n 0, 1) := by decide +kernel
theorem dX10_close_46 : decode cX10_close 46 = .ok (.getfield 10, 3) := by decide +kernel
theorem dX10_close_49 : decode cX10_close 49 = .ok (.getfield 126, 3) := by decide +kernel
theorem dX10_close_52 : decode cX10_close 52 = .ok (.iload_n 2, 1) := by decide +kernel
theorem dX10_close_53 : decode cX10_close 53 = .ok (.aaload, 1) := by decide +kernel
theorem dX10_close_54 : decode cX10_close 54 = .ok (.invokevirtual 148, 3) := by decide +kernel
theorem dX10_close_57 : decode cX10_close 57 = .ok (.iconst 0, 1) := by decide +kernel
theorem dX10_close_58 : decode cX10_close 58 = .ok (.istore 4, 2) := by decide +kernel
theorem dX10_close_6 : decode cX10_close 6 = .ok (.ifCond .eq 12, 3) := by decide +kernel
theorem dX10_close_60 : decode cX10_close 60 = .ok (.aload_n 0, 1) := by decide +kernel
theorem dX10_close_61 : decode cX10_close 61 = .ok (.getfield 48, 3) := by decide +kernel
theorem dX10_close_64 : decode cX10_close 64 = .ok (.getfield 137, 3) := by decide +kernel
theorem dX10_close_67 : decode cX10_close 67 = .ok (.aload_n 0, 1) := by decide +kernel
theorem dX10_close_68 : decode cX10_close 68 = .ok (.getfield 52, 3) := by decide +kernel
theorem dX10_close_71 : decode cX10_close 71 = .ok (.getfield 137, 3) := by decide +kernel
theorem dX10_close_74 : decode cX10_close 74 = .ok (.isub, 1) := by decide +kernel
theorem dX10_close_75 : decode cX10_close 75 = .ok (.invokestatic 176, 3) := by decide +kernel
theorem dX10_close_78 : decode cX10_close 78 = .ok (.istore 5, 2) := by decide +kernel
theorem dX10_close_80 : decode cX10_close 80 = .ok (.iconst 1, 1) := by decide +kernel
theorem dX10_close_81 : decode cX10_close 81 = .ok (.istore 6, 2) := by decide +kernel
theorem dX10_close_83 : decode cX10_close 83 = .ok (.iload 6, 2) := by decide +kernel
theorem dX10_close_85 : decode cX10_close 85 = .ok (.bipush 60, 2) := by decide +kernel
theorem dX10_close_87 : decode cX10_close 87 = .ok (.if_icmp .gt 92, 3) := by decide +kernel
theorem dX10_close_9 : decode cX10_close 9 = .ok (.iload_n 3, 1) := by decide +kernel
theorem dX10_close_90 : decode cX10_close 90 = .ok (.aload_n 0, 1) := by decide +kernel
theorem dX10_close_91 : decode cX10_close 91 = .ok (.getfield 48, 3) := by decide +kernel
theorem dX10_close_94 : decode cX10_close 94 = .ok (.aload_n 0, 1) := by decide +kernel
theorem dX10_close_95 : decode cX10_close 95 = .ok (.getfield 10, 3) := by decide +kernel
theorem dX10_close_98 : decode cX10_close 98 = .ok (.getfield 110, 3) := by decide +kernel
theorem dX10_pair_0 : decode cX10_pair 0 = .ok (.aload_n 0, 1) := by decide +kernel
theorem dX10_pair_1 : decode cX10_pair 1 = .ok (.iload_n 1, 1) := by decide +kernel
theorem dX10_pair_10 : decode cX10_pair 10 = .ok (.iconst (-1), 1) := by decide +kernel
theorem dX10_pair_101 : decode cX10_pair 101 = .ok (.iload 4, 2) := by decide +kernel
theorem dX10_pair_103 : decode cX10_pair 103 = .ok (.ireturn, 1) := by decide +kernel
theorem dX10_pair_104 : decode cX10_pair 104 = .ok (.iload_n 3, 1) := by decide +kernel
theorem dX10_pair_105 : decode cX10_pair 105 = .ok (.iload 4, 2) := by decide +kernel
theorem dX10_pair_107 : decode cX10_pair 107 = .ok (.if_icmp .ge 14, 3) := by decide +kernel
theorem dX10_pair_11 : decode cX10_pair 11 = .ok (.if_icmp .ge 13, 3) := by decide +kernel
theorem dX10_pair_110 : decode cX10_pair 110 = .ok (.aload_n 0, 1) := by decide +kernel
theorem dX10_pair_111 : decode cX10_pair 111 = .ok (.getfield 72, 3) := by decide +kernel
theorem dX10_pair_114 : decode cX10_pair 114 = .ok (.iload_n 3, 1) := by decide +kernel
theorem dX10_pair_115 : decode cX10_pair 115 = .ok (.invokevirtual 233, 3) := by decide +kernel
theorem dX10_pair_118 : decode cX10_pair 118 = .ok (.goto 5, 3) := by decide +kernel
theorem dX10_pair_121 : decode cX10_pair 121 = .ok (.bipush (-5), 2) := by decide +kernel
theorem dX10_pair_123 : decode cX10_pair 123 = .ok (.ireturn, 1) := by decide +kernel
theorem dX10_pair_14 : decode cX10_pair 14 = .ok (.aload_n 0, 1) := by decide +kernel
theorem dX10_pair_15 : decode cX10_pair 15 = .ok (.bipush (-2), 2) := by decide +kernel
theorem dX10_pair_17 : decode cX10_pair 17 = .ok (.invokevirtual 83, 3) := by decide +kernel
theorem dX10_pair_2 : decode cX10_pair 2 = .ok (.iload_n 2, 1) := by decide +kernel
theorem dX10_pair_20 : decode cX10_pair 20 = .ok (.pop, 1) := by decide +kernel
theorem dX10_pair_21 : decode cX10_pair 21 = .ok (.bipush (-10), 2) := by decide +kernel
theorem dX10_pair_23 : decode cX10_pair 23 = .ok (.ireturn, 1) := by decide +kernel
theorem dX10_pair_24 : decode cX10_pair 24 = .ok (.iconst 0, 1) := by decide +kernel
theorem dX10_pair_25 : decode cX10_pair 25 = .ok (.istore 4, 2) := by decide +kernel
theorem dX10_pair_27 : decode cX10_pair 27 = .ok (.iload 4, 2) := by decide +kernel
theorem dX10_pair_29 : decode cX10_pair 29 = .ok (.bipush 9, 2) := by decide +kernel
theorem dX10_pair_3 : decode cX10_pair 3 = .ok (.invokevirtual 172, 3) := by decide +kernel
theorem dX10_pair_31 : decode cX10_pair 31 = .ok (.if_icmp .gt 32, 3) := by decide +kernel
theorem dX10_pair_34 : decode cX10_pair 34 = .ok (.aload_n 0, 1) := by decide +kernel
theorem dX10_pair_35 : decode cX10_pair 35 = .ok (.getfield 72, 3) := by decide +kernel
theorem dX10_pair_38 : decode cX10_pair 38 = .ok (.iload 4, 2) := by decide +kernel
theorem dX10_pair_40 : decode cX10_pair 40 = .ok (.aload_n 0, 1) := by decide +kernel
theorem dX10_pair_41 : decode cX10_pair 41 = .ok (.iload_n 1, 1) := by decide +kernel
theorem dX10_pair_42 : decode cX10_pair 42 = .ok (.iload 4, 2) := by decide +kernel
theorem dX10_pair_44 : decode cX10_pair 44 = .ok (.invokevirtual 224, 3) := by decide +kernel
theorem dX10_pair_47 : decode cX10_pair 47 = .ok (.aload_n 0, 1) := by decide +kernel
theorem dX10_pair_48 : decode cX10_pair 48 = .ok (.iload_n 2, 1) := by decide +kernel
theorem dX10_pair_49 : decode cX10_pair 49 = .ok (.iload 4, 2) := by decide +kernel
theorem dX10_pair_51 : decode cX10_pair 51 = .ok (.invokevirtual 224, 3) := by decide +kernel
theorem dX10_pair_54 : decode cX10_pair 54 = .ok (.invokevirtual 227, 3) := by decide +kernel
theorem dX10_pair_57 : decode cX10_pair 57 = .ok (.iinc 4 1, 3) := by decide +kernel
theorem dX10_pair_6 : decode cX10_pair 6 = .ok (.ifCond .eq 8, 3) := by decide +kernel
theorem dX10_pair_60 : decode cX10_pair 60 = .ok (.goto (-33), 3) := by decide +kernel
theorem dX10_pair_63 : decode cX10_pair 63 = .ok (.aload_n 0, 1) := by decide +kernel
theorem dX10_pair_64 : decode cX10_pair 64 = .ok (.getfield 72, 3) := by decide +kernel
theorem dX10_pair_67 : decode cX10_pair 67 = .ok (.aload_n 0, 1) := by decide +kernel
theorem dX10_pair_68 : decode cX10_pair 68 = .ok (.getfield 10, 3) := by decide +kernel
theorem dX10_pair_71 : decode cX10_pair 71 = .ok (.getfield 126, 3) := by decide +kernel
theorem dX10_pair_74 : decode cX10_pair 74 = .ok (.iload_n 1, 1) := by decide +kernel
theorem dX10_pair_75 : decode cX10_pair 75 = .ok (.aaload, 1) := by decide +kernel
theorem dX10_pair_76 : decode cX10_pair 76 = .ok (.getfield 137, 3) := by decide +kernel
theorem dX10_pair_79 : decode cX10_pair 79 = .ok (.aload_n 0, 1) := by decide +kernel
theorem dX10_pair_80 : decode cX10_pair 80 = .ok (.getfield 10, 3) := by decide +kernel
theorem dX10_pair_83 : decode cX10_pair 83 = .ok (.getfield 126, 3) := by decide +kernel
theorem dX10_pair_86 : decode cX10_pair 86 = .ok (.iload_n 2, 1) := by decide +kernel
theorem dX10_pair_87 : decode cX10_pair 87 = .ok (.aaload, 1) := by decide +kernel
theorem dX10_pair_88 : decode cX10_pair 88 = .ok (.getfield 137, 3) := by decide +kernel
theorem dX10_pair_9 : decode cX10_pair 9 = .ok (.iload_n 3, 1) := by decide +kernel
theorem dX10_pair_91 : decode cX10_pair 91 = .ok (.invokevirtual 230, 3) := by decide +kernel
theorem dX10_pair_94 : decode cX10_pair 94 = .ok (.istore 4, 2) := by decide +kernel
theorem dX10_pair_96 : decode cX10_pair 96 = .ok (.iload_n 3, 1) := by decide +kernel
theorem dX10_pair_97 : decode cX10_pair 97 = .ok (.iconst (-1), 1) := by decide +kernel
theorem dX10_pair_98 : decode cX10_pair 98 = .ok (.if_icmp .ne 6, 3) := by decide +kernel
theorem dX10_placeBehindFive_0 : decode cX10_placeBehindFive 0 = .ok (.aload_n 0, 1) := by decide +kernel
theorem dX10_placeBehindFive_1 : decode cX10_placeBehindFive 1 = .ok (.getfield 48, 3) := by decide +kernel
theorem dX10_placeBehindFive_11 : decode cX10_placeBehindFive 11 = .ok (.iload_n 1, 1) := by decide +kernel
theorem dX10_placeBehindFive_12 : decode cX10_placeBehindFive 12 = .ok (.aaload, 1) := by decide +kernel
theorem dX10_placeBehindFive_13 : decode cX10_placeBehindFive 13 = .ok (.invokevirtual 148, 3) := by decide +kernel
theorem dX10_placeBehindFive_16 : decode cX10_placeBehindFive 16 = .ok (.aload_n 0, 1) := by decide +kernel
theorem dX10_placeBehindFive_17 : decode cX10_placeBehindFive 17 = .ok (.getfield 48, 3) := by decide +kernel
theorem dX10_placeBehindFive_20 : decode cX10_placeBehindFive 20 = .ok (.iload_n 2, 1) := by decide +kernel
theorem dX10_placeBehindFive_21 : decode cX10_placeBehindFive 21 = .ok (.putfield 130, 3) := by decide +kernel
theorem dX10_placeBehindFive_24 : decode cX10_placeBehindFive 24 = .ok (.aload_n 0, 1) := by decide +kernel
theorem dX10_placeBehindFive_25 : decode cX10_placeBehindFive 25 = .ok (.getfield 48, 3) := by decide +kernel
theorem dX10_placeBehindFive_28 : decode cX10_placeBehindFive 28 = .ok (.aload_n 0, 1) := by decide +kernel
theorem dX10_placeBehindFive_29 : decode cX10_placeBehindFive 29 = .ok (.getfield 10, 3) := by decide +kernel
theorem dX10_placeBehindFive_32 : decode cX10_placeBehindFive 32 = .ok (.getfield 110, 3) := by decide +kernel
theorem dX10_placeBehindFive_35 : decode cX10_placeBehindFive 35 = .ok (.aload_n 0, 1) := by decide +kernel
theorem dX10_placeBehindFive_36 : decode cX10_placeBehindFive 36 = .ok (.getfield 10, 3) := by decide +kernel
theorem dX10_placeBehindFive_39 : decode cX10_placeBehindFive 39 = .ok (.getfield 140, 3) := by decide +kernel
theorem dX10_placeBehindFive_4 : decode cX10_placeBehindFive 4 = .ok (.aload_n 0, 1) := by decide +kernel
theorem dX10_placeBehindFive_42 : decode cX10_placeBehindFive 42 = .ok (.iconst 5, 1) := by decide +kernel
theorem dX10_placeBehindFive_43 : decode cX10_placeBehindFive 43 = .ok (.invokevirtual 152, 3) := by decide +kernel
theorem dX10_placeBehindFive_46 : decode cX10_placeBehindFive 46 = .ok (.ireturn, 1) := by decide +kernel
theorem dX10_placeBehindFive_5 : decode cX10_placeBehindFive 5 = .ok (.getfield 10, 3) := by decide +kernel
theorem dX10_placeBehindFive_8 : decode cX10_placeBehindFive 8 = .ok (.getfield 126, 3) := by decide +kernel
theorem in_X10_close_X10 : ∀ w ∈ wsX100, w ∈ wsX10_close := by decide +kernel
theorem lk_X10_close_48 : Cond.fieldLink RX10 48 "EggSpoons" "ghost" "LEggSpoons$Runner;" ∈ wsX10_close := by decide +kernel
theorem lk_X10_close_10 : Cond.fieldLink RX10 10 "EggSpoons" "now" "LEggSpoons$Race;" ∈ wsX10_close := by decide +kernel
theorem in_X10_close_X5 : ∀ w ∈ wsX50, w ∈ wsX10_close := by decide +kernel
theorem lk_X10_close_126 : Cond.fieldLink RX10 126 "EggSpoons$Race" "row" "[LEggSpoons$Runner;" ∈ wsX10_close := by decide +kernel
theorem lk_X10_close_52 : Cond.fieldLink RX10 52 "EggSpoons" "rival" "LEggSpoons$Runner;" ∈ wsX10_close := by decide +kernel
theorem in_X10_close_X8 : ∀ w ∈ wsX80, w ∈ wsX10_close := by decide +kernel
theorem lk_X10_close_137 : Cond.fieldLink RX10 137 "EggSpoons$Runner" "place" "I" ∈ wsX10_close := by decide +kernel
theorem mm_X10_close_ml176 : Cond.methodLink RX10 176 Lib.Math.abs.name ∈ wsX10_close := by decide +kernel
theorem mm_X10_close_msabs : Cond.static Lib.Math.abs.name ∈ wsX10_close := by decide +kernel
theorem mm_X10_close_mi : Cond.initialized "java/lang/Math" ∈ wsX10_close := by decide +kernel
theorem mm_X10_close_mcabs : Cond.code Lib.Math.abs.name Lib.Math.abs.code 1 (some .int) ∈ wsX10_close := by decide +kernel
theorem lk_X10_close_110 : Cond.fieldLink RX10 110 "EggSpoons$Race" "tick" "I" ∈ wsX10_close := by decide +kernel
theorem lk_X10_close_140 : Cond.fieldLink RX10 140 "EggSpoons$Race" "length" "I" ∈ wsX10_close := by decide +kernel
set_option maxHeartbeats 4000000 in
set_option maxRecDepth 100000 in
/-- close -/
theorem s_close (l : Launch) (X : EX) (h0 : Nat) (nw : Nat) (sp : Nat) (xa : Nat → Nat) (la : Int64) (lb : Int64) (an : Nat → Nat) (sv : Nat → Int32) (dv : Nat → Int32) (n0 : Nat) (n1 : Nat) (n2 : Nat) (n3 : Nat) (n4 : Nat) (g0 : Nat → Int32) (gs : Nat → Int32) (gn : Nat → Int32) (gm : Nat → Int32) (ag : Nat → Int32) (dg : Nat → Int32) (ar : Nat → Int32) (dr : Nat → Int32) (fr : Nat → Int32) (x1 : Int32) (x2 : Int32) (x3 : Int32) (hI_n0 : n0 ≤ 6) (hI_n1 : n1 ≤ 8) (hI_n2 : n2 ≤ 5) (hI_n3 : n3 ≤ 6) (hI_n4 : n4 ≤ 6) (sz : Nat) : Met l yX10_close wsX10_close ({ frames := 2, cells := 0, slots := 0, locals := 49 } : Room) (pE X [.ref h0, .int x1, .int x2, .int x3] (@HAppend.hAppend va_W va_W va_W _ (xW h0 nw sp xa la lb) (@HAppend.hAppend va_W va_W va_W _ (rcV X nw an sv dv n0 n1 n2 n3 n4 g0 gs gn gm) (@HAppend.hAppend va_W va_W va_W _ (rnV (xa 8) ag dg) (@HAppend.hAppend va_W va_W va_W _ (rnV (xa 9) ar dr) ([((xa 5), .inl (X.2.1, 3, .inl fr))]))))) sz) (qI (fun (r : Int32) (u : (Nat → Int32) × (Nat → Int32) × (Nat → Int32) × (Nat → Int32) × (Nat → Int32)) => (True)) X (fun (u : (Nat → Int32) × (Nat → Int32) × (Nat → Int32) × (Nat → Int32) × (Nat → Int32)) => @HAppend.hAppend va_W va_W va_W _ (xW h0 nw sp xa la lb) (@HAppend.hAppend va_W va_W va_W _ (rcV X nw an sv dv n0 n1 n2 n3 n4 g0 gs gn gm) (@HAppend.hAppend va_W va_W va_W _ (rnV (xa 8) u.1 u.2.1) (@HAppend.hAppend va_W va_W va_W _ (rnV (xa 9) u.2.2.1 u.2.2.2.1) ([((xa 5), .inl (X.2.1, 3, .inl u.2.2.2.2))]))))) (@HAppend.hAppend va_W va_W va_W _ (xW h0 nw sp xa la lb) (@HAppend.hAppend va_W va_W va_W _ (rcV X nw an sv dv n0 n1 n2 n3 n4 g0 gs gn gm) (@HAppend.hAppend va_W va_W va_W _ (rnV (xa 8) ag dg) (@HAppend.hAppend va_W va_W va_W _ (rnV (xa 9) ar dr) ([((xa 5), .inl (X.2.1, 3, .inl fr))]))))) sz) 0 0 (va_A (@HAppend.hAppend va_W va_W va_W _ (xW h0 nw sp xa la lb) (@HAppend.hAppend va_W va_W va_W _ (rcV X nw an sv dv n0 n1 n2 n3 n4 g0 gs gn gm) (@HAppend.hAppend va_W va_W va_W _ (rnV (xa 8) ag dg) (@HAppend.hAppend va_W va_W va_W _ (rnV (xa 9) ar dr) ([((xa 5), .inl (X.2.1, 3, .inl fr))]))))) sz) := by
  refine mk_met (B := (va_A (@HAppend.hAppend va_W va_W va_W _ (xW h0 nw sp xa la lb) (@HAppend.hAppend va_W va_W va_W _ (rcV X nw an sv dv n0 n1 n2 n3 n4 g0 gs gn gm) (@HAppend.hAppend va_W va_W va_W _ (rnV (xa 8) ag dg) (@HAppend.hAppend va_W va_W va_W _ (rnV (xa 9) ar dr) ([((xa 5), .inl (X.2.1, 3, .inl fr))]))))) sz)) (A := (va_A (@HAppend.hAppend va_W va_W va_W _ (xW h0 nw sp xa la lb) (@HAppend.hAppend va_W va_W va_W _ (rcV X nw an sv dv n0 n1 n2 n3 n4 g0 gs gn gm) (@HAppend.hAppend va_W va_W va_W _ (rnV (xa 8) ag dg) (@HAppend.hAppend va_W va_W va_W _ (rnV (xa 9) ar dr) ([((xa 5), .inl (X.2.1, 3, .inl fr))]))))) sz)) (cc := cX10_close) (maxL := 8) (ret := (some .int)) (by decide) rfl (Nat.le_of_ble_eq_true rfl) k_w k_a (fun p e s m below meth c S zr zlk znm zsz G ls hl => ?_)
  have S : CallFix p m c cX10_close 8 s _ wsX10_close RX10 := S
  have zx := S.1
  have zb := S.2.1
  have hl : lv_has ls 8 [(0, .ref h0), (1, .int x1), (2, .int x2), (3, .int x3)] := hl
  refine lv_aload_n zx zb dX10_close_0 rfl (lv_at hl 0 rfl) ?_
  refine lv_iload_n zx zb dX10_close_1 rfl (lv_at hl 1 rfl) ?_
  refine lv_iload_n zx zb dX10_close_2 rfl (lv_at hl 2 rfl) ?_
  refine o_ri (cells' := 0) (slots' := 0) G rfl rfl (n_V (As := [.int x1, .int x2]) (rest := []) (C := RX10) (T := TX10) (N := 14) (ci := 8) S G (s_areTwo l X h0 nw sp xa la lb an sv dv n0 n1 n2 n3 n4 g0 gs gn gm x1 x2 hI_n0 hI_n1 hI_n2 hI_n3 hI_n4 s.heap.size) gX10_close_X10_areTwo rfl rfl rfl hdV_X10_areTwo ⟨Nat.le_of_ble_eq_true rfl, Nat.le_of_ble_eq_true rfl⟩ [0, 1, 2, 3, 4, 5, 6, 7, 8, 9, 10, 11, 12, 13, 14, 15, 16] rfl rfl 0 rfl rfl rfl hl.1 (Nat.le_of_ble_eq_true rfl) dX10_close_3 ⟨Nat.le_of_ble_eq_true rfl, Nat.le_of_ble_eq_true rfl⟩) (fun r_1 u_1 H locs hp_1 G => ?_)
  have G : wd X (va_A (@HAppend.hAppend va_W va_W va_W _ (xW h0 nw sp xa la lb) (@HAppend.hAppend va_W va_W va_W _ (rcV X nw an sv dv n0 n1 n2 n3 n4 g0 gs gn gm) (@HAppend.hAppend va_W va_W va_W _ (rnV (xa 8) ag dg) (@HAppend.hAppend va_W va_W va_W _ (rnV (xa 9) ar dr) ([((xa 5), .inl (X.2.1, 3, .inl fr))]))))) sz) (va_A (@HAppend.hAppend va_W va_W va_W _ (xW h0 nw sp xa la lb) (@HAppend.hAppend va_W va_W va_W _ (rcV X nw an sv dv n0 n1 n2 n3 n4 g0 gs gn gm) (@HAppend.hAppend va_W va_W va_W _ (rnV (xa 8) ag dg) (@HAppend.hAppend va_W va_W va_W _ (rnV (xa 9) ar dr) ([((xa 5), .inl (X.2.1, 3, .inl fr))]))))) sz) s (@HAppend.hAppend va_W va_W va_W _ (xW h0 nw sp xa la lb) (@HAppend.hAppend va_W va_W va_W _ (rcV X nw an sv dv n0 n1 n2 n3 n4 g0 gs gn gm) (@HAppend.hAppend va_W va_W va_W _ (rnV (xa 8) ag dg) (@HAppend.hAppend va_W va_W va_W _ (rnV (xa 9) ar dr) ([((xa 5), .inl (X.2.1, 3, .inl fr))]))))) H locs := G
  rcases hp_1 with ⟨rfl, hj_1, hi_1⟩ | rfl
  · obtain ⟨j_1, hj_1, rfl⟩ := hj_1
    obtain ⟨i_1, hi_1, rfl⟩ := hi_1
    refine lv_if_eq (tgt := 18) zx zb dX10_close_6 (by decide) (fun c_2 => absurd c_2 (by decide)) (fun c_2 => ?_)
    refine lv_iload_n zx zb dX10_close_9 rfl (lv_at hl 3 rfl) ?_
    refine lv_iconst (v := 0) zx zb dX10_close_10 (by decide) ?_
    refine lv_iconst (v := 1) zx zb dX10_close_11 (by decide) ?_
    refine o_ri (cells' := 0) (slots' := 0) G rfl rfl (n_S (As := [.int x3, .int 0, .int 1]) (rest := []) S G (s_within l X x3 0 1 H.size) gX10_close_X10_within rfl rfl rfl hdS_X10_within ⟨Nat.le_of_ble_eq_true rfl, Nat.le_of_ble_eq_true rfl⟩ [] rfl rfl rfl hl.1 (Nat.le_of_ble_eq_true rfl) dX10_close_12 ⟨Nat.le_of_ble_eq_true rfl, Nat.le_of_ble_eq_true rfl⟩) (fun r_3 u_3 H locs hp_3 G => ?_)
    have G : wd X (va_A (@HAppend.hAppend va_W va_W va_W _ (xW h0 nw sp xa la lb) (@HAppend.hAppend va_W va_W va_W _ (rcV X nw an sv dv n0 n1 n2 n3 n4 g0 gs gn gm) (@HAppend.hAppend va_W va_W va_W _ (rnV (xa 8) ag dg) (@HAppend.hAppend va_W va_W va_W _ (rnV (xa 9) ar dr) ([((xa 5), .inl (X.2.1, 3, .inl fr))]))))) sz) (va_A (@HAppend.hAppend va_W va_W va_W _ (xW h0 nw sp xa la lb) (@HAppend.hAppend va_W va_W va_W _ (rcV X nw an sv dv n0 n1 n2 n3 n4 g0 gs gn gm) (@HAppend.hAppend va_W va_W va_W _ (rnV (xa 8) ag dg) (@HAppend.hAppend va_W va_W va_W _ (rnV (xa 9) ar dr) ([((xa 5), .inl (X.2.1, 3, .inl fr))]))))) sz) s (@HAppend.hAppend va_W va_W va_W _ (xW h0 nw sp xa la lb) (@HAppend.hAppend va_W va_W va_W _ (rcV X nw an sv dv n0 n1 n2 n3 n4 g0 gs gn gm) (@HAppend.hAppend va_W va_W va_W _ (rnV (xa 8) ag dg) (@HAppend.hAppend va_W va_W va_W _ (rnV (xa 9) ar dr) ([((xa 5), .inl (X.2.1, 3, .inl fr))]))))) H locs := G
    rcases hp_3 with ⟨rfl, hw_3⟩ | ⟨rfl, hw_3⟩
    · refine lv_if_ne (tgt := 25) zx zb dX10_close_15 (by decide) (fun c_4 => ?_) (fun c_4 => absurd c_4 (by decide))
      refine lv_aload_n zx zb dX10_close_25 rfl (lv_at hl 0 rfl) ?_
      refine r_get (C := RX10) (T := TX10) (N := 14) (ci := 8) (v := .ref (xa 8)) S in_X10_close_X10 G 0 rfl rfl 8 (by decide) lk_X10_close_48 rfl dX10_close_26 ?_
      refine lv_aload_n zx zb dX10_close_29 rfl (lv_at hl 0 rfl) ?_
      refine r_get (C := RX10) (T := TX10) (N := 14) (ci := 8) (v := .ref nw) S in_X10_close_X10 G 0 rfl rfl 0 (by decide) lk_X10_close_10 rfl dX10_close_30 ?_
      refine r_get (C := RX5) (T := TX5) (N := 8) (ci := 3) (v := .ref (an 0)) S in_X10_close_X5 G 1 rfl rfl 3 (by decide) lk_X10_close_126 rfl dX10_close_33 ?_
      refine lv_iload_n zx zb dX10_close_36 rfl (lv_at hl 1 rfl) ?_
      refine k_cutW (PP := fun Wx => ∀ (a_5 : Nat → Int32) (d_6 : Nat → Int32) (H : Heap) (locs : List Loc) (ls : Array Slot), wd X (va_A (@HAppend.hAppend va_W va_W va_W _ (xW h0 nw sp xa la lb) (@HAppend.hAppend va_W va_W va_W _ (rcV X nw an sv dv n0 n1 n2 n3 n4 g0 gs gn gm) (@HAppend.hAppend va_W va_W va_W _ (rnV (xa 8) ag dg) (@HAppend.hAppend va_W va_W va_W _ (rnV (xa 9) ar dr) ([((xa 5), .inl (X.2.1, 3, .inl fr))]))))) sz) (va_A (@HAppend.hAppend va_W va_W va_W _ (xW h0 nw sp xa la lb) (@HAppend.hAppend va_W va_W va_W _ (rcV X nw an sv dv n0 n1 n2 n3 n4 g0 gs gn gm) (@HAppend.hAppend va_W va_W va_W _ (rnV (xa 8) ag dg) (@HAppend.hAppend va_W va_W va_W _ (rnV (xa 9) ar dr) ([((xa 5), .inl (X.2.1, 3, .inl fr))]))))) sz) s (@HAppend.hAppend va_W va_W va_W _ (xW h0 nw sp xa la lb) (@HAppend.hAppend va_W va_W va_W _ (rcV X nw an sv dv n0 n1 n2 n3 n4 g0 gs gn gm) (@HAppend.hAppend va_W va_W va_W _ (rnV (xa 8) a_5 d_6) (@HAppend.hAppend va_W va_W va_W _ (rnV (xa 9) ar dr) ([((xa 5), .inl (X.2.1, 3, .inl fr))]))))) H locs → lv_has ls 8 [(0, .ref h0), (1, .int (nI j_1)), (2, .int (nI i_1)), (3, .int x3)] → Wx (F0 m 41 ls []) H locs) ?_ ?_
      · intro join_37
        rcases k_6c (show j_1 < 6 by omega) with q_7 | q_7 | q_7 | q_7 | q_7 | q_7
        · refine k_it (v := 0) (by rw [q_7]; rfl) ?_
          refine r_aald (C := RX8) (b := (an 1)) S G 2 3 rfl rfl (k_vp (by decide)) rfl dX10_close_37 ?_
          refine b_wv (cells' := 0) (slots' := 0) (wr := @HAppend.hAppend va_W va_W va_W _ (xW h0 nw sp xa la lb) (@HAppend.hAppend va_W va_W va_W _ ([(nw, .inr (3, [.int (dv 0), .int (dv 1), .int (nI n0), .ref (an 0), .ref (an 7), .ref (an 9), .ref (an 11), .ref (an 13)])), ((an 0), .inl (X.2.2.2.2, 6, .inr (.inr (.inr (.inr (rowQ an)))))), ((an 2), .inr (6, [.int (sv 3), .int (sv 4), .int (sv 5), .int (dv 15), .int (dv 16), .int (dv 17), .int (dv 18), .int (dv 19)])), ((an 3), .inr (6, [.int (sv 6), .int (sv 7), .int (sv 8), .int (dv 20), .int (dv 21), .int (dv 22), .int (dv 23), .int (dv 24)])), ((an 4), .inr (6, [.int (sv 9), .int (sv 10), .int (sv 11), .int (dv 25), .int (dv 26), .int (dv 27), .int (dv 28), .int (dv 29)])), ((an 5), .inr (6, [.int (sv 12), .int (sv 13), .int (sv 14), .int (dv 30), .int (dv 31), .int (dv 32), .int (dv 33), .int (dv 34)])), ((an 6), .inr (6, [.int (sv 15), .int (sv 16), .int (sv 17), .int (dv 35), .int (dv 36), .int (dv 37), .int (dv 38), .int (dv 39)])), ((an 7), .inr (2, [.ref (an 8), .int (nI n1)])), ((an 8), .inl (X.2.1, 248, .inl g0)), ((an 9), .inr (5, [.int 5, .int 0, .int 1, .ref (an 10), .int (nI n2)])), ((an 10), .inl (X.2.1, 25, .inl gs)), ((an 11), .inr (5, [.int 6, .int 1, .int 1, .ref (an 12), .int (nI n3)])), ((an 12), .inl (X.2.1, 30, .inl gn)), ((an 13), .inr (5, [.int 6, .int 0, .int 0, .ref (an 14), .int (nI n4)])), ((an 14), .inl (X.2.1, 30, .inl gm))]) (@HAppend.hAppend va_W va_W va_W _ (rnV (xa 9) ar dr) ([((xa 5), .inl (X.2.1, 3, .inl fr))])))) G rfl rfl [17, 3] [0, 1, 2, 4, 5, 6, 7, 8, 9, 10, 11, 12, 13, 14, 15, 16, 18, 19] rfl rfl rfl rfl (n_V (As := [.ref (an 1)]) (rest := []) (C := RX8) (T := TX8) (N := 8) (ci := 6) S G (s_rcopy l X (xa 8) ag dg (an 1) (fun k => sv (0 + k)) (fun k => dv (10 + k)) H.size) gX10_close_X8_copyFrom rfl rfl rfl hdV_X8_copyFrom ⟨Nat.le_of_ble_eq_true rfl, Nat.le_of_ble_eq_true rfl⟩ [17, 3] rfl rfl 17 rfl rfl rfl hl.1 (Nat.le_of_ble_eq_true rfl) dX10_close_38 ⟨Nat.le_of_ble_eq_true rfl, Nat.le_of_ble_eq_true rfl⟩) (fun u_8 H locs hp_8 G => ?_)
          obtain ⟨a_8a, d_8b⟩ := u_8
          have hq_8 := hp_8
          have G : wd X (va_A (@HAppend.hAppend va_W va_W va_W _ (xW h0 nw sp xa la lb) (@HAppend.hAppend va_W va_W va_W _ (rcV X nw an sv dv n0 n1 n2 n3 n4 g0 gs gn gm) (@HAppend.hAppend va_W va_W va_W _ (rnV (xa 8) ag dg) (@HAppend.hAppend va_W va_W va_W _ (rnV (xa 9) ar dr) ([((xa 5), .inl (X.2.1, 3, .inl fr))]))))) sz) (va_A (@HAppend.hAppend va_W va_W va_W _ (xW h0 nw sp xa la lb) (@HAppend.hAppend va_W va_W va_W _ (rcV X nw an sv dv n0 n1 n2 n3 n4 g0 gs gn gm) (@HAppend.hAppend va_W va_W va_W _ (rnV (xa 8) ag dg) (@HAppend.hAppend va_W va_W va_W _ (rnV (xa 9) ar dr) ([((xa 5), .inl (X.2.1, 3, .inl fr))]))))) sz) s (@HAppend.hAppend va_W va_W va_W _ (xW h0 nw sp xa la lb) (@HAppend.hAppend va_W va_W va_W _ (rcV X nw an sv dv n0 n1 n2 n3 n4 g0 gs gn gm) (@HAppend.hAppend va_W va_W va_W _ (rnV (xa 9) ar dr) (@HAppend.hAppend va_W va_W va_W _ ([((xa 5), .inl (X.2.1, 3, .inl fr))]) (rnV (xa 8) a_8a d_8b))))) H locs := wd_sub G [0, 1, 2, 19, 3, 4, 5, 6, 7, 8, 9, 10, 11, 12, 13, 14, 15, 16, 17, 18] rfl rfl
          have G : wd X (va_A (@HAppend.hAppend va_W va_W va_W _ (xW h0 nw sp xa la lb) (@HAppend.hAppend va_W va_W va_W _ (rcV X nw an sv dv n0 n1 n2 n3 n4 g0 gs gn gm) (@HAppend.hAppend va_W va_W va_W _ (rnV (xa 8) ag dg) (@HAppend.hAppend va_W va_W va_W _ (rnV (xa 9) ar dr) ([((xa 5), .inl (X.2.1, 3, .inl fr))]))))) sz) (va_A (@HAppend.hAppend va_W va_W va_W _ (xW h0 nw sp xa la lb) (@HAppend.hAppend va_W va_W va_W _ (rcV X nw an sv dv n0 n1 n2 n3 n4 g0 gs gn gm) (@HAppend.hAppend va_W va_W va_W _ (rnV (xa 8) ag dg) (@HAppend.hAppend va_W va_W va_W _ (rnV (xa 9) ar dr) ([((xa 5), .inl (X.2.1, 3, .inl fr))]))))) sz) s (@HAppend.hAppend va_W va_W va_W _ (xW h0 nw sp xa la lb) (@HAppend.hAppend va_W va_W va_W _ (rcV X nw an sv dv n0 n1 n2 n3 n4 g0 gs gn gm) (@HAppend.hAppend va_W va_W va_W _ (rnV (xa 8) a_8a d_8b) (@HAppend.hAppend va_W va_W va_W _ (rnV (xa 9) ar dr) ([((xa 5), .inl (X.2.1, 3, .inl fr))]))))) H locs := wd_sub G [0, 1, 2, 3, 4, 5, 6, 7, 8, 9, 10, 11, 12, 13, 14, 15, 16, 19, 17, 18] rfl rfl
          exact join_37 a_8a d_8b _ _ _  G hl
        · refine k_it (v := 1) (by rw [q_7]; rfl) ?_
          refine r_aald (C := RX8) (b := (an 2)) S G 2 3 rfl rfl (k_vp (by decide)) rfl dX10_close_37 ?_
          refine b_wv (cells' := 0) (slots' := 0) (wr := @HAppend.hAppend va_W va_W va_W _ (xW h0 nw sp xa la lb) (@HAppend.hAppend va_W va_W va_W _ ([(nw, .inr (3, [.int (dv 0), .int (dv 1), .int (nI n0), .ref (an 0), .ref (an 7), .ref (an 9), .ref (an 11), .ref (an 13)])), ((an 0), .inl (X.2.2.2.2, 6, .inr (.inr (.inr (.inr (rowQ an)))))), ((an 1), .inr (6, [.int (sv 0), .int (sv 1), .int (sv 2), .int (dv 10), .int (dv 11), .int (dv 12), .int (dv 13), .int (dv 14)])), ((an 3), .inr (6, [.int (sv 6), .int (sv 7), .int (sv 8), .int (dv 20), .int (dv 21), .int (dv 22), .int (dv 23), .int (dv 24)])), ((an 4), .inr (6, [.int (sv 9), .int (sv 10), .int (sv 11), .int (dv 25), .int (dv 26), .int (dv 27), .int (dv 28), .int (dv 29)])), ((an 5), .inr (6, [.int (sv 12), .int (sv 13), .int (sv 14), .int (dv 30), .int (dv 31), .int (dv 32), .int (dv 33), .int (dv 34)])), ((an 6), .inr (6, [.int (sv 15), .int (sv 16), .int (sv 17), .int (dv 35), .int (dv 36), .int (dv 37), .int (dv 38), .int (dv 39)])), ((an 7), .inr (2, [.ref (an 8), .int (nI n1)])), ((an 8), .inl (X.2.1, 248, .inl g0)), ((an 9), .inr (5, [.int 5, .int 0, .int 1, .ref (an 10), .int (nI n2)])), ((an 10), .inl (X.2.1, 25, .inl gs)), ((an 11), .inr (5, [.int 6, .int 1, .int 1, .ref (an 12), .int (nI n3)])), ((an 12), .inl (X.2.1, 30, .inl gn)), ((an 13), .inr (5, [.int 6, .int 0, .int 0, .ref (an 14), .int (nI n4)])), ((an 14), .inl (X.2.1, 30, .inl gm))]) (@HAppend.hAppend va_W va_W va_W _ (rnV (xa 9) ar dr) ([((xa 5), .inl (X.2.1, 3, .inl fr))])))) G rfl rfl [17, 4] [0, 1, 2, 3, 5, 6, 7, 8, 9, 10, 11, 12, 13, 14, 15, 16, 18, 19] rfl rfl rfl rfl (n_V (As := [.ref (an 2)]) (rest := []) (C := RX8) (T := TX8) (N := 8) (ci := 6) S G (s_rcopy l X (xa 8) ag dg (an 2) (fun k => sv (3 + k)) (fun k => dv (15 + k)) H.size) gX10_close_X8_copyFrom rfl rfl rfl hdV_X8_copyFrom ⟨Nat.le_of_ble_eq_true rfl, Nat.le_of_ble_eq_true rfl⟩ [17, 4] rfl rfl 17 rfl rfl rfl hl.1 (Nat.le_of_ble_eq_true rfl) dX10_close_38 ⟨Nat.le_of_ble_eq_true rfl, Nat.le_of_ble_eq_true rfl⟩) (fun u_9 H locs hp_9 G => ?_)
          obtain ⟨a_9a, d_9b⟩ := u_9
          have hq_9 := hp_9
          have G : wd X (va_A (@HAppend.hAppend va_W va_W va_W _ (xW h0 nw sp xa la lb) (@HAppend.hAppend va_W va_W va_W _ (rcV X nw an sv dv n0 n1 n2 n3 n4 g0 gs gn gm) (@HAppend.hAppend va_W va_W va_W _ (rnV (xa 8) ag dg) (@HAppend.hAppend va_W va_W va_W _ (rnV (xa 9) ar dr) ([((xa 5), .inl (X.2.1, 3, .inl fr))]))))) sz) (va_A (@HAppend.hAppend va_W va_W va_W _ (xW h0 nw sp xa la lb) (@HAppend.hAppend va_W va_W va_W _ (rcV X nw an sv dv n0 n1 n2 n3 n4 g0 gs gn gm) (@HAppend.hAppend va_W va_W va_W _ (rnV (xa 8) ag dg) (@HAppend.hAppend va_W va_W va_W _ (rnV (xa 9) ar dr) ([((xa 5), .inl (X.2.1, 3, .inl fr))]))))) sz) s (@HAppend.hAppend va_W va_W va_W _ (xW h0 nw sp xa la lb) (@HAppend.hAppend va_W va_W va_W _ (rcV X nw an sv dv n0 n1 n2 n3 n4 g0 gs gn gm) (@HAppend.hAppend va_W va_W va_W _ (rnV (xa 9) ar dr) (@HAppend.hAppend va_W va_W va_W _ ([((xa 5), .inl (X.2.1, 3, .inl fr))]) (rnV (xa 8) a_9a d_9b))))) H locs := wd_sub G [0, 1, 2, 3, 19, 4, 5, 6, 7, 8, 9, 10, 11, 12, 13, 14, 15, 16, 17, 18] rfl rfl
          have G : wd X (va_A (@HAppend.hAppend va_W va_W va_W _ (xW h0 nw sp xa la lb) (@HAppend.hAppend va_W va_W va_W _ (rcV X nw an sv dv n0 n1 n2 n3 n4 g0 gs gn gm) (@HAppend.hAppend va_W va_W va_W _ (rnV (xa 8) ag dg) (@HAppend.hAppend va_W va_W va_W _ (rnV (xa 9) ar dr) ([((xa 5), .inl (X.2.1, 3, .inl fr))]))))) sz) (va_A (@HAppend.hAppend va_W va_W va_W _ (xW h0 nw sp xa la lb) (@HAppend.hAppend va_W va_W va_W _ (rcV X nw an sv dv n0 n1 n2 n3 n4 g0 gs gn gm) (@HAppend.hAppend va_W va_W va_W _ (rnV (xa 8) ag dg) (@HAppend.hAppend va_W va_W va_W _ (rnV (xa 9) ar dr) ([((xa 5), .inl (X.2.1, 3, .inl fr))]))))) sz) s (@HAppend.hAppend va_W va_W va_W _ (xW h0 nw sp xa la lb) (@HAppend.hAppend va_W va_W va_W _ (rcV X nw an sv dv n0 n1 n2 n3 n4 g0 gs gn gm) (@HAppend.hAppend va_W va_W va_W _ (rnV (xa 8) a_9a d_9b) (@HAppend.hAppend va_W va_W va_W _ (rnV (xa 9) ar dr) ([((xa 5), .inl (X.2.1, 3, .inl fr))]))))) H locs := wd_sub G [0, 1, 2, 3, 4, 5, 6, 7, 8, 9, 10, 11, 12, 13, 14, 15, 16, 19, 17, 18] rfl rfl
          exact join_37 a_9a d_9b _ _ _  G hl
        · refine k_it (v := 2) (by rw [q_7]; rfl) ?_
          refine r_aald (C := RX8) (b := (an 3)) S G 2 3 rfl rfl (k_vp (by decide)) rfl dX10_close_37 ?_
          refine b_wv (cells' := 0) (slots' := 0) (wr := @HAppend.hAppend va_W va_W va_W _ (xW h0 nw sp xa la lb) (@HAppend.hAppend va_W va_W va_W _ ([(nw, .inr (3, [.int (dv 0), .int (dv 1), .int (nI n0), .ref (an 0), .ref (an 7), .ref (an 9), .ref (an 11), .ref (an 13)])), ((an 0), .inl (X.2.2.2.2, 6, .inr (.inr (.inr (.inr (rowQ an)))))), ((an 1), .inr (6, [.int (sv 0), .int (sv 1), .int (sv 2), .int (dv 10), .int (dv 11), .int (dv 12), .int (dv 13), .int (dv 14)])), ((an 2), .inr (6, [.int (sv 3), .int (sv 4), .int (sv 5), .int (dv 15), .int (dv 16), .int (dv 17), .int (dv 18), .int (dv 19)])), ((an 4), .inr (6, [.int (sv 9), .int (sv 10), .int (sv 11), .int (dv 25), .int (dv 26), .int (dv 27), .int (dv 28), .int (dv 29)])), ((an 5), .inr (6, [.int (sv 12), .int (sv 13), .int (sv 14), .int (dv 30), .int (dv 31), .int (dv 32), .int (dv 33), .int (dv 34)])), ((an 6), .inr (6, [.int (sv 15), .int (sv 16), .int (sv 17), .int (dv 35), .int (dv 36), .int (dv 37), .int (dv 38), .int (dv 39)])), ((an 7), .inr (2, [.ref (an 8), .int (nI n1)])), ((an 8), .inl (X.2.1, 248, .inl g0)), ((an 9), .inr (5, [.int 5, .int 0, .int 1, .ref (an 10), .int (nI n2)])), ((an 10), .inl (X.2.1, 25, .inl gs)), ((an 11), .inr (5, [.int 6, .int 1, .int 1, .ref (an 12), .int (nI n3)])), ((an 12), .inl (X.2.1, 30, .inl gn)), ((an 13), .inr (5, [.int 6, .int 0, .int 0, .ref (an 14), .int (nI n4)])), ((an 14), .inl (X.2.1, 30, .inl gm))]) (@HAppend.hAppend va_W va_W va_W _ (rnV (xa 9) ar dr) ([((xa 5), .inl (X.2.1, 3, .inl fr))])))) G rfl rfl [17, 5] [0, 1, 2, 3, 4, 6, 7, 8, 9, 10, 11, 12, 13, 14, 15, 16, 18, 19] rfl rfl rfl rfl (n_V (As := [.ref (an 3)]) (rest := []) (C := RX8) (T := TX8) (N := 8) (ci := 6) S G (s_rcopy l X (xa 8) ag dg (an 3) (fun k => sv (6 + k)) (fun k => dv (20 + k)) H.size) gX10_close_X8_copyFrom rfl rfl rfl hdV_X8_copyFrom ⟨Nat.le_of_ble_eq_true rfl, Nat.le_of_ble_eq_true rfl⟩ [17, 5] rfl rfl 17 rfl rfl rfl hl.1 (Nat.le_of_ble_eq_true rfl) dX10_close_38 ⟨Nat.le_of_ble_eq_true rfl, Nat.le_of_ble_eq_true rfl⟩) (fun u_10 H locs hp_10 G => ?_)
          obtain ⟨a_10a, d_10b⟩ := u_10
          have hq_10 := hp_10
          have G : wd X (va_A (@HAppend.hAppend va_W va_W va_W _ (xW h0 nw sp xa la lb) (@HAppend.hAppend va_W va_W va_W _ (rcV X nw an sv dv n0 n1 n2 n3 n4 g0 gs gn gm) (@HAppend.hAppend va_W va_W va_W _ (rnV (xa 8) ag dg) (@HAppend.hAppend va_W va_W va_W _ (rnV (xa 9) ar dr) ([((xa 5), .inl (X.2.1, 3, .inl fr))]))))) sz) (va_A (@HAppend.hAppend va_W va_W va_W _ (xW h0 nw sp xa la lb) (@HAppend.hAppend va_W va_W va_W _ (rcV X nw an sv dv n0 n1 n2 n3 n4 g0 gs gn gm) (@HAppend.hAppend va_W va_W va_W _ (rnV (xa 8) ag dg) (@HAppend.hAppend va_W va_W va_W _ (rnV (xa 9) ar dr) ([((xa 5), .inl (X.2.1, 3, .inl fr))]))))) sz) s (@HAppend.hAppend va_W va_W va_W _ (xW h0 nw sp xa la lb) (@HAppend.hAppend va_W va_W va_W _ (rcV X nw an sv dv n0 n1 n2 n3 n4 g0 gs gn gm) (@HAppend.hAppend va_W va_W va_W _ (rnV (xa 9) ar dr) (@HAppend.hAppend va_W va_W va_W _ ([((xa 5), .inl (X.2.1, 3, .inl fr))]) (rnV (xa 8) a_10a d_10b))))) H locs := wd_sub G [0, 1, 2, 3, 4, 19, 5, 6, 7, 8, 9, 10, 11, 12, 13, 14, 15, 16, 17, 18] rfl rfl
          have G : wd X (va_A (@HAppend.hAppend va_W va_W va_W _ (xW h0 nw sp xa la lb) (@HAppend.hAppend va_W va_W va_W _ (rcV X nw an sv dv n0 n1 n2 n3 n4 g0 gs gn gm) (@HAppend.hAppend va_W va_W va_W _ (rnV (xa 8) ag dg) (@HAppend.hAppend va_W va_W va_W _ (rnV (xa 9) ar dr) ([((xa 5), .inl (X.2.1, 3, .inl fr))]))))) sz) (va_A (@HAppend.hAppend va_W va_W va_W _ (xW h0 nw sp xa la lb) (@HAppend.hAppend va_W va_W va_W _ (rcV X nw an sv dv n0 n1 n2 n3 n4 g0 gs gn gm) (@HAppend.hAppend va_W va_W va_W _ (rnV (xa 8) ag dg) (@HAppend.hAppend va_W va_W va_W _ (rnV (xa 9) ar dr) ([((xa 5), .inl (X.2.1, 3, .inl fr))]))))) sz) s (@HAppend.hAppend va_W va_W va_W _ (xW h0 nw sp xa la lb) (@HAppend.hAppend va_W va_W va_W _ (rcV X nw an sv dv n0 n1 n2 n3 n4 g0 gs gn gm) (@HAppend.hAppend va_W va_W va_W _ (rnV (xa 8) a_10a d_10b) (@HAppend.hAppend va_W va_W va_W _ (rnV (xa 9) ar dr) ([((xa 5), .inl (X.2.1, 3, .inl fr))]))))) H locs := wd_sub G [0, 1, 2, 3, 4, 5, 6, 7, 8, 9, 10, 11, 12, 13, 14, 15, 16, 19, 17, 18] rfl rfl
          exact join_37 a_10a d_10b _ _ _  G hl
        · refine k_it (v := 3) (by rw [q_7]; rfl) ?_
          refine r_aald (C := RX8) (b := (an 4)) S G 2 3 rfl rfl (k_vp (by decide)) rfl dX10_close_37 ?_
          refine b_wv (cells' := 0) (slots' := 0) (wr := @HAppend.hAppend va_W va_W va_W _ (xW h0 nw sp xa la lb) (@HAppend.hAppend va_W va_W va_W _ ([(nw, .inr (3, [.int (dv 0), .int (dv 1), .int (nI n0), .ref (an 0), .ref (an 7), .ref (an 9), .ref (an 11), .ref (an 13)])), ((an 0), .inl (X.2.2.2.2, 6, .inr (.inr (.inr (.inr (rowQ an)))))), ((an 1), .inr (6, [.int (sv 0), .int (sv 1), .int (sv 2), .int (dv 10), .int (dv 11), .int (dv 12), .int (dv 13), .int (dv 14)])), ((an 2), .inr (6, [.int (sv 3), .int (sv 4), .int (sv 5), .int (dv 15), .int (dv 16), .int (dv 17), .int (dv 18), .int (dv 19)])), ((an 3), .inr (6, [.int (sv 6), .int (sv 7), .int (sv 8), .int (dv 20), .int (dv 21), .int (dv 22), .int (dv 23), .int (dv 24)])), ((an 5), .inr (6, [.int (sv 12), .int (sv 13), .int (sv 14), .int (dv 30), .int (dv 31), .int (dv 32), .int (dv 33), .int (dv 34)])), ((an 6), .inr (6, [.int (sv 15), .int (sv 16), .int (sv 17), .int (dv 35), .int (dv 36), .int (dv 37), .int (dv 38), .int (dv 39)])), ((an 7), .inr (2, [.ref (an 8), .int (nI n1)])), ((an 8), .inl (X.2.1, 248, .inl g0)), ((an 9), .inr (5, [.int 5, .int 0, .int 1, .ref (an 10), .int (nI n2)])), ((an 10), .inl (X.2.1, 25, .inl gs)), ((an 11), .inr (5, [.int 6, .int 1, .int 1, .ref (an 12), .int (nI n3)])), ((an 12), .inl (X.2.1, 30, .inl gn)), ((an 13), .inr (5, [.int 6, .int 0, .int 0, .ref (an 14), .int (nI n4)])), ((an 14), .inl (X.2.1, 30, .inl gm))]) (@HAppend.hAppend va_W va_W va_W _ (rnV (xa 9) ar dr) ([((xa 5), .inl (X.2.1, 3, .inl fr))])))) G rfl rfl [17, 6] [0, 1, 2, 3, 4, 5, 7, 8, 9, 10, 11, 12, 13, 14, 15, 16, 18, 19] rfl rfl rfl rfl (n_V (As := [.ref (an 4)]) (rest := []) (C := RX8) (T := TX8) (N := 8) (ci := 6) S G (s_rcopy l X (xa 8) ag dg (an 4) (fun k => sv (9 + k)) (fun k => dv (25 + k)) H.size) gX10_close_X8_copyFrom rfl rfl rfl hdV_X8_copyFrom ⟨Nat.le_of_ble_eq_true rfl, Nat.le_of_ble_eq_true rfl⟩ [17, 6] rfl rfl 17 rfl rfl rfl hl.1 (Nat.le_of_ble_eq_true rfl) dX10_close_38 ⟨Nat.le_of_ble_eq_true rfl, Nat.le_of_ble_eq_true rfl⟩) (fun u_11 H locs hp_11 G => ?_)
          obtain ⟨a_11a, d_11b⟩ := u_11
          have hq_11 := hp_11
          have G : wd X (va_A (@HAppend.hAppend va_W va_W va_W _ (xW h0 nw sp xa la lb) (@HAppend.hAppend va_W va_W va_W _ (rcV X nw an sv dv n0 n1 n2 n3 n4 g0 gs gn gm) (@HAppend.hAppend va_W va_W va_W _ (rnV (xa 8) ag dg) (@HAppend.hAppend va_W va_W va_W _ (rnV (xa 9) ar dr) ([((xa 5), .inl (X.2.1, 3, .inl fr))]))))) sz) (va_A (@HAppend.hAppend va_W va_W va_W _ (xW h0 nw sp xa la lb) (@HAppend.hAppend va_W va_W va_W _ (rcV X nw an sv dv n0 n1 n2 n3 n4 g0 gs gn gm) (@HAppend.hAppend va_W va_W va_W _ (rnV (xa 8) ag dg) (@HAppend.hAppend va_W va_W va_W _ (rnV (xa 9) ar dr) ([((xa 5), .inl (X.2.1, 3, .inl fr))]))))) sz) s (@HAppend.hAppend va_W va_W va_W _ (xW h0 nw sp xa la lb) (@HAppend.hAppend va_W va_W va_W _ (rcV X nw an sv dv n0 n1 n2 n3 n4 g0 gs gn gm) (@HAppend.hAppend va_W va_W va_W _ (rnV (xa 9) ar dr) (@HAppend.hAppend va_W va_W va_W _ ([((xa 5), .inl (X.2.1, 3, .inl fr))]) (rnV (xa 8) a_11a d_11b))))) H locs := wd_sub G [0, 1, 2, 3, 4, 5, 19, 6, 7, 8, 9, 10, 11, 12, 13, 14, 15, 16, 17, 18] rfl rfl
          have G : wd X (va_A (@HAppend.hAppend va_W va_W va_W _ (xW h0 nw sp xa la lb) (@HAppend.hAppend va_W va_W va_W _ (rcV X nw an sv dv n0 n1 n2 n3 n4 g0 gs gn gm) (@HAppend.hAppend va_W va_W va_W _ (rnV (xa 8) ag dg) (@HAppend.hAppend va_W va_W va_W _ (rnV (xa 9) ar dr) ([((xa 5), .inl (X.2.1, 3, .inl fr))]))))) sz) (va_A (@HAppend.hAppend va_W va_W va_W _ (xW h0 nw sp xa la lb) (@HAppend.hAppend va_W va_W va_W _ (rcV X nw an sv dv n0 n1 n2 n3 n4 g0 gs gn gm) (@HAppend.hAppend va_W va_W va_W _ (rnV (xa 8) ag dg) (@HAppend.hAppend va_W va_W va_W _ (rnV (xa 9) ar dr) ([((xa 5), .inl (X.2.1, 3, .inl fr))]))))) sz) s (@HAppend.hAppend va_W va_W va_W _ (xW h0 nw sp xa la lb) (@HAppend.hAppend va_W va_W va_W _ (rcV X nw an sv dv n0 n1 n2 n3 n4 g0 gs gn gm) (@HAppend.hAppend va_W va_W va_W _ (rnV (xa 8) a_11a d_11b) (@HAppend.hAppend va_W va_W va_W _ (rnV (xa 9) ar dr) ([((xa 5), .inl (X.2.1, 3, .inl fr))]))))) H locs := wd_sub G [0, 1, 2, 3, 4, 5, 6, 7, 8, 9, 10, 11, 12, 13, 14, 15, 16, 19, 17, 18] rfl rfl
          exact join_37 a_11a d_11b _ _ _  G hl
        · refine k_it (v := 4) (by rw [q_7]; rfl) ?_
          refine r_aald (C := RX8) (b := (an 5)) S G 2 3 rfl rfl (k_vp (by decide)) rfl dX10_close_37 ?_
          refine b_wv (cells' := 0) (slots' := 0) (wr := @HAppend.hAppend va_W va_W va_W _ (xW h0 nw sp xa la lb) (@HAppend.hAppend va_W va_W va_W _ ([(nw, .inr (3, [.int (dv 0), .int (dv 1), .int (nI n0), .ref (an 0), .ref (an 7), .ref (an 9), .ref (an 11), .ref (an 13)])), ((an 0), .inl (X.2.2.2.2, 6, .inr (.inr (.inr (.inr (rowQ an)))))), ((an 1), .inr (6, [.int (sv 0), .int (sv 1), .int (sv 2), .int (dv 10), .int (dv 11), .int (dv 12), .int (dv 13), .int (dv 14)])), ((an 2), .inr (6, [.int (sv 3), .int (sv 4), .int (sv 5), .int (dv 15), .int (dv 16), .int (dv 17), .int (dv 18), .int (dv 19)])), ((an 3), .inr (6, [.int (sv 6), .int (sv 7), .int (sv 8), .int (dv 20), .int (dv 21), .int (dv 22), .int (dv 23), .int (dv 24)])), ((an 4), .inr (6, [.int (sv 9), .int (sv 10), .int (sv 11), .int (dv 25), .int (dv 26), .int (dv 27), .int (dv 28), .int (dv 29)])), ((an 6), .inr (6, [.int (sv 15), .int (sv 16), .int (sv 17), .int (dv 35), .int (dv 36), .int (dv 37), .int (dv 38), .int (dv 39)])), ((an 7), .inr (2, [.ref (an 8), .int (nI n1)])), ((an 8), .inl (X.2.1, 248, .inl g0)), ((an 9), .inr (5, [.int 5, .int 0, .int 1, .ref (an 10), .int (nI n2)])), ((an 10), .inl (X.2.1, 25, .inl gs)), ((an 11), .inr (5, [.int 6, .int 1, .int 1, .ref (an 12), .int (nI n3)])), ((an 12), .inl (X.2.1, 30, .inl gn)), ((an 13), .inr (5, [.int 6, .int 0, .int 0, .ref (an 14), .int (nI n4)])), ((an 14), .inl (X.2.1, 30, .inl gm))]) (@HAppend.hAppend va_W va_W va_W _ (rnV (xa 9) ar dr) ([((xa 5), .inl (X.2.1, 3, .inl fr))])))) G rfl rfl [17, 7] [0, 1, 2, 3, 4, 5, 6, 8, 9, 10, 11, 12, 13, 14, 15, 16, 18, 19] rfl rfl rfl rfl (n_V (As := [.ref (an 5)]) (rest := []) (C := RX8) (T := TX8) (N := 8) (ci := 6) S G (s_rcopy l X (xa 8) ag dg (an 5) (fun k => sv (12 + k)) (fun k => dv (30 + k)) H.size) gX10_close_X8_copyFrom rfl rfl rfl hdV_X8_copyFrom ⟨Nat.le_of_ble_eq_true rfl, Nat.le_of_ble_eq_true rfl⟩ [17, 7] rfl rfl 17 rfl rfl rfl hl.1 (Nat.le_of_ble_eq_true rfl) dX10_close_38 ⟨Nat.le_of_ble_eq_true rfl, Nat.le_of_ble_eq_true rfl⟩) (fun u_12 H locs hp_12 G => ?_)
          obtain ⟨a_12a, d_12b⟩ := u_12
          have hq_12 := hp_12
          have G : wd X (va_A (@HAppend.hAppend va_W va_W va_W _ (xW h0 nw sp xa la lb) (@HAppend.hAppend va_W va_W va_W _ (rcV X nw an sv dv n0 n1 n2 n3 n4 g0 gs gn gm) (@HAppend.hAppend va_W va_W va_W _ (rnV (xa 8) ag dg) (@HAppend.hAppend va_W va_W va_W _ (rnV (xa 9) ar dr) ([((xa 5), .inl (X.2.1, 3, .inl fr))]))))) sz) (va_A (@HAppend.hAppend va_W va_W va_W _ (xW h0 nw sp xa la lb) (@HAppend.hAppend va_W va_W va_W _ (rcV X nw an sv dv n0 n1 n2 n3 n4 g0 gs gn gm) (@HAppend.hAppend va_W va_W va_W _ (rnV (xa 8) ag dg) (@HAppend.hAppend va_W va_W va_W _ (rnV (xa 9) ar dr) ([((xa 5), .inl (X.2.1, 3, .inl fr))]))))) sz) s (@HAppend.hAppend va_W va_W va_W _ (xW h0 nw sp xa la lb) (@HAppend.hAppend va_W va_W va_W _ (rcV X nw an sv dv n0 n1 n2 n3 n4 g0 gs gn gm) (@HAppend.hAppend va_W va_W va_W _ (rnV (xa 9) ar dr) (@HAppend.hAppend va_W va_W va_W _ ([((xa 5), .inl (X.2.1, 3, .inl fr))]) (rnV (xa 8) a_12a d_12b))))) H locs := wd_sub G [0, 1, 2, 3, 4, 5, 6, 19, 7, 8, 9, 10, 11, 12, 13, 14, 15, 16, 17, 18] rfl rfl
          have G : wd X (va_A (@HAppend.hAppend va_W va_W va_W _ (xW h0 nw sp xa la lb) (@HAppend.hAppend va_W va_W va_W _ (rcV X nw an sv dv n0 n1 n2 n3 n4 g0 gs gn gm) (@HAppend.hAppend va_W va_W va_W _ (rnV (xa 8) ag dg) (@HAppend.hAppend va_W va_W va_W _ (rnV (xa 9) ar dr) ([((xa 5), .inl (X.2.1, 3, .inl fr))]))))) sz) (va_A (@HAppend.hAppend va_W va_W va_W _ (xW h0 nw sp xa la lb) (@HAppend.hAppend va_W va_W va_W _ (rcV X nw an sv dv n0 n1 n2 n3 n4 g0 gs gn gm) (@HAppend.hAppend va_W va_W va_W _ (rnV (xa 8) ag dg) (@HAppend.hAppend va_W va_W va_W _ (rnV (xa 9) ar dr) ([((xa 5), .inl (X.2.1, 3, .inl fr))]))))) sz) s (@HAppend.hAppend va_W va_W va_W _ (xW h0 nw sp xa la lb) (@HAppend.hAppend va_W va_W va_W _ (rcV X nw an sv dv n0 n1 n2 n3 n4 g0 gs gn gm) (@HAppend.hAppend va_W va_W va_W _ (rnV (xa 8) a_12a d_12b) (@HAppend.hAppend va_W va_W va_W _ (rnV (xa 9) ar dr) ([((xa 5), .inl (X.2.1, 3, .inl fr))]))))) H locs := wd_sub G [0, 1, 2, 3, 4, 5, 6, 7, 8, 9, 10, 11, 12, 13, 14, 15, 16, 19, 17, 18] rfl rfl
          exact join_37 a_12a d_12b _ _ _  G hl
        · refine k_it (v := 5) (by rw [q_7]; rfl) ?_
          refine r_aald (C := RX8) (b := (an 6)) S G 2 3 rfl rfl (k_vp (by decide)) rfl dX10_close_37 ?_
          refine b_wv (cells' := 0) (slots' := 0) (wr := @HAppend.hAppend va_W va_W va_W _ (xW h0 nw sp xa la lb) (@HAppend.hAppend va_W va_W va_W _ ([(nw, .inr (3, [.int (dv 0), .int (dv 1), .int (nI n0), .ref (an 0), .ref (an 7), .ref (an 9), .ref (an 11), .ref (an 13)])), ((an 0), .inl (X.2.2.2.2, 6, .inr (.inr (.inr (.inr (rowQ an)))))), ((an 1), .inr (6, [.int (sv 0), .int (sv 1), .int (sv 2), .int (dv 10), .int (dv 11), .int (dv 12), .int (dv 13), .int (dv 14)])), ((an 2), .inr (6, [.int (sv 3), .int (sv 4), .int (sv 5), .int (dv 15), .int (dv 16), .int (dv 17), .int (dv 18), .int (dv 19)])), ((an 3), .inr (6, [.int (sv 6), .int (sv 7), .int (sv 8), .int (dv 20), .int (dv 21), .int (dv 22), .int (dv 23), .int (dv 24)])), ((an 4), .inr (6, [.int (sv 9), .int (sv 10), .int (sv 11), .int (dv 25), .int (dv 26), .int (dv 27), .int (dv 28), .int (dv 29)])), ((an 5), .inr (6, [.int (sv 12), .int (sv 13), .int (sv 14), .int (dv 30), .int (dv 31), .int (dv 32), .int (dv 33), .int (dv 34)])), ((an 7), .inr (2, [.ref (an 8), .int (nI n1)])), ((an 8), .inl (X.2.1, 248, .inl g0)), ((an 9), .inr (5, [.int 5, .int 0, .int 1, .ref (an 10), .int (nI n2)])), ((an 10), .inl (X.2.1, 25, .inl gs)), ((an 11), .inr (5, [.int 6, .int 1, .int 1, .ref (an 12), .int (nI n3)])), ((an 12), .inl (X.2.1, 30, .inl gn)), ((an 13), .inr (5, [.int 6, .int 0, .int 0, .ref (an 14), .int (nI n4)])), ((an 14), .inl (X.2.1, 30, .inl gm))]) (@HAppend.hAppend va_W va_W va_W _ (rnV (xa 9) ar dr) ([((xa 5), .inl (X.2.1, 3, .inl fr))])))) G rfl rfl [17, 8] [0, 1, 2, 3, 4, 5, 6, 7, 9, 10, 11, 12, 13, 14, 15, 16, 18, 19] rfl rfl rfl rfl (n_V (As := [.ref (an 6)]) (rest := []) (C := RX8) (T := TX8) (N := 8) (ci := 6) S G (s_rcopy l X (xa 8) ag dg (an 6) (fun k => sv (15 + k)) (fun k => dv (35 + k)) H.size) gX10_close_X8_copyFrom rfl rfl rfl hdV_X8_copyFrom ⟨Nat.le_of_ble_eq_true rfl, Nat.le_of_ble_eq_true rfl⟩ [17, 8] rfl rfl 17 rfl rfl rfl hl.1 (Nat.le_of_ble_eq_true rfl) dX10_close_38 ⟨Nat.le_of_ble_eq_true rfl, Nat.le_of_ble_eq_true rfl⟩) (fun u_13 H locs hp_13 G => ?_)
          obtain ⟨a_13a, d_13b⟩ := u_13
          have hq_13 := hp_13
          have G : wd X (va_A (@HAppend.hAppend va_W va_W va_W _ (xW h0 nw sp xa la lb) (@HAppend.hAppend va_W va_W va_W _ (rcV X nw an sv dv n0 n1 n2 n3 n4 g0 gs gn gm) (@HAppend.hAppend va_W va_W va_W _ (rnV (xa 8) ag dg) (@HAppend.hAppend va_W va_W va_W _ (rnV (xa 9) ar dr) ([((xa 5), .inl (X.2.1, 3, .inl fr))]))))) sz) (va_A (@HAppend.hAppend va_W va_W va_W _ (xW h0 nw sp xa la lb) (@HAppend.hAppend va_W va_W va_W _ (rcV X nw an sv dv n0 n1 n2 n3 n4 g0 gs gn gm) (@HAppend.hAppend va_W va_W va_W _ (rnV (xa 8) ag dg) (@HAppend.hAppend va_W va_W va_W _ (rnV (xa 9) ar dr) ([((xa 5), .inl (X.2.1, 3, .inl fr))]))))) sz) s (@HAppend.hAppend va_W va_W va_W _ (xW h0 nw sp xa la lb) (@HAppend.hAppend va_W va_W va_W _ (rcV X nw an sv dv n0 n1 n2 n3 n4 g0 gs gn gm) (@HAppend.hAppend va_W va_W va_W _ (rnV (xa 9) ar dr) (@HAppend.hAppend va_W va_W va_W _ ([((xa 5), .inl (X.2.1, 3, .inl fr))]) (rnV (xa 8) a_13a d_13b))))) H locs := wd_sub G [0, 1, 2, 3, 4, 5, 6, 7, 19, 8, 9, 10, 11, 12, 13, 14, 15, 16, 17, 18] rfl rfl
          have G : wd X (va_A (@HAppend.hAppend va_W va_W va_W _ (xW h0 nw sp xa la lb) (@HAppend.hAppend va_W va_W va_W _ (rcV X nw an sv dv n0 n1 n2 n3 n4 g0 gs gn gm) (@HAppend.hAppend va_W va_W va_W _ (rnV (xa 8) ag dg) (@HAppend.hAppend va_W va_W va_W _ (rnV (xa 9) ar dr) ([((xa 5), .inl (X.2.1, 3, .inl fr))]))))) sz) (va_A (@HAppend.hAppend va_W va_W va_W _ (xW h0 nw sp xa la lb) (@HAppend.hAppend va_W va_W va_W _ (rcV X nw an sv dv n0 n1 n2 n3 n4 g0 gs gn gm) (@HAppend.hAppend va_W va_W va_W _ (rnV (xa 8) ag dg) (@HAppend.hAppend va_W va_W va_W _ (rnV (xa 9) ar dr) ([((xa 5), .inl (X.2.1, 3, .inl fr))]))))) sz) s (@HAppend.hAppend va_W va_W va_W _ (xW h0 nw sp xa la lb) (@HAppend.hAppend va_W va_W va_W _ (rcV X nw an sv dv n0 n1 n2 n3 n4 g0 gs gn gm) (@HAppend.hAppend va_W va_W va_W _ (rnV (xa 8) a_13a d_13b) (@HAppend.hAppend va_W va_W va_W _ (rnV (xa 9) ar dr) ([((xa 5), .inl (X.2.1, 3, .inl fr))]))))) H locs := wd_sub G [0, 1, 2, 3, 4, 5, 6, 7, 8, 9, 10, 11, 12, 13, 14, 15, 16, 19, 17, 18] rfl rfl
          exact join_37 a_13a d_13b _ _ _  G hl
      · intro a_5 d_6 H locs ls  G hl
        refine lv_aload_n zx zb dX10_close_41 rfl (lv_at hl 0 rfl) ?_
        refine r_get (C := RX10) (T := TX10) (N := 14) (ci := 8) (v := .ref (xa 9)) S in_X10_close_X10 G 0 rfl rfl 9 (by decide) lk_X10_close_52 rfl dX10_close_42 ?_
        refine lv_aload_n zx zb dX10_close_45 rfl (lv_at hl 0 rfl) ?_
        refine r_get (C := RX10) (T := TX10) (N := 14) (ci := 8) (v := .ref nw) S in_X10_close_X10 G 0 rfl rfl 0 (by decide) lk_X10_close_10 rfl dX10_close_46 ?_
        refine r_get (C := RX5) (T := TX5) (N := 8) (ci := 3) (v := .ref (an 0)) S in_X10_close_X5 G 1 rfl rfl 3 (by decide) lk_X10_close_126 rfl dX10_close_49 ?_
        refine lv_iload_n zx zb dX10_close_52 rfl (lv_at hl 2 rfl) ?_
        refine k_cutW (PP := fun Wx => ∀ (a_14 : Nat → Int32) (d_15 : Nat → Int32) (H : Heap) (locs : List Loc) (ls : Array Slot), wd X (va_A (@HAppend.hAppend va_W va_W va_W _ (xW h0 nw sp xa la lb) (@HAppend.hAppend va_W va_W va_W _ (rcV X nw an sv dv n0 n1 n2 n3 n4 g0 gs gn gm) (@HAppend.hAppend va_W va_W va_W _ (rnV (xa 8) ag dg) (@HAppend.hAppend va_W va_W va_W _ (rnV (xa 9) ar dr) ([((xa 5), .inl (X.2.1, 3, .inl fr))]))))) sz) (va_A (@HAppend.hAppend va_W va_W va_W _ (xW h0 nw sp xa la lb) (@HAppend.hAppend va_W va_W va_W _ (rcV X nw an sv dv n0 n1 n2 n3 n4 g0 gs gn gm) (@HAppend.hAppend va_W va_W va_W _ (rnV (xa 8) ag dg) (@HAppend.hAppend va_W va_W va_W _ (rnV (xa 9) ar dr) ([((xa 5), .inl (X.2.1, 3, .inl fr))]))))) sz) s (@HAppend.hAppend va_W va_W va_W _ (xW h0 nw sp xa la lb) (@HAppend.hAppend va_W va_W va_W _ (rcV X nw an sv dv n0 n1 n2 n3 n4 g0 gs gn gm) (@HAppend.hAppend va_W va_W va_W _ (rnV (xa 8) a_5 d_6) (@HAppend.hAppend va_W va_W va_W _ (rnV (xa 9) a_14 d_15) ([((xa 5), .inl (X.2.1, 3, .inl fr))]))))) H locs → lv_has ls 8 [(0, .ref h0), (1, .int (nI j_1)), (2, .int (nI i_1)), (3, .int x3)] → Wx (F0 m 57 ls []) H locs) ?_ ?_
        · intro join_53
          rcases k_6c (show i_1 < 6 by omega) with q_16 | q_16 | q_16 | q_16 | q_16 | q_16
          · refine k_it (v := 0) (by rw [q_16]; rfl) ?_
            refine r_aald (C := RX8) (b := (an 1)) S G 2 3 rfl rfl (k_vp (by decide)) rfl dX10_close_53 ?_
            refine b_wv (cells' := 0) (slots' := 0) (wr := @HAppend.hAppend va_W va_W va_W _ (xW h0 nw sp xa la lb) (@HAppend.hAppend va_W va_W va_W _ ([(nw, .inr (3, [.int (dv 0), .int (dv 1), .int (nI n0), .ref (an 0), .ref (an 7), .ref (an 9), .ref (an 11), .ref (an 13)])), ((an 0), .inl (X.2.2.2.2, 6, .inr (.inr (.inr (.inr (rowQ an)))))), ((an 2), .inr (6, [.int (sv 3), .int (sv 4), .int (sv 5), .int (dv 15), .int (dv 16), .int (dv 17), .int (dv 18), .int (dv 19)])), ((an 3), .inr (6, [.int (sv 6), .int (sv 7), .int (sv 8), .int (dv 20), .int (dv 21), .int (dv 22), .int (dv 23), .int (dv 24)])), ((an 4), .inr (6, [.int (sv 9), .int (sv 10), .int (sv 11), .int (dv 25), .int (dv 26), .int (dv 27), .int (dv 28), .int (dv 29)])), ((an 5), .inr (6, [.int (sv 12), .int (sv 13), .int (sv 14), .int (dv 30), .int (dv 31), .int (dv 32), .int (dv 33), .int (dv 34)])), ((an 6), .inr (6, [.int (sv 15), .int (sv 16), .int (sv 17), .int (dv 35), .int (dv 36), .int (dv 37), .int (dv 38), .int (dv 39)])), ((an 7), .inr (2, [.ref (an 8), .int (nI n1)])), ((an 8), .inl (X.2.1, 248, .inl g0)), ((an 9), .inr (5, [.int 5, .int 0, .int 1, .ref (an 10), .int (nI n2)])), ((an 10), .inl (X.2.1, 25, .inl gs)), ((an 11), .inr (5, [.int 6, .int 1, .int 1, .ref (an 12), .int (nI n3)])), ((an 12), .inl (X.2.1, 30, .inl gn)), ((an 13), .inr (5, [.int 6, .int 0, .int 0, .ref (an 14), .int (nI n4)])), ((an 14), .inl (X.2.1, 30, .inl gm))]) (@HAppend.hAppend va_W va_W va_W _ (rnV (xa 8) a_5 d_6) ([((xa 5), .inl (X.2.1, 3, .inl fr))])))) G rfl rfl [18, 3] [0, 1, 2, 4, 5, 6, 7, 8, 9, 10, 11, 12, 13, 14, 15, 16, 17, 19] rfl rfl rfl rfl (n_V (As := [.ref (an 1)]) (rest := []) (C := RX8) (T := TX8) (N := 8) (ci := 6) S G (s_rcopy l X (xa 9) ar dr (an 1) (fun k => sv (0 + k)) (fun k => dv (10 + k)) H.size) gX10_close_X8_copyFrom rfl rfl rfl hdV_X8_copyFrom ⟨Nat.le_of_ble_eq_true rfl, Nat.le_of_ble_eq_true rfl⟩ [18, 3] rfl rfl 18 rfl rfl rfl hl.1 (Nat.le_of_ble_eq_true rfl) dX10_close_54 ⟨Nat.le_of_ble_eq_true rfl, Nat.le_of_ble_eq_true rfl⟩) (fun u_17 H locs hp_17 G => ?_)
            obtain ⟨a_17a, d_17b⟩ := u_17
            have hq_17 := hp_17
            have G : wd X (va_A (@HAppend.hAppend va_W va_W va_W _ (xW h0 nw sp xa la lb) (@HAppend.hAppend va_W va_W va_W _ (rcV X nw an sv dv n0 n1 n2 n3 n4 g0 gs gn gm) (@HAppend.hAppend va_W va_W va_W _ (rnV (xa 8) ag dg) (@HAppend.hAppend va_W va_W va_W _ (rnV (xa 9) ar dr) ([((xa 5), .inl (X.2.1, 3, .inl fr))]))))) sz) (va_A (@HAppend.hAppend va_W va_W va_W _ (xW h0 nw sp xa la lb) (@HAppend.hAppend va_W va_W va_W _ (rcV X nw an sv dv n0 n1 n2 n3 n4 g0 gs gn gm) (@HAppend.hAppend va_W va_W va_W _ (rnV (xa 8) ag dg) (@HAppend.hAppend va_W va_W va_W _ (rnV (xa 9) ar dr) ([((xa 5), .inl (X.2.1, 3, .inl fr))]))))) sz) s (@HAppend.hAppend va_W va_W va_W _ (xW h0 nw sp xa la lb) (@HAppend.hAppend va_W va_W va_W _ (rcV X nw an sv dv n0 n1 n2 n3 n4 g0 gs gn gm) (@HAppend.hAppend va_W va_W va_W _ (rnV (xa 8) a_5 d_6) (@HAppend.hAppend va_W va_W va_W _ ([((xa 5), .inl (X.2.1, 3, .inl fr))]) (rnV (xa 9) a_17a d_17b))))) H locs := wd_sub G [0, 1, 2, 19, 3, 4, 5, 6, 7, 8, 9, 10, 11, 12, 13, 14, 15, 16, 17, 18] rfl rfl
            have G : wd X (va_A (@HAppend.hAppend va_W va_W va_W _ (xW h0 nw sp xa la lb) (@HAppend.hAppend va_W va_W va_W _ (rcV X nw an sv dv n0 n1 n2 n3 n4 g0 gs gn gm) (@HAppend.hAppend va_W va_W va_W _ (rnV (xa 8) ag dg) (@HAppend.hAppend va_W va_W va_W _ (rnV (xa 9) ar dr) ([((xa 5), .inl (X.2.1, 3, .inl fr))]))))) sz) (va_A (@HAppend.hAppend va_W va_W va_W _ (xW h0 nw sp xa la lb) (@HAppend.hAppend va_W va_W va_W _ (rcV X nw an sv dv n0 n1 n2 n3 n4 g0 gs gn gm) (@HAppend.hAppend va_W va_W va_W _ (rnV (xa 8) ag dg) (@HAppend.hAppend va_W va_W va_W _ (rnV (xa 9) ar dr) ([((xa 5), .inl (X.2.1, 3, .inl fr))]))))) sz) s (@HAppend.hAppend va_W va_W va_W _ (xW h0 nw sp xa la lb) (@HAppend.hAppend va_W va_W va_W _ (rcV X nw an sv dv n0 n1 n2 n3 n4 g0 gs gn gm) (@HAppend.hAppend va_W va_W va_W _ (rnV (xa 8) a_5 d_6) (@HAppend.hAppend va_W va_W va_W _ (rnV (xa 9) a_17a d_17b) ([((xa 5), .inl (X.2.1, 3, .inl fr))]))))) H locs := wd_sub G [0, 1, 2, 3, 4, 5, 6, 7, 8, 9, 10, 11, 12, 13, 14, 15, 16, 17, 19, 18] rfl rfl
            exact join_53 a_17a d_17b _ _ _  G hl
          · refine k_it (v := 1) (by rw [q_16]; rfl) ?_
            refine r_aald (C := RX8) (b := (an 2)) S G 2 3 rfl rfl (k_vp (by decide)) rfl dX10_close_53 ?_
            refine b_wv (cells' := 0) (slots' := 0) (wr := @HAppend.hAppend va_W va_W va_W _ (xW h0 nw sp xa la lb) (@HAppend.hAppend va_W va_W va_W _ ([(nw, .inr (3, [.int (dv 0), .int (dv 1), .int (nI n0), .ref (an 0), .ref (an 7), .ref (an 9), .ref (an 11), .ref (an 13)])), ((an 0), .inl (X.2.2.2.2, 6, .inr (.inr (.inr (.inr (rowQ an)))))), ((an 1), .inr (6, [.int (sv 0), .int (sv 1), .int (sv 2), .int (dv 10), .int (dv 11), .int (dv 12), .int (dv 13), .int (dv 14)])), ((an 3), .inr (6, [.int (sv 6), .int (sv 7), .int (sv 8), .int (dv 20), .int (dv 21), .int (dv 22), .int (dv 23), .int (dv 24)])), ((an 4), .inr (6, [.int (sv 9), .int (sv 10), .int (sv 11), .int (dv 25), .int (dv 26), .int (dv 27), .int (dv 28), .int (dv 29)])), ((an 5), .inr (6, [.int (sv 12), .int (sv 13), .int (sv 14), .int (dv 30), .int (dv 31), .int (dv 32), .int (dv 33), .int (dv 34)])), ((an 6), .inr (6, [.int (sv 15), .int (sv 16), .int (sv 17), .int (dv 35), .int (dv 36), .int (dv 37), .int (dv 38), .int (dv 39)])), ((an 7), .inr (2, [.ref (an 8), .int (nI n1)])), ((an 8), .inl (X.2.1, 248, .inl g0)), ((an 9), .inr (5, [.int 5, .int 0, .int 1, .ref (an 10), .int (nI n2)])), ((an 10), .inl (X.2.1, 25, .inl gs)), ((an 11), .inr (5, [.int 6, .int 1, .int 1, .ref (an 12), .int (nI n3)])), ((an 12), .inl (X.2.1, 30, .inl gn)), ((an 13), .inr (5, [.int 6, .int 0, .int 0, .ref (an 14), .int (nI n4)])), ((an 14), .inl (X.2.1, 30, .inl gm))]) (@HAppend.hAppend va_W va_W va_W _ (rnV (xa 8) a_5 d_6) ([((xa 5), .inl (X.2.1, 3, .inl fr))])))) G rfl rfl [18, 4] [0, 1, 2, 3, 5, 6, 7, 8, 9, 10, 11, 12, 13, 14, 15, 16, 17, 19] rfl rfl rfl rfl (n_V (As := [.ref (an 2)]) (rest := []) (C := RX8) (T := TX8) (N := 8) (ci := 6) S G (s_rcopy l X (xa 9) ar dr (an 2) (fun k => sv (3 + k)) (fun k => dv (15 + k)) H.size) gX10_close_X8_copyFrom rfl rfl rfl hdV_X8_copyFrom ⟨Nat.le_of_ble_eq_true rfl, Nat.le_of_ble_eq_true rfl⟩ [18, 4] rfl rfl 18 rfl rfl rfl hl.1 (Nat.le_of_ble_eq_true rfl) dX10_close_54 ⟨Nat.le_of_ble_eq_true rfl, Nat.le_of_ble_eq_true rfl⟩) (fun u_18 H locs hp_18 G => ?_)
            obtain ⟨a_18a, d_18b⟩ := u_18
            have hq_18 := hp_18
            have G : wd X (va_A (@HAppend.hAppend va_W va_W va_W _ (xW h0 nw sp xa la lb) (@HAppend.hAppend va_W va_W va_W _ (rcV X nw an sv dv n0 n1 n2 n3 n4 g0 gs gn gm) (@HAppend.hAppend va_W va_W va_W _ (rnV (xa 8) ag dg) (@HAppend.hAppend va_W va_W va_W _ (rnV (xa 9) ar dr) ([((xa 5), .inl (X.2.1, 3, .inl fr))]))))) sz) (va_A (@HAppend.hAppend va_W va_W va_W _ (xW h0 nw sp xa la lb) (@HAppend.hAppend va_W va_W va_W _ (rcV X nw an sv dv n0 n1 n2 n3 n4 g0 gs gn gm) (@HAppend.hAppend va_W va_W va_W _ (rnV (xa 8) ag dg) (@HAppend.hAppend va_W va_W va_W _ (rnV (xa 9) ar dr) ([((xa 5), .inl (X.2.1, 3, .inl fr))]))))) sz) s (@HAppend.hAppend va_W va_W va_W _ (xW h0 nw sp xa la lb) (@HAppend.hAppend va_W va_W va_W _ (rcV X nw an sv dv n0 n1 n2 n3 n4 g0 gs gn gm) (@HAppend.hAppend va_W va_W va_W _ (rnV (xa 8) a_5 d_6) (@HAppend.hAppend va_W va_W va_W _ ([((xa 5), .inl (X.2.1, 3, .inl fr))]) (rnV (xa 9) a_18a d_18b))))) H locs := wd_sub G [0, 1, 2, 3, 19, 4, 5, 6, 7, 8, 9, 10, 11, 12, 13, 14, 15, 16, 17, 18] rfl rfl
            have G : wd X (va_A (@HAppend.hAppend va_W va_W va_W _ (xW h0 nw sp xa la lb) (@HAppend.hAppend va_W va_W va_W _ (rcV X nw an sv dv n0 n1 n2 n3 n4 g0 gs gn gm) (@HAppend.hAppend va_W va_W va_W _ (rnV (xa 8) ag dg) (@HAppend.hAppend va_W va_W va_W _ (rnV (xa 9) ar dr) ([((xa 5), .inl (X.2.1, 3, .inl fr))]))))) sz) (va_A (@HAppend.hAppend va_W va_W va_W _ (xW h0 nw sp xa la lb) (@HAppend.hAppend va_W va_W va_W _ (rcV X nw an sv dv n0 n1 n2 n3 n4 g0 gs gn gm) (@HAppend.hAppend va_W va_W va_W _ (rnV (xa 8) ag dg) (@HAppend.hAppend va_W va_W va_W _ (rnV (xa 9) ar dr) ([((xa 5), .inl (X.2.1, 3, .inl fr))]))))) sz) s (@HAppend.hAppend va_W va_W va_W _ (xW h0 nw sp xa la lb) (@HAppend.hAppend va_W va_W va_W _ (rcV X nw an sv dv n0 n1 n2 n3 n4 g0 gs gn gm) (@HAppend.hAppend va_W va_W va_W _ (rnV (xa 8) a_5 d_6) (@HAppend.hAppend va_W va_W va_W _ (rnV (xa 9) a_18a d_18b) ([((xa 5), .inl (X.2.1, 3, .inl fr))]))))) H locs := wd_sub G [0, 1, 2, 3, 4, 5, 6, 7, 8, 9, 10, 11, 12, 13, 14, 15, 16, 17, 19, 18] rfl rfl
            exact join_53 a_18a d_18b _ _ _  G hl
          · refine k_it (v := 2) (by rw [q_16]; rfl) ?_
            refine r_aald (C := RX8) (b := (an 3)) S G 2 3 rfl rfl (k_vp (by decide)) rfl dX10_close_53 ?_
            refine b_wv (cells' := 0) (slots' := 0) (wr := @HAppend.hAppend va_W va_W va_W _ (xW h0 nw sp xa la lb) (@HAppend.hAppend va_W va_W va_W _ ([(nw, .inr (3, [.int (dv 0), .int (dv 1), .int (nI n0), .ref (an 0), .ref (an 7), .ref (an 9), .ref (an 11), .ref (an 13)])), ((an 0), .inl (X.2.2.2.2, 6, .inr (.inr (.inr (.inr (rowQ an)))))), ((an 1), .inr (6, [.int (sv 0), .int (sv 1), .int (sv 2), .int (dv 10), .int (dv 11), .int (dv 12), .int (dv 13), .int (dv 14)])), ((an 2), .inr (6, [.int (sv 3), .int (sv 4), .int (sv 5), .int (dv 15), .int (dv 16), .int (dv 17), .int (dv 18), .int (dv 19)])), ((an 4), .inr (6, [.int (sv 9), .int (sv 10), .int (sv 11), .int (dv 25), .int (dv 26), .int (dv 27), .int (dv 28), .int (dv 29)])), ((an 5), .inr (6, [.int (sv 12), .int (sv 13), .int (sv 14), .int (dv 30), .int (dv 31), .int (dv 32), .int (dv 33), .int (dv 34)])), ((an 6), .inr (6, [.int (sv 15), .int (sv 16), .int (sv 17), .int (dv 35), .int (dv 36), .int (dv 37), .int (dv 38), .int (dv 39)])), ((an 7), .inr (2, [.ref (an 8), .int (nI n1)])), ((an 8), .inl (X.2.1, 248, .inl g0)), ((an 9), .inr (5, [.int 5, .int 0, .int 1, .ref (an 10), .int (nI n2)])), ((an 10), .inl (X.2.1, 25, .inl gs)), ((an 11), .inr (5, [.int 6, .int 1, .int 1, .ref (an 12), .int (nI n3)])), ((an 12), .inl (X.2.1, 30, .inl gn)), ((an 13), .inr (5, [.int 6, .int 0, .int 0, .ref (an 14), .int (nI n4)])), ((an 14), .inl (X.2.1, 30, .inl gm))]) (@HAppend.hAppend va_W va_W va_W _ (rnV (xa 8) a_5 d_6) ([((xa 5), .inl (X.2.1, 3, .inl fr))])))) G rfl rfl [18, 5] [0, 1, 2, 3, 4, 6, 7, 8, 9, 10, 11, 12, 13, 14, 15, 16, 17, 19] rfl rfl rfl rfl (n_V (As := [.ref (an 3)]) (rest := []) (C := RX8) (T := TX8) (N := 8) (ci := 6) S G (s_rcopy l X (xa 9) ar dr (an 3) (fun k => sv (6 + k)) (fun k => dv (20 + k)) H.size) gX10_close_X8_copyFrom rfl rfl rfl hdV_X8_copyFrom ⟨Nat.le_of_ble_eq_true rfl, Nat.le_of_ble_eq_true rfl⟩ [18, 5] rfl rfl 18 rfl rfl rfl hl.1 (Nat.le_of_ble_eq_true rfl) dX10_close_54 ⟨Nat.le_of_ble_eq_true rfl, Nat.le_of_ble_eq_true rfl⟩) (fun u_19 H locs hp_19 G => ?_)
            obtain ⟨a_19a, d_19b⟩ := u_19
            have hq_19 := hp_19
            have G : wd X (va_A (@HAppend.hAppend va_W va_W va_W _ (xW h0 nw sp xa la lb) (@HAppend.hAppend va_W va_W va_W _ (rcV X nw an sv dv n0 n1 n2 n3 n4 g0 gs gn gm) (@HAppend.hAppend va_W va_W va_W _ (rnV (xa 8) ag dg) (@HAppend.hAppend va_W va_W va_W _ (rnV (xa 9) ar dr) ([((xa 5), .inl (X.2.1, 3, .inl fr))]))))) sz) (va_A (@HAppend.hAppend va_W va_W va_W _ (xW h0 nw sp xa la lb) (@HAppend.hAppend va_W va_W va_W _ (rcV X nw an sv dv n0 n1 n2 n3 n4 g0 gs gn gm) (@HAppend.hAppend va_W va_W va_W _ (rnV (xa 8) ag dg) (@HAppend.hAppend va_W va_W va_W _ (rnV (xa 9) ar dr) ([((xa 5), .inl (X.2.1, 3, .inl fr))]))))) sz) s (@HAppend.hAppend va_W va_W va_W _ (xW h0 nw sp xa la lb) (@HAppend.hAppend va_W va_W va_W _ (rcV X nw an sv dv n0 n1 n2 n3 n4 g0 gs gn gm) (@HAppend.hAppend va_W va_W va_W _ (rnV (xa 8) a_5 d_6) (@HAppend.hAppend va_W va_W va_W _ ([((xa 5), .inl (X.2.1, 3, .inl fr))]) (rnV (xa 9) a_19a d_19b))))) H locs := wd_sub G [0, 1, 2, 3, 4, 19, 5, 6, 7, 8, 9, 10, 11, 12, 13, 14, 15, 16, 17, 18] rfl rfl
            have G : wd X (va_A (@HAppend.hAppend va_W va_W va_W _ (xW h0 nw sp xa la lb) (@HAppend.hAppend va_W va_W va_W _ (rcV X nw an sv dv n0 n1 n2 n3 n4 g0 gs gn gm) (@HAppend.hAppend va_W va_W va_W _ (rnV (xa 8) ag dg) (@HAppend.hAppend va_W va_W va_W _ (rnV (xa 9) ar dr) ([((xa 5), .inl (X.2.1, 3, .inl fr))]))))) sz) (va_A (@HAppend.hAppend va_W va_W va_W _ (xW h0 nw sp xa la lb) (@HAppend.hAppend va_W va_W va_W _ (rcV X nw an sv dv n0 n1 n2 n3 n4 g0 gs gn gm) (@HAppend.hAppend va_W va_W va_W _ (rnV (xa 8) ag dg) (@HAppend.hAppend va_W va_W va_W _ (rnV (xa 9) ar dr) ([((xa 5), .inl (X.2.1, 3, .inl fr))]))))) sz) s (@HAppend.hAppend va_W va_W va_W _ (xW h0 nw sp xa la lb) (@HAppend.hAppend va_W va_W va_W _ (rcV X nw an sv dv n0 n1 n2 n3 n4 g0 gs gn gm) (@HAppend.hAppend va_W va_W va_W _ (rnV (xa 8) a_5 d_6) (@HAppend.hAppend va_W va_W va_W _ (rnV (xa 9) a_19a d_19b) ([((xa 5), .inl (X.2.1, 3, .inl fr))]))))) H locs := wd_sub G [0, 1, 2, 3, 4, 5, 6, 7, 8, 9, 10, 11, 12, 13, 14, 15, 16, 17, 19, 18] rfl rfl
            exact join_53 a_19a d_19b _ _ _  G hl
          · refine k_it (v := 3) (by rw [q_16]; rfl) ?_
            refine r_aald (C := RX8) (b := (an 4)) S G 2 3 rfl rfl (k_vp (by decide)) rfl dX10_close_53 ?_
            refine b_wv (cells' := 0) (slots' := 0) (wr := @HAppend.hAppend va_W va_W va_W _ (xW h0 nw sp xa la lb) (@HAppend.hAppend va_W va_W va_W _ ([(nw, .inr (3, [.int (dv 0), .int (dv 1), .int (nI n0), .ref (an 0), .ref (an 7), .ref (an 9), .ref (an 11), .ref (an 13)])), ((an 0), .inl (X.2.2.2.2, 6, .inr (.inr (.inr (.inr (rowQ an)))))), ((an 1), .inr (6, [.int (sv 0), .int (sv 1), .int (sv 2), .int (dv 10), .int (dv 11), .int (dv 12), .int (dv 13), .int (dv 14)])), ((an 2), .inr (6, [.int (sv 3), .int (sv 4), .int (sv 5), .int (dv 15), .int (dv 16), .int (dv 17), .int (dv 18), .int (dv 19)])), ((an 3), .inr (6, [.int (sv 6), .int (sv 7), .int (sv 8), .int (dv 20), .int (dv 21), .int (dv 22), .int (dv 23), .int (dv 24)])), ((an 5), .inr (6, [.int (sv 12), .int (sv 13), .int (sv 14), .int (dv 30), .int (dv 31), .int (dv 32), .int (dv 33), .int (dv 34)])), ((an 6), .inr (6, [.int (sv 15), .int (sv 16), .int (sv 17), .int (dv 35), .int (dv 36), .int (dv 37), .int (dv 38), .int (dv 39)])), ((an 7), .inr (2, [.ref (an 8), .int (nI n1)])), ((an 8), .inl (X.2.1, 248, .inl g0)), ((an 9), .inr (5, [.int 5, .int 0, .int 1, .ref (an 10), .int (nI n2)])), ((an 10), .inl (X.2.1, 25, .inl gs)), ((an 11), .inr (5, [.int 6, .int 1, .int 1, .ref (an 12), .int (nI n3)])), ((an 12), .inl (X.2.1, 30, .inl gn)), ((an 13), .inr (5, [.int 6, .int 0, .int 0, .ref (an 14), .int (nI n4)])), ((an 14), .inl (X.2.1, 30, .inl gm))]) (@HAppend.hAppend va_W va_W va_W _ (rnV (xa 8) a_5 d_6) ([((xa 5), .inl (X.2.1, 3, .inl fr))])))) G rfl rfl [18, 6] [0, 1, 2, 3, 4, 5, 7, 8, 9, 10, 11, 12, 13, 14, 15, 16, 17, 19] rfl rfl rfl rfl (n_V (As := [.ref (an 4)]) (rest := []) (C := RX8) (T := TX8) (N := 8) (ci := 6) S G (s_rcopy l X (xa 9) ar dr (an 4) (fun k => sv (9 + k)) (fun k => dv (25 + k)) H.size) gX10_close_X8_copyFrom rfl rfl rfl hdV_X8_copyFrom ⟨Nat.le_of_ble_eq_true rfl, Nat.le_of_ble_eq_true rfl⟩ [18, 6] rfl rfl 18 rfl rfl rfl hl.1 (Nat.le_of_ble_eq_true rfl) dX10_close_54 ⟨Nat.le_of_ble_eq_true rfl, Nat.le_of_ble_eq_true rfl⟩) (fun u_20 H locs hp_20 G => ?_)
            obtain ⟨a_20a, d_20b⟩ := u_20
            have hq_20 := hp_20
            have G : wd X (va_A (@HAppend.hAppend va_W va_W va_W _ (xW h0 nw sp xa la lb) (@HAppend.hAppend va_W va_W va_W _ (rcV X nw an sv dv n0 n1 n2 n3 n4 g0 gs gn gm) (@HAppend.hAppend va_W va_W va_W _ (rnV (xa 8) ag dg) (@HAppend.hAppend va_W va_W va_W _ (rnV (xa 9) ar dr) ([((xa 5), .inl (X.2.1, 3, .inl fr))]))))) sz) (va_A (@HAppend.hAppend va_W va_W va_W _ (xW h0 nw sp xa la lb) (@HAppend.hAppend va_W va_W va_W _ (rcV X nw an sv dv n0 n1 n2 n3 n4 g0 gs gn gm) (@HAppend.hAppend va_W va_W va_W _ (rnV (xa 8) ag dg) (@HAppend.hAppend va_W va_W va_W _ (rnV (xa 9) ar dr) ([((xa 5), .inl (X.2.1, 3, .inl fr))]))))) sz) s (@HAppend.hAppend va_W va_W va_W _ (xW h0 nw sp xa la lb) (@HAppend.hAppend va_W va_W va_W _ (rcV X nw an sv dv n0 n1 n2 n3 n4 g0 gs gn gm) (@HAppend.hAppend va_W va_W va_W _ (rnV (xa 8) a_5 d_6) (@HAppend.hAppend va_W va_W va_W _ ([((xa 5), .inl (X.2.1, 3, .inl fr))]) (rnV (xa 9) a_20a d_20b))))) H locs := wd_sub G [0, 1, 2, 3, 4, 5, 19, 6, 7, 8, 9, 10, 11, 12, 13, 14, 15, 16, 17, 18] rfl rfl
            have G : wd X (va_A (@HAppend.hAppend va_W va_W va_W _ (xW h0 nw sp xa la lb) (@HAppend.hAppend va_W va_W va_W _ (rcV X nw an sv dv n0 n1 n2 n3 n4 g0 gs gn gm) (@HAppend.hAppend va_W va_W va_W _ (rnV (xa 8) ag dg) (@HAppend.hAppend va_W va_W va_W _ (rnV (xa 9) ar dr) ([((xa 5), .inl (X.2.1, 3, .inl fr))]))))) sz) (va_A (@HAppend.hAppend va_W va_W va_W _ (xW h0 nw sp xa la lb) (@HAppend.hAppend va_W va_W va_W _ (rcV X nw an sv dv n0 n1 n2 n3 n4 g0 gs gn gm) (@HAppend.hAppend va_W va_W va_W _ (rnV (xa 8) ag dg) (@HAppend.hAppend va_W va_W va_W _ (rnV (xa 9) ar dr) ([((xa 5), .inl (X.2.1, 3, .inl fr))]))))) sz) s (@HAppend.hAppend va_W va_W va_W _ (xW h0 nw sp xa la lb) (@HAppend.hAppend va_W va_W va_W _ (rcV X nw an sv dv n0 n1 n2 n3 n4 g0 gs gn gm) (@HAppend.hAppend va_W va_W va_W _ (rnV (xa 8) a_5 d_6) (@HAppend.hAppend va_W va_W va_W _ (rnV (xa 9) a_20a d_20b) ([((xa 5), .inl (X.2.1, 3, .inl fr))]))))) H locs := wd_sub G [0, 1, 2, 3, 4, 5, 6, 7, 8, 9, 10, 11, 12, 13, 14, 15, 16, 17, 19, 18] rfl rfl
            exact join_53 a_20a d_20b _ _ _  G hl
          · refine k_it (v := 4) (by rw [q_16]; rfl) ?_
            refine r_aald (C := RX8) (b := (an 5)) S G 2 3 rfl rfl (k_vp (by decide)) rfl dX10_close_53 ?_
            refine b_wv (cells' := 0) (slots' := 0) (wr := @HAppend.hAppend va_W va_W va_W _ (xW h0 nw sp xa la lb) (@HAppend.hAppend va_W va_W va_W _ ([(nw, .inr (3, [.int (dv 0), .int (dv 1), .int (nI n0), .ref (an 0), .ref (an 7), .ref (an 9), .ref (an 11), .ref (an 13)])), ((an 0), .inl (X.2.2.2.2, 6, .inr (.inr (.inr (.inr (rowQ an)))))), ((an 1), .inr (6, [.int (sv 0), .int (sv 1), .int (sv 2), .int (dv 10), .int (dv 11), .int (dv 12), .int (dv 13), .int (dv 14)])), ((an 2), .inr (6, [.int (sv 3), .int (sv 4), .int (sv 5), .int (dv 15), .int (dv 16), .int (dv 17), .int (dv 18), .int (dv 19)])), ((an 3), .inr (6, [.int (sv 6), .int (sv 7), .int (sv 8), .int (dv 20), .int (dv 21), .int (dv 22), .int (dv 23), .int (dv 24)])), ((an 4), .inr (6, [.int (sv 9), .int (sv 10), .int (sv 11), .int (dv 25), .int (dv 26), .int (dv 27), .int (dv 28), .int (dv 29)])), ((an 6), .inr (6, [.int (sv 15), .int (sv 16), .int (sv 17), .int (dv 35), .int (dv 36), .int (dv 37), .int (dv 38), .int (dv 39)])), ((an 7), .inr (2, [.ref (an 8), .int (nI n1)])), ((an 8), .inl (X.2.1, 248, .inl g0)), ((an 9), .inr (5, [.int 5, .int 0, .int 1, .ref (an 10), .int (nI n2)])), ((an 10), .inl (X.2.1, 25, .inl gs)), ((an 11), .inr (5, [.int 6, .int 1, .int 1, .ref (an 12), .int (nI n3)])), ((an 12), .inl (X.2.1, 30, .inl gn)), ((an 13), .inr (5, [.int 6, .int 0, .int 0, .ref (an 14), .int (nI n4)])), ((an 14), .inl (X.2.1, 30, .inl gm))]) (@HAppend.hAppend va_W va_W va_W _ (rnV (xa 8) a_5 d_6) ([((xa 5), .inl (X.2.1, 3, .inl fr))])))) G rfl rfl [18, 7] [0, 1, 2, 3, 4, 5, 6, 8, 9, 10, 11, 12, 13, 14, 15, 16, 17, 19] rfl rfl rfl rfl (n_V (As := [.ref (an 5)]) (rest := []) (C := RX8) (T := TX8) (N := 8) (ci := 6) S G (s_rcopy l X (xa 9) ar dr (an 5) (fun k => sv (12 + k)) (fun k => dv (30 + k)) H.size) gX10_close_X8_copyFrom rfl rfl rfl hdV_X8_copyFrom ⟨Nat.le_of_ble_eq_true rfl, Nat.le_of_ble_eq_true rfl⟩ [18, 7] rfl rfl 18 rfl rfl rfl hl.1 (Nat.le_of_ble_eq_true rfl) dX10_close_54 ⟨Nat.le_of_ble_eq_true rfl, Nat.le_of_ble_eq_true rfl⟩) (fun u_21 H locs hp_21 G => ?_)
            obtain ⟨a_21a, d_21b⟩ := u_21
            have hq_21 := hp_21
            have G : wd X (va_A (@HAppend.hAppend va_W va_W va_W _ (xW h0 nw sp xa la lb) (@HAppend.hAppend va_W va_W va_W _ (rcV X nw an sv dv n0 n1 n2 n3 n4 g0 gs gn gm) (@HAppend.hAppend va_W va_W va_W _ (rnV (xa 8) ag dg) (@HAppend.hAppend va_W va_W va_W _ (rnV (xa 9) ar dr) ([((xa 5), .inl (X.2.1, 3, .inl fr))]))))) sz) (va_A (@HAppend.hAppend va_W va_W va_W _ (xW h0 nw sp xa la lb) (@HAppend.hAppend va_W va_W va_W _ (rcV X nw an sv dv n0 n1 n2 n3 n4 g0 gs gn gm) (@HAppend.hAppend va_W va_W va_W _ (rnV (xa 8) ag dg) (@HAppend.hAppend va_W va_W va_W _ (rnV (xa 9) ar dr) ([((xa 5), .inl (X.2.1, 3, .inl fr))]))))) sz) s (@HAppend.hAppend va_W va_W va_W _ (xW h0 nw sp xa la lb) (@HAppend.hAppend va_W va_W va_W _ (rcV X nw an sv dv n0 n1 n2 n3 n4 g0 gs gn gm) (@HAppend.hAppend va_W va_W va_W _ (rnV (xa 8) a_5 d_6) (@HAppend.hAppend va_W va_W va_W _ ([((xa 5), .inl (X.2.1, 3, .inl fr))]) (rnV (xa 9) a_21a d_21b))))) H locs := wd_sub G [0, 1, 2, 3, 4, 5, 6, 19, 7, 8, 9, 10, 11, 12, 13, 14, 15, 16, 17, 18] rfl rfl
            have G : wd X (va_A (@HAppend.hAppend va_W va_W va_W _ (xW h0 nw sp xa la lb) (@HAppend.hAppend va_W va_W va_W _ (rcV X nw an sv dv n0 n1 n2 n3 n4 g0 gs gn gm) (@HAppend.hAppend va_W va_W va_W _ (rnV (xa 8) ag dg) (@HAppend.hAppend va_W va_W va_W _ (rnV (xa 9) ar dr) ([((xa 5), .inl (X.2.1, 3, .inl fr))]))))) sz) (va_A (@HAppend.hAppend va_W va_W va_W _ (xW h0 nw sp xa la lb) (@HAppend.hAppend va_W va_W va_W _ (rcV X nw an sv dv n0 n1 n2 n3 n4 g0 gs gn gm) (@HAppend.hAppend va_W va_W va_W _ (rnV (xa 8) ag dg) (@HAppend.hAppend va_W va_W va_W _ (rnV (xa 9) ar dr) ([((xa 5), .inl (X.2.1, 3, .inl fr))]))))) sz) s (@HAppend.hAppend va_W va_W va_W _ (xW h0 nw sp xa la lb) (@HAppend.hAppend va_W va_W va_W _ (rcV X nw an sv dv n0 n1 n2 n3 n4 g0 gs gn gm) (@HAppend.hAppend va_W va_W va_W _ (rnV (xa 8) a_5 d_6) (@HAppend.hAppend va_W va_W va_W _ (rnV (xa 9) a_21a d_21b) ([((xa 5), .inl (X.2.1, 3, .inl fr))]))))) H locs := wd_sub G [0, 1, 2, 3, 4, 5, 6, 7, 8, 9, 10, 11, 12, 13, 14, 15, 16, 17, 19, 18] rfl rfl
            exact join_53 a_21a d_21b _ _ _  G hl
          · refine k_it (v := 5) (by rw [q_16]; rfl) ?_
            refine r_aald (C := RX8) (b := (an 6)) S G 2 3 rfl rfl (k_vp (by decide)) rfl dX10_close_53 ?_
            refine b_wv (cells' := 0) (slots' := 0) (wr := @HAppend.hAppend va_W va_W va_W _ (xW h0 nw sp xa la lb) (@HAppend.hAppend va_W va_W va_W _ ([(nw, .inr (3, [.int (dv 0), .int (dv 1), .int (nI n0), .ref (an 0), .ref (an 7), .ref (an 9), .ref (an 11), .ref (an 13)])), ((an 0), .inl (X.2.2.2.2, 6, .inr (.inr (.inr (.inr (rowQ an)))))), ((an 1), .inr (6, [.int (sv 0), .int (sv 1), .int (sv 2), .int (dv 10), .int (dv 11), .int (dv 12), .int (dv 13), .int (dv 14)])), ((an 2), .inr (6, [.int (sv 3), .int (sv 4), .int (sv 5), .int (dv 15), .int (dv 16), .int (dv 17), .int (dv 18), .int (dv 19)])), ((an 3), .inr (6, [.int (sv 6), .int (sv 7), .int (sv 8), .int (dv 20), .int (dv 21), .int (dv 22), .int (dv 23), .int (dv 24)])), ((an 4), .inr (6, [.int (sv 9), .int (sv 10), .int (sv 11), .int (dv 25), .int (dv 26), .int (dv 27), .int (dv 28), .int (dv 29)])), ((an 5), .inr (6, [.int (sv 12), .int (sv 13), .int (sv 14), .int (dv 30), .int (dv 31), .int (dv 32), .int (dv 33), .int (dv 34)])), ((an 7), .inr (2, [.ref (an 8), .int (nI n1)])), ((an 8), .inl (X.2.1, 248, .inl g0)), ((an 9), .inr (5, [.int 5, .int 0, .int 1, .ref (an 10), .int (nI n2)])), ((an 10), .inl (X.2.1, 25, .inl gs)), ((an 11), .inr (5, [.int 6, .int 1, .int 1, .ref (an 12), .int (nI n3)])), ((an 12), .inl (X.2.1, 30, .inl gn)), ((an 13), .inr (5, [.int 6, .int 0, .int 0, .ref (an 14), .int (nI n4)])), ((an 14), .inl (X.2.1, 30, .inl gm))]) (@HAppend.hAppend va_W va_W va_W _ (rnV (xa 8) a_5 d_6) ([((xa 5), .inl (X.2.1, 3, .inl fr))])))) G rfl rfl [18, 8] [0, 1, 2, 3, 4, 5, 6, 7, 9, 10, 11, 12, 13, 14, 15, 16, 17, 19] rfl rfl rfl rfl (n_V (As := [.ref (an 6)]) (rest := []) (C := RX8) (T := TX8) (N := 8) (ci := 6) S G (s_rcopy l X (xa 9) ar dr (an 6) (fun k => sv (15 + k)) (fun k => dv (35 + k)) H.size) gX10_close_X8_copyFrom rfl rfl rfl hdV_X8_copyFrom ⟨Nat.le_of_ble_eq_true rfl, Nat.le_of_ble_eq_true rfl⟩ [18, 8] rfl rfl 18 rfl rfl rfl hl.1 (Nat.le_of_ble_eq_true rfl) dX10_close_54 ⟨Nat.le_of_ble_eq_true rfl, Nat.le_of_ble_eq_true rfl⟩) (fun u_22 H locs hp_22 G => ?_)
            obtain ⟨a_22a, d_22b⟩ := u_22
            have hq_22 := hp_22
            have G : wd X (va_A (@HAppend.hAppend va_W va_W va_W _ (xW h0 nw sp xa la lb) (@HAppend.hAppend va_W va_W va_W _ (rcV X nw an sv dv n0 n1 n2 n3 n4 g0 gs gn gm) (@HAppend.hAppend va_W va_W va_W _ (rnV (xa 8) ag dg) (@HAppend.hAppend va_W va_W va_W _ (rnV (xa 9) ar dr) ([((xa 5), .inl (X.2.1, 3, .inl fr))]))))) sz) (va_A (@HAppend.hAppend va_W va_W va_W _ (xW h0 nw sp xa la lb) (@HAppend.hAppend va_W va_W va_W _ (rcV X nw an sv dv n0 n1 n2 n3 n4 g0 gs gn gm) (@HAppend.hAppend va_W va_W va_W _ (rnV (xa 8) ag dg) (@HAppend.hAppend va_W va_W va_W _ (rnV (xa 9) ar dr) ([((xa 5), .inl (X.2.1, 3, .inl fr))]))))) sz) s (@HAppend.hAppend va_W va_W va_W _ (xW h0 nw sp xa la lb) (@HAppend.hAppend va_W va_W va_W _ (rcV X nw an sv dv n0 n1 n2 n3 n4 g0 gs gn gm) (@HAppend.hAppend va_W va_W va_W _ (rnV (xa 8) a_5 d_6) (@HAppend.hAppend va_W va_W va_W _ ([((xa 5), .inl (X.2.1, 3, .inl fr))]) (rnV (xa 9) a_22a d_22b))))) H locs := wd_sub G [0, 1, 2, 3, 4, 5, 6, 7, 19, 8, 9, 10, 11, 12, 13, 14, 15, 16, 17, 18] rfl rfl
            have G : wd X (va_A (@HAppend.hAppend va_W va_W va_W _ (xW h0 nw sp xa la lb) (@HAppend.hAppend va_W va_W va_W _ (rcV X nw an sv dv n0 n1 n2 n3 n4 g0 gs gn gm) (@HAppend.hAppend va_W va_W va_W _ (rnV (xa 8) ag dg) (@HAppend.hAppend va_W va_W va_W _ (rnV (xa 9) ar dr) ([((xa 5), .inl (X.2.1, 3, .inl fr))]))))) sz) (va_A (@HAppend.hAppend va_W va_W va_W _ (xW h0 nw sp xa la lb) (@HAppend.hAppend va_W va_W va_W _ (rcV X nw an sv dv n0 n1 n2 n3 n4 g0 gs gn gm) (@HAppend.hAppend va_W va_W va_W _ (rnV (xa 8) ag dg) (@HAppend.hAppend va_W va_W va_W _ (rnV (xa 9) ar dr) ([((xa 5), .inl (X.2.1, 3, .inl fr))]))))) sz) s (@HAppend.hAppend va_W va_W va_W _ (xW h0 nw sp xa la lb) (@HAppend.hAppend va_W va_W va_W _ (rcV X nw an sv dv n0 n1 n2 n3 n4 g0 gs gn gm) (@HAppend.hAppend va_W va_W va_W _ (rnV (xa 8) a_5 d_6) (@HAppend.hAppend va_W va_W va_W _ (rnV (xa 9) a_22a d_22b) ([((xa 5), .inl (X.2.1, 3, .inl fr))]))))) H locs := wd_sub G [0, 1, 2, 3, 4, 5, 6, 7, 8, 9, 10, 11, 12, 13, 14, 15, 16, 17, 19, 18] rfl rfl
            exact join_53 a_22a d_22b _ _ _  G hl
        · intro a_14 d_15 H locs ls  G hl
          refine lv_iconst (v := 0) zx zb dX10_close_57 (by decide) ?_
          refine lv_istore (lv' := [(4, .int 0), (0, .ref h0), (1, .int (nI j_1)), (2, .int (nI i_1)), (3, .int x3)]) zx zb dX10_close_58 hl (by decide) rfl (fun ls hl => ?_)
          refine lv_aload_n zx zb dX10_close_60 rfl (lv_at hl 1 rfl) ?_
          refine r_get (C := RX10) (T := TX10) (N := 14) (ci := 8) (v := .ref (xa 8)) S in_X10_close_X10 G 0 rfl rfl 8 (by decide) lk_X10_close_48 rfl dX10_close_61 ?_
          refine r_get (C := RX8) (T := TX8) (N := 8) (ci := 6) (v := .int (d_6 1)) S in_X10_close_X8 G 17 rfl rfl 4 (by decide) lk_X10_close_137 rfl dX10_close_64 ?_
          refine lv_aload_n zx zb dX10_close_67 rfl (lv_at hl 1 rfl) ?_
          refine r_get (C := RX10) (T := TX10) (N := 14) (ci := 8) (v := .ref (xa 9)) S in_X10_close_X10 G 0 rfl rfl 9 (by decide) lk_X10_close_52 rfl dX10_close_68 ?_
          refine r_get (C := RX8) (T := TX8) (N := 8) (ci := 6) (v := .int (d_15 1)) S in_X10_close_X8 G 18 rfl rfl 4 (by decide) lk_X10_close_137 rfl dX10_close_71 ?_
          refine r_isub (v := ((d_6 1) - (d_15 1))) S rfl dX10_close_74 ?_
          refine r_mabsE S hl.1 mm_X10_close_ml176 mm_X10_close_msabs mm_X10_close_mi mm_X10_close_mcabs (Nat.le_of_ble_eq_true rfl) (Nat.le_of_ble_eq_true rfl) (Nat.zero_le _) (Nat.zero_le _) dX10_close_75 (fun y_23 => ?_)
          refine lv_istore (lv' := [(5, .int y_23), (4, .int 0), (0, .ref h0), (1, .int (nI j_1)), (2, .int (nI i_1)), (3, .int x3)]) zx zb dX10_close_78 hl (by decide) rfl (fun ls hl => ?_)
          refine lv_iconst (v := 1) zx zb dX10_close_80 (by decide) ?_
          refine lv_istore (lv' := [(6, .int 1), (5, .int y_23), (4, .int 0), (0, .ref h0), (1, .int (nI j_1)), (2, .int (nI i_1)), (3, .int x3)]) zx zb dX10_close_81 hl (by decide) rfl (fun ls hl => ?_)
          refine k_loop (P := ∀ (zm : Nat) (k83 : Nat) (x83_5 : Int32) (x83_4 : Int32) (d83_2 : Nat → Int32) (d83_3 : Nat → Int32) (H : Heap) (locs : List Loc) (ls : Array Slot), 61 + 1 ≤ k83 + zm → (k83 ≤ 61) → wd X (va_A (@HAppend.hAppend va_W va_W va_W _ (xW h0 nw sp xa la lb) (@HAppend.hAppend va_W va_W va_W _ (rcV X nw an sv dv n0 n1 n2 n3 n4 g0 gs gn gm) (@HAppend.hAppend va_W va_W va_W _ (rnV (xa 8) ag dg) (@HAppend.hAppend va_W va_W va_W _ (rnV (xa 9) ar dr) ([((xa 5), .inl (X.2.1, 3, .inl fr))]))))) sz) (va_A (@HAppend.hAppend va_W va_W va_W _ (xW h0 nw sp xa la lb) (@HAppend.hAppend va_W va_W va_W _ (rcV X nw an sv dv n0 n1 n2 n3 n4 g0 gs gn gm) (@HAppend.hAppend va_W va_W va_W _ (rnV (xa 8) ag dg) (@HAppend.hAppend va_W va_W va_W _ (rnV (xa 9) ar dr) ([((xa 5), .inl (X.2.1, 3, .inl fr))]))))) sz) s (@HAppend.hAppend va_W va_W va_W _ (xW h0 nw sp xa la lb) (@HAppend.hAppend va_W va_W va_W _ (rcV X nw an sv dv n0 n1 n2 n3 n4 g0 gs gn gm) (@HAppend.hAppend va_W va_W va_W _ (rnV (xa 8) a_5 d83_2) (@HAppend.hAppend va_W va_W va_W _ (rnV (xa 9) a_14 d83_3) ([((xa 5), .inl (X.2.1, 3, .inl fr))]))))) H locs → lv_has ls 8 [(6, .int (nI k83)), (5, .int x83_5), (4, .int x83_4), (0, .ref h0), (1, .int (nI j_1)), (2, .int (nI i_1)), (3, .int x3)] → W p l e _ s m _ below meth c H locs _ _ _ (F0 m 83 ls [])) (fun loop => loop (61 + 1) 1 y_23 0 d_6 d_15 _ _ _ (by omega) (by omega) G hl) ?_
          intro zm
          induction zm with
          | zero => intro k83 x83_5 x83_4 d83_2 d83_3 H locs ls zz q_hk_k83 _ _; exact absurd zz (by omega)
          | succ zm ih83 =>
            intro k83 x83_5 x83_4 d83_2 d83_3 H locs ls zm_83 hk_k83 G hl
            refine lv_iload zx zb dX10_close_83 (lv_at hl 0 rfl) ?_
            refine lv_bipush (v := 60) zx zb dX10_close_85 (by decide) ?_
            refine lv_icmp_gt (tgt := 179) zx zb dX10_close_87 (by decide) (fun c_24 => ?_) (fun c_24 => ?_)
            · have fc_24 := j_lt (a := 60) (b := k83) (by omega) (by omega) c_24
              refine lv_iload_n zx zb dX10_close_179 rfl (lv_at hl 6 rfl) ?_
              refine k_cutW (PP := fun Wx => ∀ (x_26 : Int32) (H : Heap) (locs : List Loc) (ls : Array Slot), wd X (va_A (@HAppend.hAppend va_W va_W va_W _ (xW h0 nw sp xa la lb) (@HAppend.hAppend va_W va_W va_W _ (rcV X nw an sv dv n0 n1 n2 n3 n4 g0 gs gn gm) (@HAppend.hAppend va_W va_W va_W _ (rnV (xa 8) ag dg) (@HAppend.hAppend va_W va_W va_W _ (rnV (xa 9) ar dr) ([((xa 5), .inl (X.2.1, 3, .inl fr))]))))) sz) (va_A (@HAppend.hAppend va_W va_W va_W _ (xW h0 nw sp xa la lb) (@HAppend.hAppend va_W va_W va_W _ (rcV X nw an sv dv n0 n1 n2 n3 n4 g0 gs gn gm) (@HAppend.hAppend va_W va_W va_W _ (rnV (xa 8) ag dg) (@HAppend.hAppend va_W va_W va_W _ (rnV (xa 9) ar dr) ([((xa 5), .inl (X.2.1, 3, .inl fr))]))))) sz) s (@HAppend.hAppend va_W va_W va_W _ (xW h0 nw sp xa la lb) (@HAppend.hAppend va_W va_W va_W _ (rcV X nw an sv dv n0 n1 n2 n3 n4 g0 gs gn gm) (@HAppend.hAppend va_W va_W va_W _ (rnV (xa 8) a_5 d83_2) (@HAppend.hAppend va_W va_W va_W _ (rnV (xa 9) a_14 d83_3) ([((xa 5), .inl (X.2.1, 3, .inl fr))]))))) H locs → lv_has ls 8 [(6, .int (nI k83)), (5, .int x83_5), (4, .int x83_4), (0, .ref h0), (1, .int (nI j_1)), (2, .int (nI i_1)), (3, .int x3)] → Wx (F0 m 190 ls [.int x_26]) H locs) ?_ ?_
              · intro join_180
                refine lv_if_ne (tgt := 188) zx zb dX10_close_180 (by decide) (fun c_25 => ?_) (fun c_25 => ?_)
                · refine lv_iload zx zb dX10_close_188 (lv_at hl 1 rfl) ?_
                  exact join_180 x83_5 _ _ _  G hl
                · refine lv_iload zx zb dX10_close_183 (lv_at hl 2 rfl) ?_
                  refine lv_goto (tgt := 190) zx zb dX10_close_185 (by decide) ?_
                  exact join_180 x83_4 _ _ _  G hl
              · intro x_26 H locs ls  G hl
                exact e_int S zr zlk (vp_nar_int _) G (a_5, d83_2, a_14, d83_3, fr) [0, 1, 2, 3, 4, 5, 6, 7, 8, 9, 10, 11, 12, 13, 14, 15, 16, 17, 18, 19] rfl rfl (Or.inr rfl) (trivial) dX10_close_190
            · have fc_24 := j_nlt (a := 60) (b := k83) (by omega) (by omega) c_24
              refine lv_aload_n zx zb dX10_close_90 rfl (lv_at hl 3 rfl) ?_
              refine r_get (C := RX10) (T := TX10) (N := 14) (ci := 8) (v := .ref (xa 8)) S in_X10_close_X10 G 0 rfl rfl 8 (by decide) lk_X10_close_48 rfl dX10_close_91 ?_
              refine lv_aload_n zx zb dX10_close_94 rfl (lv_at hl 3 rfl) ?_
              refine r_get (C := RX10) (T := TX10) (N := 14) (ci := 8) (v := .ref nw) S in_X10_close_X10 G 0 rfl rfl 0 (by decide) lk_X10_close_10 rfl dX10_close_95 ?_
              refine r_get (C := RX5) (T := TX5) (N := 8) (ci := 3) (v := .int (dv 1)) S in_X10_close_X5 G 1 rfl rfl 1 (by decide) lk_X10_close_110 rfl dX10_close_98 ?_
              refine lv_iload zx zb dX10_close_101 (lv_at hl 0 rfl) ?_
              refine r_iadd (v := ((dv 1) + (nI k83))) S rfl dX10_close_103 ?_
              refine lv_aload_n zx zb dX10_close_104 rfl (lv_at hl 3 rfl) ?_
              refine r_get (C := RX10) (T := TX10) (N := 14) (ci := 8) (v := .ref nw) S in_X10_close_X10 G 0 rfl rfl 0 (by decide) lk_X10_close_10 rfl dX10_close_105 ?_
              refine r_get (C := RX5) (T := TX5) (N := 8) (ci := 3) (v := .int (dv 0)) S in_X10_close_X5 G 1 rfl rfl 0 (by decide) lk_X10_close_140 rfl dX10_close_108 ?_
              refine b_wv (cells' := 0) (slots' := 0) (wr := @HAppend.hAppend va_W va_W va_W _ (xW h0 nw sp xa la lb) (@HAppend.hAppend va_W va_W va_W _ (rcV X nw an sv dv n0 n1 n2 n3 n4 g0 gs gn gm) (@HAppend.hAppend va_W va_W va_W _ (rnV (xa 9) a_14 d83_3) ([((xa 5), .inl (X.2.1, 3, .inl fr))])))) G rfl rfl [17] [0, 1, 2, 3, 4, 5, 6, 7, 8, 9, 10, 11, 12, 13, 14, 15, 16, 18, 19] rfl rfl rfl rfl (n_V (As := [.int ((dv 1) + (nI k83)), .int (dv 0)]) (rest := []) (C := RX8) (T := TX8) (N := 8) (ci := 6) S G (s_step l X (xa 8) a_5 d83_2 ((dv 1) + (nI k83)) (dv 0) H.size) gX10_close_X8_step rfl rfl rfl hdV_X8_step ⟨Nat.le_of_ble_eq_true rfl, Nat.le_of_ble_eq_true rfl⟩ [17] rfl rfl 17 rfl rfl rfl hl.1 (Nat.le_of_ble_eq_true rfl) dX10_close_111 ⟨Nat.le_of_ble_eq_true rfl, Nat.le_of_ble_eq_true rfl⟩) (fun u_27 H locs hp_27 G => ?_)
              obtain ⟨d_27, rfl⟩ : ∃ z, z = u_27 := ⟨_, rfl⟩
              have hq_27 := hp_27
              have G : wd X (va_A (@HAppend.hAppend va_W va_W va_W _ (xW h0 nw sp xa la lb) (@HAppend.hAppend va_W va_W va_W _ (rcV X nw an sv dv n0 n1 n2 n3 n4 g0 gs gn gm) (@HAppend.hAppend va_W va_W va_W _ (rnV (xa 8) ag dg) (@HAppend.hAppend va_W va_W va_W _ (rnV (xa 9) ar dr) ([((xa 5), .inl (X.2.1, 3, .inl fr))]))))) sz) (va_A (@HAppend.hAppend va_W va_W va_W _ (xW h0 nw sp xa la lb) (@HAppend.hAppend va_W va_W va_W _ (rcV X nw an sv dv n0 n1 n2 n3 n4 g0 gs gn gm) (@HAppend.hAppend va_W va_W va_W _ (rnV (xa 8) ag dg) (@HAppend.hAppend va_W va_W va_W _ (rnV (xa 9) ar dr) ([((xa 5), .inl (X.2.1, 3, .inl fr))]))))) sz) s (@HAppend.hAppend va_W va_W va_W _ (xW h0 nw sp xa la lb) (@HAppend.hAppend va_W va_W va_W _ (rcV X nw an sv dv n0 n1 n2 n3 n4 g0 gs gn gm) (@HAppend.hAppend va_W va_W va_W _ (rnV (xa 9) a_14 d83_3) (@HAppend.hAppend va_W va_W va_W _ ([((xa 5), .inl (X.2.1, 3, .inl fr))]) (rnV (xa 8) a_5 d_27))))) H locs := G
              refine lv_aload_n zx zb dX10_close_114 rfl (lv_at hl 3 rfl) ?_
              refine r_get (C := RX10) (T := TX10) (N := 14) (ci := 8) (v := .ref (xa 9)) S in_X10_close_X10 G 0 rfl rfl 9 (by decide) lk_X10_close_52 rfl dX10_close_115 ?_
              refine lv_aload_n zx zb dX10_close_118 rfl (lv_at hl 3 rfl) ?_
              refine r_get (C := RX10) (T := TX10) (N := 14) (ci := 8) (v := .ref nw) S in_X10_close_X10 G 0 rfl rfl 0 (by decide) lk_X10_close_10 rfl dX10_close_119 ?_
              refine r_get (C := RX5) (T := TX5) (N := 8) (ci := 3) (v := .int (dv 1)) S in_X10_close_X5 G 1 rfl rfl 1 (by decide) lk_X10_close_110 rfl dX10_close_122 ?_
              refine lv_iload zx zb dX10_close_125 (lv_at hl 0 rfl) ?_
              refine r_iadd (v := ((dv 1) + (nI k83))) S rfl dX10_close_127 ?_
              refine lv_aload_n zx zb dX10_close_128 rfl (lv_at hl 3 rfl) ?_
              refine r_get (C := RX10) (T := TX10) (N := 14) (ci := 8) (v := .ref nw) S in_X10_close_X10 G 0 rfl rfl 0 (by decide) lk_X10_close_10 rfl dX10_close_129 ?_
              refine r_get (C := RX5) (T := TX5) (N := 8) (ci := 3) (v := .int (dv 0)) S in_X10_close_X5 G 1 rfl rfl 0 (by decide) lk_X10_close_140 rfl dX10_close_132 ?_
              refine b_wv (cells' := 0) (slots' := 0) (wr := @HAppend.hAppend va_W va_W va_W _ (xW h0 nw sp xa la lb) (@HAppend.hAppend va_W va_W va_W _ (rcV X nw an sv dv n0 n1 n2 n3 n4 g0 gs gn gm) (@HAppend.hAppend va_W va_W va_W _ ([((xa 5), .inl (X.2.1, 3, .inl fr))]) (rnV (xa 8) a_5 d_27)))) G rfl rfl [17] [0, 1, 2, 3, 4, 5, 6, 7, 8, 9, 10, 11, 12, 13, 14, 15, 16, 18, 19] rfl rfl rfl rfl (n_V (As := [.int ((dv 1) + (nI k83)), .int (dv 0)]) (rest := []) (C := RX8) (T := TX8) (N := 8) (ci := 6) S G (s_step l X (xa 9) a_14 d83_3 ((dv 1) + (nI k83)) (dv 0) H.size) gX10_close_X8_step rfl rfl rfl hdV_X8_step ⟨Nat.le_of_ble_eq_true rfl, Nat.le_of_ble_eq_true rfl⟩ [17] rfl rfl 17 rfl rfl rfl hl.1 (Nat.le_of_ble_eq_true rfl) dX10_close_135 ⟨Nat.le_of_ble_eq_true rfl, Nat.le_of_ble_eq_true rfl⟩) (fun u_28 H locs hp_28 G => ?_)
              obtain ⟨d_28, rfl⟩ : ∃ z, z = u_28 := ⟨_, rfl⟩
              have hq_28 := hp_28
              have G : wd X (va_A (@HAppend.hAppend va_W va_W va_W _ (xW h0 nw sp xa la lb) (@HAppend.hAppend va_W va_W va_W _ (rcV X nw an sv dv n0 n1 n2 n3 n4 g0 gs gn gm) (@HAppend.hAppend va_W va_W va_W _ (rnV (xa 8) ag dg) (@HAppend.hAppend va_W va_W va_W _ (rnV (xa 9) ar dr) ([((xa 5), .inl (X.2.1, 3, .inl fr))]))))) sz) (va_A (@HAppend.hAppend va_W va_W va_W _ (xW h0 nw sp xa la lb) (@HAppend.hAppend va_W va_W va_W _ (rcV X nw an sv dv n0 n1 n2 n3 n4 g0 gs gn gm) (@HAppend.hAppend va_W va_W va_W _ (rnV (xa 8) ag dg) (@HAppend.hAppend va_W va_W va_W _ (rnV (xa 9) ar dr) ([((xa 5), .inl (X.2.1, 3, .inl fr))]))))) sz) s (@HAppend.hAppend va_W va_W va_W _ (xW h0 nw sp xa la lb) (@HAppend.hAppend va_W va_W va_W _ (rcV X nw an sv dv n0 n1 n2 n3 n4 g0 gs gn gm) (@HAppend.hAppend va_W va_W va_W _ ([((xa 5), .inl (X.2.1, 3, .inl fr))]) (@HAppend.hAppend va_W va_W va_W _ (rnV (xa 8) a_5 d_27) (rnV (xa 9) a_14 d_28))))) H locs := G
              refine lv_aload_n zx zb dX10_close_138 rfl (lv_at hl 3 rfl) ?_
              refine r_get (C := RX10) (T := TX10) (N := 14) (ci := 8) (v := .ref (xa 8)) S in_X10_close_X10 G 0 rfl rfl 8 (by decide) lk_X10_close_48 rfl dX10_close_139 ?_
              refine r_get (C := RX8) (T := TX8) (N := 8) (ci := 6) (v := .int (d_27 1)) S in_X10_close_X8 G 18 rfl rfl 4 (by decide) lk_X10_close_137 rfl dX10_close_142 ?_
              refine lv_aload_n zx zb dX10_close_145 rfl (lv_at hl 3 rfl) ?_
              refine r_get (C := RX10) (T := TX10) (N := 14) (ci := 8) (v := .ref (xa 9)) S in_X10_close_X10 G 0 rfl rfl 9 (by decide) lk_X10_close_52 rfl dX10_close_146 ?_
              refine r_get (C := RX8) (T := TX8) (N := 8) (ci := 6) (v := .int (d_28 1)) S in_X10_close_X8 G 19 rfl rfl 4 (by decide) lk_X10_close_137 rfl dX10_close_149 ?_
              refine r_isub (v := ((d_27 1) - (d_28 1))) S rfl dX10_close_152 ?_
              refine r_mabsE S hl.1 mm_X10_close_ml176 mm_X10_close_msabs mm_X10_close_mi mm_X10_close_mcabs (Nat.le_of_ble_eq_true rfl) (Nat.le_of_ble_eq_true rfl) (Nat.zero_le _) (Nat.zero_le _) dX10_close_153 (fun y_29 => ?_)
              refine lv_istore (lv' := [(7, .int y_29), (6, .int (nI k83)), (5, .int x83_5), (4, .int x83_4), (0, .ref h0), (1, .int (nI j_1)), (2, .int (nI i_1)), (3, .int x3)]) zx zb dX10_close_156 hl (by decide) rfl (fun ls hl => ?_)
              refine lv_iload zx zb dX10_close_158 (lv_at hl 0 rfl) ?_
              refine lv_iload zx zb dX10_close_160 (lv_at hl 2 rfl) ?_
              refine k_cutW (PP := fun Wx => ∀ (x_31 : Int32) (x_32 : Int32) (H : Heap) (locs : List Loc) (ls : Array Slot), wd X (va_A (@HAppend.hAppend va_W va_W va_W _ (xW h0 nw sp xa la lb) (@HAppend.hAppend va_W va_W va_W _ (rcV X nw an sv dv n0 n1 n2 n3 n4 g0 gs gn gm) (@HAppend.hAppend va_W va_W va_W _ (rnV (xa 8) ag dg) (@HAppend.hAppend va_W va_W va_W _ (rnV (xa 9) ar dr) ([((xa 5), .inl (X.2.1, 3, .inl fr))]))))) sz) (va_A (@HAppend.hAppend va_W va_W va_W _ (xW h0 nw sp xa la lb) (@HAppend.hAppend va_W va_W va_W _ (rcV X nw an sv dv n0 n1 n2 n3 n4 g0 gs gn gm) (@HAppend.hAppend va_W va_W va_W _ (rnV (xa 8) ag dg) (@HAppend.hAppend va_W va_W va_W _ (rnV (xa 9) ar dr) ([((xa 5), .inl (X.2.1, 3, .inl fr))]))))) sz) s (@HAppend.hAppend va_W va_W va_W _ (xW h0 nw sp xa la lb) (@HAppend.hAppend va_W va_W va_W _ (rcV X nw an sv dv n0 n1 n2 n3 n4 g0 gs gn gm) (@HAppend.hAppend va_W va_W va_W _ ([((xa 5), .inl (X.2.1, 3, .inl fr))]) (@HAppend.hAppend va_W va_W va_W _ (rnV (xa 8) a_5 d_27) (rnV (xa 9) a_14 d_28))))) H locs → lv_has ls 8 [(7, .int y_29), (6, .int (nI k83)), (5, .int x_31), (4, .int x_32), (0, .ref h0), (1, .int (nI j_1)), (2, .int (nI i_1)), (3, .int x3)] → Wx (F0 m 173 ls []) H locs) ?_ ?_
              · intro join_162
                refine lv_icmp_ge (tgt := 173) zx zb dX10_close_162 (by decide) (fun c_30 => ?_) (fun c_30 => ?_)
                · exact join_162 x83_5 x83_4 _ _ _  G hl
                · refine lv_iload zx zb dX10_close_165 (lv_at hl 0 rfl) ?_
                  refine lv_istore (lv' := [(5, .int y_29), (7, .int y_29), (6, .int (nI k83)), (4, .int x83_4), (0, .ref h0), (1, .int (nI j_1)), (2, .int (nI i_1)), (3, .int x3)]) zx zb dX10_close_167 hl (by decide) rfl (fun ls hl => ?_)
                  refine lv_iload zx zb dX10_close_169 (lv_at hl 2 rfl) ?_
                  refine lv_istore (lv' := [(4, .int (nI k83)), (5, .int y_29), (7, .int y_29), (6, .int (nI k83)), (0, .ref h0), (1, .int (nI j_1)), (2, .int (nI i_1)), (3, .int x3)]) zx zb dX10_close_171 hl (by decide) rfl (fun ls hl => ?_)
                  have hl := lv_sub hl (l' := [(7, .int y_29), (6, .int (nI k83)), (5, .int y_29), (4, .int (nI k83)), (0, .ref h0), (1, .int (nI j_1)), (2, .int (nI i_1)), (3, .int x3)]) [2, 3, 1, 0, 4, 5, 6, 7] rfl
                  exact join_162 y_29 (nI k83) _ _ _  G hl
              · intro x_31 x_32 H locs ls  G hl
                refine lv_iinc (v := (nI (k83 + 1))) (lv' := [(6, .int (nI (k83 + 1))), (7, .int y_29), (5, .int x_31), (4, .int x_32), (0, .ref h0), (1, .int (nI j_1)), (2, .int (nI i_1)), (3, .int x3)]) zx zb dX10_close_173 hl (k := 1) rfl (nI_add k83 1) (by decide) rfl (fun ls hl => ?_)
                refine lv_goto (tgt := 83) zx zb dX10_close_176 (by decide) ?_
                have G : wd X (va_A (@HAppend.hAppend va_W va_W va_W _ (xW h0 nw sp xa la lb) (@HAppend.hAppend va_W va_W va_W _ (rcV X nw an sv dv n0 n1 n2 n3 n4 g0 gs gn gm) (@HAppend.hAppend va_W va_W va_W _ (rnV (xa 8) ag dg) (@HAppend.hAppend va_W va_W va_W _ (rnV (xa 9) ar dr) ([((xa 5), .inl (X.2.1, 3, .inl fr))]))))) sz) (va_A (@HAppend.hAppend va_W va_W va_W _ (xW h0 nw sp xa la lb) (@HAppend.hAppend va_W va_W va_W _ (rcV X nw an sv dv n0 n1 n2 n3 n4 g0 gs gn gm) (@HAppend.hAppend va_W va_W va_W _ (rnV (xa 8) ag dg) (@HAppend.hAppend va_W va_W va_W _ (rnV (xa 9) ar dr) ([((xa 5), .inl (X.2.1, 3, .inl fr))]))))) sz) s (@HAppend.hAppend va_W va_W va_W _ (xW h0 nw sp xa la lb) (@HAppend.hAppend va_W va_W va_W _ (rcV X nw an sv dv n0 n1 n2 n3 n4 g0 gs gn gm) (@HAppend.hAppend va_W va_W va_W _ (rnV (xa 8) a_5 d_27) (@HAppend.hAppend va_W va_W va_W _ (rnV (xa 9) a_14 d_28) ([((xa 5), .inl (X.2.1, 3, .inl fr))]))))) H locs := wd_sub G [0, 1, 2, 3, 4, 5, 6, 7, 8, 9, 10, 11, 12, 13, 14, 15, 16, 18, 19, 17] rfl rfl
                have hl := lv_sub hl (l' := [(6, .int (nI (k83 + 1))), (5, .int x_31), (4, .int x_32), (0, .ref h0), (1, .int (nI j_1)), (2, .int (nI i_1)), (3, .int x3)]) [0, 2, 3, 4, 5, 6, 7] rfl
                exact ih83 (k83 + 1) x_31 x_32 d_27 d_28 _ _ _ (by omega) (by omega) G hl
    · refine lv_if_ne (tgt := 25) zx zb dX10_close_15 (by decide) (fun c_33 => absurd (by decide) c_33) (fun c_33 => ?_)
      refine lv_aload_n zx zb dX10_close_18 rfl (lv_at hl 0 rfl) ?_
      refine lv_bipush (v := (-2)) zx zb dX10_close_19 (by decide) ?_
      refine b_wi (cells' := 0) (slots' := 0) (wr := @HAppend.hAppend va_W va_W va_W _ (rcV X nw an sv dv n0 n1 n2 n3 n4 g0 gs gn gm) (@HAppend.hAppend va_W va_W va_W _ (rnV (xa 8) ag dg) (rnV (xa 9) ar dr))) G rfl rfl [0, 19] [1, 2, 3, 4, 5, 6, 7, 8, 9, 10, 11, 12, 13, 14, 15, 16, 17, 18] rfl rfl rfl rfl (n_V (As := [.int (-2)]) (rest := []) (C := RX10) (T := TX10) (N := 14) (ci := 8) S G (s_refuse l X h0 nw sp xa la lb fr (-2) H.size) gX10_close_X10_refuse rfl rfl rfl hdV_X10_refuse ⟨Nat.le_of_ble_eq_true rfl, Nat.le_of_ble_eq_true rfl⟩ [0, 19] rfl rfl 0 rfl rfl rfl hl.1 (Nat.le_of_ble_eq_true rfl) dX10_close_21 ⟨Nat.le_of_ble_eq_true rfl, Nat.le_of_ble_eq_true rfl⟩) (fun r_34 u_34 H locs hp_34 G => ?_)
      obtain ⟨f_34, rfl⟩ : ∃ z, z = u_34 := ⟨_, rfl⟩
      have hq_34 := hp_34
      have G : wd X (va_A (@HAppend.hAppend va_W va_W va_W _ (xW h0 nw sp xa la lb) (@HAppend.hAppend va_W va_W va_W _ (rcV X nw an sv dv n0 n1 n2 n3 n4 g0 gs gn gm) (@HAppend.hAppend va_W va_W va_W _ (rnV (xa 8) ag dg) (@HAppend.hAppend va_W va_W va_W _ (rnV (xa 9) ar dr) ([((xa 5), .inl (X.2.1, 3, .inl fr))]))))) sz) (va_A (@HAppend.hAppend va_W va_W va_W _ (xW h0 nw sp xa la lb) (@HAppend.hAppend va_W va_W va_W _ (rcV X nw an sv dv n0 n1 n2 n3 n4 g0 gs gn gm) (@HAppend.hAppend va_W va_W va_W _ (rnV (xa 8) ag dg) (@HAppend.hAppend va_W va_W va_W _ (rnV (xa 9) ar dr) ([((xa 5), .inl (X.2.1, 3, .inl fr))]))))) sz) s (@HAppend.hAppend va_W va_W va_W _ (rcV X nw an sv dv n0 n1 n2 n3 n4 g0 gs gn gm) (@HAppend.hAppend va_W va_W va_W _ (rnV (xa 8) ag dg) (@HAppend.hAppend va_W va_W va_W _ (rnV (xa 9) ar dr) (@HAppend.hAppend va_W va_W va_W _ (xW h0 nw sp xa la lb) ([((xa 5), .inl (X.2.1, 3, .inl f_34))]))))) H locs := G
      exact e_int S zr zlk (vp_nar_int _) G (ag, dg, ar, dr, f_34) [18, 0, 1, 2, 3, 4, 5, 6, 7, 8, 9, 10, 11, 12, 13, 14, 15, 16, 17, 19] rfl rfl (Or.inr rfl) (trivial) dX10_close_24
  · refine lv_if_eq (tgt := 18) zx zb dX10_close_6 (by decide) (fun c_35 => ?_) (fun c_35 => absurd (by decide) c_35)
    refine lv_aload_n zx zb dX10_close_18 rfl (lv_at hl 0 rfl) ?_
    refine lv_bipush (v := (-2)) zx zb dX10_close_19 (by decide) ?_
    refine b_wi (cells' := 0) (slots' := 0) (wr := @HAppend.hAppend va_W va_W va_W _ (rcV X nw an sv dv n0 n1 n2 n3 n4 g0 gs gn gm) (@HAppend.hAppend va_W va_W va_W _ (rnV (xa 8) ag dg) (rnV (xa 9) ar dr))) G rfl rfl [0, 19] [1, 2, 3, 4, 5, 6, 7, 8, 9, 10, 11, 12, 13, 14, 15, 16, 17, 18] rfl rfl rfl rfl (n_V (As := [.int (-2)]) (rest := []) (C := RX10) (T := TX10) (N := 14) (ci := 8) S G (s_refuse l X h0 nw sp xa la lb fr (-2) H.size) gX10_close_X10_refuse rfl rfl rfl hdV_X10_refuse ⟨Nat.le_of_ble_eq_true rfl, Nat.le_of_ble_eq_true rfl⟩ [0, 19] rfl rfl 0 rfl rfl rfl hl.1 (Nat.le_of_ble_eq_true rfl) dX10_close_21 ⟨Nat.le_of_ble_eq_true rfl, Nat.le_of_ble_eq_true rfl⟩) (fun r_36 u_36 H locs hp_36 G => ?_)
    obtain ⟨f_36, rfl⟩ : ∃ z, z = u_36 := ⟨_, rfl⟩
    have hq_36 := hp_36
    have G : wd X (va_A (@HAppend.hAppend va_W va_W va_W _ (xW h0 nw sp xa la lb) (@HAppend.hAppend va_W va_W va_W _ (rcV X nw an sv dv n0 n1 n2 n3 n4 g0 gs gn gm) (@HAppend.hAppend va_W va_W va_W _ (rnV (xa 8) ag dg) (@HAppend.hAppend va_W va_W va_W _ (rnV (xa 9) ar dr) ([((xa 5), .inl (X.2.1, 3, .inl fr))]))))) sz) (va_A (@HAppend.hAppend va_W va_W va_W _ (xW h0 nw sp xa la lb) (@HAppend.hAppend va_W va_W va_W _ (rcV X nw an sv dv n0 n1 n2 n3 n4 g0 gs gn gm) (@HAppend.hAppend va_W va_W va_W _ (rnV (xa 8) ag dg) (@HAppend.hAppend va_W va_W va_W _ (rnV (xa 9) ar dr) ([((xa 5), .inl (X.2.1, 3, .inl fr))]))))) sz) s (@HAppend.hAppend va_W va_W va_W _ (rcV X nw an sv dv n0 n1 n2 n3 n4 g0 gs gn gm) (@HAppend.hAppend va_W va_W va_W _ (rnV (xa 8) ag dg) (@HAppend.hAppend va_W va_W va_W _ (rnV (xa 9) ar dr) (@HAppend.hAppend va_W va_W va_W _ (xW h0 nw sp xa la lb) ([((xa 5), .inl (X.2.1, 3, .inl f_36))]))))) H locs := G
    exact e_int S zr zlk (vp_nar_int _) G (ag, dg, ar, dr, f_36) [18, 0, 1, 2, 3, 4, 5, 6, 7, 8, 9, 10, 11, 12, 13, 14, 15, 16, 17, 19] rfl rfl (Or.inr rfl) (trivial) dX10_close_24
set_option maxHeartbeats 4000000 in
set_option maxRecDepth 100000 in
/-- gain -/
theorem s_gain (l : Launch) (X : EX) (x1 : Int32) (x2 : Int32) (x3 : Int32) (sz : Nat) : Met l yX0_gain wsX0_gain ({ frames := 0, cells := 0, slots := 0, locals := 0 } : Room) (pE X [.int x1, .int x2, .int x3] ([]) sz) (qI (fun (r : Int32) (u : Unit) => True) X (fun (u : Unit) => []) [] sz) 0 0 (va_A [] sz) := by
  refine mk_met (B := (fun _ => True)) (A := (va_A [] sz)) (cc := cX0_gain) (maxL := 3) (ret := (some .int)) (by decide) rfl (Nat.le_of_ble_eq_true rfl) k_ro k_a (fun p e s m below meth c S zr zlk znm zsz G ls hl => ?_)
  have S : CallFix p m c cX0_gain 3 s _ wsX0_gain RX0 := S
  have zx := S.1
  have zb := S.2.1
  have hl : lv_has ls 3 [(0, .int x1), (1, .int x2), (2, .int x3)] := hl
  refine lv_iload_n zx zb dX0_gain_0 rfl (lv_at hl 0 rfl) ?_
  refine lv_iload_n zx zb dX0_gain_1 rfl (lv_at hl 1 rfl) ?_
  refine r_isub (v := (x1 - x2)) S rfl dX0_gain_2 ?_
  refine lv_iload_n zx zb dX0_gain_3 rfl (lv_at hl 0 rfl) ?_
  refine lv_iload_n zx zb dX0_gain_4 rfl (lv_at hl 2 rfl) ?_
  refine k_cutW (PP := fun Wx => ∀ (x_2 : Int32) (H : Heap) (locs : List Loc) (ls : Array Slot), wd X (fun _ => True) (va_A [] sz) s ([]) H locs → lv_has ls 3 [(0, .int x1), (1, .int x2), (2, .int x3)] → Wx (F0 m 13 ls [.int x_2, .int (x1 - x2)]) H locs) ?_ ?_
  · intro join_5
    refine lv_icmp_le (tgt := 12) zx zb dX0_gain_5 (by decide) (fun c_1 => ?_) (fun c_1 => ?_)
    · refine lv_iconst (v := 0) zx zb dX0_gain_12 (by decide) ?_
      exact join_5 0 _ _ _  G hl
    · refine lv_iconst (v := 3) zx zb dX0_gain_8 (by decide) ?_
      refine lv_goto (tgt := 13) zx zb dX0_gain_9 (by decide) ?_
      exact join_5 3 _ _ _  G hl
  · intro x_2 H locs ls  G hl
    refine r_iadd (v := ((x1 - x2) + x_2)) S rfl dX0_gain_13 ?_
    exact e_int S zr zlk (vp_nar_int _) G () [] rfl rfl (Or.inl rfl) (trivial) dX0_gain_14
theorem hdS_X0_gain : yX0_gain.cls ≠ "java/lang/invoke/MethodHandle" ∧ yX0_gain.cls ≠ "java/lang/invoke/VarHandle" ∧ (parseMethodDescriptor yX0_gain.desc).map (fun d => d.parameters.length) = some 3 := by decide +kernel
theorem mm_X0_greatestGain_ml35 : Cond.methodLink RX0 35 Lib.Math.max.name ∈ wsX0_greatestGain := by decide +kernel
theorem mm_X0_greatestGain_msmax : Cond.static Lib.Math.max.name ∈ wsX0_greatestGain := by decide +kernel
theorem mm_X0_greatestGain_mi : Cond.initialized "java/lang/Math" ∈ wsX0_greatestGain := by decide +kernel
theorem mm_X0_greatestGain_mcmax : Cond.code Lib.Math.max.name Lib.Math.max.code 2 (some .int) ∈ wsX0_greatestGain := by decide +kernel
set_option maxHeartbeats 4000000 in
set_option maxRecDepth 100000 in
/-- greatestGain -/
theorem s_greatestGain (l : Launch) (X : EX) (ha : Nat) (fa : Nat → Int32) (x1 : Int32) (x2 : Int32) (sz : Nat) : Met l yX0_greatestGain wsX0_greatestGain ({ frames := 1, cells := 0, slots := 0, locals := 22 } : Room) (pE X [.ref ha, .int x1, .int x2] ([(ha, .inl (X.2.1, 10, .inl fa))]) sz) (qI (fun (r : Int32) (u : Unit) => True) X (fun (u : Unit) => []) [] sz) 0 0 (va_A [] sz) := by
  refine mk_met (B := (fun _ => True)) (A := (va_A [] sz)) (cc := cX0_greatestGain) (maxL := 5) (ret := (some .int)) (by decide) rfl (Nat.le_of_ble_eq_true rfl) k_ro k_a (fun p e s m below meth c S zr zlk znm zsz G ls hl => ?_)
  have S : CallFix p m c cX0_greatestGain 5 s _ wsX0_greatestGain RX0 := S
  have zx := S.1
  have zb := S.2.1
  have hl : lv_has ls 5 [(0, .ref ha), (1, .int x1), (2, .int x2)] := hl
  refine lv_iconst (v := 0) zx zb dX0_greatestGain_0 (by decide) ?_
  refine lv_istore_n (lv' := [(3, .int 0), (0, .ref ha), (1, .int x1), (2, .int x2)]) zx zb dX0_greatestGain_1 rfl hl (by decide) rfl (fun ls hl => ?_)
  refine lv_iconst (v := 0) zx zb dX0_greatestGain_2 (by decide) ?_
  refine lv_istore (lv' := [(4, .int 0), (3, .int 0), (0, .ref ha), (1, .int x1), (2, .int x2)]) zx zb dX0_greatestGain_3 hl (by decide) rfl (fun ls hl => ?_)
  refine k_loop (P := ∀ (zm : Nat) (k5 : Nat) (x5_3 : Int32) (H : Heap) (locs : List Loc) (ls : Array Slot), 10 + 1 ≤ k5 + zm → (k5 ≤ 10) → wd X (fun _ => True) (va_A [] sz) s ([(ha, .inl (X.2.1, 10, .inl fa))]) H locs → lv_has ls 5 [(4, .int (nI k5)), (3, .int x5_3), (0, .ref ha), (1, .int x1), (2, .int x2)] → W p l e _ s m _ below meth c H locs _ _ _ (F0 m 5 ls [])) (fun loop => loop (10 + 1) 0 0 _ _ _ (by omega) (by omega) G hl) ?_
  intro zm
  induction zm with
  | zero => intro k5 x5_3 H locs ls zz q_hk_k5 _ _; exact absurd zz (by omega)
  | succ zm ih5 =>
    intro k5 x5_3 H locs ls zm_5 hk_k5 G hl
    refine lv_iload zx zb dX0_greatestGain_5 (lv_at hl 0 rfl) ?_
    refine lv_aload_n zx zb dX0_greatestGain_7 rfl (lv_at hl 2 rfl) ?_
    refine r_alen (v := 10) S G 0 0 rfl rfl rfl dX0_greatestGain_8 ?_
    refine lv_icmp_ge (tgt := 32) zx zb dX0_greatestGain_9 (by decide) (fun c_1 => ?_) (fun c_1 => ?_)
    · have fc_1 := j_le (a := 10) (b := k5) (by omega) (by omega) c_1
      refine lv_iload_n zx zb dX0_greatestGain_32 rfl (lv_at hl 1 rfl) ?_
      exact e_int S zr zlk (vp_nar_int _) G () [] rfl rfl (Or.inl rfl) (trivial) dX0_greatestGain_33
    · have fc_1 := j_nle (a := 10) (b := k5) (by omega) (by omega) c_1
      refine lv_iload_n zx zb dX0_greatestGain_12 rfl (lv_at hl 1 rfl) ?_
      refine lv_aload_n zx zb dX0_greatestGain_13 rfl (lv_at hl 2 rfl) ?_
      refine lv_iload zx zb dX0_greatestGain_14 (lv_at hl 0 rfl) ?_
      refine r_iald S G 0 rfl (vp_in_nI (by omega) (by decide)) rfl dX0_greatestGain_16 ?_
      refine k_itE (fun y_2 => ?_)
      refine lv_iload_n zx zb dX0_greatestGain_17 rfl (lv_at hl 3 rfl) ?_
      refine lv_iload_n zx zb dX0_greatestGain_18 rfl (lv_at hl 4 rfl) ?_
      refine o_ri (cells' := 0) (slots' := 0) G rfl rfl (n_S (As := [.int y_2, .int x1, .int x2]) (rest := [.int x5_3]) S G (s_gain l X y_2 x1 x2 H.size) gX0_greatestGain_X0_gain rfl rfl rfl hdS_X0_gain ⟨Nat.le_of_ble_eq_true rfl, Nat.le_of_ble_eq_true rfl⟩ [] rfl rfl rfl hl.1 (Nat.le_of_ble_eq_true rfl) dX0_greatestGain_19 ⟨Nat.le_of_ble_eq_true rfl, Nat.le_of_ble_eq_true rfl⟩) (fun r_3 u_3 H locs hp_3 G => ?_)
      have G : wd X (fun _ => True) (va_A [] sz) s ([(ha, .inl (X.2.1, 10, .inl fa))]) H locs := G
      refine r_mmaxE S hl.1 mm_X0_greatestGain_ml35 mm_X0_greatestGain_msmax mm_X0_greatestGain_mi mm_X0_greatestGain_mcmax (Nat.le_of_ble_eq_true rfl) (Nat.le_of_ble_eq_true rfl) (Nat.zero_le _) (Nat.zero_le _) dX0_greatestGain_22 (fun y_4 => ?_)
      refine lv_istore_n (lv' := [(3, .int y_4), (4, .int (nI k5)), (0, .ref ha), (1, .int x1), (2, .int x2)]) zx zb dX0_greatestGain_25 rfl hl (by decide) rfl (fun ls hl => ?_)
      refine lv_iinc (v := (nI (k5 + 1))) (lv' := [(4, .int (nI (k5 + 1))), (3, .int y_4), (0, .ref ha), (1, .int x1), (2, .int x2)]) zx zb dX0_greatestGain_26 hl (k := 1) rfl (nI_add k5 1) (by decide) rfl (fun ls hl => ?_)
      refine lv_goto (tgt := 5) zx zb dX0_greatestGain_29 (by decide) ?_
      exact ih5 (k5 + 1) y_4 _ _ _ (by omega) (by omega) G hl
theorem in_X0_put_X0 : ∀ w ∈ wsX00, w ∈ wsX0_put := by decide +kernel
theorem lk_X0_put_11 : Cond.fieldLink RX0 11 "EggSpoons$Duel" "endsA" "[I" ∈ wsX0_put := by decide +kernel
theorem lk_X0_put_15 : Cond.fieldLink RX0 15 "EggSpoons$Duel" "endsB" "[I" ∈ wsX0_put := by decide +kernel
set_option maxHeartbeats 4000000 in
set_option maxRecDepth 100000 in
/-- put -/
theorem s_dput (l : Launch) (X : EX) (hd : Nat) (da : Nat → Nat) (gd : Nat → Nat → Int32) (x1 : Int32) (x2 : Int32) (x3 : Int32) (sz : Nat) : Met l yX0_put wsX0_put ({ frames := 0, cells := 0, slots := 0, locals := 0 } : Room) (pE X [.ref hd, .int x1, .int x2, .int x3] (duW X hd da gd) sz) (qV (fun (u : (Nat → Nat → Int32)) => (True)) X (fun (u : (Nat → Nat → Int32)) => duW X hd da u) (duW X hd da gd) sz) 0 0 (va_A (duW X hd da gd) sz) := by
  refine mk_met (B := (va_A (duW X hd da gd) sz)) (A := (va_A (duW X hd da gd) sz)) (cc := cX0_put) (maxL := 4) (ret := none) (by decide) rfl (Nat.le_of_ble_eq_true rfl) k_w k_a (fun p e s m below meth c S zr zlk znm zsz G ls hl => ?_)
  have S : CallFix p m c cX0_put 4 s _ wsX0_put RX0 := S
  have zx := S.1
  have zb := S.2.1
  have hl : lv_has ls 4 [(0, .ref hd), (1, .int x1), (2, .int x2), (3, .int x3)] := hl
  refine lv_iload_n zx zb dX0_put_0 rfl (lv_at hl 1 rfl) ?_
  refine k_cutW (PP := fun Wx => ∀ (g_2 : Nat → Nat → Int32) (H : Heap) (locs : List Loc) (ls : Array Slot), wd X (va_A (duW X hd da gd) sz) (va_A (duW X hd da gd) sz) s (duW X hd da g_2) H locs → lv_has ls 4 [(0, .ref hd), (1, .int x1), (2, .int x2), (3, .int x3)] → Wx (F0 m 24 ls []) H locs) ?_ ?_
  · intro join_1
    refine lv_if_lt (tgt := 24) zx zb dX0_put_1 (by decide) (fun c_1 => ?_) (fun c_1 => ?_)
    · exact join_1 gd _ _ _  G hl
    · refine lv_iload_n zx zb dX0_put_4 rfl (lv_at hl 1 rfl) ?_
      refine lv_bipush (v := 10) zx zb dX0_put_5 (by decide) ?_
      refine lv_icmp_ge (tgt := 24) zx zb dX0_put_7 (by decide) (fun c_3 => ?_) (fun c_3 => ?_)
      · exact join_1 gd _ _ _  G hl
      · refine lv_aload_n zx zb dX0_put_10 rfl (lv_at hl 0 rfl) ?_
        refine r_get (C := RX0) (T := TX0) (N := 5) (ci := 0) (v := .ref (da 0)) S in_X0_put_X0 G 0 rfl rfl 0 (by decide) lk_X0_put_11 rfl dX0_put_11 ?_
        refine lv_iload_n zx zb dX0_put_14 rfl (lv_at hl 1 rfl) ?_
        refine lv_iload_n zx zb dX0_put_15 rfl (lv_at hl 2 rfl) ?_
        refine r_iast S G 1 rfl (k_in (by decide) c_1 c_3) dX0_put_16 (fun H locs G => ?_)
        obtain ⟨g_4, G⟩ : ∃ g_4 : Nat → Nat → Int32, wd X (va_A (duW X hd da gd) sz) (va_A (duW X hd da gd) sz) s (duW X hd da g_4) H locs := ⟨upG gd 0 _, G⟩
        refine lv_aload_n zx zb dX0_put_17 rfl (lv_at hl 0 rfl) ?_
        refine r_get (C := RX0) (T := TX0) (N := 5) (ci := 0) (v := .ref (da 1)) S in_X0_put_X0 G 0 rfl rfl 1 (by decide) lk_X0_put_15 rfl dX0_put_18 ?_
        refine lv_iload_n zx zb dX0_put_21 rfl (lv_at hl 1 rfl) ?_
        refine lv_iload_n zx zb dX0_put_22 rfl (lv_at hl 3 rfl) ?_
        refine r_iast S G 2 rfl (k_in (by decide) c_1 c_3) dX0_put_23 (fun H locs G => ?_)
        obtain ⟨g_5, G⟩ : ∃ g_5 : Nat → Nat → Int32, wd X (va_A (duW X hd da gd) sz) (va_A (duW X hd da gd) sz) s (duW X hd da g_5) H locs := ⟨upG g_4 1 _, G⟩
        exact join_1 g_5 _ _ _  G hl
  · intro g_2 H locs ls  G hl
    exact e_void S zr zlk G (g_2) [0, 1, 2, 3, 4, 5] rfl rfl (Or.inr rfl) (trivial) dX0_put_24
theorem in_X0_weigh_X0 : ∀ w ∈ wsX00, w ∈ wsX0_weigh := by decide +kernel
theorem lk_X0_weigh_18 : Cond.fieldLink RX0 18 "EggSpoons$Duel" "mostA" "[I" ∈ wsX0_weigh := by decide +kernel
theorem lk_X0_weigh_11 : Cond.fieldLink RX0 11 "EggSpoons$Duel" "endsA" "[I" ∈ wsX0_weigh := by decide +kernel
theorem lk_X0_weigh_15 : Cond.fieldLink RX0 15 "EggSpoons$Duel" "endsB" "[I" ∈ wsX0_weigh := by decide +kernel
theorem hdS_X0_greatestGain : yX0_greatestGain.cls ≠ "java/lang/invoke/MethodHandle" ∧ yX0_greatestGain.cls ≠ "java/lang/invoke/VarHandle" ∧ (parseMethodDescriptor yX0_greatestGain.desc).map (fun d => d.parameters.length) = some 3 := by decide +kernel
theorem lk_X0_weigh_21 : Cond.fieldLink RX0 21 "EggSpoons$Duel" "mostB" "[I" ∈ wsX0_weigh := by decide +kernel
theorem lk_X0_weigh_24 : Cond.fieldLink RX0 24 "EggSpoons$Duel" "resting" "[I" ∈ wsX0_weigh := by decide +kernel
set_option maxHeartbeats 4000000 in
set_option maxRecDepth 100000 in
/-- weigh -/
theorem s_weigh (l : Launch) (X : EX) (hd : Nat) (da : Nat → Nat) (gd : Nat → Nat → Int32) (x1 : Int32) (x2 : Int32) (sz : Nat) : Met l yX0_weigh wsX0_weigh ({ frames := 2, cells := 0, slots := 0, locals := 46 } : Room) (pE X [.ref hd, .int x1, .int x2] (duW X hd da gd) sz) (qI (fun (r : Int32) (u : (Nat → Nat → Int32)) => (True)) X (fun (u : (Nat → Nat → Int32)) => duW X hd da u) (duW X hd da gd) sz) 0 0 (va_A (duW X hd da gd) sz) := by
  refine mk_met (B := (va_A (duW X hd da gd) sz)) (A := (va_A (duW X hd da gd) sz)) (cc := cX0_weigh) (maxL := 7) (ret := (some .int)) (by decide) rfl (Nat.le_of_ble_eq_true rfl) k_w k_a (fun p e s m below meth c S zr zlk znm zsz G ls hl => ?_)
  have S : CallFix p m c cX0_weigh 7 s _ wsX0_weigh RX0 := S
  have zx := S.1
  have zb := S.2.1
  have hl : lv_has ls 7 [(0, .ref hd), (1, .int x1), (2, .int x2)] := hl
  refine lv_iconst (v := 0) zx zb dX0_weigh_0 (by decide) ?_
  refine lv_istore_n (lv' := [(3, .int 0), (0, .ref hd), (1, .int x1), (2, .int x2)]) zx zb dX0_weigh_1 rfl hl (by decide) rfl (fun ls hl => ?_)
  refine k_loop (P := ∀ (zm : Nat) (k2 : Nat) (g2_0 : Nat → Nat → Int32) (H : Heap) (locs : List Loc) (ls : Array Slot), 10 + 1 ≤ k2 + zm → (k2 ≤ 10) → wd X (va_A (duW X hd da gd) sz) (va_A (duW X hd da gd) sz) s (duW X hd da g2_0) H locs → lv_has ls 7 [(3, .int (nI k2)), (0, .ref hd), (1, .int x1), (2, .int x2)] → W p l e _ s m _ below meth c H locs _ _ _ (F0 m 2 ls [])) (fun loop => loop (10 + 1) 0 gd _ _ _ (by omega) (by omega) G hl) ?_
  intro zm
  induction zm with
  | zero => intro k2 g2_0 H locs ls zz q_hk_k2 _ _; exact absurd zz (by omega)
  | succ zm ih2 =>
    intro k2 g2_0 H locs ls zm_2 hk_k2 G hl
    refine lv_iload_n zx zb dX0_weigh_2 rfl (lv_at hl 0 rfl) ?_
    refine lv_bipush (v := 10) zx zb dX0_weigh_3 (by decide) ?_
    refine lv_icmp_ge (tgt := 54) zx zb dX0_weigh_5 (by decide) (fun c_1 => ?_) (fun c_1 => ?_)
    · have fc_1 := j_le (a := 10) (b := k2) (by omega) (by omega) c_1
      refine lv_iconst (v := 0) zx zb dX0_weigh_54 (by decide) ?_
      refine lv_istore_n (lv' := [(3, .int 0), (0, .ref hd), (1, .int x1), (2, .int x2)]) zx zb dX0_weigh_55 rfl hl (by decide) rfl (fun ls hl => ?_)
      refine lv_iconst (v := 0) zx zb dX0_weigh_56 (by decide) ?_
      refine lv_istore (lv' := [(4, .int 0), (3, .int 0), (0, .ref hd), (1, .int x1), (2, .int x2)]) zx zb dX0_weigh_57 hl (by decide) rfl (fun ls hl => ?_)
      refine k_loop (P := ∀ (zm : Nat) (k59 : Nat) (n59_3 : Nat) (g59_0 : Nat → Nat → Int32) (H : Heap) (locs : List Loc) (ls : Array Slot), 100 + 1 ≤ k59 + zm → (k59 ≤ 100) → (n59_3 ≤ k59) → wd X (va_A (duW X hd da gd) sz) (va_A (duW X hd da gd) sz) s (duW X hd da g59_0) H locs → lv_has ls 7 [(4, .int (nI k59)), (3, .int (nI n59_3)), (0, .ref hd), (1, .int x1), (2, .int x2)] → W p l e _ s m _ below meth c H locs _ _ _ (F0 m 59 ls [])) (fun loop => loop (100 + 1) 0 0 g2_0 _ _ _ (by omega) (by omega) (by omega) G hl) ?_
      intro zm
      induction zm with
      | zero => intro k59 n59_3 g59_0 H locs ls zz q_hk_k59 q_hk_n59_3 _ _; exact absurd zz (by omega)
      | succ zm ih59 =>
        intro k59 n59_3 g59_0 H locs ls zm_59 hk_k59 hk_n59_3 G hl
        refine lv_iload zx zb dX0_weigh_59 (lv_at hl 0 rfl) ?_
        refine lv_aload_n zx zb dX0_weigh_61 rfl (lv_at hl 2 rfl) ?_
        refine r_get (C := RX0) (T := TX0) (N := 5) (ci := 0) (v := .ref (da 4)) S in_X0_weigh_X0 G 0 rfl rfl 4 (by decide) lk_X0_weigh_24 rfl dX0_weigh_62 ?_
        refine r_alen (v := 100) S G 5 0 rfl rfl rfl dX0_weigh_65 ?_
        refine lv_icmp_ge (tgt := 156) zx zb dX0_weigh_66 (by decide) (fun c_2 => ?_) (fun c_2 => ?_)
        · have fc_2 := j_le (a := 100) (b := k59) (by omega) (by omega) c_2
          refine lv_iload_n zx zb dX0_weigh_156 rfl (lv_at hl 1 rfl) ?_
          exact e_int S zr zlk (vp_nar_int _) G (g59_0) [0, 1, 2, 3, 4, 5] rfl rfl (Or.inr rfl) (trivial) dX0_weigh_157
        · have fc_2 := j_nle (a := 100) (b := k59) (by omega) (by omega) c_2
          refine lv_iload zx zb dX0_weigh_69 (lv_at hl 0 rfl) ?_
          refine lv_bipush (v := 10) zx zb dX0_weigh_71 (by decide) ?_
          refine lv_idiv zx zb dX0_weigh_73 (by decide) ?_
          refine k_it (v := (nI (k59 / 10))) (pk_div (d := 10) (by omega) (by decide) (by decide)) ?_
          refine lv_istore (lv' := [(5, .int (nI (k59 / 10))), (4, .int (nI k59)), (3, .int (nI n59_3)), (0, .ref hd), (1, .int x1), (2, .int x2)]) zx zb dX0_weigh_74 hl (by decide) rfl (fun ls hl => ?_)
          refine lv_iload zx zb dX0_weigh_76 (lv_at hl 1 rfl) ?_
          refine lv_bipush (v := 10) zx zb dX0_weigh_78 (by decide) ?_
          refine lv_irem zx zb dX0_weigh_80 (by decide) ?_
          refine k_it (v := (nI (k59 % 10))) (pk_rem (d := 10) (by omega) (by decide) (by decide)) ?_
          refine lv_istore (lv' := [(6, .int (nI (k59 % 10))), (5, .int (nI (k59 / 10))), (4, .int (nI k59)), (3, .int (nI n59_3)), (0, .ref hd), (1, .int x1), (2, .int x2)]) zx zb dX0_weigh_81 hl (by decide) rfl (fun ls hl => ?_)
          refine lv_aload_n zx zb dX0_weigh_83 rfl (lv_at hl 4 rfl) ?_
          refine r_get (C := RX0) (T := TX0) (N := 5) (ci := 0) (v := .ref (da 0)) S in_X0_weigh_X0 G 0 rfl rfl 0 (by decide) lk_X0_weigh_11 rfl dX0_weigh_84 ?_
          refine lv_iload zx zb dX0_weigh_87 (lv_at hl 1 rfl) ?_
          refine r_iald S G 1 rfl (vp_in_nI (by omega) (by decide)) rfl dX0_weigh_89 ?_
          refine k_itE (fun y_3 => ?_)
          refine lv_iload_n zx zb dX0_weigh_90 rfl (lv_at hl 5 rfl) ?_
          refine lv_aload_n zx zb dX0_weigh_91 rfl (lv_at hl 4 rfl) ?_
          refine r_get (C := RX0) (T := TX0) (N := 5) (ci := 0) (v := .ref (da 1)) S in_X0_weigh_X0 G 0 rfl rfl 1 (by decide) lk_X0_weigh_15 rfl dX0_weigh_92 ?_
          refine lv_iload zx zb dX0_weigh_95 (lv_at hl 0 rfl) ?_
          refine r_iald S G 2 rfl (vp_in_nI (by omega) (by decide)) rfl dX0_weigh_97 ?_
          refine k_itE (fun y_4 => ?_)
          refine o_ri (cells' := 0) (slots' := 0) G rfl rfl (n_S (As := [.int y_3, .int x1, .int y_4]) (rest := []) S G (s_gain l X y_3 x1 y_4 H.size) gX0_weigh_X0_gain rfl rfl rfl hdS_X0_gain ⟨Nat.le_of_ble_eq_true rfl, Nat.le_of_ble_eq_true rfl⟩ [] rfl rfl rfl hl.1 (Nat.le_of_ble_eq_true rfl) dX0_weigh_98 ⟨Nat.le_of_ble_eq_true rfl, Nat.le_of_ble_eq_true rfl⟩) (fun r_5 u_5 H locs hp_5 G => ?_)
          have G : wd X (va_A (duW X hd da gd) sz) (va_A (duW X hd da gd) sz) s (duW X hd da g59_0) H locs := G
          refine lv_aload_n zx zb dX0_weigh_101 rfl (lv_at hl 4 rfl) ?_
          refine r_get (C := RX0) (T := TX0) (N := 5) (ci := 0) (v := .ref (da 2)) S in_X0_weigh_X0 G 0 rfl rfl 2 (by decide) lk_X0_weigh_18 rfl dX0_weigh_102 ?_
          refine lv_iload zx zb dX0_weigh_105 (lv_at hl 0 rfl) ?_
          refine r_iald S G 3 rfl (vp_in_nI (by omega) (by decide)) rfl dX0_weigh_107 ?_
          refine k_itE (fun y_6 => ?_)
          refine k_cutW (PP := fun Wx => ∀ (k_8 : Nat) (g_9 : Nat → Nat → Int32) (H : Heap) (locs : List Loc) (ls : Array Slot), (k_8 ≤ k59 + 1) → wd X (va_A (duW X hd da gd) sz) (va_A (duW X hd da gd) sz) s (duW X hd da g_9) H locs → lv_has ls 7 [(6, .int (nI (k59 % 10))), (5, .int (nI (k59 / 10))), (4, .int (nI k59)), (3, .int (nI k_8)), (0, .ref hd), (1, .int x1), (2, .int x2)] → Wx (F0 m 150 ls []) H locs) ?_ ?_
          · intro join_108
            refine lv_icmp_ne (tgt := 150) zx zb dX0_weigh_108 (by decide) (fun c_7 => ?_) (fun c_7 => ?_)
            · exact join_108 n59_3 g59_0 _ _ _ (by omega) G hl
            · refine lv_aload_n zx zb dX0_weigh_111 rfl (lv_at hl 4 rfl) ?_
              refine r_get (C := RX0) (T := TX0) (N := 5) (ci := 0) (v := .ref (da 1)) S in_X0_weigh_X0 G 0 rfl rfl 1 (by decide) lk_X0_weigh_15 rfl dX0_weigh_112 ?_
              refine lv_iload zx zb dX0_weigh_115 (lv_at hl 0 rfl) ?_
              refine r_iald S G 2 rfl (vp_in_nI (by omega) (by decide)) rfl dX0_weigh_117 ?_
              refine k_itE (fun y_10 => ?_)
              refine lv_iload_n zx zb dX0_weigh_118 rfl (lv_at hl 6 rfl) ?_
              refine lv_aload_n zx zb dX0_weigh_119 rfl (lv_at hl 4 rfl) ?_
              refine r_get (C := RX0) (T := TX0) (N := 5) (ci := 0) (v := .ref (da 0)) S in_X0_weigh_X0 G 0 rfl rfl 0 (by decide) lk_X0_weigh_11 rfl dX0_weigh_120 ?_
              refine lv_iload zx zb dX0_weigh_123 (lv_at hl 1 rfl) ?_
              refine r_iald S G 1 rfl (vp_in_nI (by omega) (by decide)) rfl dX0_weigh_125 ?_
              refine k_itE (fun y_11 => ?_)
              refine o_ri (cells' := 0) (slots' := 0) G rfl rfl (n_S (As := [.int y_10, .int x2, .int y_11]) (rest := []) S G (s_gain l X y_10 x2 y_11 H.size) gX0_weigh_X0_gain rfl rfl rfl hdS_X0_gain ⟨Nat.le_of_ble_eq_true rfl, Nat.le_of_ble_eq_true rfl⟩ [] rfl rfl rfl hl.1 (Nat.le_of_ble_eq_true rfl) dX0_weigh_126 ⟨Nat.le_of_ble_eq_true rfl, Nat.le_of_ble_eq_true rfl⟩) (fun r_12 u_12 H locs hp_12 G => ?_)
              have G : wd X (va_A (duW X hd da gd) sz) (va_A (duW X hd da gd) sz) s (duW X hd da g59_0) H locs := G
              refine lv_aload_n zx zb dX0_weigh_129 rfl (lv_at hl 4 rfl) ?_
              refine r_get (C := RX0) (T := TX0) (N := 5) (ci := 0) (v := .ref (da 3)) S in_X0_weigh_X0 G 0 rfl rfl 3 (by decide) lk_X0_weigh_21 rfl dX0_weigh_130 ?_
              refine lv_iload zx zb dX0_weigh_133 (lv_at hl 1 rfl) ?_
              refine r_iald S G 4 rfl (vp_in_nI (by omega) (by decide)) rfl dX0_weigh_135 ?_
              refine k_itE (fun y_13 => ?_)
              refine lv_icmp_ne (tgt := 150) zx zb dX0_weigh_136 (by decide) (fun c_14 => ?_) (fun c_14 => ?_)
              · exact join_108 n59_3 g59_0 _ _ _ (by omega) G hl
              · refine lv_aload_n zx zb dX0_weigh_139 rfl (lv_at hl 4 rfl) ?_
                refine r_get (C := RX0) (T := TX0) (N := 5) (ci := 0) (v := .ref (da 4)) S in_X0_weigh_X0 G 0 rfl rfl 4 (by decide) lk_X0_weigh_24 rfl dX0_weigh_140 ?_
                refine lv_iload_n zx zb dX0_weigh_143 rfl (lv_at hl 3 rfl) ?_
                refine lv_iload zx zb dX0_weigh_144 (lv_at hl 2 rfl) ?_
                refine r_iast S G 5 rfl (vp_in_nI (by omega) (by decide)) dX0_weigh_146 (fun H locs G => ?_)
                obtain ⟨g_15, G⟩ : ∃ g_15 : Nat → Nat → Int32, wd X (va_A (duW X hd da gd) sz) (va_A (duW X hd da gd) sz) s (duW X hd da g_15) H locs := ⟨upG g59_0 4 _, G⟩
                refine lv_iinc (v := (nI (n59_3 + 1))) (lv' := [(3, .int (nI (n59_3 + 1))), (6, .int (nI (k59 % 10))), (5, .int (nI (k59 / 10))), (4, .int (nI k59)), (0, .ref hd), (1, .int x1), (2, .int x2)]) zx zb dX0_weigh_147 hl (k := 3) rfl (nI_add n59_3 1) (by decide) rfl (fun ls hl => ?_)
                have hl := lv_sub hl (l' := [(6, .int (nI (k59 % 10))), (5, .int (nI (k59 / 10))), (4, .int (nI k59)), (3, .int (nI (n59_3 + 1))), (0, .ref hd), (1, .int x1), (2, .int x2)]) [1, 2, 3, 0, 4, 5, 6] rfl
                exact join_108 (n59_3 + 1) g_15 _ _ _ (by omega) G hl
          · intro k_8 g_9 H locs ls hk_k_8 G hl
            refine lv_iinc (v := (nI (k59 + 1))) (lv' := [(4, .int (nI (k59 + 1))), (6, .int (nI (k59 % 10))), (5, .int (nI (k59 / 10))), (3, .int (nI k_8)), (0, .ref hd), (1, .int x1), (2, .int x2)]) zx zb dX0_weigh_150 hl (k := 2) rfl (nI_add k59 1) (by decide) rfl (fun ls hl => ?_)
            refine lv_goto (tgt := 59) zx zb dX0_weigh_153 (by decide) ?_
            have hl := lv_sub hl (l' := [(4, .int (nI (k59 + 1))), (3, .int (nI k_8)), (0, .ref hd), (1, .int x1), (2, .int x2)]) [0, 3, 4, 5, 6] rfl
            exact ih59 (k59 + 1) k_8 g_9 _ _ _ (by omega) (by omega) (by omega) G hl
    · have fc_1 := j_nle (a := 10) (b := k2) (by omega) (by omega) c_1
      refine lv_aload_n zx zb dX0_weigh_8 rfl (lv_at hl 1 rfl) ?_
      refine r_get (C := RX0) (T := TX0) (N := 5) (ci := 0) (v := .ref (da 2)) S in_X0_weigh_X0 G 0 rfl rfl 2 (by decide) lk_X0_weigh_18 rfl dX0_weigh_9 ?_
      refine lv_iload_n zx zb dX0_weigh_12 rfl (lv_at hl 0 rfl) ?_
      refine lv_aload_n zx zb dX0_weigh_13 rfl (lv_at hl 1 rfl) ?_
      refine r_get (C := RX0) (T := TX0) (N := 5) (ci := 0) (v := .ref (da 0)) S in_X0_weigh_X0 G 0 rfl rfl 0 (by decide) lk_X0_weigh_11 rfl dX0_weigh_14 ?_
      refine lv_iload_n zx zb dX0_weigh_17 rfl (lv_at hl 2 rfl) ?_
      refine lv_aload_n zx zb dX0_weigh_18 rfl (lv_at hl 1 rfl) ?_
      refine r_get (C := RX0) (T := TX0) (N := 5) (ci := 0) (v := .ref (da 1)) S in_X0_weigh_X0 G 0 rfl rfl 1 (by decide) lk_X0_weigh_15 rfl dX0_weigh_19 ?_
      refine lv_iload_n zx zb dX0_weigh_22 rfl (lv_at hl 0 rfl) ?_
      refine r_iald S G 2 rfl (vp_in_nI (by omega) (by decide)) rfl dX0_weigh_23 ?_
      refine k_itE (fun y_16 => ?_)
      refine o_ri (cells' := 0) (slots' := 0) G rfl rfl (n_S (As := [.ref (da 0), .int x1, .int y_16]) (rest := [.int (nI k2), .ref (da 2)]) S G (s_greatestGain l X (da 0) (g2_0 0) x1 y_16 H.size) gX0_weigh_X0_greatestGain rfl rfl rfl hdS_X0_greatestGain ⟨Nat.le_of_ble_eq_true rfl, Nat.le_of_ble_eq_true rfl⟩ [1] rfl rfl rfl hl.1 (Nat.le_of_ble_eq_true rfl) dX0_weigh_24 ⟨Nat.le_of_ble_eq_true rfl, Nat.le_of_ble_eq_true rfl⟩) (fun r_17 u_17 H locs hp_17 G => ?_)
      have G : wd X (va_A (duW X hd da gd) sz) (va_A (duW X hd da gd) sz) s (duW X hd da g2_0) H locs := G
      refine r_iast S G 3 rfl (vp_in_nI (by omega) (by decide)) dX0_weigh_27 (fun H locs G => ?_)
      obtain ⟨g_18, G⟩ : ∃ g_18 : Nat → Nat → Int32, wd X (va_A (duW X hd da gd) sz) (va_A (duW X hd da gd) sz) s (duW X hd da g_18) H locs := ⟨upG g2_0 2 _, G⟩
      refine lv_aload_n zx zb dX0_weigh_28 rfl (lv_at hl 1 rfl) ?_
      refine r_get (C := RX0) (T := TX0) (N := 5) (ci := 0) (v := .ref (da 3)) S in_X0_weigh_X0 G 0 rfl rfl 3 (by decide) lk_X0_weigh_21 rfl dX0_weigh_29 ?_
      refine lv_iload_n zx zb dX0_weigh_32 rfl (lv_at hl 0 rfl) ?_
      refine lv_aload_n zx zb dX0_weigh_33 rfl (lv_at hl 1 rfl) ?_
      refine r_get (C := RX0) (T := TX0) (N := 5) (ci := 0) (v := .ref (da 1)) S in_X0_weigh_X0 G 0 rfl rfl 1 (by decide) lk_X0_weigh_15 rfl dX0_weigh_34 ?_
      refine lv_iload_n zx zb dX0_weigh_37 rfl (lv_at hl 3 rfl) ?_
      refine lv_aload_n zx zb dX0_weigh_38 rfl (lv_at hl 1 rfl) ?_
      refine r_get (C := RX0) (T := TX0) (N := 5) (ci := 0) (v := .ref (da 0)) S in_X0_weigh_X0 G 0 rfl rfl 0 (by decide) lk_X0_weigh_11 rfl dX0_weigh_39 ?_
      refine lv_iload_n zx zb dX0_weigh_42 rfl (lv_at hl 0 rfl) ?_
      refine r_iald S G 1 rfl (vp_in_nI (by omega) (by decide)) rfl dX0_weigh_43 ?_
      refine k_itE (fun y_19 => ?_)
      refine o_ri (cells' := 0) (slots' := 0) G rfl rfl (n_S (As := [.ref (da 1), .int x2, .int y_19]) (rest := [.int (nI k2), .ref (da 3)]) S G (s_greatestGain l X (da 1) (g_18 1) x2 y_19 H.size) gX0_weigh_X0_greatestGain rfl rfl rfl hdS_X0_greatestGain ⟨Nat.le_of_ble_eq_true rfl, Nat.le_of_ble_eq_true rfl⟩ [2] rfl rfl rfl hl.1 (Nat.le_of_ble_eq_true rfl) dX0_weigh_44 ⟨Nat.le_of_ble_eq_true rfl, Nat.le_of_ble_eq_true rfl⟩) (fun r_20 u_20 H locs hp_20 G => ?_)
      have G : wd X (va_A (duW X hd da gd) sz) (va_A (duW X hd da gd) sz) s (duW X hd da g_18) H locs := G
      refine r_iast S G 4 rfl (vp_in_nI (by omega) (by decide)) dX0_weigh_47 (fun H locs G => ?_)
      obtain ⟨g_21, G⟩ : ∃ g_21 : Nat → Nat → Int32, wd X (va_A (duW X hd da gd) sz) (va_A (duW X hd da gd) sz) s (duW X hd da g_21) H locs := ⟨upG g_18 3 _, G⟩
      refine lv_iinc (v := (nI (k2 + 1))) (lv' := [(3, .int (nI (k2 + 1))), (0, .ref hd), (1, .int x1), (2, .int x2)]) zx zb dX0_weigh_48 hl (k := 0) rfl (nI_add k2 1) (by decide) rfl (fun ls hl => ?_)
      refine lv_goto (tgt := 2) zx zb dX0_weigh_51 (by decide) ?_
      exact ih2 (k2 + 1) g_21 _ _ _ (by omega) (by omega) G hl
theorem in_X0_restingPair_X0 : ∀ w ∈ wsX00, w ∈ wsX0_restingPair := by decide +kernel
theorem lk_X0_restingPair_24 : Cond.fieldLink RX0 24 "EggSpoons$Duel" "resting" "[I" ∈ wsX0_restingPair := by decide +kernel
set_option maxHeartbeats 4000000 in
set_option maxRecDepth 100000 in
/-- restingPair -/
theorem s_restingPair (l : Launch) (X : EX) (hd : Nat) (da : Nat → Nat) (gd : Nat → Nat → Int32) (x1 : Int32) (sz : Nat) : Met l yX0_restingPair wsX0_restingPair ({ frames := 0, cells := 0, slots := 0, locals := 0 } : Room) (pE X [.ref hd, .int x1] (duW X hd da gd) sz) (qI (fun (r : Int32) (u : Unit) => True) X (fun (u : Unit) => []) [] sz) 0 0 (va_A [] sz) := by
  refine mk_met (B := (fun _ => True)) (A := (va_A [] sz)) (cc := cX0_restingPair) (maxL := 2) (ret := (some .int)) (by decide) rfl (Nat.le_of_ble_eq_true rfl) k_ro k_a (fun p e s m below meth c S zr zlk znm zsz G ls hl => ?_)
  have S : CallFix p m c cX0_restingPair 2 s _ wsX0_restingPair RX0 := S
  have zx := S.1
  have zb := S.2.1
  have hl : lv_has ls 2 [(0, .ref hd), (1, .int x1)] := hl
  refine lv_iload_n zx zb dX0_restingPair_0 rfl (lv_at hl 1 rfl) ?_
  refine k_cutW (PP := fun Wx => ∀ (x_2 : Int32) (H : Heap) (locs : List Loc) (ls : Array Slot), wd X (fun _ => True) (va_A [] sz) s (duW X hd da gd) H locs → lv_has ls 2 [(0, .ref hd), (1, .int x1)] → Wx (F0 m 23 ls [.int x_2]) H locs) ?_ ?_
  · intro join_1
    refine lv_if_lt (tgt := 22) zx zb dX0_restingPair_1 (by decide) (fun c_1 => ?_) (fun c_1 => ?_)
    · refine lv_iconst (v := (-1)) zx zb dX0_restingPair_22 (by decide) ?_
      exact join_1 (-1) _ _ _  G hl
    · refine lv_iload_n zx zb dX0_restingPair_4 rfl (lv_at hl 1 rfl) ?_
      refine lv_aload_n zx zb dX0_restingPair_5 rfl (lv_at hl 0 rfl) ?_
      refine r_get (C := RX0) (T := TX0) (N := 5) (ci := 0) (v := .ref (da 4)) S in_X0_restingPair_X0 G 0 rfl rfl 4 (by decide) lk_X0_restingPair_24 rfl dX0_restingPair_6 ?_
      refine r_alen (v := 100) S G 5 0 rfl rfl rfl dX0_restingPair_9 ?_
      refine lv_icmp_ge (tgt := 22) zx zb dX0_restingPair_10 (by decide) (fun c_3 => ?_) (fun c_3 => ?_)
      · refine lv_iconst (v := (-1)) zx zb dX0_restingPair_22 (by decide) ?_
        exact join_1 (-1) _ _ _  G hl
      · refine lv_aload_n zx zb dX0_restingPair_13 rfl (lv_at hl 0 rfl) ?_
        refine r_get (C := RX0) (T := TX0) (N := 5) (ci := 0) (v := .ref (da 4)) S in_X0_restingPair_X0 G 0 rfl rfl 4 (by decide) lk_X0_restingPair_24 rfl dX0_restingPair_14 ?_
        refine lv_iload_n zx zb dX0_restingPair_17 rfl (lv_at hl 1 rfl) ?_
        refine r_iald S G 5 rfl (k_in (by decide) c_1 c_3) rfl dX0_restingPair_18 ?_
        refine k_itE (fun y_4 => ?_)
        refine lv_goto (tgt := 23) zx zb dX0_restingPair_19 (by decide) ?_
        exact join_1 y_4 _ _ _  G hl
  · intro x_2 H locs ls  G hl
    exact e_int S zr zlk (vp_nar_int _) G () [] rfl rfl (Or.inl rfl) (trivial) dX0_restingPair_23
theorem in_X10_placeBehindFive_X10 : ∀ w ∈ wsX100, w ∈ wsX10_placeBehindFive := by decide +kernel
theorem lk_X10_placeBehindFive_48 : Cond.fieldLink RX10 48 "EggSpoons" "ghost" "LEggSpoons$Runner;" ∈ wsX10_placeBehindFive := by decide +kernel
theorem lk_X10_placeBehindFive_10 : Cond.fieldLink RX10 10 "EggSpoons" "now" "LEggSpoons$Race;" ∈ wsX10_placeBehindFive := by decide +kernel
theorem in_X10_placeBehindFive_X5 : ∀ w ∈ wsX50, w ∈ wsX10_placeBehindFive := by decide +kernel
theorem lk_X10_placeBehindFive_126 : Cond.fieldLink RX10 126 "EggSpoons$Race" "row" "[LEggSpoons$Runner;" ∈ wsX10_placeBehindFive := by decide +kernel
theorem in_X10_placeBehindFive_X8 : ∀ w ∈ wsX80, w ∈ wsX10_placeBehindFive := by decide +kernel
theorem lk_X10_placeBehindFive_130 : Cond.fieldLink RX10 130 "EggSpoons$Runner" "speed" "I" ∈ wsX10_placeBehindFive := by decide +kernel
theorem lk_X10_placeBehindFive_110 : Cond.fieldLink RX10 110 "EggSpoons$Race" "tick" "I" ∈ wsX10_placeBehindFive := by decide +kernel
theorem lk_X10_placeBehindFive_140 : Cond.fieldLink RX10 140 "EggSpoons$Race" "length" "I" ∈ wsX10_placeBehindFive := by decide +kernel
set_option maxHeartbeats 4000000 in
set_option maxRecDepth 100000 in
/-- placeBehindFive -/
theorem s_five (l : Launch) (X : EX) (h0 : Nat) (nw : Nat) (sp : Nat) (xa : Nat → Nat) (la : Int64) (lb : Int64) (an : Nat → Nat) (sv : Nat → Int32) (dv : Nat → Int32) (n0 : Nat) (n1 : Nat) (n2 : Nat) (n3 : Nat) (n4 : Nat) (g0 : Nat → Int32) (gs : Nat → Int32) (gn : Nat → Int32) (gm : Nat → Int32) (ag : Nat → Int32) (dg : Nat → Int32) (i : Nat) (x2 : Int32) (hI_n0 : n0 ≤ 6) (hI_n1 : n1 ≤ 8) (hI_n2 : n2 ≤ 5) (hI_n3 : n3 ≤ 6) (hI_n4 : n4 ≤ 6) (hi6 : i < 6) (sz : Nat) : Met l yX10_placeBehindFive wsX10_placeBehindFive ({ frames := 3, cells := 0, slots := 0, locals := 73 } : Room) (pE X [.ref h0, .int (nI i), .int x2] (@HAppend.hAppend va_W va_W va_W _ (xW h0 nw sp xa la lb) (@HAppend.hAppend va_W va_W va_W _ (rcV X nw an sv dv n0 n1 n2 n3 n4 g0 gs gn gm) (rnV (xa 8) ag dg))) sz) (qI (fun (r : Int32) (u : (Nat → Int32) × (Nat → Int32)) => (True)) X (fun (u : (Nat → Int32) × (Nat → Int32)) => @HAppend.hAppend va_W va_W va_W _ (xW h0 nw sp xa la lb) (@HAppend.hAppend va_W va_W va_W _ (rcV X nw an sv dv n0 n1 n2 n3 n4 g0 gs gn gm) (rnV (xa 8) u.1 u.2))) (@HAppend.hAppend va_W va_W va_W _ (xW h0 nw sp xa la lb) (@HAppend.hAppend va_W va_W va_W _ (rcV X nw an sv dv n0 n1 n2 n3 n4 g0 gs gn gm) (rnV (xa 8) ag dg))) sz) 0 0 (va_A (@HAppend.hAppend va_W va_W va_W _ (xW h0 nw sp xa la lb) (@HAppend.hAppend va_W va_W va_W _ (rcV X nw an sv dv n0 n1 n2 n3 n4 g0 gs gn gm) (rnV (xa 8) ag dg))) sz) := by
  refine mk_met (B := (va_A (@HAppend.hAppend va_W va_W va_W _ (xW h0 nw sp xa la lb) (@HAppend.hAppend va_W va_W va_W _ (rcV X nw an sv dv n0 n1 n2 n3 n4 g0 gs gn gm) (rnV (xa 8) ag dg))) sz)) (A := (va_A (@HAppend.hAppend va_W va_W va_W _ (xW h0 nw sp xa la lb) (@HAppend.hAppend va_W va_W va_W _ (rcV X nw an sv dv n0 n1 n2 n3 n4 g0 gs gn gm) (rnV (xa 8) ag dg))) sz)) (cc := cX10_placeBehindFive) (maxL := 3) (ret := (some .int)) (by decide) rfl (Nat.le_of_ble_eq_true rfl) k_w k_a (fun p e s m below meth c S zr zlk znm zsz G ls hl => ?_)
  have S : CallFix p m c cX10_placeBehindFive 3 s _ wsX10_placeBehindFive RX10 := S
  have zx := S.1
  have zb := S.2.1
  have hl : lv_has ls 3 [(0, .ref h0), (1, .int (nI i)), (2, .int x2)] := hl
  refine lv_aload_n zx zb dX10_placeBehindFive_0 rfl (lv_at hl 0 rfl) ?_
  refine r_get (C := RX10) (T := TX10) (N := 14) (ci := 8) (v := .ref (xa 8)) S in_X10_placeBehindFive_X10 G 0 rfl rfl 8 (by decide) lk_X10_placeBehindFive_48 rfl dX10_placeBehindFive_1 ?_
  refine lv_aload_n zx zb dX10_placeBehindFive_4 rfl (lv_at hl 0 rfl) ?_
  refine r_get (C := RX10) (T := TX10) (N := 14) (ci := 8) (v := .ref nw) S in_X10_placeBehindFive_X10 G 0 rfl rfl 0 (by decide) lk_X10_placeBehindFive_10 rfl dX10_placeBehindFive_5 ?_
  refine r_get (C := RX5) (T := TX5) (N := 8) (ci := 3) (v := .ref (an 0)) S in_X10_placeBehindFive_X5 G 1 rfl rfl 3 (by decide) lk_X10_placeBehindFive_126 rfl dX10_placeBehindFive_8 ?_
  refine lv_iload_n zx zb dX10_placeBehindFive_11 rfl (lv_at hl 1 rfl) ?_
  refine k_cutW (PP := fun Wx => ∀ (a_1 : Nat → Int32) (d_2 : Nat → Int32) (H : Heap) (locs : List Loc) (ls : Array Slot), wd X (va_A (@HAppend.hAppend va_W va_W va_W _ (xW h0 nw sp xa la lb) (@HAppend.hAppend va_W va_W va_W _ (rcV X nw an sv dv n0 n1 n2 n3 n4 g0 gs gn gm) (rnV (xa 8) ag dg))) sz) (va_A (@HAppend.hAppend va_W va_W va_W _ (xW h0 nw sp xa la lb) (@HAppend.hAppend va_W va_W va_W _ (rcV X nw an sv dv n0 n1 n2 n3 n4 g0 gs gn gm) (rnV (xa 8) ag dg))) sz) s (@HAppend.hAppend va_W va_W va_W _ (xW h0 nw sp xa la lb) (@HAppend.hAppend va_W va_W va_W _ (rcV X nw an sv dv n0 n1 n2 n3 n4 g0 gs gn gm) (rnV (xa 8) a_1 d_2))) H locs → lv_has ls 3 [(0, .ref h0), (1, .int (nI i)), (2, .int x2)] → Wx (F0 m 16 ls []) H locs) ?_ ?_
  · intro join_12
    rcases k_6c (show i < 6 by omega) with q_3 | q_3 | q_3 | q_3 | q_3 | q_3
    · refine k_it (v := 0) (by rw [q_3]; rfl) ?_
      refine r_aald (C := RX8) (b := (an 1)) S G 2 3 rfl rfl (k_vp (by decide)) rfl dX10_placeBehindFive_12 ?_
      refine b_wv (cells' := 0) (slots' := 0) (wr := @HAppend.hAppend va_W va_W va_W _ (xW h0 nw sp xa la lb) ([(nw, .inr (3, [.int (dv 0), .int (dv 1), .int (nI n0), .ref (an 0), .ref (an 7), .ref (an 9), .ref (an 11), .ref (an 13)])), ((an 0), .inl (X.2.2.2.2, 6, .inr (.inr (.inr (.inr (rowQ an)))))), ((an 2), .inr (6, [.int (sv 3), .int (sv 4), .int (sv 5), .int (dv 15), .int (dv 16), .int (dv 17), .int (dv 18), .int (dv 19)])), ((an 3), .inr (6, [.int (sv 6), .int (sv 7), .int (sv 8), .int (dv 20), .int (dv 21), .int (dv 22), .int (dv 23), .int (dv 24)])), ((an 4), .inr (6, [.int (sv 9), .int (sv 10), .int (sv 11), .int (dv 25), .int (dv 26), .int (dv 27), .int (dv 28), .int (dv 29)])), ((an 5), .inr (6, [.int (sv 12), .int (sv 13), .int (sv 14), .int (dv 30), .int (dv 31), .int (dv 32), .int (dv 33), .int (dv 34)])), ((an 6), .inr (6, [.int (sv 15), .int (sv 16), .int (sv 17), .int (dv 35), .int (dv 36), .int (dv 37), .int (dv 38), .int (dv 39)])), ((an 7), .inr (2, [.ref (an 8), .int (nI n1)])), ((an 8), .inl (X.2.1, 248, .inl g0)), ((an 9), .inr (5, [.int 5, .int 0, .int 1, .ref (an 10), .int (nI n2)])), ((an 10), .inl (X.2.1, 25, .inl gs)), ((an 11), .inr (5, [.int 6, .int 1, .int 1, .ref (an 12), .int (nI n3)])), ((an 12), .inl (X.2.1, 30, .inl gn)), ((an 13), .inr (5, [.int 6, .int 0, .int 0, .ref (an 14), .int (nI n4)])), ((an 14), .inl (X.2.1, 30, .inl gm))])) G rfl rfl [17, 3] [0, 1, 2, 4, 5, 6, 7, 8, 9, 10, 11, 12, 13, 14, 15, 16] rfl rfl rfl rfl (n_V (As := [.ref (an 1)]) (rest := []) (C := RX8) (T := TX8) (N := 8) (ci := 6) S G (s_rcopy l X (xa 8) ag dg (an 1) (fun k => sv (0 + k)) (fun k => dv (10 + k)) s.heap.size) gX10_placeBehindFive_X8_copyFrom rfl rfl rfl hdV_X8_copyFrom ⟨Nat.le_of_ble_eq_true rfl, Nat.le_of_ble_eq_true rfl⟩ [17, 3] rfl rfl 17 rfl rfl rfl hl.1 (Nat.le_of_ble_eq_true rfl) dX10_placeBehindFive_13 ⟨Nat.le_of_ble_eq_true rfl, Nat.le_of_ble_eq_true rfl⟩) (fun u_4 H locs hp_4 G => ?_)
      obtain ⟨a_4a, d_4b⟩ := u_4
      have hq_4 := hp_4
      have G : wd X (va_A (@HAppend.hAppend va_W va_W va_W _ (xW h0 nw sp xa la lb) (@HAppend.hAppend va_W va_W va_W _ (rcV X nw an sv dv n0 n1 n2 n3 n4 g0 gs gn gm) (rnV (xa 8) ag dg))) sz) (va_A (@HAppend.hAppend va_W va_W va_W _ (xW h0 nw sp xa la lb) (@HAppend.hAppend va_W va_W va_W _ (rcV X nw an sv dv n0 n1 n2 n3 n4 g0 gs gn gm) (rnV (xa 8) ag dg))) sz) s (@HAppend.hAppend va_W va_W va_W _ (xW h0 nw sp xa la lb) (@HAppend.hAppend va_W va_W va_W _ (rcV X nw an sv dv n0 n1 n2 n3 n4 g0 gs gn gm) (rnV (xa 8) a_4a d_4b))) H locs := wd_sub G [0, 1, 2, 17, 3, 4, 5, 6, 7, 8, 9, 10, 11, 12, 13, 14, 15, 16] rfl rfl
      exact join_12 a_4a d_4b _ _ _  G hl
    · refine k_it (v := 1) (by rw [q_3]; rfl) ?_
      refine r_aald (C := RX8) (b := (an 2)) S G 2 3 rfl rfl (k_vp (by decide)) rfl dX10_placeBehindFive_12 ?_
      refine b_wv (cells' := 0) (slots' := 0) (wr := @HAppend.hAppend va_W va_W va_W _ (xW h0 nw sp xa la lb) ([(nw, .inr (3, [.int (dv 0), .int (dv 1), .int (nI n0), .ref (an 0), .ref (an 7), .ref (an 9), .ref (an 11), .ref (an 13)])), ((an 0), .inl (X.2.2.2.2, 6, .inr (.inr (.inr (.inr (rowQ an)))))), ((an 1), .inr (6, [.int (sv 0), .int (sv 1), .int (sv 2), .int (dv 10), .int (dv 11), .int (dv 12), .int (dv 13), .int (dv 14)])), ((an 3), .inr (6, [.int (sv 6), .int (sv 7), .int (sv 8), .int (dv 20), .int (dv 21), .int (dv 22), .int (dv 23), .int (dv 24)])), ((an 4), .inr (6, [.int (sv 9), .int (sv 10), .int (sv 11), .int (dv 25), .int (dv 26), .int (dv 27), .int (dv 28), .int (dv 29)])), ((an 5), .inr (6, [.int (sv 12), .int (sv 13), .int (sv 14), .int (dv 30), .int (dv 31), .int (dv 32), .int (dv 33), .int (dv 34)])), ((an 6), .inr (6, [.int (sv 15), .int (sv 16), .int (sv 17), .int (dv 35), .int (dv 36), .int (dv 37), .int (dv 38), .int (dv 39)])), ((an 7), .inr (2, [.ref (an 8), .int (nI n1)])), ((an 8), .inl (X.2.1, 248, .inl g0)), ((an 9), .inr (5, [.int 5, .int 0, .int 1, .ref (an 10), .int (nI n2)])), ((an 10), .inl (X.2.1, 25, .inl gs)), ((an 11), .inr (5, [.int 6, .int 1, .int 1, .ref (an 12), .int (nI n3)])), ((an 12), .inl (X.2.1, 30, .inl gn)), ((an 13), .inr (5, [.int 6, .int 0, .int 0, .ref (an 14), .int (nI n4)])), ((an 14), .inl (X.2.1, 30, .inl gm))])) G rfl rfl [17, 4] [0, 1, 2, 3, 5, 6, 7, 8, 9, 10, 11, 12, 13, 14, 15, 16] rfl rfl rfl rfl (n_V (As := [.ref (an 2)]) (rest := []) (C := RX8) (T := TX8) (N := 8) (ci := 6) S G (s_rcopy l X (xa 8) ag dg (an 2) (fun k => sv (3 + k)) (fun k => dv (15 + k)) s.heap.size) gX10_placeBehindFive_X8_copyFrom rfl rfl rfl hdV_X8_copyFrom ⟨Nat.le_of_ble_eq_true rfl, Nat.le_of_ble_eq_true rfl⟩ [17, 4] rfl rfl 17 rfl rfl rfl hl.1 (Nat.le_of_ble_eq_true rfl) dX10_placeBehindFive_13 ⟨Nat.le_of_ble_eq_true rfl, Nat.le_of_ble_eq_true rfl⟩) (fun u_5 H locs hp_5 G => ?_)
      obtain ⟨a_5a, d_5b⟩ := u_5
      have hq_5 := hp_5
      have G : wd X (va_A (@HAppend.hAppend va_W va_W va_W _ (xW h0 nw sp xa la lb) (@HAppend.hAppend va_W va_W va_W _ (rcV X nw an sv dv n0 n1 n2 n3 n4 g0 gs gn gm) (rnV (xa 8) ag dg))) sz) (va_A (@HAppend.hAppend va_W va_W va_W _ (xW h0 nw sp xa la lb) (@HAppend.hAppend va_W va_W va_W _ (rcV X nw an sv dv n0 n1 n2 n3 n4 g0 gs gn gm) (rnV (xa 8) ag dg))) sz) s (@HAppend.hAppend va_W va_W va_W _ (xW h0 nw sp xa la lb) (@HAppend.hAppend va_W va_W va_W _ (rcV X nw an sv dv n0 n1 n2 n3 n4 g0 gs gn gm) (rnV (xa 8) a_5a d_5b))) H locs := wd_sub G [0, 1, 2, 3, 17, 4, 5, 6, 7, 8, 9, 10, 11, 12, 13, 14, 15, 16] rfl rfl
      exact join_12 a_5a d_5b _ _ _  G hl
    · refine k_it (v := 2) (by rw [q_3]; rfl) ?_
      refine r_aald (C := RX8) (b := (an 3)) S G 2 3 rfl rfl (k_vp (by decide)) rfl dX10_placeBehindFive_12 ?_
      refine b_wv (cells' := 0) (slots' := 0) (wr := @HAppend.hAppend va_W va_W va_W _ (xW h0 nw sp xa la lb) ([(nw, .inr (3, [.int (dv 0), .int (dv 1), .int (nI n0), .ref (an 0), .ref (an 7), .ref (an 9), .ref (an 11), .ref (an 13)])), ((an 0), .inl (X.2.2.2.2, 6, .inr (.inr (.inr (.inr (rowQ an)))))), ((an 1), .inr (6, [.int (sv 0), .int (sv 1), .int (sv 2), .int (dv 10), .int (dv 11), .int (dv 12), .int (dv 13), .int (dv 14)])), ((an 2), .inr (6, [.int (sv 3), .int (sv 4), .int (sv 5), .int (dv 15), .int (dv 16), .int (dv 17), .int (dv 18), .int (dv 19)])), ((an 4), .inr (6, [.int (sv 9), .int (sv 10), .int (sv 11), .int (dv 25), .int (dv 26), .int (dv 27), .int (dv 28), .int (dv 29)])), ((an 5), .inr (6, [.int (sv 12), .int (sv 13), .int (sv 14), .int (dv 30), .int (dv 31), .int (dv 32), .int (dv 33), .int (dv 34)])), ((an 6), .inr (6, [.int (sv 15), .int (sv 16), .int (sv 17), .int (dv 35), .int (dv 36), .int (dv 37), .int (dv 38), .int (dv 39)])), ((an 7), .inr (2, [.ref (an 8), .int (nI n1)])), ((an 8), .inl (X.2.1, 248, .inl g0)), ((an 9), .inr (5, [.int 5, .int 0, .int 1, .ref (an 10), .int (nI n2)])), ((an 10), .inl (X.2.1, 25, .inl gs)), ((an 11), .inr (5, [.int 6, .int 1, .int 1, .ref (an 12), .int (nI n3)])), ((an 12), .inl (X.2.1, 30, .inl gn)), ((an 13), .inr (5, [.int 6, .int 0, .int 0, .ref (an 14), .int (nI n4)])), ((an 14), .inl (X.2.1, 30, .inl gm))])) G rfl rfl [17, 5] [0, 1, 2, 3, 4, 6, 7, 8, 9, 10, 11, 12, 13, 14, 15, 16] rfl rfl rfl rfl (n_V (As := [.ref (an 3)]) (rest := []) (C := RX8) (T := TX8) (N := 8) (ci := 6) S G (s_rcopy l X (xa 8) ag dg (an 3) (fun k => sv (6 + k)) (fun k => dv (20 + k)) s.heap.size) gX10_placeBehindFive_X8_copyFrom rfl rfl rfl hdV_X8_copyFrom ⟨Nat.le_of_ble_eq_true rfl, Nat.le_of_ble_eq_true rfl⟩ [17, 5] rfl rfl 17 rfl rfl rfl hl.1 (Nat.le_of_ble_eq_true rfl) dX10_placeBehindFive_13 ⟨Nat.le_of_ble_eq_true rfl, Nat.le_of_ble_eq_true rfl⟩) (fun u_6 H locs hp_6 G => ?_)
      obtain ⟨a_6a, d_6b⟩ := u_6
      have hq_6 := hp_6
      have G : wd X (va_A (@HAppend.hAppend va_W va_W va_W _ (xW h0 nw sp xa la lb) (@HAppend.hAppend va_W va_W va_W _ (rcV X nw an sv dv n0 n1 n2 n3 n4 g0 gs gn gm) (rnV (xa 8) ag dg))) sz) (va_A (@HAppend.hAppend va_W va_W va_W _ (xW h0 nw sp xa la lb) (@HAppend.hAppend va_W va_W va_W _ (rcV X nw an sv dv n0 n1 n2 n3 n4 g0 gs gn gm) (rnV (xa 8) ag dg))) sz) s (@HAppend.hAppend va_W va_W va_W _ (xW h0 nw sp xa la lb) (@HAppend.hAppend va_W va_W va_W _ (rcV X nw an sv dv n0 n1 n2 n3 n4 g0 gs gn gm) (rnV (xa 8) a_6a d_6b))) H locs := wd_sub G [0, 1, 2, 3, 4, 17, 5, 6, 7, 8, 9, 10, 11, 12, 13, 14, 15, 16] rfl rfl
      exact join_12 a_6a d_6b _ _ _  G hl
    · refine k_it (v := 3) (by rw [q_3]; rfl) ?_
      refine r_aald (C := RX8) (b := (an 4)) S G 2 3 rfl rfl (k_vp (by decide)) rfl dX10_placeBehindFive_12 ?_
      refine b_wv (cells' := 0) (slots' := 0) (wr := @HAppend.hAppend va_W va_W va_W _ (xW h0 nw sp xa la lb) ([(nw, .inr (3, [.int (dv 0), .int (dv 1), .int (nI n0), .ref (an 0), .ref (an 7), .ref (an 9), .ref (an 11), .ref (an 13)])), ((an 0), .inl (X.2.2.2.2, 6, .inr (.inr (.inr (.inr (rowQ an)))))), ((an 1), .inr (6, [.int (sv 0), .int (sv 1), .int (sv 2), .int (dv 10), .int (dv 11), .int (dv 12), .int (dv 13), .int (dv 14)])), ((an 2), .inr (6, [.int (sv 3), .int (sv 4), .int (sv 5), .int (dv 15), .int (dv 16), .int (dv 17), .int (dv 18), .int (dv 19)])), ((an 3), .inr (6, [.int (sv 6), .int (sv 7), .int (sv 8), .int (dv 20), .int (dv 21), .int (dv 22), .int (dv 23), .int (dv 24)])), ((an 5), .inr (6, [.int (sv 12), .int (sv 13), .int (sv 14), .int (dv 30), .int (dv 31), .int (dv 32), .int (dv 33), .int (dv 34)])), ((an 6), .inr (6, [.int (sv 15), .int (sv 16), .int (sv 17), .int (dv 35), .int (dv 36), .int (dv 37), .int (dv 38), .int (dv 39)])), ((an 7), .inr (2, [.ref (an 8), .int (nI n1)])), ((an 8), .inl (X.2.1, 248, .inl g0)), ((an 9), .inr (5, [.int 5, .int 0, .int 1, .ref (an 10), .int (nI n2)])), ((an 10), .inl (X.2.1, 25, .inl gs)), ((an 11), .inr (5, [.int 6, .int 1, .int 1, .ref (an 12), .int (nI n3)])), ((an 12), .inl (X.2.1, 30, .inl gn)), ((an 13), .inr (5, [.int 6, .int 0, .int 0, .ref (an 14), .int (nI n4)])), ((an 14), .inl (X.2.1, 30, .inl gm))])) G rfl rfl [17, 6] [0, 1, 2, 3, 4, 5, 7, 8, 9, 10, 11, 12, 13, 14, 15, 16] rfl rfl rfl rfl (n_V (As := [.ref (an 4)]) (rest := []) (C := RX8) (T := TX8) (N := 8) (ci := 6) S G (s_rcopy l X (xa 8) ag dg (an 4) (fun k => sv (9 + k)) (fun k => dv (25 + k)) s.heap.size) gX10_placeBehindFive_X8_copyFrom rfl rfl rfl hdV_X8_copyFrom ⟨Nat.le_of_ble_eq_true rfl, Nat.le_of_ble_eq_true rfl⟩ [17, 6] rfl rfl 17 rfl rfl rfl hl.1 (Nat.le_of_ble_eq_true rfl) dX10_placeBehindFive_13 ⟨Nat.le_of_ble_eq_true rfl, Nat.le_of_ble_eq_true rfl⟩) (fun u_7 H locs hp_7 G => ?_)
      obtain ⟨a_7a, d_7b⟩ := u_7
      have hq_7 := hp_7
      have G : wd X (va_A (@HAppend.hAppend va_W va_W va_W _ (xW h0 nw sp xa la lb) (@HAppend.hAppend va_W va_W va_W _ (rcV X nw an sv dv n0 n1 n2 n3 n4 g0 gs gn gm) (rnV (xa 8) ag dg))) sz) (va_A (@HAppend.hAppend va_W va_W va_W _ (xW h0 nw sp xa la lb) (@HAppend.hAppend va_W va_W va_W _ (rcV X nw an sv dv n0 n1 n2 n3 n4 g0 gs gn gm) (rnV (xa 8) ag dg))) sz) s (@HAppend.hAppend va_W va_W va_W _ (xW h0 nw sp xa la lb) (@HAppend.hAppend va_W va_W va_W _ (rcV X nw an sv dv n0 n1 n2 n3 n4 g0 gs gn gm) (rnV (xa 8) a_7a d_7b))) H locs := wd_sub G [0, 1, 2, 3, 4, 5, 17, 6, 7, 8, 9, 10, 11, 12, 13, 14, 15, 16] rfl rfl
      exact join_12 a_7a d_7b _ _ _  G hl
    · refine k_it (v := 4) (by rw [q_3]; rfl) ?_
      refine r_aald (C := RX8) (b := (an 5)) S G 2 3 rfl rfl (k_vp (by decide)) rfl dX10_placeBehindFive_12 ?_
      refine b_wv (cells' := 0) (slots' := 0) (wr := @HAppend.hAppend va_W va_W va_W _ (xW h0 nw sp xa la lb) ([(nw, .inr (3, [.int (dv 0), .int (dv 1), .int (nI n0), .ref (an 0), .ref (an 7), .ref (an 9), .ref (an 11), .ref (an 13)])), ((an 0), .inl (X.2.2.2.2, 6, .inr (.inr (.inr (.inr (rowQ an)))))), ((an 1), .inr (6, [.int (sv 0), .int (sv 1), .int (sv 2), .int (dv 10), .int (dv 11), .int (dv 12), .int (dv 13), .int (dv 14)])), ((an 2), .inr (6, [.int (sv 3), .int (sv 4), .int (sv 5), .int (dv 15), .int (dv 16), .int (dv 17), .int (dv 18), .int (dv 19)])), ((an 3), .inr (6, [.int (sv 6), .int (sv 7), .int (sv 8), .int (dv 20), .int (dv 21), .int (dv 22), .int (dv 23), .int (dv 24)])), ((an 4), .inr (6, [.int (sv 9), .int (sv 10), .int (sv 11), .int (dv 25), .int (dv 26), .int (dv 27), .int (dv 28), .int (dv 29)])), ((an 6), .inr (6, [.int (sv 15), .int (sv 16), .int (sv 17), .int (dv 35), .int (dv 36), .int (dv 37), .int (dv 38), .int (dv 39)])), ((an 7), .inr (2, [.ref (an 8), .int (nI n1)])), ((an 8), .inl (X.2.1, 248, .inl g0)), ((an 9), .inr (5, [.int 5, .int 0, .int 1, .ref (an 10), .int (nI n2)])), ((an 10), .inl (X.2.1, 25, .inl gs)), ((an 11), .inr (5, [.int 6, .int 1, .int 1, .ref (an 12), .int (nI n3)])), ((an 12), .inl (X.2.1, 30, .inl gn)), ((an 13), .inr (5, [.int 6, .int 0, .int 0, .ref (an 14), .int (nI n4)])), ((an 14), .inl (X.2.1, 30, .inl gm))])) G rfl rfl [17, 7] [0, 1, 2, 3, 4, 5, 6, 8, 9, 10, 11, 12, 13, 14, 15, 16] rfl rfl rfl rfl (n_V (As := [.ref (an 5)]) (rest := []) (C := RX8) (T := TX8) (N := 8) (ci := 6) S G (s_rcopy l X (xa 8) ag dg (an 5) (fun k => sv (12 + k)) (fun k => dv (30 + k)) s.heap.size) gX10_placeBehindFive_X8_copyFrom rfl rfl rfl hdV_X8_copyFrom ⟨Nat.le_of_ble_eq_true rfl, Nat.le_of_ble_eq_true rfl⟩ [17, 7] rfl rfl 17 rfl rfl rfl hl.1 (Nat.le_of_ble_eq_true rfl) dX10_placeBehindFive_13 ⟨Nat.le_of_ble_eq_true rfl, Nat.le_of_ble_eq_true rfl⟩) (fun u_8 H locs hp_8 G => ?_)
      obtain ⟨a_8a, d_8b⟩ := u_8
      have hq_8 := hp_8
      have G : wd X (va_A (@HAppend.hAppend va_W va_W va_W _ (xW h0 nw sp xa la lb) (@HAppend.hAppend va_W va_W va_W _ (rcV X nw an sv dv n0 n1 n2 n3 n4 g0 gs gn gm) (rnV (xa 8) ag dg))) sz) (va_A (@HAppend.hAppend va_W va_W va_W _ (xW h0 nw sp xa la lb) (@HAppend.hAppend va_W va_W va_W _ (rcV X nw an sv dv n0 n1 n2 n3 n4 g0 gs gn gm) (rnV (xa 8) ag dg))) sz) s (@HAppend.hAppend va_W va_W va_W _ (xW h0 nw sp xa la lb) (@HAppend.hAppend va_W va_W va_W _ (rcV X nw an sv dv n0 n1 n2 n3 n4 g0 gs gn gm) (rnV (xa 8) a_8a d_8b))) H locs := wd_sub G [0, 1, 2, 3, 4, 5, 6, 17, 7, 8, 9, 10, 11, 12, 13, 14, 15, 16] rfl rfl
      exact join_12 a_8a d_8b _ _ _  G hl
    · refine k_it (v := 5) (by rw [q_3]; rfl) ?_
      refine r_aald (C := RX8) (b := (an 6)) S G 2 3 rfl rfl (k_vp (by decide)) rfl dX10_placeBehindFive_12 ?_
      refine b_wv (cells' := 0) (slots' := 0) (wr := @HAppend.hAppend va_W va_W va_W _ (xW h0 nw sp xa la lb) ([(nw, .inr (3, [.int (dv 0), .int (dv 1), .int (nI n0), .ref (an 0), .ref (an 7), .ref (an 9), .ref (an 11), .ref (an 13)])), ((an 0), .inl (X.2.2.2.2, 6, .inr (.inr (.inr (.inr (rowQ an)))))), ((an 1), .inr (6, [.int (sv 0), .int (sv 1), .int (sv 2), .int (dv 10), .int (dv 11), .int (dv 12), .int (dv 13), .int (dv 14)])), ((an 2), .inr (6, [.int (sv 3), .int (sv 4), .int (sv 5), .int (dv 15), .int (dv 16), .int (dv 17), .int (dv 18), .int (dv 19)])), ((an 3), .inr (6, [.int (sv 6), .int (sv 7), .int (sv 8), .int (dv 20), .int (dv 21), .int (dv 22), .int (dv 23), .int (dv 24)])), ((an 4), .inr (6, [.int (sv 9), .int (sv 10), .int (sv 11), .int (dv 25), .int (dv 26), .int (dv 27), .int (dv 28), .int (dv 29)])), ((an 5), .inr (6, [.int (sv 12), .int (sv 13), .int (sv 14), .int (dv 30), .int (dv 31), .int (dv 32), .int (dv 33), .int (dv 34)])), ((an 7), .inr (2, [.ref (an 8), .int (nI n1)])), ((an 8), .inl (X.2.1, 248, .inl g0)), ((an 9), .inr (5, [.int 5, .int 0, .int 1, .ref (an 10), .int (nI n2)])), ((an 10), .inl (X.2.1, 25, .inl gs)), ((an 11), .inr (5, [.int 6, .int 1, .int 1, .ref (an 12), .int (nI n3)])), ((an 12), .inl (X.2.1, 30, .inl gn)), ((an 13), .inr (5, [.int 6, .int 0, .int 0, .ref (an 14), .int (nI n4)])), ((an 14), .inl (X.2.1, 30, .inl gm))])) G rfl rfl [17, 8] [0, 1, 2, 3, 4, 5, 6, 7, 9, 10, 11, 12, 13, 14, 15, 16] rfl rfl rfl rfl (n_V (As := [.ref (an 6)]) (rest := []) (C := RX8) (T := TX8) (N := 8) (ci := 6) S G (s_rcopy l X (xa 8) ag dg (an 6) (fun k => sv (15 + k)) (fun k => dv (35 + k)) s.heap.size) gX10_placeBehindFive_X8_copyFrom rfl rfl rfl hdV_X8_copyFrom ⟨Nat.le_of_ble_eq_true rfl, Nat.le_of_ble_eq_true rfl⟩ [17, 8] rfl rfl 17 rfl rfl rfl hl.1 (Nat.le_of_ble_eq_true rfl) dX10_placeBehindFive_13 ⟨Nat.le_of_ble_eq_true rfl, Nat.le_of_ble_eq_true rfl⟩) (fun u_9 H locs hp_9 G => ?_)
      obtain ⟨a_9a, d_9b⟩ := u_9
      have hq_9 := hp_9
      have G : wd X (va_A (@HAppend.hAppend va_W va_W va_W _ (xW h0 nw sp xa la lb) (@HAppend.hAppend va_W va_W va_W _ (rcV X nw an sv dv n0 n1 n2 n3 n4 g0 gs gn gm) (rnV (xa 8) ag dg))) sz) (va_A (@HAppend.hAppend va_W va_W va_W _ (xW h0 nw sp xa la lb) (@HAppend.hAppend va_W va_W va_W _ (rcV X nw an sv dv n0 n1 n2 n3 n4 g0 gs gn gm) (rnV (xa 8) ag dg))) sz) s (@HAppend.hAppend va_W va_W va_W _ (xW h0 nw sp xa la lb) (@HAppend.hAppend va_W va_W va_W _ (rcV X nw an sv dv n0 n1 n2 n3 n4 g0 gs gn gm) (rnV (xa 8) a_9a d_9b))) H locs := wd_sub G [0, 1, 2, 3, 4, 5, 6, 7, 17, 8, 9, 10, 11, 12, 13, 14, 15, 16] rfl rfl
      exact join_12 a_9a d_9b _ _ _  G hl
  · intro a_1 d_2 H locs ls  G hl
    refine lv_aload_n zx zb dX10_placeBehindFive_16 rfl (lv_at hl 0 rfl) ?_
    refine r_get (C := RX10) (T := TX10) (N := 14) (ci := 8) (v := .ref (xa 8)) S in_X10_placeBehindFive_X10 G 0 rfl rfl 8 (by decide) lk_X10_placeBehindFive_48 rfl dX10_placeBehindFive_17 ?_
    refine lv_iload_n zx zb dX10_placeBehindFive_20 rfl (lv_at hl 2 rfl) ?_
    refine r_put (C := RX8) (T := TX8) (N := 8) (ci := 6) (v := .int x2) S in_X10_placeBehindFive_X8 tyX8_ok nmX8 G 17 rfl rfl 3 (by decide) lk_X10_placeBehindFive_130 rfl (vp_nar_int _) rfl (Nat.le_of_ble_eq_true rfl) dX10_placeBehindFive_21 (fun H locs G => ?_)
    obtain ⟨d_10, G⟩ : ∃ d_10 : Nat → Int32, wd X (va_A (@HAppend.hAppend va_W va_W va_W _ (xW h0 nw sp xa la lb) (@HAppend.hAppend va_W va_W va_W _ (rcV X nw an sv dv n0 n1 n2 n3 n4 g0 gs gn gm) (rnV (xa 8) ag dg))) sz) (va_A (@HAppend.hAppend va_W va_W va_W _ (xW h0 nw sp xa la lb) (@HAppend.hAppend va_W va_W va_W _ (rcV X nw an sv dv n0 n1 n2 n3 n4 g0 gs gn gm) (rnV (xa 8) ag dg))) sz) s (@HAppend.hAppend va_W va_W va_W _ (xW h0 nw sp xa la lb) (@HAppend.hAppend va_W va_W va_W _ (rcV X nw an sv dv n0 n1 n2 n3 n4 g0 gs gn gm) (rnV (xa 8) a_1 d_10))) H locs := ⟨upd d_2 0 x2, G⟩
    refine lv_aload_n zx zb dX10_placeBehindFive_24 rfl (lv_at hl 0 rfl) ?_
    refine r_get (C := RX10) (T := TX10) (N := 14) (ci := 8) (v := .ref (xa 8)) S in_X10_placeBehindFive_X10 G 0 rfl rfl 8 (by decide) lk_X10_placeBehindFive_48 rfl dX10_placeBehindFive_25 ?_
    refine lv_aload_n zx zb dX10_placeBehindFive_28 rfl (lv_at hl 0 rfl) ?_
    refine r_get (C := RX10) (T := TX10) (N := 14) (ci := 8) (v := .ref nw) S in_X10_placeBehindFive_X10 G 0 rfl rfl 0 (by decide) lk_X10_placeBehindFive_10 rfl dX10_placeBehindFive_29 ?_
    refine r_get (C := RX5) (T := TX5) (N := 8) (ci := 3) (v := .int (dv 1)) S in_X10_placeBehindFive_X5 G 1 rfl rfl 1 (by decide) lk_X10_placeBehindFive_110 rfl dX10_placeBehindFive_32 ?_
    refine lv_aload_n zx zb dX10_placeBehindFive_35 rfl (lv_at hl 0 rfl) ?_
    refine r_get (C := RX10) (T := TX10) (N := 14) (ci := 8) (v := .ref nw) S in_X10_placeBehindFive_X10 G 0 rfl rfl 0 (by decide) lk_X10_placeBehindFive_10 rfl dX10_placeBehindFive_36 ?_
    refine r_get (C := RX5) (T := TX5) (N := 8) (ci := 3) (v := .int (dv 0)) S in_X10_placeBehindFive_X5 G 1 rfl rfl 0 (by decide) lk_X10_placeBehindFive_140 rfl dX10_placeBehindFive_39 ?_
    refine lv_iconst (v := 5) zx zb dX10_placeBehindFive_42 (by decide) ?_
    refine b_wi (cells' := 0) (slots' := 0) (wr := @HAppend.hAppend va_W va_W va_W _ (xW h0 nw sp xa la lb) (rcV X nw an sv dv n0 n1 n2 n3 n4 g0 gs gn gm)) G rfl rfl [17] [0, 1, 2, 3, 4, 5, 6, 7, 8, 9, 10, 11, 12, 13, 14, 15, 16] rfl rfl rfl rfl (n_V (As := [.int (dv 1), .int (dv 0), .int 5]) (rest := []) (C := RX8) (T := TX8) (N := 8) (ci := 6) S G (s_placeBehind l X (xa 8) a_1 d_10 (dv 1) (dv 0) 5 (by first | decide | assumption | exact k_60a (by assumption)) H.size) gX10_placeBehindFive_X8_placeBehind rfl rfl rfl hdV_X8_placeBehind ⟨Nat.le_of_ble_eq_true rfl, Nat.le_of_ble_eq_true rfl⟩ [17] rfl rfl 17 rfl rfl rfl hl.1 (Nat.le_of_ble_eq_true rfl) dX10_placeBehindFive_43 ⟨Nat.le_of_ble_eq_true rfl, Nat.le_of_ble_eq_true rfl⟩) (fun r_11 u_11 H locs hp_11 G => ?_)
    obtain ⟨d_11, rfl⟩ : ∃ z, z = u_11 := ⟨_, rfl⟩
    have hq_11 := hp_11
    have G : wd X (va_A (@HAppend.hAppend va_W va_W va_W _ (xW h0 nw sp xa la lb) (@HAppend.hAppend va_W va_W va_W _ (rcV X nw an sv dv n0 n1 n2 n3 n4 g0 gs gn gm) (rnV (xa 8) ag dg))) sz) (va_A (@HAppend.hAppend va_W va_W va_W _ (xW h0 nw sp xa la lb) (@HAppend.hAppend va_W va_W va_W _ (rcV X nw an sv dv n0 n1 n2 n3 n4 g0 gs gn gm) (rnV (xa 8) ag dg))) sz) s (@HAppend.hAppend va_W va_W va_W _ (xW h0 nw sp xa la lb) (@HAppend.hAppend va_W va_W va_W _ (rcV X nw an sv dv n0 n1 n2 n3 n4 g0 gs gn gm) (rnV (xa 8) a_1 d_11))) H locs := G
    exact e_int S zr zlk (vp_nar_int _) G (a_1, d_11) [0, 1, 2, 3, 4, 5, 6, 7, 8, 9, 10, 11, 12, 13, 14, 15, 16, 17] rfl rfl (Or.inr rfl) (trivial) dX10_placeBehindFive_46
theorem in_X10_pair_X10 : ∀ w ∈ wsX100, w ∈ wsX10_pair := by decide +kernel
theorem lk_X10_pair_72 : Cond.fieldLink RX10 72 "EggSpoons" "duel" "LEggSpoons$Duel;" ∈ wsX10_pair := by decide +kernel
theorem hdV_X10_placeBehindFive : yX10_placeBehindFive.cls = RX10 ∧ yX10_placeBehindFive.cls ≠ "java/lang/invoke/MethodHandle" ∧ yX10_placeBehindFive.cls ≠ "java/lang/invoke/VarHandle" ∧ (parseMethodDescriptor yX10_placeBehindFive.desc).map (fun d => d.parameters.length) = some 2 := by decide +kernel
theorem hdV_X0_put : yX0_put.cls = RX0 ∧ yX0_put.cls ≠ "java/lang/invoke/MethodHandle" ∧ yX0_put.cls ≠ "java/lang/invoke/VarHandle" ∧ (parseMethodDescriptor yX0_put.desc).map (fun d => d.parameters.length) = some 3 := by decide +kernel
theorem lk_X10_pair_10 : Cond.fieldLink RX10 10 "EggSpoons" "now" "LEggSpoons$Race;" ∈ wsX10_pair := by decide +kernel
theorem in_X10_pair_X5 : ∀ w ∈ wsX50, w ∈ wsX10_pair := by decide +kernel
theorem lk_X10_pair_126 : Cond.fieldLink RX10 126 "EggSpoons$Race" "row" "[LEggSpoons$Runner;" ∈ wsX10_pair := by decide +kernel
theorem in_X10_pair_X8 : ∀ w ∈ wsX80, w ∈ wsX10_pair := by decide +kernel
theorem lk_X10_pair_137 : Cond.fieldLink RX10 137 "EggSpoons$Runner" "place" "I" ∈ wsX10_pair := by decide +kernel
theorem hdV_X0_weigh : yX0_weigh.cls = RX0 ∧ yX0_weigh.cls ≠ "java/lang/invoke/MethodHandle" ∧ yX0_weigh.cls ≠ "java/lang/invoke/VarHandle" ∧ (parseMethodDescriptor yX0_weigh.desc).map (fun d => d.parameters.length) = some 2 := by decide +kernel
theorem hdV_X0_restingPair : yX0_restingPair.cls = RX0 ∧ yX0_restingPair.cls ≠ "java/lang/invoke/MethodHandle" ∧ yX0_restingPair.cls ≠ "java/lang/invoke/VarHandle" ∧ (parseMethodDescriptor yX0_restingPair.desc).map (fun d => d.parameters.length) = some 1 := by decide +kernel
set_option maxHeartbeats 4000000 in
set_option maxRecDepth 100000 in
/-- pair -/
theorem s_pair (l : Launch) (X : EX) (h0 : Nat) (nw : Nat) (sp : Nat) (xa : Nat → Nat) (la : Int64) (lb : Int64) (an : Nat → Nat) (sv : Nat → Int32) (dv : Nat → Int32) (n0 : Nat) (n1 : Nat) (n2 : Nat) (n3 : Nat) (n4 : Nat) (g0 : Nat → Int32) (gs : Nat → Int32) (gn : Nat → Int32) (gm : Nat → Int32) (ag : Nat → Int32) (dg : Nat → Int32) (da : Nat → Nat) (gd : Nat → Nat → Int32) (fr : Nat → Int32) (x1 : Int32) (x2 : Int32) (x3 : Int32) (hI_n0 : n0 ≤ 6) (hI_n1 : n1 ≤ 8) (hI_n2 : n2 ≤ 5) (hI_n3 : n3 ≤ 6) (hI_n4 : n4 ≤ 6) (sz : Nat) : Met l yX10_pair wsX10_pair ({ frames := 4, cells := 0, slots := 0, locals := 95 } : Room) (pE X [.ref h0, .int x1, .int x2, .int x3] (@HAppend.hAppend va_W va_W va_W _ (xW h0 nw sp xa la lb) (@HAppend.hAppend va_W va_W va_W _ (rcV X nw an sv dv n0 n1 n2 n3 n4 g0 gs gn gm) (@HAppend.hAppend va_W va_W va_W _ (rnV (xa 8) ag dg) (@HAppend.hAppend va_W va_W va_W _ (duW X (xa 12) da gd) ([((xa 5), .inl (X.2.1, 3, .inl fr))]))))) sz) (qI (fun (r : Int32) (u : (Nat → Int32) × (Nat → Int32) × (Nat → Nat → Int32) × (Nat → Int32)) => (True)) X (fun (u : (Nat → Int32) × (Nat → Int32) × (Nat → Nat → Int32) × (Nat → Int32)) => @HAppend.hAppend va_W va_W va_W _ (xW h0 nw sp xa la lb) (@HAppend.hAppend va_W va_W va_W _ (rcV X nw an sv dv n0 n1 n2 n3 n4 g0 gs gn gm) (@HAppend.hAppend va_W va_W va_W _ (rnV (xa 8) u.1 u.2.1) (@HAppend.hAppend va_W va_W va_W _ (duW X (xa 12) da u.2.2.1) ([((xa 5), .inl (X.2.1, 3, .inl u.2.2.2))]))))) (@HAppend.hAppend va_W va_W va_W _ (xW h0 nw sp xa la lb) (@HAppend.hAppend va_W va_W va_W _ (rcV X nw an sv dv n0 n1 n2 n3 n4 g0 gs gn gm) (@HAppend.hAppend va_W va_W va_W _ (rnV (xa 8) ag dg) (@HAppend.hAppend va_W va_W va_W _ (duW X (xa 12) da gd) ([((xa 5), .inl (X.2.1, 3, .inl fr))]))))) sz) 0 0 (va_A (@HAppend.hAppend va_W va_W va_W _ (xW h0 nw sp xa la lb) (@HAppend.hAppend va_W va_W va_W _ (rcV X nw an sv dv n0 n1 n2 n3 n4 g0 gs gn gm) (@HAppend.hAppend va_W va_W va_W _ (rnV (xa 8) ag dg) (@HAppend.hAppend va_W va_W va_W _ (duW X (xa 12) da gd) ([((xa 5), .inl (X.2.1, 3, .inl fr))]))))) sz) := by
  refine mk_met (B := (va_A (@HAppend.hAppend va_W va_W va_W _ (xW h0 nw sp xa la lb) (@HAppend.hAppend va_W va_W va_W _ (rcV X nw an sv dv n0 n1 n2 n3 n4 g0 gs gn gm) (@HAppend.hAppend va_W va_W va_W _ (rnV (xa 8) ag dg) (@HAppend.hAppend va_W va_W va_W _ (duW X (xa 12) da gd) ([((xa 5), .inl (X.2.1, 3, .inl fr))]))))) sz)) (A := (va_A (@HAppend.hAppend va_W va_W va_W _ (xW h0 nw sp xa la lb) (@HAppend.hAppend va_W va_W va_W _ (rcV X nw an sv dv n0 n1 n2 n3 n4 g0 gs gn gm) (@HAppend.hAppend va_W va_W va_W _ (rnV (xa 8) ag dg) (@HAppend.hAppend va_W va_W va_W _ (duW X (xa 12) da gd) ([((xa 5), .inl (X.2.1, 3, .inl fr))]))))) sz)) (cc := cX10_pair) (maxL := 5) (ret := (some .int)) (by decide) rfl (Nat.le_of_ble_eq_true rfl) k_w k_a (fun p e s m below meth c S zr zlk znm zsz G ls hl => ?_)
  have S : CallFix p m c cX10_pair 5 s _ wsX10_pair RX10 := S
  have zx := S.1
  have zb := S.2.1
  have hl : lv_has ls 5 [(0, .ref h0), (1, .int x1), (2, .int x2), (3, .int x3)] := hl
  refine lv_aload_n zx zb dX10_pair_0 rfl (lv_at hl 0 rfl) ?_
  refine lv_iload_n zx zb dX10_pair_1 rfl (lv_at hl 1 rfl) ?_
  refine lv_iload_n zx zb dX10_pair_2 rfl (lv_at hl 2 rfl) ?_
  refine o_ri (cells' := 0) (slots' := 0) G rfl rfl (n_V (As := [.int x1, .int x2]) (rest := []) (C := RX10) (T := TX10) (N := 14) (ci := 8) S G (s_areTwo l X h0 nw sp xa la lb an sv dv n0 n1 n2 n3 n4 g0 gs gn gm x1 x2 hI_n0 hI_n1 hI_n2 hI_n3 hI_n4 s.heap.size) gX10_pair_X10_areTwo rfl rfl rfl hdV_X10_areTwo ⟨Nat.le_of_ble_eq_true rfl, Nat.le_of_ble_eq_true rfl⟩ [0, 1, 2, 3, 4, 5, 6, 7, 8, 9, 10, 11, 12, 13, 14, 15, 16] rfl rfl 0 rfl rfl rfl hl.1 (Nat.le_of_ble_eq_true rfl) dX10_pair_3 ⟨Nat.le_of_ble_eq_true rfl, Nat.le_of_ble_eq_true rfl⟩) (fun r_1 u_1 H locs hp_1 G => ?_)
  have G : wd X (va_A (@HAppend.hAppend va_W va_W va_W _ (xW h0 nw sp xa la lb) (@HAppend.hAppend va_W va_W va_W _ (rcV X nw an sv dv n0 n1 n2 n3 n4 g0 gs gn gm) (@HAppend.hAppend va_W va_W va_W _ (rnV (xa 8) ag dg) (@HAppend.hAppend va_W va_W va_W _ (duW X (xa 12) da gd) ([((xa 5), .inl (X.2.1, 3, .inl fr))]))))) sz) (va_A (@HAppend.hAppend va_W va_W va_W _ (xW h0 nw sp xa la lb) (@HAppend.hAppend va_W va_W va_W _ (rcV X nw an sv dv n0 n1 n2 n3 n4 g0 gs gn gm) (@HAppend.hAppend va_W va_W va_W _ (rnV (xa 8) ag dg) (@HAppend.hAppend va_W va_W va_W _ (duW X (xa 12) da gd) ([((xa 5), .inl (X.2.1, 3, .inl fr))]))))) sz) s (@HAppend.hAppend va_W va_W va_W _ (xW h0 nw sp xa la lb) (@HAppend.hAppend va_W va_W va_W _ (rcV X nw an sv dv n0 n1 n2 n3 n4 g0 gs gn gm) (@HAppend.hAppend va_W va_W va_W _ (rnV (xa 8) ag dg) (@HAppend.hAppend va_W va_W va_W _ (duW X (xa 12) da gd) ([((xa 5), .inl (X.2.1, 3, .inl fr))]))))) H locs := G
  rcases hp_1 with ⟨rfl, hj_1, hi_1⟩ | rfl
  · obtain ⟨j_1, hj_1, rfl⟩ := hj_1
    obtain ⟨i_1, hi_1, rfl⟩ := hi_1
    refine lv_if_eq (tgt := 14) zx zb dX10_pair_6 (by decide) (fun c_2 => absurd c_2 (by decide)) (fun c_2 => ?_)
    refine lv_iload_n zx zb dX10_pair_9 rfl (lv_at hl 3 rfl) ?_
    refine lv_iconst (v := (-1)) zx zb dX10_pair_10 (by decide) ?_
    refine lv_icmp_ge (tgt := 24) zx zb dX10_pair_11 (by decide) (fun c_3 => ?_) (fun c_3 => ?_)
    · refine lv_iconst (v := 0) zx zb dX10_pair_24 (by decide) ?_
      refine lv_istore (lv' := [(4, .int 0), (0, .ref h0), (1, .int (nI j_1)), (2, .int (nI i_1)), (3, .int x3)]) zx zb dX10_pair_25 hl (by decide) rfl (fun ls hl => ?_)
      refine k_loop (P := ∀ (zm : Nat) (k27 : Nat) (a27_2 : Nat → Int32) (d27_2 : Nat → Int32) (g27_3 : Nat → Nat → Int32) (H : Heap) (locs : List Loc) (ls : Array Slot), 10 + 1 ≤ k27 + zm → (k27 ≤ 10) → wd X (va_A (@HAppend.hAppend va_W va_W va_W _ (xW h0 nw sp xa la lb) (@HAppend.hAppend va_W va_W va_W _ (rcV X nw an sv dv n0 n1 n2 n3 n4 g0 gs gn gm) (@HAppend.hAppend va_W va_W va_W _ (rnV (xa 8) ag dg) (@HAppend.hAppend va_W va_W va_W _ (duW X (xa 12) da gd) ([((xa 5), .inl (X.2.1, 3, .inl fr))]))))) sz) (va_A (@HAppend.hAppend va_W va_W va_W _ (xW h0 nw sp xa la lb) (@HAppend.hAppend va_W va_W va_W _ (rcV X nw an sv dv n0 n1 n2 n3 n4 g0 gs gn gm) (@HAppend.hAppend va_W va_W va_W _ (rnV (xa 8) ag dg) (@HAppend.hAppend va_W va_W va_W _ (duW X (xa 12) da gd) ([((xa 5), .inl (X.2.1, 3, .inl fr))]))))) sz) s (@HAppend.hAppend va_W va_W va_W _ (xW h0 nw sp xa la lb) (@HAppend.hAppend va_W va_W va_W _ (rcV X nw an sv dv n0 n1 n2 n3 n4 g0 gs gn gm) (@HAppend.hAppend va_W va_W va_W _ (rnV (xa 8) a27_2 d27_2) (@HAppend.hAppend va_W va_W va_W _ (duW X (xa 12) da g27_3) ([((xa 5), .inl (X.2.1, 3, .inl fr))]))))) H locs → lv_has ls 5 [(4, .int (nI k27)), (0, .ref h0), (1, .int (nI j_1)), (2, .int (nI i_1)), (3, .int x3)] → W p l e _ s m _ below meth c H locs _ _ _ (F0 m 27 ls [])) (fun loop => loop (10 + 1) 0 ag dg gd _ _ _ (by omega) (by omega) G hl) ?_
      intro zm
      induction zm with
      | zero => intro k27 a27_2 d27_2 g27_3 H locs ls zz q_hk_k27 _ _; exact absurd zz (by omega)
      | succ zm ih27 =>
        intro k27 a27_2 d27_2 g27_3 H locs ls zm_27 hk_k27 G hl
        refine lv_iload zx zb dX10_pair_27 (lv_at hl 0 rfl) ?_
        refine lv_bipush (v := 9) zx zb dX10_pair_29 (by decide) ?_
        refine lv_icmp_gt (tgt := 63) zx zb dX10_pair_31 (by decide) (fun c_4 => ?_) (fun c_4 => ?_)
        · have fc_4 := j_lt (a := 9) (b := k27) (by omega) (by omega) c_4
          refine lv_aload_n zx zb dX10_pair_63 rfl (lv_at hl 1 rfl) ?_
          refine r_get (C := RX10) (T := TX10) (N := 14) (ci := 8) (v := .ref (xa 12)) S in_X10_pair_X10 G 0 rfl rfl 12 (by decide) lk_X10_pair_72 rfl dX10_pair_64 ?_
          refine lv_aload_n zx zb dX10_pair_67 rfl (lv_at hl 1 rfl) ?_
          refine r_get (C := RX10) (T := TX10) (N := 14) (ci := 8) (v := .ref nw) S in_X10_pair_X10 G 0 rfl rfl 0 (by decide) lk_X10_pair_10 rfl dX10_pair_68 ?_
          refine r_get (C := RX5) (T := TX5) (N := 8) (ci := 3) (v := .ref (an 0)) S in_X10_pair_X5 G 1 rfl rfl 3 (by decide) lk_X10_pair_126 rfl dX10_pair_71 ?_
          refine lv_iload_n zx zb dX10_pair_74 rfl (lv_at hl 2 rfl) ?_
          refine k_cutW (PP := fun Wx => ∀ (x_5 : Int32) (H : Heap) (locs : List Loc) (ls : Array Slot), wd X (va_A (@HAppend.hAppend va_W va_W va_W _ (xW h0 nw sp xa la lb) (@HAppend.hAppend va_W va_W va_W _ (rcV X nw an sv dv n0 n1 n2 n3 n4 g0 gs gn gm) (@HAppend.hAppend va_W va_W va_W _ (rnV (xa 8) ag dg) (@HAppend.hAppend va_W va_W va_W _ (duW X (xa 12) da gd) ([((xa 5), .inl (X.2.1, 3, .inl fr))]))))) sz) (va_A (@HAppend.hAppend va_W va_W va_W _ (xW h0 nw sp xa la lb) (@HAppend.hAppend va_W va_W va_W _ (rcV X nw an sv dv n0 n1 n2 n3 n4 g0 gs gn gm) (@HAppend.hAppend va_W va_W va_W _ (rnV (xa 8) ag dg) (@HAppend.hAppend va_W va_W va_W _ (duW X (xa 12) da gd) ([((xa 5), .inl (X.2.1, 3, .inl fr))]))))) sz) s (@HAppend.hAppend va_W va_W va_W _ (xW h0 nw sp xa la lb) (@HAppend.hAppend va_W va_W va_W _ (rcV X nw an sv dv n0 n1 n2 n3 n4 g0 gs gn gm) (@HAppend.hAppend va_W va_W va_W _ (rnV (xa 8) a27_2 d27_2) (@HAppend.hAppend va_W va_W va_W _ (duW X (xa 12) da g27_3) ([((xa 5), .inl (X.2.1, 3, .inl fr))]))))) H locs → lv_has ls 5 [(4, .int (nI k27)), (0, .ref h0), (1, .int (nI j_1)), (2, .int (nI i_1)), (3, .int x3)] → Wx (F0 m 79 ls [.int x_5, .ref (xa 12)]) H locs) ?_ ?_
          · intro join_75
            rcases k_6c (show j_1 < 6 by omega) with q_6 | q_6 | q_6 | q_6 | q_6 | q_6
            · refine k_it (v := 0) (by rw [q_6]; rfl) ?_
              refine r_aald (C := RX8) (b := (an 1)) S G 2 3 rfl rfl (k_vp (by decide)) rfl dX10_pair_75 ?_
              refine r_get (C := RX8) (T := TX8) (N := 8) (ci := 6) (v := .int (dv 11)) S in_X10_pair_X8 G 3 rfl rfl 4 (by decide) lk_X10_pair_137 rfl dX10_pair_76 ?_
              exact join_75 (dv 11) _ _ _  G hl
            · refine k_it (v := 1) (by rw [q_6]; rfl) ?_
              refine r_aald (C := RX8) (b := (an 2)) S G 2 3 rfl rfl (k_vp (by decide)) rfl dX10_pair_75 ?_
              refine r_get (C := RX8) (T := TX8) (N := 8) (ci := 6) (v := .int (dv 16)) S in_X10_pair_X8 G 4 rfl rfl 4 (by decide) lk_X10_pair_137 rfl dX10_pair_76 ?_
              exact join_75 (dv 16) _ _ _  G hl
            · refine k_it (v := 2) (by rw [q_6]; rfl) ?_
              refine r_aald (C := RX8) (b := (an 3)) S G 2 3 rfl rfl (k_vp (by decide)) rfl dX10_pair_75 ?_
              refine r_get (C := RX8) (T := TX8) (N := 8) (ci := 6) (v := .int (dv 21)) S in_X10_pair_X8 G 5 rfl rfl 4 (by decide) lk_X10_pair_137 rfl dX10_pair_76 ?_
              exact join_75 (dv 21) _ _ _  G hl
            · refine k_it (v := 3) (by rw [q_6]; rfl) ?_
              refine r_aald (C := RX8) (b := (an 4)) S G 2 3 rfl rfl (k_vp (by decide)) rfl dX10_pair_75 ?_
              refine r_get (C := RX8) (T := TX8) (N := 8) (ci := 6) (v := .int (dv 26)) S in_X10_pair_X8 G 6 rfl rfl 4 (by decide) lk_X10_pair_137 rfl dX10_pair_76 ?_
              exact join_75 (dv 26) _ _ _  G hl
            · refine k_it (v := 4) (by rw [q_6]; rfl) ?_
              refine r_aald (C := RX8) (b := (an 5)) S G 2 3 rfl rfl (k_vp (by decide)) rfl dX10_pair_75 ?_
              refine r_get (C := RX8) (T := TX8) (N := 8) (ci := 6) (v := .int (dv 31)) S in_X10_pair_X8 G 7 rfl rfl 4 (by decide) lk_X10_pair_137 rfl dX10_pair_76 ?_
              exact join_75 (dv 31) _ _ _  G hl
            · refine k_it (v := 5) (by rw [q_6]; rfl) ?_
              refine r_aald (C := RX8) (b := (an 6)) S G 2 3 rfl rfl (k_vp (by decide)) rfl dX10_pair_75 ?_
              refine r_get (C := RX8) (T := TX8) (N := 8) (ci := 6) (v := .int (dv 36)) S in_X10_pair_X8 G 8 rfl rfl 4 (by decide) lk_X10_pair_137 rfl dX10_pair_76 ?_
              exact join_75 (dv 36) _ _ _  G hl
          · intro x_5 H locs ls  G hl
            refine lv_aload_n zx zb dX10_pair_79 rfl (lv_at hl 1 rfl) ?_
            refine r_get (C := RX10) (T := TX10) (N := 14) (ci := 8) (v := .ref nw) S in_X10_pair_X10 G 0 rfl rfl 0 (by decide) lk_X10_pair_10 rfl dX10_pair_80 ?_
            refine r_get (C := RX5) (T := TX5) (N := 8) (ci := 3) (v := .ref (an 0)) S in_X10_pair_X5 G 1 rfl rfl 3 (by decide) lk_X10_pair_126 rfl dX10_pair_83 ?_
            refine lv_iload_n zx zb dX10_pair_86 rfl (lv_at hl 3 rfl) ?_
            refine k_cutW (PP := fun Wx => ∀ (x_7 : Int32) (H : Heap) (locs : List Loc) (ls : Array Slot), wd X (va_A (@HAppend.hAppend va_W va_W va_W _ (xW h0 nw sp xa la lb) (@HAppend.hAppend va_W va_W va_W _ (rcV X nw an sv dv n0 n1 n2 n3 n4 g0 gs gn gm) (@HAppend.hAppend va_W va_W va_W _ (rnV (xa 8) ag dg) (@HAppend.hAppend va_W va_W va_W _ (duW X (xa 12) da gd) ([((xa 5), .inl (X.2.1, 3, .inl fr))]))))) sz) (va_A (@HAppend.hAppend va_W va_W va_W _ (xW h0 nw sp xa la lb) (@HAppend.hAppend va_W va_W va_W _ (rcV X nw an sv dv n0 n1 n2 n3 n4 g0 gs gn gm) (@HAppend.hAppend va_W va_W va_W _ (rnV (xa 8) ag dg) (@HAppend.hAppend va_W va_W va_W _ (duW X (xa 12) da gd) ([((xa 5), .inl (X.2.1, 3, .inl fr))]))))) sz) s (@HAppend.hAppend va_W va_W va_W _ (xW h0 nw sp xa la lb) (@HAppend.hAppend va_W va_W va_W _ (rcV X nw an sv dv n0 n1 n2 n3 n4 g0 gs gn gm) (@HAppend.hAppend va_W va_W va_W _ (rnV (xa 8) a27_2 d27_2) (@HAppend.hAppend va_W va_W va_W _ (duW X (xa 12) da g27_3) ([((xa 5), .inl (X.2.1, 3, .inl fr))]))))) H locs → lv_has ls 5 [(4, .int (nI k27)), (0, .ref h0), (1, .int (nI j_1)), (2, .int (nI i_1)), (3, .int x3)] → Wx (F0 m 91 ls [.int x_7, .int x_5, .ref (xa 12)]) H locs) ?_ ?_
            · intro join_87
              rcases k_6c (show i_1 < 6 by omega) with q_8 | q_8 | q_8 | q_8 | q_8 | q_8
              · refine k_it (v := 0) (by rw [q_8]; rfl) ?_
                refine r_aald (C := RX8) (b := (an 1)) S G 2 3 rfl rfl (k_vp (by decide)) rfl dX10_pair_87 ?_
                refine r_get (C := RX8) (T := TX8) (N := 8) (ci := 6) (v := .int (dv 11)) S in_X10_pair_X8 G 3 rfl rfl 4 (by decide) lk_X10_pair_137 rfl dX10_pair_88 ?_
                exact join_87 (dv 11) _ _ _  G hl
              · refine k_it (v := 1) (by rw [q_8]; rfl) ?_
                refine r_aald (C := RX8) (b := (an 2)) S G 2 3 rfl rfl (k_vp (by decide)) rfl dX10_pair_87 ?_
                refine r_get (C := RX8) (T := TX8) (N := 8) (ci := 6) (v := .int (dv 16)) S in_X10_pair_X8 G 4 rfl rfl 4 (by decide) lk_X10_pair_137 rfl dX10_pair_88 ?_
                exact join_87 (dv 16) _ _ _  G hl
              · refine k_it (v := 2) (by rw [q_8]; rfl) ?_
                refine r_aald (C := RX8) (b := (an 3)) S G 2 3 rfl rfl (k_vp (by decide)) rfl dX10_pair_87 ?_
                refine r_get (C := RX8) (T := TX8) (N := 8) (ci := 6) (v := .int (dv 21)) S in_X10_pair_X8 G 5 rfl rfl 4 (by decide) lk_X10_pair_137 rfl dX10_pair_88 ?_
                exact join_87 (dv 21) _ _ _  G hl
              · refine k_it (v := 3) (by rw [q_8]; rfl) ?_
                refine r_aald (C := RX8) (b := (an 4)) S G 2 3 rfl rfl (k_vp (by decide)) rfl dX10_pair_87 ?_
                refine r_get (C := RX8) (T := TX8) (N := 8) (ci := 6) (v := .int (dv 26)) S in_X10_pair_X8 G 6 rfl rfl 4 (by decide) lk_X10_pair_137 rfl dX10_pair_88 ?_
                exact join_87 (dv 26) _ _ _  G hl
              · refine k_it (v := 4) (by rw [q_8]; rfl) ?_
                refine r_aald (C := RX8) (b := (an 5)) S G 2 3 rfl rfl (k_vp (by decide)) rfl dX10_pair_87 ?_
                refine r_get (C := RX8) (T := TX8) (N := 8) (ci := 6) (v := .int (dv 31)) S in_X10_pair_X8 G 7 rfl rfl 4 (by decide) lk_X10_pair_137 rfl dX10_pair_88 ?_
                exact join_87 (dv 31) _ _ _  G hl
              · refine k_it (v := 5) (by rw [q_8]; rfl) ?_
                refine r_aald (C := RX8) (b := (an 6)) S G 2 3 rfl rfl (k_vp (by decide)) rfl dX10_pair_87 ?_
                refine r_get (C := RX8) (T := TX8) (N := 8) (ci := 6) (v := .int (dv 36)) S in_X10_pair_X8 G 8 rfl rfl 4 (by decide) lk_X10_pair_137 rfl dX10_pair_88 ?_
                exact join_87 (dv 36) _ _ _  G hl
            · intro x_7 H locs ls  G hl
              refine b_wi (cells' := 0) (slots' := 0) (wr := @HAppend.hAppend va_W va_W va_W _ (xW h0 nw sp xa la lb) (@HAppend.hAppend va_W va_W va_W _ (rcV X nw an sv dv n0 n1 n2 n3 n4 g0 gs gn gm) (@HAppend.hAppend va_W va_W va_W _ (rnV (xa 8) a27_2 d27_2) ([((xa 5), .inl (X.2.1, 3, .inl fr))])))) G rfl rfl [18, 19, 20, 21, 22, 23] [0, 1, 2, 3, 4, 5, 6, 7, 8, 9, 10, 11, 12, 13, 14, 15, 16, 17, 24] rfl rfl rfl rfl (n_V (As := [.int x_5, .int x_7]) (rest := []) (C := RX0) (T := TX0) (N := 5) (ci := 0) S G (s_weigh l X (xa 12) da g27_3 x_5 x_7 H.size) gX10_pair_X0_weigh rfl rfl rfl hdV_X0_weigh ⟨Nat.le_of_ble_eq_true rfl, Nat.le_of_ble_eq_true rfl⟩ [18, 19, 20, 21, 22, 23] rfl rfl 18 rfl rfl rfl hl.1 (Nat.le_of_ble_eq_true rfl) dX10_pair_91 ⟨Nat.le_of_ble_eq_true rfl, Nat.le_of_ble_eq_true rfl⟩) (fun r_9 u_9 H locs hp_9 G => ?_)
              obtain ⟨g_9, rfl⟩ : ∃ z, z = u_9 := ⟨_, rfl⟩
              have hq_9 := hp_9
              have G : wd X (va_A (@HAppend.hAppend va_W va_W va_W _ (xW h0 nw sp xa la lb) (@HAppend.hAppend va_W va_W va_W _ (rcV X nw an sv dv n0 n1 n2 n3 n4 g0 gs gn gm) (@HAppend.hAppend va_W va_W va_W _ (rnV (xa 8) ag dg) (@HAppend.hAppend va_W va_W va_W _ (duW X (xa 12) da gd) ([((xa 5), .inl (X.2.1, 3, .inl fr))]))))) sz) (va_A (@HAppend.hAppend va_W va_W va_W _ (xW h0 nw sp xa la lb) (@HAppend.hAppend va_W va_W va_W _ (rcV X nw an sv dv n0 n1 n2 n3 n4 g0 gs gn gm) (@HAppend.hAppend va_W va_W va_W _ (rnV (xa 8) ag dg) (@HAppend.hAppend va_W va_W va_W _ (duW X (xa 12) da gd) ([((xa 5), .inl (X.2.1, 3, .inl fr))]))))) sz) s (@HAppend.hAppend va_W va_W va_W _ (xW h0 nw sp xa la lb) (@HAppend.hAppend va_W va_W va_W _ (rcV X nw an sv dv n0 n1 n2 n3 n4 g0 gs gn gm) (@HAppend.hAppend va_W va_W va_W _ (rnV (xa 8) a27_2 d27_2) (@HAppend.hAppend va_W va_W va_W _ ([((xa 5), .inl (X.2.1, 3, .inl fr))]) (duW X (xa 12) da g_9))))) H locs := G
              refine lv_istore (lv' := [(4, .int r_9), (0, .ref h0), (1, .int (nI j_1)), (2, .int (nI i_1)), (3, .int x3)]) zx zb dX10_pair_94 hl (by decide) rfl (fun ls hl => ?_)
              refine lv_iload_n zx zb dX10_pair_96 rfl (lv_at hl 4 rfl) ?_
              refine lv_iconst (v := (-1)) zx zb dX10_pair_97 (by decide) ?_
              refine lv_icmp_ne (tgt := 104) zx zb dX10_pair_98 (by decide) (fun c_10 => ?_) (fun c_10 => ?_)
              · refine lv_iload_n zx zb dX10_pair_104 rfl (lv_at hl 4 rfl) ?_
                refine lv_iload zx zb dX10_pair_105 (lv_at hl 0 rfl) ?_
                refine k_cutW (PP := fun Wx => ∀ (x_12 : Int32) (H : Heap) (locs : List Loc) (ls : Array Slot), wd X (va_A (@HAppend.hAppend va_W va_W va_W _ (xW h0 nw sp xa la lb) (@HAppend.hAppend va_W va_W va_W _ (rcV X nw an sv dv n0 n1 n2 n3 n4 g0 gs gn gm) (@HAppend.hAppend va_W va_W va_W _ (rnV (xa 8) ag dg) (@HAppend.hAppend va_W va_W va_W _ (duW X (xa 12) da gd) ([((xa 5), .inl (X.2.1, 3, .inl fr))]))))) sz) (va_A (@HAppend.hAppend va_W va_W va_W _ (xW h0 nw sp xa la lb) (@HAppend.hAppend va_W va_W va_W _ (rcV X nw an sv dv n0 n1 n2 n3 n4 g0 gs gn gm) (@HAppend.hAppend va_W va_W va_W _ (rnV (xa 8) ag dg) (@HAppend.hAppend va_W va_W va_W _ (duW X (xa 12) da gd) ([((xa 5), .inl (X.2.1, 3, .inl fr))]))))) sz) s (@HAppend.hAppend va_W va_W va_W _ (xW h0 nw sp xa la lb) (@HAppend.hAppend va_W va_W va_W _ (rcV X nw an sv dv n0 n1 n2 n3 n4 g0 gs gn gm) (@HAppend.hAppend va_W va_W va_W _ (rnV (xa 8) a27_2 d27_2) (@HAppend.hAppend va_W va_W va_W _ ([((xa 5), .inl (X.2.1, 3, .inl fr))]) (duW X (xa 12) da g_9))))) H locs → lv_has ls 5 [(4, .int r_9), (0, .ref h0), (1, .int (nI j_1)), (2, .int (nI i_1)), (3, .int x3)] → Wx (F0 m 123 ls [.int x_12]) H locs) ?_ ?_
                · intro join_107
                  refine lv_icmp_ge (tgt := 121) zx zb dX10_pair_107 (by decide) (fun c_11 => ?_) (fun c_11 => ?_)
                  · refine lv_bipush (v := (-5)) zx zb dX10_pair_121 (by decide) ?_
                    exact join_107 (-5) _ _ _  G hl
                  · refine lv_aload_n zx zb dX10_pair_110 rfl (lv_at hl 1 rfl) ?_
                    refine r_get (C := RX10) (T := TX10) (N := 14) (ci := 8) (v := .ref (xa 12)) S in_X10_pair_X10 G 0 rfl rfl 12 (by decide) lk_X10_pair_72 rfl dX10_pair_111 ?_
                    refine lv_iload_n zx zb dX10_pair_114 rfl (lv_at hl 4 rfl) ?_
                    refine o_ri (cells' := 0) (slots' := 0) G rfl rfl (n_V (As := [.int x3]) (rest := []) (C := RX0) (T := TX0) (N := 5) (ci := 0) S G (s_restingPair l X (xa 12) da g_9 x3 H.size) gX10_pair_X0_restingPair rfl rfl rfl hdV_X0_restingPair ⟨Nat.le_of_ble_eq_true rfl, Nat.le_of_ble_eq_true rfl⟩ [19, 20, 21, 22, 23, 24] rfl rfl 19 rfl rfl rfl hl.1 (Nat.le_of_ble_eq_true rfl) dX10_pair_115 ⟨Nat.le_of_ble_eq_true rfl, Nat.le_of_ble_eq_true rfl⟩) (fun r_13 u_13 H locs hp_13 G => ?_)
                    have G : wd X (va_A (@HAppend.hAppend va_W va_W va_W _ (xW h0 nw sp xa la lb) (@HAppend.hAppend va_W va_W va_W _ (rcV X nw an sv dv n0 n1 n2 n3 n4 g0 gs gn gm) (@HAppend.hAppend va_W va_W va_W _ (rnV (xa 8) ag dg) (@HAppend.hAppend va_W va_W va_W _ (duW X (xa 12) da gd) ([((xa 5), .inl (X.2.1, 3, .inl fr))]))))) sz) (va_A (@HAppend.hAppend va_W va_W va_W _ (xW h0 nw sp xa la lb) (@HAppend.hAppend va_W va_W va_W _ (rcV X nw an sv dv n0 n1 n2 n3 n4 g0 gs gn gm) (@HAppend.hAppend va_W va_W va_W _ (rnV (xa 8) ag dg) (@HAppend.hAppend va_W va_W va_W _ (duW X (xa 12) da gd) ([((xa 5), .inl (X.2.1, 3, .inl fr))]))))) sz) s (@HAppend.hAppend va_W va_W va_W _ (xW h0 nw sp xa la lb) (@HAppend.hAppend va_W va_W va_W _ (rcV X nw an sv dv n0 n1 n2 n3 n4 g0 gs gn gm) (@HAppend.hAppend va_W va_W va_W _ (rnV (xa 8) a27_2 d27_2) (@HAppend.hAppend va_W va_W va_W _ ([((xa 5), .inl (X.2.1, 3, .inl fr))]) (duW X (xa 12) da g_9))))) H locs := G
                    refine lv_goto (tgt := 123) zx zb dX10_pair_118 (by decide) ?_
                    exact join_107 r_13 _ _ _  G hl
                · intro x_12 H locs ls  G hl
                  exact e_int S zr zlk (vp_nar_int _) G (a27_2, d27_2, g_9, fr) [0, 1, 2, 3, 4, 5, 6, 7, 8, 9, 10, 11, 12, 13, 14, 15, 16, 17, 19, 20, 21, 22, 23, 24, 18] rfl rfl (Or.inr rfl) (trivial) dX10_pair_123
              · refine lv_iload zx zb dX10_pair_101 (lv_at hl 0 rfl) ?_
                exact e_int S zr zlk (vp_nar_int _) G (a27_2, d27_2, g_9, fr) [0, 1, 2, 3, 4, 5, 6, 7, 8, 9, 10, 11, 12, 13, 14, 15, 16, 17, 19, 20, 21, 22, 23, 24, 18] rfl rfl (Or.inr rfl) (trivial) dX10_pair_103
        · have fc_4 := j_nlt (a := 9) (b := k27) (by omega) (by omega) c_4
          refine lv_aload_n zx zb dX10_pair_34 rfl (lv_at hl 1 rfl) ?_
          refine r_get (C := RX10) (T := TX10) (N := 14) (ci := 8) (v := .ref (xa 12)) S in_X10_pair_X10 G 0 rfl rfl 12 (by decide) lk_X10_pair_72 rfl dX10_pair_35 ?_
          refine lv_iload zx zb dX10_pair_38 (lv_at hl 0 rfl) ?_
          refine lv_aload_n zx zb dX10_pair_40 rfl (lv_at hl 1 rfl) ?_
          refine lv_iload_n zx zb dX10_pair_41 rfl (lv_at hl 2 rfl) ?_
          refine lv_iload zx zb dX10_pair_42 (lv_at hl 0 rfl) ?_
          refine b_wi (cells' := 0) (slots' := 0) (wr := @HAppend.hAppend va_W va_W va_W _ (duW X (xa 12) da g27_3) ([((xa 5), .inl (X.2.1, 3, .inl fr))])) G rfl rfl [0, 1, 2, 3, 4, 5, 6, 7, 8, 9, 10, 11, 12, 13, 14, 15, 16, 17] [18, 19, 20, 21, 22, 23, 24] rfl rfl rfl rfl (n_V (As := [.int (nI j_1), .int (nI k27)]) (rest := [.int (nI k27), .ref (xa 12)]) (C := RX10) (T := TX10) (N := 14) (ci := 8) S G (s_five l X h0 nw sp xa la lb an sv dv n0 n1 n2 n3 n4 g0 gs gn gm a27_2 d27_2 j_1 (nI k27) hI_n0 hI_n1 hI_n2 hI_n3 hI_n4 (by omega) H.size) gX10_pair_X10_placeBehindFive rfl rfl rfl hdV_X10_placeBehindFive ⟨Nat.le_of_ble_eq_true rfl, Nat.le_of_ble_eq_true rfl⟩ [0, 1, 2, 3, 4, 5, 6, 7, 8, 9, 10, 11, 12, 13, 14, 15, 16, 17] rfl rfl 0 rfl rfl rfl hl.1 (Nat.le_of_ble_eq_true rfl) dX10_pair_44 ⟨Nat.le_of_ble_eq_true rfl, Nat.le_of_ble_eq_true rfl⟩) (fun r_14 u_14 H locs hp_14 G => ?_)
          obtain ⟨a_14a, d_14b⟩ := u_14
          have hq_14 := hp_14
          have G : wd X (va_A (@HAppend.hAppend va_W va_W va_W _ (xW h0 nw sp xa la lb) (@HAppend.hAppend va_W va_W va_W _ (rcV X nw an sv dv n0 n1 n2 n3 n4 g0 gs gn gm) (@HAppend.hAppend va_W va_W va_W _ (rnV (xa 8) ag dg) (@HAppend.hAppend va_W va_W va_W _ (duW X (xa 12) da gd) ([((xa 5), .inl (X.2.1, 3, .inl fr))]))))) sz) (va_A (@HAppend.hAppend va_W va_W va_W _ (xW h0 nw sp xa la lb) (@HAppend.hAppend va_W va_W va_W _ (rcV X nw an sv dv n0 n1 n2 n3 n4 g0 gs gn gm) (@HAppend.hAppend va_W va_W va_W _ (rnV (xa 8) ag dg) (@HAppend.hAppend va_W va_W va_W _ (duW X (xa 12) da gd) ([((xa 5), .inl (X.2.1, 3, .inl fr))]))))) sz) s (@HAppend.hAppend va_W va_W va_W _ (duW X (xa 12) da g27_3) (@HAppend.hAppend va_W va_W va_W _ ([((xa 5), .inl (X.2.1, 3, .inl fr))]) (@HAppend.hAppend va_W va_W va_W _ (xW h0 nw sp xa la lb) (@HAppend.hAppend va_W va_W va_W _ (rcV X nw an sv dv n0 n1 n2 n3 n4 g0 gs gn gm) (rnV (xa 8) a_14a d_14b))))) H locs := G
          refine lv_aload_n zx zb dX10_pair_47 rfl (lv_at hl 1 rfl) ?_
          refine lv_iload_n zx zb dX10_pair_48 rfl (lv_at hl 3 rfl) ?_
          refine lv_iload zx zb dX10_pair_49 (lv_at hl 0 rfl) ?_
          refine b_wi (cells' := 0) (slots' := 0) (wr := @HAppend.hAppend va_W va_W va_W _ (duW X (xa 12) da g27_3) ([((xa 5), .inl (X.2.1, 3, .inl fr))])) G rfl rfl [7, 8, 9, 10, 11, 12, 13, 14, 15, 16, 17, 18, 19, 20, 21, 22, 23, 24] [0, 1, 2, 3, 4, 5, 6] rfl rfl rfl rfl (n_V (As := [.int (nI i_1), .int (nI k27)]) (rest := [.int r_14, .int (nI k27), .ref (xa 12)]) (C := RX10) (T := TX10) (N := 14) (ci := 8) S G (s_five l X h0 nw sp xa la lb an sv dv n0 n1 n2 n3 n4 g0 gs gn gm a_14a d_14b i_1 (nI k27) hI_n0 hI_n1 hI_n2 hI_n3 hI_n4 (by omega) H.size) gX10_pair_X10_placeBehindFive rfl rfl rfl hdV_X10_placeBehindFive ⟨Nat.le_of_ble_eq_true rfl, Nat.le_of_ble_eq_true rfl⟩ [7, 8, 9, 10, 11, 12, 13, 14, 15, 16, 17, 18, 19, 20, 21, 22, 23, 24] rfl rfl 7 rfl rfl rfl hl.1 (Nat.le_of_ble_eq_true rfl) dX10_pair_51 ⟨Nat.le_of_ble_eq_true rfl, Nat.le_of_ble_eq_true rfl⟩) (fun r_15 u_15 H locs hp_15 G => ?_)
          obtain ⟨a_15a, d_15b⟩ := u_15
          have hq_15 := hp_15
          have G : wd X (va_A (@HAppend.hAppend va_W va_W va_W _ (xW h0 nw sp xa la lb) (@HAppend.hAppend va_W va_W va_W _ (rcV X nw an sv dv n0 n1 n2 n3 n4 g0 gs gn gm) (@HAppend.hAppend va_W va_W va_W _ (rnV (xa 8) ag dg) (@HAppend.hAppend va_W va_W va_W _ (duW X (xa 12) da gd) ([((xa 5), .inl (X.2.1, 3, .inl fr))]))))) sz) (va_A (@HAppend.hAppend va_W va_W va_W _ (xW h0 nw sp xa la lb) (@HAppend.hAppend va_W va_W va_W _ (rcV X nw an sv dv n0 n1 n2 n3 n4 g0 gs gn gm) (@HAppend.hAppend va_W va_W va_W _ (rnV (xa 8) ag dg) (@HAppend.hAppend va_W va_W va_W _ (duW X (xa 12) da gd) ([((xa 5), .inl (X.2.1, 3, .inl fr))]))))) sz) s (@HAppend.hAppend va_W va_W va_W _ (duW X (xa 12) da g27_3) (@HAppend.hAppend va_W va_W va_W _ ([((xa 5), .inl (X.2.1, 3, .inl fr))]) (@HAppend.hAppend va_W va_W va_W _ (xW h0 nw sp xa la lb) (@HAppend.hAppend va_W va_W va_W _ (rcV X nw an sv dv n0 n1 n2 n3 n4 g0 gs gn gm) (rnV (xa 8) a_15a d_15b))))) H locs := G
          refine b_wv (cells' := 0) (slots' := 0) (wr := @HAppend.hAppend va_W va_W va_W _ ([((xa 5), .inl (X.2.1, 3, .inl fr))]) (@HAppend.hAppend va_W va_W va_W _ (xW h0 nw sp xa la lb) (@HAppend.hAppend va_W va_W va_W _ (rcV X nw an sv dv n0 n1 n2 n3 n4 g0 gs gn gm) (rnV (xa 8) a_15a d_15b)))) G rfl rfl [0, 1, 2, 3, 4, 5] [6, 7, 8, 9, 10, 11, 12, 13, 14, 15, 16, 17, 18, 19, 20, 21, 22, 23, 24] rfl rfl rfl rfl (n_V (As := [.int (nI k27), .int r_14, .int r_15]) (rest := []) (C := RX0) (T := TX0) (N := 5) (ci := 0) S G (s_dput l X (xa 12) da g27_3 (nI k27) r_14 r_15 H.size) gX10_pair_X0_put rfl rfl rfl hdV_X0_put ⟨Nat.le_of_ble_eq_true rfl, Nat.le_of_ble_eq_true rfl⟩ [0, 1, 2, 3, 4, 5] rfl rfl 0 rfl rfl rfl hl.1 (Nat.le_of_ble_eq_true rfl) dX10_pair_54 ⟨Nat.le_of_ble_eq_true rfl, Nat.le_of_ble_eq_true rfl⟩) (fun u_16 H locs hp_16 G => ?_)
          obtain ⟨g_16, rfl⟩ : ∃ z, z = u_16 := ⟨_, rfl⟩
          have hq_16 := hp_16
          have G : wd X (va_A (@HAppend.hAppend va_W va_W va_W _ (xW h0 nw sp xa la lb) (@HAppend.hAppend va_W va_W va_W _ (rcV X nw an sv dv n0 n1 n2 n3 n4 g0 gs gn gm) (@HAppend.hAppend va_W va_W va_W _ (rnV (xa 8) ag dg) (@HAppend.hAppend va_W va_W va_W _ (duW X (xa 12) da gd) ([((xa 5), .inl (X.2.1, 3, .inl fr))]))))) sz) (va_A (@HAppend.hAppend va_W va_W va_W _ (xW h0 nw sp xa la lb) (@HAppend.hAppend va_W va_W va_W _ (rcV X nw an sv dv n0 n1 n2 n3 n4 g0 gs gn gm) (@HAppend.hAppend va_W va_W va_W _ (rnV (xa 8) ag dg) (@HAppend.hAppend va_W va_W va_W _ (duW X (xa 12) da gd) ([((xa 5), .inl (X.2.1, 3, .inl fr))]))))) sz) s (@HAppend.hAppend va_W va_W va_W _ ([((xa 5), .inl (X.2.1, 3, .inl fr))]) (@HAppend.hAppend va_W va_W va_W _ (xW h0 nw sp xa la lb) (@HAppend.hAppend va_W va_W va_W _ (rcV X nw an sv dv n0 n1 n2 n3 n4 g0 gs gn gm) (@HAppend.hAppend va_W va_W va_W _ (rnV (xa 8) a_15a d_15b) (duW X (xa 12) da g_16))))) H locs := G
          refine lv_iinc (v := (nI (k27 + 1))) (lv' := [(4, .int (nI (k27 + 1))), (0, .ref h0), (1, .int (nI j_1)), (2, .int (nI i_1)), (3, .int x3)]) zx zb dX10_pair_57 hl (k := 0) rfl (nI_add k27 1) (by decide) rfl (fun ls hl => ?_)
          refine lv_goto (tgt := 27) zx zb dX10_pair_60 (by decide) ?_
          have G : wd X (va_A (@HAppend.hAppend va_W va_W va_W _ (xW h0 nw sp xa la lb) (@HAppend.hAppend va_W va_W va_W _ (rcV X nw an sv dv n0 n1 n2 n3 n4 g0 gs gn gm) (@HAppend.hAppend va_W va_W va_W _ (rnV (xa 8) ag dg) (@HAppend.hAppend va_W va_W va_W _ (duW X (xa 12) da gd) ([((xa 5), .inl (X.2.1, 3, .inl fr))]))))) sz) (va_A (@HAppend.hAppend va_W va_W va_W _ (xW h0 nw sp xa la lb) (@HAppend.hAppend va_W va_W va_W _ (rcV X nw an sv dv n0 n1 n2 n3 n4 g0 gs gn gm) (@HAppend.hAppend va_W va_W va_W _ (rnV (xa 8) ag dg) (@HAppend.hAppend va_W va_W va_W _ (duW X (xa 12) da gd) ([((xa 5), .inl (X.2.1, 3, .inl fr))]))))) sz) s (@HAppend.hAppend va_W va_W va_W _ (xW h0 nw sp xa la lb) (@HAppend.hAppend va_W va_W va_W _ (rcV X nw an sv dv n0 n1 n2 n3 n4 g0 gs gn gm) (@HAppend.hAppend va_W va_W va_W _ (rnV (xa 8) a_15a d_15b) (@HAppend.hAppend va_W va_W va_W _ (duW X (xa 12) da g_16) ([((xa 5), .inl (X.2.1, 3, .inl fr))]))))) H locs := wd_sub G [1, 2, 3, 4, 5, 6, 7, 8, 9, 10, 11, 12, 13, 14, 15, 16, 17, 18, 19, 20, 21, 22, 23, 24, 0] rfl rfl
          exact ih27 (k27 + 1) a_15a d_15b g_16 _ _ _ (by omega) (by omega) G hl
    · refine lv_aload_n zx zb dX10_pair_14 rfl (lv_at hl 0 rfl) ?_
      refine lv_bipush (v := (-2)) zx zb dX10_pair_15 (by decide) ?_
      refine b_wi (cells' := 0) (slots' := 0) (wr := @HAppend.hAppend va_W va_W va_W _ (rcV X nw an sv dv n0 n1 n2 n3 n4 g0 gs gn gm) (@HAppend.hAppend va_W va_W va_W _ (rnV (xa 8) ag dg) (duW X (xa 12) da gd))) G rfl rfl [0, 24] [1, 2, 3, 4, 5, 6, 7, 8, 9, 10, 11, 12, 13, 14, 15, 16, 17, 18, 19, 20, 21, 22, 23] rfl rfl rfl rfl (n_V (As := [.int (-2)]) (rest := []) (C := RX10) (T := TX10) (N := 14) (ci := 8) S G (s_refuse l X h0 nw sp xa la lb fr (-2) H.size) gX10_pair_X10_refuse rfl rfl rfl hdV_X10_refuse ⟨Nat.le_of_ble_eq_true rfl, Nat.le_of_ble_eq_true rfl⟩ [0, 24] rfl rfl 0 rfl rfl rfl hl.1 (Nat.le_of_ble_eq_true rfl) dX10_pair_17 ⟨Nat.le_of_ble_eq_true rfl, Nat.le_of_ble_eq_true rfl⟩) (fun r_17 u_17 H locs hp_17 G => ?_)
      obtain ⟨f_17, rfl⟩ : ∃ z, z = u_17 := ⟨_, rfl⟩
      have hq_17 := hp_17
      have G : wd X (va_A (@HAppend.hAppend va_W va_W va_W _ (xW h0 nw sp xa la lb) (@HAppend.hAppend va_W va_W va_W _ (rcV X nw an sv dv n0 n1 n2 n3 n4 g0 gs gn gm) (@HAppend.hAppend va_W va_W va_W _ (rnV (xa 8) ag dg) (@HAppend.hAppend va_W va_W va_W _ (duW X (xa 12) da gd) ([((xa 5), .inl (X.2.1, 3, .inl fr))]))))) sz) (va_A (@HAppend.hAppend va_W va_W va_W _ (xW h0 nw sp xa la lb) (@HAppend.hAppend va_W va_W va_W _ (rcV X nw an sv dv n0 n1 n2 n3 n4 g0 gs gn gm) (@HAppend.hAppend va_W va_W va_W _ (rnV (xa 8) ag dg) (@HAppend.hAppend va_W va_W va_W _ (duW X (xa 12) da gd) ([((xa 5), .inl (X.2.1, 3, .inl fr))]))))) sz) s (@HAppend.hAppend va_W va_W va_W _ (rcV X nw an sv dv n0 n1 n2 n3 n4 g0 gs gn gm) (@HAppend.hAppend va_W va_W va_W _ (rnV (xa 8) ag dg) (@HAppend.hAppend va_W va_W va_W _ (duW X (xa 12) da gd) (@HAppend.hAppend va_W va_W va_W _ (xW h0 nw sp xa la lb) ([((xa 5), .inl (X.2.1, 3, .inl f_17))]))))) H locs := G
      refine lv_pop zx zb dX10_pair_20 rfl ?_
      refine lv_bipush (v := (-10)) zx zb dX10_pair_21 (by decide) ?_
      exact e_int S zr zlk (vp_nar_int _) G (ag, dg, gd, f_17) [23, 0, 1, 2, 3, 4, 5, 6, 7, 8, 9, 10, 11, 12, 13, 14, 15, 16, 17, 18, 19, 20, 21, 22, 24] rfl rfl (Or.inr rfl) (trivial) dX10_pair_23
  · refine lv_if_eq (tgt := 14) zx zb dX10_pair_6 (by decide) (fun c_18 => ?_) (fun c_18 => absurd (by decide) c_18)
    refine lv_aload_n zx zb dX10_pair_14 rfl (lv_at hl 0 rfl) ?_
    refine lv_bipush (v := (-2)) zx zb dX10_pair_15 (by decide) ?_
    refine b_wi (cells' := 0) (slots' := 0) (wr := @HAppend.hAppend va_W va_W va_W _ (rcV X nw an sv dv n0 n1 n2 n3 n4 g0 gs gn gm) (@HAppend.hAppend va_W va_W va_W _ (rnV (xa 8) ag dg) (duW X (xa 12) da gd))) G rfl rfl [0, 24] [1, 2, 3, 4, 5, 6, 7, 8, 9, 10, 11, 12, 13, 14, 15, 16, 17, 18, 19, 20, 21, 22, 23] rfl rfl rfl rfl (n_V (As := [.int (-2)]) (rest := []) (C := RX10) (T := TX10) (N := 14) (ci := 8) S G (s_refuse l X h0 nw sp xa la lb fr (-2) H.size) gX10_pair_X10_refuse rfl rfl rfl hdV_X10_refuse ⟨Nat.le_of_ble_eq_true rfl, Nat.le_of_ble_eq_true rfl⟩ [0, 24] rfl rfl 0 rfl rfl rfl hl.1 (Nat.le_of_ble_eq_true rfl) dX10_pair_17 ⟨Nat.le_of_ble_eq_true rfl, Nat.le_of_ble_eq_true rfl⟩) (fun r_19 u_19 H locs hp_19 G => ?_)
    obtain ⟨f_19, rfl⟩ : ∃ z, z = u_19 := ⟨_, rfl⟩
    have hq_19 := hp_19
    have G : wd X (va_A (@HAppend.hAppend va_W va_W va_W _ (xW h0 nw sp xa la lb) (@HAppend.hAppend va_W va_W va_W _ (rcV X nw an sv dv n0 n1 n2 n3 n4 g0 gs gn gm) (@HAppend.hAppend va_W va_W va_W _ (rnV (xa 8) ag dg) (@HAppend.hAppend va_W va_W va_W _ (duW X (xa 12) da gd) ([((xa 5), .inl (X.2.1, 3, .inl fr))]))))) sz) (va_A (@HAppend.hAppend va_W va_W va_W _ (xW h0 nw sp xa la lb) (@HAppend.hAppend va_W va_W va_W _ (rcV X nw an sv dv n0 n1 n2 n3 n4 g0 gs gn gm) (@HAppend.hAppend va_W va_W va_W _ (rnV (xa 8) ag dg) (@HAppend.hAppend va_W va_W va_W _ (duW X (xa 12) da gd) ([((xa 5), .inl (X.2.1, 3, .inl fr))]))))) sz) s (@HAppend.hAppend va_W va_W va_W _ (rcV X nw an sv dv n0 n1 n2 n3 n4 g0 gs gn gm) (@HAppend.hAppend va_W va_W va_W _ (rnV (xa 8) ag dg) (@HAppend.hAppend va_W va_W va_W _ (duW X (xa 12) da gd) (@HAppend.hAppend va_W va_W va_W _ (xW h0 nw sp xa la lb) ([((xa 5), .inl (X.2.1, 3, .inl f_19))]))))) H locs := G
    refine lv_pop zx zb dX10_pair_20 rfl ?_
    refine lv_bipush (v := (-10)) zx zb dX10_pair_21 (by decide) ?_
    exact e_int S zr zlk (vp_nar_int _) G (ag, dg, gd, f_19) [23, 0, 1, 2, 3, 4, 5, 6, 7, 8, 9, 10, 11, 12, 13, 14, 15, 16, 17, 18, 19, 20, 21, 22, 24] rfl rfl (Or.inr rfl) (trivial) dX10_pair_23
