set_option maxRecDepth 20000 in
theorem ggX0_greatestGain_X0_gain : GoodIn wsX0_greatestGain wsX0_gain := goodIn_r _ [8] rfl (by decide +kernel)
set_option maxRecDepth 20000 in
theorem gX0_greatestGain_X0_gain : GoodIn wsX0_greatestGain (va_wsS RX0 31 yX0_gain wsX0_gain) := goodIn_app (goodIn_of _ (by decide +kernel)) ggX0_greatestGain_X0_gain
set_option maxRecDepth 20000 in
theorem ggX0_weigh_X0_gain : GoodIn wsX0_weigh wsX0_gain := goodIn_r _ [16] rfl (by decide +kernel)
set_option maxRecDepth 20000 in
theorem gX0_weigh_X0_gain : GoodIn wsX0_weigh (va_wsS RX0 31 yX0_gain wsX0_gain) := goodIn_app (goodIn_of _ (by decide +kernel)) ggX0_weigh_X0_gain
set_option maxRecDepth 20000 in
theorem ggX0_weigh_X0_greatestGain : GoodIn wsX0_weigh wsX0_greatestGain := goodIn_r _ [9, 10, 11, 12, 13, 14, 15, 8, 16] rfl (by decide +kernel)
set_option maxRecDepth 20000 in
theorem gX0_weigh_X0_greatestGain : GoodIn wsX0_weigh (va_wsS RX0 27 yX0_greatestGain wsX0_greatestGain) := goodIn_app (goodIn_of _ (by decide +kernel)) ggX0_weigh_X0_greatestGain
set_option maxRecDepth 20000 in
theorem ggX10_pair_X0_put : GoodIn wsX10_pair wsX0_put := goodIn_r _ [65, 66, 67, 119, 120, 121, 122, 123] rfl (by decide +kernel)
set_option maxRecDepth 20000 in
theorem gX10_pair_X0_put : GoodIn wsX10_pair (wsV RX10 227 RX0 yX0_put wsX0_put) := goodIn_app (goodIn_of _ (by decide +kernel)) ggX10_pair_X0_put
set_option maxRecDepth 20000 in
theorem ggX10_pair_X0_restingPair : GoodIn wsX10_pair wsX0_restingPair := goodIn_r _ [88, 74, 119, 120, 121, 122, 123] rfl (by decide +kernel)
set_option maxRecDepth 20000 in
theorem gX10_pair_X0_restingPair : GoodIn wsX10_pair (wsV RX10 233 RX0 yX0_restingPair wsX0_restingPair) := goodIn_app (goodIn_of _ (by decide +kernel)) ggX10_pair_X0_restingPair
set_option maxRecDepth 20000 in
theorem ggX10_pair_X0_weigh : GoodIn wsX10_pair wsX0_weigh := goodIn_r _ [71, 72, 66, 67, 73, 74, 75, 76, 64, 77, 78, 79, 80, 81, 82, 83, 84, 119, 120, 121, 122, 123] rfl (by decide +kernel)
set_option maxRecDepth 20000 in
theorem gX10_pair_X0_weigh : GoodIn wsX10_pair (wsV RX10 230 RX0 yX0_weigh wsX0_weigh) := goodIn_app (goodIn_of _ (by decide +kernel)) ggX10_pair_X0_weigh
set_option maxRecDepth 20000 in
theorem ggX10_pair_X10_areTwo : GoodIn wsX10_pair wsX10_areTwo := goodIn_r _ [9, 10, 11, 12, 8, 13, 2, 14, 89, 90, 91, 92, 93, 94, 95, 96, 97, 98, 99, 100, 101, 102, 103, 104, 105, 106, 107, 108, 109, 110] rfl (by decide +kernel)
set_option maxRecDepth 20000 in
theorem gX10_pair_X10_areTwo : GoodIn wsX10_pair (wsV RX10 172 RX10 yX10_areTwo wsX10_areTwo) := goodIn_app (goodIn_of _ (by decide +kernel)) ggX10_pair_X10_areTwo
set_option maxRecDepth 20000 in
theorem ggX10_pair_X10_placeBehindFive : GoodIn wsX10_pair wsX10_placeBehindFive := goodIn_r _ [23, 24, 2, 3, 25, 26, 27, 28, 29, 30, 31, 32, 33, 34, 35, 36, 37, 38, 39, 40, 41, 42, 43, 44, 45, 46, 47, 48, 49, 50, 51, 52, 53, 54, 55, 56, 57, 58, 59, 60, 89, 90, 91, 92, 93, 94, 95, 96, 97, 98, 99, 100, 101, 102, 103, 104, 105, 106, 107, 108, 109, 110, 111, 112, 113, 114, 115, 116, 117, 118] rfl (by decide +kernel)
set_option maxRecDepth 20000 in
theorem gX10_pair_X10_placeBehindFive : GoodIn wsX10_pair (wsV RX10 224 RX10 yX10_placeBehindFive wsX10_placeBehindFive) := goodIn_app (goodIn_of _ (by decide +kernel)) ggX10_pair_X10_placeBehindFive
set_option maxRecDepth 20000 in
theorem ggX10_pair_X10_refuse : GoodIn wsX10_pair wsX10_refuse := goodIn_r _ [18, 19, 89, 90, 91, 92, 93, 94, 95, 96, 97, 98, 99, 100, 101, 102] rfl (by decide +kernel)
set_option maxRecDepth 20000 in
theorem gX10_pair_X10_refuse : GoodIn wsX10_pair (wsV RX10 83 RX10 yX10_refuse wsX10_refuse) := goodIn_app (goodIn_of _ (by decide +kernel)) ggX10_pair_X10_refuse
set_option maxRecDepth 20000 in
theorem ggX10_placeBehindFive_X8_copyFrom : GoodIn wsX10_placeBehindFive wsX8_copyFrom := goodIn_r _ [11, 12, 13, 14, 15, 16, 17, 18, 19, 62, 63, 64, 65, 66, 67, 68, 69] rfl (by decide +kernel)
set_option maxRecDepth 20000 in
theorem gX10_placeBehindFive_X8_copyFrom : GoodIn wsX10_placeBehindFive (wsV RX10 148 RX8 yX8_copyFrom wsX8_copyFrom) := goodIn_app (goodIn_of _ (by decide +kernel)) ggX10_placeBehindFive_X8_copyFrom
set_option maxRecDepth 20000 in
theorem ggX10_placeBehindFive_X8_placeBehind : GoodIn wsX10_placeBehindFive wsX8_placeBehind := goodIn_r _ [23, 16, 24, 25, 26, 10, 27, 18, 12, 13, 15, 14, 17, 19, 28, 29, 30, 31, 32, 33, 34, 35, 36, 37, 38, 39, 62, 63, 64, 65, 66, 67, 68, 69] rfl (by decide +kernel)
set_option maxRecDepth 20000 in
theorem gX10_placeBehindFive_X8_placeBehind : GoodIn wsX10_placeBehindFive (wsV RX10 152 RX8 yX8_placeBehind wsX8_placeBehind) := goodIn_app (goodIn_of _ (by decide +kernel)) ggX10_placeBehindFive_X8_placeBehind
theorem dX0_gain_0 : decode cX0_gain 0 = .ok (.iload_n 0, 1) := by decide +kernel
theorem dX0_gain_1 : decode cX0_gain 1 = .ok (.iload_n 1, 1) := by decide +kernel
theorem dX0_gain_12 : decode cX0_gain 12 = .ok (.iconst 0, 1) := by decide +kernel
theorem dX0_gain_13 : decode cX0_gain 13 = .ok (.iadd, 1) := by decide +kernel
theorem dX0_gain_14 : decode cX0_gain 14 = .ok (.ireturn, 1) := by decide +kernel
theorem dX0_gain_2 : decode cX0_gain 2 = .ok (.isub, 1) := by decide +kernel
theorem dX0_gain_3 : decode cX0_gain 3 = .ok (.iload_n 0, 1) := by decide +kernel
theorem dX0_gain_4 : decode cX0_gain 4 = .ok (.iload_n 2, 1) := by decide +kernel
theorem dX0_gain_5 : decode cX0_gain 5 = .ok (.if_icmp .le 7, 3) := by decide +kernel
theorem dX0_gain_8 : decode cX0_gain 8 = .ok (.iconst 3, 1) := by decide +kernel
theorem dX0_gain_9 : decode cX0_gain 9 = .ok (.goto 4, 3) := by decide +kernel
theorem dX0_greatestGain_0 : decode cX0_greatestGain 0 = .ok (.iconst 0, 1) := by decide +kernel
theorem dX0_greatestGain_1 : decode cX0_greatestGain 1 = .ok (.istore_n 3, 1) := by decide +kernel
theorem dX0_greatestGain_12 : decode cX0_greatestGain 12 = .ok (.iload_n 3, 1) := by decide +kernel
theorem dX0_greatestGain_13 : decode cX0_greatestGain 13 = .ok (.aload_n 0, 1) := by decide +kernel
theorem dX0_greatestGain_14 : decode cX0_greatestGain 14 = .ok (.iload 4, 2) := by decide +kernel
theorem dX0_greatestGain_16 : decode cX0_greatestGain 16 = .ok (.iaload, 1) := by decide +kernel
theorem dX0_greatestGain_17 : decode cX0_greatestGain 17 = .ok (.iload_n 1, 1) := by decide +kernel
theorem dX0_greatestGain_18 : decode cX0_greatestGain 18 = .ok (.iload_n 2, 1) := by decide +kernel
theorem dX0_greatestGain_19 : decode cX0_greatestGain 19 = .ok (.invokestatic 31, 3) := by decide +kernel
theorem dX0_greatestGain_2 : decode cX0_greatestGain 2 = .ok (.iconst 0, 1) := by decide +kernel
theorem dX0_greatestGain_22 : decode cX0_greatestGain 22 = .ok (.invokestatic 35, 3) := by decide +kernel
theorem dX0_greatestGain_25 : decode cX0_greatestGain 25 = .ok (.istore_n 3, 1) := by decide +kernel
theorem dX0_greatestGain_26 : decode cX0_greatestGain 26 = .ok (.iinc 4 1, 3) := by decide +kernel
theorem dX0_greatestGain_29 : decode cX0_greatestGain 29 = .ok (.goto (-24), 3) := by decide +kernel
theorem dX0_greatestGain_3 : decode cX0_greatestGain 3 = .ok (.istore 4, 2) := by decide +kernel
theorem dX0_greatestGain_32 : decode cX0_greatestGain 32 = .ok (.iload_n 3, 1) := by decide +kernel
theorem dX0_greatestGain_33 : decode cX0_greatestGain 33 = .ok (.ireturn, 1) := by decide +kernel
theorem dX0_greatestGain_5 : decode cX0_greatestGain 5 = .ok (.iload 4, 2) := by decide +kernel
theorem dX0_greatestGain_7 : decode cX0_greatestGain 7 = .ok (.aload_n 0, 1) := by decide +kernel
theorem dX0_greatestGain_8 : decode cX0_greatestGain 8 = .ok (.arraylength, 1) := by decide +kernel
theorem dX0_greatestGain_9 : decode cX0_greatestGain 9 = .ok (.if_icmp .ge 23, 3) := by decide +kernel
theorem dX0_put_0 : decode cX0_put 0 = .ok (.iload_n 1, 1) := by decide +kernel
theorem dX0_put_1 : decode cX0_put 1 = .ok (.ifCond .lt 23, 3) := by decide +kernel
theorem dX0_put_10 : decode cX0_put 10 = .ok (.aload_n 0, 1) := by decide +kernel
theorem dX0_put_11 : decode cX0_put 11 = .ok (.getfield 11, 3) := by decide +kernel
theorem dX0_put_14 : decode cX0_put 14 = .ok (.iload_n 1, 1) := by decide +kernel
theorem dX0_put_15 : decode cX0_put 15 = .ok (.iload_n 2, 1) := by decide +kernel
theorem dX0_put_16 : decode cX0_put 16 = .ok (.iastore, 1) := by decide +kernel
theorem dX0_put_17 : decode cX0_put 17 = .ok (.aload_n 0, 1) := by decide +kernel
theorem dX0_put_18 : decode cX0_put 18 = .ok (.getfield 15, 3) := by decide +kernel
theorem dX0_put_21 : decode cX0_put 21 = .ok (.iload_n 1, 1) := by decide +kernel
theorem dX0_put_22 : decode cX0_put 22 = .ok (.iload_n 3, 1) := by decide +kernel
theorem dX0_put_23 : decode cX0_put 23 = .ok (.iastore, 1) := by decide +kernel
theorem dX0_put_24 : decode cX0_put 24 = .ok (.return_, 1) := by decide +kernel
theorem dX0_put_4 : decode cX0_put 4 = .ok (.iload_n 1, 1) := by decide +kernel
theorem dX0_put_5 : decode cX0_put 5 = .ok (.bipush 10, 2) := by decide +kernel
theorem dX0_put_7 : decode cX0_put 7 = .ok (.if_icmp .ge 17, 3) := by decide +kernel
theorem dX0_restingPair_0 : decode cX0_restingPair 0 = .ok (.iload_n 1, 1) := by decide +kernel
theorem dX0_restingPair_1 : decode cX0_restingPair 1 = .ok (.ifCond .lt 21, 3) := by decide +kernel
theorem dX0_restingPair_10 : decode cX0_restingPair 10 = .ok (.if_icmp .ge 12, 3) := by decide +kernel
theorem dX0_restingPair_13 : decode cX0_restingPair 13 = .ok (.aload_n 0, 1) := by decide +kernel
theorem dX0_restingPair_14 : decode cX0_restingPair 14 = .ok (.getfield 24, 3) := by decide +kernel
theorem dX0_restingPair_17 : decode cX0_restingPair 17 = .ok (.iload_n 1, 1) := by decide +kernel
theorem dX0_restingPair_18 : decode cX0_restingPair 18 = .ok (.iaload, 1) := by decide +kernel
theorem dX0_restingPair_19 : decode cX0_restingPair 19 = .ok (.goto 4, 3) := by decide +kernel
theorem dX0_restingPair_22 : decode cX0_restingPair 22 = .ok (.iconst (-1), 1) := by decide +kernel
theorem dX0_restingPair_23 : decode cX0_restingPair 23 = .ok (.ireturn, 1) := by decide +kernel
theorem dX0_restingPair_4 : decode cX0_restingPair 4 = .ok (.iload_n 1, 1) := by decide +kernel
theorem dX0_restingPair_5 : decode cX0_restingPair 5 = .ok (.aload_n 0, 1) := by decide +kernel
theorem dX0_restingPair_6 : decode cX0_restingPair 6 = .ok (.getfield 24, 3) := by decide +kernel
theorem dX0_restingPair_9 : decode cX0_restingPair 9 = .ok (.arraylength, 1) := by decide +kernel
theorem dX0_weigh_0 : decode cX0_weigh 0 = .ok (.iconst 0, 1) := by decide +kernel
theorem dX0_weigh_1 : decode cX0_weigh 1 = .ok (.istore_n 3, 1) := by decide +kernel
theorem dX0_weigh_101 : decode cX0_weigh 101 = .ok (.aload_n 0, 1) := by decide +kernel
theorem dX0_weigh_102 : decode cX0_weigh 102 = .ok (.getfield 18, 3) := by decide +kernel
theorem dX0_weigh_105 : decode cX0_weigh 105 = .ok (.iload 6, 2) := by decide +kernel
theorem dX0_weigh_107 : decode cX0_weigh 107 = .ok (.iaload, 1) := by decide +kernel
theorem dX0_weigh_108 : decode cX0_weigh 108 = .ok (.if_icmp .ne 42, 3) := by decide +kernel
theorem dX0_weigh_111 : decode cX0_weigh 111 = .ok (.aload_n 0, 1) := by decide +kernel
theorem dX0_weigh_112 : decode cX0_weigh 112 = .ok (.getfield 15, 3) := by decide +kernel
theorem dX0_weigh_115 : decode cX0_weigh 115 = .ok (.iload 6, 2) := by decide +kernel
theorem dX0_weigh_117 : decode cX0_weigh 117 = .ok (.iaload, 1) := by decide +kernel
theorem dX0_weigh_118 : decode cX0_weigh 118 = .ok (.iload_n 2, 1) := by decide +kernel
theorem dX0_weigh_119 : decode cX0_weigh 119 = .ok (.aload_n 0, 1) := by decide +kernel
theorem dX0_weigh_12 : decode cX0_weigh 12 = .ok (.iload_n 3, 1) := by decide +kernel
theorem dX0_weigh_120 : decode cX0_weigh 120 = .ok (.getfield 11, 3) := by decide +kernel
theorem dX0_weigh_123 : decode cX0_weigh 123 = .ok (.iload 5, 2) := by decide +kernel
theorem dX0_weigh_125 : decode cX0_weigh 125 = .ok (.iaload, 1) := by decide +kernel
theorem dX0_weigh_126 : decode cX0_weigh 126 = .ok (.invokestatic 31, 3) := by decide +kernel
theorem dX0_weigh_129 : decode cX0_weigh 129 = .ok (.aload_n 0, 1) := by decide +kernel
theorem dX0_weigh_13 : decode cX0_weigh 13 = .ok (.aload_n 0, 1) := by decide +kernel
theorem dX0_weigh_130 : decode cX0_weigh 130 = .ok (.getfield 21, 3) := by decide +kernel
theorem dX0_weigh_133 : decode cX0_weigh 133 = .ok (.iload 5, 2) := by decide +kernel
theorem dX0_weigh_135 : decode cX0_weigh 135 = .ok (.iaload, 1) := by decide +kernel
theorem dX0_weigh_136 : decode cX0_weigh 136 = .ok (.if_icmp .ne 14, 3) := by decide +kernel
theorem dX0_weigh_139 : decode cX0_weigh 139 = .ok (.aload_n 0, 1) := by decide +kernel
theorem dX0_weigh_14 : decode cX0_weigh 14 = .ok (.getfield 11, 3) := by decide +kernel
theorem dX0_weigh_140 : decode cX0_weigh 140 = .ok (.getfield 24, 3) := by decide +kernel
theorem dX0_weigh_143 : decode cX0_weigh 143 = .ok (.iload_n 3, 1) := by decide +kernel
theorem dX0_weigh_144 : decode cX0_weigh 144 = .ok (.iload 4, 2) := by decide +kernel
theorem dX0_weigh_146 : decode cX0_weigh 146 = .ok (.iastore, 1) := by decide +kernel
theorem dX0_weigh_147 : decode cX0_weigh 147 = .ok (.iinc 3 1, 3) := by decide +kernel
theorem dX0_weigh_150 : decode cX0_weigh 150 = .ok (.iinc 4 1, 3) := by decide +kernel
theorem dX0_weigh_153 : decode cX0_weigh 153 = .ok (.goto (-94), 3) := by decide +kernel
theorem dX0_weigh_156 : decode cX0_weigh 156 = .ok (.iload_n 3, 1) := by decide +kernel
theorem dX0_weigh_157 : decode cX0_weigh 157 = .ok (.ireturn, 1) := by decide +kernel
theorem dX0_weigh_17 : decode cX0_weigh 17 = .ok (.iload_n 1, 1) := by decide +kernel
theorem dX0_weigh_18 : decode cX0_weigh 18 = .ok (.aload_n 0, 1) := by decide +kernel
theorem dX0_weigh_19 : decode cX0_weigh 19 = .ok (.getfield 15, 3) := by decide +kernel
theorem dX0_weigh_2 : decode cX0_weigh 2 = .ok (.iload_n 3, 1) := by decide +kernel
theorem dX0_weigh_22 : decode cX0_weigh 22 = .ok (.iload_n 3, 1) := by decide +kernel
theorem dX0_weigh_23 : decode cX0_weigh 23 = .ok (.iaload, 1) := by decide +kernel
theorem dX0_weigh_24 : decode cX0_weigh 24 = .ok (.invokestatic 27, 3) := by decide +kernel
theorem dX0_weigh_27 : decode cX0_weigh 27 = .ok (.iastore, 1) := by decide +kernel
theorem dX0_weigh_28 : decode cX0_weigh 28 = .ok (.aload_n 0, 1) := by decide +kernel
theorem dX0_weigh_29 : decode cX0_weigh 29 = .ok (.getfield 21, 3) := by decide +kernel
theorem dX0_weigh_3 : decode cX0_weigh 3 = .ok (.bipush 10, 2) := by decide +kernel
theorem dX0_weigh_32 : decode cX0_weigh 32 = .ok (.iload_n 3, 1) := by decide +kernel
theorem dX0_weigh_33 : decode cX0_weigh 33 = .ok (.aload_n 0, 1) := by decide +kernel
theorem dX0_weigh_34 : decode cX0_weigh 34 = .ok (.getfield 15, 3) := by decide +kernel
theorem dX0_weigh_37 : decode cX0_weigh 37 = .ok (.iload_n 2, 1) := by decide +kernel
theorem dX0_weigh_38 : decode cX0_weigh 38 = .ok (.aload_n 0, 1) := by decide +kernel
theorem dX0_weigh_39 : decode cX0_weigh 39 = .ok (.getfield 11, 3) := by decide +kernel
theorem dX0_weigh_42 : decode cX0_weigh 42 = .ok (.iload_n 3, 1) := by decide +kernel
theorem dX0_weigh_43 : decode cX0_weigh 43 = .ok (.iaload, 1) := by decide +kernel
theorem dX0_weigh_44 : decode cX0_weigh 44 = .ok (.invokestatic 27, 3) := by decide +kernel
theorem dX0_weigh_47 : decode cX0_weigh 47 = .ok (.iastore, 1) := by decide +kernel
theorem dX0_weigh_48 : decode cX0_weigh 48 = .ok (.iinc 3 1, 3) := by decide +kernel
theorem dX0_weigh_5 : decode cX0_weigh 5 = .ok (.if_icmp .ge 49, 3) := by decide +kernel
theorem dX0_weigh_51 : decode cX0_weigh 51 = .ok (.goto (-49), 3) := by decide +kernel
theorem dX0_weigh_54 : decode cX0_weigh 54 = .ok (.iconst 0, 1) := by decide +kernel
theorem dX0_weigh_55 : decode cX0_weigh 55 = .ok (.istore_n 3, 1) := by decide +kernel
theorem dX0_weigh_56 : decode cX0_weigh 56 = .ok (.iconst 0, 1) := by decide +kernel
theorem dX0_weigh_57 : decode cX0_weigh 57 = .ok (.istore 4, 2) := by decide +kernel
theorem dX0_weigh_59 : decode cX0_weigh 59 = .ok (.iload 4, 2) := by decide +kernel
theorem dX0_weigh_61 : decode cX0_weigh 61 = .ok (.aload_n 0, 1) := by decide +kernel
theorem dX0_weigh_62 : decode cX0_weigh 62 = .ok (.getfield 24, 3) := by decide +kernel
theorem dX0_weigh_65 : decode cX0_weigh 65 = .ok (.arraylength, 1) := by decide +kernel
theorem dX0_weigh_66 : decode cX0_weigh 66 = .ok (.if_icmp .ge 90, 3) := by decide +kernel
theorem dX0_weigh_69 : decode cX0_weigh 69 = .ok (.iload 4, 2) := by decide +kernel
theorem dX0_weigh_71 : decode cX0_weigh 71 = .ok (.bipush 10, 2) := by decide +kernel
theorem dX0_weigh_73 : decode cX0_weigh 73 = .ok (.idiv, 1) := by decide +kernel
theorem dX0_weigh_74 : decode cX0_weigh 74 = .ok (.istore 5, 2) := by decide +kernel
theorem dX0_weigh_76 : decode cX0_weigh 76 = .ok (.iload 4, 2) := by decide +kernel
theorem dX0_weigh_78 : decode cX0_weigh 78 = .ok (.bipush 10, 2) := by decide +kernel
theorem dX0_weigh_8 : decode cX0_weigh 8 = .ok (.aload_n 0, 1) := by decide +kernel
theorem dX0_weigh_80 : decode cX0_weigh 80 = .ok (.irem, 1) := by decide +kernel
theorem dX0_weigh_81 : decode cX0_weigh 81 = .ok (.istore 6, 2) := by decide +kernel
theorem dX0_weigh_83 : decode cX0_weigh 83 = .ok (.aload_n 0, 1) := by decide +kernel
theorem dX0_weigh_84 : decode cX0_weigh 84 = .ok (.getfield 11, 3) := by decide +kernel
theorem dX0_weigh_87 : decode cX0_weigh 87 = .ok (.iload 5, 2) := by decide +kernel
theorem dX0_weigh_89 : decode cX0_weigh 89 = .ok (.iaload, 1) := by decide +kernel
theorem dX0_weigh_9 : decode cX0_weigh 9 = .ok (.getfield 18, 3) := by decide +kernel
theorem dX0_weigh_90 : decode cX0_weigh 90 = .ok (.iload_n 1, 1) := by decide +kernel
theorem dX0_weigh_91 : decode cX0_weigh 91 = .ok (.aload_n 0, 1) := by decide +kernel
theorem dX0_weigh_92 : decode cX0_weigh 92 = .ok (.getfield 15, 3) := by decide +kernel
theorem dX0_weigh_95 : decode cX0_weigh 95 = .ok (.iload 6, 2) := by decide +kernel
theorem dX0_weigh_97 : decode cX0_weigh 97 = .ok (.iaload, 1) := by decide +kernel
theorem dX0_weigh_98 : decode cX0_weigh 98 = .ok (.invokestatic 31, 3) := by decide +kernel
theorem dX10_pair_0 : decode cX10_pair 0 = .ok (.aload_n 0, 1) := by decide +kernel
theorem dX10_pair_1 : decode cX10_pair 1 = .ok (.iload_n 1, 1) := by decide +kernel
theorem dX10_pair_10 : decode cX10_pair 10 = .ok (.iconst (-1), 1) := by decide +kernel
theorem dX10_pair_101 : decode cX10_pair 101 = .ok (.iload 4, 2) := by decide +kernel
theorem dX10_pair_103 : decode cX10_pair 103 = .ok (.ireturn, 1) := by decide +kernel
theorem dX10_pair_104 : decode cX10_pair 104 = .ok (.iload_n 3, 1) := by decide +kernel
theorem dX10_pair_105 : decode cX10_pair 105 = .ok (.iload 4, 2) := by decide +kernel
theorem dX10_pair_107 : decode cX10_pair 107 = .ok (.if_icmp .ge 14, 3) := by decide +kernel
theorem dX10_pair_11 : decode cX10_pair 11 = .ok (.if_icmp .ge 13, 3) := by decide +kernel
theorem dX10_pair_110 : decode cX10_pair 110 = .ok (.aload_n 0, 1) := by decide +kernel
theorem dX10_pair_111 : decode cX10_pair 111 = .ok (.getfield 72, 3) := by decide +kernel
theorem dX10_pair_114 : decode cX10_pair 114 = .ok (.iload_n 3, 1) := by decide +kernel
theorem dX10_pair_115 : decode cX10_pair 115 = .ok (.invokevirtual 233, 3) := by decide +kernel
theorem dX10_pair_118 : decode cX10_pair 118 = .ok (.goto 5, 3) := by decide +kernel
theorem dX10_pair_121 : decode cX10_pair 121 = .ok (.bipush (-5), 2) := by decide +kernel
theorem dX10_pair_123 : decode cX10_pair 123 = .ok (.ireturn, 1) := by decide +kernel
theorem dX10_pair_14 : decode cX10_pair 14 = .ok (.aload_n 0, 1) := by decide +kernel
theorem dX10_pair_15 : decode cX10_pair 15 = .ok (.bipush (-2), 2) := by decide +kernel
theorem dX10_pair_17 : decode cX10_pair 17 = .ok (.invokevirtual 83, 3) := by decide +kernel
theorem dX10_pair_2 : decode cX10_pair 2 = .ok (.iload_n 2, 1) := by decide +kernel
theorem dX10_pair_20 : decode cX10_pair 20 = .ok (.pop, 1) := by decide +kernel
theorem dX10_pair_21 : decode cX10_pair 21 = .ok (.bipush (-10), 2) := by decide +kernel
theorem dX10_pair_23 : decode cX10_pair 23 = .ok (.ireturn, 1) := by decide +kernel
theorem dX10_pair_24 : decode cX10_pair 24 = .ok (.iconst 0, 1) := by decide +kernel
theorem dX10_pair_25 : decode cX10_pair 25 = .ok (.istore 4, 2) := by decide +kernel
theorem dX10_pair_27 : decode cX10_pair 27 = .ok (.iload 4, 2) := by decide +kernel
theorem dX10_pair_29 : decode cX10_pair 29 = .ok (.bipush 9, 2) := by decide +kernel
theorem dX10_pair_3 : decode cX10_pair 3 = .ok (.invokevirtual 172, 3) := by decide +kernel
theorem dX10_pair_31 : decode cX10_pair 31 = .ok (.if_icmp .gt 32, 3) := by decide +kernel
theorem dX10_pair_34 : decode cX10_pair 34 = .ok (.aload_n 0, 1) := by decide +kernel
theorem dX10_pair_35 : decode cX10_pair 35 = .ok (.getfield 72, 3) := by decide +kernel
theorem dX10_pair_38 : decode cX10_pair 38 = .ok (.iload 4, 2) := by decide +kernel
theorem dX10_pair_40 : decode cX10_pair 40 = .ok (.aload_n 0, 1) := by decide +kernel
theorem dX10_pair_41 : decode cX10_pair 41 = .ok (.iload_n 1, 1) := by decide +kernel
theorem dX10_pair_42 : decode cX10_pair 42 = .ok (.iload 4, 2) := by decide +kernel
theorem dX10_pair_44 : decode cX10_pair 44 = .ok (.invokevirtual 224, 3) := by decide +kernel
theorem dX10_pair_47 : decode cX10_pair 47 = .ok (.aload_n 0, 1) := by decide +kernel
theorem dX10_pair_48 : decode cX10_pair 48 = .ok (.iload_n 2, 1) := by decide +kernel
theorem dX10_pair_49 : decode cX10_pair 49 = .ok (.iload 4, 2) := by decide +kernel
theorem dX10_pair_51 : decode cX10_pair 51 = .ok (.invokevirtual 224, 3) := by decide +kernel
theorem dX10_pair_54 : decode cX10_pair 54 = .ok (.invokevirtual 227, 3) := by decide +kernel
theorem dX10_pair_57 : decode cX10_pair 57 = .ok (.iinc 4 1, 3) := by decide +kernel
theorem dX10_pair_6 : decode cX10_pair 6 = .ok (.ifCond .eq 8, 3) := by decide +kernel
theorem dX10_pair_60 : decode cX10_pair 60 = .ok (.goto (-33), 3) := by decide +kernel
theorem dX10_pair_63 : decode cX10_pair 63 = .ok (.aload_n 0, 1) := by decide +kernel
theorem dX10_pair_64 : decode cX10_pair 64 = .ok (.getfield 72, 3) := by decide +kernel
theorem dX10_pair_67 : decode cX10_pair 67 = .ok (.aload_n 0, 1) := by decide +kernel
theorem dX10_pair_68 : decode cX10_pair 68 = .ok (.getfield 10, 3) := by decide +kernel
theorem dX10_pair_71 : decode cX10_pair 71 = .ok (.getfield 126, 3) := by decide +kernel
theorem dX10_pair_74 : decode cX10_pair 74 = .ok (.iload_n 1, 1) := by decide +kernel
theorem dX10_pair_75 : decode cX10_pair 75 = .ok (.aaload, 1) := by decide +kernel
theorem dX10_pair_76 : decode cX10_pair 76 = .ok (.getfield 137, 3) := by decide +kernel
theorem dX10_pair_79 : decode cX10_pair 79 = .ok (.aload_n 0, 1) := by decide +kernel
theorem dX10_pair_80 : decode cX10_pair 80 = .ok (.getfield 10, 3) := by decide +kernel
theorem dX10_pair_83 : decode cX10_pair 83 = .ok (.getfield 126, 3) := by decide +kernel
theorem dX10_pair_86 : decode cX10_pair 86 = .ok (.iload_n 2, 1) := by decide +kernel
theorem dX10_pair_87 : decode cX10_pair 87 = .ok (.aaload, 1) := by decide +kernel
theorem dX10_pair_88 : decode cX10_pair 88 = .ok (.getfield 137, 3) := by decide +kernel
theorem dX10_pair_9 : decode cX10_pair 9 = .ok (.iload_n 3, 1) := by decide +kernel
theorem dX10_pair_91 : decode cX10_pair 91 = .ok (.invokevirtual 230, 3) := by decide +kernel
theorem dX10_pair_94 : decode cX10_pair 94 = .ok (.istore 4, 2) := by decide +kernel
theorem dX10_pair_96 : decode cX10_pair 96 = .ok (.iload_n 3, 1) := by decide +kernel
theorem dX10_pair_97 : decode cX10_pair 97 = .ok (.iconst (-1), 1) := by decide +kernel
theorem dX10_pair_98 : decode cX10_pair 98 = .ok (.if_icmp .ne 6, 3) := by decide +kernel
theorem dX10_placeBehindFive_0 : decode cX10_placeBehindFive 0 = .ok (.aload_n 0, 1) := by decide +kernel
theorem dX10_placeBehindFive_1 : decode cX10_placeBehindFive 1 = .ok (.getfield 48, 3) := by decide +kernel
theorem dX10_placeBehindFive_11 : decode cX10_placeBehindFive 11 = .ok (.iload_n 1, 1) := by decide +kernel
theorem dX10_placeBehindFive_12 : decode cX10_placeBehindFive 12 = .ok (.aaload, 1) := by decide +kernel
theorem dX10_placeBehindFive_13 : decode cX10_placeBehindFive 13 = .ok (.invokevirtual 148, 3) := by decide +kernel
theorem dX10_placeBehindFive_16 : decode cX10_placeBehindFive 16 = .ok (.aload_n 0, 1) := by decide +kernel
theorem dX10_placeBehindFive_17 : decode cX10_placeBehindFive 17 = .ok (.getfield 48, 3) := by decide +kernel
theorem dX10_placeBehindFive_20 : decode cX10_placeBehindFive 20 = .ok (.iload_n 2, 1) := by decide +kernel
theorem dX10_placeBehindFive_21 : decode cX10_placeBehindFive 21 = .ok (.putfield 130, 3) := by decide +kernel
theorem dX10_placeBehindFive_24 : decode cX10_placeBehindFive 24 = .ok (.aload_n 0, 1) := by decide +kernel
theorem dX10_placeBehindFive_25 : decode cX10_placeBehindFive 25 = .ok (.getfield 48, 3) := by decide +kernel
theorem dX10_placeBehindFive_28 : decode cX10_placeBehindFive 28 = .ok (.aload_n 0, 1) := by decide +kernel
theorem dX10_placeBehindFive_29 : decode cX10_placeBehindFive 29 = .ok (.getfield 10, 3) := by decide +kernel
theorem dX10_placeBehindFive_32 : decode cX10_placeBehindFive 32 = .ok (.getfield 110, 3) := by decide +kernel
theorem dX10_placeBehindFive_35 : decode cX10_placeBehindFive 35 = .ok (.aload_n 0, 1) := by decide +kernel
theorem dX10_placeBehindFive_36 : decode cX10_placeBehindFive 36 = .ok (.getfield 10, 3) := by decide +kernel
theorem dX10_placeBehindFive_39 : decode cX10_placeBehindFive 39 = .ok (.getfield 140, 3) := by decide +kernel
theorem dX10_placeBehindFive_4 : decode cX10_placeBehindFive 4 = .ok (.aload_n 0, 1) := by decide +kernel
theorem dX10_placeBehindFive_42 : decode cX10_placeBehindFive 42 = .ok (.iconst 5, 1) := by decide +kernel
theorem dX10_placeBehindFive_43 : decode cX10_placeBehindFive 43 = .ok (.invokevirtual 152, 3) := by decide +kernel
theorem dX10_placeBehindFive_46 : decode cX10_placeBehindFive 46 = .ok (.ireturn, 1) := by decide +kernel
theorem dX10_placeBehindFive_5 : decode cX10_placeBehindFive 5 = .ok (.getfield 10, 3) := by decide +kernel
theorem dX10_placeBehindFive_8 : decode cX10_placeBehindFive 8 = .ok (.getfield 126, 3) := by decide +kernel
set_option maxHeartbeats 4000000 in
set_option maxRecDepth 100000 in
/-- gain -/
theorem s_gain (l : Launch) (X : EX) (x1 : Int32) (x2 : Int32) (x3 : Int32) (sz : Nat) : Met l yX0_gain wsX0_gain ({ frames := 0, cells := 0, slots := 0, locals := 0 } : Room) (pE X [.int x1, .int x2, .int x3] ([]) sz) (qI (fun (r : Int32) (u : Unit) => True) X (fun (u : Unit) => []) [] sz) 0 0 (va_A [] sz) := by
  refine mk_met (B := (fun _ => True)) (A := (va_A [] sz)) (cc := cX0_gain) (maxL := 3) (ret := (some .int)) (by decide) rfl (Nat.le_of_ble_eq_true rfl) k_ro k_a (fun p e s m below meth c S zr zlk znm zsz G ls hl => ?_)
  have S : CallFix p m c cX0_gain 3 s _ wsX0_gain RX0 := S
  have zx := S.1
  have zb := S.2.1
  have hl : lv_has ls 3 [(0, .int x1), (1, .int x2), (2, .int x3)] := hl
  refine lv_iload_n zx zb dX0_gain_0 rfl (lv_at hl 0 rfl) ?_
  refine lv_iload_n zx zb dX0_gain_1 rfl (lv_at hl 1 rfl) ?_
  refine r_isub (v := (x1 - x2)) S rfl dX0_gain_2 ?_
  refine lv_iload_n zx zb dX0_gain_3 rfl (lv_at hl 0 rfl) ?_
  refine lv_iload_n zx zb dX0_gain_4 rfl (lv_at hl 2 rfl) ?_
  refine k_cutW (PP := fun Wx => ∀ (x_2 : Int32) (H : Heap) (locs : List Loc) (ls : Array Slot), wd X (fun _ => True) (va_A [] sz) s ([]) H locs → lv_has ls 3 [(0, .int x1), (1, .int x2), (2, .int x3)] → Wx (F0 m 13 ls [.int x_2, .int (x1 - x2)]) H locs) ?_ ?_
  · intro join_5
    refine lv_icmp_le (tgt := 12) zx zb dX0_gain_5 (by decide) (fun c_1 => ?_) (fun c_1 => ?_)
    · refine lv_iconst (v := 0) zx zb dX0_gain_12 (by decide) ?_
      exact join_5 0 _ _ _  G hl
    · refine lv_iconst (v := 3) zx zb dX0_gain_8 (by decide) ?_
      refine lv_goto (tgt := 13) zx zb dX0_gain_9 (by decide) ?_
      exact join_5 3 _ _ _  G hl
  · intro x_2 H locs ls  G hl
    refine r_iadd (v := ((x1 - x2) + x_2)) S rfl dX0_gain_13 ?_
    exact e_int S zr zlk (vp_nar_int _) G () [] rfl rfl (Or.inl rfl) (trivial) dX0_gain_14
theorem hdS_X0_gain : yX0_gain.cls ≠ "java/lang/invoke/MethodHandle" ∧ yX0_gain.cls ≠ "java/lang/invoke/VarHandle" ∧ (parseMethodDescriptor yX0_gain.desc).map (fun d => d.parameters.length) = some 3 := by decide +kernel
theorem mm_X0_greatestGain_ml35 : Cond.methodLink RX0 35 Lib.Math.max.name ∈ wsX0_greatestGain := by decide +kernel
theorem mm_X0_greatestGain_msmax : Cond.static Lib.Math.max.name ∈ wsX0_greatestGain := by decide +kernel
theorem mm_X0_greatestGain_mi : Cond.initialized "java/lang/Math" ∈ wsX0_greatestGain := by decide +kernel
theorem mm_X0_greatestGain_mcmax : Cond.code Lib.Math.max.name Lib.Math.max.code 2 (some .int) ∈ wsX0_greatestGain := by decide +kernel
set_option maxHeartbeats 4000000 in
set_option maxRecDepth 100000 in
/-- greatestGain -/
theorem s_greatestGain (l : Launch) (X : EX) (ha : Nat) (fa : Nat → Int32) (x1 : Int32) (x2 : Int32) (sz : Nat) : Met l yX0_greatestGain wsX0_greatestGain ({ frames := 1, cells := 0, slots := 0, locals := 22 } : Room) (pE X [.ref ha, .int x1, .int x2] ([(ha, .inl (X.2.1, 10, .inl fa))]) sz) (qI (fun (r : Int32) (u : Unit) => True) X (fun (u : Unit) => []) [] sz) 0 0 (va_A [] sz) := by
  refine mk_met (B := (fun _ => True)) (A := (va_A [] sz)) (cc := cX0_greatestGain) (maxL := 5) (ret := (some .int)) (by decide) rfl (Nat.le_of_ble_eq_true rfl) k_ro k_a (fun p e s m below meth c S zr zlk znm zsz G ls hl => ?_)
  have S : CallFix p m c cX0_greatestGain 5 s _ wsX0_greatestGain RX0 := S
  have zx := S.1
  have zb := S.2.1
  have hl : lv_has ls 5 [(0, .ref ha), (1, .int x1), (2, .int x2)] := hl
  refine lv_iconst (v := 0) zx zb dX0_greatestGain_0 (by decide) ?_
  refine lv_istore_n (lv' := [(3, .int 0), (0, .ref ha), (1, .int x1), (2, .int x2)]) zx zb dX0_greatestGain_1 rfl hl (by decide) rfl (fun ls hl => ?_)
  refine lv_iconst (v := 0) zx zb dX0_greatestGain_2 (by decide) ?_
  refine lv_istore (lv' := [(4, .int 0), (3, .int 0), (0, .ref ha), (1, .int x1), (2, .int x2)]) zx zb dX0_greatestGain_3 hl (by decide) rfl (fun ls hl => ?_)
  refine k_loop (P := ∀ (zm : Nat) (k5 : Nat) (x5_3 : Int32) (H : Heap) (locs : List Loc) (ls : Array Slot), 10 + 1 ≤ k5 + zm → (k5 ≤ 10) → wd X (fun _ => True) (va_A [] sz) s ([(ha, .inl (X.2.1, 10, .inl fa))]) H locs → lv_has ls 5 [(4, .int (nI k5)), (3, .int x5_3), (0, .ref ha), (1, .int x1), (2, .int x2)] → W p l e _ s m _ below meth c H locs _ _ _ (F0 m 5 ls [])) (fun loop => loop (10 + 1) 0 0 _ _ _ (by omega) (by omega) G hl) ?_
  intro zm
  induction zm with
  | zero => intro k5 x5_3 H locs ls zz q_hk_k5 _ _; exact absurd zz (by omega)
  | succ zm ih5 =>
    intro k5 x5_3 H locs ls zm_5 hk_k5 G hl
    refine lv_iload zx zb dX0_greatestGain_5 (lv_at hl 0 rfl) ?_
    refine lv_aload_n zx zb dX0_greatestGain_7 rfl (lv_at hl 2 rfl) ?_
    refine r_alen (v := 10) S G 0 0 rfl rfl rfl dX0_greatestGain_8 ?_
    refine lv_icmp_ge (tgt := 32) zx zb dX0_greatestGain_9 (by decide) (fun c_1 => ?_) (fun c_1 => ?_)
    · have fc_1 := j_le (a := 10) (b := k5) (by omega) (by omega) c_1
      refine lv_iload_n zx zb dX0_greatestGain_32 rfl (lv_at hl 1 rfl) ?_
      exact e_int S zr zlk (vp_nar_int _) G () [] rfl rfl (Or.inl rfl) (trivial) dX0_greatestGain_33
    · have fc_1 := j_nle (a := 10) (b := k5) (by omega) (by omega) c_1
      refine lv_iload_n zx zb dX0_greatestGain_12 rfl (lv_at hl 1 rfl) ?_
      refine lv_aload_n zx zb dX0_greatestGain_13 rfl (lv_at hl 2 rfl) ?_
      refine lv_iload zx zb dX0_greatestGain_14 (lv_at hl 0 rfl) ?_
      refine r_iald S G 0 rfl (vp_in_nI (by omega) (by decide)) rfl dX0_greatestGain_16 ?_
      refine k_itE (fun y_2 => ?_)
      refine lv_iload_n zx zb dX0_greatestGain_17 rfl (lv_at hl 3 rfl) ?_
      refine lv_iload_n zx zb dX0_greatestGain_18 rfl (lv_at hl 4 rfl) ?_
      refine o_ri (cells' := 0) (slots' := 0) G rfl rfl (n_S (As := [.int y_2, .int x1, .int x2]) (rest := [.int x5_3]) S G (s_gain l X y_2 x1 x2 H.size) gX0_greatestGain_X0_gain rfl rfl rfl hdS_X0_gain ⟨Nat.le_of_ble_eq_true rfl, Nat.le_of_ble_eq_true rfl⟩ [] rfl rfl rfl hl.1 (Nat.le_of_ble_eq_true rfl) dX0_greatestGain_19 ⟨Nat.le_of_ble_eq_true rfl, Nat.le_of_ble_eq_true rfl⟩) (fun r_3 u_3 H locs hp_3 G => ?_)
      have G : wd X (fun _ => True) (va_A [] sz) s ([(ha, .inl (X.2.1, 10, .inl fa))]) H locs := G
      refine r_mmaxE S hl.1 mm_X0_greatestGain_ml35 mm_X0_greatestGain_msmax mm_X0_greatestGain_mi mm_X0_greatestGain_mcmax (Nat.le_of_ble_eq_true rfl) (Nat.le_of_ble_eq_true rfl) (Nat.zero_le _) (Nat.zero_le _) dX0_greatestGain_22 (fun y_4 => ?_)
      refine lv_istore_n (lv' := [(3, .int y_4), (4, .int (nI k5)), (0, .ref ha), (1, .int x1), (2, .int x2)]) zx zb dX0_greatestGain_25 rfl hl (by decide) rfl (fun ls hl => ?_)
      refine lv_iinc (v := (nI (k5 + 1))) (lv' := [(4, .int (nI (k5 + 1))), (3, .int y_4), (0, .ref ha), (1, .int x1), (2, .int x2)]) zx zb dX0_greatestGain_26 hl (k := 1) rfl (nI_add k5 1) (by decide) rfl (fun ls hl => ?_)
      refine lv_goto (tgt := 5) zx zb dX0_greatestGain_29 (by decide) ?_
      exact ih5 (k5 + 1) y_4 _ _ _ (by omega) (by omega) G hl
theorem in_X0_put_X0 : ∀ w ∈ wsX00, w ∈ wsX0_put := by decide +kernel
theorem lk_X0_put_11 : Cond.fieldLink RX0 11 "EggSpoons$Duel" "endsA" "[I" ∈ wsX0_put := by decide +kernel
theorem lk_X0_put_15 : Cond.fieldLink RX0 15 "EggSpoons$Duel" "endsB" "[I" ∈ wsX0_put := by decide +kernel
set_option maxHeartbeats 4000000 in
set_option maxRecDepth 100000 in
/-- put -/
theorem s_dput (l : Launch) (X : EX) (hd : Nat) (da : Nat → Nat) (gd : Nat → Nat → Int32) (x1 : Int32) (x2 : Int32) (x3 : Int32) (sz : Nat) : Met l yX0_put wsX0_put ({ frames := 0, cells := 0, slots := 0, locals := 0 } : Room) (pE X [.ref hd, .int x1, .int x2, .int x3] (duW X hd da gd) sz) (qV (fun (u : (Nat → Nat → Int32)) => (True)) X (fun (u : (Nat → Nat → Int32)) => duW X hd da u) (duW X hd da gd) sz) 0 0 (va_A (duW X hd da gd) sz) := by
  refine mk_met (B := (va_A (duW X hd da gd) sz)) (A := (va_A (duW X hd da gd) sz)) (cc := cX0_put) (maxL := 4) (ret := none) (by decide) rfl (Nat.le_of_ble_eq_true rfl) k_w k_a (fun p e s m below meth c S zr zlk znm zsz G ls hl => ?_)
  have S : CallFix p m c cX0_put 4 s _ wsX0_put RX0 := S
  have zx := S.1
  have zb := S.2.1
  have hl : lv_has ls 4 [(0, .ref hd), (1, .int x1), (2, .int x2), (3, .int x3)] := hl
  refine lv_iload_n zx zb dX0_put_0 rfl (lv_at hl 1 rfl) ?_
  refine k_cutW (PP := fun Wx => ∀ (g_2 : Nat → Nat → Int32) (H : Heap) (locs : List Loc) (ls : Array Slot), wd X (va_A (duW X hd da gd) sz) (va_A (duW X hd da gd) sz) s (duW X hd da g_2) H locs → lv_has ls 4 [(0, .ref hd), (1, .int x1), (2, .int x2), (3, .int x3)] → Wx (F0 m 24 ls []) H locs) ?_ ?_
  · intro join_1
    refine lv_if_lt (tgt := 24) zx zb dX0_put_1 (by decide) (fun c_1 => ?_) (fun c_1 => ?_)
    · exact join_1 gd _ _ _  G hl
    · refine lv_iload_n zx zb dX0_put_4 rfl (lv_at hl 1 rfl) ?_
      refine lv_bipush (v := 10) zx zb dX0_put_5 (by decide) ?_
      refine lv_icmp_ge (tgt := 24) zx zb dX0_put_7 (by decide) (fun c_3 => ?_) (fun c_3 => ?_)
      · exact join_1 gd _ _ _  G hl
      · refine lv_aload_n zx zb dX0_put_10 rfl (lv_at hl 0 rfl) ?_
        refine r_get (C := RX0) (T := TX0) (N := 5) (ci := 0) (v := .ref (da 0)) S in_X0_put_X0 G 0 rfl rfl 0 (by decide) lk_X0_put_11 rfl dX0_put_11 ?_
        refine lv_iload_n zx zb dX0_put_14 rfl (lv_at hl 1 rfl) ?_
        refine lv_iload_n zx zb dX0_put_15 rfl (lv_at hl 2 rfl) ?_
        refine r_iast S G 1 rfl (k_in (by decide) c_1 c_3) dX0_put_16 (fun H locs G => ?_)
        obtain ⟨g_4, G⟩ : ∃ g_4 : Nat → Nat → Int32, wd X (va_A (duW X hd da gd) sz) (va_A (duW X hd da gd) sz) s (duW X hd da g_4) H locs := ⟨upG gd 0 _, G⟩
        refine lv_aload_n zx zb dX0_put_17 rfl (lv_at hl 0 rfl) ?_
        refine r_get (C := RX0) (T := TX0) (N := 5) (ci := 0) (v := .ref (da 1)) S in_X0_put_X0 G 0 rfl rfl 1 (by decide) lk_X0_put_15 rfl dX0_put_18 ?_
        refine lv_iload_n zx zb dX0_put_21 rfl (lv_at hl 1 rfl) ?_
        refine lv_iload_n zx zb dX0_put_22 rfl (lv_at hl 3 rfl) ?_
        refine r_iast S G 2 rfl (k_in (by decide) c_1 c_3) dX0_put_23 (fun H locs G => ?_)
        obtain ⟨g_5, G⟩ : ∃ g_5 : Nat → Nat → Int32, wd X (va_A (duW X hd da gd) sz) (va_A (duW X hd da gd) sz) s (duW X hd da g_5) H locs := ⟨upG g_4 1 _, G⟩
        exact join_1 g_5 _ _ _  G hl
  · intro g_2 H locs ls  G hl
    exact e_void S zr zlk G (g_2) [0, 1, 2, 3, 4, 5] rfl rfl (Or.inr rfl) (trivial) dX0_put_24
theorem in_X0_weigh_X0 : ∀ w ∈ wsX00, w ∈ wsX0_weigh := by decide +kernel
theorem lk_X0_weigh_18 : Cond.fieldLink RX0 18 "EggSpoons$Duel" "mostA" "[I" ∈ wsX0_weigh := by decide +kernel
theorem lk_X0_weigh_11 : Cond.fieldLink RX0 11 "EggSpoons$Duel" "endsA" "[I" ∈ wsX0_weigh := by decide +kernel
theorem lk_X0_weigh_15 : Cond.fieldLink RX0 15 "EggSpoons$Duel" "endsB" "[I" ∈ wsX0_weigh := by decide +kernel
theorem hdS_X0_greatestGain : yX0_greatestGain.cls ≠ "java/lang/invoke/MethodHandle" ∧ yX0_greatestGain.cls ≠ "java/lang/invoke/VarHandle" ∧ (parseMethodDescriptor yX0_greatestGain.desc).map (fun d => d.parameters.length) = some 3 := by decide +kernel
theorem lk_X0_weigh_21 : Cond.fieldLink RX0 21 "EggSpoons$Duel" "mostB" "[I" ∈ wsX0_weigh := by decide +kernel
theorem lk_X0_weigh_24 : Cond.fieldLink RX0 24 "EggSpoons$Duel" "resting" "[I" ∈ wsX0_weigh := by decide +kernel
set_option maxHeartbeats 4000000 in
set_option maxRecDepth 100000 in
/-- weigh -/
theorem s_weigh (l : Launch) (X : EX) (hd : Nat) (da : Nat → Nat) (gd : Nat → Nat → Int32) (x1 : Int32) (x2 : Int32) (sz : Nat) : Met l yX0_weigh wsX0_weigh ({ frames := 2, cells := 0, slots := 0, locals := 46 } : Room) (pE X [.ref hd, .int x1, .int x2] (duW X hd da gd) sz) (qI (fun (r : Int32) (u : (Nat → Nat → Int32)) => (True)) X (fun (u : (Nat → Nat → Int32)) => duW X hd da u) (duW X hd da gd) sz) 0 0 (va_A (duW X hd da gd) sz) := by
  refine mk_met (B := (va_A (duW X hd da gd) sz)) (A := (va_A (duW X hd da gd) sz)) (cc := cX0_weigh) (maxL := 7) (ret := (some .int)) (by decide) rfl (Nat.le_of_ble_eq_true rfl) k_w k_a (fun p e s m below meth c S zr zlk znm zsz G ls hl => ?_)
  have S : CallFix p m c cX0_weigh 7 s _ wsX0_weigh RX0 := S
  have zx := S.1
  have zb := S.2.1
  have hl : lv_has ls 7 [(0, .ref hd), (1, .int x1), (2, .int x2)] := hl
  refine lv_iconst (v := 0) zx zb dX0_weigh_0 (by decide) ?_
  refine lv_istore_n (lv' := [(3, .int 0), (0, .ref hd), (1, .int x1), (2, .int x2)]) zx zb dX0_weigh_1 rfl hl (by decide) rfl (fun ls hl => ?_)
  refine k_loop (P := ∀ (zm : Nat) (k2 : Nat) (g2_0 : Nat → Nat → Int32) (H : Heap) (locs : List Loc) (ls : Array Slot), 10 + 1 ≤ k2 + zm → (k2 ≤ 10) → wd X (va_A (duW X hd da gd) sz) (va_A (duW X hd da gd) sz) s (duW X hd da g2_0) H locs → lv_has ls 7 [(3, .int (nI k2)), (0, .ref hd), (1, .int x1), (2, .int x2)] → W p l e _ s m _ below meth c H locs _ _ _ (F0 m 2 ls [])) (fun loop => loop (10 + 1) 0 gd _ _ _ (by omega) (by omega) G hl) ?_
  intro zm
  induction zm with
  | zero => intro k2 g2_0 H locs ls zz q_hk_k2 _ _; exact absurd zz (by omega)
  | succ zm ih2 =>
    intro k2 g2_0 H locs ls zm_2 hk_k2 G hl
    refine lv_iload_n zx zb dX0_weigh_2 rfl (lv_at hl 0 rfl) ?_
    refine lv_bipush (v := 10) zx zb dX0_weigh_3 (by decide) ?_
    refine lv_icmp_ge (tgt := 54) zx zb dX0_weigh_5 (by decide) (fun c_1 => ?_) (fun c_1 => ?_)
    · have fc_1 := j_le (a := 10) (b := k2) (by omega) (by omega) c_1
      refine lv_iconst (v := 0) zx zb dX0_weigh_54 (by decide) ?_
      refine lv_istore_n (lv' := [(3, .int 0), (0, .ref hd), (1, .int x1), (2, .int x2)]) zx zb dX0_weigh_55 rfl hl (by decide) rfl (fun ls hl => ?_)
      refine lv_iconst (v := 0) zx zb dX0_weigh_56 (by decide) ?_
      refine lv_istore (lv' := [(4, .int 0), (3, .int 0), (0, .ref hd), (1, .int x1), (2, .int x2)]) zx zb dX0_weigh_57 hl (by decide) rfl (fun ls hl => ?_)
      refine k_loop (P := ∀ (zm : Nat) (k59 : Nat) (n59_3 : Nat) (g59_0 : Nat → Nat → Int32) (H : Heap) (locs : List Loc) (ls : Array Slot), 100 + 1 ≤ k59 + zm → (k59 ≤ 100) → (n59_3 ≤ k59) → wd X (va_A (duW X hd da gd) sz) (va_A (duW X hd da gd) sz) s (duW X hd da g59_0) H locs → lv_has ls 7 [(4, .int (nI k59)), (3, .int (nI n59_3)), (0, .ref hd), (1, .int x1), (2, .int x2)] → W p l e _ s m _ below meth c H locs _ _ _ (F0 m 59 ls [])) (fun loop => loop (100 + 1) 0 0 g2_0 _ _ _ (by omega) (by omega) (by omega) G hl) ?_
      intro zm
      induction zm with
      | zero => intro k59 n59_3 g59_0 H locs ls zz q_hk_k59 q_hk_n59_3 _ _; exact absurd zz (by omega)
      | succ zm ih59 =>
        intro k59 n59_3 g59_0 H locs ls zm_59 hk_k59 hk_n59_3 G hl
        refine lv_iload zx zb dX0_weigh_59 (lv_at hl 0 rfl) ?_
        refine lv_aload_n zx zb dX0_weigh_61 rfl (lv_at hl 2 rfl) ?_
        refine r_get (C := RX0) (T := TX0) (N := 5) (ci := 0) (v := .ref (da 4)) S in_X0_weigh_X0 G 0 rfl rfl 4 (by decide) lk_X0_weigh_24 rfl dX0_weigh_62 ?_
        refine r_alen (v := 100) S G 5 0 rfl rfl rfl dX0_weigh_65 ?_
        refine lv_icmp_ge (tgt := 156) zx zb dX0_weigh_66 (by decide) (fun c_2 => ?_) (fun c_2 => ?_)
        · have fc_2 := j_le (a := 100) (b := k59) (by omega) (by omega) c_2
          refine lv_iload_n zx zb dX0_weigh_156 rfl (lv_at hl 1 rfl) ?_
          exact e_int S zr zlk (vp_nar_int _) G (g59_0) [0, 1, 2, 3, 4, 5] rfl rfl (Or.inr rfl) (trivial) dX0_weigh_157
        · have fc_2 := j_nle (a := 100) (b := k59) (by omega) (by omega) c_2
          refine lv_iload zx zb dX0_weigh_69 (lv_at hl 0 rfl) ?_
          refine lv_bipush (v := 10) zx zb dX0_weigh_71 (by decide) ?_
          refine lv_idiv zx zb dX0_weigh_73 (by decide) ?_
          refine k_it (v := (nI (k59 / 10))) (pk_div (d := 10) (by omega) (by decide) (by decide)) ?_
          refine lv_istore (lv' := [(5, .int (nI (k59 / 10))), (4, .int (nI k59)), (3, .int (nI n59_3)), (0, .ref hd), (1, .int x1), (2, .int x2)]) zx zb dX0_weigh_74 hl (by decide) rfl (fun ls hl => ?_)
          refine lv_iload zx zb dX0_weigh_76 (lv_at hl 1 rfl) ?_
          refine lv_bipush (v := 10) zx zb dX0_weigh_78 (by decide) ?_
          refine lv_irem zx zb dX0_weigh_80 (by decide) ?_
          refine k_it (v := (nI (k59 % 10))) (pk_rem (d := 10) (by omega) (by decide) (by decide)) ?_
          refine lv_istore (lv' := [(6, .int (nI (k59 % 10))), (5, .int (nI (k59 / 10))), (4, .int (nI k59)), (3, .int (nI n59_3)), (0, .ref hd), (1, .int x1), (2, .int x2)]) zx zb dX0_weigh_81 hl (by decide) rfl (fun ls hl => ?_)
          refine lv_aload_n zx zb dX0_weigh_83 rfl (lv_at hl 4 rfl) ?_
          refine r_get (C := RX0) (T := TX0) (N := 5) (ci := 0) (v := .ref (da 0)) S in_X0_weigh_X0 G 0 rfl rfl 0 (by decide) lk_X0_weigh_11 rfl dX0_weigh_84 ?_
          refine lv_iload zx zb dX0_weigh_87 (lv_at hl 1 rfl) ?_
          refine r_iald S G 1 rfl (vp_in_nI (by omega) (by decide)) rfl dX0_weigh_89 ?_
          refine k_itE (fun y_3 => ?_)
          refine lv_iload_n zx zb dX0_weigh_90 rfl (lv_at hl 5 rfl) ?_
          refine lv_aload_n zx zb dX0_weigh_91 rfl (lv_at hl 4 rfl) ?_
          refine r_get (C := RX0) (T := TX0) (N := 5) (ci := 0) (v := .ref (da 1)) S in_X0_weigh_X0 G 0 rfl rfl 1 (by decide) lk_X0_weigh_15 rfl dX0_weigh_92 ?_
          refine lv_iload zx zb dX0_weigh_95 (lv_at hl 0 rfl) ?_
          refine r_iald S G 2 rfl (vp_in_nI (by omega) (by decide)) rfl dX0_weigh_97 ?_
          refine k_itE (fun y_4 => ?_)
          refine o_ri (cells' := 0) (slots' := 0) G rfl rfl (n_S (As := [.int y_3, .int x1, .int y_4]) (rest := []) S G (s_gain l X y_3 x1 y_4 H.size) gX0_weigh_X0_gain rfl rfl rfl hdS_X0_gain ⟨Nat.le_of_ble_eq_true rfl, Nat.le_of_ble_eq_true rfl⟩ [] rfl rfl rfl hl.1 (Nat.le_of_ble_eq_true rfl) dX0_weigh_98 ⟨Nat.le_of_ble_eq_true rfl, Nat.le_of_ble_eq_true rfl⟩) (fun r_5 u_5 H locs hp_5 G => ?_)
          have G : wd X (va_A (duW X hd da gd) sz) (va_A (duW X hd da gd) sz) s (duW X hd da g59_0) H locs := G
          refine lv_aload_n zx zb dX0_weigh_101 rfl (lv_at hl 4 rfl) ?_
          refine r_get (C := RX0) (T := TX0) (N := 5) (ci := 0) (v := .ref (da 2)) S in_X0_weigh_X0 G 0 rfl rfl 2 (by decide) lk_X0_weigh_18 rfl dX0_weigh_102 ?_
          refine lv_iload zx zb dX0_weigh_105 (lv_at hl 0 rfl) ?_
          refine r_iald S G 3 rfl (vp_in_nI (by omega) (by decide)) rfl dX0_weigh_107 ?_
          refine k_itE (fun y_6 => ?_)
          refine k_cutW (PP := fun Wx => ∀ (k_8 : Nat) (g_9 : Nat → Nat → Int32) (H : Heap) (locs : List Loc) (ls : Array Slot), (k_8 ≤ k59 + 1) → wd X (va_A (duW X hd da gd) sz) (va_A (duW X hd da gd) sz) s (duW X hd da g_9) H locs → lv_has ls 7 [(6, .int (nI (k59 % 10))), (5, .int (nI (k59 / 10))), (4, .int (nI k59)), (3, .int (nI k_8)), (0, .ref hd), (1, .int x1), (2, .int x2)] → Wx (F0 m 150 ls []) H locs) ?_ ?_
          · intro join_108
            refine lv_icmp_ne (tgt := 150) zx zb dX0_weigh_108 (by decide) (fun c_7 => ?_) (fun c_7 => ?_)
            · exact join_108 n59_3 g59_0 _ _ _ (by omega) G hl
            · refine lv_aload_n zx zb dX0_weigh_111 rfl (lv_at hl 4 rfl) ?_
              refine r_get (C := RX0) (T := TX0) (N := 5) (ci := 0) (v := .ref (da 1)) S in_X0_weigh_X0 G 0 rfl rfl 1 (by decide) lk_X0_weigh_15 rfl dX0_weigh_112 ?_
              refine lv_iload zx zb dX0_weigh_115 (lv_at hl 0 rfl) ?_
              refine r_iald S G 2 rfl (vp_in_nI (by omega) (by decide)) rfl dX0_weigh_117 ?_
              refine k_itE (fun y_10 => ?_)
              refine lv_iload_n zx zb dX0_weigh_118 rfl (lv_at hl 6 rfl) ?_
              refine lv_aload_n zx zb dX0_weigh_119 rfl (lv_at hl 4 rfl) ?_
              refine r_get (C := RX0) (T := TX0) (N := 5) (ci := 0) (v := .ref (da 0)) S in_X0_weigh_X0 G 0 rfl rfl 0 (by decide) lk_X0_weigh_11 rfl dX0_weigh_120 ?_
              refine lv_iload zx zb dX0_weigh_123 (lv_at hl 1 rfl) ?_
              refine r_iald S G 1 rfl (vp_in_nI (by omega) (by decide)) rfl dX0_weigh_125 ?_
              refine k_itE (fun y_11 => ?_)
              refine o_ri (cells' := 0) (slots' := 0) G rfl rfl (n_S (As := [.int y_10, .int x2, .int y_11]) (rest := []) S G (s_gain l X y_10 x2 y_11 H.size) gX0_weigh_X0_gain rfl rfl rfl hdS_X0_gain ⟨Nat.le_of_ble_eq_true rfl, Nat.le_of_ble_eq_true rfl⟩ [] rfl rfl rfl hl.1 (Nat.le_of_ble_eq_true rfl) dX0_weigh_126 ⟨Nat.le_of_ble_eq_true rfl, Nat.le_of_ble_eq_true rfl⟩) (fun r_12 u_12 H locs hp_12 G => ?_)
              have G : wd X (va_A (duW X hd da gd) sz) (va_A (duW X hd da gd) sz) s (duW X hd da g59_0) H locs := G
              refine lv_aload_n zx zb dX0_weigh_129 rfl (lv_at hl 4 rfl) ?_
              refine r_get (C := RX0) (T := TX0) (N := 5) (ci := 0) (v := .ref (da 3)) S in_X0_weigh_X0 G 0 rfl rfl 3 (by decide) lk_X0_weigh_21 rfl dX0_weigh_130 ?_
              refine lv_iload zx zb dX0_weigh_133 (lv_at hl 1 rfl) ?_
              refine r_iald S G 4 rfl (vp_in_nI (by omega) (by decide)) rfl dX0_weigh_135 ?_
              refine k_itE (fun y_13 => ?_)
              refine lv_icmp_ne (tgt := 150) zx zb dX0_weigh_136 (by decide) (fun c_14 => ?_) (fun c_14 => ?_)
              · exact join_108 n59_3 g59_0 _ _ _ (by omega) G hl
              · refine lv_aload_n zx zb dX0_weigh_139 rfl (lv_at hl 4 rfl) ?_
                refine r_get (C := RX0) (T := TX0) (N := 5) (ci := 0) (v := .ref (da 4)) S in_X0_weigh_X0 G 0 rfl rfl 4 (by decide) lk_X0_weigh_24 rfl dX0_weigh_140 ?_
                refine lv_iload_n zx zb dX0_weigh_143 rfl (lv_at hl 3 rfl) ?_
                refine lv_iload zx zb dX0_weigh_144 (lv_at hl 2 rfl) ?_
                refine r_iast S G 5 rfl (vp_in_nI (by omega) (by decide)) dX0_weigh_146 (fun H locs G => ?_)
                obtain ⟨g_15, G⟩ : ∃ g_15 : Nat → Nat → Int32, wd X (va_A (duW X hd da gd) sz) (va_A (duW X hd da gd) sz) s (duW X hd da g_15) H locs := ⟨upG g59_0 4 _, G⟩
                refine lv_iinc (v := (nI (n59_3 + 1))) (lv' := [(3, .int (nI (n59_3 + 1))), (6, .int (nI (k59 % 10))), (5, .int (nI (k59 / 10))), (4, .int (nI k59)), (0, .ref hd), (1, .int x1), (2, .int x2)]) zx zb dX0_weigh_147 hl (k := 3) rfl (nI_add n59_3 1) (by decide) rfl (fun ls hl => ?_)
                have hl := lv_sub hl (l' := [(6, .int (nI (k59 % 10))), (5, .int (nI (k59 / 10))), (4, .int (nI k59)), (3, .int (nI (n59_3 + 1))), (0, .ref hd), (1, .int x1), (2, .int x2)]) [1, 2, 3, 0, 4, 5, 6] rfl
                exact join_108 (n59_3 + 1) g_15 _ _ _ (by omega) G hl
          · intro k_8 g_9 H locs ls hk_k_8 G hl
            refine lv_iinc (v := (nI (k59 + 1))) (lv' := [(4, .int (nI (k59 + 1))), (6, .int (nI (k59 % 10))), (5, .int (nI (k59 / 10))), (3, .int (nI k_8)), (0, .ref hd), (1, .int x1), (2, .int x2)]) zx zb dX0_weigh_150 hl (k := 2) rfl (nI_add k59 1) (by decide) rfl (fun ls hl => ?_)
            refine lv_goto (tgt := 59) zx zb dX0_weigh_153 (by decide) ?_
            have hl := lv_sub hl (l' := [(4, .int (nI (k59 + 1))), (3, .int (nI k_8)), (0, .ref hd), (1, .int x1), (2, .int x2)]) [0, 3, 4, 5, 6] rfl
            exact ih59 (k59 + 1) k_8 g_9 _ _ _ (by omega) (by omega) (by omega) G hl
    · have fc_1 := j_nle (a := 10) (b := k2) (by omega) (by omega) c_1
      refine lv_aload_n zx zb dX0_weigh_8 rfl (lv_at hl 1 rfl) ?_
      refine r_get (C := RX0) (T := TX0) (N := 5) (ci := 0) (v := .ref (da 2)) S in_X0_weigh_X0 G 0 rfl rfl 2 (by decide) lk_X0_weigh_18 rfl dX0_weigh_9 ?_
      refine lv_iload_n zx zb dX0_weigh_12 rfl (lv_at hl 0 rfl) ?_
      refine lv_aload_n zx zb dX0_weigh_13 rfl (lv_at hl 1 rfl) ?_
      refine r_get (C := RX0) (T := TX0) (N := 5) (ci := 0) (v := .ref (da 0)) S in_X0_weigh_X0 G 0 rfl rfl 0 (by decide) lk_X0_weigh_11 rfl dX0_weigh_14 ?_
      refine lv_iload_n zx zb dX0_weigh_17 rfl (lv_at hl 2 rfl) ?_
      refine lv_aload_n zx zb dX0_weigh_18 rfl (lv_at hl 1 rfl) ?_
      refine r_get (C := RX0) (T := TX0) (N := 5) (ci := 0) (v := .ref (da 1)) S in_X0_weigh_X0 G 0 rfl rfl 1 (by decide) lk_X0_weigh_15 rfl dX0_weigh_19 ?_
      refine lv_iload_n zx zb dX0_weigh_22 rfl (lv_at hl 0 rfl) ?_
      refine r_iald S G 2 rfl (vp_in_nI (by omega) (by decide)) rfl dX0_weigh_23 ?_
      refine k_itE (fun y_16 => ?_)
      refine o_ri (cells' := 0) (slots' := 0) G rfl rfl (n_S (As := [.ref (da 0), .int x1, .int y_16]) (rest := [.int (nI k2), .ref (da 2)]) S G (s_greatestGain l X (da 0) (g2_0 0) x1 y_16 H.size) gX0_weigh_X0_greatestGain rfl rfl rfl hdS_X0_greatestGain ⟨Nat.le_of_ble_eq_true rfl, Nat.le_of_ble_eq_true rfl⟩ [1] rfl rfl rfl hl.1 (Nat.le_of_ble_eq_true rfl) dX0_weigh_24 ⟨Nat.le_of_ble_eq_true rfl, Nat.le_of_ble_eq_true rfl⟩) (fun r_17 u_17 H locs hp_17 G => ?_)
      have G : wd X (va_A (duW X hd da gd) sz) (va_A (duW X hd da gd) sz) s (duW X hd da g2_0) H locs := G
      refine r_iast S G 3 rfl (vp_in_nI (by omega) (by decide)) dX0_weigh_27 (fun H locs G => ?_)
      obtain ⟨g_18, G⟩ : ∃ g_18 : Nat → Nat → Int32, wd X (va_A (duW X hd da gd) sz) (va_A (duW X hd da gd) sz) s (duW X hd da g_18) H locs := ⟨upG g2_0 2 _, G⟩
      refine lv_aload_n zx zb dX0_weigh_28 rfl (lv_at hl 1 rfl) ?_
      refine r_get (C := RX0) (T := TX0) (N := 5) (ci := 0) (v := .ref (da 3)) S in_X0_weigh_X0 G 0 rfl rfl 3 (by decide) lk_X0_weigh_21 rfl dX0_weigh_29 ?_
      refine lv_iload_n zx zb dX0_weigh_32 rfl (lv_at hl 0 rfl) ?_
      refine lv_aload_n zx zb dX0_weigh_33 rfl (lv_at hl 1 rfl) ?_
      refine r_get (C := RX0) (T := TX0) (N := 5) (ci := 0) (v := .ref (da 1)) S in_X0_weigh_X0 G 0 rfl rfl 1 (by decide) lk_X0_weigh_15 rfl dX0_weigh_34 ?_
      refine lv_iload_n zx zb dX0_weigh_37 rfl (lv_at hl 3 rfl) ?_
      refine lv_aload_n zx zb dX0_weigh_38 rfl (lv_at hl 1 rfl) ?_
      refine r_get (C := RX0) (T := TX0) (N := 5) (ci := 0) (v := .ref (da 0)) S in_X0_weigh_X0 G 0 rfl rfl 0 (by decide) lk_X0_weigh_11 rfl dX0_weigh_39 ?_
      refine lv_iload_n zx zb dX0_weigh_42 rfl (lv_at hl 0 rfl) ?_
      refine r_iald S G 1 rfl (vp_in_nI (by omega) (by decide)) rfl dX0_weigh_43 ?_
      refine k_itE (fun y_19 => ?_)
      refine o_ri (cells' := 0) (slots' := 0) G rfl rfl (n_S (As := [.ref (da 1), .int x2, .int y_19]) (rest := [.int (nI k2), .ref (da 3)]) S G (s_greatestGain l X (da 1) (g_18 1) x2 y_19 H.size) gX0_weigh_X0_greatestGain rfl rfl rfl hdS_X0_greatestGain ⟨Nat.le_of_ble_eq_true rfl, Nat.le_of_ble_eq_true rfl⟩ [2] rfl rfl rfl hl.1 (Nat.le_of_ble_eq_true rfl) dX0_weigh_44 ⟨Nat.le_of_ble_eq_true rfl, Nat.le_of_ble_eq_true rfl⟩) (fun r_20 u_20 H locs hp_20 G => ?_)
      have G : wd X (va_A (duW X hd da gd) sz) (va_A (duW X hd da gd) sz) s (duW X hd da g_18) H locs := G
      refine r_iast S G 4 rfl (vp_in_nI (by omega) (by decide)) dX0_weigh_47 (fun H locs G => ?_)
      obtain ⟨g_21, G⟩ : ∃ g_21 : Nat → Nat → Int32, wd X (va_A (duW X hd da gd) sz) (va_A (duW X hd da gd) sz) s (duW X hd da g_21) H locs := ⟨upG g_18 3 _, G⟩
      refine lv_iinc (v := (nI (k2 + 1))) (lv' := [(3, .int (nI (k2 + 1))), (0, .ref hd), (1, .int x1), (2, .int x2)]) zx zb dX0_weigh_48 hl (k := 0) rfl (nI_add k2 1) (by decide) rfl (fun ls hl => ?_)
      refine lv_goto (tgt := 2) zx zb dX0_weigh_51 (by decide) ?_
      exact ih2 (k2 + 1) g_21 _ _ _ (by omega) (by omega) G hl
theorem in_X0_restingPair_X0 : ∀ w ∈ wsX00, w ∈ wsX0_restingPair := by decide +kernel
theorem lk_X0_restingPair_24 : Cond.fieldLink RX0 24 "EggSpoons$Duel" "resting" "[I" ∈ wsX0_restingPair := by decide +kernel
set_option maxHeartbeats 4000000 in
set_option maxRecDepth 100000 in
/-- restingPair -/
theorem s_restingPair (l : Launch) (X : EX) (hd : Nat) (da : Nat → Nat) (gd : Nat → Nat → Int32) (x1 : Int32) (sz : Nat) : Met l yX0_restingPair wsX0_restingPair ({ frames := 0, cells := 0, slots := 0, locals := 0 } : Room) (pE X [.ref hd, .int x1] (duW X hd da gd) sz) (qI (fun (r : Int32) (u : Unit) => True) X (fun (u : Unit) => []) [] sz) 0 0 (va_A [] sz) := by
  refine mk_met (B := (fun _ => True)) (A := (va_A [] sz)) (cc := cX0_restingPair) (maxL := 2) (ret := (some .int)) (by decide) rfl (Nat.le_of_ble_eq_true rfl) k_ro k_a (fun p e s m below meth c S zr zlk znm zsz G ls hl => ?_)
  have S : CallFix p m c cX0_restingPair 2 s _ wsX0_restingPair RX0 := S
  have zx := S.1
  have zb := S.2.1
  have hl : lv_has ls 2 [(0, .ref hd), (1, .int x1)] := hl
  refine lv_iload_n zx zb dX0_restingPair_0 rfl (lv_at hl 1 rfl) ?_
  refine k_cutW (PP := fun Wx => ∀ (x_2 : Int32) (H : Heap) (locs : List Loc) (ls : Array Slot), wd X (fun _ => True) (va_A [] sz) s (duW X hd da gd) H locs → lv_has ls 2 [(0, .ref hd), (1, .int x1)] → Wx (F0 m 23 ls [.int x_2]) H locs) ?_ ?_
  · intro join_1
    refine lv_if_lt (tgt := 22) zx zb dX0_restingPair_1 (by decide) (fun c_1 => ?_) (fun c_1 => ?_)
    · refine lv_iconst (v := (-1)) zx zb dX0_restingPair_22 (by decide) ?_
      exact join_1 (-1) _ _ _  G hl
    · refine lv_iload_n zx zb dX0_restingPair_4 rfl (lv_at hl 1 rfl) ?_
      refine lv_aload_n zx zb dX0_restingPair_5 rfl (lv_at hl 0 rfl) ?_
      refine r_get (C := RX0) (T := TX0) (N := 5) (ci := 0) (v := .ref (da 4)) S in_X0_restingPair_X0 G 0 rfl rfl 4 (by decide) lk_X0_restingPair_24 rfl dX0_restingPair_6 ?_
      refine r_alen (v := 100) S G 5 0 rfl rfl rfl dX0_restingPair_9 ?_
      refine lv_icmp_ge (tgt := 22) zx zb dX0_restingPair_10 (by decide) (fun c_3 => ?_) (fun c_3 => ?_)
      · refine lv_iconst (v := (-1)) zx zb dX0_restingPair_22 (by decide) ?_
        exact join_1 (-1) _ _ _  G hl
      · refine lv_aload_n zx zb dX0_restingPair_13 rfl (lv_at hl 0 rfl) ?_
        refine r_get (C := RX0) (T := TX0) (N := 5) (ci := 0) (v := .ref (da 4)) S in_X0_restingPair_X0 G 0 rfl rfl 4 (by decide) lk_X0_restingPair_24 rfl dX0_restingPair_14 ?_
        refine lv_iload_n zx zb dX0_restingPair_17 rfl (lv_at hl 1 rfl) ?_
        refine r_iald S G 5 rfl (k_in (by decide) c_1 c_3) rfl dX0_restingPair_18 ?_
        refine k_itE (fun y_4 => ?_)
        refine lv_goto (tgt := 23) zx zb dX0_restingPair_19 (by decide) ?_
        exact join_1 y_4 _ _ _  G hl
  · intro x_2 H locs ls  G hl
    exact e_int S zr zlk (vp_nar_int _) G () [] rfl rfl (Or.inl rfl) (trivial) dX0_restingPair_23
theorem in_X10_placeBehindFive_X10 : ∀ w ∈ wsX100, w ∈ wsX10_placeBehindFive := by decide +kernel
theorem lk_X10_placeBehindFive_48 : Cond.fieldLink RX10 48 "EggSpoons" "ghost" "LEggSpoons$Runner;" ∈ wsX10_placeBehindFive := by decide +kernel
theorem lk_X10_placeBehindFive_10 : Cond.fieldLink RX10 10 "EggSpoons" "now" "LEggSpoons$Race;" ∈ wsX10_placeBehindFive := by decide +kernel
theorem in_X10_placeBehindFive_X5 : ∀ w ∈ wsX50, w ∈ wsX10_placeBehindFive := by decide +kernel
theorem lk_X10_placeBehindFive_126 : Cond.fieldLink RX10 126 "EggSpoons$Race" "row" "[LEggSpoons$Runner;" ∈ wsX10_placeBehindFive := by decide +kernel
theorem in_X10_placeBehindFive_X8 : ∀ w ∈ wsX80, w ∈ wsX10_placeBehindFive := by decide +kernel
theorem lk_X10_placeBehindFive_130 : Cond.fieldLink RX10 130 "EggSpoons$Runner" "speed" "I" ∈ wsX10_placeBehindFive := by decide +kernel
theorem lk_X10_placeBehindFive_110 : Cond.fieldLink RX10 110 "EggSpoons$Race" "tick" "I" ∈ wsX10_placeBehindFive := by decide +kernel
theorem lk_X10_placeBehindFive_140 : Cond.fieldLink RX10 140 "EggSpoons$Race" "length" "I" ∈ wsX10_placeBehindFive := by decide +kernel
set_option maxHeartbeats 4000000 in
set_option maxRecDepth 100000 in
/-- placeBehindFive -/
theorem s_five (l : Launch) (X : EX) (h0 : Nat) (nw : Nat) (sp : Nat) (xa : Nat → Nat) (la : Int64) (lb : Int64) (an : Nat → Nat) (v : Nat → Int32) (b : Nat → Nat) (g : Nat → Nat → Int32) (vg : Nat → Int32) (i : Nat) (x2 : Int32) (hI_b : InR b) (hi6 : i < 6) (sz : Nat) : Met l yX10_placeBehindFive wsX10_placeBehindFive ({ frames := 3, cells := 0, slots := 0, locals := 73 } : Room) (pE X [.ref h0, .int (nI i), .int x2] (@HAppend.hAppend va_W va_W va_W _ (xW h0 nw sp xa la lb) (@HAppend.hAppend va_W va_W va_W _ (rcW X nw an v b g) (rnW (xa 8) vg))) sz) (qI (fun (r : Int32) (u : (Nat → Int32)) => (True)) X (fun (u : (Nat → Int32)) => @HAppend.hAppend va_W va_W va_W _ (xW h0 nw sp xa la lb) (@HAppend.hAppend va_W va_W va_W _ (rcW X nw an v b g) (rnW (xa 8) u))) (@HAppend.hAppend va_W va_W va_W _ (xW h0 nw sp xa la lb) (@HAppend.hAppend va_W va_W va_W _ (rcW X nw an v b g) (rnW (xa 8) vg))) sz) 0 0 (va_A (@HAppend.hAppend va_W va_W va_W _ (xW h0 nw sp xa la lb) (@HAppend.hAppend va_W va_W va_W _ (rcW X nw an v b g) (rnW (xa 8) vg))) sz) := by
  refine mk_met (B := (va_A (@HAppend.hAppend va_W va_W va_W _ (xW h0 nw sp xa la lb) (@HAppend.hAppend va_W va_W va_W _ (rcW X nw an v b g) (rnW (xa 8) vg))) sz)) (A := (va_A (@HAppend.hAppend va_W va_W va_W _ (xW h0 nw sp xa la lb) (@HAppend.hAppend va_W va_W va_W _ (rcW X nw an v b g) (rnW (xa 8) vg))) sz)) (cc := cX10_placeBehindFive) (maxL := 3) (ret := (some .int)) (by decide) rfl (Nat.le_of_ble_eq_true rfl) k_w k_a (fun p e s m below meth c S zr zlk znm zsz G ls hl => ?_)
  have S : CallFix p m c cX10_placeBehindFive 3 s _ wsX10_placeBehindFive RX10 := S
  have zx := S.1
  have zb := S.2.1
  have hl : lv_has ls 3 [(0, .ref h0), (1, .int (nI i)), (2, .int x2)] := hl
  have hO_b := hI_b
  obtain ⟨hb0_b, hb1_b, hb2_b, hb3_b, hb4_b⟩ := hO_b
  refine lv_aload_n zx zb dX10_placeBehindFive_0 rfl (lv_at hl 0 rfl) ?_
  refine r_get (C := RX10) (T := TX10) (N := 14) (ci := 8) (v := .ref (xa 8)) S in_X10_placeBehindFive_X10 G 0 rfl rfl 8 (by decide) lk_X10_placeBehindFive_48 rfl dX10_placeBehindFive_1 ?_
  refine lv_aload_n zx zb dX10_placeBehindFive_4 rfl (lv_at hl 0 rfl) ?_
  refine r_get (C := RX10) (T := TX10) (N := 14) (ci := 8) (v := .ref nw) S in_X10_placeBehindFive_X10 G 0 rfl rfl 0 (by decide) lk_X10_placeBehindFive_10 rfl dX10_placeBehindFive_5 ?_
  refine r_get (C := RX5) (T := TX5) (N := 8) (ci := 3) (v := .ref (an 0)) S in_X10_placeBehindFive_X5 G 1 rfl rfl 3 (by decide) lk_X10_placeBehindFive_126 rfl dX10_placeBehindFive_8 ?_
  refine lv_iload_n zx zb dX10_placeBehindFive_11 rfl (lv_at hl 1 rfl) ?_
  refine k_cutW (PP := fun Wx => ∀ (v_1 : Nat → Int32) (H : Heap) (locs : List Loc) (ls : Array Slot), wd X (va_A (@HAppend.hAppend va_W va_W va_W _ (xW h0 nw sp xa la lb) (@HAppend.hAppend va_W va_W va_W _ (rcW X nw an v b g) (rnW (xa 8) vg))) sz) (va_A (@HAppend.hAppend va_W va_W va_W _ (xW h0 nw sp xa la lb) (@HAppend.hAppend va_W va_W va_W _ (rcW X nw an v b g) (rnW (xa 8) vg))) sz) s (@HAppend.hAppend va_W va_W va_W _ (xW h0 nw sp xa la lb) (@HAppend.hAppend va_W va_W va_W _ (rcW X nw an v b g) (rnW (xa 8) v_1))) H locs → lv_has ls 3 [(0, .ref h0), (1, .int (nI i)), (2, .int x2)] → Wx (F0 m 16 ls []) H locs) ?_ ?_
  · intro join_12
    rcases k_6c (show i < 6 by omega) with q_2 | q_2 | q_2 | q_2 | q_2 | q_2
    · refine k_it (v := 0) (by rw [q_2]; rfl) ?_
      refine r_aald (C := RX8) (b := (an 1)) S G 2 3 rfl rfl (k_vp (by decide)) rfl dX10_placeBehindFive_12 ?_
      refine b_wv (cells' := 0) (slots' := 0) (wr := @HAppend.hAppend va_W va_W va_W _ (xW h0 nw sp xa la lb) ([(nw, .inr (3, [.int (v 0), .int (v 1), .int (nI (b 0)), .ref (an 0), .ref (an 7), .ref (an 9), .ref (an 11), .ref (an 13)])), ((an 0), .inl (X.2.2.2.2, 6, .inr (.inr (.inr (.inr (rowQ an)))))), ((an 2), .inr (6, [.int (v 18), .int (v 19), .int (v 20), .int (v 21), .int (v 22), .int (v 23), .int (v 24), .int (v 25)])), ((an 3), .inr (6, [.int (v 26), .int (v 27), .int (v 28), .int (v 29), .int (v 30), .int (v 31), .int (v 32), .int (v 33)])), ((an 4), .inr (6, [.int (v 34), .int (v 35), .int (v 36), .int (v 37), .int (v 38), .int (v 39), .int (v 40), .int (v 41)])), ((an 5), .inr (6, [.int (v 42), .int (v 43), .int (v 44), .int (v 45), .int (v 46), .int (v 47), .int (v 48), .int (v 49)])), ((an 6), .inr (6, [.int (v 50), .int (v 51), .int (v 52), .int (v 53), .int (v 54), .int (v 55), .int (v 56), .int (v 57)])), ((an 7), .inr (2, [.ref (an 8), .int (nI (b 1))])), ((an 8), .inl (X.2.1, 248, .inl (g 0))), ((an 9), .inr (5, [.int 5, .int 0, .int 1, .ref (an 10), .int (nI (b 2))])), ((an 10), .inl (X.2.1, 25, .inl (g 1))), ((an 11), .inr (5, [.int 6, .int 1, .int 1, .ref (an 12), .int (nI (b 3))])), ((an 12), .inl (X.2.1, 30, .inl (g 2))), ((an 13), .inr (5, [.int 6, .int 0, .int 0, .ref (an 14), .int (nI (b 4))])), ((an 14), .inl (X.2.1, 30, .inl (g 3)))])) G rfl rfl [17, 3] [0, 1, 2, 4, 5, 6, 7, 8, 9, 10, 11, 12, 13, 14, 15, 16] rfl rfl rfl rfl (n_V (As := [.ref (an 1)]) (rest := []) (C := RX8) (T := TX8) (N := 8) (ci := 6) S G (s_rcopy l X (xa 8) vg (an 1) (fun k => v (10 + k)) s.heap.size) gX10_placeBehindFive_X8_copyFrom rfl rfl rfl hdV_X8_copyFrom ⟨Nat.le_of_ble_eq_true rfl, Nat.le_of_ble_eq_true rfl⟩ [17, 3] rfl rfl 17 rfl rfl rfl hl.1 (Nat.le_of_ble_eq_true rfl) dX10_placeBehindFive_13 ⟨Nat.le_of_ble_eq_true rfl, Nat.le_of_ble_eq_true rfl⟩) (fun u_3 H locs hp_3 G => ?_)
      obtain ⟨v_3, rfl⟩ : ∃ z, z = u_3 := ⟨_, rfl⟩
      have hq_3 := hp_3
      have G : wd X (va_A (@HAppend.hAppend va_W va_W va_W _ (xW h0 nw sp xa la lb) (@HAppend.hAppend va_W va_W va_W _ (rcW X nw an v b g) (rnW (xa 8) vg))) sz) (va_A (@HAppend.hAppend va_W va_W va_W _ (xW h0 nw sp xa la lb) (@HAppend.hAppend va_W va_W va_W _ (rcW X nw an v b g) (rnW (xa 8) vg))) sz) s (@HAppend.hAppend va_W va_W va_W _ (xW h0 nw sp xa la lb) (@HAppend.hAppend va_W va_W va_W _ (rcW X nw an v b g) (rnW (xa 8) v_3))) H locs := wd_sub G [0, 1, 2, 17, 3, 4, 5, 6, 7, 8, 9, 10, 11, 12, 13, 14, 15, 16] rfl rfl
      exact join_12 v_3 _ _ _  G hl
    · refine k_it (v := 1) (by rw [q_2]; rfl) ?_
      refine r_aald (C := RX8) (b := (an 2)) S G 2 3 rfl rfl (k_vp (by decide)) rfl dX10_placeBehindFive_12 ?_
      refine b_wv (cells' := 0) (slots' := 0) (wr := @HAppend.hAppend va_W va_W va_W _ (xW h0 nw sp xa la lb) ([(nw, .inr (3, [.int (v 0), .int (v 1), .int (nI (b 0)), .ref (an 0), .ref (an 7), .ref (an 9), .ref (an 11), .ref (an 13)])), ((an 0), .inl (X.2.2.2.2, 6, .inr (.inr (.inr (.inr (rowQ an)))))), ((an 1), .inr (6, [.int (v 10), .int (v 11), .int (v 12), .int (v 13), .int (v 14), .int (v 15), .int (v 16), .int (v 17)])), ((an 3), .inr (6, [.int (v 26), .int (v 27), .int (v 28), .int (v 29), .int (v 30), .int (v 31), .int (v 32), .int (v 33)])), ((an 4), .inr (6, [.int (v 34), .int (v 35), .int (v 36), .int (v 37), .int (v 38), .int (v 39), .int (v 40), .int (v 41)])), ((an 5), .inr (6, [.int (v 42), .int (v 43), .int (v 44), .int (v 45), .int (v 46), .int (v 47), .int (v 48), .int (v 49)])), ((an 6), .inr (6, [.int (v 50), .int (v 51), .int (v 52), .int (v 53), .int (v 54), .int (v 55), .int (v 56), .int (v 57)])), ((an 7), .inr (2, [.ref (an 8), .int (nI (b 1))])), ((an 8), .inl (X.2.1, 248, .inl (g 0))), ((an 9), .inr (5, [.int 5, .int 0, .int 1, .ref (an 10), .int (nI (b 2))])), ((an 10), .inl (X.2.1, 25, .inl (g 1))), ((an 11), .inr (5, [.int 6, .int 1, .int 1, .ref (an 12), .int (nI (b 3))])), ((an 12), .inl (X.2.1, 30, .inl (g 2))), ((an 13), .inr (5, [.int 6, .int 0, .int 0, .ref (an 14), .int (nI (b 4))])), ((an 14), .inl (X.2.1, 30, .inl (g 3)))])) G rfl rfl [17, 4] [0, 1, 2, 3, 5, 6, 7, 8, 9, 10, 11, 12, 13, 14, 15, 16] rfl rfl rfl rfl (n_V (As := [.ref (an 2)]) (rest := []) (C := RX8) (T := TX8) (N := 8) (ci := 6) S G (s_rcopy l X (xa 8) vg (an 2) (fun k => v (18 + k)) s.heap.size) gX10_placeBehindFive_X8_copyFrom rfl rfl rfl hdV_X8_copyFrom ⟨Nat.le_of_ble_eq_true rfl, Nat.le_of_ble_eq_true rfl⟩ [17, 4] rfl rfl 17 rfl rfl rfl hl.1 (Nat.le_of_ble_eq_true rfl) dX10_placeBehindFive_13 ⟨Nat.le_of_ble_eq_true rfl, Nat.le_of_ble_eq_true rfl⟩) (fun u_4 H locs hp_4 G => ?_)
      obtain ⟨v_4, rfl⟩ : ∃ z, z = u_4 := ⟨_, rfl⟩
      have hq_4 := hp_4
      have G : wd X (va_A (@HAppend.hAppend va_W va_W va_W _ (xW h0 nw sp xa la lb) (@HAppend.hAppend va_W va_W va_W _ (rcW X nw an v b g) (rnW (xa 8) vg))) sz) (va_A (@HAppend.hAppend va_W va_W va_W _ (xW h0 nw sp xa la lb) (@HAppend.hAppend va_W va_W va_W _ (rcW X nw an v b g) (rnW (xa 8) vg))) sz) s (@HAppend.hAppend va_W va_W va_W _ (xW h0 nw sp xa la lb) (@HAppend.hAppend va_W va_W va_W _ (rcW X nw an v b g) (rnW (xa 8) v_4))) H locs := wd_sub G [0, 1, 2, 3, 17, 4, 5, 6, 7, 8, 9, 10, 11, 12, 13, 14, 15, 16] rfl rfl
      exact join_12 v_4 _ _ _  G hl
    · refine k_it (v := 2) (by rw [q_2]; rfl) ?_
      refine r_aald (C := RX8) (b := (an 3)) S G 2 3 rfl rfl (k_vp (by decide)) rfl dX10_placeBehindFive_12 ?_
      refine b_wv (cells' := 0) (slots' := 0) (wr := @HAppend.hAppend va_W va_W va_W _ (xW h0 nw sp xa la lb) ([(nw, .inr (3, [.int (v 0), .int (v 1), .int (nI (b 0)), .ref (an 0), .ref (an 7), .ref (an 9), .ref (an 11), .ref (an 13)])), ((an 0), .inl (X.2.2.2.2, 6, .inr (.inr (.inr (.inr (rowQ an)))))), ((an 1), .inr (6, [.int (v 10), .int (v 11), .int (v 12), .int (v 13), .int (v 14), .int (v 15), .int (v 16), .int (v 17)])), ((an 2), .inr (6, [.int (v 18), .int (v 19), .int (v 20), .int (v 21), .int (v 22), .int (v 23), .int (v 24), .int (v 25)])), ((an 4), .inr (6, [.int (v 34), .int (v 35), .int (v 36), .int (v 37), .int (v 38), .int (v 39), .int (v 40), .int (v 41)])), ((an 5), .inr (6, [.int (v 42), .int (v 43), .int (v 44), .int (v 45), .int (v 46), .int (v 47), .int (v 48), .int (v 49)])), ((an 6), .inr (6, [.int (v 50), .int (v 51), .int (v 52), .int (v 53), .int (v 54), .int (v 55), .int (v 56), .int (v 57)])), ((an 7), .inr (2, [.ref (an 8), .int (nI (b 1))])), ((an 8), .inl (X.2.1, 248, .inl (g 0))), ((an 9), .inr (5, [.int 5, .int 0, .int 1, .ref (an 10), .int (nI (b 2))])), ((an 10), .inl (X.2.1, 25, .inl (g 1))), ((an 11), .inr (5, [.int 6, .int 1, .int 1, .ref (an 12), .int (nI (b 3))])), ((an 12), .inl (X.2.1, 30, .inl (g 2))), ((an 13), .inr (5, [.int 6, .int 0, .int 0, .ref (an 14), .int (nI (b 4))])), ((an 14), .inl (X.2.1, 30, .inl (g 3)))])) G rfl rfl [17, 5] [0, 1, 2, 3, 4, 6, 7, 8, 9, 10, 11, 12, 13, 14, 15, 16] rfl rfl rfl rfl (n_V (As := [.ref (an 3)]) (rest := []) (C := RX8) (T := TX8) (N := 8) (ci := 6) S G (s_rcopy l X (xa 8) vg (an 3) (fun k => v (26 + k)) s.heap.size) gX10_placeBehindFive_X8_copyFrom rfl rfl rfl hdV_X8_copyFrom ⟨Nat.le_of_ble_eq_true rfl, Nat.le_of_ble_eq_true rfl⟩ [17, 5] rfl rfl 17 rfl rfl rfl hl.1 (Nat.le_of_ble_eq_true rfl) dX10_placeBehindFive_13 ⟨Nat.le_of_ble_eq_true rfl, Nat.le_of_ble_eq_true rfl⟩) (fun u_5 H locs hp_5 G => ?_)
      obtain ⟨v_5, rfl⟩ : ∃ z, z = u_5 := ⟨_, rfl⟩
      have hq_5 := hp_5
      have G : wd X (va_A (@HAppend.hAppend va_W va_W va_W _ (xW h0 nw sp xa la lb) (@HAppend.hAppend va_W va_W va_W _ (rcW X nw an v b g) (rnW (xa 8) vg))) sz) (va_A (@HAppend.hAppend va_W va_W va_W _ (xW h0 nw sp xa la lb) (@HAppend.hAppend va_W va_W va_W _ (rcW X nw an v b g) (rnW (xa 8) vg))) sz) s (@HAppend.hAppend va_W va_W va_W _ (xW h0 nw sp xa la lb) (@HAppend.hAppend va_W va_W va_W _ (rcW X nw an v b g) (rnW (xa 8) v_5))) H locs := wd_sub G [0, 1, 2, 3, 4, 17, 5, 6, 7, 8, 9, 10, 11, 12, 13, 14, 15, 16] rfl rfl
      exact join_12 v_5 _ _ _  G hl
    · refine k_it (v := 3) (by rw [q_2]; rfl) ?_
      refine r_aald (C := RX8) (b := (an 4)) S G 2 3 rfl rfl (k_vp (by decide)) rfl dX10_placeBehindFive_12 ?_
      refine b_wv (cells' := 0) (slots' := 0) (wr := @HAppend.hAppend va_W va_W va_W _ (xW h0 nw sp xa la lb) ([(nw, .inr (3, [.int (v 0), .int (v 1), .int (nI (b 0)), .ref (an 0), .ref (an 7), .ref (an 9), .ref (an 11), .ref (an 13)])), ((an 0), .inl (X.2.2.2.2, 6, .inr (.inr (.inr (.inr (rowQ an)))))), ((an 1), .inr (6, [.int (v 10), .int (v 11), .int (v 12), .int (v 13), .int (v 14), .int (v 15), .int (v 16), .int (v 17)])), ((an 2), .inr (6, [.int (v 18), .int (v 19), .int (v 20), .int (v 21), .int (v 22), .int (v 23), .int (v 24), .int (v 25)])), ((an 3), .inr (6, [.int (v 26), .int (v 27), .int (v 28), .int (v 29), .int (v 30), .int (v 31), .int (v 32), .int (v 33)])), ((an 5), .inr (6, [.int (v 42), .int (v 43), .int (v 44), .int (v 45), .int (v 46), .int (v 47), .int (v 48), .int (v 49)])), ((an 6), .inr (6, [.int (v 50), .int (v 51), .int (v 52), .int (v 53), .int (v 54), .int (v 55), .int (v 56), .int (v 57)])), ((an 7), .inr (2, [.ref (an 8), .int (nI (b 1))])), ((an 8), .inl (X.2.1, 248, .inl (g 0))), ((an 9), .inr (5, [.int 5, .int 0, .int 1, .ref (an 10), .int (nI (b 2))])), ((an 10), .inl (X.2.1, 25, .inl (g 1))), ((an 11), .inr (5, [.int 6, .int 1, .int 1, .ref (an 12), .int (nI (b 3))])), ((an 12), .inl (X.2.1, 30, .inl (g 2))), ((an 13), .inr (5, [.int 6, .int 0, .int 0, .ref (an 14), .int (nI (b 4))])), ((an 14), .inl (X.2.1, 30, .inl (g 3)))])) G rfl rfl [17, 6] [0, 1, 2, 3, 4, 5, 7, 8, 9, 10, 11, 12, 13, 14, 15, 16] rfl rfl rfl rfl (n_V (As := [.ref (an 4)]) (rest := []) (C := RX8) (T := TX8) (N := 8) (ci := 6) S G (s_rcopy l X (xa 8) vg (an 4) (fun k => v (34 + k)) s.heap.size) gX10_placeBehindFive_X8_copyFrom rfl rfl rfl hdV_X8_copyFrom ⟨Nat.le_of_ble_eq_true rfl, Nat.le_of_ble_eq_true rfl⟩ [17, 6] rfl rfl 17 rfl rfl rfl hl.1 (Nat.le_of_ble_eq_true rfl) dX10_placeBehindFive_13 ⟨Nat.le_of_ble_eq_true rfl, Nat.le_of_ble_eq_true rfl⟩) (fun u_6 H locs hp_6 G => ?_)
      obtain ⟨v_6, rfl⟩ : ∃ z, z = u_6 := ⟨_, rfl⟩
      have hq_6 := hp_6
      have G : wd X (va_A (@HAppend.hAppend va_W va_W va_W _ (xW h0 nw sp xa la lb) (@HAppend.hAppend va_W va_W va_W _ (rcW X nw an v b g) (rnW (xa 8) vg))) sz) (va_A (@HAppend.hAppend va_W va_W va_W _ (xW h0 nw sp xa la lb) (@HAppend.hAppend va_W va_W va_W _ (rcW X nw an v b g) (rnW (xa 8) vg))) sz) s (@HAppend.hAppend va_W va_W va_W _ (xW h0 nw sp xa la lb) (@HAppend.hAppend va_W va_W va_W _ (rcW X nw an v b g) (rnW (xa 8) v_6))) H locs := wd_sub G [0, 1, 2, 3, 4, 5, 17, 6, 7, 8, 9, 10, 11, 12, 13, 14, 15, 16] rfl rfl
      exact join_12 v_6 _ _ _  G hl
    · refine k_it (v := 4) (by rw [q_2]; rfl) ?_
      refine r_aald (C := RX8) (b := (an 5)) S G 2 3 rfl rfl (k_vp (by decide)) rfl dX10_placeBehindFive_12 ?_
      refine b_wv (cells' := 0) (slots' := 0) (wr := @HAppend.hAppend va_W va_W va_W _ (xW h0 nw sp xa la lb) ([(nw, .inr (3, [.int (v 0), .int (v 1), .int (nI (b 0)), .ref (an 0), .ref (an 7), .ref (an 9), .ref (an 11), .ref (an 13)])), ((an 0), .inl (X.2.2.2.2, 6, .inr (.inr (.inr (.inr (rowQ an)))))), ((an 1), .inr (6, [.int (v 10), .int (v 11), .int (v 12), .int (v 13), .int (v 14), .int (v 15), .int (v 16), .int (v 17)])), ((an 2), .inr (6, [.int (v 18), .int (v 19), .int (v 20), .int (v 21), .int (v 22), .int (v 23), .int (v 24), .int (v 25)])), ((an 3), .inr (6, [.int (v 26), .int (v 27), .int (v 28), .int (v 29), .int (v 30), .int (v 31), .int (v 32), .int (v 33)])), ((an 4), .inr (6, [.int (v 34), .int (v 35), .int (v 36), .int (v 37), .int (v 38), .int (v 39), .int (v 40), .int (v 41)])), ((an 6), .inr (6, [.int (v 50), .int (v 51), .int (v 52), .int (v 53), .int (v 54), .int (v 55), .int (v 56), .int (v 57)])), ((an 7), .inr (2, [.ref (an 8), .int (nI (b 1))])), ((an 8), .inl (X.2.1, 248, .inl (g 0))), ((an 9), .inr (5, [.int 5, .int 0, .int 1, .ref (an 10), .int (nI (b 2))])), ((an 10), .inl (X.2.1, 25, .inl (g 1))), ((an 11), .inr (5, [.int 6, .int 1, .int 1, .ref (an 12), .int (nI (b 3))])), ((an 12), .inl (X.2.1, 30, .inl (g 2))), ((an 13), .inr (5, [.int 6, .int 0, .int 0, .ref (an 14), .int (nI (b 4))])), ((an 14), .inl (X.2.1, 30, .inl (g 3)))])) G rfl rfl [17, 7] [0, 1, 2, 3, 4, 5, 6, 8, 9, 10, 11, 12, 13, 14, 15, 16] rfl rfl rfl rfl (n_V (As := [.ref (an 5)]) (rest := []) (C := RX8) (T := TX8) (N := 8) (ci := 6) S G (s_rcopy l X (xa 8) vg (an 5) (fun k => v (42 + k)) s.heap.size) gX10_placeBehindFive_X8_copyFrom rfl rfl rfl hdV_X8_copyFrom ⟨Nat.le_of_ble_eq_true rfl, Nat.le_of_ble_eq_true rfl⟩ [17, 7] rfl rfl 17 rfl rfl rfl hl.1 (Nat.le_of_ble_eq_true rfl) dX10_placeBehindFive_13 ⟨Nat.le_of_ble_eq_true rfl, Nat.le_of_ble_eq_true rfl⟩) (fun u_7 H locs hp_7 G => ?_)
      obtain ⟨v_7, rfl⟩ : ∃ z, z = u_7 := ⟨_, rfl⟩
      have hq_7 := hp_7
      have G : wd X (va_A (@HAppend.hAppend va_W va_W va_W _ (xW h0 nw sp xa la lb) (@HAppend.hAppend va_W va_W va_W _ (rcW X nw an v b g) (rnW (xa 8) vg))) sz) (va_A (@HAppend.hAppend va_W va_W va_W _ (xW h0 nw sp xa la lb) (@HAppend.hAppend va_W va_W va_W _ (rcW X nw an v b g) (rnW (xa 8) vg))) sz) s (@HAppend.hAppend va_W va_W va_W _ (xW h0 nw sp xa la lb) (@HAppend.hAppend va_W va_W va_W _ (rcW X nw an v b g) (rnW (xa 8) v_7))) H locs := wd_sub G [0, 1, 2, 3, 4, 5, 6, 17, 7, 8, 9, 10, 11, 12, 13, 14, 15, 16] rfl rfl
      exact join_12 v_7 _ _ _  G hl
    · refine k_it (v := 5) (by rw [q_2]; rfl) ?_
      refine r_aald (C := RX8) (b := (an 6)) S G 2 3 rfl rfl (k_vp (by decide)) rfl dX10_placeBehindFive_12 ?_
      refine b_wv (cells' := 0) (slots' := 0) (wr := @HAppend.hAppend va_W va_W va_W _ (xW h0 nw sp xa la lb) ([(nw, .inr (3, [.int (v 0), .int (v 1), .int (nI (b 0)), .ref (an 0), .ref (an 7), .ref (an 9), .ref (an 11), .ref (an 13)])), ((an 0), .inl (X.2.2.2.2, 6, .inr (.inr (.inr (.inr (rowQ an)))))), ((an 1), .inr (6, [.int (v 10), .int (v 11), .int (v 12), .int (v 13), .int (v 14), .int (v 15), .int (v 16), .int (v 17)])), ((an 2), .inr (6, [.int (v 18), .int (v 19), .int (v 20), .int (v 21), .int (v 22), .int (v 23), .int (v 24), .int (v 25)])), ((an 3), .inr (6, [.int (v 26), .int (v 27), .int (v 28), .int (v 29), .int (v 30), .int (v 31), .int (v 32), .int (v 33)])), ((an 4), .inr (6, [.int (v 34), .int (v 35), .int (v 36), .int (v 37), .int (v 38), .int (v 39), .int (v 40), .int (v 41)])), ((an 5), .inr (6, [.int (v 42), .int (v 43), .int (v 44), .int (v 45), .int (v 46), .int (v 47), .int (v 48), .int (v 49)])), ((an 7), .inr (2, [.ref (an 8), .int (nI (b 1))])), ((an 8), .inl (X.2.1, 248, .inl (g 0))), ((an 9), .inr (5, [.int 5, .int 0, .int 1, .ref (an 10), .int (nI (b 2))])), ((an 10), .inl (X.2.1, 25, .inl (g 1))), ((an 11), .inr (5, [.int 6, .int 1, .int 1, .ref (an 12), .int (nI (b 3))])), ((an 12), .inl (X.2.1, 30, .inl (g 2))), ((an 13), .inr (5, [.int 6, .int 0, .int 0, .ref (an 14), .int (nI (b 4))])), ((an 14), .inl (X.2.1, 30, .inl (g 3)))])) G rfl rfl [17, 8] [0, 1, 2, 3, 4, 5, 6, 7, 9, 10, 11, 12, 13, 14, 15, 16] rfl rfl rfl rfl (n_V (As := [.ref (an 6)]) (rest := []) (C := RX8) (T := TX8) (N := 8) (ci := 6) S G (s_rcopy l X (xa 8) vg (an 6) (fun k => v (50 + k)) s.heap.size) gX10_placeBehindFive_X8_copyFrom rfl rfl rfl hdV_X8_copyFrom ⟨Nat.le_of_ble_eq_true rfl, Nat.le_of_ble_eq_true rfl⟩ [17, 8] rfl rfl 17 rfl rfl rfl hl.1 (Nat.le_of_ble_eq_true rfl) dX10_placeBehindFive_13 ⟨Nat.le_of_ble_eq_true rfl, Nat.le_of_ble_eq_true rfl⟩) (fun u_8 H locs hp_8 G => ?_)
      obtain ⟨v_8, rfl⟩ : ∃ z, z = u_8 := ⟨_, rfl⟩
      have hq_8 := hp_8
      have G : wd X (va_A (@HAppend.hAppend va_W va_W va_W _ (xW h0 nw sp xa la lb) (@HAppend.hAppend va_W va_W va_W _ (rcW X nw an v b g) (rnW (xa 8) vg))) sz) (va_A (@HAppend.hAppend va_W va_W va_W _ (xW h0 nw sp xa la lb) (@HAppend.hAppend va_W va_W va_W _ (rcW X nw an v b g) (rnW (xa 8) vg))) sz) s (@HAppend.hAppend va_W va_W va_W _ (xW h0 nw sp xa la lb) (@HAppend.hAppend va_W va_W va_W _ (rcW X nw an v b g) (rnW (xa 8) v_8))) H locs := wd_sub G [0, 1, 2, 3, 4, 5, 6, 7, 17, 8, 9, 10, 11, 12, 13, 14, 15, 16] rfl rfl
      exact join_12 v_8 _ _ _  G hl
  · intro v_1 H locs ls  G hl
    refine lv_aload_n zx zb dX10_placeBehindFive_16 rfl (lv_at hl 0 rfl) ?_
    refine r_get (C := RX10) (T := TX10) (N := 14) (ci := 8) (v := .ref (xa 8)) S in_X10_placeBehindFive_X10 G 0 rfl rfl 8 (by decide) lk_X10_placeBehindFive_48 rfl dX10_placeBehindFive_17 ?_
    refine lv_iload_n zx zb dX10_placeBehindFive_20 rfl (lv_at hl 2 rfl) ?_
    refine r_put (C := RX8) (T := TX8) (N := 8) (ci := 6) (v := .int x2) S in_X10_placeBehindFive_X8 tyX8_ok nmX8 G 17 rfl rfl 3 (by decide) lk_X10_placeBehindFive_130 rfl (vp_nar_int _) rfl (Nat.le_of_ble_eq_true rfl) dX10_placeBehindFive_21 (fun H locs G => ?_)
    obtain ⟨v_9, G⟩ : ∃ v_9 : Nat → Int32, wd X (va_A (@HAppend.hAppend va_W va_W va_W _ (xW h0 nw sp xa la lb) (@HAppend.hAppend va_W va_W va_W _ (rcW X nw an v b g) (rnW (xa 8) vg))) sz) (va_A (@HAppend.hAppend va_W va_W va_W _ (xW h0 nw sp xa la lb) (@HAppend.hAppend va_W va_W va_W _ (rcW X nw an v b g) (rnW (xa 8) vg))) sz) s (@HAppend.hAppend va_W va_W va_W _ (xW h0 nw sp xa la lb) (@HAppend.hAppend va_W va_W va_W _ (rcW X nw an v b g) (rnW (xa 8) v_9))) H locs := ⟨upd v_1 3 x2, G⟩
    refine lv_aload_n zx zb dX10_placeBehindFive_24 rfl (lv_at hl 0 rfl) ?_
    refine r_get (C := RX10) (T := TX10) (N := 14) (ci := 8) (v := .ref (xa 8)) S in_X10_placeBehindFive_X10 G 0 rfl rfl 8 (by decide) lk_X10_placeBehindFive_48 rfl dX10_placeBehindFive_25 ?_
    refine lv_aload_n zx zb dX10_placeBehindFive_28 rfl (lv_at hl 0 rfl) ?_
    refine r_get (C := RX10) (T := TX10) (N := 14) (ci := 8) (v := .ref nw) S in_X10_placeBehindFive_X10 G 0 rfl rfl 0 (by decide) lk_X10_placeBehindFive_10 rfl dX10_placeBehindFive_29 ?_
    refine r_get (C := RX5) (T := TX5) (N := 8) (ci := 3) (v := .int (v 1)) S in_X10_placeBehindFive_X5 G 1 rfl rfl 1 (by decide) lk_X10_placeBehindFive_110 rfl dX10_placeBehindFive_32 ?_
    refine lv_aload_n zx zb dX10_placeBehindFive_35 rfl (lv_at hl 0 rfl) ?_
    refine r_get (C := RX10) (T := TX10) (N := 14) (ci := 8) (v := .ref nw) S in_X10_placeBehindFive_X10 G 0 rfl rfl 0 (by decide) lk_X10_placeBehindFive_10 rfl dX10_placeBehindFive_36 ?_
    refine r_get (C := RX5) (T := TX5) (N := 8) (ci := 3) (v := .int (v 0)) S in_X10_placeBehindFive_X5 G 1 rfl rfl 0 (by decide) lk_X10_placeBehindFive_140 rfl dX10_placeBehindFive_39 ?_
    refine lv_iconst (v := 5) zx zb dX10_placeBehindFive_42 (by decide) ?_
    refine b_wi (cells' := 0) (slots' := 0) (wr := @HAppend.hAppend va_W va_W va_W _ (xW h0 nw sp xa la lb) (rcW X nw an v b g)) G rfl rfl [17] [0, 1, 2, 3, 4, 5, 6, 7, 8, 9, 10, 11, 12, 13, 14, 15, 16] rfl rfl rfl rfl (n_V (As := [.int (v 1), .int (v 0), .int 5]) (rest := []) (C := RX8) (T := TX8) (N := 8) (ci := 6) S G (s_placeBehind l X (xa 8) v_9 (v 1) (v 0) 5 (by first | decide | assumption | exact k_60a (by assumption)) H.size) gX10_placeBehindFive_X8_placeBehind rfl rfl rfl hdV_X8_placeBehind ⟨Nat.le_of_ble_eq_true rfl, Nat.le_of_ble_eq_true rfl⟩ [17] rfl rfl 17 rfl rfl rfl hl.1 (Nat.le_of_ble_eq_true rfl) dX10_placeBehindFive_43 ⟨Nat.le_of_ble_eq_true rfl, Nat.le_of_ble_eq_true rfl⟩) (fun r_10 u_10 H locs hp_10 G => ?_)
    obtain ⟨v_10, rfl⟩ : ∃ z, z = u_10 := ⟨_, rfl⟩
    have hq_10 := hp_10
    have G : wd X (va_A (@HAppend.hAppend va_W va_W va_W _ (xW h0 nw sp xa la lb) (@HAppend.hAppend va_W va_W va_W _ (rcW X nw an v b g) (rnW (xa 8) vg))) sz) (va_A (@HAppend.hAppend va_W va_W va_W _ (xW h0 nw sp xa la lb) (@HAppend.hAppend va_W va_W va_W _ (rcW X nw an v b g) (rnW (xa 8) vg))) sz) s (@HAppend.hAppend va_W va_W va_W _ (xW h0 nw sp xa la lb) (@HAppend.hAppend va_W va_W va_W _ (rcW X nw an v b g) (rnW (xa 8) v_10))) H locs := G
    exact e_int S zr zlk (vp_nar_int _) G (v_10) [0, 1, 2, 3, 4, 5, 6, 7, 8, 9, 10, 11, 12, 13, 14, 15, 16, 17] rfl rfl (Or.inr rfl) (trivial) dX10_placeBehindFive_46
theorem in_X10_pair_X10 : ∀ w ∈ wsX100, w ∈ wsX10_pair := by decide +kernel
theorem lk_X10_pair_72 : Cond.fieldLink RX10 72 "EggSpoons" "duel" "LEggSpoons$Duel;" ∈ wsX10_pair := by decide +kernel
theorem hdV_X10_placeBehindFive : yX10_placeBehindFive.cls = RX10 ∧ yX10_placeBehindFive.cls ≠ "java/lang/invoke/MethodHandle" ∧ yX10_placeBehindFive.cls ≠ "java/lang/invoke/VarHandle" ∧ (parseMethodDescriptor yX10_placeBehindFive.desc).map (fun d => d.parameters.length) = some 2 := by decide +kernel
theorem hdV_X0_put : yX0_put.cls = RX0 ∧ yX0_put.cls ≠ "java/lang/invoke/MethodHandle" ∧ yX0_put.cls ≠ "java/lang/invoke/VarHandle" ∧ (parseMethodDescriptor yX0_put.desc).map (fun d => d.parameters.length) = some 3 := by decide +kernel
theorem lk_X10_pair_10 : Cond.fieldLink RX10 10 "EggSpoons" "now" "LEggSpoons$Race;" ∈ wsX10_pair := by decide +kernel
theorem in_X10_pair_X5 : ∀ w ∈ wsX50, w ∈ wsX10_pair := by decide +kernel
theorem lk_X10_pair_126 : Cond.fieldLink RX10 126 "EggSpoons$Race" "row" "[LEggSpoons$Runner;" ∈ wsX10_pair := by decide +kernel
theorem in_X10_pair_X8 : ∀ w ∈ wsX80, w ∈ wsX10_pair := by decide +kernel
theorem lk_X10_pair_137 : Cond.fieldLink RX10 137 "EggSpoons$Runner" "place" "I" ∈ wsX10_pair := by decide +kernel
theorem hdV_X0_weigh : yX0_weigh.cls = RX0 ∧ yX0_weigh.cls ≠ "java/lang/invoke/MethodHandle" ∧ yX0_weigh.cls ≠ "java/lang/invoke/VarHandle" ∧ (parseMethodDescriptor yX0_weigh.desc).map (fun d => d.parameters.length) = some 2 := by decide +kernel
theorem hdV_X0_restingPair : yX0_restingPair.cls = RX0 ∧ yX0_restingPair.cls ≠ "java/lang/invoke/MethodHandle" ∧ yX0_restingPair.cls ≠ "java/lang/invoke/VarHandle" ∧ (parseMethodDescriptor yX0_restingPair.desc).map (fun d => d.parameters.length) = some 1 := by decide +kernel
set_option maxHeartbeats 4000000 in
set_option maxRecDepth 100000 in
/-- pair -/
theorem s_pair (l : Launch) (X : EX) (h0 : Nat) (nw : Nat) (sp : Nat) (xa : Nat → Nat) (la : Int64) (lb : Int64) (an : Nat → Nat) (v : Nat → Int32) (b : Nat → Nat) (g : Nat → Nat → Int32) (vg : Nat → Int32) (da : Nat → Nat) (gd : Nat → Nat → Int32) (fr : Nat → Int32) (x1 : Int32) (x2 : Int32) (x3 : Int32) (hI_b : InR b) (sz : Nat) : Met l yX10_pair wsX10_pair ({ frames := 4, cells := 0, slots := 0, locals := 95 } : Room) (pE X [.ref h0, .int x1, .int x2, .int x3] (@HAppend.hAppend va_W va_W va_W _ (xW h0 nw sp xa la lb) (@HAppend.hAppend va_W va_W va_W _ (rcW X nw an v b g) (@HAppend.hAppend va_W va_W va_W _ (rnW (xa 8) vg) (@HAppend.hAppend va_W va_W va_W _ (duW X (xa 12) da gd) ([((xa 5), .inl (X.2.1, 3, .inl fr))]))))) sz) (qI (fun (r : Int32) (u : (Nat → Int32) × (Nat → Nat → Int32) × (Nat → Int32)) => (True)) X (fun (u : (Nat → Int32) × (Nat → Nat → Int32) × (Nat → Int32)) => @HAppend.hAppend va_W va_W va_W _ (xW h0 nw sp xa la lb) (@HAppend.hAppend va_W va_W va_W _ (rcW X nw an v b g) (@HAppend.hAppend va_W va_W va_W _ (rnW (xa 8) u.1) (@HAppend.hAppend va_W va_W va_W _ (duW X (xa 12) da u.2.1) ([((xa 5), .inl (X.2.1, 3, .inl u.2.2))]))))) (@HAppend.hAppend va_W va_W va_W _ (xW h0 nw sp xa la lb) (@HAppend.hAppend va_W va_W va_W _ (rcW X nw an v b g) (@HAppend.hAppend va_W va_W va_W _ (rnW (xa 8) vg) (@HAppend.hAppend va_W va_W va_W _ (duW X (xa 12) da gd) ([((xa 5), .inl (X.2.1, 3, .inl fr))]))))) sz) 0 0 (va_A (@HAppend.hAppend va_W va_W va_W _ (xW h0 nw sp xa la lb) (@HAppend.hAppend va_W va_W va_W _ (rcW X nw an v b g) (@HAppend.hAppend va_W va_W va_W _ (rnW (xa 8) vg) (@HAppend.hAppend va_W va_W va_W _ (duW X (xa 12) da gd) ([((xa 5), .inl (X.2.1, 3, .inl fr))]))))) sz) := by
  refine mk_met (B := (va_A (@HAppend.hAppend va_W va_W va_W _ (xW h0 nw sp xa la lb) (@HAppend.hAppend va_W va_W va_W _ (rcW X nw an v b g) (@HAppend.hAppend va_W va_W va_W _ (rnW (xa 8) vg) (@HAppend.hAppend va_W va_W va_W _ (duW X (xa 12) da gd) ([((xa 5), .inl (X.2.1, 3, .inl fr))]))))) sz)) (A := (va_A (@HAppend.hAppend va_W va_W va_W _ (xW h0 nw sp xa la lb) (@HAppend.hAppend va_W va_W va_W _ (rcW X nw an v b g) (@HAppend.hAppend va_W va_W va_W _ (rnW (xa 8) vg) (@HAppend.hAppend va_W va_W va_W _ (duW X (xa 12) da gd) ([((xa 5), .inl (X.2.1, 3, .inl fr))]))))) sz)) (cc := cX10_pair) (maxL := 5) (ret := (some .int)) (by decide) rfl (Nat.le_of_ble_eq_true rfl) k_w k_a (fun p e s m below meth c S zr zlk znm zsz G ls hl => ?_)
  have S : CallFix p m c cX10_pair 5 s _ wsX10_pair RX10 := S
  have zx := S.1
  have zb := S.2.1
  have hl : lv_has ls 5 [(0, .ref h0), (1, .int x1), (2, .int x2), (3, .int x3)] := hl
  have hO_b := hI_b
  obtain ⟨hb0_b, hb1_b, hb2_b, hb3_b, hb4_b⟩ := hO_b
  refine lv_aload_n zx zb dX10_pair_0 rfl (lv_at hl 0 rfl) ?_
  refine lv_iload_n zx zb dX10_pair_1 rfl (lv_at hl 1 rfl) ?_
  refine lv_iload_n zx zb dX10_pair_2 rfl (lv_at hl 2 rfl) ?_
  refine o_ri (cells' := 0) (slots' := 0) G rfl rfl (n_V (As := [.int x1, .int x2]) (rest := []) (C := RX10) (T := TX10) (N := 14) (ci := 8) S G (s_areTwo l X h0 nw sp xa la lb an v b g x1 x2 hI_b s.heap.size) gX10_pair_X10_areTwo rfl rfl rfl hdV_X10_areTwo ⟨Nat.le_of_ble_eq_true rfl, Nat.le_of_ble_eq_true rfl⟩ [0, 1, 2, 3, 4, 5, 6, 7, 8, 9, 10, 11, 12, 13, 14, 15, 16] rfl rfl 0 rfl rfl rfl hl.1 (Nat.le_of_ble_eq_true rfl) dX10_pair_3 ⟨Nat.le_of_ble_eq_true rfl, Nat.le_of_ble_eq_true rfl⟩) (fun r_1 u_1 H locs hp_1 G => ?_)
  have G : wd X (va_A (@HAppend.hAppend va_W va_W va_W _ (xW h0 nw sp xa la lb) (@HAppend.hAppend va_W va_W va_W _ (rcW X nw an v b g) (@HAppend.hAppend va_W va_W va_W _ (rnW (xa 8) vg) (@HAppend.hAppend va_W va_W va_W _ (duW X (xa 12) da gd) ([((xa 5), .inl (X.2.1, 3, .inl fr))]))))) sz) (va_A (@HAppend.hAppend va_W va_W va_W _ (xW h0 nw sp xa la lb) (@HAppend.hAppend va_W va_W va_W _ (rcW X nw an v b g) (@HAppend.hAppend va_W va_W va_W _ (rnW (xa 8) vg) (@HAppend.hAppend va_W va_W va_W _ (duW X (xa 12) da gd) ([((xa 5), .inl (X.2.1, 3, .inl fr))]))))) sz) s (@HAppend.hAppend va_W va_W va_W _ (xW h0 nw sp xa la lb) (@HAppend.hAppend va_W va_W va_W _ (rcW X nw an v b g) (@HAppend.hAppend va_W va_W va_W _ (rnW (xa 8) vg) (@HAppend.hAppend va_W va_W va_W _ (duW X (xa 12) da gd) ([((xa 5), .inl (X.2.1, 3, .inl fr))]))))) H locs := G
  rcases hp_1 with ⟨rfl, hj_1, hi_1⟩ | rfl
  · obtain ⟨j_1, hj_1, rfl⟩ := hj_1
    obtain ⟨i_1, hi_1, rfl⟩ := hi_1
    refine lv_if_eq (tgt := 14) zx zb dX10_pair_6 (by decide) (fun c_2 => absurd c_2 (by decide)) (fun c_2 => ?_)
    refine lv_iload_n zx zb dX10_pair_9 rfl (lv_at hl 3 rfl) ?_
    refine lv_iconst (v := (-1)) zx zb dX10_pair_10 (by decide) ?_
    refine lv_icmp_ge (tgt := 24) zx zb dX10_pair_11 (by decide) (fun c_3 => ?_) (fun c_3 => ?_)
    · refine lv_iconst (v := 0) zx zb dX10_pair_24 (by decide) ?_
      refine lv_istore (lv' := [(4, .int 0), (0, .ref h0), (1, .int (nI j_1)), (2, .int (nI i_1)), (3, .int x3)]) zx zb dX10_pair_25 hl (by decide) rfl (fun ls hl => ?_)
      refine k_loop (P := ∀ (zm : Nat) (k27 : Nat) (v27_2 : Nat → Int32) (g27_3 : Nat → Nat → Int32) (H : Heap) (locs : List Loc) (ls : Array Slot), 10 + 1 ≤ k27 + zm → (k27 ≤ 10) → wd X (va_A (@HAppend.hAppend va_W va_W va_W _ (xW h0 nw sp xa la lb) (@HAppend.hAppend va_W va_W va_W _ (rcW X nw an v b g) (@HAppend.hAppend va_W va_W va_W _ (rnW (xa 8) vg) (@HAppend.hAppend va_W va_W va_W _ (duW X (xa 12) da gd) ([((xa 5), .inl (X.2.1, 3, .inl fr))]))))) sz) (va_A (@HAppend.hAppend va_W va_W va_W _ (xW h0 nw sp xa la lb) (@HAppend.hAppend va_W va_W va_W _ (rcW X nw an v b g) (@HAppend.hAppend va_W va_W va_W _ (rnW (xa 8) vg) (@HAppend.hAppend va_W va_W va_W _ (duW X (xa 12) da gd) ([((xa 5), .inl (X.2.1, 3, .inl fr))]))))) sz) s (@HAppend.hAppend va_W va_W va_W _ (xW h0 nw sp xa la lb) (@HAppend.hAppend va_W va_W va_W _ (rcW X nw an v b g) (@HAppend.hAppend va_W va_W va_W _ (rnW (xa 8) v27_2) (@HAppend.hAppend va_W va_W va_W _ (duW X (xa 12) da g27_3) ([((xa 5), .inl (X.2.1, 3, .inl fr))]))))) H locs → lv_has ls 5 [(4, .int (nI k27)), (0, .ref h0), (1, .int (nI j_1)), (2, .int (nI i_1)), (3, .int x3)] → W p l e _ s m _ below meth c H locs _ _ _ (F0 m 27 ls [])) (fun loop => loop (10 + 1) 0 vg gd _ _ _ (by omega) (by omega) G hl) ?_
      intro zm
      induction zm with
      | zero => intro k27 v27_2 g27_3 H locs ls zz q_hk_k27 _ _; exact absurd zz (by omega)
      | succ zm ih27 =>
        intro k27 v27_2 g27_3 H locs ls zm_27 hk_k27 G hl
        refine lv_iload zx zb dX10_pair_27 (lv_at hl 0 rfl) ?_
        refine lv_bipush (v := 9) zx zb dX10_pair_29 (by decide) ?_
        refine lv_icmp_gt (tgt := 63) zx zb dX10_pair_31 (by decide) (fun c_4 => ?_) (fun c_4 => ?_)
        · have fc_4 := j_lt (a := 9) (b := k27) (by omega) (by omega) c_4
          refine lv_aload_n zx zb dX10_pair_63 rfl (lv_at hl 1 rfl) ?_
          refine r_get (C := RX10) (T := TX10) (N := 14) (ci := 8) (v := .ref (xa 12)) S in_X10_pair_X10 G 0 rfl rfl 12 (by decide) lk_X10_pair_72 rfl dX10_pair_64 ?_
          refine lv_aload_n zx zb dX10_pair_67 rfl (lv_at hl 1 rfl) ?_
          refine r_get (C := RX10) (T := TX10) (N := 14) (ci := 8) (v := .ref nw) S in_X10_pair_X10 G 0 rfl rfl 0 (by decide) lk_X10_pair_10 rfl dX10_pair_68 ?_
          refine r_get (C := RX5) (T := TX5) (N := 8) (ci := 3) (v := .ref (an 0)) S in_X10_pair_X5 G 1 rfl rfl 3 (by decide) lk_X10_pair_126 rfl dX10_pair_71 ?_
          refine lv_iload_n zx zb dX10_pair_74 rfl (lv_at hl 2 rfl) ?_
          refine k_cutW (PP := fun Wx => ∀ (x_5 : Int32) (H : Heap) (locs : List Loc) (ls : Array Slot), wd X (va_A (@HAppend.hAppend va_W va_W va_W _ (xW h0 nw sp xa la lb) (@HAppend.hAppend va_W va_W va_W _ (rcW X nw an v b g) (@HAppend.hAppend va_W va_W va_W _ (rnW (xa 8) vg) (@HAppend.hAppend va_W va_W va_W _ (duW X (xa 12) da gd) ([((xa 5), .inl (X.2.1, 3, .inl fr))]))))) sz) (va_A (@HAppend.hAppend va_W va_W va_W _ (xW h0 nw sp xa la lb) (@HAppend.hAppend va_W va_W va_W _ (rcW X nw an v b g) (@HAppend.hAppend va_W va_W va_W _ (rnW (xa 8) vg) (@HAppend.hAppend va_W va_W va_W _ (duW X (xa 12) da gd) ([((xa 5), .inl (X.2.1, 3, .inl fr))]))))) sz) s (@HAppend.hAppend va_W va_W va_W _ (xW h0 nw sp xa la lb) (@HAppend.hAppend va_W va_W va_W _ (rcW X nw an v b g) (@HAppend.hAppend va_W va_W va_W _ (rnW (xa 8) v27_2) (@HAppend.hAppend va_W va_W va_W _ (duW X (xa 12) da g27_3) ([((xa 5), .inl (X.2.1, 3, .inl fr))]))))) H locs → lv_has ls 5 [(4, .int (nI k27)), (0, .ref h0), (1, .int (nI j_1)), (2, .int (nI i_1)), (3, .int x3)] → Wx (F0 m 79 ls [.int x_5, .ref (xa 12)]) H locs) ?_ ?_
          · intro join_75
            rcases k_6c (show j_1 < 6 by omega) with q_6 | q_6 | q_6 | q_6 | q_6 | q_6
            · refine k_it (v := 0) (by rw [q_6]; rfl) ?_
              refine r_aald (C := RX8) (b := (an 1)) S G 2 3 rfl rfl (k_vp (by decide)) rfl dX10_pair_75 ?_
              refine r_get (C := RX8) (T := TX8) (N := 8) (ci := 6) (v := .int (v 14)) S in_X10_pair_X8 G 3 rfl rfl 4 (by decide) lk_X10_pair_137 rfl dX10_pair_76 ?_
              exact join_75 (v 14) _ _ _  G hl
            · refine k_it (v := 1) (by rw [q_6]; rfl) ?_
              refine r_aald (C := RX8) (b := (an 2)) S G 2 3 rfl rfl (k_vp (by decide)) rfl dX10_pair_75 ?_
              refine r_get (C := RX8) (T := TX8) (N := 8) (ci := 6) (v := .int (v 22)) S in_X10_pair_X8 G 4 rfl rfl 4 (by decide) lk_X10_pair_137 rfl dX10_pair_76 ?_
              exact join_75 (v 22) _ _ _  G hl
            · refine k_it (v := 2) (by rw [q_6]; rfl) ?_
              refine r_aald (C := RX8) (b := (an 3)) S G 2 3 rfl rfl (k_vp (by decide)) rfl dX10_pair_75 ?_
              refine r_get (C := RX8) (T := TX8) (N := 8) (ci := 6) (v := .int (v 30)) S in_X10_pair_X8 G 5 rfl rfl 4 (by decide) lk_X10_pair_137 rfl dX10_pair_76 ?_
              exact join_75 (v 30) _ _ _  G hl
            · refine k_it (v := 3) (by rw [q_6]; rfl) ?_
              refine r_aald (C := RX8) (b := (an 4)) S G 2 3 rfl rfl (k_vp (by decide)) rfl dX10_pair_75 ?_
              refine r_get (C := RX8) (T := TX8) (N := 8) (ci := 6) (v := .int (v 38)) S in_X10_pair_X8 G 6 rfl rfl 4 (by decide) lk_X10_pair_137 rfl dX10_pair_76 ?_
              exact join_75 (v 38) _ _ _  G hl
            · refine k_it (v := 4) (by rw [q_6]; rfl) ?_
              refine r_aald (C := RX8) (b := (an 5)) S G 2 3 rfl rfl (k_vp (by decide)) rfl dX10_pair_75 ?_
              refine r_get (C := RX8) (T := TX8) (N := 8) (ci := 6) (v := .int (v 46)) S in_X10_pair_X8 G 7 rfl rfl 4 (by decide) lk_X10_pair_137 rfl dX10_pair_76 ?_
              exact join_75 (v 46) _ _ _  G hl
            · refine k_it (v := 5) (by rw [q_6]; rfl) ?_
              refine r_aald (C := RX8) (b := (an 6)) S G 2 3 rfl rfl (k_vp (by decide)) rfl dX10_pair_75 ?_
              refine r_get (C := RX8) (T := TX8) (N := 8) (ci := 6) (v := .int (v 54)) S in_X10_pair_X8 G 8 rfl rfl 4 (by decide) lk_X10_pair_137 rfl dX10_pair_76 ?_
              exact join_75 (v 54) _ _ _  G hl
          · intro x_5 H locs ls  G hl
            refine lv_aload_n zx zb dX10_pair_79 rfl (lv_at hl 1 rfl) ?_
            refine r_get (C := RX10) (T := TX10) (N := 14) (ci := 8) (v := .ref nw) S in_X10_pair_X10 G 0 rfl rfl 0 (by decide) lk_X10_pair_10 rfl dX10_pair_80 ?_
            refine r_get (C := RX5) (T := TX5) (N := 8) (ci := 3) (v := .ref (an 0)) S in_X10_pair_X5 G 1 rfl rfl 3 (by decide) lk_X10_pair_126 rfl dX10_pair_83 ?_
            refine lv_iload_n zx zb dX10_pair_86 rfl (lv_at hl 3 rfl) ?_
            refine k_cutW (PP := fun Wx => ∀ (x_7 : Int32) (H : Heap) (locs : List Loc) (ls : Array Slot), wd X (va_A (@HAppend.hAppend va_W va_W va_W _ (xW h0 nw sp xa la lb) (@HAppend.hAppend va_W va_W va_W _ (rcW X nw an v b g) (@HAppend.hAppend va_W va_W va_W _ (rnW (xa 8) vg) (@HAppend.hAppend va_W va_W va_W _ (duW X (xa 12) da gd) ([((xa 5), .inl (X.2.1, 3, .inl fr))]))))) sz) (va_A (@HAppend.hAppend va_W va_W va_W _ (xW h0 nw sp xa la lb) (@HAppend.hAppend va_W va_W va_W _ (rcW X nw an v b g) (@HAppend.hAppend va_W va_W va_W _ (rnW (xa 8) vg) (@HAppend.hAppend va_W va_W va_W _ (duW X (xa 12) da gd) ([((xa 5), .inl (X.2.1, 3, .inl fr))]))))) sz) s (@HAppend.hAppend va_W va_W va_W _ (xW h0 nw sp xa la lb) (@HAppend.hAppend va_W va_W va_W _ (rcW X nw an v b g) (@HAppend.hAppend va_W va_W va_W _ (rnW (xa 8) v27_2) (@HAppend.hAppend va_W va_W va_W _ (duW X (xa 12) da g27_3) ([((xa 5), .inl (X.2.1, 3, .inl fr))]))))) H locs → lv_has ls 5 [(4, .int (nI k27)), (0, .ref h0), (1, .int (nI j_1)), (2, .int (nI i_1)), (3, .int x3)] → Wx (F0 m 91 ls [.int x_7, .int x_5, .ref (xa 12)]) H locs) ?_ ?_
            · intro join_87
              rcases k_6c (show i_1 < 6 by omega) with q_8 | q_8 | q_8 | q_8 | q_8 | q_8
              · refine k_it (v := 0) (by rw [q_8]; rfl) ?_
                refine r_aald (C := RX8) (b := (an 1)) S G 2 3 rfl rfl (k_vp (by decide)) rfl dX10_pair_87 ?_
                refine r_get (C := RX8) (T := TX8) (N := 8) (ci := 6) (v := .int (v 14)) S in_X10_pair_X8 G 3 rfl rfl 4 (by decide) lk_X10_pair_137 rfl dX10_pair_88 ?_
                exact join_87 (v 14) _ _ _  G hl
              · refine k_it (v := 1) (by rw [q_8]; rfl) ?_
                refine r_aald (C := RX8) (b := (an 2)) S G 2 3 rfl rfl (k_vp (by decide)) rfl dX10_pair_87 ?_
                refine r_get (C := RX8) (T := TX8) (N := 8) (ci := 6) (v := .int (v 22)) S in_X10_pair_X8 G 4 rfl rfl 4 (by decide) lk_X10_pair_137 rfl dX10_pair_88 ?_
                exact join_87 (v 22) _ _ _  G hl
              · refine k_it (v := 2) (by rw [q_8]; rfl) ?_
                refine r_aald (C := RX8) (b := (an 3)) S G 2 3 rfl rfl (k_vp (by decide)) rfl dX10_pair_87 ?_
                refine r_get (C := RX8) (T := TX8) (N := 8) (ci := 6) (v := .int (v 30)) S in_X10_pair_X8 G 5 rfl rfl 4 (by decide) lk_X10_pair_137 rfl dX10_pair_88 ?_
                exact join_87 (v 30) _ _ _  G hl
              · refine k_it (v := 3) (by rw [q_8]; rfl) ?_
                refine r_aald (C := RX8) (b := (an 4)) S G 2 3 rfl rfl (k_vp (by decide)) rfl dX10_pair_87 ?_
                refine r_get (C := RX8) (T := TX8) (N := 8) (ci := 6) (v := .int (v 38)) S in_X10_pair_X8 G 6 rfl rfl 4 (by decide) lk_X10_pair_137 rfl dX10_pair_88 ?_
                exact join_87 (v 38) _ _ _  G hl
              · refine k_it (v := 4) (by rw [q_8]; rfl) ?_
                refine r_aald (C := RX8) (b := (an 5)) S G 2 3 rfl rfl (k_vp (by decide)) rfl dX10_pair_87 ?_
                refine r_get (C := RX8) (T := TX8) (N := 8) (ci := 6) (v := .int (v 46)) S in_X10_pair_X8 G 7 rfl rfl 4 (by decide) lk_X10_pair_137 rfl dX10_pair_88 ?_
                exact join_87 (v 46) _ _ _  G hl
              · refine k_it (v := 5) (by rw [q_8]; rfl) ?_
                refine r_aald (C := RX8) (b := (an 6)) S G 2 3 rfl rfl (k_vp (by decide)) rfl dX10_pair_87 ?_
                refine r_get (C := RX8) (T := TX8) (N := 8) (ci := 6) (v := .int (v 54)) S in_X10_pair_X8 G 8 rfl rfl 4 (by decide) lk_X10_pair_137 rfl dX10_pair_88 ?_
                exact join_87 (v 54) _ _ _  G hl
            · intro x_7 H locs ls  G hl
              refine b_wi (cells' := 0) (slots' := 0) (wr := @HAppend.hAppend va_W va_W va_W _ (xW h0 nw sp xa la lb) (@HAppend.hAppend va_W va_W va_W _ (rcW X nw an v b g) (@HAppend.hAppend va_W va_W va_W _ (rnW (xa 8) v27_2) ([((xa 5), .inl (X.2.1, 3, .inl fr))])))) G rfl rfl [18, 19, 20, 21, 22, 23] [0, 1, 2, 3, 4, 5, 6, 7, 8, 9, 10, 11, 12, 13, 14, 15, 16, 17, 24] rfl rfl rfl rfl (n_V (As := [.int x_5, .int x_7]) (rest := []) (C := RX0) (T := TX0) (N := 5) (ci := 0) S G (s_weigh l X (xa 12) da g27_3 x_5 x_7 H.size) gX10_pair_X0_weigh rfl rfl rfl hdV_X0_weigh ⟨Nat.le_of_ble_eq_true rfl, Nat.le_of_ble_eq_true rfl⟩ [18, 19, 20, 21, 22, 23] rfl rfl 18 rfl rfl rfl hl.1 (Nat.le_of_ble_eq_true rfl) dX10_pair_91 ⟨Nat.le_of_ble_eq_true rfl, Nat.le_of_ble_eq_true rfl⟩) (fun r_9 u_9 H locs hp_9 G => ?_)
              obtain ⟨g_9, rfl⟩ : ∃ z, z = u_9 := ⟨_, rfl⟩
              have hq_9 := hp_9
              have G : wd X (va_A (@HAppend.hAppend va_W va_W va_W _ (xW h0 nw sp xa la lb) (@HAppend.hAppend va_W va_W va_W _ (rcW X nw an v b g) (@HAppend.hAppend va_W va_W va_W _ (rnW (xa 8) vg) (@HAppend.hAppend va_W va_W va_W _ (duW X (xa 12) da gd) ([((xa 5), .inl (X.2.1, 3, .inl fr))]))))) sz) (va_A (@HAppend.hAppend va_W va_W va_W _ (xW h0 nw sp xa la lb) (@HAppend.hAppend va_W va_W va_W _ (rcW X nw an v b g) (@HAppend.hAppend va_W va_W va_W _ (rnW (xa 8) vg) (@HAppend.hAppend va_W va_W va_W _ (duW X (xa 12) da gd) ([((xa 5), .inl (X.2.1, 3, .inl fr))]))))) sz) s (@HAppend.hAppend va_W va_W va_W _ (xW h0 nw sp xa la lb) (@HAppend.hAppend va_W va_W va_W _ (rcW X nw an v b g) (@HAppend.hAppend va_W va_W va_W _ (rnW (xa 8) v27_2) (@HAppend.hAppend va_W va_W va_W _ ([((xa 5), .inl (X.2.1, 3, .inl fr))]) (duW X (xa 12) da g_9))))) H locs := G
              refine lv_istore (lv' := [(4, .int r_9), (0, .ref h0), (1, .int (nI j_1)), (2, .int (nI i_1)), (3, .int x3)]) zx zb dX10_pair_94 hl (by decide) rfl (fun ls hl => ?_)
              refine lv_iload_n zx zb dX10_pair_96 rfl (lv_at hl 4 rfl) ?_
              refine lv_iconst (v := (-1)) zx zb dX10_pair_97 (by decide) ?_
              refine lv_icmp_ne (tgt := 104) zx zb dX10_pair_98 (by decide) (fun c_10 => ?_) (fun c_10 => ?_)
              · refine lv_iload_n zx zb dX10_pair_104 rfl (lv_at hl 4 rfl) ?_
                refine lv_iload zx zb dX10_pair_105 (lv_at hl 0 rfl) ?_
                refine k_cutW (PP := fun Wx => ∀ (x_12 : Int32) (H : Heap) (locs : List Loc) (ls : Array Slot), wd X (va_A (@HAppend.hAppend va_W va_W va_W _ (xW h0 nw sp xa la lb) (@HAppend.hAppend va_W va_W va_W _ (rcW X nw an v b g) (@HAppend.hAppend va_W va_W va_W _ (rnW (xa 8) vg) (@HAppend.hAppend va_W va_W va_W _ (duW X (xa 12) da gd) ([((xa 5), .inl (X.2.1, 3, .inl fr))]))))) sz) (va_A (@HAppend.hAppend va_W va_W va_W _ (xW h0 nw sp xa la lb) (@HAppend.hAppend va_W va_W va_W _ (rcW X nw an v b g) (@HAppend.hAppend va_W va_W va_W _ (rnW (xa 8) vg) (@HAppend.hAppend va_W va_W va_W _ (duW X (xa 12) da gd) ([((xa 5), .inl (X.2.1, 3, .inl fr))]))))) sz) s (@HAppend.hAppend va_W va_W va_W _ (xW h0 nw sp xa la lb) (@HAppend.hAppend va_W va_W va_W _ (rcW X nw an v b g) (@HAppend.hAppend va_W va_W va_W _ (rnW (xa 8) v27_2) (@HAppend.hAppend va_W va_W va_W _ ([((xa 5), .inl (X.2.1, 3, .inl fr))]) (duW X (xa 12) da g_9))))) H locs → lv_has ls 5 [(4, .int r_9), (0, .ref h0), (1, .int (nI j_1)), (2, .int (nI i_1)), (3, .int x3)] → Wx (F0 m 123 ls [.int x_12]) H locs) ?_ ?_
                · intro join_107
                  refine lv_icmp_ge (tgt := 121) zx zb dX10_pair_107 (by decide) (fun c_11 => ?_) (fun c_11 => ?_)
                  · refine lv_bipush (v := (-5)) zx zb dX10_pair_121 (by decide) ?_
                    exact join_107 (-5) _ _ _  G hl
                  · refine lv_aload_n zx zb dX10_pair_110 rfl (lv_at hl 1 rfl) ?_
                    refine r_get (C := RX10) (T := TX10) (N := 14) (ci := 8) (v := .ref (xa 12)) S in_X10_pair_X10 G 0 rfl rfl 12 (by decide) lk_X10_pair_72 rfl dX10_pair_111 ?_
                    refine lv_iload_n zx zb dX10_pair_114 rfl (lv_at hl 4 rfl) ?_
                    refine o_ri (cells' := 0) (slots' := 0) G rfl rfl (n_V (As := [.int x3]) (rest := []) (C := RX0) (T := TX0) (N := 5) (ci := 0) S G (s_restingPair l X (xa 12) da g_9 x3 H.size) gX10_pair_X0_restingPair rfl rfl rfl hdV_X0_restingPair ⟨Nat.le_of_ble_eq_true rfl, Nat.le_of_ble_eq_true rfl⟩ [19, 20, 21, 22, 23, 24] rfl rfl 19 rfl rfl rfl hl.1 (Nat.le_of_ble_eq_true rfl) dX10_pair_115 ⟨Nat.le_of_ble_eq_true rfl, Nat.le_of_ble_eq_true rfl⟩) (fun r_13 u_13 H locs hp_13 G => ?_)
                    have G : wd X (va_A (@HAppend.hAppend va_W va_W va_W _ (xW h0 nw sp xa la lb) (@HAppend.hAppend va_W va_W va_W _ (rcW X nw an v b g) (@HAppend.hAppend va_W va_W va_W _ (rnW (xa 8) vg) (@HAppend.hAppend va_W va_W va_W _ (duW X (xa 12) da gd) ([((xa 5), .inl (X.2.1, 3, .inl fr))]))))) sz) (va_A (@HAppend.hAppend va_W va_W va_W _ (xW h0 nw sp xa la lb) (@HAppend.hAppend va_W va_W va_W _ (rcW X nw an v b g) (@HAppend.hAppend va_W va_W va_W _ (rnW (xa 8) vg) (@HAppend.hAppend va_W va_W va_W _ (duW X (xa 12) da gd) ([((xa 5), .inl (X.2.1, 3, .inl fr))]))))) sz) s (@HAppend.hAppend va_W va_W va_W _ (xW h0 nw sp xa la lb) (@HAppend.hAppend va_W va_W va_W _ (rcW X nw an v b g) (@HAppend.hAppend va_W va_W va_W _ (rnW (xa 8) v27_2) (@HAppend.hAppend va_W va_W va_W _ ([((xa 5), .inl (X.2.1, 3, .inl fr))]) (duW X (xa 12) da g_9))))) H locs := G
                    refine lv_goto (tgt := 123) zx zb dX10_pair_118 (by decide) ?_
                    exact join_107 r_13 _ _ _  G hl
                · intro x_12 H locs ls  G hl
                  exact e_int S zr zlk (vp_nar_int _) G (v27_2, g_9, fr) [0, 1, 2, 3, 4, 5, 6, 7, 8, 9, 10, 11, 12, 13, 14, 15, 16, 17, 19, 20, 21, 22, 23, 24, 18] rfl rfl (Or.inr rfl) (trivial) dX10_pair_123
              · refine lv_iload zx zb dX10_pair_101 (lv_at hl 0 rfl) ?_
                exact e_int S zr zlk (vp_nar_int _) G (v27_2, g_9, fr) [0, 1, 2, 3, 4, 5, 6, 7, 8, 9, 10, 11, 12, 13, 14, 15, 16, 17, 19, 20, 21, 22, 23, 24, 18] rfl rfl (Or.inr rfl) (trivial) dX10_pair_103
        · have fc_4 := j_nlt (a := 9) (b := k27) (by omega) (by omega) c_4
          refine lv_aload_n zx zb dX10_pair_34 rfl (lv_at hl 1 rfl) ?_
          refine r_get (C := RX10) (T := TX10) (N := 14) (ci := 8) (v := .ref (xa 12)) S in_X10_pair_X10 G 0 rfl rfl 12 (by decide) lk_X10_pair_72 rfl dX10_pair_35 ?_
          refine lv_iload zx zb dX10_pair_38 (lv_at hl 0 rfl) ?_
          refine lv_aload_n zx zb dX10_pair_40 rfl (lv_at hl 1 rfl) ?_
          refine lv_iload_n zx zb dX10_pair_41 rfl (lv_at hl 2 rfl) ?_
          refine lv_iload zx zb dX10_pair_42 (lv_at hl 0 rfl) ?_
          refine b_wi (cells' := 0) (slots' := 0) (wr := @HAppend.hAppend va_W va_W va_W _ (duW X (xa 12) da g27_3) ([((xa 5), .inl (X.2.1, 3, .inl fr))])) G rfl rfl [0, 1, 2, 3, 4, 5, 6, 7, 8, 9, 10, 11, 12, 13, 14, 15, 16, 17] [18, 19, 20, 21, 22, 23, 24] rfl rfl rfl rfl (n_V (As := [.int (nI j_1), .int (nI k27)]) (rest := [.int (nI k27), .ref (xa 12)]) (C := RX10) (T := TX10) (N := 14) (ci := 8) S G (s_five l X h0 nw sp xa la lb an v b g v27_2 j_1 (nI k27) hI_b (by omega) H.size) gX10_pair_X10_placeBehindFive rfl rfl rfl hdV_X10_placeBehindFive ⟨Nat.le_of_ble_eq_true rfl, Nat.le_of_ble_eq_true rfl⟩ [0, 1, 2, 3, 4, 5, 6, 7, 8, 9, 10, 11, 12, 13, 14, 15, 16, 17] rfl rfl 0 rfl rfl rfl hl.1 (Nat.le_of_ble_eq_true rfl) dX10_pair_44 ⟨Nat.le_of_ble_eq_true rfl, Nat.le_of_ble_eq_true rfl⟩) (fun r_14 u_14 H locs hp_14 G => ?_)
          obtain ⟨v_14, rfl⟩ : ∃ z, z = u_14 := ⟨_, rfl⟩
          have hq_14 := hp_14
          have G : wd X (va_A (@HAppend.hAppend va_W va_W va_W _ (xW h0 nw sp xa la lb) (@HAppend.hAppend va_W va_W va_W _ (rcW X nw an v b g) (@HAppend.hAppend va_W va_W va_W _ (rnW (xa 8) vg) (@HAppend.hAppend va_W va_W va_W _ (duW X (xa 12) da gd) ([((xa 5), .inl (X.2.1, 3, .inl fr))]))))) sz) (va_A (@HAppend.hAppend va_W va_W va_W _ (xW h0 nw sp xa la lb) (@HAppend.hAppend va_W va_W va_W _ (rcW X nw an v b g) (@HAppend.hAppend va_W va_W va_W _ (rnW (xa 8) vg) (@HAppend.hAppend va_W va_W va_W _ (duW X (xa 12) da gd) ([((xa 5), .inl (X.2.1, 3, .inl fr))]))))) sz) s (@HAppend.hAppend va_W va_W va_W _ (duW X (xa 12) da g27_3) (@HAppend.hAppend va_W va_W va_W _ ([((xa 5), .inl (X.2.1, 3, .inl fr))]) (@HAppend.hAppend va_W va_W va_W _ (xW h0 nw sp xa la lb) (@HAppend.hAppend va_W va_W va_W _ (rcW X nw an v b g) (rnW (xa 8) v_14))))) H locs := G
          refine lv_aload_n zx zb dX10_pair_47 rfl (lv_at hl 1 rfl) ?_
          refine lv_iload_n zx zb dX10_pair_48 rfl (lv_at hl 3 rfl) ?_
          refine lv_iload zx zb dX10_pair_49 (lv_at hl 0 rfl) ?_
          refine b_wi (cells' := 0) (slots' := 0) (wr := @HAppend.hAppend va_W va_W va_W _ (duW X (xa 12) da g27_3) ([((xa 5), .inl (X.2.1, 3, .inl fr))])) G rfl rfl [7, 8, 9, 10, 11, 12, 13, 14, 15, 16, 17, 18, 19, 20, 21, 22, 23, 24] [0, 1, 2, 3, 4, 5, 6] rfl rfl rfl rfl (n_V (As := [.int (nI i_1), .int (nI k27)]) (rest := [.int r_14, .int (nI k27), .ref (xa 12)]) (C := RX10) (T := TX10) (N := 14) (ci := 8) S G (s_five l X h0 nw sp xa la lb an v b g v_14 i_1 (nI k27) hI_b (by omega) H.size) gX10_pair_X10_placeBehindFive rfl rfl rfl hdV_X10_placeBehindFive ⟨Nat.le_of_ble_eq_true rfl, Nat.le_of_ble_eq_true rfl⟩ [7, 8, 9, 10, 11, 12, 13, 14, 15, 16, 17, 18, 19, 20, 21, 22, 23, 24] rfl rfl 7 rfl rfl rfl hl.1 (Nat.le_of_ble_eq_true rfl) dX10_pair_51 ⟨Nat.le_of_ble_eq_true rfl, Nat.le_of_ble_eq_true rfl⟩) (fun r_15 u_15 H locs hp_15 G => ?_)
          obtain ⟨v_15, rfl⟩ : ∃ z, z = u_15 := ⟨_, rfl⟩
          have hq_15 := hp_15
          have G : wd X (va_A (@HAppend.hAppend va_W va_W va_W _ (xW h0 nw sp xa la lb) (@HAppend.hAppend va_W va_W va_W _ (rcW X nw an v b g) (@HAppend.hAppend va_W va_W va_W _ (rnW (xa 8) vg) (@HAppend.hAppend va_W va_W va_W _ (duW X (xa 12) da gd) ([((xa 5), .inl (X.2.1, 3, .inl fr))]))))) sz) (va_A (@HAppend.hAppend va_W va_W va_W _ (xW h0 nw sp xa la lb) (@HAppend.hAppend va_W va_W va_W _ (rcW X nw an v b g) (@HAppend.hAppend va_W va_W va_W _ (rnW (xa 8) vg) (@HAppend.hAppend va_W va_W va_W _ (duW X (xa 12) da gd) ([((xa 5), .inl (X.2.1, 3, .inl fr))]))))) sz) s (@HAppend.hAppend va_W va_W va_W _ (duW X (xa 12) da g27_3) (@HAppend.hAppend va_W va_W va_W _ ([((xa 5), .inl (X.2.1, 3, .inl fr))]) (@HAppend.hAppend va_W va_W va_W _ (xW h0 nw sp xa la lb) (@HAppend.hAppend va_W va_W va_W _ (rcW X nw an v b g) (rnW (xa 8) v_15))))) H locs := G
          refine b_wv (cells' := 0) (slots' := 0) (wr := @HAppend.hAppend va_W va_W va_W _ ([((xa 5), .inl (X.2.1, 3, .inl fr))]) (@HAppend.hAppend va_W va_W va_W _ (xW h0 nw sp xa la lb) (@HAppend.hAppend va_W va_W va_W _ (rcW X nw an v b g) (rnW (xa 8) v_15)))) G rfl rfl [0, 1, 2, 3, 4, 5] [6, 7, 8, 9, 10, 11, 12, 13, 14, 15, 16, 17, 18, 19, 20, 21, 22, 23, 24] rfl rfl rfl rfl (n_V (As := [.int (nI k27), .int r_14, .int r_15]) (rest := []) (C := RX0) (T := TX0) (N := 5) (ci := 0) S G (s_dput l X (xa 12) da g27_3 (nI k27) r_14 r_15 H.size) gX10_pair_X0_put rfl rfl rfl hdV_X0_put ⟨Nat.le_of_ble_eq_true rfl, Nat.le_of_ble_eq_true rfl⟩ [0, 1, 2, 3, 4, 5] rfl rfl 0 rfl rfl rfl hl.1 (Nat.le_of_ble_eq_true rfl) dX10_pair_54 ⟨Nat.le_of_ble_eq_true rfl, Nat.le_of_ble_eq_true rfl⟩) (fun u_16 H locs hp_16 G => ?_)
          obtain ⟨g_16, rfl⟩ : ∃ z, z = u_16 := ⟨_, rfl⟩
          have hq_16 := hp_16
          have G : wd X (va_A (@HAppend.hAppend va_W va_W va_W _ (xW h0 nw sp xa la lb) (@HAppend.hAppend va_W va_W va_W _ (rcW X nw an v b g) (@HAppend.hAppend va_W va_W va_W _ (rnW (xa 8) vg) (@HAppend.hAppend va_W va_W va_W _ (duW X (xa 12) da gd) ([((xa 5), .inl (X.2.1, 3, .inl fr))]))))) sz) (va_A (@HAppend.hAppend va_W va_W va_W _ (xW h0 nw sp xa la lb) (@HAppend.hAppend va_W va_W va_W _ (rcW X nw an v b g) (@HAppend.hAppend va_W va_W va_W _ (rnW (xa 8) vg) (@HAppend.hAppend va_W va_W va_W _ (duW X (xa 12) da gd) ([((xa 5), .inl (X.2.1, 3, .inl fr))]))))) sz) s (@HAppend.hAppend va_W va_W va_W _ ([((xa 5), .inl (X.2.1, 3, .inl fr))]) (@HAppend.hAppend va_W va_W va_W _ (xW h0 nw sp xa la lb) (@HAppend.hAppend va_W va_W va_W _ (rcW X nw an v b g) (@HAppend.hAppend va_W va_W va_W _ (rnW (xa 8) v_15) (duW X (xa 12) da g_16))))) H locs := G
          refine lv_iinc (v := (nI (k27 + 1))) (lv' := [(4, .int (nI (k27 + 1))), (0, .ref h0), (1, .int (nI j_1)), (2, .int (nI i_1)), (3, .int x3)]) zx zb dX10_pair_57 hl (k := 0) rfl (nI_add k27 1) (by decide) rfl (fun ls hl => ?_)
          refine lv_goto (tgt := 27) zx zb dX10_pair_60 (by decide) ?_
          have G : wd X (va_A (@HAppend.hAppend va_W va_W va_W _ (xW h0 nw sp xa la lb) (@HAppend.hAppend va_W va_W va_W _ (rcW X nw an v b g) (@HAppend.hAppend va_W va_W va_W _ (rnW (xa 8) vg) (@HAppend.hAppend va_W va_W va_W _ (duW X (xa 12) da gd) ([((xa 5), .inl (X.2.1, 3, .inl fr))]))))) sz) (va_A (@HAppend.hAppend va_W va_W va_W _ (xW h0 nw sp xa la lb) (@HAppend.hAppend va_W va_W va_W _ (rcW X nw an v b g) (@HAppend.hAppend va_W va_W va_W _ (rnW (xa 8) vg) (@HAppend.hAppend va_W va_W va_W _ (duW X (xa 12) da gd) ([((xa 5), .inl (X.2.1, 3, .inl fr))]))))) sz) s (@HAppend.hAppend va_W va_W va_W _ (xW h0 nw sp xa la lb) (@HAppend.hAppend va_W va_W va_W _ (rcW X nw an v b g) (@HAppend.hAppend va_W va_W va_W _ (rnW (xa 8) v_15) (@HAppend.hAppend va_W va_W va_W _ (duW X (xa 12) da g_16) ([((xa 5), .inl (X.2.1, 3, .inl fr))]))))) H locs := wd_sub G [1, 2, 3, 4, 5, 6, 7, 8, 9, 10, 11, 12, 13, 14, 15, 16, 17, 18, 19, 20, 21, 22, 23, 24, 0] rfl rfl
          exact ih27 (k27 + 1) v_15 g_16 _ _ _ (by omega) (by omega) G hl
    · refine lv_aload_n zx zb dX10_pair_14 rfl (lv_at hl 0 rfl) ?_
      refine lv_bipush (v := (-2)) zx zb dX10_pair_15 (by decide) ?_
      refine b_wi (cells' := 0) (slots' := 0) (wr := @HAppend.hAppend va_W va_W va_W _ (rcW X nw an v b g) (@HAppend.hAppend va_W va_W va_W _ (rnW (xa 8) vg) (duW X (xa 12) da gd))) G rfl rfl [0, 24] [1, 2, 3, 4, 5, 6, 7, 8, 9, 10, 11, 12, 13, 14, 15, 16, 17, 18, 19, 20, 21, 22, 23] rfl rfl rfl rfl (n_V (As := [.int (-2)]) (rest := []) (C := RX10) (T := TX10) (N := 14) (ci := 8) S G (s_refuse l X h0 nw sp xa la lb fr (-2) H.size) gX10_pair_X10_refuse rfl rfl rfl hdV_X10_refuse ⟨Nat.le_of_ble_eq_true rfl, Nat.le_of_ble_eq_true rfl⟩ [0, 24] rfl rfl 0 rfl rfl rfl hl.1 (Nat.le_of_ble_eq_true rfl) dX10_pair_17 ⟨Nat.le_of_ble_eq_true rfl, Nat.le_of_ble_eq_true rfl⟩) (fun r_17 u_17 H locs hp_17 G => ?_)
      obtain ⟨f_17, rfl⟩ : ∃ z, z = u_17 := ⟨_, rfl⟩
      have hq_17 := hp_17
      have G : wd X (va_A (@HAppend.hAppend va_W va_W va_W _ (xW h0 nw sp xa la lb) (@HAppend.hAppend va_W va_W va_W _ (rcW X nw an v b g) (@HAppend.hAppend va_W va_W va_W _ (rnW (xa 8) vg) (@HAppend.hAppend va_W va_W va_W _ (duW X (xa 12) da gd) ([((xa 5), .inl (X.2.1, 3, .inl fr))]))))) sz) (va_A (@HAppend.hAppend va_W va_W va_W _ (xW h0 nw sp xa la lb) (@HAppend.hAppend va_W va_W va_W _ (rcW X nw an v b g) (@HAppend.hAppend va_W va_W va_W _ (rnW (xa 8) vg) (@HAppend.hAppend va_W va_W va_W _ (duW X (xa 12) da gd) ([((xa 5), .inl (X.2.1, 3, .inl fr))]))))) sz) s (@HAppend.hAppend va_W va_W va_W _ (rcW X nw an v b g) (@HAppend.hAppend va_W va_W va_W _ (rnW (xa 8) vg) (@HAppend.hAppend va_W va_W va_W _ (duW X (xa 12) da gd) (@HAppend.hAppend va_W va_W va_W _ (xW h0 nw sp xa la lb) ([((xa 5), .inl (X.2.1, 3, .inl f_17))]))))) H locs := G
      refine lv_pop zx zb dX10_pair_20 rfl ?_
      refine lv_bipush (v := (-10)) zx zb dX10_pair_21 (by decide) ?_
      exact e_int S zr zlk (vp_nar_int _) G (vg, gd, f_17) [23, 0, 1, 2, 3, 4, 5, 6, 7, 8, 9, 10, 11, 12, 13, 14, 15, 16, 17, 18, 19, 20, 21, 22, 24] rfl rfl (Or.inr rfl) (trivial) dX10_pair_23
  · refine lv_if_eq (tgt := 14) zx zb dX10_pair_6 (by decide) (fun c_18 => ?_) (fun c_18 => absurd (by decide) c_18)
    refine lv_aload_n zx zb dX10_pair_14 rfl (lv_at hl 0 rfl) ?_
    refine lv_bipush (v := (-2)) zx zb dX10_pair_15 (by decide) ?_
    refine b_wi (cells' := 0) (slots' := 0) (wr := @HAppend.hAppend va_W va_W va_W _ (rcW X nw an v b g) (@HAppend.hAppend va_W va_W va_W _ (rnW (xa 8) vg) (duW X (xa 12) da gd))) G rfl rfl [0, 24] [1, 2, 3, 4, 5, 6, 7, 8, 9, 10, 11, 12, 13, 14, 15, 16, 17, 18, 19, 20, 21, 22, 23] rfl rfl rfl rfl (n_V (As := [.int (-2)]) (rest := []) (C := RX10) (T := TX10) (N := 14) (ci := 8) S G (s_refuse l X h0 nw sp xa la lb fr (-2) H.size) gX10_pair_X10_refuse rfl rfl rfl hdV_X10_refuse ⟨Nat.le_of_ble_eq_true rfl, Nat.le_of_ble_eq_true rfl⟩ [0, 24] rfl rfl 0 rfl rfl rfl hl.1 (Nat.le_of_ble_eq_true rfl) dX10_pair_17 ⟨Nat.le_of_ble_eq_true rfl, Nat.le_of_ble_eq_true rfl⟩) (fun r_19 u_19 H locs hp_19 G => ?_)
    obtain ⟨f_19, rfl⟩ : ∃ z, z = u_19 := ⟨_, rfl⟩
    have hq_19 := hp_19
    have G : wd X (va_A (@HAppend.hAppend va_W va_W va_W _ (xW h0 nw sp xa la lb) (@HAppend.hAppend va_W va_W va_W _ (rcW X nw an v b g) (@HAppend.hAppend va_W va_W va_W _ (rnW (xa 8) vg) (@HAppend.hAppend va_W va_W va_W _ (duW X (xa 12) da gd) ([((xa 5), .inl (X.2.1, 3, .inl fr))]))))) sz) (va_A (@HAppend.hAppend va_W va_W va_W _ (xW h0 nw sp xa la lb) (@HAppend.hAppend va_W va_W va_W _ (rcW X nw an v b g) (@HAppend.hAppend va_W va_W va_W _ (rnW (xa 8) vg) (@HAppend.hAppend va_W va_W va_W _ (duW X (xa 12) da gd) ([((xa 5), .inl (X.2.1, 3, .inl fr))]))))) sz) s (@HAppend.hAppend va_W va_W va_W _ (rcW X nw an v b g) (@HAppend.hAppend va_W va_W va_W _ (rnW (xa 8) vg) (@HAppend.hAppend va_W va_W va_W _ (duW X (xa 12) da gd) (@HAppend.hAppend va_W va_W va_W _ (xW h0 nw sp xa la lb) ([((xa 5), .inl (X.2.1, 3, .inl f_19))]))))) H locs := G
    refine lv_pop zx zb dX10_pair_20 rfl ?_
    refine lv_bipush (v := (-10)) zx zb dX10_pair_21 (by decide) ?_
    exact e_int S zr zlk (vp_nar_int _) G (vg, gd, f_19) [23, 0, 1, 2, 3, 4, 5, 6, 7, 8, 9, 10, 11, 12, 13, 14, 15, 16, 17, 18, 19, 20, 21, 22, 24] rfl rfl (Or.inr rfl) (trivial) dX10_pair_23
