set_option maxRecDepth 20000 in
theorem ggX11_beats_X11_bad : GoodIn wsX11_beats wsX11_bad := goodIn_r _ [18, 19, 53, 54, 55, 56, 57, 58, 59, 60, 61, 62, 63, 64, 65, 66, 67, 68, 69, 70] rfl (by decide +kernel)
set_option maxRecDepth 20000 in
theorem gX11_beats_X11_bad : GoodIn wsX11_beats (wsV RX11 68 RX11 yX11_bad wsX11_bad) := goodIn_app (goodIn_of _ (by decide +kernel)) ggX11_beats_X11_bad
set_option maxRecDepth 20000 in
theorem ggX11_beats_X11_homeAtHand : GoodIn wsX11_beats wsX11_homeAtHand := goodIn_r _ [31, 2, 32, 33, 6, 34, 35, 36, 37, 38, 39, 40, 41, 42, 43, 44, 45, 46, 47, 48, 49, 50, 51, 52, 53, 54, 55, 56, 57, 58, 59, 60, 61, 62, 63, 64, 65, 66, 67, 68, 69, 70] rfl (by decide +kernel)
set_option maxRecDepth 20000 in
theorem gX11_beats_X11_homeAtHand : GoodIn wsX11_beats (wsV RX11 144 RX11 yX11_homeAtHand wsX11_homeAtHand) := goodIn_app (goodIn_of _ (by decide +kernel)) ggX11_beats_X11_homeAtHand
set_option maxRecDepth 20000 in
theorem ggX11_beats_X11_homeOf : GoodIn wsX11_beats wsX11_homeOf := goodIn_r _ [23, 24, 25, 26, 6, 27, 2, 1, 28, 29, 30, 31, 32, 33, 34, 35, 36, 37, 38, 39, 40, 41, 42, 43, 44, 45, 46, 47, 48, 49, 50, 51, 52, 53, 54, 55, 56, 57, 58, 59, 60, 61, 62, 63, 64, 65, 66, 67, 68, 69, 70] rfl (by decide +kernel)
set_option maxRecDepth 20000 in
theorem gX11_beats_X11_homeOf : GoodIn wsX11_beats (wsV RX11 147 RX11 yX11_homeOf wsX11_homeOf) := goodIn_app (goodIn_of _ (by decide +kernel)) ggX11_beats_X11_homeOf
set_option maxRecDepth 20000 in
theorem ggX11_beats_X11_isHome : GoodIn wsX11_beats wsX11_isHome := goodIn_r _ [34] rfl (by decide +kernel)
set_option maxRecDepth 20000 in
theorem gX11_beats_X11_isHome : GoodIn wsX11_beats (va_wsS RX11 101 yX11_isHome wsX11_isHome) := goodIn_app (goodIn_of _ (by decide +kernel)) ggX11_beats_X11_isHome
set_option maxRecDepth 20000 in
theorem ggX11_beats_X11_isOne : GoodIn wsX11_beats wsX11_isOne := goodIn_r _ [7, 8, 9, 10, 6, 11, 1, 12, 13, 14, 53, 54, 55, 56, 57, 58, 59, 60, 61, 62, 63, 64, 65, 66, 67, 68, 69, 70] rfl (by decide +kernel)
set_option maxRecDepth 20000 in
theorem gX11_beats_X11_isOne : GoodIn wsX11_beats (wsV RX11 123 RX11 yX11_isOne wsX11_isOne) := goodIn_app (goodIn_of _ (by decide +kernel)) ggX11_beats_X11_isOne
set_option maxRecDepth 20000 in
theorem ggX11_beats_X11_layHand : GoodIn wsX11_beats wsX11_layHand := goodIn_r _ [27, 2, 1, 53, 54, 55, 56, 57, 58, 59, 60, 61, 62, 63, 64, 65, 66, 67, 68, 69, 70] rfl (by decide +kernel)
set_option maxRecDepth 20000 in
theorem gX11_beats_X11_layHand : GoodIn wsX11_beats (wsV RX11 137 RX11 yX11_layHand wsX11_layHand) := goodIn_app (goodIn_of _ (by decide +kernel)) ggX11_beats_X11_layHand
set_option maxRecDepth 20000 in
theorem ggX11_best_X11_bad : GoodIn wsX11_best wsX11_bad := goodIn_r _ [19, 20, 50, 51, 52, 53, 54, 55, 56, 57, 58, 59, 60, 61, 62, 63, 64, 65, 66, 67] rfl (by decide +kernel)
set_option maxRecDepth 20000 in
theorem gX11_best_X11_bad : GoodIn wsX11_best (wsV RX11 68 RX11 yX11_bad wsX11_bad) := goodIn_app (goodIn_of _ (by decide +kernel)) ggX11_best_X11_bad
set_option maxRecDepth 20000 in
theorem ggX11_best_X11_homeAtHand : GoodIn wsX11_best wsX11_homeAtHand := goodIn_r _ [31, 3, 21, 22, 7, 23, 32, 33, 34, 35, 36, 37, 38, 39, 40, 41, 42, 43, 44, 45, 46, 47, 48, 49, 50, 51, 52, 53, 54, 55, 56, 57, 58, 59, 60, 61, 62, 63, 64, 65, 66, 67] rfl (by decide +kernel)
set_option maxRecDepth 20000 in
theorem gX11_best_X11_homeAtHand : GoodIn wsX11_best (wsV RX11 144 RX11 yX11_homeAtHand wsX11_homeAtHand) := goodIn_app (goodIn_of _ (by decide +kernel)) ggX11_best_X11_homeAtHand
set_option maxRecDepth 20000 in
theorem ggX11_best_X11_in : GoodIn wsX11_best wsX11_in := goodIn_r _ [15] rfl (by decide +kernel)
set_option maxRecDepth 20000 in
theorem gX11_best_X11_in : GoodIn wsX11_best (va_wsS RX11 56 yX11_in wsX11_in) := goodIn_app (goodIn_of _ (by decide +kernel)) ggX11_best_X11_in
set_option maxRecDepth 20000 in
theorem ggX11_best_X11_isHome : GoodIn wsX11_best wsX11_isHome := goodIn_r _ [23] rfl (by decide +kernel)
set_option maxRecDepth 20000 in
theorem gX11_best_X11_isHome : GoodIn wsX11_best (va_wsS RX11 101 yX11_isHome wsX11_isHome) := goodIn_app (goodIn_of _ (by decide +kernel)) ggX11_best_X11_isHome
set_option maxRecDepth 20000 in
theorem ggX11_best_X11_isOne : GoodIn wsX11_best wsX11_isOne := goodIn_r _ [8, 9, 10, 11, 7, 12, 2, 13, 14, 15, 50, 51, 52, 53, 54, 55, 56, 57, 58, 59, 60, 61, 62, 63, 64, 65, 66, 67] rfl (by decide +kernel)
set_option maxRecDepth 20000 in
theorem gX11_best_X11_isOne : GoodIn wsX11_best (wsV RX11 123 RX11 yX11_isOne wsX11_isOne) := goodIn_app (goodIn_of _ (by decide +kernel)) ggX11_best_X11_isOne
set_option maxRecDepth 20000 in
theorem ggX11_best_X11_layHand : GoodIn wsX11_best wsX11_layHand := goodIn_r _ [27, 3, 2, 50, 51, 52, 53, 54, 55, 56, 57, 58, 59, 60, 61, 62, 63, 64, 65, 66, 67] rfl (by decide +kernel)
set_option maxRecDepth 20000 in
theorem gX11_best_X11_layHand : GoodIn wsX11_best (wsV RX11 137 RX11 yX11_layHand wsX11_layHand) := goodIn_app (goodIn_of _ (by decide +kernel)) ggX11_best_X11_layHand
set_option maxRecDepth 20000 in
theorem ggX11_close_X11_bad : GoodIn wsX11_close wsX11_bad := goodIn_r _ [19, 20, 46, 47, 48, 49, 50, 51, 52, 53, 54, 55, 56, 57, 58, 59, 60, 61, 62, 63] rfl (by decide +kernel)
set_option maxRecDepth 20000 in
theorem gX11_close_X11_bad : GoodIn wsX11_close (wsV RX11 68 RX11 yX11_bad wsX11_bad) := goodIn_app (goodIn_of _ (by decide +kernel)) ggX11_close_X11_bad
set_option maxRecDepth 20000 in
theorem ggX11_close_X11_goTick : GoodIn wsX11_close wsX11_goTick := goodIn_r _ [27, 28, 29, 6, 30, 31, 32, 33, 34, 35, 36, 37, 38, 39, 40, 41, 42, 43, 44, 45] rfl (by decide +kernel)
set_option maxRecDepth 20000 in
theorem gX11_close_X11_goTick : GoodIn wsX11_close (va_wsS RX11 109 yX11_goTick wsX11_goTick) := goodIn_app (goodIn_of _ (by decide +kernel)) ggX11_close_X11_goTick
set_option maxRecDepth 20000 in
theorem ggX11_close_X11_in : GoodIn wsX11_close wsX11_in := goodIn_r _ [15] rfl (by decide +kernel)
set_option maxRecDepth 20000 in
theorem gX11_close_X11_in : GoodIn wsX11_close (va_wsS RX11 56 yX11_in wsX11_in) := goodIn_app (goodIn_of _ (by decide +kernel)) ggX11_close_X11_in
set_option maxRecDepth 20000 in
theorem ggX11_close_X11_isOne : GoodIn wsX11_close wsX11_isOne := goodIn_r _ [7, 8, 9, 10, 6, 11, 12, 13, 14, 15, 46, 47, 48, 49, 50, 51, 52, 53, 54, 55, 56, 57, 58, 59, 60, 61, 62, 63] rfl (by decide +kernel)
set_option maxRecDepth 20000 in
theorem gX11_close_X11_isOne : GoodIn wsX11_close (wsV RX11 123 RX11 yX11_isOne wsX11_isOne) := goodIn_app (goodIn_of _ (by decide +kernel)) ggX11_close_X11_isOne
set_option maxRecDepth 20000 in
theorem ggX11_close_X11_layHand : GoodIn wsX11_close wsX11_layHand := goodIn_r _ [24, 2, 12, 46, 47, 48, 49, 50, 51, 52, 53, 54, 55, 56, 57, 58, 59, 60, 61, 62, 63] rfl (by decide +kernel)
set_option maxRecDepth 20000 in
theorem gX11_close_X11_layHand : GoodIn wsX11_close (wsV RX11 137 RX11 yX11_layHand wsX11_layHand) := goodIn_app (goodIn_of _ (by decide +kernel)) ggX11_close_X11_layHand
set_option maxRecDepth 20000 in
theorem ggX11_order_X11_bad : GoodIn wsX11_order wsX11_bad := goodIn_r _ [9, 10, 53, 54, 55, 56, 57, 58, 59, 60, 61, 62, 63, 64, 65, 66, 67, 68, 69, 70] rfl (by decide +kernel)
set_option maxRecDepth 20000 in
theorem gX11_order_X11_bad : GoodIn wsX11_order (wsV RX11 68 RX11 yX11_bad wsX11_bad) := goodIn_app (goodIn_of _ (by decide +kernel)) ggX11_order_X11_bad
set_option maxRecDepth 20000 in
theorem ggX11_order_X11_homeOf : GoodIn wsX11_order wsX11_homeOf := goodIn_r _ [22, 23, 24, 25, 8, 26, 27, 2, 28, 29, 30, 31, 32, 33, 34, 35, 36, 37, 38, 39, 40, 41, 42, 43, 44, 45, 46, 47, 48, 49, 50, 51, 52, 53, 54, 55, 56, 57, 58, 59, 60, 61, 62, 63, 64, 65, 66, 67, 68, 69, 70] rfl (by decide +kernel)
set_option maxRecDepth 20000 in
theorem gX11_order_X11_homeOf : GoodIn wsX11_order (wsV RX11 147 RX11 yX11_homeOf wsX11_homeOf) := goodIn_app (goodIn_of _ (by decide +kernel)) ggX11_order_X11_homeOf
set_option maxRecDepth 20000 in
theorem ggX11_order_X11_isHome : GoodIn wsX11_order wsX11_isHome := goodIn_r _ [34] rfl (by decide +kernel)
set_option maxRecDepth 20000 in
theorem gX11_order_X11_isHome : GoodIn wsX11_order (va_wsS RX11 101 yX11_isHome wsX11_isHome) := goodIn_app (goodIn_of _ (by decide +kernel)) ggX11_order_X11_isHome
set_option maxRecDepth 20000 in
theorem ggX11_order_X11_many : GoodIn wsX11_order wsX11_many := goodIn_r _ [14, 2, 53, 54, 55, 56, 57, 58, 59, 60, 61, 62, 63, 64, 65, 66, 67, 68, 69, 70] rfl (by decide +kernel)
set_option maxRecDepth 20000 in
theorem gX11_order_X11_many : GoodIn wsX11_order (wsV RX11 52 RX11 yX11_many wsX11_many) := goodIn_app (goodIn_of _ (by decide +kernel)) ggX11_order_X11_many
set_option maxRecDepth 20000 in
theorem ggX11_order_X11_no : GoodIn wsX11_order wsX11_no := goodIn_r _ [18, 10, 53, 54, 55, 56, 57, 58, 59, 60, 61, 62, 63, 64, 65, 66, 67, 68, 69, 70] rfl (by decide +kernel)
set_option maxRecDepth 20000 in
theorem gX11_order_X11_no : GoodIn wsX11_order (wsV RX11 129 RX11 yX11_no wsX11_no) := goodIn_app (goodIn_of _ (by decide +kernel)) ggX11_order_X11_no
set_option maxRecDepth 20000 in
theorem ggX11_turn_X11_bad : GoodIn wsX11_turn wsX11_bad := goodIn_r _ [23, 24, 58, 59, 60, 61, 62, 63, 64, 65, 66, 67, 68, 69, 70, 71, 72, 73, 74, 75] rfl (by decide +kernel)
set_option maxRecDepth 20000 in
theorem gX11_turn_X11_bad : GoodIn wsX11_turn (wsV RX11 68 RX11 yX11_bad wsX11_bad) := goodIn_app (goodIn_of _ (by decide +kernel)) ggX11_turn_X11_bad
set_option maxRecDepth 20000 in
theorem ggX11_turn_X11_goAhead : GoodIn wsX11_turn wsX11_goAhead := goodIn_r _ [57, 3, 36, 37, 7, 38, 25, 26, 27, 39, 40, 41, 42, 43, 44, 45, 46, 47, 48, 49, 50, 51, 52, 53, 58, 59, 60, 61, 62, 63, 64, 65, 66, 67, 68, 69, 70, 71, 72, 73, 74, 75] rfl (by decide +kernel)
set_option maxRecDepth 20000 in
theorem gX11_turn_X11_goAhead : GoodIn wsX11_turn (wsV RX11 140 RX11 yX11_goAhead wsX11_goAhead) := goodIn_app (goodIn_of _ (by decide +kernel)) ggX11_turn_X11_goAhead
set_option maxRecDepth 20000 in
theorem ggX11_turn_X11_homeAtHand : GoodIn wsX11_turn wsX11_homeAtHand := goodIn_r _ [35, 3, 25, 26, 7, 27, 36, 37, 38, 39, 40, 41, 42, 43, 44, 45, 46, 47, 48, 49, 50, 51, 52, 53, 58, 59, 60, 61, 62, 63, 64, 65, 66, 67, 68, 69, 70, 71, 72, 73, 74, 75] rfl (by decide +kernel)
set_option maxRecDepth 20000 in
theorem gX11_turn_X11_homeAtHand : GoodIn wsX11_turn (wsV RX11 144 RX11 yX11_homeAtHand wsX11_homeAtHand) := goodIn_app (goodIn_of _ (by decide +kernel)) ggX11_turn_X11_homeAtHand
set_option maxRecDepth 20000 in
theorem ggX11_turn_X11_in : GoodIn wsX11_turn wsX11_in := goodIn_r _ [15] rfl (by decide +kernel)
set_option maxRecDepth 20000 in
theorem gX11_turn_X11_in : GoodIn wsX11_turn (va_wsS RX11 56 yX11_in wsX11_in) := goodIn_app (goodIn_of _ (by decide +kernel)) ggX11_turn_X11_in
set_option maxRecDepth 20000 in
theorem ggX11_turn_X11_isHome : GoodIn wsX11_turn wsX11_isHome := goodIn_r _ [27] rfl (by decide +kernel)
set_option maxRecDepth 20000 in
theorem gX11_turn_X11_isHome : GoodIn wsX11_turn (va_wsS RX11 101 yX11_isHome wsX11_isHome) := goodIn_app (goodIn_of _ (by decide +kernel)) ggX11_turn_X11_isHome
set_option maxRecDepth 20000 in
theorem ggX11_turn_X11_isOne : GoodIn wsX11_turn wsX11_isOne := goodIn_r _ [8, 9, 10, 11, 7, 12, 2, 13, 14, 15, 58, 59, 60, 61, 62, 63, 64, 65, 66, 67, 68, 69, 70, 71, 72, 73, 74, 75] rfl (by decide +kernel)
set_option maxRecDepth 20000 in
theorem gX11_turn_X11_isOne : GoodIn wsX11_turn (wsV RX11 123 RX11 yX11_isOne wsX11_isOne) := goodIn_app (goodIn_of _ (by decide +kernel)) ggX11_turn_X11_isOne
set_option maxRecDepth 20000 in
theorem ggX11_turn_X11_isSpeed : GoodIn wsX11_turn wsX11_isSpeed := goodIn_r _ [18, 19, 13, 14, 7, 15] rfl (by decide +kernel)
set_option maxRecDepth 20000 in
theorem gX11_turn_X11_isSpeed : GoodIn wsX11_turn (va_wsS RX11 126 yX11_isSpeed wsX11_isSpeed) := goodIn_app (goodIn_of _ (by decide +kernel)) ggX11_turn_X11_isSpeed
set_option maxRecDepth 20000 in
theorem ggX11_turn_X11_layHand : GoodIn wsX11_turn wsX11_layHand := goodIn_r _ [31, 3, 2, 58, 59, 60, 61, 62, 63, 64, 65, 66, 67, 68, 69, 70, 71, 72, 73, 74, 75] rfl (by decide +kernel)
set_option maxRecDepth 20000 in
theorem gX11_turn_X11_layHand : GoodIn wsX11_turn (wsV RX11 137 RX11 yX11_layHand wsX11_layHand) := goodIn_app (goodIn_of _ (by decide +kernel)) ggX11_turn_X11_layHand
theorem dX11_beats_0 : decode cX11_beats 0 = .ok (.aload_n 0, 1) := by decide +kernel
theorem dX11_beats_1 : decode cX11_beats 1 = .ok (.iload_n 1, 1) := by decide +kernel
theorem dX11_beats_10 : decode cX11_beats 10 = .ok (.invokevirtual 123, 3) := by decide +kernel
theorem dX11_beats_101 : decode cX11_beats 101 = .ok (.iconst (-1), 1) := by decide +kernel
theorem dX11_beats_102 : decode cX11_beats 102 = .ok (.if_icmp .eq 17, 3) := by decide +kernel
theorem dX11_beats_105 : decode cX11_beats 105 = .ok (.iload_n 3, 1) := by decide +kernel
theorem dX11_beats_106 : decode cX11_beats 106 = .ok (.iconst (-1), 1) := by decide +kernel
theorem dX11_beats_107 : decode cX11_beats 107 = .ok (.if_icmp .eq 9, 3) := by decide +kernel
theorem dX11_beats_110 : decode cX11_beats 110 = .ok (.iload 5, 2) := by decide +kernel
theorem dX11_beats_112 : decode cX11_beats 112 = .ok (.iload_n 3, 1) := by decide +kernel
theorem dX11_beats_113 : decode cX11_beats 113 = .ok (.if_icmp .ge 6, 3) := by decide +kernel
theorem dX11_beats_116 : decode cX11_beats 116 = .ok (.iload 4, 2) := by decide +kernel
theorem dX11_beats_118 : decode cX11_beats 118 = .ok (.ireturn, 1) := by decide +kernel
theorem dX11_beats_119 : decode cX11_beats 119 = .ok (.iinc 4 1, 3) := by decide +kernel
theorem dX11_beats_122 : decode cX11_beats 122 = .ok (.goto (-85), 3) := by decide +kernel
theorem dX11_beats_125 : decode cX11_beats 125 = .ok (.iconst (-1), 1) := by decide +kernel
theorem dX11_beats_126 : decode cX11_beats 126 = .ok (.ireturn, 1) := by decide +kernel
theorem dX11_beats_13 : decode cX11_beats 13 = .ok (.ifCond .eq 8, 3) := by decide +kernel
theorem dX11_beats_16 : decode cX11_beats 16 = .ok (.iload_n 1, 1) := by decide +kernel
theorem dX11_beats_17 : decode cX11_beats 17 = .ok (.iload_n 2, 1) := by decide +kernel
theorem dX11_beats_18 : decode cX11_beats 18 = .ok (.if_icmp .ne 10, 3) := by decide +kernel
theorem dX11_beats_2 : decode cX11_beats 2 = .ok (.invokevirtual 123, 3) := by decide +kernel
theorem dX11_beats_21 : decode cX11_beats 21 = .ok (.aload_n 0, 1) := by decide +kernel
theorem dX11_beats_22 : decode cX11_beats 22 = .ok (.bipush (-2), 2) := by decide +kernel
theorem dX11_beats_24 : decode cX11_beats 24 = .ok (.invokevirtual 68, 3) := by decide +kernel
theorem dX11_beats_27 : decode cX11_beats 27 = .ok (.ireturn, 1) := by decide +kernel
theorem dX11_beats_28 : decode cX11_beats 28 = .ok (.aload_n 0, 1) := by decide +kernel
theorem dX11_beats_29 : decode cX11_beats 29 = .ok (.iload_n 2, 1) := by decide +kernel
theorem dX11_beats_30 : decode cX11_beats 30 = .ok (.invokevirtual 147, 3) := by decide +kernel
theorem dX11_beats_33 : decode cX11_beats 33 = .ok (.istore_n 3, 1) := by decide +kernel
theorem dX11_beats_34 : decode cX11_beats 34 = .ok (.iconst 0, 1) := by decide +kernel
theorem dX11_beats_35 : decode cX11_beats 35 = .ok (.istore 4, 2) := by decide +kernel
theorem dX11_beats_37 : decode cX11_beats 37 = .ok (.iload 4, 2) := by decide +kernel
theorem dX11_beats_39 : decode cX11_beats 39 = .ok (.bipush 30, 2) := by decide +kernel
theorem dX11_beats_41 : decode cX11_beats 41 = .ok (.if_icmp .gt 84, 3) := by decide +kernel
theorem dX11_beats_44 : decode cX11_beats 44 = .ok (.aload_n 0, 1) := by decide +kernel
theorem dX11_beats_45 : decode cX11_beats 45 = .ok (.getfield 7, 3) := by decide +kernel
theorem dX11_beats_48 : decode cX11_beats 48 = .ok (.iload_n 1, 1) := by decide +kernel
theorem dX11_beats_49 : decode cX11_beats 49 = .ok (.invokestatic 101, 3) := by decide +kernel
theorem dX11_beats_5 : decode cX11_beats 5 = .ok (.ifCond .eq 16, 3) := by decide +kernel
theorem dX11_beats_52 : decode cX11_beats 52 = .ok (.ifCond .ne 73, 3) := by decide +kernel
theorem dX11_beats_55 : decode cX11_beats 55 = .ok (.aload_n 0, 1) := by decide +kernel
theorem dX11_beats_56 : decode cX11_beats 56 = .ok (.invokevirtual 137, 3) := by decide +kernel
theorem dX11_beats_59 : decode cX11_beats 59 = .ok (.aload_n 0, 1) := by decide +kernel
theorem dX11_beats_60 : decode cX11_beats 60 = .ok (.getfield 27, 3) := by decide +kernel
theorem dX11_beats_63 : decode cX11_beats 63 = .ok (.iconst 5, 1) := by decide +kernel
theorem dX11_beats_64 : decode cX11_beats 64 = .ok (.iload_n 1, 1) := by decide +kernel
theorem dX11_beats_65 : decode cX11_beats 65 = .ok (.iadd, 1) := by decide +kernel
theorem dX11_beats_66 : decode cX11_beats 66 = .ok (.dup2, 1) := by decide +kernel
theorem dX11_beats_67 : decode cX11_beats 67 = .ok (.iaload, 1) := by decide +kernel
theorem dX11_beats_68 : decode cX11_beats 68 = .ok (.iload 4, 2) := by decide +kernel
theorem dX11_beats_70 : decode cX11_beats 70 = .ok (.iadd, 1) := by decide +kernel
theorem dX11_beats_71 : decode cX11_beats 71 = .ok (.iastore, 1) := by decide +kernel
theorem dX11_beats_72 : decode cX11_beats 72 = .ok (.aload_n 0, 1) := by decide +kernel
theorem dX11_beats_73 : decode cX11_beats 73 = .ok (.getfield 27, 3) := by decide +kernel
theorem dX11_beats_76 : decode cX11_beats 76 = .ok (.iconst 5, 1) := by decide +kernel
theorem dX11_beats_77 : decode cX11_beats 77 = .ok (.iload_n 1, 1) := by decide +kernel
theorem dX11_beats_78 : decode cX11_beats 78 = .ok (.iadd, 1) := by decide +kernel
theorem dX11_beats_79 : decode cX11_beats 79 = .ok (.iaload, 1) := by decide +kernel
theorem dX11_beats_8 : decode cX11_beats 8 = .ok (.aload_n 0, 1) := by decide +kernel
theorem dX11_beats_80 : decode cX11_beats 80 = .ok (.aload_n 0, 1) := by decide +kernel
theorem dX11_beats_81 : decode cX11_beats 81 = .ok (.getfield 7, 3) := by decide +kernel
theorem dX11_beats_84 : decode cX11_beats 84 = .ok (.bipush 36, 2) := by decide +kernel
theorem dX11_beats_86 : decode cX11_beats 86 = .ok (.iaload, 1) := by decide +kernel
theorem dX11_beats_87 : decode cX11_beats 87 = .ok (.if_icmp .ge 32, 3) := by decide +kernel
theorem dX11_beats_9 : decode cX11_beats 9 = .ok (.iload_n 2, 1) := by decide +kernel
theorem dX11_beats_90 : decode cX11_beats 90 = .ok (.aload_n 0, 1) := by decide +kernel
theorem dX11_beats_91 : decode cX11_beats 91 = .ok (.iload_n 1, 1) := by decide +kernel
theorem dX11_beats_92 : decode cX11_beats 92 = .ok (.bipush 60, 2) := by decide +kernel
theorem dX11_beats_94 : decode cX11_beats 94 = .ok (.invokevirtual 144, 3) := by decide +kernel
theorem dX11_beats_97 : decode cX11_beats 97 = .ok (.istore 5, 2) := by decide +kernel
theorem dX11_beats_99 : decode cX11_beats 99 = .ok (.iload 5, 2) := by decide +kernel
theorem dX11_best_0 : decode cX11_best 0 = .ok (.aload_n 0, 1) := by decide +kernel
theorem dX11_best_1 : decode cX11_best 1 = .ok (.iload_n 1, 1) := by decide +kernel
theorem dX11_best_10 : decode cX11_best 10 = .ok (.lconst 0, 1) := by decide +kernel
theorem dX11_best_102 : decode cX11_best 102 = .ok (.iload_n 3, 1) := by decide +kernel
theorem dX11_best_103 : decode cX11_best 103 = .ok (.iconst (-1), 1) := by decide +kernel
theorem dX11_best_104 : decode cX11_best 104 = .ok (.if_icmp .eq 7, 3) := by decide +kernel
theorem dX11_best_107 : decode cX11_best 107 = .ok (.iload_n 2, 1) := by decide +kernel
theorem dX11_best_108 : decode cX11_best 108 = .ok (.ifCond .ne 7, 3) := by decide +kernel
theorem dX11_best_11 : decode cX11_best 11 = .ok (.lconst 1, 1) := by decide +kernel
theorem dX11_best_111 : decode cX11_best 111 = .ok (.iload_n 3, 1) := by decide +kernel
theorem dX11_best_112 : decode cX11_best 112 = .ok (.goto 5, 3) := by decide +kernel
theorem dX11_best_115 : decode cX11_best 115 = .ok (.iload 4, 2) := by decide +kernel
theorem dX11_best_117 : decode cX11_best 117 = .ok (.ireturn, 1) := by decide +kernel
theorem dX11_best_12 : decode cX11_best 12 = .ok (.invokestatic 56, 3) := by decide +kernel
theorem dX11_best_15 : decode cX11_best 15 = .ok (.ifCond .ne 10, 3) := by decide +kernel
theorem dX11_best_18 : decode cX11_best 18 = .ok (.aload_n 0, 1) := by decide +kernel
theorem dX11_best_19 : decode cX11_best 19 = .ok (.bipush (-2), 2) := by decide +kernel
theorem dX11_best_2 : decode cX11_best 2 = .ok (.invokevirtual 123, 3) := by decide +kernel
theorem dX11_best_21 : decode cX11_best 21 = .ok (.invokevirtual 68, 3) := by decide +kernel
theorem dX11_best_24 : decode cX11_best 24 = .ok (.ireturn, 1) := by decide +kernel
theorem dX11_best_25 : decode cX11_best 25 = .ok (.iconst (-1), 1) := by decide +kernel
theorem dX11_best_26 : decode cX11_best 26 = .ok (.istore_n 3, 1) := by decide +kernel
theorem dX11_best_27 : decode cX11_best 27 = .ok (.ldc 150, 2) := by decide +kernel
theorem dX11_best_29 : decode cX11_best 29 = .ok (.istore 4, 2) := by decide +kernel
theorem dX11_best_31 : decode cX11_best 31 = .ok (.iconst 0, 1) := by decide +kernel
theorem dX11_best_32 : decode cX11_best 32 = .ok (.istore 5, 2) := by decide +kernel
theorem dX11_best_34 : decode cX11_best 34 = .ok (.iload 5, 2) := by decide +kernel
theorem dX11_best_36 : decode cX11_best 36 = .ok (.bipush 10, 2) := by decide +kernel
theorem dX11_best_38 : decode cX11_best 38 = .ok (.if_icmp .ge 64, 3) := by decide +kernel
theorem dX11_best_41 : decode cX11_best 41 = .ok (.aload_n 0, 1) := by decide +kernel
theorem dX11_best_42 : decode cX11_best 42 = .ok (.getfield 7, 3) := by decide +kernel
theorem dX11_best_45 : decode cX11_best 45 = .ok (.iload_n 1, 1) := by decide +kernel
theorem dX11_best_46 : decode cX11_best 46 = .ok (.invokestatic 101, 3) := by decide +kernel
theorem dX11_best_49 : decode cX11_best 49 = .ok (.ifCond .ne 53, 3) := by decide +kernel
theorem dX11_best_5 : decode cX11_best 5 = .ok (.ifCond .eq 13, 3) := by decide +kernel
theorem dX11_best_52 : decode cX11_best 52 = .ok (.aload_n 0, 1) := by decide +kernel
theorem dX11_best_53 : decode cX11_best 53 = .ok (.invokevirtual 137, 3) := by decide +kernel
theorem dX11_best_56 : decode cX11_best 56 = .ok (.aload_n 0, 1) := by decide +kernel
theorem dX11_best_57 : decode cX11_best 57 = .ok (.getfield 27, 3) := by decide +kernel
theorem dX11_best_60 : decode cX11_best 60 = .ok (.bipush 11, 2) := by decide +kernel
theorem dX11_best_62 : decode cX11_best 62 = .ok (.iload_n 1, 1) := by decide +kernel
theorem dX11_best_63 : decode cX11_best 63 = .ok (.iadd, 1) := by decide +kernel
theorem dX11_best_64 : decode cX11_best 64 = .ok (.iload 5, 2) := by decide +kernel
theorem dX11_best_66 : decode cX11_best 66 = .ok (.iastore, 1) := by decide +kernel
theorem dX11_best_67 : decode cX11_best 67 = .ok (.aload_n 0, 1) := by decide +kernel
theorem dX11_best_68 : decode cX11_best 68 = .ok (.iload_n 1, 1) := by decide +kernel
theorem dX11_best_69 : decode cX11_best 69 = .ok (.bipush 60, 2) := by decide +kernel
theorem dX11_best_71 : decode cX11_best 71 = .ok (.invokevirtual 144, 3) := by decide +kernel
theorem dX11_best_74 : decode cX11_best 74 = .ok (.istore 6, 2) := by decide +kernel
theorem dX11_best_76 : decode cX11_best 76 = .ok (.iload 6, 2) := by decide +kernel
theorem dX11_best_78 : decode cX11_best 78 = .ok (.iconst (-1), 1) := by decide +kernel
theorem dX11_best_79 : decode cX11_best 79 = .ok (.if_icmp .eq 17, 3) := by decide +kernel
theorem dX11_best_8 : decode cX11_best 8 = .ok (.iload_n 2, 1) := by decide +kernel
theorem dX11_best_82 : decode cX11_best 82 = .ok (.iload 6, 2) := by decide +kernel
theorem dX11_best_84 : decode cX11_best 84 = .ok (.iload 4, 2) := by decide +kernel
theorem dX11_best_86 : decode cX11_best 86 = .ok (.if_icmp .ge 10, 3) := by decide +kernel
theorem dX11_best_89 : decode cX11_best 89 = .ok (.iload 5, 2) := by decide +kernel
theorem dX11_best_9 : decode cX11_best 9 = .ok (.i2l, 1) := by decide +kernel
theorem dX11_best_91 : decode cX11_best 91 = .ok (.istore_n 3, 1) := by decide +kernel
theorem dX11_best_92 : decode cX11_best 92 = .ok (.iload 6, 2) := by decide +kernel
theorem dX11_best_94 : decode cX11_best 94 = .ok (.istore 4, 2) := by decide +kernel
theorem dX11_best_96 : decode cX11_best 96 = .ok (.iinc 5 1, 3) := by decide +kernel
theorem dX11_best_99 : decode cX11_best 99 = .ok (.goto (-65), 3) := by decide +kernel
theorem dX11_close_0 : decode cX11_close 0 = .ok (.aload_n 0, 1) := by decide +kernel
theorem dX11_close_1 : decode cX11_close 1 = .ok (.iload_n 1, 1) := by decide +kernel
theorem dX11_close_10 : decode cX11_close 10 = .ok (.invokevirtual 123, 3) := by decide +kernel
theorem dX11_close_100 : decode cX11_close 100 = .ok (.iload 6, 2) := by decide +kernel
theorem dX11_close_102 : decode cX11_close 102 = .ok (.goto 5, 3) := by decide +kernel
theorem dX11_close_105 : decode cX11_close 105 = .ok (.iload 4, 2) := by decide +kernel
theorem dX11_close_107 : decode cX11_close 107 = .ok (.istore 4, 2) := by decide +kernel
theorem dX11_close_109 : decode cX11_close 109 = .ok (.iload 7, 2) := by decide +kernel
theorem dX11_close_111 : decode cX11_close 111 = .ok (.iload 5, 2) := by decide +kernel
theorem dX11_close_113 : decode cX11_close 113 = .ok (.if_icmp .ge 8, 3) := by decide +kernel
theorem dX11_close_116 : decode cX11_close 116 = .ok (.iload 7, 2) := by decide +kernel
theorem dX11_close_118 : decode cX11_close 118 = .ok (.goto 5, 3) := by decide +kernel
theorem dX11_close_121 : decode cX11_close 121 = .ok (.iload 5, 2) := by decide +kernel
theorem dX11_close_123 : decode cX11_close 123 = .ok (.istore 5, 2) := by decide +kernel
theorem dX11_close_125 : decode cX11_close 125 = .ok (.aload_n 0, 1) := by decide +kernel
theorem dX11_close_126 : decode cX11_close 126 = .ok (.getfield 27, 3) := by decide +kernel
theorem dX11_close_129 : decode cX11_close 129 = .ok (.invokestatic 109, 3) := by decide +kernel
theorem dX11_close_13 : decode cX11_close 13 = .ok (.ifCond .eq 18, 3) := by decide +kernel
theorem dX11_close_132 : decode cX11_close 132 = .ok (.iinc 6 1, 3) := by decide +kernel
theorem dX11_close_135 : decode cX11_close 135 = .ok (.goto (-83), 3) := by decide +kernel
theorem dX11_close_138 : decode cX11_close 138 = .ok (.iload_n 3, 1) := by decide +kernel
theorem dX11_close_139 : decode cX11_close 139 = .ok (.ifCond .ne 8, 3) := by decide +kernel
theorem dX11_close_142 : decode cX11_close 142 = .ok (.iload 4, 2) := by decide +kernel
theorem dX11_close_144 : decode cX11_close 144 = .ok (.goto 5, 3) := by decide +kernel
theorem dX11_close_147 : decode cX11_close 147 = .ok (.iload 5, 2) := by decide +kernel
theorem dX11_close_149 : decode cX11_close 149 = .ok (.ireturn, 1) := by decide +kernel
theorem dX11_close_16 : decode cX11_close 16 = .ok (.iload_n 1, 1) := by decide +kernel
theorem dX11_close_17 : decode cX11_close 17 = .ok (.iload_n 2, 1) := by decide +kernel
theorem dX11_close_18 : decode cX11_close 18 = .ok (.if_icmp .eq 13, 3) := by decide +kernel
theorem dX11_close_2 : decode cX11_close 2 = .ok (.invokevirtual 123, 3) := by decide +kernel
theorem dX11_close_21 : decode cX11_close 21 = .ok (.iload_n 3, 1) := by decide +kernel
theorem dX11_close_22 : decode cX11_close 22 = .ok (.i2l, 1) := by decide +kernel
theorem dX11_close_23 : decode cX11_close 23 = .ok (.lconst 0, 1) := by decide +kernel
theorem dX11_close_24 : decode cX11_close 24 = .ok (.lconst 1, 1) := by decide +kernel
theorem dX11_close_25 : decode cX11_close 25 = .ok (.invokestatic 56, 3) := by decide +kernel
theorem dX11_close_28 : decode cX11_close 28 = .ok (.ifCond .ne 10, 3) := by decide +kernel
theorem dX11_close_31 : decode cX11_close 31 = .ok (.aload_n 0, 1) := by decide +kernel
theorem dX11_close_32 : decode cX11_close 32 = .ok (.bipush (-2), 2) := by decide +kernel
theorem dX11_close_34 : decode cX11_close 34 = .ok (.invokevirtual 68, 3) := by decide +kernel
theorem dX11_close_37 : decode cX11_close 37 = .ok (.ireturn, 1) := by decide +kernel
theorem dX11_close_38 : decode cX11_close 38 = .ok (.iconst 0, 1) := by decide +kernel
theorem dX11_close_39 : decode cX11_close 39 = .ok (.istore 4, 2) := by decide +kernel
theorem dX11_close_41 : decode cX11_close 41 = .ok (.ldc 150, 2) := by decide +kernel
theorem dX11_close_43 : decode cX11_close 43 = .ok (.istore 5, 2) := by decide +kernel
theorem dX11_close_45 : decode cX11_close 45 = .ok (.aload_n 0, 1) := by decide +kernel
theorem dX11_close_46 : decode cX11_close 46 = .ok (.invokevirtual 137, 3) := by decide +kernel
theorem dX11_close_49 : decode cX11_close 49 = .ok (.iconst 0, 1) := by decide +kernel
theorem dX11_close_5 : decode cX11_close 5 = .ok (.ifCond .eq 26, 3) := by decide +kernel
theorem dX11_close_50 : decode cX11_close 50 = .ok (.istore 6, 2) := by decide +kernel
theorem dX11_close_52 : decode cX11_close 52 = .ok (.iload 6, 2) := by decide +kernel
theorem dX11_close_54 : decode cX11_close 54 = .ok (.bipush 60, 2) := by decide +kernel
theorem dX11_close_56 : decode cX11_close 56 = .ok (.if_icmp .gt 82, 3) := by decide +kernel
theorem dX11_close_59 : decode cX11_close 59 = .ok (.aload_n 0, 1) := by decide +kernel
theorem dX11_close_60 : decode cX11_close 60 = .ok (.getfield 27, 3) := by decide +kernel
theorem dX11_close_63 : decode cX11_close 63 = .ok (.iconst 5, 1) := by decide +kernel
theorem dX11_close_64 : decode cX11_close 64 = .ok (.iload_n 1, 1) := by decide +kernel
theorem dX11_close_65 : decode cX11_close 65 = .ok (.iadd, 1) := by decide +kernel
theorem dX11_close_66 : decode cX11_close 66 = .ok (.iaload, 1) := by decide +kernel
theorem dX11_close_67 : decode cX11_close 67 = .ok (.aload_n 0, 1) := by decide +kernel
theorem dX11_close_68 : decode cX11_close 68 = .ok (.getfield 27, 3) := by decide +kernel
theorem dX11_close_71 : decode cX11_close 71 = .ok (.iconst 5, 1) := by decide +kernel
theorem dX11_close_72 : decode cX11_close 72 = .ok (.iload_n 2, 1) := by decide +kernel
theorem dX11_close_73 : decode cX11_close 73 = .ok (.iadd, 1) := by decide +kernel
theorem dX11_close_74 : decode cX11_close 74 = .ok (.iaload, 1) := by decide +kernel
theorem dX11_close_75 : decode cX11_close 75 = .ok (.isub, 1) := by decide +kernel
theorem dX11_close_76 : decode cX11_close 76 = .ok (.istore 7, 2) := by decide +kernel
theorem dX11_close_78 : decode cX11_close 78 = .ok (.iload 7, 2) := by decide +kernel
theorem dX11_close_8 : decode cX11_close 8 = .ok (.aload_n 0, 1) := by decide +kernel
theorem dX11_close_80 : decode cX11_close 80 = .ok (.ifCond .ge 9, 3) := by decide +kernel
theorem dX11_close_83 : decode cX11_close 83 = .ok (.iload 7, 2) := by decide +kernel
theorem dX11_close_85 : decode cX11_close 85 = .ok (.ineg, 1) := by decide +kernel
theorem dX11_close_86 : decode cX11_close 86 = .ok (.goto 5, 3) := by decide +kernel
theorem dX11_close_89 : decode cX11_close 89 = .ok (.iload 7, 2) := by decide +kernel
theorem dX11_close_9 : decode cX11_close 9 = .ok (.iload_n 2, 1) := by decide +kernel
theorem dX11_close_91 : decode cX11_close 91 = .ok (.istore 7, 2) := by decide +kernel
theorem dX11_close_93 : decode cX11_close 93 = .ok (.iload 7, 2) := by decide +kernel
theorem dX11_close_95 : decode cX11_close 95 = .ok (.iload 5, 2) := by decide +kernel
theorem dX11_close_97 : decode cX11_close 97 = .ok (.if_icmp .ge 8, 3) := by decide +kernel
theorem dX11_order_0 : decode cX11_order 0 = .ok (.iload_n 1, 1) := by decide +kernel
theorem dX11_order_1 : decode cX11_order 1 = .ok (.ifCond .ge 10, 3) := by decide +kernel
theorem dX11_order_10 : decode cX11_order 10 = .ok (.ireturn, 1) := by decide +kernel
theorem dX11_order_100 : decode cX11_order 100 = .ok (.istore_n 3, 1) := by decide +kernel
theorem dX11_order_101 : decode cX11_order 101 = .ok (.iconst 0, 1) := by decide +kernel
theorem dX11_order_102 : decode cX11_order 102 = .ok (.istore 4, 2) := by decide +kernel
theorem dX11_order_104 : decode cX11_order 104 = .ok (.iload 4, 2) := by decide +kernel
theorem dX11_order_106 : decode cX11_order 106 = .ok (.aload_n 0, 1) := by decide +kernel
theorem dX11_order_107 : decode cX11_order 107 = .ok (.invokevirtual 52, 3) := by decide +kernel
theorem dX11_order_11 : decode cX11_order 11 = .ok (.iload_n 1, 1) := by decide +kernel
theorem dX11_order_110 : decode cX11_order 110 = .ok (.if_icmp .ge 55, 3) := by decide +kernel
theorem dX11_order_113 : decode cX11_order 113 = .ok (.iload_n 3, 1) := by decide +kernel
theorem dX11_order_114 : decode cX11_order 114 = .ok (.aload_n 0, 1) := by decide +kernel
theorem dX11_order_115 : decode cX11_order 115 = .ok (.getfield 30, 3) := by decide +kernel
theorem dX11_order_118 : decode cX11_order 118 = .ok (.iload 4, 2) := by decide +kernel
theorem dX11_order_12 : decode cX11_order 12 = .ok (.aload_n 0, 1) := by decide +kernel
theorem dX11_order_120 : decode cX11_order 120 = .ok (.iaload, 1) := by decide +kernel
theorem dX11_order_121 : decode cX11_order 121 = .ok (.aload_n 0, 1) := by decide +kernel
theorem dX11_order_122 : decode cX11_order 122 = .ok (.getfield 30, 3) := by decide +kernel
theorem dX11_order_125 : decode cX11_order 125 = .ok (.iload_n 2, 1) := by decide +kernel
theorem dX11_order_126 : decode cX11_order 126 = .ok (.iaload, 1) := by decide +kernel
theorem dX11_order_127 : decode cX11_order 127 = .ok (.if_icmp .lt 25, 3) := by decide +kernel
theorem dX11_order_13 : decode cX11_order 13 = .ok (.invokevirtual 52, 3) := by decide +kernel
theorem dX11_order_130 : decode cX11_order 130 = .ok (.aload_n 0, 1) := by decide +kernel
theorem dX11_order_131 : decode cX11_order 131 = .ok (.getfield 30, 3) := by decide +kernel
theorem dX11_order_134 : decode cX11_order 134 = .ok (.iload 4, 2) := by decide +kernel
theorem dX11_order_136 : decode cX11_order 136 = .ok (.iaload, 1) := by decide +kernel
theorem dX11_order_137 : decode cX11_order 137 = .ok (.aload_n 0, 1) := by decide +kernel
theorem dX11_order_138 : decode cX11_order 138 = .ok (.getfield 30, 3) := by decide +kernel
theorem dX11_order_141 : decode cX11_order 141 = .ok (.iload_n 2, 1) := by decide +kernel
theorem dX11_order_142 : decode cX11_order 142 = .ok (.iaload, 1) := by decide +kernel
theorem dX11_order_143 : decode cX11_order 143 = .ok (.if_icmp .ne 13, 3) := by decide +kernel
theorem dX11_order_146 : decode cX11_order 146 = .ok (.iload 4, 2) := by decide +kernel
theorem dX11_order_148 : decode cX11_order 148 = .ok (.iload_n 2, 1) := by decide +kernel
theorem dX11_order_149 : decode cX11_order 149 = .ok (.if_icmp .ge 7, 3) := by decide +kernel
theorem dX11_order_152 : decode cX11_order 152 = .ok (.iconst 1, 1) := by decide +kernel
theorem dX11_order_153 : decode cX11_order 153 = .ok (.goto 4, 3) := by decide +kernel
theorem dX11_order_156 : decode cX11_order 156 = .ok (.iconst 0, 1) := by decide +kernel
theorem dX11_order_157 : decode cX11_order 157 = .ok (.iadd, 1) := by decide +kernel
theorem dX11_order_158 : decode cX11_order 158 = .ok (.istore_n 3, 1) := by decide +kernel
theorem dX11_order_159 : decode cX11_order 159 = .ok (.iinc 4 1, 3) := by decide +kernel
theorem dX11_order_16 : decode cX11_order 16 = .ok (.if_icmp .lt 8, 3) := by decide +kernel
theorem dX11_order_162 : decode cX11_order 162 = .ok (.goto (-58), 3) := by decide +kernel
theorem dX11_order_165 : decode cX11_order 165 = .ok (.iload_n 3, 1) := by decide +kernel
theorem dX11_order_166 : decode cX11_order 166 = .ok (.iload_n 1, 1) := by decide +kernel
theorem dX11_order_167 : decode cX11_order 167 = .ok (.if_icmp .ne 5, 3) := by decide +kernel
theorem dX11_order_170 : decode cX11_order 170 = .ok (.iload_n 2, 1) := by decide +kernel
theorem dX11_order_171 : decode cX11_order 171 = .ok (.ireturn, 1) := by decide +kernel
theorem dX11_order_172 : decode cX11_order 172 = .ok (.iinc 2 1, 3) := by decide +kernel
theorem dX11_order_175 : decode cX11_order 175 = .ok (.goto (-84), 3) := by decide +kernel
theorem dX11_order_178 : decode cX11_order 178 = .ok (.iconst (-1), 1) := by decide +kernel
theorem dX11_order_179 : decode cX11_order 179 = .ok (.ireturn, 1) := by decide +kernel
theorem dX11_order_19 : decode cX11_order 19 = .ok (.aload_n 0, 1) := by decide +kernel
theorem dX11_order_20 : decode cX11_order 20 = .ok (.invokevirtual 129, 3) := by decide +kernel
theorem dX11_order_23 : decode cX11_order 23 = .ok (.ireturn, 1) := by decide +kernel
theorem dX11_order_24 : decode cX11_order 24 = .ok (.iconst 0, 1) := by decide +kernel
theorem dX11_order_25 : decode cX11_order 25 = .ok (.istore_n 2, 1) := by decide +kernel
theorem dX11_order_26 : decode cX11_order 26 = .ok (.iload_n 2, 1) := by decide +kernel
theorem dX11_order_27 : decode cX11_order 27 = .ok (.aload_n 0, 1) := by decide +kernel
theorem dX11_order_28 : decode cX11_order 28 = .ok (.invokevirtual 52, 3) := by decide +kernel
theorem dX11_order_31 : decode cX11_order 31 = .ok (.if_icmp .ge 58, 3) := by decide +kernel
theorem dX11_order_34 : decode cX11_order 34 = .ok (.aload_n 0, 1) := by decide +kernel
theorem dX11_order_35 : decode cX11_order 35 = .ok (.iload_n 2, 1) := by decide +kernel
theorem dX11_order_36 : decode cX11_order 36 = .ok (.invokevirtual 147, 3) := by decide +kernel
theorem dX11_order_39 : decode cX11_order 39 = .ok (.istore_n 3, 1) := by decide +kernel
theorem dX11_order_4 : decode cX11_order 4 = .ok (.aload_n 0, 1) := by decide +kernel
theorem dX11_order_40 : decode cX11_order 40 = .ok (.aload_n 0, 1) := by decide +kernel
theorem dX11_order_41 : decode cX11_order 41 = .ok (.getfield 30, 3) := by decide +kernel
theorem dX11_order_44 : decode cX11_order 44 = .ok (.iload_n 2, 1) := by decide +kernel
theorem dX11_order_45 : decode cX11_order 45 = .ok (.aload_n 0, 1) := by decide +kernel
theorem dX11_order_46 : decode cX11_order 46 = .ok (.getfield 7, 3) := by decide +kernel
theorem dX11_order_49 : decode cX11_order 49 = .ok (.iload_n 2, 1) := by decide +kernel
theorem dX11_order_5 : decode cX11_order 5 = .ok (.bipush (-2), 2) := by decide +kernel
theorem dX11_order_50 : decode cX11_order 50 = .ok (.invokestatic 101, 3) := by decide +kernel
theorem dX11_order_53 : decode cX11_order 53 = .ok (.ifCond .eq 15, 3) := by decide +kernel
theorem dX11_order_56 : decode cX11_order 56 = .ok (.aload_n 0, 1) := by decide +kernel
theorem dX11_order_57 : decode cX11_order 57 = .ok (.getfield 7, 3) := by decide +kernel
theorem dX11_order_60 : decode cX11_order 60 = .ok (.bipush 29, 2) := by decide +kernel
theorem dX11_order_62 : decode cX11_order 62 = .ok (.iload_n 2, 1) := by decide +kernel
theorem dX11_order_63 : decode cX11_order 63 = .ok (.iadd, 1) := by decide +kernel
theorem dX11_order_64 : decode cX11_order 64 = .ok (.iaload, 1) := by decide +kernel
theorem dX11_order_65 : decode cX11_order 65 = .ok (.goto 17, 3) := by decide +kernel
theorem dX11_order_68 : decode cX11_order 68 = .ok (.iload_n 3, 1) := by decide +kernel
theorem dX11_order_69 : decode cX11_order 69 = .ok (.iconst (-1), 1) := by decide +kernel
theorem dX11_order_7 : decode cX11_order 7 = .ok (.invokevirtual 68, 3) := by decide +kernel
theorem dX11_order_70 : decode cX11_order 70 = .ok (.if_icmp .ne 8, 3) := by decide +kernel
theorem dX11_order_73 : decode cX11_order 73 = .ok (.ldc 151, 2) := by decide +kernel
theorem dX11_order_75 : decode cX11_order 75 = .ok (.goto 7, 3) := by decide +kernel
theorem dX11_order_78 : decode cX11_order 78 = .ok (.ldc 150, 2) := by decide +kernel
theorem dX11_order_80 : decode cX11_order 80 = .ok (.iload_n 3, 1) := by decide +kernel
theorem dX11_order_81 : decode cX11_order 81 = .ok (.iadd, 1) := by decide +kernel
theorem dX11_order_82 : decode cX11_order 82 = .ok (.iastore, 1) := by decide +kernel
theorem dX11_order_83 : decode cX11_order 83 = .ok (.iinc 2 1, 3) := by decide +kernel
theorem dX11_order_86 : decode cX11_order 86 = .ok (.goto (-60), 3) := by decide +kernel
theorem dX11_order_89 : decode cX11_order 89 = .ok (.iconst 0, 1) := by decide +kernel
theorem dX11_order_90 : decode cX11_order 90 = .ok (.istore_n 2, 1) := by decide +kernel
theorem dX11_order_91 : decode cX11_order 91 = .ok (.iload_n 2, 1) := by decide +kernel
theorem dX11_order_92 : decode cX11_order 92 = .ok (.aload_n 0, 1) := by decide +kernel
theorem dX11_order_93 : decode cX11_order 93 = .ok (.invokevirtual 52, 3) := by decide +kernel
theorem dX11_order_96 : decode cX11_order 96 = .ok (.if_icmp .ge 82, 3) := by decide +kernel
theorem dX11_order_99 : decode cX11_order 99 = .ok (.iconst 0, 1) := by decide +kernel
theorem dX11_turn_0 : decode cX11_turn 0 = .ok (.aload_n 0, 1) := by decide +kernel
theorem dX11_turn_1 : decode cX11_turn 1 = .ok (.iload_n 1, 1) := by decide +kernel
theorem dX11_turn_100 : decode cX11_turn 100 = .ok (.iload_n 1, 1) := by decide +kernel
theorem dX11_turn_101 : decode cX11_turn 101 = .ok (.bipush 60, 2) := by decide +kernel
theorem dX11_turn_103 : decode cX11_turn 103 = .ok (.iload 6, 2) := by decide +kernel
theorem dX11_turn_105 : decode cX11_turn 105 = .ok (.isub, 1) := by decide +kernel
theorem dX11_turn_106 : decode cX11_turn 106 = .ok (.invokevirtual 144, 3) := by decide +kernel
theorem dX11_turn_109 : decode cX11_turn 109 = .ok (.istore 7, 2) := by decide +kernel
theorem dX11_turn_111 : decode cX11_turn 111 = .ok (.iload 7, 2) := by decide +kernel
theorem dX11_turn_113 : decode cX11_turn 113 = .ok (.iconst (-1), 1) := by decide +kernel
theorem dX11_turn_114 : decode cX11_turn 114 = .ok (.if_icmp .ne 7, 3) := by decide +kernel
theorem dX11_turn_117 : decode cX11_turn 117 = .ok (.iconst (-1), 1) := by decide +kernel
theorem dX11_turn_118 : decode cX11_turn 118 = .ok (.goto 8, 3) := by decide +kernel
theorem dX11_turn_12 : decode cX11_turn 12 = .ok (.ifCond .eq 13, 3) := by decide +kernel
theorem dX11_turn_121 : decode cX11_turn 121 = .ok (.iload 6, 2) := by decide +kernel
theorem dX11_turn_123 : decode cX11_turn 123 = .ok (.iload 7, 2) := by decide +kernel
theorem dX11_turn_125 : decode cX11_turn 125 = .ok (.iadd, 1) := by decide +kernel
theorem dX11_turn_126 : decode cX11_turn 126 = .ok (.istore 7, 2) := by decide +kernel
theorem dX11_turn_128 : decode cX11_turn 128 = .ok (.iload 7, 2) := by decide +kernel
theorem dX11_turn_130 : decode cX11_turn 130 = .ok (.iconst (-1), 1) := by decide +kernel
theorem dX11_turn_131 : decode cX11_turn 131 = .ok (.if_icmp .eq 18, 3) := by decide +kernel
theorem dX11_turn_134 : decode cX11_turn 134 = .ok (.iload 7, 2) := by decide +kernel
theorem dX11_turn_136 : decode cX11_turn 136 = .ok (.iload 5, 2) := by decide +kernel
theorem dX11_turn_138 : decode cX11_turn 138 = .ok (.if_icmp .ge 11, 3) := by decide +kernel
theorem dX11_turn_141 : decode cX11_turn 141 = .ok (.iload 6, 2) := by decide +kernel
theorem dX11_turn_143 : decode cX11_turn 143 = .ok (.istore 4, 2) := by decide +kernel
theorem dX11_turn_145 : decode cX11_turn 145 = .ok (.iload 7, 2) := by decide +kernel
theorem dX11_turn_147 : decode cX11_turn 147 = .ok (.istore 5, 2) := by decide +kernel
theorem dX11_turn_149 : decode cX11_turn 149 = .ok (.iinc 6 1, 3) := by decide +kernel
theorem dX11_turn_15 : decode cX11_turn 15 = .ok (.iload_n 3, 1) := by decide +kernel
theorem dX11_turn_152 : decode cX11_turn 152 = .ok (.goto (-110), 3) := by decide +kernel
theorem dX11_turn_155 : decode cX11_turn 155 = .ok (.iload 4, 2) := by decide +kernel
theorem dX11_turn_157 : decode cX11_turn 157 = .ok (.iconst (-1), 1) := by decide +kernel
theorem dX11_turn_158 : decode cX11_turn 158 = .ok (.if_icmp .eq 7, 3) := by decide +kernel
theorem dX11_turn_16 : decode cX11_turn 16 = .ok (.i2l, 1) := by decide +kernel
theorem dX11_turn_161 : decode cX11_turn 161 = .ok (.iload_n 3, 1) := by decide +kernel
theorem dX11_turn_162 : decode cX11_turn 162 = .ok (.ifCond .ne 8, 3) := by decide +kernel
theorem dX11_turn_165 : decode cX11_turn 165 = .ok (.iload 4, 2) := by decide +kernel
theorem dX11_turn_167 : decode cX11_turn 167 = .ok (.goto 5, 3) := by decide +kernel
theorem dX11_turn_17 : decode cX11_turn 17 = .ok (.lconst 0, 1) := by decide +kernel
theorem dX11_turn_170 : decode cX11_turn 170 = .ok (.iload 5, 2) := by decide +kernel
theorem dX11_turn_172 : decode cX11_turn 172 = .ok (.ireturn, 1) := by decide +kernel
theorem dX11_turn_18 : decode cX11_turn 18 = .ok (.lconst 1, 1) := by decide +kernel
theorem dX11_turn_19 : decode cX11_turn 19 = .ok (.invokestatic 56, 3) := by decide +kernel
theorem dX11_turn_2 : decode cX11_turn 2 = .ok (.invokevirtual 123, 3) := by decide +kernel
theorem dX11_turn_22 : decode cX11_turn 22 = .ok (.ifCond .ne 10, 3) := by decide +kernel
theorem dX11_turn_25 : decode cX11_turn 25 = .ok (.aload_n 0, 1) := by decide +kernel
theorem dX11_turn_26 : decode cX11_turn 26 = .ok (.bipush (-2), 2) := by decide +kernel
theorem dX11_turn_28 : decode cX11_turn 28 = .ok (.invokevirtual 68, 3) := by decide +kernel
theorem dX11_turn_31 : decode cX11_turn 31 = .ok (.ireturn, 1) := by decide +kernel
theorem dX11_turn_32 : decode cX11_turn 32 = .ok (.iconst (-1), 1) := by decide +kernel
theorem dX11_turn_33 : decode cX11_turn 33 = .ok (.istore 4, 2) := by decide +kernel
theorem dX11_turn_35 : decode cX11_turn 35 = .ok (.ldc 150, 2) := by decide +kernel
theorem dX11_turn_37 : decode cX11_turn 37 = .ok (.istore 5, 2) := by decide +kernel
theorem dX11_turn_39 : decode cX11_turn 39 = .ok (.iconst 0, 1) := by decide +kernel
theorem dX11_turn_40 : decode cX11_turn 40 = .ok (.istore 6, 2) := by decide +kernel
theorem dX11_turn_42 : decode cX11_turn 42 = .ok (.iload 6, 2) := by decide +kernel
theorem dX11_turn_44 : decode cX11_turn 44 = .ok (.bipush 30, 2) := by decide +kernel
theorem dX11_turn_46 : decode cX11_turn 46 = .ok (.if_icmp .gt 109, 3) := by decide +kernel
theorem dX11_turn_49 : decode cX11_turn 49 = .ok (.aload_n 0, 1) := by decide +kernel
theorem dX11_turn_5 : decode cX11_turn 5 = .ok (.ifCond .eq 20, 3) := by decide +kernel
theorem dX11_turn_50 : decode cX11_turn 50 = .ok (.getfield 7, 3) := by decide +kernel
theorem dX11_turn_53 : decode cX11_turn 53 = .ok (.iload_n 1, 1) := by decide +kernel
theorem dX11_turn_54 : decode cX11_turn 54 = .ok (.invokestatic 101, 3) := by decide +kernel
theorem dX11_turn_57 : decode cX11_turn 57 = .ok (.ifCond .ne 98, 3) := by decide +kernel
theorem dX11_turn_60 : decode cX11_turn 60 = .ok (.aload_n 0, 1) := by decide +kernel
theorem dX11_turn_61 : decode cX11_turn 61 = .ok (.invokevirtual 137, 3) := by decide +kernel
theorem dX11_turn_64 : decode cX11_turn 64 = .ok (.aload_n 0, 1) := by decide +kernel
theorem dX11_turn_65 : decode cX11_turn 65 = .ok (.iload_n 1, 1) := by decide +kernel
theorem dX11_turn_66 : decode cX11_turn 66 = .ok (.iload 6, 2) := by decide +kernel
theorem dX11_turn_68 : decode cX11_turn 68 = .ok (.invokevirtual 144, 3) := by decide +kernel
theorem dX11_turn_71 : decode cX11_turn 71 = .ok (.istore 7, 2) := by decide +kernel
theorem dX11_turn_73 : decode cX11_turn 73 = .ok (.iload 7, 2) := by decide +kernel
theorem dX11_turn_75 : decode cX11_turn 75 = .ok (.iconst (-1), 1) := by decide +kernel
theorem dX11_turn_76 : decode cX11_turn 76 = .ok (.if_icmp .ne 52, 3) := by decide +kernel
theorem dX11_turn_79 : decode cX11_turn 79 = .ok (.aload_n 0, 1) := by decide +kernel
theorem dX11_turn_8 : decode cX11_turn 8 = .ok (.iload_n 2, 1) := by decide +kernel
theorem dX11_turn_80 : decode cX11_turn 80 = .ok (.invokevirtual 137, 3) := by decide +kernel
theorem dX11_turn_83 : decode cX11_turn 83 = .ok (.aload_n 0, 1) := by decide +kernel
theorem dX11_turn_84 : decode cX11_turn 84 = .ok (.iload 6, 2) := by decide +kernel
theorem dX11_turn_86 : decode cX11_turn 86 = .ok (.invokevirtual 140, 3) := by decide +kernel
theorem dX11_turn_89 : decode cX11_turn 89 = .ok (.aload_n 0, 1) := by decide +kernel
theorem dX11_turn_9 : decode cX11_turn 9 = .ok (.invokestatic 126, 3) := by decide +kernel
theorem dX11_turn_90 : decode cX11_turn 90 = .ok (.getfield 27, 3) := by decide +kernel
theorem dX11_turn_93 : decode cX11_turn 93 = .ok (.bipush 11, 2) := by decide +kernel
theorem dX11_turn_95 : decode cX11_turn 95 = .ok (.iload_n 1, 1) := by decide +kernel
theorem dX11_turn_96 : decode cX11_turn 96 = .ok (.iadd, 1) := by decide +kernel
theorem dX11_turn_97 : decode cX11_turn 97 = .ok (.iload_n 2, 1) := by decide +kernel
theorem dX11_turn_98 : decode cX11_turn 98 = .ok (.iastore, 1) := by decide +kernel
theorem dX11_turn_99 : decode cX11_turn 99 = .ok (.aload_n 0, 1) := by decide +kernel
theorem in_X11_order_X11 : ∀ w ∈ wsX110, w ∈ wsX11_order := by decide +kernel
theorem lk_X11_order_30 : Cond.fieldLink RX11 30 "EggSpoonsModel" "goesBy" "[I" ∈ wsX11_order := by decide +kernel
theorem lk_X11_order_7 : Cond.fieldLink RX11 7 "EggSpoonsModel" "all" "[I" ∈ wsX11_order := by decide +kernel
theorem mm_X11_order_c150 : Cond.constant RX11 150 (1000000) ∈ wsX11_order := by decide +kernel
theorem mm_X11_order_c151 : Cond.constant RX11 151 (2000000) ∈ wsX11_order := by decide +kernel
set_option maxHeartbeats 4000000 in
set_option maxRecDepth 100000 in
/-- order -/
theorem m_order (l : Launch) (X : EX) (m0 : Nat) (ma : Nat → Nat) (la : Int64) (lb : Int64) (n : Nat) (t : Nat → Nat) (v : Nat → Int32) (fa : Nat → Int32) (c0 : Nat) (c1 : Nat) (c2 : Nat) (c3 : Nat) (c4 : Nat) (fh : Nat → Int32) (d0 : Nat) (d1 : Nat) (d2 : Nat) (d3 : Nat) (d4 : Nat) (fg : Nat → Int32) (fr : Nat → Int32) (x1 : Int32) (hI_n : n ≤ 150) (hI_t : InT t) (hI_fa : InA fa c0 c1 c2 c3 c4) (hI_fh : InA fh d0 d1 d2 d3 d4) (sz : Nat) : Met l yX11_order wsX11_order ({ frames := 6, cells := 0, slots := 0, locals := 137 } : Room) (pE X [.ref m0, .int x1] (@HAppend.hAppend va_W va_W va_W _ (mW m0 ma la lb n t v) (@HAppend.hAppend va_W va_W va_W _ ([((ma 0), .inl (X.2.1, 371, .inl fa))]) (@HAppend.hAppend va_W va_W va_W _ ([((ma 6), .inl (X.2.1, 55, .inl fh))]) (@HAppend.hAppend va_W va_W va_W _ ([((ma 7), .inl (X.2.1, 6, .inl fg))]) ([((ma 3), .inl (X.2.1, 3, .inl fr))]))))) sz) (qI (fun (r : Int32) (u : (Nat → Int32) × (Nat) × (Nat) × (Nat) × (Nat) × (Nat) × (Nat → Int32) × (Nat → Int32)) => InA u.1 u.2.1 u.2.2.1 u.2.2.2.1 u.2.2.2.2.1 u.2.2.2.2.2.1 ∧ (True)) X (fun (u : (Nat → Int32) × (Nat) × (Nat) × (Nat) × (Nat) × (Nat) × (Nat → Int32) × (Nat → Int32)) => @HAppend.hAppend va_W va_W va_W _ (mW m0 ma la lb n t v) (@HAppend.hAppend va_W va_W va_W _ ([((ma 0), .inl (X.2.1, 371, .inl fa))]) (@HAppend.hAppend va_W va_W va_W _ ([((ma 6), .inl (X.2.1, 55, .inl u.1))]) (@HAppend.hAppend va_W va_W va_W _ ([((ma 7), .inl (X.2.1, 6, .inl u.2.2.2.2.2.2.1))]) ([((ma 3), .inl (X.2.1, 3, .inl u.2.2.2.2.2.2.2))]))))) (@HAppend.hAppend va_W va_W va_W _ (mW m0 ma la lb n t v) (@HAppend.hAppend va_W va_W va_W _ ([((ma 0), .inl (X.2.1, 371, .inl fa))]) (@HAppend.hAppend va_W va_W va_W _ ([((ma 6), .inl (X.2.1, 55, .inl fh))]) (@HAppend.hAppend va_W va_W va_W _ ([((ma 7), .inl (X.2.1, 6, .inl fg))]) ([((ma 3), .inl (X.2.1, 3, .inl fr))]))))) sz) 0 0 (va_A (@HAppend.hAppend va_W va_W va_W _ (mW m0 ma la lb n t v) (@HAppend.hAppend va_W va_W va_W _ ([((ma 0), .inl (X.2.1, 371, .inl fa))]) (@HAppend.hAppend va_W va_W va_W _ ([((ma 6), .inl (X.2.1, 55, .inl fh))]) (@HAppend.hAppend va_W va_W va_W _ ([((ma 7), .inl (X.2.1, 6, .inl fg))]) ([((ma 3), .inl (X.2.1, 3, .inl fr))]))))) sz) := by
  refine mk_met (B := (va_A (@HAppend.hAppend va_W va_W va_W _ (mW m0 ma la lb n t v) (@HAppend.hAppend va_W va_W va_W _ ([((ma 0), .inl (X.2.1, 371, .inl fa))]) (@HAppend.hAppend va_W va_W va_W _ ([((ma 6), .inl (X.2.1, 55, .inl fh))]) (@HAppend.hAppend va_W va_W va_W _ ([((ma 7), .inl (X.2.1, 6, .inl fg))]) ([((ma 3), .inl (X.2.1, 3, .inl fr))]))))) sz)) (A := (va_A (@HAppend.hAppend va_W va_W va_W _ (mW m0 ma la lb n t v) (@HAppend.hAppend va_W va_W va_W _ ([((ma 0), .inl (X.2.1, 371, .inl fa))]) (@HAppend.hAppend va_W va_W va_W _ ([((ma 6), .inl (X.2.1, 55, .inl fh))]) (@HAppend.hAppend va_W va_W va_W _ ([((ma 7), .inl (X.2.1, 6, .inl fg))]) ([((ma 3), .inl (X.2.1, 3, .inl fr))]))))) sz)) (cc := cX11_order) (maxL := 5) (ret := (some .int)) (by decide) rfl (Nat.le_of_ble_eq_true rfl) k_w k_a (fun p e s m below meth c S zr zlk znm zsz G ls hl => ?_)
  have S : CallFix p m c cX11_order 5 s _ wsX11_order RX11 := S
  have zx := S.1
  have zb := S.2.1
  have hl : lv_has ls 5 [(0, .ref m0), (1, .int x1)] := hl
  have hO_t := hI_t
  obtain ⟨ht0_t, ht1_t⟩ := hO_t
  have hO_fa := hI_fa.2
  obtain ⟨hm0_fa, hm1_fa, hm2_fa, hm3_fa, hm4_fa⟩ := hO_fa
  have hO_fh := hI_fh.2
  obtain ⟨hm0_fh, hm1_fh, hm2_fh, hm3_fh, hm4_fh⟩ := hO_fh
  refine lv_iload_n zx zb dX11_order_0 rfl (lv_at hl 1 rfl) ?_
  refine lv_if_ge (tgt := 11) zx zb dX11_order_1 (by decide) (fun c_1 => ?_) (fun c_1 => ?_)
  · refine lv_iload_n zx zb dX11_order_11 rfl (lv_at hl 1 rfl) ?_
    refine lv_aload_n zx zb dX11_order_12 rfl (lv_at hl 0 rfl) ?_
    refine o_ri (cells' := 0) (slots' := 0) G rfl rfl (n_V (As := []) (rest := [.int x1]) (C := RX11) (T := TX11) (N := 18) (ci := 9) S G (m_many l X m0 ma la lb n t v fa c0 c1 c2 c3 c4 hI_n hI_t hI_fa s.heap.size) gX11_order_X11_many rfl rfl rfl hdV_X11_many ⟨Nat.le_of_ble_eq_true rfl, Nat.le_of_ble_eq_true rfl⟩ [0, 1] rfl rfl 0 rfl rfl rfl hl.1 (Nat.le_of_ble_eq_true rfl) dX11_order_13 ⟨Nat.le_of_ble_eq_true rfl, Nat.le_of_ble_eq_true rfl⟩) (fun r_2 u_2 H locs hp_2 G => ?_)
    have G : wd X (va_A (@HAppend.hAppend va_W va_W va_W _ (mW m0 ma la lb n t v) (@HAppend.hAppend va_W va_W va_W _ ([((ma 0), .inl (X.2.1, 371, .inl fa))]) (@HAppend.hAppend va_W va_W va_W _ ([((ma 6), .inl (X.2.1, 55, .inl fh))]) (@HAppend.hAppend va_W va_W va_W _ ([((ma 7), .inl (X.2.1, 6, .inl fg))]) ([((ma 3), .inl (X.2.1, 3, .inl fr))]))))) sz) (va_A (@HAppend.hAppend va_W va_W va_W _ (mW m0 ma la lb n t v) (@HAppend.hAppend va_W va_W va_W _ ([((ma 0), .inl (X.2.1, 371, .inl fa))]) (@HAppend.hAppend va_W va_W va_W _ ([((ma 6), .inl (X.2.1, 55, .inl fh))]) (@HAppend.hAppend va_W va_W va_W _ ([((ma 7), .inl (X.2.1, 6, .inl fg))]) ([((ma 3), .inl (X.2.1, 3, .inl fr))]))))) sz) s (@HAppend.hAppend va_W va_W va_W _ (mW m0 ma la lb n t v) (@HAppend.hAppend va_W va_W va_W _ ([((ma 0), .inl (X.2.1, 371, .inl fa))]) (@HAppend.hAppend va_W va_W va_W _ ([((ma 6), .inl (X.2.1, 55, .inl fh))]) (@HAppend.hAppend va_W va_W va_W _ ([((ma 7), .inl (X.2.1, 6, .inl fg))]) ([((ma 3), .inl (X.2.1, 3, .inl fr))]))))) H locs := G
    obtain rfl := hp_2
    refine lv_icmp_lt (tgt := 24) zx zb dX11_order_16 (by decide) (fun c_3 => ?_) (fun c_3 => ?_)
    · refine lv_iconst (v := 0) zx zb dX11_order_24 (by decide) ?_
      refine lv_istore_n (lv' := [(2, .int 0), (0, .ref m0), (1, .int x1)]) zx zb dX11_order_25 rfl hl (by decide) rfl (fun ls hl => ?_)
      refine k_loop (P := ∀ (zm : Nat) (k26 : Nat) (f26_2 : Nat → Int32) (c026_2 : Nat) (c126_2 : Nat) (c226_2 : Nat) (c326_2 : Nat) (c426_2 : Nat) (f26_3 : Nat → Int32) (H : Heap) (locs : List Loc) (ls : Array Slot), 6 + 1 ≤ k26 + zm → InA f26_2 c026_2 c126_2 c226_2 c326_2 c426_2 → (k26 ≤ 6) → wd X (va_A (@HAppend.hAppend va_W va_W va_W _ (mW m0 ma la lb n t v) (@HAppend.hAppend va_W va_W va_W _ ([((ma 0), .inl (X.2.1, 371, .inl fa))]) (@HAppend.hAppend va_W va_W va_W _ ([((ma 6), .inl (X.2.1, 55, .inl fh))]) (@HAppend.hAppend va_W va_W va_W _ ([((ma 7), .inl (X.2.1, 6, .inl fg))]) ([((ma 3), .inl (X.2.1, 3, .inl fr))]))))) sz) (va_A (@HAppend.hAppend va_W va_W va_W _ (mW m0 ma la lb n t v) (@HAppend.hAppend va_W va_W va_W _ ([((ma 0), .inl (X.2.1, 371, .inl fa))]) (@HAppend.hAppend va_W va_W va_W _ ([((ma 6), .inl (X.2.1, 55, .inl fh))]) (@HAppend.hAppend va_W va_W va_W _ ([((ma 7), .inl (X.2.1, 6, .inl fg))]) ([((ma 3), .inl (X.2.1, 3, .inl fr))]))))) sz) s (@HAppend.hAppend va_W va_W va_W _ (mW m0 ma la lb n t v) (@HAppend.hAppend va_W va_W va_W _ ([((ma 0), .inl (X.2.1, 371, .inl fa))]) (@HAppend.hAppend va_W va_W va_W _ ([((ma 6), .inl (X.2.1, 55, .inl f26_2))]) (@HAppend.hAppend va_W va_W va_W _ ([((ma 7), .inl (X.2.1, 6, .inl f26_3))]) ([((ma 3), .inl (X.2.1, 3, .inl fr))]))))) H locs → lv_has ls 5 [(2, .int (nI k26)), (0, .ref m0), (1, .int x1)] → W p l e _ s m _ below meth c H locs _ _ _ (F0 m 26 ls [])) (fun loop => loop (6 + 1) 0 fh d0 d1 d2 d3 d4 fg _ _ _ (by omega) hI_fh (by omega) G hl) ?_
      intro zm
      induction zm with
      | zero => intro k26 f26_2 c026_2 c126_2 c226_2 c326_2 c426_2 f26_3 H locs ls zz q_hI_f26_2 q_hk_k26 _ _; exact absurd zz (by omega)
      | succ zm ih26 =>
        intro k26 f26_2 c026_2 c126_2 c226_2 c326_2 c426_2 f26_3 H locs ls zm_26 hI_f26_2 hk_k26 G hl
        have hO_f26_2 := hI_f26_2.2
        obtain ⟨hm0_f26_2, hm1_f26_2, hm2_f26_2, hm3_f26_2, hm4_f26_2⟩ := hO_f26_2
        refine lv_iload_n zx zb dX11_order_26 rfl (lv_at hl 0 rfl) ?_
        refine lv_aload_n zx zb dX11_order_27 rfl (lv_at hl 1 rfl) ?_
        refine o_ri (cells' := 0) (slots' := 0) G rfl rfl (n_V (As := []) (rest := [.int (nI k26)]) (C := RX11) (T := TX11) (N := 18) (ci := 9) S G (m_many l X m0 ma la lb n t v fa c0 c1 c2 c3 c4 hI_n hI_t hI_fa H.size) gX11_order_X11_many rfl rfl rfl hdV_X11_many ⟨Nat.le_of_ble_eq_true rfl, Nat.le_of_ble_eq_true rfl⟩ [0, 1] rfl rfl 0 rfl rfl rfl hl.1 (Nat.le_of_ble_eq_true rfl) dX11_order_28 ⟨Nat.le_of_ble_eq_true rfl, Nat.le_of_ble_eq_true rfl⟩) (fun r_4 u_4 H locs hp_4 G => ?_)
        have G : wd X (va_A (@HAppend.hAppend va_W va_W va_W _ (mW m0 ma la lb n t v) (@HAppend.hAppend va_W va_W va_W _ ([((ma 0), .inl (X.2.1, 371, .inl fa))]) (@HAppend.hAppend va_W va_W va_W _ ([((ma 6), .inl (X.2.1, 55, .inl fh))]) (@HAppend.hAppend va_W va_W va_W _ ([((ma 7), .inl (X.2.1, 6, .inl fg))]) ([((ma 3), .inl (X.2.1, 3, .inl fr))]))))) sz) (va_A (@HAppend.hAppend va_W va_W va_W _ (mW m0 ma la lb n t v) (@HAppend.hAppend va_W va_W va_W _ ([((ma 0), .inl (X.2.1, 371, .inl fa))]) (@HAppend.hAppend va_W va_W va_W _ ([((ma 6), .inl (X.2.1, 55, .inl fh))]) (@HAppend.hAppend va_W va_W va_W _ ([((ma 7), .inl (X.2.1, 6, .inl fg))]) ([((ma 3), .inl (X.2.1, 3, .inl fr))]))))) sz) s (@HAppend.hAppend va_W va_W va_W _ (mW m0 ma la lb n t v) (@HAppend.hAppend va_W va_W va_W _ ([((ma 0), .inl (X.2.1, 371, .inl fa))]) (@HAppend.hAppend va_W va_W va_W _ ([((ma 6), .inl (X.2.1, 55, .inl f26_2))]) (@HAppend.hAppend va_W va_W va_W _ ([((ma 7), .inl (X.2.1, 6, .inl f26_3))]) ([((ma 3), .inl (X.2.1, 3, .inl fr))]))))) H locs := G
        obtain rfl := hp_4
        refine lv_icmp_ge (tgt := 89) zx zb dX11_order_31 (by decide) (fun c_5 => ?_) (fun c_5 => ?_)
        · have fc_5 := j_le (a := c0) (b := k26) (by omega) (by omega) c_5
          refine lv_iconst (v := 0) zx zb dX11_order_89 (by decide) ?_
          refine lv_istore_n (lv' := [(2, .int 0), (0, .ref m0), (1, .int x1)]) zx zb dX11_order_90 rfl hl (by decide) rfl (fun ls hl => ?_)
          refine k_loop (P := ∀ (zm : Nat) (k91 : Nat) (H : Heap) (locs : List Loc) (ls : Array Slot), 6 + 1 ≤ k91 + zm → (k91 ≤ 6) → wd X (va_A (@HAppend.hAppend va_W va_W va_W _ (mW m0 ma la lb n t v) (@HAppend.hAppend va_W va_W va_W _ ([((ma 0), .inl (X.2.1, 371, .inl fa))]) (@HAppend.hAppend va_W va_W va_W _ ([((ma 6), .inl (X.2.1, 55, .inl fh))]) (@HAppend.hAppend va_W va_W va_W _ ([((ma 7), .inl (X.2.1, 6, .inl fg))]) ([((ma 3), .inl (X.2.1, 3, .inl fr))]))))) sz) (va_A (@HAppend.hAppend va_W va_W va_W _ (mW m0 ma la lb n t v) (@HAppend.hAppend va_W va_W va_W _ ([((ma 0), .inl (X.2.1, 371, .inl fa))]) (@HAppend.hAppend va_W va_W va_W _ ([((ma 6), .inl (X.2.1, 55, .inl fh))]) (@HAppend.hAppend va_W va_W va_W _ ([((ma 7), .inl (X.2.1, 6, .inl fg))]) ([((ma 3), .inl (X.2.1, 3, .inl fr))]))))) sz) s (@HAppend.hAppend va_W va_W va_W _ (mW m0 ma la lb n t v) (@HAppend.hAppend va_W va_W va_W _ ([((ma 0), .inl (X.2.1, 371, .inl fa))]) (@HAppend.hAppend va_W va_W va_W _ ([((ma 6), .inl (X.2.1, 55, .inl f26_2))]) (@HAppend.hAppend va_W va_W va_W _ ([((ma 7), .inl (X.2.1, 6, .inl f26_3))]) ([((ma 3), .inl (X.2.1, 3, .inl fr))]))))) H locs → lv_has ls 5 [(2, .int (nI k91)), (0, .ref m0), (1, .int x1)] → W p l e _ s m _ below meth c H locs _ _ _ (F0 m 91 ls [])) (fun loop => loop (6 + 1) 0 _ _ _ (by omega) (by omega) G hl) ?_
          intro zm
          induction zm with
          | zero => intro k91 H locs ls zz q_hk_k91 _ _; exact absurd zz (by omega)
          | succ zm ih91 =>
            intro k91 H locs ls zm_91 hk_k91 G hl
            refine lv_iload_n zx zb dX11_order_91 rfl (lv_at hl 0 rfl) ?_
            refine lv_aload_n zx zb dX11_order_92 rfl (lv_at hl 1 rfl) ?_
            refine o_ri (cells' := 0) (slots' := 0) G rfl rfl (n_V (As := []) (rest := [.int (nI k91)]) (C := RX11) (T := TX11) (N := 18) (ci := 9) S G (m_many l X m0 ma la lb n t v fa c0 c1 c2 c3 c4 hI_n hI_t hI_fa H.size) gX11_order_X11_many rfl rfl rfl hdV_X11_many ⟨Nat.le_of_ble_eq_true rfl, Nat.le_of_ble_eq_true rfl⟩ [0, 1] rfl rfl 0 rfl rfl rfl hl.1 (Nat.le_of_ble_eq_true rfl) dX11_order_93 ⟨Nat.le_of_ble_eq_true rfl, Nat.le_of_ble_eq_true rfl⟩) (fun r_6 u_6 H locs hp_6 G => ?_)
            have G : wd X (va_A (@HAppend.hAppend va_W va_W va_W _ (mW m0 ma la lb n t v) (@HAppend.hAppend va_W va_W va_W _ ([((ma 0), .inl (X.2.1, 371, .inl fa))]) (@HAppend.hAppend va_W va_W va_W _ ([((ma 6), .inl (X.2.1, 55, .inl fh))]) (@HAppend.hAppend va_W va_W va_W _ ([((ma 7), .inl (X.2.1, 6, .inl fg))]) ([((ma 3), .inl (X.2.1, 3, .inl fr))]))))) sz) (va_A (@HAppend.hAppend va_W va_W va_W _ (mW m0 ma la lb n t v) (@HAppend.hAppend va_W va_W va_W _ ([((ma 0), .inl (X.2.1, 371, .inl fa))]) (@HAppend.hAppend va_W va_W va_W _ ([((ma 6), .inl (X.2.1, 55, .inl fh))]) (@HAppend.hAppend va_W va_W va_W _ ([((ma 7), .inl (X.2.1, 6, .inl fg))]) ([((ma 3), .inl (X.2.1, 3, .inl fr))]))))) sz) s (@HAppend.hAppend va_W va_W va_W _ (mW m0 ma la lb n t v) (@HAppend.hAppend va_W va_W va_W _ ([((ma 0), .inl (X.2.1, 371, .inl fa))]) (@HAppend.hAppend va_W va_W va_W _ ([((ma 6), .inl (X.2.1, 55, .inl f26_2))]) (@HAppend.hAppend va_W va_W va_W _ ([((ma 7), .inl (X.2.1, 6, .inl f26_3))]) ([((ma 3), .inl (X.2.1, 3, .inl fr))]))))) H locs := G
            obtain rfl := hp_6
            refine lv_icmp_ge (tgt := 178) zx zb dX11_order_96 (by decide) (fun c_7 => ?_) (fun c_7 => ?_)
            · have fc_7 := j_le (a := c0) (b := k91) (by omega) (by omega) c_7
              refine lv_iconst (v := (-1)) zx zb dX11_order_178 (by decide) ?_
              exact e_int S zr zlk (vp_nar_int _) G (f26_2, c026_2, c126_2, c226_2, c326_2, c426_2, f26_3, fr) [0, 1, 2, 3, 4] rfl rfl (Or.inr rfl) (⟨hI_f26_2, trivial⟩) dX11_order_179
            · have fc_7 := j_nle (a := c0) (b := k91) (by omega) (by omega) c_7
              refine lv_iconst (v := 0) zx zb dX11_order_99 (by decide) ?_
              refine lv_istore_n (lv' := [(3, .int 0), (2, .int (nI k91)), (0, .ref m0), (1, .int x1)]) zx zb dX11_order_100 rfl hl (by decide) rfl (fun ls hl => ?_)
              refine lv_iconst (v := 0) zx zb dX11_order_101 (by decide) ?_
              refine lv_istore (lv' := [(4, .int 0), (3, .int 0), (2, .int (nI k91)), (0, .ref m0), (1, .int x1)]) zx zb dX11_order_102 hl (by decide) rfl (fun ls hl => ?_)
              refine k_loop (P := ∀ (zm : Nat) (k104 : Nat) (x104_3 : Int32) (H : Heap) (locs : List Loc) (ls : Array Slot), 6 + 1 ≤ k104 + zm → (k104 ≤ 6) → wd X (va_A (@HAppend.hAppend va_W va_W va_W _ (mW m0 ma la lb n t v) (@HAppend.hAppend va_W va_W va_W _ ([((ma 0), .inl (X.2.1, 371, .inl fa))]) (@HAppend.hAppend va_W va_W va_W _ ([((ma 6), .inl (X.2.1, 55, .inl fh))]) (@HAppend.hAppend va_W va_W va_W _ ([((ma 7), .inl (X.2.1, 6, .inl fg))]) ([((ma 3), .inl (X.2.1, 3, .inl fr))]))))) sz) (va_A (@HAppend.hAppend va_W va_W va_W _ (mW m0 ma la lb n t v) (@HAppend.hAppend va_W va_W va_W _ ([((ma 0), .inl (X.2.1, 371, .inl fa))]) (@HAppend.hAppend va_W va_W va_W _ ([((ma 6), .inl (X.2.1, 55, .inl fh))]) (@HAppend.hAppend va_W va_W va_W _ ([((ma 7), .inl (X.2.1, 6, .inl fg))]) ([((ma 3), .inl (X.2.1, 3, .inl fr))]))))) sz) s (@HAppend.hAppend va_W va_W va_W _ (mW m0 ma la lb n t v) (@HAppend.hAppend va_W va_W va_W _ ([((ma 0), .inl (X.2.1, 371, .inl fa))]) (@HAppend.hAppend va_W va_W va_W _ ([((ma 6), .inl (X.2.1, 55, .inl f26_2))]) (@HAppend.hAppend va_W va_W va_W _ ([((ma 7), .inl (X.2.1, 6, .inl f26_3))]) ([((ma 3), .inl (X.2.1, 3, .inl fr))]))))) H locs → lv_has ls 5 [(4, .int (nI k104)), (3, .int x104_3), (2, .int (nI k91)), (0, .ref m0), (1, .int x1)] → W p l e _ s m _ below meth c H locs _ _ _ (F0 m 104 ls [])) (fun loop => loop (6 + 1) 0 0 _ _ _ (by omega) (by omega) G hl) ?_
              intro zm
              induction zm with
              | zero => intro k104 x104_3 H locs ls zz q_hk_k104 _ _; exact absurd zz (by omega)
              | succ zm ih104 =>
                intro k104 x104_3 H locs ls zm_104 hk_k104 G hl
                refine lv_iload zx zb dX11_order_104 (lv_at hl 0 rfl) ?_
                refine lv_aload_n zx zb dX11_order_106 rfl (lv_at hl 3 rfl) ?_
                refine o_ri (cells' := 0) (slots' := 0) G rfl rfl (n_V (As := []) (rest := [.int (nI k104)]) (C := RX11) (T := TX11) (N := 18) (ci := 9) S G (m_many l X m0 ma la lb n t v fa c0 c1 c2 c3 c4 hI_n hI_t hI_fa H.size) gX11_order_X11_many rfl rfl rfl hdV_X11_many ⟨Nat.le_of_ble_eq_true rfl, Nat.le_of_ble_eq_true rfl⟩ [0, 1] rfl rfl 0 rfl rfl rfl hl.1 (Nat.le_of_ble_eq_true rfl) dX11_order_107 ⟨Nat.le_of_ble_eq_true rfl, Nat.le_of_ble_eq_true rfl⟩) (fun r_8 u_8 H locs hp_8 G => ?_)
                have G : wd X (va_A (@HAppend.hAppend va_W va_W va_W _ (mW m0 ma la lb n t v) (@HAppend.hAppend va_W va_W va_W _ ([((ma 0), .inl (X.2.1, 371, .inl fa))]) (@HAppend.hAppend va_W va_W va_W _ ([((ma 6), .inl (X.2.1, 55, .inl fh))]) (@HAppend.hAppend va_W va_W va_W _ ([((ma 7), .inl (X.2.1, 6, .inl fg))]) ([((ma 3), .inl (X.2.1, 3, .inl fr))]))))) sz) (va_A (@HAppend.hAppend va_W va_W va_W _ (mW m0 ma la lb n t v) (@HAppend.hAppend va_W va_W va_W _ ([((ma 0), .inl (X.2.1, 371, .inl fa))]) (@HAppend.hAppend va_W va_W va_W _ ([((ma 6), .inl (X.2.1, 55, .inl fh))]) (@HAppend.hAppend va_W va_W va_W _ ([((ma 7), .inl (X.2.1, 6, .inl fg))]) ([((ma 3), .inl (X.2.1, 3, .inl fr))]))))) sz) s (@HAppend.hAppend va_W va_W va_W _ (mW m0 ma la lb n t v) (@HAppend.hAppend va_W va_W va_W _ ([((ma 0), .inl (X.2.1, 371, .inl fa))]) (@HAppend.hAppend va_W va_W va_W _ ([((ma 6), .inl (X.2.1, 55, .inl f26_2))]) (@HAppend.hAppend va_W va_W va_W _ ([((ma 7), .inl (X.2.1, 6, .inl f26_3))]) ([((ma 3), .inl (X.2.1, 3, .inl fr))]))))) H locs := G
                obtain rfl := hp_8
                refine lv_icmp_ge (tgt := 165) zx zb dX11_order_110 (by decide) (fun c_9 => ?_) (fun c_9 => ?_)
                · have fc_9 := j_le (a := c0) (b := k104) (by omega) (by omega) c_9
                  refine lv_iload_n zx zb dX11_order_165 rfl (lv_at hl 1 rfl) ?_
                  refine lv_iload_n zx zb dX11_order_166 rfl (lv_at hl 4 rfl) ?_
                  refine lv_icmp_ne (tgt := 172) zx zb dX11_order_167 (by decide) (fun c_10 => ?_) (fun c_10 => ?_)
                  · refine lv_iinc (v := (nI (k91 + 1))) (lv' := [(2, .int (nI (k91 + 1))), (4, .int (nI k104)), (3, .int x104_3), (0, .ref m0), (1, .int x1)]) zx zb dX11_order_172 hl (k := 2) rfl (nI_add k91 1) (by decide) rfl (fun ls hl => ?_)
                    refine lv_goto (tgt := 91) zx zb dX11_order_175 (by decide) ?_
                    have hl := lv_sub hl (l' := [(2, .int (nI (k91 + 1))), (0, .ref m0), (1, .int x1)]) [0, 3, 4] rfl
                    exact ih91 (k91 + 1) _ _ _ (by omega) (by omega) G hl
                  · refine lv_iload_n zx zb dX11_order_170 rfl (lv_at hl 2 rfl) ?_
                    exact e_int S zr zlk (vp_nar_int _) G (f26_2, c026_2, c126_2, c226_2, c326_2, c426_2, f26_3, fr) [0, 1, 2, 3, 4] rfl rfl (Or.inr rfl) (⟨hI_f26_2, trivial⟩) dX11_order_171
                · have fc_9 := j_nle (a := c0) (b := k104) (by omega) (by omega) c_9
                  refine lv_iload_n zx zb dX11_order_113 rfl (lv_at hl 1 rfl) ?_
                  refine lv_aload_n zx zb dX11_order_114 rfl (lv_at hl 3 rfl) ?_
                  refine r_get (C := RX11) (T := TX11) (N := 18) (ci := 9) (v := .ref (ma 7)) S in_X11_order_X11 G 0 rfl rfl 7 (by decide) lk_X11_order_30 rfl dX11_order_115 ?_
                  refine lv_iload zx zb dX11_order_118 (lv_at hl 0 rfl) ?_
                  refine r_iald S G 3 rfl (vp_in_nI (by omega) (by decide)) rfl dX11_order_120 ?_
                  refine k_itE (fun y_11 => ?_)
                  refine lv_aload_n zx zb dX11_order_121 rfl (lv_at hl 3 rfl) ?_
                  refine r_get (C := RX11) (T := TX11) (N := 18) (ci := 9) (v := .ref (ma 7)) S in_X11_order_X11 G 0 rfl rfl 7 (by decide) lk_X11_order_30 rfl dX11_order_122 ?_
                  refine lv_iload_n zx zb dX11_order_125 rfl (lv_at hl 2 rfl) ?_
                  refine r_iald S G 3 rfl (vp_in_nI (by omega) (by decide)) rfl dX11_order_126 ?_
                  refine k_itE (fun y_12 => ?_)
                  refine k_cutW (PP := fun Wx => ∀ (x_14 : Int32) (H : Heap) (locs : List Loc) (ls : Array Slot), (x_14 = 0 ∨ x_14 = 1) → wd X (va_A (@HAppend.hAppend va_W va_W va_W _ (mW m0 ma la lb n t v) (@HAppend.hAppend va_W va_W va_W _ ([((ma 0), .inl (X.2.1, 371, .inl fa))]) (@HAppend.hAppend va_W va_W va_W _ ([((ma 6), .inl (X.2.1, 55, .inl fh))]) (@HAppend.hAppend va_W va_W va_W _ ([((ma 7), .inl (X.2.1, 6, .inl fg))]) ([((ma 3), .inl (X.2.1, 3, .inl fr))]))))) sz) (va_A (@HAppend.hAppend va_W va_W va_W _ (mW m0 ma la lb n t v) (@HAppend.hAppend va_W va_W va_W _ ([((ma 0), .inl (X.2.1, 371, .inl fa))]) (@HAppend.hAppend va_W va_W va_W _ ([((ma 6), .inl (X.2.1, 55, .inl fh))]) (@HAppend.hAppend va_W va_W va_W _ ([((ma 7), .inl (X.2.1, 6, .inl fg))]) ([((ma 3), .inl (X.2.1, 3, .inl fr))]))))) sz) s (@HAppend.hAppend va_W va_W va_W _ (mW m0 ma la lb n t v) (@HAppend.hAppend va_W va_W va_W _ ([((ma 0), .inl (X.2.1, 371, .inl fa))]) (@HAppend.hAppend va_W va_W va_W _ ([((ma 6), .inl (X.2.1, 55, .inl f26_2))]) (@HAppend.hAppend va_W va_W va_W _ ([((ma 7), .inl (X.2.1, 6, .inl f26_3))]) ([((ma 3), .inl (X.2.1, 3, .inl fr))]))))) H locs → lv_has ls 5 [(4, .int (nI k104)), (3, .int x104_3), (2, .int (nI k91)), (0, .ref m0), (1, .int x1)] → Wx (F0 m 157 ls [.int x_14, .int x104_3]) H locs) ?_ ?_
                  · intro join_127
                    refine lv_icmp_lt (tgt := 152) zx zb dX11_order_127 (by decide) (fun c_13 => ?_) (fun c_13 => ?_)
                    · refine lv_iconst (v := 1) zx zb dX11_order_152 (by decide) ?_
                      refine lv_goto (tgt := 157) zx zb dX11_order_153 (by decide) ?_
                      exact join_127 1 _ _ _ (by first | assumption | exact Or.inl rfl | exact Or.inr rfl) G hl
                    · refine lv_aload_n zx zb dX11_order_130 rfl (lv_at hl 3 rfl) ?_
                      refine r_get (C := RX11) (T := TX11) (N := 18) (ci := 9) (v := .ref (ma 7)) S in_X11_order_X11 G 0 rfl rfl 7 (by decide) lk_X11_order_30 rfl dX11_order_131 ?_
                      refine lv_iload zx zb dX11_order_134 (lv_at hl 0 rfl) ?_
                      refine r_iald S G 3 rfl (vp_in_nI (by omega) (by decide)) rfl dX11_order_136 ?_
                      refine k_itE (fun y_15 => ?_)
                      refine lv_aload_n zx zb dX11_order_137 rfl (lv_at hl 3 rfl) ?_
                      refine r_get (C := RX11) (T := TX11) (N := 18) (ci := 9) (v := .ref (ma 7)) S in_X11_order_X11 G 0 rfl rfl 7 (by decide) lk_X11_order_30 rfl dX11_order_138 ?_
                      refine lv_iload_n zx zb dX11_order_141 rfl (lv_at hl 2 rfl) ?_
                      refine r_iald S G 3 rfl (vp_in_nI (by omega) (by decide)) rfl dX11_order_142 ?_
                      refine k_itE (fun y_16 => ?_)
                      refine lv_icmp_ne (tgt := 156) zx zb dX11_order_143 (by decide) (fun c_17 => ?_) (fun c_17 => ?_)
                      · refine lv_iconst (v := 0) zx zb dX11_order_156 (by decide) ?_
                        exact join_127 0 _ _ _ (by first | assumption | exact Or.inl rfl | exact Or.inr rfl) G hl
                      · refine lv_iload zx zb dX11_order_146 (lv_at hl 0 rfl) ?_
                        refine lv_iload_n zx zb dX11_order_148 rfl (lv_at hl 2 rfl) ?_
                        refine lv_icmp_ge (tgt := 156) zx zb dX11_order_149 (by decide) (fun c_18 => ?_) (fun c_18 => ?_)
                        · have fc_18 := j_le (a := k91) (b := k104) (by omega) (by omega) c_18
                          refine lv_iconst (v := 0) zx zb dX11_order_156 (by decide) ?_
                          exact join_127 0 _ _ _ (by first | assumption | exact Or.inl rfl | exact Or.inr rfl) G hl
                        · have fc_18 := j_nle (a := k91) (b := k104) (by omega) (by omega) c_18
                          refine lv_iconst (v := 1) zx zb dX11_order_152 (by decide) ?_
                          refine lv_goto (tgt := 157) zx zb dX11_order_153 (by decide) ?_
                          exact join_127 1 _ _ _ (by first | assumption | exact Or.inl rfl | exact Or.inr rfl) G hl
                  · intro x_14 H locs ls hk_x_14 G hl
                    refine r_iadd (v := (x104_3 + x_14)) S rfl dX11_order_157 ?_
                    refine lv_istore_n (lv' := [(3, .int (x104_3 + x_14)), (4, .int (nI k104)), (2, .int (nI k91)), (0, .ref m0), (1, .int x1)]) zx zb dX11_order_158 rfl hl (by decide) rfl (fun ls hl => ?_)
                    refine lv_iinc (v := (nI (k104 + 1))) (lv' := [(4, .int (nI (k104 + 1))), (3, .int (x104_3 + x_14)), (2, .int (nI k91)), (0, .ref m0), (1, .int x1)]) zx zb dX11_order_159 hl (k := 1) rfl (nI_add k104 1) (by decide) rfl (fun ls hl => ?_)
                    refine lv_goto (tgt := 104) zx zb dX11_order_162 (by decide) ?_
                    exact ih104 (k104 + 1) (x104_3 + x_14) _ _ _ (by omega) (by omega) G hl
        · have fc_5 := j_nle (a := c0) (b := k26) (by omega) (by omega) c_5
          refine lv_aload_n zx zb dX11_order_34 rfl (lv_at hl 1 rfl) ?_
          refine lv_iload_n zx zb dX11_order_35 rfl (lv_at hl 0 rfl) ?_
          refine b_wi (cells' := 0) (slots' := 0) (wr := @HAppend.hAppend va_W va_W va_W _ ([((ma 7), .inl (X.2.1, 6, .inl f26_3))]) ([((ma 3), .inl (X.2.1, 3, .inl fr))])) G rfl rfl [0, 1, 2] [3, 4] rfl rfl rfl rfl (n_V (As := [.int (nI k26)]) (rest := []) (C := RX11) (T := TX11) (N := 18) (ci := 9) S G (m_homeOf l X m0 ma la lb n t v fa c0 c1 c2 c3 c4 f26_2 c026_2 c126_2 c226_2 c326_2 c426_2 k26 hI_n hI_t hI_fa hI_f26_2 (by omega) H.size) gX11_order_X11_homeOf rfl rfl rfl hdV_X11_homeOf ⟨Nat.le_of_ble_eq_true rfl, Nat.le_of_ble_eq_true rfl⟩ [0, 1, 2] rfl rfl 0 rfl rfl rfl hl.1 (Nat.le_of_ble_eq_true rfl) dX11_order_36 ⟨Nat.le_of_ble_eq_true rfl, Nat.le_of_ble_eq_true rfl⟩) (fun r_19 u_19 H locs hp_19 G => ?_)
          obtain ⟨f_19a, c0_19b, c1_19c, c2_19d, c3_19e, c4_19f⟩ := u_19
          try dsimp only at hp_19
          obtain ⟨hI_f_19a, hq_19⟩ := hp_19
          have hO_f_19a := hI_f_19a.2
          obtain ⟨hm0_f_19a, hm1_f_19a, hm2_f_19a, hm3_f_19a, hm4_f_19a⟩ := hO_f_19a
          have G : wd X (va_A (@HAppend.hAppend va_W va_W va_W _ (mW m0 ma la lb n t v) (@HAppend.hAppend va_W va_W va_W _ ([((ma 0), .inl (X.2.1, 371, .inl fa))]) (@HAppend.hAppend va_W va_W va_W _ ([((ma 6), .inl (X.2.1, 55, .inl fh))]) (@HAppend.hAppend va_W va_W va_W _ ([((ma 7), .inl (X.2.1, 6, .inl fg))]) ([((ma 3), .inl (X.2.1, 3, .inl fr))]))))) sz) (va_A (@HAppend.hAppend va_W va_W va_W _ (mW m0 ma la lb n t v) (@HAppend.hAppend va_W va_W va_W _ ([((ma 0), .inl (X.2.1, 371, .inl fa))]) (@HAppend.hAppend va_W va_W va_W _ ([((ma 6), .inl (X.2.1, 55, .inl fh))]) (@HAppend.hAppend va_W va_W va_W _ ([((ma 7), .inl (X.2.1, 6, .inl fg))]) ([((ma 3), .inl (X.2.1, 3, .inl fr))]))))) sz) s (@HAppend.hAppend va_W va_W va_W _ ([((ma 7), .inl (X.2.1, 6, .inl f26_3))]) (@HAppend.hAppend va_W va_W va_W _ ([((ma 3), .inl (X.2.1, 3, .inl fr))]) (@HAppend.hAppend va_W va_W va_W _ (mW m0 ma la lb n t v) (@HAppend.hAppend va_W va_W va_W _ ([((ma 0), .inl (X.2.1, 371, .inl fa))]) ([((ma 6), .inl (X.2.1, 55, .inl f_19a))]))))) H locs := G
          refine lv_istore_n (lv' := [(3, .int r_19), (2, .int (nI k26)), (0, .ref m0), (1, .int x1)]) zx zb dX11_order_39 rfl hl (by decide) rfl (fun ls hl => ?_)
          refine lv_aload_n zx zb dX11_order_40 rfl (lv_at hl 2 rfl) ?_
          refine r_get (C := RX11) (T := TX11) (N := 18) (ci := 9) (v := .ref (ma 7)) S in_X11_order_X11 G 2 rfl rfl 7 (by decide) lk_X11_order_30 rfl dX11_order_41 ?_
          refine lv_iload_n zx zb dX11_order_44 rfl (lv_at hl 1 rfl) ?_
          refine lv_aload_n zx zb dX11_order_45 rfl (lv_at hl 2 rfl) ?_
          refine r_get (C := RX11) (T := TX11) (N := 18) (ci := 9) (v := .ref (ma 0)) S in_X11_order_X11 G 2 rfl rfl 0 (by decide) lk_X11_order_7 rfl dX11_order_46 ?_
          refine lv_iload_n zx zb dX11_order_49 rfl (lv_at hl 1 rfl) ?_
          refine o_ri (cells' := 0) (slots' := 0) G rfl rfl (n_S (As := [.ref (ma 0), .int (nI k26)]) (rest := [.int (nI k26), .ref (ma 7)]) S G (m_isHome l X (ma 0) 371 fa c0 c1 c2 c3 c4 k26 hI_fa (by omega) (by omega) (by omega) H.size) gX11_order_X11_isHome rfl rfl rfl hdS_X11_isHome ⟨Nat.le_of_ble_eq_true rfl, Nat.le_of_ble_eq_true rfl⟩ [3] rfl rfl rfl hl.1 (Nat.le_of_ble_eq_true rfl) dX11_order_50 ⟨Nat.le_of_ble_eq_true rfl, Nat.le_of_ble_eq_true rfl⟩) (fun r_20 u_20 H locs hp_20 G => ?_)
          have G : wd X (va_A (@HAppend.hAppend va_W va_W va_W _ (mW m0 ma la lb n t v) (@HAppend.hAppend va_W va_W va_W _ ([((ma 0), .inl (X.2.1, 371, .inl fa))]) (@HAppend.hAppend va_W va_W va_W _ ([((ma 6), .inl (X.2.1, 55, .inl fh))]) (@HAppend.hAppend va_W va_W va_W _ ([((ma 7), .inl (X.2.1, 6, .inl fg))]) ([((ma 3), .inl (X.2.1, 3, .inl fr))]))))) sz) (va_A (@HAppend.hAppend va_W va_W va_W _ (mW m0 ma la lb n t v) (@HAppend.hAppend va_W va_W va_W _ ([((ma 0), .inl (X.2.1, 371, .inl fa))]) (@HAppend.hAppend va_W va_W va_W _ ([((ma 6), .inl (X.2.1, 55, .inl fh))]) (@HAppend.hAppend va_W va_W va_W _ ([((ma 7), .inl (X.2.1, 6, .inl fg))]) ([((ma 3), .inl (X.2.1, 3, .inl fr))]))))) sz) s (@HAppend.hAppend va_W va_W va_W _ ([((ma 7), .inl (X.2.1, 6, .inl f26_3))]) (@HAppend.hAppend va_W va_W va_W _ ([((ma 3), .inl (X.2.1, 3, .inl fr))]) (@HAppend.hAppend va_W va_W va_W _ (mW m0 ma la lb n t v) (@HAppend.hAppend va_W va_W va_W _ ([((ma 0), .inl (X.2.1, 371, .inl fa))]) ([((ma 6), .inl (X.2.1, 55, .inl f_19a))]))))) H locs := G
          refine k_cutW (PP := fun Wx => ∀ (x_22 : Int32) (H : Heap) (locs : List Loc) (ls : Array Slot), wd X (va_A (@HAppend.hAppend va_W va_W va_W _ (mW m0 ma la lb n t v) (@HAppend.hAppend va_W va_W va_W _ ([((ma 0), .inl (X.2.1, 371, .inl fa))]) (@HAppend.hAppend va_W va_W va_W _ ([((ma 6), .inl (X.2.1, 55, .inl fh))]) (@HAppend.hAppend va_W va_W va_W _ ([((ma 7), .inl (X.2.1, 6, .inl fg))]) ([((ma 3), .inl (X.2.1, 3, .inl fr))]))))) sz) (va_A (@HAppend.hAppend va_W va_W va_W _ (mW m0 ma la lb n t v) (@HAppend.hAppend va_W va_W va_W _ ([((ma 0), .inl (X.2.1, 371, .inl fa))]) (@HAppend.hAppend va_W va_W va_W _ ([((ma 6), .inl (X.2.1, 55, .inl fh))]) (@HAppend.hAppend va_W va_W va_W _ ([((ma 7), .inl (X.2.1, 6, .inl fg))]) ([((ma 3), .inl (X.2.1, 3, .inl fr))]))))) sz) s (@HAppend.hAppend va_W va_W va_W _ ([((ma 7), .inl (X.2.1, 6, .inl f26_3))]) (@HAppend.hAppend va_W va_W va_W _ ([((ma 3), .inl (X.2.1, 3, .inl fr))]) (@HAppend.hAppend va_W va_W va_W _ (mW m0 ma la lb n t v) (@HAppend.hAppend va_W va_W va_W _ ([((ma 0), .inl (X.2.1, 371, .inl fa))]) ([((ma 6), .inl (X.2.1, 55, .inl f_19a))]))))) H locs → lv_has ls 5 [(3, .int r_19), (2, .int (nI k26)), (0, .ref m0), (1, .int x1)] → Wx (F0 m 82 ls [.int x_22, .int (nI k26), .ref (ma 7)]) H locs) ?_ ?_
          · intro join_53
            refine lv_if_eq (tgt := 68) zx zb dX11_order_53 (by decide) (fun c_21 => ?_) (fun c_21 => ?_)
            · refine lv_iload_n zx zb dX11_order_68 rfl (lv_at hl 0 rfl) ?_
              refine lv_iconst (v := (-1)) zx zb dX11_order_69 (by decide) ?_
              refine lv_icmp_ne (tgt := 78) zx zb dX11_order_70 (by decide) (fun c_23 => ?_) (fun c_23 => ?_)
              · refine lv_ldc zx zb S.2.2.2.1 (S.2.2.2.2 _ mm_X11_order_c150) dX11_order_78 ?_
                refine lv_iload_n zx zb dX11_order_80 rfl (lv_at hl 0 rfl) ?_
                refine r_iadd (v := (1000000 + r_19)) S rfl dX11_order_81 ?_
                exact join_53 (1000000 + r_19) _ _ _  G hl
              · refine lv_ldc zx zb S.2.2.2.1 (S.2.2.2.2 _ mm_X11_order_c151) dX11_order_73 ?_
                refine lv_goto (tgt := 82) zx zb dX11_order_75 (by decide) ?_
                exact join_53 2000000 _ _ _  G hl
            · refine lv_aload_n zx zb dX11_order_56 rfl (lv_at hl 2 rfl) ?_
              refine r_get (C := RX11) (T := TX11) (N := 18) (ci := 9) (v := .ref (ma 0)) S in_X11_order_X11 G 2 rfl rfl 0 (by decide) lk_X11_order_7 rfl dX11_order_57 ?_
              refine lv_bipush (v := 29) zx zb dX11_order_60 (by decide) ?_
              refine lv_iload_n zx zb dX11_order_62 rfl (lv_at hl 1 rfl) ?_
              refine r_iadd (v := (nI (29 + k26))) S (nI_add 29 k26) dX11_order_63 ?_
              refine r_iald S G 3 rfl (vp_in_nI (by omega) (by decide)) rfl dX11_order_64 ?_
              refine k_itE (fun y_24 => ?_)
              refine lv_goto (tgt := 82) zx zb dX11_order_65 (by decide) ?_
              exact join_53 y_24 _ _ _  G hl
          · intro x_22 H locs ls  G hl
            refine r_iast S G 0 rfl (vp_in_nI (by omega) (by decide)) dX11_order_82 (fun H locs G => ?_)
            obtain ⟨f_25, G⟩ : ∃ f_25 : Nat → Int32, wd X (va_A (@HAppend.hAppend va_W va_W va_W _ (mW m0 ma la lb n t v) (@HAppend.hAppend va_W va_W va_W _ ([((ma 0), .inl (X.2.1, 371, .inl fa))]) (@HAppend.hAppend va_W va_W va_W _ ([((ma 6), .inl (X.2.1, 55, .inl fh))]) (@HAppend.hAppend va_W va_W va_W _ ([((ma 7), .inl (X.2.1, 6, .inl fg))]) ([((ma 3), .inl (X.2.1, 3, .inl fr))]))))) sz) (va_A (@HAppend.hAppend va_W va_W va_W _ (mW m0 ma la lb n t v) (@HAppend.hAppend va_W va_W va_W _ ([((ma 0), .inl (X.2.1, 371, .inl fa))]) (@HAppend.hAppend va_W va_W va_W _ ([((ma 6), .inl (X.2.1, 55, .inl fh))]) (@HAppend.hAppend va_W va_W va_W _ ([((ma 7), .inl (X.2.1, 6, .inl fg))]) ([((ma 3), .inl (X.2.1, 3, .inl fr))]))))) sz) s (@HAppend.hAppend va_W va_W va_W _ ([((ma 7), .inl (X.2.1, 6, .inl f_25))]) (@HAppend.hAppend va_W va_W va_W _ ([((ma 3), .inl (X.2.1, 3, .inl fr))]) (@HAppend.hAppend va_W va_W va_W _ (mW m0 ma la lb n t v) (@HAppend.hAppend va_W va_W va_W _ ([((ma 0), .inl (X.2.1, 371, .inl fa))]) ([((ma 6), .inl (X.2.1, 55, .inl f_19a))]))))) H locs := ⟨_, G⟩
            refine lv_iinc (v := (nI (k26 + 1))) (lv' := [(2, .int (nI (k26 + 1))), (3, .int r_19), (0, .ref m0), (1, .int x1)]) zx zb dX11_order_83 hl (k := 1) rfl (nI_add k26 1) (by decide) rfl (fun ls hl => ?_)
            refine lv_goto (tgt := 26) zx zb dX11_order_86 (by decide) ?_
            have G : wd X (va_A (@HAppend.hAppend va_W va_W va_W _ (mW m0 ma la lb n t v) (@HAppend.hAppend va_W va_W va_W _ ([((ma 0), .inl (X.2.1, 371, .inl fa))]) (@HAppend.hAppend va_W va_W va_W _ ([((ma 6), .inl (X.2.1, 55, .inl fh))]) (@HAppend.hAppend va_W va_W va_W _ ([((ma 7), .inl (X.2.1, 6, .inl fg))]) ([((ma 3), .inl (X.2.1, 3, .inl fr))]))))) sz) (va_A (@HAppend.hAppend va_W va_W va_W _ (mW m0 ma la lb n t v) (@HAppend.hAppend va_W va_W va_W _ ([((ma 0), .inl (X.2.1, 371, .inl fa))]) (@HAppend.hAppend va_W va_W va_W _ ([((ma 6), .inl (X.2.1, 55, .inl fh))]) (@HAppend.hAppend va_W va_W va_W _ ([((ma 7), .inl (X.2.1, 6, .inl fg))]) ([((ma 3), .inl (X.2.1, 3, .inl fr))]))))) sz) s (@HAppend.hAppend va_W va_W va_W _ (mW m0 ma la lb n t v) (@HAppend.hAppend va_W va_W va_W _ ([((ma 0), .inl (X.2.1, 371, .inl fa))]) (@HAppend.hAppend va_W va_W va_W _ ([((ma 6), .inl (X.2.1, 55, .inl f_19a))]) (@HAppend.hAppend va_W va_W va_W _ ([((ma 7), .inl (X.2.1, 6, .inl f_25))]) ([((ma 3), .inl (X.2.1, 3, .inl fr))]))))) H locs := wd_sub G [2, 3, 4, 0, 1] rfl rfl
            have hl := lv_sub hl (l' := [(2, .int (nI (k26 + 1))), (0, .ref m0), (1, .int x1)]) [0, 2, 3] rfl
            exact ih26 (k26 + 1) f_19a c0_19b c1_19c c2_19d c3_19e c4_19f f_25 _ _ _ (by omega) hI_f_19a (by omega) G hl
    · refine lv_aload_n zx zb dX11_order_19 rfl (lv_at hl 0 rfl) ?_
      refine b_wi (cells' := 0) (slots' := 0) (wr := @HAppend.hAppend va_W va_W va_W _ ([((ma 0), .inl (X.2.1, 371, .inl fa))]) (@HAppend.hAppend va_W va_W va_W _ ([((ma 6), .inl (X.2.1, 55, .inl fh))]) ([((ma 7), .inl (X.2.1, 6, .inl fg))]))) G rfl rfl [0, 4] [1, 2, 3] rfl rfl rfl rfl (n_V (As := []) (rest := []) (C := RX11) (T := TX11) (N := 18) (ci := 9) S G (m_no l X m0 ma la lb n t v fr hI_n hI_t H.size) gX11_order_X11_no rfl rfl rfl hdV_X11_no ⟨Nat.le_of_ble_eq_true rfl, Nat.le_of_ble_eq_true rfl⟩ [0, 4] rfl rfl 0 rfl rfl rfl hl.1 (Nat.le_of_ble_eq_true rfl) dX11_order_20 ⟨Nat.le_of_ble_eq_true rfl, Nat.le_of_ble_eq_true rfl⟩) (fun r_26 u_26 H locs hp_26 G => ?_)
      obtain ⟨f_26, rfl⟩ : ∃ z, z = u_26 := ⟨_, rfl⟩
      have hq_26 := hp_26
      have G : wd X (va_A (@HAppend.hAppend va_W va_W va_W _ (mW m0 ma la lb n t v) (@HAppend.hAppend va_W va_W va_W _ ([((ma 0), .inl (X.2.1, 371, .inl fa))]) (@HAppend.hAppend va_W va_W va_W _ ([((ma 6), .inl (X.2.1, 55, .inl fh))]) (@HAppend.hAppend va_W va_W va_W _ ([((ma 7), .inl (X.2.1, 6, .inl fg))]) ([((ma 3), .inl (X.2.1, 3, .inl fr))]))))) sz) (va_A (@HAppend.hAppend va_W va_W va_W _ (mW m0 ma la lb n t v) (@HAppend.hAppend va_W va_W va_W _ ([((ma 0), .inl (X.2.1, 371, .inl fa))]) (@HAppend.hAppend va_W va_W va_W _ ([((ma 6), .inl (X.2.1, 55, .inl fh))]) (@HAppend.hAppend va_W va_W va_W _ ([((ma 7), .inl (X.2.1, 6, .inl fg))]) ([((ma 3), .inl (X.2.1, 3, .inl fr))]))))) sz) s (@HAppend.hAppend va_W va_W va_W _ ([((ma 0), .inl (X.2.1, 371, .inl fa))]) (@HAppend.hAppend va_W va_W va_W _ ([((ma 6), .inl (X.2.1, 55, .inl fh))]) (@HAppend.hAppend va_W va_W va_W _ ([((ma 7), .inl (X.2.1, 6, .inl fg))]) (@HAppend.hAppend va_W va_W va_W _ (mW m0 ma la lb n t v) ([((ma 3), .inl (X.2.1, 3, .inl f_26))]))))) H locs := G
      obtain rfl := hq_26
      exact e_int S zr zlk (vp_nar_int _) G (fh, d0, d1, d2, d3, d4, fg, f_26) [3, 0, 1, 2, 4] rfl rfl (Or.inr rfl) (⟨hI_fh, trivial⟩) dX11_order_23
  · refine lv_aload_n zx zb dX11_order_4 rfl (lv_at hl 0 rfl) ?_
    refine lv_bipush (v := (-2)) zx zb dX11_order_5 (by decide) ?_
    refine b_wi (cells' := 0) (slots' := 0) (wr := @HAppend.hAppend va_W va_W va_W _ ([((ma 0), .inl (X.2.1, 371, .inl fa))]) (@HAppend.hAppend va_W va_W va_W _ ([((ma 6), .inl (X.2.1, 55, .inl fh))]) ([((ma 7), .inl (X.2.1, 6, .inl fg))]))) G rfl rfl [0, 4] [1, 2, 3] rfl rfl rfl rfl (n_V (As := [.int (-2)]) (rest := []) (C := RX11) (T := TX11) (N := 18) (ci := 9) S G (m_bad l X m0 ma la lb n t v fr (-2) hI_n hI_t s.heap.size) gX11_order_X11_bad rfl rfl rfl hdV_X11_bad ⟨Nat.le_of_ble_eq_true rfl, Nat.le_of_ble_eq_true rfl⟩ [0, 4] rfl rfl 0 rfl rfl rfl hl.1 (Nat.le_of_ble_eq_true rfl) dX11_order_7 ⟨Nat.le_of_ble_eq_true rfl, Nat.le_of_ble_eq_true rfl⟩) (fun r_27 u_27 H locs hp_27 G => ?_)
    obtain ⟨f_27, rfl⟩ : ∃ z, z = u_27 := ⟨_, rfl⟩
    have hq_27 := hp_27
    have G : wd X (va_A (@HAppend.hAppend va_W va_W va_W _ (mW m0 ma la lb n t v) (@HAppend.hAppend va_W va_W va_W _ ([((ma 0), .inl (X.2.1, 371, .inl fa))]) (@HAppend.hAppend va_W va_W va_W _ ([((ma 6), .inl (X.2.1, 55, .inl fh))]) (@HAppend.hAppend va_W va_W va_W _ ([((ma 7), .inl (X.2.1, 6, .inl fg))]) ([((ma 3), .inl (X.2.1, 3, .inl fr))]))))) sz) (va_A (@HAppend.hAppend va_W va_W va_W _ (mW m0 ma la lb n t v) (@HAppend.hAppend va_W va_W va_W _ ([((ma 0), .inl (X.2.1, 371, .inl fa))]) (@HAppend.hAppend va_W va_W va_W _ ([((ma 6), .inl (X.2.1, 55, .inl fh))]) (@HAppend.hAppend va_W va_W va_W _ ([((ma 7), .inl (X.2.1, 6, .inl fg))]) ([((ma 3), .inl (X.2.1, 3, .inl fr))]))))) sz) s (@HAppend.hAppend va_W va_W va_W _ ([((ma 0), .inl (X.2.1, 371, .inl fa))]) (@HAppend.hAppend va_W va_W va_W _ ([((ma 6), .inl (X.2.1, 55, .inl fh))]) (@HAppend.hAppend va_W va_W va_W _ ([((ma 7), .inl (X.2.1, 6, .inl fg))]) (@HAppend.hAppend va_W va_W va_W _ (mW m0 ma la lb n t v) ([((ma 3), .inl (X.2.1, 3, .inl f_27))]))))) H locs := G
    obtain rfl := hq_27
    exact e_int S zr zlk (vp_nar_int _) G (fh, d0, d1, d2, d3, d4, fg, f_27) [3, 0, 1, 2, 4] rfl rfl (Or.inr rfl) (⟨hI_fh, trivial⟩) dX11_order_10
theorem mm_X11_best_c150 : Cond.constant RX11 150 (1000000) ∈ wsX11_best := by decide +kernel
theorem in_X11_best_X11 : ∀ w ∈ wsX110, w ∈ wsX11_best := by decide +kernel
theorem lk_X11_best_7 : Cond.fieldLink RX11 7 "EggSpoonsModel" "all" "[I" ∈ wsX11_best := by decide +kernel
theorem lk_X11_best_27 : Cond.fieldLink RX11 27 "EggSpoonsModel" "hand" "[I" ∈ wsX11_best := by decide +kernel
set_option maxHeartbeats 4000000 in
set_option maxRecDepth 100000 in
/-- best -/
theorem m_best (l : Launch) (X : EX) (m0 : Nat) (ma : Nat → Nat) (la : Int64) (lb : Int64) (n : Nat) (t : Nat → Nat) (v : Nat → Int32) (fa : Nat → Int32) (c0 : Nat) (c1 : Nat) (c2 : Nat) (c3 : Nat) (c4 : Nat) (fh : Nat → Int32) (d0 : Nat) (d1 : Nat) (d2 : Nat) (d3 : Nat) (d4 : Nat) (fr : Nat → Int32) (x1 : Int32) (x2 : Int32) (hI_n : n ≤ 150) (hI_t : InT t) (hI_fa : InA fa c0 c1 c2 c3 c4) (hI_fh : InA fh d0 d1 d2 d3 d4) (sz : Nat) : Met l yX11_best wsX11_best ({ frames := 5, cells := 0, slots := 0, locals := 116 } : Room) (pE X [.ref m0, .int x1, .int x2] (@HAppend.hAppend va_W va_W va_W _ (mW m0 ma la lb n t v) (@HAppend.hAppend va_W va_W va_W _ ([((ma 0), .inl (X.2.1, 371, .inl fa))]) (@HAppend.hAppend va_W va_W va_W _ ([((ma 6), .inl (X.2.1, 55, .inl fh))]) ([((ma 3), .inl (X.2.1, 3, .inl fr))])))) sz) (qI (fun (r : Int32) (u : (Nat → Int32) × (Nat) × (Nat) × (Nat) × (Nat) × (Nat) × (Nat → Int32)) => InA u.1 u.2.1 u.2.2.1 u.2.2.2.1 u.2.2.2.2.1 u.2.2.2.2.2.1 ∧ (True)) X (fun (u : (Nat → Int32) × (Nat) × (Nat) × (Nat) × (Nat) × (Nat) × (Nat → Int32)) => @HAppend.hAppend va_W va_W va_W _ (mW m0 ma la lb n t v) (@HAppend.hAppend va_W va_W va_W _ ([((ma 0), .inl (X.2.1, 371, .inl fa))]) (@HAppend.hAppend va_W va_W va_W _ ([((ma 6), .inl (X.2.1, 55, .inl u.1))]) ([((ma 3), .inl (X.2.1, 3, .inl u.2.2.2.2.2.2))])))) (@HAppend.hAppend va_W va_W va_W _ (mW m0 ma la lb n t v) (@HAppend.hAppend va_W va_W va_W _ ([((ma 0), .inl (X.2.1, 371, .inl fa))]) (@HAppend.hAppend va_W va_W va_W _ ([((ma 6), .inl (X.2.1, 55, .inl fh))]) ([((ma 3), .inl (X.2.1, 3, .inl fr))])))) sz) 0 0 (va_A (@HAppend.hAppend va_W va_W va_W _ (mW m0 ma la lb n t v) (@HAppend.hAppend va_W va_W va_W _ ([((ma 0), .inl (X.2.1, 371, .inl fa))]) (@HAppend.hAppend va_W va_W va_W _ ([((ma 6), .inl (X.2.1, 55, .inl fh))]) ([((ma 3), .inl (X.2.1, 3, .inl fr))])))) sz) := by
  refine mk_met (B := (va_A (@HAppend.hAppend va_W va_W va_W _ (mW m0 ma la lb n t v) (@HAppend.hAppend va_W va_W va_W _ ([((ma 0), .inl (X.2.1, 371, .inl fa))]) (@HAppend.hAppend va_W va_W va_W _ ([((ma 6), .inl (X.2.1, 55, .inl fh))]) ([((ma 3), .inl (X.2.1, 3, .inl fr))])))) sz)) (A := (va_A (@HAppend.hAppend va_W va_W va_W _ (mW m0 ma la lb n t v) (@HAppend.hAppend va_W va_W va_W _ ([((ma 0), .inl (X.2.1, 371, .inl fa))]) (@HAppend.hAppend va_W va_W va_W _ ([((ma 6), .inl (X.2.1, 55, .inl fh))]) ([((ma 3), .inl (X.2.1, 3, .inl fr))])))) sz)) (cc := cX11_best) (maxL := 7) (ret := (some .int)) (by decide) rfl (Nat.le_of_ble_eq_true rfl) k_w k_a (fun p e s m below meth c S zr zlk znm zsz G ls hl => ?_)
  have S : CallFix p m c cX11_best 7 s _ wsX11_best RX11 := S
  have zx := S.1
  have zb := S.2.1
  have hl : lv_has ls 7 [(0, .ref m0), (1, .int x1), (2, .int x2)] := hl
  have hO_t := hI_t
  obtain ⟨ht0_t, ht1_t⟩ := hO_t
  have hO_fa := hI_fa.2
  obtain ⟨hm0_fa, hm1_fa, hm2_fa, hm3_fa, hm4_fa⟩ := hO_fa
  have hO_fh := hI_fh.2
  obtain ⟨hm0_fh, hm1_fh, hm2_fh, hm3_fh, hm4_fh⟩ := hO_fh
  refine lv_aload_n zx zb dX11_best_0 rfl (lv_at hl 0 rfl) ?_
  refine lv_iload_n zx zb dX11_best_1 rfl (lv_at hl 1 rfl) ?_
  refine o_ri (cells' := 0) (slots' := 0) G rfl rfl (n_V (As := [.int x1]) (rest := []) (C := RX11) (T := TX11) (N := 18) (ci := 9) S G (m_isOne l X m0 ma la lb n t v fa c0 c1 c2 c3 c4 x1 hI_n hI_t hI_fa s.heap.size) gX11_best_X11_isOne rfl rfl rfl hdV_X11_isOne ⟨Nat.le_of_ble_eq_true rfl, Nat.le_of_ble_eq_true rfl⟩ [0, 1] rfl rfl 0 rfl rfl rfl hl.1 (Nat.le_of_ble_eq_true rfl) dX11_best_2 ⟨Nat.le_of_ble_eq_true rfl, Nat.le_of_ble_eq_true rfl⟩) (fun r_1 u_1 H locs hp_1 G => ?_)
  have G : wd X (va_A (@HAppend.hAppend va_W va_W va_W _ (mW m0 ma la lb n t v) (@HAppend.hAppend va_W va_W va_W _ ([((ma 0), .inl (X.2.1, 371, .inl fa))]) (@HAppend.hAppend va_W va_W va_W _ ([((ma 6), .inl (X.2.1, 55, .inl fh))]) ([((ma 3), .inl (X.2.1, 3, .inl fr))])))) sz) (va_A (@HAppend.hAppend va_W va_W va_W _ (mW m0 ma la lb n t v) (@HAppend.hAppend va_W va_W va_W _ ([((ma 0), .inl (X.2.1, 371, .inl fa))]) (@HAppend.hAppend va_W va_W va_W _ ([((ma 6), .inl (X.2.1, 55, .inl fh))]) ([((ma 3), .inl (X.2.1, 3, .inl fr))])))) sz) s (@HAppend.hAppend va_W va_W va_W _ (mW m0 ma la lb n t v) (@HAppend.hAppend va_W va_W va_W _ ([((ma 0), .inl (X.2.1, 371, .inl fa))]) (@HAppend.hAppend va_W va_W va_W _ ([((ma 6), .inl (X.2.1, 55, .inl fh))]) ([((ma 3), .inl (X.2.1, 3, .inl fr))])))) H locs := G
  rcases hp_1 with ⟨rfl, hj_1⟩ | ⟨rfl, hj_1⟩
  · obtain ⟨j_1, hj_1, rfl⟩ := hj_1
    refine lv_if_eq (tgt := 18) zx zb dX11_best_5 (by decide) (fun c_2 => absurd c_2 (by decide)) (fun c_2 => ?_)
    refine lv_iload_n zx zb dX11_best_8 rfl (lv_at hl 2 rfl) ?_
    refine lv_i2l (v := (Int32.toInt64 x2)) zx zb dX11_best_9 rfl ?_
    refine lv_lconst (v := (Int32.toInt64 0)) zx zb dX11_best_10 (by decide) ?_
    refine lv_lconst (v := (Int32.toInt64 1)) zx zb dX11_best_11 (by decide) ?_
    refine o_ri (cells' := 0) (slots' := 0) G rfl rfl (n_S (As := [.long (Int32.toInt64 x2), .long (Int32.toInt64 0), .long (Int32.toInt64 1)]) (rest := []) S G (m_in l X x2 0 1 H.size) gX11_best_X11_in rfl rfl rfl hdS_X11_in ⟨Nat.le_of_ble_eq_true rfl, Nat.le_of_ble_eq_true rfl⟩ [] rfl rfl rfl hl.1 (Nat.le_of_ble_eq_true rfl) dX11_best_12 ⟨Nat.le_of_ble_eq_true rfl, Nat.le_of_ble_eq_true rfl⟩) (fun r_3 u_3 H locs hp_3 G => ?_)
    have G : wd X (va_A (@HAppend.hAppend va_W va_W va_W _ (mW m0 ma la lb n t v) (@HAppend.hAppend va_W va_W va_W _ ([((ma 0), .inl (X.2.1, 371, .inl fa))]) (@HAppend.hAppend va_W va_W va_W _ ([((ma 6), .inl (X.2.1, 55, .inl fh))]) ([((ma 3), .inl (X.2.1, 3, .inl fr))])))) sz) (va_A (@HAppend.hAppend va_W va_W va_W _ (mW m0 ma la lb n t v) (@HAppend.hAppend va_W va_W va_W _ ([((ma 0), .inl (X.2.1, 371, .inl fa))]) (@HAppend.hAppend va_W va_W va_W _ ([((ma 6), .inl (X.2.1, 55, .inl fh))]) ([((ma 3), .inl (X.2.1, 3, .inl fr))])))) sz) s (@HAppend.hAppend va_W va_W va_W _ (mW m0 ma la lb n t v) (@HAppend.hAppend va_W va_W va_W _ ([((ma 0), .inl (X.2.1, 371, .inl fa))]) (@HAppend.hAppend va_W va_W va_W _ ([((ma 6), .inl (X.2.1, 55, .inl fh))]) ([((ma 3), .inl (X.2.1, 3, .inl fr))])))) H locs := G
    rcases hp_3 with ⟨rfl, hw_3⟩ | ⟨rfl, hw_3⟩
    · obtain ⟨j_3, ⟨ja_3, jb_3⟩, rfl⟩ := k_natR (a := 0) (b := 1) hw_3 rfl rfl (by decide) (by decide)
      refine lv_if_ne (tgt := 25) zx zb dX11_best_15 (by decide) (fun c_4 => ?_) (fun c_4 => absurd c_4 (by decide))
      refine lv_iconst (v := (-1)) zx zb dX11_best_25 (by decide) ?_
      refine lv_istore_n (lv' := [(3, .int (-1)), (0, .ref m0), (1, .int (nI j_1)), (2, .int (nI j_3))]) zx zb dX11_best_26 rfl hl (by decide) rfl (fun ls hl => ?_)
      refine lv_ldc zx zb S.2.2.2.1 (S.2.2.2.2 _ mm_X11_best_c150) dX11_best_27 ?_
      refine lv_istore (lv' := [(4, .int 1000000), (3, .int (-1)), (0, .ref m0), (1, .int (nI j_1)), (2, .int (nI j_3))]) zx zb dX11_best_29 hl (by decide) rfl (fun ls hl => ?_)
      refine lv_iconst (v := 0) zx zb dX11_best_31 (by decide) ?_
      refine lv_istore (lv' := [(5, .int 0), (4, .int 1000000), (3, .int (-1)), (0, .ref m0), (1, .int (nI j_1)), (2, .int (nI j_3))]) zx zb dX11_best_32 hl (by decide) rfl (fun ls hl => ?_)
      refine k_loop (P := ∀ (zm : Nat) (k34 : Nat) (x34_4 : Int32) (x34_3 : Int32) (f34_2 : Nat → Int32) (c034_2 : Nat) (c134_2 : Nat) (c234_2 : Nat) (c334_2 : Nat) (c434_2 : Nat) (H : Heap) (locs : List Loc) (ls : Array Slot), 10 + 1 ≤ k34 + zm → InA f34_2 c034_2 c134_2 c234_2 c334_2 c434_2 → (k34 ≤ 10) → wd X (va_A (@HAppend.hAppend va_W va_W va_W _ (mW m0 ma la lb n t v) (@HAppend.hAppend va_W va_W va_W _ ([((ma 0), .inl (X.2.1, 371, .inl fa))]) (@HAppend.hAppend va_W va_W va_W _ ([((ma 6), .inl (X.2.1, 55, .inl fh))]) ([((ma 3), .inl (X.2.1, 3, .inl fr))])))) sz) (va_A (@HAppend.hAppend va_W va_W va_W _ (mW m0 ma la lb n t v) (@HAppend.hAppend va_W va_W va_W _ ([((ma 0), .inl (X.2.1, 371, .inl fa))]) (@HAppend.hAppend va_W va_W va_W _ ([((ma 6), .inl (X.2.1, 55, .inl fh))]) ([((ma 3), .inl (X.2.1, 3, .inl fr))])))) sz) s (@HAppend.hAppend va_W va_W va_W _ (mW m0 ma la lb n t v) (@HAppend.hAppend va_W va_W va_W _ ([((ma 0), .inl (X.2.1, 371, .inl fa))]) (@HAppend.hAppend va_W va_W va_W _ ([((ma 6), .inl (X.2.1, 55, .inl f34_2))]) ([((ma 3), .inl (X.2.1, 3, .inl fr))])))) H locs → lv_has ls 7 [(5, .int (nI k34)), (4, .int x34_4), (3, .int x34_3), (0, .ref m0), (1, .int (nI j_1)), (2, .int (nI j_3))] → W p l e _ s m _ below meth c H locs _ _ _ (F0 m 34 ls [])) (fun loop => loop (10 + 1) 0 1000000 (-1) fh d0 d1 d2 d3 d4 _ _ _ (by omega) hI_fh (by omega) G hl) ?_
      intro zm
      induction zm with
      | zero => intro k34 x34_4 x34_3 f34_2 c034_2 c134_2 c234_2 c334_2 c434_2 H locs ls zz q_hI_f34_2 q_hk_k34 _ _; exact absurd zz (by omega)
      | succ zm ih34 =>
        intro k34 x34_4 x34_3 f34_2 c034_2 c134_2 c234_2 c334_2 c434_2 H locs ls zm_34 hI_f34_2 hk_k34 G hl
        have hO_f34_2 := hI_f34_2.2
        obtain ⟨hm0_f34_2, hm1_f34_2, hm2_f34_2, hm3_f34_2, hm4_f34_2⟩ := hO_f34_2
        refine lv_iload zx zb dX11_best_34 (lv_at hl 0 rfl) ?_
        refine lv_bipush (v := 10) zx zb dX11_best_36 (by decide) ?_
        refine k_cutW (PP := fun Wx => ∀ (H : Heap) (locs : List Loc) (ls : Array Slot), wd X (va_A (@HAppend.hAppend va_W va_W va_W _ (mW m0 ma la lb n t v) (@HAppend.hAppend va_W va_W va_W _ ([((ma 0), .inl (X.2.1, 371, .inl fa))]) (@HAppend.hAppend va_W va_W va_W _ ([((ma 6), .inl (X.2.1, 55, .inl fh))]) ([((ma 3), .inl (X.2.1, 3, .inl fr))])))) sz) (va_A (@HAppend.hAppend va_W va_W va_W _ (mW m0 ma la lb n t v) (@HAppend.hAppend va_W va_W va_W _ ([((ma 0), .inl (X.2.1, 371, .inl fa))]) (@HAppend.hAppend va_W va_W va_W _ ([((ma 6), .inl (X.2.1, 55, .inl fh))]) ([((ma 3), .inl (X.2.1, 3, .inl fr))])))) sz) s (@HAppend.hAppend va_W va_W va_W _ (mW m0 ma la lb n t v) (@HAppend.hAppend va_W va_W va_W _ ([((ma 0), .inl (X.2.1, 371, .inl fa))]) (@HAppend.hAppend va_W va_W va_W _ ([((ma 6), .inl (X.2.1, 55, .inl f34_2))]) ([((ma 3), .inl (X.2.1, 3, .inl fr))])))) H locs → lv_has ls 7 [(5, .int (nI k34)), (4, .int x34_4), (3, .int x34_3), (0, .ref m0), (1, .int (nI j_1)), (2, .int (nI j_3))] → Wx (F0 m 102 ls []) H locs) ?_ ?_
        · intro join_38
          refine lv_icmp_ge (tgt := 102) zx zb dX11_best_38 (by decide) (fun c_5 => ?_) (fun c_5 => ?_)
          · have fc_5 := j_le (a := 10) (b := k34) (by omega) (by omega) c_5
            exact join_38  _ _ _  G hl
          · have fc_5 := j_nle (a := 10) (b := k34) (by omega) (by omega) c_5
            refine lv_aload_n zx zb dX11_best_41 rfl (lv_at hl 3 rfl) ?_
            refine r_get (C := RX11) (T := TX11) (N := 18) (ci := 9) (v := .ref (ma 0)) S in_X11_best_X11 G 0 rfl rfl 0 (by decide) lk_X11_best_7 rfl dX11_best_42 ?_
            refine lv_iload_n zx zb dX11_best_45 rfl (lv_at hl 4 rfl) ?_
            refine o_ri (cells' := 0) (slots' := 0) G rfl rfl (n_S (As := [.ref (ma 0), .int (nI j_1)]) (rest := []) S G (m_isHome l X (ma 0) 371 fa c0 c1 c2 c3 c4 j_1 hI_fa (by omega) (by omega) (by omega) H.size) gX11_best_X11_isHome rfl rfl rfl hdS_X11_isHome ⟨Nat.le_of_ble_eq_true rfl, Nat.le_of_ble_eq_true rfl⟩ [1] rfl rfl rfl hl.1 (Nat.le_of_ble_eq_true rfl) dX11_best_46 ⟨Nat.le_of_ble_eq_true rfl, Nat.le_of_ble_eq_true rfl⟩) (fun r_6 u_6 H locs hp_6 G => ?_)
            have G : wd X (va_A (@HAppend.hAppend va_W va_W va_W _ (mW m0 ma la lb n t v) (@HAppend.hAppend va_W va_W va_W _ ([((ma 0), .inl (X.2.1, 371, .inl fa))]) (@HAppend.hAppend va_W va_W va_W _ ([((ma 6), .inl (X.2.1, 55, .inl fh))]) ([((ma 3), .inl (X.2.1, 3, .inl fr))])))) sz) (va_A (@HAppend.hAppend va_W va_W va_W _ (mW m0 ma la lb n t v) (@HAppend.hAppend va_W va_W va_W _ ([((ma 0), .inl (X.2.1, 371, .inl fa))]) (@HAppend.hAppend va_W va_W va_W _ ([((ma 6), .inl (X.2.1, 55, .inl fh))]) ([((ma 3), .inl (X.2.1, 3, .inl fr))])))) sz) s (@HAppend.hAppend va_W va_W va_W _ (mW m0 ma la lb n t v) (@HAppend.hAppend va_W va_W va_W _ ([((ma 0), .inl (X.2.1, 371, .inl fa))]) (@HAppend.hAppend va_W va_W va_W _ ([((ma 6), .inl (X.2.1, 55, .inl f34_2))]) ([((ma 3), .inl (X.2.1, 3, .inl fr))])))) H locs := G
            refine lv_if_ne (tgt := 102) zx zb dX11_best_49 (by decide) (fun c_7 => ?_) (fun c_7 => ?_)
            · exact join_38  _ _ _  G hl
            · refine lv_aload_n zx zb dX11_best_52 rfl (lv_at hl 3 rfl) ?_
              refine b_wv (cells' := 0) (slots' := 0) (wr := [((ma 3), .inl (X.2.1, 3, .inl fr))]) G rfl rfl [0, 1, 2] [3] rfl rfl rfl rfl (n_V (As := []) (rest := []) (C := RX11) (T := TX11) (N := 18) (ci := 9) S G (m_layHand l X m0 ma la lb n t v fa c0 c1 c2 c3 c4 f34_2 c034_2 c134_2 c234_2 c334_2 c434_2 hI_n hI_t hI_fa hI_f34_2 H.size) gX11_best_X11_layHand rfl rfl rfl hdV_X11_layHand ⟨Nat.le_of_ble_eq_true rfl, Nat.le_of_ble_eq_true rfl⟩ [0, 1, 2] rfl rfl 0 rfl rfl rfl hl.1 (Nat.le_of_ble_eq_true rfl) dX11_best_53 ⟨Nat.le_of_ble_eq_true rfl, Nat.le_of_ble_eq_true rfl⟩) (fun u_8 H locs hp_8 G => ?_)
              obtain ⟨f_8a, c0_8b, c1_8c, c2_8d, c3_8e, c4_8f⟩ := u_8
              try dsimp only at hp_8
              obtain ⟨hI_f_8a, hq_8⟩ := hp_8
              have hO_f_8a := hI_f_8a.2
              obtain ⟨hm0_f_8a, hm1_f_8a, hm2_f_8a, hm3_f_8a, hm4_f_8a⟩ := hO_f_8a
              have G : wd X (va_A (@HAppend.hAppend va_W va_W va_W _ (mW m0 ma la lb n t v) (@HAppend.hAppend va_W va_W va_W _ ([((ma 0), .inl (X.2.1, 371, .inl fa))]) (@HAppend.hAppend va_W va_W va_W _ ([((ma 6), .inl (X.2.1, 55, .inl fh))]) ([((ma 3), .inl (X.2.1, 3, .inl fr))])))) sz) (va_A (@HAppend.hAppend va_W va_W va_W _ (mW m0 ma la lb n t v) (@HAppend.hAppend va_W va_W va_W _ ([((ma 0), .inl (X.2.1, 371, .inl fa))]) (@HAppend.hAppend va_W va_W va_W _ ([((ma 6), .inl (X.2.1, 55, .inl fh))]) ([((ma 3), .inl (X.2.1, 3, .inl fr))])))) sz) s (@HAppend.hAppend va_W va_W va_W _ ([((ma 3), .inl (X.2.1, 3, .inl fr))]) (@HAppend.hAppend va_W va_W va_W _ (mW m0 ma la lb n t v) (@HAppend.hAppend va_W va_W va_W _ ([((ma 0), .inl (X.2.1, 371, .inl fa))]) ([((ma 6), .inl (X.2.1, 55, .inl f_8a))])))) H locs := G
              refine lv_aload_n zx zb dX11_best_56 rfl (lv_at hl 3 rfl) ?_
              refine r_get (C := RX11) (T := TX11) (N := 18) (ci := 9) (v := .ref (ma 6)) S in_X11_best_X11 G 1 rfl rfl 6 (by decide) lk_X11_best_27 rfl dX11_best_57 ?_
              refine lv_bipush (v := 11) zx zb dX11_best_60 (by decide) ?_
              refine lv_iload_n zx zb dX11_best_62 rfl (lv_at hl 4 rfl) ?_
              refine r_iadd (v := (nI (11 + j_1))) S (nI_add 11 j_1) dX11_best_63 ?_
              refine lv_iload zx zb dX11_best_64 (lv_at hl 0 rfl) ?_
              refine r_iast S G 3 rfl (vp_in_nI (by omega) (by decide)) dX11_best_66 (fun H locs G => ?_)
              obtain ⟨f_9, hI_f_9, hE_f_9, G⟩ : ∃ f_9 : Nat → Int32, InA f_9 c0_8b c1_8c c2_8d c3_8e c4_8f ∧ f_9 = upd f_8a (nI (11 + j_1)).toNatClampNeg (nI k34) ∧ wd X (va_A (@HAppend.hAppend va_W va_W va_W _ (mW m0 ma la lb n t v) (@HAppend.hAppend va_W va_W va_W _ ([((ma 0), .inl (X.2.1, 371, .inl fa))]) (@HAppend.hAppend va_W va_W va_W _ ([((ma 6), .inl (X.2.1, 55, .inl fh))]) ([((ma 3), .inl (X.2.1, 3, .inl fr))])))) sz) (va_A (@HAppend.hAppend va_W va_W va_W _ (mW m0 ma la lb n t v) (@HAppend.hAppend va_W va_W va_W _ ([((ma 0), .inl (X.2.1, 371, .inl fa))]) (@HAppend.hAppend va_W va_W va_W _ ([((ma 6), .inl (X.2.1, 55, .inl fh))]) ([((ma 3), .inl (X.2.1, 3, .inl fr))])))) sz) s (@HAppend.hAppend va_W va_W va_W _ ([((ma 3), .inl (X.2.1, 3, .inl fr))]) (@HAppend.hAppend va_W va_W va_W _ (mW m0 ma la lb n t v) (@HAppend.hAppend va_W va_W va_W _ ([((ma 0), .inl (X.2.1, 371, .inl fa))]) ([((ma 6), .inl (X.2.1, 55, .inl f_9))])))) H locs := ⟨_, InA_o hI_f_8a (by rw [nI_clamp (by omega)]; omega), rfl, G⟩
              refine lv_aload_n zx zb dX11_best_67 rfl (lv_at hl 3 rfl) ?_
              refine lv_iload_n zx zb dX11_best_68 rfl (lv_at hl 4 rfl) ?_
              refine lv_bipush (v := 60) zx zb dX11_best_69 (by decide) ?_
              refine b_wi (cells' := 0) (slots' := 0) (wr := @HAppend.hAppend va_W va_W va_W _ ([((ma 3), .inl (X.2.1, 3, .inl fr))]) ([((ma 0), .inl (X.2.1, 371, .inl fa))])) G rfl rfl [1, 3] [0, 2] rfl rfl rfl rfl (n_V (As := [.int (nI j_1), .int 60]) (rest := []) (C := RX11) (T := TX11) (N := 18) (ci := 9) S G (m_homeAtHand l X m0 ma la lb n t v f_9 c0_8b c1_8c c2_8d c3_8e c4_8f j_1 60 hI_n hI_t hI_f_9 (by omega) (by omega) H.size) gX11_best_X11_homeAtHand rfl rfl rfl hdV_X11_homeAtHand ⟨Nat.le_of_ble_eq_true rfl, Nat.le_of_ble_eq_true rfl⟩ [1, 3] rfl rfl 1 rfl rfl rfl hl.1 (Nat.le_of_ble_eq_true rfl) dX11_best_71 ⟨Nat.le_of_ble_eq_true rfl, Nat.le_of_ble_eq_true rfl⟩) (fun r_10 u_10 H locs hp_10 G => ?_)
              obtain ⟨f_10, rfl⟩ : ∃ z, z = u_10 := ⟨_, rfl⟩
              obtain ⟨hI_f_10, hq_10⟩ := hp_10
              have G : wd X (va_A (@HAppend.hAppend va_W va_W va_W _ (mW m0 ma la lb n t v) (@HAppend.hAppend va_W va_W va_W _ ([((ma 0), .inl (X.2.1, 371, .inl fa))]) (@HAppend.hAppend va_W va_W va_W _ ([((ma 6), .inl (X.2.1, 55, .inl fh))]) ([((ma 3), .inl (X.2.1, 3, .inl fr))])))) sz) (va_A (@HAppend.hAppend va_W va_W va_W _ (mW m0 ma la lb n t v) (@HAppend.hAppend va_W va_W va_W _ ([((ma 0), .inl (X.2.1, 371, .inl fa))]) (@HAppend.hAppend va_W va_W va_W _ ([((ma 6), .inl (X.2.1, 55, .inl fh))]) ([((ma 3), .inl (X.2.1, 3, .inl fr))])))) sz) s (@HAppend.hAppend va_W va_W va_W _ ([((ma 3), .inl (X.2.1, 3, .inl fr))]) (@HAppend.hAppend va_W va_W va_W _ ([((ma 0), .inl (X.2.1, 371, .inl fa))]) (@HAppend.hAppend va_W va_W va_W _ (mW m0 ma la lb n t v) ([((ma 6), .inl (X.2.1, 55, .inl f_10))])))) H locs := G
              refine lv_istore (lv' := [(6, .int r_10), (5, .int (nI k34)), (4, .int x34_4), (3, .int x34_3), (0, .ref m0), (1, .int (nI j_1)), (2, .int (nI j_3))]) zx zb dX11_best_74 hl (by decide) rfl (fun ls hl => ?_)
              refine lv_iload zx zb dX11_best_76 (lv_at hl 0 rfl) ?_
              refine lv_iconst (v := (-1)) zx zb dX11_best_78 (by decide) ?_
              refine k_cutW (PP := fun Wx => ∀ (x_12 : Int32) (x_13 : Int32) (H : Heap) (locs : List Loc) (ls : Array Slot), wd X (va_A (@HAppend.hAppend va_W va_W va_W _ (mW m0 ma la lb n t v) (@HAppend.hAppend va_W va_W va_W _ ([((ma 0), .inl (X.2.1, 371, .inl fa))]) (@HAppend.hAppend va_W va_W va_W _ ([((ma 6), .inl (X.2.1, 55, .inl fh))]) ([((ma 3), .inl (X.2.1, 3, .inl fr))])))) sz) (va_A (@HAppend.hAppend va_W va_W va_W _ (mW m0 ma la lb n t v) (@HAppend.hAppend va_W va_W va_W _ ([((ma 0), .inl (X.2.1, 371, .inl fa))]) (@HAppend.hAppend va_W va_W va_W _ ([((ma 6), .inl (X.2.1, 55, .inl fh))]) ([((ma 3), .inl (X.2.1, 3, .inl fr))])))) sz) s (@HAppend.hAppend va_W va_W va_W _ ([((ma 3), .inl (X.2.1, 3, .inl fr))]) (@HAppend.hAppend va_W va_W va_W _ ([((ma 0), .inl (X.2.1, 371, .inl fa))]) (@HAppend.hAppend va_W va_W va_W _ (mW m0 ma la lb n t v) ([((ma 6), .inl (X.2.1, 55, .inl f_10))])))) H locs → lv_has ls 7 [(6, .int r_10), (5, .int (nI k34)), (4, .int x_12), (3, .int x_13), (0, .ref m0), (1, .int (nI j_1)), (2, .int (nI j_3))] → Wx (F0 m 96 ls []) H locs) ?_ ?_
              · intro join_79
                refine lv_icmp_eq (tgt := 96) zx zb dX11_best_79 (by decide) (fun c_11 => ?_) (fun c_11 => ?_)
                · exact join_79 x34_4 x34_3 _ _ _  G hl
                · refine lv_iload zx zb dX11_best_82 (lv_at hl 0 rfl) ?_
                  refine lv_iload zx zb dX11_best_84 (lv_at hl 2 rfl) ?_
                  refine lv_icmp_ge (tgt := 96) zx zb dX11_best_86 (by decide) (fun c_14 => ?_) (fun c_14 => ?_)
                  · exact join_79 x34_4 x34_3 _ _ _  G hl
                  · refine lv_iload zx zb dX11_best_89 (lv_at hl 1 rfl) ?_
                    refine lv_istore_n (lv' := [(3, .int (nI k34)), (6, .int r_10), (5, .int (nI k34)), (4, .int x34_4), (0, .ref m0), (1, .int (nI j_1)), (2, .int (nI j_3))]) zx zb dX11_best_91 rfl hl (by decide) rfl (fun ls hl => ?_)
                    refine lv_iload zx zb dX11_best_92 (lv_at hl 1 rfl) ?_
                    refine lv_istore (lv' := [(4, .int r_10), (3, .int (nI k34)), (6, .int r_10), (5, .int (nI k34)), (0, .ref m0), (1, .int (nI j_1)), (2, .int (nI j_3))]) zx zb dX11_best_94 hl (by decide) rfl (fun ls hl => ?_)
                    have hl := lv_sub hl (l' := [(6, .int r_10), (5, .int (nI k34)), (4, .int r_10), (3, .int (nI k34)), (0, .ref m0), (1, .int (nI j_1)), (2, .int (nI j_3))]) [2, 3, 0, 1, 4, 5, 6] rfl
                    exact join_79 r_10 (nI k34) _ _ _  G hl
              · intro x_12 x_13 H locs ls  G hl
                refine lv_iinc (v := (nI (k34 + 1))) (lv' := [(5, .int (nI (k34 + 1))), (6, .int r_10), (4, .int x_12), (3, .int x_13), (0, .ref m0), (1, .int (nI j_1)), (2, .int (nI j_3))]) zx zb dX11_best_96 hl (k := 1) rfl (nI_add k34 1) (by decide) rfl (fun ls hl => ?_)
                refine lv_goto (tgt := 34) zx zb dX11_best_99 (by decide) ?_
                have G : wd X (va_A (@HAppend.hAppend va_W va_W va_W _ (mW m0 ma la lb n t v) (@HAppend.hAppend va_W va_W va_W _ ([((ma 0), .inl (X.2.1, 371, .inl fa))]) (@HAppend.hAppend va_W va_W va_W _ ([((ma 6), .inl (X.2.1, 55, .inl fh))]) ([((ma 3), .inl (X.2.1, 3, .inl fr))])))) sz) (va_A (@HAppend.hAppend va_W va_W va_W _ (mW m0 ma la lb n t v) (@HAppend.hAppend va_W va_W va_W _ ([((ma 0), .inl (X.2.1, 371, .inl fa))]) (@HAppend.hAppend va_W va_W va_W _ ([((ma 6), .inl (X.2.1, 55, .inl fh))]) ([((ma 3), .inl (X.2.1, 3, .inl fr))])))) sz) s (@HAppend.hAppend va_W va_W va_W _ (mW m0 ma la lb n t v) (@HAppend.hAppend va_W va_W va_W _ ([((ma 0), .inl (X.2.1, 371, .inl fa))]) (@HAppend.hAppend va_W va_W va_W _ ([((ma 6), .inl (X.2.1, 55, .inl f_10))]) ([((ma 3), .inl (X.2.1, 3, .inl fr))])))) H locs := wd_sub G [2, 1, 3, 0] rfl rfl
                have hl := lv_sub hl (l' := [(5, .int (nI (k34 + 1))), (4, .int x_12), (3, .int x_13), (0, .ref m0), (1, .int (nI j_1)), (2, .int (nI j_3))]) [0, 2, 3, 4, 5, 6] rfl
                exact ih34 (k34 + 1) x_12 x_13 f_10 c0_8b c1_8c c2_8d c3_8e c4_8f _ _ _ (by omega) hI_f_10 (by omega) G hl
        · intro  H locs ls  G hl
          refine lv_iload_n zx zb dX11_best_102 rfl (lv_at hl 2 rfl) ?_
          refine lv_iconst (v := (-1)) zx zb dX11_best_103 (by decide) ?_
          refine k_cutW (PP := fun Wx => ∀ (x_16 : Int32) (H : Heap) (locs : List Loc) (ls : Array Slot), wd X (va_A (@HAppend.hAppend va_W va_W va_W _ (mW m0 ma la lb n t v) (@HAppend.hAppend va_W va_W va_W _ ([((ma 0), .inl (X.2.1, 371, .inl fa))]) (@HAppend.hAppend va_W va_W va_W _ ([((ma 6), .inl (X.2.1, 55, .inl fh))]) ([((ma 3), .inl (X.2.1, 3, .inl fr))])))) sz) (va_A (@HAppend.hAppend va_W va_W va_W _ (mW m0 ma la lb n t v) (@HAppend.hAppend va_W va_W va_W _ ([((ma 0), .inl (X.2.1, 371, .inl fa))]) (@HAppend.hAppend va_W va_W va_W _ ([((ma 6), .inl (X.2.1, 55, .inl fh))]) ([((ma 3), .inl (X.2.1, 3, .inl fr))])))) sz) s (@HAppend.hAppend va_W va_W va_W _ (mW m0 ma la lb n t v) (@HAppend.hAppend va_W va_W va_W _ ([((ma 0), .inl (X.2.1, 371, .inl fa))]) (@HAppend.hAppend va_W va_W va_W _ ([((ma 6), .inl (X.2.1, 55, .inl f34_2))]) ([((ma 3), .inl (X.2.1, 3, .inl fr))])))) H locs → lv_has ls 7 [(5, .int (nI k34)), (4, .int x34_4), (3, .int x34_3), (0, .ref m0), (1, .int (nI j_1)), (2, .int (nI j_3))] → Wx (F0 m 117 ls [.int x_16]) H locs) ?_ ?_
          · intro join_104
            refine lv_icmp_eq (tgt := 111) zx zb dX11_best_104 (by decide) (fun c_15 => ?_) (fun c_15 => ?_)
            · refine lv_iload_n zx zb dX11_best_111 rfl (lv_at hl 2 rfl) ?_
              refine lv_goto (tgt := 117) zx zb dX11_best_112 (by decide) ?_
              exact join_104 x34_3 _ _ _  G hl
            · refine lv_iload_n zx zb dX11_best_107 rfl (lv_at hl 5 rfl) ?_
              refine lv_if_ne (tgt := 115) zx zb dX11_best_108 (by decide) (fun c_17 => ?_) (fun c_17 => ?_)
              · have fc_17 := j_ne (a := j_3) (b := 0) c_17
                refine lv_iload zx zb dX11_best_115 (lv_at hl 1 rfl) ?_
                exact join_104 x34_4 _ _ _  G hl
              · have fc_17 := j_eq (a := j_3) (b := 0) (by omega) (by omega) c_17
                refine lv_iload_n zx zb dX11_best_111 rfl (lv_at hl 2 rfl) ?_
                refine lv_goto (tgt := 117) zx zb dX11_best_112 (by decide) ?_
                exact join_104 x34_3 _ _ _  G hl
          · intro x_16 H locs ls  G hl
            exact e_int S zr zlk (vp_nar_int _) G (f34_2, c034_2, c134_2, c234_2, c334_2, c434_2, fr) [0, 1, 2, 3] rfl rfl (Or.inr rfl) (⟨hI_f34_2, trivial⟩) dX11_best_117
    · refine lv_if_ne (tgt := 25) zx zb dX11_best_15 (by decide) (fun c_18 => absurd (by decide) c_18) (fun c_18 => ?_)
      refine lv_aload_n zx zb dX11_best_18 rfl (lv_at hl 0 rfl) ?_
      refine lv_bipush (v := (-2)) zx zb dX11_best_19 (by decide) ?_
      refine b_wi (cells' := 0) (slots' := 0) (wr := @HAppend.hAppend va_W va_W va_W _ ([((ma 0), .inl (X.2.1, 371, .inl fa))]) ([((ma 6), .inl (X.2.1, 55, .inl fh))])) G rfl rfl [0, 3] [1, 2] rfl rfl rfl rfl (n_V (As := [.int (-2)]) (rest := []) (C := RX11) (T := TX11) (N := 18) (ci := 9) S G (m_bad l X m0 ma la lb n t v fr (-2) hI_n hI_t H.size) gX11_best_X11_bad rfl rfl rfl hdV_X11_bad ⟨Nat.le_of_ble_eq_true rfl, Nat.le_of_ble_eq_true rfl⟩ [0, 3] rfl rfl 0 rfl rfl rfl hl.1 (Nat.le_of_ble_eq_true rfl) dX11_best_21 ⟨Nat.le_of_ble_eq_true rfl, Nat.le_of_ble_eq_true rfl⟩) (fun r_19 u_19 H locs hp_19 G => ?_)
      obtain ⟨f_19, rfl⟩ : ∃ z, z = u_19 := ⟨_, rfl⟩
      have hq_19 := hp_19
      have G : wd X (va_A (@HAppend.hAppend va_W va_W va_W _ (mW m0 ma la lb n t v) (@HAppend.hAppend va_W va_W va_W _ ([((ma 0), .inl (X.2.1, 371, .inl fa))]) (@HAppend.hAppend va_W va_W va_W _ ([((ma 6), .inl (X.2.1, 55, .inl fh))]) ([((ma 3), .inl (X.2.1, 3, .inl fr))])))) sz) (va_A (@HAppend.hAppend va_W va_W va_W _ (mW m0 ma la lb n t v) (@HAppend.hAppend va_W va_W va_W _ ([((ma 0), .inl (X.2.1, 371, .inl fa))]) (@HAppend.hAppend va_W va_W va_W _ ([((ma 6), .inl (X.2.1, 55, .inl fh))]) ([((ma 3), .inl (X.2.1, 3, .inl fr))])))) sz) s (@HAppend.hAppend va_W va_W va_W _ ([((ma 0), .inl (X.2.1, 371, .inl fa))]) (@HAppend.hAppend va_W va_W va_W _ ([((ma 6), .inl (X.2.1, 55, .inl fh))]) (@HAppend.hAppend va_W va_W va_W _ (mW m0 ma la lb n t v) ([((ma 3), .inl (X.2.1, 3, .inl f_19))])))) H locs := G
      obtain rfl := hq_19
      exact e_int S zr zlk (vp_nar_int _) G (fh, d0, d1, d2, d3, d4, f_19) [2, 0, 1, 3] rfl rfl (Or.inr rfl) (⟨hI_fh, trivial⟩) dX11_best_24
  · refine lv_if_eq (tgt := 18) zx zb dX11_best_5 (by decide) (fun c_20 => ?_) (fun c_20 => absurd (by decide) c_20)
    refine lv_aload_n zx zb dX11_best_18 rfl (lv_at hl 0 rfl) ?_
    refine lv_bipush (v := (-2)) zx zb dX11_best_19 (by decide) ?_
    refine b_wi (cells' := 0) (slots' := 0) (wr := @HAppend.hAppend va_W va_W va_W _ ([((ma 0), .inl (X.2.1, 371, .inl fa))]) ([((ma 6), .inl (X.2.1, 55, .inl fh))])) G rfl rfl [0, 3] [1, 2] rfl rfl rfl rfl (n_V (As := [.int (-2)]) (rest := []) (C := RX11) (T := TX11) (N := 18) (ci := 9) S G (m_bad l X m0 ma la lb n t v fr (-2) hI_n hI_t H.size) gX11_best_X11_bad rfl rfl rfl hdV_X11_bad ⟨Nat.le_of_ble_eq_true rfl, Nat.le_of_ble_eq_true rfl⟩ [0, 3] rfl rfl 0 rfl rfl rfl hl.1 (Nat.le_of_ble_eq_true rfl) dX11_best_21 ⟨Nat.le_of_ble_eq_true rfl, Nat.le_of_ble_eq_true rfl⟩) (fun r_21 u_21 H locs hp_21 G => ?_)
    obtain ⟨f_21, rfl⟩ : ∃ z, z = u_21 := ⟨_, rfl⟩
    have hq_21 := hp_21
    have G : wd X (va_A (@HAppend.hAppend va_W va_W va_W _ (mW m0 ma la lb n t v) (@HAppend.hAppend va_W va_W va_W _ ([((ma 0), .inl (X.2.1, 371, .inl fa))]) (@HAppend.hAppend va_W va_W va_W _ ([((ma 6), .inl (X.2.1, 55, .inl fh))]) ([((ma 3), .inl (X.2.1, 3, .inl fr))])))) sz) (va_A (@HAppend.hAppend va_W va_W va_W _ (mW m0 ma la lb n t v) (@HAppend.hAppend va_W va_W va_W _ ([((ma 0), .inl (X.2.1, 371, .inl fa))]) (@HAppend.hAppend va_W va_W va_W _ ([((ma 6), .inl (X.2.1, 55, .inl fh))]) ([((ma 3), .inl (X.2.1, 3, .inl fr))])))) sz) s (@HAppend.hAppend va_W va_W va_W _ ([((ma 0), .inl (X.2.1, 371, .inl fa))]) (@HAppend.hAppend va_W va_W va_W _ ([((ma 6), .inl (X.2.1, 55, .inl fh))]) (@HAppend.hAppend va_W va_W va_W _ (mW m0 ma la lb n t v) ([((ma 3), .inl (X.2.1, 3, .inl f_21))])))) H locs := G
    obtain rfl := hq_21
    exact e_int S zr zlk (vp_nar_int _) G (fh, d0, d1, d2, d3, d4, f_21) [2, 0, 1, 3] rfl rfl (Or.inr rfl) (⟨hI_fh, trivial⟩) dX11_best_24
theorem mm_X11_turn_c150 : Cond.constant RX11 150 (1000000) ∈ wsX11_turn := by decide +kernel
theorem in_X11_turn_X11 : ∀ w ∈ wsX110, w ∈ wsX11_turn := by decide +kernel
theorem lk_X11_turn_7 : Cond.fieldLink RX11 7 "EggSpoonsModel" "all" "[I" ∈ wsX11_turn := by decide +kernel
theorem lk_X11_turn_27 : Cond.fieldLink RX11 27 "EggSpoonsModel" "hand" "[I" ∈ wsX11_turn := by decide +kernel
set_option maxHeartbeats 4000000 in
set_option maxRecDepth 100000 in
/-- turn -/
theorem m_turn (l : Launch) (X : EX) (m0 : Nat) (ma : Nat → Nat) (la : Int64) (lb : Int64) (n : Nat) (t : Nat → Nat) (v : Nat → Int32) (fa : Nat → Int32) (c0 : Nat) (c1 : Nat) (c2 : Nat) (c3 : Nat) (c4 : Nat) (fh : Nat → Int32) (d0 : Nat) (d1 : Nat) (d2 : Nat) (d3 : Nat) (d4 : Nat) (fr : Nat → Int32) (x1 : Int32) (x2 : Int32) (x3 : Int32) (hI_n : n ≤ 150) (hI_t : InT t) (hI_fa : InA fa c0 c1 c2 c3 c4) (hI_fh : InA fh d0 d1 d2 d3 d4) (sz : Nat) : Met l yX11_turn wsX11_turn ({ frames := 5, cells := 0, slots := 0, locals := 116 } : Room) (pE X [.ref m0, .int x1, .int x2, .int x3] (@HAppend.hAppend va_W va_W va_W _ (mW m0 ma la lb n t v) (@HAppend.hAppend va_W va_W va_W _ ([((ma 0), .inl (X.2.1, 371, .inl fa))]) (@HAppend.hAppend va_W va_W va_W _ ([((ma 6), .inl (X.2.1, 55, .inl fh))]) ([((ma 3), .inl (X.2.1, 3, .inl fr))])))) sz) (qI (fun (r : Int32) (u : (Nat → Int32) × (Nat) × (Nat) × (Nat) × (Nat) × (Nat) × (Nat → Int32)) => InA u.1 u.2.1 u.2.2.1 u.2.2.2.1 u.2.2.2.2.1 u.2.2.2.2.2.1 ∧ (True)) X (fun (u : (Nat → Int32) × (Nat) × (Nat) × (Nat) × (Nat) × (Nat) × (Nat → Int32)) => @HAppend.hAppend va_W va_W va_W _ (mW m0 ma la lb n t v) (@HAppend.hAppend va_W va_W va_W _ ([((ma 0), .inl (X.2.1, 371, .inl fa))]) (@HAppend.hAppend va_W va_W va_W _ ([((ma 6), .inl (X.2.1, 55, .inl u.1))]) ([((ma 3), .inl (X.2.1, 3, .inl u.2.2.2.2.2.2))])))) (@HAppend.hAppend va_W va_W va_W _ (mW m0 ma la lb n t v) (@HAppend.hAppend va_W va_W va_W _ ([((ma 0), .inl (X.2.1, 371, .inl fa))]) (@HAppend.hAppend va_W va_W va_W _ ([((ma 6), .inl (X.2.1, 55, .inl fh))]) ([((ma 3), .inl (X.2.1, 3, .inl fr))])))) sz) 0 0 (va_A (@HAppend.hAppend va_W va_W va_W _ (mW m0 ma la lb n t v) (@HAppend.hAppend va_W va_W va_W _ ([((ma 0), .inl (X.2.1, 371, .inl fa))]) (@HAppend.hAppend va_W va_W va_W _ ([((ma 6), .inl (X.2.1, 55, .inl fh))]) ([((ma 3), .inl (X.2.1, 3, .inl fr))])))) sz) := by
  refine mk_met (B := (va_A (@HAppend.hAppend va_W va_W va_W _ (mW m0 ma la lb n t v) (@HAppend.hAppend va_W va_W va_W _ ([((ma 0), .inl (X.2.1, 371, .inl fa))]) (@HAppend.hAppend va_W va_W va_W _ ([((ma 6), .inl (X.2.1, 55, .inl fh))]) ([((ma 3), .inl (X.2.1, 3, .inl fr))])))) sz)) (A := (va_A (@HAppend.hAppend va_W va_W va_W _ (mW m0 ma la lb n t v) (@HAppend.hAppend va_W va_W va_W _ ([((ma 0), .inl (X.2.1, 371, .inl fa))]) (@HAppend.hAppend va_W va_W va_W _ ([((ma 6), .inl (X.2.1, 55, .inl fh))]) ([((ma 3), .inl (X.2.1, 3, .inl fr))])))) sz)) (cc := cX11_turn) (maxL := 8) (ret := (some .int)) (by decide) rfl (Nat.le_of_ble_eq_true rfl) k_w k_a (fun p e s m below meth c S zr zlk znm zsz G ls hl => ?_)
  have S : CallFix p m c cX11_turn 8 s _ wsX11_turn RX11 := S
  have zx := S.1
  have zb := S.2.1
  have hl : lv_has ls 8 [(0, .ref m0), (1, .int x1), (2, .int x2), (3, .int x3)] := hl
  have hO_t := hI_t
  obtain ⟨ht0_t, ht1_t⟩ := hO_t
  have hO_fa := hI_fa.2
  obtain ⟨hm0_fa, hm1_fa, hm2_fa, hm3_fa, hm4_fa⟩ := hO_fa
  have hO_fh := hI_fh.2
  obtain ⟨hm0_fh, hm1_fh, hm2_fh, hm3_fh, hm4_fh⟩ := hO_fh
  refine lv_aload_n zx zb dX11_turn_0 rfl (lv_at hl 0 rfl) ?_
  refine lv_iload_n zx zb dX11_turn_1 rfl (lv_at hl 1 rfl) ?_
  refine o_ri (cells' := 0) (slots' := 0) G rfl rfl (n_V (As := [.int x1]) (rest := []) (C := RX11) (T := TX11) (N := 18) (ci := 9) S G (m_isOne l X m0 ma la lb n t v fa c0 c1 c2 c3 c4 x1 hI_n hI_t hI_fa s.heap.size) gX11_turn_X11_isOne rfl rfl rfl hdV_X11_isOne ⟨Nat.le_of_ble_eq_true rfl, Nat.le_of_ble_eq_true rfl⟩ [0, 1] rfl rfl 0 rfl rfl rfl hl.1 (Nat.le_of_ble_eq_true rfl) dX11_turn_2 ⟨Nat.le_of_ble_eq_true rfl, Nat.le_of_ble_eq_true rfl⟩) (fun r_1 u_1 H locs hp_1 G => ?_)
  have G : wd X (va_A (@HAppend.hAppend va_W va_W va_W _ (mW m0 ma la lb n t v) (@HAppend.hAppend va_W va_W va_W _ ([((ma 0), .inl (X.2.1, 371, .inl fa))]) (@HAppend.hAppend va_W va_W va_W _ ([((ma 6), .inl (X.2.1, 55, .inl fh))]) ([((ma 3), .inl (X.2.1, 3, .inl fr))])))) sz) (va_A (@HAppend.hAppend va_W va_W va_W _ (mW m0 ma la lb n t v) (@HAppend.hAppend va_W va_W va_W _ ([((ma 0), .inl (X.2.1, 371, .inl fa))]) (@HAppend.hAppend va_W va_W va_W _ ([((ma 6), .inl (X.2.1, 55, .inl fh))]) ([((ma 3), .inl (X.2.1, 3, .inl fr))])))) sz) s (@HAppend.hAppend va_W va_W va_W _ (mW m0 ma la lb n t v) (@HAppend.hAppend va_W va_W va_W _ ([((ma 0), .inl (X.2.1, 371, .inl fa))]) (@HAppend.hAppend va_W va_W va_W _ ([((ma 6), .inl (X.2.1, 55, .inl fh))]) ([((ma 3), .inl (X.2.1, 3, .inl fr))])))) H locs := G
  rcases hp_1 with ⟨rfl, hj_1⟩ | ⟨rfl, hj_1⟩
  · obtain ⟨j_1, hj_1, rfl⟩ := hj_1
    refine lv_if_eq (tgt := 25) zx zb dX11_turn_5 (by decide) (fun c_2 => absurd c_2 (by decide)) (fun c_2 => ?_)
    refine lv_iload_n zx zb dX11_turn_8 rfl (lv_at hl 2 rfl) ?_
    refine o_ri (cells' := 0) (slots' := 0) G rfl rfl (n_S (As := [.int x2]) (rest := []) S G (m_isSpeed l X x2 H.size) gX11_turn_X11_isSpeed rfl rfl rfl hdS_X11_isSpeed ⟨Nat.le_of_ble_eq_true rfl, Nat.le_of_ble_eq_true rfl⟩ [] rfl rfl rfl hl.1 (Nat.le_of_ble_eq_true rfl) dX11_turn_9 ⟨Nat.le_of_ble_eq_true rfl, Nat.le_of_ble_eq_true rfl⟩) (fun r_3 u_3 H locs hp_3 G => ?_)
    have G : wd X (va_A (@HAppend.hAppend va_W va_W va_W _ (mW m0 ma la lb n t v) (@HAppend.hAppend va_W va_W va_W _ ([((ma 0), .inl (X.2.1, 371, .inl fa))]) (@HAppend.hAppend va_W va_W va_W _ ([((ma 6), .inl (X.2.1, 55, .inl fh))]) ([((ma 3), .inl (X.2.1, 3, .inl fr))])))) sz) (va_A (@HAppend.hAppend va_W va_W va_W _ (mW m0 ma la lb n t v) (@HAppend.hAppend va_W va_W va_W _ ([((ma 0), .inl (X.2.1, 371, .inl fa))]) (@HAppend.hAppend va_W va_W va_W _ ([((ma 6), .inl (X.2.1, 55, .inl fh))]) ([((ma 3), .inl (X.2.1, 3, .inl fr))])))) sz) s (@HAppend.hAppend va_W va_W va_W _ (mW m0 ma la lb n t v) (@HAppend.hAppend va_W va_W va_W _ ([((ma 0), .inl (X.2.1, 371, .inl fa))]) (@HAppend.hAppend va_W va_W va_W _ ([((ma 6), .inl (X.2.1, 55, .inl fh))]) ([((ma 3), .inl (X.2.1, 3, .inl fr))])))) H locs := G
    rcases hp_3 with ⟨rfl, hw_3⟩ | ⟨rfl, hw_3⟩
    · obtain ⟨j_3, ⟨ja_3, jb_3⟩, rfl⟩ := k_natR (a := 0) (b := 9) hw_3 rfl rfl (by decide) (by decide)
      refine lv_if_eq (tgt := 25) zx zb dX11_turn_12 (by decide) (fun c_4 => absurd c_4 (by decide)) (fun c_4 => ?_)
      refine lv_iload_n zx zb dX11_turn_15 rfl (lv_at hl 3 rfl) ?_
      refine lv_i2l (v := (Int32.toInt64 x3)) zx zb dX11_turn_16 rfl ?_
      refine lv_lconst (v := (Int32.toInt64 0)) zx zb dX11_turn_17 (by decide) ?_
      refine lv_lconst (v := (Int32.toInt64 1)) zx zb dX11_turn_18 (by decide) ?_
      refine o_ri (cells' := 0) (slots' := 0) G rfl rfl (n_S (As := [.long (Int32.toInt64 x3), .long (Int32.toInt64 0), .long (Int32.toInt64 1)]) (rest := []) S G (m_in l X x3 0 1 H.size) gX11_turn_X11_in rfl rfl rfl hdS_X11_in ⟨Nat.le_of_ble_eq_true rfl, Nat.le_of_ble_eq_true rfl⟩ [] rfl rfl rfl hl.1 (Nat.le_of_ble_eq_true rfl) dX11_turn_19 ⟨Nat.le_of_ble_eq_true rfl, Nat.le_of_ble_eq_true rfl⟩) (fun r_5 u_5 H locs hp_5 G => ?_)
      have G : wd X (va_A (@HAppend.hAppend va_W va_W va_W _ (mW m0 ma la lb n t v) (@HAppend.hAppend va_W va_W va_W _ ([((ma 0), .inl (X.2.1, 371, .inl fa))]) (@HAppend.hAppend va_W va_W va_W _ ([((ma 6), .inl (X.2.1, 55, .inl fh))]) ([((ma 3), .inl (X.2.1, 3, .inl fr))])))) sz) (va_A (@HAppend.hAppend va_W va_W va_W _ (mW m0 ma la lb n t v) (@HAppend.hAppend va_W va_W va_W _ ([((ma 0), .inl (X.2.1, 371, .inl fa))]) (@HAppend.hAppend va_W va_W va_W _ ([((ma 6), .inl (X.2.1, 55, .inl fh))]) ([((ma 3), .inl (X.2.1, 3, .inl fr))])))) sz) s (@HAppend.hAppend va_W va_W va_W _ (mW m0 ma la lb n t v) (@HAppend.hAppend va_W va_W va_W _ ([((ma 0), .inl (X.2.1, 371, .inl fa))]) (@HAppend.hAppend va_W va_W va_W _ ([((ma 6), .inl (X.2.1, 55, .inl fh))]) ([((ma 3), .inl (X.2.1, 3, .inl fr))])))) H locs := G
      rcases hp_5 with ⟨rfl, hw_5⟩ | ⟨rfl, hw_5⟩
      · obtain ⟨j_5, ⟨ja_5, jb_5⟩, rfl⟩ := k_natR (a := 0) (b := 1) hw_5 rfl rfl (by decide) (by decide)
        refine lv_if_ne (tgt := 32) zx zb dX11_turn_22 (by decide) (fun c_6 => ?_) (fun c_6 => absurd c_6 (by decide))
        refine lv_iconst (v := (-1)) zx zb dX11_turn_32 (by decide) ?_
        refine lv_istore (lv' := [(4, .int (-1)), (0, .ref m0), (1, .int (nI j_1)), (2, .int (nI j_3)), (3, .int (nI j_5))]) zx zb dX11_turn_33 hl (by decide) rfl (fun ls hl => ?_)
        refine lv_ldc zx zb S.2.2.2.1 (S.2.2.2.2 _ mm_X11_turn_c150) dX11_turn_35 ?_
        refine lv_istore (lv' := [(5, .int 1000000), (4, .int (-1)), (0, .ref m0), (1, .int (nI j_1)), (2, .int (nI j_3)), (3, .int (nI j_5))]) zx zb dX11_turn_37 hl (by decide) rfl (fun ls hl => ?_)
        refine lv_iconst (v := 0) zx zb dX11_turn_39 (by decide) ?_
        refine lv_istore (lv' := [(6, .int 0), (5, .int 1000000), (4, .int (-1)), (0, .ref m0), (1, .int (nI j_1)), (2, .int (nI j_3)), (3, .int (nI j_5))]) zx zb dX11_turn_40 hl (by decide) rfl (fun ls hl => ?_)
        refine k_loop (P := ∀ (zm : Nat) (k42 : Nat) (x42_5 : Int32) (x42_4 : Int32) (f42_2 : Nat → Int32) (c042_2 : Nat) (c142_2 : Nat) (c242_2 : Nat) (c342_2 : Nat) (c442_2 : Nat) (H : Heap) (locs : List Loc) (ls : Array Slot), 31 + 1 ≤ k42 + zm → InA f42_2 c042_2 c142_2 c242_2 c342_2 c442_2 → (k42 ≤ 31) → wd X (va_A (@HAppend.hAppend va_W va_W va_W _ (mW m0 ma la lb n t v) (@HAppend.hAppend va_W va_W va_W _ ([((ma 0), .inl (X.2.1, 371, .inl fa))]) (@HAppend.hAppend va_W va_W va_W _ ([((ma 6), .inl (X.2.1, 55, .inl fh))]) ([((ma 3), .inl (X.2.1, 3, .inl fr))])))) sz) (va_A (@HAppend.hAppend va_W va_W va_W _ (mW m0 ma la lb n t v) (@HAppend.hAppend va_W va_W va_W _ ([((ma 0), .inl (X.2.1, 371, .inl fa))]) (@HAppend.hAppend va_W va_W va_W _ ([((ma 6), .inl (X.2.1, 55, .inl fh))]) ([((ma 3), .inl (X.2.1, 3, .inl fr))])))) sz) s (@HAppend.hAppend va_W va_W va_W _ (mW m0 ma la lb n t v) (@HAppend.hAppend va_W va_W va_W _ ([((ma 0), .inl (X.2.1, 371, .inl fa))]) (@HAppend.hAppend va_W va_W va_W _ ([((ma 6), .inl (X.2.1, 55, .inl f42_2))]) ([((ma 3), .inl (X.2.1, 3, .inl fr))])))) H locs → lv_has ls 8 [(6, .int (nI k42)), (5, .int x42_5), (4, .int x42_4), (0, .ref m0), (1, .int (nI j_1)), (2, .int (nI j_3)), (3, .int (nI j_5))] → W p l e _ s m _ below meth c H locs _ _ _ (F0 m 42 ls [])) (fun loop => loop (31 + 1) 0 1000000 (-1) fh d0 d1 d2 d3 d4 _ _ _ (by omega) hI_fh (by omega) G hl) ?_
        intro zm
        induction zm with
        | zero => intro k42 x42_5 x42_4 f42_2 c042_2 c142_2 c242_2 c342_2 c442_2 H locs ls zz q_hI_f42_2 q_hk_k42 _ _; exact absurd zz (by omega)
        | succ zm ih42 =>
          intro k42 x42_5 x42_4 f42_2 c042_2 c142_2 c242_2 c342_2 c442_2 H locs ls zm_42 hI_f42_2 hk_k42 G hl
          have hO_f42_2 := hI_f42_2.2
          obtain ⟨hm0_f42_2, hm1_f42_2, hm2_f42_2, hm3_f42_2, hm4_f42_2⟩ := hO_f42_2
          refine lv_iload zx zb dX11_turn_42 (lv_at hl 0 rfl) ?_
          refine lv_bipush (v := 30) zx zb dX11_turn_44 (by decide) ?_
          refine k_cutW (PP := fun Wx => ∀ (H : Heap) (locs : List Loc) (ls : Array Slot), wd X (va_A (@HAppend.hAppend va_W va_W va_W _ (mW m0 ma la lb n t v) (@HAppend.hAppend va_W va_W va_W _ ([((ma 0), .inl (X.2.1, 371, .inl fa))]) (@HAppend.hAppend va_W va_W va_W _ ([((ma 6), .inl (X.2.1, 55, .inl fh))]) ([((ma 3), .inl (X.2.1, 3, .inl fr))])))) sz) (va_A (@HAppend.hAppend va_W va_W va_W _ (mW m0 ma la lb n t v) (@HAppend.hAppend va_W va_W va_W _ ([((ma 0), .inl (X.2.1, 371, .inl fa))]) (@HAppend.hAppend va_W va_W va_W _ ([((ma 6), .inl (X.2.1, 55, .inl fh))]) ([((ma 3), .inl (X.2.1, 3, .inl fr))])))) sz) s (@HAppend.hAppend va_W va_W va_W _ (mW m0 ma la lb n t v) (@HAppend.hAppend va_W va_W va_W _ ([((ma 0), .inl (X.2.1, 371, .inl fa))]) (@HAppend.hAppend va_W va_W va_W _ ([((ma 6), .inl (X.2.1, 55, .inl f42_2))]) ([((ma 3), .inl (X.2.1, 3, .inl fr))])))) H locs → lv_has ls 8 [(6, .int (nI k42)), (5, .int x42_5), (4, .int x42_4), (0, .ref m0), (1, .int (nI j_1)), (2, .int (nI j_3)), (3, .int (nI j_5))] → Wx (F0 m 155 ls []) H locs) ?_ ?_
          · intro join_46
            refine lv_icmp_gt (tgt := 155) zx zb dX11_turn_46 (by decide) (fun c_7 => ?_) (fun c_7 => ?_)
            · have fc_7 := j_lt (a := 30) (b := k42) (by omega) (by omega) c_7
              exact join_46  _ _ _  G hl
            · have fc_7 := j_nlt (a := 30) (b := k42) (by omega) (by omega) c_7
              refine lv_aload_n zx zb dX11_turn_49 rfl (lv_at hl 3 rfl) ?_
              refine r_get (C := RX11) (T := TX11) (N := 18) (ci := 9) (v := .ref (ma 0)) S in_X11_turn_X11 G 0 rfl rfl 0 (by decide) lk_X11_turn_7 rfl dX11_turn_50 ?_
              refine lv_iload_n zx zb dX11_turn_53 rfl (lv_at hl 4 rfl) ?_
              refine o_ri (cells' := 0) (slots' := 0) G rfl rfl (n_S (As := [.ref (ma 0), .int (nI j_1)]) (rest := []) S G (m_isHome l X (ma 0) 371 fa c0 c1 c2 c3 c4 j_1 hI_fa (by omega) (by omega) (by omega) H.size) gX11_turn_X11_isHome rfl rfl rfl hdS_X11_isHome ⟨Nat.le_of_ble_eq_true rfl, Nat.le_of_ble_eq_true rfl⟩ [1] rfl rfl rfl hl.1 (Nat.le_of_ble_eq_true rfl) dX11_turn_54 ⟨Nat.le_of_ble_eq_true rfl, Nat.le_of_ble_eq_true rfl⟩) (fun r_8 u_8 H locs hp_8 G => ?_)
              have G : wd X (va_A (@HAppend.hAppend va_W va_W va_W _ (mW m0 ma la lb n t v) (@HAppend.hAppend va_W va_W va_W _ ([((ma 0), .inl (X.2.1, 371, .inl fa))]) (@HAppend.hAppend va_W va_W va_W _ ([((ma 6), .inl (X.2.1, 55, .inl fh))]) ([((ma 3), .inl (X.2.1, 3, .inl fr))])))) sz) (va_A (@HAppend.hAppend va_W va_W va_W _ (mW m0 ma la lb n t v) (@HAppend.hAppend va_W va_W va_W _ ([((ma 0), .inl (X.2.1, 371, .inl fa))]) (@HAppend.hAppend va_W va_W va_W _ ([((ma 6), .inl (X.2.1, 55, .inl fh))]) ([((ma 3), .inl (X.2.1, 3, .inl fr))])))) sz) s (@HAppend.hAppend va_W va_W va_W _ (mW m0 ma la lb n t v) (@HAppend.hAppend va_W va_W va_W _ ([((ma 0), .inl (X.2.1, 371, .inl fa))]) (@HAppend.hAppend va_W va_W va_W _ ([((ma 6), .inl (X.2.1, 55, .inl f42_2))]) ([((ma 3), .inl (X.2.1, 3, .inl fr))])))) H locs := G
              refine lv_if_ne (tgt := 155) zx zb dX11_turn_57 (by decide) (fun c_9 => ?_) (fun c_9 => ?_)
              · exact join_46  _ _ _  G hl
              · refine lv_aload_n zx zb dX11_turn_60 rfl (lv_at hl 3 rfl) ?_
                refine b_wv (cells' := 0) (slots' := 0) (wr := [((ma 3), .inl (X.2.1, 3, .inl fr))]) G rfl rfl [0, 1, 2] [3] rfl rfl rfl rfl (n_V (As := []) (rest := []) (C := RX11) (T := TX11) (N := 18) (ci := 9) S G (m_layHand l X m0 ma la lb n t v fa c0 c1 c2 c3 c4 f42_2 c042_2 c142_2 c242_2 c342_2 c442_2 hI_n hI_t hI_fa hI_f42_2 H.size) gX11_turn_X11_layHand rfl rfl rfl hdV_X11_layHand ⟨Nat.le_of_ble_eq_true rfl, Nat.le_of_ble_eq_true rfl⟩ [0, 1, 2] rfl rfl 0 rfl rfl rfl hl.1 (Nat.le_of_ble_eq_true rfl) dX11_turn_61 ⟨Nat.le_of_ble_eq_true rfl, Nat.le_of_ble_eq_true rfl⟩) (fun u_10 H locs hp_10 G => ?_)
                obtain ⟨f_10a, c0_10b, c1_10c, c2_10d, c3_10e, c4_10f⟩ := u_10
                try dsimp only at hp_10
                obtain ⟨hI_f_10a, hq_10⟩ := hp_10
                have hO_f_10a := hI_f_10a.2
                obtain ⟨hm0_f_10a, hm1_f_10a, hm2_f_10a, hm3_f_10a, hm4_f_10a⟩ := hO_f_10a
                have G : wd X (va_A (@HAppend.hAppend va_W va_W va_W _ (mW m0 ma la lb n t v) (@HAppend.hAppend va_W va_W va_W _ ([((ma 0), .inl (X.2.1, 371, .inl fa))]) (@HAppend.hAppend va_W va_W va_W _ ([((ma 6), .inl (X.2.1, 55, .inl fh))]) ([((ma 3), .inl (X.2.1, 3, .inl fr))])))) sz) (va_A (@HAppend.hAppend va_W va_W va_W _ (mW m0 ma la lb n t v) (@HAppend.hAppend va_W va_W va_W _ ([((ma 0), .inl (X.2.1, 371, .inl fa))]) (@HAppend.hAppend va_W va_W va_W _ ([((ma 6), .inl (X.2.1, 55, .inl fh))]) ([((ma 3), .inl (X.2.1, 3, .inl fr))])))) sz) s (@HAppend.hAppend va_W va_W va_W _ ([((ma 3), .inl (X.2.1, 3, .inl fr))]) (@HAppend.hAppend va_W va_W va_W _ (mW m0 ma la lb n t v) (@HAppend.hAppend va_W va_W va_W _ ([((ma 0), .inl (X.2.1, 371, .inl fa))]) ([((ma 6), .inl (X.2.1, 55, .inl f_10a))])))) H locs := G
                refine lv_aload_n zx zb dX11_turn_64 rfl (lv_at hl 3 rfl) ?_
                refine lv_iload_n zx zb dX11_turn_65 rfl (lv_at hl 4 rfl) ?_
                refine lv_iload zx zb dX11_turn_66 (lv_at hl 0 rfl) ?_
                refine b_wi (cells' := 0) (slots' := 0) (wr := @HAppend.hAppend va_W va_W va_W _ ([((ma 3), .inl (X.2.1, 3, .inl fr))]) ([((ma 0), .inl (X.2.1, 371, .inl fa))])) G rfl rfl [1, 3] [0, 2] rfl rfl rfl rfl (n_V (As := [.int (nI j_1), .int (nI k42)]) (rest := []) (C := RX11) (T := TX11) (N := 18) (ci := 9) S G (m_homeAtHand l X m0 ma la lb n t v f_10a c0_10b c1_10c c2_10d c3_10e c4_10f j_1 k42 hI_n hI_t hI_f_10a (by omega) (by omega) H.size) gX11_turn_X11_homeAtHand rfl rfl rfl hdV_X11_homeAtHand ⟨Nat.le_of_ble_eq_true rfl, Nat.le_of_ble_eq_true rfl⟩ [1, 3] rfl rfl 1 rfl rfl rfl hl.1 (Nat.le_of_ble_eq_true rfl) dX11_turn_68 ⟨Nat.le_of_ble_eq_true rfl, Nat.le_of_ble_eq_true rfl⟩) (fun r_11 u_11 H locs hp_11 G => ?_)
                obtain ⟨f_11, rfl⟩ : ∃ z, z = u_11 := ⟨_, rfl⟩
                obtain ⟨hI_f_11, hq_11⟩ := hp_11
                have G : wd X (va_A (@HAppend.hAppend va_W va_W va_W _ (mW m0 ma la lb n t v) (@HAppend.hAppend va_W va_W va_W _ ([((ma 0), .inl (X.2.1, 371, .inl fa))]) (@HAppend.hAppend va_W va_W va_W _ ([((ma 6), .inl (X.2.1, 55, .inl fh))]) ([((ma 3), .inl (X.2.1, 3, .inl fr))])))) sz) (va_A (@HAppend.hAppend va_W va_W va_W _ (mW m0 ma la lb n t v) (@HAppend.hAppend va_W va_W va_W _ ([((ma 0), .inl (X.2.1, 371, .inl fa))]) (@HAppend.hAppend va_W va_W va_W _ ([((ma 6), .inl (X.2.1, 55, .inl fh))]) ([((ma 3), .inl (X.2.1, 3, .inl fr))])))) sz) s (@HAppend.hAppend va_W va_W va_W _ ([((ma 3), .inl (X.2.1, 3, .inl fr))]) (@HAppend.hAppend va_W va_W va_W _ ([((ma 0), .inl (X.2.1, 371, .inl fa))]) (@HAppend.hAppend va_W va_W va_W _ (mW m0 ma la lb n t v) ([((ma 6), .inl (X.2.1, 55, .inl f_11))])))) H locs := G
                refine lv_istore (lv' := [(7, .int r_11), (6, .int (nI k42)), (5, .int x42_5), (4, .int x42_4), (0, .ref m0), (1, .int (nI j_1)), (2, .int (nI j_3)), (3, .int (nI j_5))]) zx zb dX11_turn_71 hl (by decide) rfl (fun ls hl => ?_)
                refine lv_iload zx zb dX11_turn_73 (lv_at hl 0 rfl) ?_
                refine lv_iconst (v := (-1)) zx zb dX11_turn_75 (by decide) ?_
                refine k_cutW (PP := fun Wx => ∀ (x_13 : Int32) (f_14 : Nat → Int32) (c0_15 : Nat) (c1_16 : Nat) (c2_17 : Nat) (c3_18 : Nat) (c4_19 : Nat) (H : Heap) (locs : List Loc) (ls : Array Slot), InA f_14 c0_15 c1_16 c2_17 c3_18 c4_19 → wd X (va_A (@HAppend.hAppend va_W va_W va_W _ (mW m0 ma la lb n t v) (@HAppend.hAppend va_W va_W va_W _ ([((ma 0), .inl (X.2.1, 371, .inl fa))]) (@HAppend.hAppend va_W va_W va_W _ ([((ma 6), .inl (X.2.1, 55, .inl fh))]) ([((ma 3), .inl (X.2.1, 3, .inl fr))])))) sz) (va_A (@HAppend.hAppend va_W va_W va_W _ (mW m0 ma la lb n t v) (@HAppend.hAppend va_W va_W va_W _ ([((ma 0), .inl (X.2.1, 371, .inl fa))]) (@HAppend.hAppend va_W va_W va_W _ ([((ma 6), .inl (X.2.1, 55, .inl fh))]) ([((ma 3), .inl (X.2.1, 3, .inl fr))])))) sz) s (@HAppend.hAppend va_W va_W va_W _ ([((ma 3), .inl (X.2.1, 3, .inl fr))]) (@HAppend.hAppend va_W va_W va_W _ ([((ma 0), .inl (X.2.1, 371, .inl fa))]) (@HAppend.hAppend va_W va_W va_W _ (mW m0 ma la lb n t v) ([((ma 6), .inl (X.2.1, 55, .inl f_14))])))) H locs → lv_has ls 8 [(7, .int x_13), (6, .int (nI k42)), (5, .int x42_5), (4, .int x42_4), (0, .ref m0), (1, .int (nI j_1)), (2, .int (nI j_3)), (3, .int (nI j_5))] → Wx (F0 m 128 ls []) H locs) ?_ ?_
                · intro join_76
                  refine lv_icmp_ne (tgt := 128) zx zb dX11_turn_76 (by decide) (fun c_12 => ?_) (fun c_12 => ?_)
                  · exact join_76 r_11 f_11 c0_10b c1_10c c2_10d c3_10e c4_10f _ _ _ hI_f_11 G hl
                  · refine lv_aload_n zx zb dX11_turn_79 rfl (lv_at hl 4 rfl) ?_
                    refine b_wv (cells' := 0) (slots' := 0) (wr := [((ma 3), .inl (X.2.1, 3, .inl fr))]) G rfl rfl [2, 1, 3] [0] rfl rfl rfl rfl (n_V (As := []) (rest := []) (C := RX11) (T := TX11) (N := 18) (ci := 9) S G (m_layHand l X m0 ma la lb n t v fa c0 c1 c2 c3 c4 f_11 c0_10b c1_10c c2_10d c3_10e c4_10f hI_n hI_t hI_fa hI_f_11 H.size) gX11_turn_X11_layHand rfl rfl rfl hdV_X11_layHand ⟨Nat.le_of_ble_eq_true rfl, Nat.le_of_ble_eq_true rfl⟩ [2, 1, 3] rfl rfl 2 rfl rfl rfl hl.1 (Nat.le_of_ble_eq_true rfl) dX11_turn_80 ⟨Nat.le_of_ble_eq_true rfl, Nat.le_of_ble_eq_true rfl⟩) (fun u_20 H locs hp_20 G => ?_)
                    obtain ⟨f_20a, c0_20b, c1_20c, c2_20d, c3_20e, c4_20f⟩ := u_20
                    try dsimp only at hp_20
                    obtain ⟨hI_f_20a, hq_20⟩ := hp_20
                    have hO_f_20a := hI_f_20a.2
                    obtain ⟨hm0_f_20a, hm1_f_20a, hm2_f_20a, hm3_f_20a, hm4_f_20a⟩ := hO_f_20a
                    have G : wd X (va_A (@HAppend.hAppend va_W va_W va_W _ (mW m0 ma la lb n t v) (@HAppend.hAppend va_W va_W va_W _ ([((ma 0), .inl (X.2.1, 371, .inl fa))]) (@HAppend.hAppend va_W va_W va_W _ ([((ma 6), .inl (X.2.1, 55, .inl fh))]) ([((ma 3), .inl (X.2.1, 3, .inl fr))])))) sz) (va_A (@HAppend.hAppend va_W va_W va_W _ (mW m0 ma la lb n t v) (@HAppend.hAppend va_W va_W va_W _ ([((ma 0), .inl (X.2.1, 371, .inl fa))]) (@HAppend.hAppend va_W va_W va_W _ ([((ma 6), .inl (X.2.1, 55, .inl fh))]) ([((ma 3), .inl (X.2.1, 3, .inl fr))])))) sz) s (@HAppend.hAppend va_W va_W va_W _ ([((ma 3), .inl (X.2.1, 3, .inl fr))]) (@HAppend.hAppend va_W va_W va_W _ (mW m0 ma la lb n t v) (@HAppend.hAppend va_W va_W va_W _ ([((ma 0), .inl (X.2.1, 371, .inl fa))]) ([((ma 6), .inl (X.2.1, 55, .inl f_20a))])))) H locs := G
                    refine lv_aload_n zx zb dX11_turn_83 rfl (lv_at hl 4 rfl) ?_
                    refine lv_iload zx zb dX11_turn_84 (lv_at hl 1 rfl) ?_
                    refine b_wv (cells' := 0) (slots' := 0) (wr := @HAppend.hAppend va_W va_W va_W _ ([((ma 3), .inl (X.2.1, 3, .inl fr))]) ([((ma 0), .inl (X.2.1, 371, .inl fa))])) G rfl rfl [1, 3] [0, 2] rfl rfl rfl rfl (n_V (As := [.int (nI k42)]) (rest := []) (C := RX11) (T := TX11) (N := 18) (ci := 9) S G (m_goAhead l X m0 ma la lb n t v f_20a c0_20b c1_20c c2_20d c3_20e c4_20f k42 hI_n hI_t hI_f_20a (by omega) H.size) gX11_turn_X11_goAhead rfl rfl rfl hdV_X11_goAhead ⟨Nat.le_of_ble_eq_true rfl, Nat.le_of_ble_eq_true rfl⟩ [1, 3] rfl rfl 1 rfl rfl rfl hl.1 (Nat.le_of_ble_eq_true rfl) dX11_turn_86 ⟨Nat.le_of_ble_eq_true rfl, Nat.le_of_ble_eq_true rfl⟩) (fun u_21 H locs hp_21 G => ?_)
                    obtain ⟨f_21, rfl⟩ : ∃ z, z = u_21 := ⟨_, rfl⟩
                    obtain ⟨hI_f_21, hq_21⟩ := hp_21
                    have G : wd X (va_A (@HAppend.hAppend va_W va_W va_W _ (mW m0 ma la lb n t v) (@HAppend.hAppend va_W va_W va_W _ ([((ma 0), .inl (X.2.1, 371, .inl fa))]) (@HAppend.hAppend va_W va_W va_W _ ([((ma 6), .inl (X.2.1, 55, .inl fh))]) ([((ma 3), .inl (X.2.1, 3, .inl fr))])))) sz) (va_A (@HAppend.hAppend va_W va_W va_W _ (mW m0 ma la lb n t v) (@HAppend.hAppend va_W va_W va_W _ ([((ma 0), .inl (X.2.1, 371, .inl fa))]) (@HAppend.hAppend va_W va_W va_W _ ([((ma 6), .inl (X.2.1, 55, .inl fh))]) ([((ma 3), .inl (X.2.1, 3, .inl fr))])))) sz) s (@HAppend.hAppend va_W va_W va_W _ ([((ma 3), .inl (X.2.1, 3, .inl fr))]) (@HAppend.hAppend va_W va_W va_W _ ([((ma 0), .inl (X.2.1, 371, .inl fa))]) (@HAppend.hAppend va_W va_W va_W _ (mW m0 ma la lb n t v) ([((ma 6), .inl (X.2.1, 55, .inl f_21))])))) H locs := G
                    refine lv_aload_n zx zb dX11_turn_89 rfl (lv_at hl 4 rfl) ?_
                    refine r_get (C := RX11) (T := TX11) (N := 18) (ci := 9) (v := .ref (ma 6)) S in_X11_turn_X11 G 2 rfl rfl 6 (by decide) lk_X11_turn_27 rfl dX11_turn_90 ?_
                    refine lv_bipush (v := 11) zx zb dX11_turn_93 (by decide) ?_
                    refine lv_iload_n zx zb dX11_turn_95 rfl (lv_at hl 5 rfl) ?_
                    refine r_iadd (v := (nI (11 + j_1))) S (nI_add 11 j_1) dX11_turn_96 ?_
                    refine lv_iload_n zx zb dX11_turn_97 rfl (lv_at hl 6 rfl) ?_
                    refine r_iast S G 3 rfl (vp_in_nI (by omega) (by decide)) dX11_turn_98 (fun H locs G => ?_)
                    obtain ⟨f_22, hI_f_22, hE_f_22, G⟩ : ∃ f_22 : Nat → Int32, InA f_22 c0_20b c1_20c c2_20d c3_20e c4_20f ∧ f_22 = upd f_21 (nI (11 + j_1)).toNatClampNeg (nI j_3) ∧ wd X (va_A (@HAppend.hAppend va_W va_W va_W _ (mW m0 ma la lb n t v) (@HAppend.hAppend va_W va_W va_W _ ([((ma 0), .inl (X.2.1, 371, .inl fa))]) (@HAppend.hAppend va_W va_W va_W _ ([((ma 6), .inl (X.2.1, 55, .inl fh))]) ([((ma 3), .inl (X.2.1, 3, .inl fr))])))) sz) (va_A (@HAppend.hAppend va_W va_W va_W _ (mW m0 ma la lb n t v) (@HAppend.hAppend va_W va_W va_W _ ([((ma 0), .inl (X.2.1, 371, .inl fa))]) (@HAppend.hAppend va_W va_W va_W _ ([((ma 6), .inl (X.2.1, 55, .inl fh))]) ([((ma 3), .inl (X.2.1, 3, .inl fr))])))) sz) s (@HAppend.hAppend va_W va_W va_W _ ([((ma 3), .inl (X.2.1, 3, .inl fr))]) (@HAppend.hAppend va_W va_W va_W _ ([((ma 0), .inl (X.2.1, 371, .inl fa))]) (@HAppend.hAppend va_W va_W va_W _ (mW m0 ma la lb n t v) ([((ma 6), .inl (X.2.1, 55, .inl f_22))])))) H locs := ⟨_, InA_o hI_f_21 (by rw [nI_clamp (by omega)]; omega), rfl, G⟩
                    refine lv_aload_n zx zb dX11_turn_99 rfl (lv_at hl 4 rfl) ?_
                    refine lv_iload_n zx zb dX11_turn_100 rfl (lv_at hl 5 rfl) ?_
                    refine lv_bipush (v := 60) zx zb dX11_turn_101 (by decide) ?_
                    refine lv_iload zx zb dX11_turn_103 (lv_at hl 1 rfl) ?_
                    refine r_isub (v := (nI (60 - k42))) S (pk_sub (a := 60) (b := k42) (by omega)) dX11_turn_105 ?_
                    refine b_wi (cells' := 0) (slots' := 0) (wr := @HAppend.hAppend va_W va_W va_W _ ([((ma 3), .inl (X.2.1, 3, .inl fr))]) ([((ma 0), .inl (X.2.1, 371, .inl fa))])) G rfl rfl [2, 3] [0, 1] rfl rfl rfl rfl (n_V (As := [.int (nI j_1), .int (nI (60 - k42))]) (rest := []) (C := RX11) (T := TX11) (N := 18) (ci := 9) S G (m_homeAtHand l X m0 ma la lb n t v f_22 c0_20b c1_20c c2_20d c3_20e c4_20f j_1 (60 - k42) hI_n hI_t hI_f_22 (by omega) (by omega) H.size) gX11_turn_X11_homeAtHand rfl rfl rfl hdV_X11_homeAtHand ⟨Nat.le_of_ble_eq_true rfl, Nat.le_of_ble_eq_true rfl⟩ [2, 3] rfl rfl 2 rfl rfl rfl hl.1 (Nat.le_of_ble_eq_true rfl) dX11_turn_106 ⟨Nat.le_of_ble_eq_true rfl, Nat.le_of_ble_eq_true rfl⟩) (fun r_23 u_23 H locs hp_23 G => ?_)
                    obtain ⟨f_23, rfl⟩ : ∃ z, z = u_23 := ⟨_, rfl⟩
                    obtain ⟨hI_f_23, hq_23⟩ := hp_23
                    have G : wd X (va_A (@HAppend.hAppend va_W va_W va_W _ (mW m0 ma la lb n t v) (@HAppend.hAppend va_W va_W va_W _ ([((ma 0), .inl (X.2.1, 371, .inl fa))]) (@HAppend.hAppend va_W va_W va_W _ ([((ma 6), .inl (X.2.1, 55, .inl fh))]) ([((ma 3), .inl (X.2.1, 3, .inl fr))])))) sz) (va_A (@HAppend.hAppend va_W va_W va_W _ (mW m0 ma la lb n t v) (@HAppend.hAppend va_W va_W va_W _ ([((ma 0), .inl (X.2.1, 371, .inl fa))]) (@HAppend.hAppend va_W va_W va_W _ ([((ma 6), .inl (X.2.1, 55, .inl fh))]) ([((ma 3), .inl (X.2.1, 3, .inl fr))])))) sz) s (@HAppend.hAppend va_W va_W va_W _ ([((ma 3), .inl (X.2.1, 3, .inl fr))]) (@HAppend.hAppend va_W va_W va_W _ ([((ma 0), .inl (X.2.1, 371, .inl fa))]) (@HAppend.hAppend va_W va_W va_W _ (mW m0 ma la lb n t v) ([((ma 6), .inl (X.2.1, 55, .inl f_23))])))) H locs := G
                    refine lv_istore (lv' := [(7, .int r_23), (6, .int (nI k42)), (5, .int x42_5), (4, .int x42_4), (0, .ref m0), (1, .int (nI j_1)), (2, .int (nI j_3)), (3, .int (nI j_5))]) zx zb dX11_turn_109 hl (by decide) rfl (fun ls hl => ?_)
                    refine lv_iload zx zb dX11_turn_111 (lv_at hl 0 rfl) ?_
                    refine lv_iconst (v := (-1)) zx zb dX11_turn_113 (by decide) ?_
                    refine k_cutW (PP := fun Wx => ∀ (x_25 : Int32) (H : Heap) (locs : List Loc) (ls : Array Slot), wd X (va_A (@HAppend.hAppend va_W va_W va_W _ (mW m0 ma la lb n t v) (@HAppend.hAppend va_W va_W va_W _ ([((ma 0), .inl (X.2.1, 371, .inl fa))]) (@HAppend.hAppend va_W va_W va_W _ ([((ma 6), .inl (X.2.1, 55, .inl fh))]) ([((ma 3), .inl (X.2.1, 3, .inl fr))])))) sz) (va_A (@HAppend.hAppend va_W va_W va_W _ (mW m0 ma la lb n t v) (@HAppend.hAppend va_W va_W va_W _ ([((ma 0), .inl (X.2.1, 371, .inl fa))]) (@HAppend.hAppend va_W va_W va_W _ ([((ma 6), .inl (X.2.1, 55, .inl fh))]) ([((ma 3), .inl (X.2.1, 3, .inl fr))])))) sz) s (@HAppend.hAppend va_W va_W va_W _ ([((ma 3), .inl (X.2.1, 3, .inl fr))]) (@HAppend.hAppend va_W va_W va_W _ ([((ma 0), .inl (X.2.1, 371, .inl fa))]) (@HAppend.hAppend va_W va_W va_W _ (mW m0 ma la lb n t v) ([((ma 6), .inl (X.2.1, 55, .inl f_23))])))) H locs → lv_has ls 8 [(7, .int r_23), (6, .int (nI k42)), (5, .int x42_5), (4, .int x42_4), (0, .ref m0), (1, .int (nI j_1)), (2, .int (nI j_3)), (3, .int (nI j_5))] → Wx (F0 m 126 ls [.int x_25]) H locs) ?_ ?_
                    · intro join_114
                      refine lv_icmp_ne (tgt := 121) zx zb dX11_turn_114 (by decide) (fun c_24 => ?_) (fun c_24 => ?_)
                      · refine lv_iload zx zb dX11_turn_121 (lv_at hl 1 rfl) ?_
                        refine lv_iload zx zb dX11_turn_123 (lv_at hl 0 rfl) ?_
                        refine r_iadd (v := ((nI k42) + r_23)) S rfl dX11_turn_125 ?_
                        exact join_114 ((nI k42) + r_23) _ _ _  G hl
                      · refine lv_iconst (v := (-1)) zx zb dX11_turn_117 (by decide) ?_
                        refine lv_goto (tgt := 126) zx zb dX11_turn_118 (by decide) ?_
                        exact join_114 (-1) _ _ _  G hl
                    · intro x_25 H locs ls  G hl
                      refine lv_istore (lv' := [(7, .int x_25), (6, .int (nI k42)), (5, .int x42_5), (4, .int x42_4), (0, .ref m0), (1, .int (nI j_1)), (2, .int (nI j_3)), (3, .int (nI j_5))]) zx zb dX11_turn_126 hl (by decide) rfl (fun ls hl => ?_)
                      exact join_76 x_25 f_23 c0_20b c1_20c c2_20d c3_20e c4_20f _ _ _ hI_f_23 G hl
                · intro x_13 f_14 c0_15 c1_16 c2_17 c3_18 c4_19 H locs ls hI_f_14 G hl
                  have hO_f_14 := hI_f_14.2
                  obtain ⟨hm0_f_14, hm1_f_14, hm2_f_14, hm3_f_14, hm4_f_14⟩ := hO_f_14
                  refine lv_iload zx zb dX11_turn_128 (lv_at hl 0 rfl) ?_
                  refine lv_iconst (v := (-1)) zx zb dX11_turn_130 (by decide) ?_
                  refine k_cutW (PP := fun Wx => ∀ (x_27 : Int32) (x_28 : Int32) (H : Heap) (locs : List Loc) (ls : Array Slot), wd X (va_A (@HAppend.hAppend va_W va_W va_W _ (mW m0 ma la lb n t v) (@HAppend.hAppend va_W va_W va_W _ ([((ma 0), .inl (X.2.1, 371, .inl fa))]) (@HAppend.hAppend va_W va_W va_W _ ([((ma 6), .inl (X.2.1, 55, .inl fh))]) ([((ma 3), .inl (X.2.1, 3, .inl fr))])))) sz) (va_A (@HAppend.hAppend va_W va_W va_W _ (mW m0 ma la lb n t v) (@HAppend.hAppend va_W va_W va_W _ ([((ma 0), .inl (X.2.1, 371, .inl fa))]) (@HAppend.hAppend va_W va_W va_W _ ([((ma 6), .inl (X.2.1, 55, .inl fh))]) ([((ma 3), .inl (X.2.1, 3, .inl fr))])))) sz) s (@HAppend.hAppend va_W va_W va_W _ ([((ma 3), .inl (X.2.1, 3, .inl fr))]) (@HAppend.hAppend va_W va_W va_W _ ([((ma 0), .inl (X.2.1, 371, .inl fa))]) (@HAppend.hAppend va_W va_W va_W _ (mW m0 ma la lb n t v) ([((ma 6), .inl (X.2.1, 55, .inl f_14))])))) H locs → lv_has ls 8 [(7, .int x_13), (6, .int (nI k42)), (5, .int x_27), (4, .int x_28), (0, .ref m0), (1, .int (nI j_1)), (2, .int (nI j_3)), (3, .int (nI j_5))] → Wx (F0 m 149 ls []) H locs) ?_ ?_
                  · intro join_131
                    refine lv_icmp_eq (tgt := 149) zx zb dX11_turn_131 (by decide) (fun c_26 => ?_) (fun c_26 => ?_)
                    · exact join_131 x42_5 x42_4 _ _ _  G hl
                    · refine lv_iload zx zb dX11_turn_134 (lv_at hl 0 rfl) ?_
                      refine lv_iload zx zb dX11_turn_136 (lv_at hl 2 rfl) ?_
                      refine lv_icmp_ge (tgt := 149) zx zb dX11_turn_138 (by decide) (fun c_29 => ?_) (fun c_29 => ?_)
                      · exact join_131 x42_5 x42_4 _ _ _  G hl
                      · refine lv_iload zx zb dX11_turn_141 (lv_at hl 1 rfl) ?_
                        refine lv_istore (lv' := [(4, .int (nI k42)), (7, .int x_13), (6, .int (nI k42)), (5, .int x42_5), (0, .ref m0), (1, .int (nI j_1)), (2, .int (nI j_3)), (3, .int (nI j_5))]) zx zb dX11_turn_143 hl (by decide) rfl (fun ls hl => ?_)
                        refine lv_iload zx zb dX11_turn_145 (lv_at hl 1 rfl) ?_
                        refine lv_istore (lv' := [(5, .int x_13), (4, .int (nI k42)), (7, .int x_13), (6, .int (nI k42)), (0, .ref m0), (1, .int (nI j_1)), (2, .int (nI j_3)), (3, .int (nI j_5))]) zx zb dX11_turn_147 hl (by decide) rfl (fun ls hl => ?_)
                        have hl := lv_sub hl (l' := [(7, .int x_13), (6, .int (nI k42)), (5, .int x_13), (4, .int (nI k42)), (0, .ref m0), (1, .int (nI j_1)), (2, .int (nI j_3)), (3, .int (nI j_5))]) [2, 3, 0, 1, 4, 5, 6, 7] rfl
                        exact join_131 x_13 (nI k42) _ _ _  G hl
                  · intro x_27 x_28 H locs ls  G hl
                    refine lv_iinc (v := (nI (k42 + 1))) (lv' := [(6, .int (nI (k42 + 1))), (7, .int x_13), (5, .int x_27), (4, .int x_28), (0, .ref m0), (1, .int (nI j_1)), (2, .int (nI j_3)), (3, .int (nI j_5))]) zx zb dX11_turn_149 hl (k := 1) rfl (nI_add k42 1) (by decide) rfl (fun ls hl => ?_)
                    refine lv_goto (tgt := 42) zx zb dX11_turn_152 (by decide) ?_
                    have G : wd X (va_A (@HAppend.hAppend va_W va_W va_W _ (mW m0 ma la lb n t v) (@HAppend.hAppend va_W va_W va_W _ ([((ma 0), .inl (X.2.1, 371, .inl fa))]) (@HAppend.hAppend va_W va_W va_W _ ([((ma 6), .inl (X.2.1, 55, .inl fh))]) ([((ma 3), .inl (X.2.1, 3, .inl fr))])))) sz) (va_A (@HAppend.hAppend va_W va_W va_W _ (mW m0 ma la lb n t v) (@HAppend.hAppend va_W va_W va_W _ ([((ma 0), .inl (X.2.1, 371, .inl fa))]) (@HAppend.hAppend va_W va_W va_W _ ([((ma 6), .inl (X.2.1, 55, .inl fh))]) ([((ma 3), .inl (X.2.1, 3, .inl fr))])))) sz) s (@HAppend.hAppend va_W va_W va_W _ (mW m0 ma la lb n t v) (@HAppend.hAppend va_W va_W va_W _ ([((ma 0), .inl (X.2.1, 371, .inl fa))]) (@HAppend.hAppend va_W va_W va_W _ ([((ma 6), .inl (X.2.1, 55, .inl f_14))]) ([((ma 3), .inl (X.2.1, 3, .inl fr))])))) H locs := wd_sub G [2, 1, 3, 0] rfl rfl
                    have hl := lv_sub hl (l' := [(6, .int (nI (k42 + 1))), (5, .int x_27), (4, .int x_28), (0, .ref m0), (1, .int (nI j_1)), (2, .int (nI j_3)), (3, .int (nI j_5))]) [0, 2, 3, 4, 5, 6, 7] rfl
                    exact ih42 (k42 + 1) x_27 x_28 f_14 c0_15 c1_16 c2_17 c3_18 c4_19 _ _ _ (by omega) hI_f_14 (by omega) G hl
          · intro  H locs ls  G hl
            refine lv_iload zx zb dX11_turn_155 (lv_at hl 2 rfl) ?_
            refine lv_iconst (v := (-1)) zx zb dX11_turn_157 (by decide) ?_
            refine k_cutW (PP := fun Wx => ∀ (x_31 : Int32) (H : Heap) (locs : List Loc) (ls : Array Slot), wd X (va_A (@HAppend.hAppend va_W va_W va_W _ (mW m0 ma la lb n t v) (@HAppend.hAppend va_W va_W va_W _ ([((ma 0), .inl (X.2.1, 371, .inl fa))]) (@HAppend.hAppend va_W va_W va_W _ ([((ma 6), .inl (X.2.1, 55, .inl fh))]) ([((ma 3), .inl (X.2.1, 3, .inl fr))])))) sz) (va_A (@HAppend.hAppend va_W va_W va_W _ (mW m0 ma la lb n t v) (@HAppend.hAppend va_W va_W va_W _ ([((ma 0), .inl (X.2.1, 371, .inl fa))]) (@HAppend.hAppend va_W va_W va_W _ ([((ma 6), .inl (X.2.1, 55, .inl fh))]) ([((ma 3), .inl (X.2.1, 3, .inl fr))])))) sz) s (@HAppend.hAppend va_W va_W va_W _ (mW m0 ma la lb n t v) (@HAppend.hAppend va_W va_W va_W _ ([((ma 0), .inl (X.2.1, 371, .inl fa))]) (@HAppend.hAppend va_W va_W va_W _ ([((ma 6), .inl (X.2.1, 55, .inl f42_2))]) ([((ma 3), .inl (X.2.1, 3, .inl fr))])))) H locs → lv_has ls 8 [(6, .int (nI k42)), (5, .int x42_5), (4, .int x42_4), (0, .ref m0), (1, .int (nI j_1)), (2, .int (nI j_3)), (3, .int (nI j_5))] → Wx (F0 m 172 ls [.int x_31]) H locs) ?_ ?_
            · intro join_158
              refine lv_icmp_eq (tgt := 165) zx zb dX11_turn_158 (by decide) (fun c_30 => ?_) (fun c_30 => ?_)
              · refine lv_iload zx zb dX11_turn_165 (lv_at hl 2 rfl) ?_
                refine lv_goto (tgt := 172) zx zb dX11_turn_167 (by decide) ?_
                exact join_158 x42_4 _ _ _  G hl
              · refine lv_iload_n zx zb dX11_turn_161 rfl (lv_at hl 6 rfl) ?_
                refine lv_if_ne (tgt := 170) zx zb dX11_turn_162 (by decide) (fun c_32 => ?_) (fun c_32 => ?_)
                · have fc_32 := j_ne (a := j_5) (b := 0) c_32
                  refine lv_iload zx zb dX11_turn_170 (lv_at hl 1 rfl) ?_
                  exact join_158 x42_5 _ _ _  G hl
                · have fc_32 := j_eq (a := j_5) (b := 0) (by omega) (by omega) c_32
                  refine lv_iload zx zb dX11_turn_165 (lv_at hl 2 rfl) ?_
                  refine lv_goto (tgt := 172) zx zb dX11_turn_167 (by decide) ?_
                  exact join_158 x42_4 _ _ _  G hl
            · intro x_31 H locs ls  G hl
              exact e_int S zr zlk (vp_nar_int _) G (f42_2, c042_2, c142_2, c242_2, c342_2, c442_2, fr) [0, 1, 2, 3] rfl rfl (Or.inr rfl) (⟨hI_f42_2, trivial⟩) dX11_turn_172
      · refine lv_if_ne (tgt := 32) zx zb dX11_turn_22 (by decide) (fun c_33 => absurd (by decide) c_33) (fun c_33 => ?_)
        refine lv_aload_n zx zb dX11_turn_25 rfl (lv_at hl 0 rfl) ?_
        refine lv_bipush (v := (-2)) zx zb dX11_turn_26 (by decide) ?_
        refine b_wi (cells' := 0) (slots' := 0) (wr := @HAppend.hAppend va_W va_W va_W _ ([((ma 0), .inl (X.2.1, 371, .inl fa))]) ([((ma 6), .inl (X.2.1, 55, .inl fh))])) G rfl rfl [0, 3] [1, 2] rfl rfl rfl rfl (n_V (As := [.int (-2)]) (rest := []) (C := RX11) (T := TX11) (N := 18) (ci := 9) S G (m_bad l X m0 ma la lb n t v fr (-2) hI_n hI_t H.size) gX11_turn_X11_bad rfl rfl rfl hdV_X11_bad ⟨Nat.le_of_ble_eq_true rfl, Nat.le_of_ble_eq_true rfl⟩ [0, 3] rfl rfl 0 rfl rfl rfl hl.1 (Nat.le_of_ble_eq_true rfl) dX11_turn_28 ⟨Nat.le_of_ble_eq_true rfl, Nat.le_of_ble_eq_true rfl⟩) (fun r_34 u_34 H locs hp_34 G => ?_)
        obtain ⟨f_34, rfl⟩ : ∃ z, z = u_34 := ⟨_, rfl⟩
        have hq_34 := hp_34
        have G : wd X (va_A (@HAppend.hAppend va_W va_W va_W _ (mW m0 ma la lb n t v) (@HAppend.hAppend va_W va_W va_W _ ([((ma 0), .inl (X.2.1, 371, .inl fa))]) (@HAppend.hAppend va_W va_W va_W _ ([((ma 6), .inl (X.2.1, 55, .inl fh))]) ([((ma 3), .inl (X.2.1, 3, .inl fr))])))) sz) (va_A (@HAppend.hAppend va_W va_W va_W _ (mW m0 ma la lb n t v) (@HAppend.hAppend va_W va_W va_W _ ([((ma 0), .inl (X.2.1, 371, .inl fa))]) (@HAppend.hAppend va_W va_W va_W _ ([((ma 6), .inl (X.2.1, 55, .inl fh))]) ([((ma 3), .inl (X.2.1, 3, .inl fr))])))) sz) s (@HAppend.hAppend va_W va_W va_W _ ([((ma 0), .inl (X.2.1, 371, .inl fa))]) (@HAppend.hAppend va_W va_W va_W _ ([((ma 6), .inl (X.2.1, 55, .inl fh))]) (@HAppend.hAppend va_W va_W va_W _ (mW m0 ma la lb n t v) ([((ma 3), .inl (X.2.1, 3, .inl f_34))])))) H locs := G
        obtain rfl := hq_34
        exact e_int S zr zlk (vp_nar_int _) G (fh, d0, d1, d2, d3, d4, f_34) [2, 0, 1, 3] rfl rfl (Or.inr rfl) (⟨hI_fh, trivial⟩) dX11_turn_31
    · refine lv_if_eq (tgt := 25) zx zb dX11_turn_12 (by decide) (fun c_35 => ?_) (fun c_35 => absurd (by decide) c_35)
      refine lv_aload_n zx zb dX11_turn_25 rfl (lv_at hl 0 rfl) ?_
      refine lv_bipush (v := (-2)) zx zb dX11_turn_26 (by decide) ?_
      refine b_wi (cells' := 0) (slots' := 0) (wr := @HAppend.hAppend va_W va_W va_W _ ([((ma 0), .inl (X.2.1, 371, .inl fa))]) ([((ma 6), .inl (X.2.1, 55, .inl fh))])) G rfl rfl [0, 3] [1, 2] rfl rfl rfl rfl (n_V (As := [.int (-2)]) (rest := []) (C := RX11) (T := TX11) (N := 18) (ci := 9) S G (m_bad l X m0 ma la lb n t v fr (-2) hI_n hI_t H.size) gX11_turn_X11_bad rfl rfl rfl hdV_X11_bad ⟨Nat.le_of_ble_eq_true rfl, Nat.le_of_ble_eq_true rfl⟩ [0, 3] rfl rfl 0 rfl rfl rfl hl.1 (Nat.le_of_ble_eq_true rfl) dX11_turn_28 ⟨Nat.le_of_ble_eq_true rfl, Nat.le_of_ble_eq_true rfl⟩) (fun r_36 u_36 H locs hp_36 G => ?_)
      obtain ⟨f_36, rfl⟩ : ∃ z, z = u_36 := ⟨_, rfl⟩
      have hq_36 := hp_36
      have G : wd X (va_A (@HAppend.hAppend va_W va_W va_W _ (mW m0 ma la lb n t v) (@HAppend.hAppend va_W va_W va_W _ ([((ma 0), .inl (X.2.1, 371, .inl fa))]) (@HAppend.hAppend va_W va_W va_W _ ([((ma 6), .inl (X.2.1, 55, .inl fh))]) ([((ma 3), .inl (X.2.1, 3, .inl fr))])))) sz) (va_A (@HAppend.hAppend va_W va_W va_W _ (mW m0 ma la lb n t v) (@HAppend.hAppend va_W va_W va_W _ ([((ma 0), .inl (X.2.1, 371, .inl fa))]) (@HAppend.hAppend va_W va_W va_W _ ([((ma 6), .inl (X.2.1, 55, .inl fh))]) ([((ma 3), .inl (X.2.1, 3, .inl fr))])))) sz) s (@HAppend.hAppend va_W va_W va_W _ ([((ma 0), .inl (X.2.1, 371, .inl fa))]) (@HAppend.hAppend va_W va_W va_W _ ([((ma 6), .inl (X.2.1, 55, .inl fh))]) (@HAppend.hAppend va_W va_W va_W _ (mW m0 ma la lb n t v) ([((ma 3), .inl (X.2.1, 3, .inl f_36))])))) H locs := G
      obtain rfl := hq_36
      exact e_int S zr zlk (vp_nar_int _) G (fh, d0, d1, d2, d3, d4, f_36) [2, 0, 1, 3] rfl rfl (Or.inr rfl) (⟨hI_fh, trivial⟩) dX11_turn_31
  · refine lv_if_eq (tgt := 25) zx zb dX11_turn_5 (by decide) (fun c_37 => ?_) (fun c_37 => absurd (by decide) c_37)
    refine lv_aload_n zx zb dX11_turn_25 rfl (lv_at hl 0 rfl) ?_
    refine lv_bipush (v := (-2)) zx zb dX11_turn_26 (by decide) ?_
    refine b_wi (cells' := 0) (slots' := 0) (wr := @HAppend.hAppend va_W va_W va_W _ ([((ma 0), .inl (X.2.1, 371, .inl fa))]) ([((ma 6), .inl (X.2.1, 55, .inl fh))])) G rfl rfl [0, 3] [1, 2] rfl rfl rfl rfl (n_V (As := [.int (-2)]) (rest := []) (C := RX11) (T := TX11) (N := 18) (ci := 9) S G (m_bad l X m0 ma la lb n t v fr (-2) hI_n hI_t H.size) gX11_turn_X11_bad rfl rfl rfl hdV_X11_bad ⟨Nat.le_of_ble_eq_true rfl, Nat.le_of_ble_eq_true rfl⟩ [0, 3] rfl rfl 0 rfl rfl rfl hl.1 (Nat.le_of_ble_eq_true rfl) dX11_turn_28 ⟨Nat.le_of_ble_eq_true rfl, Nat.le_of_ble_eq_true rfl⟩) (fun r_38 u_38 H locs hp_38 G => ?_)
    obtain ⟨f_38, rfl⟩ : ∃ z, z = u_38 := ⟨_, rfl⟩
    have hq_38 := hp_38
    have G : wd X (va_A (@HAppend.hAppend va_W va_W va_W _ (mW m0 ma la lb n t v) (@HAppend.hAppend va_W va_W va_W _ ([((ma 0), .inl (X.2.1, 371, .inl fa))]) (@HAppend.hAppend va_W va_W va_W _ ([((ma 6), .inl (X.2.1, 55, .inl fh))]) ([((ma 3), .inl (X.2.1, 3, .inl fr))])))) sz) (va_A (@HAppend.hAppend va_W va_W va_W _ (mW m0 ma la lb n t v) (@HAppend.hAppend va_W va_W va_W _ ([((ma 0), .inl (X.2.1, 371, .inl fa))]) (@HAppend.hAppend va_W va_W va_W _ ([((ma 6), .inl (X.2.1, 55, .inl fh))]) ([((ma 3), .inl (X.2.1, 3, .inl fr))])))) sz) s (@HAppend.hAppend va_W va_W va_W _ ([((ma 0), .inl (X.2.1, 371, .inl fa))]) (@HAppend.hAppend va_W va_W va_W _ ([((ma 6), .inl (X.2.1, 55, .inl fh))]) (@HAppend.hAppend va_W va_W va_W _ (mW m0 ma la lb n t v) ([((ma 3), .inl (X.2.1, 3, .inl f_38))])))) H locs := G
    obtain rfl := hq_38
    exact e_int S zr zlk (vp_nar_int _) G (fh, d0, d1, d2, d3, d4, f_38) [2, 0, 1, 3] rfl rfl (Or.inr rfl) (⟨hI_fh, trivial⟩) dX11_turn_31
theorem in_X11_beats_X11 : ∀ w ∈ wsX110, w ∈ wsX11_beats := by decide +kernel
theorem lk_X11_beats_7 : Cond.fieldLink RX11 7 "EggSpoonsModel" "all" "[I" ∈ wsX11_beats := by decide +kernel
theorem lk_X11_beats_27 : Cond.fieldLink RX11 27 "EggSpoonsModel" "hand" "[I" ∈ wsX11_beats := by decide +kernel
set_option maxHeartbeats 4000000 in
set_option maxRecDepth 100000 in
/-- beats -/
theorem m_beats (l : Launch) (X : EX) (m0 : Nat) (ma : Nat → Nat) (la : Int64) (lb : Int64) (n : Nat) (t : Nat → Nat) (v : Nat → Int32) (fa : Nat → Int32) (c0 : Nat) (c1 : Nat) (c2 : Nat) (c3 : Nat) (c4 : Nat) (fh : Nat → Int32) (d0 : Nat) (d1 : Nat) (d2 : Nat) (d3 : Nat) (d4 : Nat) (fr : Nat → Int32) (x1 : Int32) (x2 : Int32) (hI_n : n ≤ 150) (hI_t : InT t) (hI_fa : InA fa c0 c1 c2 c3 c4) (hI_fh : InA fh d0 d1 d2 d3 d4) (sz : Nat) : Met l yX11_beats wsX11_beats ({ frames := 6, cells := 0, slots := 0, locals := 137 } : Room) (pE X [.ref m0, .int x1, .int x2] (@HAppend.hAppend va_W va_W va_W _ (mW m0 ma la lb n t v) (@HAppend.hAppend va_W va_W va_W _ ([((ma 0), .inl (X.2.1, 371, .inl fa))]) (@HAppend.hAppend va_W va_W va_W _ ([((ma 6), .inl (X.2.1, 55, .inl fh))]) ([((ma 3), .inl (X.2.1, 3, .inl fr))])))) sz) (qI (fun (r : Int32) (u : (Nat → Int32) × (Nat) × (Nat) × (Nat) × (Nat) × (Nat) × (Nat → Int32)) => InA u.1 u.2.1 u.2.2.1 u.2.2.2.1 u.2.2.2.2.1 u.2.2.2.2.2.1 ∧ (True)) X (fun (u : (Nat → Int32) × (Nat) × (Nat) × (Nat) × (Nat) × (Nat) × (Nat → Int32)) => @HAppend.hAppend va_W va_W va_W _ (mW m0 ma la lb n t v) (@HAppend.hAppend va_W va_W va_W _ ([((ma 0), .inl (X.2.1, 371, .inl fa))]) (@HAppend.hAppend va_W va_W va_W _ ([((ma 6), .inl (X.2.1, 55, .inl u.1))]) ([((ma 3), .inl (X.2.1, 3, .inl u.2.2.2.2.2.2))])))) (@HAppend.hAppend va_W va_W va_W _ (mW m0 ma la lb n t v) (@HAppend.hAppend va_W va_W va_W _ ([((ma 0), .inl (X.2.1, 371, .inl fa))]) (@HAppend.hAppend va_W va_W va_W _ ([((ma 6), .inl (X.2.1, 55, .inl fh))]) ([((ma 3), .inl (X.2.1, 3, .inl fr))])))) sz) 0 0 (va_A (@HAppend.hAppend va_W va_W va_W _ (mW m0 ma la lb n t v) (@HAppend.hAppend va_W va_W va_W _ ([((ma 0), .inl (X.2.1, 371, .inl fa))]) (@HAppend.hAppend va_W va_W va_W _ ([((ma 6), .inl (X.2.1, 55, .inl fh))]) ([((ma 3), .inl (X.2.1, 3, .inl fr))])))) sz) := by
  refine mk_met (B := (va_A (@HAppend.hAppend va_W va_W va_W _ (mW m0 ma la lb n t v) (@HAppend.hAppend va_W va_W va_W _ ([((ma 0), .inl (X.2.1, 371, .inl fa))]) (@HAppend.hAppend va_W va_W va_W _ ([((ma 6), .inl (X.2.1, 55, .inl fh))]) ([((ma 3), .inl (X.2.1, 3, .inl fr))])))) sz)) (A := (va_A (@HAppend.hAppend va_W va_W va_W _ (mW m0 ma la lb n t v) (@HAppend.hAppend va_W va_W va_W _ ([((ma 0), .inl (X.2.1, 371, .inl fa))]) (@HAppend.hAppend va_W va_W va_W _ ([((ma 6), .inl (X.2.1, 55, .inl fh))]) ([((ma 3), .inl (X.2.1, 3, .inl fr))])))) sz)) (cc := cX11_beats) (maxL := 6) (ret := (some .int)) (by decide) rfl (Nat.le_of_ble_eq_true rfl) k_w k_a (fun p e s m below meth c S zr zlk znm zsz G ls hl => ?_)
  have S : CallFix p m c cX11_beats 6 s _ wsX11_beats RX11 := S
  have zx := S.1
  have zb := S.2.1
  have hl : lv_has ls 6 [(0, .ref m0), (1, .int x1), (2, .int x2)] := hl
  have hO_t := hI_t
  obtain ⟨ht0_t, ht1_t⟩ := hO_t
  have hO_fa := hI_fa.2
  obtain ⟨hm0_fa, hm1_fa, hm2_fa, hm3_fa, hm4_fa⟩ := hO_fa
  have hO_fh := hI_fh.2
  obtain ⟨hm0_fh, hm1_fh, hm2_fh, hm3_fh, hm4_fh⟩ := hO_fh
  refine lv_aload_n zx zb dX11_beats_0 rfl (lv_at hl 0 rfl) ?_
  refine lv_iload_n zx zb dX11_beats_1 rfl (lv_at hl 1 rfl) ?_
  refine o_ri (cells' := 0) (slots' := 0) G rfl rfl (n_V (As := [.int x1]) (rest := []) (C := RX11) (T := TX11) (N := 18) (ci := 9) S G (m_isOne l X m0 ma la lb n t v fa c0 c1 c2 c3 c4 x1 hI_n hI_t hI_fa s.heap.size) gX11_beats_X11_isOne rfl rfl rfl hdV_X11_isOne ⟨Nat.le_of_ble_eq_true rfl, Nat.le_of_ble_eq_true rfl⟩ [0, 1] rfl rfl 0 rfl rfl rfl hl.1 (Nat.le_of_ble_eq_true rfl) dX11_beats_2 ⟨Nat.le_of_ble_eq_true rfl, Nat.le_of_ble_eq_true rfl⟩) (fun r_1 u_1 H locs hp_1 G => ?_)
  have G : wd X (va_A (@HAppend.hAppend va_W va_W va_W _ (mW m0 ma la lb n t v) (@HAppend.hAppend va_W va_W va_W _ ([((ma 0), .inl (X.2.1, 371, .inl fa))]) (@HAppend.hAppend va_W va_W va_W _ ([((ma 6), .inl (X.2.1, 55, .inl fh))]) ([((ma 3), .inl (X.2.1, 3, .inl fr))])))) sz) (va_A (@HAppend.hAppend va_W va_W va_W _ (mW m0 ma la lb n t v) (@HAppend.hAppend va_W va_W va_W _ ([((ma 0), .inl (X.2.1, 371, .inl fa))]) (@HAppend.hAppend va_W va_W va_W _ ([((ma 6), .inl (X.2.1, 55, .inl fh))]) ([((ma 3), .inl (X.2.1, 3, .inl fr))])))) sz) s (@HAppend.hAppend va_W va_W va_W _ (mW m0 ma la lb n t v) (@HAppend.hAppend va_W va_W va_W _ ([((ma 0), .inl (X.2.1, 371, .inl fa))]) (@HAppend.hAppend va_W va_W va_W _ ([((ma 6), .inl (X.2.1, 55, .inl fh))]) ([((ma 3), .inl (X.2.1, 3, .inl fr))])))) H locs := G
  rcases hp_1 with ⟨rfl, hj_1⟩ | ⟨rfl, hj_1⟩
  · obtain ⟨j_1, hj_1, rfl⟩ := hj_1
    refine lv_if_eq (tgt := 21) zx zb dX11_beats_5 (by decide) (fun c_2 => absurd c_2 (by decide)) (fun c_2 => ?_)
    refine lv_aload_n zx zb dX11_beats_8 rfl (lv_at hl 0 rfl) ?_
    refine lv_iload_n zx zb dX11_beats_9 rfl (lv_at hl 2 rfl) ?_
    refine o_ri (cells' := 0) (slots' := 0) G rfl rfl (n_V (As := [.int x2]) (rest := []) (C := RX11) (T := TX11) (N := 18) (ci := 9) S G (m_isOne l X m0 ma la lb n t v fa c0 c1 c2 c3 c4 x2 hI_n hI_t hI_fa H.size) gX11_beats_X11_isOne rfl rfl rfl hdV_X11_isOne ⟨Nat.le_of_ble_eq_true rfl, Nat.le_of_ble_eq_true rfl⟩ [0, 1] rfl rfl 0 rfl rfl rfl hl.1 (Nat.le_of_ble_eq_true rfl) dX11_beats_10 ⟨Nat.le_of_ble_eq_true rfl, Nat.le_of_ble_eq_true rfl⟩) (fun r_3 u_3 H locs hp_3 G => ?_)
    have G : wd X (va_A (@HAppend.hAppend va_W va_W va_W _ (mW m0 ma la lb n t v) (@HAppend.hAppend va_W va_W va_W _ ([((ma 0), .inl (X.2.1, 371, .inl fa))]) (@HAppend.hAppend va_W va_W va_W _ ([((ma 6), .inl (X.2.1, 55, .inl fh))]) ([((ma 3), .inl (X.2.1, 3, .inl fr))])))) sz) (va_A (@HAppend.hAppend va_W va_W va_W _ (mW m0 ma la lb n t v) (@HAppend.hAppend va_W va_W va_W _ ([((ma 0), .inl (X.2.1, 371, .inl fa))]) (@HAppend.hAppend va_W va_W va_W _ ([((ma 6), .inl (X.2.1, 55, .inl fh))]) ([((ma 3), .inl (X.2.1, 3, .inl fr))])))) sz) s (@HAppend.hAppend va_W va_W va_W _ (mW m0 ma la lb n t v) (@HAppend.hAppend va_W va_W va_W _ ([((ma 0), .inl (X.2.1, 371, .inl fa))]) (@HAppend.hAppend va_W va_W va_W _ ([((ma 6), .inl (X.2.1, 55, .inl fh))]) ([((ma 3), .inl (X.2.1, 3, .inl fr))])))) H locs := G
    rcases hp_3 with ⟨rfl, hj_3⟩ | ⟨rfl, hj_3⟩
    · obtain ⟨j_3, hj_3, rfl⟩ := hj_3
      refine lv_if_eq (tgt := 21) zx zb dX11_beats_13 (by decide) (fun c_4 => absurd c_4 (by decide)) (fun c_4 => ?_)
      refine lv_iload_n zx zb dX11_beats_16 rfl (lv_at hl 1 rfl) ?_
      refine lv_iload_n zx zb dX11_beats_17 rfl (lv_at hl 2 rfl) ?_
      refine lv_icmp_ne (tgt := 28) zx zb dX11_beats_18 (by decide) (fun c_5 => ?_) (fun c_5 => ?_)
      · have fc_5 := j_ne (a := j_1) (b := j_3) c_5
        refine lv_aload_n zx zb dX11_beats_28 rfl (lv_at hl 0 rfl) ?_
        refine lv_iload_n zx zb dX11_beats_29 rfl (lv_at hl 2 rfl) ?_
        refine b_wi (cells' := 0) (slots' := 0) (wr := [((ma 3), .inl (X.2.1, 3, .inl fr))]) G rfl rfl [0, 1, 2] [3] rfl rfl rfl rfl (n_V (As := [.int (nI j_3)]) (rest := []) (C := RX11) (T := TX11) (N := 18) (ci := 9) S G (m_homeOf l X m0 ma la lb n t v fa c0 c1 c2 c3 c4 fh d0 d1 d2 d3 d4 j_3 hI_n hI_t hI_fa hI_fh (by omega) H.size) gX11_beats_X11_homeOf rfl rfl rfl hdV_X11_homeOf ⟨Nat.le_of_ble_eq_true rfl, Nat.le_of_ble_eq_true rfl⟩ [0, 1, 2] rfl rfl 0 rfl rfl rfl hl.1 (Nat.le_of_ble_eq_true rfl) dX11_beats_30 ⟨Nat.le_of_ble_eq_true rfl, Nat.le_of_ble_eq_true rfl⟩) (fun r_6 u_6 H locs hp_6 G => ?_)
        obtain ⟨f_6a, c0_6b, c1_6c, c2_6d, c3_6e, c4_6f⟩ := u_6
        try dsimp only at hp_6
        obtain ⟨hI_f_6a, hq_6⟩ := hp_6
        have hO_f_6a := hI_f_6a.2
        obtain ⟨hm0_f_6a, hm1_f_6a, hm2_f_6a, hm3_f_6a, hm4_f_6a⟩ := hO_f_6a
        have G : wd X (va_A (@HAppend.hAppend va_W va_W va_W _ (mW m0 ma la lb n t v) (@HAppend.hAppend va_W va_W va_W _ ([((ma 0), .inl (X.2.1, 371, .inl fa))]) (@HAppend.hAppend va_W va_W va_W _ ([((ma 6), .inl (X.2.1, 55, .inl fh))]) ([((ma 3), .inl (X.2.1, 3, .inl fr))])))) sz) (va_A (@HAppend.hAppend va_W va_W va_W _ (mW m0 ma la lb n t v) (@HAppend.hAppend va_W va_W va_W _ ([((ma 0), .inl (X.2.1, 371, .inl fa))]) (@HAppend.hAppend va_W va_W va_W _ ([((ma 6), .inl (X.2.1, 55, .inl fh))]) ([((ma 3), .inl (X.2.1, 3, .inl fr))])))) sz) s (@HAppend.hAppend va_W va_W va_W _ ([((ma 3), .inl (X.2.1, 3, .inl fr))]) (@HAppend.hAppend va_W va_W va_W _ (mW m0 ma la lb n t v) (@HAppend.hAppend va_W va_W va_W _ ([((ma 0), .inl (X.2.1, 371, .inl fa))]) ([((ma 6), .inl (X.2.1, 55, .inl f_6a))])))) H locs := G
        refine lv_istore_n (lv' := [(3, .int r_6), (0, .ref m0), (1, .int (nI j_1)), (2, .int (nI j_3))]) zx zb dX11_beats_33 rfl hl (by decide) rfl (fun ls hl => ?_)
        refine lv_iconst (v := 0) zx zb dX11_beats_34 (by decide) ?_
        refine lv_istore (lv' := [(4, .int 0), (3, .int r_6), (0, .ref m0), (1, .int (nI j_1)), (2, .int (nI j_3))]) zx zb dX11_beats_35 hl (by decide) rfl (fun ls hl => ?_)
        refine k_loop (P := ∀ (zm : Nat) (k37 : Nat) (f37_3 : Nat → Int32) (c037_3 : Nat) (c137_3 : Nat) (c237_3 : Nat) (c337_3 : Nat) (c437_3 : Nat) (H : Heap) (locs : List Loc) (ls : Array Slot), 31 + 1 ≤ k37 + zm → InA f37_3 c037_3 c137_3 c237_3 c337_3 c437_3 → (k37 ≤ 31) → wd X (va_A (@HAppend.hAppend va_W va_W va_W _ (mW m0 ma la lb n t v) (@HAppend.hAppend va_W va_W va_W _ ([((ma 0), .inl (X.2.1, 371, .inl fa))]) (@HAppend.hAppend va_W va_W va_W _ ([((ma 6), .inl (X.2.1, 55, .inl fh))]) ([((ma 3), .inl (X.2.1, 3, .inl fr))])))) sz) (va_A (@HAppend.hAppend va_W va_W va_W _ (mW m0 ma la lb n t v) (@HAppend.hAppend va_W va_W va_W _ ([((ma 0), .inl (X.2.1, 371, .inl fa))]) (@HAppend.hAppend va_W va_W va_W _ ([((ma 6), .inl (X.2.1, 55, .inl fh))]) ([((ma 3), .inl (X.2.1, 3, .inl fr))])))) sz) s (@HAppend.hAppend va_W va_W va_W _ ([((ma 3), .inl (X.2.1, 3, .inl fr))]) (@HAppend.hAppend va_W va_W va_W _ (mW m0 ma la lb n t v) (@HAppend.hAppend va_W va_W va_W _ ([((ma 0), .inl (X.2.1, 371, .inl fa))]) ([((ma 6), .inl (X.2.1, 55, .inl f37_3))])))) H locs → lv_has ls 6 [(4, .int (nI k37)), (3, .int r_6), (0, .ref m0), (1, .int (nI j_1)), (2, .int (nI j_3))] → W p l e _ s m _ below meth c H locs _ _ _ (F0 m 37 ls [])) (fun loop => loop (31 + 1) 0 f_6a c0_6b c1_6c c2_6d c3_6e c4_6f _ _ _ (by omega) hI_f_6a (by omega) G hl) ?_
        intro zm
        induction zm with
        | zero => intro k37 f37_3 c037_3 c137_3 c237_3 c337_3 c437_3 H locs ls zz q_hI_f37_3 q_hk_k37 _ _; exact absurd zz (by omega)
        | succ zm ih37 =>
          intro k37 f37_3 c037_3 c137_3 c237_3 c337_3 c437_3 H locs ls zm_37 hI_f37_3 hk_k37 G hl
          have hO_f37_3 := hI_f37_3.2
          obtain ⟨hm0_f37_3, hm1_f37_3, hm2_f37_3, hm3_f37_3, hm4_f37_3⟩ := hO_f37_3
          refine lv_iload zx zb dX11_beats_37 (lv_at hl 0 rfl) ?_
          refine lv_bipush (v := 30) zx zb dX11_beats_39 (by decide) ?_
          refine lv_icmp_gt (tgt := 125) zx zb dX11_beats_41 (by decide) (fun c_7 => ?_) (fun c_7 => ?_)
          · have fc_7 := j_lt (a := 30) (b := k37) (by omega) (by omega) c_7
            refine lv_iconst (v := (-1)) zx zb dX11_beats_125 (by decide) ?_
            exact e_int S zr zlk (vp_nar_int _) G (f37_3, c037_3, c137_3, c237_3, c337_3, c437_3, fr) [1, 2, 3, 0] rfl rfl (Or.inr rfl) (⟨hI_f37_3, trivial⟩) dX11_beats_126
          · have fc_7 := j_nlt (a := 30) (b := k37) (by omega) (by omega) c_7
            refine lv_aload_n zx zb dX11_beats_44 rfl (lv_at hl 2 rfl) ?_
            refine r_get (C := RX11) (T := TX11) (N := 18) (ci := 9) (v := .ref (ma 0)) S in_X11_beats_X11 G 1 rfl rfl 0 (by decide) lk_X11_beats_7 rfl dX11_beats_45 ?_
            refine lv_iload_n zx zb dX11_beats_48 rfl (lv_at hl 3 rfl) ?_
            refine o_ri (cells' := 0) (slots' := 0) G rfl rfl (n_S (As := [.ref (ma 0), .int (nI j_1)]) (rest := []) S G (m_isHome l X (ma 0) 371 fa c0 c1 c2 c3 c4 j_1 hI_fa (by omega) (by omega) (by omega) H.size) gX11_beats_X11_isHome rfl rfl rfl hdS_X11_isHome ⟨Nat.le_of_ble_eq_true rfl, Nat.le_of_ble_eq_true rfl⟩ [2] rfl rfl rfl hl.1 (Nat.le_of_ble_eq_true rfl) dX11_beats_49 ⟨Nat.le_of_ble_eq_true rfl, Nat.le_of_ble_eq_true rfl⟩) (fun r_8 u_8 H locs hp_8 G => ?_)
            have G : wd X (va_A (@HAppend.hAppend va_W va_W va_W _ (mW m0 ma la lb n t v) (@HAppend.hAppend va_W va_W va_W _ ([((ma 0), .inl (X.2.1, 371, .inl fa))]) (@HAppend.hAppend va_W va_W va_W _ ([((ma 6), .inl (X.2.1, 55, .inl fh))]) ([((ma 3), .inl (X.2.1, 3, .inl fr))])))) sz) (va_A (@HAppend.hAppend va_W va_W va_W _ (mW m0 ma la lb n t v) (@HAppend.hAppend va_W va_W va_W _ ([((ma 0), .inl (X.2.1, 371, .inl fa))]) (@HAppend.hAppend va_W va_W va_W _ ([((ma 6), .inl (X.2.1, 55, .inl fh))]) ([((ma 3), .inl (X.2.1, 3, .inl fr))])))) sz) s (@HAppend.hAppend va_W va_W va_W _ ([((ma 3), .inl (X.2.1, 3, .inl fr))]) (@HAppend.hAppend va_W va_W va_W _ (mW m0 ma la lb n t v) (@HAppend.hAppend va_W va_W va_W _ ([((ma 0), .inl (X.2.1, 371, .inl fa))]) ([((ma 6), .inl (X.2.1, 55, .inl f37_3))])))) H locs := G
            refine lv_if_ne (tgt := 125) zx zb dX11_beats_52 (by decide) (fun c_9 => ?_) (fun c_9 => ?_)
            · refine lv_iconst (v := (-1)) zx zb dX11_beats_125 (by decide) ?_
              exact e_int S zr zlk (vp_nar_int _) G (f37_3, c037_3, c137_3, c237_3, c337_3, c437_3, fr) [1, 2, 3, 0] rfl rfl (Or.inr rfl) (⟨hI_f37_3, trivial⟩) dX11_beats_126
            · refine lv_aload_n zx zb dX11_beats_55 rfl (lv_at hl 2 rfl) ?_
              refine b_wv (cells' := 0) (slots' := 0) (wr := [((ma 3), .inl (X.2.1, 3, .inl fr))]) G rfl rfl [1, 2, 3] [0] rfl rfl rfl rfl (n_V (As := []) (rest := []) (C := RX11) (T := TX11) (N := 18) (ci := 9) S G (m_layHand l X m0 ma la lb n t v fa c0 c1 c2 c3 c4 f37_3 c037_3 c137_3 c237_3 c337_3 c437_3 hI_n hI_t hI_fa hI_f37_3 H.size) gX11_beats_X11_layHand rfl rfl rfl hdV_X11_layHand ⟨Nat.le_of_ble_eq_true rfl, Nat.le_of_ble_eq_true rfl⟩ [1, 2, 3] rfl rfl 1 rfl rfl rfl hl.1 (Nat.le_of_ble_eq_true rfl) dX11_beats_56 ⟨Nat.le_of_ble_eq_true rfl, Nat.le_of_ble_eq_true rfl⟩) (fun u_10 H locs hp_10 G => ?_)
              obtain ⟨f_10a, c0_10b, c1_10c, c2_10d, c3_10e, c4_10f⟩ := u_10
              try dsimp only at hp_10
              obtain ⟨hI_f_10a, hq_10⟩ := hp_10
              have hO_f_10a := hI_f_10a.2
              obtain ⟨hm0_f_10a, hm1_f_10a, hm2_f_10a, hm3_f_10a, hm4_f_10a⟩ := hO_f_10a
              have G : wd X (va_A (@HAppend.hAppend va_W va_W va_W _ (mW m0 ma la lb n t v) (@HAppend.hAppend va_W va_W va_W _ ([((ma 0), .inl (X.2.1, 371, .inl fa))]) (@HAppend.hAppend va_W va_W va_W _ ([((ma 6), .inl (X.2.1, 55, .inl fh))]) ([((ma 3), .inl (X.2.1, 3, .inl fr))])))) sz) (va_A (@HAppend.hAppend va_W va_W va_W _ (mW m0 ma la lb n t v) (@HAppend.hAppend va_W va_W va_W _ ([((ma 0), .inl (X.2.1, 371, .inl fa))]) (@HAppend.hAppend va_W va_W va_W _ ([((ma 6), .inl (X.2.1, 55, .inl fh))]) ([((ma 3), .inl (X.2.1, 3, .inl fr))])))) sz) s (@HAppend.hAppend va_W va_W va_W _ ([((ma 3), .inl (X.2.1, 3, .inl fr))]) (@HAppend.hAppend va_W va_W va_W _ (mW m0 ma la lb n t v) (@HAppend.hAppend va_W va_W va_W _ ([((ma 0), .inl (X.2.1, 371, .inl fa))]) ([((ma 6), .inl (X.2.1, 55, .inl f_10a))])))) H locs := G
              refine lv_aload_n zx zb dX11_beats_59 rfl (lv_at hl 2 rfl) ?_
              refine r_get (C := RX11) (T := TX11) (N := 18) (ci := 9) (v := .ref (ma 6)) S in_X11_beats_X11 G 1 rfl rfl 6 (by decide) lk_X11_beats_27 rfl dX11_beats_60 ?_
              refine lv_iconst (v := 5) zx zb dX11_beats_63 (by decide) ?_
              refine lv_iload_n zx zb dX11_beats_64 rfl (lv_at hl 3 rfl) ?_
              refine r_iadd (v := (nI (5 + j_1))) S (nI_add 5 j_1) dX11_beats_65 ?_
              refine lv_dup2_11 zx zb dX11_beats_66 rfl rfl ?_
              refine r_iald S G 3 rfl (vp_in_nI (by omega) (by decide)) rfl dX11_beats_67 ?_
              refine k_itE (fun y_11 => ?_)
              refine lv_iload zx zb dX11_beats_68 (lv_at hl 0 rfl) ?_
              refine r_iadd (v := (y_11 + (nI k37))) S rfl dX11_beats_70 ?_
              refine r_iast S G 3 rfl (vp_in_nI (by omega) (by decide)) dX11_beats_71 (fun H locs G => ?_)
              obtain ⟨f_12, hI_f_12, hE_f_12, G⟩ : ∃ f_12 : Nat → Int32, InA f_12 c0_10b c1_10c c2_10d c3_10e c4_10f ∧ f_12 = upd f_10a (nI (5 + j_1)).toNatClampNeg (y_11 + (nI k37)) ∧ wd X (va_A (@HAppend.hAppend va_W va_W va_W _ (mW m0 ma la lb n t v) (@HAppend.hAppend va_W va_W va_W _ ([((ma 0), .inl (X.2.1, 371, .inl fa))]) (@HAppend.hAppend va_W va_W va_W _ ([((ma 6), .inl (X.2.1, 55, .inl fh))]) ([((ma 3), .inl (X.2.1, 3, .inl fr))])))) sz) (va_A (@HAppend.hAppend va_W va_W va_W _ (mW m0 ma la lb n t v) (@HAppend.hAppend va_W va_W va_W _ ([((ma 0), .inl (X.2.1, 371, .inl fa))]) (@HAppend.hAppend va_W va_W va_W _ ([((ma 6), .inl (X.2.1, 55, .inl fh))]) ([((ma 3), .inl (X.2.1, 3, .inl fr))])))) sz) s (@HAppend.hAppend va_W va_W va_W _ ([((ma 3), .inl (X.2.1, 3, .inl fr))]) (@HAppend.hAppend va_W va_W va_W _ (mW m0 ma la lb n t v) (@HAppend.hAppend va_W va_W va_W _ ([((ma 0), .inl (X.2.1, 371, .inl fa))]) ([((ma 6), .inl (X.2.1, 55, .inl f_12))])))) H locs := ⟨_, InA_o hI_f_10a (by rw [nI_clamp (by omega)]; omega), rfl, G⟩
              refine lv_aload_n zx zb dX11_beats_72 rfl (lv_at hl 2 rfl) ?_
              refine r_get (C := RX11) (T := TX11) (N := 18) (ci := 9) (v := .ref (ma 6)) S in_X11_beats_X11 G 1 rfl rfl 6 (by decide) lk_X11_beats_27 rfl dX11_beats_73 ?_
              refine lv_iconst (v := 5) zx zb dX11_beats_76 (by decide) ?_
              refine lv_iload_n zx zb dX11_beats_77 rfl (lv_at hl 3 rfl) ?_
              refine r_iadd (v := (nI (5 + j_1))) S (nI_add 5 j_1) dX11_beats_78 ?_
              refine r_iald S G 3 rfl (vp_in_nI (by omega) (by decide)) rfl dX11_beats_79 ?_
              refine k_itE (fun y_13 => ?_)
              refine lv_aload_n zx zb dX11_beats_80 rfl (lv_at hl 2 rfl) ?_
              refine r_get (C := RX11) (T := TX11) (N := 18) (ci := 9) (v := .ref (ma 0)) S in_X11_beats_X11 G 1 rfl rfl 0 (by decide) lk_X11_beats_7 rfl dX11_beats_81 ?_
              refine lv_bipush (v := 36) zx zb dX11_beats_84 (by decide) ?_
              refine r_iald S G 2 rfl (k_vp (by decide)) rfl dX11_beats_86 ?_
              refine k_itE (fun y_14 => ?_)
              refine lv_icmp_ge (tgt := 119) zx zb dX11_beats_87 (by decide) (fun c_15 => ?_) (fun c_15 => ?_)
              · refine lv_iinc (v := (nI (k37 + 1))) (lv' := [(4, .int (nI (k37 + 1))), (3, .int r_6), (0, .ref m0), (1, .int (nI j_1)), (2, .int (nI j_3))]) zx zb dX11_beats_119 hl (k := 0) rfl (nI_add k37 1) (by decide) rfl (fun ls hl => ?_)
                refine lv_goto (tgt := 37) zx zb dX11_beats_122 (by decide) ?_
                exact ih37 (k37 + 1) f_12 c0_10b c1_10c c2_10d c3_10e c4_10f _ _ _ (by omega) hI_f_12 (by omega) G hl
              · refine lv_aload_n zx zb dX11_beats_90 rfl (lv_at hl 2 rfl) ?_
                refine lv_iload_n zx zb dX11_beats_91 rfl (lv_at hl 3 rfl) ?_
                refine lv_bipush (v := 60) zx zb dX11_beats_92 (by decide) ?_
                refine b_wi (cells' := 0) (slots' := 0) (wr := @HAppend.hAppend va_W va_W va_W _ ([((ma 3), .inl (X.2.1, 3, .inl fr))]) ([((ma 0), .inl (X.2.1, 371, .inl fa))])) G rfl rfl [1, 3] [0, 2] rfl rfl rfl rfl (n_V (As := [.int (nI j_1), .int 60]) (rest := []) (C := RX11) (T := TX11) (N := 18) (ci := 9) S G (m_homeAtHand l X m0 ma la lb n t v f_12 c0_10b c1_10c c2_10d c3_10e c4_10f j_1 60 hI_n hI_t hI_f_12 (by omega) (by omega) H.size) gX11_beats_X11_homeAtHand rfl rfl rfl hdV_X11_homeAtHand ⟨Nat.le_of_ble_eq_true rfl, Nat.le_of_ble_eq_true rfl⟩ [1, 3] rfl rfl 1 rfl rfl rfl hl.1 (Nat.le_of_ble_eq_true rfl) dX11_beats_94 ⟨Nat.le_of_ble_eq_true rfl, Nat.le_of_ble_eq_true rfl⟩) (fun r_16 u_16 H locs hp_16 G => ?_)
                obtain ⟨f_16, rfl⟩ : ∃ z, z = u_16 := ⟨_, rfl⟩
                obtain ⟨hI_f_16, hq_16⟩ := hp_16
                have G : wd X (va_A (@HAppend.hAppend va_W va_W va_W _ (mW m0 ma la lb n t v) (@HAppend.hAppend va_W va_W va_W _ ([((ma 0), .inl (X.2.1, 371, .inl fa))]) (@HAppend.hAppend va_W va_W va_W _ ([((ma 6), .inl (X.2.1, 55, .inl fh))]) ([((ma 3), .inl (X.2.1, 3, .inl fr))])))) sz) (va_A (@HAppend.hAppend va_W va_W va_W _ (mW m0 ma la lb n t v) (@HAppend.hAppend va_W va_W va_W _ ([((ma 0), .inl (X.2.1, 371, .inl fa))]) (@HAppend.hAppend va_W va_W va_W _ ([((ma 6), .inl (X.2.1, 55, .inl fh))]) ([((ma 3), .inl (X.2.1, 3, .inl fr))])))) sz) s (@HAppend.hAppend va_W va_W va_W _ ([((ma 3), .inl (X.2.1, 3, .inl fr))]) (@HAppend.hAppend va_W va_W va_W _ ([((ma 0), .inl (X.2.1, 371, .inl fa))]) (@HAppend.hAppend va_W va_W va_W _ (mW m0 ma la lb n t v) ([((ma 6), .inl (X.2.1, 55, .inl f_16))])))) H locs := G
                refine lv_istore (lv' := [(5, .int r_16), (4, .int (nI k37)), (3, .int r_6), (0, .ref m0), (1, .int (nI j_1)), (2, .int (nI j_3))]) zx zb dX11_beats_97 hl (by decide) rfl (fun ls hl => ?_)
                refine lv_iload zx zb dX11_beats_99 (lv_at hl 0 rfl) ?_
                refine lv_iconst (v := (-1)) zx zb dX11_beats_101 (by decide) ?_
                refine lv_icmp_eq (tgt := 119) zx zb dX11_beats_102 (by decide) (fun c_17 => ?_) (fun c_17 => ?_)
                · refine lv_iinc (v := (nI (k37 + 1))) (lv' := [(4, .int (nI (k37 + 1))), (5, .int r_16), (3, .int r_6), (0, .ref m0), (1, .int (nI j_1)), (2, .int (nI j_3))]) zx zb dX11_beats_119 hl (k := 1) rfl (nI_add k37 1) (by decide) rfl (fun ls hl => ?_)
                  refine lv_goto (tgt := 37) zx zb dX11_beats_122 (by decide) ?_
                  have G : wd X (va_A (@HAppend.hAppend va_W va_W va_W _ (mW m0 ma la lb n t v) (@HAppend.hAppend va_W va_W va_W _ ([((ma 0), .inl (X.2.1, 371, .inl fa))]) (@HAppend.hAppend va_W va_W va_W _ ([((ma 6), .inl (X.2.1, 55, .inl fh))]) ([((ma 3), .inl (X.2.1, 3, .inl fr))])))) sz) (va_A (@HAppend.hAppend va_W va_W va_W _ (mW m0 ma la lb n t v) (@HAppend.hAppend va_W va_W va_W _ ([((ma 0), .inl (X.2.1, 371, .inl fa))]) (@HAppend.hAppend va_W va_W va_W _ ([((ma 6), .inl (X.2.1, 55, .inl fh))]) ([((ma 3), .inl (X.2.1, 3, .inl fr))])))) sz) s (@HAppend.hAppend va_W va_W va_W _ ([((ma 3), .inl (X.2.1, 3, .inl fr))]) (@HAppend.hAppend va_W va_W va_W _ (mW m0 ma la lb n t v) (@HAppend.hAppend va_W va_W va_W _ ([((ma 0), .inl (X.2.1, 371, .inl fa))]) ([((ma 6), .inl (X.2.1, 55, .inl f_16))])))) H locs := wd_sub G [0, 2, 1, 3] rfl rfl
                  have hl := lv_sub hl (l' := [(4, .int (nI (k37 + 1))), (3, .int r_6), (0, .ref m0), (1, .int (nI j_1)), (2, .int (nI j_3))]) [0, 2, 3, 4, 5] rfl
                  exact ih37 (k37 + 1) f_16 c0_10b c1_10c c2_10d c3_10e c4_10f _ _ _ (by omega) hI_f_16 (by omega) G hl
                · refine lv_iload_n zx zb dX11_beats_105 rfl (lv_at hl 2 rfl) ?_
                  refine lv_iconst (v := (-1)) zx zb dX11_beats_106 (by decide) ?_
                  refine lv_icmp_eq (tgt := 116) zx zb dX11_beats_107 (by decide) (fun c_18 => ?_) (fun c_18 => ?_)
                  · refine lv_iload zx zb dX11_beats_116 (lv_at hl 1 rfl) ?_
                    exact e_int S zr zlk (vp_nar_int _) G (f_16, c0_10b, c1_10c, c2_10d, c3_10e, c4_10f, fr) [2, 1, 3, 0] rfl rfl (Or.inr rfl) (⟨hI_f_16, trivial⟩) dX11_beats_118
                  · refine lv_iload zx zb dX11_beats_110 (lv_at hl 0 rfl) ?_
                    refine lv_iload_n zx zb dX11_beats_112 rfl (lv_at hl 2 rfl) ?_
                    refine lv_icmp_ge (tgt := 119) zx zb dX11_beats_113 (by decide) (fun c_19 => ?_) (fun c_19 => ?_)
                    · refine lv_iinc (v := (nI (k37 + 1))) (lv' := [(4, .int (nI (k37 + 1))), (5, .int r_16), (3, .int r_6), (0, .ref m0), (1, .int (nI j_1)), (2, .int (nI j_3))]) zx zb dX11_beats_119 hl (k := 1) rfl (nI_add k37 1) (by decide) rfl (fun ls hl => ?_)
                      refine lv_goto (tgt := 37) zx zb dX11_beats_122 (by decide) ?_
                      have G : wd X (va_A (@HAppend.hAppend va_W va_W va_W _ (mW m0 ma la lb n t v) (@HAppend.hAppend va_W va_W va_W _ ([((ma 0), .inl (X.2.1, 371, .inl fa))]) (@HAppend.hAppend va_W va_W va_W _ ([((ma 6), .inl (X.2.1, 55, .inl fh))]) ([((ma 3), .inl (X.2.1, 3, .inl fr))])))) sz) (va_A (@HAppend.hAppend va_W va_W va_W _ (mW m0 ma la lb n t v) (@HAppend.hAppend va_W va_W va_W _ ([((ma 0), .inl (X.2.1, 371, .inl fa))]) (@HAppend.hAppend va_W va_W va_W _ ([((ma 6), .inl (X.2.1, 55, .inl fh))]) ([((ma 3), .inl (X.2.1, 3, .inl fr))])))) sz) s (@HAppend.hAppend va_W va_W va_W _ ([((ma 3), .inl (X.2.1, 3, .inl fr))]) (@HAppend.hAppend va_W va_W va_W _ (mW m0 ma la lb n t v) (@HAppend.hAppend va_W va_W va_W _ ([((ma 0), .inl (X.2.1, 371, .inl fa))]) ([((ma 6), .inl (X.2.1, 55, .inl f_16))])))) H locs := wd_sub G [0, 2, 1, 3] rfl rfl
                      have hl := lv_sub hl (l' := [(4, .int (nI (k37 + 1))), (3, .int r_6), (0, .ref m0), (1, .int (nI j_1)), (2, .int (nI j_3))]) [0, 2, 3, 4, 5] rfl
                      exact ih37 (k37 + 1) f_16 c0_10b c1_10c c2_10d c3_10e c4_10f _ _ _ (by omega) hI_f_16 (by omega) G hl
                    · refine lv_iload zx zb dX11_beats_116 (lv_at hl 1 rfl) ?_
                      exact e_int S zr zlk (vp_nar_int _) G (f_16, c0_10b, c1_10c, c2_10d, c3_10e, c4_10f, fr) [2, 1, 3, 0] rfl rfl (Or.inr rfl) (⟨hI_f_16, trivial⟩) dX11_beats_118
      · have fc_5 := j_eq (a := j_1) (b := j_3) (by omega) (by omega) c_5
        refine lv_aload_n zx zb dX11_beats_21 rfl (lv_at hl 0 rfl) ?_
        refine lv_bipush (v := (-2)) zx zb dX11_beats_22 (by decide) ?_
        refine b_wi (cells' := 0) (slots' := 0) (wr := @HAppend.hAppend va_W va_W va_W _ ([((ma 0), .inl (X.2.1, 371, .inl fa))]) ([((ma 6), .inl (X.2.1, 55, .inl fh))])) G rfl rfl [0, 3] [1, 2] rfl rfl rfl rfl (n_V (As := [.int (-2)]) (rest := []) (C := RX11) (T := TX11) (N := 18) (ci := 9) S G (m_bad l X m0 ma la lb n t v fr (-2) hI_n hI_t H.size) gX11_beats_X11_bad rfl rfl rfl hdV_X11_bad ⟨Nat.le_of_ble_eq_true rfl, Nat.le_of_ble_eq_true rfl⟩ [0, 3] rfl rfl 0 rfl rfl rfl hl.1 (Nat.le_of_ble_eq_true rfl) dX11_beats_24 ⟨Nat.le_of_ble_eq_true rfl, Nat.le_of_ble_eq_true rfl⟩) (fun r_20 u_20 H locs hp_20 G => ?_)
        obtain ⟨f_20, rfl⟩ : ∃ z, z = u_20 := ⟨_, rfl⟩
        have hq_20 := hp_20
        have G : wd X (va_A (@HAppend.hAppend va_W va_W va_W _ (mW m0 ma la lb n t v) (@HAppend.hAppend va_W va_W va_W _ ([((ma 0), .inl (X.2.1, 371, .inl fa))]) (@HAppend.hAppend va_W va_W va_W _ ([((ma 6), .inl (X.2.1, 55, .inl fh))]) ([((ma 3), .inl (X.2.1, 3, .inl fr))])))) sz) (va_A (@HAppend.hAppend va_W va_W va_W _ (mW m0 ma la lb n t v) (@HAppend.hAppend va_W va_W va_W _ ([((ma 0), .inl (X.2.1, 371, .inl fa))]) (@HAppend.hAppend va_W va_W va_W _ ([((ma 6), .inl (X.2.1, 55, .inl fh))]) ([((ma 3), .inl (X.2.1, 3, .inl fr))])))) sz) s (@HAppend.hAppend va_W va_W va_W _ ([((ma 0), .inl (X.2.1, 371, .inl fa))]) (@HAppend.hAppend va_W va_W va_W _ ([((ma 6), .inl (X.2.1, 55, .inl fh))]) (@HAppend.hAppend va_W va_W va_W _ (mW m0 ma la lb n t v) ([((ma 3), .inl (X.2.1, 3, .inl f_20))])))) H locs := G
        obtain rfl := hq_20
        exact e_int S zr zlk (vp_nar_int _) G (fh, d0, d1, d2, d3, d4, f_20) [2, 0, 1, 3] rfl rfl (Or.inr rfl) (⟨hI_fh, trivial⟩) dX11_beats_27
    · refine lv_if_eq (tgt := 21) zx zb dX11_beats_13 (by decide) (fun c_21 => ?_) (fun c_21 => absurd (by decide) c_21)
      refine lv_aload_n zx zb dX11_beats_21 rfl (lv_at hl 0 rfl) ?_
      refine lv_bipush (v := (-2)) zx zb dX11_beats_22 (by decide) ?_
      refine b_wi (cells' := 0) (slots' := 0) (wr := @HAppend.hAppend va_W va_W va_W _ ([((ma 0), .inl (X.2.1, 371, .inl fa))]) ([((ma 6), .inl (X.2.1, 55, .inl fh))])) G rfl rfl [0, 3] [1, 2] rfl rfl rfl rfl (n_V (As := [.int (-2)]) (rest := []) (C := RX11) (T := TX11) (N := 18) (ci := 9) S G (m_bad l X m0 ma la lb n t v fr (-2) hI_n hI_t H.size) gX11_beats_X11_bad rfl rfl rfl hdV_X11_bad ⟨Nat.le_of_ble_eq_true rfl, Nat.le_of_ble_eq_true rfl⟩ [0, 3] rfl rfl 0 rfl rfl rfl hl.1 (Nat.le_of_ble_eq_true rfl) dX11_beats_24 ⟨Nat.le_of_ble_eq_true rfl, Nat.le_of_ble_eq_true rfl⟩) (fun r_22 u_22 H locs hp_22 G => ?_)
      obtain ⟨f_22, rfl⟩ : ∃ z, z = u_22 := ⟨_, rfl⟩
      have hq_22 := hp_22
      have G : wd X (va_A (@HAppend.hAppend va_W va_W va_W _ (mW m0 ma la lb n t v) (@HAppend.hAppend va_W va_W va_W _ ([((ma 0), .inl (X.2.1, 371, .inl fa))]) (@HAppend.hAppend va_W va_W va_W _ ([((ma 6), .inl (X.2.1, 55, .inl fh))]) ([((ma 3), .inl (X.2.1, 3, .inl fr))])))) sz) (va_A (@HAppend.hAppend va_W va_W va_W _ (mW m0 ma la lb n t v) (@HAppend.hAppend va_W va_W va_W _ ([((ma 0), .inl (X.2.1, 371, .inl fa))]) (@HAppend.hAppend va_W va_W va_W _ ([((ma 6), .inl (X.2.1, 55, .inl fh))]) ([((ma 3), .inl (X.2.1, 3, .inl fr))])))) sz) s (@HAppend.hAppend va_W va_W va_W _ ([((ma 0), .inl (X.2.1, 371, .inl fa))]) (@HAppend.hAppend va_W va_W va_W _ ([((ma 6), .inl (X.2.1, 55, .inl fh))]) (@HAppend.hAppend va_W va_W va_W _ (mW m0 ma la lb n t v) ([((ma 3), .inl (X.2.1, 3, .inl f_22))])))) H locs := G
      obtain rfl := hq_22
      exact e_int S zr zlk (vp_nar_int _) G (fh, d0, d1, d2, d3, d4, f_22) [2, 0, 1, 3] rfl rfl (Or.inr rfl) (⟨hI_fh, trivial⟩) dX11_beats_27
  · refine lv_if_eq (tgt := 21) zx zb dX11_beats_5 (by decide) (fun c_23 => ?_) (fun c_23 => absurd (by decide) c_23)
    refine lv_aload_n zx zb dX11_beats_21 rfl (lv_at hl 0 rfl) ?_
    refine lv_bipush (v := (-2)) zx zb dX11_beats_22 (by decide) ?_
    refine b_wi (cells' := 0) (slots' := 0) (wr := @HAppend.hAppend va_W va_W va_W _ ([((ma 0), .inl (X.2.1, 371, .inl fa))]) ([((ma 6), .inl (X.2.1, 55, .inl fh))])) G rfl rfl [0, 3] [1, 2] rfl rfl rfl rfl (n_V (As := [.int (-2)]) (rest := []) (C := RX11) (T := TX11) (N := 18) (ci := 9) S G (m_bad l X m0 ma la lb n t v fr (-2) hI_n hI_t H.size) gX11_beats_X11_bad rfl rfl rfl hdV_X11_bad ⟨Nat.le_of_ble_eq_true rfl, Nat.le_of_ble_eq_true rfl⟩ [0, 3] rfl rfl 0 rfl rfl rfl hl.1 (Nat.le_of_ble_eq_true rfl) dX11_beats_24 ⟨Nat.le_of_ble_eq_true rfl, Nat.le_of_ble_eq_true rfl⟩) (fun r_24 u_24 H locs hp_24 G => ?_)
    obtain ⟨f_24, rfl⟩ : ∃ z, z = u_24 := ⟨_, rfl⟩
    have hq_24 := hp_24
    have G : wd X (va_A (@HAppend.hAppend va_W va_W va_W _ (mW m0 ma la lb n t v) (@HAppend.hAppend va_W va_W va_W _ ([((ma 0), .inl (X.2.1, 371, .inl fa))]) (@HAppend.hAppend va_W va_W va_W _ ([((ma 6), .inl (X.2.1, 55, .inl fh))]) ([((ma 3), .inl (X.2.1, 3, .inl fr))])))) sz) (va_A (@HAppend.hAppend va_W va_W va_W _ (mW m0 ma la lb n t v) (@HAppend.hAppend va_W va_W va_W _ ([((ma 0), .inl (X.2.1, 371, .inl fa))]) (@HAppend.hAppend va_W va_W va_W _ ([((ma 6), .inl (X.2.1, 55, .inl fh))]) ([((ma 3), .inl (X.2.1, 3, .inl fr))])))) sz) s (@HAppend.hAppend va_W va_W va_W _ ([((ma 0), .inl (X.2.1, 371, .inl fa))]) (@HAppend.hAppend va_W va_W va_W _ ([((ma 6), .inl (X.2.1, 55, .inl fh))]) (@HAppend.hAppend va_W va_W va_W _ (mW m0 ma la lb n t v) ([((ma 3), .inl (X.2.1, 3, .inl f_24))])))) H locs := G
    obtain rfl := hq_24
    exact e_int S zr zlk (vp_nar_int _) G (fh, d0, d1, d2, d3, d4, f_24) [2, 0, 1, 3] rfl rfl (Or.inr rfl) (⟨hI_fh, trivial⟩) dX11_beats_27
theorem mm_X11_close_c150 : Cond.constant RX11 150 (1000000) ∈ wsX11_close := by decide +kernel
theorem in_X11_close_X11 : ∀ w ∈ wsX110, w ∈ wsX11_close := by decide +kernel
theorem lk_X11_close_27 : Cond.fieldLink RX11 27 "EggSpoonsModel" "hand" "[I" ∈ wsX11_close := by decide +kernel
set_option maxHeartbeats 4000000 in
set_option maxRecDepth 100000 in
/-- close -/
theorem m_close (l : Launch) (X : EX) (m0 : Nat) (ma : Nat → Nat) (la : Int64) (lb : Int64) (n : Nat) (t : Nat → Nat) (v : Nat → Int32) (fa : Nat → Int32) (c0 : Nat) (c1 : Nat) (c2 : Nat) (c3 : Nat) (c4 : Nat) (fh : Nat → Int32) (d0 : Nat) (d1 : Nat) (d2 : Nat) (d3 : Nat) (d4 : Nat) (fr : Nat → Int32) (x1 : Int32) (x2 : Int32) (x3 : Int32) (hI_n : n ≤ 150) (hI_t : InT t) (hI_fa : InA fa c0 c1 c2 c3 c4) (hI_fh : InA fh d0 d1 d2 d3 d4) (sz : Nat) : Met l yX11_close wsX11_close ({ frames := 4, cells := 0, slots := 0, locals := 93 } : Room) (pE X [.ref m0, .int x1, .int x2, .int x3] (@HAppend.hAppend va_W va_W va_W _ (mW m0 ma la lb n t v) (@HAppend.hAppend va_W va_W va_W _ ([((ma 0), .inl (X.2.1, 371, .inl fa))]) (@HAppend.hAppend va_W va_W va_W _ ([((ma 6), .inl (X.2.1, 55, .inl fh))]) ([((ma 3), .inl (X.2.1, 3, .inl fr))])))) sz) (qI (fun (r : Int32) (u : (Nat → Int32) × (Nat) × (Nat) × (Nat) × (Nat) × (Nat) × (Nat → Int32)) => InA u.1 u.2.1 u.2.2.1 u.2.2.2.1 u.2.2.2.2.1 u.2.2.2.2.2.1 ∧ (True)) X (fun (u : (Nat → Int32) × (Nat) × (Nat) × (Nat) × (Nat) × (Nat) × (Nat → Int32)) => @HAppend.hAppend va_W va_W va_W _ (mW m0 ma la lb n t v) (@HAppend.hAppend va_W va_W va_W _ ([((ma 0), .inl (X.2.1, 371, .inl fa))]) (@HAppend.hAppend va_W va_W va_W _ ([((ma 6), .inl (X.2.1, 55, .inl u.1))]) ([((ma 3), .inl (X.2.1, 3, .inl u.2.2.2.2.2.2))])))) (@HAppend.hAppend va_W va_W va_W _ (mW m0 ma la lb n t v) (@HAppend.hAppend va_W va_W va_W _ ([((ma 0), .inl (X.2.1, 371, .inl fa))]) (@HAppend.hAppend va_W va_W va_W _ ([((ma 6), .inl (X.2.1, 55, .inl fh))]) ([((ma 3), .inl (X.2.1, 3, .inl fr))])))) sz) 0 0 (va_A (@HAppend.hAppend va_W va_W va_W _ (mW m0 ma la lb n t v) (@HAppend.hAppend va_W va_W va_W _ ([((ma 0), .inl (X.2.1, 371, .inl fa))]) (@HAppend.hAppend va_W va_W va_W _ ([((ma 6), .inl (X.2.1, 55, .inl fh))]) ([((ma 3), .inl (X.2.1, 3, .inl fr))])))) sz) := by
  refine mk_met (B := (va_A (@HAppend.hAppend va_W va_W va_W _ (mW m0 ma la lb n t v) (@HAppend.hAppend va_W va_W va_W _ ([((ma 0), .inl (X.2.1, 371, .inl fa))]) (@HAppend.hAppend va_W va_W va_W _ ([((ma 6), .inl (X.2.1, 55, .inl fh))]) ([((ma 3), .inl (X.2.1, 3, .inl fr))])))) sz)) (A := (va_A (@HAppend.hAppend va_W va_W va_W _ (mW m0 ma la lb n t v) (@HAppend.hAppend va_W va_W va_W _ ([((ma 0), .inl (X.2.1, 371, .inl fa))]) (@HAppend.hAppend va_W va_W va_W _ ([((ma 6), .inl (X.2.1, 55, .inl fh))]) ([((ma 3), .inl (X.2.1, 3, .inl fr))])))) sz)) (cc := cX11_close) (maxL := 8) (ret := (some .int)) (by decide) rfl (Nat.le_of_ble_eq_true rfl) k_w k_a (fun p e s m below meth c S zr zlk znm zsz G ls hl => ?_)
  have S : CallFix p m c cX11_close 8 s _ wsX11_close RX11 := S
  have zx := S.1
  have zb := S.2.1
  have hl : lv_has ls 8 [(0, .ref m0), (1, .int x1), (2, .int x2), (3, .int x3)] := hl
  have hO_t := hI_t
  obtain ⟨ht0_t, ht1_t⟩ := hO_t
  have hO_fa := hI_fa.2
  obtain ⟨hm0_fa, hm1_fa, hm2_fa, hm3_fa, hm4_fa⟩ := hO_fa
  have hO_fh := hI_fh.2
  obtain ⟨hm0_fh, hm1_fh, hm2_fh, hm3_fh, hm4_fh⟩ := hO_fh
  refine lv_aload_n zx zb dX11_close_0 rfl (lv_at hl 0 rfl) ?_
  refine lv_iload_n zx zb dX11_close_1 rfl (lv_at hl 1 rfl) ?_
  refine o_ri (cells' := 0) (slots' := 0) G rfl rfl (n_V (As := [.int x1]) (rest := []) (C := RX11) (T := TX11) (N := 18) (ci := 9) S G (m_isOne l X m0 ma la lb n t v fa c0 c1 c2 c3 c4 x1 hI_n hI_t hI_fa s.heap.size) gX11_close_X11_isOne rfl rfl rfl hdV_X11_isOne ⟨Nat.le_of_ble_eq_true rfl, Nat.le_of_ble_eq_true rfl⟩ [0, 1] rfl rfl 0 rfl rfl rfl hl.1 (Nat.le_of_ble_eq_true rfl) dX11_close_2 ⟨Nat.le_of_ble_eq_true rfl, Nat.le_of_ble_eq_true rfl⟩) (fun r_1 u_1 H locs hp_1 G => ?_)
  have G : wd X (va_A (@HAppend.hAppend va_W va_W va_W _ (mW m0 ma la lb n t v) (@HAppend.hAppend va_W va_W va_W _ ([((ma 0), .inl (X.2.1, 371, .inl fa))]) (@HAppend.hAppend va_W va_W va_W _ ([((ma 6), .inl (X.2.1, 55, .inl fh))]) ([((ma 3), .inl (X.2.1, 3, .inl fr))])))) sz) (va_A (@HAppend.hAppend va_W va_W va_W _ (mW m0 ma la lb n t v) (@HAppend.hAppend va_W va_W va_W _ ([((ma 0), .inl (X.2.1, 371, .inl fa))]) (@HAppend.hAppend va_W va_W va_W _ ([((ma 6), .inl (X.2.1, 55, .inl fh))]) ([((ma 3), .inl (X.2.1, 3, .inl fr))])))) sz) s (@HAppend.hAppend va_W va_W va_W _ (mW m0 ma la lb n t v) (@HAppend.hAppend va_W va_W va_W _ ([((ma 0), .inl (X.2.1, 371, .inl fa))]) (@HAppend.hAppend va_W va_W va_W _ ([((ma 6), .inl (X.2.1, 55, .inl fh))]) ([((ma 3), .inl (X.2.1, 3, .inl fr))])))) H locs := G
  rcases hp_1 with ⟨rfl, hj_1⟩ | ⟨rfl, hj_1⟩
  · obtain ⟨j_1, hj_1, rfl⟩ := hj_1
    refine lv_if_eq (tgt := 31) zx zb dX11_close_5 (by decide) (fun c_2 => absurd c_2 (by decide)) (fun c_2 => ?_)
    refine lv_aload_n zx zb dX11_close_8 rfl (lv_at hl 0 rfl) ?_
    refine lv_iload_n zx zb dX11_close_9 rfl (lv_at hl 2 rfl) ?_
    refine o_ri (cells' := 0) (slots' := 0) G rfl rfl (n_V (As := [.int x2]) (rest := []) (C := RX11) (T := TX11) (N := 18) (ci := 9) S G (m_isOne l X m0 ma la lb n t v fa c0 c1 c2 c3 c4 x2 hI_n hI_t hI_fa H.size) gX11_close_X11_isOne rfl rfl rfl hdV_X11_isOne ⟨Nat.le_of_ble_eq_true rfl, Nat.le_of_ble_eq_true rfl⟩ [0, 1] rfl rfl 0 rfl rfl rfl hl.1 (Nat.le_of_ble_eq_true rfl) dX11_close_10 ⟨Nat.le_of_ble_eq_true rfl, Nat.le_of_ble_eq_true rfl⟩) (fun r_3 u_3 H locs hp_3 G => ?_)
    have G : wd X (va_A (@HAppend.hAppend va_W va_W va_W _ (mW m0 ma la lb n t v) (@HAppend.hAppend va_W va_W va_W _ ([((ma 0), .inl (X.2.1, 371, .inl fa))]) (@HAppend.hAppend va_W va_W va_W _ ([((ma 6), .inl (X.2.1, 55, .inl fh))]) ([((ma 3), .inl (X.2.1, 3, .inl fr))])))) sz) (va_A (@HAppend.hAppend va_W va_W va_W _ (mW m0 ma la lb n t v) (@HAppend.hAppend va_W va_W va_W _ ([((ma 0), .inl (X.2.1, 371, .inl fa))]) (@HAppend.hAppend va_W va_W va_W _ ([((ma 6), .inl (X.2.1, 55, .inl fh))]) ([((ma 3), .inl (X.2.1, 3, .inl fr))])))) sz) s (@HAppend.hAppend va_W va_W va_W _ (mW m0 ma la lb n t v) (@HAppend.hAppend va_W va_W va_W _ ([((ma 0), .inl (X.2.1, 371, .inl fa))]) (@HAppend.hAppend va_W va_W va_W _ ([((ma 6), .inl (X.2.1, 55, .inl fh))]) ([((ma 3), .inl (X.2.1, 3, .inl fr))])))) H locs := G
    rcases hp_3 with ⟨rfl, hj_3⟩ | ⟨rfl, hj_3⟩
    · obtain ⟨j_3, hj_3, rfl⟩ := hj_3
      refine lv_if_eq (tgt := 31) zx zb dX11_close_13 (by decide) (fun c_4 => absurd c_4 (by decide)) (fun c_4 => ?_)
      refine lv_iload_n zx zb dX11_close_16 rfl (lv_at hl 1 rfl) ?_
      refine lv_iload_n zx zb dX11_close_17 rfl (lv_at hl 2 rfl) ?_
      refine lv_icmp_eq (tgt := 31) zx zb dX11_close_18 (by decide) (fun c_5 => ?_) (fun c_5 => ?_)
      · have fc_5 := j_eq (a := j_1) (b := j_3) (by omega) (by omega) c_5
        refine lv_aload_n zx zb dX11_close_31 rfl (lv_at hl 0 rfl) ?_
        refine lv_bipush (v := (-2)) zx zb dX11_close_32 (by decide) ?_
        refine b_wi (cells' := 0) (slots' := 0) (wr := @HAppend.hAppend va_W va_W va_W _ ([((ma 0), .inl (X.2.1, 371, .inl fa))]) ([((ma 6), .inl (X.2.1, 55, .inl fh))])) G rfl rfl [0, 3] [1, 2] rfl rfl rfl rfl (n_V (As := [.int (-2)]) (rest := []) (C := RX11) (T := TX11) (N := 18) (ci := 9) S G (m_bad l X m0 ma la lb n t v fr (-2) hI_n hI_t H.size) gX11_close_X11_bad rfl rfl rfl hdV_X11_bad ⟨Nat.le_of_ble_eq_true rfl, Nat.le_of_ble_eq_true rfl⟩ [0, 3] rfl rfl 0 rfl rfl rfl hl.1 (Nat.le_of_ble_eq_true rfl) dX11_close_34 ⟨Nat.le_of_ble_eq_true rfl, Nat.le_of_ble_eq_true rfl⟩) (fun r_6 u_6 H locs hp_6 G => ?_)
        obtain ⟨f_6, rfl⟩ : ∃ z, z = u_6 := ⟨_, rfl⟩
        have hq_6 := hp_6
        have G : wd X (va_A (@HAppend.hAppend va_W va_W va_W _ (mW m0 ma la lb n t v) (@HAppend.hAppend va_W va_W va_W _ ([((ma 0), .inl (X.2.1, 371, .inl fa))]) (@HAppend.hAppend va_W va_W va_W _ ([((ma 6), .inl (X.2.1, 55, .inl fh))]) ([((ma 3), .inl (X.2.1, 3, .inl fr))])))) sz) (va_A (@HAppend.hAppend va_W va_W va_W _ (mW m0 ma la lb n t v) (@HAppend.hAppend va_W va_W va_W _ ([((ma 0), .inl (X.2.1, 371, .inl fa))]) (@HAppend.hAppend va_W va_W va_W _ ([((ma 6), .inl (X.2.1, 55, .inl fh))]) ([((ma 3), .inl (X.2.1, 3, .inl fr))])))) sz) s (@HAppend.hAppend va_W va_W va_W _ ([((ma 0), .inl (X.2.1, 371, .inl fa))]) (@HAppend.hAppend va_W va_W va_W _ ([((ma 6), .inl (X.2.1, 55, .inl fh))]) (@HAppend.hAppend va_W va_W va_W _ (mW m0 ma la lb n t v) ([((ma 3), .inl (X.2.1, 3, .inl f_6))])))) H locs := G
        obtain rfl := hq_6
        exact e_int S zr zlk (vp_nar_int _) G (fh, d0, d1, d2, d3, d4, f_6) [2, 0, 1, 3] rfl rfl (Or.inr rfl) (⟨hI_fh, trivial⟩) dX11_close_37
      · have fc_5 := j_ne (a := j_1) (b := j_3) c_5
        refine lv_iload_n zx zb dX11_close_21 rfl (lv_at hl 3 rfl) ?_
        refine lv_i2l (v := (Int32.toInt64 x3)) zx zb dX11_close_22 rfl ?_
        refine lv_lconst (v := (Int32.toInt64 0)) zx zb dX11_close_23 (by decide) ?_
        refine lv_lconst (v := (Int32.toInt64 1)) zx zb dX11_close_24 (by decide) ?_
        refine o_ri (cells' := 0) (slots' := 0) G rfl rfl (n_S (As := [.long (Int32.toInt64 x3), .long (Int32.toInt64 0), .long (Int32.toInt64 1)]) (rest := []) S G (m_in l X x3 0 1 H.size) gX11_close_X11_in rfl rfl rfl hdS_X11_in ⟨Nat.le_of_ble_eq_true rfl, Nat.le_of_ble_eq_true rfl⟩ [] rfl rfl rfl hl.1 (Nat.le_of_ble_eq_true rfl) dX11_close_25 ⟨Nat.le_of_ble_eq_true rfl, Nat.le_of_ble_eq_true rfl⟩) (fun r_7 u_7 H locs hp_7 G => ?_)
        have G : wd X (va_A (@HAppend.hAppend va_W va_W va_W _ (mW m0 ma la lb n t v) (@HAppend.hAppend va_W va_W va_W _ ([((ma 0), .inl (X.2.1, 371, .inl fa))]) (@HAppend.hAppend va_W va_W va_W _ ([((ma 6), .inl (X.2.1, 55, .inl fh))]) ([((ma 3), .inl (X.2.1, 3, .inl fr))])))) sz) (va_A (@HAppend.hAppend va_W va_W va_W _ (mW m0 ma la lb n t v) (@HAppend.hAppend va_W va_W va_W _ ([((ma 0), .inl (X.2.1, 371, .inl fa))]) (@HAppend.hAppend va_W va_W va_W _ ([((ma 6), .inl (X.2.1, 55, .inl fh))]) ([((ma 3), .inl (X.2.1, 3, .inl fr))])))) sz) s (@HAppend.hAppend va_W va_W va_W _ (mW m0 ma la lb n t v) (@HAppend.hAppend va_W va_W va_W _ ([((ma 0), .inl (X.2.1, 371, .inl fa))]) (@HAppend.hAppend va_W va_W va_W _ ([((ma 6), .inl (X.2.1, 55, .inl fh))]) ([((ma 3), .inl (X.2.1, 3, .inl fr))])))) H locs := G
        rcases hp_7 with ⟨rfl, hw_7⟩ | ⟨rfl, hw_7⟩
        · obtain ⟨j_7, ⟨ja_7, jb_7⟩, rfl⟩ := k_natR (a := 0) (b := 1) hw_7 rfl rfl (by decide) (by decide)
          refine lv_if_ne (tgt := 38) zx zb dX11_close_28 (by decide) (fun c_8 => ?_) (fun c_8 => absurd c_8 (by decide))
          refine lv_iconst (v := 0) zx zb dX11_close_38 (by decide) ?_
          refine lv_istore (lv' := [(4, .int 0), (0, .ref m0), (1, .int (nI j_1)), (2, .int (nI j_3)), (3, .int (nI j_7))]) zx zb dX11_close_39 hl (by decide) rfl (fun ls hl => ?_)
          refine lv_ldc zx zb S.2.2.2.1 (S.2.2.2.2 _ mm_X11_close_c150) dX11_close_41 ?_
          refine lv_istore (lv' := [(5, .int 1000000), (4, .int 0), (0, .ref m0), (1, .int (nI j_1)), (2, .int (nI j_3)), (3, .int (nI j_7))]) zx zb dX11_close_43 hl (by decide) rfl (fun ls hl => ?_)
          refine lv_aload_n zx zb dX11_close_45 rfl (lv_at hl 2 rfl) ?_
          refine b_wv (cells' := 0) (slots' := 0) (wr := [((ma 3), .inl (X.2.1, 3, .inl fr))]) G rfl rfl [0, 1, 2] [3] rfl rfl rfl rfl (n_V (As := []) (rest := []) (C := RX11) (T := TX11) (N := 18) (ci := 9) S G (m_layHand l X m0 ma la lb n t v fa c0 c1 c2 c3 c4 fh d0 d1 d2 d3 d4 hI_n hI_t hI_fa hI_fh H.size) gX11_close_X11_layHand rfl rfl rfl hdV_X11_layHand ⟨Nat.le_of_ble_eq_true rfl, Nat.le_of_ble_eq_true rfl⟩ [0, 1, 2] rfl rfl 0 rfl rfl rfl hl.1 (Nat.le_of_ble_eq_true rfl) dX11_close_46 ⟨Nat.le_of_ble_eq_true rfl, Nat.le_of_ble_eq_true rfl⟩) (fun u_9 H locs hp_9 G => ?_)
          obtain ⟨f_9a, c0_9b, c1_9c, c2_9d, c3_9e, c4_9f⟩ := u_9
          try dsimp only at hp_9
          obtain ⟨hI_f_9a, hq_9⟩ := hp_9
          have hO_f_9a := hI_f_9a.2
          obtain ⟨hm0_f_9a, hm1_f_9a, hm2_f_9a, hm3_f_9a, hm4_f_9a⟩ := hO_f_9a
          have G : wd X (va_A (@HAppend.hAppend va_W va_W va_W _ (mW m0 ma la lb n t v) (@HAppend.hAppend va_W va_W va_W _ ([((ma 0), .inl (X.2.1, 371, .inl fa))]) (@HAppend.hAppend va_W va_W va_W _ ([((ma 6), .inl (X.2.1, 55, .inl fh))]) ([((ma 3), .inl (X.2.1, 3, .inl fr))])))) sz) (va_A (@HAppend.hAppend va_W va_W va_W _ (mW m0 ma la lb n t v) (@HAppend.hAppend va_W va_W va_W _ ([((ma 0), .inl (X.2.1, 371, .inl fa))]) (@HAppend.hAppend va_W va_W va_W _ ([((ma 6), .inl (X.2.1, 55, .inl fh))]) ([((ma 3), .inl (X.2.1, 3, .inl fr))])))) sz) s (@HAppend.hAppend va_W va_W va_W _ ([((ma 3), .inl (X.2.1, 3, .inl fr))]) (@HAppend.hAppend va_W va_W va_W _ (mW m0 ma la lb n t v) (@HAppend.hAppend va_W va_W va_W _ ([((ma 0), .inl (X.2.1, 371, .inl fa))]) ([((ma 6), .inl (X.2.1, 55, .inl f_9a))])))) H locs := G
          refine lv_iconst (v := 0) zx zb dX11_close_49 (by decide) ?_
          refine lv_istore (lv' := [(6, .int 0), (5, .int 1000000), (4, .int 0), (0, .ref m0), (1, .int (nI j_1)), (2, .int (nI j_3)), (3, .int (nI j_7))]) zx zb dX11_close_50 hl (by decide) rfl (fun ls hl => ?_)
          refine k_loop (P := ∀ (zm : Nat) (k52 : Nat) (x52_5 : Int32) (x52_4 : Int32) (f52_3 : Nat → Int32) (H : Heap) (locs : List Loc) (ls : Array Slot), 61 + 1 ≤ k52 + zm → InA f52_3 c0_9b c1_9c c2_9d c3_9e c4_9f → (k52 ≤ 61) → wd X (va_A (@HAppend.hAppend va_W va_W va_W _ (mW m0 ma la lb n t v) (@HAppend.hAppend va_W va_W va_W _ ([((ma 0), .inl (X.2.1, 371, .inl fa))]) (@HAppend.hAppend va_W va_W va_W _ ([((ma 6), .inl (X.2.1, 55, .inl fh))]) ([((ma 3), .inl (X.2.1, 3, .inl fr))])))) sz) (va_A (@HAppend.hAppend va_W va_W va_W _ (mW m0 ma la lb n t v) (@HAppend.hAppend va_W va_W va_W _ ([((ma 0), .inl (X.2.1, 371, .inl fa))]) (@HAppend.hAppend va_W va_W va_W _ ([((ma 6), .inl (X.2.1, 55, .inl fh))]) ([((ma 3), .inl (X.2.1, 3, .inl fr))])))) sz) s (@HAppend.hAppend va_W va_W va_W _ ([((ma 3), .inl (X.2.1, 3, .inl fr))]) (@HAppend.hAppend va_W va_W va_W _ (mW m0 ma la lb n t v) (@HAppend.hAppend va_W va_W va_W _ ([((ma 0), .inl (X.2.1, 371, .inl fa))]) ([((ma 6), .inl (X.2.1, 55, .inl f52_3))])))) H locs → lv_has ls 8 [(6, .int (nI k52)), (5, .int x52_5), (4, .int x52_4), (0, .ref m0), (1, .int (nI j_1)), (2, .int (nI j_3)), (3, .int (nI j_7))] → W p l e _ s m _ below meth c H locs _ _ _ (F0 m 52 ls [])) (fun loop => loop (61 + 1) 0 1000000 0 f_9a _ _ _ (by omega) hI_f_9a (by omega) G hl) ?_
          intro zm
          induction zm with
          | zero => intro k52 x52_5 x52_4 f52_3 H locs ls zz q_hI_f52_3 q_hk_k52 _ _; exact absurd zz (by omega)
          | succ zm ih52 =>
            intro k52 x52_5 x52_4 f52_3 H locs ls zm_52 hI_f52_3 hk_k52 G hl
            refine lv_iload zx zb dX11_close_52 (lv_at hl 0 rfl) ?_
            refine lv_bipush (v := 60) zx zb dX11_close_54 (by decide) ?_
            refine lv_icmp_gt (tgt := 138) zx zb dX11_close_56 (by decide) (fun c_10 => ?_) (fun c_10 => ?_)
            · have fc_10 := j_lt (a := 60) (b := k52) (by omega) (by omega) c_10
              refine lv_iload_n zx zb dX11_close_138 rfl (lv_at hl 6 rfl) ?_
              refine k_cutW (PP := fun Wx => ∀ (x_12 : Int32) (H : Heap) (locs : List Loc) (ls : Array Slot), wd X (va_A (@HAppend.hAppend va_W va_W va_W _ (mW m0 ma la lb n t v) (@HAppend.hAppend va_W va_W va_W _ ([((ma 0), .inl (X.2.1, 371, .inl fa))]) (@HAppend.hAppend va_W va_W va_W _ ([((ma 6), .inl (X.2.1, 55, .inl fh))]) ([((ma 3), .inl (X.2.1, 3, .inl fr))])))) sz) (va_A (@HAppend.hAppend va_W va_W va_W _ (mW m0 ma la lb n t v) (@HAppend.hAppend va_W va_W va_W _ ([((ma 0), .inl (X.2.1, 371, .inl fa))]) (@HAppend.hAppend va_W va_W va_W _ ([((ma 6), .inl (X.2.1, 55, .inl fh))]) ([((ma 3), .inl (X.2.1, 3, .inl fr))])))) sz) s (@HAppend.hAppend va_W va_W va_W _ ([((ma 3), .inl (X.2.1, 3, .inl fr))]) (@HAppend.hAppend va_W va_W va_W _ (mW m0 ma la lb n t v) (@HAppend.hAppend va_W va_W va_W _ ([((ma 0), .inl (X.2.1, 371, .inl fa))]) ([((ma 6), .inl (X.2.1, 55, .inl f52_3))])))) H locs → lv_has ls 8 [(6, .int (nI k52)), (5, .int x52_5), (4, .int x52_4), (0, .ref m0), (1, .int (nI j_1)), (2, .int (nI j_3)), (3, .int (nI j_7))] → Wx (F0 m 149 ls [.int x_12]) H locs) ?_ ?_
              · intro join_139
                refine lv_if_ne (tgt := 147) zx zb dX11_close_139 (by decide) (fun c_11 => ?_) (fun c_11 => ?_)
                · have fc_11 := j_ne (a := j_7) (b := 0) c_11
                  refine lv_iload zx zb dX11_close_147 (lv_at hl 1 rfl) ?_
                  exact join_139 x52_5 _ _ _  G hl
                · have fc_11 := j_eq (a := j_7) (b := 0) (by omega) (by omega) c_11
                  refine lv_iload zx zb dX11_close_142 (lv_at hl 2 rfl) ?_
                  refine lv_goto (tgt := 149) zx zb dX11_close_144 (by decide) ?_
                  exact join_139 x52_4 _ _ _  G hl
              · intro x_12 H locs ls  G hl
                exact e_int S zr zlk (vp_nar_int _) G (f52_3, c0_9b, c1_9c, c2_9d, c3_9e, c4_9f, fr) [1, 2, 3, 0] rfl rfl (Or.inr rfl) (⟨hI_f52_3, trivial⟩) dX11_close_149
            · have fc_10 := j_nlt (a := 60) (b := k52) (by omega) (by omega) c_10
              refine lv_aload_n zx zb dX11_close_59 rfl (lv_at hl 3 rfl) ?_
              refine r_get (C := RX11) (T := TX11) (N := 18) (ci := 9) (v := .ref (ma 6)) S in_X11_close_X11 G 1 rfl rfl 6 (by decide) lk_X11_close_27 rfl dX11_close_60 ?_
              refine lv_iconst (v := 5) zx zb dX11_close_63 (by decide) ?_
              refine lv_iload_n zx zb dX11_close_64 rfl (lv_at hl 4 rfl) ?_
              refine r_iadd (v := (nI (5 + j_1))) S (nI_add 5 j_1) dX11_close_65 ?_
              refine r_iald S G 3 rfl (vp_in_nI (by omega) (by decide)) rfl dX11_close_66 ?_
              refine k_itE (fun y_13 => ?_)
              refine lv_aload_n zx zb dX11_close_67 rfl (lv_at hl 3 rfl) ?_
              refine r_get (C := RX11) (T := TX11) (N := 18) (ci := 9) (v := .ref (ma 6)) S in_X11_close_X11 G 1 rfl rfl 6 (by decide) lk_X11_close_27 rfl dX11_close_68 ?_
              refine lv_iconst (v := 5) zx zb dX11_close_71 (by decide) ?_
              refine lv_iload_n zx zb dX11_close_72 rfl (lv_at hl 5 rfl) ?_
              refine r_iadd (v := (nI (5 + j_3))) S (nI_add 5 j_3) dX11_close_73 ?_
              refine r_iald S G 3 rfl (vp_in_nI (by omega) (by decide)) rfl dX11_close_74 ?_
              refine k_itE (fun y_14 => ?_)
              refine r_isub (v := (y_13 - y_14)) S rfl dX11_close_75 ?_
              refine lv_istore (lv' := [(7, .int (y_13 - y_14)), (6, .int (nI k52)), (5, .int x52_5), (4, .int x52_4), (0, .ref m0), (1, .int (nI j_1)), (2, .int (nI j_3)), (3, .int (nI j_7))]) zx zb dX11_close_76 hl (by decide) rfl (fun ls hl => ?_)
              refine lv_iload zx zb dX11_close_78 (lv_at hl 0 rfl) ?_
              refine k_cutW (PP := fun Wx => ∀ (x_16 : Int32) (H : Heap) (locs : List Loc) (ls : Array Slot), wd X (va_A (@HAppend.hAppend va_W va_W va_W _ (mW m0 ma la lb n t v) (@HAppend.hAppend va_W va_W va_W _ ([((ma 0), .inl (X.2.1, 371, .inl fa))]) (@HAppend.hAppend va_W va_W va_W _ ([((ma 6), .inl (X.2.1, 55, .inl fh))]) ([((ma 3), .inl (X.2.1, 3, .inl fr))])))) sz) (va_A (@HAppend.hAppend va_W va_W va_W _ (mW m0 ma la lb n t v) (@HAppend.hAppend va_W va_W va_W _ ([((ma 0), .inl (X.2.1, 371, .inl fa))]) (@HAppend.hAppend va_W va_W va_W _ ([((ma 6), .inl (X.2.1, 55, .inl fh))]) ([((ma 3), .inl (X.2.1, 3, .inl fr))])))) sz) s (@HAppend.hAppend va_W va_W va_W _ ([((ma 3), .inl (X.2.1, 3, .inl fr))]) (@HAppend.hAppend va_W va_W va_W _ (mW m0 ma la lb n t v) (@HAppend.hAppend va_W va_W va_W _ ([((ma 0), .inl (X.2.1, 371, .inl fa))]) ([((ma 6), .inl (X.2.1, 55, .inl f52_3))])))) H locs → lv_has ls 8 [(7, .int (y_13 - y_14)), (6, .int (nI k52)), (5, .int x52_5), (4, .int x52_4), (0, .ref m0), (1, .int (nI j_1)), (2, .int (nI j_3)), (3, .int (nI j_7))] → Wx (F0 m 91 ls [.int x_16]) H locs) ?_ ?_
              · intro join_80
                refine lv_if_ge (tgt := 89) zx zb dX11_close_80 (by decide) (fun c_15 => ?_) (fun c_15 => ?_)
                · refine lv_iload zx zb dX11_close_89 (lv_at hl 0 rfl) ?_
                  exact join_80 (y_13 - y_14) _ _ _  G hl
                · refine lv_iload zx zb dX11_close_83 (lv_at hl 0 rfl) ?_
                  refine lv_ineg zx zb dX11_close_85 ?_
                  refine k_itE (fun y_17 => ?_)
                  refine lv_goto (tgt := 91) zx zb dX11_close_86 (by decide) ?_
                  exact join_80 y_17 _ _ _  G hl
              · intro x_16 H locs ls  G hl
                refine lv_istore (lv' := [(7, .int x_16), (6, .int (nI k52)), (5, .int x52_5), (4, .int x52_4), (0, .ref m0), (1, .int (nI j_1)), (2, .int (nI j_3)), (3, .int (nI j_7))]) zx zb dX11_close_91 hl (by decide) rfl (fun ls hl => ?_)
                refine lv_iload zx zb dX11_close_93 (lv_at hl 0 rfl) ?_
                refine lv_iload zx zb dX11_close_95 (lv_at hl 2 rfl) ?_
                refine k_cutW (PP := fun Wx => ∀ (x_19 : Int32) (H : Heap) (locs : List Loc) (ls : Array Slot), wd X (va_A (@HAppend.hAppend va_W va_W va_W _ (mW m0 ma la lb n t v) (@HAppend.hAppend va_W va_W va_W _ ([((ma 0), .inl (X.2.1, 371, .inl fa))]) (@HAppend.hAppend va_W va_W va_W _ ([((ma 6), .inl (X.2.1, 55, .inl fh))]) ([((ma 3), .inl (X.2.1, 3, .inl fr))])))) sz) (va_A (@HAppend.hAppend va_W va_W va_W _ (mW m0 ma la lb n t v) (@HAppend.hAppend va_W va_W va_W _ ([((ma 0), .inl (X.2.1, 371, .inl fa))]) (@HAppend.hAppend va_W va_W va_W _ ([((ma 6), .inl (X.2.1, 55, .inl fh))]) ([((ma 3), .inl (X.2.1, 3, .inl fr))])))) sz) s (@HAppend.hAppend va_W va_W va_W _ ([((ma 3), .inl (X.2.1, 3, .inl fr))]) (@HAppend.hAppend va_W va_W va_W _ (mW m0 ma la lb n t v) (@HAppend.hAppend va_W va_W va_W _ ([((ma 0), .inl (X.2.1, 371, .inl fa))]) ([((ma 6), .inl (X.2.1, 55, .inl f52_3))])))) H locs → lv_has ls 8 [(7, .int x_16), (6, .int (nI k52)), (5, .int x52_5), (4, .int x52_4), (0, .ref m0), (1, .int (nI j_1)), (2, .int (nI j_3)), (3, .int (nI j_7))] → Wx (F0 m 107 ls [.int x_19]) H locs) ?_ ?_
                · intro join_97
                  refine lv_icmp_ge (tgt := 105) zx zb dX11_close_97 (by decide) (fun c_18 => ?_) (fun c_18 => ?_)
                  · refine lv_iload zx zb dX11_close_105 (lv_at hl 3 rfl) ?_
                    exact join_97 x52_4 _ _ _  G hl
                  · refine lv_iload zx zb dX11_close_100 (lv_at hl 1 rfl) ?_
                    refine lv_goto (tgt := 107) zx zb dX11_close_102 (by decide) ?_
                    exact join_97 (nI k52) _ _ _  G hl
                · intro x_19 H locs ls  G hl
                  refine lv_istore (lv' := [(4, .int x_19), (7, .int x_16), (6, .int (nI k52)), (5, .int x52_5), (0, .ref m0), (1, .int (nI j_1)), (2, .int (nI j_3)), (3, .int (nI j_7))]) zx zb dX11_close_107 hl (by decide) rfl (fun ls hl => ?_)
                  refine lv_iload zx zb dX11_close_109 (lv_at hl 1 rfl) ?_
                  refine lv_iload zx zb dX11_close_111 (lv_at hl 3 rfl) ?_
                  refine k_cutW (PP := fun Wx => ∀ (x_21 : Int32) (H : Heap) (locs : List Loc) (ls : Array Slot), wd X (va_A (@HAppend.hAppend va_W va_W va_W _ (mW m0 ma la lb n t v) (@HAppend.hAppend va_W va_W va_W _ ([((ma 0), .inl (X.2.1, 371, .inl fa))]) (@HAppend.hAppend va_W va_W va_W _ ([((ma 6), .inl (X.2.1, 55, .inl fh))]) ([((ma 3), .inl (X.2.1, 3, .inl fr))])))) sz) (va_A (@HAppend.hAppend va_W va_W va_W _ (mW m0 ma la lb n t v) (@HAppend.hAppend va_W va_W va_W _ ([((ma 0), .inl (X.2.1, 371, .inl fa))]) (@HAppend.hAppend va_W va_W va_W _ ([((ma 6), .inl (X.2.1, 55, .inl fh))]) ([((ma 3), .inl (X.2.1, 3, .inl fr))])))) sz) s (@HAppend.hAppend va_W va_W va_W _ ([((ma 3), .inl (X.2.1, 3, .inl fr))]) (@HAppend.hAppend va_W va_W va_W _ (mW m0 ma la lb n t v) (@HAppend.hAppend va_W va_W va_W _ ([((ma 0), .inl (X.2.1, 371, .inl fa))]) ([((ma 6), .inl (X.2.1, 55, .inl f52_3))])))) H locs → lv_has ls 8 [(4, .int x_19), (7, .int x_16), (6, .int (nI k52)), (5, .int x52_5), (0, .ref m0), (1, .int (nI j_1)), (2, .int (nI j_3)), (3, .int (nI j_7))] → Wx (F0 m 123 ls [.int x_21]) H locs) ?_ ?_
                  · intro join_113
                    refine lv_icmp_ge (tgt := 121) zx zb dX11_close_113 (by decide) (fun c_20 => ?_) (fun c_20 => ?_)
                    · refine lv_iload zx zb dX11_close_121 (lv_at hl 3 rfl) ?_
                      exact join_113 x52_5 _ _ _  G hl
                    · refine lv_iload zx zb dX11_close_116 (lv_at hl 1 rfl) ?_
                      refine lv_goto (tgt := 123) zx zb dX11_close_118 (by decide) ?_
                      exact join_113 x_16 _ _ _  G hl
                  · intro x_21 H locs ls  G hl
                    refine lv_istore (lv' := [(5, .int x_21), (4, .int x_19), (7, .int x_16), (6, .int (nI k52)), (0, .ref m0), (1, .int (nI j_1)), (2, .int (nI j_3)), (3, .int (nI j_7))]) zx zb dX11_close_123 hl (by decide) rfl (fun ls hl => ?_)
                    refine lv_aload_n zx zb dX11_close_125 rfl (lv_at hl 4 rfl) ?_
                    refine r_get (C := RX11) (T := TX11) (N := 18) (ci := 9) (v := .ref (ma 6)) S in_X11_close_X11 G 1 rfl rfl 6 (by decide) lk_X11_close_27 rfl dX11_close_126 ?_
                    refine b_wv (cells' := 0) (slots' := 0) (wr := @HAppend.hAppend va_W va_W va_W _ ([((ma 3), .inl (X.2.1, 3, .inl fr))]) (@HAppend.hAppend va_W va_W va_W _ (mW m0 ma la lb n t v) ([((ma 0), .inl (X.2.1, 371, .inl fa))]))) G rfl rfl [3] [0, 1, 2] rfl rfl rfl rfl (n_S (As := [.ref (ma 6)]) (rest := []) S G (m_goTick l X (ma 6) 55 f52_3 c0_9b c1_9c c2_9d c3_9e c4_9f hI_f52_3 (by omega) (by omega) H.size) gX11_close_X11_goTick rfl rfl rfl hdS_X11_goTick ⟨Nat.le_of_ble_eq_true rfl, Nat.le_of_ble_eq_true rfl⟩ [3] rfl rfl rfl hl.1 (Nat.le_of_ble_eq_true rfl) dX11_close_129 ⟨Nat.le_of_ble_eq_true rfl, Nat.le_of_ble_eq_true rfl⟩) (fun u_22 H locs hp_22 G => ?_)
                    obtain ⟨f_22, rfl⟩ : ∃ z, z = u_22 := ⟨_, rfl⟩
                    obtain ⟨hI_f_22, hq_22⟩ := hp_22
                    have G : wd X (va_A (@HAppend.hAppend va_W va_W va_W _ (mW m0 ma la lb n t v) (@HAppend.hAppend va_W va_W va_W _ ([((ma 0), .inl (X.2.1, 371, .inl fa))]) (@HAppend.hAppend va_W va_W va_W _ ([((ma 6), .inl (X.2.1, 55, .inl fh))]) ([((ma 3), .inl (X.2.1, 3, .inl fr))])))) sz) (va_A (@HAppend.hAppend va_W va_W va_W _ (mW m0 ma la lb n t v) (@HAppend.hAppend va_W va_W va_W _ ([((ma 0), .inl (X.2.1, 371, .inl fa))]) (@HAppend.hAppend va_W va_W va_W _ ([((ma 6), .inl (X.2.1, 55, .inl fh))]) ([((ma 3), .inl (X.2.1, 3, .inl fr))])))) sz) s (@HAppend.hAppend va_W va_W va_W _ ([((ma 3), .inl (X.2.1, 3, .inl fr))]) (@HAppend.hAppend va_W va_W va_W _ (mW m0 ma la lb n t v) (@HAppend.hAppend va_W va_W va_W _ ([((ma 0), .inl (X.2.1, 371, .inl fa))]) ([((ma 6), .inl (X.2.1, 55, .inl f_22))])))) H locs := G
                    refine lv_iinc (v := (nI (k52 + 1))) (lv' := [(6, .int (nI (k52 + 1))), (5, .int x_21), (4, .int x_19), (7, .int x_16), (0, .ref m0), (1, .int (nI j_1)), (2, .int (nI j_3)), (3, .int (nI j_7))]) zx zb dX11_close_132 hl (k := 3) rfl (nI_add k52 1) (by decide) rfl (fun ls hl => ?_)
                    refine lv_goto (tgt := 52) zx zb dX11_close_135 (by decide) ?_
                    have hl := lv_sub hl (l' := [(6, .int (nI (k52 + 1))), (5, .int x_21), (4, .int x_19), (0, .ref m0), (1, .int (nI j_1)), (2, .int (nI j_3)), (3, .int (nI j_7))]) [0, 1, 2, 4, 5, 6, 7] rfl
                    exact ih52 (k52 + 1) x_21 x_19 f_22 _ _ _ (by omega) hI_f_22 (by omega) G hl
        · refine lv_if_ne (tgt := 38) zx zb dX11_close_28 (by decide) (fun c_23 => absurd (by decide) c_23) (fun c_23 => ?_)
          refine lv_aload_n zx zb dX11_close_31 rfl (lv_at hl 0 rfl) ?_
          refine lv_bipush (v := (-2)) zx zb dX11_close_32 (by decide) ?_
          refine b_wi (cells' := 0) (slots' := 0) (wr := @HAppend.hAppend va_W va_W va_W _ ([((ma 0), .inl (X.2.1, 371, .inl fa))]) ([((ma 6), .inl (X.2.1, 55, .inl fh))])) G rfl rfl [0, 3] [1, 2] rfl rfl rfl rfl (n_V (As := [.int (-2)]) (rest := []) (C := RX11) (T := TX11) (N := 18) (ci := 9) S G (m_bad l X m0 ma la lb n t v fr (-2) hI_n hI_t H.size) gX11_close_X11_bad rfl rfl rfl hdV_X11_bad ⟨Nat.le_of_ble_eq_true rfl, Nat.le_of_ble_eq_true rfl⟩ [0, 3] rfl rfl 0 rfl rfl rfl hl.1 (Nat.le_of_ble_eq_true rfl) dX11_close_34 ⟨Nat.le_of_ble_eq_true rfl, Nat.le_of_ble_eq_true rfl⟩) (fun r_24 u_24 H locs hp_24 G => ?_)
          obtain ⟨f_24, rfl⟩ : ∃ z, z = u_24 := ⟨_, rfl⟩
          have hq_24 := hp_24
          have G : wd X (va_A (@HAppend.hAppend va_W va_W va_W _ (mW m0 ma la lb n t v) (@HAppend.hAppend va_W va_W va_W _ ([((ma 0), .inl (X.2.1, 371, .inl fa))]) (@HAppend.hAppend va_W va_W va_W _ ([((ma 6), .inl (X.2.1, 55, .inl fh))]) ([((ma 3), .inl (X.2.1, 3, .inl fr))])))) sz) (va_A (@HAppend.hAppend va_W va_W va_W _ (mW m0 ma la lb n t v) (@HAppend.hAppend va_W va_W va_W _ ([((ma 0), .inl (X.2.1, 371, .inl fa))]) (@HAppend.hAppend va_W va_W va_W _ ([((ma 6), .inl (X.2.1, 55, .inl fh))]) ([((ma 3), .inl (X.2.1, 3, .inl fr))])))) sz) s (@HAppend.hAppend va_W va_W va_W _ ([((ma 0), .inl (X.2.1, 371, .inl fa))]) (@HAppend.hAppend va_W va_W va_W _ ([((ma 6), .inl (X.2.1, 55, .inl fh))]) (@HAppend.hAppend va_W va_W va_W _ (mW m0 ma la lb n t v) ([((ma 3), .inl (X.2.1, 3, .inl f_24))])))) H locs := G
          obtain rfl := hq_24
          exact e_int S zr zlk (vp_nar_int _) G (fh, d0, d1, d2, d3, d4, f_24) [2, 0, 1, 3] rfl rfl (Or.inr rfl) (⟨hI_fh, trivial⟩) dX11_close_37
    · refine lv_if_eq (tgt := 31) zx zb dX11_close_13 (by decide) (fun c_25 => ?_) (fun c_25 => absurd (by decide) c_25)
      refine lv_aload_n zx zb dX11_close_31 rfl (lv_at hl 0 rfl) ?_
      refine lv_bipush (v := (-2)) zx zb dX11_close_32 (by decide) ?_
      refine b_wi (cells' := 0) (slots' := 0) (wr := @HAppend.hAppend va_W va_W va_W _ ([((ma 0), .inl (X.2.1, 371, .inl fa))]) ([((ma 6), .inl (X.2.1, 55, .inl fh))])) G rfl rfl [0, 3] [1, 2] rfl rfl rfl rfl (n_V (As := [.int (-2)]) (rest := []) (C := RX11) (T := TX11) (N := 18) (ci := 9) S G (m_bad l X m0 ma la lb n t v fr (-2) hI_n hI_t H.size) gX11_close_X11_bad rfl rfl rfl hdV_X11_bad ⟨Nat.le_of_ble_eq_true rfl, Nat.le_of_ble_eq_true rfl⟩ [0, 3] rfl rfl 0 rfl rfl rfl hl.1 (Nat.le_of_ble_eq_true rfl) dX11_close_34 ⟨Nat.le_of_ble_eq_true rfl, Nat.le_of_ble_eq_true rfl⟩) (fun r_26 u_26 H locs hp_26 G => ?_)
      obtain ⟨f_26, rfl⟩ : ∃ z, z = u_26 := ⟨_, rfl⟩
      have hq_26 := hp_26
      have G : wd X (va_A (@HAppend.hAppend va_W va_W va_W _ (mW m0 ma la lb n t v) (@HAppend.hAppend va_W va_W va_W _ ([((ma 0), .inl (X.2.1, 371, .inl fa))]) (@HAppend.hAppend va_W va_W va_W _ ([((ma 6), .inl (X.2.1, 55, .inl fh))]) ([((ma 3), .inl (X.2.1, 3, .inl fr))])))) sz) (va_A (@HAppend.hAppend va_W va_W va_W _ (mW m0 ma la lb n t v) (@HAppend.hAppend va_W va_W va_W _ ([((ma 0), .inl (X.2.1, 371, .inl fa))]) (@HAppend.hAppend va_W va_W va_W _ ([((ma 6), .inl (X.2.1, 55, .inl fh))]) ([((ma 3), .inl (X.2.1, 3, .inl fr))])))) sz) s (@HAppend.hAppend va_W va_W va_W _ ([((ma 0), .inl (X.2.1, 371, .inl fa))]) (@HAppend.hAppend va_W va_W va_W _ ([((ma 6), .inl (X.2.1, 55, .inl fh))]) (@HAppend.hAppend va_W va_W va_W _ (mW m0 ma la lb n t v) ([((ma 3), .inl (X.2.1, 3, .inl f_26))])))) H locs := G
      obtain rfl := hq_26
      exact e_int S zr zlk (vp_nar_int _) G (fh, d0, d1, d2, d3, d4, f_26) [2, 0, 1, 3] rfl rfl (Or.inr rfl) (⟨hI_fh, trivial⟩) dX11_close_37
  · refine lv_if_eq (tgt := 31) zx zb dX11_close_5 (by decide) (fun c_27 => ?_) (fun c_27 => absurd (by decide) c_27)
    refine lv_aload_n zx zb dX11_close_31 rfl (lv_at hl 0 rfl) ?_
    refine lv_bipush (v := (-2)) zx zb dX11_close_32 (by decide) ?_
    refine b_wi (cells' := 0) (slots' := 0) (wr := @HAppend.hAppend va_W va_W va_W _ ([((ma 0), .inl (X.2.1, 371, .inl fa))]) ([((ma 6), .inl (X.2.1, 55, .inl fh))])) G rfl rfl [0, 3] [1, 2] rfl rfl rfl rfl (n_V (As := [.int (-2)]) (rest := []) (C := RX11) (T := TX11) (N := 18) (ci := 9) S G (m_bad l X m0 ma la lb n t v fr (-2) hI_n hI_t H.size) gX11_close_X11_bad rfl rfl rfl hdV_X11_bad ⟨Nat.le_of_ble_eq_true rfl, Nat.le_of_ble_eq_true rfl⟩ [0, 3] rfl rfl 0 rfl rfl rfl hl.1 (Nat.le_of_ble_eq_true rfl) dX11_close_34 ⟨Nat.le_of_ble_eq_true rfl, Nat.le_of_ble_eq_true rfl⟩) (fun r_28 u_28 H locs hp_28 G => ?_)
    obtain ⟨f_28, rfl⟩ : ∃ z, z = u_28 := ⟨_, rfl⟩
    have hq_28 := hp_28
    have G : wd X (va_A (@HAppend.hAppend va_W va_W va_W _ (mW m0 ma la lb n t v) (@HAppend.hAppend va_W va_W va_W _ ([((ma 0), .inl (X.2.1, 371, .inl fa))]) (@HAppend.hAppend va_W va_W va_W _ ([((ma 6), .inl (X.2.1, 55, .inl fh))]) ([((ma 3), .inl (X.2.1, 3, .inl fr))])))) sz) (va_A (@HAppend.hAppend va_W va_W va_W _ (mW m0 ma la lb n t v) (@HAppend.hAppend va_W va_W va_W _ ([((ma 0), .inl (X.2.1, 371, .inl fa))]) (@HAppend.hAppend va_W va_W va_W _ ([((ma 6), .inl (X.2.1, 55, .inl fh))]) ([((ma 3), .inl (X.2.1, 3, .inl fr))])))) sz) s (@HAppend.hAppend va_W va_W va_W _ ([((ma 0), .inl (X.2.1, 371, .inl fa))]) (@HAppend.hAppend va_W va_W va_W _ ([((ma 6), .inl (X.2.1, 55, .inl fh))]) (@HAppend.hAppend va_W va_W va_W _ (mW m0 ma la lb n t v) ([((ma 3), .inl (X.2.1, 3, .inl f_28))])))) H locs := G
    obtain rfl := hq_28
    exact e_int S zr zlk (vp_nar_int _) G (fh, d0, d1, d2, d3, d4, f_28) [2, 0, 1, 3] rfl rfl (Or.inr rfl) (⟨hI_fh, trivial⟩) dX11_close_37
theorem mm_X11_seen_c152 : Cond.constantLong RX11 152 (99) ∈ wsX11_seen := by decide +kernel
theorem mm_X11_seen_c154 : Cond.constantLong RX11 154 (15) ∈ wsX11_seen := by decide +kernel
theorem in_X11_seen_X11 : ∀ w ∈ wsX110, w ∈ wsX11_seen := by decide +kernel
theorem lk_X11_seen_7 : Cond.fieldLink RX11 7 "EggSpoonsModel" "all" "[I" ∈ wsX11_seen := by decide +kernel
theorem mm_X11_note_c152 : Cond.constantLong RX11 152 (99) ∈ wsX11_note := by decide +kernel
theorem mm_X11_note_c154 : Cond.constantLong RX11 154 (15) ∈ wsX11_note := by decide +kernel
theorem in_X11_note_X11 : ∀ w ∈ wsX110, w ∈ wsX11_note := by decide +kernel
theorem lk_X11_note_7 : Cond.fieldLink RX11 7 "EggSpoonsModel" "all" "[I" ∈ wsX11_note := by decide +kernel
theorem mm_X11_mark_c152 : Cond.constantLong RX11 152 (99) ∈ wsX11_mark := by decide +kernel
theorem mm_X11_mark_c154 : Cond.constantLong RX11 154 (15) ∈ wsX11_mark := by decide +kernel
theorem in_X11_mark_X11 : ∀ w ∈ wsX110, w ∈ wsX11_mark := by decide +kernel
theorem lk_X11_mark_7 : Cond.fieldLink RX11 7 "EggSpoonsModel" "all" "[I" ∈ wsX11_mark := by decide +kernel
theorem in_X11_legsOf_X11 : ∀ w ∈ wsX110, w ∈ wsX11_legsOf := by decide +kernel
theorem lk_X11_legsOf_7 : Cond.fieldLink RX11 7 "EggSpoonsModel" "all" "[I" ∈ wsX11_legsOf := by decide +kernel
theorem mm_X11_strong_c156 : Cond.constantLong RX11 156 (2) ∈ wsX11_strong := by decide +kernel
theorem hdV_X11_legsOf : yX11_legsOf.cls = RX11 ∧ yX11_legsOf.cls ≠ "java/lang/invoke/MethodHandle" ∧ yX11_legsOf.cls ≠ "java/lang/invoke/VarHandle" ∧ (parseMethodDescriptor yX11_legsOf.desc).map (fun d => d.parameters.length) = some 1 := by decide +kernel
theorem hdS_X11_has : yX11_has.cls ≠ "java/lang/invoke/MethodHandle" ∧ yX11_has.cls ≠ "java/lang/invoke/VarHandle" ∧ (parseMethodDescriptor yX11_has.desc).map (fun d => d.parameters.length) = some 2 := by decide +kernel
theorem in_X11_mostAlike_X11 : ∀ w ∈ wsX110, w ∈ wsX11_mostAlike := by decide +kernel
theorem lk_X11_mostAlike_33 : Cond.fieldLink RX11 33 "EggSpoonsModel" "tells" "[I" ∈ wsX11_mostAlike := by decide +kernel
theorem in_X11_kindsOfOne_X11 : ∀ w ∈ wsX110, w ∈ wsX11_kindsOfOne := by decide +kernel
theorem lk_X11_kindsOfOne_7 : Cond.fieldLink RX11 7 "EggSpoonsModel" "all" "[I" ∈ wsX11_kindsOfOne := by decide +kernel
theorem in_X11_kindsOfEgg_X11 : ∀ w ∈ wsX110, w ∈ wsX11_kindsOfEgg := by decide +kernel
