set_option maxRecDepth 20000 in
theorem ggX11_first_X11_homeOf : GoodIn wsX11_first wsX11_homeOf := goodIn_r _ [14, 15, 16, 17, 6, 18, 19, 2, 20, 21, 22, 23, 8, 9, 10, 24, 25, 26, 27, 28, 29, 30, 31, 32, 33, 34, 35, 36, 37, 38, 39, 40, 41, 42, 43, 44, 45, 46, 47, 48, 49, 50, 51, 52, 53, 54, 55, 56, 57, 58, 59] rfl (by decide +kernel)
set_option maxRecDepth 20000 in
theorem gX11_first_X11_homeOf : GoodIn wsX11_first (wsV RX11 147 RX11 yX11_homeOf wsX11_homeOf) := goodIn_app (goodIn_of _ (by decide +kernel)) ggX11_first_X11_homeOf
set_option maxRecDepth 20000 in
theorem ggX11_first_X11_isHome : GoodIn wsX11_first wsX11_isHome := goodIn_r _ [10] rfl (by decide +kernel)
set_option maxRecDepth 20000 in
theorem gX11_first_X11_isHome : GoodIn wsX11_first (va_wsS RX11 101 yX11_isHome wsX11_isHome) := goodIn_app (goodIn_of _ (by decide +kernel)) ggX11_first_X11_isHome
set_option maxRecDepth 20000 in
theorem ggX11_first_X11_many : GoodIn wsX11_first wsX11_many := goodIn_r _ [7, 2, 42, 43, 44, 45, 46, 47, 48, 49, 50, 51, 52, 53, 54, 55, 56, 57, 58, 59] rfl (by decide +kernel)
set_option maxRecDepth 20000 in
theorem gX11_first_X11_many : GoodIn wsX11_first (wsV RX11 52 RX11 yX11_many wsX11_many) := goodIn_app (goodIn_of _ (by decide +kernel)) ggX11_first_X11_many
set_option maxRecDepth 20000 in
theorem ggX11_goAhead_X11_goTick : GoodIn wsX11_goAhead wsX11_goTick := goodIn_r _ [5, 6, 7, 4, 8, 9, 10, 11, 12, 13, 14, 15, 16, 17, 18, 19, 20, 21, 22, 23] rfl (by decide +kernel)
set_option maxRecDepth 20000 in
theorem gX11_goAhead_X11_goTick : GoodIn wsX11_goAhead (va_wsS RX11 109 yX11_goTick wsX11_goTick) := goodIn_app (goodIn_of _ (by decide +kernel)) ggX11_goAhead_X11_goTick
set_option maxRecDepth 20000 in
theorem ggX11_goOne_X11_drop : GoodIn wsX11_goOne wsX11_drop := goodIn_r _ [13] rfl (by decide +kernel)
set_option maxRecDepth 20000 in
theorem gX11_goOne_X11_drop : GoodIn wsX11_goOne (va_wsS RX11 98 yX11_drop wsX11_drop) := goodIn_app (goodIn_of _ (by decide +kernel)) ggX11_goOne_X11_drop
set_option maxRecDepth 20000 in
theorem ggX11_goOne_X11_mayAs : GoodIn wsX11_goOne wsX11_mayAs := goodIn_r _ [10] rfl (by decide +kernel)
set_option maxRecDepth 20000 in
theorem gX11_goOne_X11_mayAs : GoodIn wsX11_goOne (va_wsS RX11 94 yX11_mayAs wsX11_mayAs) := goodIn_app (goodIn_of _ (by decide +kernel)) ggX11_goOne_X11_mayAs
set_option maxRecDepth 20000 in
theorem ggX11_goOne_X11_runsOf : GoodIn wsX11_goOne wsX11_runsOf := goodIn_r _ [4, 5, 6, 3, 7] rfl (by decide +kernel)
set_option maxRecDepth 20000 in
theorem gX11_goOne_X11_runsOf : GoodIn wsX11_goOne (va_wsS RX11 90 yX11_runsOf wsX11_runsOf) := goodIn_app (goodIn_of _ (by decide +kernel)) ggX11_goOne_X11_runsOf
set_option maxRecDepth 20000 in
theorem ggX11_goTick_X11_goOne : GoodIn wsX11_goTick wsX11_goOne := goodIn_r _ [7, 8, 9, 3, 10, 11, 12, 13, 14, 15, 16, 17, 18, 19] rfl (by decide +kernel)
set_option maxRecDepth 20000 in
theorem gX11_goTick_X11_goOne : GoodIn wsX11_goTick (va_wsS RX11 105 yX11_goOne wsX11_goOne) := goodIn_app (goodIn_of _ (by decide +kernel)) ggX11_goTick_X11_goOne
set_option maxRecDepth 20000 in
theorem ggX11_goTick_X11_isHome : GoodIn wsX11_goTick wsX11_isHome := goodIn_r _ [4] rfl (by decide +kernel)
set_option maxRecDepth 20000 in
theorem gX11_goTick_X11_isHome : GoodIn wsX11_goTick (va_wsS RX11 101 yX11_isHome wsX11_isHome) := goodIn_app (goodIn_of _ (by decide +kernel)) ggX11_goTick_X11_isHome
set_option maxRecDepth 20000 in
theorem ggX11_homeAtHand_X11_goTick : GoodIn wsX11_homeAtHand wsX11_goTick := goodIn_r _ [8, 2, 3, 4, 5, 9, 10, 11, 12, 13, 14, 15, 16, 17, 18, 19, 20, 21, 22, 23] rfl (by decide +kernel)
set_option maxRecDepth 20000 in
theorem gX11_homeAtHand_X11_goTick : GoodIn wsX11_homeAtHand (va_wsS RX11 109 yX11_goTick wsX11_goTick) := goodIn_app (goodIn_of _ (by decide +kernel)) ggX11_homeAtHand_X11_goTick
set_option maxRecDepth 20000 in
theorem ggX11_homeAtHand_X11_isHome : GoodIn wsX11_homeAtHand wsX11_isHome := goodIn_r _ [5] rfl (by decide +kernel)
set_option maxRecDepth 20000 in
theorem gX11_homeAtHand_X11_isHome : GoodIn wsX11_homeAtHand (va_wsS RX11 101 yX11_isHome wsX11_isHome) := goodIn_app (goodIn_of _ (by decide +kernel)) ggX11_homeAtHand_X11_isHome
set_option maxRecDepth 20000 in
theorem ggX11_homeOf_X11_homeAtHand : GoodIn wsX11_homeOf wsX11_homeAtHand := goodIn_r _ [11, 6, 12, 13, 4, 14, 15, 16, 17, 18, 19, 20, 21, 22, 23, 24, 25, 26, 27, 28, 29, 30, 31, 32, 33, 34, 35, 36, 37, 38, 39, 40, 41, 42, 43, 44, 45, 46, 47, 48, 49, 50] rfl (by decide +kernel)
set_option maxRecDepth 20000 in
theorem gX11_homeOf_X11_homeAtHand : GoodIn wsX11_homeOf (wsV RX11 144 RX11 yX11_homeAtHand wsX11_homeAtHand) := goodIn_app (goodIn_of _ (by decide +kernel)) ggX11_homeOf_X11_homeAtHand
set_option maxRecDepth 20000 in
theorem ggX11_homeOf_X11_layHand : GoodIn wsX11_homeOf wsX11_layHand := goodIn_r _ [5, 6, 7, 33, 34, 35, 36, 37, 38, 39, 40, 41, 42, 43, 44, 45, 46, 47, 48, 49, 50] rfl (by decide +kernel)
set_option maxRecDepth 20000 in
theorem gX11_homeOf_X11_layHand : GoodIn wsX11_homeOf (wsV RX11 137 RX11 yX11_layHand wsX11_layHand) := goodIn_app (goodIn_of _ (by decide +kernel)) ggX11_homeOf_X11_layHand
set_option maxRecDepth 20000 in
theorem ggX11_home_X11_bad : GoodIn wsX11_home wsX11_bad := goodIn_r _ [51, 52, 53, 54, 55, 56, 57, 58, 59, 60, 61, 62, 63, 64, 65, 66, 67, 68, 69, 70] rfl (by decide +kernel)
set_option maxRecDepth 20000 in
theorem gX11_home_X11_bad : GoodIn wsX11_home (wsV RX11 68 RX11 yX11_bad wsX11_bad) := goodIn_app (goodIn_of _ (by decide +kernel)) ggX11_home_X11_bad
set_option maxRecDepth 20000 in
theorem ggX11_home_X11_homeOf : GoodIn wsX11_home wsX11_homeOf := goodIn_r _ [17, 18, 19, 20, 4, 21, 22, 10, 23, 24, 25, 26, 27, 28, 29, 30, 31, 32, 33, 34, 35, 36, 37, 38, 39, 40, 41, 42, 43, 44, 45, 46, 47, 53, 54, 55, 56, 57, 58, 59, 60, 61, 62, 63, 64, 65, 66, 67, 68, 69, 70] rfl (by decide +kernel)
set_option maxRecDepth 20000 in
theorem gX11_home_X11_homeOf : GoodIn wsX11_home (wsV RX11 147 RX11 yX11_homeOf wsX11_homeOf) := goodIn_app (goodIn_of _ (by decide +kernel)) ggX11_home_X11_homeOf
set_option maxRecDepth 20000 in
theorem ggX11_home_X11_isOne : GoodIn wsX11_home wsX11_isOne := goodIn_r _ [5, 6, 7, 8, 4, 9, 10, 11, 12, 13, 53, 54, 55, 56, 57, 58, 59, 60, 61, 62, 63, 64, 65, 66, 67, 68, 69, 70] rfl (by decide +kernel)
set_option maxRecDepth 20000 in
theorem gX11_home_X11_isOne : GoodIn wsX11_home (wsV RX11 123 RX11 yX11_isOne wsX11_isOne) := goodIn_app (goodIn_of _ (by decide +kernel)) ggX11_home_X11_isOne
set_option maxRecDepth 20000 in
theorem ggX11_isKind_X11_in : GoodIn wsX11_isKind wsX11_in := goodIn_r _ [5] rfl (by decide +kernel)
set_option maxRecDepth 20000 in
theorem gX11_isKind_X11_in : GoodIn wsX11_isKind (va_wsS RX11 56 yX11_in wsX11_in) := goodIn_app (goodIn_of _ (by decide +kernel)) ggX11_isKind_X11_in
set_option maxRecDepth 20000 in
theorem ggX11_isLegs_X11_in : GoodIn wsX11_isLegs wsX11_in := goodIn_r _ [5] rfl (by decide +kernel)
set_option maxRecDepth 20000 in
theorem gX11_isLegs_X11_in : GoodIn wsX11_isLegs (va_wsS RX11 56 yX11_in wsX11_in) := goodIn_app (goodIn_of _ (by decide +kernel)) ggX11_isLegs_X11_in
set_option maxRecDepth 20000 in
theorem ggX11_isOne_X11_in : GoodIn wsX11_isOne wsX11_in := goodIn_r _ [9] rfl (by decide +kernel)
set_option maxRecDepth 20000 in
theorem gX11_isOne_X11_in : GoodIn wsX11_isOne (va_wsS RX11 56 yX11_in wsX11_in) := goodIn_app (goodIn_of _ (by decide +kernel)) ggX11_isOne_X11_in
set_option maxRecDepth 20000 in
theorem ggX11_isOne_X11_many : GoodIn wsX11_isOne wsX11_many := goodIn_r _ [5, 6, 10, 11, 12, 13, 14, 15, 16, 17, 18, 19, 20, 21, 22, 23, 24, 25, 26, 27] rfl (by decide +kernel)
set_option maxRecDepth 20000 in
theorem gX11_isOne_X11_many : GoodIn wsX11_isOne (wsV RX11 52 RX11 yX11_many wsX11_many) := goodIn_app (goodIn_of _ (by decide +kernel)) ggX11_isOne_X11_many
set_option maxRecDepth 20000 in
theorem ggX11_isSpeed_X11_in : GoodIn wsX11_isSpeed wsX11_in := goodIn_r _ [5] rfl (by decide +kernel)
set_option maxRecDepth 20000 in
theorem gX11_isSpeed_X11_in : GoodIn wsX11_isSpeed (va_wsS RX11 56 yX11_in wsX11_in) := goodIn_app (goodIn_of _ (by decide +kernel)) ggX11_isSpeed_X11_in
set_option maxRecDepth 20000 in
theorem ggX11_manyHome_X11_isHome : GoodIn wsX11_manyHome wsX11_isHome := goodIn_r _ [4] rfl (by decide +kernel)
set_option maxRecDepth 20000 in
theorem gX11_manyHome_X11_isHome : GoodIn wsX11_manyHome (va_wsS RX11 101 yX11_isHome wsX11_isHome) := goodIn_app (goodIn_of _ (by decide +kernel)) ggX11_manyHome_X11_isHome
set_option maxRecDepth 20000 in
theorem ggX11_of_X11_bad : GoodIn wsX11_of wsX11_bad := goodIn_r _ [34, 35, 36, 37, 38, 39, 40, 41, 42, 43, 44, 45, 46, 47, 48, 49, 50, 51, 52, 53] rfl (by decide +kernel)
set_option maxRecDepth 20000 in
theorem gX11_of_X11_bad : GoodIn wsX11_of (wsV RX11 68 RX11 yX11_bad wsX11_bad) := goodIn_app (goodIn_of _ (by decide +kernel)) ggX11_of_X11_bad
set_option maxRecDepth 20000 in
theorem ggX11_of_X11_in : GoodIn wsX11_of wsX11_in := goodIn_r _ [14] rfl (by decide +kernel)
set_option maxRecDepth 20000 in
theorem gX11_of_X11_in : GoodIn wsX11_of (va_wsS RX11 56 yX11_in wsX11_in) := goodIn_app (goodIn_of _ (by decide +kernel)) ggX11_of_X11_in
set_option maxRecDepth 20000 in
theorem ggX11_of_X11_isOne : GoodIn wsX11_of wsX11_isOne := goodIn_r _ [6, 7, 8, 9, 5, 10, 11, 12, 13, 14, 36, 37, 38, 39, 40, 41, 42, 43, 44, 45, 46, 47, 48, 49, 50, 51, 52, 53] rfl (by decide +kernel)
set_option maxRecDepth 20000 in
theorem gX11_of_X11_isOne : GoodIn wsX11_of (wsV RX11 123 RX11 yX11_isOne wsX11_isOne) := goodIn_app (goodIn_of _ (by decide +kernel)) ggX11_of_X11_isOne
set_option maxRecDepth 20000 in
theorem ggX11_of_X11_toldOf : GoodIn wsX11_of wsX11_toldOf := goodIn_r _ [18, 11, 19, 20, 5, 21, 22, 23, 24, 25, 26, 27, 28, 29, 30, 36, 37, 38, 39, 40, 41, 42, 43, 44, 45, 46, 47, 48, 49, 50, 51, 52, 53] rfl (by decide +kernel)
set_option maxRecDepth 20000 in
theorem gX11_of_X11_toldOf : GoodIn wsX11_of (wsV RX11 134 RX11 yX11_toldOf wsX11_toldOf) := goodIn_app (goodIn_of _ (by decide +kernel)) ggX11_of_X11_toldOf
set_option maxRecDepth 20000 in
theorem ggX11_runsOf_X11_runsAs : GoodIn wsX11_runsOf wsX11_runsAs := goodIn_r _ [4] rfl (by decide +kernel)
set_option maxRecDepth 20000 in
theorem gX11_runsOf_X11_runsAs : GoodIn wsX11_runsOf (va_wsS RX11 86 yX11_runsAs wsX11_runsAs) := goodIn_app (goodIn_of _ (by decide +kernel)) ggX11_runsOf_X11_runsAs
set_option maxRecDepth 20000 in
theorem ggX11_toldOf_X11_isHome : GoodIn wsX11_toldOf wsX11_isHome := goodIn_r _ [5] rfl (by decide +kernel)
set_option maxRecDepth 20000 in
theorem gX11_toldOf_X11_isHome : GoodIn wsX11_toldOf (va_wsS RX11 101 yX11_isHome wsX11_isHome) := goodIn_app (goodIn_of _ (by decide +kernel)) ggX11_toldOf_X11_isHome
set_option maxRecDepth 20000 in
theorem ggX11_toldOf_X11_mayAs : GoodIn wsX11_toldOf wsX11_mayAs := goodIn_r _ [14] rfl (by decide +kernel)
set_option maxRecDepth 20000 in
theorem gX11_toldOf_X11_mayAs : GoodIn wsX11_toldOf (va_wsS RX11 94 yX11_mayAs wsX11_mayAs) := goodIn_app (goodIn_of _ (by decide +kernel)) ggX11_toldOf_X11_mayAs
set_option maxRecDepth 20000 in
theorem ggX11_toldOf_X11_runsOf : GoodIn wsX11_toldOf wsX11_runsOf := goodIn_r _ [8, 9, 10, 4, 11] rfl (by decide +kernel)
set_option maxRecDepth 20000 in
theorem gX11_toldOf_X11_runsOf : GoodIn wsX11_toldOf (va_wsS RX11 90 yX11_runsOf wsX11_runsOf) := goodIn_app (goodIn_of _ (by decide +kernel)) ggX11_toldOf_X11_runsOf
set_option maxRecDepth 20000 in
theorem ggX11_where_X11_bad : GoodIn wsX11_where wsX11_bad := goodIn_r _ [19, 20, 50, 51, 52, 53, 54, 55, 56, 57, 58, 59, 60, 61, 62, 63, 64, 65, 66, 67] rfl (by decide +kernel)
set_option maxRecDepth 20000 in
theorem gX11_where_X11_bad : GoodIn wsX11_where (wsV RX11 68 RX11 yX11_bad wsX11_bad) := goodIn_app (goodIn_of _ (by decide +kernel)) ggX11_where_X11_bad
set_option maxRecDepth 20000 in
theorem ggX11_where_X11_goAhead : GoodIn wsX11_where wsX11_goAhead := goodIn_r _ [28, 2, 29, 30, 6, 31, 32, 33, 34, 35, 36, 37, 38, 39, 40, 41, 42, 43, 44, 45, 46, 47, 48, 49, 50, 51, 52, 53, 54, 55, 56, 57, 58, 59, 60, 61, 62, 63, 64, 65, 66, 67] rfl (by decide +kernel)
set_option maxRecDepth 20000 in
theorem gX11_where_X11_goAhead : GoodIn wsX11_where (wsV RX11 140 RX11 yX11_goAhead wsX11_goAhead) := goodIn_app (goodIn_of _ (by decide +kernel)) ggX11_where_X11_goAhead
set_option maxRecDepth 20000 in
theorem ggX11_where_X11_in : GoodIn wsX11_where wsX11_in := goodIn_r _ [15] rfl (by decide +kernel)
set_option maxRecDepth 20000 in
theorem gX11_where_X11_in : GoodIn wsX11_where (va_wsS RX11 56 yX11_in wsX11_in) := goodIn_app (goodIn_of _ (by decide +kernel)) ggX11_where_X11_in
set_option maxRecDepth 20000 in
theorem ggX11_where_X11_isOne : GoodIn wsX11_where wsX11_isOne := goodIn_r _ [7, 8, 9, 10, 6, 11, 12, 13, 14, 15, 50, 51, 52, 53, 54, 55, 56, 57, 58, 59, 60, 61, 62, 63, 64, 65, 66, 67] rfl (by decide +kernel)
set_option maxRecDepth 20000 in
theorem gX11_where_X11_isOne : GoodIn wsX11_where (wsV RX11 123 RX11 yX11_isOne wsX11_isOne) := goodIn_app (goodIn_of _ (by decide +kernel)) ggX11_where_X11_isOne
set_option maxRecDepth 20000 in
theorem ggX11_where_X11_layHand : GoodIn wsX11_where wsX11_layHand := goodIn_r _ [24, 2, 12, 50, 51, 52, 53, 54, 55, 56, 57, 58, 59, 60, 61, 62, 63, 64, 65, 66, 67] rfl (by decide +kernel)
set_option maxRecDepth 20000 in
theorem gX11_where_X11_layHand : GoodIn wsX11_where (wsV RX11 137 RX11 yX11_layHand wsX11_layHand) := goodIn_app (goodIn_of _ (by decide +kernel)) ggX11_where_X11_layHand
theorem dX11_bad_0 : decode cX11_bad 0 = .ok (.aload_n 0, 1) := by decide +kernel
theorem dX11_bad_1 : decode cX11_bad 1 = .ok (.getfield 20, 3) := by decide +kernel
theorem dX11_bad_10 : decode cX11_bad 10 = .ok (.iload_n 1, 1) := by decide +kernel
theorem dX11_bad_11 : decode cX11_bad 11 = .ok (.ireturn, 1) := by decide +kernel
theorem dX11_bad_4 : decode cX11_bad 4 = .ok (.iconst 0, 1) := by decide +kernel
theorem dX11_bad_5 : decode cX11_bad 5 = .ok (.dup2, 1) := by decide +kernel
theorem dX11_bad_6 : decode cX11_bad 6 = .ok (.iaload, 1) := by decide +kernel
theorem dX11_bad_7 : decode cX11_bad 7 = .ok (.iconst 1, 1) := by decide +kernel
theorem dX11_bad_8 : decode cX11_bad 8 = .ok (.iadd, 1) := by decide +kernel
theorem dX11_bad_9 : decode cX11_bad 9 = .ok (.iastore, 1) := by decide +kernel
theorem dX11_begin_0 : decode cX11_begin 0 = .ok (.iconst 0, 1) := by decide +kernel
theorem dX11_begin_1 : decode cX11_begin 1 = .ok (.istore_n 2, 1) := by decide +kernel
theorem dX11_begin_10 : decode cX11_begin 10 = .ok (.iconst 0, 1) := by decide +kernel
theorem dX11_begin_11 : decode cX11_begin 11 = .ok (.iastore, 1) := by decide +kernel
theorem dX11_begin_12 : decode cX11_begin 12 = .ok (.iinc 2 1, 3) := by decide +kernel
theorem dX11_begin_15 : decode cX11_begin 15 = .ok (.goto (-13), 3) := by decide +kernel
theorem dX11_begin_18 : decode cX11_begin 18 = .ok (.aload_n 0, 1) := by decide +kernel
theorem dX11_begin_19 : decode cX11_begin 19 = .ok (.bipush 36, 2) := by decide +kernel
theorem dX11_begin_2 : decode cX11_begin 2 = .ok (.iload_n 2, 1) := by decide +kernel
theorem dX11_begin_21 : decode cX11_begin 21 = .ok (.iload_n 1, 1) := by decide +kernel
theorem dX11_begin_22 : decode cX11_begin 22 = .ok (.iastore, 1) := by decide +kernel
theorem dX11_begin_23 : decode cX11_begin 23 = .ok (.return_, 1) := by decide +kernel
theorem dX11_begin_3 : decode cX11_begin 3 = .ok (.bipush 123, 2) := by decide +kernel
theorem dX11_begin_5 : decode cX11_begin 5 = .ok (.if_icmp .ge 13, 3) := by decide +kernel
theorem dX11_begin_8 : decode cX11_begin 8 = .ok (.aload_n 0, 1) := by decide +kernel
theorem dX11_begin_9 : decode cX11_begin 9 = .ok (.iload_n 2, 1) := by decide +kernel
theorem dX11_drop_0 : decode cX11_drop 0 = .ok (.aload_n 0, 1) := by decide +kernel
theorem dX11_drop_1 : decode cX11_drop 1 = .ok (.bipush 17, 2) := by decide +kernel
theorem dX11_drop_10 : decode cX11_drop 10 = .ok (.iload_n 1, 1) := by decide +kernel
theorem dX11_drop_11 : decode cX11_drop 11 = .ok (.iadd, 1) := by decide +kernel
theorem dX11_drop_12 : decode cX11_drop 12 = .ok (.iaload, 1) := by decide +kernel
theorem dX11_drop_13 : decode cX11_drop 13 = .ok (.bipush 99, 2) := by decide +kernel
theorem dX11_drop_15 : decode cX11_drop 15 = .ok (.if_icmp .ge 7, 3) := by decide +kernel
theorem dX11_drop_18 : decode cX11_drop 18 = .ok (.iconst 1, 1) := by decide +kernel
theorem dX11_drop_19 : decode cX11_drop 19 = .ok (.goto 4, 3) := by decide +kernel
theorem dX11_drop_22 : decode cX11_drop 22 = .ok (.iconst 0, 1) := by decide +kernel
theorem dX11_drop_23 : decode cX11_drop 23 = .ok (.iadd, 1) := by decide +kernel
theorem dX11_drop_24 : decode cX11_drop 24 = .ok (.iastore, 1) := by decide +kernel
theorem dX11_drop_25 : decode cX11_drop 25 = .ok (.aload_n 0, 1) := by decide +kernel
theorem dX11_drop_26 : decode cX11_drop 26 = .ok (.bipush 23, 2) := by decide +kernel
theorem dX11_drop_28 : decode cX11_drop 28 = .ok (.iload_n 1, 1) := by decide +kernel
theorem dX11_drop_29 : decode cX11_drop 29 = .ok (.iadd, 1) := by decide +kernel
theorem dX11_drop_3 : decode cX11_drop 3 = .ok (.iload_n 1, 1) := by decide +kernel
theorem dX11_drop_30 : decode cX11_drop 30 = .ok (.iconst 2, 1) := by decide +kernel
theorem dX11_drop_31 : decode cX11_drop 31 = .ok (.iastore, 1) := by decide +kernel
theorem dX11_drop_32 : decode cX11_drop 32 = .ok (.return_, 1) := by decide +kernel
theorem dX11_drop_4 : decode cX11_drop 4 = .ok (.iadd, 1) := by decide +kernel
theorem dX11_drop_5 : decode cX11_drop 5 = .ok (.dup2, 1) := by decide +kernel
theorem dX11_drop_6 : decode cX11_drop 6 = .ok (.iaload, 1) := by decide +kernel
theorem dX11_drop_7 : decode cX11_drop 7 = .ok (.aload_n 0, 1) := by decide +kernel
theorem dX11_drop_8 : decode cX11_drop 8 = .ok (.bipush 17, 2) := by decide +kernel
theorem dX11_first_0 : decode cX11_first 0 = .ok (.iconst (-1), 1) := by decide +kernel
theorem dX11_first_1 : decode cX11_first 1 = .ok (.istore_n 1, 1) := by decide +kernel
theorem dX11_first_12 : decode cX11_first 12 = .ok (.if_icmp .ge 48, 3) := by decide +kernel
theorem dX11_first_15 : decode cX11_first 15 = .ok (.aload_n 0, 1) := by decide +kernel
theorem dX11_first_16 : decode cX11_first 16 = .ok (.getfield 7, 3) := by decide +kernel
theorem dX11_first_19 : decode cX11_first 19 = .ok (.iload_n 3, 1) := by decide +kernel
theorem dX11_first_2 : decode cX11_first 2 = .ok (.ldc 150, 2) := by decide +kernel
theorem dX11_first_20 : decode cX11_first 20 = .ok (.invokestatic 101, 3) := by decide +kernel
theorem dX11_first_23 : decode cX11_first 23 = .ok (.ifCond .eq 7, 3) := by decide +kernel
theorem dX11_first_26 : decode cX11_first 26 = .ok (.iconst (-1), 1) := by decide +kernel
theorem dX11_first_27 : decode cX11_first 27 = .ok (.goto 8, 3) := by decide +kernel
theorem dX11_first_30 : decode cX11_first 30 = .ok (.aload_n 0, 1) := by decide +kernel
theorem dX11_first_31 : decode cX11_first 31 = .ok (.iload_n 3, 1) := by decide +kernel
theorem dX11_first_32 : decode cX11_first 32 = .ok (.invokevirtual 147, 3) := by decide +kernel
theorem dX11_first_35 : decode cX11_first 35 = .ok (.istore 4, 2) := by decide +kernel
theorem dX11_first_37 : decode cX11_first 37 = .ok (.iload 4, 2) := by decide +kernel
theorem dX11_first_39 : decode cX11_first 39 = .ok (.iconst (-1), 1) := by decide +kernel
theorem dX11_first_4 : decode cX11_first 4 = .ok (.istore_n 2, 1) := by decide +kernel
theorem dX11_first_40 : decode cX11_first 40 = .ok (.if_icmp .eq 14, 3) := by decide +kernel
theorem dX11_first_43 : decode cX11_first 43 = .ok (.iload 4, 2) := by decide +kernel
theorem dX11_first_45 : decode cX11_first 45 = .ok (.iload_n 2, 1) := by decide +kernel
theorem dX11_first_46 : decode cX11_first 46 = .ok (.if_icmp .ge 8, 3) := by decide +kernel
theorem dX11_first_49 : decode cX11_first 49 = .ok (.iload_n 3, 1) := by decide +kernel
theorem dX11_first_5 : decode cX11_first 5 = .ok (.iconst 0, 1) := by decide +kernel
theorem dX11_first_50 : decode cX11_first 50 = .ok (.istore_n 1, 1) := by decide +kernel
theorem dX11_first_51 : decode cX11_first 51 = .ok (.iload 4, 2) := by decide +kernel
theorem dX11_first_53 : decode cX11_first 53 = .ok (.istore_n 2, 1) := by decide +kernel
theorem dX11_first_54 : decode cX11_first 54 = .ok (.iinc 3 1, 3) := by decide +kernel
theorem dX11_first_57 : decode cX11_first 57 = .ok (.goto (-50), 3) := by decide +kernel
theorem dX11_first_6 : decode cX11_first 6 = .ok (.istore_n 3, 1) := by decide +kernel
theorem dX11_first_60 : decode cX11_first 60 = .ok (.iload_n 1, 1) := by decide +kernel
theorem dX11_first_61 : decode cX11_first 61 = .ok (.ireturn, 1) := by decide +kernel
theorem dX11_first_7 : decode cX11_first 7 = .ok (.iload_n 3, 1) := by decide +kernel
theorem dX11_first_8 : decode cX11_first 8 = .ok (.aload_n 0, 1) := by decide +kernel
theorem dX11_first_9 : decode cX11_first 9 = .ok (.invokevirtual 52, 3) := by decide +kernel
theorem dX11_full_0 : decode cX11_full 0 = .ok (.aload_n 0, 1) := by decide +kernel
theorem dX11_full_1 : decode cX11_full 1 = .ok (.getfield 20, 3) := by decide +kernel
theorem dX11_full_10 : decode cX11_full 10 = .ok (.bipush (-4), 2) := by decide +kernel
theorem dX11_full_12 : decode cX11_full 12 = .ok (.ireturn, 1) := by decide +kernel
theorem dX11_full_4 : decode cX11_full 4 = .ok (.iconst 2, 1) := by decide +kernel
theorem dX11_full_5 : decode cX11_full 5 = .ok (.dup2, 1) := by decide +kernel
theorem dX11_full_6 : decode cX11_full 6 = .ok (.iaload, 1) := by decide +kernel
theorem dX11_full_7 : decode cX11_full 7 = .ok (.iconst 1, 1) := by decide +kernel
theorem dX11_full_8 : decode cX11_full 8 = .ok (.iadd, 1) := by decide +kernel
theorem dX11_full_9 : decode cX11_full 9 = .ok (.iastore, 1) := by decide +kernel
theorem dX11_goAhead_0 : decode cX11_goAhead 0 = .ok (.iconst 0, 1) := by decide +kernel
theorem dX11_goAhead_1 : decode cX11_goAhead 1 = .ok (.istore_n 2, 1) := by decide +kernel
theorem dX11_goAhead_11 : decode cX11_goAhead 11 = .ok (.invokestatic 109, 3) := by decide +kernel
theorem dX11_goAhead_14 : decode cX11_goAhead 14 = .ok (.iinc 2 1, 3) := by decide +kernel
theorem dX11_goAhead_17 : decode cX11_goAhead 17 = .ok (.goto (-15), 3) := by decide +kernel
theorem dX11_goAhead_2 : decode cX11_goAhead 2 = .ok (.iload_n 2, 1) := by decide +kernel
theorem dX11_goAhead_20 : decode cX11_goAhead 20 = .ok (.return_, 1) := by decide +kernel
theorem dX11_goAhead_3 : decode cX11_goAhead 3 = .ok (.iload_n 1, 1) := by decide +kernel
theorem dX11_goAhead_4 : decode cX11_goAhead 4 = .ok (.if_icmp .ge 16, 3) := by decide +kernel
theorem dX11_goAhead_7 : decode cX11_goAhead 7 = .ok (.aload_n 0, 1) := by decide +kernel
theorem dX11_goAhead_8 : decode cX11_goAhead 8 = .ok (.getfield 27, 3) := by decide +kernel
theorem dX11_goOne_0 : decode cX11_goOne 0 = .ok (.aload_n 0, 1) := by decide +kernel
theorem dX11_goOne_1 : decode cX11_goOne 1 = .ok (.bipush 35, 2) := by decide +kernel
theorem dX11_goOne_11 : decode cX11_goOne 11 = .ok (.istore 4, 2) := by decide +kernel
theorem dX11_goOne_13 : decode cX11_goOne 13 = .ok (.aload_n 0, 1) := by decide +kernel
theorem dX11_goOne_14 : decode cX11_goOne 14 = .ok (.bipush 23, 2) := by decide +kernel
theorem dX11_goOne_16 : decode cX11_goOne 16 = .ok (.iload_n 1, 1) := by decide +kernel
theorem dX11_goOne_17 : decode cX11_goOne 17 = .ok (.iadd, 1) := by decide +kernel
theorem dX11_goOne_18 : decode cX11_goOne 18 = .ok (.iaload, 1) := by decide +kernel
theorem dX11_goOne_19 : decode cX11_goOne 19 = .ok (.ifCond .le 16, 3) := by decide +kernel
theorem dX11_goOne_22 : decode cX11_goOne 22 = .ok (.aload_n 0, 1) := by decide +kernel
theorem dX11_goOne_23 : decode cX11_goOne 23 = .ok (.bipush 23, 2) := by decide +kernel
theorem dX11_goOne_25 : decode cX11_goOne 25 = .ok (.iload_n 1, 1) := by decide +kernel
theorem dX11_goOne_26 : decode cX11_goOne 26 = .ok (.iadd, 1) := by decide +kernel
theorem dX11_goOne_27 : decode cX11_goOne 27 = .ok (.dup2, 1) := by decide +kernel
theorem dX11_goOne_28 : decode cX11_goOne 28 = .ok (.iaload, 1) := by decide +kernel
theorem dX11_goOne_29 : decode cX11_goOne 29 = .ok (.iconst 1, 1) := by decide +kernel
theorem dX11_goOne_3 : decode cX11_goOne 3 = .ok (.iaload, 1) := by decide +kernel
theorem dX11_goOne_30 : decode cX11_goOne 30 = .ok (.isub, 1) := by decide +kernel
theorem dX11_goOne_31 : decode cX11_goOne 31 = .ok (.iastore, 1) := by decide +kernel
theorem dX11_goOne_32 : decode cX11_goOne 32 = .ok (.goto 63, 3) := by decide +kernel
theorem dX11_goOne_35 : decode cX11_goOne 35 = .ok (.iload_n 2, 1) := by decide +kernel
theorem dX11_goOne_36 : decode cX11_goOne 36 = .ok (.ifCond .ne 18, 3) := by decide +kernel
theorem dX11_goOne_39 : decode cX11_goOne 39 = .ok (.iload 4, 2) := by decide +kernel
theorem dX11_goOne_4 : decode cX11_goOne 4 = .ok (.istore_n 3, 1) := by decide +kernel
theorem dX11_goOne_41 : decode cX11_goOne 41 = .ok (.aload_n 0, 1) := by decide +kernel
theorem dX11_goOne_42 : decode cX11_goOne 42 = .ok (.bipush 49, 2) := by decide +kernel
theorem dX11_goOne_44 : decode cX11_goOne 44 = .ok (.iload_n 1, 1) := by decide +kernel
theorem dX11_goOne_45 : decode cX11_goOne 45 = .ok (.iadd, 1) := by decide +kernel
theorem dX11_goOne_46 : decode cX11_goOne 46 = .ok (.iaload, 1) := by decide +kernel
theorem dX11_goOne_47 : decode cX11_goOne 47 = .ok (.iload_n 3, 1) := by decide +kernel
theorem dX11_goOne_48 : decode cX11_goOne 48 = .ok (.invokestatic 94, 3) := by decide +kernel
theorem dX11_goOne_5 : decode cX11_goOne 5 = .ok (.aload_n 0, 1) := by decide +kernel
theorem dX11_goOne_51 : decode cX11_goOne 51 = .ok (.if_icmp .le 11, 3) := by decide +kernel
theorem dX11_goOne_54 : decode cX11_goOne 54 = .ok (.aload_n 0, 1) := by decide +kernel
theorem dX11_goOne_55 : decode cX11_goOne 55 = .ok (.iload_n 1, 1) := by decide +kernel
theorem dX11_goOne_56 : decode cX11_goOne 56 = .ok (.invokestatic 98, 3) := by decide +kernel
theorem dX11_goOne_59 : decode cX11_goOne 59 = .ok (.goto 36, 3) := by decide +kernel
theorem dX11_goOne_6 : decode cX11_goOne 6 = .ok (.iload_n 1, 1) := by decide +kernel
theorem dX11_goOne_62 : decode cX11_goOne 62 = .ok (.aload_n 0, 1) := by decide +kernel
theorem dX11_goOne_63 : decode cX11_goOne 63 = .ok (.iconst 5, 1) := by decide +kernel
theorem dX11_goOne_64 : decode cX11_goOne 64 = .ok (.iload_n 1, 1) := by decide +kernel
theorem dX11_goOne_65 : decode cX11_goOne 65 = .ok (.iadd, 1) := by decide +kernel
theorem dX11_goOne_66 : decode cX11_goOne 66 = .ok (.dup2, 1) := by decide +kernel
theorem dX11_goOne_67 : decode cX11_goOne 67 = .ok (.iaload, 1) := by decide +kernel
theorem dX11_goOne_68 : decode cX11_goOne 68 = .ok (.iload 4, 2) := by decide +kernel
theorem dX11_goOne_7 : decode cX11_goOne 7 = .ok (.iload_n 3, 1) := by decide +kernel
theorem dX11_goOne_70 : decode cX11_goOne 70 = .ok (.iadd, 1) := by decide +kernel
theorem dX11_goOne_71 : decode cX11_goOne 71 = .ok (.iastore, 1) := by decide +kernel
theorem dX11_goOne_72 : decode cX11_goOne 72 = .ok (.aload_n 0, 1) := by decide +kernel
theorem dX11_goOne_73 : decode cX11_goOne 73 = .ok (.bipush 29, 2) := by decide +kernel
theorem dX11_goOne_75 : decode cX11_goOne 75 = .ok (.iload_n 1, 1) := by decide +kernel
theorem dX11_goOne_76 : decode cX11_goOne 76 = .ok (.iadd, 1) := by decide +kernel
theorem dX11_goOne_77 : decode cX11_goOne 77 = .ok (.aload_n 0, 1) := by decide +kernel
theorem dX11_goOne_78 : decode cX11_goOne 78 = .ok (.iconst 5, 1) := by decide +kernel
theorem dX11_goOne_79 : decode cX11_goOne 79 = .ok (.iload_n 1, 1) := by decide +kernel
theorem dX11_goOne_8 : decode cX11_goOne 8 = .ok (.invokestatic 90, 3) := by decide +kernel
theorem dX11_goOne_80 : decode cX11_goOne 80 = .ok (.iadd, 1) := by decide +kernel
theorem dX11_goOne_81 : decode cX11_goOne 81 = .ok (.iaload, 1) := by decide +kernel
theorem dX11_goOne_82 : decode cX11_goOne 82 = .ok (.aload_n 0, 1) := by decide +kernel
theorem dX11_goOne_83 : decode cX11_goOne 83 = .ok (.bipush 36, 2) := by decide +kernel
theorem dX11_goOne_85 : decode cX11_goOne 85 = .ok (.iaload, 1) := by decide +kernel
theorem dX11_goOne_86 : decode cX11_goOne 86 = .ok (.if_icmp .lt 7, 3) := by decide +kernel
theorem dX11_goOne_89 : decode cX11_goOne 89 = .ok (.iload_n 3, 1) := by decide +kernel
theorem dX11_goOne_90 : decode cX11_goOne 90 = .ok (.goto 4, 3) := by decide +kernel
theorem dX11_goOne_93 : decode cX11_goOne 93 = .ok (.iconst 0, 1) := by decide +kernel
theorem dX11_goOne_94 : decode cX11_goOne 94 = .ok (.iastore, 1) := by decide +kernel
theorem dX11_goOne_95 : decode cX11_goOne 95 = .ok (.return_, 1) := by decide +kernel
theorem dX11_goTick_0 : decode cX11_goTick 0 = .ok (.aload_n 0, 1) := by decide +kernel
theorem dX11_goTick_1 : decode cX11_goTick 1 = .ok (.bipush 35, 2) := by decide +kernel
theorem dX11_goTick_10 : decode cX11_goTick 10 = .ok (.iload_n 1, 1) := by decide +kernel
theorem dX11_goTick_11 : decode cX11_goTick 11 = .ok (.aload_n 0, 1) := by decide +kernel
theorem dX11_goTick_12 : decode cX11_goTick 12 = .ok (.iconst 0, 1) := by decide +kernel
theorem dX11_goTick_13 : decode cX11_goTick 13 = .ok (.iaload, 1) := by decide +kernel
theorem dX11_goTick_14 : decode cX11_goTick 14 = .ok (.if_icmp .ge 23, 3) := by decide +kernel
theorem dX11_goTick_17 : decode cX11_goTick 17 = .ok (.aload_n 0, 1) := by decide +kernel
theorem dX11_goTick_18 : decode cX11_goTick 18 = .ok (.iload_n 1, 1) := by decide +kernel
theorem dX11_goTick_19 : decode cX11_goTick 19 = .ok (.invokestatic 101, 3) := by decide +kernel
theorem dX11_goTick_22 : decode cX11_goTick 22 = .ok (.ifCond .ne 9, 3) := by decide +kernel
theorem dX11_goTick_25 : decode cX11_goTick 25 = .ok (.aload_n 0, 1) := by decide +kernel
theorem dX11_goTick_26 : decode cX11_goTick 26 = .ok (.iload_n 1, 1) := by decide +kernel
theorem dX11_goTick_27 : decode cX11_goTick 27 = .ok (.iconst 0, 1) := by decide +kernel
theorem dX11_goTick_28 : decode cX11_goTick 28 = .ok (.invokestatic 105, 3) := by decide +kernel
theorem dX11_goTick_3 : decode cX11_goTick 3 = .ok (.dup2, 1) := by decide +kernel
theorem dX11_goTick_31 : decode cX11_goTick 31 = .ok (.iinc 1 1, 3) := by decide +kernel
theorem dX11_goTick_34 : decode cX11_goTick 34 = .ok (.goto (-24), 3) := by decide +kernel
theorem dX11_goTick_37 : decode cX11_goTick 37 = .ok (.return_, 1) := by decide +kernel
theorem dX11_goTick_4 : decode cX11_goTick 4 = .ok (.iaload, 1) := by decide +kernel
theorem dX11_goTick_5 : decode cX11_goTick 5 = .ok (.iconst 1, 1) := by decide +kernel
theorem dX11_goTick_6 : decode cX11_goTick 6 = .ok (.iadd, 1) := by decide +kernel
theorem dX11_goTick_7 : decode cX11_goTick 7 = .ok (.iastore, 1) := by decide +kernel
theorem dX11_goTick_8 : decode cX11_goTick 8 = .ok (.iconst 0, 1) := by decide +kernel
theorem dX11_goTick_9 : decode cX11_goTick 9 = .ok (.istore_n 1, 1) := by decide +kernel
theorem dX11_has_0 : decode cX11_has 0 = .ok (.iload_n 0, 1) := by decide +kernel
theorem dX11_has_1 : decode cX11_has 1 = .ok (.iload_n 1, 1) := by decide +kernel
theorem dX11_has_10 : decode cX11_has 10 = .ok (.goto 4, 3) := by decide +kernel
theorem dX11_has_13 : decode cX11_has 13 = .ok (.iconst 0, 1) := by decide +kernel
theorem dX11_has_14 : decode cX11_has 14 = .ok (.ireturn, 1) := by decide +kernel
theorem dX11_has_2 : decode cX11_has 2 = .ok (.ishr, 1) := by decide +kernel
theorem dX11_has_3 : decode cX11_has 3 = .ok (.iconst 1, 1) := by decide +kernel
theorem dX11_has_4 : decode cX11_has 4 = .ok (.iand, 1) := by decide +kernel
theorem dX11_has_5 : decode cX11_has 5 = .ok (.iconst 1, 1) := by decide +kernel
theorem dX11_has_6 : decode cX11_has 6 = .ok (.if_icmp .ne 7, 3) := by decide +kernel
theorem dX11_has_9 : decode cX11_has 9 = .ok (.iconst 1, 1) := by decide +kernel
theorem dX11_homeAtHand_0 : decode cX11_homeAtHand 0 = .ok (.iconst 0, 1) := by decide +kernel
theorem dX11_homeAtHand_1 : decode cX11_homeAtHand 1 = .ok (.istore_n 3, 1) := by decide +kernel
theorem dX11_homeAtHand_11 : decode cX11_homeAtHand 11 = .ok (.iload_n 1, 1) := by decide +kernel
theorem dX11_homeAtHand_12 : decode cX11_homeAtHand 12 = .ok (.invokestatic 101, 3) := by decide +kernel
theorem dX11_homeAtHand_15 : decode cX11_homeAtHand 15 = .ok (.ifCond .eq 5, 3) := by decide +kernel
theorem dX11_homeAtHand_18 : decode cX11_homeAtHand 18 = .ok (.iload_n 3, 1) := by decide +kernel
theorem dX11_homeAtHand_19 : decode cX11_homeAtHand 19 = .ok (.ireturn, 1) := by decide +kernel
theorem dX11_homeAtHand_2 : decode cX11_homeAtHand 2 = .ok (.iload_n 3, 1) := by decide +kernel
theorem dX11_homeAtHand_20 : decode cX11_homeAtHand 20 = .ok (.aload_n 0, 1) := by decide +kernel
theorem dX11_homeAtHand_21 : decode cX11_homeAtHand 21 = .ok (.getfield 27, 3) := by decide +kernel
theorem dX11_homeAtHand_24 : decode cX11_homeAtHand 24 = .ok (.invokestatic 109, 3) := by decide +kernel
theorem dX11_homeAtHand_27 : decode cX11_homeAtHand 27 = .ok (.iinc 3 1, 3) := by decide +kernel
theorem dX11_homeAtHand_3 : decode cX11_homeAtHand 3 = .ok (.iload_n 2, 1) := by decide +kernel
theorem dX11_homeAtHand_30 : decode cX11_homeAtHand 30 = .ok (.goto (-28), 3) := by decide +kernel
theorem dX11_homeAtHand_33 : decode cX11_homeAtHand 33 = .ok (.iconst (-1), 1) := by decide +kernel
theorem dX11_homeAtHand_34 : decode cX11_homeAtHand 34 = .ok (.ireturn, 1) := by decide +kernel
theorem dX11_homeAtHand_4 : decode cX11_homeAtHand 4 = .ok (.if_icmp .gt 29, 3) := by decide +kernel
theorem dX11_homeAtHand_7 : decode cX11_homeAtHand 7 = .ok (.aload_n 0, 1) := by decide +kernel
theorem dX11_homeAtHand_8 : decode cX11_homeAtHand 8 = .ok (.getfield 27, 3) := by decide +kernel
theorem dX11_homeOf_0 : decode cX11_homeOf 0 = .ok (.aload_n 0, 1) := by decide +kernel
theorem dX11_homeOf_1 : decode cX11_homeOf 1 = .ok (.invokevirtual 137, 3) := by decide +kernel
theorem dX11_homeOf_11 : decode cX11_homeOf 11 = .ok (.ireturn, 1) := by decide +kernel
theorem dX11_homeOf_4 : decode cX11_homeOf 4 = .ok (.aload_n 0, 1) := by decide +kernel
theorem dX11_homeOf_5 : decode cX11_homeOf 5 = .ok (.iload_n 1, 1) := by decide +kernel
theorem dX11_homeOf_6 : decode cX11_homeOf 6 = .ok (.bipush 60, 2) := by decide +kernel
theorem dX11_homeOf_8 : decode cX11_homeOf 8 = .ok (.invokevirtual 144, 3) := by decide +kernel
theorem dX11_home_0 : decode cX11_home 0 = .ok (.aload_n 0, 1) := by decide +kernel
theorem dX11_home_1 : decode cX11_home 1 = .ok (.iload_n 1, 1) := by decide +kernel
theorem dX11_home_10 : decode cX11_home 10 = .ok (.invokevirtual 147, 3) := by decide +kernel
theorem dX11_home_13 : decode cX11_home 13 = .ok (.goto 9, 3) := by decide +kernel
theorem dX11_home_16 : decode cX11_home 16 = .ok (.aload_n 0, 1) := by decide +kernel
theorem dX11_home_17 : decode cX11_home 17 = .ok (.bipush (-2), 2) := by decide +kernel
theorem dX11_home_19 : decode cX11_home 19 = .ok (.invokevirtual 68, 3) := by decide +kernel
theorem dX11_home_2 : decode cX11_home 2 = .ok (.invokevirtual 123, 3) := by decide +kernel
theorem dX11_home_22 : decode cX11_home 22 = .ok (.ireturn, 1) := by decide +kernel
theorem dX11_home_5 : decode cX11_home 5 = .ok (.ifCond .eq 11, 3) := by decide +kernel
theorem dX11_home_8 : decode cX11_home 8 = .ok (.aload_n 0, 1) := by decide +kernel
theorem dX11_home_9 : decode cX11_home 9 = .ok (.iload_n 1, 1) := by decide +kernel
theorem dX11_in_0 : decode cX11_in 0 = .ok (.lload_n 0, 1) := by decide +kernel
theorem dX11_in_1 : decode cX11_in 1 = .ok (.lload_n 2, 1) := by decide +kernel
theorem dX11_in_10 : decode cX11_in 10 = .ok (.ifCond .gt 7, 3) := by decide +kernel
theorem dX11_in_13 : decode cX11_in 13 = .ok (.iconst 1, 1) := by decide +kernel
theorem dX11_in_14 : decode cX11_in 14 = .ok (.goto 4, 3) := by decide +kernel
theorem dX11_in_17 : decode cX11_in 17 = .ok (.iconst 0, 1) := by decide +kernel
theorem dX11_in_18 : decode cX11_in 18 = .ok (.ireturn, 1) := by decide +kernel
theorem dX11_in_2 : decode cX11_in 2 = .ok (.lcmp, 1) := by decide +kernel
theorem dX11_in_3 : decode cX11_in 3 = .ok (.ifCond .lt 14, 3) := by decide +kernel
theorem dX11_in_6 : decode cX11_in 6 = .ok (.lload_n 0, 1) := by decide +kernel
theorem dX11_in_7 : decode cX11_in 7 = .ok (.lload 4, 2) := by decide +kernel
theorem dX11_in_9 : decode cX11_in 9 = .ok (.lcmp, 1) := by decide +kernel
theorem dX11_isHome_0 : decode cX11_isHome 0 = .ok (.aload_n 0, 1) := by decide +kernel
theorem dX11_isHome_1 : decode cX11_isHome 1 = .ok (.bipush 29, 2) := by decide +kernel
theorem dX11_isHome_10 : decode cX11_isHome 10 = .ok (.goto 4, 3) := by decide +kernel
theorem dX11_isHome_13 : decode cX11_isHome 13 = .ok (.iconst 0, 1) := by decide +kernel
theorem dX11_isHome_14 : decode cX11_isHome 14 = .ok (.ireturn, 1) := by decide +kernel
theorem dX11_isHome_3 : decode cX11_isHome 3 = .ok (.iload_n 1, 1) := by decide +kernel
theorem dX11_isHome_4 : decode cX11_isHome 4 = .ok (.iadd, 1) := by decide +kernel
theorem dX11_isHome_5 : decode cX11_isHome 5 = .ok (.iaload, 1) := by decide +kernel
theorem dX11_isHome_6 : decode cX11_isHome 6 = .ok (.ifCond .le 7, 3) := by decide +kernel
theorem dX11_isHome_9 : decode cX11_isHome 9 = .ok (.iconst 1, 1) := by decide +kernel
theorem dX11_isKind_0 : decode cX11_isKind 0 = .ok (.iload_n 0, 1) := by decide +kernel
theorem dX11_isKind_1 : decode cX11_isKind 1 = .ok (.i2l, 1) := by decide +kernel
theorem dX11_isKind_2 : decode cX11_isKind 2 = .ok (.lconst 0, 1) := by decide +kernel
theorem dX11_isKind_3 : decode cX11_isKind 3 = .ok (.ldc2_w 60, 3) := by decide +kernel
theorem dX11_isKind_6 : decode cX11_isKind 6 = .ok (.invokestatic 56, 3) := by decide +kernel
theorem dX11_isKind_9 : decode cX11_isKind 9 = .ok (.ireturn, 1) := by decide +kernel
theorem dX11_isLegs_0 : decode cX11_isLegs 0 = .ok (.iload_n 0, 1) := by decide +kernel
theorem dX11_isLegs_1 : decode cX11_isLegs 1 = .ok (.i2l, 1) := by decide +kernel
theorem dX11_isLegs_2 : decode cX11_isLegs 2 = .ok (.lconst 1, 1) := by decide +kernel
theorem dX11_isLegs_3 : decode cX11_isLegs 3 = .ok (.ldc2_w 62, 3) := by decide +kernel
theorem dX11_isLegs_6 : decode cX11_isLegs 6 = .ok (.invokestatic 56, 3) := by decide +kernel
theorem dX11_isLegs_9 : decode cX11_isLegs 9 = .ok (.ireturn, 1) := by decide +kernel
theorem dX11_isOne_0 : decode cX11_isOne 0 = .ok (.iload_n 1, 1) := by decide +kernel
theorem dX11_isOne_1 : decode cX11_isOne 1 = .ok (.i2l, 1) := by decide +kernel
theorem dX11_isOne_10 : decode cX11_isOne 10 = .ok (.invokestatic 56, 3) := by decide +kernel
theorem dX11_isOne_13 : decode cX11_isOne 13 = .ok (.ireturn, 1) := by decide +kernel
theorem dX11_isOne_2 : decode cX11_isOne 2 = .ok (.lconst 0, 1) := by decide +kernel
theorem dX11_isOne_3 : decode cX11_isOne 3 = .ok (.aload_n 0, 1) := by decide +kernel
theorem dX11_isOne_4 : decode cX11_isOne 4 = .ok (.invokevirtual 52, 3) := by decide +kernel
theorem dX11_isOne_7 : decode cX11_isOne 7 = .ok (.iconst 1, 1) := by decide +kernel
theorem dX11_isOne_8 : decode cX11_isOne 8 = .ok (.isub, 1) := by decide +kernel
theorem dX11_isOne_9 : decode cX11_isOne 9 = .ok (.i2l, 1) := by decide +kernel
theorem dX11_isSpeed_0 : decode cX11_isSpeed 0 = .ok (.iload_n 0, 1) := by decide +kernel
theorem dX11_isSpeed_1 : decode cX11_isSpeed 1 = .ok (.i2l, 1) := by decide +kernel
theorem dX11_isSpeed_2 : decode cX11_isSpeed 2 = .ok (.lconst 0, 1) := by decide +kernel
theorem dX11_isSpeed_3 : decode cX11_isSpeed 3 = .ok (.ldc2_w 62, 3) := by decide +kernel
theorem dX11_isSpeed_6 : decode cX11_isSpeed 6 = .ok (.invokestatic 56, 3) := by decide +kernel
theorem dX11_isSpeed_9 : decode cX11_isSpeed 9 = .ok (.ireturn, 1) := by decide +kernel
theorem dX11_layHand_0 : decode cX11_layHand 0 = .ok (.iconst 0, 1) := by decide +kernel
theorem dX11_layHand_1 : decode cX11_layHand 1 = .ok (.istore_n 1, 1) := by decide +kernel
theorem dX11_layHand_12 : decode cX11_layHand 12 = .ok (.iload_n 1, 1) := by decide +kernel
theorem dX11_layHand_13 : decode cX11_layHand 13 = .ok (.aload_n 0, 1) := by decide +kernel
theorem dX11_layHand_14 : decode cX11_layHand 14 = .ok (.getfield 7, 3) := by decide +kernel
theorem dX11_layHand_17 : decode cX11_layHand 17 = .ok (.iload_n 1, 1) := by decide +kernel
theorem dX11_layHand_18 : decode cX11_layHand 18 = .ok (.iaload, 1) := by decide +kernel
theorem dX11_layHand_19 : decode cX11_layHand 19 = .ok (.iastore, 1) := by decide +kernel
theorem dX11_layHand_2 : decode cX11_layHand 2 = .ok (.iload_n 1, 1) := by decide +kernel
theorem dX11_layHand_20 : decode cX11_layHand 20 = .ok (.iinc 1 1, 3) := by decide +kernel
theorem dX11_layHand_23 : decode cX11_layHand 23 = .ok (.goto (-21), 3) := by decide +kernel
theorem dX11_layHand_26 : decode cX11_layHand 26 = .ok (.return_, 1) := by decide +kernel
theorem dX11_layHand_3 : decode cX11_layHand 3 = .ok (.bipush 55, 2) := by decide +kernel
theorem dX11_layHand_5 : decode cX11_layHand 5 = .ok (.if_icmp .ge 21, 3) := by decide +kernel
theorem dX11_layHand_8 : decode cX11_layHand 8 = .ok (.aload_n 0, 1) := by decide +kernel
theorem dX11_layHand_9 : decode cX11_layHand 9 = .ok (.getfield 27, 3) := by decide +kernel
theorem dX11_manyHome_0 : decode cX11_manyHome 0 = .ok (.iconst 0, 1) := by decide +kernel
theorem dX11_manyHome_1 : decode cX11_manyHome 1 = .ok (.istore_n 1, 1) := by decide +kernel
theorem dX11_manyHome_11 : decode cX11_manyHome 11 = .ok (.iload_n 1, 1) := by decide +kernel
theorem dX11_manyHome_12 : decode cX11_manyHome 12 = .ok (.aload_n 0, 1) := by decide +kernel
theorem dX11_manyHome_13 : decode cX11_manyHome 13 = .ok (.iload_n 2, 1) := by decide +kernel
theorem dX11_manyHome_14 : decode cX11_manyHome 14 = .ok (.invokestatic 101, 3) := by decide +kernel
theorem dX11_manyHome_17 : decode cX11_manyHome 17 = .ok (.ifCond .eq 7, 3) := by decide +kernel
theorem dX11_manyHome_2 : decode cX11_manyHome 2 = .ok (.iconst 0, 1) := by decide +kernel
theorem dX11_manyHome_20 : decode cX11_manyHome 20 = .ok (.iconst 1, 1) := by decide +kernel
theorem dX11_manyHome_21 : decode cX11_manyHome 21 = .ok (.goto 4, 3) := by decide +kernel
theorem dX11_manyHome_24 : decode cX11_manyHome 24 = .ok (.iconst 0, 1) := by decide +kernel
theorem dX11_manyHome_25 : decode cX11_manyHome 25 = .ok (.iadd, 1) := by decide +kernel
theorem dX11_manyHome_26 : decode cX11_manyHome 26 = .ok (.istore_n 1, 1) := by decide +kernel
theorem dX11_manyHome_27 : decode cX11_manyHome 27 = .ok (.iinc 2 1, 3) := by decide +kernel
theorem dX11_manyHome_3 : decode cX11_manyHome 3 = .ok (.istore_n 2, 1) := by decide +kernel
theorem dX11_manyHome_30 : decode cX11_manyHome 30 = .ok (.goto (-26), 3) := by decide +kernel
theorem dX11_manyHome_33 : decode cX11_manyHome 33 = .ok (.iload_n 1, 1) := by decide +kernel
theorem dX11_manyHome_34 : decode cX11_manyHome 34 = .ok (.ireturn, 1) := by decide +kernel
theorem dX11_manyHome_4 : decode cX11_manyHome 4 = .ok (.iload_n 2, 1) := by decide +kernel
theorem dX11_manyHome_5 : decode cX11_manyHome 5 = .ok (.aload_n 0, 1) := by decide +kernel
theorem dX11_manyHome_6 : decode cX11_manyHome 6 = .ok (.iconst 0, 1) := by decide +kernel
theorem dX11_manyHome_7 : decode cX11_manyHome 7 = .ok (.iaload, 1) := by decide +kernel
theorem dX11_manyHome_8 : decode cX11_manyHome 8 = .ok (.if_icmp .ge 25, 3) := by decide +kernel
theorem dX11_many_0 : decode cX11_many 0 = .ok (.aload_n 0, 1) := by decide +kernel
theorem dX11_many_1 : decode cX11_many 1 = .ok (.getfield 7, 3) := by decide +kernel
theorem dX11_many_4 : decode cX11_many 4 = .ok (.iconst 0, 1) := by decide +kernel
theorem dX11_many_5 : decode cX11_many 5 = .ok (.iaload, 1) := by decide +kernel
theorem dX11_many_6 : decode cX11_many 6 = .ok (.ireturn, 1) := by decide +kernel
theorem dX11_mayAs_0 : decode cX11_mayAs 0 = .ok (.iload_n 1, 1) := by decide +kernel
theorem dX11_mayAs_1 : decode cX11_mayAs 1 = .ok (.iconst 2, 1) := by decide +kernel
theorem dX11_mayAs_11 : decode cX11_mayAs 11 = .ok (.iconst 4, 1) := by decide +kernel
theorem dX11_mayAs_12 : decode cX11_mayAs 12 = .ok (.istore_n 2, 1) := by decide +kernel
theorem dX11_mayAs_13 : decode cX11_mayAs 13 = .ok (.iload_n 0, 1) := by decide +kernel
theorem dX11_mayAs_14 : decode cX11_mayAs 14 = .ok (.tableswitch 67 1 5 #[34, 36, 38, 50, 54], 34) := by decide +kernel
theorem dX11_mayAs_2 : decode cX11_mayAs 2 = .ok (.irem, 1) := by decide +kernel
theorem dX11_mayAs_3 : decode cX11_mayAs 3 = .ok (.iconst 1, 1) := by decide +kernel
theorem dX11_mayAs_4 : decode cX11_mayAs 4 = .ok (.if_icmp .ne 7, 3) := by decide +kernel
theorem dX11_mayAs_48 : decode cX11_mayAs 48 = .ok (.iconst 5, 1) := by decide +kernel
theorem dX11_mayAs_49 : decode cX11_mayAs 49 = .ok (.ireturn, 1) := by decide +kernel
theorem dX11_mayAs_50 : decode cX11_mayAs 50 = .ok (.iload_n 2, 1) := by decide +kernel
theorem dX11_mayAs_51 : decode cX11_mayAs 51 = .ok (.ireturn, 1) := by decide +kernel
theorem dX11_mayAs_52 : decode cX11_mayAs 52 = .ok (.iload_n 1, 1) := by decide +kernel
theorem dX11_mayAs_53 : decode cX11_mayAs 53 = .ok (.iconst 3, 1) := by decide +kernel
theorem dX11_mayAs_54 : decode cX11_mayAs 54 = .ok (.if_icmp .ge 8, 3) := by decide +kernel
theorem dX11_mayAs_57 : decode cX11_mayAs 57 = .ok (.bipush 8, 2) := by decide +kernel
theorem dX11_mayAs_59 : decode cX11_mayAs 59 = .ok (.goto 4, 3) := by decide +kernel
theorem dX11_mayAs_62 : decode cX11_mayAs 62 = .ok (.iconst 5, 1) := by decide +kernel
theorem dX11_mayAs_63 : decode cX11_mayAs 63 = .ok (.ireturn, 1) := by decide +kernel
theorem dX11_mayAs_64 : decode cX11_mayAs 64 = .ok (.iload_n 2, 1) := by decide +kernel
theorem dX11_mayAs_65 : decode cX11_mayAs 65 = .ok (.iconst 1, 1) := by decide +kernel
theorem dX11_mayAs_66 : decode cX11_mayAs 66 = .ok (.isub, 1) := by decide +kernel
theorem dX11_mayAs_67 : decode cX11_mayAs 67 = .ok (.ireturn, 1) := by decide +kernel
theorem dX11_mayAs_68 : decode cX11_mayAs 68 = .ok (.iload_n 1, 1) := by decide +kernel
theorem dX11_mayAs_69 : decode cX11_mayAs 69 = .ok (.iconst 4, 1) := by decide +kernel
theorem dX11_mayAs_7 : decode cX11_mayAs 7 = .ok (.iconst 3, 1) := by decide +kernel
theorem dX11_mayAs_70 : decode cX11_mayAs 70 = .ok (.irem, 1) := by decide +kernel
theorem dX11_mayAs_71 : decode cX11_mayAs 71 = .ok (.ifCond .ne 8, 3) := by decide +kernel
theorem dX11_mayAs_74 : decode cX11_mayAs 74 = .ok (.bipush 7, 2) := by decide +kernel
theorem dX11_mayAs_76 : decode cX11_mayAs 76 = .ok (.goto 4, 3) := by decide +kernel
theorem dX11_mayAs_79 : decode cX11_mayAs 79 = .ok (.iconst 5, 1) := by decide +kernel
theorem dX11_mayAs_8 : decode cX11_mayAs 8 = .ok (.goto 4, 3) := by decide +kernel
theorem dX11_mayAs_80 : decode cX11_mayAs 80 = .ok (.ireturn, 1) := by decide +kernel
theorem dX11_mayAs_81 : decode cX11_mayAs 81 = .ok (.iconst 4, 1) := by decide +kernel
theorem dX11_mayAs_82 : decode cX11_mayAs 82 = .ok (.ireturn, 1) := by decide +kernel
theorem dX11_no_0 : decode cX11_no 0 = .ok (.aload_n 0, 1) := by decide +kernel
theorem dX11_no_1 : decode cX11_no 1 = .ok (.getfield 20, 3) := by decide +kernel
theorem dX11_no_10 : decode cX11_no 10 = .ok (.bipush (-3), 2) := by decide +kernel
theorem dX11_no_12 : decode cX11_no 12 = .ok (.ireturn, 1) := by decide +kernel
theorem dX11_no_4 : decode cX11_no 4 = .ok (.iconst 1, 1) := by decide +kernel
theorem dX11_no_5 : decode cX11_no 5 = .ok (.dup2, 1) := by decide +kernel
theorem dX11_no_6 : decode cX11_no 6 = .ok (.iaload, 1) := by decide +kernel
theorem dX11_no_7 : decode cX11_no 7 = .ok (.iconst 1, 1) := by decide +kernel
theorem dX11_no_8 : decode cX11_no 8 = .ok (.iadd, 1) := by decide +kernel
theorem dX11_no_9 : decode cX11_no 9 = .ok (.iastore, 1) := by decide +kernel
theorem dX11_of_0 : decode cX11_of 0 = .ok (.aload_n 0, 1) := by decide +kernel
theorem dX11_of_1 : decode cX11_of 1 = .ok (.iload_n 1, 1) := by decide +kernel
theorem dX11_of_10 : decode cX11_of 10 = .ok (.lconst 0, 1) := by decide +kernel
theorem dX11_of_11 : decode cX11_of 11 = .ok (.ldc2_w 62, 3) := by decide +kernel
theorem dX11_of_14 : decode cX11_of 14 = .ok (.invokestatic 56, 3) := by decide +kernel
theorem dX11_of_17 : decode cX11_of 17 = .ok (.ifCond .eq 12, 3) := by decide +kernel
theorem dX11_of_2 : decode cX11_of 2 = .ok (.invokevirtual 123, 3) := by decide +kernel
theorem dX11_of_20 : decode cX11_of 20 = .ok (.aload_n 0, 1) := by decide +kernel
theorem dX11_of_21 : decode cX11_of 21 = .ok (.iload_n 1, 1) := by decide +kernel
theorem dX11_of_22 : decode cX11_of 22 = .ok (.iload_n 2, 1) := by decide +kernel
theorem dX11_of_23 : decode cX11_of 23 = .ok (.invokevirtual 134, 3) := by decide +kernel
theorem dX11_of_26 : decode cX11_of 26 = .ok (.goto 9, 3) := by decide +kernel
theorem dX11_of_29 : decode cX11_of 29 = .ok (.aload_n 0, 1) := by decide +kernel
theorem dX11_of_30 : decode cX11_of 30 = .ok (.bipush (-2), 2) := by decide +kernel
theorem dX11_of_32 : decode cX11_of 32 = .ok (.invokevirtual 68, 3) := by decide +kernel
theorem dX11_of_35 : decode cX11_of 35 = .ok (.ireturn, 1) := by decide +kernel
theorem dX11_of_5 : decode cX11_of 5 = .ok (.ifCond .eq 24, 3) := by decide +kernel
theorem dX11_of_8 : decode cX11_of 8 = .ok (.iload_n 2, 1) := by decide +kernel
theorem dX11_of_9 : decode cX11_of 9 = .ok (.i2l, 1) := by decide +kernel
theorem dX11_runsAs_0 : decode cX11_runsAs 0 = .ok (.iload_n 2, 1) := by decide +kernel
theorem dX11_runsAs_1 : decode cX11_runsAs 1 = .ok (.iload_n 1, 1) := by decide +kernel
theorem dX11_runsAs_10 : decode cX11_runsAs 10 = .ok (.istore 4, 2) := by decide +kernel
theorem dX11_runsAs_100 : decode cX11_runsAs 100 = .ok (.iadd, 1) := by decide +kernel
theorem dX11_runsAs_101 : decode cX11_runsAs 101 = .ok (.goto 5, 3) := by decide +kernel
theorem dX11_runsAs_104 : decode cX11_runsAs 104 = .ok (.iload 5, 2) := by decide +kernel
theorem dX11_runsAs_106 : decode cX11_runsAs 106 = .ok (.ireturn, 1) := by decide +kernel
theorem dX11_runsAs_107 : decode cX11_runsAs 107 = .ok (.iload 4, 2) := by decide +kernel
theorem dX11_runsAs_109 : decode cX11_runsAs 109 = .ok (.iconst 1, 1) := by decide +kernel
theorem dX11_runsAs_110 : decode cX11_runsAs 110 = .ok (.iadd, 1) := by decide +kernel
theorem dX11_runsAs_111 : decode cX11_runsAs 111 = .ok (.iconst 2, 1) := by decide +kernel
theorem dX11_runsAs_112 : decode cX11_runsAs 112 = .ok (.idiv, 1) := by decide +kernel
theorem dX11_runsAs_113 : decode cX11_runsAs 113 = .ok (.ireturn, 1) := by decide +kernel
theorem dX11_runsAs_114 : decode cX11_runsAs 114 = .ok (.iload_n 3, 1) := by decide +kernel
theorem dX11_runsAs_115 : decode cX11_runsAs 115 = .ok (.iconst 2, 1) := by decide +kernel
theorem dX11_runsAs_116 : decode cX11_runsAs 116 = .ok (.irem, 1) := by decide +kernel
theorem dX11_runsAs_117 : decode cX11_runsAs 117 = .ok (.iconst 1, 1) := by decide +kernel
theorem dX11_runsAs_118 : decode cX11_runsAs 118 = .ok (.if_icmp .ne 10, 3) := by decide +kernel
theorem dX11_runsAs_12 : decode cX11_runsAs 12 = .ok (.iload_n 2, 1) := by decide +kernel
theorem dX11_runsAs_121 : decode cX11_runsAs 121 = .ok (.iload 6, 2) := by decide +kernel
theorem dX11_runsAs_123 : decode cX11_runsAs 123 = .ok (.iconst 2, 1) := by decide +kernel
theorem dX11_runsAs_124 : decode cX11_runsAs 124 = .ok (.iadd, 1) := by decide +kernel
theorem dX11_runsAs_125 : decode cX11_runsAs 125 = .ok (.goto 5, 3) := by decide +kernel
theorem dX11_runsAs_128 : decode cX11_runsAs 128 = .ok (.iload 6, 2) := by decide +kernel
theorem dX11_runsAs_13 : decode cX11_runsAs 13 = .ok (.iconst 5, 1) := by decide +kernel
theorem dX11_runsAs_130 : decode cX11_runsAs 130 = .ok (.ireturn, 1) := by decide +kernel
theorem dX11_runsAs_131 : decode cX11_runsAs 131 = .ok (.iload 4, 2) := by decide +kernel
theorem dX11_runsAs_133 : decode cX11_runsAs 133 = .ok (.ireturn, 1) := by decide +kernel
theorem dX11_runsAs_14 : decode cX11_runsAs 14 = .ok (.if_icmp .lt 10, 3) := by decide +kernel
theorem dX11_runsAs_17 : decode cX11_runsAs 17 = .ok (.iload 4, 2) := by decide +kernel
theorem dX11_runsAs_19 : decode cX11_runsAs 19 = .ok (.iconst 1, 1) := by decide +kernel
theorem dX11_runsAs_2 : decode cX11_runsAs 2 = .ok (.if_icmp .ge 7, 3) := by decide +kernel
theorem dX11_runsAs_20 : decode cX11_runsAs 20 = .ok (.iadd, 1) := by decide +kernel
theorem dX11_runsAs_21 : decode cX11_runsAs 21 = .ok (.goto 5, 3) := by decide +kernel
theorem dX11_runsAs_24 : decode cX11_runsAs 24 = .ok (.iload 4, 2) := by decide +kernel
theorem dX11_runsAs_26 : decode cX11_runsAs 26 = .ok (.istore 5, 2) := by decide +kernel
theorem dX11_runsAs_28 : decode cX11_runsAs 28 = .ok (.iload 4, 2) := by decide +kernel
theorem dX11_runsAs_30 : decode cX11_runsAs 30 = .ok (.iload_n 3, 1) := by decide +kernel
theorem dX11_runsAs_31 : decode cX11_runsAs 31 = .ok (.bipush 10, 2) := by decide +kernel
theorem dX11_runsAs_33 : decode cX11_runsAs 33 = .ok (.idiv, 1) := by decide +kernel
theorem dX11_runsAs_34 : decode cX11_runsAs 34 = .ok (.if_icmp .le 13, 3) := by decide +kernel
theorem dX11_runsAs_37 : decode cX11_runsAs 37 = .ok (.iload 4, 2) := by decide +kernel
theorem dX11_runsAs_39 : decode cX11_runsAs 39 = .ok (.iload_n 3, 1) := by decide +kernel
theorem dX11_runsAs_40 : decode cX11_runsAs 40 = .ok (.bipush 10, 2) := by decide +kernel
theorem dX11_runsAs_42 : decode cX11_runsAs 42 = .ok (.idiv, 1) := by decide +kernel
theorem dX11_runsAs_43 : decode cX11_runsAs 43 = .ok (.isub, 1) := by decide +kernel
theorem dX11_runsAs_44 : decode cX11_runsAs 44 = .ok (.goto 4, 3) := by decide +kernel
theorem dX11_runsAs_47 : decode cX11_runsAs 47 = .ok (.iconst 0, 1) := by decide +kernel
theorem dX11_runsAs_48 : decode cX11_runsAs 48 = .ok (.istore 6, 2) := by decide +kernel
theorem dX11_runsAs_5 : decode cX11_runsAs 5 = .ok (.iload_n 2, 1) := by decide +kernel
theorem dX11_runsAs_50 : decode cX11_runsAs 50 = .ok (.iload_n 0, 1) := by decide +kernel
theorem dX11_runsAs_51 : decode cX11_runsAs 51 = .ok (.tableswitch 80 1 5 #[33, 36, 39, 56, 63], 33) := by decide +kernel
theorem dX11_runsAs_6 : decode cX11_runsAs 6 = .ok (.goto 4, 3) := by decide +kernel
theorem dX11_runsAs_84 : decode cX11_runsAs 84 = .ok (.iload 5, 2) := by decide +kernel
theorem dX11_runsAs_86 : decode cX11_runsAs 86 = .ok (.ireturn, 1) := by decide +kernel
theorem dX11_runsAs_87 : decode cX11_runsAs 87 = .ok (.iload 6, 2) := by decide +kernel
theorem dX11_runsAs_89 : decode cX11_runsAs 89 = .ok (.ireturn, 1) := by decide +kernel
theorem dX11_runsAs_9 : decode cX11_runsAs 9 = .ok (.iload_n 1, 1) := by decide +kernel
theorem dX11_runsAs_90 : decode cX11_runsAs 90 = .ok (.iload_n 3, 1) := by decide +kernel
theorem dX11_runsAs_91 : decode cX11_runsAs 91 = .ok (.iconst 5, 1) := by decide +kernel
theorem dX11_runsAs_92 : decode cX11_runsAs 92 = .ok (.irem, 1) := by decide +kernel
theorem dX11_runsAs_93 : decode cX11_runsAs 93 = .ok (.iconst 4, 1) := by decide +kernel
theorem dX11_runsAs_94 : decode cX11_runsAs 94 = .ok (.if_icmp .ne 10, 3) := by decide +kernel
theorem dX11_runsAs_97 : decode cX11_runsAs 97 = .ok (.iload 5, 2) := by decide +kernel
theorem dX11_runsAs_99 : decode cX11_runsAs 99 = .ok (.iconst 3, 1) := by decide +kernel
theorem dX11_runsOf_0 : decode cX11_runsOf 0 = .ok (.aload_n 0, 1) := by decide +kernel
theorem dX11_runsOf_1 : decode cX11_runsOf 1 = .ok (.bipush 37, 2) := by decide +kernel
theorem dX11_runsOf_10 : decode cX11_runsOf 10 = .ok (.iadd, 1) := by decide +kernel
theorem dX11_runsOf_11 : decode cX11_runsOf 11 = .ok (.iaload, 1) := by decide +kernel
theorem dX11_runsOf_12 : decode cX11_runsOf 12 = .ok (.aload_n 0, 1) := by decide +kernel
theorem dX11_runsOf_13 : decode cX11_runsOf 13 = .ok (.bipush 11, 2) := by decide +kernel
theorem dX11_runsOf_15 : decode cX11_runsOf 15 = .ok (.iload_n 1, 1) := by decide +kernel
theorem dX11_runsOf_16 : decode cX11_runsOf 16 = .ok (.iadd, 1) := by decide +kernel
theorem dX11_runsOf_17 : decode cX11_runsOf 17 = .ok (.iaload, 1) := by decide +kernel
theorem dX11_runsOf_18 : decode cX11_runsOf 18 = .ok (.iload_n 2, 1) := by decide +kernel
theorem dX11_runsOf_19 : decode cX11_runsOf 19 = .ok (.invokestatic 86, 3) := by decide +kernel
theorem dX11_runsOf_22 : decode cX11_runsOf 22 = .ok (.ireturn, 1) := by decide +kernel
theorem dX11_runsOf_3 : decode cX11_runsOf 3 = .ok (.iload_n 1, 1) := by decide +kernel
theorem dX11_runsOf_4 : decode cX11_runsOf 4 = .ok (.iadd, 1) := by decide +kernel
theorem dX11_runsOf_5 : decode cX11_runsOf 5 = .ok (.iaload, 1) := by decide +kernel
theorem dX11_runsOf_6 : decode cX11_runsOf 6 = .ok (.aload_n 0, 1) := by decide +kernel
theorem dX11_runsOf_7 : decode cX11_runsOf 7 = .ok (.bipush 43, 2) := by decide +kernel
theorem dX11_runsOf_9 : decode cX11_runsOf 9 = .ok (.iload_n 1, 1) := by decide +kernel
theorem dX11_toldOf_0 : decode cX11_toldOf 0 = .ok (.iload_n 2, 1) := by decide +kernel
theorem dX11_toldOf_1 : decode cX11_toldOf 1 = .ok (.tableswitch 163 0 8 #[51, 61, 71, 81, 91, 100, 110, 120, 145], 51) := by decide +kernel
theorem dX11_toldOf_100 : decode cX11_toldOf 100 = .ok (.ireturn, 1) := by decide +kernel
theorem dX11_toldOf_101 : decode cX11_toldOf 101 = .ok (.aload_n 0, 1) := by decide +kernel
theorem dX11_toldOf_102 : decode cX11_toldOf 102 = .ok (.getfield 7, 3) := by decide +kernel
theorem dX11_toldOf_105 : decode cX11_toldOf 105 = .ok (.bipush 17, 2) := by decide +kernel
theorem dX11_toldOf_107 : decode cX11_toldOf 107 = .ok (.iload_n 1, 1) := by decide +kernel
theorem dX11_toldOf_108 : decode cX11_toldOf 108 = .ok (.iadd, 1) := by decide +kernel
theorem dX11_toldOf_109 : decode cX11_toldOf 109 = .ok (.iaload, 1) := by decide +kernel
theorem dX11_toldOf_110 : decode cX11_toldOf 110 = .ok (.ireturn, 1) := by decide +kernel
theorem dX11_toldOf_111 : decode cX11_toldOf 111 = .ok (.aload_n 0, 1) := by decide +kernel
theorem dX11_toldOf_112 : decode cX11_toldOf 112 = .ok (.getfield 7, 3) := by decide +kernel
theorem dX11_toldOf_115 : decode cX11_toldOf 115 = .ok (.bipush 23, 2) := by decide +kernel
theorem dX11_toldOf_117 : decode cX11_toldOf 117 = .ok (.iload_n 1, 1) := by decide +kernel
theorem dX11_toldOf_118 : decode cX11_toldOf 118 = .ok (.iadd, 1) := by decide +kernel
theorem dX11_toldOf_119 : decode cX11_toldOf 119 = .ok (.iaload, 1) := by decide +kernel
theorem dX11_toldOf_120 : decode cX11_toldOf 120 = .ok (.ireturn, 1) := by decide +kernel
theorem dX11_toldOf_121 : decode cX11_toldOf 121 = .ok (.aload_n 0, 1) := by decide +kernel
theorem dX11_toldOf_122 : decode cX11_toldOf 122 = .ok (.getfield 7, 3) := by decide +kernel
theorem dX11_toldOf_125 : decode cX11_toldOf 125 = .ok (.iload_n 1, 1) := by decide +kernel
theorem dX11_toldOf_126 : decode cX11_toldOf 126 = .ok (.invokestatic 101, 3) := by decide +kernel
theorem dX11_toldOf_129 : decode cX11_toldOf 129 = .ok (.ifCond .eq 15, 3) := by decide +kernel
theorem dX11_toldOf_132 : decode cX11_toldOf 132 = .ok (.aload_n 0, 1) := by decide +kernel
theorem dX11_toldOf_133 : decode cX11_toldOf 133 = .ok (.getfield 7, 3) := by decide +kernel
theorem dX11_toldOf_136 : decode cX11_toldOf 136 = .ok (.bipush 29, 2) := by decide +kernel
theorem dX11_toldOf_138 : decode cX11_toldOf 138 = .ok (.iload_n 1, 1) := by decide +kernel
theorem dX11_toldOf_139 : decode cX11_toldOf 139 = .ok (.iadd, 1) := by decide +kernel
theorem dX11_toldOf_140 : decode cX11_toldOf 140 = .ok (.iaload, 1) := by decide +kernel
theorem dX11_toldOf_141 : decode cX11_toldOf 141 = .ok (.goto 4, 3) := by decide +kernel
theorem dX11_toldOf_144 : decode cX11_toldOf 144 = .ok (.iconst (-1), 1) := by decide +kernel
theorem dX11_toldOf_145 : decode cX11_toldOf 145 = .ok (.ireturn, 1) := by decide +kernel
theorem dX11_toldOf_146 : decode cX11_toldOf 146 = .ok (.aload_n 0, 1) := by decide +kernel
theorem dX11_toldOf_147 : decode cX11_toldOf 147 = .ok (.getfield 7, 3) := by decide +kernel
theorem dX11_toldOf_150 : decode cX11_toldOf 150 = .ok (.iload_n 1, 1) := by decide +kernel
theorem dX11_toldOf_151 : decode cX11_toldOf 151 = .ok (.aload_n 0, 1) := by decide +kernel
theorem dX11_toldOf_152 : decode cX11_toldOf 152 = .ok (.getfield 7, 3) := by decide +kernel
theorem dX11_toldOf_155 : decode cX11_toldOf 155 = .ok (.bipush 35, 2) := by decide +kernel
theorem dX11_toldOf_157 : decode cX11_toldOf 157 = .ok (.iaload, 1) := by decide +kernel
theorem dX11_toldOf_158 : decode cX11_toldOf 158 = .ok (.iconst 1, 1) := by decide +kernel
theorem dX11_toldOf_159 : decode cX11_toldOf 159 = .ok (.iadd, 1) := by decide +kernel
theorem dX11_toldOf_160 : decode cX11_toldOf 160 = .ok (.invokestatic 90, 3) := by decide +kernel
theorem dX11_toldOf_163 : decode cX11_toldOf 163 = .ok (.ireturn, 1) := by decide +kernel
theorem dX11_toldOf_164 : decode cX11_toldOf 164 = .ok (.aload_n 0, 1) := by decide +kernel
theorem dX11_toldOf_165 : decode cX11_toldOf 165 = .ok (.getfield 7, 3) := by decide +kernel
theorem dX11_toldOf_168 : decode cX11_toldOf 168 = .ok (.bipush 49, 2) := by decide +kernel
theorem dX11_toldOf_170 : decode cX11_toldOf 170 = .ok (.iload_n 1, 1) := by decide +kernel
theorem dX11_toldOf_171 : decode cX11_toldOf 171 = .ok (.iadd, 1) := by decide +kernel
theorem dX11_toldOf_172 : decode cX11_toldOf 172 = .ok (.iaload, 1) := by decide +kernel
theorem dX11_toldOf_173 : decode cX11_toldOf 173 = .ok (.aload_n 0, 1) := by decide +kernel
theorem dX11_toldOf_174 : decode cX11_toldOf 174 = .ok (.getfield 7, 3) := by decide +kernel
theorem dX11_toldOf_177 : decode cX11_toldOf 177 = .ok (.bipush 35, 2) := by decide +kernel
theorem dX11_toldOf_179 : decode cX11_toldOf 179 = .ok (.iaload, 1) := by decide +kernel
theorem dX11_toldOf_180 : decode cX11_toldOf 180 = .ok (.iconst 1, 1) := by decide +kernel
theorem dX11_toldOf_181 : decode cX11_toldOf 181 = .ok (.iadd, 1) := by decide +kernel
theorem dX11_toldOf_182 : decode cX11_toldOf 182 = .ok (.invokestatic 94, 3) := by decide +kernel
theorem dX11_toldOf_185 : decode cX11_toldOf 185 = .ok (.ireturn, 1) := by decide +kernel
theorem dX11_toldOf_52 : decode cX11_toldOf 52 = .ok (.aload_n 0, 1) := by decide +kernel
theorem dX11_toldOf_53 : decode cX11_toldOf 53 = .ok (.getfield 7, 3) := by decide +kernel
theorem dX11_toldOf_56 : decode cX11_toldOf 56 = .ok (.bipush 37, 2) := by decide +kernel
theorem dX11_toldOf_58 : decode cX11_toldOf 58 = .ok (.iload_n 1, 1) := by decide +kernel
theorem dX11_toldOf_59 : decode cX11_toldOf 59 = .ok (.iadd, 1) := by decide +kernel
theorem dX11_toldOf_60 : decode cX11_toldOf 60 = .ok (.iaload, 1) := by decide +kernel
theorem dX11_toldOf_61 : decode cX11_toldOf 61 = .ok (.ireturn, 1) := by decide +kernel
theorem dX11_toldOf_62 : decode cX11_toldOf 62 = .ok (.aload_n 0, 1) := by decide +kernel
theorem dX11_toldOf_63 : decode cX11_toldOf 63 = .ok (.getfield 7, 3) := by decide +kernel
theorem dX11_toldOf_66 : decode cX11_toldOf 66 = .ok (.bipush 43, 2) := by decide +kernel
theorem dX11_toldOf_68 : decode cX11_toldOf 68 = .ok (.iload_n 1, 1) := by decide +kernel
theorem dX11_toldOf_69 : decode cX11_toldOf 69 = .ok (.iadd, 1) := by decide +kernel
theorem dX11_toldOf_70 : decode cX11_toldOf 70 = .ok (.iaload, 1) := by decide +kernel
theorem dX11_toldOf_71 : decode cX11_toldOf 71 = .ok (.ireturn, 1) := by decide +kernel
theorem dX11_toldOf_72 : decode cX11_toldOf 72 = .ok (.aload_n 0, 1) := by decide +kernel
theorem dX11_toldOf_73 : decode cX11_toldOf 73 = .ok (.getfield 7, 3) := by decide +kernel
theorem dX11_toldOf_76 : decode cX11_toldOf 76 = .ok (.bipush 49, 2) := by decide +kernel
theorem dX11_toldOf_78 : decode cX11_toldOf 78 = .ok (.iload_n 1, 1) := by decide +kernel
theorem dX11_toldOf_79 : decode cX11_toldOf 79 = .ok (.iadd, 1) := by decide +kernel
theorem dX11_toldOf_80 : decode cX11_toldOf 80 = .ok (.iaload, 1) := by decide +kernel
theorem dX11_toldOf_81 : decode cX11_toldOf 81 = .ok (.ireturn, 1) := by decide +kernel
theorem dX11_toldOf_82 : decode cX11_toldOf 82 = .ok (.aload_n 0, 1) := by decide +kernel
theorem dX11_toldOf_83 : decode cX11_toldOf 83 = .ok (.getfield 7, 3) := by decide +kernel
theorem dX11_toldOf_86 : decode cX11_toldOf 86 = .ok (.bipush 11, 2) := by decide +kernel
theorem dX11_toldOf_88 : decode cX11_toldOf 88 = .ok (.iload_n 1, 1) := by decide +kernel
theorem dX11_toldOf_89 : decode cX11_toldOf 89 = .ok (.iadd, 1) := by decide +kernel
theorem dX11_toldOf_90 : decode cX11_toldOf 90 = .ok (.iaload, 1) := by decide +kernel
theorem dX11_toldOf_91 : decode cX11_toldOf 91 = .ok (.ireturn, 1) := by decide +kernel
theorem dX11_toldOf_92 : decode cX11_toldOf 92 = .ok (.aload_n 0, 1) := by decide +kernel
theorem dX11_toldOf_93 : decode cX11_toldOf 93 = .ok (.getfield 7, 3) := by decide +kernel
theorem dX11_toldOf_96 : decode cX11_toldOf 96 = .ok (.iconst 5, 1) := by decide +kernel
theorem dX11_toldOf_97 : decode cX11_toldOf 97 = .ok (.iload_n 1, 1) := by decide +kernel
theorem dX11_toldOf_98 : decode cX11_toldOf 98 = .ok (.iadd, 1) := by decide +kernel
theorem dX11_toldOf_99 : decode cX11_toldOf 99 = .ok (.iaload, 1) := by decide +kernel
theorem dX11_where_0 : decode cX11_where 0 = .ok (.aload_n 0, 1) := by decide +kernel
theorem dX11_where_1 : decode cX11_where 1 = .ok (.iload_n 1, 1) := by decide +kernel
theorem dX11_where_10 : decode cX11_where 10 = .ok (.lconst 0, 1) := by decide +kernel
theorem dX11_where_11 : decode cX11_where 11 = .ok (.ldc2_w 66, 3) := by decide +kernel
theorem dX11_where_14 : decode cX11_where 14 = .ok (.invokestatic 56, 3) := by decide +kernel
theorem dX11_where_17 : decode cX11_where 17 = .ok (.ifCond .ne 10, 3) := by decide +kernel
theorem dX11_where_2 : decode cX11_where 2 = .ok (.invokevirtual 123, 3) := by decide +kernel
theorem dX11_where_20 : decode cX11_where 20 = .ok (.aload_n 0, 1) := by decide +kernel
theorem dX11_where_21 : decode cX11_where 21 = .ok (.bipush (-2), 2) := by decide +kernel
theorem dX11_where_23 : decode cX11_where 23 = .ok (.invokevirtual 68, 3) := by decide +kernel
theorem dX11_where_26 : decode cX11_where 26 = .ok (.ireturn, 1) := by decide +kernel
theorem dX11_where_27 : decode cX11_where 27 = .ok (.aload_n 0, 1) := by decide +kernel
theorem dX11_where_28 : decode cX11_where 28 = .ok (.invokevirtual 137, 3) := by decide +kernel
theorem dX11_where_31 : decode cX11_where 31 = .ok (.aload_n 0, 1) := by decide +kernel
theorem dX11_where_32 : decode cX11_where 32 = .ok (.iload_n 2, 1) := by decide +kernel
theorem dX11_where_33 : decode cX11_where 33 = .ok (.invokevirtual 140, 3) := by decide +kernel
theorem dX11_where_36 : decode cX11_where 36 = .ok (.aload_n 0, 1) := by decide +kernel
theorem dX11_where_37 : decode cX11_where 37 = .ok (.getfield 27, 3) := by decide +kernel
theorem dX11_where_40 : decode cX11_where 40 = .ok (.iconst 5, 1) := by decide +kernel
theorem dX11_where_41 : decode cX11_where 41 = .ok (.iload_n 1, 1) := by decide +kernel
theorem dX11_where_42 : decode cX11_where 42 = .ok (.iadd, 1) := by decide +kernel
theorem dX11_where_43 : decode cX11_where 43 = .ok (.iaload, 1) := by decide +kernel
theorem dX11_where_44 : decode cX11_where 44 = .ok (.ireturn, 1) := by decide +kernel
theorem dX11_where_5 : decode cX11_where 5 = .ok (.ifCond .eq 15, 3) := by decide +kernel
theorem dX11_where_8 : decode cX11_where 8 = .ok (.iload_n 2, 1) := by decide +kernel
theorem dX11_where_9 : decode cX11_where 9 = .ok (.i2l, 1) := by decide +kernel
set_option maxHeartbeats 4000000 in
set_option maxRecDepth 100000 in
/-- in -/
theorem m_in (l : Launch) (X : EX) (v : Int32) (lo : Int32) (hi : Int32) (sz : Nat) : Met l yX11_in wsX11_in ({ frames := 0, cells := 0, slots := 0, locals := 0 } : Room) (pE X [.long (Int32.toInt64 v), .long (Int32.toInt64 lo), .long (Int32.toInt64 hi)] ([]) sz) (qI (fun (r : Int32) (u : Unit) => (r = 1 ∧ (lo ≤ v ∧ v ≤ hi)) ∨ (r = 0 ∧ ¬ (lo ≤ v ∧ v ≤ hi))) X (fun (u : Unit) => []) [] sz) 0 0 (va_A [] sz) := by
  refine mk_met (B := (fun _ => True)) (A := (va_A [] sz)) (cc := cX11_in) (maxL := 6) (ret := (some .boolean)) (by decide) rfl (Nat.le_of_ble_eq_true rfl) k_ro k_a (fun p e s m below meth c S zr zlk znm zsz G ls hl => ?_)
  have S : CallFix p m c cX11_in 6 s _ wsX11_in RX11 := S
  have zx := S.1
  have zb := S.2.1
  have hl : lv_has ls 6 [(0, .long (Int32.toInt64 v)), (2, .long (Int32.toInt64 lo)), (4, .long (Int32.toInt64 hi))] := hl
  refine lv_lload_n zx zb dX11_in_0 rfl (lv_at hl 0 rfl) ?_
  refine lv_lload_n zx zb dX11_in_1 rfl (lv_at hl 1 rfl) ?_
  refine W.lcmp zx zb dX11_in_2 ?_
  refine lv_if_lt (tgt := 17) zx zb dX11_in_3 (by decide) (fun c_1 => ?_) (fun c_1 => ?_)
  · refine lv_iconst (v := 0) zx zb dX11_in_17 (by decide) ?_
    exact e_int S zr zlk (by decide) G () [] rfl rfl (Or.inl rfl) (by first | exact Or.inl ⟨rfl, Int32.not_lt.mp (fun q => c_1 (k_lc1.mpr q)), Int32.not_lt.mp (fun q => c_2 (k_lc2.mpr q))⟩ | exact Or.inr ⟨rfl, fun h => absurd (k_lc1.mp c_1) (Int32.not_lt.mpr h.1)⟩ | exact Or.inr ⟨rfl, fun h => absurd (k_lc2.mp c_2) (Int32.not_lt.mpr h.2)⟩) dX11_in_18
  · refine lv_lload_n zx zb dX11_in_6 rfl (lv_at hl 0 rfl) ?_
    refine lv_lload zx zb dX11_in_7 (lv_at hl 2 rfl) ?_
    refine W.lcmp zx zb dX11_in_9 ?_
    refine lv_if_gt (tgt := 17) zx zb dX11_in_10 (by decide) (fun c_2 => ?_) (fun c_2 => ?_)
    · refine lv_iconst (v := 0) zx zb dX11_in_17 (by decide) ?_
      exact e_int S zr zlk (by decide) G () [] rfl rfl (Or.inl rfl) (by first | exact Or.inl ⟨rfl, Int32.not_lt.mp (fun q => c_1 (k_lc1.mpr q)), Int32.not_lt.mp (fun q => c_2 (k_lc2.mpr q))⟩ | exact Or.inr ⟨rfl, fun h => absurd (k_lc1.mp c_1) (Int32.not_lt.mpr h.1)⟩ | exact Or.inr ⟨rfl, fun h => absurd (k_lc2.mp c_2) (Int32.not_lt.mpr h.2)⟩) dX11_in_18
    · refine lv_iconst (v := 1) zx zb dX11_in_13 (by decide) ?_
      refine lv_goto (tgt := 18) zx zb dX11_in_14 (by decide) ?_
      exact e_int S zr zlk (by decide) G () [] rfl rfl (Or.inl rfl) (by first | exact Or.inl ⟨rfl, Int32.not_lt.mp (fun q => c_1 (k_lc1.mpr q)), Int32.not_lt.mp (fun q => c_2 (k_lc2.mpr q))⟩ | exact Or.inr ⟨rfl, fun h => absurd (k_lc1.mp c_1) (Int32.not_lt.mpr h.1)⟩ | exact Or.inr ⟨rfl, fun h => absurd (k_lc2.mp c_2) (Int32.not_lt.mpr h.2)⟩) dX11_in_18
theorem in_X11_bad_X11 : ∀ w ∈ wsX110, w ∈ wsX11_bad := by decide +kernel
theorem lk_X11_bad_20 : Cond.fieldLink RX11 20 "EggSpoonsModel" "refused" "[I" ∈ wsX11_bad := by decide +kernel
set_option maxHeartbeats 4000000 in
set_option maxRecDepth 100000 in
/-- bad -/
theorem m_bad (l : Launch) (X : EX) (m0 : Nat) (ma : Nat → Nat) (la : Int64) (lb : Int64) (n : Nat) (t : Nat → Nat) (v : Nat → Int32) (fr : Nat → Int32) (x : Int32) (hI_n : n ≤ 150) (hI_t : InT t) (sz : Nat) : Met l yX11_bad wsX11_bad ({ frames := 0, cells := 0, slots := 0, locals := 0 } : Room) (pE X [.ref m0, .int x] (@HAppend.hAppend va_W va_W va_W _ (mW m0 ma la lb n t v) ([((ma 3), .inl (X.2.1, 3, .inl fr))])) sz) (qI (fun (r : Int32) (u : (Nat → Int32)) => (r = x)) X (fun (u : (Nat → Int32)) => @HAppend.hAppend va_W va_W va_W _ (mW m0 ma la lb n t v) ([((ma 3), .inl (X.2.1, 3, .inl u))])) (@HAppend.hAppend va_W va_W va_W _ (mW m0 ma la lb n t v) ([((ma 3), .inl (X.2.1, 3, .inl fr))])) sz) 0 0 (va_A (@HAppend.hAppend va_W va_W va_W _ (mW m0 ma la lb n t v) ([((ma 3), .inl (X.2.1, 3, .inl fr))])) sz) := by
  refine mk_met (B := (va_A (@HAppend.hAppend va_W va_W va_W _ (mW m0 ma la lb n t v) ([((ma 3), .inl (X.2.1, 3, .inl fr))])) sz)) (A := (va_A (@HAppend.hAppend va_W va_W va_W _ (mW m0 ma la lb n t v) ([((ma 3), .inl (X.2.1, 3, .inl fr))])) sz)) (cc := cX11_bad) (maxL := 2) (ret := (some .int)) (by decide) rfl (Nat.le_of_ble_eq_true rfl) k_w k_a (fun p e s m below meth c S zr zlk znm zsz G ls hl => ?_)
  have S : CallFix p m c cX11_bad 2 s _ wsX11_bad RX11 := S
  have zx := S.1
  have zb := S.2.1
  have hl : lv_has ls 2 [(0, .ref m0), (1, .int x)] := hl
  have hO_t := hI_t
  obtain ⟨ht0_t, ht1_t⟩ := hO_t
  refine lv_aload_n zx zb dX11_bad_0 rfl (lv_at hl 0 rfl) ?_
  refine r_get (C := RX11) (T := TX11) (N := 18) (ci := 9) (v := .ref (ma 3)) S in_X11_bad_X11 G 0 rfl rfl 3 (by decide) lk_X11_bad_20 rfl dX11_bad_1 ?_
  refine lv_iconst (v := 0) zx zb dX11_bad_4 (by decide) ?_
  refine lv_dup2_11 zx zb dX11_bad_5 rfl rfl ?_
  refine r_iald S G 1 rfl (k_vp (by decide)) rfl dX11_bad_6 ?_
  refine k_itE (fun y_1 => ?_)
  refine lv_iconst (v := 1) zx zb dX11_bad_7 (by decide) ?_
  refine r_iadd (v := (y_1 + 1)) S rfl dX11_bad_8 ?_
  refine r_iast S G 1 rfl (k_vp (by decide)) dX11_bad_9 (fun H locs G => ?_)
  obtain ⟨f_2, G⟩ : ∃ f_2 : Nat → Int32, wd X (va_A (@HAppend.hAppend va_W va_W va_W _ (mW m0 ma la lb n t v) ([((ma 3), .inl (X.2.1, 3, .inl fr))])) sz) (va_A (@HAppend.hAppend va_W va_W va_W _ (mW m0 ma la lb n t v) ([((ma 3), .inl (X.2.1, 3, .inl fr))])) sz) s (@HAppend.hAppend va_W va_W va_W _ (mW m0 ma la lb n t v) ([((ma 3), .inl (X.2.1, 3, .inl f_2))])) H locs := ⟨_, G⟩
  refine lv_iload_n zx zb dX11_bad_10 rfl (lv_at hl 1 rfl) ?_
  exact e_int S zr zlk (vp_nar_int _) G (f_2) [0, 1] rfl rfl (Or.inr rfl) (rfl) dX11_bad_11
theorem in_X11_no_X11 : ∀ w ∈ wsX110, w ∈ wsX11_no := by decide +kernel
theorem lk_X11_no_20 : Cond.fieldLink RX11 20 "EggSpoonsModel" "refused" "[I" ∈ wsX11_no := by decide +kernel
set_option maxHeartbeats 4000000 in
set_option maxRecDepth 100000 in
/-- no -/
theorem m_no (l : Launch) (X : EX) (m0 : Nat) (ma : Nat → Nat) (la : Int64) (lb : Int64) (n : Nat) (t : Nat → Nat) (v : Nat → Int32) (fr : Nat → Int32) (hI_n : n ≤ 150) (hI_t : InT t) (sz : Nat) : Met l yX11_no wsX11_no ({ frames := 0, cells := 0, slots := 0, locals := 0 } : Room) (pE X [.ref m0] (@HAppend.hAppend va_W va_W va_W _ (mW m0 ma la lb n t v) ([((ma 3), .inl (X.2.1, 3, .inl fr))])) sz) (qI (fun (r : Int32) (u : (Nat → Int32)) => (r = -3)) X (fun (u : (Nat → Int32)) => @HAppend.hAppend va_W va_W va_W _ (mW m0 ma la lb n t v) ([((ma 3), .inl (X.2.1, 3, .inl u))])) (@HAppend.hAppend va_W va_W va_W _ (mW m0 ma la lb n t v) ([((ma 3), .inl (X.2.1, 3, .inl fr))])) sz) 0 0 (va_A (@HAppend.hAppend va_W va_W va_W _ (mW m0 ma la lb n t v) ([((ma 3), .inl (X.2.1, 3, .inl fr))])) sz) := by
  refine mk_met (B := (va_A (@HAppend.hAppend va_W va_W va_W _ (mW m0 ma la lb n t v) ([((ma 3), .inl (X.2.1, 3, .inl fr))])) sz)) (A := (va_A (@HAppend.hAppend va_W va_W va_W _ (mW m0 ma la lb n t v) ([((ma 3), .inl (X.2.1, 3, .inl fr))])) sz)) (cc := cX11_no) (maxL := 1) (ret := (some .int)) (by decide) rfl (Nat.le_of_ble_eq_true rfl) k_w k_a (fun p e s m below meth c S zr zlk znm zsz G ls hl => ?_)
  have S : CallFix p m c cX11_no 1 s _ wsX11_no RX11 := S
  have zx := S.1
  have zb := S.2.1
  have hl : lv_has ls 1 [(0, .ref m0)] := hl
  have hO_t := hI_t
  obtain ⟨ht0_t, ht1_t⟩ := hO_t
  refine lv_aload_n zx zb dX11_no_0 rfl (lv_at hl 0 rfl) ?_
  refine r_get (C := RX11) (T := TX11) (N := 18) (ci := 9) (v := .ref (ma 3)) S in_X11_no_X11 G 0 rfl rfl 3 (by decide) lk_X11_no_20 rfl dX11_no_1 ?_
  refine lv_iconst (v := 1) zx zb dX11_no_4 (by decide) ?_
  refine lv_dup2_11 zx zb dX11_no_5 rfl rfl ?_
  refine r_iald S G 1 rfl (k_vp (by decide)) rfl dX11_no_6 ?_
  refine k_itE (fun y_1 => ?_)
  refine lv_iconst (v := 1) zx zb dX11_no_7 (by decide) ?_
  refine r_iadd (v := (y_1 + 1)) S rfl dX11_no_8 ?_
  refine r_iast S G 1 rfl (k_vp (by decide)) dX11_no_9 (fun H locs G => ?_)
  obtain ⟨f_2, G⟩ : ∃ f_2 : Nat → Int32, wd X (va_A (@HAppend.hAppend va_W va_W va_W _ (mW m0 ma la lb n t v) ([((ma 3), .inl (X.2.1, 3, .inl fr))])) sz) (va_A (@HAppend.hAppend va_W va_W va_W _ (mW m0 ma la lb n t v) ([((ma 3), .inl (X.2.1, 3, .inl fr))])) sz) s (@HAppend.hAppend va_W va_W va_W _ (mW m0 ma la lb n t v) ([((ma 3), .inl (X.2.1, 3, .inl f_2))])) H locs := ⟨_, G⟩
  refine lv_bipush (v := (-3)) zx zb dX11_no_10 (by decide) ?_
  exact e_int S zr zlk (vp_nar_int _) G (f_2) [0, 1] rfl rfl (Or.inr rfl) (rfl) dX11_no_12
theorem in_X11_full_X11 : ∀ w ∈ wsX110, w ∈ wsX11_full := by decide +kernel
theorem lk_X11_full_20 : Cond.fieldLink RX11 20 "EggSpoonsModel" "refused" "[I" ∈ wsX11_full := by decide +kernel
set_option maxHeartbeats 4000000 in
set_option maxRecDepth 100000 in
/-- full -/
theorem m_full (l : Launch) (X : EX) (m0 : Nat) (ma : Nat → Nat) (la : Int64) (lb : Int64) (n : Nat) (t : Nat → Nat) (v : Nat → Int32) (fr : Nat → Int32) (hI_n : n ≤ 150) (hI_t : InT t) (sz : Nat) : Met l yX11_full wsX11_full ({ frames := 0, cells := 0, slots := 0, locals := 0 } : Room) (pE X [.ref m0] (@HAppend.hAppend va_W va_W va_W _ (mW m0 ma la lb n t v) ([((ma 3), .inl (X.2.1, 3, .inl fr))])) sz) (qI (fun (r : Int32) (u : (Nat → Int32)) => (r = -4)) X (fun (u : (Nat → Int32)) => @HAppend.hAppend va_W va_W va_W _ (mW m0 ma la lb n t v) ([((ma 3), .inl (X.2.1, 3, .inl u))])) (@HAppend.hAppend va_W va_W va_W _ (mW m0 ma la lb n t v) ([((ma 3), .inl (X.2.1, 3, .inl fr))])) sz) 0 0 (va_A (@HAppend.hAppend va_W va_W va_W _ (mW m0 ma la lb n t v) ([((ma 3), .inl (X.2.1, 3, .inl fr))])) sz) := by
  refine mk_met (B := (va_A (@HAppend.hAppend va_W va_W va_W _ (mW m0 ma la lb n t v) ([((ma 3), .inl (X.2.1, 3, .inl fr))])) sz)) (A := (va_A (@HAppend.hAppend va_W va_W va_W _ (mW m0 ma la lb n t v) ([((ma 3), .inl (X.2.1, 3, .inl fr))])) sz)) (cc := cX11_full) (maxL := 1) (ret := (some .int)) (by decide) rfl (Nat.le_of_ble_eq_true rfl) k_w k_a (fun p e s m below meth c S zr zlk znm zsz G ls hl => ?_)
  have S : CallFix p m c cX11_full 1 s _ wsX11_full RX11 := S
  have zx := S.1
  have zb := S.2.1
  have hl : lv_has ls 1 [(0, .ref m0)] := hl
  have hO_t := hI_t
  obtain ⟨ht0_t, ht1_t⟩ := hO_t
  refine lv_aload_n zx zb dX11_full_0 rfl (lv_at hl 0 rfl) ?_
  refine r_get (C := RX11) (T := TX11) (N := 18) (ci := 9) (v := .ref (ma 3)) S in_X11_full_X11 G 0 rfl rfl 3 (by decide) lk_X11_full_20 rfl dX11_full_1 ?_
  refine lv_iconst (v := 2) zx zb dX11_full_4 (by decide) ?_
  refine lv_dup2_11 zx zb dX11_full_5 rfl rfl ?_
  refine r_iald S G 1 rfl (k_vp (by decide)) rfl dX11_full_6 ?_
  refine k_itE (fun y_1 => ?_)
  refine lv_iconst (v := 1) zx zb dX11_full_7 (by decide) ?_
  refine r_iadd (v := (y_1 + 1)) S rfl dX11_full_8 ?_
  refine r_iast S G 1 rfl (k_vp (by decide)) dX11_full_9 (fun H locs G => ?_)
  obtain ⟨f_2, G⟩ : ∃ f_2 : Nat → Int32, wd X (va_A (@HAppend.hAppend va_W va_W va_W _ (mW m0 ma la lb n t v) ([((ma 3), .inl (X.2.1, 3, .inl fr))])) sz) (va_A (@HAppend.hAppend va_W va_W va_W _ (mW m0 ma la lb n t v) ([((ma 3), .inl (X.2.1, 3, .inl fr))])) sz) s (@HAppend.hAppend va_W va_W va_W _ (mW m0 ma la lb n t v) ([((ma 3), .inl (X.2.1, 3, .inl f_2))])) H locs := ⟨_, G⟩
  refine lv_bipush (v := (-4)) zx zb dX11_full_10 (by decide) ?_
  exact e_int S zr zlk (vp_nar_int _) G (f_2) [0, 1] rfl rfl (Or.inr rfl) (rfl) dX11_full_12
set_option maxHeartbeats 4000000 in
set_option maxRecDepth 100000 in
/-- has -/
theorem m_has (l : Launch) (X : EX) (x1 : Int32) (x2 : Int32) (sz : Nat) : Met l yX11_has wsX11_has ({ frames := 0, cells := 0, slots := 0, locals := 0 } : Room) (pE X [.int x1, .int x2] ([]) sz) (qI (fun (r : Int32) (u : Unit) => r = 0 ∨ r = 1) X (fun (u : Unit) => []) [] sz) 0 0 (va_A [] sz) := by
  refine mk_met (B := (fun _ => True)) (A := (va_A [] sz)) (cc := cX11_has) (maxL := 2) (ret := (some .boolean)) (by decide) rfl (Nat.le_of_ble_eq_true rfl) k_ro k_a (fun p e s m below meth c S zr zlk znm zsz G ls hl => ?_)
  have S : CallFix p m c cX11_has 2 s _ wsX11_has RX11 := S
  have zx := S.1
  have zb := S.2.1
  have hl : lv_has ls 2 [(0, .int x1), (1, .int x2)] := hl
  refine lv_iload_n zx zb dX11_has_0 rfl (lv_at hl 0 rfl) ?_
  refine lv_iload_n zx zb dX11_has_1 rfl (lv_at hl 1 rfl) ?_
  refine lv_ishr zx zb dX11_has_2 ?_
  refine k_itE (fun y_1 => ?_)
  refine lv_iconst (v := 1) zx zb dX11_has_3 (by decide) ?_
  refine lv_iand zx zb dX11_has_4 ?_
  refine k_itE (fun y_2 => ?_)
  refine lv_iconst (v := 1) zx zb dX11_has_5 (by decide) ?_
  refine lv_icmp_ne (tgt := 13) zx zb dX11_has_6 (by decide) (fun c_3 => ?_) (fun c_3 => ?_)
  · refine lv_iconst (v := 0) zx zb dX11_has_13 (by decide) ?_
    exact e_int S zr zlk (by decide) G () [] rfl rfl (Or.inl rfl) (by first | exact Or.inl rfl | exact Or.inr rfl) dX11_has_14
  · refine lv_iconst (v := 1) zx zb dX11_has_9 (by decide) ?_
    refine lv_goto (tgt := 14) zx zb dX11_has_10 (by decide) ?_
    exact e_int S zr zlk (by decide) G () [] rfl rfl (Or.inl rfl) (by first | exact Or.inl rfl | exact Or.inr rfl) dX11_has_14
set_option maxHeartbeats 4000000 in
set_option maxRecDepth 100000 in
/-- begin -/
theorem m_begin (l : Launch) (X : EX) (ha : Nat) (N : Nat) (f : Nat → Int32) (c0 : Nat) (c1 : Nat) (c2 : Nat) (c3 : Nat) (c4 : Nat) (x : Int32) (hI_f : InA f c0 c1 c2 c3 c4) (hN : 123 ≤ N) (hM : N ≤ 1000) (sz : Nat) : Met l yX11_begin wsX11_begin ({ frames := 0, cells := 0, slots := 0, locals := 0 } : Room) (pE X [.ref ha, .int x] ([(ha, .inl (X.2.1, N, .inl f))]) sz) (qV (fun (u : (Nat → Int32) × (Nat) × (Nat) × (Nat) × (Nat) × (Nat)) => InA u.1 u.2.1 u.2.2.1 u.2.2.2.1 u.2.2.2.2.1 u.2.2.2.2.2 ∧ ((∀ j : Nat, j < 123 → j ≠ 36 → u.1 j = 0) ∧ u.1 36 = x ∧ (∀ j : Nat, 123 ≤ j → u.1 j = f j) ∧ u.2.1 = 0 ∧ u.2.2.1 = 0 ∧ u.2.2.2.1 = 0 ∧ u.2.2.2.2.1 = 0 ∧ u.2.2.2.2.2 = 0)) X (fun (u : (Nat → Int32) × (Nat) × (Nat) × (Nat) × (Nat) × (Nat)) => [(ha, .inl (X.2.1, N, .inl u.1))]) ([(ha, .inl (X.2.1, N, .inl f))]) sz) 0 0 (va_A ([(ha, .inl (X.2.1, N, .inl f))]) sz) := by
  refine mk_met (B := (va_A ([(ha, .inl (X.2.1, N, .inl f))]) sz)) (A := (va_A ([(ha, .inl (X.2.1, N, .inl f))]) sz)) (cc := cX11_begin) (maxL := 3) (ret := none) (by decide) rfl (Nat.le_of_ble_eq_true rfl) k_w k_a (fun p e s m below meth c S zr zlk znm zsz G ls hl => ?_)
  have S : CallFix p m c cX11_begin 3 s _ wsX11_begin RX11 := S
  have zx := S.1
  have zb := S.2.1
  have hl : lv_has ls 3 [(0, .ref ha), (1, .int x)] := hl
  have hO_f := hI_f.2
  obtain ⟨hm0_f, hm1_f, hm2_f, hm3_f, hm4_f⟩ := hO_f
  refine lv_iconst (v := 0) zx zb dX11_begin_0 (by decide) ?_
  refine lv_istore_n (lv' := [(2, .int 0), (0, .ref ha), (1, .int x)]) zx zb dX11_begin_1 rfl hl (by decide) rfl (fun ls hl => ?_)
  refine k_loop (P := ∀ (zm : Nat) (n2_2 : Nat) (f2_0 : Nat → Int32) (c02_0 : Nat) (c12_0 : Nat) (c22_0 : Nat) (c32_0 : Nat) (c42_0 : Nat) (H : Heap) (locs : List Loc) (ls : Array Slot), ((123 - n2_2) < zm) → ((∀ j : Nat, j < n2_2 → f2_0 j = 0) ∧ ∀ j : Nat, n2_2 ≤ j → f2_0 j = f j) → InA f2_0 c02_0 c12_0 c22_0 c32_0 c42_0 → (n2_2 ≤ 123) → wd X (va_A ([(ha, .inl (X.2.1, N, .inl f))]) sz) (va_A ([(ha, .inl (X.2.1, N, .inl f))]) sz) s ([(ha, .inl (X.2.1, N, .inl f2_0))]) H locs → lv_has ls 3 [(2, .int (nI n2_2)), (0, .ref ha), (1, .int x)] → W p l e _ s m _ below meth c H locs _ _ _ (F0 m 2 ls [])) (fun loop => loop ((123 - 0) + 1) 0 f c0 c1 c2 c3 c4 _ _ _ (by omega) ⟨fun j h => absurd h (Nat.not_lt_zero j), fun j _ => rfl⟩ hI_f (by omega) G hl) ?_
  intro zm
  induction zm with
  | zero => intro n2_2 f2_0 c02_0 c12_0 c22_0 c32_0 c42_0 H locs ls zz q_x0 q_hI_f2_0 q_hk_n2_2 _ _; exact absurd zz (by omega)
  | succ zm ih2 =>
    intro n2_2 f2_0 c02_0 c12_0 c22_0 c32_0 c42_0 H locs ls zm_2 hx2_0 hI_f2_0 hk_n2_2 G hl
    have hO_f2_0 := hI_f2_0.2
    obtain ⟨hm0_f2_0, hm1_f2_0, hm2_f2_0, hm3_f2_0, hm4_f2_0⟩ := hO_f2_0
    refine lv_iload_n zx zb dX11_begin_2 rfl (lv_at hl 0 rfl) ?_
    refine lv_bipush (v := 123) zx zb dX11_begin_3 (by decide) ?_
    refine lv_icmp_ge (tgt := 18) zx zb dX11_begin_5 (by decide) (fun c_1 => ?_) (fun c_1 => ?_)
    · have fc_1 := j_le (a := 123) (b := n2_2) (by omega) (by omega) c_1
      refine lv_aload_n zx zb dX11_begin_18 rfl (lv_at hl 1 rfl) ?_
      refine lv_bipush (v := 36) zx zb dX11_begin_19 (by decide) ?_
      refine lv_iload_n zx zb dX11_begin_21 rfl (lv_at hl 2 rfl) ?_
      refine r_iast S G 0 rfl (k_vpc (c := 36) rfl (by omega) (by omega)) dX11_begin_22 (fun H locs G => ?_)
      obtain ⟨f_2, hI_f_2, hE_f_2, G⟩ : ∃ f_2 : Nat → Int32, InA f_2 c02_0 c12_0 c22_0 c32_0 c42_0 ∧ f_2 = upd f2_0 36 x ∧ wd X (va_A ([(ha, .inl (X.2.1, N, .inl f))]) sz) (va_A ([(ha, .inl (X.2.1, N, .inl f))]) sz) s ([(ha, .inl (X.2.1, N, .inl f_2))]) H locs := ⟨_, InA_o hI_f2_0 (by decide), rfl, G⟩
      exact e_void S zr zlk G (f_2, c02_0, c12_0, c22_0, c32_0, c42_0) [0] rfl rfl (Or.inr rfl) (⟨hI_f_2, ⟨(fun j hj h36 => (congrFun hE_f_2 j).trans ((upd_ne h36).trans (hx2_0.1 j (by first | omega | (dsimp only; omega))))), (congrFun hE_f_2 36).trans upd_eq, fun j hj => (congrFun hE_f_2 j).trans ((upd_ne (by first | omega | (dsimp only; omega))).trans (hx2_0.2 j (by first | omega | (dsimp only; omega)))), k_cz (hI_f2_0.1.1.symm.trans (hx2_0.1 0 (by first | omega | (dsimp only; omega)))) (by first | omega | (dsimp only; omega)), k_cz (hI_f2_0.1.2.1.symm.trans (hx2_0.1 1 (by first | omega | (dsimp only; omega)))) (by first | omega | (dsimp only; omega)), k_cz (hI_f2_0.1.2.2.1.symm.trans (hx2_0.1 2 (by first | omega | (dsimp only; omega)))) (by first | omega | (dsimp only; omega)), k_cz (hI_f2_0.1.2.2.2.1.symm.trans (hx2_0.1 3 (by first | omega | (dsimp only; omega)))) (by first | omega | (dsimp only; omega)), k_cz (hI_f2_0.1.2.2.2.2.symm.trans (hx2_0.1 4 (by first | omega | (dsimp only; omega)))) (by first | omega | (dsimp only; omega))⟩⟩) dX11_begin_23
    · have fc_1 := j_nle (a := 123) (b := n2_2) (by omega) (by omega) c_1
      refine lv_aload_n zx zb dX11_begin_8 rfl (lv_at hl 1 rfl) ?_
      refine lv_iload_n zx zb dX11_begin_9 rfl (lv_at hl 0 rfl) ?_
      refine lv_iconst (v := 0) zx zb dX11_begin_10 (by decide) ?_
      refine r_iast S G 0 rfl (vp_in_nI (by omega) (by omega)) dX11_begin_11 (fun H locs G => ?_)
      obtain ⟨c_4, c_5, c_6, c_7, c_8, hI_f_3⟩ := InA_z (j := (nI n2_2).toNatClampNeg) hI_f2_0
      obtain ⟨f_3, hI_f_3, hE_f_3, G⟩ : ∃ f_3 : Nat → Int32, InA f_3 c_4 c_5 c_6 c_7 c_8 ∧ f_3 = upd f2_0 (nI n2_2).toNatClampNeg 0 ∧ wd X (va_A ([(ha, .inl (X.2.1, N, .inl f))]) sz) (va_A ([(ha, .inl (X.2.1, N, .inl f))]) sz) s ([(ha, .inl (X.2.1, N, .inl f_3))]) H locs := ⟨_, hI_f_3, rfl, G⟩
      have hO_f_3 := hI_f_3.2
      obtain ⟨hm0_f_3, hm1_f_3, hm2_f_3, hm3_f_3, hm4_f_3⟩ := hO_f_3
      refine lv_iinc (v := (nI (n2_2 + 1))) (lv' := [(2, .int (nI (n2_2 + 1))), (0, .ref ha), (1, .int x)]) zx zb dX11_begin_12 hl (k := 0) rfl (nI_add n2_2 1) (by decide) rfl (fun ls hl => ?_)
      refine lv_goto (tgt := 2) zx zb dX11_begin_15 (by decide) ?_
      exact ih2 (n2_2 + 1) f_3 c_4 c_5 c_6 c_7 c_8 _ _ _ (by omega) (k_zer hE_f_3 (nI_clamp (by omega)) hx2_0) hI_f_3 (by omega) G hl
theorem in_X11_many_X11 : ∀ w ∈ wsX110, w ∈ wsX11_many := by decide +kernel
theorem lk_X11_many_7 : Cond.fieldLink RX11 7 "EggSpoonsModel" "all" "[I" ∈ wsX11_many := by decide +kernel
set_option maxHeartbeats 4000000 in
set_option maxRecDepth 100000 in
/-- many -/
theorem m_many (l : Launch) (X : EX) (m0 : Nat) (ma : Nat → Nat) (la : Int64) (lb : Int64) (n : Nat) (t : Nat → Nat) (v : Nat → Int32) (fa : Nat → Int32) (c0 : Nat) (c1 : Nat) (c2 : Nat) (c3 : Nat) (c4 : Nat) (hI_n : n ≤ 150) (hI_t : InT t) (hI_fa : InA fa c0 c1 c2 c3 c4) (sz : Nat) : Met l yX11_many wsX11_many ({ frames := 0, cells := 0, slots := 0, locals := 0 } : Room) (pE X [.ref m0] (@HAppend.hAppend va_W va_W va_W _ (mW m0 ma la lb n t v) ([((ma 0), .inl (X.2.1, 371, .inl fa))])) sz) (qI (fun (r : Int32) (u : Unit) => r = nI c0) X (fun (u : Unit) => []) [] sz) 0 0 (va_A [] sz) := by
  refine mk_met (B := (fun _ => True)) (A := (va_A [] sz)) (cc := cX11_many) (maxL := 1) (ret := (some .int)) (by decide) rfl (Nat.le_of_ble_eq_true rfl) k_ro k_a (fun p e s m below meth c S zr zlk znm zsz G ls hl => ?_)
  have S : CallFix p m c cX11_many 1 s _ wsX11_many RX11 := S
  have zx := S.1
  have zb := S.2.1
  have hl : lv_has ls 1 [(0, .ref m0)] := hl
  have hO_t := hI_t
  obtain ⟨ht0_t, ht1_t⟩ := hO_t
  have hO_fa := hI_fa.2
  obtain ⟨hm0_fa, hm1_fa, hm2_fa, hm3_fa, hm4_fa⟩ := hO_fa
  refine lv_aload_n zx zb dX11_many_0 rfl (lv_at hl 0 rfl) ?_
  refine r_get (C := RX11) (T := TX11) (N := 18) (ci := 9) (v := .ref (ma 0)) S in_X11_many_X11 G 0 rfl rfl 0 (by decide) lk_X11_many_7 rfl dX11_many_1 ?_
  refine lv_iconst (v := 0) zx zb dX11_many_4 (by decide) ?_
  refine r_iald (v := (nI c0)) S G 1 rfl (k_vp (by decide)) hI_fa.1.1 dX11_many_5 ?_
  exact e_int S zr zlk (vp_nar_int _) G () [] rfl rfl (Or.inl rfl) (rfl) dX11_many_6
theorem hdV_X11_many : yX11_many.cls = RX11 ∧ yX11_many.cls ≠ "java/lang/invoke/MethodHandle" ∧ yX11_many.cls ≠ "java/lang/invoke/VarHandle" ∧ (parseMethodDescriptor yX11_many.desc).map (fun d => d.parameters.length) = some 0 := by decide +kernel
theorem hdS_X11_in : yX11_in.cls ≠ "java/lang/invoke/MethodHandle" ∧ yX11_in.cls ≠ "java/lang/invoke/VarHandle" ∧ (parseMethodDescriptor yX11_in.desc).map (fun d => d.parameters.length) = some 3 := by decide +kernel
set_option maxHeartbeats 4000000 in
set_option maxRecDepth 100000 in
/-- isOne -/
theorem m_isOne (l : Launch) (X : EX) (m0 : Nat) (ma : Nat → Nat) (la : Int64) (lb : Int64) (n : Nat) (t : Nat → Nat) (v : Nat → Int32) (fa : Nat → Int32) (c0 : Nat) (c1 : Nat) (c2 : Nat) (c3 : Nat) (c4 : Nat) (i : Int32) (hI_n : n ≤ 150) (hI_t : InT t) (hI_fa : InA fa c0 c1 c2 c3 c4) (sz : Nat) : Met l yX11_isOne wsX11_isOne ({ frames := 1, cells := 0, slots := 0, locals := 25 } : Room) (pE X [.ref m0, .int i] (@HAppend.hAppend va_W va_W va_W _ (mW m0 ma la lb n t v) ([((ma 0), .inl (X.2.1, 371, .inl fa))])) sz) (qI (fun (r : Int32) (u : Unit) => (r = 1 ∧ ∃ j : Nat, j < c0 ∧ i = nI j) ∨ (r = 0 ∧ ¬ thP c0 i)) X (fun (u : Unit) => []) [] sz) 0 0 (va_A [] sz) := by
  refine mk_met (B := (fun _ => True)) (A := (va_A [] sz)) (cc := cX11_isOne) (maxL := 2) (ret := (some .boolean)) (by decide) rfl (Nat.le_of_ble_eq_true rfl) k_ro k_a (fun p e s m below meth c S zr zlk znm zsz G ls hl => ?_)
  have S : CallFix p m c cX11_isOne 2 s _ wsX11_isOne RX11 := S
  have zx := S.1
  have zb := S.2.1
  have hl : lv_has ls 2 [(0, .ref m0), (1, .int i)] := hl
  have hO_t := hI_t
  obtain ⟨ht0_t, ht1_t⟩ := hO_t
  have hO_fa := hI_fa.2
  obtain ⟨hm0_fa, hm1_fa, hm2_fa, hm3_fa, hm4_fa⟩ := hO_fa
  refine lv_iload_n zx zb dX11_isOne_0 rfl (lv_at hl 1 rfl) ?_
  refine lv_i2l (v := (Int32.toInt64 i)) zx zb dX11_isOne_1 rfl ?_
  refine lv_lconst (v := (Int32.toInt64 0)) zx zb dX11_isOne_2 (by decide) ?_
  refine lv_aload_n zx zb dX11_isOne_3 rfl (lv_at hl 0 rfl) ?_
  refine o_ri (cells' := 0) (slots' := 0) G rfl rfl (n_V (As := []) (rest := [.long (Int32.toInt64 0), .long (Int32.toInt64 i)]) (C := RX11) (T := TX11) (N := 18) (ci := 9) S G (m_many l X m0 ma la lb n t v fa c0 c1 c2 c3 c4 hI_n hI_t hI_fa s.heap.size) gX11_isOne_X11_many rfl rfl rfl hdV_X11_many ⟨Nat.le_of_ble_eq_true rfl, Nat.le_of_ble_eq_true rfl⟩ [0, 1] rfl rfl 0 rfl rfl rfl hl.1 (Nat.le_of_ble_eq_true rfl) dX11_isOne_4 ⟨Nat.le_of_ble_eq_true rfl, Nat.le_of_ble_eq_true rfl⟩) (fun r_1 u_1 H locs hp_1 G => ?_)
  have G : wd X (fun _ => True) (va_A [] sz) s (@HAppend.hAppend va_W va_W va_W _ (mW m0 ma la lb n t v) ([((ma 0), .inl (X.2.1, 371, .inl fa))])) H locs := G
  obtain rfl := hp_1
  refine lv_iconst (v := 1) zx zb dX11_isOne_7 (by decide) ?_
  refine r_isub (v := ((nI c0) - 1)) S rfl dX11_isOne_8 ?_
  refine lv_i2l (v := (Int32.toInt64 ((nI c0) - 1))) zx zb dX11_isOne_9 rfl ?_
  refine o_ri (cells' := 0) (slots' := 0) G rfl rfl (n_S (As := [.long (Int32.toInt64 i), .long (Int32.toInt64 0), .long (Int32.toInt64 ((nI c0) - 1))]) (rest := []) S G (m_in l X i 0 ((nI c0) - 1) H.size) gX11_isOne_X11_in rfl rfl rfl hdS_X11_in ⟨Nat.le_of_ble_eq_true rfl, Nat.le_of_ble_eq_true rfl⟩ [] rfl rfl rfl hl.1 (Nat.le_of_ble_eq_true rfl) dX11_isOne_10 ⟨Nat.le_of_ble_eq_true rfl, Nat.le_of_ble_eq_true rfl⟩) (fun r_2 u_2 H locs hp_2 G => ?_)
  have G : wd X (fun _ => True) (va_A [] sz) s (@HAppend.hAppend va_W va_W va_W _ (mW m0 ma la lb n t v) ([((ma 0), .inl (X.2.1, 371, .inl fa))])) H locs := G
  rcases hp_2 with ⟨rfl, hw_2⟩ | ⟨rfl, hw_2⟩
  · exact e_int S zr zlk (by decide) G () [] rfl rfl (Or.inl rfl) (Or.inl ⟨rfl, k_one (by omega) hw_2⟩) dX11_isOne_13
  · exact e_int S zr zlk (by decide) G () [] rfl rfl (Or.inl rfl) (Or.inr ⟨rfl, k_nix2 (by omega) hw_2⟩) dX11_isOne_13
theorem mm_X11_isKind_c60 : Cond.constantLong RX11 60 (5) ∈ wsX11_isKind := by decide +kernel
set_option maxHeartbeats 4000000 in
set_option maxRecDepth 100000 in
/-- isKind -/
theorem m_isKind (l : Launch) (X : EX) (v : Int32) (sz : Nat) : Met l yX11_isKind wsX11_isKind ({ frames := 1, cells := 0, slots := 0, locals := 25 } : Room) (pE X [.int v] ([]) sz) (qI (fun (r : Int32) (u : Unit) => (r = 1 ∧ ((0 : Int32) ≤ v ∧ v ≤ 5)) ∨ (r = 0 ∧ ¬ ((0 : Int32) ≤ v ∧ v ≤ 5))) X (fun (u : Unit) => []) [] sz) 0 0 (va_A [] sz) := by
  refine mk_met (B := (fun _ => True)) (A := (va_A [] sz)) (cc := cX11_isKind) (maxL := 1) (ret := (some .boolean)) (by decide) rfl (Nat.le_of_ble_eq_true rfl) k_ro k_a (fun p e s m below meth c S zr zlk znm zsz G ls hl => ?_)
  have S : CallFix p m c cX11_isKind 1 s _ wsX11_isKind RX11 := S
  have zx := S.1
  have zb := S.2.1
  have hl : lv_has ls 1 [(0, .int v)] := hl
  refine lv_iload_n zx zb dX11_isKind_0 rfl (lv_at hl 0 rfl) ?_
  refine lv_i2l (v := (Int32.toInt64 v)) zx zb dX11_isKind_1 rfl ?_
  refine lv_lconst (v := (Int32.toInt64 0)) zx zb dX11_isKind_2 (by decide) ?_
  refine lv_ldc2 zx zb S.2.2.2.1 (S.2.2.2.2 _ mm_X11_isKind_c60) dX11_isKind_3 ?_
  refine k_ld (v := (Int32.toInt64 5)) (by decide) ?_
  refine o_ri (cells' := 0) (slots' := 0) G rfl rfl (n_S (As := [.long (Int32.toInt64 v), .long (Int32.toInt64 0), .long (Int32.toInt64 5)]) (rest := []) S G (m_in l X v 0 5 s.heap.size) gX11_isKind_X11_in rfl rfl rfl hdS_X11_in ⟨Nat.le_of_ble_eq_true rfl, Nat.le_of_ble_eq_true rfl⟩ [] rfl rfl rfl hl.1 (Nat.le_of_ble_eq_true rfl) dX11_isKind_6 ⟨Nat.le_of_ble_eq_true rfl, Nat.le_of_ble_eq_true rfl⟩) (fun r_1 u_1 H locs hp_1 G => ?_)
  have G : wd X (fun _ => True) (va_A [] sz) s ([]) H locs := G
  rcases hp_1 with ⟨rfl, hw_1⟩ | ⟨rfl, hw_1⟩
  · obtain ⟨j_1, ⟨ja_1, jb_1⟩, rfl⟩ := k_natR (a := 0) (b := 5) hw_1 rfl rfl (by decide) (by decide)
    exact e_int S zr zlk (by decide) G () [] rfl rfl (Or.inl rfl) (by first | exact Or.inl ⟨rfl, hw_1⟩ | exact Or.inr ⟨rfl, hw_1⟩) dX11_isKind_9
  · exact e_int S zr zlk (by decide) G () [] rfl rfl (Or.inl rfl) (by first | exact Or.inl ⟨rfl, hw_1⟩ | exact Or.inr ⟨rfl, hw_1⟩) dX11_isKind_9
theorem mm_X11_isLegs_c62 : Cond.constantLong RX11 62 (9) ∈ wsX11_isLegs := by decide +kernel
set_option maxHeartbeats 4000000 in
set_option maxRecDepth 100000 in
/-- isLegs -/
theorem m_isLegs (l : Launch) (X : EX) (v : Int32) (sz : Nat) : Met l yX11_isLegs wsX11_isLegs ({ frames := 1, cells := 0, slots := 0, locals := 25 } : Room) (pE X [.int v] ([]) sz) (qI (fun (r : Int32) (u : Unit) => (r = 1 ∧ ((1 : Int32) ≤ v ∧ v ≤ 9)) ∨ (r = 0 ∧ ¬ ((1 : Int32) ≤ v ∧ v ≤ 9))) X (fun (u : Unit) => []) [] sz) 0 0 (va_A [] sz) := by
  refine mk_met (B := (fun _ => True)) (A := (va_A [] sz)) (cc := cX11_isLegs) (maxL := 1) (ret := (some .boolean)) (by decide) rfl (Nat.le_of_ble_eq_true rfl) k_ro k_a (fun p e s m below meth c S zr zlk znm zsz G ls hl => ?_)
  have S : CallFix p m c cX11_isLegs 1 s _ wsX11_isLegs RX11 := S
  have zx := S.1
  have zb := S.2.1
  have hl : lv_has ls 1 [(0, .int v)] := hl
  refine lv_iload_n zx zb dX11_isLegs_0 rfl (lv_at hl 0 rfl) ?_
  refine lv_i2l (v := (Int32.toInt64 v)) zx zb dX11_isLegs_1 rfl ?_
  refine lv_lconst (v := (Int32.toInt64 1)) zx zb dX11_isLegs_2 (by decide) ?_
  refine lv_ldc2 zx zb S.2.2.2.1 (S.2.2.2.2 _ mm_X11_isLegs_c62) dX11_isLegs_3 ?_
  refine k_ld (v := (Int32.toInt64 9)) (by decide) ?_
  refine o_ri (cells' := 0) (slots' := 0) G rfl rfl (n_S (As := [.long (Int32.toInt64 v), .long (Int32.toInt64 1), .long (Int32.toInt64 9)]) (rest := []) S G (m_in l X v 1 9 s.heap.size) gX11_isLegs_X11_in rfl rfl rfl hdS_X11_in ⟨Nat.le_of_ble_eq_true rfl, Nat.le_of_ble_eq_true rfl⟩ [] rfl rfl rfl hl.1 (Nat.le_of_ble_eq_true rfl) dX11_isLegs_6 ⟨Nat.le_of_ble_eq_true rfl, Nat.le_of_ble_eq_true rfl⟩) (fun r_1 u_1 H locs hp_1 G => ?_)
  have G : wd X (fun _ => True) (va_A [] sz) s ([]) H locs := G
  rcases hp_1 with ⟨rfl, hw_1⟩ | ⟨rfl, hw_1⟩
  · obtain ⟨j_1, ⟨ja_1, jb_1⟩, rfl⟩ := k_natR (a := 1) (b := 9) hw_1 rfl rfl (by decide) (by decide)
    exact e_int S zr zlk (by decide) G () [] rfl rfl (Or.inl rfl) (by first | exact Or.inl ⟨rfl, hw_1⟩ | exact Or.inr ⟨rfl, hw_1⟩) dX11_isLegs_9
  · exact e_int S zr zlk (by decide) G () [] rfl rfl (Or.inl rfl) (by first | exact Or.inl ⟨rfl, hw_1⟩ | exact Or.inr ⟨rfl, hw_1⟩) dX11_isLegs_9
theorem mm_X11_isSpeed_c62 : Cond.constantLong RX11 62 (9) ∈ wsX11_isSpeed := by decide +kernel
set_option maxHeartbeats 4000000 in
set_option maxRecDepth 100000 in
/-- isSpeed -/
theorem m_isSpeed (l : Launch) (X : EX) (v : Int32) (sz : Nat) : Met l yX11_isSpeed wsX11_isSpeed ({ frames := 1, cells := 0, slots := 0, locals := 25 } : Room) (pE X [.int v] ([]) sz) (qI (fun (r : Int32) (u : Unit) => (r = 1 ∧ ((0 : Int32) ≤ v ∧ v ≤ 9)) ∨ (r = 0 ∧ ¬ ((0 : Int32) ≤ v ∧ v ≤ 9))) X (fun (u : Unit) => []) [] sz) 0 0 (va_A [] sz) := by
  refine mk_met (B := (fun _ => True)) (A := (va_A [] sz)) (cc := cX11_isSpeed) (maxL := 1) (ret := (some .boolean)) (by decide) rfl (Nat.le_of_ble_eq_true rfl) k_ro k_a (fun p e s m below meth c S zr zlk znm zsz G ls hl => ?_)
  have S : CallFix p m c cX11_isSpeed 1 s _ wsX11_isSpeed RX11 := S
  have zx := S.1
  have zb := S.2.1
  have hl : lv_has ls 1 [(0, .int v)] := hl
  refine lv_iload_n zx zb dX11_isSpeed_0 rfl (lv_at hl 0 rfl) ?_
  refine lv_i2l (v := (Int32.toInt64 v)) zx zb dX11_isSpeed_1 rfl ?_
  refine lv_lconst (v := (Int32.toInt64 0)) zx zb dX11_isSpeed_2 (by decide) ?_
  refine lv_ldc2 zx zb S.2.2.2.1 (S.2.2.2.2 _ mm_X11_isSpeed_c62) dX11_isSpeed_3 ?_
  refine k_ld (v := (Int32.toInt64 9)) (by decide) ?_
  refine o_ri (cells' := 0) (slots' := 0) G rfl rfl (n_S (As := [.long (Int32.toInt64 v), .long (Int32.toInt64 0), .long (Int32.toInt64 9)]) (rest := []) S G (m_in l X v 0 9 s.heap.size) gX11_isSpeed_X11_in rfl rfl rfl hdS_X11_in ⟨Nat.le_of_ble_eq_true rfl, Nat.le_of_ble_eq_true rfl⟩ [] rfl rfl rfl hl.1 (Nat.le_of_ble_eq_true rfl) dX11_isSpeed_6 ⟨Nat.le_of_ble_eq_true rfl, Nat.le_of_ble_eq_true rfl⟩) (fun r_1 u_1 H locs hp_1 G => ?_)
  have G : wd X (fun _ => True) (va_A [] sz) s ([]) H locs := G
  rcases hp_1 with ⟨rfl, hw_1⟩ | ⟨rfl, hw_1⟩
  · obtain ⟨j_1, ⟨ja_1, jb_1⟩, rfl⟩ := k_natR (a := 0) (b := 9) hw_1 rfl rfl (by decide) (by decide)
    exact e_int S zr zlk (by decide) G () [] rfl rfl (Or.inl rfl) (by first | exact Or.inl ⟨rfl, hw_1⟩ | exact Or.inr ⟨rfl, hw_1⟩) dX11_isSpeed_9
  · exact e_int S zr zlk (by decide) G () [] rfl rfl (Or.inl rfl) (by first | exact Or.inl ⟨rfl, hw_1⟩ | exact Or.inr ⟨rfl, hw_1⟩) dX11_isSpeed_9
theorem mm_X11_race_c64 : Cond.constantLong RX11 64 (10) ∈ wsX11_race := by decide +kernel
theorem mm_X11_race_c66 : Cond.constantLong RX11 66 (60) ∈ wsX11_race := by decide +kernel
theorem in_X11_race_X11 : ∀ w ∈ wsX110, w ∈ wsX11_race := by decide +kernel
theorem lk_X11_race_7 : Cond.fieldLink RX11 7 "EggSpoonsModel" "all" "[I" ∈ wsX11_race := by decide +kernel
theorem hdS_X11_begin : yX11_begin.cls ≠ "java/lang/invoke/MethodHandle" ∧ yX11_begin.cls ≠ "java/lang/invoke/VarHandle" ∧ (parseMethodDescriptor yX11_begin.desc).map (fun d => d.parameters.length) = some 2 := by decide +kernel
theorem hdV_X11_bad : yX11_bad.cls = RX11 ∧ yX11_bad.cls ≠ "java/lang/invoke/MethodHandle" ∧ yX11_bad.cls ≠ "java/lang/invoke/VarHandle" ∧ (parseMethodDescriptor yX11_bad.desc).map (fun d => d.parameters.length) = some 1 := by decide +kernel
theorem hdS_X11_isKind : yX11_isKind.cls ≠ "java/lang/invoke/MethodHandle" ∧ yX11_isKind.cls ≠ "java/lang/invoke/VarHandle" ∧ (parseMethodDescriptor yX11_isKind.desc).map (fun d => d.parameters.length) = some 1 := by decide +kernel
theorem hdS_X11_isLegs : yX11_isLegs.cls ≠ "java/lang/invoke/MethodHandle" ∧ yX11_isLegs.cls ≠ "java/lang/invoke/VarHandle" ∧ (parseMethodDescriptor yX11_isLegs.desc).map (fun d => d.parameters.length) = some 1 := by decide +kernel
theorem in_X11_one_X11 : ∀ w ∈ wsX110, w ∈ wsX11_one := by decide +kernel
theorem lk_X11_one_7 : Cond.fieldLink RX11 7 "EggSpoonsModel" "all" "[I" ∈ wsX11_one := by decide +kernel
theorem hdS_X11_layOne : yX11_layOne.cls ≠ "java/lang/invoke/MethodHandle" ∧ yX11_layOne.cls ≠ "java/lang/invoke/VarHandle" ∧ (parseMethodDescriptor yX11_layOne.desc).map (fun d => d.parameters.length) = some 4 := by decide +kernel
theorem hdV_X11_full : yX11_full.cls = RX11 ∧ yX11_full.cls ≠ "java/lang/invoke/MethodHandle" ∧ yX11_full.cls ≠ "java/lang/invoke/VarHandle" ∧ (parseMethodDescriptor yX11_full.desc).map (fun d => d.parameters.length) = some 0 := by decide +kernel
set_option maxHeartbeats 4000000 in
set_option maxRecDepth 100000 in
/-- runsAs -/
theorem m_runsAs (l : Launch) (X : EX) (x1 : Int32) (x2 : Int32) (x3 : Int32) (x4 : Int32) (sz : Nat) : Met l yX11_runsAs wsX11_runsAs ({ frames := 0, cells := 0, slots := 0, locals := 0 } : Room) (pE X [.int x1, .int x2, .int x3, .int x4] ([]) sz) (qI (fun (r : Int32) (u : Unit) => True) X (fun (u : Unit) => []) [] sz) 0 0 (va_A [] sz) := by
  refine mk_met (B := (fun _ => True)) (A := (va_A [] sz)) (cc := cX11_runsAs) (maxL := 7) (ret := (some .int)) (by decide) rfl (Nat.le_of_ble_eq_true rfl) k_ro k_a (fun p e s m below meth c S zr zlk znm zsz G ls hl => ?_)
  have S : CallFix p m c cX11_runsAs 7 s _ wsX11_runsAs RX11 := S
  have zx := S.1
  have zb := S.2.1
  have hl : lv_has ls 7 [(0, .int x1), (1, .int x2), (2, .int x3), (3, .int x4)] := hl
  refine lv_iload_n zx zb dX11_runsAs_0 rfl (lv_at hl 2 rfl) ?_
  refine lv_iload_n zx zb dX11_runsAs_1 rfl (lv_at hl 1 rfl) ?_
  refine k_cutW (PP := fun Wx => ∀ (x_2 : Int32) (H : Heap) (locs : List Loc) (ls : Array Slot), wd X (fun _ => True) (va_A [] sz) s ([]) H locs → lv_has ls 7 [(0, .int x1), (1, .int x2), (2, .int x3), (3, .int x4)] → Wx (F0 m 10 ls [.int x_2]) H locs) ?_ ?_
  · intro join_2
    refine lv_icmp_ge (tgt := 9) zx zb dX11_runsAs_2 (by decide) (fun c_1 => ?_) (fun c_1 => ?_)
    · refine lv_iload_n zx zb dX11_runsAs_9 rfl (lv_at hl 1 rfl) ?_
      exact join_2 x2 _ _ _  G hl
    · refine lv_iload_n zx zb dX11_runsAs_5 rfl (lv_at hl 2 rfl) ?_
      refine lv_goto (tgt := 10) zx zb dX11_runsAs_6 (by decide) ?_
      exact join_2 x3 _ _ _  G hl
  · intro x_2 H locs ls  G hl
    refine lv_istore (lv' := [(4, .int x_2), (0, .int x1), (1, .int x2), (2, .int x3), (3, .int x4)]) zx zb dX11_runsAs_10 hl (by decide) rfl (fun ls hl => ?_)
    refine lv_iload_n zx zb dX11_runsAs_12 rfl (lv_at hl 3 rfl) ?_
    refine lv_iconst (v := 5) zx zb dX11_runsAs_13 (by decide) ?_
    refine k_cutW (PP := fun Wx => ∀ (x_4 : Int32) (H : Heap) (locs : List Loc) (ls : Array Slot), wd X (fun _ => True) (va_A [] sz) s ([]) H locs → lv_has ls 7 [(4, .int x_2), (0, .int x1), (1, .int x2), (2, .int x3), (3, .int x4)] → Wx (F0 m 26 ls [.int x_4]) H locs) ?_ ?_
    · intro join_14
      refine lv_icmp_lt (tgt := 24) zx zb dX11_runsAs_14 (by decide) (fun c_3 => ?_) (fun c_3 => ?_)
      · refine lv_iload zx zb dX11_runsAs_24 (lv_at hl 0 rfl) ?_
        exact join_14 x_2 _ _ _  G hl
      · refine lv_iload zx zb dX11_runsAs_17 (lv_at hl 0 rfl) ?_
        refine lv_iconst (v := 1) zx zb dX11_runsAs_19 (by decide) ?_
        refine r_iadd (v := (x_2 + 1)) S rfl dX11_runsAs_20 ?_
        refine lv_goto (tgt := 26) zx zb dX11_runsAs_21 (by decide) ?_
        exact join_14 (x_2 + 1) _ _ _  G hl
    · intro x_4 H locs ls  G hl
      refine lv_istore (lv' := [(5, .int x_4), (4, .int x_2), (0, .int x1), (1, .int x2), (2, .int x3), (3, .int x4)]) zx zb dX11_runsAs_26 hl (by decide) rfl (fun ls hl => ?_)
      refine lv_iload zx zb dX11_runsAs_28 (lv_at hl 1 rfl) ?_
      refine lv_iload_n zx zb dX11_runsAs_30 rfl (lv_at hl 5 rfl) ?_
      refine lv_bipush (v := 10) zx zb dX11_runsAs_31 (by decide) ?_
      refine lv_idiv zx zb dX11_runsAs_33 (by decide) ?_
      refine k_itE (fun y_5 => ?_)
      refine k_cutW (PP := fun Wx => ∀ (x_7 : Int32) (H : Heap) (locs : List Loc) (ls : Array Slot), wd X (fun _ => True) (va_A [] sz) s ([]) H locs → lv_has ls 7 [(5, .int x_4), (4, .int x_2), (0, .int x1), (1, .int x2), (2, .int x3), (3, .int x4)] → Wx (F0 m 48 ls [.int x_7]) H locs) ?_ ?_
      · intro join_34
        refine lv_icmp_le (tgt := 47) zx zb dX11_runsAs_34 (by decide) (fun c_6 => ?_) (fun c_6 => ?_)
        · refine lv_iconst (v := 0) zx zb dX11_runsAs_47 (by decide) ?_
          exact join_34 0 _ _ _  G hl
        · refine lv_iload zx zb dX11_runsAs_37 (lv_at hl 1 rfl) ?_
          refine lv_iload_n zx zb dX11_runsAs_39 rfl (lv_at hl 5 rfl) ?_
          refine lv_bipush (v := 10) zx zb dX11_runsAs_40 (by decide) ?_
          refine lv_idiv zx zb dX11_runsAs_42 (by decide) ?_
          refine k_itE (fun y_8 => ?_)
          refine r_isub (v := (x_2 - y_8)) S rfl dX11_runsAs_43 ?_
          refine lv_goto (tgt := 48) zx zb dX11_runsAs_44 (by decide) ?_
          exact join_34 (x_2 - y_8) _ _ _  G hl
      · intro x_7 H locs ls  G hl
        refine lv_istore (lv' := [(6, .int x_7), (5, .int x_4), (4, .int x_2), (0, .int x1), (1, .int x2), (2, .int x3), (3, .int x4)]) zx zb dX11_runsAs_48 hl (by decide) rfl (fun ls hl => ?_)
        refine lv_iload_n zx zb dX11_runsAs_50 rfl (lv_at hl 3 rfl) ?_
        rcases k_ts1_5 x1 with w_9 | w_9 | w_9 | w_9 | w_9 | w_9
        · refine k_it w_9 ?_
          refine lv_tableIn (off := 33) (tgt := 84) zx zb dX11_runsAs_51 (by decide) (by decide) rfl (by decide) ?_
          refine lv_iload zx zb dX11_runsAs_84 (lv_at hl 1 rfl) ?_
          exact e_int S zr zlk (vp_nar_int _) G () [] rfl rfl (Or.inl rfl) (trivial) dX11_runsAs_86
        · refine k_it w_9 ?_
          refine lv_tableIn (off := 36) (tgt := 87) zx zb dX11_runsAs_51 (by decide) (by decide) rfl (by decide) ?_
          refine lv_iload zx zb dX11_runsAs_87 (lv_at hl 0 rfl) ?_
          exact e_int S zr zlk (vp_nar_int _) G () [] rfl rfl (Or.inl rfl) (trivial) dX11_runsAs_89
        · refine k_it w_9 ?_
          refine lv_tableIn (off := 39) (tgt := 90) zx zb dX11_runsAs_51 (by decide) (by decide) rfl (by decide) ?_
          refine lv_iload_n zx zb dX11_runsAs_90 rfl (lv_at hl 6 rfl) ?_
          refine lv_iconst (v := 5) zx zb dX11_runsAs_91 (by decide) ?_
          refine lv_irem zx zb dX11_runsAs_92 (by decide) ?_
          refine k_itE (fun y_10 => ?_)
          refine lv_iconst (v := 4) zx zb dX11_runsAs_93 (by decide) ?_
          refine k_cutW (PP := fun Wx => ∀ (x_12 : Int32) (H : Heap) (locs : List Loc) (ls : Array Slot), wd X (fun _ => True) (va_A [] sz) s ([]) H locs → lv_has ls 7 [(6, .int x_7), (5, .int x_4), (4, .int x_2), (0, .int x1), (1, .int x2), (2, .int x3), (3, .int x4)] → Wx (F0 m 106 ls [.int x_12]) H locs) ?_ ?_
          · intro join_94
            refine lv_icmp_ne (tgt := 104) zx zb dX11_runsAs_94 (by decide) (fun c_11 => ?_) (fun c_11 => ?_)
            · refine lv_iload zx zb dX11_runsAs_104 (lv_at hl 1 rfl) ?_
              exact join_94 x_4 _ _ _  G hl
            · refine lv_iload zx zb dX11_runsAs_97 (lv_at hl 1 rfl) ?_
              refine lv_iconst (v := 3) zx zb dX11_runsAs_99 (by decide) ?_
              refine r_iadd (v := (x_4 + 3)) S rfl dX11_runsAs_100 ?_
              refine lv_goto (tgt := 106) zx zb dX11_runsAs_101 (by decide) ?_
              exact join_94 (x_4 + 3) _ _ _  G hl
          · intro x_12 H locs ls  G hl
            exact e_int S zr zlk (vp_nar_int _) G () [] rfl rfl (Or.inl rfl) (trivial) dX11_runsAs_106
        · refine k_it w_9 ?_
          refine lv_tableIn (off := 56) (tgt := 107) zx zb dX11_runsAs_51 (by decide) (by decide) rfl (by decide) ?_
          refine lv_iload zx zb dX11_runsAs_107 (lv_at hl 2 rfl) ?_
          refine lv_iconst (v := 1) zx zb dX11_runsAs_109 (by decide) ?_
          refine r_iadd (v := (x_2 + 1)) S rfl dX11_runsAs_110 ?_
          refine lv_iconst (v := 2) zx zb dX11_runsAs_111 (by decide) ?_
          refine lv_idiv zx zb dX11_runsAs_112 (by decide) ?_
          refine k_itE (fun y_13 => ?_)
          exact e_int S zr zlk (vp_nar_int _) G () [] rfl rfl (Or.inl rfl) (trivial) dX11_runsAs_113
        · refine k_it w_9 ?_
          refine lv_tableIn (off := 63) (tgt := 114) zx zb dX11_runsAs_51 (by decide) (by decide) rfl (by decide) ?_
          refine lv_iload_n zx zb dX11_runsAs_114 rfl (lv_at hl 6 rfl) ?_
          refine lv_iconst (v := 2) zx zb dX11_runsAs_115 (by decide) ?_
          refine lv_irem zx zb dX11_runsAs_116 (by decide) ?_
          refine k_itE (fun y_14 => ?_)
          refine lv_iconst (v := 1) zx zb dX11_runsAs_117 (by decide) ?_
          refine k_cutW (PP := fun Wx => ∀ (x_16 : Int32) (H : Heap) (locs : List Loc) (ls : Array Slot), wd X (fun _ => True) (va_A [] sz) s ([]) H locs → lv_has ls 7 [(6, .int x_7), (5, .int x_4), (4, .int x_2), (0, .int x1), (1, .int x2), (2, .int x3), (3, .int x4)] → Wx (F0 m 130 ls [.int x_16]) H locs) ?_ ?_
          · intro join_118
            refine lv_icmp_ne (tgt := 128) zx zb dX11_runsAs_118 (by decide) (fun c_15 => ?_) (fun c_15 => ?_)
            · refine lv_iload zx zb dX11_runsAs_128 (lv_at hl 0 rfl) ?_
              exact join_118 x_7 _ _ _  G hl
            · refine lv_iload zx zb dX11_runsAs_121 (lv_at hl 0 rfl) ?_
              refine lv_iconst (v := 2) zx zb dX11_runsAs_123 (by decide) ?_
              refine r_iadd (v := (x_7 + 2)) S rfl dX11_runsAs_124 ?_
              refine lv_goto (tgt := 130) zx zb dX11_runsAs_125 (by decide) ?_
              exact join_118 (x_7 + 2) _ _ _  G hl
          · intro x_16 H locs ls  G hl
            exact e_int S zr zlk (vp_nar_int _) G () [] rfl rfl (Or.inl rfl) (trivial) dX11_runsAs_130
        · refine lv_tableOut (tgt := 131) zx zb dX11_runsAs_51 w_9 (by decide) ?_
          refine lv_iload zx zb dX11_runsAs_131 (lv_at hl 2 rfl) ?_
          exact e_int S zr zlk (vp_nar_int _) G () [] rfl rfl (Or.inl rfl) (trivial) dX11_runsAs_133
set_option maxHeartbeats 4000000 in
set_option maxRecDepth 100000 in
/-- mayAs -/
theorem m_mayAs (l : Launch) (X : EX) (x1 : Int32) (x2 : Int32) (sz : Nat) : Met l yX11_mayAs wsX11_mayAs ({ frames := 0, cells := 0, slots := 0, locals := 0 } : Room) (pE X [.int x1, .int x2] ([]) sz) (qI (fun (r : Int32) (u : Unit) => True) X (fun (u : Unit) => []) [] sz) 0 0 (va_A [] sz) := by
  refine mk_met (B := (fun _ => True)) (A := (va_A [] sz)) (cc := cX11_mayAs) (maxL := 3) (ret := (some .int)) (by decide) rfl (Nat.le_of_ble_eq_true rfl) k_ro k_a (fun p e s m below meth c S zr zlk znm zsz G ls hl => ?_)
  have S : CallFix p m c cX11_mayAs 3 s _ wsX11_mayAs RX11 := S
  have zx := S.1
  have zb := S.2.1
  have hl : lv_has ls 3 [(0, .int x1), (1, .int x2)] := hl
  refine lv_iload_n zx zb dX11_mayAs_0 rfl (lv_at hl 1 rfl) ?_
  refine lv_iconst (v := 2) zx zb dX11_mayAs_1 (by decide) ?_
  refine lv_irem zx zb dX11_mayAs_2 (by decide) ?_
  refine k_itE (fun y_1 => ?_)
  refine lv_iconst (v := 1) zx zb dX11_mayAs_3 (by decide) ?_
  refine k_cutW (PP := fun Wx => ∀ (x_3 : Int32) (H : Heap) (locs : List Loc) (ls : Array Slot), wd X (fun _ => True) (va_A [] sz) s ([]) H locs → lv_has ls 3 [(0, .int x1), (1, .int x2)] → Wx (F0 m 12 ls [.int x_3]) H locs) ?_ ?_
  · intro join_4
    refine lv_icmp_ne (tgt := 11) zx zb dX11_mayAs_4 (by decide) (fun c_2 => ?_) (fun c_2 => ?_)
    · refine lv_iconst (v := 4) zx zb dX11_mayAs_11 (by decide) ?_
      exact join_4 4 _ _ _  G hl
    · refine lv_iconst (v := 3) zx zb dX11_mayAs_7 (by decide) ?_
      refine lv_goto (tgt := 12) zx zb dX11_mayAs_8 (by decide) ?_
      exact join_4 3 _ _ _  G hl
  · intro x_3 H locs ls  G hl
    refine lv_istore_n (lv' := [(2, .int x_3), (0, .int x1), (1, .int x2)]) zx zb dX11_mayAs_12 rfl hl (by decide) rfl (fun ls hl => ?_)
    refine lv_iload_n zx zb dX11_mayAs_13 rfl (lv_at hl 1 rfl) ?_
    rcases k_ts1_5 x1 with w_4 | w_4 | w_4 | w_4 | w_4 | w_4
    · refine k_it w_4 ?_
      refine lv_tableIn (off := 34) (tgt := 48) zx zb dX11_mayAs_14 (by decide) (by decide) rfl (by decide) ?_
      refine lv_iconst (v := 5) zx zb dX11_mayAs_48 (by decide) ?_
      exact e_int S zr zlk (vp_nar_int _) G () [] rfl rfl (Or.inl rfl) (trivial) dX11_mayAs_49
    · refine k_it w_4 ?_
      refine lv_tableIn (off := 36) (tgt := 50) zx zb dX11_mayAs_14 (by decide) (by decide) rfl (by decide) ?_
      refine lv_iload_n zx zb dX11_mayAs_50 rfl (lv_at hl 0 rfl) ?_
      exact e_int S zr zlk (vp_nar_int _) G () [] rfl rfl (Or.inl rfl) (trivial) dX11_mayAs_51
    · refine k_it w_4 ?_
      refine lv_tableIn (off := 38) (tgt := 52) zx zb dX11_mayAs_14 (by decide) (by decide) rfl (by decide) ?_
      refine lv_iload_n zx zb dX11_mayAs_52 rfl (lv_at hl 2 rfl) ?_
      refine lv_iconst (v := 3) zx zb dX11_mayAs_53 (by decide) ?_
      refine k_cutW (PP := fun Wx => ∀ (x_6 : Int32) (H : Heap) (locs : List Loc) (ls : Array Slot), wd X (fun _ => True) (va_A [] sz) s ([]) H locs → lv_has ls 3 [(2, .int x_3), (0, .int x1), (1, .int x2)] → Wx (F0 m 63 ls [.int x_6]) H locs) ?_ ?_
      · intro join_54
        refine lv_icmp_ge (tgt := 62) zx zb dX11_mayAs_54 (by decide) (fun c_5 => ?_) (fun c_5 => ?_)
        · refine lv_iconst (v := 5) zx zb dX11_mayAs_62 (by decide) ?_
          exact join_54 5 _ _ _  G hl
        · refine lv_bipush (v := 8) zx zb dX11_mayAs_57 (by decide) ?_
          refine lv_goto (tgt := 63) zx zb dX11_mayAs_59 (by decide) ?_
          exact join_54 8 _ _ _  G hl
      · intro x_6 H locs ls  G hl
        exact e_int S zr zlk (vp_nar_int _) G () [] rfl rfl (Or.inl rfl) (trivial) dX11_mayAs_63
    · refine k_it w_4 ?_
      refine lv_tableIn (off := 50) (tgt := 64) zx zb dX11_mayAs_14 (by decide) (by decide) rfl (by decide) ?_
      refine lv_iload_n zx zb dX11_mayAs_64 rfl (lv_at hl 0 rfl) ?_
      refine lv_iconst (v := 1) zx zb dX11_mayAs_65 (by decide) ?_
      refine r_isub (v := (x_3 - 1)) S rfl dX11_mayAs_66 ?_
      exact e_int S zr zlk (vp_nar_int _) G () [] rfl rfl (Or.inl rfl) (trivial) dX11_mayAs_67
    · refine k_it w_4 ?_
      refine lv_tableIn (off := 54) (tgt := 68) zx zb dX11_mayAs_14 (by decide) (by decide) rfl (by decide) ?_
      refine lv_iload_n zx zb dX11_mayAs_68 rfl (lv_at hl 2 rfl) ?_
      refine lv_iconst (v := 4) zx zb dX11_mayAs_69 (by decide) ?_
      refine lv_irem zx zb dX11_mayAs_70 (by decide) ?_
      refine k_itE (fun y_7 => ?_)
      refine k_cutW (PP := fun Wx => ∀ (x_9 : Int32) (H : Heap) (locs : List Loc) (ls : Array Slot), wd X (fun _ => True) (va_A [] sz) s ([]) H locs → lv_has ls 3 [(2, .int x_3), (0, .int x1), (1, .int x2)] → Wx (F0 m 80 ls [.int x_9]) H locs) ?_ ?_
      · intro join_71
        refine lv_if_ne (tgt := 79) zx zb dX11_mayAs_71 (by decide) (fun c_8 => ?_) (fun c_8 => ?_)
        · refine lv_iconst (v := 5) zx zb dX11_mayAs_79 (by decide) ?_
          exact join_71 5 _ _ _  G hl
        · refine lv_bipush (v := 7) zx zb dX11_mayAs_74 (by decide) ?_
          refine lv_goto (tgt := 80) zx zb dX11_mayAs_76 (by decide) ?_
          exact join_71 7 _ _ _  G hl
      · intro x_9 H locs ls  G hl
        exact e_int S zr zlk (vp_nar_int _) G () [] rfl rfl (Or.inl rfl) (trivial) dX11_mayAs_80
    · refine lv_tableOut (tgt := 81) zx zb dX11_mayAs_14 w_4 (by decide) ?_
      refine lv_iconst (v := 4) zx zb dX11_mayAs_81 (by decide) ?_
      exact e_int S zr zlk (vp_nar_int _) G () [] rfl rfl (Or.inl rfl) (trivial) dX11_mayAs_82
theorem hdS_X11_runsAs : yX11_runsAs.cls ≠ "java/lang/invoke/MethodHandle" ∧ yX11_runsAs.cls ≠ "java/lang/invoke/VarHandle" ∧ (parseMethodDescriptor yX11_runsAs.desc).map (fun d => d.parameters.length) = some 4 := by decide +kernel
set_option maxHeartbeats 4000000 in
set_option maxRecDepth 100000 in
/-- runsOf -/
theorem m_runsOf (l : Launch) (X : EX) (ha : Nat) (N : Nat) (f : Nat → Int32) (c0 : Nat) (c1 : Nat) (c2 : Nat) (c3 : Nat) (c4 : Nat) (i : Nat) (x2 : Int32) (hI_f : InA f c0 c1 c2 c3 c4) (hN : 55 ≤ N) (hM : N ≤ 1000) (h6 : i < 6) (sz : Nat) : Met l yX11_runsOf wsX11_runsOf ({ frames := 1, cells := 0, slots := 0, locals := 26 } : Room) (pE X [.ref ha, .int (nI i), .int x2] ([(ha, .inl (X.2.1, N, .inl f))]) sz) (qI (fun (r : Int32) (u : Unit) => True) X (fun (u : Unit) => []) [] sz) 0 0 (va_A [] sz) := by
  refine mk_met (B := (fun _ => True)) (A := (va_A [] sz)) (cc := cX11_runsOf) (maxL := 3) (ret := (some .int)) (by decide) rfl (Nat.le_of_ble_eq_true rfl) k_ro k_a (fun p e s m below meth c S zr zlk znm zsz G ls hl => ?_)
  have S : CallFix p m c cX11_runsOf 3 s _ wsX11_runsOf RX11 := S
  have zx := S.1
  have zb := S.2.1
  have hl : lv_has ls 3 [(0, .ref ha), (1, .int (nI i)), (2, .int x2)] := hl
  have hO_f := hI_f.2
  obtain ⟨hm0_f, hm1_f, hm2_f, hm3_f, hm4_f⟩ := hO_f
  refine lv_aload_n zx zb dX11_runsOf_0 rfl (lv_at hl 0 rfl) ?_
  refine lv_bipush (v := 37) zx zb dX11_runsOf_1 (by decide) ?_
  refine lv_iload_n zx zb dX11_runsOf_3 rfl (lv_at hl 1 rfl) ?_
  refine r_iadd (v := (nI (37 + i))) S (nI_add 37 i) dX11_runsOf_4 ?_
  refine r_iald S G 0 rfl (vp_in_nI (by omega) (by omega)) rfl dX11_runsOf_5 ?_
  refine k_itE (fun y_1 => ?_)
  refine lv_aload_n zx zb dX11_runsOf_6 rfl (lv_at hl 0 rfl) ?_
  refine lv_bipush (v := 43) zx zb dX11_runsOf_7 (by decide) ?_
  refine lv_iload_n zx zb dX11_runsOf_9 rfl (lv_at hl 1 rfl) ?_
  refine r_iadd (v := (nI (43 + i))) S (nI_add 43 i) dX11_runsOf_10 ?_
  refine r_iald S G 0 rfl (vp_in_nI (by omega) (by omega)) rfl dX11_runsOf_11 ?_
  refine k_itE (fun y_2 => ?_)
  refine lv_aload_n zx zb dX11_runsOf_12 rfl (lv_at hl 0 rfl) ?_
  refine lv_bipush (v := 11) zx zb dX11_runsOf_13 (by decide) ?_
  refine lv_iload_n zx zb dX11_runsOf_15 rfl (lv_at hl 1 rfl) ?_
  refine r_iadd (v := (nI (11 + i))) S (nI_add 11 i) dX11_runsOf_16 ?_
  refine r_iald S G 0 rfl (vp_in_nI (by omega) (by omega)) rfl dX11_runsOf_17 ?_
  refine k_itE (fun y_3 => ?_)
  refine lv_iload_n zx zb dX11_runsOf_18 rfl (lv_at hl 2 rfl) ?_
  refine o_ri (cells' := 0) (slots' := 0) G rfl rfl (n_S (As := [.int y_1, .int y_2, .int y_3, .int x2]) (rest := []) S G (m_runsAs l X y_1 y_2 y_3 x2 s.heap.size) gX11_runsOf_X11_runsAs rfl rfl rfl hdS_X11_runsAs ⟨Nat.le_of_ble_eq_true rfl, Nat.le_of_ble_eq_true rfl⟩ [] rfl rfl rfl hl.1 (Nat.le_of_ble_eq_true rfl) dX11_runsOf_19 ⟨Nat.le_of_ble_eq_true rfl, Nat.le_of_ble_eq_true rfl⟩) (fun r_4 u_4 H locs hp_4 G => ?_)
  have G : wd X (fun _ => True) (va_A [] sz) s ([(ha, .inl (X.2.1, N, .inl f))]) H locs := G
  exact e_int S zr zlk (vp_nar_int _) G () [] rfl rfl (Or.inl rfl) (trivial) dX11_runsOf_22
set_option maxHeartbeats 4000000 in
set_option maxRecDepth 100000 in
/-- isHome -/
theorem m_isHome (l : Launch) (X : EX) (ha : Nat) (N : Nat) (f : Nat → Int32) (c0 : Nat) (c1 : Nat) (c2 : Nat) (c3 : Nat) (c4 : Nat) (i : Nat) (hI_f : InA f c0 c1 c2 c3 c4) (hN : 55 ≤ N) (hM : N ≤ 1000) (h6 : i < 6) (sz : Nat) : Met l yX11_isHome wsX11_isHome ({ frames := 0, cells := 0, slots := 0, locals := 0 } : Room) (pE X [.ref ha, .int (nI i)] ([(ha, .inl (X.2.1, N, .inl f))]) sz) (qI (fun (r : Int32) (u : Unit) => r = 0 ∨ r = 1) X (fun (u : Unit) => []) [] sz) 0 0 (va_A [] sz) := by
  refine mk_met (B := (fun _ => True)) (A := (va_A [] sz)) (cc := cX11_isHome) (maxL := 2) (ret := (some .boolean)) (by decide) rfl (Nat.le_of_ble_eq_true rfl) k_ro k_a (fun p e s m below meth c S zr zlk znm zsz G ls hl => ?_)
  have S : CallFix p m c cX11_isHome 2 s _ wsX11_isHome RX11 := S
  have zx := S.1
  have zb := S.2.1
  have hl : lv_has ls 2 [(0, .ref ha), (1, .int (nI i))] := hl
  have hO_f := hI_f.2
  obtain ⟨hm0_f, hm1_f, hm2_f, hm3_f, hm4_f⟩ := hO_f
  refine lv_aload_n zx zb dX11_isHome_0 rfl (lv_at hl 0 rfl) ?_
  refine lv_bipush (v := 29) zx zb dX11_isHome_1 (by decide) ?_
  refine lv_iload_n zx zb dX11_isHome_3 rfl (lv_at hl 1 rfl) ?_
  refine r_iadd (v := (nI (29 + i))) S (nI_add 29 i) dX11_isHome_4 ?_
  refine r_iald S G 0 rfl (vp_in_nI (by omega) (by omega)) rfl dX11_isHome_5 ?_
  refine k_itE (fun y_1 => ?_)
  refine lv_if_le (tgt := 13) zx zb dX11_isHome_6 (by decide) (fun c_2 => ?_) (fun c_2 => ?_)
  · refine lv_iconst (v := 0) zx zb dX11_isHome_13 (by decide) ?_
    exact e_int S zr zlk (by decide) G () [] rfl rfl (Or.inl rfl) ((Or.inl rfl)) dX11_isHome_14
  · refine lv_iconst (v := 1) zx zb dX11_isHome_9 (by decide) ?_
    refine lv_goto (tgt := 14) zx zb dX11_isHome_10 (by decide) ?_
    exact e_int S zr zlk (by decide) G () [] rfl rfl (Or.inl rfl) ((Or.inr rfl)) dX11_isHome_14
set_option maxHeartbeats 4000000 in
set_option maxRecDepth 100000 in
/-- drop -/
theorem m_drop (l : Launch) (X : EX) (ha : Nat) (N : Nat) (f : Nat → Int32) (c0 : Nat) (c1 : Nat) (c2 : Nat) (c3 : Nat) (c4 : Nat) (i : Nat) (hI_f : InA f c0 c1 c2 c3 c4) (hN : 55 ≤ N) (hM : N ≤ 1000) (h6 : i < 6) (sz : Nat) : Met l yX11_drop wsX11_drop ({ frames := 0, cells := 0, slots := 0, locals := 0 } : Room) (pE X [.ref ha, .int (nI i)] ([(ha, .inl (X.2.1, N, .inl f))]) sz) (qV (fun (u : (Nat → Int32)) => InA u c0 c1 c2 c3 c4 ∧ (True)) X (fun (u : (Nat → Int32)) => [(ha, .inl (X.2.1, N, .inl u))]) ([(ha, .inl (X.2.1, N, .inl f))]) sz) 0 0 (va_A ([(ha, .inl (X.2.1, N, .inl f))]) sz) := by
  refine mk_met (B := (va_A ([(ha, .inl (X.2.1, N, .inl f))]) sz)) (A := (va_A ([(ha, .inl (X.2.1, N, .inl f))]) sz)) (cc := cX11_drop) (maxL := 2) (ret := none) (by decide) rfl (Nat.le_of_ble_eq_true rfl) k_w k_a (fun p e s m below meth c S zr zlk znm zsz G ls hl => ?_)
  have S : CallFix p m c cX11_drop 2 s _ wsX11_drop RX11 := S
  have zx := S.1
  have zb := S.2.1
  have hl : lv_has ls 2 [(0, .ref ha), (1, .int (nI i))] := hl
  have hO_f := hI_f.2
  obtain ⟨hm0_f, hm1_f, hm2_f, hm3_f, hm4_f⟩ := hO_f
  refine lv_aload_n zx zb dX11_drop_0 rfl (lv_at hl 0 rfl) ?_
  refine lv_bipush (v := 17) zx zb dX11_drop_1 (by decide) ?_
  refine lv_iload_n zx zb dX11_drop_3 rfl (lv_at hl 1 rfl) ?_
  refine r_iadd (v := (nI (17 + i))) S (nI_add 17 i) dX11_drop_4 ?_
  refine lv_dup2_11 zx zb dX11_drop_5 rfl rfl ?_
  refine r_iald S G 0 rfl (vp_in_nI (by omega) (by omega)) rfl dX11_drop_6 ?_
  refine k_itE (fun y_1 => ?_)
  refine lv_aload_n zx zb dX11_drop_7 rfl (lv_at hl 0 rfl) ?_
  refine lv_bipush (v := 17) zx zb dX11_drop_8 (by decide) ?_
  refine lv_iload_n zx zb dX11_drop_10 rfl (lv_at hl 1 rfl) ?_
  refine r_iadd (v := (nI (17 + i))) S (nI_add 17 i) dX11_drop_11 ?_
  refine r_iald S G 0 rfl (vp_in_nI (by omega) (by omega)) rfl dX11_drop_12 ?_
  refine k_itE (fun y_2 => ?_)
  refine lv_bipush (v := 99) zx zb dX11_drop_13 (by decide) ?_
  refine k_cutW (PP := fun Wx => ∀ (x_4 : Int32) (H : Heap) (locs : List Loc) (ls : Array Slot), (x_4 = 0 ∨ x_4 = 1) → wd X (va_A ([(ha, .inl (X.2.1, N, .inl f))]) sz) (va_A ([(ha, .inl (X.2.1, N, .inl f))]) sz) s ([(ha, .inl (X.2.1, N, .inl f))]) H locs → lv_has ls 2 [(0, .ref ha), (1, .int (nI i))] → Wx (F0 m 23 ls [.int x_4, .int y_1, .int (nI (17 + i)), .ref ha]) H locs) ?_ ?_
  · intro join_15
    refine lv_icmp_ge (tgt := 22) zx zb dX11_drop_15 (by decide) (fun c_3 => ?_) (fun c_3 => ?_)
    · refine lv_iconst (v := 0) zx zb dX11_drop_22 (by decide) ?_
      exact join_15 0 _ _ _ (by first | assumption | exact Or.inl rfl | exact Or.inr rfl) G hl
    · refine lv_iconst (v := 1) zx zb dX11_drop_18 (by decide) ?_
      refine lv_goto (tgt := 23) zx zb dX11_drop_19 (by decide) ?_
      exact join_15 1 _ _ _ (by first | assumption | exact Or.inl rfl | exact Or.inr rfl) G hl
  · intro x_4 H locs ls hk_x_4 G hl
    refine r_iadd (v := (y_1 + x_4)) S rfl dX11_drop_23 ?_
    refine r_iast S G 0 rfl (vp_in_nI (by omega) (by omega)) dX11_drop_24 (fun H locs G => ?_)
    obtain ⟨f_5, hI_f_5, hE_f_5, G⟩ : ∃ f_5 : Nat → Int32, InA f_5 c0 c1 c2 c3 c4 ∧ f_5 = upd f (nI (17 + i)).toNatClampNeg (y_1 + x_4) ∧ wd X (va_A ([(ha, .inl (X.2.1, N, .inl f))]) sz) (va_A ([(ha, .inl (X.2.1, N, .inl f))]) sz) s ([(ha, .inl (X.2.1, N, .inl f_5))]) H locs := ⟨_, InA_o hI_f (by rw [nI_clamp (by omega)]; omega), rfl, G⟩
    refine lv_aload_n zx zb dX11_drop_25 rfl (lv_at hl 0 rfl) ?_
    refine lv_bipush (v := 23) zx zb dX11_drop_26 (by decide) ?_
    refine lv_iload_n zx zb dX11_drop_28 rfl (lv_at hl 1 rfl) ?_
    refine r_iadd (v := (nI (23 + i))) S (nI_add 23 i) dX11_drop_29 ?_
    refine lv_iconst (v := 2) zx zb dX11_drop_30 (by decide) ?_
    refine r_iast S G 0 rfl (vp_in_nI (by omega) (by omega)) dX11_drop_31 (fun H locs G => ?_)
    obtain ⟨f_6, hI_f_6, hE_f_6, G⟩ : ∃ f_6 : Nat → Int32, InA f_6 c0 c1 c2 c3 c4 ∧ f_6 = upd f_5 (nI (23 + i)).toNatClampNeg 2 ∧ wd X (va_A ([(ha, .inl (X.2.1, N, .inl f))]) sz) (va_A ([(ha, .inl (X.2.1, N, .inl f))]) sz) s ([(ha, .inl (X.2.1, N, .inl f_6))]) H locs := ⟨_, InA_o hI_f_5 (by rw [nI_clamp (by omega)]; omega), rfl, G⟩
    exact e_void S zr zlk G (f_6) [0] rfl rfl (Or.inr rfl) (⟨hI_f_6, trivial⟩) dX11_drop_32
theorem hdS_X11_runsOf : yX11_runsOf.cls ≠ "java/lang/invoke/MethodHandle" ∧ yX11_runsOf.cls ≠ "java/lang/invoke/VarHandle" ∧ (parseMethodDescriptor yX11_runsOf.desc).map (fun d => d.parameters.length) = some 3 := by decide +kernel
theorem hdS_X11_drop : yX11_drop.cls ≠ "java/lang/invoke/MethodHandle" ∧ yX11_drop.cls ≠ "java/lang/invoke/VarHandle" ∧ (parseMethodDescriptor yX11_drop.desc).map (fun d => d.parameters.length) = some 2 := by decide +kernel
theorem hdS_X11_mayAs : yX11_mayAs.cls ≠ "java/lang/invoke/MethodHandle" ∧ yX11_mayAs.cls ≠ "java/lang/invoke/VarHandle" ∧ (parseMethodDescriptor yX11_mayAs.desc).map (fun d => d.parameters.length) = some 2 := by decide +kernel
set_option maxHeartbeats 4000000 in
set_option maxRecDepth 100000 in
/-- goOne -/
theorem m_goOne (l : Launch) (X : EX) (ha : Nat) (N : Nat) (f : Nat → Int32) (c0 : Nat) (c1 : Nat) (c2 : Nat) (c3 : Nat) (c4 : Nat) (i : Nat) (x2 : Int32) (hI_f : InA f c0 c1 c2 c3 c4) (hN : 55 ≤ N) (hM : N ≤ 1000) (h6 : i < 6) (sz : Nat) : Met l yX11_goOne wsX11_goOne ({ frames := 2, cells := 0, slots := 0, locals := 48 } : Room) (pE X [.ref ha, .int (nI i), .int x2] ([(ha, .inl (X.2.1, N, .inl f))]) sz) (qV (fun (u : (Nat → Int32)) => InA u c0 c1 c2 c3 c4 ∧ (True)) X (fun (u : (Nat → Int32)) => [(ha, .inl (X.2.1, N, .inl u))]) ([(ha, .inl (X.2.1, N, .inl f))]) sz) 0 0 (va_A ([(ha, .inl (X.2.1, N, .inl f))]) sz) := by
  refine mk_met (B := (va_A ([(ha, .inl (X.2.1, N, .inl f))]) sz)) (A := (va_A ([(ha, .inl (X.2.1, N, .inl f))]) sz)) (cc := cX11_goOne) (maxL := 5) (ret := none) (by decide) rfl (Nat.le_of_ble_eq_true rfl) k_w k_a (fun p e s m below meth c S zr zlk znm zsz G ls hl => ?_)
  have S : CallFix p m c cX11_goOne 5 s _ wsX11_goOne RX11 := S
  have zx := S.1
  have zb := S.2.1
  have hl : lv_has ls 5 [(0, .ref ha), (1, .int (nI i)), (2, .int x2)] := hl
  have hO_f := hI_f.2
  obtain ⟨hm0_f, hm1_f, hm2_f, hm3_f, hm4_f⟩ := hO_f
  refine lv_aload_n zx zb dX11_goOne_0 rfl (lv_at hl 0 rfl) ?_
  refine lv_bipush (v := 35) zx zb dX11_goOne_1 (by decide) ?_
  refine r_iald S G 0 rfl (k_vpc (c := 35) rfl (by omega) (by omega)) rfl dX11_goOne_3 ?_
  refine k_itE (fun y_1 => ?_)
  refine lv_istore_n (lv' := [(3, .int y_1), (0, .ref ha), (1, .int (nI i)), (2, .int x2)]) zx zb dX11_goOne_4 rfl hl (by decide) rfl (fun ls hl => ?_)
  refine lv_aload_n zx zb dX11_goOne_5 rfl (lv_at hl 1 rfl) ?_
  refine lv_iload_n zx zb dX11_goOne_6 rfl (lv_at hl 2 rfl) ?_
  refine lv_iload_n zx zb dX11_goOne_7 rfl (lv_at hl 0 rfl) ?_
  refine o_ri (cells' := 0) (slots' := 0) G rfl rfl (n_S (As := [.ref ha, .int (nI i), .int y_1]) (rest := []) S G (m_runsOf l X ha N f c0 c1 c2 c3 c4 i y_1 hI_f (by omega) (by omega) (by omega) s.heap.size) gX11_goOne_X11_runsOf rfl rfl rfl hdS_X11_runsOf ⟨Nat.le_of_ble_eq_true rfl, Nat.le_of_ble_eq_true rfl⟩ [0] rfl rfl rfl hl.1 (Nat.le_of_ble_eq_true rfl) dX11_goOne_8 ⟨Nat.le_of_ble_eq_true rfl, Nat.le_of_ble_eq_true rfl⟩) (fun r_2 u_2 H locs hp_2 G => ?_)
  have G : wd X (va_A ([(ha, .inl (X.2.1, N, .inl f))]) sz) (va_A ([(ha, .inl (X.2.1, N, .inl f))]) sz) s ([(ha, .inl (X.2.1, N, .inl f))]) H locs := G
  refine lv_istore (lv' := [(4, .int r_2), (3, .int y_1), (0, .ref ha), (1, .int (nI i)), (2, .int x2)]) zx zb dX11_goOne_11 hl (by decide) rfl (fun ls hl => ?_)
  refine lv_aload_n zx zb dX11_goOne_13 rfl (lv_at hl 2 rfl) ?_
  refine lv_bipush (v := 23) zx zb dX11_goOne_14 (by decide) ?_
  refine lv_iload_n zx zb dX11_goOne_16 rfl (lv_at hl 3 rfl) ?_
  refine r_iadd (v := (nI (23 + i))) S (nI_add 23 i) dX11_goOne_17 ?_
  refine r_iald S G 0 rfl (vp_in_nI (by omega) (by omega)) rfl dX11_goOne_18 ?_
  refine k_itE (fun y_3 => ?_)
  refine k_cutW (PP := fun Wx => ∀ (f_5 : Nat → Int32) (H : Heap) (locs : List Loc) (ls : Array Slot), InA f_5 c0 c1 c2 c3 c4 → wd X (va_A ([(ha, .inl (X.2.1, N, .inl f))]) sz) (va_A ([(ha, .inl (X.2.1, N, .inl f))]) sz) s ([(ha, .inl (X.2.1, N, .inl f_5))]) H locs → lv_has ls 5 [(4, .int r_2), (3, .int y_1), (0, .ref ha), (1, .int (nI i)), (2, .int x2)] → Wx (F0 m 95 ls []) H locs) ?_ ?_
  · intro join_19
    refine lv_if_le (tgt := 35) zx zb dX11_goOne_19 (by decide) (fun c_4 => ?_) (fun c_4 => ?_)
    · refine lv_iload_n zx zb dX11_goOne_35 rfl (lv_at hl 4 rfl) ?_
      refine lv_if_ne (tgt := 54) zx zb dX11_goOne_36 (by decide) (fun c_6 => ?_) (fun c_6 => ?_)
      · refine lv_aload_n zx zb dX11_goOne_54 rfl (lv_at hl 2 rfl) ?_
        refine lv_iload_n zx zb dX11_goOne_55 rfl (lv_at hl 3 rfl) ?_
        refine b_wv (cells' := 0) (slots' := 0) (wr := []) G rfl rfl [0] [] rfl rfl rfl rfl (n_S (As := [.ref ha, .int (nI i)]) (rest := []) S G (m_drop l X ha N f c0 c1 c2 c3 c4 i hI_f (by omega) (by omega) (by omega) H.size) gX11_goOne_X11_drop rfl rfl rfl hdS_X11_drop ⟨Nat.le_of_ble_eq_true rfl, Nat.le_of_ble_eq_true rfl⟩ [0] rfl rfl rfl hl.1 (Nat.le_of_ble_eq_true rfl) dX11_goOne_56 ⟨Nat.le_of_ble_eq_true rfl, Nat.le_of_ble_eq_true rfl⟩) (fun u_7 H locs hp_7 G => ?_)
        obtain ⟨f_7, rfl⟩ : ∃ z, z = u_7 := ⟨_, rfl⟩
        obtain ⟨hI_f_7, hq_7⟩ := hp_7
        have G : wd X (va_A ([(ha, .inl (X.2.1, N, .inl f))]) sz) (va_A ([(ha, .inl (X.2.1, N, .inl f))]) sz) s ([(ha, .inl (X.2.1, N, .inl f_7))]) H locs := G
        refine lv_goto (tgt := 95) zx zb dX11_goOne_59 (by decide) ?_
        exact join_19 f_7 _ _ _ hI_f_7 G hl
      · refine lv_iload zx zb dX11_goOne_39 (lv_at hl 0 rfl) ?_
        refine lv_aload_n zx zb dX11_goOne_41 rfl (lv_at hl 2 rfl) ?_
        refine lv_bipush (v := 49) zx zb dX11_goOne_42 (by decide) ?_
        refine lv_iload_n zx zb dX11_goOne_44 rfl (lv_at hl 3 rfl) ?_
        refine r_iadd (v := (nI (49 + i))) S (nI_add 49 i) dX11_goOne_45 ?_
        refine r_iald S G 0 rfl (vp_in_nI (by omega) (by omega)) rfl dX11_goOne_46 ?_
        refine k_itE (fun y_8 => ?_)
        refine lv_iload_n zx zb dX11_goOne_47 rfl (lv_at hl 1 rfl) ?_
        refine o_ri (cells' := 0) (slots' := 0) G rfl rfl (n_S (As := [.int y_8, .int y_1]) (rest := [.int r_2]) S G (m_mayAs l X y_8 y_1 H.size) gX11_goOne_X11_mayAs rfl rfl rfl hdS_X11_mayAs ⟨Nat.le_of_ble_eq_true rfl, Nat.le_of_ble_eq_true rfl⟩ [] rfl rfl rfl hl.1 (Nat.le_of_ble_eq_true rfl) dX11_goOne_48 ⟨Nat.le_of_ble_eq_true rfl, Nat.le_of_ble_eq_true rfl⟩) (fun r_9 u_9 H locs hp_9 G => ?_)
        have G : wd X (va_A ([(ha, .inl (X.2.1, N, .inl f))]) sz) (va_A ([(ha, .inl (X.2.1, N, .inl f))]) sz) s ([(ha, .inl (X.2.1, N, .inl f))]) H locs := G
        refine lv_icmp_le (tgt := 62) zx zb dX11_goOne_51 (by decide) (fun c_10 => ?_) (fun c_10 => ?_)
        · refine lv_aload_n zx zb dX11_goOne_62 rfl (lv_at hl 2 rfl) ?_
          refine lv_iconst (v := 5) zx zb dX11_goOne_63 (by decide) ?_
          refine lv_iload_n zx zb dX11_goOne_64 rfl (lv_at hl 3 rfl) ?_
          refine r_iadd (v := (nI (5 + i))) S (nI_add 5 i) dX11_goOne_65 ?_
          refine lv_dup2_11 zx zb dX11_goOne_66 rfl rfl ?_
          refine r_iald S G 0 rfl (vp_in_nI (by omega) (by omega)) rfl dX11_goOne_67 ?_
          refine k_itE (fun y_11 => ?_)
          refine lv_iload zx zb dX11_goOne_68 (lv_at hl 0 rfl) ?_
          refine r_iadd (v := (y_11 + r_2)) S rfl dX11_goOne_70 ?_
          refine r_iast S G 0 rfl (vp_in_nI (by omega) (by omega)) dX11_goOne_71 (fun H locs G => ?_)
          obtain ⟨f_12, hI_f_12, hE_f_12, G⟩ : ∃ f_12 : Nat → Int32, InA f_12 c0 c1 c2 c3 c4 ∧ f_12 = upd f (nI (5 + i)).toNatClampNeg (y_11 + r_2) ∧ wd X (va_A ([(ha, .inl (X.2.1, N, .inl f))]) sz) (va_A ([(ha, .inl (X.2.1, N, .inl f))]) sz) s ([(ha, .inl (X.2.1, N, .inl f_12))]) H locs := ⟨_, InA_o hI_f (by rw [nI_clamp (by omega)]; omega), rfl, G⟩
          refine lv_aload_n zx zb dX11_goOne_72 rfl (lv_at hl 2 rfl) ?_
          refine lv_bipush (v := 29) zx zb dX11_goOne_73 (by decide) ?_
          refine lv_iload_n zx zb dX11_goOne_75 rfl (lv_at hl 3 rfl) ?_
          refine r_iadd (v := (nI (29 + i))) S (nI_add 29 i) dX11_goOne_76 ?_
          refine lv_aload_n zx zb dX11_goOne_77 rfl (lv_at hl 2 rfl) ?_
          refine lv_iconst (v := 5) zx zb dX11_goOne_78 (by decide) ?_
          refine lv_iload_n zx zb dX11_goOne_79 rfl (lv_at hl 3 rfl) ?_
          refine r_iadd (v := (nI (5 + i))) S (nI_add 5 i) dX11_goOne_80 ?_
          refine r_iald S G 0 rfl (vp_in_nI (by omega) (by omega)) rfl dX11_goOne_81 ?_
          refine k_itE (fun y_13 => ?_)
          refine lv_aload_n zx zb dX11_goOne_82 rfl (lv_at hl 2 rfl) ?_
          refine lv_bipush (v := 36) zx zb dX11_goOne_83 (by decide) ?_
          refine r_iald S G 0 rfl (k_vpc (c := 36) rfl (by omega) (by omega)) rfl dX11_goOne_85 ?_
          refine k_itE (fun y_14 => ?_)
          refine k_cutW (PP := fun Wx => ∀ (x_16 : Int32) (H : Heap) (locs : List Loc) (ls : Array Slot), wd X (va_A ([(ha, .inl (X.2.1, N, .inl f))]) sz) (va_A ([(ha, .inl (X.2.1, N, .inl f))]) sz) s ([(ha, .inl (X.2.1, N, .inl f_12))]) H locs → lv_has ls 5 [(4, .int r_2), (3, .int y_1), (0, .ref ha), (1, .int (nI i)), (2, .int x2)] → Wx (F0 m 94 ls [.int x_16, .int (nI (29 + i)), .ref ha]) H locs) ?_ ?_
          · intro join_86
            refine lv_icmp_lt (tgt := 93) zx zb dX11_goOne_86 (by decide) (fun c_15 => ?_) (fun c_15 => ?_)
            · refine lv_iconst (v := 0) zx zb dX11_goOne_93 (by decide) ?_
              exact join_86 0 _ _ _  G hl
            · refine lv_iload_n zx zb dX11_goOne_89 rfl (lv_at hl 1 rfl) ?_
              refine lv_goto (tgt := 94) zx zb dX11_goOne_90 (by decide) ?_
              exact join_86 y_1 _ _ _  G hl
          · intro x_16 H locs ls  G hl
            refine r_iast S G 0 rfl (vp_in_nI (by omega) (by omega)) dX11_goOne_94 (fun H locs G => ?_)
            obtain ⟨f_17, hI_f_17, hE_f_17, G⟩ : ∃ f_17 : Nat → Int32, InA f_17 c0 c1 c2 c3 c4 ∧ f_17 = upd f_12 (nI (29 + i)).toNatClampNeg x_16 ∧ wd X (va_A ([(ha, .inl (X.2.1, N, .inl f))]) sz) (va_A ([(ha, .inl (X.2.1, N, .inl f))]) sz) s ([(ha, .inl (X.2.1, N, .inl f_17))]) H locs := ⟨_, InA_o hI_f_12 (by rw [nI_clamp (by omega)]; omega), rfl, G⟩
            exact join_19 f_17 _ _ _ hI_f_17 G hl
        · refine lv_aload_n zx zb dX11_goOne_54 rfl (lv_at hl 2 rfl) ?_
          refine lv_iload_n zx zb dX11_goOne_55 rfl (lv_at hl 3 rfl) ?_
          refine b_wv (cells' := 0) (slots' := 0) (wr := []) G rfl rfl [0] [] rfl rfl rfl rfl (n_S (As := [.ref ha, .int (nI i)]) (rest := []) S G (m_drop l X ha N f c0 c1 c2 c3 c4 i hI_f (by omega) (by omega) (by omega) H.size) gX11_goOne_X11_drop rfl rfl rfl hdS_X11_drop ⟨Nat.le_of_ble_eq_true rfl, Nat.le_of_ble_eq_true rfl⟩ [0] rfl rfl rfl hl.1 (Nat.le_of_ble_eq_true rfl) dX11_goOne_56 ⟨Nat.le_of_ble_eq_true rfl, Nat.le_of_ble_eq_true rfl⟩) (fun u_18 H locs hp_18 G => ?_)
          obtain ⟨f_18, rfl⟩ : ∃ z, z = u_18 := ⟨_, rfl⟩
          obtain ⟨hI_f_18, hq_18⟩ := hp_18
          have G : wd X (va_A ([(ha, .inl (X.2.1, N, .inl f))]) sz) (va_A ([(ha, .inl (X.2.1, N, .inl f))]) sz) s ([(ha, .inl (X.2.1, N, .inl f_18))]) H locs := G
          refine lv_goto (tgt := 95) zx zb dX11_goOne_59 (by decide) ?_
          exact join_19 f_18 _ _ _ hI_f_18 G hl
    · refine lv_aload_n zx zb dX11_goOne_22 rfl (lv_at hl 2 rfl) ?_
      refine lv_bipush (v := 23) zx zb dX11_goOne_23 (by decide) ?_
      refine lv_iload_n zx zb dX11_goOne_25 rfl (lv_at hl 3 rfl) ?_
      refine r_iadd (v := (nI (23 + i))) S (nI_add 23 i) dX11_goOne_26 ?_
      refine lv_dup2_11 zx zb dX11_goOne_27 rfl rfl ?_
      refine r_iald S G 0 rfl (vp_in_nI (by omega) (by omega)) rfl dX11_goOne_28 ?_
      refine k_itE (fun y_19 => ?_)
      refine lv_iconst (v := 1) zx zb dX11_goOne_29 (by decide) ?_
      refine r_isub (v := (y_19 - 1)) S rfl dX11_goOne_30 ?_
      refine r_iast S G 0 rfl (vp_in_nI (by omega) (by omega)) dX11_goOne_31 (fun H locs G => ?_)
      obtain ⟨f_20, hI_f_20, hE_f_20, G⟩ : ∃ f_20 : Nat → Int32, InA f_20 c0 c1 c2 c3 c4 ∧ f_20 = upd f (nI (23 + i)).toNatClampNeg (y_19 - 1) ∧ wd X (va_A ([(ha, .inl (X.2.1, N, .inl f))]) sz) (va_A ([(ha, .inl (X.2.1, N, .inl f))]) sz) s ([(ha, .inl (X.2.1, N, .inl f_20))]) H locs := ⟨_, InA_o hI_f (by rw [nI_clamp (by omega)]; omega), rfl, G⟩
      refine lv_goto (tgt := 95) zx zb dX11_goOne_32 (by decide) ?_
      exact join_19 f_20 _ _ _ hI_f_20 G hl
  · intro f_5 H locs ls hI_f_5 G hl
    exact e_void S zr zlk G (f_5) [0] rfl rfl (Or.inr rfl) (⟨hI_f_5, trivial⟩) dX11_goOne_95
theorem hdS_X11_isHome : yX11_isHome.cls ≠ "java/lang/invoke/MethodHandle" ∧ yX11_isHome.cls ≠ "java/lang/invoke/VarHandle" ∧ (parseMethodDescriptor yX11_isHome.desc).map (fun d => d.parameters.length) = some 2 := by decide +kernel
theorem hdS_X11_goOne : yX11_goOne.cls ≠ "java/lang/invoke/MethodHandle" ∧ yX11_goOne.cls ≠ "java/lang/invoke/VarHandle" ∧ (parseMethodDescriptor yX11_goOne.desc).map (fun d => d.parameters.length) = some 3 := by decide +kernel
set_option maxHeartbeats 4000000 in
set_option maxRecDepth 100000 in
/-- goTick -/
theorem m_goTick (l : Launch) (X : EX) (ha : Nat) (N : Nat) (f : Nat → Int32) (c0 : Nat) (c1 : Nat) (c2 : Nat) (c3 : Nat) (c4 : Nat) (hI_f : InA f c0 c1 c2 c3 c4) (hN : 55 ≤ N) (hM : N ≤ 1000) (sz : Nat) : Met l yX11_goTick wsX11_goTick ({ frames := 3, cells := 0, slots := 0, locals := 72 } : Room) (pE X [.ref ha] ([(ha, .inl (X.2.1, N, .inl f))]) sz) (qV (fun (u : (Nat → Int32)) => InA u c0 c1 c2 c3 c4 ∧ (True)) X (fun (u : (Nat → Int32)) => [(ha, .inl (X.2.1, N, .inl u))]) ([(ha, .inl (X.2.1, N, .inl f))]) sz) 0 0 (va_A ([(ha, .inl (X.2.1, N, .inl f))]) sz) := by
  refine mk_met (B := (va_A ([(ha, .inl (X.2.1, N, .inl f))]) sz)) (A := (va_A ([(ha, .inl (X.2.1, N, .inl f))]) sz)) (cc := cX11_goTick) (maxL := 2) (ret := none) (by decide) rfl (Nat.le_of_ble_eq_true rfl) k_w k_a (fun p e s m below meth c S zr zlk znm zsz G ls hl => ?_)
  have S : CallFix p m c cX11_goTick 2 s _ wsX11_goTick RX11 := S
  have zx := S.1
  have zb := S.2.1
  have hl : lv_has ls 2 [(0, .ref ha)] := hl
  have hO_f := hI_f.2
  obtain ⟨hm0_f, hm1_f, hm2_f, hm3_f, hm4_f⟩ := hO_f
  refine lv_aload_n zx zb dX11_goTick_0 rfl (lv_at hl 0 rfl) ?_
  refine lv_bipush (v := 35) zx zb dX11_goTick_1 (by decide) ?_
  refine lv_dup2_11 zx zb dX11_goTick_3 rfl rfl ?_
  refine r_iald S G 0 rfl (k_vpc (c := 35) rfl (by omega) (by omega)) rfl dX11_goTick_4 ?_
  refine k_itE (fun y_1 => ?_)
  refine lv_iconst (v := 1) zx zb dX11_goTick_5 (by decide) ?_
  refine r_iadd (v := (y_1 + 1)) S rfl dX11_goTick_6 ?_
  refine r_iast S G 0 rfl (k_vpc (c := 35) rfl (by omega) (by omega)) dX11_goTick_7 (fun H locs G => ?_)
  obtain ⟨f_2, hI_f_2, hE_f_2, G⟩ : ∃ f_2 : Nat → Int32, InA f_2 c0 c1 c2 c3 c4 ∧ f_2 = upd f 35 (y_1 + 1) ∧ wd X (va_A ([(ha, .inl (X.2.1, N, .inl f))]) sz) (va_A ([(ha, .inl (X.2.1, N, .inl f))]) sz) s ([(ha, .inl (X.2.1, N, .inl f_2))]) H locs := ⟨_, InA_o hI_f (by decide), rfl, G⟩
  refine lv_iconst (v := 0) zx zb dX11_goTick_8 (by decide) ?_
  refine lv_istore_n (lv' := [(1, .int 0), (0, .ref ha)]) zx zb dX11_goTick_9 rfl hl (by decide) rfl (fun ls hl => ?_)
  refine k_loop (P := ∀ (zm : Nat) (k10 : Nat) (f10_0 : Nat → Int32) (H : Heap) (locs : List Loc) (ls : Array Slot), 6 + 1 ≤ k10 + zm → InA f10_0 c0 c1 c2 c3 c4 → (k10 ≤ 6) → wd X (va_A ([(ha, .inl (X.2.1, N, .inl f))]) sz) (va_A ([(ha, .inl (X.2.1, N, .inl f))]) sz) s ([(ha, .inl (X.2.1, N, .inl f10_0))]) H locs → lv_has ls 2 [(1, .int (nI k10)), (0, .ref ha)] → W p l e _ s m _ below meth c H locs _ _ _ (F0 m 10 ls [])) (fun loop => loop (6 + 1) 0 f_2 _ _ _ (by omega) hI_f_2 (by omega) G hl) ?_
  intro zm
  induction zm with
  | zero => intro k10 f10_0 H locs ls zz q_hI_f10_0 q_hk_k10 _ _; exact absurd zz (by omega)
  | succ zm ih10 =>
    intro k10 f10_0 H locs ls zm_10 hI_f10_0 hk_k10 G hl
    refine lv_iload_n zx zb dX11_goTick_10 rfl (lv_at hl 0 rfl) ?_
    refine lv_aload_n zx zb dX11_goTick_11 rfl (lv_at hl 1 rfl) ?_
    refine lv_iconst (v := 0) zx zb dX11_goTick_12 (by decide) ?_
    refine r_iald (v := (nI c0)) S G 0 rfl (k_vpc (c := 0) rfl (by omega) (by omega)) hI_f10_0.1.1 dX11_goTick_13 ?_
    refine lv_icmp_ge (tgt := 37) zx zb dX11_goTick_14 (by decide) (fun c_4 => ?_) (fun c_4 => ?_)
    · have fc_4 := j_le (a := c0) (b := k10) (by omega) (by omega) c_4
      exact e_void S zr zlk G (f10_0) [0] rfl rfl (Or.inr rfl) (⟨hI_f10_0, trivial⟩) dX11_goTick_37
    · have fc_4 := j_nle (a := c0) (b := k10) (by omega) (by omega) c_4
      refine lv_aload_n zx zb dX11_goTick_17 rfl (lv_at hl 1 rfl) ?_
      refine lv_iload_n zx zb dX11_goTick_18 rfl (lv_at hl 0 rfl) ?_
      refine o_ri (cells' := 0) (slots' := 0) G rfl rfl (n_S (As := [.ref ha, .int (nI k10)]) (rest := []) S G (m_isHome l X ha N f10_0 c0 c1 c2 c3 c4 k10 hI_f10_0 (by omega) (by omega) (by omega) H.size) gX11_goTick_X11_isHome rfl rfl rfl hdS_X11_isHome ⟨Nat.le_of_ble_eq_true rfl, Nat.le_of_ble_eq_true rfl⟩ [0] rfl rfl rfl hl.1 (Nat.le_of_ble_eq_true rfl) dX11_goTick_19 ⟨Nat.le_of_ble_eq_true rfl, Nat.le_of_ble_eq_true rfl⟩) (fun r_5 u_5 H locs hp_5 G => ?_)
      have G : wd X (va_A ([(ha, .inl (X.2.1, N, .inl f))]) sz) (va_A ([(ha, .inl (X.2.1, N, .inl f))]) sz) s ([(ha, .inl (X.2.1, N, .inl f10_0))]) H locs := G
      refine k_cutW (PP := fun Wx => ∀ (f_7 : Nat → Int32) (H : Heap) (locs : List Loc) (ls : Array Slot), InA f_7 c0 c1 c2 c3 c4 → wd X (va_A ([(ha, .inl (X.2.1, N, .inl f))]) sz) (va_A ([(ha, .inl (X.2.1, N, .inl f))]) sz) s ([(ha, .inl (X.2.1, N, .inl f_7))]) H locs → lv_has ls 2 [(1, .int (nI k10)), (0, .ref ha)] → Wx (F0 m 31 ls []) H locs) ?_ ?_
      · intro join_22
        refine lv_if_ne (tgt := 31) zx zb dX11_goTick_22 (by decide) (fun c_6 => ?_) (fun c_6 => ?_)
        · exact join_22 f10_0 _ _ _ hI_f10_0 G hl
        · refine lv_aload_n zx zb dX11_goTick_25 rfl (lv_at hl 1 rfl) ?_
          refine lv_iload_n zx zb dX11_goTick_26 rfl (lv_at hl 0 rfl) ?_
          refine lv_iconst (v := 0) zx zb dX11_goTick_27 (by decide) ?_
          refine b_wv (cells' := 0) (slots' := 0) (wr := []) G rfl rfl [0] [] rfl rfl rfl rfl (n_S (As := [.ref ha, .int (nI k10), .int 0]) (rest := []) S G (m_goOne l X ha N f10_0 c0 c1 c2 c3 c4 k10 0 hI_f10_0 (by omega) (by omega) (by omega) H.size) gX11_goTick_X11_goOne rfl rfl rfl hdS_X11_goOne ⟨Nat.le_of_ble_eq_true rfl, Nat.le_of_ble_eq_true rfl⟩ [0] rfl rfl rfl hl.1 (Nat.le_of_ble_eq_true rfl) dX11_goTick_28 ⟨Nat.le_of_ble_eq_true rfl, Nat.le_of_ble_eq_true rfl⟩) (fun u_8 H locs hp_8 G => ?_)
          obtain ⟨f_8, rfl⟩ : ∃ z, z = u_8 := ⟨_, rfl⟩
          obtain ⟨hI_f_8, hq_8⟩ := hp_8
          have G : wd X (va_A ([(ha, .inl (X.2.1, N, .inl f))]) sz) (va_A ([(ha, .inl (X.2.1, N, .inl f))]) sz) s ([(ha, .inl (X.2.1, N, .inl f_8))]) H locs := G
          exact join_22 f_8 _ _ _ hI_f_8 G hl
      · intro f_7 H locs ls hI_f_7 G hl
        refine lv_iinc (v := (nI (k10 + 1))) (lv' := [(1, .int (nI (k10 + 1))), (0, .ref ha)]) zx zb dX11_goTick_31 hl (k := 0) rfl (nI_add k10 1) (by decide) rfl (fun ls hl => ?_)
        refine lv_goto (tgt := 10) zx zb dX11_goTick_34 (by decide) ?_
        exact ih10 (k10 + 1) f_7 _ _ _ (by omega) hI_f_7 (by omega) G hl
theorem hdS_X11_goTick : yX11_goTick.cls ≠ "java/lang/invoke/MethodHandle" ∧ yX11_goTick.cls ≠ "java/lang/invoke/VarHandle" ∧ (parseMethodDescriptor yX11_goTick.desc).map (fun d => d.parameters.length) = some 1 := by decide +kernel
set_option maxHeartbeats 4000000 in
set_option maxRecDepth 100000 in
/-- manyHome -/
theorem m_manyHome (l : Launch) (X : EX) (ha : Nat) (N : Nat) (f : Nat → Int32) (c0 : Nat) (c1 : Nat) (c2 : Nat) (c3 : Nat) (c4 : Nat) (hI_f : InA f c0 c1 c2 c3 c4) (hN : 55 ≤ N) (hM : N ≤ 1000) (sz : Nat) : Met l yX11_manyHome wsX11_manyHome ({ frames := 1, cells := 0, slots := 0, locals := 21 } : Room) (pE X [.ref ha] ([(ha, .inl (X.2.1, N, .inl f))]) sz) (qI (fun (r : Int32) (u : Unit) => True) X (fun (u : Unit) => []) [] sz) 0 0 (va_A [] sz) := by
  refine mk_met (B := (fun _ => True)) (A := (va_A [] sz)) (cc := cX11_manyHome) (maxL := 3) (ret := (some .int)) (by decide) rfl (Nat.le_of_ble_eq_true rfl) k_ro k_a (fun p e s m below meth c S zr zlk znm zsz G ls hl => ?_)
  have S : CallFix p m c cX11_manyHome 3 s _ wsX11_manyHome RX11 := S
  have zx := S.1
  have zb := S.2.1
  have hl : lv_has ls 3 [(0, .ref ha)] := hl
  have hO_f := hI_f.2
  obtain ⟨hm0_f, hm1_f, hm2_f, hm3_f, hm4_f⟩ := hO_f
  refine lv_iconst (v := 0) zx zb dX11_manyHome_0 (by decide) ?_
  refine lv_istore_n (lv' := [(1, .int 0), (0, .ref ha)]) zx zb dX11_manyHome_1 rfl hl (by decide) rfl (fun ls hl => ?_)
  refine lv_iconst (v := 0) zx zb dX11_manyHome_2 (by decide) ?_
  refine lv_istore_n (lv' := [(2, .int 0), (1, .int 0), (0, .ref ha)]) zx zb dX11_manyHome_3 rfl hl (by decide) rfl (fun ls hl => ?_)
  refine k_loop (P := ∀ (zm : Nat) (k4 : Nat) (x4_1 : Int32) (H : Heap) (locs : List Loc) (ls : Array Slot), 6 + 1 ≤ k4 + zm → (k4 ≤ 6) → wd X (fun _ => True) (va_A [] sz) s ([(ha, .inl (X.2.1, N, .inl f))]) H locs → lv_has ls 3 [(2, .int (nI k4)), (1, .int x4_1), (0, .ref ha)] → W p l e _ s m _ below meth c H locs _ _ _ (F0 m 4 ls [])) (fun loop => loop (6 + 1) 0 0 _ _ _ (by omega) (by omega) G hl) ?_
  intro zm
  induction zm with
  | zero => intro k4 x4_1 H locs ls zz q_hk_k4 _ _; exact absurd zz (by omega)
  | succ zm ih4 =>
    intro k4 x4_1 H locs ls zm_4 hk_k4 G hl
    refine lv_iload_n zx zb dX11_manyHome_4 rfl (lv_at hl 0 rfl) ?_
    refine lv_aload_n zx zb dX11_manyHome_5 rfl (lv_at hl 2 rfl) ?_
    refine lv_iconst (v := 0) zx zb dX11_manyHome_6 (by decide) ?_
    refine r_iald (v := (nI c0)) S G 0 rfl (k_vpc (c := 0) rfl (by omega) (by omega)) hI_f.1.1 dX11_manyHome_7 ?_
    refine lv_icmp_ge (tgt := 33) zx zb dX11_manyHome_8 (by decide) (fun c_2 => ?_) (fun c_2 => ?_)
    · have fc_2 := j_le (a := c0) (b := k4) (by omega) (by omega) c_2
      refine lv_iload_n zx zb dX11_manyHome_33 rfl (lv_at hl 1 rfl) ?_
      exact e_int S zr zlk (vp_nar_int _) G () [] rfl rfl (Or.inl rfl) (trivial) dX11_manyHome_34
    · have fc_2 := j_nle (a := c0) (b := k4) (by omega) (by omega) c_2
      refine lv_iload_n zx zb dX11_manyHome_11 rfl (lv_at hl 1 rfl) ?_
      refine lv_aload_n zx zb dX11_manyHome_12 rfl (lv_at hl 2 rfl) ?_
      refine lv_iload_n zx zb dX11_manyHome_13 rfl (lv_at hl 0 rfl) ?_
      refine o_ri (cells' := 0) (slots' := 0) G rfl rfl (n_S (As := [.ref ha, .int (nI k4)]) (rest := [.int x4_1]) S G (m_isHome l X ha N f c0 c1 c2 c3 c4 k4 hI_f (by omega) (by omega) (by omega) H.size) gX11_manyHome_X11_isHome rfl rfl rfl hdS_X11_isHome ⟨Nat.le_of_ble_eq_true rfl, Nat.le_of_ble_eq_true rfl⟩ [0] rfl rfl rfl hl.1 (Nat.le_of_ble_eq_true rfl) dX11_manyHome_14 ⟨Nat.le_of_ble_eq_true rfl, Nat.le_of_ble_eq_true rfl⟩) (fun r_3 u_3 H locs hp_3 G => ?_)
      have G : wd X (fun _ => True) (va_A [] sz) s ([(ha, .inl (X.2.1, N, .inl f))]) H locs := G
      refine k_cutW (PP := fun Wx => ∀ (x_5 : Int32) (H : Heap) (locs : List Loc) (ls : Array Slot), (x_5 = 0 ∨ x_5 = 1) → wd X (fun _ => True) (va_A [] sz) s ([(ha, .inl (X.2.1, N, .inl f))]) H locs → lv_has ls 3 [(2, .int (nI k4)), (1, .int x4_1), (0, .ref ha)] → Wx (F0 m 25 ls [.int x_5, .int x4_1]) H locs) ?_ ?_
      · intro join_17
        refine lv_if_eq (tgt := 24) zx zb dX11_manyHome_17 (by decide) (fun c_4 => ?_) (fun c_4 => ?_)
        · refine lv_iconst (v := 0) zx zb dX11_manyHome_24 (by decide) ?_
          exact join_17 0 _ _ _ (by first | assumption | exact Or.inl rfl | exact Or.inr rfl) G hl
        · refine lv_iconst (v := 1) zx zb dX11_manyHome_20 (by decide) ?_
          refine lv_goto (tgt := 25) zx zb dX11_manyHome_21 (by decide) ?_
          exact join_17 1 _ _ _ (by first | assumption | exact Or.inl rfl | exact Or.inr rfl) G hl
      · intro x_5 H locs ls hk_x_5 G hl
        refine r_iadd (v := (x4_1 + x_5)) S rfl dX11_manyHome_25 ?_
        refine lv_istore_n (lv' := [(1, .int (x4_1 + x_5)), (2, .int (nI k4)), (0, .ref ha)]) zx zb dX11_manyHome_26 rfl hl (by decide) rfl (fun ls hl => ?_)
        refine lv_iinc (v := (nI (k4 + 1))) (lv' := [(2, .int (nI (k4 + 1))), (1, .int (x4_1 + x_5)), (0, .ref ha)]) zx zb dX11_manyHome_27 hl (k := 1) rfl (nI_add k4 1) (by decide) rfl (fun ls hl => ?_)
        refine lv_goto (tgt := 4) zx zb dX11_manyHome_30 (by decide) ?_
        exact ih4 (k4 + 1) (x4_1 + x_5) _ _ _ (by omega) (by omega) G hl
theorem in_X11_save_X11 : ∀ w ∈ wsX110, w ∈ wsX11_save := by decide +kernel
theorem lk_X11_save_7 : Cond.fieldLink RX11 7 "EggSpoonsModel" "all" "[I" ∈ wsX11_save := by decide +kernel
theorem mm_X11_ticks_c66 : Cond.constantLong RX11 66 (60) ∈ wsX11_ticks := by decide +kernel
theorem hdV_X11_save : yX11_save.cls = RX11 ∧ yX11_save.cls ≠ "java/lang/invoke/MethodHandle" ∧ yX11_save.cls ≠ "java/lang/invoke/VarHandle" ∧ (parseMethodDescriptor yX11_save.desc).map (fun d => d.parameters.length) = some 0 := by decide +kernel
theorem in_X11_ticks_X11 : ∀ w ∈ wsX110, w ∈ wsX11_ticks := by decide +kernel
theorem lk_X11_ticks_7 : Cond.fieldLink RX11 7 "EggSpoonsModel" "all" "[I" ∈ wsX11_ticks := by decide +kernel
theorem hdS_X11_goTicks : yX11_goTicks.cls ≠ "java/lang/invoke/MethodHandle" ∧ yX11_goTicks.cls ≠ "java/lang/invoke/VarHandle" ∧ (parseMethodDescriptor yX11_goTicks.desc).map (fun d => d.parameters.length) = some 2 := by decide +kernel
theorem hdS_X11_manyHome : yX11_manyHome.cls ≠ "java/lang/invoke/MethodHandle" ∧ yX11_manyHome.cls ≠ "java/lang/invoke/VarHandle" ∧ (parseMethodDescriptor yX11_manyHome.desc).map (fun d => d.parameters.length) = some 1 := by decide +kernel
theorem hdV_X11_isOne : yX11_isOne.cls = RX11 ∧ yX11_isOne.cls ≠ "java/lang/invoke/MethodHandle" ∧ yX11_isOne.cls ≠ "java/lang/invoke/VarHandle" ∧ (parseMethodDescriptor yX11_isOne.desc).map (fun d => d.parameters.length) = some 1 := by decide +kernel
theorem hdS_X11_isSpeed : yX11_isSpeed.cls ≠ "java/lang/invoke/MethodHandle" ∧ yX11_isSpeed.cls ≠ "java/lang/invoke/VarHandle" ∧ (parseMethodDescriptor yX11_isSpeed.desc).map (fun d => d.parameters.length) = some 1 := by decide +kernel
theorem in_X11_speed_X11 : ∀ w ∈ wsX110, w ∈ wsX11_speed := by decide +kernel
theorem lk_X11_speed_7 : Cond.fieldLink RX11 7 "EggSpoonsModel" "all" "[I" ∈ wsX11_speed := by decide +kernel
theorem hdV_X11_no : yX11_no.cls = RX11 ∧ yX11_no.cls ≠ "java/lang/invoke/MethodHandle" ∧ yX11_no.cls ≠ "java/lang/invoke/VarHandle" ∧ (parseMethodDescriptor yX11_no.desc).map (fun d => d.parameters.length) = some 0 := by decide +kernel
theorem mm_X11_start_c132 : Cond.constantLong RX11 132 (30) ∈ wsX11_start := by decide +kernel
theorem in_X11_start_X11 : ∀ w ∈ wsX110, w ∈ wsX11_start := by decide +kernel
theorem lk_X11_start_7 : Cond.fieldLink RX11 7 "EggSpoonsModel" "all" "[I" ∈ wsX11_start := by decide +kernel
theorem in_X11_undo_X11 : ∀ w ∈ wsX110, w ∈ wsX11_undo := by decide +kernel
theorem lk_X11_undo_7 : Cond.fieldLink RX11 7 "EggSpoonsModel" "all" "[I" ∈ wsX11_undo := by decide +kernel
theorem in_X11_toldOf_X11 : ∀ w ∈ wsX110, w ∈ wsX11_toldOf := by decide +kernel
theorem lk_X11_toldOf_7 : Cond.fieldLink RX11 7 "EggSpoonsModel" "all" "[I" ∈ wsX11_toldOf := by decide +kernel
set_option maxHeartbeats 4000000 in
set_option maxRecDepth 100000 in
/-- toldOf -/
theorem m_toldOf (l : Launch) (X : EX) (m0 : Nat) (ma : Nat → Nat) (la : Int64) (lb : Int64) (n : Nat) (t : Nat → Nat) (v : Nat → Int32) (fa : Nat → Int32) (c0 : Nat) (c1 : Nat) (c2 : Nat) (c3 : Nat) (c4 : Nat) (i : Nat) (x2 : Int32) (hI_n : n ≤ 150) (hI_t : InT t) (hI_fa : InA fa c0 c1 c2 c3 c4) (h6 : i < 6) (sz : Nat) : Met l yX11_toldOf wsX11_toldOf ({ frames := 2, cells := 0, slots := 0, locals := 48 } : Room) (pE X [.ref m0, .int (nI i), .int x2] (@HAppend.hAppend va_W va_W va_W _ (mW m0 ma la lb n t v) ([((ma 0), .inl (X.2.1, 371, .inl fa))])) sz) (qI (fun (r : Int32) (u : Unit) => True) X (fun (u : Unit) => []) [] sz) 0 0 (va_A [] sz) := by
  refine mk_met (B := (fun _ => True)) (A := (va_A [] sz)) (cc := cX11_toldOf) (maxL := 3) (ret := (some .int)) (by decide) rfl (Nat.le_of_ble_eq_true rfl) k_ro k_a (fun p e s m below meth c S zr zlk znm zsz G ls hl => ?_)
  have S : CallFix p m c cX11_toldOf 3 s _ wsX11_toldOf RX11 := S
  have zx := S.1
  have zb := S.2.1
  have hl : lv_has ls 3 [(0, .ref m0), (1, .int (nI i)), (2, .int x2)] := hl
  have hO_t := hI_t
  obtain ⟨ht0_t, ht1_t⟩ := hO_t
  have hO_fa := hI_fa.2
  obtain ⟨hm0_fa, hm1_fa, hm2_fa, hm3_fa, hm4_fa⟩ := hO_fa
  refine lv_iload_n zx zb dX11_toldOf_0 rfl (lv_at hl 2 rfl) ?_
  rcases k_ts0_8 x2 with w_1 | w_1 | w_1 | w_1 | w_1 | w_1 | w_1 | w_1 | w_1 | w_1
  · refine k_it w_1 ?_
    refine lv_tableIn (off := 51) (tgt := 52) zx zb dX11_toldOf_1 (by decide) (by decide) rfl (by decide) ?_
    refine lv_aload_n zx zb dX11_toldOf_52 rfl (lv_at hl 0 rfl) ?_
    refine r_get (C := RX11) (T := TX11) (N := 18) (ci := 9) (v := .ref (ma 0)) S in_X11_toldOf_X11 G 0 rfl rfl 0 (by decide) lk_X11_toldOf_7 rfl dX11_toldOf_53 ?_
    refine lv_bipush (v := 37) zx zb dX11_toldOf_56 (by decide) ?_
    refine lv_iload_n zx zb dX11_toldOf_58 rfl (lv_at hl 1 rfl) ?_
    refine r_iadd (v := (nI (37 + i))) S (nI_add 37 i) dX11_toldOf_59 ?_
    refine r_iald S G 1 rfl (vp_in_nI (by omega) (by decide)) rfl dX11_toldOf_60 ?_
    refine k_itE (fun y_2 => ?_)
    exact e_int S zr zlk (vp_nar_int _) G () [] rfl rfl (Or.inl rfl) (trivial) dX11_toldOf_61
  · refine k_it w_1 ?_
    refine lv_tableIn (off := 61) (tgt := 62) zx zb dX11_toldOf_1 (by decide) (by decide) rfl (by decide) ?_
    refine lv_aload_n zx zb dX11_toldOf_62 rfl (lv_at hl 0 rfl) ?_
    refine r_get (C := RX11) (T := TX11) (N := 18) (ci := 9) (v := .ref (ma 0)) S in_X11_toldOf_X11 G 0 rfl rfl 0 (by decide) lk_X11_toldOf_7 rfl dX11_toldOf_63 ?_
    refine lv_bipush (v := 43) zx zb dX11_toldOf_66 (by decide) ?_
    refine lv_iload_n zx zb dX11_toldOf_68 rfl (lv_at hl 1 rfl) ?_
    refine r_iadd (v := (nI (43 + i))) S (nI_add 43 i) dX11_toldOf_69 ?_
    refine r_iald S G 1 rfl (vp_in_nI (by omega) (by decide)) rfl dX11_toldOf_70 ?_
    refine k_itE (fun y_3 => ?_)
    exact e_int S zr zlk (vp_nar_int _) G () [] rfl rfl (Or.inl rfl) (trivial) dX11_toldOf_71
  · refine k_it w_1 ?_
    refine lv_tableIn (off := 71) (tgt := 72) zx zb dX11_toldOf_1 (by decide) (by decide) rfl (by decide) ?_
    refine lv_aload_n zx zb dX11_toldOf_72 rfl (lv_at hl 0 rfl) ?_
    refine r_get (C := RX11) (T := TX11) (N := 18) (ci := 9) (v := .ref (ma 0)) S in_X11_toldOf_X11 G 0 rfl rfl 0 (by decide) lk_X11_toldOf_7 rfl dX11_toldOf_73 ?_
    refine lv_bipush (v := 49) zx zb dX11_toldOf_76 (by decide) ?_
    refine lv_iload_n zx zb dX11_toldOf_78 rfl (lv_at hl 1 rfl) ?_
    refine r_iadd (v := (nI (49 + i))) S (nI_add 49 i) dX11_toldOf_79 ?_
    refine r_iald S G 1 rfl (vp_in_nI (by omega) (by decide)) rfl dX11_toldOf_80 ?_
    refine k_itE (fun y_4 => ?_)
    exact e_int S zr zlk (vp_nar_int _) G () [] rfl rfl (Or.inl rfl) (trivial) dX11_toldOf_81
  · refine k_it w_1 ?_
    refine lv_tableIn (off := 81) (tgt := 82) zx zb dX11_toldOf_1 (by decide) (by decide) rfl (by decide) ?_
    refine lv_aload_n zx zb dX11_toldOf_82 rfl (lv_at hl 0 rfl) ?_
    refine r_get (C := RX11) (T := TX11) (N := 18) (ci := 9) (v := .ref (ma 0)) S in_X11_toldOf_X11 G 0 rfl rfl 0 (by decide) lk_X11_toldOf_7 rfl dX11_toldOf_83 ?_
    refine lv_bipush (v := 11) zx zb dX11_toldOf_86 (by decide) ?_
    refine lv_iload_n zx zb dX11_toldOf_88 rfl (lv_at hl 1 rfl) ?_
    refine r_iadd (v := (nI (11 + i))) S (nI_add 11 i) dX11_toldOf_89 ?_
    refine r_iald S G 1 rfl (vp_in_nI (by omega) (by decide)) rfl dX11_toldOf_90 ?_
    refine k_itE (fun y_5 => ?_)
    exact e_int S zr zlk (vp_nar_int _) G () [] rfl rfl (Or.inl rfl) (trivial) dX11_toldOf_91
  · refine k_it w_1 ?_
    refine lv_tableIn (off := 91) (tgt := 92) zx zb dX11_toldOf_1 (by decide) (by decide) rfl (by decide) ?_
    refine lv_aload_n zx zb dX11_toldOf_92 rfl (lv_at hl 0 rfl) ?_
    refine r_get (C := RX11) (T := TX11) (N := 18) (ci := 9) (v := .ref (ma 0)) S in_X11_toldOf_X11 G 0 rfl rfl 0 (by decide) lk_X11_toldOf_7 rfl dX11_toldOf_93 ?_
    refine lv_iconst (v := 5) zx zb dX11_toldOf_96 (by decide) ?_
    refine lv_iload_n zx zb dX11_toldOf_97 rfl (lv_at hl 1 rfl) ?_
    refine r_iadd (v := (nI (5 + i))) S (nI_add 5 i) dX11_toldOf_98 ?_
    refine r_iald S G 1 rfl (vp_in_nI (by omega) (by decide)) rfl dX11_toldOf_99 ?_
    refine k_itE (fun y_6 => ?_)
    exact e_int S zr zlk (vp_nar_int _) G () [] rfl rfl (Or.inl rfl) (trivial) dX11_toldOf_100
  · refine k_it w_1 ?_
    refine lv_tableIn (off := 100) (tgt := 101) zx zb dX11_toldOf_1 (by decide) (by decide) rfl (by decide) ?_
    refine lv_aload_n zx zb dX11_toldOf_101 rfl (lv_at hl 0 rfl) ?_
    refine r_get (C := RX11) (T := TX11) (N := 18) (ci := 9) (v := .ref (ma 0)) S in_X11_toldOf_X11 G 0 rfl rfl 0 (by decide) lk_X11_toldOf_7 rfl dX11_toldOf_102 ?_
    refine lv_bipush (v := 17) zx zb dX11_toldOf_105 (by decide) ?_
    refine lv_iload_n zx zb dX11_toldOf_107 rfl (lv_at hl 1 rfl) ?_
    refine r_iadd (v := (nI (17 + i))) S (nI_add 17 i) dX11_toldOf_108 ?_
    refine r_iald S G 1 rfl (vp_in_nI (by omega) (by decide)) rfl dX11_toldOf_109 ?_
    refine k_itE (fun y_7 => ?_)
    exact e_int S zr zlk (vp_nar_int _) G () [] rfl rfl (Or.inl rfl) (trivial) dX11_toldOf_110
  · refine k_it w_1 ?_
    refine lv_tableIn (off := 110) (tgt := 111) zx zb dX11_toldOf_1 (by decide) (by decide) rfl (by decide) ?_
    refine lv_aload_n zx zb dX11_toldOf_111 rfl (lv_at hl 0 rfl) ?_
    refine r_get (C := RX11) (T := TX11) (N := 18) (ci := 9) (v := .ref (ma 0)) S in_X11_toldOf_X11 G 0 rfl rfl 0 (by decide) lk_X11_toldOf_7 rfl dX11_toldOf_112 ?_
    refine lv_bipush (v := 23) zx zb dX11_toldOf_115 (by decide) ?_
    refine lv_iload_n zx zb dX11_toldOf_117 rfl (lv_at hl 1 rfl) ?_
    refine r_iadd (v := (nI (23 + i))) S (nI_add 23 i) dX11_toldOf_118 ?_
    refine r_iald S G 1 rfl (vp_in_nI (by omega) (by decide)) rfl dX11_toldOf_119 ?_
    refine k_itE (fun y_8 => ?_)
    exact e_int S zr zlk (vp_nar_int _) G () [] rfl rfl (Or.inl rfl) (trivial) dX11_toldOf_120
  · refine k_it w_1 ?_
    refine lv_tableIn (off := 120) (tgt := 121) zx zb dX11_toldOf_1 (by decide) (by decide) rfl (by decide) ?_
    refine lv_aload_n zx zb dX11_toldOf_121 rfl (lv_at hl 0 rfl) ?_
    refine r_get (C := RX11) (T := TX11) (N := 18) (ci := 9) (v := .ref (ma 0)) S in_X11_toldOf_X11 G 0 rfl rfl 0 (by decide) lk_X11_toldOf_7 rfl dX11_toldOf_122 ?_
    refine lv_iload_n zx zb dX11_toldOf_125 rfl (lv_at hl 1 rfl) ?_
    refine o_ri (cells' := 0) (slots' := 0) G rfl rfl (n_S (As := [.ref (ma 0), .int (nI i)]) (rest := []) S G (m_isHome l X (ma 0) 371 fa c0 c1 c2 c3 c4 i hI_fa (by omega) (by omega) (by omega) s.heap.size) gX11_toldOf_X11_isHome rfl rfl rfl hdS_X11_isHome ⟨Nat.le_of_ble_eq_true rfl, Nat.le_of_ble_eq_true rfl⟩ [1] rfl rfl rfl hl.1 (Nat.le_of_ble_eq_true rfl) dX11_toldOf_126 ⟨Nat.le_of_ble_eq_true rfl, Nat.le_of_ble_eq_true rfl⟩) (fun r_9 u_9 H locs hp_9 G => ?_)
    have G : wd X (fun _ => True) (va_A [] sz) s (@HAppend.hAppend va_W va_W va_W _ (mW m0 ma la lb n t v) ([((ma 0), .inl (X.2.1, 371, .inl fa))])) H locs := G
    refine k_cutW (PP := fun Wx => ∀ (x_11 : Int32) (H : Heap) (locs : List Loc) (ls : Array Slot), wd X (fun _ => True) (va_A [] sz) s (@HAppend.hAppend va_W va_W va_W _ (mW m0 ma la lb n t v) ([((ma 0), .inl (X.2.1, 371, .inl fa))])) H locs → lv_has ls 3 [(0, .ref m0), (1, .int (nI i)), (2, .int x2)] → Wx (F0 m 145 ls [.int x_11]) H locs) ?_ ?_
    · intro join_129
      refine lv_if_eq (tgt := 144) zx zb dX11_toldOf_129 (by decide) (fun c_10 => ?_) (fun c_10 => ?_)
      · refine lv_iconst (v := (-1)) zx zb dX11_toldOf_144 (by decide) ?_
        exact join_129 (-1) _ _ _  G hl
      · refine lv_aload_n zx zb dX11_toldOf_132 rfl (lv_at hl 0 rfl) ?_
        refine r_get (C := RX11) (T := TX11) (N := 18) (ci := 9) (v := .ref (ma 0)) S in_X11_toldOf_X11 G 0 rfl rfl 0 (by decide) lk_X11_toldOf_7 rfl dX11_toldOf_133 ?_
        refine lv_bipush (v := 29) zx zb dX11_toldOf_136 (by decide) ?_
        refine lv_iload_n zx zb dX11_toldOf_138 rfl (lv_at hl 1 rfl) ?_
        refine r_iadd (v := (nI (29 + i))) S (nI_add 29 i) dX11_toldOf_139 ?_
        refine r_iald S G 1 rfl (vp_in_nI (by omega) (by decide)) rfl dX11_toldOf_140 ?_
        refine k_itE (fun y_12 => ?_)
        refine lv_goto (tgt := 145) zx zb dX11_toldOf_141 (by decide) ?_
        exact join_129 y_12 _ _ _  G hl
    · intro x_11 H locs ls  G hl
      exact e_int S zr zlk (vp_nar_int _) G () [] rfl rfl (Or.inl rfl) (trivial) dX11_toldOf_145
  · refine k_it w_1 ?_
    refine lv_tableIn (off := 145) (tgt := 146) zx zb dX11_toldOf_1 (by decide) (by decide) rfl (by decide) ?_
    refine lv_aload_n zx zb dX11_toldOf_146 rfl (lv_at hl 0 rfl) ?_
    refine r_get (C := RX11) (T := TX11) (N := 18) (ci := 9) (v := .ref (ma 0)) S in_X11_toldOf_X11 G 0 rfl rfl 0 (by decide) lk_X11_toldOf_7 rfl dX11_toldOf_147 ?_
    refine lv_iload_n zx zb dX11_toldOf_150 rfl (lv_at hl 1 rfl) ?_
    refine lv_aload_n zx zb dX11_toldOf_151 rfl (lv_at hl 0 rfl) ?_
    refine r_get (C := RX11) (T := TX11) (N := 18) (ci := 9) (v := .ref (ma 0)) S in_X11_toldOf_X11 G 0 rfl rfl 0 (by decide) lk_X11_toldOf_7 rfl dX11_toldOf_152 ?_
    refine lv_bipush (v := 35) zx zb dX11_toldOf_155 (by decide) ?_
    refine r_iald S G 1 rfl (k_vp (by decide)) rfl dX11_toldOf_157 ?_
    refine k_itE (fun y_13 => ?_)
    refine lv_iconst (v := 1) zx zb dX11_toldOf_158 (by decide) ?_
    refine r_iadd (v := (y_13 + 1)) S rfl dX11_toldOf_159 ?_
    refine o_ri (cells' := 0) (slots' := 0) G rfl rfl (n_S (As := [.ref (ma 0), .int (nI i), .int (y_13 + 1)]) (rest := []) S G (m_runsOf l X (ma 0) 371 fa c0 c1 c2 c3 c4 i (y_13 + 1) hI_fa (by omega) (by omega) (by omega) s.heap.size) gX11_toldOf_X11_runsOf rfl rfl rfl hdS_X11_runsOf ⟨Nat.le_of_ble_eq_true rfl, Nat.le_of_ble_eq_true rfl⟩ [1] rfl rfl rfl hl.1 (Nat.le_of_ble_eq_true rfl) dX11_toldOf_160 ⟨Nat.le_of_ble_eq_true rfl, Nat.le_of_ble_eq_true rfl⟩) (fun r_14 u_14 H locs hp_14 G => ?_)
    have G : wd X (fun _ => True) (va_A [] sz) s (@HAppend.hAppend va_W va_W va_W _ (mW m0 ma la lb n t v) ([((ma 0), .inl (X.2.1, 371, .inl fa))])) H locs := G
    exact e_int S zr zlk (vp_nar_int _) G () [] rfl rfl (Or.inl rfl) (trivial) dX11_toldOf_163
  · refine lv_tableOut (tgt := 164) zx zb dX11_toldOf_1 w_1 (by decide) ?_
    refine lv_aload_n zx zb dX11_toldOf_164 rfl (lv_at hl 0 rfl) ?_
    refine r_get (C := RX11) (T := TX11) (N := 18) (ci := 9) (v := .ref (ma 0)) S in_X11_toldOf_X11 G 0 rfl rfl 0 (by decide) lk_X11_toldOf_7 rfl dX11_toldOf_165 ?_
    refine lv_bipush (v := 49) zx zb dX11_toldOf_168 (by decide) ?_
    refine lv_iload_n zx zb dX11_toldOf_170 rfl (lv_at hl 1 rfl) ?_
    refine r_iadd (v := (nI (49 + i))) S (nI_add 49 i) dX11_toldOf_171 ?_
    refine r_iald S G 1 rfl (vp_in_nI (by omega) (by decide)) rfl dX11_toldOf_172 ?_
    refine k_itE (fun y_15 => ?_)
    refine lv_aload_n zx zb dX11_toldOf_173 rfl (lv_at hl 0 rfl) ?_
    refine r_get (C := RX11) (T := TX11) (N := 18) (ci := 9) (v := .ref (ma 0)) S in_X11_toldOf_X11 G 0 rfl rfl 0 (by decide) lk_X11_toldOf_7 rfl dX11_toldOf_174 ?_
    refine lv_bipush (v := 35) zx zb dX11_toldOf_177 (by decide) ?_
    refine r_iald S G 1 rfl (k_vp (by decide)) rfl dX11_toldOf_179 ?_
    refine k_itE (fun y_16 => ?_)
    refine lv_iconst (v := 1) zx zb dX11_toldOf_180 (by decide) ?_
    refine r_iadd (v := (y_16 + 1)) S rfl dX11_toldOf_181 ?_
    refine o_ri (cells' := 0) (slots' := 0) G rfl rfl (n_S (As := [.int y_15, .int (y_16 + 1)]) (rest := []) S G (m_mayAs l X y_15 (y_16 + 1) s.heap.size) gX11_toldOf_X11_mayAs rfl rfl rfl hdS_X11_mayAs ⟨Nat.le_of_ble_eq_true rfl, Nat.le_of_ble_eq_true rfl⟩ [] rfl rfl rfl hl.1 (Nat.le_of_ble_eq_true rfl) dX11_toldOf_182 ⟨Nat.le_of_ble_eq_true rfl, Nat.le_of_ble_eq_true rfl⟩) (fun r_17 u_17 H locs hp_17 G => ?_)
    have G : wd X (fun _ => True) (va_A [] sz) s (@HAppend.hAppend va_W va_W va_W _ (mW m0 ma la lb n t v) ([((ma 0), .inl (X.2.1, 371, .inl fa))])) H locs := G
    exact e_int S zr zlk (vp_nar_int _) G () [] rfl rfl (Or.inl rfl) (trivial) dX11_toldOf_185
theorem mm_X11_of_c62 : Cond.constantLong RX11 62 (9) ∈ wsX11_of := by decide +kernel
theorem hdV_X11_toldOf : yX11_toldOf.cls = RX11 ∧ yX11_toldOf.cls ≠ "java/lang/invoke/MethodHandle" ∧ yX11_toldOf.cls ≠ "java/lang/invoke/VarHandle" ∧ (parseMethodDescriptor yX11_toldOf.desc).map (fun d => d.parameters.length) = some 2 := by decide +kernel
set_option maxHeartbeats 4000000 in
set_option maxRecDepth 100000 in
/-- of -/
theorem m_of (l : Launch) (X : EX) (m0 : Nat) (ma : Nat → Nat) (la : Int64) (lb : Int64) (n : Nat) (t : Nat → Nat) (v : Nat → Int32) (fa : Nat → Int32) (c0 : Nat) (c1 : Nat) (c2 : Nat) (c3 : Nat) (c4 : Nat) (fr : Nat → Int32) (x1 : Int32) (x2 : Int32) (hI_n : n ≤ 150) (hI_t : InT t) (hI_fa : InA fa c0 c1 c2 c3 c4) (sz : Nat) : Met l yX11_of wsX11_of ({ frames := 3, cells := 0, slots := 0, locals := 70 } : Room) (pE X [.ref m0, .int x1, .int x2] (@HAppend.hAppend va_W va_W va_W _ (mW m0 ma la lb n t v) (@HAppend.hAppend va_W va_W va_W _ ([((ma 0), .inl (X.2.1, 371, .inl fa))]) ([((ma 3), .inl (X.2.1, 3, .inl fr))]))) sz) (qI (fun (r : Int32) (u : (Nat → Int32)) => (True)) X (fun (u : (Nat → Int32)) => @HAppend.hAppend va_W va_W va_W _ (mW m0 ma la lb n t v) (@HAppend.hAppend va_W va_W va_W _ ([((ma 0), .inl (X.2.1, 371, .inl fa))]) ([((ma 3), .inl (X.2.1, 3, .inl u))]))) (@HAppend.hAppend va_W va_W va_W _ (mW m0 ma la lb n t v) (@HAppend.hAppend va_W va_W va_W _ ([((ma 0), .inl (X.2.1, 371, .inl fa))]) ([((ma 3), .inl (X.2.1, 3, .inl fr))]))) sz) 0 0 (va_A (@HAppend.hAppend va_W va_W va_W _ (mW m0 ma la lb n t v) (@HAppend.hAppend va_W va_W va_W _ ([((ma 0), .inl (X.2.1, 371, .inl fa))]) ([((ma 3), .inl (X.2.1, 3, .inl fr))]))) sz) := by
  refine mk_met (B := (va_A (@HAppend.hAppend va_W va_W va_W _ (mW m0 ma la lb n t v) (@HAppend.hAppend va_W va_W va_W _ ([((ma 0), .inl (X.2.1, 371, .inl fa))]) ([((ma 3), .inl (X.2.1, 3, .inl fr))]))) sz)) (A := (va_A (@HAppend.hAppend va_W va_W va_W _ (mW m0 ma la lb n t v) (@HAppend.hAppend va_W va_W va_W _ ([((ma 0), .inl (X.2.1, 371, .inl fa))]) ([((ma 3), .inl (X.2.1, 3, .inl fr))]))) sz)) (cc := cX11_of) (maxL := 3) (ret := (some .int)) (by decide) rfl (Nat.le_of_ble_eq_true rfl) k_w k_a (fun p e s m below meth c S zr zlk znm zsz G ls hl => ?_)
  have S : CallFix p m c cX11_of 3 s _ wsX11_of RX11 := S
  have zx := S.1
  have zb := S.2.1
  have hl : lv_has ls 3 [(0, .ref m0), (1, .int x1), (2, .int x2)] := hl
  have hO_t := hI_t
  obtain ⟨ht0_t, ht1_t⟩ := hO_t
  have hO_fa := hI_fa.2
  obtain ⟨hm0_fa, hm1_fa, hm2_fa, hm3_fa, hm4_fa⟩ := hO_fa
  refine lv_aload_n zx zb dX11_of_0 rfl (lv_at hl 0 rfl) ?_
  refine lv_iload_n zx zb dX11_of_1 rfl (lv_at hl 1 rfl) ?_
  refine o_ri (cells' := 0) (slots' := 0) G rfl rfl (n_V (As := [.int x1]) (rest := []) (C := RX11) (T := TX11) (N := 18) (ci := 9) S G (m_isOne l X m0 ma la lb n t v fa c0 c1 c2 c3 c4 x1 hI_n hI_t hI_fa s.heap.size) gX11_of_X11_isOne rfl rfl rfl hdV_X11_isOne ⟨Nat.le_of_ble_eq_true rfl, Nat.le_of_ble_eq_true rfl⟩ [0, 1] rfl rfl 0 rfl rfl rfl hl.1 (Nat.le_of_ble_eq_true rfl) dX11_of_2 ⟨Nat.le_of_ble_eq_true rfl, Nat.le_of_ble_eq_true rfl⟩) (fun r_1 u_1 H locs hp_1 G => ?_)
  have G : wd X (va_A (@HAppend.hAppend va_W va_W va_W _ (mW m0 ma la lb n t v) (@HAppend.hAppend va_W va_W va_W _ ([((ma 0), .inl (X.2.1, 371, .inl fa))]) ([((ma 3), .inl (X.2.1, 3, .inl fr))]))) sz) (va_A (@HAppend.hAppend va_W va_W va_W _ (mW m0 ma la lb n t v) (@HAppend.hAppend va_W va_W va_W _ ([((ma 0), .inl (X.2.1, 371, .inl fa))]) ([((ma 3), .inl (X.2.1, 3, .inl fr))]))) sz) s (@HAppend.hAppend va_W va_W va_W _ (mW m0 ma la lb n t v) (@HAppend.hAppend va_W va_W va_W _ ([((ma 0), .inl (X.2.1, 371, .inl fa))]) ([((ma 3), .inl (X.2.1, 3, .inl fr))]))) H locs := G
  rcases hp_1 with ⟨rfl, hj_1⟩ | ⟨rfl, hj_1⟩
  · obtain ⟨j_1, hj_1, rfl⟩ := hj_1
    refine lv_if_eq (tgt := 29) zx zb dX11_of_5 (by decide) (fun c_2 => absurd c_2 (by decide)) (fun c_2 => ?_)
    refine lv_iload_n zx zb dX11_of_8 rfl (lv_at hl 2 rfl) ?_
    refine lv_i2l (v := (Int32.toInt64 x2)) zx zb dX11_of_9 rfl ?_
    refine lv_lconst (v := (Int32.toInt64 0)) zx zb dX11_of_10 (by decide) ?_
    refine lv_ldc2 zx zb S.2.2.2.1 (S.2.2.2.2 _ mm_X11_of_c62) dX11_of_11 ?_
    refine k_ld (v := (Int32.toInt64 9)) (by decide) ?_
    refine o_ri (cells' := 0) (slots' := 0) G rfl rfl (n_S (As := [.long (Int32.toInt64 x2), .long (Int32.toInt64 0), .long (Int32.toInt64 9)]) (rest := []) S G (m_in l X x2 0 9 H.size) gX11_of_X11_in rfl rfl rfl hdS_X11_in ⟨Nat.le_of_ble_eq_true rfl, Nat.le_of_ble_eq_true rfl⟩ [] rfl rfl rfl hl.1 (Nat.le_of_ble_eq_true rfl) dX11_of_14 ⟨Nat.le_of_ble_eq_true rfl, Nat.le_of_ble_eq_true rfl⟩) (fun r_3 u_3 H locs hp_3 G => ?_)
    have G : wd X (va_A (@HAppend.hAppend va_W va_W va_W _ (mW m0 ma la lb n t v) (@HAppend.hAppend va_W va_W va_W _ ([((ma 0), .inl (X.2.1, 371, .inl fa))]) ([((ma 3), .inl (X.2.1, 3, .inl fr))]))) sz) (va_A (@HAppend.hAppend va_W va_W va_W _ (mW m0 ma la lb n t v) (@HAppend.hAppend va_W va_W va_W _ ([((ma 0), .inl (X.2.1, 371, .inl fa))]) ([((ma 3), .inl (X.2.1, 3, .inl fr))]))) sz) s (@HAppend.hAppend va_W va_W va_W _ (mW m0 ma la lb n t v) (@HAppend.hAppend va_W va_W va_W _ ([((ma 0), .inl (X.2.1, 371, .inl fa))]) ([((ma 3), .inl (X.2.1, 3, .inl fr))]))) H locs := G
    rcases hp_3 with ⟨rfl, hw_3⟩ | ⟨rfl, hw_3⟩
    · obtain ⟨j_3, ⟨ja_3, jb_3⟩, rfl⟩ := k_natR (a := 0) (b := 9) hw_3 rfl rfl (by decide) (by decide)
      refine lv_if_eq (tgt := 29) zx zb dX11_of_17 (by decide) (fun c_4 => absurd c_4 (by decide)) (fun c_4 => ?_)
      refine lv_aload_n zx zb dX11_of_20 rfl (lv_at hl 0 rfl) ?_
      refine lv_iload_n zx zb dX11_of_21 rfl (lv_at hl 1 rfl) ?_
      refine lv_iload_n zx zb dX11_of_22 rfl (lv_at hl 2 rfl) ?_
      refine o_ri (cells' := 0) (slots' := 0) G rfl rfl (n_V (As := [.int (nI j_1), .int (nI j_3)]) (rest := []) (C := RX11) (T := TX11) (N := 18) (ci := 9) S G (m_toldOf l X m0 ma la lb n t v fa c0 c1 c2 c3 c4 j_1 (nI j_3) hI_n hI_t hI_fa (by omega) H.size) gX11_of_X11_toldOf rfl rfl rfl hdV_X11_toldOf ⟨Nat.le_of_ble_eq_true rfl, Nat.le_of_ble_eq_true rfl⟩ [0, 1] rfl rfl 0 rfl rfl rfl hl.1 (Nat.le_of_ble_eq_true rfl) dX11_of_23 ⟨Nat.le_of_ble_eq_true rfl, Nat.le_of_ble_eq_true rfl⟩) (fun r_5 u_5 H locs hp_5 G => ?_)
      have G : wd X (va_A (@HAppend.hAppend va_W va_W va_W _ (mW m0 ma la lb n t v) (@HAppend.hAppend va_W va_W va_W _ ([((ma 0), .inl (X.2.1, 371, .inl fa))]) ([((ma 3), .inl (X.2.1, 3, .inl fr))]))) sz) (va_A (@HAppend.hAppend va_W va_W va_W _ (mW m0 ma la lb n t v) (@HAppend.hAppend va_W va_W va_W _ ([((ma 0), .inl (X.2.1, 371, .inl fa))]) ([((ma 3), .inl (X.2.1, 3, .inl fr))]))) sz) s (@HAppend.hAppend va_W va_W va_W _ (mW m0 ma la lb n t v) (@HAppend.hAppend va_W va_W va_W _ ([((ma 0), .inl (X.2.1, 371, .inl fa))]) ([((ma 3), .inl (X.2.1, 3, .inl fr))]))) H locs := G
      refine lv_goto (tgt := 35) zx zb dX11_of_26 (by decide) ?_
      exact e_int S zr zlk (vp_nar_int _) G (fr) [0, 1, 2] rfl rfl (Or.inr rfl) (trivial) dX11_of_35
    · refine lv_if_eq (tgt := 29) zx zb dX11_of_17 (by decide) (fun c_6 => ?_) (fun c_6 => absurd (by decide) c_6)
      refine lv_aload_n zx zb dX11_of_29 rfl (lv_at hl 0 rfl) ?_
      refine lv_bipush (v := (-2)) zx zb dX11_of_30 (by decide) ?_
      refine b_wi (cells' := 0) (slots' := 0) (wr := [((ma 0), .inl (X.2.1, 371, .inl fa))]) G rfl rfl [0, 2] [1] rfl rfl rfl rfl (n_V (As := [.int (-2)]) (rest := []) (C := RX11) (T := TX11) (N := 18) (ci := 9) S G (m_bad l X m0 ma la lb n t v fr (-2) hI_n hI_t H.size) gX11_of_X11_bad rfl rfl rfl hdV_X11_bad ⟨Nat.le_of_ble_eq_true rfl, Nat.le_of_ble_eq_true rfl⟩ [0, 2] rfl rfl 0 rfl rfl rfl hl.1 (Nat.le_of_ble_eq_true rfl) dX11_of_32 ⟨Nat.le_of_ble_eq_true rfl, Nat.le_of_ble_eq_true rfl⟩) (fun r_7 u_7 H locs hp_7 G => ?_)
      obtain ⟨f_7, rfl⟩ : ∃ z, z = u_7 := ⟨_, rfl⟩
      have hq_7 := hp_7
      have G : wd X (va_A (@HAppend.hAppend va_W va_W va_W _ (mW m0 ma la lb n t v) (@HAppend.hAppend va_W va_W va_W _ ([((ma 0), .inl (X.2.1, 371, .inl fa))]) ([((ma 3), .inl (X.2.1, 3, .inl fr))]))) sz) (va_A (@HAppend.hAppend va_W va_W va_W _ (mW m0 ma la lb n t v) (@HAppend.hAppend va_W va_W va_W _ ([((ma 0), .inl (X.2.1, 371, .inl fa))]) ([((ma 3), .inl (X.2.1, 3, .inl fr))]))) sz) s (@HAppend.hAppend va_W va_W va_W _ ([((ma 0), .inl (X.2.1, 371, .inl fa))]) (@HAppend.hAppend va_W va_W va_W _ (mW m0 ma la lb n t v) ([((ma 3), .inl (X.2.1, 3, .inl f_7))]))) H locs := G
      obtain rfl := hq_7
      exact e_int S zr zlk (vp_nar_int _) G (f_7) [1, 0, 2] rfl rfl (Or.inr rfl) (trivial) dX11_of_35
  · refine lv_if_eq (tgt := 29) zx zb dX11_of_5 (by decide) (fun c_8 => ?_) (fun c_8 => absurd (by decide) c_8)
    refine lv_aload_n zx zb dX11_of_29 rfl (lv_at hl 0 rfl) ?_
    refine lv_bipush (v := (-2)) zx zb dX11_of_30 (by decide) ?_
    refine b_wi (cells' := 0) (slots' := 0) (wr := [((ma 0), .inl (X.2.1, 371, .inl fa))]) G rfl rfl [0, 2] [1] rfl rfl rfl rfl (n_V (As := [.int (-2)]) (rest := []) (C := RX11) (T := TX11) (N := 18) (ci := 9) S G (m_bad l X m0 ma la lb n t v fr (-2) hI_n hI_t H.size) gX11_of_X11_bad rfl rfl rfl hdV_X11_bad ⟨Nat.le_of_ble_eq_true rfl, Nat.le_of_ble_eq_true rfl⟩ [0, 2] rfl rfl 0 rfl rfl rfl hl.1 (Nat.le_of_ble_eq_true rfl) dX11_of_32 ⟨Nat.le_of_ble_eq_true rfl, Nat.le_of_ble_eq_true rfl⟩) (fun r_9 u_9 H locs hp_9 G => ?_)
    obtain ⟨f_9, rfl⟩ : ∃ z, z = u_9 := ⟨_, rfl⟩
    have hq_9 := hp_9
    have G : wd X (va_A (@HAppend.hAppend va_W va_W va_W _ (mW m0 ma la lb n t v) (@HAppend.hAppend va_W va_W va_W _ ([((ma 0), .inl (X.2.1, 371, .inl fa))]) ([((ma 3), .inl (X.2.1, 3, .inl fr))]))) sz) (va_A (@HAppend.hAppend va_W va_W va_W _ (mW m0 ma la lb n t v) (@HAppend.hAppend va_W va_W va_W _ ([((ma 0), .inl (X.2.1, 371, .inl fa))]) ([((ma 3), .inl (X.2.1, 3, .inl fr))]))) sz) s (@HAppend.hAppend va_W va_W va_W _ ([((ma 0), .inl (X.2.1, 371, .inl fa))]) (@HAppend.hAppend va_W va_W va_W _ (mW m0 ma la lb n t v) ([((ma 3), .inl (X.2.1, 3, .inl f_9))]))) H locs := G
    obtain rfl := hq_9
    exact e_int S zr zlk (vp_nar_int _) G (f_9) [1, 0, 2] rfl rfl (Or.inr rfl) (trivial) dX11_of_35
theorem in_X11_layHand_X11 : ∀ w ∈ wsX110, w ∈ wsX11_layHand := by decide +kernel
theorem lk_X11_layHand_27 : Cond.fieldLink RX11 27 "EggSpoonsModel" "hand" "[I" ∈ wsX11_layHand := by decide +kernel
theorem lk_X11_layHand_7 : Cond.fieldLink RX11 7 "EggSpoonsModel" "all" "[I" ∈ wsX11_layHand := by decide +kernel
set_option maxHeartbeats 4000000 in
set_option maxRecDepth 100000 in
/-- layHand -/
theorem m_layHand (l : Launch) (X : EX) (m0 : Nat) (ma : Nat → Nat) (la : Int64) (lb : Int64) (n : Nat) (t : Nat → Nat) (v : Nat → Int32) (fa : Nat → Int32) (c0 : Nat) (c1 : Nat) (c2 : Nat) (c3 : Nat) (c4 : Nat) (fh : Nat → Int32) (d0 : Nat) (d1 : Nat) (d2 : Nat) (d3 : Nat) (d4 : Nat) (hI_n : n ≤ 150) (hI_t : InT t) (hI_fa : InA fa c0 c1 c2 c3 c4) (hI_fh : InA fh d0 d1 d2 d3 d4) (sz : Nat) : Met l yX11_layHand wsX11_layHand ({ frames := 0, cells := 0, slots := 0, locals := 0 } : Room) (pE X [.ref m0] (@HAppend.hAppend va_W va_W va_W _ (mW m0 ma la lb n t v) (@HAppend.hAppend va_W va_W va_W _ ([((ma 0), .inl (X.2.1, 371, .inl fa))]) ([((ma 6), .inl (X.2.1, 55, .inl fh))]))) sz) (qV (fun (u : (Nat → Int32) × (Nat) × (Nat) × (Nat) × (Nat) × (Nat)) => InA u.1 u.2.1 u.2.2.1 u.2.2.2.1 u.2.2.2.2.1 u.2.2.2.2.2 ∧ (True)) X (fun (u : (Nat → Int32) × (Nat) × (Nat) × (Nat) × (Nat) × (Nat)) => @HAppend.hAppend va_W va_W va_W _ (mW m0 ma la lb n t v) (@HAppend.hAppend va_W va_W va_W _ ([((ma 0), .inl (X.2.1, 371, .inl fa))]) ([((ma 6), .inl (X.2.1, 55, .inl u.1))]))) (@HAppend.hAppend va_W va_W va_W _ (mW m0 ma la lb n t v) (@HAppend.hAppend va_W va_W va_W _ ([((ma 0), .inl (X.2.1, 371, .inl fa))]) ([((ma 6), .inl (X.2.1, 55, .inl fh))]))) sz) 0 0 (va_A (@HAppend.hAppend va_W va_W va_W _ (mW m0 ma la lb n t v) (@HAppend.hAppend va_W va_W va_W _ ([((ma 0), .inl (X.2.1, 371, .inl fa))]) ([((ma 6), .inl (X.2.1, 55, .inl fh))]))) sz) := by
  refine mk_met (B := (va_A (@HAppend.hAppend va_W va_W va_W _ (mW m0 ma la lb n t v) (@HAppend.hAppend va_W va_W va_W _ ([((ma 0), .inl (X.2.1, 371, .inl fa))]) ([((ma 6), .inl (X.2.1, 55, .inl fh))]))) sz)) (A := (va_A (@HAppend.hAppend va_W va_W va_W _ (mW m0 ma la lb n t v) (@HAppend.hAppend va_W va_W va_W _ ([((ma 0), .inl (X.2.1, 371, .inl fa))]) ([((ma 6), .inl (X.2.1, 55, .inl fh))]))) sz)) (cc := cX11_layHand) (maxL := 2) (ret := none) (by decide) rfl (Nat.le_of_ble_eq_true rfl) k_w k_a (fun p e s m below meth c S zr zlk znm zsz G ls hl => ?_)
  have S : CallFix p m c cX11_layHand 2 s _ wsX11_layHand RX11 := S
  have zx := S.1
  have zb := S.2.1
  have hl : lv_has ls 2 [(0, .ref m0)] := hl
  have hO_t := hI_t
  obtain ⟨ht0_t, ht1_t⟩ := hO_t
  have hO_fa := hI_fa.2
  obtain ⟨hm0_fa, hm1_fa, hm2_fa, hm3_fa, hm4_fa⟩ := hO_fa
  have hO_fh := hI_fh.2
  obtain ⟨hm0_fh, hm1_fh, hm2_fh, hm3_fh, hm4_fh⟩ := hO_fh
  refine lv_iconst (v := 0) zx zb dX11_layHand_0 (by decide) ?_
  refine lv_istore_n (lv' := [(1, .int 0), (0, .ref m0)]) zx zb dX11_layHand_1 rfl hl (by decide) rfl (fun ls hl => ?_)
  refine k_loop (P := ∀ (zm : Nat) (k2 : Nat) (f2_2 : Nat → Int32) (c02_2 : Nat) (c12_2 : Nat) (c22_2 : Nat) (c32_2 : Nat) (c42_2 : Nat) (H : Heap) (locs : List Loc) (ls : Array Slot), 55 + 1 ≤ k2 + zm → InA f2_2 c02_2 c12_2 c22_2 c32_2 c42_2 → (k2 ≤ 55) → wd X (va_A (@HAppend.hAppend va_W va_W va_W _ (mW m0 ma la lb n t v) (@HAppend.hAppend va_W va_W va_W _ ([((ma 0), .inl (X.2.1, 371, .inl fa))]) ([((ma 6), .inl (X.2.1, 55, .inl fh))]))) sz) (va_A (@HAppend.hAppend va_W va_W va_W _ (mW m0 ma la lb n t v) (@HAppend.hAppend va_W va_W va_W _ ([((ma 0), .inl (X.2.1, 371, .inl fa))]) ([((ma 6), .inl (X.2.1, 55, .inl fh))]))) sz) s (@HAppend.hAppend va_W va_W va_W _ (mW m0 ma la lb n t v) (@HAppend.hAppend va_W va_W va_W _ ([((ma 0), .inl (X.2.1, 371, .inl fa))]) ([((ma 6), .inl (X.2.1, 55, .inl f2_2))]))) H locs → lv_has ls 2 [(1, .int (nI k2)), (0, .ref m0)] → W p l e _ s m _ below meth c H locs _ _ _ (F0 m 2 ls [])) (fun loop => loop (55 + 1) 0 fh d0 d1 d2 d3 d4 _ _ _ (by omega) hI_fh (by omega) G hl) ?_
  intro zm
  induction zm with
  | zero => intro k2 f2_2 c02_2 c12_2 c22_2 c32_2 c42_2 H locs ls zz q_hI_f2_2 q_hk_k2 _ _; exact absurd zz (by omega)
  | succ zm ih2 =>
    intro k2 f2_2 c02_2 c12_2 c22_2 c32_2 c42_2 H locs ls zm_2 hI_f2_2 hk_k2 G hl
    have hO_f2_2 := hI_f2_2.2
    obtain ⟨hm0_f2_2, hm1_f2_2, hm2_f2_2, hm3_f2_2, hm4_f2_2⟩ := hO_f2_2
    refine lv_iload_n zx zb dX11_layHand_2 rfl (lv_at hl 0 rfl) ?_
    refine lv_bipush (v := 55) zx zb dX11_layHand_3 (by decide) ?_
    refine lv_icmp_ge (tgt := 26) zx zb dX11_layHand_5 (by decide) (fun c_1 => ?_) (fun c_1 => ?_)
    · have fc_1 := j_le (a := 55) (b := k2) (by omega) (by omega) c_1
      exact e_void S zr zlk G (f2_2, c02_2, c12_2, c22_2, c32_2, c42_2) [0, 1, 2] rfl rfl (Or.inr rfl) (⟨hI_f2_2, trivial⟩) dX11_layHand_26
    · have fc_1 := j_nle (a := 55) (b := k2) (by omega) (by omega) c_1
      refine lv_aload_n zx zb dX11_layHand_8 rfl (lv_at hl 1 rfl) ?_
      refine r_get (C := RX11) (T := TX11) (N := 18) (ci := 9) (v := .ref (ma 6)) S in_X11_layHand_X11 G 0 rfl rfl 6 (by decide) lk_X11_layHand_27 rfl dX11_layHand_9 ?_
      refine lv_iload_n zx zb dX11_layHand_12 rfl (lv_at hl 0 rfl) ?_
      refine lv_aload_n zx zb dX11_layHand_13 rfl (lv_at hl 1 rfl) ?_
      refine r_get (C := RX11) (T := TX11) (N := 18) (ci := 9) (v := .ref (ma 0)) S in_X11_layHand_X11 G 0 rfl rfl 0 (by decide) lk_X11_layHand_7 rfl dX11_layHand_14 ?_
      refine lv_iload_n zx zb dX11_layHand_17 rfl (lv_at hl 0 rfl) ?_
      refine r_iald (v := (fa k2)) S G 1 rfl (vp_in_nI (by omega) (by decide)) (congrArg fa (nI_clamp (by omega))) dX11_layHand_18 ?_
      refine r_iast S G 2 rfl (vp_in_nI (by omega) (by decide)) dX11_layHand_19 (fun H locs G => ?_)
      obtain ⟨c_4, c_5, c_6, c_7, c_8, hI_f_3⟩ := InA_c (j := (nI k2).toNatClampNeg) (k := k2) hI_f2_2 hI_fa (nI_clamp (by omega))
      obtain ⟨f_3, hI_f_3, hE_f_3, G⟩ : ∃ f_3 : Nat → Int32, InA f_3 c_4 c_5 c_6 c_7 c_8 ∧ f_3 = upd f2_2 (nI k2).toNatClampNeg (fa k2) ∧ wd X (va_A (@HAppend.hAppend va_W va_W va_W _ (mW m0 ma la lb n t v) (@HAppend.hAppend va_W va_W va_W _ ([((ma 0), .inl (X.2.1, 371, .inl fa))]) ([((ma 6), .inl (X.2.1, 55, .inl fh))]))) sz) (va_A (@HAppend.hAppend va_W va_W va_W _ (mW m0 ma la lb n t v) (@HAppend.hAppend va_W va_W va_W _ ([((ma 0), .inl (X.2.1, 371, .inl fa))]) ([((ma 6), .inl (X.2.1, 55, .inl fh))]))) sz) s (@HAppend.hAppend va_W va_W va_W _ (mW m0 ma la lb n t v) (@HAppend.hAppend va_W va_W va_W _ ([((ma 0), .inl (X.2.1, 371, .inl fa))]) ([((ma 6), .inl (X.2.1, 55, .inl f_3))]))) H locs := ⟨_, hI_f_3, rfl, G⟩
      have hO_f_3 := hI_f_3.2
      obtain ⟨hm0_f_3, hm1_f_3, hm2_f_3, hm3_f_3, hm4_f_3⟩ := hO_f_3
      refine lv_iinc (v := (nI (k2 + 1))) (lv' := [(1, .int (nI (k2 + 1))), (0, .ref m0)]) zx zb dX11_layHand_20 hl (k := 0) rfl (nI_add k2 1) (by decide) rfl (fun ls hl => ?_)
      refine lv_goto (tgt := 2) zx zb dX11_layHand_23 (by decide) ?_
      exact ih2 (k2 + 1) f_3 c_4 c_5 c_6 c_7 c_8 _ _ _ (by omega) hI_f_3 (by omega) G hl
theorem in_X11_goAhead_X11 : ∀ w ∈ wsX110, w ∈ wsX11_goAhead := by decide +kernel
theorem lk_X11_goAhead_27 : Cond.fieldLink RX11 27 "EggSpoonsModel" "hand" "[I" ∈ wsX11_goAhead := by decide +kernel
set_option maxHeartbeats 4000000 in
set_option maxRecDepth 100000 in
/-- goAhead -/
theorem m_goAhead (l : Launch) (X : EX) (m0 : Nat) (ma : Nat → Nat) (la : Int64) (lb : Int64) (n : Nat) (t : Nat → Nat) (v : Nat → Int32) (fh : Nat → Int32) (d0 : Nat) (d1 : Nat) (d2 : Nat) (d3 : Nat) (d4 : Nat) (z : Nat) (hI_n : n ≤ 150) (hI_t : InT t) (hI_fh : InA fh d0 d1 d2 d3 d4) (hz : z ≤ 60) (sz : Nat) : Met l yX11_goAhead wsX11_goAhead ({ frames := 4, cells := 0, slots := 0, locals := 93 } : Room) (pE X [.ref m0, .int (nI z)] (@HAppend.hAppend va_W va_W va_W _ (mW m0 ma la lb n t v) ([((ma 6), .inl (X.2.1, 55, .inl fh))])) sz) (qV (fun (u : (Nat → Int32)) => InA u d0 d1 d2 d3 d4 ∧ (True)) X (fun (u : (Nat → Int32)) => @HAppend.hAppend va_W va_W va_W _ (mW m0 ma la lb n t v) ([((ma 6), .inl (X.2.1, 55, .inl u))])) (@HAppend.hAppend va_W va_W va_W _ (mW m0 ma la lb n t v) ([((ma 6), .inl (X.2.1, 55, .inl fh))])) sz) 0 0 (va_A (@HAppend.hAppend va_W va_W va_W _ (mW m0 ma la lb n t v) ([((ma 6), .inl (X.2.1, 55, .inl fh))])) sz) := by
  refine mk_met (B := (va_A (@HAppend.hAppend va_W va_W va_W _ (mW m0 ma la lb n t v) ([((ma 6), .inl (X.2.1, 55, .inl fh))])) sz)) (A := (va_A (@HAppend.hAppend va_W va_W va_W _ (mW m0 ma la lb n t v) ([((ma 6), .inl (X.2.1, 55, .inl fh))])) sz)) (cc := cX11_goAhead) (maxL := 3) (ret := none) (by decide) rfl (Nat.le_of_ble_eq_true rfl) k_w k_a (fun p e s m below meth c S zr zlk znm zsz G ls hl => ?_)
  have S : CallFix p m c cX11_goAhead 3 s _ wsX11_goAhead RX11 := S
  have zx := S.1
  have zb := S.2.1
  have hl : lv_has ls 3 [(0, .ref m0), (1, .int (nI z))] := hl
  have hO_t := hI_t
  obtain ⟨ht0_t, ht1_t⟩ := hO_t
  have hO_fh := hI_fh.2
  obtain ⟨hm0_fh, hm1_fh, hm2_fh, hm3_fh, hm4_fh⟩ := hO_fh
  refine lv_iconst (v := 0) zx zb dX11_goAhead_0 (by decide) ?_
  refine lv_istore_n (lv' := [(2, .int 0), (0, .ref m0), (1, .int (nI z))]) zx zb dX11_goAhead_1 rfl hl (by decide) rfl (fun ls hl => ?_)
  refine k_loop (P := ∀ (zm : Nat) (k2 : Nat) (f2_1 : Nat → Int32) (H : Heap) (locs : List Loc) (ls : Array Slot), z + 1 ≤ k2 + zm → InA f2_1 d0 d1 d2 d3 d4 → (k2 ≤ z) → wd X (va_A (@HAppend.hAppend va_W va_W va_W _ (mW m0 ma la lb n t v) ([((ma 6), .inl (X.2.1, 55, .inl fh))])) sz) (va_A (@HAppend.hAppend va_W va_W va_W _ (mW m0 ma la lb n t v) ([((ma 6), .inl (X.2.1, 55, .inl fh))])) sz) s (@HAppend.hAppend va_W va_W va_W _ (mW m0 ma la lb n t v) ([((ma 6), .inl (X.2.1, 55, .inl f2_1))])) H locs → lv_has ls 3 [(2, .int (nI k2)), (0, .ref m0), (1, .int (nI z))] → W p l e _ s m _ below meth c H locs _ _ _ (F0 m 2 ls [])) (fun loop => loop (z + 1) 0 fh _ _ _ (by omega) hI_fh (by omega) G hl) ?_
  intro zm
  induction zm with
  | zero => intro k2 f2_1 H locs ls zz q_hI_f2_1 q_hk_k2 _ _; exact absurd zz (by omega)
  | succ zm ih2 =>
    intro k2 f2_1 H locs ls zm_2 hI_f2_1 hk_k2 G hl
    refine lv_iload_n zx zb dX11_goAhead_2 rfl (lv_at hl 0 rfl) ?_
    refine lv_iload_n zx zb dX11_goAhead_3 rfl (lv_at hl 2 rfl) ?_
    refine lv_icmp_ge (tgt := 20) zx zb dX11_goAhead_4 (by decide) (fun c_1 => ?_) (fun c_1 => ?_)
    · have fc_1 := j_le (a := z) (b := k2) (by omega) (by omega) c_1
      exact e_void S zr zlk G (f2_1) [0, 1] rfl rfl (Or.inr rfl) (⟨hI_f2_1, trivial⟩) dX11_goAhead_20
    · have fc_1 := j_nle (a := z) (b := k2) (by omega) (by omega) c_1
      refine lv_aload_n zx zb dX11_goAhead_7 rfl (lv_at hl 1 rfl) ?_
      refine r_get (C := RX11) (T := TX11) (N := 18) (ci := 9) (v := .ref (ma 6)) S in_X11_goAhead_X11 G 0 rfl rfl 6 (by decide) lk_X11_goAhead_27 rfl dX11_goAhead_8 ?_
      refine b_wv (cells' := 0) (slots' := 0) (wr := mW m0 ma la lb n t v) G rfl rfl [1] [0] rfl rfl rfl rfl (n_S (As := [.ref (ma 6)]) (rest := []) S G (m_goTick l X (ma 6) 55 f2_1 d0 d1 d2 d3 d4 hI_f2_1 (by omega) (by omega) H.size) gX11_goAhead_X11_goTick rfl rfl rfl hdS_X11_goTick ⟨Nat.le_of_ble_eq_true rfl, Nat.le_of_ble_eq_true rfl⟩ [1] rfl rfl rfl hl.1 (Nat.le_of_ble_eq_true rfl) dX11_goAhead_11 ⟨Nat.le_of_ble_eq_true rfl, Nat.le_of_ble_eq_true rfl⟩) (fun u_2 H locs hp_2 G => ?_)
      obtain ⟨f_2, rfl⟩ : ∃ z, z = u_2 := ⟨_, rfl⟩
      obtain ⟨hI_f_2, hq_2⟩ := hp_2
      have G : wd X (va_A (@HAppend.hAppend va_W va_W va_W _ (mW m0 ma la lb n t v) ([((ma 6), .inl (X.2.1, 55, .inl fh))])) sz) (va_A (@HAppend.hAppend va_W va_W va_W _ (mW m0 ma la lb n t v) ([((ma 6), .inl (X.2.1, 55, .inl fh))])) sz) s (@HAppend.hAppend va_W va_W va_W _ (mW m0 ma la lb n t v) ([((ma 6), .inl (X.2.1, 55, .inl f_2))])) H locs := G
      refine lv_iinc (v := (nI (k2 + 1))) (lv' := [(2, .int (nI (k2 + 1))), (0, .ref m0), (1, .int (nI z))]) zx zb dX11_goAhead_14 hl (k := 0) rfl (nI_add k2 1) (by decide) rfl (fun ls hl => ?_)
      refine lv_goto (tgt := 2) zx zb dX11_goAhead_17 (by decide) ?_
      exact ih2 (k2 + 1) f_2 _ _ _ (by omega) hI_f_2 (by omega) G hl
theorem mm_X11_where_c66 : Cond.constantLong RX11 66 (60) ∈ wsX11_where := by decide +kernel
theorem hdV_X11_layHand : yX11_layHand.cls = RX11 ∧ yX11_layHand.cls ≠ "java/lang/invoke/MethodHandle" ∧ yX11_layHand.cls ≠ "java/lang/invoke/VarHandle" ∧ (parseMethodDescriptor yX11_layHand.desc).map (fun d => d.parameters.length) = some 0 := by decide +kernel
theorem hdV_X11_goAhead : yX11_goAhead.cls = RX11 ∧ yX11_goAhead.cls ≠ "java/lang/invoke/MethodHandle" ∧ yX11_goAhead.cls ≠ "java/lang/invoke/VarHandle" ∧ (parseMethodDescriptor yX11_goAhead.desc).map (fun d => d.parameters.length) = some 1 := by decide +kernel
theorem in_X11_where_X11 : ∀ w ∈ wsX110, w ∈ wsX11_where := by decide +kernel
theorem lk_X11_where_27 : Cond.fieldLink RX11 27 "EggSpoonsModel" "hand" "[I" ∈ wsX11_where := by decide +kernel
set_option maxHeartbeats 4000000 in
set_option maxRecDepth 100000 in
/-- where -/
theorem m_where (l : Launch) (X : EX) (m0 : Nat) (ma : Nat → Nat) (la : Int64) (lb : Int64) (n : Nat) (t : Nat → Nat) (v : Nat → Int32) (fa : Nat → Int32) (c0 : Nat) (c1 : Nat) (c2 : Nat) (c3 : Nat) (c4 : Nat) (fh : Nat → Int32) (d0 : Nat) (d1 : Nat) (d2 : Nat) (d3 : Nat) (d4 : Nat) (fr : Nat → Int32) (x1 : Int32) (x2 : Int32) (hI_n : n ≤ 150) (hI_t : InT t) (hI_fa : InA fa c0 c1 c2 c3 c4) (hI_fh : InA fh d0 d1 d2 d3 d4) (sz : Nat) : Met l yX11_where wsX11_where ({ frames := 5, cells := 0, slots := 0, locals := 115 } : Room) (pE X [.ref m0, .int x1, .int x2] (@HAppend.hAppend va_W va_W va_W _ (mW m0 ma la lb n t v) (@HAppend.hAppend va_W va_W va_W _ ([((ma 0), .inl (X.2.1, 371, .inl fa))]) (@HAppend.hAppend va_W va_W va_W _ ([((ma 6), .inl (X.2.1, 55, .inl fh))]) ([((ma 3), .inl (X.2.1, 3, .inl fr))])))) sz) (qI (fun (r : Int32) (u : (Nat → Int32) × (Nat) × (Nat) × (Nat) × (Nat) × (Nat) × (Nat → Int32)) => InA u.1 u.2.1 u.2.2.1 u.2.2.2.1 u.2.2.2.2.1 u.2.2.2.2.2.1 ∧ (True)) X (fun (u : (Nat → Int32) × (Nat) × (Nat) × (Nat) × (Nat) × (Nat) × (Nat → Int32)) => @HAppend.hAppend va_W va_W va_W _ (mW m0 ma la lb n t v) (@HAppend.hAppend va_W va_W va_W _ ([((ma 0), .inl (X.2.1, 371, .inl fa))]) (@HAppend.hAppend va_W va_W va_W _ ([((ma 6), .inl (X.2.1, 55, .inl u.1))]) ([((ma 3), .inl (X.2.1, 3, .inl u.2.2.2.2.2.2))])))) (@HAppend.hAppend va_W va_W va_W _ (mW m0 ma la lb n t v) (@HAppend.hAppend va_W va_W va_W _ ([((ma 0), .inl (X.2.1, 371, .inl fa))]) (@HAppend.hAppend va_W va_W va_W _ ([((ma 6), .inl (X.2.1, 55, .inl fh))]) ([((ma 3), .inl (X.2.1, 3, .inl fr))])))) sz) 0 0 (va_A (@HAppend.hAppend va_W va_W va_W _ (mW m0 ma la lb n t v) (@HAppend.hAppend va_W va_W va_W _ ([((ma 0), .inl (X.2.1, 371, .inl fa))]) (@HAppend.hAppend va_W va_W va_W _ ([((ma 6), .inl (X.2.1, 55, .inl fh))]) ([((ma 3), .inl (X.2.1, 3, .inl fr))])))) sz) := by
  refine mk_met (B := (va_A (@HAppend.hAppend va_W va_W va_W _ (mW m0 ma la lb n t v) (@HAppend.hAppend va_W va_W va_W _ ([((ma 0), .inl (X.2.1, 371, .inl fa))]) (@HAppend.hAppend va_W va_W va_W _ ([((ma 6), .inl (X.2.1, 55, .inl fh))]) ([((ma 3), .inl (X.2.1, 3, .inl fr))])))) sz)) (A := (va_A (@HAppend.hAppend va_W va_W va_W _ (mW m0 ma la lb n t v) (@HAppend.hAppend va_W va_W va_W _ ([((ma 0), .inl (X.2.1, 371, .inl fa))]) (@HAppend.hAppend va_W va_W va_W _ ([((ma 6), .inl (X.2.1, 55, .inl fh))]) ([((ma 3), .inl (X.2.1, 3, .inl fr))])))) sz)) (cc := cX11_where) (maxL := 3) (ret := (some .int)) (by decide) rfl (Nat.le_of_ble_eq_true rfl) k_w k_a (fun p e s m below meth c S zr zlk znm zsz G ls hl => ?_)
  have S : CallFix p m c cX11_where 3 s _ wsX11_where RX11 := S
  have zx := S.1
  have zb := S.2.1
  have hl : lv_has ls 3 [(0, .ref m0), (1, .int x1), (2, .int x2)] := hl
  have hO_t := hI_t
  obtain ⟨ht0_t, ht1_t⟩ := hO_t
  have hO_fa := hI_fa.2
  obtain ⟨hm0_fa, hm1_fa, hm2_fa, hm3_fa, hm4_fa⟩ := hO_fa
  have hO_fh := hI_fh.2
  obtain ⟨hm0_fh, hm1_fh, hm2_fh, hm3_fh, hm4_fh⟩ := hO_fh
  refine lv_aload_n zx zb dX11_where_0 rfl (lv_at hl 0 rfl) ?_
  refine lv_iload_n zx zb dX11_where_1 rfl (lv_at hl 1 rfl) ?_
  refine o_ri (cells' := 0) (slots' := 0) G rfl rfl (n_V (As := [.int x1]) (rest := []) (C := RX11) (T := TX11) (N := 18) (ci := 9) S G (m_isOne l X m0 ma la lb n t v fa c0 c1 c2 c3 c4 x1 hI_n hI_t hI_fa s.heap.size) gX11_where_X11_isOne rfl rfl rfl hdV_X11_isOne ⟨Nat.le_of_ble_eq_true rfl, Nat.le_of_ble_eq_true rfl⟩ [0, 1] rfl rfl 0 rfl rfl rfl hl.1 (Nat.le_of_ble_eq_true rfl) dX11_where_2 ⟨Nat.le_of_ble_eq_true rfl, Nat.le_of_ble_eq_true rfl⟩) (fun r_1 u_1 H locs hp_1 G => ?_)
  have G : wd X (va_A (@HAppend.hAppend va_W va_W va_W _ (mW m0 ma la lb n t v) (@HAppend.hAppend va_W va_W va_W _ ([((ma 0), .inl (X.2.1, 371, .inl fa))]) (@HAppend.hAppend va_W va_W va_W _ ([((ma 6), .inl (X.2.1, 55, .inl fh))]) ([((ma 3), .inl (X.2.1, 3, .inl fr))])))) sz) (va_A (@HAppend.hAppend va_W va_W va_W _ (mW m0 ma la lb n t v) (@HAppend.hAppend va_W va_W va_W _ ([((ma 0), .inl (X.2.1, 371, .inl fa))]) (@HAppend.hAppend va_W va_W va_W _ ([((ma 6), .inl (X.2.1, 55, .inl fh))]) ([((ma 3), .inl (X.2.1, 3, .inl fr))])))) sz) s (@HAppend.hAppend va_W va_W va_W _ (mW m0 ma la lb n t v) (@HAppend.hAppend va_W va_W va_W _ ([((ma 0), .inl (X.2.1, 371, .inl fa))]) (@HAppend.hAppend va_W va_W va_W _ ([((ma 6), .inl (X.2.1, 55, .inl fh))]) ([((ma 3), .inl (X.2.1, 3, .inl fr))])))) H locs := G
  rcases hp_1 with ⟨rfl, hj_1⟩ | ⟨rfl, hj_1⟩
  · obtain ⟨j_1, hj_1, rfl⟩ := hj_1
    refine lv_if_eq (tgt := 20) zx zb dX11_where_5 (by decide) (fun c_2 => absurd c_2 (by decide)) (fun c_2 => ?_)
    refine lv_iload_n zx zb dX11_where_8 rfl (lv_at hl 2 rfl) ?_
    refine lv_i2l (v := (Int32.toInt64 x2)) zx zb dX11_where_9 rfl ?_
    refine lv_lconst (v := (Int32.toInt64 0)) zx zb dX11_where_10 (by decide) ?_
    refine lv_ldc2 zx zb S.2.2.2.1 (S.2.2.2.2 _ mm_X11_where_c66) dX11_where_11 ?_
    refine k_ld (v := (Int32.toInt64 60)) (by decide) ?_
    refine o_ri (cells' := 0) (slots' := 0) G rfl rfl (n_S (As := [.long (Int32.toInt64 x2), .long (Int32.toInt64 0), .long (Int32.toInt64 60)]) (rest := []) S G (m_in l X x2 0 60 H.size) gX11_where_X11_in rfl rfl rfl hdS_X11_in ⟨Nat.le_of_ble_eq_true rfl, Nat.le_of_ble_eq_true rfl⟩ [] rfl rfl rfl hl.1 (Nat.le_of_ble_eq_true rfl) dX11_where_14 ⟨Nat.le_of_ble_eq_true rfl, Nat.le_of_ble_eq_true rfl⟩) (fun r_3 u_3 H locs hp_3 G => ?_)
    have G : wd X (va_A (@HAppend.hAppend va_W va_W va_W _ (mW m0 ma la lb n t v) (@HAppend.hAppend va_W va_W va_W _ ([((ma 0), .inl (X.2.1, 371, .inl fa))]) (@HAppend.hAppend va_W va_W va_W _ ([((ma 6), .inl (X.2.1, 55, .inl fh))]) ([((ma 3), .inl (X.2.1, 3, .inl fr))])))) sz) (va_A (@HAppend.hAppend va_W va_W va_W _ (mW m0 ma la lb n t v) (@HAppend.hAppend va_W va_W va_W _ ([((ma 0), .inl (X.2.1, 371, .inl fa))]) (@HAppend.hAppend va_W va_W va_W _ ([((ma 6), .inl (X.2.1, 55, .inl fh))]) ([((ma 3), .inl (X.2.1, 3, .inl fr))])))) sz) s (@HAppend.hAppend va_W va_W va_W _ (mW m0 ma la lb n t v) (@HAppend.hAppend va_W va_W va_W _ ([((ma 0), .inl (X.2.1, 371, .inl fa))]) (@HAppend.hAppend va_W va_W va_W _ ([((ma 6), .inl (X.2.1, 55, .inl fh))]) ([((ma 3), .inl (X.2.1, 3, .inl fr))])))) H locs := G
    rcases hp_3 with ⟨rfl, hw_3⟩ | ⟨rfl, hw_3⟩
    · obtain ⟨j_3, ⟨ja_3, jb_3⟩, rfl⟩ := k_natR (a := 0) (b := 60) hw_3 rfl rfl (by decide) (by decide)
      refine lv_if_ne (tgt := 27) zx zb dX11_where_17 (by decide) (fun c_4 => ?_) (fun c_4 => absurd c_4 (by decide))
      refine lv_aload_n zx zb dX11_where_27 rfl (lv_at hl 0 rfl) ?_
      refine b_wv (cells' := 0) (slots' := 0) (wr := [((ma 3), .inl (X.2.1, 3, .inl fr))]) G rfl rfl [0, 1, 2] [3] rfl rfl rfl rfl (n_V (As := []) (rest := []) (C := RX11) (T := TX11) (N := 18) (ci := 9) S G (m_layHand l X m0 ma la lb n t v fa c0 c1 c2 c3 c4 fh d0 d1 d2 d3 d4 hI_n hI_t hI_fa hI_fh H.size) gX11_where_X11_layHand rfl rfl rfl hdV_X11_layHand ⟨Nat.le_of_ble_eq_true rfl, Nat.le_of_ble_eq_true rfl⟩ [0, 1, 2] rfl rfl 0 rfl rfl rfl hl.1 (Nat.le_of_ble_eq_true rfl) dX11_where_28 ⟨Nat.le_of_ble_eq_true rfl, Nat.le_of_ble_eq_true rfl⟩) (fun u_5 H locs hp_5 G => ?_)
      obtain ⟨f_5a, c0_5b, c1_5c, c2_5d, c3_5e, c4_5f⟩ := u_5
      try dsimp only at hp_5
      obtain ⟨hI_f_5a, hq_5⟩ := hp_5
      have hO_f_5a := hI_f_5a.2
      obtain ⟨hm0_f_5a, hm1_f_5a, hm2_f_5a, hm3_f_5a, hm4_f_5a⟩ := hO_f_5a
      have G : wd X (va_A (@HAppend.hAppend va_W va_W va_W _ (mW m0 ma la lb n t v) (@HAppend.hAppend va_W va_W va_W _ ([((ma 0), .inl (X.2.1, 371, .inl fa))]) (@HAppend.hAppend va_W va_W va_W _ ([((ma 6), .inl (X.2.1, 55, .inl fh))]) ([((ma 3), .inl (X.2.1, 3, .inl fr))])))) sz) (va_A (@HAppend.hAppend va_W va_W va_W _ (mW m0 ma la lb n t v) (@HAppend.hAppend va_W va_W va_W _ ([((ma 0), .inl (X.2.1, 371, .inl fa))]) (@HAppend.hAppend va_W va_W va_W _ ([((ma 6), .inl (X.2.1, 55, .inl fh))]) ([((ma 3), .inl (X.2.1, 3, .inl fr))])))) sz) s (@HAppend.hAppend va_W va_W va_W _ ([((ma 3), .inl (X.2.1, 3, .inl fr))]) (@HAppend.hAppend va_W va_W va_W _ (mW m0 ma la lb n t v) (@HAppend.hAppend va_W va_W va_W _ ([((ma 0), .inl (X.2.1, 371, .inl fa))]) ([((ma 6), .inl (X.2.1, 55, .inl f_5a))])))) H locs := G
      refine lv_aload_n zx zb dX11_where_31 rfl (lv_at hl 0 rfl) ?_
      refine lv_iload_n zx zb dX11_where_32 rfl (lv_at hl 2 rfl) ?_
      refine b_wv (cells' := 0) (slots' := 0) (wr := @HAppend.hAppend va_W va_W va_W _ ([((ma 3), .inl (X.2.1, 3, .inl fr))]) ([((ma 0), .inl (X.2.1, 371, .inl fa))])) G rfl rfl [1, 3] [0, 2] rfl rfl rfl rfl (n_V (As := [.int (nI j_3)]) (rest := []) (C := RX11) (T := TX11) (N := 18) (ci := 9) S G (m_goAhead l X m0 ma la lb n t v f_5a c0_5b c1_5c c2_5d c3_5e c4_5f j_3 hI_n hI_t hI_f_5a (by omega) H.size) gX11_where_X11_goAhead rfl rfl rfl hdV_X11_goAhead ⟨Nat.le_of_ble_eq_true rfl, Nat.le_of_ble_eq_true rfl⟩ [1, 3] rfl rfl 1 rfl rfl rfl hl.1 (Nat.le_of_ble_eq_true rfl) dX11_where_33 ⟨Nat.le_of_ble_eq_true rfl, Nat.le_of_ble_eq_true rfl⟩) (fun u_6 H locs hp_6 G => ?_)
      obtain ⟨f_6, rfl⟩ : ∃ z, z = u_6 := ⟨_, rfl⟩
      obtain ⟨hI_f_6, hq_6⟩ := hp_6
      have G : wd X (va_A (@HAppend.hAppend va_W va_W va_W _ (mW m0 ma la lb n t v) (@HAppend.hAppend va_W va_W va_W _ ([((ma 0), .inl (X.2.1, 371, .inl fa))]) (@HAppend.hAppend va_W va_W va_W _ ([((ma 6), .inl (X.2.1, 55, .inl fh))]) ([((ma 3), .inl (X.2.1, 3, .inl fr))])))) sz) (va_A (@HAppend.hAppend va_W va_W va_W _ (mW m0 ma la lb n t v) (@HAppend.hAppend va_W va_W va_W _ ([((ma 0), .inl (X.2.1, 371, .inl fa))]) (@HAppend.hAppend va_W va_W va_W _ ([((ma 6), .inl (X.2.1, 55, .inl fh))]) ([((ma 3), .inl (X.2.1, 3, .inl fr))])))) sz) s (@HAppend.hAppend va_W va_W va_W _ ([((ma 3), .inl (X.2.1, 3, .inl fr))]) (@HAppend.hAppend va_W va_W va_W _ ([((ma 0), .inl (X.2.1, 371, .inl fa))]) (@HAppend.hAppend va_W va_W va_W _ (mW m0 ma la lb n t v) ([((ma 6), .inl (X.2.1, 55, .inl f_6))])))) H locs := G
      refine lv_aload_n zx zb dX11_where_36 rfl (lv_at hl 0 rfl) ?_
      refine r_get (C := RX11) (T := TX11) (N := 18) (ci := 9) (v := .ref (ma 6)) S in_X11_where_X11 G 2 rfl rfl 6 (by decide) lk_X11_where_27 rfl dX11_where_37 ?_
      refine lv_iconst (v := 5) zx zb dX11_where_40 (by decide) ?_
      refine lv_iload_n zx zb dX11_where_41 rfl (lv_at hl 1 rfl) ?_
      refine r_iadd (v := (nI (5 + j_1))) S (nI_add 5 j_1) dX11_where_42 ?_
      refine r_iald S G 3 rfl (vp_in_nI (by omega) (by decide)) rfl dX11_where_43 ?_
      refine k_itE (fun y_7 => ?_)
      exact e_int S zr zlk (vp_nar_int _) G (f_6, c0_5b, c1_5c, c2_5d, c3_5e, c4_5f, fr) [2, 1, 3, 0] rfl rfl (Or.inr rfl) (⟨hI_f_6, trivial⟩) dX11_where_44
    · refine lv_if_ne (tgt := 27) zx zb dX11_where_17 (by decide) (fun c_8 => absurd (by decide) c_8) (fun c_8 => ?_)
      refine lv_aload_n zx zb dX11_where_20 rfl (lv_at hl 0 rfl) ?_
      refine lv_bipush (v := (-2)) zx zb dX11_where_21 (by decide) ?_
      refine b_wi (cells' := 0) (slots' := 0) (wr := @HAppend.hAppend va_W va_W va_W _ ([((ma 0), .inl (X.2.1, 371, .inl fa))]) ([((ma 6), .inl (X.2.1, 55, .inl fh))])) G rfl rfl [0, 3] [1, 2] rfl rfl rfl rfl (n_V (As := [.int (-2)]) (rest := []) (C := RX11) (T := TX11) (N := 18) (ci := 9) S G (m_bad l X m0 ma la lb n t v fr (-2) hI_n hI_t H.size) gX11_where_X11_bad rfl rfl rfl hdV_X11_bad ⟨Nat.le_of_ble_eq_true rfl, Nat.le_of_ble_eq_true rfl⟩ [0, 3] rfl rfl 0 rfl rfl rfl hl.1 (Nat.le_of_ble_eq_true rfl) dX11_where_23 ⟨Nat.le_of_ble_eq_true rfl, Nat.le_of_ble_eq_true rfl⟩) (fun r_9 u_9 H locs hp_9 G => ?_)
      obtain ⟨f_9, rfl⟩ : ∃ z, z = u_9 := ⟨_, rfl⟩
      have hq_9 := hp_9
      have G : wd X (va_A (@HAppend.hAppend va_W va_W va_W _ (mW m0 ma la lb n t v) (@HAppend.hAppend va_W va_W va_W _ ([((ma 0), .inl (X.2.1, 371, .inl fa))]) (@HAppend.hAppend va_W va_W va_W _ ([((ma 6), .inl (X.2.1, 55, .inl fh))]) ([((ma 3), .inl (X.2.1, 3, .inl fr))])))) sz) (va_A (@HAppend.hAppend va_W va_W va_W _ (mW m0 ma la lb n t v) (@HAppend.hAppend va_W va_W va_W _ ([((ma 0), .inl (X.2.1, 371, .inl fa))]) (@HAppend.hAppend va_W va_W va_W _ ([((ma 6), .inl (X.2.1, 55, .inl fh))]) ([((ma 3), .inl (X.2.1, 3, .inl fr))])))) sz) s (@HAppend.hAppend va_W va_W va_W _ ([((ma 0), .inl (X.2.1, 371, .inl fa))]) (@HAppend.hAppend va_W va_W va_W _ ([((ma 6), .inl (X.2.1, 55, .inl fh))]) (@HAppend.hAppend va_W va_W va_W _ (mW m0 ma la lb n t v) ([((ma 3), .inl (X.2.1, 3, .inl f_9))])))) H locs := G
      obtain rfl := hq_9
      exact e_int S zr zlk (vp_nar_int _) G (fh, d0, d1, d2, d3, d4, f_9) [2, 0, 1, 3] rfl rfl (Or.inr rfl) (⟨hI_fh, trivial⟩) dX11_where_26
  · refine lv_if_eq (tgt := 20) zx zb dX11_where_5 (by decide) (fun c_10 => ?_) (fun c_10 => absurd (by decide) c_10)
    refine lv_aload_n zx zb dX11_where_20 rfl (lv_at hl 0 rfl) ?_
    refine lv_bipush (v := (-2)) zx zb dX11_where_21 (by decide) ?_
    refine b_wi (cells' := 0) (slots' := 0) (wr := @HAppend.hAppend va_W va_W va_W _ ([((ma 0), .inl (X.2.1, 371, .inl fa))]) ([((ma 6), .inl (X.2.1, 55, .inl fh))])) G rfl rfl [0, 3] [1, 2] rfl rfl rfl rfl (n_V (As := [.int (-2)]) (rest := []) (C := RX11) (T := TX11) (N := 18) (ci := 9) S G (m_bad l X m0 ma la lb n t v fr (-2) hI_n hI_t H.size) gX11_where_X11_bad rfl rfl rfl hdV_X11_bad ⟨Nat.le_of_ble_eq_true rfl, Nat.le_of_ble_eq_true rfl⟩ [0, 3] rfl rfl 0 rfl rfl rfl hl.1 (Nat.le_of_ble_eq_true rfl) dX11_where_23 ⟨Nat.le_of_ble_eq_true rfl, Nat.le_of_ble_eq_true rfl⟩) (fun r_11 u_11 H locs hp_11 G => ?_)
    obtain ⟨f_11, rfl⟩ : ∃ z, z = u_11 := ⟨_, rfl⟩
    have hq_11 := hp_11
    have G : wd X (va_A (@HAppend.hAppend va_W va_W va_W _ (mW m0 ma la lb n t v) (@HAppend.hAppend va_W va_W va_W _ ([((ma 0), .inl (X.2.1, 371, .inl fa))]) (@HAppend.hAppend va_W va_W va_W _ ([((ma 6), .inl (X.2.1, 55, .inl fh))]) ([((ma 3), .inl (X.2.1, 3, .inl fr))])))) sz) (va_A (@HAppend.hAppend va_W va_W va_W _ (mW m0 ma la lb n t v) (@HAppend.hAppend va_W va_W va_W _ ([((ma 0), .inl (X.2.1, 371, .inl fa))]) (@HAppend.hAppend va_W va_W va_W _ ([((ma 6), .inl (X.2.1, 55, .inl fh))]) ([((ma 3), .inl (X.2.1, 3, .inl fr))])))) sz) s (@HAppend.hAppend va_W va_W va_W _ ([((ma 0), .inl (X.2.1, 371, .inl fa))]) (@HAppend.hAppend va_W va_W va_W _ ([((ma 6), .inl (X.2.1, 55, .inl fh))]) (@HAppend.hAppend va_W va_W va_W _ (mW m0 ma la lb n t v) ([((ma 3), .inl (X.2.1, 3, .inl f_11))])))) H locs := G
    obtain rfl := hq_11
    exact e_int S zr zlk (vp_nar_int _) G (fh, d0, d1, d2, d3, d4, f_11) [2, 0, 1, 3] rfl rfl (Or.inr rfl) (⟨hI_fh, trivial⟩) dX11_where_26
theorem in_X11_homeAtHand_X11 : ∀ w ∈ wsX110, w ∈ wsX11_homeAtHand := by decide +kernel
theorem lk_X11_homeAtHand_27 : Cond.fieldLink RX11 27 "EggSpoonsModel" "hand" "[I" ∈ wsX11_homeAtHand := by decide +kernel
set_option maxHeartbeats 4000000 in
set_option maxRecDepth 100000 in
/-- homeAtHand -/
theorem m_homeAtHand (l : Launch) (X : EX) (m0 : Nat) (ma : Nat → Nat) (la : Int64) (lb : Int64) (n : Nat) (t : Nat → Nat) (v : Nat → Int32) (fh : Nat → Int32) (d0 : Nat) (d1 : Nat) (d2 : Nat) (d3 : Nat) (d4 : Nat) (i : Nat) (z : Nat) (hI_n : n ≤ 150) (hI_t : InT t) (hI_fh : InA fh d0 d1 d2 d3 d4) (h6 : i < 6) (hz : z ≤ 60) (sz : Nat) : Met l yX11_homeAtHand wsX11_homeAtHand ({ frames := 4, cells := 0, slots := 0, locals := 93 } : Room) (pE X [.ref m0, .int (nI i), .int (nI z)] (@HAppend.hAppend va_W va_W va_W _ (mW m0 ma la lb n t v) ([((ma 6), .inl (X.2.1, 55, .inl fh))])) sz) (qI (fun (r : Int32) (u : (Nat → Int32)) => InA u d0 d1 d2 d3 d4 ∧ (True)) X (fun (u : (Nat → Int32)) => @HAppend.hAppend va_W va_W va_W _ (mW m0 ma la lb n t v) ([((ma 6), .inl (X.2.1, 55, .inl u))])) (@HAppend.hAppend va_W va_W va_W _ (mW m0 ma la lb n t v) ([((ma 6), .inl (X.2.1, 55, .inl fh))])) sz) 0 0 (va_A (@HAppend.hAppend va_W va_W va_W _ (mW m0 ma la lb n t v) ([((ma 6), .inl (X.2.1, 55, .inl fh))])) sz) := by
  refine mk_met (B := (va_A (@HAppend.hAppend va_W va_W va_W _ (mW m0 ma la lb n t v) ([((ma 6), .inl (X.2.1, 55, .inl fh))])) sz)) (A := (va_A (@HAppend.hAppend va_W va_W va_W _ (mW m0 ma la lb n t v) ([((ma 6), .inl (X.2.1, 55, .inl fh))])) sz)) (cc := cX11_homeAtHand) (maxL := 4) (ret := (some .int)) (by decide) rfl (Nat.le_of_ble_eq_true rfl) k_w k_a (fun p e s m below meth c S zr zlk znm zsz G ls hl => ?_)
  have S : CallFix p m c cX11_homeAtHand 4 s _ wsX11_homeAtHand RX11 := S
  have zx := S.1
  have zb := S.2.1
  have hl : lv_has ls 4 [(0, .ref m0), (1, .int (nI i)), (2, .int (nI z))] := hl
  have hO_t := hI_t
  obtain ⟨ht0_t, ht1_t⟩ := hO_t
  have hO_fh := hI_fh.2
  obtain ⟨hm0_fh, hm1_fh, hm2_fh, hm3_fh, hm4_fh⟩ := hO_fh
  refine lv_iconst (v := 0) zx zb dX11_homeAtHand_0 (by decide) ?_
  refine lv_istore_n (lv' := [(3, .int 0), (0, .ref m0), (1, .int (nI i)), (2, .int (nI z))]) zx zb dX11_homeAtHand_1 rfl hl (by decide) rfl (fun ls hl => ?_)
  refine k_loop (P := ∀ (zm : Nat) (k2 : Nat) (f2_1 : Nat → Int32) (H : Heap) (locs : List Loc) (ls : Array Slot), (z + 1) + 1 ≤ k2 + zm → InA f2_1 d0 d1 d2 d3 d4 → (k2 ≤ (z + 1)) → wd X (va_A (@HAppend.hAppend va_W va_W va_W _ (mW m0 ma la lb n t v) ([((ma 6), .inl (X.2.1, 55, .inl fh))])) sz) (va_A (@HAppend.hAppend va_W va_W va_W _ (mW m0 ma la lb n t v) ([((ma 6), .inl (X.2.1, 55, .inl fh))])) sz) s (@HAppend.hAppend va_W va_W va_W _ (mW m0 ma la lb n t v) ([((ma 6), .inl (X.2.1, 55, .inl f2_1))])) H locs → lv_has ls 4 [(3, .int (nI k2)), (0, .ref m0), (1, .int (nI i)), (2, .int (nI z))] → W p l e _ s m _ below meth c H locs _ _ _ (F0 m 2 ls [])) (fun loop => loop ((z + 1) + 1) 0 fh _ _ _ (by omega) hI_fh (by omega) G hl) ?_
  intro zm
  induction zm with
  | zero => intro k2 f2_1 H locs ls zz q_hI_f2_1 q_hk_k2 _ _; exact absurd zz (by omega)
  | succ zm ih2 =>
    intro k2 f2_1 H locs ls zm_2 hI_f2_1 hk_k2 G hl
    refine lv_iload_n zx zb dX11_homeAtHand_2 rfl (lv_at hl 0 rfl) ?_
    refine lv_iload_n zx zb dX11_homeAtHand_3 rfl (lv_at hl 3 rfl) ?_
    refine lv_icmp_gt (tgt := 33) zx zb dX11_homeAtHand_4 (by decide) (fun c_1 => ?_) (fun c_1 => ?_)
    · have fc_1 := j_lt (a := z) (b := k2) (by omega) (by omega) c_1
      refine lv_iconst (v := (-1)) zx zb dX11_homeAtHand_33 (by decide) ?_
      exact e_int S zr zlk (vp_nar_int _) G (f2_1) [0, 1] rfl rfl (Or.inr rfl) (⟨hI_f2_1, trivial⟩) dX11_homeAtHand_34
    · have fc_1 := j_nlt (a := z) (b := k2) (by omega) (by omega) c_1
      refine lv_aload_n zx zb dX11_homeAtHand_7 rfl (lv_at hl 1 rfl) ?_
      refine r_get (C := RX11) (T := TX11) (N := 18) (ci := 9) (v := .ref (ma 6)) S in_X11_homeAtHand_X11 G 0 rfl rfl 6 (by decide) lk_X11_homeAtHand_27 rfl dX11_homeAtHand_8 ?_
      refine lv_iload_n zx zb dX11_homeAtHand_11 rfl (lv_at hl 2 rfl) ?_
      refine o_ri (cells' := 0) (slots' := 0) G rfl rfl (n_S (As := [.ref (ma 6), .int (nI i)]) (rest := []) S G (m_isHome l X (ma 6) 55 f2_1 d0 d1 d2 d3 d4 i hI_f2_1 (by omega) (by omega) (by omega) H.size) gX11_homeAtHand_X11_isHome rfl rfl rfl hdS_X11_isHome ⟨Nat.le_of_ble_eq_true rfl, Nat.le_of_ble_eq_true rfl⟩ [1] rfl rfl rfl hl.1 (Nat.le_of_ble_eq_true rfl) dX11_homeAtHand_12 ⟨Nat.le_of_ble_eq_true rfl, Nat.le_of_ble_eq_true rfl⟩) (fun r_2 u_2 H locs hp_2 G => ?_)
      have G : wd X (va_A (@HAppend.hAppend va_W va_W va_W _ (mW m0 ma la lb n t v) ([((ma 6), .inl (X.2.1, 55, .inl fh))])) sz) (va_A (@HAppend.hAppend va_W va_W va_W _ (mW m0 ma la lb n t v) ([((ma 6), .inl (X.2.1, 55, .inl fh))])) sz) s (@HAppend.hAppend va_W va_W va_W _ (mW m0 ma la lb n t v) ([((ma 6), .inl (X.2.1, 55, .inl f2_1))])) H locs := G
      refine lv_if_eq (tgt := 20) zx zb dX11_homeAtHand_15 (by decide) (fun c_3 => ?_) (fun c_3 => ?_)
      · refine lv_aload_n zx zb dX11_homeAtHand_20 rfl (lv_at hl 1 rfl) ?_
        refine r_get (C := RX11) (T := TX11) (N := 18) (ci := 9) (v := .ref (ma 6)) S in_X11_homeAtHand_X11 G 0 rfl rfl 6 (by decide) lk_X11_homeAtHand_27 rfl dX11_homeAtHand_21 ?_
        refine b_wv (cells' := 0) (slots' := 0) (wr := mW m0 ma la lb n t v) G rfl rfl [1] [0] rfl rfl rfl rfl (n_S (As := [.ref (ma 6)]) (rest := []) S G (m_goTick l X (ma 6) 55 f2_1 d0 d1 d2 d3 d4 hI_f2_1 (by omega) (by omega) H.size) gX11_homeAtHand_X11_goTick rfl rfl rfl hdS_X11_goTick ⟨Nat.le_of_ble_eq_true rfl, Nat.le_of_ble_eq_true rfl⟩ [1] rfl rfl rfl hl.1 (Nat.le_of_ble_eq_true rfl) dX11_homeAtHand_24 ⟨Nat.le_of_ble_eq_true rfl, Nat.le_of_ble_eq_true rfl⟩) (fun u_4 H locs hp_4 G => ?_)
        obtain ⟨f_4, rfl⟩ : ∃ z, z = u_4 := ⟨_, rfl⟩
        obtain ⟨hI_f_4, hq_4⟩ := hp_4
        have G : wd X (va_A (@HAppend.hAppend va_W va_W va_W _ (mW m0 ma la lb n t v) ([((ma 6), .inl (X.2.1, 55, .inl fh))])) sz) (va_A (@HAppend.hAppend va_W va_W va_W _ (mW m0 ma la lb n t v) ([((ma 6), .inl (X.2.1, 55, .inl fh))])) sz) s (@HAppend.hAppend va_W va_W va_W _ (mW m0 ma la lb n t v) ([((ma 6), .inl (X.2.1, 55, .inl f_4))])) H locs := G
        refine lv_iinc (v := (nI (k2 + 1))) (lv' := [(3, .int (nI (k2 + 1))), (0, .ref m0), (1, .int (nI i)), (2, .int (nI z))]) zx zb dX11_homeAtHand_27 hl (k := 0) rfl (nI_add k2 1) (by decide) rfl (fun ls hl => ?_)
        refine lv_goto (tgt := 2) zx zb dX11_homeAtHand_30 (by decide) ?_
        exact ih2 (k2 + 1) f_4 _ _ _ (by omega) hI_f_4 (by omega) G hl
      · refine lv_iload_n zx zb dX11_homeAtHand_18 rfl (lv_at hl 0 rfl) ?_
        exact e_int S zr zlk (vp_nar_int _) G (f2_1) [0, 1] rfl rfl (Or.inr rfl) (⟨hI_f2_1, trivial⟩) dX11_homeAtHand_19
theorem hdV_X11_homeAtHand : yX11_homeAtHand.cls = RX11 ∧ yX11_homeAtHand.cls ≠ "java/lang/invoke/MethodHandle" ∧ yX11_homeAtHand.cls ≠ "java/lang/invoke/VarHandle" ∧ (parseMethodDescriptor yX11_homeAtHand.desc).map (fun d => d.parameters.length) = some 2 := by decide +kernel
set_option maxHeartbeats 4000000 in
set_option maxRecDepth 100000 in
/-- homeOf -/
theorem m_homeOf (l : Launch) (X : EX) (m0 : Nat) (ma : Nat → Nat) (la : Int64) (lb : Int64) (n : Nat) (t : Nat → Nat) (v : Nat → Int32) (fa : Nat → Int32) (c0 : Nat) (c1 : Nat) (c2 : Nat) (c3 : Nat) (c4 : Nat) (fh : Nat → Int32) (d0 : Nat) (d1 : Nat) (d2 : Nat) (d3 : Nat) (d4 : Nat) (i : Nat) (hI_n : n ≤ 150) (hI_t : InT t) (hI_fa : InA fa c0 c1 c2 c3 c4) (hI_fh : InA fh d0 d1 d2 d3 d4) (h6 : i < 6) (sz : Nat) : Met l yX11_homeOf wsX11_homeOf ({ frames := 5, cells := 0, slots := 0, locals := 116 } : Room) (pE X [.ref m0, .int (nI i)] (@HAppend.hAppend va_W va_W va_W _ (mW m0 ma la lb n t v) (@HAppend.hAppend va_W va_W va_W _ ([((ma 0), .inl (X.2.1, 371, .inl fa))]) ([((ma 6), .inl (X.2.1, 55, .inl fh))]))) sz) (qI (fun (r : Int32) (u : (Nat → Int32) × (Nat) × (Nat) × (Nat) × (Nat) × (Nat)) => InA u.1 u.2.1 u.2.2.1 u.2.2.2.1 u.2.2.2.2.1 u.2.2.2.2.2 ∧ (True)) X (fun (u : (Nat → Int32) × (Nat) × (Nat) × (Nat) × (Nat) × (Nat)) => @HAppend.hAppend va_W va_W va_W _ (mW m0 ma la lb n t v) (@HAppend.hAppend va_W va_W va_W _ ([((ma 0), .inl (X.2.1, 371, .inl fa))]) ([((ma 6), .inl (X.2.1, 55, .inl u.1))]))) (@HAppend.hAppend va_W va_W va_W _ (mW m0 ma la lb n t v) (@HAppend.hAppend va_W va_W va_W _ ([((ma 0), .inl (X.2.1, 371, .inl fa))]) ([((ma 6), .inl (X.2.1, 55, .inl fh))]))) sz) 0 0 (va_A (@HAppend.hAppend va_W va_W va_W _ (mW m0 ma la lb n t v) (@HAppend.hAppend va_W va_W va_W _ ([((ma 0), .inl (X.2.1, 371, .inl fa))]) ([((ma 6), .inl (X.2.1, 55, .inl fh))]))) sz) := by
  refine mk_met (B := (va_A (@HAppend.hAppend va_W va_W va_W _ (mW m0 ma la lb n t v) (@HAppend.hAppend va_W va_W va_W _ ([((ma 0), .inl (X.2.1, 371, .inl fa))]) ([((ma 6), .inl (X.2.1, 55, .inl fh))]))) sz)) (A := (va_A (@HAppend.hAppend va_W va_W va_W _ (mW m0 ma la lb n t v) (@HAppend.hAppend va_W va_W va_W _ ([((ma 0), .inl (X.2.1, 371, .inl fa))]) ([((ma 6), .inl (X.2.1, 55, .inl fh))]))) sz)) (cc := cX11_homeOf) (maxL := 2) (ret := (some .int)) (by decide) rfl (Nat.le_of_ble_eq_true rfl) k_w k_a (fun p e s m below meth c S zr zlk znm zsz G ls hl => ?_)
  have S : CallFix p m c cX11_homeOf 2 s _ wsX11_homeOf RX11 := S
  have zx := S.1
  have zb := S.2.1
  have hl : lv_has ls 2 [(0, .ref m0), (1, .int (nI i))] := hl
  have hO_t := hI_t
  obtain ⟨ht0_t, ht1_t⟩ := hO_t
  have hO_fa := hI_fa.2
  obtain ⟨hm0_fa, hm1_fa, hm2_fa, hm3_fa, hm4_fa⟩ := hO_fa
  have hO_fh := hI_fh.2
  obtain ⟨hm0_fh, hm1_fh, hm2_fh, hm3_fh, hm4_fh⟩ := hO_fh
  refine lv_aload_n zx zb dX11_homeOf_0 rfl (lv_at hl 0 rfl) ?_
  refine b_wv (cells' := 0) (slots' := 0) (wr := []) G rfl rfl [0, 1, 2] [] rfl rfl rfl rfl (n_V (As := []) (rest := []) (C := RX11) (T := TX11) (N := 18) (ci := 9) S G (m_layHand l X m0 ma la lb n t v fa c0 c1 c2 c3 c4 fh d0 d1 d2 d3 d4 hI_n hI_t hI_fa hI_fh s.heap.size) gX11_homeOf_X11_layHand rfl rfl rfl hdV_X11_layHand ⟨Nat.le_of_ble_eq_true rfl, Nat.le_of_ble_eq_true rfl⟩ [0, 1, 2] rfl rfl 0 rfl rfl rfl hl.1 (Nat.le_of_ble_eq_true rfl) dX11_homeOf_1 ⟨Nat.le_of_ble_eq_true rfl, Nat.le_of_ble_eq_true rfl⟩) (fun u_1 H locs hp_1 G => ?_)
  obtain ⟨f_1a, c0_1b, c1_1c, c2_1d, c3_1e, c4_1f⟩ := u_1
  try dsimp only at hp_1
  obtain ⟨hI_f_1a, hq_1⟩ := hp_1
  have hO_f_1a := hI_f_1a.2
  obtain ⟨hm0_f_1a, hm1_f_1a, hm2_f_1a, hm3_f_1a, hm4_f_1a⟩ := hO_f_1a
  have G : wd X (va_A (@HAppend.hAppend va_W va_W va_W _ (mW m0 ma la lb n t v) (@HAppend.hAppend va_W va_W va_W _ ([((ma 0), .inl (X.2.1, 371, .inl fa))]) ([((ma 6), .inl (X.2.1, 55, .inl fh))]))) sz) (va_A (@HAppend.hAppend va_W va_W va_W _ (mW m0 ma la lb n t v) (@HAppend.hAppend va_W va_W va_W _ ([((ma 0), .inl (X.2.1, 371, .inl fa))]) ([((ma 6), .inl (X.2.1, 55, .inl fh))]))) sz) s (@HAppend.hAppend va_W va_W va_W _ (mW m0 ma la lb n t v) (@HAppend.hAppend va_W va_W va_W _ ([((ma 0), .inl (X.2.1, 371, .inl fa))]) ([((ma 6), .inl (X.2.1, 55, .inl f_1a))]))) H locs := G
  refine lv_aload_n zx zb dX11_homeOf_4 rfl (lv_at hl 0 rfl) ?_
  refine lv_iload_n zx zb dX11_homeOf_5 rfl (lv_at hl 1 rfl) ?_
  refine lv_bipush (v := 60) zx zb dX11_homeOf_6 (by decide) ?_
  refine b_wi (cells' := 0) (slots' := 0) (wr := [((ma 0), .inl (X.2.1, 371, .inl fa))]) G rfl rfl [0, 2] [1] rfl rfl rfl rfl (n_V (As := [.int (nI i), .int 60]) (rest := []) (C := RX11) (T := TX11) (N := 18) (ci := 9) S G (m_homeAtHand l X m0 ma la lb n t v f_1a c0_1b c1_1c c2_1d c3_1e c4_1f i 60 hI_n hI_t hI_f_1a (by omega) (by omega) H.size) gX11_homeOf_X11_homeAtHand rfl rfl rfl hdV_X11_homeAtHand ⟨Nat.le_of_ble_eq_true rfl, Nat.le_of_ble_eq_true rfl⟩ [0, 2] rfl rfl 0 rfl rfl rfl hl.1 (Nat.le_of_ble_eq_true rfl) dX11_homeOf_8 ⟨Nat.le_of_ble_eq_true rfl, Nat.le_of_ble_eq_true rfl⟩) (fun r_2 u_2 H locs hp_2 G => ?_)
  obtain ⟨f_2, rfl⟩ : ∃ z, z = u_2 := ⟨_, rfl⟩
  obtain ⟨hI_f_2, hq_2⟩ := hp_2
  have G : wd X (va_A (@HAppend.hAppend va_W va_W va_W _ (mW m0 ma la lb n t v) (@HAppend.hAppend va_W va_W va_W _ ([((ma 0), .inl (X.2.1, 371, .inl fa))]) ([((ma 6), .inl (X.2.1, 55, .inl fh))]))) sz) (va_A (@HAppend.hAppend va_W va_W va_W _ (mW m0 ma la lb n t v) (@HAppend.hAppend va_W va_W va_W _ ([((ma 0), .inl (X.2.1, 371, .inl fa))]) ([((ma 6), .inl (X.2.1, 55, .inl fh))]))) sz) s (@HAppend.hAppend va_W va_W va_W _ ([((ma 0), .inl (X.2.1, 371, .inl fa))]) (@HAppend.hAppend va_W va_W va_W _ (mW m0 ma la lb n t v) ([((ma 6), .inl (X.2.1, 55, .inl f_2))]))) H locs := G
  exact e_int S zr zlk (vp_nar_int _) G (f_2, c0_1b, c1_1c, c2_1d, c3_1e, c4_1f) [1, 0, 2] rfl rfl (Or.inr rfl) (⟨hI_f_2, trivial⟩) dX11_homeOf_11
theorem hdV_X11_homeOf : yX11_homeOf.cls = RX11 ∧ yX11_homeOf.cls ≠ "java/lang/invoke/MethodHandle" ∧ yX11_homeOf.cls ≠ "java/lang/invoke/VarHandle" ∧ (parseMethodDescriptor yX11_homeOf.desc).map (fun d => d.parameters.length) = some 1 := by decide +kernel
set_option maxHeartbeats 4000000 in
set_option maxRecDepth 100000 in
/-- home -/
theorem m_home (l : Launch) (X : EX) (m0 : Nat) (ma : Nat → Nat) (la : Int64) (lb : Int64) (n : Nat) (t : Nat → Nat) (v : Nat → Int32) (fa : Nat → Int32) (c0 : Nat) (c1 : Nat) (c2 : Nat) (c3 : Nat) (c4 : Nat) (fh : Nat → Int32) (d0 : Nat) (d1 : Nat) (d2 : Nat) (d3 : Nat) (d4 : Nat) (fr : Nat → Int32) (x1 : Int32) (hI_n : n ≤ 150) (hI_t : InT t) (hI_fa : InA fa c0 c1 c2 c3 c4) (hI_fh : InA fh d0 d1 d2 d3 d4) (sz : Nat) : Met l yX11_home wsX11_home ({ frames := 6, cells := 0, slots := 0, locals := 137 } : Room) (pE X [.ref m0, .int x1] (@HAppend.hAppend va_W va_W va_W _ (mW m0 ma la lb n t v) (@HAppend.hAppend va_W va_W va_W _ ([((ma 0), .inl (X.2.1, 371, .inl fa))]) (@HAppend.hAppend va_W va_W va_W _ ([((ma 6), .inl (X.2.1, 55, .inl fh))]) ([((ma 3), .inl (X.2.1, 3, .inl fr))])))) sz) (qI (fun (r : Int32) (u : (Nat → Int32) × (Nat) × (Nat) × (Nat) × (Nat) × (Nat) × (Nat → Int32)) => InA u.1 u.2.1 u.2.2.1 u.2.2.2.1 u.2.2.2.2.1 u.2.2.2.2.2.1 ∧ (True)) X (fun (u : (Nat → Int32) × (Nat) × (Nat) × (Nat) × (Nat) × (Nat) × (Nat → Int32)) => @HAppend.hAppend va_W va_W va_W _ (mW m0 ma la lb n t v) (@HAppend.hAppend va_W va_W va_W _ ([((ma 0), .inl (X.2.1, 371, .inl fa))]) (@HAppend.hAppend va_W va_W va_W _ ([((ma 6), .inl (X.2.1, 55, .inl u.1))]) ([((ma 3), .inl (X.2.1, 3, .inl u.2.2.2.2.2.2))])))) (@HAppend.hAppend va_W va_W va_W _ (mW m0 ma la lb n t v) (@HAppend.hAppend va_W va_W va_W _ ([((ma 0), .inl (X.2.1, 371, .inl fa))]) (@HAppend.hAppend va_W va_W va_W _ ([((ma 6), .inl (X.2.1, 55, .inl fh))]) ([((ma 3), .inl (X.2.1, 3, .inl fr))])))) sz) 0 0 (va_A (@HAppend.hAppend va_W va_W va_W _ (mW m0 ma la lb n t v) (@HAppend.hAppend va_W va_W va_W _ ([((ma 0), .inl (X.2.1, 371, .inl fa))]) (@HAppend.hAppend va_W va_W va_W _ ([((ma 6), .inl (X.2.1, 55, .inl fh))]) ([((ma 3), .inl (X.2.1, 3, .inl fr))])))) sz) := by
  refine mk_met (B := (va_A (@HAppend.hAppend va_W va_W va_W _ (mW m0 ma la lb n t v) (@HAppend.hAppend va_W va_W va_W _ ([((ma 0), .inl (X.2.1, 371, .inl fa))]) (@HAppend.hAppend va_W va_W va_W _ ([((ma 6), .inl (X.2.1, 55, .inl fh))]) ([((ma 3), .inl (X.2.1, 3, .inl fr))])))) sz)) (A := (va_A (@HAppend.hAppend va_W va_W va_W _ (mW m0 ma la lb n t v) (@HAppend.hAppend va_W va_W va_W _ ([((ma 0), .inl (X.2.1, 371, .inl fa))]) (@HAppend.hAppend va_W va_W va_W _ ([((ma 6), .inl (X.2.1, 55, .inl fh))]) ([((ma 3), .inl (X.2.1, 3, .inl fr))])))) sz)) (cc := cX11_home) (maxL := 2) (ret := (some .int)) (by decide) rfl (Nat.le_of_ble_eq_true rfl) k_w k_a (fun p e s m below meth c S zr zlk znm zsz G ls hl => ?_)
  have S : CallFix p m c cX11_home 2 s _ wsX11_home RX11 := S
  have zx := S.1
  have zb := S.2.1
  have hl : lv_has ls 2 [(0, .ref m0), (1, .int x1)] := hl
  have hO_t := hI_t
  obtain ⟨ht0_t, ht1_t⟩ := hO_t
  have hO_fa := hI_fa.2
  obtain ⟨hm0_fa, hm1_fa, hm2_fa, hm3_fa, hm4_fa⟩ := hO_fa
  have hO_fh := hI_fh.2
  obtain ⟨hm0_fh, hm1_fh, hm2_fh, hm3_fh, hm4_fh⟩ := hO_fh
  refine lv_aload_n zx zb dX11_home_0 rfl (lv_at hl 0 rfl) ?_
  refine lv_iload_n zx zb dX11_home_1 rfl (lv_at hl 1 rfl) ?_
  refine o_ri (cells' := 0) (slots' := 0) G rfl rfl (n_V (As := [.int x1]) (rest := []) (C := RX11) (T := TX11) (N := 18) (ci := 9) S G (m_isOne l X m0 ma la lb n t v fa c0 c1 c2 c3 c4 x1 hI_n hI_t hI_fa s.heap.size) gX11_home_X11_isOne rfl rfl rfl hdV_X11_isOne ⟨Nat.le_of_ble_eq_true rfl, Nat.le_of_ble_eq_true rfl⟩ [0, 1] rfl rfl 0 rfl rfl rfl hl.1 (Nat.le_of_ble_eq_true rfl) dX11_home_2 ⟨Nat.le_of_ble_eq_true rfl, Nat.le_of_ble_eq_true rfl⟩) (fun r_1 u_1 H locs hp_1 G => ?_)
  have G : wd X (va_A (@HAppend.hAppend va_W va_W va_W _ (mW m0 ma la lb n t v) (@HAppend.hAppend va_W va_W va_W _ ([((ma 0), .inl (X.2.1, 371, .inl fa))]) (@HAppend.hAppend va_W va_W va_W _ ([((ma 6), .inl (X.2.1, 55, .inl fh))]) ([((ma 3), .inl (X.2.1, 3, .inl fr))])))) sz) (va_A (@HAppend.hAppend va_W va_W va_W _ (mW m0 ma la lb n t v) (@HAppend.hAppend va_W va_W va_W _ ([((ma 0), .inl (X.2.1, 371, .inl fa))]) (@HAppend.hAppend va_W va_W va_W _ ([((ma 6), .inl (X.2.1, 55, .inl fh))]) ([((ma 3), .inl (X.2.1, 3, .inl fr))])))) sz) s (@HAppend.hAppend va_W va_W va_W _ (mW m0 ma la lb n t v) (@HAppend.hAppend va_W va_W va_W _ ([((ma 0), .inl (X.2.1, 371, .inl fa))]) (@HAppend.hAppend va_W va_W va_W _ ([((ma 6), .inl (X.2.1, 55, .inl fh))]) ([((ma 3), .inl (X.2.1, 3, .inl fr))])))) H locs := G
  rcases hp_1 with ⟨rfl, hj_1⟩ | ⟨rfl, hj_1⟩
  · obtain ⟨j_1, hj_1, rfl⟩ := hj_1
    refine lv_if_eq (tgt := 16) zx zb dX11_home_5 (by decide) (fun c_2 => absurd c_2 (by decide)) (fun c_2 => ?_)
    refine lv_aload_n zx zb dX11_home_8 rfl (lv_at hl 0 rfl) ?_
    refine lv_iload_n zx zb dX11_home_9 rfl (lv_at hl 1 rfl) ?_
    refine b_wi (cells' := 0) (slots' := 0) (wr := [((ma 3), .inl (X.2.1, 3, .inl fr))]) G rfl rfl [0, 1, 2] [3] rfl rfl rfl rfl (n_V (As := [.int (nI j_1)]) (rest := []) (C := RX11) (T := TX11) (N := 18) (ci := 9) S G (m_homeOf l X m0 ma la lb n t v fa c0 c1 c2 c3 c4 fh d0 d1 d2 d3 d4 j_1 hI_n hI_t hI_fa hI_fh (by omega) H.size) gX11_home_X11_homeOf rfl rfl rfl hdV_X11_homeOf ⟨Nat.le_of_ble_eq_true rfl, Nat.le_of_ble_eq_true rfl⟩ [0, 1, 2] rfl rfl 0 rfl rfl rfl hl.1 (Nat.le_of_ble_eq_true rfl) dX11_home_10 ⟨Nat.le_of_ble_eq_true rfl, Nat.le_of_ble_eq_true rfl⟩) (fun r_3 u_3 H locs hp_3 G => ?_)
    obtain ⟨f_3a, c0_3b, c1_3c, c2_3d, c3_3e, c4_3f⟩ := u_3
    try dsimp only at hp_3
    obtain ⟨hI_f_3a, hq_3⟩ := hp_3
    have hO_f_3a := hI_f_3a.2
    obtain ⟨hm0_f_3a, hm1_f_3a, hm2_f_3a, hm3_f_3a, hm4_f_3a⟩ := hO_f_3a
    have G : wd X (va_A (@HAppend.hAppend va_W va_W va_W _ (mW m0 ma la lb n t v) (@HAppend.hAppend va_W va_W va_W _ ([((ma 0), .inl (X.2.1, 371, .inl fa))]) (@HAppend.hAppend va_W va_W va_W _ ([((ma 6), .inl (X.2.1, 55, .inl fh))]) ([((ma 3), .inl (X.2.1, 3, .inl fr))])))) sz) (va_A (@HAppend.hAppend va_W va_W va_W _ (mW m0 ma la lb n t v) (@HAppend.hAppend va_W va_W va_W _ ([((ma 0), .inl (X.2.1, 371, .inl fa))]) (@HAppend.hAppend va_W va_W va_W _ ([((ma 6), .inl (X.2.1, 55, .inl fh))]) ([((ma 3), .inl (X.2.1, 3, .inl fr))])))) sz) s (@HAppend.hAppend va_W va_W va_W _ ([((ma 3), .inl (X.2.1, 3, .inl fr))]) (@HAppend.hAppend va_W va_W va_W _ (mW m0 ma la lb n t v) (@HAppend.hAppend va_W va_W va_W _ ([((ma 0), .inl (X.2.1, 371, .inl fa))]) ([((ma 6), .inl (X.2.1, 55, .inl f_3a))])))) H locs := G
    refine lv_goto (tgt := 22) zx zb dX11_home_13 (by decide) ?_
    exact e_int S zr zlk (vp_nar_int _) G (f_3a, c0_3b, c1_3c, c2_3d, c3_3e, c4_3f, fr) [1, 2, 3, 0] rfl rfl (Or.inr rfl) (⟨hI_f_3a, trivial⟩) dX11_home_22
  · refine lv_if_eq (tgt := 16) zx zb dX11_home_5 (by decide) (fun c_4 => ?_) (fun c_4 => absurd (by decide) c_4)
    refine lv_aload_n zx zb dX11_home_16 rfl (lv_at hl 0 rfl) ?_
    refine lv_bipush (v := (-2)) zx zb dX11_home_17 (by decide) ?_
    refine b_wi (cells' := 0) (slots' := 0) (wr := @HAppend.hAppend va_W va_W va_W _ ([((ma 0), .inl (X.2.1, 371, .inl fa))]) ([((ma 6), .inl (X.2.1, 55, .inl fh))])) G rfl rfl [0, 3] [1, 2] rfl rfl rfl rfl (n_V (As := [.int (-2)]) (rest := []) (C := RX11) (T := TX11) (N := 18) (ci := 9) S G (m_bad l X m0 ma la lb n t v fr (-2) hI_n hI_t H.size) gX11_home_X11_bad rfl rfl rfl hdV_X11_bad ⟨Nat.le_of_ble_eq_true rfl, Nat.le_of_ble_eq_true rfl⟩ [0, 3] rfl rfl 0 rfl rfl rfl hl.1 (Nat.le_of_ble_eq_true rfl) dX11_home_19 ⟨Nat.le_of_ble_eq_true rfl, Nat.le_of_ble_eq_true rfl⟩) (fun r_5 u_5 H locs hp_5 G => ?_)
    obtain ⟨f_5, rfl⟩ : ∃ z, z = u_5 := ⟨_, rfl⟩
    have hq_5 := hp_5
    have G : wd X (va_A (@HAppend.hAppend va_W va_W va_W _ (mW m0 ma la lb n t v) (@HAppend.hAppend va_W va_W va_W _ ([((ma 0), .inl (X.2.1, 371, .inl fa))]) (@HAppend.hAppend va_W va_W va_W _ ([((ma 6), .inl (X.2.1, 55, .inl fh))]) ([((ma 3), .inl (X.2.1, 3, .inl fr))])))) sz) (va_A (@HAppend.hAppend va_W va_W va_W _ (mW m0 ma la lb n t v) (@HAppend.hAppend va_W va_W va_W _ ([((ma 0), .inl (X.2.1, 371, .inl fa))]) (@HAppend.hAppend va_W va_W va_W _ ([((ma 6), .inl (X.2.1, 55, .inl fh))]) ([((ma 3), .inl (X.2.1, 3, .inl fr))])))) sz) s (@HAppend.hAppend va_W va_W va_W _ ([((ma 0), .inl (X.2.1, 371, .inl fa))]) (@HAppend.hAppend va_W va_W va_W _ ([((ma 6), .inl (X.2.1, 55, .inl fh))]) (@HAppend.hAppend va_W va_W va_W _ (mW m0 ma la lb n t v) ([((ma 3), .inl (X.2.1, 3, .inl f_5))])))) H locs := G
    obtain rfl := hq_5
    exact e_int S zr zlk (vp_nar_int _) G (fh, d0, d1, d2, d3, d4, f_5) [2, 0, 1, 3] rfl rfl (Or.inr rfl) (⟨hI_fh, trivial⟩) dX11_home_22
theorem mm_X11_first_c150 : Cond.constant RX11 150 (1000000) ∈ wsX11_first := by decide +kernel
theorem in_X11_first_X11 : ∀ w ∈ wsX110, w ∈ wsX11_first := by decide +kernel
theorem lk_X11_first_7 : Cond.fieldLink RX11 7 "EggSpoonsModel" "all" "[I" ∈ wsX11_first := by decide +kernel
set_option maxHeartbeats 4000000 in
set_option maxRecDepth 100000 in
/-- first -/
theorem m_first (l : Launch) (X : EX) (m0 : Nat) (ma : Nat → Nat) (la : Int64) (lb : Int64) (n : Nat) (t : Nat → Nat) (v : Nat → Int32) (fa : Nat → Int32) (c0 : Nat) (c1 : Nat) (c2 : Nat) (c3 : Nat) (c4 : Nat) (fh : Nat → Int32) (d0 : Nat) (d1 : Nat) (d2 : Nat) (d3 : Nat) (d4 : Nat) (hI_n : n ≤ 150) (hI_t : InT t) (hI_fa : InA fa c0 c1 c2 c3 c4) (hI_fh : InA fh d0 d1 d2 d3 d4) (sz : Nat) : Met l yX11_first wsX11_first ({ frames := 6, cells := 0, slots := 0, locals := 137 } : Room) (pE X [.ref m0] (@HAppend.hAppend va_W va_W va_W _ (mW m0 ma la lb n t v) (@HAppend.hAppend va_W va_W va_W _ ([((ma 0), .inl (X.2.1, 371, .inl fa))]) ([((ma 6), .inl (X.2.1, 55, .inl fh))]))) sz) (qI (fun (r : Int32) (u : (Nat → Int32) × (Nat) × (Nat) × (Nat) × (Nat) × (Nat)) => InA u.1 u.2.1 u.2.2.1 u.2.2.2.1 u.2.2.2.2.1 u.2.2.2.2.2 ∧ (True)) X (fun (u : (Nat → Int32) × (Nat) × (Nat) × (Nat) × (Nat) × (Nat)) => @HAppend.hAppend va_W va_W va_W _ (mW m0 ma la lb n t v) (@HAppend.hAppend va_W va_W va_W _ ([((ma 0), .inl (X.2.1, 371, .inl fa))]) ([((ma 6), .inl (X.2.1, 55, .inl u.1))]))) (@HAppend.hAppend va_W va_W va_W _ (mW m0 ma la lb n t v) (@HAppend.hAppend va_W va_W va_W _ ([((ma 0), .inl (X.2.1, 371, .inl fa))]) ([((ma 6), .inl (X.2.1, 55, .inl fh))]))) sz) 0 0 (va_A (@HAppend.hAppend va_W va_W va_W _ (mW m0 ma la lb n t v) (@HAppend.hAppend va_W va_W va_W _ ([((ma 0), .inl (X.2.1, 371, .inl fa))]) ([((ma 6), .inl (X.2.1, 55, .inl fh))]))) sz) := by
  refine mk_met (B := (va_A (@HAppend.hAppend va_W va_W va_W _ (mW m0 ma la lb n t v) (@HAppend.hAppend va_W va_W va_W _ ([((ma 0), .inl (X.2.1, 371, .inl fa))]) ([((ma 6), .inl (X.2.1, 55, .inl fh))]))) sz)) (A := (va_A (@HAppend.hAppend va_W va_W va_W _ (mW m0 ma la lb n t v) (@HAppend.hAppend va_W va_W va_W _ ([((ma 0), .inl (X.2.1, 371, .inl fa))]) ([((ma 6), .inl (X.2.1, 55, .inl fh))]))) sz)) (cc := cX11_first) (maxL := 5) (ret := (some .int)) (by decide) rfl (Nat.le_of_ble_eq_true rfl) k_w k_a (fun p e s m below meth c S zr zlk znm zsz G ls hl => ?_)
  have S : CallFix p m c cX11_first 5 s _ wsX11_first RX11 := S
  have zx := S.1
  have zb := S.2.1
  have hl : lv_has ls 5 [(0, .ref m0)] := hl
  have hO_t := hI_t
  obtain ⟨ht0_t, ht1_t⟩ := hO_t
  have hO_fa := hI_fa.2
  obtain ⟨hm0_fa, hm1_fa, hm2_fa, hm3_fa, hm4_fa⟩ := hO_fa
  have hO_fh := hI_fh.2
  obtain ⟨hm0_fh, hm1_fh, hm2_fh, hm3_fh, hm4_fh⟩ := hO_fh
  refine lv_iconst (v := (-1)) zx zb dX11_first_0 (by decide) ?_
  refine lv_istore_n (lv' := [(1, .int (-1)), (0, .ref m0)]) zx zb dX11_first_1 rfl hl (by decide) rfl (fun ls hl => ?_)
  refine lv_ldc zx zb S.2.2.2.1 (S.2.2.2.2 _ mm_X11_first_c150) dX11_first_2 ?_
  refine lv_istore_n (lv' := [(2, .int 1000000), (1, .int (-1)), (0, .ref m0)]) zx zb dX11_first_4 rfl hl (by decide) rfl (fun ls hl => ?_)
  refine lv_iconst (v := 0) zx zb dX11_first_5 (by decide) ?_
  refine lv_istore_n (lv' := [(3, .int 0), (2, .int 1000000), (1, .int (-1)), (0, .ref m0)]) zx zb dX11_first_6 rfl hl (by decide) rfl (fun ls hl => ?_)
  refine k_loop (P := ∀ (zm : Nat) (k7 : Nat) (x7_2 : Int32) (x7_1 : Int32) (f7_2 : Nat → Int32) (c07_2 : Nat) (c17_2 : Nat) (c27_2 : Nat) (c37_2 : Nat) (c47_2 : Nat) (H : Heap) (locs : List Loc) (ls : Array Slot), 6 + 1 ≤ k7 + zm → InA f7_2 c07_2 c17_2 c27_2 c37_2 c47_2 → (k7 ≤ 6) → wd X (va_A (@HAppend.hAppend va_W va_W va_W _ (mW m0 ma la lb n t v) (@HAppend.hAppend va_W va_W va_W _ ([((ma 0), .inl (X.2.1, 371, .inl fa))]) ([((ma 6), .inl (X.2.1, 55, .inl fh))]))) sz) (va_A (@HAppend.hAppend va_W va_W va_W _ (mW m0 ma la lb n t v) (@HAppend.hAppend va_W va_W va_W _ ([((ma 0), .inl (X.2.1, 371, .inl fa))]) ([((ma 6), .inl (X.2.1, 55, .inl fh))]))) sz) s (@HAppend.hAppend va_W va_W va_W _ (mW m0 ma la lb n t v) (@HAppend.hAppend va_W va_W va_W _ ([((ma 0), .inl (X.2.1, 371, .inl fa))]) ([((ma 6), .inl (X.2.1, 55, .inl f7_2))]))) H locs → lv_has ls 5 [(3, .int (nI k7)), (2, .int x7_2), (1, .int x7_1), (0, .ref m0)] → W p l e _ s m _ below meth c H locs _ _ _ (F0 m 7 ls [])) (fun loop => loop (6 + 1) 0 1000000 (-1) fh d0 d1 d2 d3 d4 _ _ _ (by omega) hI_fh (by omega) G hl) ?_
  intro zm
  induction zm with
  | zero => intro k7 x7_2 x7_1 f7_2 c07_2 c17_2 c27_2 c37_2 c47_2 H locs ls zz q_hI_f7_2 q_hk_k7 _ _; exact absurd zz (by omega)
  | succ zm ih7 =>
    intro k7 x7_2 x7_1 f7_2 c07_2 c17_2 c27_2 c37_2 c47_2 H locs ls zm_7 hI_f7_2 hk_k7 G hl
    have hO_f7_2 := hI_f7_2.2
    obtain ⟨hm0_f7_2, hm1_f7_2, hm2_f7_2, hm3_f7_2, hm4_f7_2⟩ := hO_f7_2
    refine lv_iload_n zx zb dX11_first_7 rfl (lv_at hl 0 rfl) ?_
    refine lv_aload_n zx zb dX11_first_8 rfl (lv_at hl 3 rfl) ?_
    refine o_ri (cells' := 0) (slots' := 0) G rfl rfl (n_V (As := []) (rest := [.int (nI k7)]) (C := RX11) (T := TX11) (N := 18) (ci := 9) S G (m_many l X m0 ma la lb n t v fa c0 c1 c2 c3 c4 hI_n hI_t hI_fa H.size) gX11_first_X11_many rfl rfl rfl hdV_X11_many ⟨Nat.le_of_ble_eq_true rfl, Nat.le_of_ble_eq_true rfl⟩ [0, 1] rfl rfl 0 rfl rfl rfl hl.1 (Nat.le_of_ble_eq_true rfl) dX11_first_9 ⟨Nat.le_of_ble_eq_true rfl, Nat.le_of_ble_eq_true rfl⟩) (fun r_1 u_1 H locs hp_1 G => ?_)
    have G : wd X (va_A (@HAppend.hAppend va_W va_W va_W _ (mW m0 ma la lb n t v) (@HAppend.hAppend va_W va_W va_W _ ([((ma 0), .inl (X.2.1, 371, .inl fa))]) ([((ma 6), .inl (X.2.1, 55, .inl fh))]))) sz) (va_A (@HAppend.hAppend va_W va_W va_W _ (mW m0 ma la lb n t v) (@HAppend.hAppend va_W va_W va_W _ ([((ma 0), .inl (X.2.1, 371, .inl fa))]) ([((ma 6), .inl (X.2.1, 55, .inl fh))]))) sz) s (@HAppend.hAppend va_W va_W va_W _ (mW m0 ma la lb n t v) (@HAppend.hAppend va_W va_W va_W _ ([((ma 0), .inl (X.2.1, 371, .inl fa))]) ([((ma 6), .inl (X.2.1, 55, .inl f7_2))]))) H locs := G
    obtain rfl := hp_1
    refine lv_icmp_ge (tgt := 60) zx zb dX11_first_12 (by decide) (fun c_2 => ?_) (fun c_2 => ?_)
    · have fc_2 := j_le (a := c0) (b := k7) (by omega) (by omega) c_2
      refine lv_iload_n zx zb dX11_first_60 rfl (lv_at hl 2 rfl) ?_
      exact e_int S zr zlk (vp_nar_int _) G (f7_2, c07_2, c17_2, c27_2, c37_2, c47_2) [0, 1, 2] rfl rfl (Or.inr rfl) (⟨hI_f7_2, trivial⟩) dX11_first_61
    · have fc_2 := j_nle (a := c0) (b := k7) (by omega) (by omega) c_2
      refine lv_aload_n zx zb dX11_first_15 rfl (lv_at hl 3 rfl) ?_
      refine r_get (C := RX11) (T := TX11) (N := 18) (ci := 9) (v := .ref (ma 0)) S in_X11_first_X11 G 0 rfl rfl 0 (by decide) lk_X11_first_7 rfl dX11_first_16 ?_
      refine lv_iload_n zx zb dX11_first_19 rfl (lv_at hl 0 rfl) ?_
      refine o_ri (cells' := 0) (slots' := 0) G rfl rfl (n_S (As := [.ref (ma 0), .int (nI k7)]) (rest := []) S G (m_isHome l X (ma 0) 371 fa c0 c1 c2 c3 c4 k7 hI_fa (by omega) (by omega) (by omega) H.size) gX11_first_X11_isHome rfl rfl rfl hdS_X11_isHome ⟨Nat.le_of_ble_eq_true rfl, Nat.le_of_ble_eq_true rfl⟩ [1] rfl rfl rfl hl.1 (Nat.le_of_ble_eq_true rfl) dX11_first_20 ⟨Nat.le_of_ble_eq_true rfl, Nat.le_of_ble_eq_true rfl⟩) (fun r_3 u_3 H locs hp_3 G => ?_)
      have G : wd X (va_A (@HAppend.hAppend va_W va_W va_W _ (mW m0 ma la lb n t v) (@HAppend.hAppend va_W va_W va_W _ ([((ma 0), .inl (X.2.1, 371, .inl fa))]) ([((ma 6), .inl (X.2.1, 55, .inl fh))]))) sz) (va_A (@HAppend.hAppend va_W va_W va_W _ (mW m0 ma la lb n t v) (@HAppend.hAppend va_W va_W va_W _ ([((ma 0), .inl (X.2.1, 371, .inl fa))]) ([((ma 6), .inl (X.2.1, 55, .inl fh))]))) sz) s (@HAppend.hAppend va_W va_W va_W _ (mW m0 ma la lb n t v) (@HAppend.hAppend va_W va_W va_W _ ([((ma 0), .inl (X.2.1, 371, .inl fa))]) ([((ma 6), .inl (X.2.1, 55, .inl f7_2))]))) H locs := G
      refine k_cutW (PP := fun Wx => ∀ (x_5 : Int32) (f_6 : Nat → Int32) (c0_7 : Nat) (c1_8 : Nat) (c2_9 : Nat) (c3_10 : Nat) (c4_11 : Nat) (H : Heap) (locs : List Loc) (ls : Array Slot), InA f_6 c0_7 c1_8 c2_9 c3_10 c4_11 → wd X (va_A (@HAppend.hAppend va_W va_W va_W _ (mW m0 ma la lb n t v) (@HAppend.hAppend va_W va_W va_W _ ([((ma 0), .inl (X.2.1, 371, .inl fa))]) ([((ma 6), .inl (X.2.1, 55, .inl fh))]))) sz) (va_A (@HAppend.hAppend va_W va_W va_W _ (mW m0 ma la lb n t v) (@HAppend.hAppend va_W va_W va_W _ ([((ma 0), .inl (X.2.1, 371, .inl fa))]) ([((ma 6), .inl (X.2.1, 55, .inl fh))]))) sz) s (@HAppend.hAppend va_W va_W va_W _ (mW m0 ma la lb n t v) (@HAppend.hAppend va_W va_W va_W _ ([((ma 0), .inl (X.2.1, 371, .inl fa))]) ([((ma 6), .inl (X.2.1, 55, .inl f_6))]))) H locs → lv_has ls 5 [(3, .int (nI k7)), (2, .int x7_2), (1, .int x7_1), (0, .ref m0)] → Wx (F0 m 35 ls [.int x_5]) H locs) ?_ ?_
      · intro join_23
        refine lv_if_eq (tgt := 30) zx zb dX11_first_23 (by decide) (fun c_4 => ?_) (fun c_4 => ?_)
        · refine lv_aload_n zx zb dX11_first_30 rfl (lv_at hl 3 rfl) ?_
          refine lv_iload_n zx zb dX11_first_31 rfl (lv_at hl 0 rfl) ?_
          refine b_wi (cells' := 0) (slots' := 0) (wr := []) G rfl rfl [0, 1, 2] [] rfl rfl rfl rfl (n_V (As := [.int (nI k7)]) (rest := []) (C := RX11) (T := TX11) (N := 18) (ci := 9) S G (m_homeOf l X m0 ma la lb n t v fa c0 c1 c2 c3 c4 f7_2 c07_2 c17_2 c27_2 c37_2 c47_2 k7 hI_n hI_t hI_fa hI_f7_2 (by omega) H.size) gX11_first_X11_homeOf rfl rfl rfl hdV_X11_homeOf ⟨Nat.le_of_ble_eq_true rfl, Nat.le_of_ble_eq_true rfl⟩ [0, 1, 2] rfl rfl 0 rfl rfl rfl hl.1 (Nat.le_of_ble_eq_true rfl) dX11_first_32 ⟨Nat.le_of_ble_eq_true rfl, Nat.le_of_ble_eq_true rfl⟩) (fun r_12 u_12 H locs hp_12 G => ?_)
          obtain ⟨f_12a, c0_12b, c1_12c, c2_12d, c3_12e, c4_12f⟩ := u_12
          try dsimp only at hp_12
          obtain ⟨hI_f_12a, hq_12⟩ := hp_12
          have hO_f_12a := hI_f_12a.2
          obtain ⟨hm0_f_12a, hm1_f_12a, hm2_f_12a, hm3_f_12a, hm4_f_12a⟩ := hO_f_12a
          have G : wd X (va_A (@HAppend.hAppend va_W va_W va_W _ (mW m0 ma la lb n t v) (@HAppend.hAppend va_W va_W va_W _ ([((ma 0), .inl (X.2.1, 371, .inl fa))]) ([((ma 6), .inl (X.2.1, 55, .inl fh))]))) sz) (va_A (@HAppend.hAppend va_W va_W va_W _ (mW m0 ma la lb n t v) (@HAppend.hAppend va_W va_W va_W _ ([((ma 0), .inl (X.2.1, 371, .inl fa))]) ([((ma 6), .inl (X.2.1, 55, .inl fh))]))) sz) s (@HAppend.hAppend va_W va_W va_W _ (mW m0 ma la lb n t v) (@HAppend.hAppend va_W va_W va_W _ ([((ma 0), .inl (X.2.1, 371, .inl fa))]) ([((ma 6), .inl (X.2.1, 55, .inl f_12a))]))) H locs := G
          exact join_23 r_12 f_12a c0_12b c1_12c c2_12d c3_12e c4_12f _ _ _ hI_f_12a G hl
        · refine lv_iconst (v := (-1)) zx zb dX11_first_26 (by decide) ?_
          refine lv_goto (tgt := 35) zx zb dX11_first_27 (by decide) ?_
          exact join_23 (-1) f7_2 c07_2 c17_2 c27_2 c37_2 c47_2 _ _ _ hI_f7_2 G hl
      · intro x_5 f_6 c0_7 c1_8 c2_9 c3_10 c4_11 H locs ls hI_f_6 G hl
        have hO_f_6 := hI_f_6.2
        obtain ⟨hm0_f_6, hm1_f_6, hm2_f_6, hm3_f_6, hm4_f_6⟩ := hO_f_6
        refine lv_istore (lv' := [(4, .int x_5), (3, .int (nI k7)), (2, .int x7_2), (1, .int x7_1), (0, .ref m0)]) zx zb dX11_first_35 hl (by decide) rfl (fun ls hl => ?_)
        refine lv_iload zx zb dX11_first_37 (lv_at hl 0 rfl) ?_
        refine lv_iconst (v := (-1)) zx zb dX11_first_39 (by decide) ?_
        refine k_cutW (PP := fun Wx => ∀ (x_14 : Int32) (x_15 : Int32) (H : Heap) (locs : List Loc) (ls : Array Slot), wd X (va_A (@HAppend.hAppend va_W va_W va_W _ (mW m0 ma la lb n t v) (@HAppend.hAppend va_W va_W va_W _ ([((ma 0), .inl (X.2.1, 371, .inl fa))]) ([((ma 6), .inl (X.2.1, 55, .inl fh))]))) sz) (va_A (@HAppend.hAppend va_W va_W va_W _ (mW m0 ma la lb n t v) (@HAppend.hAppend va_W va_W va_W _ ([((ma 0), .inl (X.2.1, 371, .inl fa))]) ([((ma 6), .inl (X.2.1, 55, .inl fh))]))) sz) s (@HAppend.hAppend va_W va_W va_W _ (mW m0 ma la lb n t v) (@HAppend.hAppend va_W va_W va_W _ ([((ma 0), .inl (X.2.1, 371, .inl fa))]) ([((ma 6), .inl (X.2.1, 55, .inl f_6))]))) H locs → lv_has ls 5 [(4, .int x_5), (3, .int (nI k7)), (2, .int x_14), (1, .int x_15), (0, .ref m0)] → Wx (F0 m 54 ls []) H locs) ?_ ?_
        · intro join_40
          refine lv_icmp_eq (tgt := 54) zx zb dX11_first_40 (by decide) (fun c_13 => ?_) (fun c_13 => ?_)
          · exact join_40 x7_2 x7_1 _ _ _  G hl
          · refine lv_iload zx zb dX11_first_43 (lv_at hl 0 rfl) ?_
            refine lv_iload_n zx zb dX11_first_45 rfl (lv_at hl 2 rfl) ?_
            refine lv_icmp_ge (tgt := 54) zx zb dX11_first_46 (by decide) (fun c_16 => ?_) (fun c_16 => ?_)
            · exact join_40 x7_2 x7_1 _ _ _  G hl
            · refine lv_iload_n zx zb dX11_first_49 rfl (lv_at hl 1 rfl) ?_
              refine lv_istore_n (lv' := [(1, .int (nI k7)), (4, .int x_5), (3, .int (nI k7)), (2, .int x7_2), (0, .ref m0)]) zx zb dX11_first_50 rfl hl (by decide) rfl (fun ls hl => ?_)
              refine lv_iload zx zb dX11_first_51 (lv_at hl 1 rfl) ?_
              refine lv_istore_n (lv' := [(2, .int x_5), (1, .int (nI k7)), (4, .int x_5), (3, .int (nI k7)), (0, .ref m0)]) zx zb dX11_first_53 rfl hl (by decide) rfl (fun ls hl => ?_)
              have hl := lv_sub hl (l' := [(4, .int x_5), (3, .int (nI k7)), (2, .int x_5), (1, .int (nI k7)), (0, .ref m0)]) [2, 3, 0, 1, 4] rfl
              exact join_40 x_5 (nI k7) _ _ _  G hl
        · intro x_14 x_15 H locs ls  G hl
          refine lv_iinc (v := (nI (k7 + 1))) (lv' := [(3, .int (nI (k7 + 1))), (4, .int x_5), (2, .int x_14), (1, .int x_15), (0, .ref m0)]) zx zb dX11_first_54 hl (k := 1) rfl (nI_add k7 1) (by decide) rfl (fun ls hl => ?_)
          refine lv_goto (tgt := 7) zx zb dX11_first_57 (by decide) ?_
          have hl := lv_sub hl (l' := [(3, .int (nI (k7 + 1))), (2, .int x_14), (1, .int x_15), (0, .ref m0)]) [0, 2, 3, 4] rfl
          exact ih7 (k7 + 1) x_14 x_15 f_6 c0_7 c1_8 c2_9 c3_10 c4_11 _ _ _ (by omega) hI_f_6 (by omega) G hl
