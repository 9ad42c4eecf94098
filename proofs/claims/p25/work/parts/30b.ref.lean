set_option maxRecDepth 20000 in
theorem ggX11_best_X11_bad : GoodIn wsX11_best wsX11_bad := goodIn_r _ [19, 20, 50, 51, 52, 53, 54, 55, 56, 57, 58, 59, 60, 61, 62, 63, 64, 65, 66, 67] rfl (by decide +kernel)
set_option maxRecDepth 20000 in
theorem gX11_best_X11_bad : GoodIn wsX11_best (wsV RX11 68 RX11 yX11_bad wsX11_bad) := goodIn_app (goodIn_of _ (by decide +kernel)) ggX11_best_X11_bad
set_option maxRecDepth 20000 in
theorem ggX11_best_X11_homeAtHand : GoodIn wsX11_best wsX11_homeAtHand := goodIn_r _ [31, 3, 21, 22, 7, 23, 32, 33, 34, 35, 36, 37, 38, 39, 40, 41, 42, 43, 44, 45, 46, 47, 48, 49, 50, 51, 52, 53, 54, 55, 56, 57, 58, 59, 60, 61, 62, 63, 64, 65, 66, 67] rfl (by decide +kernel)
set_option maxRecDepth 20000 in
theorem gX11_best_X11_homeAtHand : GoodIn wsX11_best (wsV RX11 144 RX11 yX11_homeAtHand wsX11_homeAtHand) := goodIn_app (goodIn_of _ (by decide +kernel)) ggX11_best_X11_homeAtHand
set_option maxRecDepth 20000 in
theorem ggX11_best_X11_in : GoodIn wsX11_best wsX11_in := goodIn_r _ [15] rfl (by decide +kernel)
set_option maxRecDepth 20000 in
theorem gX11_best_X11_in : GoodIn wsX11_best (va_wsS RX11 56 yX11_in wsX11_in) := goodIn_app (goodIn_of _ (by decide +kernel)) ggX11_best_X11_in
set_option maxRecDepth 20000 in
theorem ggX11_best_X11_isHome : GoodIn wsX11_best wsX11_isHome := goodIn_r _ [23] rfl (by decide +kernel)
set_option maxRecDepth 20000 in
theorem gX11_best_X11_isHome : GoodIn wsX11_best (va_wsS RX11 101 yX11_isHome wsX11_isHome) := goodIn_app (goodIn_of _ (by decide +kernel)) ggX11_best_X11_isHome
set_option maxRecDepth 20000 in
theorem ggX11_best_X11_isOne : GoodIn wsX11_best wsX11_isOne := goodIn_r _ [8, 9, 10, 11, 7, 12, 2, 13, 14, 15, 50, 51, 52, 53, 54, 55, 56, 57, 58, 59, 60, 61, 62, 63, 64, 65, 66, 67] rfl (by decide +kernel)
set_option maxRecDepth 20000 in
theorem gX11_best_X11_isOne : GoodIn wsX11_best (wsV RX11 123 RX11 yX11_isOne wsX11_isOne) := goodIn_app (goodIn_of _ (by decide +kernel)) ggX11_best_X11_isOne
set_option maxRecDepth 20000 in
theorem ggX11_best_X11_layHand : GoodIn wsX11_best wsX11_layHand := goodIn_r _ [27, 3, 2, 50, 51, 52, 53, 54, 55, 56, 57, 58, 59, 60, 61, 62, 63, 64, 65, 66, 67] rfl (by decide +kernel)
set_option maxRecDepth 20000 in
theorem gX11_best_X11_layHand : GoodIn wsX11_best (wsV RX11 137 RX11 yX11_layHand wsX11_layHand) := goodIn_app (goodIn_of _ (by decide +kernel)) ggX11_best_X11_layHand
set_option maxRecDepth 20000 in
theorem ggX11_first_X11_homeOf : GoodIn wsX11_first wsX11_homeOf := goodIn_r _ [14, 15, 16, 17, 6, 18, 19, 2, 20, 21, 22, 23, 8, 9, 10, 24, 25, 26, 27, 28, 29, 30, 31, 32, 33, 34, 35, 36, 37, 38, 39, 40, 41, 42, 43, 44, 45, 46, 47, 48, 49, 50, 51, 52, 53, 54, 55, 56, 57, 58, 59] rfl (by decide +kernel)
set_option maxRecDepth 20000 in
theorem gX11_first_X11_homeOf : GoodIn wsX11_first (wsV RX11 147 RX11 yX11_homeOf wsX11_homeOf) := goodIn_app (goodIn_of _ (by decide +kernel)) ggX11_first_X11_homeOf
set_option maxRecDepth 20000 in
theorem ggX11_first_X11_isHome : GoodIn wsX11_first wsX11_isHome := goodIn_r _ [10] rfl (by decide +kernel)
set_option maxRecDepth 20000 in
theorem gX11_first_X11_isHome : GoodIn wsX11_first (va_wsS RX11 101 yX11_isHome wsX11_isHome) := goodIn_app (goodIn_of _ (by decide +kernel)) ggX11_first_X11_isHome
set_option maxRecDepth 20000 in
theorem ggX11_first_X11_many : GoodIn wsX11_first wsX11_many := goodIn_r _ [7, 2, 42, 43, 44, 45, 46, 47, 48, 49, 50, 51, 52, 53, 54, 55, 56, 57, 58, 59] rfl (by decide +kernel)
set_option maxRecDepth 20000 in
theorem gX11_first_X11_many : GoodIn wsX11_first (wsV RX11 52 RX11 yX11_many wsX11_many) := goodIn_app (goodIn_of _ (by decide +kernel)) ggX11_first_X11_many
set_option maxRecDepth 20000 in
theorem ggX11_goAhead_X11_goTick : GoodIn wsX11_goAhead wsX11_goTick := goodIn_r _ [5, 6, 7, 4, 8, 9, 10, 11, 12, 13, 14, 15, 16, 17, 18, 19, 20, 21, 22, 23] rfl (by decide +kernel)
set_option maxRecDepth 20000 in
theorem gX11_goAhead_X11_goTick : GoodIn wsX11_goAhead (va_wsS RX11 109 yX11_goTick wsX11_goTick) := goodIn_app (goodIn_of _ (by decide +kernel)) ggX11_goAhead_X11_goTick
set_option maxRecDepth 20000 in
theorem ggX11_homeAtHand_X11_goTick : GoodIn wsX11_homeAtHand wsX11_goTick := goodIn_r _ [8, 2, 3, 4, 5, 9, 10, 11, 12, 13, 14, 15, 16, 17, 18, 19, 20, 21, 22, 23] rfl (by decide +kernel)
set_option maxRecDepth 20000 in
theorem gX11_homeAtHand_X11_goTick : GoodIn wsX11_homeAtHand (va_wsS RX11 109 yX11_goTick wsX11_goTick) := goodIn_app (goodIn_of _ (by decide +kernel)) ggX11_homeAtHand_X11_goTick
set_option maxRecDepth 20000 in
theorem ggX11_homeAtHand_X11_isHome : GoodIn wsX11_homeAtHand wsX11_isHome := goodIn_r _ [5] rfl (by decide +kernel)
set_option maxRecDepth 20000 in
theorem gX11_homeAtHand_X11_isHome : GoodIn wsX11_homeAtHand (va_wsS RX11 101 yX11_isHome wsX11_isHome) := goodIn_app (goodIn_of _ (by decide +kernel)) ggX11_homeAtHand_X11_isHome
set_option maxRecDepth 20000 in
theorem ggX11_homeOf_X11_homeAtHand : GoodIn wsX11_homeOf wsX11_homeAtHand := goodIn_r _ [11, 6, 12, 13, 4, 14, 15, 16, 17, 18, 19, 20, 21, 22, 23, 24, 25, 26, 27, 28, 29, 30, 31, 32, 33, 34, 35, 36, 37, 38, 39, 40, 41, 42, 43, 44, 45, 46, 47, 48, 49, 50] rfl (by decide +kernel)
set_option maxRecDepth 20000 in
theorem gX11_homeOf_X11_homeAtHand : GoodIn wsX11_homeOf (wsV RX11 144 RX11 yX11_homeAtHand wsX11_homeAtHand) := goodIn_app (goodIn_of _ (by decide +kernel)) ggX11_homeOf_X11_homeAtHand
set_option maxRecDepth 20000 in
theorem ggX11_homeOf_X11_layHand : GoodIn wsX11_homeOf wsX11_layHand := goodIn_r _ [5, 6, 7, 33, 34, 35, 36, 37, 38, 39, 40, 41, 42, 43, 44, 45, 46, 47, 48, 49, 50] rfl (by decide +kernel)
set_option maxRecDepth 20000 in
theorem gX11_homeOf_X11_layHand : GoodIn wsX11_homeOf (wsV RX11 137 RX11 yX11_layHand wsX11_layHand) := goodIn_app (goodIn_of _ (by decide +kernel)) ggX11_homeOf_X11_layHand
set_option maxRecDepth 20000 in
theorem ggX11_home_X11_bad : GoodIn wsX11_home wsX11_bad := goodIn_r _ [51, 52, 53, 54, 55, 56, 57, 58, 59, 60, 61, 62, 63, 64, 65, 66, 67, 68, 69, 70] rfl (by decide +kernel)
set_option maxRecDepth 20000 in
theorem gX11_home_X11_bad : GoodIn wsX11_home (wsV RX11 68 RX11 yX11_bad wsX11_bad) := goodIn_app (goodIn_of _ (by decide +kernel)) ggX11_home_X11_bad
set_option maxRecDepth 20000 in
theorem ggX11_home_X11_homeOf : GoodIn wsX11_home wsX11_homeOf := goodIn_r _ [17, 18, 19, 20, 4, 21, 22, 10, 23, 24, 25, 26, 27, 28, 29, 30, 31, 32, 33, 34, 35, 36, 37, 38, 39, 40, 41, 42, 43, 44, 45, 46, 47, 53, 54, 55, 56, 57, 58, 59, 60, 61, 62, 63, 64, 65, 66, 67, 68, 69, 70] rfl (by decide +kernel)
set_option maxRecDepth 20000 in
theorem gX11_home_X11_homeOf : GoodIn wsX11_home (wsV RX11 147 RX11 yX11_homeOf wsX11_homeOf) := goodIn_app (goodIn_of _ (by decide +kernel)) ggX11_home_X11_homeOf
set_option maxRecDepth 20000 in
theorem ggX11_home_X11_isOne : GoodIn wsX11_home wsX11_isOne := goodIn_r _ [5, 6, 7, 8, 4, 9, 10, 11, 12, 13, 53, 54, 55, 56, 57, 58, 59, 60, 61, 62, 63, 64, 65, 66, 67, 68, 69, 70] rfl (by decide +kernel)
set_option maxRecDepth 20000 in
theorem gX11_home_X11_isOne : GoodIn wsX11_home (wsV RX11 123 RX11 yX11_isOne wsX11_isOne) := goodIn_app (goodIn_of _ (by decide +kernel)) ggX11_home_X11_isOne
set_option maxRecDepth 20000 in
theorem ggX11_of_X11_bad : GoodIn wsX11_of wsX11_bad := goodIn_r _ [34, 35, 36, 37, 38, 39, 40, 41, 42, 43, 44, 45, 46, 47, 48, 49, 50, 51, 52, 53] rfl (by decide +kernel)
set_option maxRecDepth 20000 in
theorem gX11_of_X11_bad : GoodIn wsX11_of (wsV RX11 68 RX11 yX11_bad wsX11_bad) := goodIn_app (goodIn_of _ (by decide +kernel)) ggX11_of_X11_bad
set_option maxRecDepth 20000 in
theorem ggX11_of_X11_in : GoodIn wsX11_of wsX11_in := goodIn_r _ [14] rfl (by decide +kernel)
set_option maxRecDepth 20000 in
theorem gX11_of_X11_in : GoodIn wsX11_of (va_wsS RX11 56 yX11_in wsX11_in) := goodIn_app (goodIn_of _ (by decide +kernel)) ggX11_of_X11_in
set_option maxRecDepth 20000 in
theorem ggX11_of_X11_isOne : GoodIn wsX11_of wsX11_isOne := goodIn_r _ [6, 7, 8, 9, 5, 10, 11, 12, 13, 14, 36, 37, 38, 39, 40, 41, 42, 43, 44, 45, 46, 47, 48, 49, 50, 51, 52, 53] rfl (by decide +kernel)
set_option maxRecDepth 20000 in
theorem gX11_of_X11_isOne : GoodIn wsX11_of (wsV RX11 123 RX11 yX11_isOne wsX11_isOne) := goodIn_app (goodIn_of _ (by decide +kernel)) ggX11_of_X11_isOne
set_option maxRecDepth 20000 in
theorem ggX11_of_X11_toldOf : GoodIn wsX11_of wsX11_toldOf := goodIn_r _ [18, 11, 19, 20, 5, 21, 22, 23, 24, 25, 26, 27, 28, 29, 30, 36, 37, 38, 39, 40, 41, 42, 43, 44, 45, 46, 47, 48, 49, 50, 51, 52, 53] rfl (by decide +kernel)
set_option maxRecDepth 20000 in
theorem gX11_of_X11_toldOf : GoodIn wsX11_of (wsV RX11 134 RX11 yX11_toldOf wsX11_toldOf) := goodIn_app (goodIn_of _ (by decide +kernel)) ggX11_of_X11_toldOf
set_option maxRecDepth 20000 in
theorem ggX11_order_X11_bad : GoodIn wsX11_order wsX11_bad := goodIn_r _ [9, 10, 53, 54, 55, 56, 57, 58, 59, 60, 61, 62, 63, 64, 65, 66, 67, 68, 69, 70] rfl (by decide +kernel)
set_option maxRecDepth 20000 in
theorem gX11_order_X11_bad : GoodIn wsX11_order (wsV RX11 68 RX11 yX11_bad wsX11_bad) := goodIn_app (goodIn_of _ (by decide +kernel)) ggX11_order_X11_bad
set_option maxRecDepth 20000 in
theorem ggX11_order_X11_homeOf : GoodIn wsX11_order wsX11_homeOf := goodIn_r _ [22, 23, 24, 25, 8, 26, 27, 2, 28, 29, 30, 31, 32, 33, 34, 35, 36, 37, 38, 39, 40, 41, 42, 43, 44, 45, 46, 47, 48, 49, 50, 51, 52, 53, 54, 55, 56, 57, 58, 59, 60, 61, 62, 63, 64, 65, 66, 67, 68, 69, 70] rfl (by decide +kernel)
set_option maxRecDepth 20000 in
theorem gX11_order_X11_homeOf : GoodIn wsX11_order (wsV RX11 147 RX11 yX11_homeOf wsX11_homeOf) := goodIn_app (goodIn_of _ (by decide +kernel)) ggX11_order_X11_homeOf
set_option maxRecDepth 20000 in
theorem ggX11_order_X11_isHome : GoodIn wsX11_order wsX11_isHome := goodIn_r _ [34] rfl (by decide +kernel)
set_option maxRecDepth 20000 in
theorem gX11_order_X11_isHome : GoodIn wsX11_order (va_wsS RX11 101 yX11_isHome wsX11_isHome) := goodIn_app (goodIn_of _ (by decide +kernel)) ggX11_order_X11_isHome
set_option maxRecDepth 20000 in
theorem ggX11_order_X11_many : GoodIn wsX11_order wsX11_many := goodIn_r _ [14, 2, 53, 54, 55, 56, 57, 58, 59, 60, 61, 62, 63, 64, 65, 66, 67, 68, 69, 70] rfl (by decide +kernel)
set_option maxRecDepth 20000 in
theorem gX11_order_X11_many : GoodIn wsX11_order (wsV RX11 52 RX11 yX11_many wsX11_many) := goodIn_app (goodIn_of _ (by decide +kernel)) ggX11_order_X11_many
set_option maxRecDepth 20000 in
theorem ggX11_order_X11_no : GoodIn wsX11_order wsX11_no := goodIn_r _ [18, 10, 53, 54, 55, 56, 57, 58, 59, 60, 61, 62, 63, 64, 65, 66, 67, 68, 69, 70] rfl (by decide +kernel)
set_option maxRecDepth 20000 in
theorem gX11_order_X11_no : GoodIn wsX11_order (wsV RX11 129 RX11 yX11_no wsX11_no) := goodIn_app (goodIn_of _ (by decide +kernel)) ggX11_order_X11_no
set_option maxRecDepth 20000 in
theorem ggX11_start_X11_bad : GoodIn wsX11_start wsX11_bad := goodIn_r _ [18, 19, 31, 32, 33, 34, 35, 36, 37, 38, 39, 40, 41, 42, 43, 44, 45, 46, 47, 48] rfl (by decide +kernel)
set_option maxRecDepth 20000 in
theorem gX11_start_X11_bad : GoodIn wsX11_start (wsV RX11 68 RX11 yX11_bad wsX11_bad) := goodIn_app (goodIn_of _ (by decide +kernel)) ggX11_start_X11_bad
set_option maxRecDepth 20000 in
theorem ggX11_start_X11_in : GoodIn wsX11_start wsX11_in := goodIn_r _ [14] rfl (by decide +kernel)
set_option maxRecDepth 20000 in
theorem gX11_start_X11_in : GoodIn wsX11_start (va_wsS RX11 56 yX11_in wsX11_in) := goodIn_app (goodIn_of _ (by decide +kernel)) ggX11_start_X11_in
set_option maxRecDepth 20000 in
theorem ggX11_start_X11_isHome : GoodIn wsX11_start wsX11_isHome := goodIn_r _ [22] rfl (by decide +kernel)
set_option maxRecDepth 20000 in
theorem gX11_start_X11_isHome : GoodIn wsX11_start (va_wsS RX11 101 yX11_isHome wsX11_isHome) := goodIn_app (goodIn_of _ (by decide +kernel)) ggX11_start_X11_isHome
set_option maxRecDepth 20000 in
theorem ggX11_start_X11_isOne : GoodIn wsX11_start wsX11_isOne := goodIn_r _ [7, 8, 9, 10, 6, 11, 2, 12, 13, 14, 31, 32, 33, 34, 35, 36, 37, 38, 39, 40, 41, 42, 43, 44, 45, 46, 47, 48] rfl (by decide +kernel)
set_option maxRecDepth 20000 in
theorem gX11_start_X11_isOne : GoodIn wsX11_start (wsV RX11 123 RX11 yX11_isOne wsX11_isOne) := goodIn_app (goodIn_of _ (by decide +kernel)) ggX11_start_X11_isOne
set_option maxRecDepth 20000 in
theorem ggX11_start_X11_no : GoodIn wsX11_start wsX11_no := goodIn_r _ [26, 19, 31, 32, 33, 34, 35, 36, 37, 38, 39, 40, 41, 42, 43, 44, 45, 46, 47, 48] rfl (by decide +kernel)
set_option maxRecDepth 20000 in
theorem gX11_start_X11_no : GoodIn wsX11_start (wsV RX11 129 RX11 yX11_no wsX11_no) := goodIn_app (goodIn_of _ (by decide +kernel)) ggX11_start_X11_no
set_option maxRecDepth 20000 in
theorem ggX11_start_X11_save : GoodIn wsX11_start wsX11_save := goodIn_r _ [30, 2, 31, 32, 33, 34, 35, 36, 37, 38, 39, 40, 41, 42, 43, 44, 45, 46, 47, 48] rfl (by decide +kernel)
set_option maxRecDepth 20000 in
theorem gX11_start_X11_save : GoodIn wsX11_start (wsV RX11 113 RX11 yX11_save wsX11_save) := goodIn_app (goodIn_of _ (by decide +kernel)) ggX11_start_X11_save
set_option maxRecDepth 20000 in
theorem ggX11_toldOf_X11_isHome : GoodIn wsX11_toldOf wsX11_isHome := goodIn_r _ [5] rfl (by decide +kernel)
set_option maxRecDepth 20000 in
theorem gX11_toldOf_X11_isHome : GoodIn wsX11_toldOf (va_wsS RX11 101 yX11_isHome wsX11_isHome) := goodIn_app (goodIn_of _ (by decide +kernel)) ggX11_toldOf_X11_isHome
set_option maxRecDepth 20000 in
theorem ggX11_toldOf_X11_mayAs : GoodIn wsX11_toldOf wsX11_mayAs := goodIn_r _ [14] rfl (by decide +kernel)
set_option maxRecDepth 20000 in
theorem gX11_toldOf_X11_mayAs : GoodIn wsX11_toldOf (va_wsS RX11 94 yX11_mayAs wsX11_mayAs) := goodIn_app (goodIn_of _ (by decide +kernel)) ggX11_toldOf_X11_mayAs
set_option maxRecDepth 20000 in
theorem ggX11_toldOf_X11_runsOf : GoodIn wsX11_toldOf wsX11_runsOf := goodIn_r _ [8, 9, 10, 4, 11] rfl (by decide +kernel)
set_option maxRecDepth 20000 in
theorem gX11_toldOf_X11_runsOf : GoodIn wsX11_toldOf (va_wsS RX11 90 yX11_runsOf wsX11_runsOf) := goodIn_app (goodIn_of _ (by decide +kernel)) ggX11_toldOf_X11_runsOf
set_option maxRecDepth 20000 in
theorem ggX11_undo_X11_no : GoodIn wsX11_undo wsX11_no := goodIn_r _ [6, 7, 8, 9, 10, 11, 12, 13, 14, 15, 16, 17, 18, 19, 20, 21, 22, 23, 24, 25] rfl (by decide +kernel)
set_option maxRecDepth 20000 in
theorem gX11_undo_X11_no : GoodIn wsX11_undo (wsV RX11 129 RX11 yX11_no wsX11_no) := goodIn_app (goodIn_of _ (by decide +kernel)) ggX11_undo_X11_no
set_option maxRecDepth 20000 in
theorem ggX11_where_X11_bad : GoodIn wsX11_where wsX11_bad := goodIn_r _ [19, 20, 50, 51, 52, 53, 54, 55, 56, 57, 58, 59, 60, 61, 62, 63, 64, 65, 66, 67] rfl (by decide +kernel)
set_option maxRecDepth 20000 in
theorem gX11_where_X11_bad : GoodIn wsX11_where (wsV RX11 68 RX11 yX11_bad wsX11_bad) := goodIn_app (goodIn_of _ (by decide +kernel)) ggX11_where_X11_bad
set_option maxRecDepth 20000 in
theorem ggX11_where_X11_goAhead : GoodIn wsX11_where wsX11_goAhead := goodIn_r _ [28, 2, 29, 30, 6, 31, 32, 33, 34, 35, 36, 37, 38, 39, 40, 41, 42, 43, 44, 45, 46, 47, 48, 49, 50, 51, 52, 53, 54, 55, 56, 57, 58, 59, 60, 61, 62, 63, 64, 65, 66, 67] rfl (by decide +kernel)
set_option maxRecDepth 20000 in
theorem gX11_where_X11_goAhead : GoodIn wsX11_where (wsV RX11 140 RX11 yX11_goAhead wsX11_goAhead) := goodIn_app (goodIn_of _ (by decide +kernel)) ggX11_where_X11_goAhead
set_option maxRecDepth 20000 in
theorem ggX11_where_X11_in : GoodIn wsX11_where wsX11_in := goodIn_r _ [15] rfl (by decide +kernel)
set_option maxRecDepth 20000 in
theorem gX11_where_X11_in : GoodIn wsX11_where (va_wsS RX11 56 yX11_in wsX11_in) := goodIn_app (goodIn_of _ (by decide +kernel)) ggX11_where_X11_in
set_option maxRecDepth 20000 in
theorem ggX11_where_X11_isOne : GoodIn wsX11_where wsX11_isOne := goodIn_r _ [7, 8, 9, 10, 6, 11, 12, 13, 14, 15, 50, 51, 52, 53, 54, 55, 56, 57, 58, 59, 60, 61, 62, 63, 64, 65, 66, 67] rfl (by decide +kernel)
set_option maxRecDepth 20000 in
theorem gX11_where_X11_isOne : GoodIn wsX11_where (wsV RX11 123 RX11 yX11_isOne wsX11_isOne) := goodIn_app (goodIn_of _ (by decide +kernel)) ggX11_where_X11_isOne
set_option maxRecDepth 20000 in
theorem ggX11_where_X11_layHand : GoodIn wsX11_where wsX11_layHand := goodIn_r _ [24, 2, 12, 50, 51, 52, 53, 54, 55, 56, 57, 58, 59, 60, 61, 62, 63, 64, 65, 66, 67] rfl (by decide +kernel)
set_option maxRecDepth 20000 in
theorem gX11_where_X11_layHand : GoodIn wsX11_where (wsV RX11 137 RX11 yX11_layHand wsX11_layHand) := goodIn_app (goodIn_of _ (by decide +kernel)) ggX11_where_X11_layHand
theorem dX11_best_0 : decode cX11_best 0 = .ok (.aload_n 0, 1) := by decide +kernel
theorem dX11_best_1 : decode cX11_best 1 = .ok (.iload_n 1, 1) := by decide +kernel
theorem dX11_best_10 : decode cX11_best 10 = .ok (.lconst 0, 1) := by decide +kernel
theorem dX11_best_102 : decode cX11_best 102 = .ok (.iload_n 3, 1) := by decide +kernel
theorem dX11_best_103 : decode cX11_best 103 = .ok (.iconst (-1), 1) := by decide +kernel
theorem dX11_best_104 : decode cX11_best 104 = .ok (.if_icmp .eq 7, 3) := by decide +kernel
theorem dX11_best_107 : decode cX11_best 107 = .ok (.iload_n 2, 1) := by decide +kernel
theorem dX11_best_108 : decode cX11_best 108 = .ok (.ifCond .ne 7, 3) := by decide +kernel
theorem dX11_best_11 : decode cX11_best 11 = .ok (.lconst 1, 1) := by decide +kernel
theorem dX11_best_111 : decode cX11_best 111 = .ok (.iload_n 3, 1) := by decide +kernel
theorem dX11_best_112 : decode cX11_best 112 = .ok (.goto 5, 3) := by decide +kernel
theorem dX11_best_115 : decode cX11_best 115 = .ok (.iload 4, 2) := by decide +kernel
theorem dX11_best_117 : decode cX11_best 117 = .ok (.ireturn, 1) := by decide +kernel
theorem dX11_best_12 : decode cX11_best 12 = .ok (.invokestatic 56, 3) := by decide +kernel
theorem dX11_best_15 : decode cX11_best 15 = .ok (.ifCond .ne 10, 3) := by decide +kernel
theorem dX11_best_18 : decode cX11_best 18 = .ok (.aload_n 0, 1) := by decide +kernel
theorem dX11_best_19 : decode cX11_best 19 = .ok (.bipush (-2), 2) := by decide +kernel
theorem dX11_best_2 : decode cX11_best 2 = .ok (.invokevirtual 123, 3) := by decide +kernel
theorem dX11_best_21 : decode cX11_best 21 = .ok (.invokevirtual 68, 3) := by decide +kernel
theorem dX11_best_24 : decode cX11_best 24 = .ok (.ireturn, 1) := by decide +kernel
theorem dX11_best_25 : decode cX11_best 25 = .ok (.iconst (-1), 1) := by decide +kernel
theorem dX11_best_26 : decode cX11_best 26 = .ok (.istore_n 3, 1) := by decide +kernel
theorem dX11_best_27 : decode cX11_best 27 = .ok (.ldc 150, 2) := by decide +kernel
theorem dX11_best_29 : decode cX11_best 29 = .ok (.istore 4, 2) := by decide +kernel
theorem dX11_best_31 : decode cX11_best 31 = .ok (.iconst 0, 1) := by decide +kernel
theorem dX11_best_32 : decode cX11_best 32 = .ok (.istore 5, 2) := by decide +kernel
theorem dX11_best_34 : decode cX11_best 34 = .ok (.iload 5, 2) := by decide +kernel
theorem dX11_best_36 : decode cX11_best 36 = .ok (.bipush 10, 2) := by decide +kernel
theorem dX11_best_38 : decode cX11_best 38 = .ok (.if_icmp .ge 64, 3) := by decide +kernel
theorem dX11_best_41 : decode cX11_best 41 = .ok (.aload_n 0, 1) := by decide +kernel
theorem dX11_best_42 : decode cX11_best 42 = .ok (.getfield 7, 3) := by decide +kernel
theorem dX11_best_45 : decode cX11_best 45 = .ok (.iload_n 1, 1) := by decide +kernel
theorem dX11_best_46 : decode cX11_best 46 = .ok (.invokestatic 101, 3) := by decide +kernel
theorem dX11_best_49 : decode cX11_best 49 = .ok (.ifCond .ne 53, 3) := by decide +kernel
theorem dX11_best_5 : decode cX11_best 5 = .ok (.ifCond .eq 13, 3) := by decide +kernel
theorem dX11_best_52 : decode cX11_best 52 = .ok (.aload_n 0, 1) := by decide +kernel
theorem dX11_best_53 : decode cX11_best 53 = .ok (.invokevirtual 137, 3) := by decide +kernel
theorem dX11_best_56 : decode cX11_best 56 = .ok (.aload_n 0, 1) := by decide +kernel
theorem dX11_best_57 : decode cX11_best 57 = .ok (.getfield 27, 3) := by decide +kernel
theorem dX11_best_60 : decode cX11_best 60 = .ok (.bipush 11, 2) := by decide +kernel
theorem dX11_best_62 : decode cX11_best 62 = .ok (.iload_n 1, 1) := by decide +kernel
theorem dX11_best_63 : decode cX11_best 63 = .ok (.iadd, 1) := by decide +kernel
theorem dX11_best_64 : decode cX11_best 64 = .ok (.iload 5, 2) := by decide +kernel
theorem dX11_best_66 : decode cX11_best 66 = .ok (.iastore, 1) := by decide +kernel
theorem dX11_best_67 : decode cX11_best 67 = .ok (.aload_n 0, 1) := by decide +kernel
theorem dX11_best_68 : decode cX11_best 68 = .ok (.iload_n 1, 1) := by decide +kernel
theorem dX11_best_69 : decode cX11_best 69 = .ok (.bipush 60, 2) := by decide +kernel
theorem dX11_best_71 : decode cX11_best 71 = .ok (.invokevirtual 144, 3) := by decide +kernel
theorem dX11_best_74 : decode cX11_best 74 = .ok (.istore 6, 2) := by decide +kernel
theorem dX11_best_76 : decode cX11_best 76 = .ok (.iload 6, 2) := by decide +kernel
theorem dX11_best_78 : decode cX11_best 78 = .ok (.iconst (-1), 1) := by decide +kernel
theorem dX11_best_79 : decode cX11_best 79 = .ok (.if_icmp .eq 17, 3) := by decide +kernel
theorem dX11_best_8 : decode cX11_best 8 = .ok (.iload_n 2, 1) := by decide +kernel
theorem dX11_best_82 : decode cX11_best 82 = .ok (.iload 6, 2) := by decide +kernel
theorem dX11_best_84 : decode cX11_best 84 = .ok (.iload 4, 2) := by decide +kernel
theorem dX11_best_86 : decode cX11_best 86 = .ok (.if_icmp .ge 10, 3) := by decide +kernel
theorem dX11_best_89 : decode cX11_best 89 = .ok (.iload 5, 2) := by decide +kernel
theorem dX11_best_9 : decode cX11_best 9 = .ok (.i2l, 1) := by decide +kernel
theorem dX11_best_91 : decode cX11_best 91 = .ok (.istore_n 3, 1) := by decide +kernel
theorem dX11_best_92 : decode cX11_best 92 = .ok (.iload 6, 2) := by decide +kernel
theorem dX11_best_94 : decode cX11_best 94 = .ok (.istore 4, 2) := by decide +kernel
theorem dX11_best_96 : decode cX11_best 96 = .ok (.iinc 5 1, 3) := by decide +kernel
theorem dX11_best_99 : decode cX11_best 99 = .ok (.goto (-65), 3) := by decide +kernel
theorem dX11_first_0 : decode cX11_first 0 = .ok (.iconst (-1), 1) := by decide +kernel
theorem dX11_first_1 : decode cX11_first 1 = .ok (.istore_n 1, 1) := by decide +kernel
theorem dX11_first_12 : decode cX11_first 12 = .ok (.if_icmp .ge 48, 3) := by decide +kernel
theorem dX11_first_15 : decode cX11_first 15 = .ok (.aload_n 0, 1) := by decide +kernel
theorem dX11_first_16 : decode cX11_first 16 = .ok (.getfield 7, 3) := by decide +kernel
theorem dX11_first_19 : decode cX11_first 19 = .ok (.iload_n 3, 1) := by decide +kernel
theorem dX11_first_2 : decode cX11_first 2 = .ok (.ldc 150, 2) := by decide +kernel
theorem dX11_first_20 : decode cX11_first 20 = .ok (.invokestatic 101, 3) := by decide +kernel
theorem dX11_first_23 : decode cX11_first 23 = .ok (.ifCond .eq 7, 3) := by decide +kernel
theorem dX11_first_26 : decode cX11_first 26 = .ok (.iconst (-1), 1) := by decide +kernel
theorem dX11_first_27 : decode cX11_first 27 = .ok (.goto 8, 3) := by decide +kernel
theorem dX11_first_30 : decode cX11_first 30 = .ok (.aload_n 0, 1) := by decide +kernel
theorem dX11_first_31 : decode cX11_first 31 = .ok (.iload_n 3, 1) := by decide +kernel
theorem dX11_first_32 : decode cX11_first 32 = .ok (.invokevirtual 147, 3) := by decide +kernel
theorem dX11_first_35 : decode cX11_first 35 = .ok (.istore 4, 2) := by decide +kernel
theorem dX11_first_37 : decode cX11_first 37 = .ok (.iload 4, 2) := by decide +kernel
theorem dX11_first_39 : decode cX11_first 39 = .ok (.iconst (-1), 1) := by decide +kernel
theorem dX11_first_4 : decode cX11_first 4 = .ok (.istore_n 2, 1) := by decide +kernel
theorem dX11_first_40 : decode cX11_first 40 = .ok (.if_icmp .eq 14, 3) := by decide +kernel
theorem dX11_first_43 : decode cX11_first 43 = .ok (.iload 4, 2) := by decide +kernel
theorem dX11_first_45 : decode cX11_first 45 = .ok (.iload_n 2, 1) := by decide +kernel
theorem dX11_first_46 : decode cX11_first 46 = .ok (.if_icmp .ge 8, 3) := by decide +kernel
theorem dX11_first_49 : decode cX11_first 49 = .ok (.iload_n 3, 1) := by decide +kernel
theorem dX11_first_5 : decode cX11_first 5 = .ok (.iconst 0, 1) := by decide +kernel
theorem dX11_first_50 : decode cX11_first 50 = .ok (.istore_n 1, 1) := by decide +kernel
theorem dX11_first_51 : decode cX11_first 51 = .ok (.iload 4, 2) := by decide +kernel
theorem dX11_first_53 : decode cX11_first 53 = .ok (.istore_n 2, 1) := by decide +kernel
theorem dX11_first_54 : decode cX11_first 54 = .ok (.iinc 3 1, 3) := by decide +kernel
theorem dX11_first_57 : decode cX11_first 57 = .ok (.goto (-50), 3) := by decide +kernel
theorem dX11_first_6 : decode cX11_first 6 = .ok (.istore_n 3, 1) := by decide +kernel
theorem dX11_first_60 : decode cX11_first 60 = .ok (.iload_n 1, 1) := by decide +kernel
theorem dX11_first_61 : decode cX11_first 61 = .ok (.ireturn, 1) := by decide +kernel
theorem dX11_first_7 : decode cX11_first 7 = .ok (.iload_n 3, 1) := by decide +kernel
theorem dX11_first_8 : decode cX11_first 8 = .ok (.aload_n 0, 1) := by decide +kernel
theorem dX11_first_9 : decode cX11_first 9 = .ok (.invokevirtual 52, 3) := by decide +kernel
theorem dX11_goAhead_0 : decode cX11_goAhead 0 = .ok (.iconst 0, 1) := by decide +kernel
theorem dX11_goAhead_1 : decode cX11_goAhead 1 = .ok (.istore_n 2, 1) := by decide +kernel
theorem dX11_goAhead_11 : decode cX11_goAhead 11 = .ok (.invokestatic 109, 3) := by decide +kernel
theorem dX11_goAhead_14 : decode cX11_goAhead 14 = .ok (.iinc 2 1, 3) := by decide +kernel
theorem dX11_goAhead_17 : decode cX11_goAhead 17 = .ok (.goto (-15), 3) := by decide +kernel
theorem dX11_goAhead_2 : decode cX11_goAhead 2 = .ok (.iload_n 2, 1) := by decide +kernel
theorem dX11_goAhead_20 : decode cX11_goAhead 20 = .ok (.return_, 1) := by decide +kernel
theorem dX11_goAhead_3 : decode cX11_goAhead 3 = .ok (.iload_n 1, 1) := by decide +kernel
theorem dX11_goAhead_4 : decode cX11_goAhead 4 = .ok (.if_icmp .ge 16, 3) := by decide +kernel
theorem dX11_goAhead_7 : decode cX11_goAhead 7 = .ok (.aload_n 0, 1) := by decide +kernel
theorem dX11_goAhead_8 : decode cX11_goAhead 8 = .ok (.getfield 27, 3) := by decide +kernel
theorem dX11_homeAtHand_0 : decode cX11_homeAtHand 0 = .ok (.iconst 0, 1) := by decide +kernel
theorem dX11_homeAtHand_1 : decode cX11_homeAtHand 1 = .ok (.istore_n 3, 1) := by decide +kernel
theorem dX11_homeAtHand_11 : decode cX11_homeAtHand 11 = .ok (.iload_n 1, 1) := by decide +kernel
theorem dX11_homeAtHand_12 : decode cX11_homeAtHand 12 = .ok (.invokestatic 101, 3) := by decide +kernel
theorem dX11_homeAtHand_15 : decode cX11_homeAtHand 15 = .ok (.ifCond .eq 5, 3) := by decide +kernel
theorem dX11_homeAtHand_18 : decode cX11_homeAtHand 18 = .ok (.iload_n 3, 1) := by decide +kernel
theorem dX11_homeAtHand_19 : decode cX11_homeAtHand 19 = .ok (.ireturn, 1) := by decide +kernel
theorem dX11_homeAtHand_2 : decode cX11_homeAtHand 2 = .ok (.iload_n 3, 1) := by decide +kernel
theorem dX11_homeAtHand_20 : decode cX11_homeAtHand 20 = .ok (.aload_n 0, 1) := by decide +kernel
theorem dX11_homeAtHand_21 : decode cX11_homeAtHand 21 = .ok (.getfield 27, 3) := by decide +kernel
theorem dX11_homeAtHand_24 : decode cX11_homeAtHand 24 = .ok (.invokestatic 109, 3) := by decide +kernel
theorem dX11_homeAtHand_27 : decode cX11_homeAtHand 27 = .ok (.iinc 3 1, 3) := by decide +kernel
theorem dX11_homeAtHand_3 : decode cX11_homeAtHand 3 = .ok (.iload_n 2, 1) := by decide +kernel
theorem dX11_homeAtHand_30 : decode cX11_homeAtHand 30 = .ok (.goto (-28), 3) := by decide +kernel
theorem dX11_homeAtHand_33 : decode cX11_homeAtHand 33 = .ok (.iconst (-1), 1) := by decide +kernel
theorem dX11_homeAtHand_34 : decode cX11_homeAtHand 34 = .ok (.ireturn, 1) := by decide +kernel
theorem dX11_homeAtHand_4 : decode cX11_homeAtHand 4 = .ok (.if_icmp .gt 29, 3) := by decide +kernel
theorem dX11_homeAtHand_7 : decode cX11_homeAtHand 7 = .ok (.aload_n 0, 1) := by decide +kernel
theorem dX11_homeAtHand_8 : decode cX11_homeAtHand 8 = .ok (.getfield 27, 3) := by decide +kernel
theorem dX11_homeOf_0 : decode cX11_homeOf 0 = .ok (.aload_n 0, 1) := by decide +kernel
theorem dX11_homeOf_1 : decode cX11_homeOf 1 = .ok (.invokevirtual 137, 3) := by decide +kernel
theorem dX11_homeOf_11 : decode cX11_homeOf 11 = .ok (.ireturn, 1) := by decide +kernel
theorem dX11_homeOf_4 : decode cX11_homeOf 4 = .ok (.aload_n 0, 1) := by decide +kernel
theorem dX11_homeOf_5 : decode cX11_homeOf 5 = .ok (.iload_n 1, 1) := by decide +kernel
theorem dX11_homeOf_6 : decode cX11_homeOf 6 = .ok (.bipush 60, 2) := by decide +kernel
theorem dX11_homeOf_8 : decode cX11_homeOf 8 = .ok (.invokevirtual 144, 3) := by decide +kernel
theorem dX11_home_0 : decode cX11_home 0 = .ok (.aload_n 0, 1) := by decide +kernel
theorem dX11_home_1 : decode cX11_home 1 = .ok (.iload_n 1, 1) := by decide +kernel
theorem dX11_home_10 : decode cX11_home 10 = .ok (.invokevirtual 147, 3) := by decide +kernel
theorem dX11_home_13 : decode cX11_home 13 = .ok (.goto 9, 3) := by decide +kernel
theorem dX11_home_16 : decode cX11_home 16 = .ok (.aload_n 0, 1) := by decide +kernel
theorem dX11_home_17 : decode cX11_home 17 = .ok (.bipush (-2), 2) := by decide +kernel
theorem dX11_home_19 : decode cX11_home 19 = .ok (.invokevirtual 68, 3) := by decide +kernel
theorem dX11_home_2 : decode cX11_home 2 = .ok (.invokevirtual 123, 3) := by decide +kernel
theorem dX11_home_22 : decode cX11_home 22 = .ok (.ireturn, 1) := by decide +kernel
theorem dX11_home_5 : decode cX11_home 5 = .ok (.ifCond .eq 11, 3) := by decide +kernel
theorem dX11_home_8 : decode cX11_home 8 = .ok (.aload_n 0, 1) := by decide +kernel
theorem dX11_home_9 : decode cX11_home 9 = .ok (.iload_n 1, 1) := by decide +kernel
theorem dX11_layHand_0 : decode cX11_layHand 0 = .ok (.iconst 0, 1) := by decide +kernel
theorem dX11_layHand_1 : decode cX11_layHand 1 = .ok (.istore_n 1, 1) := by decide +kernel
theorem dX11_layHand_12 : decode cX11_layHand 12 = .ok (.iload_n 1, 1) := by decide +kernel
theorem dX11_layHand_13 : decode cX11_layHand 13 = .ok (.aload_n 0, 1) := by decide +kernel
theorem dX11_layHand_14 : decode cX11_layHand 14 = .ok (.getfield 7, 3) := by decide +kernel
theorem dX11_layHand_17 : decode cX11_layHand 17 = .ok (.iload_n 1, 1) := by decide +kernel
theorem dX11_layHand_18 : decode cX11_layHand 18 = .ok (.iaload, 1) := by decide +kernel
theorem dX11_layHand_19 : decode cX11_layHand 19 = .ok (.iastore, 1) := by decide +kernel
theorem dX11_layHand_2 : decode cX11_layHand 2 = .ok (.iload_n 1, 1) := by decide +kernel
theorem dX11_layHand_20 : decode cX11_layHand 20 = .ok (.iinc 1 1, 3) := by decide +kernel
theorem dX11_layHand_23 : decode cX11_layHand 23 = .ok (.goto (-21), 3) := by decide +kernel
theorem dX11_layHand_26 : decode cX11_layHand 26 = .ok (.return_, 1) := by decide +kernel
theorem dX11_layHand_3 : decode cX11_layHand 3 = .ok (.bipush 55, 2) := by decide +kernel
theorem dX11_layHand_5 : decode cX11_layHand 5 = .ok (.if_icmp .ge 21, 3) := by decide +kernel
theorem dX11_layHand_8 : decode cX11_layHand 8 = .ok (.aload_n 0, 1) := by decide +kernel
theorem dX11_layHand_9 : decode cX11_layHand 9 = .ok (.getfield 27, 3) := by decide +kernel
theorem dX11_of_0 : decode cX11_of 0 = .ok (.aload_n 0, 1) := by decide +kernel
theorem dX11_of_1 : decode cX11_of 1 = .ok (.iload_n 1, 1) := by decide +kernel
theorem dX11_of_10 : decode cX11_of 10 = .ok (.lconst 0, 1) := by decide +kernel
theorem dX11_of_11 : decode cX11_of 11 = .ok (.ldc2_w 62, 3) := by decide +kernel
theorem dX11_of_14 : decode cX11_of 14 = .ok (.invokestatic 56, 3) := by decide +kernel
theorem dX11_of_17 : decode cX11_of 17 = .ok (.ifCond .eq 12, 3) := by decide +kernel
theorem dX11_of_2 : decode cX11_of 2 = .ok (.invokevirtual 123, 3) := by decide +kernel
theorem dX11_of_20 : decode cX11_of 20 = .ok (.aload_n 0, 1) := by decide +kernel
theorem dX11_of_21 : decode cX11_of 21 = .ok (.iload_n 1, 1) := by decide +kernel
theorem dX11_of_22 : decode cX11_of 22 = .ok (.iload_n 2, 1) := by decide +kernel
theorem dX11_of_23 : decode cX11_of 23 = .ok (.invokevirtual 134, 3) := by decide +kernel
theorem dX11_of_26 : decode cX11_of 26 = .ok (.goto 9, 3) := by decide +kernel
theorem dX11_of_29 : decode cX11_of 29 = .ok (.aload_n 0, 1) := by decide +kernel
theorem dX11_of_30 : decode cX11_of 30 = .ok (.bipush (-2), 2) := by decide +kernel
theorem dX11_of_32 : decode cX11_of 32 = .ok (.invokevirtual 68, 3) := by decide +kernel
theorem dX11_of_35 : decode cX11_of 35 = .ok (.ireturn, 1) := by decide +kernel
theorem dX11_of_5 : decode cX11_of 5 = .ok (.ifCond .eq 24, 3) := by decide +kernel
theorem dX11_of_8 : decode cX11_of 8 = .ok (.iload_n 2, 1) := by decide +kernel
theorem dX11_of_9 : decode cX11_of 9 = .ok (.i2l, 1) := by decide +kernel
theorem dX11_order_0 : decode cX11_order 0 = .ok (.iload_n 1, 1) := by decide +kernel
theorem dX11_order_1 : decode cX11_order 1 = .ok (.ifCond .ge 10, 3) := by decide +kernel
theorem dX11_order_10 : decode cX11_order 10 = .ok (.ireturn, 1) := by decide +kernel
theorem dX11_order_100 : decode cX11_order 100 = .ok (.istore_n 3, 1) := by decide +kernel
theorem dX11_order_101 : decode cX11_order 101 = .ok (.iconst 0, 1) := by decide +kernel
theorem dX11_order_102 : decode cX11_order 102 = .ok (.istore 4, 2) := by decide +kernel
theorem dX11_order_104 : decode cX11_order 104 = .ok (.iload 4, 2) := by decide +kernel
theorem dX11_order_106 : decode cX11_order 106 = .ok (.aload_n 0, 1) := by decide +kernel
theorem dX11_order_107 : decode cX11_order 107 = .ok (.invokevirtual 52, 3) := by decide +kernel
theorem dX11_order_11 : decode cX11_order 11 = .ok (.iload_n 1, 1) := by decide +kernel
theorem dX11_order_110 : decode cX11_order 110 = .ok (.if_icmp .ge 55, 3) := by decide +kernel
theorem dX11_order_113 : decode cX11_order 113 = .ok (.iload_n 3, 1) := by decide +kernel
theorem dX11_order_114 : decode cX11_order 114 = .ok (.aload_n 0, 1) := by decide +kernel
theorem dX11_order_115 : decode cX11_order 115 = .ok (.getfield 30, 3) := by decide +kernel
theorem dX11_order_118 : decode cX11_order 118 = .ok (.iload 4, 2) := by decide +kernel
theorem dX11_order_12 : decode cX11_order 12 = .ok (.aload_n 0, 1) := by decide +kernel
theorem dX11_order_120 : decode cX11_order 120 = .ok (.iaload, 1) := by decide +kernel
theorem dX11_order_121 : decode cX11_order 121 = .ok (.aload_n 0, 1) := by decide +kernel
theorem dX11_order_122 : decode cX11_order 122 = .ok (.getfield 30, 3) := by decide +kernel
theorem dX11_order_125 : decode cX11_order 125 = .ok (.iload_n 2, 1) := by decide +kernel
theorem dX11_order_126 : decode cX11_order 126 = .ok (.iaload, 1) := by decide +kernel
theorem dX11_order_127 : decode cX11_order 127 = .ok (.if_icmp .lt 25, 3) := by decide +kernel
theorem dX11_order_13 : decode cX11_order 13 = .ok (.invokevirtual 52, 3) := by decide +kernel
theorem dX11_order_130 : decode cX11_order 130 = .ok (.aload_n 0, 1) := by decide +kernel
theorem dX11_order_131 : decode cX11_order 131 = .ok (.getfield 30, 3) := by decide +kernel
theorem dX11_order_134 : decode cX11_order 134 = .ok (.iload 4, 2) := by decide +kernel
theorem dX11_order_136 : decode cX11_order 136 = .ok (.iaload, 1) := by decide +kernel
theorem dX11_order_137 : decode cX11_order 137 = .ok (.aload_n 0, 1) := by decide +kernel
theorem dX11_order_138 : decode cX11_order 138 = .ok (.getfield 30, 3) := by decide +kernel
theorem dX11_order_141 : decode cX11_order 141 = .ok (.iload_n 2, 1) := by decide +kernel
theorem dX11_order_142 : decode cX11_order 142 = .ok (.iaload, 1) := by decide +kernel
theorem dX11_order_143 : decode cX11_order 143 = .ok (.if_icmp .ne 13, 3) := by decide +kernel
theorem dX11_order_146 : decode cX11_order 146 = .ok (.iload 4, 2) := by decide +kernel
theorem dX11_order_148 : decode cX11_order 148 = .ok (.iload_n 2, 1) := by decide +kernel
theorem dX11_order_149 : decode cX11_order 149 = .ok (.if_icmp .ge 7, 3) := by decide +kernel
theorem dX11_order_152 : decode cX11_order 152 = .ok (.iconst 1, 1) := by decide +kernel
theorem dX11_order_153 : decode cX11_order 153 = .ok (.goto 4, 3) := by decide +kernel
theorem dX11_order_156 : decode cX11_order 156 = .ok (.iconst 0, 1) := by decide +kernel
theorem dX11_order_157 : decode cX11_order 157 = .ok (.iadd, 1) := by decide +kernel
theorem dX11_order_158 : decode cX11_order 158 = .ok (.istore_n 3, 1) := by decide +kernel
theorem dX11_order_159 : decode cX11_order 159 = .ok (.iinc 4 1, 3) := by decide +kernel
theorem dX11_order_16 : decode cX11_order 16 = .ok (.if_icmp .lt 8, 3) := by decide +kernel
theorem dX11_order_162 : decode cX11_order 162 = .ok (.goto (-58), 3) := by decide +kernel
theorem dX11_order_165 : decode cX11_order 165 = .ok (.iload_n 3, 1) := by decide +kernel
theorem dX11_order_166 : decode cX11_order 166 = .ok (.iload_n 1, 1) := by decide +kernel
theorem dX11_order_167 : decode cX11_order 167 = .ok (.if_icmp .ne 5, 3) := by decide +kernel
theorem dX11_order_170 : decode cX11_order 170 = .ok (.iload_n 2, 1) := by decide +kernel
theorem dX11_order_171 : decode cX11_order 171 = .ok (.ireturn, 1) := by decide +kernel
theorem dX11_order_172 : decode cX11_order 172 = .ok (.iinc 2 1, 3) := by decide +kernel
theorem dX11_order_175 : decode cX11_order 175 = .ok (.goto (-84), 3) := by decide +kernel
theorem dX11_order_178 : decode cX11_order 178 = .ok (.iconst (-1), 1) := by decide +kernel
theorem dX11_order_179 : decode cX11_order 179 = .ok (.ireturn, 1) := by decide +kernel
theorem dX11_order_19 : decode cX11_order 19 = .ok (.aload_n 0, 1) := by decide +kernel
theorem dX11_order_20 : decode cX11_order 20 = .ok (.invokevirtual 129, 3) := by decide +kernel
theorem dX11_order_23 : decode cX11_order 23 = .ok (.ireturn, 1) := by decide +kernel
theorem dX11_order_24 : decode cX11_order 24 = .ok (.iconst 0, 1) := by decide +kernel
theorem dX11_order_25 : decode cX11_order 25 = .ok (.istore_n 2, 1) := by decide +kernel
theorem dX11_order_26 : decode cX11_order 26 = .ok (.iload_n 2, 1) := by decide +kernel
theorem dX11_order_27 : decode cX11_order 27 = .ok (.aload_n 0, 1) := by decide +kernel
theorem dX11_order_28 : decode cX11_order 28 = .ok (.invokevirtual 52, 3) := by decide +kernel
theorem dX11_order_31 : decode cX11_order 31 = .ok (.if_icmp .ge 58, 3) := by decide +kernel
theorem dX11_order_34 : decode cX11_order 34 = .ok (.aload_n 0, 1) := by decide +kernel
theorem dX11_order_35 : decode cX11_order 35 = .ok (.iload_n 2, 1) := by decide +kernel
theorem dX11_order_36 : decode cX11_order 36 = .ok (.invokevirtual 147, 3) := by decide +kernel
theorem dX11_order_39 : decode cX11_order 39 = .ok (.istore_n 3, 1) := by decide +kernel
theorem dX11_order_4 : decode cX11_order 4 = .ok (.aload_n 0, 1) := by decide +kernel
theorem dX11_order_40 : decode cX11_order 40 = .ok (.aload_n 0, 1) := by decide +kernel
theorem dX11_order_41 : decode cX11_order 41 = .ok (.getfield 30, 3) := by decide +kernel
theorem dX11_order_44 : decode cX11_order 44 = .ok (.iload_n 2, 1) := by decide +kernel
theorem dX11_order_45 : decode cX11_order 45 = .ok (.aload_n 0, 1) := by decide +kernel
theorem dX11_order_46 : decode cX11_order 46 = .ok (.getfield 7, 3) := by decide +kernel
theorem dX11_order_49 : decode cX11_order 49 = .ok (.iload_n 2, 1) := by decide +kernel
theorem dX11_order_5 : decode cX11_order 5 = .ok (.bipush (-2), 2) := by decide +kernel
theorem dX11_order_50 : decode cX11_order 50 = .ok (.invokestatic 101, 3) := by decide +kernel
theorem dX11_order_53 : decode cX11_order 53 = .ok (.ifCond .eq 15, 3) := by decide +kernel
theorem dX11_order_56 : decode cX11_order 56 = .ok (.aload_n 0, 1) := by decide +kernel
theorem dX11_order_57 : decode cX11_order 57 = .ok (.getfield 7, 3) := by decide +kernel
theorem dX11_order_60 : decode cX11_order 60 = .ok (.bipush 29, 2) := by decide +kernel
theorem dX11_order_62 : decode cX11_order 62 = .ok (.iload_n 2, 1) := by decide +kernel
theorem dX11_order_63 : decode cX11_order 63 = .ok (.iadd, 1) := by decide +kernel
theorem dX11_order_64 : decode cX11_order 64 = .ok (.iaload, 1) := by decide +kernel
theorem dX11_order_65 : decode cX11_order 65 = .ok (.goto 17, 3) := by decide +kernel
theorem dX11_order_68 : decode cX11_order 68 = .ok (.iload_n 3, 1) := by decide +kernel
theorem dX11_order_69 : decode cX11_order 69 = .ok (.iconst (-1), 1) := by decide +kernel
theorem dX11_order_7 : decode cX11_order 7 = .ok (.invokevirtual 68, 3) := by decide +kernel
theorem dX11_order_70 : decode cX11_order 70 = .ok (.if_icmp .ne 8, 3) := by decide +kernel
theorem dX11_order_73 : decode cX11_order 73 = .ok (.ldc 151, 2) := by decide +kernel
theorem dX11_order_75 : decode cX11_order 75 = .ok (.goto 7, 3) := by decide +kernel
theorem dX11_order_78 : decode cX11_order 78 = .ok (.ldc 150, 2) := by decide +kernel
theorem dX11_order_80 : decode cX11_order 80 = .ok (.iload_n 3, 1) := by decide +kernel
theorem dX11_order_81 : decode cX11_order 81 = .ok (.iadd, 1) := by decide +kernel
theorem dX11_order_82 : decode cX11_order 82 = .ok (.iastore, 1) := by decide +kernel
theorem dX11_order_83 : decode cX11_order 83 = .ok (.iinc 2 1, 3) := by decide +kernel
theorem dX11_order_86 : decode cX11_order 86 = .ok (.goto (-60), 3) := by decide +kernel
theorem dX11_order_89 : decode cX11_order 89 = .ok (.iconst 0, 1) := by decide +kernel
theorem dX11_order_90 : decode cX11_order 90 = .ok (.istore_n 2, 1) := by decide +kernel
theorem dX11_order_91 : decode cX11_order 91 = .ok (.iload_n 2, 1) := by decide +kernel
theorem dX11_order_92 : decode cX11_order 92 = .ok (.aload_n 0, 1) := by decide +kernel
theorem dX11_order_93 : decode cX11_order 93 = .ok (.invokevirtual 52, 3) := by decide +kernel
theorem dX11_order_96 : decode cX11_order 96 = .ok (.if_icmp .ge 82, 3) := by decide +kernel
theorem dX11_order_99 : decode cX11_order 99 = .ok (.iconst 0, 1) := by decide +kernel
theorem dX11_start_0 : decode cX11_start 0 = .ok (.aload_n 0, 1) := by decide +kernel
theorem dX11_start_1 : decode cX11_start 1 = .ok (.iload_n 1, 1) := by decide +kernel
theorem dX11_start_10 : decode cX11_start 10 = .ok (.lconst 1, 1) := by decide +kernel
theorem dX11_start_11 : decode cX11_start 11 = .ok (.ldc2_w 132, 3) := by decide +kernel
theorem dX11_start_14 : decode cX11_start 14 = .ok (.invokestatic 56, 3) := by decide +kernel
theorem dX11_start_17 : decode cX11_start 17 = .ok (.ifCond .ne 10, 3) := by decide +kernel
theorem dX11_start_2 : decode cX11_start 2 = .ok (.invokevirtual 123, 3) := by decide +kernel
theorem dX11_start_20 : decode cX11_start 20 = .ok (.aload_n 0, 1) := by decide +kernel
theorem dX11_start_21 : decode cX11_start 21 = .ok (.bipush (-2), 2) := by decide +kernel
theorem dX11_start_23 : decode cX11_start 23 = .ok (.invokevirtual 68, 3) := by decide +kernel
theorem dX11_start_26 : decode cX11_start 26 = .ok (.ireturn, 1) := by decide +kernel
theorem dX11_start_27 : decode cX11_start 27 = .ok (.aload_n 0, 1) := by decide +kernel
theorem dX11_start_28 : decode cX11_start 28 = .ok (.getfield 7, 3) := by decide +kernel
theorem dX11_start_31 : decode cX11_start 31 = .ok (.iload_n 1, 1) := by decide +kernel
theorem dX11_start_32 : decode cX11_start 32 = .ok (.invokestatic 101, 3) := by decide +kernel
theorem dX11_start_35 : decode cX11_start 35 = .ok (.ifCond .ne 23, 3) := by decide +kernel
theorem dX11_start_38 : decode cX11_start 38 = .ok (.aload_n 0, 1) := by decide +kernel
theorem dX11_start_39 : decode cX11_start 39 = .ok (.getfield 7, 3) := by decide +kernel
theorem dX11_start_42 : decode cX11_start 42 = .ok (.iconst 5, 1) := by decide +kernel
theorem dX11_start_43 : decode cX11_start 43 = .ok (.iload_n 1, 1) := by decide +kernel
theorem dX11_start_44 : decode cX11_start 44 = .ok (.iadd, 1) := by decide +kernel
theorem dX11_start_45 : decode cX11_start 45 = .ok (.iaload, 1) := by decide +kernel
theorem dX11_start_46 : decode cX11_start 46 = .ok (.iload_n 2, 1) := by decide +kernel
theorem dX11_start_47 : decode cX11_start 47 = .ok (.iadd, 1) := by decide +kernel
theorem dX11_start_48 : decode cX11_start 48 = .ok (.aload_n 0, 1) := by decide +kernel
theorem dX11_start_49 : decode cX11_start 49 = .ok (.getfield 7, 3) := by decide +kernel
theorem dX11_start_5 : decode cX11_start 5 = .ok (.ifCond .eq 15, 3) := by decide +kernel
theorem dX11_start_52 : decode cX11_start 52 = .ok (.bipush 36, 2) := by decide +kernel
theorem dX11_start_54 : decode cX11_start 54 = .ok (.iaload, 1) := by decide +kernel
theorem dX11_start_55 : decode cX11_start 55 = .ok (.if_icmp .lt 8, 3) := by decide +kernel
theorem dX11_start_58 : decode cX11_start 58 = .ok (.aload_n 0, 1) := by decide +kernel
theorem dX11_start_59 : decode cX11_start 59 = .ok (.invokevirtual 129, 3) := by decide +kernel
theorem dX11_start_62 : decode cX11_start 62 = .ok (.ireturn, 1) := by decide +kernel
theorem dX11_start_63 : decode cX11_start 63 = .ok (.aload_n 0, 1) := by decide +kernel
theorem dX11_start_64 : decode cX11_start 64 = .ok (.invokevirtual 113, 3) := by decide +kernel
theorem dX11_start_67 : decode cX11_start 67 = .ok (.aload_n 0, 1) := by decide +kernel
theorem dX11_start_68 : decode cX11_start 68 = .ok (.getfield 7, 3) := by decide +kernel
theorem dX11_start_71 : decode cX11_start 71 = .ok (.iconst 5, 1) := by decide +kernel
theorem dX11_start_72 : decode cX11_start 72 = .ok (.iload_n 1, 1) := by decide +kernel
theorem dX11_start_73 : decode cX11_start 73 = .ok (.iadd, 1) := by decide +kernel
theorem dX11_start_74 : decode cX11_start 74 = .ok (.dup2, 1) := by decide +kernel
theorem dX11_start_75 : decode cX11_start 75 = .ok (.iaload, 1) := by decide +kernel
theorem dX11_start_76 : decode cX11_start 76 = .ok (.iload_n 2, 1) := by decide +kernel
theorem dX11_start_77 : decode cX11_start 77 = .ok (.iadd, 1) := by decide +kernel
theorem dX11_start_78 : decode cX11_start 78 = .ok (.iastore, 1) := by decide +kernel
theorem dX11_start_79 : decode cX11_start 79 = .ok (.aload_n 0, 1) := by decide +kernel
theorem dX11_start_8 : decode cX11_start 8 = .ok (.iload_n 2, 1) := by decide +kernel
theorem dX11_start_80 : decode cX11_start 80 = .ok (.getfield 7, 3) := by decide +kernel
theorem dX11_start_83 : decode cX11_start 83 = .ok (.iconst 5, 1) := by decide +kernel
theorem dX11_start_84 : decode cX11_start 84 = .ok (.iload_n 1, 1) := by decide +kernel
theorem dX11_start_85 : decode cX11_start 85 = .ok (.iadd, 1) := by decide +kernel
theorem dX11_start_86 : decode cX11_start 86 = .ok (.iaload, 1) := by decide +kernel
theorem dX11_start_87 : decode cX11_start 87 = .ok (.ireturn, 1) := by decide +kernel
theorem dX11_start_9 : decode cX11_start 9 = .ok (.i2l, 1) := by decide +kernel
theorem dX11_toldOf_0 : decode cX11_toldOf 0 = .ok (.iload_n 2, 1) := by decide +kernel
theorem dX11_toldOf_1 : decode cX11_toldOf 1 = .ok (.tableswitch 163 0 8 #[51, 61, 71, 81, 91, 100, 110, 120, 145], 51) := by decide +kernel
theorem dX11_toldOf_100 : decode cX11_toldOf 100 = .ok (.ireturn, 1) := by decide +kernel
theorem dX11_toldOf_101 : decode cX11_toldOf 101 = .ok (.aload_n 0, 1) := by decide +kernel
theorem dX11_toldOf_102 : decode cX11_toldOf 102 = .ok (.getfield 7, 3) := by decide +kernel
theorem dX11_toldOf_105 : decode cX11_toldOf 105 = .ok (.bipush 17, 2) := by decide +kernel
theorem dX11_toldOf_107 : decode cX11_toldOf 107 = .ok (.iload_n 1, 1) := by decide +kernel
theorem dX11_toldOf_108 : decode cX11_toldOf 108 = .ok (.iadd, 1) := by decide +kernel
theorem dX11_toldOf_109 : decode cX11_toldOf 109 = .ok (.iaload, 1) := by decide +kernel
theorem dX11_toldOf_110 : decode cX11_toldOf 110 = .ok (.ireturn, 1) := by decide +kernel
theorem dX11_toldOf_111 : decode cX11_toldOf 111 = .ok (.aload_n 0, 1) := by decide +kernel
theorem dX11_toldOf_112 : decode cX11_toldOf 112 = .ok (.getfield 7, 3) := by decide +kernel
theorem dX11_toldOf_115 : decode cX11_toldOf 115 = .ok (.bipush 23, 2) := by decide +kernel
theorem dX11_toldOf_117 : decode cX11_toldOf 117 = .ok (.iload_n 1, 1) := by decide +kernel
theorem dX11_toldOf_118 : decode cX11_toldOf 118 = .ok (.iadd, 1) := by decide +kernel
theorem dX11_toldOf_119 : decode cX11_toldOf 119 = .ok (.iaload, 1) := by decide +kernel
theorem dX11_toldOf_120 : decode cX11_toldOf 120 = .ok (.ireturn, 1) := by decide +kernel
theorem dX11_toldOf_121 : decode cX11_toldOf 121 = .ok (.aload_n 0, 1) := by decide +kernel
theorem dX11_toldOf_122 : decode cX11_toldOf 122 = .ok (.getfield 7, 3) := by decide +kernel
theorem dX11_toldOf_125 : decode cX11_toldOf 125 = .ok (.iload_n 1, 1) := by decide +kernel
theorem dX11_toldOf_126 : decode cX11_toldOf 126 = .ok (.invokestatic 101, 3) := by decide +kernel
theorem dX11_toldOf_129 : decode cX11_toldOf 129 = .ok (.ifCond .eq 15, 3) := by decide +kernel
theorem dX11_toldOf_132 : decode cX11_toldOf 132 = .ok (.aload_n 0, 1) := by decide +kernel
theorem dX11_toldOf_133 : decode cX11_toldOf 133 = .ok (.getfield 7, 3) := by decide +kernel
theorem dX11_toldOf_136 : decode cX11_toldOf 136 = .ok (.bipush 29, 2) := by decide +kernel
theorem dX11_toldOf_138 : decode cX11_toldOf 138 = .ok (.iload_n 1, 1) := by decide +kernel
theorem dX11_toldOf_139 : decode cX11_toldOf 139 = .ok (.iadd, 1) := by decide +kernel
theorem dX11_toldOf_140 : decode cX11_toldOf 140 = .ok (.iaload, 1) := by decide +kernel
theorem dX11_toldOf_141 : decode cX11_toldOf 141 = .ok (.goto 4, 3) := by decide +kernel
theorem dX11_toldOf_144 : decode cX11_toldOf 144 = .ok (.iconst (-1), 1) := by decide +kernel
theorem dX11_toldOf_145 : decode cX11_toldOf 145 = .ok (.ireturn, 1) := by decide +kernel
theorem dX11_toldOf_146 : decode cX11_toldOf 146 = .ok (.aload_n 0, 1) := by decide +kernel
theorem dX11_toldOf_147 : decode cX11_toldOf 147 = .ok (.getfield 7, 3) := by decide +kernel
theorem dX11_toldOf_150 : decode cX11_toldOf 150 = .ok (.iload_n 1, 1) := by decide +kernel
theorem dX11_toldOf_151 : decode cX11_toldOf 151 = .ok (.aload_n 0, 1) := by decide +kernel
theorem dX11_toldOf_152 : decode cX11_toldOf 152 = .ok (.getfield 7, 3) := by decide +kernel
theorem dX11_toldOf_155 : decode cX11_toldOf 155 = .ok (.bipush 35, 2) := by decide +kernel
theorem dX11_toldOf_157 : decode cX11_toldOf 157 = .ok (.iaload, 1) := by decide +kernel
theorem dX11_toldOf_158 : decode cX11_toldOf 158 = .ok (.iconst 1, 1) := by decide +kernel
theorem dX11_toldOf_159 : decode cX11_toldOf 159 = .ok (.iadd, 1) := by decide +kernel
theorem dX11_toldOf_160 : decode cX11_toldOf 160 = .ok (.invokestatic 90, 3) := by decide +kernel
theorem dX11_toldOf_163 : decode cX11_toldOf 163 = .ok (.ireturn, 1) := by decide +kernel
theorem dX11_toldOf_164 : decode cX11_toldOf 164 = .ok (.aload_n 0, 1) := by decide +kernel
theorem dX11_toldOf_165 : decode cX11_toldOf 165 = .ok (.getfield 7, 3) := by decide +kernel
theorem dX11_toldOf_168 : decode cX11_toldOf 168 = .ok (.bipush 49, 2) := by decide +kernel
theorem dX11_toldOf_170 : decode cX11_toldOf 170 = .ok (.iload_n 1, 1) := by decide +kernel
theorem dX11_toldOf_171 : decode cX11_toldOf 171 = .ok (.iadd, 1) := by decide +kernel
theorem dX11_toldOf_172 : decode cX11_toldOf 172 = .ok (.iaload, 1) := by decide +kernel
theorem dX11_toldOf_173 : decode cX11_toldOf 173 = .ok (.aload_n 0, 1) := by decide +kernel
theorem dX11_toldOf_174 : decode cX11_toldOf 174 = .ok (.getfield 7, 3) := by decide +kernel
theorem dX11_toldOf_177 : decode cX11_toldOf 177 = .ok (.bipush 35, 2) := by decide +kernel
theorem dX11_toldOf_179 : decode cX11_toldOf 179 = .ok (.iaload, 1) := by decide +kernel
theorem dX11_toldOf_180 : decode cX11_toldOf 180 = .ok (.iconst 1, 1) := by decide +kernel
theorem dX11_toldOf_181 : decode cX11_toldOf 181 = .ok (.iadd, 1) := by decide +kernel
theorem dX11_toldOf_182 : decode cX11_toldOf 182 = .ok (.invokestatic 94, 3) := by decide +kernel
theorem dX11_toldOf_185 : decode cX11_toldOf 185 = .ok (.ireturn, 1) := by decide +kernel
theorem dX11_toldOf_52 : decode cX11_toldOf 52 = .ok (.aload_n 0, 1) := by decide +kernel
theorem dX11_toldOf_53 : decode cX11_toldOf 53 = .ok (.getfield 7, 3) := by decide +kernel
theorem dX11_toldOf_56 : decode cX11_toldOf 56 = .ok (.bipush 37, 2) := by decide +kernel
theorem dX11_toldOf_58 : decode cX11_toldOf 58 = .ok (.iload_n 1, 1) := by decide +kernel
theorem dX11_toldOf_59 : decode cX11_toldOf 59 = .ok (.iadd, 1) := by decide +kernel
theorem dX11_toldOf_60 : decode cX11_toldOf 60 = .ok (.iaload, 1) := by decide +kernel
theorem dX11_toldOf_61 : decode cX11_toldOf 61 = .ok (.ireturn, 1) := by decide +kernel
theorem dX11_toldOf_62 : decode cX11_toldOf 62 = .ok (.aload_n 0, 1) := by decide +kernel
theorem dX11_toldOf_63 : decode cX11_toldOf 63 = .ok (.getfield 7, 3) := by decide +kernel
theorem dX11_toldOf_66 : decode cX11_toldOf 66 = .ok (.bipush 43, 2) := by decide +kernel
theorem dX11_toldOf_68 : decode cX11_toldOf 68 = .ok (.iload_n 1, 1) := by decide +kernel
theorem dX11_toldOf_69 : decode cX11_toldOf 69 = .ok (.iadd, 1) := by decide +kernel
theorem dX11_toldOf_70 : decode cX11_toldOf 70 = .ok (.iaload, 1) := by decide +kernel
theorem dX11_toldOf_71 : decode cX11_toldOf 71 = .ok (.ireturn, 1) := by decide +kernel
theorem dX11_toldOf_72 : decode cX11_toldOf 72 = .ok (.aload_n 0, 1) := by decide +kernel
theorem dX11_toldOf_73 : decode cX11_toldOf 73 = .ok (.getfield 7, 3) := by decide +kernel
theorem dX11_toldOf_76 : decode cX11_toldOf 76 = .ok (.bipush 49, 2) := by decide +kernel
theorem dX11_toldOf_78 : decode cX11_toldOf 78 = .ok (.iload_n 1, 1) := by decide +kernel
theorem dX11_toldOf_79 : decode cX11_toldOf 79 = .ok (.iadd, 1) := by decide +kernel
theorem dX11_toldOf_80 : decode cX11_toldOf 80 = .ok (.iaload, 1) := by decide +kernel
theorem dX11_toldOf_81 : decode cX11_toldOf 81 = .ok (.ireturn, 1) := by decide +kernel
theorem dX11_toldOf_82 : decode cX11_toldOf 82 = .ok (.aload_n 0, 1) := by decide +kernel
theorem dX11_toldOf_83 : decode cX11_toldOf 83 = .ok (.getfield 7, 3) := by decide +kernel
theorem dX11_toldOf_86 : decode cX11_toldOf 86 = .ok (.bipush 11, 2) := by decide +kernel
theorem dX11_toldOf_88 : decode cX11_toldOf 88 = .ok (.iload_n 1, 1) := by decide +kernel
theorem dX11_toldOf_89 : decode cX11_toldOf 89 = .ok (.iadd, 1) := by decide +kernel
theorem dX11_toldOf_90 : decode cX11_toldOf 90 = .ok (.iaload, 1) := by decide +kernel
theorem dX11_toldOf_91 : decode cX11_toldOf 91 = .ok (.ireturn, 1) := by decide +kernel
theorem dX11_toldOf_92 : decode cX11_toldOf 92 = .ok (.aload_n 0, 1) := by decide +kernel
theorem dX11_toldOf_93 : decode cX11_toldOf 93 = .ok (.getfield 7, 3) := by decide +kernel
theorem dX11_toldOf_96 : decode cX11_toldOf 96 = .ok (.iconst 5, 1) := by decide +kernel
theorem dX11_toldOf_97 : decode cX11_toldOf 97 = .ok (.iload_n 1, 1) := by decide +kernel
theorem dX11_toldOf_98 : decode cX11_toldOf 98 = .ok (.iadd, 1) := by decide +kernel
theorem dX11_toldOf_99 : decode cX11_toldOf 99 = .ok (.iaload, 1) := by decide +kernel
theorem dX11_undo_0 : decode cX11_undo 0 = .ok (.aload_n 0, 1) := by decide +kernel
theorem dX11_undo_1 : decode cX11_undo 1 = .ok (.getfield 7, 3) := by decide +kernel
theorem dX11_undo_10 : decode cX11_undo 10 = .ok (.invokevirtual 129, 3) := by decide +kernel
theorem dX11_undo_13 : decode cX11_undo 13 = .ok (.ireturn, 1) := by decide +kernel
theorem dX11_undo_14 : decode cX11_undo 14 = .ok (.aload_n 0, 1) := by decide +kernel
theorem dX11_undo_15 : decode cX11_undo 15 = .ok (.getfield 7, 3) := by decide +kernel
theorem dX11_undo_18 : decode cX11_undo 18 = .ok (.iconst 4, 1) := by decide +kernel
theorem dX11_undo_19 : decode cX11_undo 19 = .ok (.dup2, 1) := by decide +kernel
theorem dX11_undo_20 : decode cX11_undo 20 = .ok (.iaload, 1) := by decide +kernel
theorem dX11_undo_21 : decode cX11_undo 21 = .ok (.iconst 1, 1) := by decide +kernel
theorem dX11_undo_22 : decode cX11_undo 22 = .ok (.isub, 1) := by decide +kernel
theorem dX11_undo_23 : decode cX11_undo 23 = .ok (.iastore, 1) := by decide +kernel
theorem dX11_undo_24 : decode cX11_undo 24 = .ok (.iconst 0, 1) := by decide +kernel
theorem dX11_undo_25 : decode cX11_undo 25 = .ok (.istore_n 1, 1) := by decide +kernel
theorem dX11_undo_26 : decode cX11_undo 26 = .ok (.iload_n 1, 1) := by decide +kernel
theorem dX11_undo_27 : decode cX11_undo 27 = .ok (.bipush 31, 2) := by decide +kernel
theorem dX11_undo_29 : decode cX11_undo 29 = .ok (.if_icmp .ge 36, 3) := by decide +kernel
theorem dX11_undo_32 : decode cX11_undo 32 = .ok (.aload_n 0, 1) := by decide +kernel
theorem dX11_undo_33 : decode cX11_undo 33 = .ok (.getfield 7, 3) := by decide +kernel
theorem dX11_undo_36 : decode cX11_undo 36 = .ok (.iconst 5, 1) := by decide +kernel
theorem dX11_undo_37 : decode cX11_undo 37 = .ok (.iload_n 1, 1) := by decide +kernel
theorem dX11_undo_38 : decode cX11_undo 38 = .ok (.iadd, 1) := by decide +kernel
theorem dX11_undo_39 : decode cX11_undo 39 = .ok (.aload_n 0, 1) := by decide +kernel
theorem dX11_undo_4 : decode cX11_undo 4 = .ok (.iconst 4, 1) := by decide +kernel
theorem dX11_undo_40 : decode cX11_undo 40 = .ok (.getfield 7, 3) := by decide +kernel
theorem dX11_undo_43 : decode cX11_undo 43 = .ok (.bipush 123, 2) := by decide +kernel
theorem dX11_undo_45 : decode cX11_undo 45 = .ok (.bipush 31, 2) := by decide +kernel
theorem dX11_undo_47 : decode cX11_undo 47 = .ok (.aload_n 0, 1) := by decide +kernel
theorem dX11_undo_48 : decode cX11_undo 48 = .ok (.getfield 7, 3) := by decide +kernel
theorem dX11_undo_5 : decode cX11_undo 5 = .ok (.iaload, 1) := by decide +kernel
theorem dX11_undo_51 : decode cX11_undo 51 = .ok (.iconst 4, 1) := by decide +kernel
theorem dX11_undo_52 : decode cX11_undo 52 = .ok (.iaload, 1) := by decide +kernel
theorem dX11_undo_53 : decode cX11_undo 53 = .ok (.imul, 1) := by decide +kernel
theorem dX11_undo_54 : decode cX11_undo 54 = .ok (.iadd, 1) := by decide +kernel
theorem dX11_undo_55 : decode cX11_undo 55 = .ok (.iload_n 1, 1) := by decide +kernel
theorem dX11_undo_56 : decode cX11_undo 56 = .ok (.iadd, 1) := by decide +kernel
theorem dX11_undo_57 : decode cX11_undo 57 = .ok (.iaload, 1) := by decide +kernel
theorem dX11_undo_58 : decode cX11_undo 58 = .ok (.iastore, 1) := by decide +kernel
theorem dX11_undo_59 : decode cX11_undo 59 = .ok (.iinc 1 1, 3) := by decide +kernel
theorem dX11_undo_6 : decode cX11_undo 6 = .ok (.ifCond .ne 8, 3) := by decide +kernel
theorem dX11_undo_62 : decode cX11_undo 62 = .ok (.goto (-36), 3) := by decide +kernel
theorem dX11_undo_65 : decode cX11_undo 65 = .ok (.aload_n 0, 1) := by decide +kernel
theorem dX11_undo_66 : decode cX11_undo 66 = .ok (.getfield 7, 3) := by decide +kernel
theorem dX11_undo_69 : decode cX11_undo 69 = .ok (.bipush 35, 2) := by decide +kernel
theorem dX11_undo_71 : decode cX11_undo 71 = .ok (.iaload, 1) := by decide +kernel
theorem dX11_undo_72 : decode cX11_undo 72 = .ok (.ireturn, 1) := by decide +kernel
theorem dX11_undo_9 : decode cX11_undo 9 = .ok (.aload_n 0, 1) := by decide +kernel
theorem dX11_where_0 : decode cX11_where 0 = .ok (.aload_n 0, 1) := by decide +kernel
theorem dX11_where_1 : decode cX11_where 1 = .ok (.iload_n 1, 1) := by decide +kernel
theorem dX11_where_10 : decode cX11_where 10 = .ok (.lconst 0, 1) := by decide +kernel
theorem dX11_where_11 : decode cX11_where 11 = .ok (.ldc2_w 66, 3) := by decide +kernel
theorem dX11_where_14 : decode cX11_where 14 = .ok (.invokestatic 56, 3) := by decide +kernel
theorem dX11_where_17 : decode cX11_where 17 = .ok (.ifCond .ne 10, 3) := by decide +kernel
theorem dX11_where_2 : decode cX11_where 2 = .ok (.invokevirtual 123, 3) := by decide +kernel
theorem dX11_where_20 : decode cX11_where 20 = .ok (.aload_n 0, 1) := by decide +kernel
theorem dX11_where_21 : decode cX11_where 21 = .ok (.bipush (-2), 2) := by decide +kernel
theorem dX11_where_23 : decode cX11_where 23 = .ok (.invokevirtual 68, 3) := by decide +kernel
theorem dX11_where_26 : decode cX11_where 26 = .ok (.ireturn, 1) := by decide +kernel
theorem dX11_where_27 : decode cX11_where 27 = .ok (.aload_n 0, 1) := by decide +kernel
theorem dX11_where_28 : decode cX11_where 28 = .ok (.invokevirtual 137, 3) := by decide +kernel
theorem dX11_where_31 : decode cX11_where 31 = .ok (.aload_n 0, 1) := by decide +kernel
theorem dX11_where_32 : decode cX11_where 32 = .ok (.iload_n 2, 1) := by decide +kernel
theorem dX11_where_33 : decode cX11_where 33 = .ok (.invokevirtual 140, 3) := by decide +kernel
theorem dX11_where_36 : decode cX11_where 36 = .ok (.aload_n 0, 1) := by decide +kernel
theorem dX11_where_37 : decode cX11_where 37 = .ok (.getfield 27, 3) := by decide +kernel
theorem dX11_where_40 : decode cX11_where 40 = .ok (.iconst 5, 1) := by decide +kernel
theorem dX11_where_41 : decode cX11_where 41 = .ok (.iload_n 1, 1) := by decide +kernel
theorem dX11_where_42 : decode cX11_where 42 = .ok (.iadd, 1) := by decide +kernel
theorem dX11_where_43 : decode cX11_where 43 = .ok (.iaload, 1) := by decide +kernel
theorem dX11_where_44 : decode cX11_where 44 = .ok (.ireturn, 1) := by decide +kernel
theorem dX11_where_5 : decode cX11_where 5 = .ok (.ifCond .eq 15, 3) := by decide +kernel
theorem dX11_where_8 : decode cX11_where 8 = .ok (.iload_n 2, 1) := by decide +kernel
theorem dX11_where_9 : decode cX11_where 9 = .ok (.i2l, 1) := by decide +kernel
theorem mm_X11_start_c132 : Cond.constantLong RX11 132 (30) ∈ wsX11_start := by decide +kernel
theorem in_X11_start_X11 : ∀ w ∈ wsX110, w ∈ wsX11_start := by decide +kernel
theorem lk_X11_start_7 : Cond.fieldLink RX11 7 "EggSpoonsModel" "all" "[I" ∈ wsX11_start := by decide +kernel
set_option maxHeartbeats 4000000 in
set_option maxRecDepth 100000 in
/-- start -/
theorem m_start (l : Launch) (X : EX) (m0 : Nat) (ma : Nat → Nat) (la : Int64) (lb : Int64) (n : Nat) (t : Nat → Nat) (v : Nat → Int32) (fa : Nat → Int32) (c0 : Nat) (c1 : Nat) (c2 : Nat) (c3 : Nat) (c4 : Nat) (fr : Nat → Int32) (x1 : Int32) (x2 : Int32) (hI_n : n ≤ 150) (hI_t : InT t) (hI_fa : InA fa c0 c1 c2 c3 c4) (sz : Nat) : Met l yX11_start wsX11_start ({ frames := 2, cells := 0, slots := 0, locals := 46 } : Room) (pE X [.ref m0, .int x1, .int x2] (@HAppend.hAppend va_W va_W va_W _ (mW m0 ma la lb n t v) (@HAppend.hAppend va_W va_W va_W _ ([((ma 0), .inl (X.2.1, 371, .inl fa))]) ([((ma 3), .inl (X.2.1, 3, .inl fr))]))) sz) (qI (fun (r : Int32) (u : (Nat → Int32) × (Nat) × (Nat → Int32)) => InA u.1 c0 c1 c2 c3 u.2.1 ∧ (True)) X (fun (u : (Nat → Int32) × (Nat) × (Nat → Int32)) => @HAppend.hAppend va_W va_W va_W _ (mW m0 ma la lb n t v) (@HAppend.hAppend va_W va_W va_W _ ([((ma 0), .inl (X.2.1, 371, .inl u.1))]) ([((ma 3), .inl (X.2.1, 3, .inl u.2.2))]))) (@HAppend.hAppend va_W va_W va_W _ (mW m0 ma la lb n t v) (@HAppend.hAppend va_W va_W va_W _ ([((ma 0), .inl (X.2.1, 371, .inl fa))]) ([((ma 3), .inl (X.2.1, 3, .inl fr))]))) sz) 0 0 (va_A (@HAppend.hAppend va_W va_W va_W _ (mW m0 ma la lb n t v) (@HAppend.hAppend va_W va_W va_W _ ([((ma 0), .inl (X.2.1, 371, .inl fa))]) ([((ma 3), .inl (X.2.1, 3, .inl fr))]))) sz) := by
  refine mk_met (B := (va_A (@HAppend.hAppend va_W va_W va_W _ (mW m0 ma la lb n t v) (@HAppend.hAppend va_W va_W va_W _ ([((ma 0), .inl (X.2.1, 371, .inl fa))]) ([((ma 3), .inl (X.2.1, 3, .inl fr))]))) sz)) (A := (va_A (@HAppend.hAppend va_W va_W va_W _ (mW m0 ma la lb n t v) (@HAppend.hAppend va_W va_W va_W _ ([((ma 0), .inl (X.2.1, 371, .inl fa))]) ([((ma 3), .inl (X.2.1, 3, .inl fr))]))) sz)) (cc := cX11_start) (maxL := 3) (ret := (some .int)) (by decide) rfl (Nat.le_of_ble_eq_true rfl) k_w k_a (fun p e s m below meth c S zr zlk znm zsz G ls hl => ?_)
  have S : CallFix p m c cX11_start 3 s _ wsX11_start RX11 := S
  have zx := S.1
  have zb := S.2.1
  have hl : lv_has ls 3 [(0, .ref m0), (1, .int x1), (2, .int x2)] := hl
  have hO_t := hI_t
  obtain ⟨ht0_t, ht1_t⟩ := hO_t
  have hO_fa := hI_fa.2
  obtain ⟨hm0_fa, hm1_fa, hm2_fa, hm3_fa, hm4_fa⟩ := hO_fa
  refine lv_aload_n zx zb dX11_start_0 rfl (lv_at hl 0 rfl) ?_
  refine lv_iload_n zx zb dX11_start_1 rfl (lv_at hl 1 rfl) ?_
  refine o_ri (cells' := 0) (slots' := 0) G rfl rfl (n_V (As := [.int x1]) (rest := []) (C := RX11) (T := TX11) (N := 18) (ci := 9) S G (m_isOne l X m0 ma la lb n t v fa c0 c1 c2 c3 c4 x1 hI_n hI_t hI_fa s.heap.size) gX11_start_X11_isOne rfl rfl rfl hdV_X11_isOne ⟨Nat.le_of_ble_eq_true rfl, Nat.le_of_ble_eq_true rfl⟩ [0, 1] rfl rfl 0 rfl rfl rfl hl.1 (Nat.le_of_ble_eq_true rfl) dX11_start_2 ⟨Nat.le_of_ble_eq_true rfl, Nat.le_of_ble_eq_true rfl⟩) (fun r_1 u_1 H locs hp_1 G => ?_)
  have G : wd X (va_A (@HAppend.hAppend va_W va_W va_W _ (mW m0 ma la lb n t v) (@HAppend.hAppend va_W va_W va_W _ ([((ma 0), .inl (X.2.1, 371, .inl fa))]) ([((ma 3), .inl (X.2.1, 3, .inl fr))]))) sz) (va_A (@HAppend.hAppend va_W va_W va_W _ (mW m0 ma la lb n t v) (@HAppend.hAppend va_W va_W va_W _ ([((ma 0), .inl (X.2.1, 371, .inl fa))]) ([((ma 3), .inl (X.2.1, 3, .inl fr))]))) sz) s (@HAppend.hAppend va_W va_W va_W _ (mW m0 ma la lb n t v) (@HAppend.hAppend va_W va_W va_W _ ([((ma 0), .inl (X.2.1, 371, .inl fa))]) ([((ma 3), .inl (X.2.1, 3, .inl fr))]))) H locs := G
  rcases hp_1 with ⟨rfl, hj_1⟩ | ⟨rfl, hj_1⟩
  · obtain ⟨j_1, hj_1, rfl⟩ := hj_1
    refine lv_if_eq (tgt := 20) zx zb dX11_start_5 (by decide) (fun c_2 => absurd c_2 (by decide)) (fun c_2 => ?_)
    refine lv_iload_n zx zb dX11_start_8 rfl (lv_at hl 2 rfl) ?_
    refine lv_i2l (v := (Int32.toInt64 x2)) zx zb dX11_start_9 rfl ?_
    refine lv_lconst (v := (Int32.toInt64 1)) zx zb dX11_start_10 (by decide) ?_
    refine lv_ldc2 zx zb S.2.2.2.1 (S.2.2.2.2 _ mm_X11_start_c132) dX11_start_11 ?_
    refine k_ld (v := (Int32.toInt64 30)) (by decide) ?_
    refine o_ri (cells' := 0) (slots' := 0) G rfl rfl (n_S (As := [.long (Int32.toInt64 x2), .long (Int32.toInt64 1), .long (Int32.toInt64 30)]) (rest := []) S G (m_in l X x2 1 30 H.size) gX11_start_X11_in rfl rfl rfl hdS_X11_in ⟨Nat.le_of_ble_eq_true rfl, Nat.le_of_ble_eq_true rfl⟩ [] rfl rfl rfl hl.1 (Nat.le_of_ble_eq_true rfl) dX11_start_14 ⟨Nat.le_of_ble_eq_true rfl, Nat.le_of_ble_eq_true rfl⟩) (fun r_3 u_3 H locs hp_3 G => ?_)
    have G : wd X (va_A (@HAppend.hAppend va_W va_W va_W _ (mW m0 ma la lb n t v) (@HAppend.hAppend va_W va_W va_W _ ([((ma 0), .inl (X.2.1, 371, .inl fa))]) ([((ma 3), .inl (X.2.1, 3, .inl fr))]))) sz) (va_A (@HAppend.hAppend va_W va_W va_W _ (mW m0 ma la lb n t v) (@HAppend.hAppend va_W va_W va_W _ ([((ma 0), .inl (X.2.1, 371, .inl fa))]) ([((ma 3), .inl (X.2.1, 3, .inl fr))]))) sz) s (@HAppend.hAppend va_W va_W va_W _ (mW m0 ma la lb n t v) (@HAppend.hAppend va_W va_W va_W _ ([((ma 0), .inl (X.2.1, 371, .inl fa))]) ([((ma 3), .inl (X.2.1, 3, .inl fr))]))) H locs := G
    rcases hp_3 with ⟨rfl, hw_3⟩ | ⟨rfl, hw_3⟩
    · obtain ⟨j_3, ⟨ja_3, jb_3⟩, rfl⟩ := k_natR (a := 1) (b := 30) hw_3 rfl rfl (by decide) (by decide)
      refine lv_if_ne (tgt := 27) zx zb dX11_start_17 (by decide) (fun c_4 => ?_) (fun c_4 => absurd c_4 (by decide))
      refine lv_aload_n zx zb dX11_start_27 rfl (lv_at hl 0 rfl) ?_
      refine r_get (C := RX11) (T := TX11) (N := 18) (ci := 9) (v := .ref (ma 0)) S in_X11_start_X11 G 0 rfl rfl 0 (by decide) lk_X11_start_7 rfl dX11_start_28 ?_
      refine lv_iload_n zx zb dX11_start_31 rfl (lv_at hl 1 rfl) ?_
      refine o_ri (cells' := 0) (slots' := 0) G rfl rfl (n_S (As := [.ref (ma 0), .int (nI j_1)]) (rest := []) S G (m_isHome l X (ma 0) 371 fa c0 c1 c2 c3 c4 j_1 hI_fa (by omega) (by omega) (by omega) H.size) gX11_start_X11_isHome rfl rfl rfl hdS_X11_isHome ⟨Nat.le_of_ble_eq_true rfl, Nat.le_of_ble_eq_true rfl⟩ [1] rfl rfl rfl hl.1 (Nat.le_of_ble_eq_true rfl) dX11_start_32 ⟨Nat.le_of_ble_eq_true rfl, Nat.le_of_ble_eq_true rfl⟩) (fun r_5 u_5 H locs hp_5 G => ?_)
      have G : wd X (va_A (@HAppend.hAppend va_W va_W va_W _ (mW m0 ma la lb n t v) (@HAppend.hAppend va_W va_W va_W _ ([((ma 0), .inl (X.2.1, 371, .inl fa))]) ([((ma 3), .inl (X.2.1, 3, .inl fr))]))) sz) (va_A (@HAppend.hAppend va_W va_W va_W _ (mW m0 ma la lb n t v) (@HAppend.hAppend va_W va_W va_W _ ([((ma 0), .inl (X.2.1, 371, .inl fa))]) ([((ma 3), .inl (X.2.1, 3, .inl fr))]))) sz) s (@HAppend.hAppend va_W va_W va_W _ (mW m0 ma la lb n t v) (@HAppend.hAppend va_W va_W va_W _ ([((ma 0), .inl (X.2.1, 371, .inl fa))]) ([((ma 3), .inl (X.2.1, 3, .inl fr))]))) H locs := G
      refine lv_if_ne (tgt := 58) zx zb dX11_start_35 (by decide) (fun c_6 => ?_) (fun c_6 => ?_)
      · refine lv_aload_n zx zb dX11_start_58 rfl (lv_at hl 0 rfl) ?_
        refine b_wi (cells' := 0) (slots' := 0) (wr := [((ma 0), .inl (X.2.1, 371, .inl fa))]) G rfl rfl [0, 2] [1] rfl rfl rfl rfl (n_V (As := []) (rest := []) (C := RX11) (T := TX11) (N := 18) (ci := 9) S G (m_no l X m0 ma la lb n t v fr hI_n hI_t H.size) gX11_start_X11_no rfl rfl rfl hdV_X11_no ⟨Nat.le_of_ble_eq_true rfl, Nat.le_of_ble_eq_true rfl⟩ [0, 2] rfl rfl 0 rfl rfl rfl hl.1 (Nat.le_of_ble_eq_true rfl) dX11_start_59 ⟨Nat.le_of_ble_eq_true rfl, Nat.le_of_ble_eq_true rfl⟩) (fun r_7 u_7 H locs hp_7 G => ?_)
        obtain ⟨f_7, rfl⟩ : ∃ z, z = u_7 := ⟨_, rfl⟩
        have hq_7 := hp_7
        have G : wd X (va_A (@HAppend.hAppend va_W va_W va_W _ (mW m0 ma la lb n t v) (@HAppend.hAppend va_W va_W va_W _ ([((ma 0), .inl (X.2.1, 371, .inl fa))]) ([((ma 3), .inl (X.2.1, 3, .inl fr))]))) sz) (va_A (@HAppend.hAppend va_W va_W va_W _ (mW m0 ma la lb n t v) (@HAppend.hAppend va_W va_W va_W _ ([((ma 0), .inl (X.2.1, 371, .inl fa))]) ([((ma 3), .inl (X.2.1, 3, .inl fr))]))) sz) s (@HAppend.hAppend va_W va_W va_W _ ([((ma 0), .inl (X.2.1, 371, .inl fa))]) (@HAppend.hAppend va_W va_W va_W _ (mW m0 ma la lb n t v) ([((ma 3), .inl (X.2.1, 3, .inl f_7))]))) H locs := G
        obtain rfl := hq_7
        exact e_int S zr zlk (vp_nar_int _) G (fa, c4, f_7) [1, 0, 2] rfl rfl (Or.inr rfl) (⟨hI_fa, trivial⟩) dX11_start_62
      · refine lv_aload_n zx zb dX11_start_38 rfl (lv_at hl 0 rfl) ?_
        refine r_get (C := RX11) (T := TX11) (N := 18) (ci := 9) (v := .ref (ma 0)) S in_X11_start_X11 G 0 rfl rfl 0 (by decide) lk_X11_start_7 rfl dX11_start_39 ?_
        refine lv_iconst (v := 5) zx zb dX11_start_42 (by decide) ?_
        refine lv_iload_n zx zb dX11_start_43 rfl (lv_at hl 1 rfl) ?_
        refine r_iadd (v := (nI (5 + j_1))) S (nI_add 5 j_1) dX11_start_44 ?_
        refine r_iald S G 1 rfl (vp_in_nI (by omega) (by decide)) rfl dX11_start_45 ?_
        refine k_itE (fun y_8 => ?_)
        refine lv_iload_n zx zb dX11_start_46 rfl (lv_at hl 2 rfl) ?_
        refine r_iadd (v := (y_8 + (nI j_3))) S rfl dX11_start_47 ?_
        refine lv_aload_n zx zb dX11_start_48 rfl (lv_at hl 0 rfl) ?_
        refine r_get (C := RX11) (T := TX11) (N := 18) (ci := 9) (v := .ref (ma 0)) S in_X11_start_X11 G 0 rfl rfl 0 (by decide) lk_X11_start_7 rfl dX11_start_49 ?_
        refine lv_bipush (v := 36) zx zb dX11_start_52 (by decide) ?_
        refine r_iald S G 1 rfl (k_vp (by decide)) rfl dX11_start_54 ?_
        refine k_itE (fun y_9 => ?_)
        refine lv_icmp_lt (tgt := 63) zx zb dX11_start_55 (by decide) (fun c_10 => ?_) (fun c_10 => ?_)
        · refine lv_aload_n zx zb dX11_start_63 rfl (lv_at hl 0 rfl) ?_
          refine b_wv (cells' := 0) (slots' := 0) (wr := [((ma 3), .inl (X.2.1, 3, .inl fr))]) G rfl rfl [0, 1] [2] rfl rfl rfl rfl (n_V (As := []) (rest := []) (C := RX11) (T := TX11) (N := 18) (ci := 9) S G (m_save l X m0 ma la lb n t v fa c0 c1 c2 c3 c4 hI_n hI_t hI_fa H.size) gX11_start_X11_save rfl rfl rfl hdV_X11_save ⟨Nat.le_of_ble_eq_true rfl, Nat.le_of_ble_eq_true rfl⟩ [0, 1] rfl rfl 0 rfl rfl rfl hl.1 (Nat.le_of_ble_eq_true rfl) dX11_start_64 ⟨Nat.le_of_ble_eq_true rfl, Nat.le_of_ble_eq_true rfl⟩) (fun u_11 H locs hp_11 G => ?_)
          obtain ⟨f_11a, c4_11b⟩ := u_11
          try dsimp only at hp_11
          obtain ⟨hI_f_11a, hq_11⟩ := hp_11
          have hO_f_11a := hI_f_11a.2
          obtain ⟨hm0_f_11a, hm1_f_11a, hm2_f_11a, hm3_f_11a, hm4_f_11a⟩ := hO_f_11a
          have G : wd X (va_A (@HAppend.hAppend va_W va_W va_W _ (mW m0 ma la lb n t v) (@HAppend.hAppend va_W va_W va_W _ ([((ma 0), .inl (X.2.1, 371, .inl fa))]) ([((ma 3), .inl (X.2.1, 3, .inl fr))]))) sz) (va_A (@HAppend.hAppend va_W va_W va_W _ (mW m0 ma la lb n t v) (@HAppend.hAppend va_W va_W va_W _ ([((ma 0), .inl (X.2.1, 371, .inl fa))]) ([((ma 3), .inl (X.2.1, 3, .inl fr))]))) sz) s (@HAppend.hAppend va_W va_W va_W _ ([((ma 3), .inl (X.2.1, 3, .inl fr))]) (@HAppend.hAppend va_W va_W va_W _ (mW m0 ma la lb n t v) ([((ma 0), .inl (X.2.1, 371, .inl f_11a))]))) H locs := G
          refine lv_aload_n zx zb dX11_start_67 rfl (lv_at hl 0 rfl) ?_
          refine r_get (C := RX11) (T := TX11) (N := 18) (ci := 9) (v := .ref (ma 0)) S in_X11_start_X11 G 1 rfl rfl 0 (by decide) lk_X11_start_7 rfl dX11_start_68 ?_
          refine lv_iconst (v := 5) zx zb dX11_start_71 (by decide) ?_
          refine lv_iload_n zx zb dX11_start_72 rfl (lv_at hl 1 rfl) ?_
          refine r_iadd (v := (nI (5 + j_1))) S (nI_add 5 j_1) dX11_start_73 ?_
          refine lv_dup2_11 zx zb dX11_start_74 rfl rfl ?_
          refine r_iald S G 2 rfl (vp_in_nI (by omega) (by decide)) rfl dX11_start_75 ?_
          refine k_itE (fun y_12 => ?_)
          refine lv_iload_n zx zb dX11_start_76 rfl (lv_at hl 2 rfl) ?_
          refine r_iadd (v := (y_12 + (nI j_3))) S rfl dX11_start_77 ?_
          refine r_iast S G 2 rfl (vp_in_nI (by omega) (by decide)) dX11_start_78 (fun H locs G => ?_)
          obtain ⟨f_13, hI_f_13, hE_f_13, G⟩ : ∃ f_13 : Nat → Int32, InA f_13 c0 c1 c2 c3 c4_11b ∧ f_13 = upd f_11a (nI (5 + j_1)).toNatClampNeg (y_12 + (nI j_3)) ∧ wd X (va_A (@HAppend.hAppend va_W va_W va_W _ (mW m0 ma la lb n t v) (@HAppend.hAppend va_W va_W va_W _ ([((ma 0), .inl (X.2.1, 371, .inl fa))]) ([((ma 3), .inl (X.2.1, 3, .inl fr))]))) sz) (va_A (@HAppend.hAppend va_W va_W va_W _ (mW m0 ma la lb n t v) (@HAppend.hAppend va_W va_W va_W _ ([((ma 0), .inl (X.2.1, 371, .inl fa))]) ([((ma 3), .inl (X.2.1, 3, .inl fr))]))) sz) s (@HAppend.hAppend va_W va_W va_W _ ([((ma 3), .inl (X.2.1, 3, .inl fr))]) (@HAppend.hAppend va_W va_W va_W _ (mW m0 ma la lb n t v) ([((ma 0), .inl (X.2.1, 371, .inl f_13))]))) H locs := ⟨_, InA_o hI_f_11a (by rw [nI_clamp (by omega)]; omega), rfl, G⟩
          refine lv_aload_n zx zb dX11_start_79 rfl (lv_at hl 0 rfl) ?_
          refine r_get (C := RX11) (T := TX11) (N := 18) (ci := 9) (v := .ref (ma 0)) S in_X11_start_X11 G 1 rfl rfl 0 (by decide) lk_X11_start_7 rfl dX11_start_80 ?_
          refine lv_iconst (v := 5) zx zb dX11_start_83 (by decide) ?_
          refine lv_iload_n zx zb dX11_start_84 rfl (lv_at hl 1 rfl) ?_
          refine r_iadd (v := (nI (5 + j_1))) S (nI_add 5 j_1) dX11_start_85 ?_
          refine r_iald S G 2 rfl (vp_in_nI (by omega) (by decide)) rfl dX11_start_86 ?_
          refine k_itE (fun y_14 => ?_)
          exact e_int S zr zlk (vp_nar_int _) G (f_13, c4_11b, fr) [1, 2, 0] rfl rfl (Or.inr rfl) (⟨hI_f_13, trivial⟩) dX11_start_87
        · refine lv_aload_n zx zb dX11_start_58 rfl (lv_at hl 0 rfl) ?_
          refine b_wi (cells' := 0) (slots' := 0) (wr := [((ma 0), .inl (X.2.1, 371, .inl fa))]) G rfl rfl [0, 2] [1] rfl rfl rfl rfl (n_V (As := []) (rest := []) (C := RX11) (T := TX11) (N := 18) (ci := 9) S G (m_no l X m0 ma la lb n t v fr hI_n hI_t H.size) gX11_start_X11_no rfl rfl rfl hdV_X11_no ⟨Nat.le_of_ble_eq_true rfl, Nat.le_of_ble_eq_true rfl⟩ [0, 2] rfl rfl 0 rfl rfl rfl hl.1 (Nat.le_of_ble_eq_true rfl) dX11_start_59 ⟨Nat.le_of_ble_eq_true rfl, Nat.le_of_ble_eq_true rfl⟩) (fun r_15 u_15 H locs hp_15 G => ?_)
          obtain ⟨f_15, rfl⟩ : ∃ z, z = u_15 := ⟨_, rfl⟩
          have hq_15 := hp_15
          have G : wd X (va_A (@HAppend.hAppend va_W va_W va_W _ (mW m0 ma la lb n t v) (@HAppend.hAppend va_W va_W va_W _ ([((ma 0), .inl (X.2.1, 371, .inl fa))]) ([((ma 3), .inl (X.2.1, 3, .inl fr))]))) sz) (va_A (@HAppend.hAppend va_W va_W va_W _ (mW m0 ma la lb n t v) (@HAppend.hAppend va_W va_W va_W _ ([((ma 0), .inl (X.2.1, 371, .inl fa))]) ([((ma 3), .inl (X.2.1, 3, .inl fr))]))) sz) s (@HAppend.hAppend va_W va_W va_W _ ([((ma 0), .inl (X.2.1, 371, .inl fa))]) (@HAppend.hAppend va_W va_W va_W _ (mW m0 ma la lb n t v) ([((ma 3), .inl (X.2.1, 3, .inl f_15))]))) H locs := G
          obtain rfl := hq_15
          exact e_int S zr zlk (vp_nar_int _) G (fa, c4, f_15) [1, 0, 2] rfl rfl (Or.inr rfl) (⟨hI_fa, trivial⟩) dX11_start_62
    · refine lv_if_ne (tgt := 27) zx zb dX11_start_17 (by decide) (fun c_16 => absurd (by decide) c_16) (fun c_16 => ?_)
      refine lv_aload_n zx zb dX11_start_20 rfl (lv_at hl 0 rfl) ?_
      refine lv_bipush (v := (-2)) zx zb dX11_start_21 (by decide) ?_
      refine b_wi (cells' := 0) (slots' := 0) (wr := [((ma 0), .inl (X.2.1, 371, .inl fa))]) G rfl rfl [0, 2] [1] rfl rfl rfl rfl (n_V (As := [.int (-2)]) (rest := []) (C := RX11) (T := TX11) (N := 18) (ci := 9) S G (m_bad l X m0 ma la lb n t v fr (-2) hI_n hI_t H.size) gX11_start_X11_bad rfl rfl rfl hdV_X11_bad ⟨Nat.le_of_ble_eq_true rfl, Nat.le_of_ble_eq_true rfl⟩ [0, 2] rfl rfl 0 rfl rfl rfl hl.1 (Nat.le_of_ble_eq_true rfl) dX11_start_23 ⟨Nat.le_of_ble_eq_true rfl, Nat.le_of_ble_eq_true rfl⟩) (fun r_17 u_17 H locs hp_17 G => ?_)
      obtain ⟨f_17, rfl⟩ : ∃ z, z = u_17 := ⟨_, rfl⟩
      have hq_17 := hp_17
      have G : wd X (va_A (@HAppend.hAppend va_W va_W va_W _ (mW m0 ma la lb n t v) (@HAppend.hAppend va_W va_W va_W _ ([((ma 0), .inl (X.2.1, 371, .inl fa))]) ([((ma 3), .inl (X.2.1, 3, .inl fr))]))) sz) (va_A (@HAppend.hAppend va_W va_W va_W _ (mW m0 ma la lb n t v) (@HAppend.hAppend va_W va_W va_W _ ([((ma 0), .inl (X.2.1, 371, .inl fa))]) ([((ma 3), .inl (X.2.1, 3, .inl fr))]))) sz) s (@HAppend.hAppend va_W va_W va_W _ ([((ma 0), .inl (X.2.1, 371, .inl fa))]) (@HAppend.hAppend va_W va_W va_W _ (mW m0 ma la lb n t v) ([((ma 3), .inl (X.2.1, 3, .inl f_17))]))) H locs := G
      obtain rfl := hq_17
      exact e_int S zr zlk (vp_nar_int _) G (fa, c4, f_17) [1, 0, 2] rfl rfl (Or.inr rfl) (⟨hI_fa, trivial⟩) dX11_start_26
  · refine lv_if_eq (tgt := 20) zx zb dX11_start_5 (by decide) (fun c_18 => ?_) (fun c_18 => absurd (by decide) c_18)
    refine lv_aload_n zx zb dX11_start_20 rfl (lv_at hl 0 rfl) ?_
    refine lv_bipush (v := (-2)) zx zb dX11_start_21 (by decide) ?_
    refine b_wi (cells' := 0) (slots' := 0) (wr := [((ma 0), .inl (X.2.1, 371, .inl fa))]) G rfl rfl [0, 2] [1] rfl rfl rfl rfl (n_V (As := [.int (-2)]) (rest := []) (C := RX11) (T := TX11) (N := 18) (ci := 9) S G (m_bad l X m0 ma la lb n t v fr (-2) hI_n hI_t H.size) gX11_start_X11_bad rfl rfl rfl hdV_X11_bad ⟨Nat.le_of_ble_eq_true rfl, Nat.le_of_ble_eq_true rfl⟩ [0, 2] rfl rfl 0 rfl rfl rfl hl.1 (Nat.le_of_ble_eq_true rfl) dX11_start_23 ⟨Nat.le_of_ble_eq_true rfl, Nat.le_of_ble_eq_true rfl⟩) (fun r_19 u_19 H locs hp_19 G => ?_)
    obtain ⟨f_19, rfl⟩ : ∃ z, z = u_19 := ⟨_, rfl⟩
    have hq_19 := hp_19
    have G : wd X (va_A (@HAppend.hAppend va_W va_W va_W _ (mW m0 ma la lb n t v) (@HAppend.hAppend va_W va_W va_W _ ([((ma 0), .inl (X.2.1, 371, .inl fa))]) ([((ma 3), .inl (X.2.1, 3, .inl fr))]))) sz) (va_A (@HAppend.hAppend va_W va_W va_W _ (mW m0 ma la lb n t v) (@HAppend.hAppend va_W va_W va_W _ ([((ma 0), .inl (X.2.1, 371, .inl fa))]) ([((ma 3), .inl (X.2.1, 3, .inl fr))]))) sz) s (@HAppend.hAppend va_W va_W va_W _ ([((ma 0), .inl (X.2.1, 371, .inl fa))]) (@HAppend.hAppend va_W va_W va_W _ (mW m0 ma la lb n t v) ([((ma 3), .inl (X.2.1, 3, .inl f_19))]))) H locs := G
    obtain rfl := hq_19
    exact e_int S zr zlk (vp_nar_int _) G (fa, c4, f_19) [1, 0, 2] rfl rfl (Or.inr rfl) (⟨hI_fa, trivial⟩) dX11_start_26
theorem in_X11_undo_X11 : ∀ w ∈ wsX110, w ∈ wsX11_undo := by decide +kernel
theorem lk_X11_undo_7 : Cond.fieldLink RX11 7 "EggSpoonsModel" "all" "[I" ∈ wsX11_undo := by decide +kernel
set_option maxHeartbeats 4000000 in
set_option maxRecDepth 100000 in
/-- undo -/
theorem m_undo (l : Launch) (X : EX) (m0 : Nat) (ma : Nat → Nat) (la : Int64) (lb : Int64) (n : Nat) (t : Nat → Nat) (v : Nat → Int32) (fa : Nat → Int32) (c0 : Nat) (c1 : Nat) (c2 : Nat) (c3 : Nat) (c4 : Nat) (fr : Nat → Int32) (hI_n : n ≤ 150) (hI_t : InT t) (hI_fa : InA fa c0 c1 c2 c3 c4) (sz : Nat) : Met l yX11_undo wsX11_undo ({ frames := 1, cells := 0, slots := 0, locals := 20 } : Room) (pE X [.ref m0] (@HAppend.hAppend va_W va_W va_W _ (mW m0 ma la lb n t v) (@HAppend.hAppend va_W va_W va_W _ ([((ma 0), .inl (X.2.1, 371, .inl fa))]) ([((ma 3), .inl (X.2.1, 3, .inl fr))]))) sz) (qI (fun (r : Int32) (u : (Nat → Int32) × (Nat) × (Nat → Int32)) => InA u.1 c0 c1 c2 c3 u.2.1 ∧ (True)) X (fun (u : (Nat → Int32) × (Nat) × (Nat → Int32)) => @HAppend.hAppend va_W va_W va_W _ (mW m0 ma la lb n t v) (@HAppend.hAppend va_W va_W va_W _ ([((ma 0), .inl (X.2.1, 371, .inl u.1))]) ([((ma 3), .inl (X.2.1, 3, .inl u.2.2))]))) (@HAppend.hAppend va_W va_W va_W _ (mW m0 ma la lb n t v) (@HAppend.hAppend va_W va_W va_W _ ([((ma 0), .inl (X.2.1, 371, .inl fa))]) ([((ma 3), .inl (X.2.1, 3, .inl fr))]))) sz) 0 0 (va_A (@HAppend.hAppend va_W va_W va_W _ (mW m0 ma la lb n t v) (@HAppend.hAppend va_W va_W va_W _ ([((ma 0), .inl (X.2.1, 371, .inl fa))]) ([((ma 3), .inl (X.2.1, 3, .inl fr))]))) sz) := by
  refine mk_met (B := (va_A (@HAppend.hAppend va_W va_W va_W _ (mW m0 ma la lb n t v) (@HAppend.hAppend va_W va_W va_W _ ([((ma 0), .inl (X.2.1, 371, .inl fa))]) ([((ma 3), .inl (X.2.1, 3, .inl fr))]))) sz)) (A := (va_A (@HAppend.hAppend va_W va_W va_W _ (mW m0 ma la lb n t v) (@HAppend.hAppend va_W va_W va_W _ ([((ma 0), .inl (X.2.1, 371, .inl fa))]) ([((ma 3), .inl (X.2.1, 3, .inl fr))]))) sz)) (cc := cX11_undo) (maxL := 2) (ret := (some .int)) (by decide) rfl (Nat.le_of_ble_eq_true rfl) k_w k_a (fun p e s m below meth c S zr zlk znm zsz G ls hl => ?_)
  have S : CallFix p m c cX11_undo 2 s _ wsX11_undo RX11 := S
  have zx := S.1
  have zb := S.2.1
  have hl : lv_has ls 2 [(0, .ref m0)] := hl
  have hO_t := hI_t
  obtain ⟨ht0_t, ht1_t⟩ := hO_t
  have hO_fa := hI_fa.2
  obtain ⟨hm0_fa, hm1_fa, hm2_fa, hm3_fa, hm4_fa⟩ := hO_fa
  refine lv_aload_n zx zb dX11_undo_0 rfl (lv_at hl 0 rfl) ?_
  refine r_get (C := RX11) (T := TX11) (N := 18) (ci := 9) (v := .ref (ma 0)) S in_X11_undo_X11 G 0 rfl rfl 0 (by decide) lk_X11_undo_7 rfl dX11_undo_1 ?_
  refine lv_iconst (v := 4) zx zb dX11_undo_4 (by decide) ?_
  refine r_iald (v := (nI c4)) S G 1 rfl (k_vp (by decide)) hI_fa.1.2.2.2.2 dX11_undo_5 ?_
  refine lv_if_ne (tgt := 14) zx zb dX11_undo_6 (by decide) (fun c_2 => ?_) (fun c_2 => ?_)
  · have fc_2 := j_ne (a := c4) (b := 0) c_2
    refine lv_aload_n zx zb dX11_undo_14 rfl (lv_at hl 0 rfl) ?_
    refine r_get (C := RX11) (T := TX11) (N := 18) (ci := 9) (v := .ref (ma 0)) S in_X11_undo_X11 G 0 rfl rfl 0 (by decide) lk_X11_undo_7 rfl dX11_undo_15 ?_
    refine lv_iconst (v := 4) zx zb dX11_undo_18 (by decide) ?_
    refine lv_dup2_11 zx zb dX11_undo_19 rfl rfl ?_
    refine r_iald (v := (nI c4)) S G 1 rfl (k_vp (by decide)) hI_fa.1.2.2.2.2 dX11_undo_20 ?_
    refine lv_iconst (v := 1) zx zb dX11_undo_21 (by decide) ?_
    refine r_isub (v := (nI (c4 - 1))) S (pk_sub (a := c4) (b := 1) (by omega)) dX11_undo_22 ?_
    refine r_iast S G 1 rfl (k_vp (by decide)) dX11_undo_23 (fun H locs G => ?_)
    obtain ⟨f_4, c_5, hI_f_4, hE_c_5, hE_f_4, G⟩ : ∃ (f_4 : Nat → Int32) (c_5 : Nat), InA f_4 c0 c1 c2 c3 c_5 ∧ c_5 = (c4 - 1) ∧ f_4 = upd fa 4 (nI (c4 - 1)) ∧ wd X (va_A (@HAppend.hAppend va_W va_W va_W _ (mW m0 ma la lb n t v) (@HAppend.hAppend va_W va_W va_W _ ([((ma 0), .inl (X.2.1, 371, .inl fa))]) ([((ma 3), .inl (X.2.1, 3, .inl fr))]))) sz) (va_A (@HAppend.hAppend va_W va_W va_W _ (mW m0 ma la lb n t v) (@HAppend.hAppend va_W va_W va_W _ ([((ma 0), .inl (X.2.1, 371, .inl fa))]) ([((ma 3), .inl (X.2.1, 3, .inl fr))]))) sz) s (@HAppend.hAppend va_W va_W va_W _ (mW m0 ma la lb n t v) (@HAppend.hAppend va_W va_W va_W _ ([((ma 0), .inl (X.2.1, 371, .inl f_4))]) ([((ma 3), .inl (X.2.1, 3, .inl fr))]))) H locs := ⟨_, (c4 - 1), InA_n4 (n := (c4 - 1)) hI_fa (by omega), rfl, rfl, G⟩
    refine lv_iconst (v := 0) zx zb dX11_undo_24 (by decide) ?_
    refine lv_istore_n (lv' := [(1, .int 0), (0, .ref m0)]) zx zb dX11_undo_25 rfl hl (by decide) rfl (fun ls hl => ?_)
    refine k_loop (P := ∀ (zm : Nat) (k26 : Nat) (f26_1 : Nat → Int32) (H : Heap) (locs : List Loc) (ls : Array Slot), 31 + 1 ≤ k26 + zm → InA f26_1 c0 c1 c2 c3 c_5 → (k26 ≤ 31) → wd X (va_A (@HAppend.hAppend va_W va_W va_W _ (mW m0 ma la lb n t v) (@HAppend.hAppend va_W va_W va_W _ ([((ma 0), .inl (X.2.1, 371, .inl fa))]) ([((ma 3), .inl (X.2.1, 3, .inl fr))]))) sz) (va_A (@HAppend.hAppend va_W va_W va_W _ (mW m0 ma la lb n t v) (@HAppend.hAppend va_W va_W va_W _ ([((ma 0), .inl (X.2.1, 371, .inl fa))]) ([((ma 3), .inl (X.2.1, 3, .inl fr))]))) sz) s (@HAppend.hAppend va_W va_W va_W _ (mW m0 ma la lb n t v) (@HAppend.hAppend va_W va_W va_W _ ([((ma 0), .inl (X.2.1, 371, .inl f26_1))]) ([((ma 3), .inl (X.2.1, 3, .inl fr))]))) H locs → lv_has ls 2 [(1, .int (nI k26)), (0, .ref m0)] → W p l e _ s m _ below meth c H locs _ _ _ (F0 m 26 ls [])) (fun loop => loop (31 + 1) 0 f_4 _ _ _ (by omega) hI_f_4 (by omega) G hl) ?_
    intro zm
    induction zm with
    | zero => intro k26 f26_1 H locs ls zz q_hI_f26_1 q_hk_k26 _ _; exact absurd zz (by omega)
    | succ zm ih26 =>
      intro k26 f26_1 H locs ls zm_26 hI_f26_1 hk_k26 G hl
      refine lv_iload_n zx zb dX11_undo_26 rfl (lv_at hl 0 rfl) ?_
      refine lv_bipush (v := 31) zx zb dX11_undo_27 (by decide) ?_
      refine lv_icmp_ge (tgt := 65) zx zb dX11_undo_29 (by decide) (fun c_6 => ?_) (fun c_6 => ?_)
      · have fc_6 := j_le (a := 31) (b := k26) (by omega) (by omega) c_6
        refine lv_aload_n zx zb dX11_undo_65 rfl (lv_at hl 1 rfl) ?_
        refine r_get (C := RX11) (T := TX11) (N := 18) (ci := 9) (v := .ref (ma 0)) S in_X11_undo_X11 G 0 rfl rfl 0 (by decide) lk_X11_undo_7 rfl dX11_undo_66 ?_
        refine lv_bipush (v := 35) zx zb dX11_undo_69 (by decide) ?_
        refine r_iald S G 1 rfl (k_vp (by decide)) rfl dX11_undo_71 ?_
        refine k_itE (fun y_7 => ?_)
        exact e_int S zr zlk (vp_nar_int _) G (f26_1, c_5, fr) [0, 1, 2] rfl rfl (Or.inr rfl) (⟨hI_f26_1, trivial⟩) dX11_undo_72
      · have fc_6 := j_nle (a := 31) (b := k26) (by omega) (by omega) c_6
        refine lv_aload_n zx zb dX11_undo_32 rfl (lv_at hl 1 rfl) ?_
        refine r_get (C := RX11) (T := TX11) (N := 18) (ci := 9) (v := .ref (ma 0)) S in_X11_undo_X11 G 0 rfl rfl 0 (by decide) lk_X11_undo_7 rfl dX11_undo_33 ?_
        refine lv_iconst (v := 5) zx zb dX11_undo_36 (by decide) ?_
        refine lv_iload_n zx zb dX11_undo_37 rfl (lv_at hl 0 rfl) ?_
        refine r_iadd (v := (nI (5 + k26))) S (nI_add 5 k26) dX11_undo_38 ?_
        refine lv_aload_n zx zb dX11_undo_39 rfl (lv_at hl 1 rfl) ?_
        refine r_get (C := RX11) (T := TX11) (N := 18) (ci := 9) (v := .ref (ma 0)) S in_X11_undo_X11 G 0 rfl rfl 0 (by decide) lk_X11_undo_7 rfl dX11_undo_40 ?_
        refine lv_bipush (v := 123) zx zb dX11_undo_43 (by decide) ?_
        refine lv_bipush (v := 31) zx zb dX11_undo_45 (by decide) ?_
        refine lv_aload_n zx zb dX11_undo_47 rfl (lv_at hl 1 rfl) ?_
        refine r_get (C := RX11) (T := TX11) (N := 18) (ci := 9) (v := .ref (ma 0)) S in_X11_undo_X11 G 0 rfl rfl 0 (by decide) lk_X11_undo_7 rfl dX11_undo_48 ?_
        refine lv_iconst (v := 4) zx zb dX11_undo_51 (by decide) ?_
        refine r_iald (v := (nI c_5)) S G 1 rfl (k_vp (by decide)) hI_f26_1.1.2.2.2.2 dX11_undo_52 ?_
        refine r_imul (v := (nI (31 * c_5))) S (pk_mul 31 c_5) dX11_undo_53 ?_
        refine r_iadd (v := (nI (123 + (31 * c_5)))) S (nI_add 123 (31 * c_5)) dX11_undo_54 ?_
        refine lv_iload_n zx zb dX11_undo_55 rfl (lv_at hl 0 rfl) ?_
        refine r_iadd (v := (nI ((123 + (31 * c_5)) + k26))) S (nI_add (123 + (31 * c_5)) k26) dX11_undo_56 ?_
        refine r_iald S G 1 rfl (vp_in_nI (by omega) (by decide)) rfl dX11_undo_57 ?_
        refine k_itE (fun y_9 => ?_)
        refine r_iast S G 1 rfl (vp_in_nI (by omega) (by decide)) dX11_undo_58 (fun H locs G => ?_)
        obtain ⟨f_10, hI_f_10, hE_f_10, G⟩ : ∃ f_10 : Nat → Int32, InA f_10 c0 c1 c2 c3 c_5 ∧ f_10 = upd f26_1 (nI (5 + k26)).toNatClampNeg y_9 ∧ wd X (va_A (@HAppend.hAppend va_W va_W va_W _ (mW m0 ma la lb n t v) (@HAppend.hAppend va_W va_W va_W _ ([((ma 0), .inl (X.2.1, 371, .inl fa))]) ([((ma 3), .inl (X.2.1, 3, .inl fr))]))) sz) (va_A (@HAppend.hAppend va_W va_W va_W _ (mW m0 ma la lb n t v) (@HAppend.hAppend va_W va_W va_W _ ([((ma 0), .inl (X.2.1, 371, .inl fa))]) ([((ma 3), .inl (X.2.1, 3, .inl fr))]))) sz) s (@HAppend.hAppend va_W va_W va_W _ (mW m0 ma la lb n t v) (@HAppend.hAppend va_W va_W va_W _ ([((ma 0), .inl (X.2.1, 371, .inl f_10))]) ([((ma 3), .inl (X.2.1, 3, .inl fr))]))) H locs := ⟨_, InA_o hI_f26_1 (by rw [nI_clamp (by omega)]; omega), rfl, G⟩
        refine lv_iinc (v := (nI (k26 + 1))) (lv' := [(1, .int (nI (k26 + 1))), (0, .ref m0)]) zx zb dX11_undo_59 hl (k := 0) rfl (nI_add k26 1) (by decide) rfl (fun ls hl => ?_)
        refine lv_goto (tgt := 26) zx zb dX11_undo_62 (by decide) ?_
        exact ih26 (k26 + 1) f_10 _ _ _ (by omega) hI_f_10 (by omega) G hl
  · have fc_2 := j_eq (a := c4) (b := 0) (by omega) (by omega) c_2
    refine lv_aload_n zx zb dX11_undo_9 rfl (lv_at hl 0 rfl) ?_
    refine b_wi (cells' := 0) (slots' := 0) (wr := [((ma 0), .inl (X.2.1, 371, .inl fa))]) G rfl rfl [0, 2] [1] rfl rfl rfl rfl (n_V (As := []) (rest := []) (C := RX11) (T := TX11) (N := 18) (ci := 9) S G (m_no l X m0 ma la lb n t v fr hI_n hI_t s.heap.size) gX11_undo_X11_no rfl rfl rfl hdV_X11_no ⟨Nat.le_of_ble_eq_true rfl, Nat.le_of_ble_eq_true rfl⟩ [0, 2] rfl rfl 0 rfl rfl rfl hl.1 (Nat.le_of_ble_eq_true rfl) dX11_undo_10 ⟨Nat.le_of_ble_eq_true rfl, Nat.le_of_ble_eq_true rfl⟩) (fun r_11 u_11 H locs hp_11 G => ?_)
    obtain ⟨f_11, rfl⟩ : ∃ z, z = u_11 := ⟨_, rfl⟩
    have hq_11 := hp_11
    have G : wd X (va_A (@HAppend.hAppend va_W va_W va_W _ (mW m0 ma la lb n t v) (@HAppend.hAppend va_W va_W va_W _ ([((ma 0), .inl (X.2.1, 371, .inl fa))]) ([((ma 3), .inl (X.2.1, 3, .inl fr))]))) sz) (va_A (@HAppend.hAppend va_W va_W va_W _ (mW m0 ma la lb n t v) (@HAppend.hAppend va_W va_W va_W _ ([((ma 0), .inl (X.2.1, 371, .inl fa))]) ([((ma 3), .inl (X.2.1, 3, .inl fr))]))) sz) s (@HAppend.hAppend va_W va_W va_W _ ([((ma 0), .inl (X.2.1, 371, .inl fa))]) (@HAppend.hAppend va_W va_W va_W _ (mW m0 ma la lb n t v) ([((ma 3), .inl (X.2.1, 3, .inl f_11))]))) H locs := G
    obtain rfl := hq_11
    exact e_int S zr zlk (vp_nar_int _) G (fa, c4, f_11) [1, 0, 2] rfl rfl (Or.inr rfl) (⟨hI_fa, trivial⟩) dX11_undo_13
theorem in_X11_toldOf_X11 : ∀ w ∈ wsX110, w ∈ wsX11_toldOf := by decide +kernel
theorem lk_X11_toldOf_7 : Cond.fieldLink RX11 7 "EggSpoonsModel" "all" "[I" ∈ wsX11_toldOf := by decide +kernel
set_option maxHeartbeats 4000000 in
set_option maxRecDepth 100000 in
/-- toldOf -/
theorem m_toldOf (l : Launch) (X : EX) (m0 : Nat) (ma : Nat → Nat) (la : Int64) (lb : Int64) (n : Nat) (t : Nat → Nat) (v : Nat → Int32) (fa : Nat → Int32) (c0 : Nat) (c1 : Nat) (c2 : Nat) (c3 : Nat) (c4 : Nat) (i : Nat) (x2 : Int32) (hI_n : n ≤ 150) (hI_t : InT t) (hI_fa : InA fa c0 c1 c2 c3 c4) (h6 : i < 6) (sz : Nat) : Met l yX11_toldOf wsX11_toldOf ({ frames := 2, cells := 0, slots := 0, locals := 48 } : Room) (pE X [.ref m0, .int (nI i), .int x2] (@HAppend.hAppend va_W va_W va_W _ (mW m0 ma la lb n t v) ([((ma 0), .inl (X.2.1, 371, .inl fa))])) sz) (qI (fun (r : Int32) (u : Unit) => True) X (fun (u : Unit) => []) [] sz) 0 0 (va_A [] sz) := by
  refine mk_met (B := (fun _ => True)) (A := (va_A [] sz)) (cc := cX11_toldOf) (maxL := 3) (ret := (some .int)) (by decide) rfl (Nat.le_of_ble_eq_true rfl) k_ro k_a (fun p e s m below meth c S zr zlk znm zsz G ls hl => ?_)
  have S : CallFix p m c cX11_toldOf 3 s _ wsX11_toldOf RX11 := S
  have zx := S.1
  have zb := S.2.1
  have hl : lv_has ls 3 [(0, .ref m0), (1, .int (nI i)), (2, .int x2)] := hl
  have hO_t := hI_t
  obtain ⟨ht0_t, ht1_t⟩ := hO_t
  have hO_fa := hI_fa.2
  obtain ⟨hm0_fa, hm1_fa, hm2_fa, hm3_fa, hm4_fa⟩ := hO_fa
  refine lv_iload_n zx zb dX11_toldOf_0 rfl (lv_at hl 2 rfl) ?_
  rcases k_ts0_8 x2 with w_1 | w_1 | w_1 | w_1 | w_1 | w_1 | w_1 | w_1 | w_1 | w_1
  · refine k_it w_1 ?_
    refine lv_tableIn (off := 51) (tgt := 52) zx zb dX11_toldOf_1 (by decide) (by decide) rfl (by decide) ?_
    refine lv_aload_n zx zb dX11_toldOf_52 rfl (lv_at hl 0 rfl) ?_
    refine r_get (C := RX11) (T := TX11) (N := 18) (ci := 9) (v := .ref (ma 0)) S in_X11_toldOf_X11 G 0 rfl rfl 0 (by decide) lk_X11_toldOf_7 rfl dX11_toldOf_53 ?_
    refine lv_bipush (v := 37) zx zb dX11_toldOf_56 (by decide) ?_
    refine lv_iload_n zx zb dX11_toldOf_58 rfl (lv_at hl 1 rfl) ?_
    refine r_iadd (v := (nI (37 + i))) S (nI_add 37 i) dX11_toldOf_59 ?_
    refine r_iald S G 1 rfl (vp_in_nI (by omega) (by decide)) rfl dX11_toldOf_60 ?_
    refine k_itE (fun y_2 => ?_)
    exact e_int S zr zlk (vp_nar_int _) G () [] rfl rfl (Or.inl rfl) (trivial) dX11_toldOf_61
  · refine k_it w_1 ?_
    refine lv_tableIn (off := 61) (tgt := 62) zx zb dX11_toldOf_1 (by decide) (by decide) rfl (by decide) ?_
    refine lv_aload_n zx zb dX11_toldOf_62 rfl (lv_at hl 0 rfl) ?_
    refine r_get (C := RX11) (T := TX11) (N := 18) (ci := 9) (v := .ref (ma 0)) S in_X11_toldOf_X11 G 0 rfl rfl 0 (by decide) lk_X11_toldOf_7 rfl dX11_toldOf_63 ?_
    refine lv_bipush (v := 43) zx zb dX11_toldOf_66 (by decide) ?_
    refine lv_iload_n zx zb dX11_toldOf_68 rfl (lv_at hl 1 rfl) ?_
    refine r_iadd (v := (nI (43 + i))) S (nI_add 43 i) dX11_toldOf_69 ?_
    refine r_iald S G 1 rfl (vp_in_nI (by omega) (by decide)) rfl dX11_toldOf_70 ?_
    refine k_itE (fun y_3 => ?_)
    exact e_int S zr zlk (vp_nar_int _) G () [] rfl rfl (Or.inl rfl) (trivial) dX11_toldOf_71
  · refine k_it w_1 ?_
    refine lv_tableIn (off := 71) (tgt := 72) zx zb dX11_toldOf_1 (by decide) (by decide) rfl (by decide) ?_
    refine lv_aload_n zx zb dX11_toldOf_72 rfl (lv_at hl 0 rfl) ?_
    refine r_get (C := RX11) (T := TX11) (N := 18) (ci := 9) (v := .ref (ma 0)) S in_X11_toldOf_X11 G 0 rfl rfl 0 (by decide) lk_X11_toldOf_7 rfl dX11_toldOf_73 ?_
    refine lv_bipush (v := 49) zx zb dX11_toldOf_76 (by decide) ?_
    refine lv_iload_n zx zb dX11_toldOf_78 rfl (lv_at hl 1 rfl) ?_
    refine r_iadd (v := (nI (49 + i))) S (nI_add 49 i) dX11_toldOf_79 ?_
    refine r_iald S G 1 rfl (vp_in_nI (by omega) (by decide)) rfl dX11_toldOf_80 ?_
    refine k_itE (fun y_4 => ?_)
    exact e_int S zr zlk (vp_nar_int _) G () [] rfl rfl (Or.inl rfl) (trivial) dX11_toldOf_81
  · refine k_it w_1 ?_
    refine lv_tableIn (off := 81) (tgt := 82) zx zb dX11_toldOf_1 (by decide) (by decide) rfl (by decide) ?_
    refine lv_aload_n zx zb dX11_toldOf_82 rfl (lv_at hl 0 rfl) ?_
    refine r_get (C := RX11) (T := TX11) (N := 18) (ci := 9) (v := .ref (ma 0)) S in_X11_toldOf_X11 G 0 rfl rfl 0 (by decide) lk_X11_toldOf_7 rfl dX11_toldOf_83 ?_
    refine lv_bipush (v := 11) zx zb dX11_toldOf_86 (by decide) ?_
    refine lv_iload_n zx zb dX11_toldOf_88 rfl (lv_at hl 1 rfl) ?_
    refine r_iadd (v := (nI (11 + i))) S (nI_add 11 i) dX11_toldOf_89 ?_
    refine r_iald S G 1 rfl (vp_in_nI (by omega) (by decide)) rfl dX11_toldOf_90 ?_
    refine k_itE (fun y_5 => ?_)
    exact e_int S zr zlk (vp_nar_int _) G () [] rfl rfl (Or.inl rfl) (trivial) dX11_toldOf_91
  · refine k_it w_1 ?_
    refine lv_tableIn (off := 91) (tgt := 92) zx zb dX11_toldOf_1 (by decide) (by decide) rfl (by decide) ?_
    refine lv_aload_n zx zb dX11_toldOf_92 rfl (lv_at hl 0 rfl) ?_
    refine r_get (C := RX11) (T := TX11) (N := 18) (ci := 9) (v := .ref (ma 0)) S in_X11_toldOf_X11 G 0 rfl rfl 0 (by decide) lk_X11_toldOf_7 rfl dX11_toldOf_93 ?_
    refine lv_iconst (v := 5) zx zb dX11_toldOf_96 (by decide) ?_
    refine lv_iload_n zx zb dX11_toldOf_97 rfl (lv_at hl 1 rfl) ?_
    refine r_iadd (v := (nI (5 + i))) S (nI_add 5 i) dX11_toldOf_98 ?_
    refine r_iald S G 1 rfl (vp_in_nI (by omega) (by decide)) rfl dX11_toldOf_99 ?_
    refine k_itE (fun y_6 => ?_)
    exact e_int S zr zlk (vp_nar_int _) G () [] rfl rfl (Or.inl rfl) (trivial) dX11_toldOf_100
  · refine k_it w_1 ?_
    refine lv_tableIn (off := 100) (tgt := 101) zx zb dX11_toldOf_1 (by decide) (by decide) rfl (by decide) ?_
    refine lv_aload_n zx zb dX11_toldOf_101 rfl (lv_at hl 0 rfl) ?_
    refine r_get (C := RX11) (T := TX11) (N := 18) (ci := 9) (v := .ref (ma 0)) S in_X11_toldOf_X11 G 0 rfl rfl 0 (by decide) lk_X11_toldOf_7 rfl dX11_toldOf_102 ?_
    refine lv_bipush (v := 17) zx zb dX11_toldOf_105 (by decide) ?_
    refine lv_iload_n zx zb dX11_toldOf_107 rfl (lv_at hl 1 rfl) ?_
    refine r_iadd (v := (nI (17 + i))) S (nI_add 17 i) dX11_toldOf_108 ?_
    refine r_iald S G 1 rfl (vp_in_nI (by omega) (by decide)) rfl dX11_toldOf_109 ?_
    refine k_itE (fun y_7 => ?_)
    exact e_int S zr zlk (vp_nar_int _) G () [] rfl rfl (Or.inl rfl) (trivial) dX11_toldOf_110
  · refine k_it w_1 ?_
    refine lv_tableIn (off := 110) (tgt := 111) zx zb dX11_toldOf_1 (by decide) (by decide) rfl (by decide) ?_
    refine lv_aload_n zx zb dX11_toldOf_111 rfl (lv_at hl 0 rfl) ?_
    refine r_get (C := RX11) (T := TX11) (N := 18) (ci := 9) (v := .ref (ma 0)) S in_X11_toldOf_X11 G 0 rfl rfl 0 (by decide) lk_X11_toldOf_7 rfl dX11_toldOf_112 ?_
    refine lv_bipush (v := 23) zx zb dX11_toldOf_115 (by decide) ?_
    refine lv_iload_n zx zb dX11_toldOf_117 rfl (lv_at hl 1 rfl) ?_
    refine r_iadd (v := (nI (23 + i))) S (nI_add 23 i) dX11_toldOf_118 ?_
    refine r_iald S G 1 rfl (vp_in_nI (by omega) (by decide)) rfl dX11_toldOf_119 ?_
    refine k_itE (fun y_8 => ?_)
    exact e_int S zr zlk (vp_nar_int _) G () [] rfl rfl (Or.inl rfl) (trivial) dX11_toldOf_120
  · refine k_it w_1 ?_
    refine lv_tableIn (off := 120) (tgt := 121) zx zb dX11_toldOf_1 (by decide) (by decide) rfl (by decide) ?_
    refine lv_aload_n zx zb dX11_toldOf_121 rfl (lv_at hl 0 rfl) ?_
    refine r_get (C := RX11) (T := TX11) (N := 18) (ci := 9) (v := .ref (ma 0)) S in_X11_toldOf_X11 G 0 rfl rfl 0 (by decide) lk_X11_toldOf_7 rfl dX11_toldOf_122 ?_
    refine lv_iload_n zx zb dX11_toldOf_125 rfl (lv_at hl 1 rfl) ?_
    refine o_ri (cells' := 0) (slots' := 0) G rfl rfl (n_S (As := [.ref (ma 0), .int (nI i)]) (rest := []) S G (m_isHome l X (ma 0) 371 fa c0 c1 c2 c3 c4 i hI_fa (by omega) (by omega) (by omega) s.heap.size) gX11_toldOf_X11_isHome rfl rfl rfl hdS_X11_isHome ⟨Nat.le_of_ble_eq_true rfl, Nat.le_of_ble_eq_true rfl⟩ [1] rfl rfl rfl hl.1 (Nat.le_of_ble_eq_true rfl) dX11_toldOf_126 ⟨Nat.le_of_ble_eq_true rfl, Nat.le_of_ble_eq_true rfl⟩) (fun r_9 u_9 H locs hp_9 G => ?_)
    have G : wd X (fun _ => True) (va_A [] sz) s (@HAppend.hAppend va_W va_W va_W _ (mW m0 ma la lb n t v) ([((ma 0), .inl (X.2.1, 371, .inl fa))])) H locs := G
    refine k_cutW (PP := fun Wx => ∀ (x_11 : Int32) (H : Heap) (locs : List Loc) (ls : Array Slot), wd X (fun _ => True) (va_A [] sz) s (@HAppend.hAppend va_W va_W va_W _ (mW m0 ma la lb n t v) ([((ma 0), .inl (X.2.1, 371, .inl fa))])) H locs → lv_has ls 3 [(0, .ref m0), (1, .int (nI i)), (2, .int x2)] → Wx (F0 m 145 ls [.int x_11]) H locs) ?_ ?_
    · intro join_129
      refine lv_if_eq (tgt := 144) zx zb dX11_toldOf_129 (by decide) (fun c_10 => ?_) (fun c_10 => ?_)
      · refine lv_iconst (v := (-1)) zx zb dX11_toldOf_144 (by decide) ?_
        exact join_129 (-1) _ _ _  G hl
      · refine lv_aload_n zx zb dX11_toldOf_132 rfl (lv_at hl 0 rfl) ?_
        refine r_get (C := RX11) (T := TX11) (N := 18) (ci := 9) (v := .ref (ma 0)) S in_X11_toldOf_X11 G 0 rfl rfl 0 (by decide) lk_X11_toldOf_7 rfl dX11_toldOf_133 ?_
        refine lv_bipush (v := 29) zx zb dX11_toldOf_136 (by decide) ?_
        refine lv_iload_n zx zb dX11_toldOf_138 rfl (lv_at hl 1 rfl) ?_
        refine r_iadd (v := (nI (29 + i))) S (nI_add 29 i) dX11_toldOf_139 ?_
        refine r_iald S G 1 rfl (vp_in_nI (by omega) (by decide)) rfl dX11_toldOf_140 ?_
        refine k_itE (fun y_12 => ?_)
        refine lv_goto (tgt := 145) zx zb dX11_toldOf_141 (by decide) ?_
        exact join_129 y_12 _ _ _  G hl
    · intro x_11 H locs ls  G hl
      exact e_int S zr zlk (vp_nar_int _) G () [] rfl rfl (Or.inl rfl) (trivial) dX11_toldOf_145
  · refine k_it w_1 ?_
    refine lv_tableIn (off := 145) (tgt := 146) zx zb dX11_toldOf_1 (by decide) (by decide) rfl (by decide) ?_
    refine lv_aload_n zx zb dX11_toldOf_146 rfl (lv_at hl 0 rfl) ?_
    refine r_get (C := RX11) (T := TX11) (N := 18) (ci := 9) (v := .ref (ma 0)) S in_X11_toldOf_X11 G 0 rfl rfl 0 (by decide) lk_X11_toldOf_7 rfl dX11_toldOf_147 ?_
    refine lv_iload_n zx zb dX11_toldOf_150 rfl (lv_at hl 1 rfl) ?_
    refine lv_aload_n zx zb dX11_toldOf_151 rfl (lv_at hl 0 rfl) ?_
    refine r_get (C := RX11) (T := TX11) (N := 18) (ci := 9) (v := .ref (ma 0)) S in_X11_toldOf_X11 G 0 rfl rfl 0 (by decide) lk_X11_toldOf_7 rfl dX11_toldOf_152 ?_
    refine lv_bipush (v := 35) zx zb dX11_toldOf_155 (by decide) ?_
    refine r_iald S G 1 rfl (k_vp (by decide)) rfl dX11_toldOf_157 ?_
    refine k_itE (fun y_13 => ?_)
    refine lv_iconst (v := 1) zx zb dX11_toldOf_158 (by decide) ?_
    refine r_iadd (v := (y_13 + 1)) S rfl dX11_toldOf_159 ?_
    refine o_ri (cells' := 0) (slots' := 0) G rfl rfl (n_S (As := [.ref (ma 0), .int (nI i), .int (y_13 + 1)]) (rest := []) S G (m_runsOf l X (ma 0) 371 fa c0 c1 c2 c3 c4 i (y_13 + 1) hI_fa (by omega) (by omega) (by omega) s.heap.size) gX11_toldOf_X11_runsOf rfl rfl rfl hdS_X11_runsOf ⟨Nat.le_of_ble_eq_true rfl, Nat.le_of_ble_eq_true rfl⟩ [1] rfl rfl rfl hl.1 (Nat.le_of_ble_eq_true rfl) dX11_toldOf_160 ⟨Nat.le_of_ble_eq_true rfl, Nat.le_of_ble_eq_true rfl⟩) (fun r_14 u_14 H locs hp_14 G => ?_)
    have G : wd X (fun _ => True) (va_A [] sz) s (@HAppend.hAppend va_W va_W va_W _ (mW m0 ma la lb n t v) ([((ma 0), .inl (X.2.1, 371, .inl fa))])) H locs := G
    exact e_int S zr zlk (vp_nar_int _) G () [] rfl rfl (Or.inl rfl) (trivial) dX11_toldOf_163
  · refine lv_tableOut (tgt := 164) zx zb dX11_toldOf_1 w_1 (by decide) ?_
    refine lv_aload_n zx zb dX11_toldOf_164 rfl (lv_at hl 0 rfl) ?_
    refine r_get (C := RX11) (T := TX11) (N := 18) (ci := 9) (v := .ref (ma 0)) S in_X11_toldOf_X11 G 0 rfl rfl 0 (by decide) lk_X11_toldOf_7 rfl dX11_toldOf_165 ?_
    refine lv_bipush (v := 49) zx zb dX11_toldOf_168 (by decide) ?_
    refine lv_iload_n zx zb dX11_toldOf_170 rfl (lv_at hl 1 rfl) ?_
    refine r_iadd (v := (nI (49 + i))) S (nI_add 49 i) dX11_toldOf_171 ?_
    refine r_iald S G 1 rfl (vp_in_nI (by omega) (by decide)) rfl dX11_toldOf_172 ?_
    refine k_itE (fun y_15 => ?_)
    refine lv_aload_n zx zb dX11_toldOf_173 rfl (lv_at hl 0 rfl) ?_
    refine r_get (C := RX11) (T := TX11) (N := 18) (ci := 9) (v := .ref (ma 0)) S in_X11_toldOf_X11 G 0 rfl rfl 0 (by decide) lk_X11_toldOf_7 rfl dX11_toldOf_174 ?_
    refine lv_bipush (v := 35) zx zb dX11_toldOf_177 (by decide) ?_
    refine r_iald S G 1 rfl (k_vp (by decide)) rfl dX11_toldOf_179 ?_
    refine k_itE (fun y_16 => ?_)
    refine lv_iconst (v := 1) zx zb dX11_toldOf_180 (by decide) ?_
    refine r_iadd (v := (y_16 + 1)) S rfl dX11_toldOf_181 ?_
    refine o_ri (cells' := 0) (slots' := 0) G rfl rfl (n_S (As := [.int y_15, .int (y_16 + 1)]) (rest := []) S G (m_mayAs l X y_15 (y_16 + 1) s.heap.size) gX11_toldOf_X11_mayAs rfl rfl rfl hdS_X11_mayAs ⟨Nat.le_of_ble_eq_true rfl, Nat.le_of_ble_eq_true rfl⟩ [] rfl rfl rfl hl.1 (Nat.le_of_ble_eq_true rfl) dX11_toldOf_182 ⟨Nat.le_of_ble_eq_true rfl, Nat.le_of_ble_eq_true rfl⟩) (fun r_17 u_17 H locs hp_17 G => ?_)
    have G : wd X (fun _ => True) (va_A [] sz) s (@HAppend.hAppend va_W va_W va_W _ (mW m0 ma la lb n t v) ([((ma 0), .inl (X.2.1, 371, .inl fa))])) H locs := G
    exact e_int S zr zlk (vp_nar_int _) G () [] rfl rfl (Or.inl rfl) (trivial) dX11_toldOf_185
theorem mm_X11_of_c62 : Cond.constantLong RX11 62 (9) ∈ wsX11_of := by decide +kernel
theorem hdV_X11_toldOf : yX11_toldOf.cls = RX11 ∧ yX11_toldOf.cls ≠ "java/lang/invoke/MethodHandle" ∧ yX11_toldOf.cls ≠ "java/lang/invoke/VarHandle" ∧ (parseMethodDescriptor yX11_toldOf.desc).map (fun d => d.parameters.length) = some 2 := by decide +kernel
set_option maxHeartbeats 4000000 in
set_option maxRecDepth 100000 in
/-- of -/
theorem m_of (l : Launch) (X : EX) (m0 : Nat) (ma : Nat → Nat) (la : Int64) (lb : Int64) (n : Nat) (t : Nat → Nat) (v : Nat → Int32) (fa : Nat → Int32) (c0 : Nat) (c1 : Nat) (c2 : Nat) (c3 : Nat) (c4 : Nat) (fr : Nat → Int32) (x1 : Int32) (x2 : Int32) (hI_n : n ≤ 150) (hI_t : InT t) (hI_fa : InA fa c0 c1 c2 c3 c4) (sz : Nat) : Met l yX11_of wsX11_of ({ frames := 3, cells := 0, slots := 0, locals := 70 } : Room) (pE X [.ref m0, .int x1, .int x2] (@HAppend.hAppend va_W va_W va_W _ (mW m0 ma la lb n t v) (@HAppend.hAppend va_W va_W va_W _ ([((ma 0), .inl (X.2.1, 371, .inl fa))]) ([((ma 3), .inl (X.2.1, 3, .inl fr))]))) sz) (qI (fun (r : Int32) (u : (Nat → Int32)) => (True)) X (fun (u : (Nat → Int32)) => @HAppend.hAppend va_W va_W va_W _ (mW m0 ma la lb n t v) (@HAppend.hAppend va_W va_W va_W _ ([((ma 0), .inl (X.2.1, 371, .inl fa))]) ([((ma 3), .inl (X.2.1, 3, .inl u))]))) (@HAppend.hAppend va_W va_W va_W _ (mW m0 ma la lb n t v) (@HAppend.hAppend va_W va_W va_W _ ([((ma 0), .inl (X.2.1, 371, .inl fa))]) ([((ma 3), .inl (X.2.1, 3, .inl fr))]))) sz) 0 0 (va_A (@HAppend.hAppend va_W va_W va_W _ (mW m0 ma la lb n t v) (@HAppend.hAppend va_W va_W va_W _ ([((ma 0), .inl (X.2.1, 371, .inl fa))]) ([((ma 3), .inl (X.2.1, 3, .inl fr))]))) sz) := by
  refine mk_met (B := (va_A (@HAppend.hAppend va_W va_W va_W _ (mW m0 ma la lb n t v) (@HAppend.hAppend va_W va_W va_W _ ([((ma 0), .inl (X.2.1, 371, .inl fa))]) ([((ma 3), .inl (X.2.1, 3, .inl fr))]))) sz)) (A := (va_A (@HAppend.hAppend va_W va_W va_W _ (mW m0 ma la lb n t v) (@HAppend.hAppend va_W va_W va_W _ ([((ma 0), .inl (X.2.1, 371, .inl fa))]) ([((ma 3), .inl (X.2.1, 3, .inl fr))]))) sz)) (cc := cX11_of) (maxL := 3) (ret := (some .int)) (by decide) rfl (Nat.le_of_ble_eq_true rfl) k_w k_a (fun p e s m below meth c S zr zlk znm zsz G ls hl => ?_)
  have S : CallFix p m c cX11_of 3 s _ wsX11_of RX11 := S
  have zx := S.1
  have zb := S.2.1
  have hl : lv_has ls 3 [(0, .ref m0), (1, .int x1), (2, .int x2)] := hl
  have hO_t := hI_t
  obtain ⟨ht0_t, ht1_t⟩ := hO_t
  have hO_fa := hI_fa.2
  obtain ⟨hm0_fa, hm1_fa, hm2_fa, hm3_fa, hm4_fa⟩ := hO_fa
  refine lv_aload_n zx zb dX11_of_0 rfl (lv_at hl 0 rfl) ?_
  refine lv_iload_n zx zb dX11_of_1 rfl (lv_at hl 1 rfl) ?_
  refine o_ri (cells' := 0) (slots' := 0) G rfl rfl (n_V (As := [.int x1]) (rest := []) (C := RX11) (T := TX11) (N := 18) (ci := 9) S G (m_isOne l X m0 ma la lb n t v fa c0 c1 c2 c3 c4 x1 hI_n hI_t hI_fa s.heap.size) gX11_of_X11_isOne rfl rfl rfl hdV_X11_isOne ⟨Nat.le_of_ble_eq_true rfl, Nat.le_of_ble_eq_true rfl⟩ [0, 1] rfl rfl 0 rfl rfl rfl hl.1 (Nat.le_of_ble_eq_true rfl) dX11_of_2 ⟨Nat.le_of_ble_eq_true rfl, Nat.le_of_ble_eq_true rfl⟩) (fun r_1 u_1 H locs hp_1 G => ?_)
  have G : wd X (va_A (@HAppend.hAppend va_W va_W va_W _ (mW m0 ma la lb n t v) (@HAppend.hAppend va_W va_W va_W _ ([((ma 0), .inl (X.2.1, 371, .inl fa))]) ([((ma 3), .inl (X.2.1, 3, .inl fr))]))) sz) (va_A (@HAppend.hAppend va_W va_W va_W _ (mW m0 ma la lb n t v) (@HAppend.hAppend va_W va_W va_W _ ([((ma 0), .inl (X.2.1, 371, .inl fa))]) ([((ma 3), .inl (X.2.1, 3, .inl fr))]))) sz) s (@HAppend.hAppend va_W va_W va_W _ (mW m0 ma la lb n t v) (@HAppend.hAppend va_W va_W va_W _ ([((ma 0), .inl (X.2.1, 371, .inl fa))]) ([((ma 3), .inl (X.2.1, 3, .inl fr))]))) H locs := G
  rcases hp_1 with ⟨rfl, hj_1⟩ | ⟨rfl, hj_1⟩
  · obtain ⟨j_1, hj_1, rfl⟩ := hj_1
    refine lv_if_eq (tgt := 29) zx zb dX11_of_5 (by decide) (fun c_2 => absurd c_2 (by decide)) (fun c_2 => ?_)
    refine lv_iload_n zx zb dX11_of_8 rfl (lv_at hl 2 rfl) ?_
    refine lv_i2l (v := (Int32.toInt64 x2)) zx zb dX11_of_9 rfl ?_
    refine lv_lconst (v := (Int32.toInt64 0)) zx zb dX11_of_10 (by decide) ?_
    refine lv_ldc2 zx zb S.2.2.2.1 (S.2.2.2.2 _ mm_X11_of_c62) dX11_of_11 ?_
    refine k_ld (v := (Int32.toInt64 9)) (by decide) ?_
    refine o_ri (cells' := 0) (slots' := 0) G rfl rfl (n_S (As := [.long (Int32.toInt64 x2), .long (Int32.toInt64 0), .long (Int32.toInt64 9)]) (rest := []) S G (m_in l X x2 0 9 H.size) gX11_of_X11_in rfl rfl rfl hdS_X11_in ⟨Nat.le_of_ble_eq_true rfl, Nat.le_of_ble_eq_true rfl⟩ [] rfl rfl rfl hl.1 (Nat.le_of_ble_eq_true rfl) dX11_of_14 ⟨Nat.le_of_ble_eq_true rfl, Nat.le_of_ble_eq_true rfl⟩) (fun r_3 u_3 H locs hp_3 G => ?_)
    have G : wd X (va_A (@HAppend.hAppend va_W va_W va_W _ (mW m0 ma la lb n t v) (@HAppend.hAppend va_W va_W va_W _ ([((ma 0), .inl (X.2.1, 371, .inl fa))]) ([((ma 3), .inl (X.2.1, 3, .inl fr))]))) sz) (va_A (@HAppend.hAppend va_W va_W va_W _ (mW m0 ma la lb n t v) (@HAppend.hAppend va_W va_W va_W _ ([((ma 0), .inl (X.2.1, 371, .inl fa))]) ([((ma 3), .inl (X.2.1, 3, .inl fr))]))) sz) s (@HAppend.hAppend va_W va_W va_W _ (mW m0 ma la lb n t v) (@HAppend.hAppend va_W va_W va_W _ ([((ma 0), .inl (X.2.1, 371, .inl fa))]) ([((ma 3), .inl (X.2.1, 3, .inl fr))]))) H locs := G
    rcases hp_3 with ⟨rfl, hw_3⟩ | ⟨rfl, hw_3⟩
    · obtain ⟨j_3, ⟨ja_3, jb_3⟩, rfl⟩ := k_natR (a := 0) (b := 9) hw_3 rfl rfl (by decide) (by decide)
      refine lv_if_eq (tgt := 29) zx zb dX11_of_17 (by decide) (fun c_4 => absurd c_4 (by decide)) (fun c_4 => ?_)
      refine lv_aload_n zx zb dX11_of_20 rfl (lv_at hl 0 rfl) ?_
      refine lv_iload_n zx zb dX11_of_21 rfl (lv_at hl 1 rfl) ?_
      refine lv_iload_n zx zb dX11_of_22 rfl (lv_at hl 2 rfl) ?_
      refine o_ri (cells' := 0) (slots' := 0) G rfl rfl (n_V (As := [.int (nI j_1), .int (nI j_3)]) (rest := []) (C := RX11) (T := TX11) (N := 18) (ci := 9) S G (m_toldOf l X m0 ma la lb n t v fa c0 c1 c2 c3 c4 j_1 (nI j_3) hI_n hI_t hI_fa (by omega) H.size) gX11_of_X11_toldOf rfl rfl rfl hdV_X11_toldOf ⟨Nat.le_of_ble_eq_true rfl, Nat.le_of_ble_eq_true rfl⟩ [0, 1] rfl rfl 0 rfl rfl rfl hl.1 (Nat.le_of_ble_eq_true rfl) dX11_of_23 ⟨Nat.le_of_ble_eq_true rfl, Nat.le_of_ble_eq_true rfl⟩) (fun r_5 u_5 H locs hp_5 G => ?_)
      have G : wd X (va_A (@HAppend.hAppend va_W va_W va_W _ (mW m0 ma la lb n t v) (@HAppend.hAppend va_W va_W va_W _ ([((ma 0), .inl (X.2.1, 371, .inl fa))]) ([((ma 3), .inl (X.2.1, 3, .inl fr))]))) sz) (va_A (@HAppend.hAppend va_W va_W va_W _ (mW m0 ma la lb n t v) (@HAppend.hAppend va_W va_W va_W _ ([((ma 0), .inl (X.2.1, 371, .inl fa))]) ([((ma 3), .inl (X.2.1, 3, .inl fr))]))) sz) s (@HAppend.hAppend va_W va_W va_W _ (mW m0 ma la lb n t v) (@HAppend.hAppend va_W va_W va_W _ ([((ma 0), .inl (X.2.1, 371, .inl fa))]) ([((ma 3), .inl (X.2.1, 3, .inl fr))]))) H locs := G
      refine lv_goto (tgt := 35) zx zb dX11_of_26 (by decide) ?_
      exact e_int S zr zlk (vp_nar_int _) G (fr) [0, 1, 2] rfl rfl (Or.inr rfl) (trivial) dX11_of_35
    · refine lv_if_eq (tgt := 29) zx zb dX11_of_17 (by decide) (fun c_6 => ?_) (fun c_6 => absurd (by decide) c_6)
      refine lv_aload_n zx zb dX11_of_29 rfl (lv_at hl 0 rfl) ?_
      refine lv_bipush (v := (-2)) zx zb dX11_of_30 (by decide) ?_
      refine b_wi (cells' := 0) (slots' := 0) (wr := [((ma 0), .inl (X.2.1, 371, .inl fa))]) G rfl rfl [0, 2] [1] rfl rfl rfl rfl (n_V (As := [.int (-2)]) (rest := []) (C := RX11) (T := TX11) (N := 18) (ci := 9) S G (m_bad l X m0 ma la lb n t v fr (-2) hI_n hI_t H.size) gX11_of_X11_bad rfl rfl rfl hdV_X11_bad ⟨Nat.le_of_ble_eq_true rfl, Nat.le_of_ble_eq_true rfl⟩ [0, 2] rfl rfl 0 rfl rfl rfl hl.1 (Nat.le_of_ble_eq_true rfl) dX11_of_32 ⟨Nat.le_of_ble_eq_true rfl, Nat.le_of_ble_eq_true rfl⟩) (fun r_7 u_7 H locs hp_7 G => ?_)
      obtain ⟨f_7, rfl⟩ : ∃ z, z = u_7 := ⟨_, rfl⟩
      have hq_7 := hp_7
      have G : wd X (va_A (@HAppend.hAppend va_W va_W va_W _ (mW m0 ma la lb n t v) (@HAppend.hAppend va_W va_W va_W _ ([((ma 0), .inl (X.2.1, 371, .inl fa))]) ([((ma 3), .inl (X.2.1, 3, .inl fr))]))) sz) (va_A (@HAppend.hAppend va_W va_W va_W _ (mW m0 ma la lb n t v) (@HAppend.hAppend va_W va_W va_W _ ([((ma 0), .inl (X.2.1, 371, .inl fa))]) ([((ma 3), .inl (X.2.1, 3, .inl fr))]))) sz) s (@HAppend.hAppend va_W va_W va_W _ ([((ma 0), .inl (X.2.1, 371, .inl fa))]) (@HAppend.hAppend va_W va_W va_W _ (mW m0 ma la lb n t v) ([((ma 3), .inl (X.2.1, 3, .inl f_7))]))) H locs := G
      obtain rfl := hq_7
      exact e_int S zr zlk (vp_nar_int _) G (f_7) [1, 0, 2] rfl rfl (Or.inr rfl) (trivial) dX11_of_35
  · refine lv_if_eq (tgt := 29) zx zb dX11_of_5 (by decide) (fun c_8 => ?_) (fun c_8 => absurd (by decide) c_8)
    refine lv_aload_n zx zb dX11_of_29 rfl (lv_at hl 0 rfl) ?_
    refine lv_bipush (v := (-2)) zx zb dX11_of_30 (by decide) ?_
    refine b_wi (cells' := 0) (slots' := 0) (wr := [((ma 0), .inl (X.2.1, 371, .inl fa))]) G rfl rfl [0, 2] [1] rfl rfl rfl rfl (n_V (As := [.int (-2)]) (rest := []) (C := RX11) (T := TX11) (N := 18) (ci := 9) S G (m_bad l X m0 ma la lb n t v fr (-2) hI_n hI_t H.size) gX11_of_X11_bad rfl rfl rfl hdV_X11_bad ⟨Nat.le_of_ble_eq_true rfl, Nat.le_of_ble_eq_true rfl⟩ [0, 2] rfl rfl 0 rfl rfl rfl hl.1 (Nat.le_of_ble_eq_true rfl) dX11_of_32 ⟨Nat.le_of_ble_eq_true rfl, Nat.le_of_ble_eq_true rfl⟩) (fun r_9 u_9 H locs hp_9 G => ?_)
    obtain ⟨f_9, rfl⟩ : ∃ z, z = u_9 := ⟨_, rfl⟩
    have hq_9 := hp_9
    have G : wd X (va_A (@HAppend.hAppend va_W va_W va_W _ (mW m0 ma la lb n t v) (@HAppend.hAppend va_W va_W va_W _ ([((ma 0), .inl (X.2.1, 371, .inl fa))]) ([((ma 3), .inl (X.2.1, 3, .inl fr))]))) sz) (va_A (@HAppend.hAppend va_W va_W va_W _ (mW m0 ma la lb n t v) (@HAppend.hAppend va_W va_W va_W _ ([((ma 0), .inl (X.2.1, 371, .inl fa))]) ([((ma 3), .inl (X.2.1, 3, .inl fr))]))) sz) s (@HAppend.hAppend va_W va_W va_W _ ([((ma 0), .inl (X.2.1, 371, .inl fa))]) (@HAppend.hAppend va_W va_W va_W _ (mW m0 ma la lb n t v) ([((ma 3), .inl (X.2.1, 3, .inl f_9))]))) H locs := G
    obtain rfl := hq_9
    exact e_int S zr zlk (vp_nar_int _) G (f_9) [1, 0, 2] rfl rfl (Or.inr rfl) (trivial) dX11_of_35
theorem in_X11_layHand_X11 : ∀ w ∈ wsX110, w ∈ wsX11_layHand := by decide +kernel
theorem lk_X11_layHand_27 : Cond.fieldLink RX11 27 "EggSpoonsModel" "hand" "[I" ∈ wsX11_layHand := by decide +kernel
theorem lk_X11_layHand_7 : Cond.fieldLink RX11 7 "EggSpoonsModel" "all" "[I" ∈ wsX11_layHand := by decide +kernel
set_option maxHeartbeats 4000000 in
set_option maxRecDepth 100000 in
/-- layHand -/
theorem m_layHand (l : Launch) (X : EX) (m0 : Nat) (ma : Nat → Nat) (la : Int64) (lb : Int64) (n : Nat) (t : Nat → Nat) (v : Nat → Int32) (fa : Nat → Int32) (c0 : Nat) (c1 : Nat) (c2 : Nat) (c3 : Nat) (c4 : Nat) (fh : Nat → Int32) (d0 : Nat) (d1 : Nat) (d2 : Nat) (d3 : Nat) (d4 : Nat) (hI_n : n ≤ 150) (hI_t : InT t) (hI_fa : InA fa c0 c1 c2 c3 c4) (hI_fh : InA fh d0 d1 d2 d3 d4) (sz : Nat) : Met l yX11_layHand wsX11_layHand ({ frames := 0, cells := 0, slots := 0, locals := 0 } : Room) (pE X [.ref m0] (@HAppend.hAppend va_W va_W va_W _ (mW m0 ma la lb n t v) (@HAppend.hAppend va_W va_W va_W _ ([((ma 0), .inl (X.2.1, 371, .inl fa))]) ([((ma 6), .inl (X.2.1, 55, .inl fh))]))) sz) (qV (fun (u : (Nat → Int32) × (Nat) × (Nat) × (Nat) × (Nat) × (Nat)) => InA u.1 u.2.1 u.2.2.1 u.2.2.2.1 u.2.2.2.2.1 u.2.2.2.2.2 ∧ (True)) X (fun (u : (Nat → Int32) × (Nat) × (Nat) × (Nat) × (Nat) × (Nat)) => @HAppend.hAppend va_W va_W va_W _ (mW m0 ma la lb n t v) (@HAppend.hAppend va_W va_W va_W _ ([((ma 0), .inl (X.2.1, 371, .inl fa))]) ([((ma 6), .inl (X.2.1, 55, .inl u.1))]))) (@HAppend.hAppend va_W va_W va_W _ (mW m0 ma la lb n t v) (@HAppend.hAppend va_W va_W va_W _ ([((ma 0), .inl (X.2.1, 371, .inl fa))]) ([((ma 6), .inl (X.2.1, 55, .inl fh))]))) sz) 0 0 (va_A (@HAppend.hAppend va_W va_W va_W _ (mW m0 ma la lb n t v) (@HAppend.hAppend va_W va_W va_W _ ([((ma 0), .inl (X.2.1, 371, .inl fa))]) ([((ma 6), .inl (X.2.1, 55, .inl fh))]))) sz) := by
  refine mk_met (B := (va_A (@HAppend.hAppend va_W va_W va_W _ (mW m0 ma la lb n t v) (@HAppend.hAppend va_W va_W va_W _ ([((ma 0), .inl (X.2.1, 371, .inl fa))]) ([((ma 6), .inl (X.2.1, 55, .inl fh))]))) sz)) (A := (va_A (@HAppend.hAppend va_W va_W va_W _ (mW m0 ma la lb n t v) (@HAppend.hAppend va_W va_W va_W _ ([((ma 0), .inl (X.2.1, 371, .inl fa))]) ([((ma 6), .inl (X.2.1, 55, .inl fh))]))) sz)) (cc := cX11_layHand) (maxL := 2) (ret := none) (by decide) rfl (Nat.le_of_ble_eq_true rfl) k_w k_a (fun p e s m below meth c S zr zlk znm zsz G ls hl => ?_)
  have S : CallFix p m c cX11_layHand 2 s _ wsX11_layHand RX11 := S
  have zx := S.1
  have zb := S.2.1
  have hl : lv_has ls 2 [(0, .ref m0)] := hl
  have hO_t := hI_t
  obtain ⟨ht0_t, ht1_t⟩ := hO_t
  have hO_fa := hI_fa.2
  obtain ⟨hm0_fa, hm1_fa, hm2_fa, hm3_fa, hm4_fa⟩ := hO_fa
  have hO_fh := hI_fh.2
  obtain ⟨hm0_fh, hm1_fh, hm2_fh, hm3_fh, hm4_fh⟩ := hO_fh
  refine lv_iconst (v := 0) zx zb dX11_layHand_0 (by decide) ?_
  refine lv_istore_n (lv' := [(1, .int 0), (0, .ref m0)]) zx zb dX11_layHand_1 rfl hl (by decide) rfl (fun ls hl => ?_)
  refine k_loop (P := ∀ (zm : Nat) (k2 : Nat) (f2_2 : Nat → Int32) (c02_2 : Nat) (c12_2 : Nat) (c22_2 : Nat) (c32_2 : Nat) (c42_2 : Nat) (H : Heap) (locs : List Loc) (ls : Array Slot), 55 + 1 ≤ k2 + zm → InA f2_2 c02_2 c12_2 c22_2 c32_2 c42_2 → (k2 ≤ 55) → wd X (va_A (@HAppend.hAppend va_W va_W va_W _ (mW m0 ma la lb n t v) (@HAppend.hAppend va_W va_W va_W _ ([((ma 0), .inl (X.2.1, 371, .inl fa))]) ([((ma 6), .inl (X.2.1, 55, .inl fh))]))) sz) (va_A (@HAppend.hAppend va_W va_W va_W _ (mW m0 ma la lb n t v) (@HAppend.hAppend va_W va_W va_W _ ([((ma 0), .inl (X.2.1, 371, .inl fa))]) ([((ma 6), .inl (X.2.1, 55, .inl fh))]))) sz) s (@HAppend.hAppend va_W va_W va_W _ (mW m0 ma la lb n t v) (@HAppend.hAppend va_W va_W va_W _ ([((ma 0), .inl (X.2.1, 371, .inl fa))]) ([((ma 6), .inl (X.2.1, 55, .inl f2_2))]))) H locs → lv_has ls 2 [(1, .int (nI k2)), (0, .ref m0)] → W p l e _ s m _ below meth c H locs _ _ _ (F0 m 2 ls [])) (fun loop => loop (55 + 1) 0 fh d0 d1 d2 d3 d4 _ _ _ (by omega) hI_fh (by omega) G hl) ?_
  intro zm
  induction zm with
  | zero => intro k2 f2_2 c02_2 c12_2 c22_2 c32_2 c42_2 H locs ls zz q_hI_f2_2 q_hk_k2 _ _; exact absurd zz (by omega)
  | succ zm ih2 =>
    intro k2 f2_2 c02_2 c12_2 c22_2 c32_2 c42_2 H locs ls zm_2 hI_f2_2 hk_k2 G hl
    have hO_f2_2 := hI_f2_2.2
    obtain ⟨hm0_f2_2, hm1_f2_2, hm2_f2_2, hm3_f2_2, hm4_f2_2⟩ := hO_f2_2
    refine lv_iload_n zx zb dX11_layHand_2 rfl (lv_at hl 0 rfl) ?_
    refine lv_bipush (v := 55) zx zb dX11_layHand_3 (by decide) ?_
    refine lv_icmp_ge (tgt := 26) zx zb dX11_layHand_5 (by decide) (fun c_1 => ?_) (fun c_1 => ?_)
    · have fc_1 := j_le (a := 55) (b := k2) (by omega) (by omega) c_1
      exact e_void S zr zlk G (f2_2, c02_2, c12_2, c22_2, c32_2, c42_2) [0, 1, 2] rfl rfl (Or.inr rfl) (⟨hI_f2_2, trivial⟩) dX11_layHand_26
    · have fc_1 := j_nle (a := 55) (b := k2) (by omega) (by omega) c_1
      refine lv_aload_n zx zb dX11_layHand_8 rfl (lv_at hl 1 rfl) ?_
      refine r_get (C := RX11) (T := TX11) (N := 18) (ci := 9) (v := .ref (ma 6)) S in_X11_layHand_X11 G 0 rfl rfl 6 (by decide) lk_X11_layHand_27 rfl dX11_layHand_9 ?_
      refine lv_iload_n zx zb dX11_layHand_12 rfl (lv_at hl 0 rfl) ?_
      refine lv_aload_n zx zb dX11_layHand_13 rfl (lv_at hl 1 rfl) ?_
      refine r_get (C := RX11) (T := TX11) (N := 18) (ci := 9) (v := .ref (ma 0)) S in_X11_layHand_X11 G 0 rfl rfl 0 (by decide) lk_X11_layHand_7 rfl dX11_layHand_14 ?_
      refine lv_iload_n zx zb dX11_layHand_17 rfl (lv_at hl 0 rfl) ?_
      refine r_iald (v := (fa k2)) S G 1 rfl (vp_in_nI (by omega) (by decide)) (congrArg fa (nI_clamp (by omega))) dX11_layHand_18 ?_
      refine r_iast S G 2 rfl (vp_in_nI (by omega) (by decide)) dX11_layHand_19 (fun H locs G => ?_)
      obtain ⟨c_4, c_5, c_6, c_7, c_8, hI_f_3⟩ := InA_c (j := (nI k2).toNatClampNeg) (k := k2) hI_f2_2 hI_fa (nI_clamp (by omega))
      obtain ⟨f_3, hI_f_3, hE_f_3, G⟩ : ∃ f_3 : Nat → Int32, InA f_3 c_4 c_5 c_6 c_7 c_8 ∧ f_3 = upd f2_2 (nI k2).toNatClampNeg (fa k2) ∧ wd X (va_A (@HAppend.hAppend va_W va_W va_W _ (mW m0 ma la lb n t v) (@HAppend.hAppend va_W va_W va_W _ ([((ma 0), .inl (X.2.1, 371, .inl fa))]) ([((ma 6), .inl (X.2.1, 55, .inl fh))]))) sz) (va_A (@HAppend.hAppend va_W va_W va_W _ (mW m0 ma la lb n t v) (@HAppend.hAppend va_W va_W va_W _ ([((ma 0), .inl (X.2.1, 371, .inl fa))]) ([((ma 6), .inl (X.2.1, 55, .inl fh))]))) sz) s (@HAppend.hAppend va_W va_W va_W _ (mW m0 ma la lb n t v) (@HAppend.hAppend va_W va_W va_W _ ([((ma 0), .inl (X.2.1, 371, .inl fa))]) ([((ma 6), .inl (X.2.1, 55, .inl f_3))]))) H locs := ⟨_, hI_f_3, rfl, G⟩
      have hO_f_3 := hI_f_3.2
      obtain ⟨hm0_f_3, hm1_f_3, hm2_f_3, hm3_f_3, hm4_f_3⟩ := hO_f_3
      refine lv_iinc (v := (nI (k2 + 1))) (lv' := [(1, .int (nI (k2 + 1))), (0, .ref m0)]) zx zb dX11_layHand_20 hl (k := 0) rfl (nI_add k2 1) (by decide) rfl (fun ls hl => ?_)
      refine lv_goto (tgt := 2) zx zb dX11_layHand_23 (by decide) ?_
      exact ih2 (k2 + 1) f_3 c_4 c_5 c_6 c_7 c_8 _ _ _ (by omega) hI_f_3 (by omega) G hl
theorem in_X11_goAhead_X11 : ∀ w ∈ wsX110, w ∈ wsX11_goAhead := by decide +kernel
theorem lk_X11_goAhead_27 : Cond.fieldLink RX11 27 "EggSpoonsModel" "hand" "[I" ∈ wsX11_goAhead := by decide +kernel
set_option maxHeartbeats 4000000 in
set_option maxRecDepth 100000 in
/-- goAhead -/
theorem m_goAhead (l : Launch) (X : EX) (m0 : Nat) (ma : Nat → Nat) (la : Int64) (lb : Int64) (n : Nat) (t : Nat → Nat) (v : Nat → Int32) (fh : Nat → Int32) (d0 : Nat) (d1 : Nat) (d2 : Nat) (d3 : Nat) (d4 : Nat) (z : Nat) (hI_n : n ≤ 150) (hI_t : InT t) (hI_fh : InA fh d0 d1 d2 d3 d4) (hz : z ≤ 60) (sz : Nat) : Met l yX11_goAhead wsX11_goAhead ({ frames := 4, cells := 0, slots := 0, locals := 93 } : Room) (pE X [.ref m0, .int (nI z)] (@HAppend.hAppend va_W va_W va_W _ (mW m0 ma la lb n t v) ([((ma 6), .inl (X.2.1, 55, .inl fh))])) sz) (qV (fun (u : (Nat → Int32)) => InA u d0 d1 d2 d3 d4 ∧ (True)) X (fun (u : (Nat → Int32)) => @HAppend.hAppend va_W va_W va_W _ (mW m0 ma la lb n t v) ([((ma 6), .inl (X.2.1, 55, .inl u))])) (@HAppend.hAppend va_W va_W va_W _ (mW m0 ma la lb n t v) ([((ma 6), .inl (X.2.1, 55, .inl fh))])) sz) 0 0 (va_A (@HAppend.hAppend va_W va_W va_W _ (mW m0 ma la lb n t v) ([((ma 6), .inl (X.2.1, 55, .inl fh))])) sz) := by
  refine mk_met (B := (va_A (@HAppend.hAppend va_W va_W va_W _ (mW m0 ma la lb n t v) ([((ma 6), .inl (X.2.1, 55, .inl fh))])) sz)) (A := (va_A (@HAppend.hAppend va_W va_W va_W _ (mW m0 ma la lb n t v) ([((ma 6), .inl (X.2.1, 55, .inl fh))])) sz)) (cc := cX11_goAhead) (maxL := 3) (ret := none) (by decide) rfl (Nat.le_of_ble_eq_true rfl) k_w k_a (fun p e s m below meth c S zr zlk znm zsz G ls hl => ?_)
  have S : CallFix p m c cX11_goAhead 3 s _ wsX11_goAhead RX11 := S
  have zx := S.1
  have zb := S.2.1
  have hl : lv_has ls 3 [(0, .ref m0), (1, .int (nI z))] := hl
  have hO_t := hI_t
  obtain ⟨ht0_t, ht1_t⟩ := hO_t
  have hO_fh := hI_fh.2
  obtain ⟨hm0_fh, hm1_fh, hm2_fh, hm3_fh, hm4_fh⟩ := hO_fh
  refine lv_iconst (v := 0) zx zb dX11_goAhead_0 (by decide) ?_
  refine lv_istore_n (lv' := [(2, .int 0), (0, .ref m0), (1, .int (nI z))]) zx zb dX11_goAhead_1 rfl hl (by decide) rfl (fun ls hl => ?_)
  refine k_loop (P := ∀ (zm : Nat) (k2 : Nat) (f2_1 : Nat → Int32) (H : Heap) (locs : List Loc) (ls : Array Slot), z + 1 ≤ k2 + zm → InA f2_1 d0 d1 d2 d3 d4 → (k2 ≤ z) → wd X (va_A (@HAppend.hAppend va_W va_W va_W _ (mW m0 ma la lb n t v) ([((ma 6), .inl (X.2.1, 55, .inl fh))])) sz) (va_A (@HAppend.hAppend va_W va_W va_W _ (mW m0 ma la lb n t v) ([((ma 6), .inl (X.2.1, 55, .inl fh))])) sz) s (@HAppend.hAppend va_W va_W va_W _ (mW m0 ma la lb n t v) ([((ma 6), .inl (X.2.1, 55, .inl f2_1))])) H locs → lv_has ls 3 [(2, .int (nI k2)), (0, .ref m0), (1, .int (nI z))] → W p l e _ s m _ below meth c H locs _ _ _ (F0 m 2 ls [])) (fun loop => loop (z + 1) 0 fh _ _ _ (by omega) hI_fh (by omega) G hl) ?_
  intro zm
  induction zm with
  | zero => intro k2 f2_1 H locs ls zz q_hI_f2_1 q_hk_k2 _ _; exact absurd zz (by omega)
  | succ zm ih2 =>
    intro k2 f2_1 H locs ls zm_2 hI_f2_1 hk_k2 G hl
    refine lv_iload_n zx zb dX11_goAhead_2 rfl (lv_at hl 0 rfl) ?_
    refine lv_iload_n zx zb dX11_goAhead_3 rfl (lv_at hl 2 rfl) ?_
    refine lv_icmp_ge (tgt := 20) zx zb dX11_goAhead_4 (by decide) (fun c_1 => ?_) (fun c_1 => ?_)
    · have fc_1 := j_le (a := z) (b := k2) (by omega) (by omega) c_1
      exact e_void S zr zlk G (f2_1) [0, 1] rfl rfl (Or.inr rfl) (⟨hI_f2_1, trivial⟩) dX11_goAhead_20
    · have fc_1 := j_nle (a := z) (b := k2) (by omega) (by omega) c_1
      refine lv_aload_n zx zb dX11_goAhead_7 rfl (lv_at hl 1 rfl) ?_
      refine r_get (C := RX11) (T := TX11) (N := 18) (ci := 9) (v := .ref (ma 6)) S in_X11_goAhead_X11 G 0 rfl rfl 6 (by decide) lk_X11_goAhead_27 rfl dX11_goAhead_8 ?_
      refine b_wv (cells' := 0) (slots' := 0) (wr := mW m0 ma la lb n t v) G rfl rfl [1] [0] rfl rfl rfl rfl (n_S (As := [.ref (ma 6)]) (rest := []) S G (m_goTick l X (ma 6) 55 f2_1 d0 d1 d2 d3 d4 hI_f2_1 (by omega) (by omega) H.size) gX11_goAhead_X11_goTick rfl rfl rfl hdS_X11_goTick ⟨Nat.le_of_ble_eq_true rfl, Nat.le_of_ble_eq_true rfl⟩ [1] rfl rfl rfl hl.1 (Nat.le_of_ble_eq_true rfl) dX11_goAhead_11 ⟨Nat.le_of_ble_eq_true rfl, Nat.le_of_ble_eq_true rfl⟩) (fun u_2 H locs hp_2 G => ?_)
      obtain ⟨f_2, rfl⟩ : ∃ z, z = u_2 := ⟨_, rfl⟩
      obtain ⟨hI_f_2, hq_2⟩ := hp_2
      have G : wd X (va_A (@HAppend.hAppend va_W va_W va_W _ (mW m0 ma la lb n t v) ([((ma 6), .inl (X.2.1, 55, .inl fh))])) sz) (va_A (@HAppend.hAppend va_W va_W va_W _ (mW m0 ma la lb n t v) ([((ma 6), .inl (X.2.1, 55, .inl fh))])) sz) s (@HAppend.hAppend va_W va_W va_W _ (mW m0 ma la lb n t v) ([((ma 6), .inl (X.2.1, 55, .inl f_2))])) H locs := G
      refine lv_iinc (v := (nI (k2 + 1))) (lv' := [(2, .int (nI (k2 + 1))), (0, .ref m0), (1, .int (nI z))]) zx zb dX11_goAhead_14 hl (k := 0) rfl (nI_add k2 1) (by decide) rfl (fun ls hl => ?_)
      refine lv_goto (tgt := 2) zx zb dX11_goAhead_17 (by decide) ?_
      exact ih2 (k2 + 1) f_2 _ _ _ (by omega) hI_f_2 (by omega) G hl
theorem mm_X11_where_c66 : Cond.constantLong RX11 66 (60) ∈ wsX11_where := by decide +kernel
theorem hdV_X11_layHand : yX11_layHand.cls = RX11 ∧ yX11_layHand.cls ≠ "java/lang/invoke/MethodHandle" ∧ yX11_layHand.cls ≠ "java/lang/invoke/VarHandle" ∧ (parseMethodDescriptor yX11_layHand.desc).map (fun d => d.parameters.length) = some 0 := by decide +kernel
theorem hdV_X11_goAhead : yX11_goAhead.cls = RX11 ∧ yX11_goAhead.cls ≠ "java/lang/invoke/MethodHandle" ∧ yX11_goAhead.cls ≠ "java/lang/invoke/VarHandle" ∧ (parseMethodDescriptor yX11_goAhead.desc).map (fun d => d.parameters.length) = some 1 := by decide +kernel
theorem in_X11_where_X11 : ∀ w ∈ wsX110, w ∈ wsX11_where := by decide +kernel
theorem lk_X11_where_27 : Cond.fieldLink RX11 27 "EggSpoonsModel" "hand" "[I" ∈ wsX11_where := by decide +kernel
set_option maxHeartbeats 4000000 in
set_option maxRecDepth 100000 in
/-- where -/
theorem m_where (l : Launch) (X : EX) (m0 : Nat) (ma : Nat → Nat) (la : Int64) (lb : Int64) (n : Nat) (t : Nat → Nat) (v : Nat → Int32) (fa : Nat → Int32) (c0 : Nat) (c1 : Nat) (c2 : Nat) (c3 : Nat) (c4 : Nat) (fh : Nat → Int32) (d0 : Nat) (d1 : Nat) (d2 : Nat) (d3 : Nat) (d4 : Nat) (fr : Nat → Int32) (x1 : Int32) (x2 : Int32) (hI_n : n ≤ 150) (hI_t : InT t) (hI_fa : InA fa c0 c1 c2 c3 c4) (hI_fh : InA fh d0 d1 d2 d3 d4) (sz : Nat) : Met l yX11_where wsX11_where ({ frames := 5, cells := 0, slots := 0, locals := 115 } : Room) (pE X [.ref m0, .int x1, .int x2] (@HAppend.hAppend va_W va_W va_W _ (mW m0 ma la lb n t v) (@HAppend.hAppend va_W va_W va_W _ ([((ma 0), .inl (X.2.1, 371, .inl fa))]) (@HAppend.hAppend va_W va_W va_W _ ([((ma 6), .inl (X.2.1, 55, .inl fh))]) ([((ma 3), .inl (X.2.1, 3, .inl fr))])))) sz) (qI (fun (r : Int32) (u : (Nat → Int32) × (Nat) × (Nat) × (Nat) × (Nat) × (Nat) × (Nat → Int32)) => InA u.1 u.2.1 u.2.2.1 u.2.2.2.1 u.2.2.2.2.1 u.2.2.2.2.2.1 ∧ (True)) X (fun (u : (Nat → Int32) × (Nat) × (Nat) × (Nat) × (Nat) × (Nat) × (Nat → Int32)) => @HAppend.hAppend va_W va_W va_W _ (mW m0 ma la lb n t v) (@HAppend.hAppend va_W va_W va_W _ ([((ma 0), .inl (X.2.1, 371, .inl fa))]) (@HAppend.hAppend va_W va_W va_W _ ([((ma 6), .inl (X.2.1, 55, .inl u.1))]) ([((ma 3), .inl (X.2.1, 3, .inl u.2.2.2.2.2.2))])))) (@HAppend.hAppend va_W va_W va_W _ (mW m0 ma la lb n t v) (@HAppend.hAppend va_W va_W va_W _ ([((ma 0), .inl (X.2.1, 371, .inl fa))]) (@HAppend.hAppend va_W va_W va_W _ ([((ma 6), .inl (X.2.1, 55, .inl fh))]) ([((ma 3), .inl (X.2.1, 3, .inl fr))])))) sz) 0 0 (va_A (@HAppend.hAppend va_W va_W va_W _ (mW m0 ma la lb n t v) (@HAppend.hAppend va_W va_W va_W _ ([((ma 0), .inl (X.2.1, 371, .inl fa))]) (@HAppend.hAppend va_W va_W va_W _ ([((ma 6), .inl (X.2.1, 55, .inl fh))]) ([((ma 3), .inl (X.2.1, 3, .inl fr))])))) sz) := by
  refine mk_met (B := (va_A (@HAppend.hAppend va_W va_W va_W _ (mW m0 ma la lb n t v) (@HAppend.hAppend va_W va_W va_W _ ([((ma 0), .inl (X.2.1, 371, .inl fa))]) (@HAppend.hAppend va_W va_W va_W _ ([((ma 6), .inl (X.2.1, 55, .inl fh))]) ([((ma 3), .inl (X.2.1, 3, .inl fr))])))) sz)) (A := (va_A (@HAppend.hAppend va_W va_W va_W _ (mW m0 ma la lb n t v) (@HAppend.hAppend va_W va_W va_W _ ([((ma 0), .inl (X.2.1, 371, .inl fa))]) (@HAppend.hAppend va_W va_W va_W _ ([((ma 6), .inl (X.2.1, 55, .inl fh))]) ([((ma 3), .inl (X.2.1, 3, .inl fr))])))) sz)) (cc := cX11_where) (maxL := 3) (ret := (some .int)) (by decide) rfl (Nat.le_of_ble_eq_true rfl) k_w k_a (fun p e s m below meth c S zr zlk znm zsz G ls hl => ?_)
  have S : CallFix p m c cX11_where 3 s _ wsX11_where RX11 := S
  have zx := S.1
  have zb := S.2.1
  have hl : lv_has ls 3 [(0, .ref m0), (1, .int x1), (2, .int x2)] := hl
  have hO_t := hI_t
  obtain ⟨ht0_t, ht1_t⟩ := hO_t
  have hO_fa := hI_fa.2
  obtain ⟨hm0_fa, hm1_fa, hm2_fa, hm3_fa, hm4_fa⟩ := hO_fa
  have hO_fh := hI_fh.2
  obtain ⟨hm0_fh, hm1_fh, hm2_fh, hm3_fh, hm4_fh⟩ := hO_fh
  refine lv_aload_n zx zb dX11_where_0 rfl (lv_at hl 0 rfl) ?_
  refine lv_iload_n zx zb dX11_where_1 rfl (lv_at hl 1 rfl) ?_
  refine o_ri (cells' := 0) (slots' := 0) G rfl rfl (n_V (As := [.int x1]) (rest := []) (C := RX11) (T := TX11) (N := 18) (ci := 9) S G (m_isOne l X m0 ma la lb n t v fa c0 c1 c2 c3 c4 x1 hI_n hI_t hI_fa s.heap.size) gX11_where_X11_isOne rfl rfl rfl hdV_X11_isOne ⟨Nat.le_of_ble_eq_true rfl, Nat.le_of_ble_eq_true rfl⟩ [0, 1] rfl rfl 0 rfl rfl rfl hl.1 (Nat.le_of_ble_eq_true rfl) dX11_where_2 ⟨Nat.le_of_ble_eq_true rfl, Nat.le_of_ble_eq_true rfl⟩) (fun r_1 u_1 H locs hp_1 G => ?_)
  have G : wd X (va_A (@HAppend.hAppend va_W va_W va_W _ (mW m0 ma la lb n t v) (@HAppend.hAppend va_W va_W va_W _ ([((ma 0), .inl (X.2.1, 371, .inl fa))]) (@HAppend.hAppend va_W va_W va_W _ ([((ma 6), .inl (X.2.1, 55, .inl fh))]) ([((ma 3), .inl (X.2.1, 3, .inl fr))])))) sz) (va_A (@HAppend.hAppend va_W va_W va_W _ (mW m0 ma la lb n t v) (@HAppend.hAppend va_W va_W va_W _ ([((ma 0), .inl (X.2.1, 371, .inl fa))]) (@HAppend.hAppend va_W va_W va_W _ ([((ma 6), .inl (X.2.1, 55, .inl fh))]) ([((ma 3), .inl (X.2.1, 3, .inl fr))])))) sz) s (@HAppend.hAppend va_W va_W va_W _ (mW m0 ma la lb n t v) (@HAppend.hAppend va_W va_W va_W _ ([((ma 0), .inl (X.2.1, 371, .inl fa))]) (@HAppend.hAppend va_W va_W va_W _ ([((ma 6), .inl (X.2.1, 55, .inl fh))]) ([((ma 3), .inl (X.2.1, 3, .inl fr))])))) H locs := G
  rcases hp_1 with ⟨rfl, hj_1⟩ | ⟨rfl, hj_1⟩
  · obtain ⟨j_1, hj_1, rfl⟩ := hj_1
    refine lv_if_eq (tgt := 20) zx zb dX11_where_5 (by decide) (fun c_2 => absurd c_2 (by decide)) (fun c_2 => ?_)
    refine lv_iload_n zx zb dX11_where_8 rfl (lv_at hl 2 rfl) ?_
    refine lv_i2l (v := (Int32.toInt64 x2)) zx zb dX11_where_9 rfl ?_
    refine lv_lconst (v := (Int32.toInt64 0)) zx zb dX11_where_10 (by decide) ?_
    refine lv_ldc2 zx zb S.2.2.2.1 (S.2.2.2.2 _ mm_X11_where_c66) dX11_where_11 ?_
    refine k_ld (v := (Int32.toInt64 60)) (by decide) ?_
    refine o_ri (cells' := 0) (slots' := 0) G rfl rfl (n_S (As := [.long (Int32.toInt64 x2), .long (Int32.toInt64 0), .long (Int32.toInt64 60)]) (rest := []) S G (m_in l X x2 0 60 H.size) gX11_where_X11_in rfl rfl rfl hdS_X11_in ⟨Nat.le_of_ble_eq_true rfl, Nat.le_of_ble_eq_true rfl⟩ [] rfl rfl rfl hl.1 (Nat.le_of_ble_eq_true rfl) dX11_where_14 ⟨Nat.le_of_ble_eq_true rfl, Nat.le_of_ble_eq_true rfl⟩) (fun r_3 u_3 H locs hp_3 G => ?_)
    have G : wd X (va_A (@HAppend.hAppend va_W va_W va_W _ (mW m0 ma la lb n t v) (@HAppend.hAppend va_W va_W va_W _ ([((ma 0), .inl (X.2.1, 371, .inl fa))]) (@HAppend.hAppend va_W va_W va_W _ ([((ma 6), .inl (X.2.1, 55, .inl fh))]) ([((ma 3), .inl (X.2.1, 3, .inl fr))])))) sz) (va_A (@HAppend.hAppend va_W va_W va_W _ (mW m0 ma la lb n t v) (@HAppend.hAppend va_W va_W va_W _ ([((ma 0), .inl (X.2.1, 371, .inl fa))]) (@HAppend.hAppend va_W va_W va_W _ ([((ma 6), .inl (X.2.1, 55, .inl fh))]) ([((ma 3), .inl (X.2.1, 3, .inl fr))])))) sz) s (@HAppend.hAppend va_W va_W va_W _ (mW m0 ma la lb n t v) (@HAppend.hAppend va_W va_W va_W _ ([((ma 0), .inl (X.2.1, 371, .inl fa))]) (@HAppend.hAppend va_W va_W va_W _ ([((ma 6), .inl (X.2.1, 55, .inl fh))]) ([((ma 3), .inl (X.2.1, 3, .inl fr))])))) H locs := G
    rcases hp_3 with ⟨rfl, hw_3⟩ | ⟨rfl, hw_3⟩
    · obtain ⟨j_3, ⟨ja_3, jb_3⟩, rfl⟩ := k_natR (a := 0) (b := 60) hw_3 rfl rfl (by decide) (by decide)
      refine lv_if_ne (tgt := 27) zx zb dX11_where_17 (by decide) (fun c_4 => ?_) (fun c_4 => absurd c_4 (by decide))
      refine lv_aload_n zx zb dX11_where_27 rfl (lv_at hl 0 rfl) ?_
      refine b_wv (cells' := 0) (slots' := 0) (wr := [((ma 3), .inl (X.2.1, 3, .inl fr))]) G rfl rfl [0, 1, 2] [3] rfl rfl rfl rfl (n_V (As := []) (rest := []) (C := RX11) (T := TX11) (N := 18) (ci := 9) S G (m_layHand l X m0 ma la lb n t v fa c0 c1 c2 c3 c4 fh d0 d1 d2 d3 d4 hI_n hI_t hI_fa hI_fh H.size) gX11_where_X11_layHand rfl rfl rfl hdV_X11_layHand ⟨Nat.le_of_ble_eq_true rfl, Nat.le_of_ble_eq_true rfl⟩ [0, 1, 2] rfl rfl 0 rfl rfl rfl hl.1 (Nat.le_of_ble_eq_true rfl) dX11_where_28 ⟨Nat.le_of_ble_eq_true rfl, Nat.le_of_ble_eq_true rfl⟩) (fun u_5 H locs hp_5 G => ?_)
      obtain ⟨f_5a, c0_5b, c1_5c, c2_5d, c3_5e, c4_5f⟩ := u_5
      try dsimp only at hp_5
      obtain ⟨hI_f_5a, hq_5⟩ := hp_5
      have hO_f_5a := hI_f_5a.2
      obtain ⟨hm0_f_5a, hm1_f_5a, hm2_f_5a, hm3_f_5a, hm4_f_5a⟩ := hO_f_5a
      have G : wd X (va_A (@HAppend.hAppend va_W va_W va_W _ (mW m0 ma la lb n t v) (@HAppend.hAppend va_W va_W va_W _ ([((ma 0), .inl (X.2.1, 371, .inl fa))]) (@HAppend.hAppend va_W va_W va_W _ ([((ma 6), .inl (X.2.1, 55, .inl fh))]) ([((ma 3), .inl (X.2.1, 3, .inl fr))])))) sz) (va_A (@HAppend.hAppend va_W va_W va_W _ (mW m0 ma la lb n t v) (@HAppend.hAppend va_W va_W va_W _ ([((ma 0), .inl (X.2.1, 371, .inl fa))]) (@HAppend.hAppend va_W va_W va_W _ ([((ma 6), .inl (X.2.1, 55, .inl fh))]) ([((ma 3), .inl (X.2.1, 3, .inl fr))])))) sz) s (@HAppend.hAppend va_W va_W va_W _ ([((ma 3), .inl (X.2.1, 3, .inl fr))]) (@HAppend.hAppend va_W va_W va_W _ (mW m0 ma la lb n t v) (@HAppend.hAppend va_W va_W va_W _ ([((ma 0), .inl (X.2.1, 371, .inl fa))]) ([((ma 6), .inl (X.2.1, 55, .inl f_5a))])))) H locs := G
      refine lv_aload_n zx zb dX11_where_31 rfl (lv_at hl 0 rfl) ?_
      refine lv_iload_n zx zb dX11_where_32 rfl (lv_at hl 2 rfl) ?_
      refine b_wv (cells' := 0) (slots' := 0) (wr := @HAppend.hAppend va_W va_W va_W _ ([((ma 3), .inl (X.2.1, 3, .inl fr))]) ([((ma 0), .inl (X.2.1, 371, .inl fa))])) G rfl rfl [1, 3] [0, 2] rfl rfl rfl rfl (n_V (As := [.int (nI j_3)]) (rest := []) (C := RX11) (T := TX11) (N := 18) (ci := 9) S G (m_goAhead l X m0 ma la lb n t v f_5a c0_5b c1_5c c2_5d c3_5e c4_5f j_3 hI_n hI_t hI_f_5a (by omega) H.size) gX11_where_X11_goAhead rfl rfl rfl hdV_X11_goAhead ⟨Nat.le_of_ble_eq_true rfl, Nat.le_of_ble_eq_true rfl⟩ [1, 3] rfl rfl 1 rfl rfl rfl hl.1 (Nat.le_of_ble_eq_true rfl) dX11_where_33 ⟨Nat.le_of_ble_eq_true rfl, Nat.le_of_ble_eq_true rfl⟩) (fun u_6 H locs hp_6 G => ?_)
      obtain ⟨f_6, rfl⟩ : ∃ z, z = u_6 := ⟨_, rfl⟩
      obtain ⟨hI_f_6, hq_6⟩ := hp_6
      have G : wd X (va_A (@HAppend.hAppend va_W va_W va_W _ (mW m0 ma la lb n t v) (@HAppend.hAppend va_W va_W va_W _ ([((ma 0), .inl (X.2.1, 371, .inl fa))]) (@HAppend.hAppend va_W va_W va_W _ ([((ma 6), .inl (X.2.1, 55, .inl fh))]) ([((ma 3), .inl (X.2.1, 3, .inl fr))])))) sz) (va_A (@HAppend.hAppend va_W va_W va_W _ (mW m0 ma la lb n t v) (@HAppend.hAppend va_W va_W va_W _ ([((ma 0), .inl (X.2.1, 371, .inl fa))]) (@HAppend.hAppend va_W va_W va_W _ ([((ma 6), .inl (X.2.1, 55, .inl fh))]) ([((ma 3), .inl (X.2.1, 3, .inl fr))])))) sz) s (@HAppend.hAppend va_W va_W va_W _ ([((ma 3), .inl (X.2.1, 3, .inl fr))]) (@HAppend.hAppend va_W va_W va_W _ ([((ma 0), .inl (X.2.1, 371, .inl fa))]) (@HAppend.hAppend va_W va_W va_W _ (mW m0 ma la lb n t v) ([((ma 6), .inl (X.2.1, 55, .inl f_6))])))) H locs := G
      refine lv_aload_n zx zb dX11_where_36 rfl (lv_at hl 0 rfl) ?_
      refine r_get (C := RX11) (T := TX11) (N := 18) (ci := 9) (v := .ref (ma 6)) S in_X11_where_X11 G 2 rfl rfl 6 (by decide) lk_X11_where_27 rfl dX11_where_37 ?_
      refine lv_iconst (v := 5) zx zb dX11_where_40 (by decide) ?_
      refine lv_iload_n zx zb dX11_where_41 rfl (lv_at hl 1 rfl) ?_
      refine r_iadd (v := (nI (5 + j_1))) S (nI_add 5 j_1) dX11_where_42 ?_
      refine r_iald S G 3 rfl (vp_in_nI (by omega) (by decide)) rfl dX11_where_43 ?_
      refine k_itE (fun y_7 => ?_)
      exact e_int S zr zlk (vp_nar_int _) G (f_6, c0_5b, c1_5c, c2_5d, c3_5e, c4_5f, fr) [2, 1, 3, 0] rfl rfl (Or.inr rfl) (⟨hI_f_6, trivial⟩) dX11_where_44
    · refine lv_if_ne (tgt := 27) zx zb dX11_where_17 (by decide) (fun c_8 => absurd (by decide) c_8) (fun c_8 => ?_)
      refine lv_aload_n zx zb dX11_where_20 rfl (lv_at hl 0 rfl) ?_
      refine lv_bipush (v := (-2)) zx zb dX11_where_21 (by decide) ?_
      refine b_wi (cells' := 0) (slots' := 0) (wr := @HAppend.hAppend va_W va_W va_W _ ([((ma 0), .inl (X.2.1, 371, .inl fa))]) ([((ma 6), .inl (X.2.1, 55, .inl fh))])) G rfl rfl [0, 3] [1, 2] rfl rfl rfl rfl (n_V (As := [.int (-2)]) (rest := []) (C := RX11) (T := TX11) (N := 18) (ci := 9) S G (m_bad l X m0 ma la lb n t v fr (-2) hI_n hI_t H.size) gX11_where_X11_bad rfl rfl rfl hdV_X11_bad ⟨Nat.le_of_ble_eq_true rfl, Nat.le_of_ble_eq_true rfl⟩ [0, 3] rfl rfl 0 rfl rfl rfl hl.1 (Nat.le_of_ble_eq_true rfl) dX11_where_23 ⟨Nat.le_of_ble_eq_true rfl, Nat.le_of_ble_eq_true rfl⟩) (fun r_9 u_9 H locs hp_9 G => ?_)
      obtain ⟨f_9, rfl⟩ : ∃ z, z = u_9 := ⟨_, rfl⟩
      have hq_9 := hp_9
      have G : wd X (va_A (@HAppend.hAppend va_W va_W va_W _ (mW m0 ma la lb n t v) (@HAppend.hAppend va_W va_W va_W _ ([((ma 0), .inl (X.2.1, 371, .inl fa))]) (@HAppend.hAppend va_W va_W va_W _ ([((ma 6), .inl (X.2.1, 55, .inl fh))]) ([((ma 3), .inl (X.2.1, 3, .inl fr))])))) sz) (va_A (@HAppend.hAppend va_W va_W va_W _ (mW m0 ma la lb n t v) (@HAppend.hAppend va_W va_W va_W _ ([((ma 0), .inl (X.2.1, 371, .inl fa))]) (@HAppend.hAppend va_W va_W va_W _ ([((ma 6), .inl (X.2.1, 55, .inl fh))]) ([((ma 3), .inl (X.2.1, 3, .inl fr))])))) sz) s (@HAppend.hAppend va_W va_W va_W _ ([((ma 0), .inl (X.2.1, 371, .inl fa))]) (@HAppend.hAppend va_W va_W va_W _ ([((ma 6), .inl (X.2.1, 55, .inl fh))]) (@HAppend.hAppend va_W va_W va_W _ (mW m0 ma la lb n t v) ([((ma 3), .inl (X.2.1, 3, .inl f_9))])))) H locs := G
      obtain rfl := hq_9
      exact e_int S zr zlk (vp_nar_int _) G (fh, d0, d1, d2, d3, d4, f_9) [2, 0, 1, 3] rfl rfl (Or.inr rfl) (⟨hI_fh, trivial⟩) dX11_where_26
  · refine lv_if_eq (tgt := 20) zx zb dX11_where_5 (by decide) (fun c_10 => ?_) (fun c_10 => absurd (by decide) c_10)
    refine lv_aload_n zx zb dX11_where_20 rfl (lv_at hl 0 rfl) ?_
    refine lv_bipush (v := (-2)) zx zb dX11_where_21 (by decide) ?_
    refine b_wi (cells' := 0) (slots' := 0) (wr := @HAppend.hAppend va_W va_W va_W _ ([((ma 0), .inl (X.2.1, 371, .inl fa))]) ([((ma 6), .inl (X.2.1, 55, .inl fh))])) G rfl rfl [0, 3] [1, 2] rfl rfl rfl rfl (n_V (As := [.int (-2)]) (rest := []) (C := RX11) (T := TX11) (N := 18) (ci := 9) S G (m_bad l X m0 ma la lb n t v fr (-2) hI_n hI_t H.size) gX11_where_X11_bad rfl rfl rfl hdV_X11_bad ⟨Nat.le_of_ble_eq_true rfl, Nat.le_of_ble_eq_true rfl⟩ [0, 3] rfl rfl 0 rfl rfl rfl hl.1 (Nat.le_of_ble_eq_true rfl) dX11_where_23 ⟨Nat.le_of_ble_eq_true rfl, Nat.le_of_ble_eq_true rfl⟩) (fun r_11 u_11 H locs hp_11 G => ?_)
    obtain ⟨f_11, rfl⟩ : ∃ z, z = u_11 := ⟨_, rfl⟩
    have hq_11 := hp_11
    have G : wd X (va_A (@HAppend.hAppend va_W va_W va_W _ (mW m0 ma la lb n t v) (@HAppend.hAppend va_W va_W va_W _ ([((ma 0), .inl (X.2.1, 371, .inl fa))]) (@HAppend.hAppend va_W va_W va_W _ ([((ma 6), .inl (X.2.1, 55, .inl fh))]) ([((ma 3), .inl (X.2.1, 3, .inl fr))])))) sz) (va_A (@HAppend.hAppend va_W va_W va_W _ (mW m0 ma la lb n t v) (@HAppend.hAppend va_W va_W va_W _ ([((ma 0), .inl (X.2.1, 371, .inl fa))]) (@HAppend.hAppend va_W va_W va_W _ ([((ma 6), .inl (X.2.1, 55, .inl fh))]) ([((ma 3), .inl (X.2.1, 3, .inl fr))])))) sz) s (@HAppend.hAppend va_W va_W va_W _ ([((ma 0), .inl (X.2.1, 371, .inl fa))]) (@HAppend.hAppend va_W va_W va_W _ ([((ma 6), .inl (X.2.1, 55, .inl fh))]) (@HAppend.hAppend va_W va_W va_W _ (mW m0 ma la lb n t v) ([((ma 3), .inl (X.2.1, 3, .inl f_11))])))) H locs := G
    obtain rfl := hq_11
    exact e_int S zr zlk (vp_nar_int _) G (fh, d0, d1, d2, d3, d4, f_11) [2, 0, 1, 3] rfl rfl (Or.inr rfl) (⟨hI_fh, trivial⟩) dX11_where_26
theorem in_X11_homeAtHand_X11 : ∀ w ∈ wsX110, w ∈ wsX11_homeAtHand := by decide +kernel
theorem lk_X11_homeAtHand_27 : Cond.fieldLink RX11 27 "EggSpoonsModel" "hand" "[I" ∈ wsX11_homeAtHand := by decide +kernel
set_option maxHeartbeats 4000000 in
set_option maxRecDepth 100000 in
/-- homeAtHand -/
theorem m_homeAtHand (l : Launch) (X : EX) (m0 : Nat) (ma : Nat → Nat) (la : Int64) (lb : Int64) (n : Nat) (t : Nat → Nat) (v : Nat → Int32) (fh : Nat → Int32) (d0 : Nat) (d1 : Nat) (d2 : Nat) (d3 : Nat) (d4 : Nat) (i : Nat) (z : Nat) (hI_n : n ≤ 150) (hI_t : InT t) (hI_fh : InA fh d0 d1 d2 d3 d4) (h6 : i < 6) (hz : z ≤ 60) (sz : Nat) : Met l yX11_homeAtHand wsX11_homeAtHand ({ frames := 4, cells := 0, slots := 0, locals := 93 } : Room) (pE X [.ref m0, .int (nI i), .int (nI z)] (@HAppend.hAppend va_W va_W va_W _ (mW m0 ma la lb n t v) ([((ma 6), .inl (X.2.1, 55, .inl fh))])) sz) (qI (fun (r : Int32) (u : (Nat → Int32)) => InA u d0 d1 d2 d3 d4 ∧ (True)) X (fun (u : (Nat → Int32)) => @HAppend.hAppend va_W va_W va_W _ (mW m0 ma la lb n t v) ([((ma 6), .inl (X.2.1, 55, .inl u))])) (@HAppend.hAppend va_W va_W va_W _ (mW m0 ma la lb n t v) ([((ma 6), .inl (X.2.1, 55, .inl fh))])) sz) 0 0 (va_A (@HAppend.hAppend va_W va_W va_W _ (mW m0 ma la lb n t v) ([((ma 6), .inl (X.2.1, 55, .inl fh))])) sz) := by
  refine mk_met (B := (va_A (@HAppend.hAppend va_W va_W va_W _ (mW m0 ma la lb n t v) ([((ma 6), .inl (X.2.1, 55, .inl fh))])) sz)) (A := (va_A (@HAppend.hAppend va_W va_W va_W _ (mW m0 ma la lb n t v) ([((ma 6), .inl (X.2.1, 55, .inl fh))])) sz)) (cc := cX11_homeAtHand) (maxL := 4) (ret := (some .int)) (by decide) rfl (Nat.le_of_ble_eq_true rfl) k_w k_a (fun p e s m below meth c S zr zlk znm zsz G ls hl => ?_)
  have S : CallFix p m c cX11_homeAtHand 4 s _ wsX11_homeAtHand RX11 := S
  have zx := S.1
  have zb := S.2.1
  have hl : lv_has ls 4 [(0, .ref m0), (1, .int (nI i)), (2, .int (nI z))] := hl
  have hO_t := hI_t
  obtain ⟨ht0_t, ht1_t⟩ := hO_t
  have hO_fh := hI_fh.2
  obtain ⟨hm0_fh, hm1_fh, hm2_fh, hm3_fh, hm4_fh⟩ := hO_fh
  refine lv_iconst (v := 0) zx zb dX11_homeAtHand_0 (by decide) ?_
  refine lv_istore_n (lv' := [(3, .int 0), (0, .ref m0), (1, .int (nI i)), (2, .int (nI z))]) zx zb dX11_homeAtHand_1 rfl hl (by decide) rfl (fun ls hl => ?_)
  refine k_loop (P := ∀ (zm : Nat) (k2 : Nat) (f2_1 : Nat → Int32) (H : Heap) (locs : List Loc) (ls : Array Slot), (z + 1) + 1 ≤ k2 + zm → InA f2_1 d0 d1 d2 d3 d4 → (k2 ≤ (z + 1)) → wd X (va_A (@HAppend.hAppend va_W va_W va_W _ (mW m0 ma la lb n t v) ([((ma 6), .inl (X.2.1, 55, .inl fh))])) sz) (va_A (@HAppend.hAppend va_W va_W va_W _ (mW m0 ma la lb n t v) ([((ma 6), .inl (X.2.1, 55, .inl fh))])) sz) s (@HAppend.hAppend va_W va_W va_W _ (mW m0 ma la lb n t v) ([((ma 6), .inl (X.2.1, 55, .inl f2_1))])) H locs → lv_has ls 4 [(3, .int (nI k2)), (0, .ref m0), (1, .int (nI i)), (2, .int (nI z))] → W p l e _ s m _ below meth c H locs _ _ _ (F0 m 2 ls [])) (fun loop => loop ((z + 1) + 1) 0 fh _ _ _ (by omega) hI_fh (by omega) G hl) ?_
  intro zm
  induction zm with
  | zero => intro k2 f2_1 H locs ls zz q_hI_f2_1 q_hk_k2 _ _; exact absurd zz (by omega)
  | succ zm ih2 =>
    intro k2 f2_1 H locs ls zm_2 hI_f2_1 hk_k2 G hl
    refine lv_iload_n zx zb dX11_homeAtHand_2 rfl (lv_at hl 0 rfl) ?_
    refine lv_iload_n zx zb dX11_homeAtHand_3 rfl (lv_at hl 3 rfl) ?_
    refine lv_icmp_gt (tgt := 33) zx zb dX11_homeAtHand_4 (by decide) (fun c_1 => ?_) (fun c_1 => ?_)
    · have fc_1 := j_lt (a := z) (b := k2) (by omega) (by omega) c_1
      refine lv_iconst (v := (-1)) zx zb dX11_homeAtHand_33 (by decide) ?_
      exact e_int S zr zlk (vp_nar_int _) G (f2_1) [0, 1] rfl rfl (Or.inr rfl) (⟨hI_f2_1, trivial⟩) dX11_homeAtHand_34
    · have fc_1 := j_nlt (a := z) (b := k2) (by omega) (by omega) c_1
      refine lv_aload_n zx zb dX11_homeAtHand_7 rfl (lv_at hl 1 rfl) ?_
      refine r_get (C := RX11) (T := TX11) (N := 18) (ci := 9) (v := .ref (ma 6)) S in_X11_homeAtHand_X11 G 0 rfl rfl 6 (by decide) lk_X11_homeAtHand_27 rfl dX11_homeAtHand_8 ?_
      refine lv_iload_n zx zb dX11_homeAtHand_11 rfl (lv_at hl 2 rfl) ?_
      refine o_ri (cells' := 0) (slots' := 0) G rfl rfl (n_S (As := [.ref (ma 6), .int (nI i)]) (rest := []) S G (m_isHome l X (ma 6) 55 f2_1 d0 d1 d2 d3 d4 i hI_f2_1 (by omega) (by omega) (by omega) H.size) gX11_homeAtHand_X11_isHome rfl rfl rfl hdS_X11_isHome ⟨Nat.le_of_ble_eq_true rfl, Nat.le_of_ble_eq_true rfl⟩ [1] rfl rfl rfl hl.1 (Nat.le_of_ble_eq_true rfl) dX11_homeAtHand_12 ⟨Nat.le_of_ble_eq_true rfl, Nat.le_of_ble_eq_true rfl⟩) (fun r_2 u_2 H locs hp_2 G => ?_)
      have G : wd X (va_A (@HAppend.hAppend va_W va_W va_W _ (mW m0 ma la lb n t v) ([((ma 6), .inl (X.2.1, 55, .inl fh))])) sz) (va_A (@HAppend.hAppend va_W va_W va_W _ (mW m0 ma la lb n t v) ([((ma 6), .inl (X.2.1, 55, .inl fh))])) sz) s (@HAppend.hAppend va_W va_W va_W _ (mW m0 ma la lb n t v) ([((ma 6), .inl (X.2.1, 55, .inl f2_1))])) H locs := G
      refine lv_if_eq (tgt := 20) zx zb dX11_homeAtHand_15 (by decide) (fun c_3 => ?_) (fun c_3 => ?_)
      · refine lv_aload_n zx zb dX11_homeAtHand_20 rfl (lv_at hl 1 rfl) ?_
        refine r_get (C := RX11) (T := TX11) (N := 18) (ci := 9) (v := .ref (ma 6)) S in_X11_homeAtHand_X11 G 0 rfl rfl 6 (by decide) lk_X11_homeAtHand_27 rfl dX11_homeAtHand_21 ?_
        refine b_wv (cells' := 0) (slots' := 0) (wr := mW m0 ma la lb n t v) G rfl rfl [1] [0] rfl rfl rfl rfl (n_S (As := [.ref (ma 6)]) (rest := []) S G (m_goTick l X (ma 6) 55 f2_1 d0 d1 d2 d3 d4 hI_f2_1 (by omega) (by omega) H.size) gX11_homeAtHand_X11_goTick rfl rfl rfl hdS_X11_goTick ⟨Nat.le_of_ble_eq_true rfl, Nat.le_of_ble_eq_true rfl⟩ [1] rfl rfl rfl hl.1 (Nat.le_of_ble_eq_true rfl) dX11_homeAtHand_24 ⟨Nat.le_of_ble_eq_true rfl, Nat.le_of_ble_eq_true rfl⟩) (fun u_4 H locs hp_4 G => ?_)
        obtain ⟨f_4, rfl⟩ : ∃ z, z = u_4 := ⟨_, rfl⟩
        obtain ⟨hI_f_4, hq_4⟩ := hp_4
        have G : wd X (va_A (@HAppend.hAppend va_W va_W va_W _ (mW m0 ma la lb n t v) ([((ma 6), .inl (X.2.1, 55, .inl fh))])) sz) (va_A (@HAppend.hAppend va_W va_W va_W _ (mW m0 ma la lb n t v) ([((ma 6), .inl (X.2.1, 55, .inl fh))])) sz) s (@HAppend.hAppend va_W va_W va_W _ (mW m0 ma la lb n t v) ([((ma 6), .inl (X.2.1, 55, .inl f_4))])) H locs := G
        refine lv_iinc (v := (nI (k2 + 1))) (lv' := [(3, .int (nI (k2 + 1))), (0, .ref m0), (1, .int (nI i)), (2, .int (nI z))]) zx zb dX11_homeAtHand_27 hl (k := 0) rfl (nI_add k2 1) (by decide) rfl (fun ls hl => ?_)
        refine lv_goto (tgt := 2) zx zb dX11_homeAtHand_30 (by decide) ?_
        exact ih2 (k2 + 1) f_4 _ _ _ (by omega) hI_f_4 (by omega) G hl
      · refine lv_iload_n zx zb dX11_homeAtHand_18 rfl (lv_at hl 0 rfl) ?_
        exact e_int S zr zlk (vp_nar_int _) G (f2_1) [0, 1] rfl rfl (Or.inr rfl) (⟨hI_f2_1, trivial⟩) dX11_homeAtHand_19
theorem hdV_X11_homeAtHand : yX11_homeAtHand.cls = RX11 ∧ yX11_homeAtHand.cls ≠ "java/lang/invoke/MethodHandle" ∧ yX11_homeAtHand.cls ≠ "java/lang/invoke/VarHandle" ∧ (parseMethodDescriptor yX11_homeAtHand.desc).map (fun d => d.parameters.length) = some 2 := by decide +kernel
set_option maxHeartbeats 4000000 in
set_option maxRecDepth 100000 in
/-- homeOf -/
theorem m_homeOf (l : Launch) (X : EX) (m0 : Nat) (ma : Nat → Nat) (la : Int64) (lb : Int64) (n : Nat) (t : Nat → Nat) (v : Nat → Int32) (fa : Nat → Int32) (c0 : Nat) (c1 : Nat) (c2 : Nat) (c3 : Nat) (c4 : Nat) (fh : Nat → Int32) (d0 : Nat) (d1 : Nat) (d2 : Nat) (d3 : Nat) (d4 : Nat) (i : Nat) (hI_n : n ≤ 150) (hI_t : InT t) (hI_fa : InA fa c0 c1 c2 c3 c4) (hI_fh : InA fh d0 d1 d2 d3 d4) (h6 : i < 6) (sz : Nat) : Met l yX11_homeOf wsX11_homeOf ({ frames := 5, cells := 0, slots := 0, locals := 116 } : Room) (pE X [.ref m0, .int (nI i)] (@HAppend.hAppend va_W va_W va_W _ (mW m0 ma la lb n t v) (@HAppend.hAppend va_W va_W va_W _ ([((ma 0), .inl (X.2.1, 371, .inl fa))]) ([((ma 6), .inl (X.2.1, 55, .inl fh))]))) sz) (qI (fun (r : Int32) (u : (Nat → Int32) × (Nat) × (Nat) × (Nat) × (Nat) × (Nat)) => InA u.1 u.2.1 u.2.2.1 u.2.2.2.1 u.2.2.2.2.1 u.2.2.2.2.2 ∧ (True)) X (fun (u : (Nat → Int32) × (Nat) × (Nat) × (Nat) × (Nat) × (Nat)) => @HAppend.hAppend va_W va_W va_W _ (mW m0 ma la lb n t v) (@HAppend.hAppend va_W va_W va_W _ ([((ma 0), .inl (X.2.1, 371, .inl fa))]) ([((ma 6), .inl (X.2.1, 55, .inl u.1))]))) (@HAppend.hAppend va_W va_W va_W _ (mW m0 ma la lb n t v) (@HAppend.hAppend va_W va_W va_W _ ([((ma 0), .inl (X.2.1, 371, .inl fa))]) ([((ma 6), .inl (X.2.1, 55, .inl fh))]))) sz) 0 0 (va_A (@HAppend.hAppend va_W va_W va_W _ (mW m0 ma la lb n t v) (@HAppend.hAppend va_W va_W va_W _ ([((ma 0), .inl (X.2.1, 371, .inl fa))]) ([((ma 6), .inl (X.2.1, 55, .inl fh))]))) sz) := by
  refine mk_met (B := (va_A (@HAppend.hAppend va_W va_W va_W _ (mW m0 ma la lb n t v) (@HAppend.hAppend va_W va_W va_W _ ([((ma 0), .inl (X.2.1, 371, .inl fa))]) ([((ma 6), .inl (X.2.1, 55, .inl fh))]))) sz)) (A := (va_A (@HAppend.hAppend va_W va_W va_W _ (mW m0 ma la lb n t v) (@HAppend.hAppend va_W va_W va_W _ ([((ma 0), .inl (X.2.1, 371, .inl fa))]) ([((ma 6), .inl (X.2.1, 55, .inl fh))]))) sz)) (cc := cX11_homeOf) (maxL := 2) (ret := (some .int)) (by decide) rfl (Nat.le_of_ble_eq_true rfl) k_w k_a (fun p e s m below meth c S zr zlk znm zsz G ls hl => ?_)
  have S : CallFix p m c cX11_homeOf 2 s _ wsX11_homeOf RX11 := S
  have zx := S.1
  have zb := S.2.1
  have hl : lv_has ls 2 [(0, .ref m0), (1, .int (nI i))] := hl
  have hO_t := hI_t
  obtain ⟨ht0_t, ht1_t⟩ := hO_t
  have hO_fa := hI_fa.2
  obtain ⟨hm0_fa, hm1_fa, hm2_fa, hm3_fa, hm4_fa⟩ := hO_fa
  have hO_fh := hI_fh.2
  obtain ⟨hm0_fh, hm1_fh, hm2_fh, hm3_fh, hm4_fh⟩ := hO_fh
  refine lv_aload_n zx zb dX11_homeOf_0 rfl (lv_at hl 0 rfl) ?_
  refine b_wv (cells' := 0) (slots' := 0) (wr := []) G rfl rfl [0, 1, 2] [] rfl rfl rfl rfl (n_V (As := []) (rest := []) (C := RX11) (T := TX11) (N := 18) (ci := 9) S G (m_layHand l X m0 ma la lb n t v fa c0 c1 c2 c3 c4 fh d0 d1 d2 d3 d4 hI_n hI_t hI_fa hI_fh s.heap.size) gX11_homeOf_X11_layHand rfl rfl rfl hdV_X11_layHand ⟨Nat.le_of_ble_eq_true rfl, Nat.le_of_ble_eq_true rfl⟩ [0, 1, 2] rfl rfl 0 rfl rfl rfl hl.1 (Nat.le_of_ble_eq_true rfl) dX11_homeOf_1 ⟨Nat.le_of_ble_eq_true rfl, Nat.le_of_ble_eq_true rfl⟩) (fun u_1 H locs hp_1 G => ?_)
  obtain ⟨f_1a, c0_1b, c1_1c, c2_1d, c3_1e, c4_1f⟩ := u_1
  try dsimp only at hp_1
  obtain ⟨hI_f_1a, hq_1⟩ := hp_1
  have hO_f_1a := hI_f_1a.2
  obtain ⟨hm0_f_1a, hm1_f_1a, hm2_f_1a, hm3_f_1a, hm4_f_1a⟩ := hO_f_1a
  have G : wd X (va_A (@HAppend.hAppend va_W va_W va_W _ (mW m0 ma la lb n t v) (@HAppend.hAppend va_W va_W va_W _ ([((ma 0), .inl (X.2.1, 371, .inl fa))]) ([((ma 6), .inl (X.2.1, 55, .inl fh))]))) sz) (va_A (@HAppend.hAppend va_W va_W va_W _ (mW m0 ma la lb n t v) (@HAppend.hAppend va_W va_W va_W _ ([((ma 0), .inl (X.2.1, 371, .inl fa))]) ([((ma 6), .inl (X.2.1, 55, .inl fh))]))) sz) s (@HAppend.hAppend va_W va_W va_W _ (mW m0 ma la lb n t v) (@HAppend.hAppend va_W va_W va_W _ ([((ma 0), .inl (X.2.1, 371, .inl fa))]) ([((ma 6), .inl (X.2.1, 55, .inl f_1a))]))) H locs := G
  refine lv_aload_n zx zb dX11_homeOf_4 rfl (lv_at hl 0 rfl) ?_
  refine lv_iload_n zx zb dX11_homeOf_5 rfl (lv_at hl 1 rfl) ?_
  refine lv_bipush (v := 60) zx zb dX11_homeOf_6 (by decide) ?_
  refine b_wi (cells' := 0) (slots' := 0) (wr := [((ma 0), .inl (X.2.1, 371, .inl fa))]) G rfl rfl [0, 2] [1] rfl rfl rfl rfl (n_V (As := [.int (nI i), .int 60]) (rest := []) (C := RX11) (T := TX11) (N := 18) (ci := 9) S G (m_homeAtHand l X m0 ma la lb n t v f_1a c0_1b c1_1c c2_1d c3_1e c4_1f i 60 hI_n hI_t hI_f_1a (by omega) (by omega) H.size) gX11_homeOf_X11_homeAtHand rfl rfl rfl hdV_X11_homeAtHand ⟨Nat.le_of_ble_eq_true rfl, Nat.le_of_ble_eq_true rfl⟩ [0, 2] rfl rfl 0 rfl rfl rfl hl.1 (Nat.le_of_ble_eq_true rfl) dX11_homeOf_8 ⟨Nat.le_of_ble_eq_true rfl, Nat.le_of_ble_eq_true rfl⟩) (fun r_2 u_2 H locs hp_2 G => ?_)
  obtain ⟨f_2, rfl⟩ : ∃ z, z = u_2 := ⟨_, rfl⟩
  obtain ⟨hI_f_2, hq_2⟩ := hp_2
  have G : wd X (va_A (@HAppend.hAppend va_W va_W va_W _ (mW m0 ma la lb n t v) (@HAppend.hAppend va_W va_W va_W _ ([((ma 0), .inl (X.2.1, 371, .inl fa))]) ([((ma 6), .inl (X.2.1, 55, .inl fh))]))) sz) (va_A (@HAppend.hAppend va_W va_W va_W _ (mW m0 ma la lb n t v) (@HAppend.hAppend va_W va_W va_W _ ([((ma 0), .inl (X.2.1, 371, .inl fa))]) ([((ma 6), .inl (X.2.1, 55, .inl fh))]))) sz) s (@HAppend.hAppend va_W va_W va_W _ ([((ma 0), .inl (X.2.1, 371, .inl fa))]) (@HAppend.hAppend va_W va_W va_W _ (mW m0 ma la lb n t v) ([((ma 6), .inl (X.2.1, 55, .inl f_2))]))) H locs := G
  exact e_int S zr zlk (vp_nar_int _) G (f_2, c0_1b, c1_1c, c2_1d, c3_1e, c4_1f) [1, 0, 2] rfl rfl (Or.inr rfl) (⟨hI_f_2, trivial⟩) dX11_homeOf_11
theorem hdV_X11_homeOf : yX11_homeOf.cls = RX11 ∧ yX11_homeOf.cls ≠ "java/lang/invoke/MethodHandle" ∧ yX11_homeOf.cls ≠ "java/lang/invoke/VarHandle" ∧ (parseMethodDescriptor yX11_homeOf.desc).map (fun d => d.parameters.length) = some 1 := by decide +kernel
set_option maxHeartbeats 4000000 in
set_option maxRecDepth 100000 in
/-- home -/
theorem m_home (l : Launch) (X : EX) (m0 : Nat) (ma : Nat → Nat) (la : Int64) (lb : Int64) (n : Nat) (t : Nat → Nat) (v : Nat → Int32) (fa : Nat → Int32) (c0 : Nat) (c1 : Nat) (c2 : Nat) (c3 : Nat) (c4 : Nat) (fh : Nat → Int32) (d0 : Nat) (d1 : Nat) (d2 : Nat) (d3 : Nat) (d4 : Nat) (fr : Nat → Int32) (x1 : Int32) (hI_n : n ≤ 150) (hI_t : InT t) (hI_fa : InA fa c0 c1 c2 c3 c4) (hI_fh : InA fh d0 d1 d2 d3 d4) (sz : Nat) : Met l yX11_home wsX11_home ({ frames := 6, cells := 0, slots := 0, locals := 137 } : Room) (pE X [.ref m0, .int x1] (@HAppend.hAppend va_W va_W va_W _ (mW m0 ma la lb n t v) (@HAppend.hAppend va_W va_W va_W _ ([((ma 0), .inl (X.2.1, 371, .inl fa))]) (@HAppend.hAppend va_W va_W va_W _ ([((ma 6), .inl (X.2.1, 55, .inl fh))]) ([((ma 3), .inl (X.2.1, 3, .inl fr))])))) sz) (qI (fun (r : Int32) (u : (Nat → Int32) × (Nat) × (Nat) × (Nat) × (Nat) × (Nat) × (Nat → Int32)) => InA u.1 u.2.1 u.2.2.1 u.2.2.2.1 u.2.2.2.2.1 u.2.2.2.2.2.1 ∧ (True)) X (fun (u : (Nat → Int32) × (Nat) × (Nat) × (Nat) × (Nat) × (Nat) × (Nat → Int32)) => @HAppend.hAppend va_W va_W va_W _ (mW m0 ma la lb n t v) (@HAppend.hAppend va_W va_W va_W _ ([((ma 0), .inl (X.2.1, 371, .inl fa))]) (@HAppend.hAppend va_W va_W va_W _ ([((ma 6), .inl (X.2.1, 55, .inl u.1))]) ([((ma 3), .inl (X.2.1, 3, .inl u.2.2.2.2.2.2))])))) (@HAppend.hAppend va_W va_W va_W _ (mW m0 ma la lb n t v) (@HAppend.hAppend va_W va_W va_W _ ([((ma 0), .inl (X.2.1, 371, .inl fa))]) (@HAppend.hAppend va_W va_W va_W _ ([((ma 6), .inl (X.2.1, 55, .inl fh))]) ([((ma 3), .inl (X.2.1, 3, .inl fr))])))) sz) 0 0 (va_A (@HAppend.hAppend va_W va_W va_W _ (mW m0 ma la lb n t v) (@HAppend.hAppend va_W va_W va_W _ ([((ma 0), .inl (X.2.1, 371, .inl fa))]) (@HAppend.hAppend va_W va_W va_W _ ([((ma 6), .inl (X.2.1, 55, .inl fh))]) ([((ma 3), .inl (X.2.1, 3, .inl fr))])))) sz) := by
  refine mk_met (B := (va_A (@HAppend.hAppend va_W va_W va_W _ (mW m0 ma la lb n t v) (@HAppend.hAppend va_W va_W va_W _ ([((ma 0), .inl (X.2.1, 371, .inl fa))]) (@HAppend.hAppend va_W va_W va_W _ ([((ma 6), .inl (X.2.1, 55, .inl fh))]) ([((ma 3), .inl (X.2.1, 3, .inl fr))])))) sz)) (A := (va_A (@HAppend.hAppend va_W va_W va_W _ (mW m0 ma la lb n t v) (@HAppend.hAppend va_W va_W va_W _ ([((ma 0), .inl (X.2.1, 371, .inl fa))]) (@HAppend.hAppend va_W va_W va_W _ ([((ma 6), .inl (X.2.1, 55, .inl fh))]) ([((ma 3), .inl (X.2.1, 3, .inl fr))])))) sz)) (cc := cX11_home) (maxL := 2) (ret := (some .int)) (by decide) rfl (Nat.le_of_ble_eq_true rfl) k_w k_a (fun p e s m below meth c S zr zlk znm zsz G ls hl => ?_)
  have S : CallFix p m c cX11_home 2 s _ wsX11_home RX11 := S
  have zx := S.1
  have zb := S.2.1
  have hl : lv_has ls 2 [(0, .ref m0), (1, .int x1)] := hl
  have hO_t := hI_t
  obtain ⟨ht0_t, ht1_t⟩ := hO_t
  have hO_fa := hI_fa.2
  obtain ⟨hm0_fa, hm1_fa, hm2_fa, hm3_fa, hm4_fa⟩ := hO_fa
  have hO_fh := hI_fh.2
  obtain ⟨hm0_fh, hm1_fh, hm2_fh, hm3_fh, hm4_fh⟩ := hO_fh
  refine lv_aload_n zx zb dX11_home_0 rfl (lv_at hl 0 rfl) ?_
  refine lv_iload_n zx zb dX11_home_1 rfl (lv_at hl 1 rfl) ?_
  refine o_ri (cells' := 0) (slots' := 0) G rfl rfl (n_V (As := [.int x1]) (rest := []) (C := RX11) (T := TX11) (N := 18) (ci := 9) S G (m_isOne l X m0 ma la lb n t v fa c0 c1 c2 c3 c4 x1 hI_n hI_t hI_fa s.heap.size) gX11_home_X11_isOne rfl rfl rfl hdV_X11_isOne ⟨Nat.le_of_ble_eq_true rfl, Nat.le_of_ble_eq_true rfl⟩ [0, 1] rfl rfl 0 rfl rfl rfl hl.1 (Nat.le_of_ble_eq_true rfl) dX11_home_2 ⟨Nat.le_of_ble_eq_true rfl, Nat.le_of_ble_eq_true rfl⟩) (fun r_1 u_1 H locs hp_1 G => ?_)
  have G : wd X (va_A (@HAppend.hAppend va_W va_W va_W _ (mW m0 ma la lb n t v) (@HAppend.hAppend va_W va_W va_W _ ([((ma 0), .inl (X.2.1, 371, .inl fa))]) (@HAppend.hAppend va_W va_W va_W _ ([((ma 6), .inl (X.2.1, 55, .inl fh))]) ([((ma 3), .inl (X.2.1, 3, .inl fr))])))) sz) (va_A (@HAppend.hAppend va_W va_W va_W _ (mW m0 ma la lb n t v) (@HAppend.hAppend va_W va_W va_W _ ([((ma 0), .inl (X.2.1, 371, .inl fa))]) (@HAppend.hAppend va_W va_W va_W _ ([((ma 6), .inl (X.2.1, 55, .inl fh))]) ([((ma 3), .inl (X.2.1, 3, .inl fr))])))) sz) s (@HAppend.hAppend va_W va_W va_W _ (mW m0 ma la lb n t v) (@HAppend.hAppend va_W va_W va_W _ ([((ma 0), .inl (X.2.1, 371, .inl fa))]) (@HAppend.hAppend va_W va_W va_W _ ([((ma 6), .inl (X.2.1, 55, .inl fh))]) ([((ma 3), .inl (X.2.1, 3, .inl fr))])))) H locs := G
  rcases hp_1 with ⟨rfl, hj_1⟩ | ⟨rfl, hj_1⟩
  · obtain ⟨j_1, hj_1, rfl⟩ := hj_1
    refine lv_if_eq (tgt := 16) zx zb dX11_home_5 (by decide) (fun c_2 => absurd c_2 (by decide)) (fun c_2 => ?_)
    refine lv_aload_n zx zb dX11_home_8 rfl (lv_at hl 0 rfl) ?_
    refine lv_iload_n zx zb dX11_home_9 rfl (lv_at hl 1 rfl) ?_
    refine b_wi (cells' := 0) (slots' := 0) (wr := [((ma 3), .inl (X.2.1, 3, .inl fr))]) G rfl rfl [0, 1, 2] [3] rfl rfl rfl rfl (n_V (As := [.int (nI j_1)]) (rest := []) (C := RX11) (T := TX11) (N := 18) (ci := 9) S G (m_homeOf l X m0 ma la lb n t v fa c0 c1 c2 c3 c4 fh d0 d1 d2 d3 d4 j_1 hI_n hI_t hI_fa hI_fh (by omega) H.size) gX11_home_X11_homeOf rfl rfl rfl hdV_X11_homeOf ⟨Nat.le_of_ble_eq_true rfl, Nat.le_of_ble_eq_true rfl⟩ [0, 1, 2] rfl rfl 0 rfl rfl rfl hl.1 (Nat.le_of_ble_eq_true rfl) dX11_home_10 ⟨Nat.le_of_ble_eq_true rfl, Nat.le_of_ble_eq_true rfl⟩) (fun r_3 u_3 H locs hp_3 G => ?_)
    obtain ⟨f_3a, c0_3b, c1_3c, c2_3d, c3_3e, c4_3f⟩ := u_3
    try dsimp only at hp_3
    obtain ⟨hI_f_3a, hq_3⟩ := hp_3
    have hO_f_3a := hI_f_3a.2
    obtain ⟨hm0_f_3a, hm1_f_3a, hm2_f_3a, hm3_f_3a, hm4_f_3a⟩ := hO_f_3a
    have G : wd X (va_A (@HAppend.hAppend va_W va_W va_W _ (mW m0 ma la lb n t v) (@HAppend.hAppend va_W va_W va_W _ ([((ma 0), .inl (X.2.1, 371, .inl fa))]) (@HAppend.hAppend va_W va_W va_W _ ([((ma 6), .inl (X.2.1, 55, .inl fh))]) ([((ma 3), .inl (X.2.1, 3, .inl fr))])))) sz) (va_A (@HAppend.hAppend va_W va_W va_W _ (mW m0 ma la lb n t v) (@HAppend.hAppend va_W va_W va_W _ ([((ma 0), .inl (X.2.1, 371, .inl fa))]) (@HAppend.hAppend va_W va_W va_W _ ([((ma 6), .inl (X.2.1, 55, .inl fh))]) ([((ma 3), .inl (X.2.1, 3, .inl fr))])))) sz) s (@HAppend.hAppend va_W va_W va_W _ ([((ma 3), .inl (X.2.1, 3, .inl fr))]) (@HAppend.hAppend va_W va_W va_W _ (mW m0 ma la lb n t v) (@HAppend.hAppend va_W va_W va_W _ ([((ma 0), .inl (X.2.1, 371, .inl fa))]) ([((ma 6), .inl (X.2.1, 55, .inl f_3a))])))) H locs := G
    refine lv_goto (tgt := 22) zx zb dX11_home_13 (by decide) ?_
    exact e_int S zr zlk (vp_nar_int _) G (f_3a, c0_3b, c1_3c, c2_3d, c3_3e, c4_3f, fr) [1, 2, 3, 0] rfl rfl (Or.inr rfl) (⟨hI_f_3a, trivial⟩) dX11_home_22
  · refine lv_if_eq (tgt := 16) zx zb dX11_home_5 (by decide) (fun c_4 => ?_) (fun c_4 => absurd (by decide) c_4)
    refine lv_aload_n zx zb dX11_home_16 rfl (lv_at hl 0 rfl) ?_
    refine lv_bipush (v := (-2)) zx zb dX11_home_17 (by decide) ?_
    refine b_wi (cells' := 0) (slots' := 0) (wr := @HAppend.hAppend va_W va_W va_W _ ([((ma 0), .inl (X.2.1, 371, .inl fa))]) ([((ma 6), .inl (X.2.1, 55, .inl fh))])) G rfl rfl [0, 3] [1, 2] rfl rfl rfl rfl (n_V (As := [.int (-2)]) (rest := []) (C := RX11) (T := TX11) (N := 18) (ci := 9) S G (m_bad l X m0 ma la lb n t v fr (-2) hI_n hI_t H.size) gX11_home_X11_bad rfl rfl rfl hdV_X11_bad ⟨Nat.le_of_ble_eq_true rfl, Nat.le_of_ble_eq_true rfl⟩ [0, 3] rfl rfl 0 rfl rfl rfl hl.1 (Nat.le_of_ble_eq_true rfl) dX11_home_19 ⟨Nat.le_of_ble_eq_true rfl, Nat.le_of_ble_eq_true rfl⟩) (fun r_5 u_5 H locs hp_5 G => ?_)
    obtain ⟨f_5, rfl⟩ : ∃ z, z = u_5 := ⟨_, rfl⟩
    have hq_5 := hp_5
    have G : wd X (va_A (@HAppend.hAppend va_W va_W va_W _ (mW m0 ma la lb n t v) (@HAppend.hAppend va_W va_W va_W _ ([((ma 0), .inl (X.2.1, 371, .inl fa))]) (@HAppend.hAppend va_W va_W va_W _ ([((ma 6), .inl (X.2.1, 55, .inl fh))]) ([((ma 3), .inl (X.2.1, 3, .inl fr))])))) sz) (va_A (@HAppend.hAppend va_W va_W va_W _ (mW m0 ma la lb n t v) (@HAppend.hAppend va_W va_W va_W _ ([((ma 0), .inl (X.2.1, 371, .inl fa))]) (@HAppend.hAppend va_W va_W va_W _ ([((ma 6), .inl (X.2.1, 55, .inl fh))]) ([((ma 3), .inl (X.2.1, 3, .inl fr))])))) sz) s (@HAppend.hAppend va_W va_W va_W _ ([((ma 0), .inl (X.2.1, 371, .inl fa))]) (@HAppend.hAppend va_W va_W va_W _ ([((ma 6), .inl (X.2.1, 55, .inl fh))]) (@HAppend.hAppend va_W va_W va_W _ (mW m0 ma la lb n t v) ([((ma 3), .inl (X.2.1, 3, .inl f_5))])))) H locs := G
    obtain rfl := hq_5
    exact e_int S zr zlk (vp_nar_int _) G (fh, d0, d1, d2, d3, d4, f_5) [2, 0, 1, 3] rfl rfl (Or.inr rfl) (⟨hI_fh, trivial⟩) dX11_home_22
theorem mm_X11_first_c150 : Cond.constant RX11 150 (1000000) ∈ wsX11_first := by decide +kernel
theorem in_X11_first_X11 : ∀ w ∈ wsX110, w ∈ wsX11_first := by decide +kernel
theorem lk_X11_first_7 : Cond.fieldLink RX11 7 "EggSpoonsModel" "all" "[I" ∈ wsX11_first := by decide +kernel
set_option maxHeartbeats 4000000 in
set_option maxRecDepth 100000 in
/-- first -/
theorem m_first (l : Launch) (X : EX) (m0 : Nat) (ma : Nat → Nat) (la : Int64) (lb : Int64) (n : Nat) (t : Nat → Nat) (v : Nat → Int32) (fa : Nat → Int32) (c0 : Nat) (c1 : Nat) (c2 : Nat) (c3 : Nat) (c4 : Nat) (fh : Nat → Int32) (d0 : Nat) (d1 : Nat) (d2 : Nat) (d3 : Nat) (d4 : Nat) (hI_n : n ≤ 150) (hI_t : InT t) (hI_fa : InA fa c0 c1 c2 c3 c4) (hI_fh : InA fh d0 d1 d2 d3 d4) (sz : Nat) : Met l yX11_first wsX11_first ({ frames := 6, cells := 0, slots := 0, locals := 137 } : Room) (pE X [.ref m0] (@HAppend.hAppend va_W va_W va_W _ (mW m0 ma la lb n t v) (@HAppend.hAppend va_W va_W va_W _ ([((ma 0), .inl (X.2.1, 371, .inl fa))]) ([((ma 6), .inl (X.2.1, 55, .inl fh))]))) sz) (qI (fun (r : Int32) (u : (Nat → Int32) × (Nat) × (Nat) × (Nat) × (Nat) × (Nat)) => InA u.1 u.2.1 u.2.2.1 u.2.2.2.1 u.2.2.2.2.1 u.2.2.2.2.2 ∧ (True)) X (fun (u : (Nat → Int32) × (Nat) × (Nat) × (Nat) × (Nat) × (Nat)) => @HAppend.hAppend va_W va_W va_W _ (mW m0 ma la lb n t v) (@HAppend.hAppend va_W va_W va_W _ ([((ma 0), .inl (X.2.1, 371, .inl fa))]) ([((ma 6), .inl (X.2.1, 55, .inl u.1))]))) (@HAppend.hAppend va_W va_W va_W _ (mW m0 ma la lb n t v) (@HAppend.hAppend va_W va_W va_W _ ([((ma 0), .inl (X.2.1, 371, .inl fa))]) ([((ma 6), .inl (X.2.1, 55, .inl fh))]))) sz) 0 0 (va_A (@HAppend.hAppend va_W va_W va_W _ (mW m0 ma la lb n t v) (@HAppend.hAppend va_W va_W va_W _ ([((ma 0), .inl (X.2.1, 371, .inl fa))]) ([((ma 6), .inl (X.2.1, 55, .inl fh))]))) sz) := by
  refine mk_met (B := (va_A (@HAppend.hAppend va_W va_W va_W _ (mW m0 ma la lb n t v) (@HAppend.hAppend va_W va_W va_W _ ([((ma 0), .inl (X.2.1, 371, .inl fa))]) ([((ma 6), .inl (X.2.1, 55, .inl fh))]))) sz)) (A := (va_A (@HAppend.hAppend va_W va_W va_W _ (mW m0 ma la lb n t v) (@HAppend.hAppend va_W va_W va_W _ ([((ma 0), .inl (X.2.1, 371, .inl fa))]) ([((ma 6), .inl (X.2.1, 55, .inl fh))]))) sz)) (cc := cX11_first) (maxL := 5) (ret := (some .int)) (by decide) rfl (Nat.le_of_ble_eq_true rfl) k_w k_a (fun p e s m below meth c S zr zlk znm zsz G ls hl => ?_)
  have S : CallFix p m c cX11_first 5 s _ wsX11_first RX11 := S
  have zx := S.1
  have zb := S.2.1
  have hl : lv_has ls 5 [(0, .ref m0)] := hl
  have hO_t := hI_t
  obtain ⟨ht0_t, ht1_t⟩ := hO_t
  have hO_fa := hI_fa.2
  obtain ⟨hm0_fa, hm1_fa, hm2_fa, hm3_fa, hm4_fa⟩ := hO_fa
  have hO_fh := hI_fh.2
  obtain ⟨hm0_fh, hm1_fh, hm2_fh, hm3_fh, hm4_fh⟩ := hO_fh
  refine lv_iconst (v := (-1)) zx zb dX11_first_0 (by decide) ?_
  refine lv_istore_n (lv' := [(1, .int (-1)), (0, .ref m0)]) zx zb dX11_first_1 rfl hl (by decide) rfl (fun ls hl => ?_)
  refine lv_ldc zx zb S.2.2.2.1 (S.2.2.2.2 _ mm_X11_first_c150) dX11_first_2 ?_
  refine lv_istore_n (lv' := [(2, .int 1000000), (1, .int (-1)), (0, .ref m0)]) zx zb dX11_first_4 rfl hl (by decide) rfl (fun ls hl => ?_)
  refine lv_iconst (v := 0) zx zb dX11_first_5 (by decide) ?_
  refine lv_istore_n (lv' := [(3, .int 0), (2, .int 1000000), (1, .int (-1)), (0, .ref m0)]) zx zb dX11_first_6 rfl hl (by decide) rfl (fun ls hl => ?_)
  refine k_loop (P := ∀ (zm : Nat) (k7 : Nat) (x7_2 : Int32) (x7_1 : Int32) (f7_2 : Nat → Int32) (c07_2 : Nat) (c17_2 : Nat) (c27_2 : Nat) (c37_2 : Nat) (c47_2 : Nat) (H : Heap) (locs : List Loc) (ls : Array Slot), 6 + 1 ≤ k7 + zm → InA f7_2 c07_2 c17_2 c27_2 c37_2 c47_2 → (k7 ≤ 6) → wd X (va_A (@HAppend.hAppend va_W va_W va_W _ (mW m0 ma la lb n t v) (@HAppend.hAppend va_W va_W va_W _ ([((ma 0), .inl (X.2.1, 371, .inl fa))]) ([((ma 6), .inl (X.2.1, 55, .inl fh))]))) sz) (va_A (@HAppend.hAppend va_W va_W va_W _ (mW m0 ma la lb n t v) (@HAppend.hAppend va_W va_W va_W _ ([((ma 0), .inl (X.2.1, 371, .inl fa))]) ([((ma 6), .inl (X.2.1, 55, .inl fh))]))) sz) s (@HAppend.hAppend va_W va_W va_W _ (mW m0 ma la lb n t v) (@HAppend.hAppend va_W va_W va_W _ ([((ma 0), .inl (X.2.1, 371, .inl fa))]) ([((ma 6), .inl (X.2.1, 55, .inl f7_2))]))) H locs → lv_has ls 5 [(3, .int (nI k7)), (2, .int x7_2), (1, .int x7_1), (0, .ref m0)] → W p l e _ s m _ below meth c H locs _ _ _ (F0 m 7 ls [])) (fun loop => loop (6 + 1) 0 1000000 (-1) fh d0 d1 d2 d3 d4 _ _ _ (by omega) hI_fh (by omega) G hl) ?_
  intro zm
  induction zm with
  | zero => intro k7 x7_2 x7_1 f7_2 c07_2 c17_2 c27_2 c37_2 c47_2 H locs ls zz q_hI_f7_2 q_hk_k7 _ _; exact absurd zz (by omega)
  | succ zm ih7 =>
    intro k7 x7_2 x7_1 f7_2 c07_2 c17_2 c27_2 c37_2 c47_2 H locs ls zm_7 hI_f7_2 hk_k7 G hl
    have hO_f7_2 := hI_f7_2.2
    obtain ⟨hm0_f7_2, hm1_f7_2, hm2_f7_2, hm3_f7_2, hm4_f7_2⟩ := hO_f7_2
    refine lv_iload_n zx zb dX11_first_7 rfl (lv_at hl 0 rfl) ?_
    refine lv_aload_n zx zb dX11_first_8 rfl (lv_at hl 3 rfl) ?_
    refine o_ri (cells' := 0) (slots' := 0) G rfl rfl (n_V (As := []) (rest := [.int (nI k7)]) (C := RX11) (T := TX11) (N := 18) (ci := 9) S G (m_many l X m0 ma la lb n t v fa c0 c1 c2 c3 c4 hI_n hI_t hI_fa H.size) gX11_first_X11_many rfl rfl rfl hdV_X11_many ⟨Nat.le_of_ble_eq_true rfl, Nat.le_of_ble_eq_true rfl⟩ [0, 1] rfl rfl 0 rfl rfl rfl hl.1 (Nat.le_of_ble_eq_true rfl) dX11_first_9 ⟨Nat.le_of_ble_eq_true rfl, Nat.le_of_ble_eq_true rfl⟩) (fun r_1 u_1 H locs hp_1 G => ?_)
    have G : wd X (va_A (@HAppend.hAppend va_W va_W va_W _ (mW m0 ma la lb n t v) (@HAppend.hAppend va_W va_W va_W _ ([((ma 0), .inl (X.2.1, 371, .inl fa))]) ([((ma 6), .inl (X.2.1, 55, .inl fh))]))) sz) (va_A (@HAppend.hAppend va_W va_W va_W _ (mW m0 ma la lb n t v) (@HAppend.hAppend va_W va_W va_W _ ([((ma 0), .inl (X.2.1, 371, .inl fa))]) ([((ma 6), .inl (X.2.1, 55, .inl fh))]))) sz) s (@HAppend.hAppend va_W va_W va_W _ (mW m0 ma la lb n t v) (@HAppend.hAppend va_W va_W va_W _ ([((ma 0), .inl (X.2.1, 371, .inl fa))]) ([((ma 6), .inl (X.2.1, 55, .inl f7_2))]))) H locs := G
    obtain rfl := hp_1
    refine lv_icmp_ge (tgt := 60) zx zb dX11_first_12 (by decide) (fun c_2 => ?_) (fun c_2 => ?_)
    · have fc_2 := j_le (a := c0) (b := k7) (by omega) (by omega) c_2
      refine lv_iload_n zx zb dX11_first_60 rfl (lv_at hl 2 rfl) ?_
      exact e_int S zr zlk (vp_nar_int _) G (f7_2, c07_2, c17_2, c27_2, c37_2, c47_2) [0, 1, 2] rfl rfl (Or.inr rfl) (⟨hI_f7_2, trivial⟩) dX11_first_61
    · have fc_2 := j_nle (a := c0) (b := k7) (by omega) (by omega) c_2
      refine lv_aload_n zx zb dX11_first_15 rfl (lv_at hl 3 rfl) ?_
      refine r_get (C := RX11) (T := TX11) (N := 18) (ci := 9) (v := .ref (ma 0)) S in_X11_first_X11 G 0 rfl rfl 0 (by decide) lk_X11_first_7 rfl dX11_first_16 ?_
      refine lv_iload_n zx zb dX11_first_19 rfl (lv_at hl 0 rfl) ?_
      refine o_ri (cells' := 0) (slots' := 0) G rfl rfl (n_S (As := [.ref (ma 0), .int (nI k7)]) (rest := []) S G (m_isHome l X (ma 0) 371 fa c0 c1 c2 c3 c4 k7 hI_fa (by omega) (by omega) (by omega) H.size) gX11_first_X11_isHome rfl rfl rfl hdS_X11_isHome ⟨Nat.le_of_ble_eq_true rfl, Nat.le_of_ble_eq_true rfl⟩ [1] rfl rfl rfl hl.1 (Nat.le_of_ble_eq_true rfl) dX11_first_20 ⟨Nat.le_of_ble_eq_true rfl, Nat.le_of_ble_eq_true rfl⟩) (fun r_3 u_3 H locs hp_3 G => ?_)
      have G : wd X (va_A (@HAppend.hAppend va_W va_W va_W _ (mW m0 ma la lb n t v) (@HAppend.hAppend va_W va_W va_W _ ([((ma 0), .inl (X.2.1, 371, .inl fa))]) ([((ma 6), .inl (X.2.1, 55, .inl fh))]))) sz) (va_A (@HAppend.hAppend va_W va_W va_W _ (mW m0 ma la lb n t v) (@HAppend.hAppend va_W va_W va_W _ ([((ma 0), .inl (X.2.1, 371, .inl fa))]) ([((ma 6), .inl (X.2.1, 55, .inl fh))]))) sz) s (@HAppend.hAppend va_W va_W va_W _ (mW m0 ma la lb n t v) (@HAppend.hAppend va_W va_W va_W _ ([((ma 0), .inl (X.2.1, 371, .inl fa))]) ([((ma 6), .inl (X.2.1, 55, .inl f7_2))]))) H locs := G
      refine k_cutW (PP := fun Wx => ∀ (x_5 : Int32) (f_6 : Nat → Int32) (c0_7 : Nat) (c1_8 : Nat) (c2_9 : Nat) (c3_10 : Nat) (c4_11 : Nat) (H : Heap) (locs : List Loc) (ls : Array Slot), InA f_6 c0_7 c1_8 c2_9 c3_10 c4_11 → wd X (va_A (@HAppend.hAppend va_W va_W va_W _ (mW m0 ma la lb n t v) (@HAppend.hAppend va_W va_W va_W _ ([((ma 0), .inl (X.2.1, 371, .inl fa))]) ([((ma 6), .inl (X.2.1, 55, .inl fh))]))) sz) (va_A (@HAppend.hAppend va_W va_W va_W _ (mW m0 ma la lb n t v) (@HAppend.hAppend va_W va_W va_W _ ([((ma 0), .inl (X.2.1, 371, .inl fa))]) ([((ma 6), .inl (X.2.1, 55, .inl fh))]))) sz) s (@HAppend.hAppend va_W va_W va_W _ (mW m0 ma la lb n t v) (@HAppend.hAppend va_W va_W va_W _ ([((ma 0), .inl (X.2.1, 371, .inl fa))]) ([((ma 6), .inl (X.2.1, 55, .inl f_6))]))) H locs → lv_has ls 5 [(3, .int (nI k7)), (2, .int x7_2), (1, .int x7_1), (0, .ref m0)] → Wx (F0 m 35 ls [.int x_5]) H locs) ?_ ?_
      · intro join_23
        refine lv_if_eq (tgt := 30) zx zb dX11_first_23 (by decide) (fun c_4 => ?_) (fun c_4 => ?_)
        · refine lv_aload_n zx zb dX11_first_30 rfl (lv_at hl 3 rfl) ?_
          refine lv_iload_n zx zb dX11_first_31 rfl (lv_at hl 0 rfl) ?_
          refine b_wi (cells' := 0) (slots' := 0) (wr := []) G rfl rfl [0, 1, 2] [] rfl rfl rfl rfl (n_V (As := [.int (nI k7)]) (rest := []) (C := RX11) (T := TX11) (N := 18) (ci := 9) S G (m_homeOf l X m0 ma la lb n t v fa c0 c1 c2 c3 c4 f7_2 c07_2 c17_2 c27_2 c37_2 c47_2 k7 hI_n hI_t hI_fa hI_f7_2 (by omega) H.size) gX11_first_X11_homeOf rfl rfl rfl hdV_X11_homeOf ⟨Nat.le_of_ble_eq_true rfl, Nat.le_of_ble_eq_true rfl⟩ [0, 1, 2] rfl rfl 0 rfl rfl rfl hl.1 (Nat.le_of_ble_eq_true rfl) dX11_first_32 ⟨Nat.le_of_ble_eq_true rfl, Nat.le_of_ble_eq_true rfl⟩) (fun r_12 u_12 H locs hp_12 G => ?_)
          obtain ⟨f_12a, c0_12b, c1_12c, c2_12d, c3_12e, c4_12f⟩ := u_12
          try dsimp only at hp_12
          obtain ⟨hI_f_12a, hq_12⟩ := hp_12
          have hO_f_12a := hI_f_12a.2
          obtain ⟨hm0_f_12a, hm1_f_12a, hm2_f_12a, hm3_f_12a, hm4_f_12a⟩ := hO_f_12a
          have G : wd X (va_A (@HAppend.hAppend va_W va_W va_W _ (mW m0 ma la lb n t v) (@HAppend.hAppend va_W va_W va_W _ ([((ma 0), .inl (X.2.1, 371, .inl fa))]) ([((ma 6), .inl (X.2.1, 55, .inl fh))]))) sz) (va_A (@HAppend.hAppend va_W va_W va_W _ (mW m0 ma la lb n t v) (@HAppend.hAppend va_W va_W va_W _ ([((ma 0), .inl (X.2.1, 371, .inl fa))]) ([((ma 6), .inl (X.2.1, 55, .inl fh))]))) sz) s (@HAppend.hAppend va_W va_W va_W _ (mW m0 ma la lb n t v) (@HAppend.hAppend va_W va_W va_W _ ([((ma 0), .inl (X.2.1, 371, .inl fa))]) ([((ma 6), .inl (X.2.1, 55, .inl f_12a))]))) H locs := G
          exact join_23 r_12 f_12a c0_12b c1_12c c2_12d c3_12e c4_12f _ _ _ hI_f_12a G hl
        · refine lv_iconst (v := (-1)) zx zb dX11_first_26 (by decide) ?_
          refine lv_goto (tgt := 35) zx zb dX11_first_27 (by decide) ?_
          exact join_23 (-1) f7_2 c07_2 c17_2 c27_2 c37_2 c47_2 _ _ _ hI_f7_2 G hl
      · intro x_5 f_6 c0_7 c1_8 c2_9 c3_10 c4_11 H locs ls hI_f_6 G hl
        have hO_f_6 := hI_f_6.2
        obtain ⟨hm0_f_6, hm1_f_6, hm2_f_6, hm3_f_6, hm4_f_6⟩ := hO_f_6
        refine lv_istore (lv' := [(4, .int x_5), (3, .int (nI k7)), (2, .int x7_2), (1, .int x7_1), (0, .ref m0)]) zx zb dX11_first_35 hl (by decide) rfl (fun ls hl => ?_)
        refine lv_iload zx zb dX11_first_37 (lv_at hl 0 rfl) ?_
        refine lv_iconst (v := (-1)) zx zb dX11_first_39 (by decide) ?_
        refine k_cutW (PP := fun Wx => ∀ (x_14 : Int32) (x_15 : Int32) (H : Heap) (locs : List Loc) (ls : Array Slot), wd X (va_A (@HAppend.hAppend va_W va_W va_W _ (mW m0 ma la lb n t v) (@HAppend.hAppend va_W va_W va_W _ ([((ma 0), .inl (X.2.1, 371, .inl fa))]) ([((ma 6), .inl (X.2.1, 55, .inl fh))]))) sz) (va_A (@HAppend.hAppend va_W va_W va_W _ (mW m0 ma la lb n t v) (@HAppend.hAppend va_W va_W va_W _ ([((ma 0), .inl (X.2.1, 371, .inl fa))]) ([((ma 6), .inl (X.2.1, 55, .inl fh))]))) sz) s (@HAppend.hAppend va_W va_W va_W _ (mW m0 ma la lb n t v) (@HAppend.hAppend va_W va_W va_W _ ([((ma 0), .inl (X.2.1, 371, .inl fa))]) ([((ma 6), .inl (X.2.1, 55, .inl f_6))]))) H locs → lv_has ls 5 [(4, .int x_5), (3, .int (nI k7)), (2, .int x_14), (1, .int x_15), (0, .ref m0)] → Wx (F0 m 54 ls []) H locs) ?_ ?_
        · intro join_40
          refine lv_icmp_eq (tgt := 54) zx zb dX11_first_40 (by decide) (fun c_13 => ?_) (fun c_13 => ?_)
          · exact join_40 x7_2 x7_1 _ _ _  G hl
          · refine lv_iload zx zb dX11_first_43 (lv_at hl 0 rfl) ?_
            refine lv_iload_n zx zb dX11_first_45 rfl (lv_at hl 2 rfl) ?_
            refine lv_icmp_ge (tgt := 54) zx zb dX11_first_46 (by decide) (fun c_16 => ?_) (fun c_16 => ?_)
            · exact join_40 x7_2 x7_1 _ _ _  G hl
            · refine lv_iload_n zx zb dX11_first_49 rfl (lv_at hl 1 rfl) ?_
              refine lv_istore_n (lv' := [(1, .int (nI k7)), (4, .int x_5), (3, .int (nI k7)), (2, .int x7_2), (0, .ref m0)]) zx zb dX11_first_50 rfl hl (by decide) rfl (fun ls hl => ?_)
              refine lv_iload zx zb dX11_first_51 (lv_at hl 1 rfl) ?_
              refine lv_istore_n (lv' := [(2, .int x_5), (1, .int (nI k7)), (4, .int x_5), (3, .int (nI k7)), (0, .ref m0)]) zx zb dX11_first_53 rfl hl (by decide) rfl (fun ls hl => ?_)
              have hl := lv_sub hl (l' := [(4, .int x_5), (3, .int (nI k7)), (2, .int x_5), (1, .int (nI k7)), (0, .ref m0)]) [2, 3, 0, 1, 4] rfl
              exact join_40 x_5 (nI k7) _ _ _  G hl
        · intro x_14 x_15 H locs ls  G hl
          refine lv_iinc (v := (nI (k7 + 1))) (lv' := [(3, .int (nI (k7 + 1))), (4, .int x_5), (2, .int x_14), (1, .int x_15), (0, .ref m0)]) zx zb dX11_first_54 hl (k := 1) rfl (nI_add k7 1) (by decide) rfl (fun ls hl => ?_)
          refine lv_goto (tgt := 7) zx zb dX11_first_57 (by decide) ?_
          have hl := lv_sub hl (l' := [(3, .int (nI (k7 + 1))), (2, .int x_14), (1, .int x_15), (0, .ref m0)]) [0, 2, 3, 4] rfl
          exact ih7 (k7 + 1) x_14 x_15 f_6 c0_7 c1_8 c2_9 c3_10 c4_11 _ _ _ (by omega) hI_f_6 (by omega) G hl
theorem in_X11_order_X11 : ∀ w ∈ wsX110, w ∈ wsX11_order := by decide +kernel
theorem lk_X11_order_30 : Cond.fieldLink RX11 30 "EggSpoonsModel" "goesBy" "[I" ∈ wsX11_order := by decide +kernel
theorem lk_X11_order_7 : Cond.fieldLink RX11 7 "EggSpoonsModel" "all" "[I" ∈ wsX11_order := by decide +kernel
theorem mm_X11_order_c150 : Cond.constant RX11 150 (1000000) ∈ wsX11_order := by decide +kernel
theorem mm_X11_order_c151 : Cond.constant RX11 151 (2000000) ∈ wsX11_order := by decide +kernel
set_option maxHeartbeats 4000000 in
set_option maxRecDepth 100000 in
/-- order -/
theorem m_order (l : Launch) (X : EX) (m0 : Nat) (ma : Nat → Nat) (la : Int64) (lb : Int64) (n : Nat) (t : Nat → Nat) (v : Nat → Int32) (fa : Nat → Int32) (c0 : Nat) (c1 : Nat) (c2 : Nat) (c3 : Nat) (c4 : Nat) (fh : Nat → Int32) (d0 : Nat) (d1 : Nat) (d2 : Nat) (d3 : Nat) (d4 : Nat) (fg : Nat → Int32) (fr : Nat → Int32) (x1 : Int32) (hI_n : n ≤ 150) (hI_t : InT t) (hI_fa : InA fa c0 c1 c2 c3 c4) (hI_fh : InA fh d0 d1 d2 d3 d4) (sz : Nat) : Met l yX11_order wsX11_order ({ frames := 6, cells := 0, slots := 0, locals := 137 } : Room) (pE X [.ref m0, .int x1] (@HAppend.hAppend va_W va_W va_W _ (mW m0 ma la lb n t v) (@HAppend.hAppend va_W va_W va_W _ ([((ma 0), .inl (X.2.1, 371, .inl fa))]) (@HAppend.hAppend va_W va_W va_W _ ([((ma 6), .inl (X.2.1, 55, .inl fh))]) (@HAppend.hAppend va_W va_W va_W _ ([((ma 7), .inl (X.2.1, 6, .inl fg))]) ([((ma 3), .inl (X.2.1, 3, .inl fr))]))))) sz) (qI (fun (r : Int32) (u : (Nat → Int32) × (Nat) × (Nat) × (Nat) × (Nat) × (Nat) × (Nat → Int32) × (Nat → Int32)) => InA u.1 u.2.1 u.2.2.1 u.2.2.2.1 u.2.2.2.2.1 u.2.2.2.2.2.1 ∧ (True)) X (fun (u : (Nat → Int32) × (Nat) × (Nat) × (Nat) × (Nat) × (Nat) × (Nat → Int32) × (Nat → Int32)) => @HAppend.hAppend va_W va_W va_W _ (mW m0 ma la lb n t v) (@HAppend.hAppend va_W va_W va_W _ ([((ma 0), .inl (X.2.1, 371, .inl fa))]) (@HAppend.hAppend va_W va_W va_W _ ([((ma 6), .inl (X.2.1, 55, .inl u.1))]) (@HAppend.hAppend va_W va_W va_W _ ([((ma 7), .inl (X.2.1, 6, .inl u.2.2.2.2.2.2.1))]) ([((ma 3), .inl (X.2.1, 3, .inl u.2.2.2.2.2.2.2))]))))) (@HAppend.hAppend va_W va_W va_W _ (mW m0 ma la lb n t v) (@HAppend.hAppend va_W va_W va_W _ ([((ma 0), .inl (X.2.1, 371, .inl fa))]) (@HAppend.hAppend va_W va_W va_W _ ([((ma 6), .inl (X.2.1, 55, .inl fh))]) (@HAppend.hAppend va_W va_W va_W _ ([((ma 7), .inl (X.2.1, 6, .inl fg))]) ([((ma 3), .inl (X.2.1, 3, .inl fr))]))))) sz) 0 0 (va_A (@HAppend.hAppend va_W va_W va_W _ (mW m0 ma la lb n t v) (@HAppend.hAppend va_W va_W va_W _ ([((ma 0), .inl (X.2.1, 371, .inl fa))]) (@HAppend.hAppend va_W va_W va_W _ ([((ma 6), .inl (X.2.1, 55, .inl fh))]) (@HAppend.hAppend va_W va_W va_W _ ([((ma 7), .inl (X.2.1, 6, .inl fg))]) ([((ma 3), .inl (X.2.1, 3, .inl fr))]))))) sz) := by
  refine mk_met (B := (va_A (@HAppend.hAppend va_W va_W va_W _ (mW m0 ma la lb n t v) (@HAppend.hAppend va_W va_W va_W _ ([((ma 0), .inl (X.2.1, 371, .inl fa))]) (@HAppend.hAppend va_W va_W va_W _ ([((ma 6), .inl (X.2.1, 55, .inl fh))]) (@HAppend.hAppend va_W va_W va_W _ ([((ma 7), .inl (X.2.1, 6, .inl fg))]) ([((ma 3), .inl (X.2.1, 3, .inl fr))]))))) sz)) (A := (va_A (@HAppend.hAppend va_W va_W va_W _ (mW m0 ma la lb n t v) (@HAppend.hAppend va_W va_W va_W _ ([((ma 0), .inl (X.2.1, 371, .inl fa))]) (@HAppend.hAppend va_W va_W va_W _ ([((ma 6), .inl (X.2.1, 55, .inl fh))]) (@HAppend.hAppend va_W va_W va_W _ ([((ma 7), .inl (X.2.1, 6, .inl fg))]) ([((ma 3), .inl (X.2.1, 3, .inl fr))]))))) sz)) (cc := cX11_order) (maxL := 5) (ret := (some .int)) (by decide) rfl (Nat.le_of_ble_eq_true rfl) k_w k_a (fun p e s m below meth c S zr zlk znm zsz G ls hl => ?_)
  have S : CallFix p m c cX11_order 5 s _ wsX11_order RX11 := S
  have zx := S.1
  have zb := S.2.1
  have hl : lv_has ls 5 [(0, .ref m0), (1, .int x1)] := hl
  have hO_t := hI_t
  obtain ⟨ht0_t, ht1_t⟩ := hO_t
  have hO_fa := hI_fa.2
  obtain ⟨hm0_fa, hm1_fa, hm2_fa, hm3_fa, hm4_fa⟩ := hO_fa
  have hO_fh := hI_fh.2
  obtain ⟨hm0_fh, hm1_fh, hm2_fh, hm3_fh, hm4_fh⟩ := hO_fh
  refine lv_iload_n zx zb dX11_order_0 rfl (lv_at hl 1 rfl) ?_
  refine lv_if_ge (tgt := 11) zx zb dX11_order_1 (by decide) (fun c_1 => ?_) (fun c_1 => ?_)
  · refine lv_iload_n zx zb dX11_order_11 rfl (lv_at hl 1 rfl) ?_
    refine lv_aload_n zx zb dX11_order_12 rfl (lv_at hl 0 rfl) ?_
    refine o_ri (cells' := 0) (slots' := 0) G rfl rfl (n_V (As := []) (rest := [.int x1]) (C := RX11) (T := TX11) (N := 18) (ci := 9) S G (m_many l X m0 ma la lb n t v fa c0 c1 c2 c3 c4 hI_n hI_t hI_fa s.heap.size) gX11_order_X11_many rfl rfl rfl hdV_X11_many ⟨Nat.le_of_ble_eq_true rfl, Nat.le_of_ble_eq_true rfl⟩ [0, 1] rfl rfl 0 rfl rfl rfl hl.1 (Nat.le_of_ble_eq_true rfl) dX11_order_13 ⟨Nat.le_of_ble_eq_true rfl, Nat.le_of_ble_eq_true rfl⟩) (fun r_2 u_2 H locs hp_2 G => ?_)
    have G : wd X (va_A (@HAppend.hAppend va_W va_W va_W _ (mW m0 ma la lb n t v) (@HAppend.hAppend va_W va_W va_W _ ([((ma 0), .inl (X.2.1, 371, .inl fa))]) (@HAppend.hAppend va_W va_W va_W _ ([((ma 6), .inl (X.2.1, 55, .inl fh))]) (@HAppend.hAppend va_W va_W va_W _ ([((ma 7), .inl (X.2.1, 6, .inl fg))]) ([((ma 3), .inl (X.2.1, 3, .inl fr))]))))) sz) (va_A (@HAppend.hAppend va_W va_W va_W _ (mW m0 ma la lb n t v) (@HAppend.hAppend va_W va_W va_W _ ([((ma 0), .inl (X.2.1, 371, .inl fa))]) (@HAppend.hAppend va_W va_W va_W _ ([((ma 6), .inl (X.2.1, 55, .inl fh))]) (@HAppend.hAppend va_W va_W va_W _ ([((ma 7), .inl (X.2.1, 6, .inl fg))]) ([((ma 3), .inl (X.2.1, 3, .inl fr))]))))) sz) s (@HAppend.hAppend va_W va_W va_W _ (mW m0 ma la lb n t v) (@HAppend.hAppend va_W va_W va_W _ ([((ma 0), .inl (X.2.1, 371, .inl fa))]) (@HAppend.hAppend va_W va_W va_W _ ([((ma 6), .inl (X.2.1, 55, .inl fh))]) (@HAppend.hAppend va_W va_W va_W _ ([((ma 7), .inl (X.2.1, 6, .inl fg))]) ([((ma 3), .inl (X.2.1, 3, .inl fr))]))))) H locs := G
    obtain rfl := hp_2
    refine lv_icmp_lt (tgt := 24) zx zb dX11_order_16 (by decide) (fun c_3 => ?_) (fun c_3 => ?_)
    · refine lv_iconst (v := 0) zx zb dX11_order_24 (by decide) ?_
      refine lv_istore_n (lv' := [(2, .int 0), (0, .ref m0), (1, .int x1)]) zx zb dX11_order_25 rfl hl (by decide) rfl (fun ls hl => ?_)
      refine k_loop (P := ∀ (zm : Nat) (k26 : Nat) (f26_2 : Nat → Int32) (c026_2 : Nat) (c126_2 : Nat) (c226_2 : Nat) (c326_2 : Nat) (c426_2 : Nat) (f26_3 : Nat → Int32) (H : Heap) (locs : List Loc) (ls : Array Slot), 6 + 1 ≤ k26 + zm → InA f26_2 c026_2 c126_2 c226_2 c326_2 c426_2 → (k26 ≤ 6) → wd X (va_A (@HAppend.hAppend va_W va_W va_W _ (mW m0 ma la lb n t v) (@HAppend.hAppend va_W va_W va_W _ ([((ma 0), .inl (X.2.1, 371, .inl fa))]) (@HAppend.hAppend va_W va_W va_W _ ([((ma 6), .inl (X.2.1, 55, .inl fh))]) (@HAppend.hAppend va_W va_W va_W _ ([((ma 7), .inl (X.2.1, 6, .inl fg))]) ([((ma 3), .inl (X.2.1, 3, .inl fr))]))))) sz) (va_A (@HAppend.hAppend va_W va_W va_W _ (mW m0 ma la lb n t v) (@HAppend.hAppend va_W va_W va_W _ ([((ma 0), .inl (X.2.1, 371, .inl fa))]) (@HAppend.hAppend va_W va_W va_W _ ([((ma 6), .inl (X.2.1, 55, .inl fh))]) (@HAppend.hAppend va_W va_W va_W _ ([((ma 7), .inl (X.2.1, 6, .inl fg))]) ([((ma 3), .inl (X.2.1, 3, .inl fr))]))))) sz) s (@HAppend.hAppend va_W va_W va_W _ (mW m0 ma la lb n t v) (@HAppend.hAppend va_W va_W va_W _ ([((ma 0), .inl (X.2.1, 371, .inl fa))]) (@HAppend.hAppend va_W va_W va_W _ ([((ma 6), .inl (X.2.1, 55, .inl f26_2))]) (@HAppend.hAppend va_W va_W va_W _ ([((ma 7), .inl (X.2.1, 6, .inl f26_3))]) ([((ma 3), .inl (X.2.1, 3, .inl fr))]))))) H locs → lv_has ls 5 [(2, .int (nI k26)), (0, .ref m0), (1, .int x1)] → W p l e _ s m _ below meth c H locs _ _ _ (F0 m 26 ls [])) (fun loop => loop (6 + 1) 0 fh d0 d1 d2 d3 d4 fg _ _ _ (by omega) hI_fh (by omega) G hl) ?_
      intro zm
      induction zm with
      | zero => intro k26 f26_2 c026_2 c126_2 c226_2 c326_2 c426_2 f26_3 H locs ls zz q_hI_f26_2 q_hk_k26 _ _; exact absurd zz (by omega)
      | succ zm ih26 =>
        intro k26 f26_2 c026_2 c126_2 c226_2 c326_2 c426_2 f26_3 H locs ls zm_26 hI_f26_2 hk_k26 G hl
        have hO_f26_2 := hI_f26_2.2
        obtain ⟨hm0_f26_2, hm1_f26_2, hm2_f26_2, hm3_f26_2, hm4_f26_2⟩ := hO_f26_2
        refine lv_iload_n zx zb dX11_order_26 rfl (lv_at hl 0 rfl) ?_
        refine lv_aload_n zx zb dX11_order_27 rfl (lv_at hl 1 rfl) ?_
        refine o_ri (cells' := 0) (slots' := 0) G rfl rfl (n_V (As := []) (rest := [.int (nI k26)]) (C := RX11) (T := TX11) (N := 18) (ci := 9) S G (m_many l X m0 ma la lb n t v fa c0 c1 c2 c3 c4 hI_n hI_t hI_fa H.size) gX11_order_X11_many rfl rfl rfl hdV_X11_many ⟨Nat.le_of_ble_eq_true rfl, Nat.le_of_ble_eq_true rfl⟩ [0, 1] rfl rfl 0 rfl rfl rfl hl.1 (Nat.le_of_ble_eq_true rfl) dX11_order_28 ⟨Nat.le_of_ble_eq_true rfl, Nat.le_of_ble_eq_true rfl⟩) (fun r_4 u_4 H locs hp_4 G => ?_)
        have G : wd X (va_A (@HAppend.hAppend va_W va_W va_W _ (mW m0 ma la lb n t v) (@HAppend.hAppend va_W va_W va_W _ ([((ma 0), .inl (X.2.1, 371, .inl fa))]) (@HAppend.hAppend va_W va_W va_W _ ([((ma 6), .inl (X.2.1, 55, .inl fh))]) (@HAppend.hAppend va_W va_W va_W _ ([((ma 7), .inl (X.2.1, 6, .inl fg))]) ([((ma 3), .inl (X.2.1, 3, .inl fr))]))))) sz) (va_A (@HAppend.hAppend va_W va_W va_W _ (mW m0 ma la lb n t v) (@HAppend.hAppend va_W va_W va_W _ ([((ma 0), .inl (X.2.1, 371, .inl fa))]) (@HAppend.hAppend va_W va_W va_W _ ([((ma 6), .inl (X.2.1, 55, .inl fh))]) (@HAppend.hAppend va_W va_W va_W _ ([((ma 7), .inl (X.2.1, 6, .inl fg))]) ([((ma 3), .inl (X.2.1, 3, .inl fr))]))))) sz) s (@HAppend.hAppend va_W va_W va_W _ (mW m0 ma la lb n t v) (@HAppend.hAppend va_W va_W va_W _ ([((ma 0), .inl (X.2.1, 371, .inl fa))]) (@HAppend.hAppend va_W va_W va_W _ ([((ma 6), .inl (X.2.1, 55, .inl f26_2))]) (@HAppend.hAppend va_W va_W va_W _ ([((ma 7), .inl (X.2.1, 6, .inl f26_3))]) ([((ma 3), .inl (X.2.1, 3, .inl fr))]))))) H locs := G
        obtain rfl := hp_4
        refine lv_icmp_ge (tgt := 89) zx zb dX11_order_31 (by decide) (fun c_5 => ?_) (fun c_5 => ?_)
        · have fc_5 := j_le (a := c0) (b := k26) (by omega) (by omega) c_5
          refine lv_iconst (v := 0) zx zb dX11_order_89 (by decide) ?_
          refine lv_istore_n (lv' := [(2, .int 0), (0, .ref m0), (1, .int x1)]) zx zb dX11_order_90 rfl hl (by decide) rfl (fun ls hl => ?_)
          refine k_loop (P := ∀ (zm : Nat) (k91 : Nat) (H : Heap) (locs : List Loc) (ls : Array Slot), 6 + 1 ≤ k91 + zm → (k91 ≤ 6) → wd X (va_A (@HAppend.hAppend va_W va_W va_W _ (mW m0 ma la lb n t v) (@HAppend.hAppend va_W va_W va_W _ ([((ma 0), .inl (X.2.1, 371, .inl fa))]) (@HAppend.hAppend va_W va_W va_W _ ([((ma 6), .inl (X.2.1, 55, .inl fh))]) (@HAppend.hAppend va_W va_W va_W _ ([((ma 7), .inl (X.2.1, 6, .inl fg))]) ([((ma 3), .inl (X.2.1, 3, .inl fr))]))))) sz) (va_A (@HAppend.hAppend va_W va_W va_W _ (mW m0 ma la lb n t v) (@HAppend.hAppend va_W va_W va_W _ ([((ma 0), .inl (X.2.1, 371, .inl fa))]) (@HAppend.hAppend va_W va_W va_W _ ([((ma 6), .inl (X.2.1, 55, .inl fh))]) (@HAppend.hAppend va_W va_W va_W _ ([((ma 7), .inl (X.2.1, 6, .inl fg))]) ([((ma 3), .inl (X.2.1, 3, .inl fr))]))))) sz) s (@HAppend.hAppend va_W va_W va_W _ (mW m0 ma la lb n t v) (@HAppend.hAppend va_W va_W va_W _ ([((ma 0), .inl (X.2.1, 371, .inl fa))]) (@HAppend.hAppend va_W va_W va_W _ ([((ma 6), .inl (X.2.1, 55, .inl f26_2))]) (@HAppend.hAppend va_W va_W va_W _ ([((ma 7), .inl (X.2.1, 6, .inl f26_3))]) ([((ma 3), .inl (X.2.1, 3, .inl fr))]))))) H locs → lv_has ls 5 [(2, .int (nI k91)), (0, .ref m0), (1, .int x1)] → W p l e _ s m _ below meth c H locs _ _ _ (F0 m 91 ls [])) (fun loop => loop (6 + 1) 0 _ _ _ (by omega) (by omega) G hl) ?_
          intro zm
          induction zm with
          | zero => intro k91 H locs ls zz q_hk_k91 _ _; exact absurd zz (by omega)
          | succ zm ih91 =>
            intro k91 H locs ls zm_91 hk_k91 G hl
            refine lv_iload_n zx zb dX11_order_91 rfl (lv_at hl 0 rfl) ?_
            refine lv_aload_n zx zb dX11_order_92 rfl (lv_at hl 1 rfl) ?_
            refine o_ri (cells' := 0) (slots' := 0) G rfl rfl (n_V (As := []) (rest := [.int (nI k91)]) (C := RX11) (T := TX11) (N := 18) (ci := 9) S G (m_many l X m0 ma la lb n t v fa c0 c1 c2 c3 c4 hI_n hI_t hI_fa H.size) gX11_order_X11_many rfl rfl rfl hdV_X11_many ⟨Nat.le_of_ble_eq_true rfl, Nat.le_of_ble_eq_true rfl⟩ [0, 1] rfl rfl 0 rfl rfl rfl hl.1 (Nat.le_of_ble_eq_true rfl) dX11_order_93 ⟨Nat.le_of_ble_eq_true rfl, Nat.le_of_ble_eq_true rfl⟩) (fun r_6 u_6 H locs hp_6 G => ?_)
            have G : wd X (va_A (@HAppend.hAppend va_W va_W va_W _ (mW m0 ma la lb n t v) (@HAppend.hAppend va_W va_W va_W _ ([((ma 0), .inl (X.2.1, 371, .inl fa))]) (@HAppend.hAppend va_W va_W va_W _ ([((ma 6), .inl (X.2.1, 55, .inl fh))]) (@HAppend.hAppend va_W va_W va_W _ ([((ma 7), .inl (X.2.1, 6, .inl fg))]) ([((ma 3), .inl (X.2.1, 3, .inl fr))]))))) sz) (va_A (@HAppend.hAppend va_W va_W va_W _ (mW m0 ma la lb n t v) (@HAppend.hAppend va_W va_W va_W _ ([((ma 0), .inl (X.2.1, 371, .inl fa))]) (@HAppend.hAppend va_W va_W va_W _ ([((ma 6), .inl (X.2.1, 55, .inl fh))]) (@HAppend.hAppend va_W va_W va_W _ ([((ma 7), .inl (X.2.1, 6, .inl fg))]) ([((ma 3), .inl (X.2.1, 3, .inl fr))]))))) sz) s (@HAppend.hAppend va_W va_W va_W _ (mW m0 ma la lb n t v) (@HAppend.hAppend va_W va_W va_W _ ([((ma 0), .inl (X.2.1, 371, .inl fa))]) (@HAppend.hAppend va_W va_W va_W _ ([((ma 6), .inl (X.2.1, 55, .inl f26_2))]) (@HAppend.hAppend va_W va_W va_W _ ([((ma 7), .inl (X.2.1, 6, .inl f26_3))]) ([((ma 3), .inl (X.2.1, 3, .inl fr))]))))) H locs := G
            obtain rfl := hp_6
            refine lv_icmp_ge (tgt := 178) zx zb dX11_order_96 (by decide) (fun c_7 => ?_) (fun c_7 => ?_)
            · have fc_7 := j_le (a := c0) (b := k91) (by omega) (by omega) c_7
              refine lv_iconst (v := (-1)) zx zb dX11_order_178 (by decide) ?_
              exact e_int S zr zlk (vp_nar_int _) G (f26_2, c026_2, c126_2, c226_2, c326_2, c426_2, f26_3, fr) [0, 1, 2, 3, 4] rfl rfl (Or.inr rfl) (⟨hI_f26_2, trivial⟩) dX11_order_179
            · have fc_7 := j_nle (a := c0) (b := k91) (by omega) (by omega) c_7
              refine lv_iconst (v := 0) zx zb dX11_order_99 (by decide) ?_
              refine lv_istore_n (lv' := [(3, .int 0), (2, .int (nI k91)), (0, .ref m0), (1, .int x1)]) zx zb dX11_order_100 rfl hl (by decide) rfl (fun ls hl => ?_)
              refine lv_iconst (v := 0) zx zb dX11_order_101 (by decide) ?_
              refine lv_istore (lv' := [(4, .int 0), (3, .int 0), (2, .int (nI k91)), (0, .ref m0), (1, .int x1)]) zx zb dX11_order_102 hl (by decide) rfl (fun ls hl => ?_)
              refine k_loop (P := ∀ (zm : Nat) (k104 : Nat) (x104_3 : Int32) (H : Heap) (locs : List Loc) (ls : Array Slot), 6 + 1 ≤ k104 + zm → (k104 ≤ 6) → wd X (va_A (@HAppend.hAppend va_W va_W va_W _ (mW m0 ma la lb n t v) (@HAppend.hAppend va_W va_W va_W _ ([((ma 0), .inl (X.2.1, 371, .inl fa))]) (@HAppend.hAppend va_W va_W va_W _ ([((ma 6), .inl (X.2.1, 55, .inl fh))]) (@HAppend.hAppend va_W va_W va_W _ ([((ma 7), .inl (X.2.1, 6, .inl fg))]) ([((ma 3), .inl (X.2.1, 3, .inl fr))]))))) sz) (va_A (@HAppend.hAppend va_W va_W va_W _ (mW m0 ma la lb n t v) (@HAppend.hAppend va_W va_W va_W _ ([((ma 0), .inl (X.2.1, 371, .inl fa))]) (@HAppend.hAppend va_W va_W va_W _ ([((ma 6), .inl (X.2.1, 55, .inl fh))]) (@HAppend.hAppend va_W va_W va_W _ ([((ma 7), .inl (X.2.1, 6, .inl fg))]) ([((ma 3), .inl (X.2.1, 3, .inl fr))]))))) sz) s (@HAppend.hAppend va_W va_W va_W _ (mW m0 ma la lb n t v) (@HAppend.hAppend va_W va_W va_W _ ([((ma 0), .inl (X.2.1, 371, .inl fa))]) (@HAppend.hAppend va_W va_W va_W _ ([((ma 6), .inl (X.2.1, 55, .inl f26_2))]) (@HAppend.hAppend va_W va_W va_W _ ([((ma 7), .inl (X.2.1, 6, .inl f26_3))]) ([((ma 3), .inl (X.2.1, 3, .inl fr))]))))) H locs → lv_has ls 5 [(4, .int (nI k104)), (3, .int x104_3), (2, .int (nI k91)), (0, .ref m0), (1, .int x1)] → W p l e _ s m _ below meth c H locs _ _ _ (F0 m 104 ls [])) (fun loop => loop (6 + 1) 0 0 _ _ _ (by omega) (by omega) G hl) ?_
              intro zm
              induction zm with
              | zero => intro k104 x104_3 H locs ls zz q_hk_k104 _ _; exact absurd zz (by omega)
              | succ zm ih104 =>
                intro k104 x104_3 H locs ls zm_104 hk_k104 G hl
                refine lv_iload zx zb dX11_order_104 (lv_at hl 0 rfl) ?_
                refine lv_aload_n zx zb dX11_order_106 rfl (lv_at hl 3 rfl) ?_
                refine o_ri (cells' := 0) (slots' := 0) G rfl rfl (n_V (As := []) (rest := [.int (nI k104)]) (C := RX11) (T := TX11) (N := 18) (ci := 9) S G (m_many l X m0 ma la lb n t v fa c0 c1 c2 c3 c4 hI_n hI_t hI_fa H.size) gX11_order_X11_many rfl rfl rfl hdV_X11_many ⟨Nat.le_of_ble_eq_true rfl, Nat.le_of_ble_eq_true rfl⟩ [0, 1] rfl rfl 0 rfl rfl rfl hl.1 (Nat.le_of_ble_eq_true rfl) dX11_order_107 ⟨Nat.le_of_ble_eq_true rfl, Nat.le_of_ble_eq_true rfl⟩) (fun r_8 u_8 H locs hp_8 G => ?_)
                have G : wd X (va_A (@HAppend.hAppend va_W va_W va_W _ (mW m0 ma la lb n t v) (@HAppend.hAppend va_W va_W va_W _ ([((ma 0), .inl (X.2.1, 371, .inl fa))]) (@HAppend.hAppend va_W va_W va_W _ ([((ma 6), .inl (X.2.1, 55, .inl fh))]) (@HAppend.hAppend va_W va_W va_W _ ([((ma 7), .inl (X.2.1, 6, .inl fg))]) ([((ma 3), .inl (X.2.1, 3, .inl fr))]))))) sz) (va_A (@HAppend.hAppend va_W va_W va_W _ (mW m0 ma la lb n t v) (@HAppend.hAppend va_W va_W va_W _ ([((ma 0), .inl (X.2.1, 371, .inl fa))]) (@HAppend.hAppend va_W va_W va_W _ ([((ma 6), .inl (X.2.1, 55, .inl fh))]) (@HAppend.hAppend va_W va_W va_W _ ([((ma 7), .inl (X.2.1, 6, .inl fg))]) ([((ma 3), .inl (X.2.1, 3, .inl fr))]))))) sz) s (@HAppend.hAppend va_W va_W va_W _ (mW m0 ma la lb n t v) (@HAppend.hAppend va_W va_W va_W _ ([((ma 0), .inl (X.2.1, 371, .inl fa))]) (@HAppend.hAppend va_W va_W va_W _ ([((ma 6), .inl (X.2.1, 55, .inl f26_2))]) (@HAppend.hAppend va_W va_W va_W _ ([((ma 7), .inl (X.2.1, 6, .inl f26_3))]) ([((ma 3), .inl (X.2.1, 3, .inl fr))]))))) H locs := G
                obtain rfl := hp_8
                refine lv_icmp_ge (tgt := 165) zx zb dX11_order_110 (by decide) (fun c_9 => ?_) (fun c_9 => ?_)
                · have fc_9 := j_le (a := c0) (b := k104) (by omega) (by omega) c_9
                  refine lv_iload_n zx zb dX11_order_165 rfl (lv_at hl 1 rfl) ?_
                  refine lv_iload_n zx zb dX11_order_166 rfl (lv_at hl 4 rfl) ?_
                  refine lv_icmp_ne (tgt := 172) zx zb dX11_order_167 (by decide) (fun c_10 => ?_) (fun c_10 => ?_)
                  · refine lv_iinc (v := (nI (k91 + 1))) (lv' := [(2, .int (nI (k91 + 1))), (4, .int (nI k104)), (3, .int x104_3), (0, .ref m0), (1, .int x1)]) zx zb dX11_order_172 hl (k := 2) rfl (nI_add k91 1) (by decide) rfl (fun ls hl => ?_)
                    refine lv_goto (tgt := 91) zx zb dX11_order_175 (by decide) ?_
                    have hl := lv_sub hl (l' := [(2, .int (nI (k91 + 1))), (0, .ref m0), (1, .int x1)]) [0, 3, 4] rfl
                    exact ih91 (k91 + 1) _ _ _ (by omega) (by omega) G hl
                  · refine lv_iload_n zx zb dX11_order_170 rfl (lv_at hl 2 rfl) ?_
                    exact e_int S zr zlk (vp_nar_int _) G (f26_2, c026_2, c126_2, c226_2, c326_2, c426_2, f26_3, fr) [0, 1, 2, 3, 4] rfl rfl (Or.inr rfl) (⟨hI_f26_2, trivial⟩) dX11_order_171
                · have fc_9 := j_nle (a := c0) (b := k104) (by omega) (by omega) c_9
                  refine lv_iload_n zx zb dX11_order_113 rfl (lv_at hl 1 rfl) ?_
                  refine lv_aload_n zx zb dX11_order_114 rfl (lv_at hl 3 rfl) ?_
                  refine r_get (C := RX11) (T := TX11) (N := 18) (ci := 9) (v := .ref (ma 7)) S in_X11_order_X11 G 0 rfl rfl 7 (by decide) lk_X11_order_30 rfl dX11_order_115 ?_
                  refine lv_iload zx zb dX11_order_118 (lv_at hl 0 rfl) ?_
                  refine r_iald S G 3 rfl (vp_in_nI (by omega) (by decide)) rfl dX11_order_120 ?_
                  refine k_itE (fun y_11 => ?_)
                  refine lv_aload_n zx zb dX11_order_121 rfl (lv_at hl 3 rfl) ?_
                  refine r_get (C := RX11) (T := TX11) (N := 18) (ci := 9) (v := .ref (ma 7)) S in_X11_order_X11 G 0 rfl rfl 7 (by decide) lk_X11_order_30 rfl dX11_order_122 ?_
                  refine lv_iload_n zx zb dX11_order_125 rfl (lv_at hl 2 rfl) ?_
                  refine r_iald S G 3 rfl (vp_in_nI (by omega) (by decide)) rfl dX11_order_126 ?_
                  refine k_itE (fun y_12 => ?_)
                  refine k_cutW (PP := fun Wx => ∀ (x_14 : Int32) (H : Heap) (locs : List Loc) (ls : Array Slot), (x_14 = 0 ∨ x_14 = 1) → wd X (va_A (@HAppend.hAppend va_W va_W va_W _ (mW m0 ma la lb n t v) (@HAppend.hAppend va_W va_W va_W _ ([((ma 0), .inl (X.2.1, 371, .inl fa))]) (@HAppend.hAppend va_W va_W va_W _ ([((ma 6), .inl (X.2.1, 55, .inl fh))]) (@HAppend.hAppend va_W va_W va_W _ ([((ma 7), .inl (X.2.1, 6, .inl fg))]) ([((ma 3), .inl (X.2.1, 3, .inl fr))]))))) sz) (va_A (@HAppend.hAppend va_W va_W va_W _ (mW m0 ma la lb n t v) (@HAppend.hAppend va_W va_W va_W _ ([((ma 0), .inl (X.2.1, 371, .inl fa))]) (@HAppend.hAppend va_W va_W va_W _ ([((ma 6), .inl (X.2.1, 55, .inl fh))]) (@HAppend.hAppend va_W va_W va_W _ ([((ma 7), .inl (X.2.1, 6, .inl fg))]) ([((ma 3), .inl (X.2.1, 3, .inl fr))]))))) sz) s (@HAppend.hAppend va_W va_W va_W _ (mW m0 ma la lb n t v) (@HAppend.hAppend va_W va_W va_W _ ([((ma 0), .inl (X.2.1, 371, .inl fa))]) (@HAppend.hAppend va_W va_W va_W _ ([((ma 6), .inl (X.2.1, 55, .inl f26_2))]) (@HAppend.hAppend va_W va_W va_W _ ([((ma 7), .inl (X.2.1, 6, .inl f26_3))]) ([((ma 3), .inl (X.2.1, 3, .inl fr))]))))) H locs → lv_has ls 5 [(4, .int (nI k104)), (3, .int x104_3), (2, .int (nI k91)), (0, .ref m0), (1, .int x1)] → Wx (F0 m 157 ls [.int x_14, .int x104_3]) H locs) ?_ ?_
                  · intro join_127
                    refine lv_icmp_lt (tgt := 152) zx zb dX11_order_127 (by decide) (fun c_13 => ?_) (fun c_13 => ?_)
                    · refine lv_iconst (v := 1) zx zb dX11_order_152 (by decide) ?_
                      refine lv_goto (tgt := 157) zx zb dX11_order_153 (by decide) ?_
                      exact join_127 1 _ _ _ (by first | assumption | exact Or.inl rfl | exact Or.inr rfl) G hl
                    · refine lv_aload_n zx zb dX11_order_130 rfl (lv_at hl 3 rfl) ?_
                      refine r_get (C := RX11) (T := TX11) (N := 18) (ci := 9) (v := .ref (ma 7)) S in_X11_order_X11 G 0 rfl rfl 7 (by decide) lk_X11_order_30 rfl dX11_order_131 ?_
                      refine lv_iload zx zb dX11_order_134 (lv_at hl 0 rfl) ?_
                      refine r_iald S G 3 rfl (vp_in_nI (by omega) (by decide)) rfl dX11_order_136 ?_
                      refine k_itE (fun y_15 => ?_)
                      refine lv_aload_n zx zb dX11_order_137 rfl (lv_at hl 3 rfl) ?_
                      refine r_get (C := RX11) (T := TX11) (N := 18) (ci := 9) (v := .ref (ma 7)) S in_X11_order_X11 G 0 rfl rfl 7 (by decide) lk_X11_order_30 rfl dX11_order_138 ?_
                      refine lv_iload_n zx zb dX11_order_141 rfl (lv_at hl 2 rfl) ?_
                      refine r_iald S G 3 rfl (vp_in_nI (by omega) (by decide)) rfl dX11_order_142 ?_
                      refine k_itE (fun y_16 => ?_)
                      refine lv_icmp_ne (tgt := 156) zx zb dX11_order_143 (by decide) (fun c_17 => ?_) (fun c_17 => ?_)
                      · refine lv_iconst (v := 0) zx zb dX11_order_156 (by decide) ?_
                        exact join_127 0 _ _ _ (by first | assumption | exact Or.inl rfl | exact Or.inr rfl) G hl
                      · refine lv_iload zx zb dX11_order_146 (lv_at hl 0 rfl) ?_
                        refine lv_iload_n zx zb dX11_order_148 rfl (lv_at hl 2 rfl) ?_
                        refine lv_icmp_ge (tgt := 156) zx zb dX11_order_149 (by decide) (fun c_18 => ?_) (fun c_18 => ?_)
                        · have fc_18 := j_le (a := k91) (b := k104) (by omega) (by omega) c_18
                          refine lv_iconst (v := 0) zx zb dX11_order_156 (by decide) ?_
                          exact join_127 0 _ _ _ (by first | assumption | exact Or.inl rfl | exact Or.inr rfl) G hl
                        · have fc_18 := j_nle (a := k91) (b := k104) (by omega) (by omega) c_18
                          refine lv_iconst (v := 1) zx zb dX11_order_152 (by decide) ?_
                          refine lv_goto (tgt := 157) zx zb dX11_order_153 (by decide) ?_
                          exact join_127 1 _ _ _ (by first | assumption | exact Or.inl rfl | exact Or.inr rfl) G hl
                  · intro x_14 H locs ls hk_x_14 G hl
                    refine r_iadd (v := (x104_3 + x_14)) S rfl dX11_order_157 ?_
                    refine lv_istore_n (lv' := [(3, .int (x104_3 + x_14)), (4, .int (nI k104)), (2, .int (nI k91)), (0, .ref m0), (1, .int x1)]) zx zb dX11_order_158 rfl hl (by decide) rfl (fun ls hl => ?_)
                    refine lv_iinc (v := (nI (k104 + 1))) (lv' := [(4, .int (nI (k104 + 1))), (3, .int (x104_3 + x_14)), (2, .int (nI k91)), (0, .ref m0), (1, .int x1)]) zx zb dX11_order_159 hl (k := 1) rfl (nI_add k104 1) (by decide) rfl (fun ls hl => ?_)
                    refine lv_goto (tgt := 104) zx zb dX11_order_162 (by decide) ?_
                    exact ih104 (k104 + 1) (x104_3 + x_14) _ _ _ (by omega) (by omega) G hl
        · have fc_5 := j_nle (a := c0) (b := k26) (by omega) (by omega) c_5
          refine lv_aload_n zx zb dX11_order_34 rfl (lv_at hl 1 rfl) ?_
          refine lv_iload_n zx zb dX11_order_35 rfl (lv_at hl 0 rfl) ?_
          refine b_wi (cells' := 0) (slots' := 0) (wr := @HAppend.hAppend va_W va_W va_W _ ([((ma 7), .inl (X.2.1, 6, .inl f26_3))]) ([((ma 3), .inl (X.2.1, 3, .inl fr))])) G rfl rfl [0, 1, 2] [3, 4] rfl rfl rfl rfl (n_V (As := [.int (nI k26)]) (rest := []) (C := RX11) (T := TX11) (N := 18) (ci := 9) S G (m_homeOf l X m0 ma la lb n t v fa c0 c1 c2 c3 c4 f26_2 c026_2 c126_2 c226_2 c326_2 c426_2 k26 hI_n hI_t hI_fa hI_f26_2 (by omega) H.size) gX11_order_X11_homeOf rfl rfl rfl hdV_X11_homeOf ⟨Nat.le_of_ble_eq_true rfl, Nat.le_of_ble_eq_true rfl⟩ [0, 1, 2] rfl rfl 0 rfl rfl rfl hl.1 (Nat.le_of_ble_eq_true rfl) dX11_order_36 ⟨Nat.le_of_ble_eq_true rfl, Nat.le_of_ble_eq_true rfl⟩) (fun r_19 u_19 H locs hp_19 G => ?_)
          obtain ⟨f_19a, c0_19b, c1_19c, c2_19d, c3_19e, c4_19f⟩ := u_19
          try dsimp only at hp_19
          obtain ⟨hI_f_19a, hq_19⟩ := hp_19
          have hO_f_19a := hI_f_19a.2
          obtain ⟨hm0_f_19a, hm1_f_19a, hm2_f_19a, hm3_f_19a, hm4_f_19a⟩ := hO_f_19a
          have G : wd X (va_A (@HAppend.hAppend va_W va_W va_W _ (mW m0 ma la lb n t v) (@HAppend.hAppend va_W va_W va_W _ ([((ma 0), .inl (X.2.1, 371, .inl fa))]) (@HAppend.hAppend va_W va_W va_W _ ([((ma 6), .inl (X.2.1, 55, .inl fh))]) (@HAppend.hAppend va_W va_W va_W _ ([((ma 7), .inl (X.2.1, 6, .inl fg))]) ([((ma 3), .inl (X.2.1, 3, .inl fr))]))))) sz) (va_A (@HAppend.hAppend va_W va_W va_W _ (mW m0 ma la lb n t v) (@HAppend.hAppend va_W va_W va_W _ ([((ma 0), .inl (X.2.1, 371, .inl fa))]) (@HAppend.hAppend va_W va_W va_W _ ([((ma 6), .inl (X.2.1, 55, .inl fh))]) (@HAppend.hAppend va_W va_W va_W _ ([((ma 7), .inl (X.2.1, 6, .inl fg))]) ([((ma 3), .inl (X.2.1, 3, .inl fr))]))))) sz) s (@HAppend.hAppend va_W va_W va_W _ ([((ma 7), .inl (X.2.1, 6, .inl f26_3))]) (@HAppend.hAppend va_W va_W va_W _ ([((ma 3), .inl (X.2.1, 3, .inl fr))]) (@HAppend.hAppend va_W va_W va_W _ (mW m0 ma la lb n t v) (@HAppend.hAppend va_W va_W va_W _ ([((ma 0), .inl (X.2.1, 371, .inl fa))]) ([((ma 6), .inl (X.2.1, 55, .inl f_19a))]))))) H locs := G
          refine lv_istore_n (lv' := [(3, .int r_19), (2, .int (nI k26)), (0, .ref m0), (1, .int x1)]) zx zb dX11_order_39 rfl hl (by decide) rfl (fun ls hl => ?_)
          refine lv_aload_n zx zb dX11_order_40 rfl (lv_at hl 2 rfl) ?_
          refine r_get (C := RX11) (T := TX11) (N := 18) (ci := 9) (v := .ref (ma 7)) S in_X11_order_X11 G 2 rfl rfl 7 (by decide) lk_X11_order_30 rfl dX11_order_41 ?_
          refine lv_iload_n zx zb dX11_order_44 rfl (lv_at hl 1 rfl) ?_
          refine lv_aload_n zx zb dX11_order_45 rfl (lv_at hl 2 rfl) ?_
          refine r_get (C := RX11) (T := TX11) (N := 18) (ci := 9) (v := .ref (ma 0)) S in_X11_order_X11 G 2 rfl rfl 0 (by decide) lk_X11_order_7 rfl dX11_order_46 ?_
          refine lv_iload_n zx zb dX11_order_49 rfl (lv_at hl 1 rfl) ?_
          refine o_ri (cells' := 0) (slots' := 0) G rfl rfl (n_S (As := [.ref (ma 0), .int (nI k26)]) (rest := [.int (nI k26), .ref (ma 7)]) S G (m_isHome l X (ma 0) 371 fa c0 c1 c2 c3 c4 k26 hI_fa (by omega) (by omega) (by omega) H.size) gX11_order_X11_isHome rfl rfl rfl hdS_X11_isHome ⟨Nat.le_of_ble_eq_true rfl, Nat.le_of_ble_eq_true rfl⟩ [3] rfl rfl rfl hl.1 (Nat.le_of_ble_eq_true rfl) dX11_order_50 ⟨Nat.le_of_ble_eq_true rfl, Nat.le_of_ble_eq_true rfl⟩) (fun r_20 u_20 H locs hp_20 G => ?_)
          have G : wd X (va_A (@HAppend.hAppend va_W va_W va_W _ (mW m0 ma la lb n t v) (@HAppend.hAppend va_W va_W va_W _ ([((ma 0), .inl (X.2.1, 371, .inl fa))]) (@HAppend.hAppend va_W va_W va_W _ ([((ma 6), .inl (X.2.1, 55, .inl fh))]) (@HAppend.hAppend va_W va_W va_W _ ([((ma 7), .inl (X.2.1, 6, .inl fg))]) ([((ma 3), .inl (X.2.1, 3, .inl fr))]))))) sz) (va_A (@HAppend.hAppend va_W va_W va_W _ (mW m0 ma la lb n t v) (@HAppend.hAppend va_W va_W va_W _ ([((ma 0), .inl (X.2.1, 371, .inl fa))]) (@HAppend.hAppend va_W va_W va_W _ ([((ma 6), .inl (X.2.1, 55, .inl fh))]) (@HAppend.hAppend va_W va_W va_W _ ([((ma 7), .inl (X.2.1, 6, .inl fg))]) ([((ma 3), .inl (X.2.1, 3, .inl fr))]))))) sz) s (@HAppend.hAppend va_W va_W va_W _ ([((ma 7), .inl (X.2.1, 6, .inl f26_3))]) (@HAppend.hAppend va_W va_W va_W _ ([((ma 3), .inl (X.2.1, 3, .inl fr))]) (@HAppend.hAppend va_W va_W va_W _ (mW m0 ma la lb n t v) (@HAppend.hAppend va_W va_W va_W _ ([((ma 0), .inl (X.2.1, 371, .inl fa))]) ([((ma 6), .inl (X.2.1, 55, .inl f_19a))]))))) H locs := G
          refine k_cutW (PP := fun Wx => ∀ (x_22 : Int32) (H : Heap) (locs : List Loc) (ls : Array Slot), wd X (va_A (@HAppend.hAppend va_W va_W va_W _ (mW m0 ma la lb n t v) (@HAppend.hAppend va_W va_W va_W _ ([((ma 0), .inl (X.2.1, 371, .inl fa))]) (@HAppend.hAppend va_W va_W va_W _ ([((ma 6), .inl (X.2.1, 55, .inl fh))]) (@HAppend.hAppend va_W va_W va_W _ ([((ma 7), .inl (X.2.1, 6, .inl fg))]) ([((ma 3), .inl (X.2.1, 3, .inl fr))]))))) sz) (va_A (@HAppend.hAppend va_W va_W va_W _ (mW m0 ma la lb n t v) (@HAppend.hAppend va_W va_W va_W _ ([((ma 0), .inl (X.2.1, 371, .inl fa))]) (@HAppend.hAppend va_W va_W va_W _ ([((ma 6), .inl (X.2.1, 55, .inl fh))]) (@HAppend.hAppend va_W va_W va_W _ ([((ma 7), .inl (X.2.1, 6, .inl fg))]) ([((ma 3), .inl (X.2.1, 3, .inl fr))]))))) sz) s (@HAppend.hAppend va_W va_W va_W _ ([((ma 7), .inl (X.2.1, 6, .inl f26_3))]) (@HAppend.hAppend va_W va_W va_W _ ([((ma 3), .inl (X.2.1, 3, .inl fr))]) (@HAppend.hAppend va_W va_W va_W _ (mW m0 ma la lb n t v) (@HAppend.hAppend va_W va_W va_W _ ([((ma 0), .inl (X.2.1, 371, .inl fa))]) ([((ma 6), .inl (X.2.1, 55, .inl f_19a))]))))) H locs → lv_has ls 5 [(3, .int r_19), (2, .int (nI k26)), (0, .ref m0), (1, .int x1)] → Wx (F0 m 82 ls [.int x_22, .int (nI k26), .ref (ma 7)]) H locs) ?_ ?_
          · intro join_53
            refine lv_if_eq (tgt := 68) zx zb dX11_order_53 (by decide) (fun c_21 => ?_) (fun c_21 => ?_)
            · refine lv_iload_n zx zb dX11_order_68 rfl (lv_at hl 0 rfl) ?_
              refine lv_iconst (v := (-1)) zx zb dX11_order_69 (by decide) ?_
              refine lv_icmp_ne (tgt := 78) zx zb dX11_order_70 (by decide) (fun c_23 => ?_) (fun c_23 => ?_)
              · refine lv_ldc zx zb S.2.2.2.1 (S.2.2.2.2 _ mm_X11_order_c150) dX11_order_78 ?_
                refine lv_iload_n zx zb dX11_order_80 rfl (lv_at hl 0 rfl) ?_
                refine r_iadd (v := (1000000 + r_19)) S rfl dX11_order_81 ?_
                exact join_53 (1000000 + r_19) _ _ _  G hl
              · refine lv_ldc zx zb S.2.2.2.1 (S.2.2.2.2 _ mm_X11_order_c151) dX11_order_73 ?_
                refine lv_goto (tgt := 82) zx zb dX11_order_75 (by decide) ?_
                exact join_53 2000000 _ _ _  G hl
            · refine lv_aload_n zx zb dX11_order_56 rfl (lv_at hl 2 rfl) ?_
              refine r_get (C := RX11) (T := TX11) (N := 18) (ci := 9) (v := .ref (ma 0)) S in_X11_order_X11 G 2 rfl rfl 0 (by decide) lk_X11_order_7 rfl dX11_order_57 ?_
              refine lv_bipush (v := 29) zx zb dX11_order_60 (by decide) ?_
              refine lv_iload_n zx zb dX11_order_62 rfl (lv_at hl 1 rfl) ?_
              refine r_iadd (v := (nI (29 + k26))) S (nI_add 29 k26) dX11_order_63 ?_
              refine r_iald S G 3 rfl (vp_in_nI (by omega) (by decide)) rfl dX11_order_64 ?_
              refine k_itE (fun y_24 => ?_)
              refine lv_goto (tgt := 82) zx zb dX11_order_65 (by decide) ?_
              exact join_53 y_24 _ _ _  G hl
          · intro x_22 H locs ls  G hl
            refine r_iast S G 0 rfl (vp_in_nI (by omega) (by decide)) dX11_order_82 (fun H locs G => ?_)
            obtain ⟨f_25, G⟩ : ∃ f_25 : Nat → Int32, wd X (va_A (@HAppend.hAppend va_W va_W va_W _ (mW m0 ma la lb n t v) (@HAppend.hAppend va_W va_W va_W _ ([((ma 0), .inl (X.2.1, 371, .inl fa))]) (@HAppend.hAppend va_W va_W va_W _ ([((ma 6), .inl (X.2.1, 55, .inl fh))]) (@HAppend.hAppend va_W va_W va_W _ ([((ma 7), .inl (X.2.1, 6, .inl fg))]) ([((ma 3), .inl (X.2.1, 3, .inl fr))]))))) sz) (va_A (@HAppend.hAppend va_W va_W va_W _ (mW m0 ma la lb n t v) (@HAppend.hAppend va_W va_W va_W _ ([((ma 0), .inl (X.2.1, 371, .inl fa))]) (@HAppend.hAppend va_W va_W va_W _ ([((ma 6), .inl (X.2.1, 55, .inl fh))]) (@HAppend.hAppend va_W va_W va_W _ ([((ma 7), .inl (X.2.1, 6, .inl fg))]) ([((ma 3), .inl (X.2.1, 3, .inl fr))]))))) sz) s (@HAppend.hAppend va_W va_W va_W _ ([((ma 7), .inl (X.2.1, 6, .inl f_25))]) (@HAppend.hAppend va_W va_W va_W _ ([((ma 3), .inl (X.2.1, 3, .inl fr))]) (@HAppend.hAppend va_W va_W va_W _ (mW m0 ma la lb n t v) (@HAppend.hAppend va_W va_W va_W _ ([((ma 0), .inl (X.2.1, 371, .inl fa))]) ([((ma 6), .inl (X.2.1, 55, .inl f_19a))]))))) H locs := ⟨_, G⟩
            refine lv_iinc (v := (nI (k26 + 1))) (lv' := [(2, .int (nI (k26 + 1))), (3, .int r_19), (0, .ref m0), (1, .int x1)]) zx zb dX11_order_83 hl (k := 1) rfl (nI_add k26 1) (by decide) rfl (fun ls hl => ?_)
            refine lv_goto (tgt := 26) zx zb dX11_order_86 (by decide) ?_
            have G : wd X (va_A (@HAppend.hAppend va_W va_W va_W _ (mW m0 ma la lb n t v) (@HAppend.hAppend va_W va_W va_W _ ([((ma 0), .inl (X.2.1, 371, .inl fa))]) (@HAppend.hAppend va_W va_W va_W _ ([((ma 6), .inl (X.2.1, 55, .inl fh))]) (@HAppend.hAppend va_W va_W va_W _ ([((ma 7), .inl (X.2.1, 6, .inl fg))]) ([((ma 3), .inl (X.2.1, 3, .inl fr))]))))) sz) (va_A (@HAppend.hAppend va_W va_W va_W _ (mW m0 ma la lb n t v) (@HAppend.hAppend va_W va_W va_W _ ([((ma 0), .inl (X.2.1, 371, .inl fa))]) (@HAppend.hAppend va_W va_W va_W _ ([((ma 6), .inl (X.2.1, 55, .inl fh))]) (@HAppend.hAppend va_W va_W va_W _ ([((ma 7), .inl (X.2.1, 6, .inl fg))]) ([((ma 3), .inl (X.2.1, 3, .inl fr))]))))) sz) s (@HAppend.hAppend va_W va_W va_W _ (mW m0 ma la lb n t v) (@HAppend.hAppend va_W va_W va_W _ ([((ma 0), .inl (X.2.1, 371, .inl fa))]) (@HAppend.hAppend va_W va_W va_W _ ([((ma 6), .inl (X.2.1, 55, .inl f_19a))]) (@HAppend.hAppend va_W va_W va_W _ ([((ma 7), .inl (X.2.1, 6, .inl f_25))]) ([((ma 3), .inl (X.2.1, 3, .inl fr))]))))) H locs := wd_sub G [2, 3, 4, 0, 1] rfl rfl
            have hl := lv_sub hl (l' := [(2, .int (nI (k26 + 1))), (0, .ref m0), (1, .int x1)]) [0, 2, 3] rfl
            exact ih26 (k26 + 1) f_19a c0_19b c1_19c c2_19d c3_19e c4_19f f_25 _ _ _ (by omega) hI_f_19a (by omega) G hl
    · refine lv_aload_n zx zb dX11_order_19 rfl (lv_at hl 0 rfl) ?_
      refine b_wi (cells' := 0) (slots' := 0) (wr := @HAppend.hAppend va_W va_W va_W _ ([((ma 0), .inl (X.2.1, 371, .inl fa))]) (@HAppend.hAppend va_W va_W va_W _ ([((ma 6), .inl (X.2.1, 55, .inl fh))]) ([((ma 7), .inl (X.2.1, 6, .inl fg))]))) G rfl rfl [0, 4] [1, 2, 3] rfl rfl rfl rfl (n_V (As := []) (rest := []) (C := RX11) (T := TX11) (N := 18) (ci := 9) S G (m_no l X m0 ma la lb n t v fr hI_n hI_t H.size) gX11_order_X11_no rfl rfl rfl hdV_X11_no ⟨Nat.le_of_ble_eq_true rfl, Nat.le_of_ble_eq_true rfl⟩ [0, 4] rfl rfl 0 rfl rfl rfl hl.1 (Nat.le_of_ble_eq_true rfl) dX11_order_20 ⟨Nat.le_of_ble_eq_true rfl, Nat.le_of_ble_eq_true rfl⟩) (fun r_26 u_26 H locs hp_26 G => ?_)
      obtain ⟨f_26, rfl⟩ : ∃ z, z = u_26 := ⟨_, rfl⟩
      have hq_26 := hp_26
      have G : wd X (va_A (@HAppend.hAppend va_W va_W va_W _ (mW m0 ma la lb n t v) (@HAppend.hAppend va_W va_W va_W _ ([((ma 0), .inl (X.2.1, 371, .inl fa))]) (@HAppend.hAppend va_W va_W va_W _ ([((ma 6), .inl (X.2.1, 55, .inl fh))]) (@HAppend.hAppend va_W va_W va_W _ ([((ma 7), .inl (X.2.1, 6, .inl fg))]) ([((ma 3), .inl (X.2.1, 3, .inl fr))]))))) sz) (va_A (@HAppend.hAppend va_W va_W va_W _ (mW m0 ma la lb n t v) (@HAppend.hAppend va_W va_W va_W _ ([((ma 0), .inl (X.2.1, 371, .inl fa))]) (@HAppend.hAppend va_W va_W va_W _ ([((ma 6), .inl (X.2.1, 55, .inl fh))]) (@HAppend.hAppend va_W va_W va_W _ ([((ma 7), .inl (X.2.1, 6, .inl fg))]) ([((ma 3), .inl (X.2.1, 3, .inl fr))]))))) sz) s (@HAppend.hAppend va_W va_W va_W _ ([((ma 0), .inl (X.2.1, 371, .inl fa))]) (@HAppend.hAppend va_W va_W va_W _ ([((ma 6), .inl (X.2.1, 55, .inl fh))]) (@HAppend.hAppend va_W va_W va_W _ ([((ma 7), .inl (X.2.1, 6, .inl fg))]) (@HAppend.hAppend va_W va_W va_W _ (mW m0 ma la lb n t v) ([((ma 3), .inl (X.2.1, 3, .inl f_26))]))))) H locs := G
      obtain rfl := hq_26
      exact e_int S zr zlk (vp_nar_int _) G (fh, d0, d1, d2, d3, d4, fg, f_26) [3, 0, 1, 2, 4] rfl rfl (Or.inr rfl) (⟨hI_fh, trivial⟩) dX11_order_23
  · refine lv_aload_n zx zb dX11_order_4 rfl (lv_at hl 0 rfl) ?_
    refine lv_bipush (v := (-2)) zx zb dX11_order_5 (by decide) ?_
    refine b_wi (cells' := 0) (slots' := 0) (wr := @HAppend.hAppend va_W va_W va_W _ ([((ma 0), .inl (X.2.1, 371, .inl fa))]) (@HAppend.hAppend va_W va_W va_W _ ([((ma 6), .inl (X.2.1, 55, .inl fh))]) ([((ma 7), .inl (X.2.1, 6, .inl fg))]))) G rfl rfl [0, 4] [1, 2, 3] rfl rfl rfl rfl (n_V (As := [.int (-2)]) (rest := []) (C := RX11) (T := TX11) (N := 18) (ci := 9) S G (m_bad l X m0 ma la lb n t v fr (-2) hI_n hI_t s.heap.size) gX11_order_X11_bad rfl rfl rfl hdV_X11_bad ⟨Nat.le_of_ble_eq_true rfl, Nat.le_of_ble_eq_true rfl⟩ [0, 4] rfl rfl 0 rfl rfl rfl hl.1 (Nat.le_of_ble_eq_true rfl) dX11_order_7 ⟨Nat.le_of_ble_eq_true rfl, Nat.le_of_ble_eq_true rfl⟩) (fun r_27 u_27 H locs hp_27 G => ?_)
    obtain ⟨f_27, rfl⟩ : ∃ z, z = u_27 := ⟨_, rfl⟩
    have hq_27 := hp_27
    have G : wd X (va_A (@HAppend.hAppend va_W va_W va_W _ (mW m0 ma la lb n t v) (@HAppend.hAppend va_W va_W va_W _ ([((ma 0), .inl (X.2.1, 371, .inl fa))]) (@HAppend.hAppend va_W va_W va_W _ ([((ma 6), .inl (X.2.1, 55, .inl fh))]) (@HAppend.hAppend va_W va_W va_W _ ([((ma 7), .inl (X.2.1, 6, .inl fg))]) ([((ma 3), .inl (X.2.1, 3, .inl fr))]))))) sz) (va_A (@HAppend.hAppend va_W va_W va_W _ (mW m0 ma la lb n t v) (@HAppend.hAppend va_W va_W va_W _ ([((ma 0), .inl (X.2.1, 371, .inl fa))]) (@HAppend.hAppend va_W va_W va_W _ ([((ma 6), .inl (X.2.1, 55, .inl fh))]) (@HAppend.hAppend va_W va_W va_W _ ([((ma 7), .inl (X.2.1, 6, .inl fg))]) ([((ma 3), .inl (X.2.1, 3, .inl fr))]))))) sz) s (@HAppend.hAppend va_W va_W va_W _ ([((ma 0), .inl (X.2.1, 371, .inl fa))]) (@HAppend.hAppend va_W va_W va_W _ ([((ma 6), .inl (X.2.1, 55, .inl fh))]) (@HAppend.hAppend va_W va_W va_W _ ([((ma 7), .inl (X.2.1, 6, .inl fg))]) (@HAppend.hAppend va_W va_W va_W _ (mW m0 ma la lb n t v) ([((ma 3), .inl (X.2.1, 3, .inl f_27))]))))) H locs := G
    obtain rfl := hq_27
    exact e_int S zr zlk (vp_nar_int _) G (fh, d0, d1, d2, d3, d4, fg, f_27) [3, 0, 1, 2, 4] rfl rfl (Or.inr rfl) (⟨hI_fh, trivial⟩) dX11_order_10
theorem mm_X11_best_c150 : Cond.constant RX11 150 (1000000) ∈ wsX11_best := by decide +kernel
theorem in_X11_best_X11 : ∀ w ∈ wsX110, w ∈ wsX11_best := by decide +kernel
theorem lk_X11_best_7 : Cond.fieldLink RX11 7 "EggSpoonsModel" "all" "[I" ∈ wsX11_best := by decide +kernel
theorem lk_X11_best_27 : Cond.fieldLink RX11 27 "EggSpoonsModel" "hand" "[I" ∈ wsX11_best := by decide +kernel
set_option maxHeartbeats 4000000 in
set_option maxRecDepth 100000 in
/-- best -/
theorem m_best (l : Launch) (X : EX) (m0 : Nat) (ma : Nat → Nat) (la : Int64) (lb : Int64) (n : Nat) (t : Nat → Nat) (v : Nat → Int32) (fa : Nat → Int32) (c0 : Nat) (c1 : Nat) (c2 : Nat) (c3 : Nat) (c4 : Nat) (fh : Nat → Int32) (d0 : Nat) (d1 : Nat) (d2 : Nat) (d3 : Nat) (d4 : Nat) (fr : Nat → Int32) (x1 : Int32) (x2 : Int32) (hI_n : n ≤ 150) (hI_t : InT t) (hI_fa : InA fa c0 c1 c2 c3 c4) (hI_fh : InA fh d0 d1 d2 d3 d4) (sz : Nat) : Met l yX11_best wsX11_best ({ frames := 5, cells := 0, slots := 0, locals := 116 } : Room) (pE X [.ref m0, .int x1, .int x2] (@HAppend.hAppend va_W va_W va_W _ (mW m0 ma la lb n t v) (@HAppend.hAppend va_W va_W va_W _ ([((ma 0), .inl (X.2.1, 371, .inl fa))]) (@HAppend.hAppend va_W va_W va_W _ ([((ma 6), .inl (X.2.1, 55, .inl fh))]) ([((ma 3), .inl (X.2.1, 3, .inl fr))])))) sz) (qI (fun (r : Int32) (u : (Nat → Int32) × (Nat) × (Nat) × (Nat) × (Nat) × (Nat) × (Nat → Int32)) => InA u.1 u.2.1 u.2.2.1 u.2.2.2.1 u.2.2.2.2.1 u.2.2.2.2.2.1 ∧ (True)) X (fun (u : (Nat → Int32) × (Nat) × (Nat) × (Nat) × (Nat) × (Nat) × (Nat → Int32)) => @HAppend.hAppend va_W va_W va_W _ (mW m0 ma la lb n t v) (@HAppend.hAppend va_W va_W va_W _ ([((ma 0), .inl (X.2.1, 371, .inl fa))]) (@HAppend.hAppend va_W va_W va_W _ ([((ma 6), .inl (X.2.1, 55, .inl u.1))]) ([((ma 3), .inl (X.2.1, 3, .inl u.2.2.2.2.2.2))])))) (@HAppend.hAppend va_W va_W va_W _ (mW m0 ma la lb n t v) (@HAppend.hAppend va_W va_W va_W _ ([((ma 0), .inl (X.2.1, 371, .inl fa))]) (@HAppend.hAppend va_W va_W va_W _ ([((ma 6), .inl (X.2.1, 55, .inl fh))]) ([((ma 3), .inl (X.2.1, 3, .inl fr))])))) sz) 0 0 (va_A (@HAppend.hAppend va_W va_W va_W _ (mW m0 ma la lb n t v) (@HAppend.hAppend va_W va_W va_W _ ([((ma 0), .inl (X.2.1, 371, .inl fa))]) (@HAppend.hAppend va_W va_W va_W _ ([((ma 6), .inl (X.2.1, 55, .inl fh))]) ([((ma 3), .inl (X.2.1, 3, .inl fr))])))) sz) := by
  refine mk_met (B := (va_A (@HAppend.hAppend va_W va_W va_W _ (mW m0 ma la lb n t v) (@HAppend.hAppend va_W va_W va_W _ ([((ma 0), .inl (X.2.1, 371, .inl fa))]) (@HAppend.hAppend va_W va_W va_W _ ([((ma 6), .inl (X.2.1, 55, .inl fh))]) ([((ma 3), .inl (X.2.1, 3, .inl fr))])))) sz)) (A := (va_A (@HAppend.hAppend va_W va_W va_W _ (mW m0 ma la lb n t v) (@HAppend.hAppend va_W va_W va_W _ ([((ma 0), .inl (X.2.1, 371, .inl fa))]) (@HAppend.hAppend va_W va_W va_W _ ([((ma 6), .inl (X.2.1, 55, .inl fh))]) ([((ma 3), .inl (X.2.1, 3, .inl fr))])))) sz)) (cc := cX11_best) (maxL := 7) (ret := (some .int)) (by decide) rfl (Nat.le_of_ble_eq_true rfl) k_w k_a (fun p e s m below meth c S zr zlk znm zsz G ls hl => ?_)
  have S : CallFix p m c cX11_best 7 s _ wsX11_best RX11 := S
  have zx := S.1
  have zb := S.2.1
  have hl : lv_has ls 7 [(0, .ref m0), (1, .int x1), (2, .int x2)] := hl
  have hO_t := hI_t
  obtain ⟨ht0_t, ht1_t⟩ := hO_t
  have hO_fa := hI_fa.2
  obtain ⟨hm0_fa, hm1_fa, hm2_fa, hm3_fa, hm4_fa⟩ := hO_fa
  have hO_fh := hI_fh.2
  obtain ⟨hm0_fh, hm1_fh, hm2_fh, hm3_fh, hm4_fh⟩ := hO_fh
  refine lv_aload_n zx zb dX11_best_0 rfl (lv_at hl 0 rfl) ?_
  refine lv_iload_n zx zb dX11_best_1 rfl (lv_at hl 1 rfl) ?_
  refine o_ri (cells' := 0) (slots' := 0) G rfl rfl (n_V (As := [.int x1]) (rest := []) (C := RX11) (T := TX11) (N := 18) (ci := 9) S G (m_isOne l X m0 ma la lb n t v fa c0 c1 c2 c3 c4 x1 hI_n hI_t hI_fa s.heap.size) gX11_best_X11_isOne rfl rfl rfl hdV_X11_isOne ⟨Nat.le_of_ble_eq_true rfl, Nat.le_of_ble_eq_true rfl⟩ [0, 1] rfl rfl 0 rfl rfl rfl hl.1 (Nat.le_of_ble_eq_true rfl) dX11_best_2 ⟨Nat.le_of_ble_eq_true rfl, Nat.le_of_ble_eq_true rfl⟩) (fun r_1 u_1 H locs hp_1 G => ?_)
  have G : wd X (va_A (@HAppend.hAppend va_W va_W va_W _ (mW m0 ma la lb n t v) (@HAppend.hAppend va_W va_W va_W _ ([((ma 0), .inl (X.2.1, 371, .inl fa))]) (@HAppend.hAppend va_W va_W va_W _ ([((ma 6), .inl (X.2.1, 55, .inl fh))]) ([((ma 3), .inl (X.2.1, 3, .inl fr))])))) sz) (va_A (@HAppend.hAppend va_W va_W va_W _ (mW m0 ma la lb n t v) (@HAppend.hAppend va_W va_W va_W _ ([((ma 0), .inl (X.2.1, 371, .inl fa))]) (@HAppend.hAppend va_W va_W va_W _ ([((ma 6), .inl (X.2.1, 55, .inl fh))]) ([((ma 3), .inl (X.2.1, 3, .inl fr))])))) sz) s (@HAppend.hAppend va_W va_W va_W _ (mW m0 ma la lb n t v) (@HAppend.hAppend va_W va_W va_W _ ([((ma 0), .inl (X.2.1, 371, .inl fa))]) (@HAppend.hAppend va_W va_W va_W _ ([((ma 6), .inl (X.2.1, 55, .inl fh))]) ([((ma 3), .inl (X.2.1, 3, .inl fr))])))) H locs := G
  rcases hp_1 with ⟨rfl, hj_1⟩ | ⟨rfl, hj_1⟩
  · obtain ⟨j_1, hj_1, rfl⟩ := hj_1
    refine lv_if_eq (tgt := 18) zx zb dX11_best_5 (by decide) (fun c_2 => absurd c_2 (by decide)) (fun c_2 => ?_)
    refine lv_iload_n zx zb dX11_best_8 rfl (lv_at hl 2 rfl) ?_
    refine lv_i2l (v := (Int32.toInt64 x2)) zx zb dX11_best_9 rfl ?_
    refine lv_lconst (v := (Int32.toInt64 0)) zx zb dX11_best_10 (by decide) ?_
    refine lv_lconst (v := (Int32.toInt64 1)) zx zb dX11_best_11 (by decide) ?_
    refine o_ri (cells' := 0) (slots' := 0) G rfl rfl (n_S (As := [.long (Int32.toInt64 x2), .long (Int32.toInt64 0), .long (Int32.toInt64 1)]) (rest := []) S G (m_in l X x2 0 1 H.size) gX11_best_X11_in rfl rfl rfl hdS_X11_in ⟨Nat.le_of_ble_eq_true rfl, Nat.le_of_ble_eq_true rfl⟩ [] rfl rfl rfl hl.1 (Nat.le_of_ble_eq_true rfl) dX11_best_12 ⟨Nat.le_of_ble_eq_true rfl, Nat.le_of_ble_eq_true rfl⟩) (fun r_3 u_3 H locs hp_3 G => ?_)
    have G : wd X (va_A (@HAppend.hAppend va_W va_W va_W _ (mW m0 ma la lb n t v) (@HAppend.hAppend va_W va_W va_W _ ([((ma 0), .inl (X.2.1, 371, .inl fa))]) (@HAppend.hAppend va_W va_W va_W _ ([((ma 6), .inl (X.2.1, 55, .inl fh))]) ([((ma 3), .inl (X.2.1, 3, .inl fr))])))) sz) (va_A (@HAppend.hAppend va_W va_W va_W _ (mW m0 ma la lb n t v) (@HAppend.hAppend va_W va_W va_W _ ([((ma 0), .inl (X.2.1, 371, .inl fa))]) (@HAppend.hAppend va_W va_W va_W _ ([((ma 6), .inl (X.2.1, 55, .inl fh))]) ([((ma 3), .inl (X.2.1, 3, .inl fr))])))) sz) s (@HAppend.hAppend va_W va_W va_W _ (mW m0 ma la lb n t v) (@HAppend.hAppend va_W va_W va_W _ ([((ma 0), .inl (X.2.1, 371, .inl fa))]) (@HAppend.hAppend va_W va_W va_W _ ([((ma 6), .inl (X.2.1, 55, .inl fh))]) ([((ma 3), .inl (X.2.1, 3, .inl fr))])))) H locs := G
    rcases hp_3 with ⟨rfl, hw_3⟩ | ⟨rfl, hw_3⟩
    · obtain ⟨j_3, ⟨ja_3, jb_3⟩, rfl⟩ := k_natR (a := 0) (b := 1) hw_3 rfl rfl (by decide) (by decide)
      refine lv_if_ne (tgt := 25) zx zb dX11_best_15 (by decide) (fun c_4 => ?_) (fun c_4 => absurd c_4 (by decide))
      refine lv_iconst (v := (-1)) zx zb dX11_best_25 (by decide) ?_
      refine lv_istore_n (lv' := [(3, .int (-1)), (0, .ref m0), (1, .int (nI j_1)), (2, .int (nI j_3))]) zx zb dX11_best_26 rfl hl (by decide) rfl (fun ls hl => ?_)
      refine lv_ldc zx zb S.2.2.2.1 (S.2.2.2.2 _ mm_X11_best_c150) dX11_best_27 ?_
      refine lv_istore (lv' := [(4, .int 1000000), (3, .int (-1)), (0, .ref m0), (1, .int (nI j_1)), (2, .int (nI j_3))]) zx zb dX11_best_29 hl (by decide) rfl (fun ls hl => ?_)
      refine lv_iconst (v := 0) zx zb dX11_best_31 (by decide) ?_
      refine lv_istore (lv' := [(5, .int 0), (4, .int 1000000), (3, .int (-1)), (0, .ref m0), (1, .int (nI j_1)), (2, .int (nI j_3))]) zx zb dX11_best_32 hl (by decide) rfl (fun ls hl => ?_)
      refine k_loop (P := ∀ (zm : Nat) (k34 : Nat) (x34_4 : Int32) (x34_3 : Int32) (f34_2 : Nat → Int32) (c034_2 : Nat) (c134_2 : Nat) (c234_2 : Nat) (c334_2 : Nat) (c434_2 : Nat) (H : Heap) (locs : List Loc) (ls : Array Slot), 10 + 1 ≤ k34 + zm → InA f34_2 c034_2 c134_2 c234_2 c334_2 c434_2 → (k34 ≤ 10) → wd X (va_A (@HAppend.hAppend va_W va_W va_W _ (mW m0 ma la lb n t v) (@HAppend.hAppend va_W va_W va_W _ ([((ma 0), .inl (X.2.1, 371, .inl fa))]) (@HAppend.hAppend va_W va_W va_W _ ([((ma 6), .inl (X.2.1, 55, .inl fh))]) ([((ma 3), .inl (X.2.1, 3, .inl fr))])))) sz) (va_A (@HAppend.hAppend va_W va_W va_W _ (mW m0 ma la lb n t v) (@HAppend.hAppend va_W va_W va_W _ ([((ma 0), .inl (X.2.1, 371, .inl fa))]) (@HAppend.hAppend va_W va_W va_W _ ([((ma 6), .inl (X.2.1, 55, .inl fh))]) ([((ma 3), .inl (X.2.1, 3, .inl fr))])))) sz) s (@HAppend.hAppend va_W va_W va_W _ (mW m0 ma la lb n t v) (@HAppend.hAppend va_W va_W va_W _ ([((ma 0), .inl (X.2.1, 371, .inl fa))]) (@HAppend.hAppend va_W va_W va_W _ ([((ma 6), .inl (X.2.1, 55, .inl f34_2))]) ([((ma 3), .inl (X.2.1, 3, .inl fr))])))) H locs → lv_has ls 7 [(5, .int (nI k34)), (4, .int x34_4), (3, .int x34_3), (0, .ref m0), (1, .int (nI j_1)), (2, .int (nI j_3))] → W p l e _ s m _ below meth c H locs _ _ _ (F0 m 34 ls [])) (fun loop => loop (10 + 1) 0 1000000 (-1) fh d0 d1 d2 d3 d4 _ _ _ (by omega) hI_fh (by omega) G hl) ?_
      intro zm
      induction zm with
      | zero => intro k34 x34_4 x34_3 f34_2 c034_2 c134_2 c234_2 c334_2 c434_2 H locs ls zz q_hI_f34_2 q_hk_k34 _ _; exact absurd zz (by omega)
      | succ zm ih34 =>
        intro k34 x34_4 x34_3 f34_2 c034_2 c134_2 c234_2 c334_2 c434_2 H locs ls zm_34 hI_f34_2 hk_k34 G hl
        have hO_f34_2 := hI_f34_2.2
        obtain ⟨hm0_f34_2, hm1_f34_2, hm2_f34_2, hm3_f34_2, hm4_f34_2⟩ := hO_f34_2
        refine lv_iload zx zb dX11_best_34 (lv_at hl 0 rfl) ?_
        refine lv_bipush (v := 10) zx zb dX11_best_36 (by decide) ?_
        refine k_cutW (PP := fun Wx => ∀ (H : Heap) (locs : List Loc) (ls : Array Slot), wd X (va_A (@HAppend.hAppend va_W va_W va_W _ (mW m0 ma la lb n t v) (@HAppend.hAppend va_W va_W va_W _ ([((ma 0), .inl (X.2.1, 371, .inl fa))]) (@HAppend.hAppend va_W va_W va_W _ ([((ma 6), .inl (X.2.1, 55, .inl fh))]) ([((ma 3), .inl (X.2.1, 3, .inl fr))])))) sz) (va_A (@HAppend.hAppend va_W va_W va_W _ (mW m0 ma la lb n t v) (@HAppend.hAppend va_W va_W va_W _ ([((ma 0), .inl (X.2.1, 371, .inl fa))]) (@HAppend.hAppend va_W va_W va_W _ ([((ma 6), .inl (X.2.1, 55, .inl fh))]) ([((ma 3), .inl (X.2.1, 3, .inl fr))])))) sz) s (@HAppend.hAppend va_W va_W va_W _ (mW m0 ma la lb n t v) (@HAppend.hAppend va_W va_W va_W _ ([((ma 0), .inl (X.2.1, 371, .inl fa))]) (@HAppend.hAppend va_W va_W va_W _ ([((ma 6), .inl (X.2.1, 55, .inl f34_2))]) ([((ma 3), .inl (X.2.1, 3, .inl fr))])))) H locs → lv_has ls 7 [(5, .int (nI k34)), (4, .int x34_4), (3, .int x34_3), (0, .ref m0), (1, .int (nI j_1)), (2, .int (nI j_3))] → Wx (F0 m 102 ls []) H locs) ?_ ?_
        · intro join_38
          refine lv_icmp_ge (tgt := 102) zx zb dX11_best_38 (by decide) (fun c_5 => ?_) (fun c_5 => ?_)
          · have fc_5 := j_le (a := 10) (b := k34) (by omega) (by omega) c_5
            exact join_38  _ _ _  G hl
          · have fc_5 := j_nle (a := 10) (b := k34) (by omega) (by omega) c_5
            refine lv_aload_n zx zb dX11_best_41 rfl (lv_at hl 3 rfl) ?_
            refine r_get (C := RX11) (T := TX11) (N := 18) (ci := 9) (v := .ref (ma 0)) S in_X11_best_X11 G 0 rfl rfl 0 (by decide) lk_X11_best_7 rfl dX11_best_42 ?_
            refine lv_iload_n zx zb dX11_best_45 rfl (lv_at hl 4 rfl) ?_
            refine o_ri (cells' := 0) (slots' := 0) G rfl rfl (n_S (As := [.ref (ma 0), .int (nI j_1)]) (rest := []) S G (m_isHome l X (ma 0) 371 fa c0 c1 c2 c3 c4 j_1 hI_fa (by omega) (by omega) (by omega) H.size) gX11_best_X11_isHome rfl rfl rfl hdS_X11_isHome ⟨Nat.le_of_ble_eq_true rfl, Nat.le_of_ble_eq_true rfl⟩ [1] rfl rfl rfl hl.1 (Nat.le_of_ble_eq_true rfl) dX11_best_46 ⟨Nat.le_of_ble_eq_true rfl, Nat.le_of_ble_eq_true rfl⟩) (fun r_6 u_6 H locs hp_6 G => ?_)
            have G : wd X (va_A (@HAppend.hAppend va_W va_W va_W _ (mW m0 ma la lb n t v) (@HAppend.hAppend va_W va_W va_W _ ([((ma 0), .inl (X.2.1, 371, .inl fa))]) (@HAppend.hAppend va_W va_W va_W _ ([((ma 6), .inl (X.2.1, 55, .inl fh))]) ([((ma 3), .inl (X.2.1, 3, .inl fr))])))) sz) (va_A (@HAppend.hAppend va_W va_W va_W _ (mW m0 ma la lb n t v) (@HAppend.hAppend va_W va_W va_W _ ([((ma 0), .inl (X.2.1, 371, .inl fa))]) (@HAppend.hAppend va_W va_W va_W _ ([((ma 6), .inl (X.2.1, 55, .inl fh))]) ([((ma 3), .inl (X.2.1, 3, .inl fr))])))) sz) s (@HAppend.hAppend va_W va_W va_W _ (mW m0 ma la lb n t v) (@HAppend.hAppend va_W va_W va_W _ ([((ma 0), .inl (X.2.1, 371, .inl fa))]) (@HAppend.hAppend va_W va_W va_W _ ([((ma 6), .inl (X.2.1, 55, .inl f34_2))]) ([((ma 3), .inl (X.2.1, 3, .inl fr))])))) H locs := G
            refine lv_if_ne (tgt := 102) zx zb dX11_best_49 (by decide) (fun c_7 => ?_) (fun c_7 => ?_)
            · exact join_38  _ _ _  G hl
            · refine lv_aload_n zx zb dX11_best_52 rfl (lv_at hl 3 rfl) ?_
              refine b_wv (cells' := 0) (slots' := 0) (wr := [((ma 3), .inl (X.2.1, 3, .inl fr))]) G rfl rfl [0, 1, 2] [3] rfl rfl rfl rfl (n_V (As := []) (rest := []) (C := RX11) (T := TX11) (N := 18) (ci := 9) S G (m_layHand l X m0 ma la lb n t v fa c0 c1 c2 c3 c4 f34_2 c034_2 c134_2 c234_2 c334_2 c434_2 hI_n hI_t hI_fa hI_f34_2 H.size) gX11_best_X11_layHand rfl rfl rfl hdV_X11_layHand ⟨Nat.le_of_ble_eq_true rfl, Nat.le_of_ble_eq_true rfl⟩ [0, 1, 2] rfl rfl 0 rfl rfl rfl hl.1 (Nat.le_of_ble_eq_true rfl) dX11_best_53 ⟨Nat.le_of_ble_eq_true rfl, Nat.le_of_ble_eq_true rfl⟩) (fun u_8 H locs hp_8 G => ?_)
              obtain ⟨f_8a, c0_8b, c1_8c, c2_8d, c3_8e, c4_8f⟩ := u_8
              try dsimp only at hp_8
              obtain ⟨hI_f_8a, hq_8⟩ := hp_8
              have hO_f_8a := hI_f_8a.2
              obtain ⟨hm0_f_8a, hm1_f_8a, hm2_f_8a, hm3_f_8a, hm4_f_8a⟩ := hO_f_8a
              have G : wd X (va_A (@HAppend.hAppend va_W va_W va_W _ (mW m0 ma la lb n t v) (@HAppend.hAppend va_W va_W va_W _ ([((ma 0), .inl (X.2.1, 371, .inl fa))]) (@HAppend.hAppend va_W va_W va_W _ ([((ma 6), .inl (X.2.1, 55, .inl fh))]) ([((ma 3), .inl (X.2.1, 3, .inl fr))])))) sz) (va_A (@HAppend.hAppend va_W va_W va_W _ (mW m0 ma la lb n t v) (@HAppend.hAppend va_W va_W va_W _ ([((ma 0), .inl (X.2.1, 371, .inl fa))]) (@HAppend.hAppend va_W va_W va_W _ ([((ma 6), .inl (X.2.1, 55, .inl fh))]) ([((ma 3), .inl (X.2.1, 3, .inl fr))])))) sz) s (@HAppend.hAppend va_W va_W va_W _ ([((ma 3), .inl (X.2.1, 3, .inl fr))]) (@HAppend.hAppend va_W va_W va_W _ (mW m0 ma la lb n t v) (@HAppend.hAppend va_W va_W va_W _ ([((ma 0), .inl (X.2.1, 371, .inl fa))]) ([((ma 6), .inl (X.2.1, 55, .inl f_8a))])))) H locs := G
              refine lv_aload_n zx zb dX11_best_56 rfl (lv_at hl 3 rfl) ?_
              refine r_get (C := RX11) (T := TX11) (N := 18) (ci := 9) (v := .ref (ma 6)) S in_X11_best_X11 G 1 rfl rfl 6 (by decide) lk_X11_best_27 rfl dX11_best_57 ?_
              refine lv_bipush (v := 11) zx zb dX11_best_60 (by decide) ?_
              refine lv_iload_n zx zb dX11_best_62 rfl (lv_at hl 4 rfl) ?_
              refine r_iadd (v := (nI (11 + j_1))) S (nI_add 11 j_1) dX11_best_63 ?_
              refine lv_iload zx zb dX11_best_64 (lv_at hl 0 rfl) ?_
              refine r_iast S G 3 rfl (vp_in_nI (by omega) (by decide)) dX11_best_66 (fun H locs G => ?_)
              obtain ⟨f_9, hI_f_9, hE_f_9, G⟩ : ∃ f_9 : Nat → Int32, InA f_9 c0_8b c1_8c c2_8d c3_8e c4_8f ∧ f_9 = upd f_8a (nI (11 + j_1)).toNatClampNeg (nI k34) ∧ wd X (va_A (@HAppend.hAppend va_W va_W va_W _ (mW m0 ma la lb n t v) (@HAppend.hAppend va_W va_W va_W _ ([((ma 0), .inl (X.2.1, 371, .inl fa))]) (@HAppend.hAppend va_W va_W va_W _ ([((ma 6), .inl (X.2.1, 55, .inl fh))]) ([((ma 3), .inl (X.2.1, 3, .inl fr))])))) sz) (va_A (@HAppend.hAppend va_W va_W va_W _ (mW m0 ma la lb n t v) (@HAppend.hAppend va_W va_W va_W _ ([((ma 0), .inl (X.2.1, 371, .inl fa))]) (@HAppend.hAppend va_W va_W va_W _ ([((ma 6), .inl (X.2.1, 55, .inl fh))]) ([((ma 3), .inl (X.2.1, 3, .inl fr))])))) sz) s (@HAppend.hAppend va_W va_W va_W _ ([((ma 3), .inl (X.2.1, 3, .inl fr))]) (@HAppend.hAppend va_W va_W va_W _ (mW m0 ma la lb n t v) (@HAppend.hAppend va_W va_W va_W _ ([((ma 0), .inl (X.2.1, 371, .inl fa))]) ([((ma 6), .inl (X.2.1, 55, .inl f_9))])))) H locs := ⟨_, InA_o hI_f_8a (by rw [nI_clamp (by omega)]; omega), rfl, G⟩
              refine lv_aload_n zx zb dX11_best_67 rfl (lv_at hl 3 rfl) ?_
              refine lv_iload_n zx zb dX11_best_68 rfl (lv_at hl 4 rfl) ?_
              refine lv_bipush (v := 60) zx zb dX11_best_69 (by decide) ?_
              refine b_wi (cells' := 0) (slots' := 0) (wr := @HAppend.hAppend va_W va_W va_W _ ([((ma 3), .inl (X.2.1, 3, .inl fr))]) ([((ma 0), .inl (X.2.1, 371, .inl fa))])) G rfl rfl [1, 3] [0, 2] rfl rfl rfl rfl (n_V (As := [.int (nI j_1), .int 60]) (rest := []) (C := RX11) (T := TX11) (N := 18) (ci := 9) S G (m_homeAtHand l X m0 ma la lb n t v f_9 c0_8b c1_8c c2_8d c3_8e c4_8f j_1 60 hI_n hI_t hI_f_9 (by omega) (by omega) H.size) gX11_best_X11_homeAtHand rfl rfl rfl hdV_X11_homeAtHand ⟨Nat.le_of_ble_eq_true rfl, Nat.le_of_ble_eq_true rfl⟩ [1, 3] rfl rfl 1 rfl rfl rfl hl.1 (Nat.le_of_ble_eq_true rfl) dX11_best_71 ⟨Nat.le_of_ble_eq_true rfl, Nat.le_of_ble_eq_true rfl⟩) (fun r_10 u_10 H locs hp_10 G => ?_)
              obtain ⟨f_10, rfl⟩ : ∃ z, z = u_10 := ⟨_, rfl⟩
              obtain ⟨hI_f_10, hq_10⟩ := hp_10
              have G : wd X (va_A (@HAppend.hAppend va_W va_W va_W _ (mW m0 ma la lb n t v) (@HAppend.hAppend va_W va_W va_W _ ([((ma 0), .inl (X.2.1, 371, .inl fa))]) (@HAppend.hAppend va_W va_W va_W _ ([((ma 6), .inl (X.2.1, 55, .inl fh))]) ([((ma 3), .inl (X.2.1, 3, .inl fr))])))) sz) (va_A (@HAppend.hAppend va_W va_W va_W _ (mW m0 ma la lb n t v) (@HAppend.hAppend va_W va_W va_W _ ([((ma 0), .inl (X.2.1, 371, .inl fa))]) (@HAppend.hAppend va_W va_W va_W _ ([((ma 6), .inl (X.2.1, 55, .inl fh))]) ([((ma 3), .inl (X.2.1, 3, .inl fr))])))) sz) s (@HAppend.hAppend va_W va_W va_W _ ([((ma 3), .inl (X.2.1, 3, .inl fr))]) (@HAppend.hAppend va_W va_W va_W _ ([((ma 0), .inl (X.2.1, 371, .inl fa))]) (@HAppend.hAppend va_W va_W va_W _ (mW m0 ma la lb n t v) ([((ma 6), .inl (X.2.1, 55, .inl f_10))])))) H locs := G
              refine lv_istore (lv' := [(6, .int r_10), (5, .int (nI k34)), (4, .int x34_4), (3, .int x34_3), (0, .ref m0), (1, .int (nI j_1)), (2, .int (nI j_3))]) zx zb dX11_best_74 hl (by decide) rfl (fun ls hl => ?_)
              refine lv_iload zx zb dX11_best_76 (lv_at hl 0 rfl) ?_
              refine lv_iconst (v := (-1)) zx zb dX11_best_78 (by decide) ?_
              refine k_cutW (PP := fun Wx => ∀ (x_12 : Int32) (x_13 : Int32) (H : Heap) (locs : List Loc) (ls : Array Slot), wd X (va_A (@HAppend.hAppend va_W va_W va_W _ (mW m0 ma la lb n t v) (@HAppend.hAppend va_W va_W va_W _ ([((ma 0), .inl (X.2.1, 371, .inl fa))]) (@HAppend.hAppend va_W va_W va_W _ ([((ma 6), .inl (X.2.1, 55, .inl fh))]) ([((ma 3), .inl (X.2.1, 3, .inl fr))])))) sz) (va_A (@HAppend.hAppend va_W va_W va_W _ (mW m0 ma la lb n t v) (@HAppend.hAppend va_W va_W va_W _ ([((ma 0), .inl (X.2.1, 371, .inl fa))]) (@HAppend.hAppend va_W va_W va_W _ ([((ma 6), .inl (X.2.1, 55, .inl fh))]) ([((ma 3), .inl (X.2.1, 3, .inl fr))])))) sz) s (@HAppend.hAppend va_W va_W va_W _ ([((ma 3), .inl (X.2.1, 3, .inl fr))]) (@HAppend.hAppend va_W va_W va_W _ ([((ma 0), .inl (X.2.1, 371, .inl fa))]) (@HAppend.hAppend va_W va_W va_W _ (mW m0 ma la lb n t v) ([((ma 6), .inl (X.2.1, 55, .inl f_10))])))) H locs → lv_has ls 7 [(6, .int r_10), (5, .int (nI k34)), (4, .int x_12), (3, .int x_13), (0, .ref m0), (1, .int (nI j_1)), (2, .int (nI j_3))] → Wx (F0 m 96 ls []) H locs) ?_ ?_
              · intro join_79
                refine lv_icmp_eq (tgt := 96) zx zb dX11_best_79 (by decide) (fun c_11 => ?_) (fun c_11 => ?_)
                · exact join_79 x34_4 x34_3 _ _ _  G hl
                · refine lv_iload zx zb dX11_best_82 (lv_at hl 0 rfl) ?_
                  refine lv_iload zx zb dX11_best_84 (lv_at hl 2 rfl) ?_
                  refine lv_icmp_ge (tgt := 96) zx zb dX11_best_86 (by decide) (fun c_14 => ?_) (fun c_14 => ?_)
                  · exact join_79 x34_4 x34_3 _ _ _  G hl
                  · refine lv_iload zx zb dX11_best_89 (lv_at hl 1 rfl) ?_
                    refine lv_istore_n (lv' := [(3, .int (nI k34)), (6, .int r_10), (5, .int (nI k34)), (4, .int x34_4), (0, .ref m0), (1, .int (nI j_1)), (2, .int (nI j_3))]) zx zb dX11_best_91 rfl hl (by decide) rfl (fun ls hl => ?_)
                    refine lv_iload zx zb dX11_best_92 (lv_at hl 1 rfl) ?_
                    refine lv_istore (lv' := [(4, .int r_10), (3, .int (nI k34)), (6, .int r_10), (5, .int (nI k34)), (0, .ref m0), (1, .int (nI j_1)), (2, .int (nI j_3))]) zx zb dX11_best_94 hl (by decide) rfl (fun ls hl => ?_)
                    have hl := lv_sub hl (l' := [(6, .int r_10), (5, .int (nI k34)), (4, .int r_10), (3, .int (nI k34)), (0, .ref m0), (1, .int (nI j_1)), (2, .int (nI j_3))]) [2, 3, 0, 1, 4, 5, 6] rfl
                    exact join_79 r_10 (nI k34) _ _ _  G hl
              · intro x_12 x_13 H locs ls  G hl
                refine lv_iinc (v := (nI (k34 + 1))) (lv' := [(5, .int (nI (k34 + 1))), (6, .int r_10), (4, .int x_12), (3, .int x_13), (0, .ref m0), (1, .int (nI j_1)), (2, .int (nI j_3))]) zx zb dX11_best_96 hl (k := 1) rfl (nI_add k34 1) (by decide) rfl (fun ls hl => ?_)
                refine lv_goto (tgt := 34) zx zb dX11_best_99 (by decide) ?_
                have G : wd X (va_A (@HAppend.hAppend va_W va_W va_W _ (mW m0 ma la lb n t v) (@HAppend.hAppend va_W va_W va_W _ ([((ma 0), .inl (X.2.1, 371, .inl fa))]) (@HAppend.hAppend va_W va_W va_W _ ([((ma 6), .inl (X.2.1, 55, .inl fh))]) ([((ma 3), .inl (X.2.1, 3, .inl fr))])))) sz) (va_A (@HAppend.hAppend va_W va_W va_W _ (mW m0 ma la lb n t v) (@HAppend.hAppend va_W va_W va_W _ ([((ma 0), .inl (X.2.1, 371, .inl fa))]) (@HAppend.hAppend va_W va_W va_W _ ([((ma 6), .inl (X.2.1, 55, .inl fh))]) ([((ma 3), .inl (X.2.1, 3, .inl fr))])))) sz) s (@HAppend.hAppend va_W va_W va_W _ (mW m0 ma la lb n t v) (@HAppend.hAppend va_W va_W va_W _ ([((ma 0), .inl (X.2.1, 371, .inl fa))]) (@HAppend.hAppend va_W va_W va_W _ ([((ma 6), .inl (X.2.1, 55, .inl f_10))]) ([((ma 3), .inl (X.2.1, 3, .inl fr))])))) H locs := wd_sub G [2, 1, 3, 0] rfl rfl
                have hl := lv_sub hl (l' := [(5, .int (nI (k34 + 1))), (4, .int x_12), (3, .int x_13), (0, .ref m0), (1, .int (nI j_1)), (2, .int (nI j_3))]) [0, 2, 3, 4, 5, 6] rfl
                exact ih34 (k34 + 1) x_12 x_13 f_10 c0_8b c1_8c c2_8d c3_8e c4_8f _ _ _ (by omega) hI_f_10 (by omega) G hl
        · intro  H locs ls  G hl
          refine lv_iload_n zx zb dX11_best_102 rfl (lv_at hl 2 rfl) ?_
          refine lv_iconst (v := (-1)) zx zb dX11_best_103 (by decide) ?_
          refine k_cutW (PP := fun Wx => ∀ (x_16 : Int32) (H : Heap) (locs : List Loc) (ls : Array Slot), wd X (va_A (@HAppend.hAppend va_W va_W va_W _ (mW m0 ma la lb n t v) (@HAppend.hAppend va_W va_W va_W _ ([((ma 0), .inl (X.2.1, 371, .inl fa))]) (@HAppend.hAppend va_W va_W va_W _ ([((ma 6), .inl (X.2.1, 55, .inl fh))]) ([((ma 3), .inl (X.2.1, 3, .inl fr))])))) sz) (va_A (@HAppend.hAppend va_W va_W va_W _ (mW m0 ma la lb n t v) (@HAppend.hAppend va_W va_W va_W _ ([((ma 0), .inl (X.2.1, 371, .inl fa))]) (@HAppend.hAppend va_W va_W va_W _ ([((ma 6), .inl (X.2.1, 55, .inl fh))]) ([((ma 3), .inl (X.2.1, 3, .inl fr))])))) sz) s (@HAppend.hAppend va_W va_W va_W _ (mW m0 ma la lb n t v) (@HAppend.hAppend va_W va_W va_W _ ([((ma 0), .inl (X.2.1, 371, .inl fa))]) (@HAppend.hAppend va_W va_W va_W _ ([((ma 6), .inl (X.2.1, 55, .inl f34_2))]) ([((ma 3), .inl (X.2.1, 3, .inl fr))])))) H locs → lv_has ls 7 [(5, .int (nI k34)), (4, .int x34_4), (3, .int x34_3), (0, .ref m0), (1, .int (nI j_1)), (2, .int (nI j_3))] → Wx (F0 m 117 ls [.int x_16]) H locs) ?_ ?_
          · intro join_104
            refine lv_icmp_eq (tgt := 111) zx zb dX11_best_104 (by decide) (fun c_15 => ?_) (fun c_15 => ?_)
            · refine lv_iload_n zx zb dX11_best_111 rfl (lv_at hl 2 rfl) ?_
              refine lv_goto (tgt := 117) zx zb dX11_best_112 (by decide) ?_
              exact join_104 x34_3 _ _ _  G hl
            · refine lv_iload_n zx zb dX11_best_107 rfl (lv_at hl 5 rfl) ?_
              refine lv_if_ne (tgt := 115) zx zb dX11_best_108 (by decide) (fun c_17 => ?_) (fun c_17 => ?_)
              · have fc_17 := j_ne (a := j_3) (b := 0) c_17
                refine lv_iload zx zb dX11_best_115 (lv_at hl 1 rfl) ?_
                exact join_104 x34_4 _ _ _  G hl
              · have fc_17 := j_eq (a := j_3) (b := 0) (by omega) (by omega) c_17
                refine lv_iload_n zx zb dX11_best_111 rfl (lv_at hl 2 rfl) ?_
                refine lv_goto (tgt := 117) zx zb dX11_best_112 (by decide) ?_
                exact join_104 x34_3 _ _ _  G hl
          · intro x_16 H locs ls  G hl
            exact e_int S zr zlk (vp_nar_int _) G (f34_2, c034_2, c134_2, c234_2, c334_2, c434_2, fr) [0, 1, 2, 3] rfl rfl (Or.inr rfl) (⟨hI_f34_2, trivial⟩) dX11_best_117
    · refine lv_if_ne (tgt := 25) zx zb dX11_best_15 (by decide) (fun c_18 => absurd (by decide) c_18) (fun c_18 => ?_)
      refine lv_aload_n zx zb dX11_best_18 rfl (lv_at hl 0 rfl) ?_
      refine lv_bipush (v := (-2)) zx zb dX11_best_19 (by decide) ?_
      refine b_wi (cells' := 0) (slots' := 0) (wr := @HAppend.hAppend va_W va_W va_W _ ([((ma 0), .inl (X.2.1, 371, .inl fa))]) ([((ma 6), .inl (X.2.1, 55, .inl fh))])) G rfl rfl [0, 3] [1, 2] rfl rfl rfl rfl (n_V (As := [.int (-2)]) (rest := []) (C := RX11) (T := TX11) (N := 18) (ci := 9) S G (m_bad l X m0 ma la lb n t v fr (-2) hI_n hI_t H.size) gX11_best_X11_bad rfl rfl rfl hdV_X11_bad ⟨Nat.le_of_ble_eq_true rfl, Nat.le_of_ble_eq_true rfl⟩ [0, 3] rfl rfl 0 rfl rfl rfl hl.1 (Nat.le_of_ble_eq_true rfl) dX11_best_21 ⟨Nat.le_of_ble_eq_true rfl, Nat.le_of_ble_eq_true rfl⟩) (fun r_19 u_19 H locs hp_19 G => ?_)
      obtain ⟨f_19, rfl⟩ : ∃ z, z = u_19 := ⟨_, rfl⟩
      have hq_19 := hp_19
      have G : wd X (va_A (@HAppend.hAppend va_W va_W va_W _ (mW m0 ma la lb n t v) (@HAppend.hAppend va_W va_W va_W _ ([((ma 0), .inl (X.2.1, 371, .inl fa))]) (@HAppend.hAppend va_W va_W va_W _ ([((ma 6), .inl (X.2.1, 55, .inl fh))]) ([((ma 3), .inl (X.2.1, 3, .inl fr))])))) sz) (va_A (@HAppend.hAppend va_W va_W va_W _ (mW m0 ma la lb n t v) (@HAppend.hAppend va_W va_W va_W _ ([((ma 0), .inl (X.2.1, 371, .inl fa))]) (@HAppend.hAppend va_W va_W va_W _ ([((ma 6), .inl (X.2.1, 55, .inl fh))]) ([((ma 3), .inl (X.2.1, 3, .inl fr))])))) sz) s (@HAppend.hAppend va_W va_W va_W _ ([((ma 0), .inl (X.2.1, 371, .inl fa))]) (@HAppend.hAppend va_W va_W va_W _ ([((ma 6), .inl (X.2.1, 55, .inl fh))]) (@HAppend.hAppend va_W va_W va_W _ (mW m0 ma la lb n t v) ([((ma 3), .inl (X.2.1, 3, .inl f_19))])))) H locs := G
      obtain rfl := hq_19
      exact e_int S zr zlk (vp_nar_int _) G (fh, d0, d1, d2, d3, d4, f_19) [2, 0, 1, 3] rfl rfl (Or.inr rfl) (⟨hI_fh, trivial⟩) dX11_best_24
  · refine lv_if_eq (tgt := 18) zx zb dX11_best_5 (by decide) (fun c_20 => ?_) (fun c_20 => absurd (by decide) c_20)
    refine lv_aload_n zx zb dX11_best_18 rfl (lv_at hl 0 rfl) ?_
    refine lv_bipush (v := (-2)) zx zb dX11_best_19 (by decide) ?_
    refine b_wi (cells' := 0) (slots' := 0) (wr := @HAppend.hAppend va_W va_W va_W _ ([((ma 0), .inl (X.2.1, 371, .inl fa))]) ([((ma 6), .inl (X.2.1, 55, .inl fh))])) G rfl rfl [0, 3] [1, 2] rfl rfl rfl rfl (n_V (As := [.int (-2)]) (rest := []) (C := RX11) (T := TX11) (N := 18) (ci := 9) S G (m_bad l X m0 ma la lb n t v fr (-2) hI_n hI_t H.size) gX11_best_X11_bad rfl rfl rfl hdV_X11_bad ⟨Nat.le_of_ble_eq_true rfl, Nat.le_of_ble_eq_true rfl⟩ [0, 3] rfl rfl 0 rfl rfl rfl hl.1 (Nat.le_of_ble_eq_true rfl) dX11_best_21 ⟨Nat.le_of_ble_eq_true rfl, Nat.le_of_ble_eq_true rfl⟩) (fun r_21 u_21 H locs hp_21 G => ?_)
    obtain ⟨f_21, rfl⟩ : ∃ z, z = u_21 := ⟨_, rfl⟩
    have hq_21 := hp_21
    have G : wd X (va_A (@HAppend.hAppend va_W va_W va_W _ (mW m0 ma la lb n t v) (@HAppend.hAppend va_W va_W va_W _ ([((ma 0), .inl (X.2.1, 371, .inl fa))]) (@HAppend.hAppend va_W va_W va_W _ ([((ma 6), .inl (X.2.1, 55, .inl fh))]) ([((ma 3), .inl (X.2.1, 3, .inl fr))])))) sz) (va_A (@HAppend.hAppend va_W va_W va_W _ (mW m0 ma la lb n t v) (@HAppend.hAppend va_W va_W va_W _ ([((ma 0), .inl (X.2.1, 371, .inl fa))]) (@HAppend.hAppend va_W va_W va_W _ ([((ma 6), .inl (X.2.1, 55, .inl fh))]) ([((ma 3), .inl (X.2.1, 3, .inl fr))])))) sz) s (@HAppend.hAppend va_W va_W va_W _ ([((ma 0), .inl (X.2.1, 371, .inl fa))]) (@HAppend.hAppend va_W va_W va_W _ ([((ma 6), .inl (X.2.1, 55, .inl fh))]) (@HAppend.hAppend va_W va_W va_W _ (mW m0 ma la lb n t v) ([((ma 3), .inl (X.2.1, 3, .inl f_21))])))) H locs := G
    obtain rfl := hq_21
    exact e_int S zr zlk (vp_nar_int _) G (fh, d0, d1, d2, d3, d4, f_21) [2, 0, 1, 3] rfl rfl (Or.inr rfl) (⟨hI_fh, trivial⟩) dX11_best_24
