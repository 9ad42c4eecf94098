set_option maxRecDepth 20000 in
theorem ggX10_areTwo_X10_there : GoodIn wsX10_areTwo wsX10_there := goodIn_r _ [5, 6, 7, 8, 9, 10, 11, 12, 13, 14, 15, 16, 17, 18, 19, 20, 21, 22, 23, 24, 25, 26, 27, 28, 29] (by decide +kernel) (by decide +kernel)
set_option maxRecDepth 20000 in
theorem gX10_areTwo_X10_there : GoodIn wsX10_areTwo (wsV RX10 123 RX10 yX10_there wsX10_there) := goodIn_app (goodIn_of _ (by decide +kernel)) ggX10_areTwo_X10_there
set_option maxRecDepth 20000 in
theorem ggX10_best_X10_refuse : GoodIn wsX10_best wsX10_refuse := goodIn_r _ [19, 20, 55, 56, 57, 58, 59, 60, 61, 62, 63, 64, 65, 66, 67, 68] (by decide +kernel) (by decide +kernel)
set_option maxRecDepth 20000 in
theorem gX10_best_X10_refuse : GoodIn wsX10_best (wsV RX10 83 RX10 yX10_refuse wsX10_refuse) := goodIn_app (goodIn_of _ (by decide +kernel)) ggX10_best_X10_refuse
set_option maxRecDepth 20000 in
theorem ggX10_best_X10_there : GoodIn wsX10_best wsX10_there := goodIn_r _ [11, 1, 12, 55, 56, 57, 58, 59, 60, 61, 62, 63, 64, 65, 66, 67, 68, 69, 70, 71, 72, 73, 74, 75, 76] (by decide +kernel) (by decide +kernel)
set_option maxRecDepth 20000 in
theorem gX10_best_X10_there : GoodIn wsX10_best (wsV RX10 123 RX10 yX10_there wsX10_there) := goodIn_app (goodIn_of _ (by decide +kernel)) ggX10_best_X10_there
set_option maxRecDepth 20000 in
theorem ggX10_best_X10_within : GoodIn wsX10_best wsX10_within := goodIn_r _ [15] (by decide +kernel) (by decide +kernel)
set_option maxRecDepth 20000 in
theorem gX10_best_X10_within : GoodIn wsX10_best (va_wsS RX10 79 yX10_within wsX10_within) := goodIn_app (goodIn_of _ (by decide +kernel)) ggX10_best_X10_within
set_option maxRecDepth 20000 in
theorem ggX10_best_X8_copyFrom : GoodIn wsX10_best wsX8_copyFrom := goodIn_r _ [30, 31, 32, 33, 34, 35, 36, 37, 26, 77, 78, 79, 80, 81, 82, 83, 84] (by decide +kernel) (by decide +kernel)
set_option maxRecDepth 20000 in
theorem gX10_best_X8_copyFrom : GoodIn wsX10_best (wsV RX10 148 RX8 yX8_copyFrom wsX8_copyFrom) := goodIn_app (goodIn_of _ (by decide +kernel)) ggX10_best_X8_copyFrom
set_option maxRecDepth 20000 in
theorem ggX10_best_X8_isHome : GoodIn wsX10_best wsX8_isHome := goodIn_r _ [25, 26, 77, 78, 79, 80, 81, 82, 83, 84] (by decide +kernel) (by decide +kernel)
set_option maxRecDepth 20000 in
theorem gX10_best_X8_isHome : GoodIn wsX10_best (wsV RX10 133 RX8 yX8_isHome wsX8_isHome) := goodIn_app (goodIn_of _ (by decide +kernel)) ggX10_best_X8_isHome
set_option maxRecDepth 20000 in
theorem ggX10_best_X8_ticksToHome : GoodIn wsX10_best wsX8_ticksToHome := goodIn_r _ [41, 42, 22, 23, 24, 25, 26, 43, 44, 45, 46, 37, 31, 32, 34, 33, 36, 35, 47, 48, 49, 50, 51, 52, 53, 54, 77, 78, 79, 80, 81, 82, 83, 84] (by decide +kernel) (by decide +kernel)
set_option maxRecDepth 20000 in
theorem gX10_best_X8_ticksToHome : GoodIn wsX10_best (wsV RX10 165 RX8 yX8_ticksToHome wsX8_ticksToHome) := goodIn_app (goodIn_of _ (by decide +kernel)) ggX10_best_X8_ticksToHome
set_option maxRecDepth 20000 in
theorem ggX10_first_X10_homeBehind : GoodIn wsX10_first wsX10_homeBehind := goodIn_r _ [14, 15, 1, 3, 16, 17, 18, 19, 20, 7, 21, 22, 23, 24, 25, 26, 27, 28, 9, 29, 30, 31, 32, 33, 5, 6, 8, 34, 35, 36, 37, 38, 39, 40, 41, 42, 43, 44, 45, 46, 47, 48, 49, 50, 51, 52, 53, 54, 55, 56, 57, 58, 59, 60, 61, 62, 63, 64, 65, 66, 67, 68, 69, 70, 71, 72, 73, 74, 75] (by decide +kernel) (by decide +kernel)
set_option maxRecDepth 20000 in
theorem gX10_first_X10_homeBehind : GoodIn wsX10_first (wsV RX10 156 RX10 yX10_homeBehind wsX10_homeBehind) := goodIn_app (goodIn_of _ (by decide +kernel)) ggX10_first_X10_homeBehind
set_option maxRecDepth 20000 in
theorem ggX10_first_X8_isHome : GoodIn wsX10_first wsX8_isHome := goodIn_r _ [8, 9, 68, 69, 70, 71, 72, 73, 74, 75] (by decide +kernel) (by decide +kernel)
set_option maxRecDepth 20000 in
theorem gX10_first_X8_isHome : GoodIn wsX10_first (wsV RX10 133 RX8 yX8_isHome wsX8_isHome) := goodIn_app (goodIn_of _ (by decide +kernel)) ggX10_first_X8_isHome
set_option maxRecDepth 20000 in
theorem ggX10_homeBehind_X8_copyFrom : GoodIn wsX10_homeBehind wsX8_copyFrom := goodIn_r _ [10, 11, 12, 13, 14, 15, 16, 17, 18, 61, 62, 63, 64, 65, 66, 67, 68] (by decide +kernel) (by decide +kernel)
set_option maxRecDepth 20000 in
theorem gX10_homeBehind_X8_copyFrom : GoodIn wsX10_homeBehind (wsV RX10 148 RX8 yX8_copyFrom wsX8_copyFrom) := goodIn_app (goodIn_of _ (by decide +kernel)) ggX10_homeBehind_X8_copyFrom
set_option maxRecDepth 20000 in
theorem ggX10_homeBehind_X8_ticksToHome : GoodIn wsX10_homeBehind wsX8_ticksToHome := goodIn_r _ [22, 23, 24, 25, 9, 26, 18, 27, 28, 29, 30, 17, 11, 12, 14, 13, 16, 15, 31, 32, 33, 34, 35, 36, 37, 38, 61, 62, 63, 64, 65, 66, 67, 68] (by decide +kernel) (by decide +kernel)
set_option maxRecDepth 20000 in
theorem gX10_homeBehind_X8_ticksToHome : GoodIn wsX10_homeBehind (wsV RX10 165 RX8 yX8_ticksToHome wsX8_ticksToHome) := goodIn_app (goodIn_of _ (by decide +kernel)) ggX10_homeBehind_X8_ticksToHome
set_option maxRecDepth 20000 in
theorem ggX10_home_X10_homeBehind : GoodIn wsX10_home wsX10_homeBehind := goodIn_r _ [11, 12, 6, 13, 14, 15, 16, 17, 18, 19, 20, 21, 22, 23, 24, 25, 26, 27, 28, 29, 30, 31, 32, 33, 34, 35, 36, 37, 38, 39, 40, 41, 42, 43, 44, 45, 46, 47, 48, 54, 55, 56, 57, 58, 59, 60, 61, 62, 63, 64, 65, 66, 67, 68, 69, 70, 71, 72, 73, 74, 75, 76, 77, 78, 79, 80, 81, 82, 83] (by decide +kernel) (by decide +kernel)
set_option maxRecDepth 20000 in
theorem gX10_home_X10_homeBehind : GoodIn wsX10_home (wsV RX10 156 RX10 yX10_homeBehind wsX10_homeBehind) := goodIn_app (goodIn_of _ (by decide +kernel)) ggX10_home_X10_homeBehind
set_option maxRecDepth 20000 in
theorem ggX10_home_X10_refuse : GoodIn wsX10_home wsX10_refuse := goodIn_r _ [52, 53, 54, 55, 56, 57, 58, 59, 60, 61, 62, 63, 64, 65, 66, 67] (by decide +kernel) (by decide +kernel)
set_option maxRecDepth 20000 in
theorem gX10_home_X10_refuse : GoodIn wsX10_home (wsV RX10 83 RX10 yX10_refuse wsX10_refuse) := goodIn_app (goodIn_of _ (by decide +kernel)) ggX10_home_X10_refuse
set_option maxRecDepth 20000 in
theorem ggX10_home_X10_there : GoodIn wsX10_home wsX10_there := goodIn_r _ [5, 6, 7, 54, 55, 56, 57, 58, 59, 60, 61, 62, 63, 64, 65, 66, 67, 68, 69, 70, 71, 72, 73, 74, 75] (by decide +kernel) (by decide +kernel)
set_option maxRecDepth 20000 in
theorem gX10_home_X10_there : GoodIn wsX10_home (wsV RX10 123 RX10 yX10_there wsX10_there) := goodIn_app (goodIn_of _ (by decide +kernel)) ggX10_home_X10_there
set_option maxRecDepth 20000 in
theorem ggX10_of_X10_refuse : GoodIn wsX10_of wsX10_refuse := goodIn_r _ [16, 17, 39, 40, 41, 42, 43, 44, 45, 46, 47, 48, 49, 50, 51, 52] (by decide +kernel) (by decide +kernel)
set_option maxRecDepth 20000 in
theorem gX10_of_X10_refuse : GoodIn wsX10_of (wsV RX10 83 RX10 yX10_refuse wsX10_refuse) := goodIn_app (goodIn_of _ (by decide +kernel)) ggX10_of_X10_refuse
set_option maxRecDepth 20000 in
theorem ggX10_of_X10_there : GoodIn wsX10_of wsX10_there := goodIn_r _ [8, 1, 9, 39, 40, 41, 42, 43, 44, 45, 46, 47, 48, 49, 50, 51, 52, 53, 54, 55, 56, 57, 58, 59, 60] (by decide +kernel) (by decide +kernel)
set_option maxRecDepth 20000 in
theorem gX10_of_X10_there : GoodIn wsX10_of (wsV RX10 123 RX10 yX10_there wsX10_there) := goodIn_app (goodIn_of _ (by decide +kernel)) ggX10_of_X10_there
set_option maxRecDepth 20000 in
theorem ggX10_of_X10_within : GoodIn wsX10_of wsX10_within := goodIn_r _ [12] (by decide +kernel) (by decide +kernel)
set_option maxRecDepth 20000 in
theorem gX10_of_X10_within : GoodIn wsX10_of (va_wsS RX10 79 yX10_within wsX10_within) := goodIn_app (goodIn_of _ (by decide +kernel)) ggX10_of_X10_within
set_option maxRecDepth 20000 in
theorem ggX10_of_X8_fact : GoodIn wsX10_of wsX8_fact := goodIn_r _ [22, 23, 24, 25, 26, 27, 28, 29, 30, 31, 32, 33, 34, 35, 36, 37, 38, 61, 62, 63, 64, 65, 66, 67, 68] (by decide +kernel) (by decide +kernel)
set_option maxRecDepth 20000 in
theorem gX10_of_X8_fact : GoodIn wsX10_of (wsV RX10 144 RX8 yX8_fact wsX8_fact) := goodIn_app (goodIn_of _ (by decide +kernel)) ggX10_of_X8_fact
set_option maxRecDepth 20000 in
theorem ggX10_one_X10_refuse : GoodIn wsX10_one wsX10_refuse := goodIn_r _ [10, 11, 34, 35, 36, 37, 38, 39, 40, 41, 42, 43, 44, 45, 46, 47] (by decide +kernel) (by decide +kernel)
set_option maxRecDepth 20000 in
theorem gX10_one_X10_refuse : GoodIn wsX10_one (wsV RX10 83 RX10 yX10_refuse wsX10_refuse) := goodIn_app (goodIn_of _ (by decide +kernel)) ggX10_one_X10_refuse
set_option maxRecDepth 20000 in
theorem ggX10_one_X10_within : GoodIn wsX10_one wsX10_within := goodIn_r _ [6] (by decide +kernel) (by decide +kernel)
set_option maxRecDepth 20000 in
theorem gX10_one_X10_within : GoodIn wsX10_one (va_wsS RX10 79 yX10_within wsX10_within) := goodIn_app (goodIn_of _ (by decide +kernel)) ggX10_one_X10_within
set_option maxRecDepth 20000 in
theorem ggX10_one_X5_welcome : GoodIn wsX10_one wsX5_welcome := goodIn_r _ [16, 17, 18, 19, 20, 21, 22, 23, 24, 25, 26, 27, 28, 29, 30, 31, 32, 33, 48, 49, 50, 51, 52, 53, 54, 55, 56, 57, 58, 59, 60, 61, 62, 63, 64, 65] (by decide +kernel) (by decide +kernel)
set_option maxRecDepth 20000 in
theorem gX10_one_X5_welcome : GoodIn wsX10_one (wsV RX10 95 RX5 yX5_welcome wsX5_welcome) := goodIn_app (goodIn_of _ (by decide +kernel)) ggX10_one_X5_welcome
set_option maxRecDepth 20000 in
theorem ggX10_order_X10_aheadOf : GoodIn wsX10_order wsX10_aheadOf := goodIn_r _ [60, 1, 2, 14, 61, 62, 63, 64, 65, 66, 67, 68, 69, 70, 71, 72, 73, 74, 75, 76, 77, 78, 79, 80, 81, 82] (by decide +kernel) (by decide +kernel)
set_option maxRecDepth 20000 in
theorem gX10_order_X10_aheadOf : GoodIn wsX10_order (wsV RX10 162 RX10 yX10_aheadOf wsX10_aheadOf) := goodIn_app (goodIn_of _ (by decide +kernel)) ggX10_order_X10_aheadOf
set_option maxRecDepth 20000 in
theorem ggX10_order_X10_rankAll : GoodIn wsX10_order wsX10_rankAll := goodIn_r _ [12, 1, 2, 13, 14, 15, 16, 17, 18, 6, 19, 20, 21, 22, 23, 24, 25, 26, 27, 28, 29, 30, 31, 32, 33, 34, 35, 36, 37, 38, 39, 40, 41, 42, 43, 44, 45, 46, 47, 48, 49, 50, 51, 52, 53, 54, 55, 56, 61, 62, 63, 64, 65, 66, 67, 68, 69, 70, 71, 72, 73, 74, 75, 76, 77, 78, 79, 80, 81, 82, 83, 84, 85, 86, 87, 88, 89, 90] (by decide +kernel) (by decide +kernel)
set_option maxRecDepth 20000 in
theorem gX10_order_X10_rankAll : GoodIn wsX10_order (wsV RX10 159 RX10 yX10_rankAll wsX10_rankAll) := goodIn_app (goodIn_of _ (by decide +kernel)) ggX10_order_X10_rankAll
set_option maxRecDepth 20000 in
theorem ggX10_order_X10_refuse : GoodIn wsX10_order wsX10_refuse := goodIn_r _ [7, 8, 61, 62, 63, 64, 65, 66, 67, 68, 69, 70, 71, 72, 73, 74] (by decide +kernel) (by decide +kernel)
set_option maxRecDepth 20000 in
theorem gX10_order_X10_refuse : GoodIn wsX10_order (wsV RX10 83 RX10 yX10_refuse wsX10_refuse) := goodIn_app (goodIn_of _ (by decide +kernel)) ggX10_order_X10_refuse
set_option maxRecDepth 20000 in
theorem ggX10_race_X10_refuse : GoodIn wsX10_race wsX10_refuse := goodIn_r _ [10, 11, 26, 27, 28, 29, 30, 31, 32, 33, 34, 35, 36, 37, 38, 39] (by decide +kernel) (by decide +kernel)
set_option maxRecDepth 20000 in
theorem gX10_race_X10_refuse : GoodIn wsX10_race (wsV RX10 83 RX10 yX10_refuse wsX10_refuse) := goodIn_app (goodIn_of _ (by decide +kernel)) ggX10_race_X10_refuse
set_option maxRecDepth 20000 in
theorem ggX10_race_X10_within : GoodIn wsX10_race wsX10_within := goodIn_r _ [6] (by decide +kernel) (by decide +kernel)
set_option maxRecDepth 20000 in
theorem gX10_race_X10_within : GoodIn wsX10_race (va_wsS RX10 79 yX10_within wsX10_within) := goodIn_app (goodIn_of _ (by decide +kernel)) ggX10_race_X10_within
set_option maxRecDepth 20000 in
theorem ggX10_race_X5_restart : GoodIn wsX10_race wsX5_restart := goodIn_r _ [16, 17, 18, 19, 20, 21, 22, 23, 24, 25, 40, 41, 42, 43, 44, 45, 46, 47, 48, 49, 50, 51, 52, 53, 54] (by decide +kernel) (by decide +kernel)
set_option maxRecDepth 20000 in
theorem gX10_race_X5_restart : GoodIn wsX10_race (wsV RX10 91 RX5 yX5_restart wsX5_restart) := goodIn_app (goodIn_of _ (by decide +kernel)) ggX10_race_X5_restart
set_option maxRecDepth 20000 in
theorem ggX10_rankAll_X10_homeBehind : GoodIn wsX10_rankAll wsX10_homeBehind := goodIn_r _ [10, 11, 1, 3, 12, 13, 14, 15, 16, 17, 18, 19, 20, 21, 22, 23, 24, 25, 26, 27, 28, 29, 30, 31, 32, 33, 34, 35, 36, 37, 38, 39, 40, 41, 42, 43, 44, 45, 46, 48, 49, 50, 51, 52, 53, 54, 55, 56, 57, 58, 59, 60, 61, 62, 63, 64, 65, 66, 67, 68, 69, 70, 71, 72, 73, 74, 75, 76, 77] (by decide +kernel) (by decide +kernel)
set_option maxRecDepth 20000 in
theorem gX10_rankAll_X10_homeBehind : GoodIn wsX10_rankAll (wsV RX10 156 RX10 yX10_homeBehind wsX10_homeBehind) := goodIn_app (goodIn_of _ (by decide +kernel)) ggX10_rankAll_X10_homeBehind
set_option maxRecDepth 20000 in
theorem ggX10_rankAll_X8_isHome : GoodIn wsX10_rankAll wsX8_isHome := goodIn_r _ [34, 26, 70, 71, 72, 73, 74, 75, 76, 77] (by decide +kernel) (by decide +kernel)
set_option maxRecDepth 20000 in
theorem gX10_rankAll_X8_isHome : GoodIn wsX10_rankAll (wsV RX10 133 RX8 yX8_isHome wsX8_isHome) := goodIn_app (goodIn_of _ (by decide +kernel)) ggX10_rankAll_X8_isHome
set_option maxRecDepth 20000 in
theorem ggX10_speed_X10_refuse : GoodIn wsX10_speed wsX10_refuse := goodIn_r _ [16, 17, 48, 49, 50, 51, 52, 53, 54, 55, 56, 57, 58, 59, 60, 61] (by decide +kernel) (by decide +kernel)
set_option maxRecDepth 20000 in
theorem gX10_speed_X10_refuse : GoodIn wsX10_speed (wsV RX10 83 RX10 yX10_refuse wsX10_refuse) := goodIn_app (goodIn_of _ (by decide +kernel)) ggX10_speed_X10_refuse
set_option maxRecDepth 20000 in
theorem ggX10_speed_X10_there : GoodIn wsX10_speed wsX10_there := goodIn_r _ [8, 1, 9, 48, 49, 50, 51, 52, 53, 54, 55, 56, 57, 58, 59, 60, 61, 62, 63, 64, 65, 66, 67, 68, 69] (by decide +kernel) (by decide +kernel)
set_option maxRecDepth 20000 in
theorem gX10_speed_X10_there : GoodIn wsX10_speed (wsV RX10 123 RX10 yX10_there wsX10_there) := goodIn_app (goodIn_of _ (by decide +kernel)) ggX10_speed_X10_there
set_option maxRecDepth 20000 in
theorem ggX10_speed_X10_within : GoodIn wsX10_speed wsX10_within := goodIn_r _ [12] (by decide +kernel) (by decide +kernel)
set_option maxRecDepth 20000 in
theorem gX10_speed_X10_within : GoodIn wsX10_speed (va_wsS RX10 79 yX10_within wsX10_within) := goodIn_app (goodIn_of _ (by decide +kernel)) ggX10_speed_X10_within
set_option maxRecDepth 20000 in
theorem ggX10_speed_X5_keep : GoodIn wsX10_speed wsX5_keep := goodIn_r _ [28, 29, 30, 31, 32, 33, 34, 35, 36, 37, 38, 39, 40, 41, 42, 43, 44, 45, 46, 47, 62, 63, 64, 65, 66, 67, 68, 69, 78, 79, 70, 71, 72, 73, 74, 75, 76, 77] (by decide +kernel) (by decide +kernel)
set_option maxRecDepth 20000 in
theorem gX10_speed_X5_keep : GoodIn wsX10_speed (wsV RX10 113 RX5 yX5_keep wsX5_keep) := goodIn_app (goodIn_of _ (by decide +kernel)) ggX10_speed_X5_keep
set_option maxRecDepth 20000 in
theorem ggX10_speed_X8_isHome : GoodIn wsX10_speed wsX8_isHome := goodIn_r _ [22, 23, 70, 71, 72, 73, 74, 75, 76, 77] (by decide +kernel) (by decide +kernel)
set_option maxRecDepth 20000 in
theorem gX10_speed_X8_isHome : GoodIn wsX10_speed (wsV RX10 133 RX8 yX8_isHome wsX8_isHome) := goodIn_app (goodIn_of _ (by decide +kernel)) ggX10_speed_X8_isHome
set_option maxRecDepth 20000 in
theorem ggX10_start_X10_refuse : GoodIn wsX10_start wsX10_refuse := goodIn_r _ [17, 18, 49, 50, 51, 52, 53, 54, 55, 56, 57, 58, 59, 60, 61, 62] (by decide +kernel) (by decide +kernel)
set_option maxRecDepth 20000 in
theorem gX10_start_X10_refuse : GoodIn wsX10_start (wsV RX10 83 RX10 yX10_refuse wsX10_refuse) := goodIn_app (goodIn_of _ (by decide +kernel)) ggX10_start_X10_refuse
set_option maxRecDepth 20000 in
theorem ggX10_start_X10_there : GoodIn wsX10_start wsX10_there := goodIn_r _ [9, 1, 10, 49, 50, 51, 52, 53, 54, 55, 56, 57, 58, 59, 60, 61, 62, 63, 64, 65, 66, 67, 68, 69, 70] (by decide +kernel) (by decide +kernel)
set_option maxRecDepth 20000 in
theorem gX10_start_X10_there : GoodIn wsX10_start (wsV RX10 123 RX10 yX10_there wsX10_there) := goodIn_app (goodIn_of _ (by decide +kernel)) ggX10_start_X10_there
set_option maxRecDepth 20000 in
theorem ggX10_start_X10_within : GoodIn wsX10_start wsX10_within := goodIn_r _ [13] (by decide +kernel) (by decide +kernel)
set_option maxRecDepth 20000 in
theorem gX10_start_X10_within : GoodIn wsX10_start (va_wsS RX10 79 yX10_within wsX10_within) := goodIn_app (goodIn_of _ (by decide +kernel)) ggX10_start_X10_within
set_option maxRecDepth 20000 in
theorem ggX10_start_X5_keep : GoodIn wsX10_start wsX5_keep := goodIn_r _ [29, 30, 31, 32, 33, 34, 35, 36, 37, 38, 39, 40, 41, 42, 43, 44, 45, 46, 47, 48, 63, 64, 65, 66, 67, 68, 69, 70, 79, 80, 71, 72, 73, 74, 75, 76, 77, 78] (by decide +kernel) (by decide +kernel)
set_option maxRecDepth 20000 in
theorem gX10_start_X5_keep : GoodIn wsX10_start (wsV RX10 113 RX5 yX5_keep wsX5_keep) := goodIn_app (goodIn_of _ (by decide +kernel)) ggX10_start_X5_keep
set_option maxRecDepth 20000 in
theorem ggX10_start_X8_isHome : GoodIn wsX10_start wsX8_isHome := goodIn_r _ [23, 24, 71, 72, 73, 74, 75, 76, 77, 78] (by decide +kernel) (by decide +kernel)
set_option maxRecDepth 20000 in
theorem gX10_start_X8_isHome : GoodIn wsX10_start (wsV RX10 133 RX8 yX8_isHome wsX8_isHome) := goodIn_app (goodIn_of _ (by decide +kernel)) ggX10_start_X8_isHome
set_option maxRecDepth 20000 in
theorem ggX10_undo_X10_refuse : GoodIn wsX10_undo wsX10_refuse := goodIn_r _ [27, 28, 29, 30, 31, 32, 33, 34, 35, 36, 37, 38, 39, 40, 41, 42] (by decide +kernel) (by decide +kernel)
set_option maxRecDepth 20000 in
theorem gX10_undo_X10_refuse : GoodIn wsX10_undo (wsV RX10 83 RX10 yX10_refuse wsX10_refuse) := goodIn_app (goodIn_of _ (by decide +kernel)) ggX10_undo_X10_refuse
set_option maxRecDepth 20000 in
theorem ggX10_undo_X5_takeBack : GoodIn wsX10_undo wsX5_takeBack := goodIn_r _ [7, 8, 9, 10, 11, 12, 13, 14, 15, 16, 17, 18, 19, 20, 21, 22, 43, 44, 45, 46, 47, 48, 49, 50, 51, 52, 53, 54, 55, 56, 57, 58, 59, 60] (by decide +kernel) (by decide +kernel)
set_option maxRecDepth 20000 in
theorem gX10_undo_X5_takeBack : GoodIn wsX10_undo (wsV RX10 141 RX5 yX5_takeBack wsX5_takeBack) := goodIn_app (goodIn_of _ (by decide +kernel)) ggX10_undo_X5_takeBack
set_option maxRecDepth 20000 in
theorem ggX10_where_X10_refuse : GoodIn wsX10_where wsX10_refuse := goodIn_r _ [18, 19, 53, 54, 55, 56, 57, 58, 59, 60, 61, 62, 63, 64, 65, 66] (by decide +kernel) (by decide +kernel)
set_option maxRecDepth 20000 in
theorem gX10_where_X10_refuse : GoodIn wsX10_where (wsV RX10 83 RX10 yX10_refuse wsX10_refuse) := goodIn_app (goodIn_of _ (by decide +kernel)) ggX10_where_X10_refuse
set_option maxRecDepth 20000 in
theorem ggX10_where_X10_there : GoodIn wsX10_where wsX10_there := goodIn_r _ [10, 2, 11, 53, 54, 55, 56, 57, 58, 59, 60, 61, 62, 63, 64, 65, 66, 67, 68, 69, 70, 71, 72, 73, 74] (by decide +kernel) (by decide +kernel)
set_option maxRecDepth 20000 in
theorem gX10_where_X10_there : GoodIn wsX10_where (wsV RX10 123 RX10 yX10_there wsX10_there) := goodIn_app (goodIn_of _ (by decide +kernel)) ggX10_where_X10_there
set_option maxRecDepth 20000 in
theorem ggX10_where_X10_within : GoodIn wsX10_where wsX10_within := goodIn_r _ [14] (by decide +kernel) (by decide +kernel)
set_option maxRecDepth 20000 in
theorem gX10_where_X10_within : GoodIn wsX10_where (va_wsS RX10 79 yX10_within wsX10_within) := goodIn_app (goodIn_of _ (by decide +kernel)) ggX10_where_X10_within
set_option maxRecDepth 20000 in
theorem ggX10_where_X8_copyFrom : GoodIn wsX10_where wsX8_copyFrom := goodIn_r _ [24, 25, 26, 27, 28, 29, 30, 31, 32, 75, 76, 77, 78, 79, 80, 81, 82] (by decide +kernel) (by decide +kernel)
set_option maxRecDepth 20000 in
theorem gX10_where_X8_copyFrom : GoodIn wsX10_where (wsV RX10 148 RX8 yX8_copyFrom wsX8_copyFrom) := goodIn_app (goodIn_of _ (by decide +kernel)) ggX10_where_X8_copyFrom
set_option maxRecDepth 20000 in
theorem ggX10_where_X8_placeBehind : GoodIn wsX10_where wsX8_placeBehind := goodIn_r _ [36, 29, 37, 38, 39, 23, 40, 31, 25, 26, 28, 27, 30, 32, 41, 42, 43, 44, 45, 46, 47, 48, 49, 50, 51, 52, 75, 76, 77, 78, 79, 80, 81, 82] (by decide +kernel) (by decide +kernel)
set_option maxRecDepth 20000 in
theorem gX10_where_X8_placeBehind : GoodIn wsX10_where (wsV RX10 152 RX8 yX8_placeBehind wsX8_placeBehind) := goodIn_app (goodIn_of _ (by decide +kernel)) ggX10_where_X8_placeBehind
set_option maxRecDepth 20000 in
theorem ggX5_eggsThatFit_X7_fitEgg : GoodIn wsX5_eggsThatFit wsX7_fitEgg := goodIn_r _ [6, 7, 8, 9, 10, 11, 12, 21, 22, 23, 24, 25] (by decide +kernel) (by decide +kernel)
set_option maxRecDepth 20000 in
theorem gX5_eggsThatFit_X7_fitEgg : GoodIn wsX5_eggsThatFit (wsV RX5 101 RX7 yX7_fitEgg wsX7_fitEgg) := goodIn_app (goodIn_of _ (by decide +kernel)) ggX5_eggsThatFit_X7_fitEgg
set_option maxRecDepth 20000 in
theorem ggX5_goOn_X8_step : GoodIn wsX5_goOn wsX8_step := goodIn_r _ [9, 10, 11, 12, 13, 14, 15, 16, 17, 18, 19, 20, 8, 21, 22, 23, 24, 25, 26, 27, 28, 29, 38, 39, 40, 41, 42, 43, 44, 45] (by decide +kernel) (by decide +kernel)
set_option maxRecDepth 20000 in
theorem gX5_goOn_X8_step : GoodIn wsX5_goOn (wsV RX5 72 RX8 yX8_step wsX8_step) := goodIn_app (goodIn_of _ (by decide +kernel)) ggX5_goOn_X8_step
set_option maxRecDepth 20000 in
theorem ggX5_homes_X8_isHome : GoodIn wsX5_homes wsX8_isHome := goodIn_r _ [7, 8, 17, 18, 19, 20, 21, 22, 23, 24] (by decide +kernel) (by decide +kernel)
set_option maxRecDepth 20000 in
theorem gX5_homes_X8_isHome : GoodIn wsX5_homes (wsV RX5 84 RX8 yX8_isHome wsX8_isHome) := goodIn_app (goodIn_of _ (by decide +kernel)) ggX5_homes_X8_isHome
set_option maxRecDepth 20000 in
theorem ggX5_keep_X4_push : GoodIn wsX5_keep wsX4_push := goodIn_r _ [8, 9, 10, 11, 12, 13, 14, 15, 16, 17, 18, 19, 28, 29, 30, 31, 32, 33, 34, 35, 36, 37] (by decide +kernel) (by decide +kernel)
set_option maxRecDepth 20000 in
theorem gX5_keep_X4_push : GoodIn wsX5_keep (wsV RX5 76 RX4 yX4_push wsX4_push) := goodIn_app (goodIn_of _ (by decide +kernel)) ggX5_keep_X4_push
set_option maxRecDepth 20000 in
theorem ggX5_kindsThatFit_X7_fitRunner : GoodIn wsX5_kindsThatFit wsX7_fitRunner := goodIn_r _ [6, 7, 8, 9, 10, 11, 12, 13, 22, 23, 24, 25, 26] (by decide +kernel) (by decide +kernel)
set_option maxRecDepth 20000 in
theorem gX5_kindsThatFit_X7_fitRunner : GoodIn wsX5_kindsThatFit (wsV RX5 97 RX7 yX7_fitRunner wsX7_fitRunner) := goodIn_app (goodIn_of _ (by decide +kernel)) ggX5_kindsThatFit_X7_fitRunner
set_option maxRecDepth 20000 in
theorem ggX5_legsThatFit_X7_fitRunner : GoodIn wsX5_legsThatFit wsX7_fitRunner := goodIn_r _ [8, 9, 10, 11, 12, 13, 14, 15, 32, 33, 34, 35, 36] (by decide +kernel) (by decide +kernel)
set_option maxRecDepth 20000 in
theorem gX5_legsThatFit_X7_fitRunner : GoodIn wsX5_legsThatFit (wsV RX5 97 RX7 yX7_fitRunner wsX7_fitRunner) := goodIn_app (goodIn_of _ (by decide +kernel)) ggX5_legsThatFit_X7_fitRunner
set_option maxRecDepth 20000 in
theorem ggX5_takeBack_X4_pop : GoodIn wsX5_takeBack wsX4_pop := goodIn_r _ [8, 9, 10, 11, 12, 13, 14, 15, 24, 25, 26, 27, 28, 29, 30, 31, 32, 33] (by decide +kernel) (by decide +kernel)
set_option maxRecDepth 20000 in
theorem gX5_takeBack_X4_pop : GoodIn wsX5_takeBack (wsV RX5 80 RX4 yX4_pop wsX4_pop) := goodIn_app (goodIn_of _ (by decide +kernel)) ggX5_takeBack_X4_pop
set_option maxRecDepth 20000 in
theorem ggX5_welcome_X8_begin : GoodIn wsX5_welcome wsX8_begin := goodIn_r _ [9, 10, 11, 12, 13, 14, 15, 16, 17, 28, 29, 30, 31, 32, 33, 34, 35] (by decide +kernel) (by decide +kernel)
set_option maxRecDepth 20000 in
theorem gX5_welcome_X8_begin : GoodIn wsX5_welcome (wsV RX5 54 RX8 yX8_begin wsX8_begin) := goodIn_app (goodIn_of _ (by decide +kernel)) ggX5_welcome_X8_begin
set_option maxRecDepth 20000 in
theorem ggX7_fitEgg_X1_limit : GoodIn wsX7_fitEgg wsX1_limit := goodIn_r _ [6] (by decide +kernel) (by decide +kernel)
set_option maxRecDepth 20000 in
theorem gX7_fitEgg_X1_limit : GoodIn wsX7_fitEgg (va_wsS RX7 45 yX1_limit wsX1_limit) := goodIn_app (goodIn_of _ (by decide +kernel)) ggX7_fitEgg_X1_limit
set_option maxRecDepth 20000 in
theorem ggX7_fitRunner_X2_reach : GoodIn wsX7_fitRunner wsX2_reach := goodIn_r _ [7] (by decide +kernel) (by decide +kernel)
set_option maxRecDepth 20000 in
theorem gX7_fitRunner_X2_reach : GoodIn wsX7_fitRunner (va_wsS RX7 39 yX2_reach wsX2_reach) := goodIn_app (goodIn_of _ (by decide +kernel)) ggX7_fitRunner_X2_reach
set_option maxRecDepth 20000 in
theorem ggX8_fact_X1_limit : GoodIn wsX8_fact wsX1_limit := goodIn_r _ [16] (by decide +kernel) (by decide +kernel)
set_option maxRecDepth 20000 in
theorem gX8_fact_X1_limit : GoodIn wsX8_fact (va_wsS RX8 42 yX1_limit wsX1_limit) := goodIn_app (goodIn_of _ (by decide +kernel)) ggX8_fact_X1_limit
set_option maxRecDepth 20000 in
theorem ggX8_fact_X2_reach : GoodIn wsX8_fact wsX2_reach := goodIn_r _ [12] (by decide +kernel) (by decide +kernel)
set_option maxRecDepth 20000 in
theorem gX8_fact_X2_reach : GoodIn wsX8_fact (va_wsS RX8 36 yX2_reach wsX2_reach) := goodIn_app (goodIn_of _ (by decide +kernel)) ggX8_fact_X2_reach
set_option maxRecDepth 20000 in
theorem ggX8_placeBehind_X8_step : GoodIn wsX8_placeBehind wsX8_step := goodIn_r _ [6, 7, 8, 9, 10, 11, 12, 1, 13, 14, 15, 16, 5, 17, 18, 19, 20, 21, 22, 23, 24, 25, 26, 27, 28, 29, 30, 31, 32, 33] (by decide +kernel) (by decide +kernel)
set_option maxRecDepth 20000 in
theorem gX8_placeBehind_X8_step : GoodIn wsX8_placeBehind (wsV RX8 52 RX8 yX8_step wsX8_step) := goodIn_app (goodIn_of _ (by decide +kernel)) ggX8_placeBehind_X8_step
set_option maxRecDepth 20000 in
theorem ggX8_step_X1_limit : GoodIn wsX8_step wsX1_limit := goodIn_r _ [21] (by decide +kernel) (by decide +kernel)
set_option maxRecDepth 20000 in
theorem gX8_step_X1_limit : GoodIn wsX8_step (va_wsS RX8 42 yX1_limit wsX1_limit) := goodIn_app (goodIn_of _ (by decide +kernel)) ggX8_step_X1_limit
set_option maxRecDepth 20000 in
theorem ggX8_step_X2_reach : GoodIn wsX8_step wsX2_reach := goodIn_r _ [17] (by decide +kernel) (by decide +kernel)
set_option maxRecDepth 20000 in
theorem gX8_step_X2_reach : GoodIn wsX8_step (va_wsS RX8 36 yX2_reach wsX2_reach) := goodIn_app (goodIn_of _ (by decide +kernel)) ggX8_step_X2_reach
set_option maxRecDepth 20000 in
theorem ggX8_step_X8_isHome : GoodIn wsX8_step wsX8_isHome := goodIn_r _ [13, 8, 22, 23, 24, 25, 26, 27, 28, 29] (by decide +kernel) (by decide +kernel)
set_option maxRecDepth 20000 in
theorem gX8_step_X8_isHome : GoodIn wsX8_step (wsV RX8 48 RX8 yX8_isHome wsX8_isHome) := goodIn_app (goodIn_of _ (by decide +kernel)) ggX8_step_X8_isHome
set_option maxRecDepth 20000 in
theorem ggX8_ticksToHome_X8_isHome : GoodIn wsX8_ticksToHome wsX8_isHome := goodIn_r _ [5, 6, 26, 27, 28, 29, 30, 31, 32, 33] (by decide +kernel) (by decide +kernel)
set_option maxRecDepth 20000 in
theorem gX8_ticksToHome_X8_isHome : GoodIn wsX8_ticksToHome (wsV RX8 48 RX8 yX8_isHome wsX8_isHome) := goodIn_app (goodIn_of _ (by decide +kernel)) ggX8_ticksToHome_X8_isHome
set_option maxRecDepth 20000 in
theorem ggX8_ticksToHome_X8_step : GoodIn wsX8_ticksToHome wsX8_step := goodIn_r _ [10, 11, 12, 13, 14, 15, 16, 17, 6, 1, 2, 3, 4, 5, 18, 19, 20, 21, 22, 23, 24, 25, 26, 27, 28, 29, 30, 31, 32, 33] (by decide +kernel) (by decide +kernel)
set_option maxRecDepth 20000 in
theorem gX8_ticksToHome_X8_step : GoodIn wsX8_ticksToHome (wsV RX8 52 RX8 yX8_step wsX8_step) := goodIn_app (goodIn_of _ (by decide +kernel)) ggX8_ticksToHome_X8_step
