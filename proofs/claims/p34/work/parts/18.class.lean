set_option maxRecDepth 20000 in
theorem ggX10_ask_X10_nextLook : GoodIn wsX10_ask wsX10_nextLook := goodIn_r _ [34, 35, 36, 37, 38, 39, 40, 41, 42, 43, 44, 6, 45, 46, 47, 48, 49, 50, 51, 52, 53, 54, 55, 56, 57, 58, 59, 60, 61, 62, 63, 64, 65, 66, 67, 28, 29, 30, 68, 69, 70, 71, 72, 73, 74, 75, 76, 77, 78, 79, 80, 81, 82, 83, 84, 85, 86, 87, 88, 89, 103, 104, 105, 106, 107, 108, 109, 110, 111, 112] (by decide +kernel) (by decide +kernel)
set_option maxRecDepth 20000 in
theorem gX10_ask_X10_nextLook : GoodIn wsX10_ask (wsV RX10 208 RX10 yX10_nextLook wsX10_nextLook) := goodIn_app (goodIn_of _ (by decide +kernel)) ggX10_ask_X10_nextLook
set_option maxRecDepth 20000 in
theorem ggX10_ask_X10_refuse : GoodIn wsX10_ask wsX10_refuse := goodIn_r _ [12, 13, 76, 77, 78, 79, 80, 81, 82, 83, 84, 85, 86, 87, 88, 89] (by decide +kernel) (by decide +kernel)
set_option maxRecDepth 20000 in
theorem gX10_ask_X10_refuse : GoodIn wsX10_ask (wsV RX10 83 RX10 yX10_refuse wsX10_refuse) := goodIn_app (goodIn_of _ (by decide +kernel)) ggX10_ask_X10_refuse
set_option maxRecDepth 20000 in
theorem ggX10_ask_X10_there : GoodIn wsX10_ask wsX10_there := goodIn_r _ [7, 1, 8, 76, 77, 78, 79, 80, 81, 82, 83, 84, 85, 86, 87, 88, 89, 90, 91, 92, 93, 94, 95, 96, 97] (by decide +kernel) (by decide +kernel)
set_option maxRecDepth 20000 in
theorem gX10_ask_X10_there : GoodIn wsX10_ask (wsV RX10 123 RX10 yX10_there wsX10_there) := goodIn_app (goodIn_of _ (by decide +kernel)) ggX10_ask_X10_there
set_option maxRecDepth 20000 in
theorem ggX10_ask_X5_eggsThatFit : GoodIn wsX10_ask wsX5_eggsThatFit := goodIn_r _ [18, 19, 20, 21, 22, 23, 24, 25, 26, 27, 28, 29, 30, 90, 91, 92, 93, 94, 95, 96, 97, 98, 99, 100, 101, 102] (by decide +kernel) (by decide +kernel)
set_option maxRecDepth 20000 in
theorem gX10_ask_X5_eggsThatFit : GoodIn wsX10_ask (wsV RX10 221 RX5 yX5_eggsThatFit wsX5_eggsThatFit) := goodIn_app (goodIn_of _ (by decide +kernel)) ggX10_ask_X5_eggsThatFit
set_option maxRecDepth 20000 in
theorem ggX10_beats_X10_areTwo : GoodIn wsX10_beats wsX10_areTwo := goodIn_r _ [11, 12, 13, 14, 10, 15, 1, 16, 60, 61, 62, 63, 64, 65, 66, 67, 68, 69, 70, 71, 72, 73, 74, 75, 76, 77, 78, 79, 80, 81] (by decide +kernel) (by decide +kernel)
set_option maxRecDepth 20000 in
theorem gX10_beats_X10_areTwo : GoodIn wsX10_beats (wsV RX10 172 RX10 yX10_areTwo wsX10_areTwo) := goodIn_app (goodIn_of _ (by decide +kernel)) ggX10_beats_X10_areTwo
set_option maxRecDepth 20000 in
theorem ggX10_beats_X10_homeBehind : GoodIn wsX10_beats wsX10_homeBehind := goodIn_r _ [31, 5, 1, 2, 6, 4, 32, 33, 34, 25, 35, 36, 37, 38, 39, 40, 41, 42, 27, 43, 44, 45, 46, 47, 23, 24, 26, 48, 49, 50, 51, 52, 53, 54, 55, 56, 57, 58, 59, 60, 61, 62, 63, 64, 65, 66, 67, 68, 69, 70, 71, 72, 73, 74, 75, 76, 77, 78, 79, 80, 81, 82, 83, 84, 85, 86, 87, 88, 89] (by decide +kernel) (by decide +kernel)
set_option maxRecDepth 20000 in
theorem gX10_beats_X10_homeBehind : GoodIn wsX10_beats (wsV RX10 156 RX10 yX10_homeBehind wsX10_homeBehind) := goodIn_app (goodIn_of _ (by decide +kernel)) ggX10_beats_X10_homeBehind
set_option maxRecDepth 20000 in
theorem ggX10_beats_X10_refuse : GoodIn wsX10_beats wsX10_refuse := goodIn_r _ [20, 21, 60, 61, 62, 63, 64, 65, 66, 67, 68, 69, 70, 71, 72, 73] (by decide +kernel) (by decide +kernel)
set_option maxRecDepth 20000 in
theorem gX10_beats_X10_refuse : GoodIn wsX10_beats (wsV RX10 83 RX10 yX10_refuse wsX10_refuse) := goodIn_app (goodIn_of _ (by decide +kernel)) ggX10_beats_X10_refuse
set_option maxRecDepth 20000 in
theorem ggX10_beats_X8_copyFrom : GoodIn wsX10_beats wsX8_copyFrom := goodIn_r _ [35, 36, 37, 38, 39, 40, 41, 42, 27, 82, 83, 84, 85, 86, 87, 88, 89] (by decide +kernel) (by decide +kernel)
set_option maxRecDepth 20000 in
theorem gX10_beats_X8_copyFrom : GoodIn wsX10_beats (wsV RX10 148 RX8 yX8_copyFrom wsX8_copyFrom) := goodIn_app (goodIn_of _ (by decide +kernel)) ggX10_beats_X8_copyFrom
set_option maxRecDepth 20000 in
theorem ggX10_beats_X8_isHome : GoodIn wsX10_beats wsX8_isHome := goodIn_r _ [26, 27, 82, 83, 84, 85, 86, 87, 88, 89] (by decide +kernel) (by decide +kernel)
set_option maxRecDepth 20000 in
theorem gX10_beats_X8_isHome : GoodIn wsX10_beats (wsV RX10 133 RX8 yX8_isHome wsX8_isHome) := goodIn_app (goodIn_of _ (by decide +kernel)) ggX10_beats_X8_isHome
set_option maxRecDepth 20000 in
theorem ggX10_beats_X8_ticksToHome : GoodIn wsX10_beats wsX8_ticksToHome := goodIn_r _ [46, 47, 23, 24, 25, 26, 27, 48, 49, 50, 51, 42, 36, 37, 39, 38, 41, 40, 52, 53, 54, 55, 56, 57, 58, 59, 82, 83, 84, 85, 86, 87, 88, 89] (by decide +kernel) (by decide +kernel)
set_option maxRecDepth 20000 in
theorem gX10_beats_X8_ticksToHome : GoodIn wsX10_beats (wsV RX10 165 RX8 yX8_ticksToHome wsX8_ticksToHome) := goodIn_app (goodIn_of _ (by decide +kernel)) ggX10_beats_X8_ticksToHome
set_option maxRecDepth 20000 in
theorem ggX10_close_X10_areTwo : GoodIn wsX10_close wsX10_areTwo := goodIn_r _ [16, 17, 18, 19, 15, 20, 2, 21, 59, 60, 61, 62, 63, 64, 65, 66, 67, 68, 69, 70, 71, 72, 73, 74, 75, 76, 77, 78, 79, 80] (by decide +kernel) (by decide +kernel)
set_option maxRecDepth 20000 in
theorem gX10_close_X10_areTwo : GoodIn wsX10_close (wsV RX10 172 RX10 yX10_areTwo wsX10_areTwo) := goodIn_app (goodIn_of _ (by decide +kernel)) ggX10_close_X10_areTwo
set_option maxRecDepth 20000 in
theorem ggX10_close_X10_refuse : GoodIn wsX10_close wsX10_refuse := goodIn_r _ [28, 29, 59, 60, 61, 62, 63, 64, 65, 66, 67, 68, 69, 70, 71, 72] (by decide +kernel) (by decide +kernel)
set_option maxRecDepth 20000 in
theorem gX10_close_X10_refuse : GoodIn wsX10_close (wsV RX10 83 RX10 yX10_refuse wsX10_refuse) := goodIn_app (goodIn_of _ (by decide +kernel)) ggX10_close_X10_refuse
set_option maxRecDepth 20000 in
theorem ggX10_close_X10_within : GoodIn wsX10_close wsX10_within := goodIn_r _ [24] (by decide +kernel) (by decide +kernel)
set_option maxRecDepth 20000 in
theorem gX10_close_X10_within : GoodIn wsX10_close (va_wsS RX10 79 yX10_within wsX10_within) := goodIn_app (goodIn_of _ (by decide +kernel)) ggX10_close_X10_within
set_option maxRecDepth 20000 in
theorem ggX10_close_X8_copyFrom : GoodIn wsX10_close wsX8_copyFrom := goodIn_r _ [34, 35, 36, 37, 38, 39, 40, 41, 42, 81, 82, 83, 84, 85, 86, 87, 88] (by decide +kernel) (by decide +kernel)
set_option maxRecDepth 20000 in
theorem gX10_close_X8_copyFrom : GoodIn wsX10_close (wsV RX10 148 RX8 yX8_copyFrom wsX8_copyFrom) := goodIn_app (goodIn_of _ (by decide +kernel)) ggX10_close_X8_copyFrom
set_option maxRecDepth 20000 in
theorem ggX10_close_X8_step : GoodIn wsX10_close wsX8_step := goodIn_r _ [46, 41, 35, 36, 38, 37, 40, 39, 42, 47, 48, 49, 33, 50, 51, 52, 53, 54, 55, 56, 57, 58, 81, 82, 83, 84, 85, 86, 87, 88] (by decide +kernel) (by decide +kernel)
set_option maxRecDepth 20000 in
theorem gX10_close_X8_step : GoodIn wsX10_close (wsV RX10 181 RX8 yX8_step wsX8_step) := goodIn_app (goodIn_of _ (by decide +kernel)) ggX10_close_X8_step
set_option maxRecDepth 20000 in
theorem ggX10_look_X10_nextLook : GoodIn wsX10_look wsX10_nextLook := goodIn_r _ [35, 36, 37, 38, 39, 40, 41, 42, 43, 44, 45, 6, 46, 47, 48, 49, 50, 51, 52, 53, 54, 55, 56, 57, 58, 59, 60, 61, 62, 63, 64, 29, 30, 31, 65, 66, 67, 68, 69, 70, 71, 72, 73, 74, 75, 76, 77, 78, 79, 80, 81, 82, 83, 84, 85, 86, 87, 88, 89, 90, 104, 105, 106, 107, 108, 109, 110, 111, 112, 113] (by decide +kernel) (by decide +kernel)
set_option maxRecDepth 20000 in
theorem gX10_look_X10_nextLook : GoodIn wsX10_look (wsV RX10 208 RX10 yX10_nextLook wsX10_nextLook) := goodIn_app (goodIn_of _ (by decide +kernel)) ggX10_look_X10_nextLook
set_option maxRecDepth 20000 in
theorem ggX10_look_X10_refuse : GoodIn wsX10_look wsX10_refuse := goodIn_r _ [12, 13, 77, 78, 79, 80, 81, 82, 83, 84, 85, 86, 87, 88, 89, 90] (by decide +kernel) (by decide +kernel)
set_option maxRecDepth 20000 in
theorem gX10_look_X10_refuse : GoodIn wsX10_look (wsV RX10 83 RX10 yX10_refuse wsX10_refuse) := goodIn_app (goodIn_of _ (by decide +kernel)) ggX10_look_X10_refuse
set_option maxRecDepth 20000 in
theorem ggX10_look_X10_there : GoodIn wsX10_look wsX10_there := goodIn_r _ [7, 1, 8, 77, 78, 79, 80, 81, 82, 83, 84, 85, 86, 87, 88, 89, 90, 91, 92, 93, 94, 95, 96, 97, 98] (by decide +kernel) (by decide +kernel)
set_option maxRecDepth 20000 in
theorem gX10_look_X10_there : GoodIn wsX10_look (wsV RX10 123 RX10 yX10_there wsX10_there) := goodIn_app (goodIn_of _ (by decide +kernel)) ggX10_look_X10_there
set_option maxRecDepth 20000 in
theorem ggX10_look_X5_kindsThatFit : GoodIn wsX10_look wsX5_kindsThatFit := goodIn_r _ [18, 19, 20, 21, 22, 23, 24, 25, 26, 27, 28, 29, 30, 31, 91, 92, 93, 94, 95, 96, 97, 98, 99, 100, 101, 102, 103] (by decide +kernel) (by decide +kernel)
set_option maxRecDepth 20000 in
theorem gX10_look_X5_kindsThatFit : GoodIn wsX10_look (wsV RX10 218 RX5 yX5_kindsThatFit wsX5_kindsThatFit) := goodIn_app (goodIn_of _ (by decide +kernel)) ggX10_look_X5_kindsThatFit
set_option maxRecDepth 20000 in
theorem ggX10_mostAlike_X10_farBy : GoodIn wsX10_mostAlike wsX10_farBy := goodIn_r _ [16, 17, 18, 19, 20, 21, 22, 23, 24, 25, 26, 51, 52, 53, 54, 55, 56, 57, 58] (by decide +kernel) (by decide +kernel)
set_option maxRecDepth 20000 in
theorem gX10_mostAlike_X10_farBy : GoodIn wsX10_mostAlike (va_wsS RX10 311 yX10_farBy wsX10_farBy) := goodIn_app (goodIn_of _ (by decide +kernel)) ggX10_mostAlike_X10_farBy
set_option maxRecDepth 20000 in
theorem ggX10_mostAlike_X10_hasBit : GoodIn wsX10_mostAlike wsX10_hasBit := goodIn_r _ [13] (by decide +kernel) (by decide +kernel)
set_option maxRecDepth 20000 in
theorem gX10_mostAlike_X10_hasBit : GoodIn wsX10_mostAlike (va_wsS RX10 205 yX10_hasBit wsX10_hasBit) := goodIn_app (goodIn_of _ (by decide +kernel)) ggX10_mostAlike_X10_hasBit
set_option maxRecDepth 20000 in
theorem ggX10_mostAlike_X9_restart : GoodIn wsX10_mostAlike wsX9_restart := goodIn_r _ [7, 8, 9, 49, 50] (by decide +kernel) (by decide +kernel)
set_option maxRecDepth 20000 in
theorem gX10_mostAlike_X9_restart : GoodIn wsX10_mostAlike (wsV RX10 309 RX9 yX9_restart wsX9_restart) := goodIn_app (goodIn_of _ (by decide +kernel)) ggX10_mostAlike_X9_restart
set_option maxRecDepth 20000 in
theorem ggX10_mostAlike_X9_see : GoodIn wsX10_mostAlike wsX9_see := goodIn_r _ [30, 8, 9, 31, 32, 33, 34, 49, 50] (by decide +kernel) (by decide +kernel)
set_option maxRecDepth 20000 in
theorem gX10_mostAlike_X9_see : GoodIn wsX10_mostAlike (wsV RX10 314 RX9 yX9_see wsX9_see) := goodIn_app (goodIn_of _ (by decide +kernel)) ggX10_mostAlike_X9_see
set_option maxRecDepth 20000 in
theorem ggX10_nextLook_J6_bitCount_0f7a4 : GoodIn wsX10_nextLook wsJ6_bitCount_0f7a4 := goodIn_r _ [4, 5, 6, 7] (by decide +kernel) (by decide +kernel)
set_option maxRecDepth 20000 in
theorem gX10_nextLook_J6_bitCount_0f7a4 : GoodIn wsX10_nextLook (va_wsS RX10 200 yJ6_bitCount_0f7a4 wsJ6_bitCount_0f7a4) := goodIn_app (goodIn_of _ (by decide +kernel)) ggX10_nextLook_J6_bitCount_0f7a4
set_option maxRecDepth 20000 in
theorem ggX10_nextLook_X10_mostAlike : GoodIn wsX10_nextLook wsX10_mostAlike := goodIn_r _ [12, 13, 14, 15, 16, 17, 18, 19, 20, 21, 22, 23, 11, 24, 25, 26, 27, 28, 29, 30, 31, 32, 33, 34, 35, 36, 37, 38, 39, 40, 41, 42, 43, 44, 45, 46, 47, 48, 49, 50, 51, 52, 53, 54, 55, 56, 57, 58, 59, 60, 61, 62, 63, 64, 65, 66, 67, 68, 69] (by decide +kernel) (by decide +kernel)
set_option maxRecDepth 20000 in
theorem gX10_nextLook_X10_mostAlike : GoodIn wsX10_nextLook (wsV RX10 306 RX10 yX10_mostAlike wsX10_mostAlike) := goodIn_app (goodIn_of _ (by decide +kernel)) ggX10_nextLook_X10_mostAlike
set_option maxRecDepth 20000 in
theorem ggX10_tell_X10_nextLook : GoodIn wsX10_tell wsX10_nextLook := goodIn_r _ [37, 38, 39, 40, 41, 42, 43, 44, 45, 46, 47, 6, 48, 49, 50, 51, 52, 53, 54, 55, 56, 57, 58, 59, 60, 61, 62, 63, 64, 65, 66, 31, 32, 33, 67, 68, 69, 70, 71, 72, 73, 74, 75, 76, 77, 78, 79, 80, 81, 82, 83, 84, 85, 86, 87, 88, 89, 90, 91, 92, 114, 115, 101, 102, 103, 104, 105, 106, 107, 108] (by decide +kernel) (by decide +kernel)
set_option maxRecDepth 20000 in
theorem gX10_tell_X10_nextLook : GoodIn wsX10_tell (wsV RX10 208 RX10 yX10_nextLook wsX10_nextLook) := goodIn_app (goodIn_of _ (by decide +kernel)) ggX10_tell_X10_nextLook
set_option maxRecDepth 20000 in
theorem ggX10_tell_X10_refuse : GoodIn wsX10_tell wsX10_refuse := goodIn_r _ [12, 13, 79, 80, 81, 82, 83, 84, 85, 86, 87, 88, 89, 90, 91, 92] (by decide +kernel) (by decide +kernel)
set_option maxRecDepth 20000 in
theorem gX10_tell_X10_refuse : GoodIn wsX10_tell (wsV RX10 83 RX10 yX10_refuse wsX10_refuse) := goodIn_app (goodIn_of _ (by decide +kernel)) ggX10_tell_X10_refuse
set_option maxRecDepth 20000 in
theorem ggX10_tell_X10_there : GoodIn wsX10_tell wsX10_there := goodIn_r _ [7, 1, 8, 79, 80, 81, 82, 83, 84, 85, 86, 87, 88, 89, 90, 91, 92, 93, 94, 95, 96, 97, 98, 99, 100] (by decide +kernel) (by decide +kernel)
set_option maxRecDepth 20000 in
theorem gX10_tell_X10_there : GoodIn wsX10_tell (wsV RX10 123 RX10 yX10_there wsX10_there) := goodIn_app (goodIn_of _ (by decide +kernel)) ggX10_tell_X10_there
set_option maxRecDepth 20000 in
theorem ggX10_tell_X5_legsThatFit : GoodIn wsX10_tell wsX5_legsThatFit := goodIn_r _ [18, 19, 20, 21, 22, 23, 24, 25, 26, 27, 28, 29, 30, 31, 32, 33, 93, 94, 95, 96, 97, 98, 99, 100, 101, 102, 103, 104, 105, 106, 107, 108, 109, 110, 111, 112, 113] (by decide +kernel) (by decide +kernel)
set_option maxRecDepth 20000 in
theorem gX10_tell_X5_legsThatFit : GoodIn wsX10_tell (wsV RX10 197 RX5 yX5_legsThatFit wsX5_legsThatFit) := goodIn_app (goodIn_of _ (by decide +kernel)) ggX10_tell_X5_legsThatFit
theorem dX10_ask_0 : decode cX10_ask 0 = .ok (.aload_n 0, 1) := by decide +kernel
theorem dX10_ask_1 : decode cX10_ask 1 = .ok (.iload_n 1, 1) := by decide +kernel
theorem dX10_ask_11 : decode cX10_ask 11 = .ok (.invokevirtual 83, 3) := by decide +kernel
theorem dX10_ask_14 : decode cX10_ask 14 = .ok (.ireturn, 1) := by decide +kernel
theorem dX10_ask_15 : decode cX10_ask 15 = .ok (.aload_n 0, 1) := by decide +kernel
theorem dX10_ask_16 : decode cX10_ask 16 = .ok (.aload_n 0, 1) := by decide +kernel
theorem dX10_ask_17 : decode cX10_ask 17 = .ok (.getfield 10, 3) := by decide +kernel
theorem dX10_ask_2 : decode cX10_ask 2 = .ok (.invokevirtual 123, 3) := by decide +kernel
theorem dX10_ask_20 : decode cX10_ask 20 = .ok (.getfield 126, 3) := by decide +kernel
theorem dX10_ask_23 : decode cX10_ask 23 = .ok (.iload_n 1, 1) := by decide +kernel
theorem dX10_ask_24 : decode cX10_ask 24 = .ok (.aaload, 1) := by decide +kernel
theorem dX10_ask_25 : decode cX10_ask 25 = .ok (.iconst 2, 1) := by decide +kernel
theorem dX10_ask_26 : decode cX10_ask 26 = .ok (.aload_n 0, 1) := by decide +kernel
theorem dX10_ask_27 : decode cX10_ask 27 = .ok (.getfield 10, 3) := by decide +kernel
theorem dX10_ask_30 : decode cX10_ask 30 = .ok (.iload_n 1, 1) := by decide +kernel
theorem dX10_ask_31 : decode cX10_ask 31 = .ok (.invokevirtual 221, 3) := by decide +kernel
theorem dX10_ask_34 : decode cX10_ask 34 = .ok (.bipush 20, 2) := by decide +kernel
theorem dX10_ask_36 : decode cX10_ask 36 = .ok (.invokevirtual 208, 3) := by decide +kernel
theorem dX10_ask_39 : decode cX10_ask 39 = .ok (.ireturn, 1) := by decide +kernel
theorem dX10_ask_5 : decode cX10_ask 5 = .ok (.ifCond .ne 10, 3) := by decide +kernel
theorem dX10_ask_8 : decode cX10_ask 8 = .ok (.aload_n 0, 1) := by decide +kernel
theorem dX10_ask_9 : decode cX10_ask 9 = .ok (.bipush (-2), 2) := by decide +kernel
theorem dX10_beats_0 : decode cX10_beats 0 = .ok (.aload_n 0, 1) := by decide +kernel
theorem dX10_beats_1 : decode cX10_beats 1 = .ok (.iload_n 1, 1) := by decide +kernel
theorem dX10_beats_10 : decode cX10_beats 10 = .ok (.bipush (-2), 2) := by decide +kernel
theorem dX10_beats_100 : decode cX10_beats 100 = .ok (.if_icmp .ge 61, 3) := by decide +kernel
theorem dX10_beats_103 : decode cX10_beats 103 = .ok (.aload_n 0, 1) := by decide +kernel
theorem dX10_beats_104 : decode cX10_beats 104 = .ok (.getfield 48, 3) := by decide +kernel
theorem dX10_beats_107 : decode cX10_beats 107 = .ok (.aload_n 3, 1) := by decide +kernel
theorem dX10_beats_108 : decode cX10_beats 108 = .ok (.invokevirtual 148, 3) := by decide +kernel
theorem dX10_beats_111 : decode cX10_beats 111 = .ok (.aload_n 0, 1) := by decide +kernel
theorem dX10_beats_112 : decode cX10_beats 112 = .ok (.getfield 48, 3) := by decide +kernel
theorem dX10_beats_115 : decode cX10_beats 115 = .ok (.dup, 1) := by decide +kernel
theorem dX10_beats_116 : decode cX10_beats 116 = .ok (.getfield 137, 3) := by decide +kernel
theorem dX10_beats_119 : decode cX10_beats 119 = .ok (.iload 6, 2) := by decide +kernel
theorem dX10_beats_12 : decode cX10_beats 12 = .ok (.invokevirtual 83, 3) := by decide +kernel
theorem dX10_beats_121 : decode cX10_beats 121 = .ok (.iadd, 1) := by decide +kernel
theorem dX10_beats_122 : decode cX10_beats 122 = .ok (.putfield 137, 3) := by decide +kernel
theorem dX10_beats_125 : decode cX10_beats 125 = .ok (.aload_n 0, 1) := by decide +kernel
theorem dX10_beats_126 : decode cX10_beats 126 = .ok (.getfield 48, 3) := by decide +kernel
theorem dX10_beats_129 : decode cX10_beats 129 = .ok (.aload_n 0, 1) := by decide +kernel
theorem dX10_beats_130 : decode cX10_beats 130 = .ok (.getfield 10, 3) := by decide +kernel
theorem dX10_beats_133 : decode cX10_beats 133 = .ok (.getfield 110, 3) := by decide +kernel
theorem dX10_beats_136 : decode cX10_beats 136 = .ok (.aload_n 0, 1) := by decide +kernel
theorem dX10_beats_137 : decode cX10_beats 137 = .ok (.getfield 10, 3) := by decide +kernel
theorem dX10_beats_140 : decode cX10_beats 140 = .ok (.getfield 140, 3) := by decide +kernel
theorem dX10_beats_143 : decode cX10_beats 143 = .ok (.iload 5, 2) := by decide +kernel
theorem dX10_beats_145 : decode cX10_beats 145 = .ok (.invokevirtual 165, 3) := by decide +kernel
theorem dX10_beats_148 : decode cX10_beats 148 = .ok (.iconst (-1), 1) := by decide +kernel
theorem dX10_beats_149 : decode cX10_beats 149 = .ok (.if_icmp .eq 6, 3) := by decide +kernel
theorem dX10_beats_15 : decode cX10_beats 15 = .ok (.ireturn, 1) := by decide +kernel
theorem dX10_beats_152 : decode cX10_beats 152 = .ok (.iload 6, 2) := by decide +kernel
theorem dX10_beats_154 : decode cX10_beats 154 = .ok (.ireturn, 1) := by decide +kernel
theorem dX10_beats_155 : decode cX10_beats 155 = .ok (.iinc 6 1, 3) := by decide +kernel
theorem dX10_beats_158 : decode cX10_beats 158 = .ok (.goto (-79), 3) := by decide +kernel
theorem dX10_beats_16 : decode cX10_beats 16 = .ok (.aload_n 0, 1) := by decide +kernel
theorem dX10_beats_161 : decode cX10_beats 161 = .ok (.iconst (-1), 1) := by decide +kernel
theorem dX10_beats_162 : decode cX10_beats 162 = .ok (.ireturn, 1) := by decide +kernel
theorem dX10_beats_17 : decode cX10_beats 17 = .ok (.getfield 10, 3) := by decide +kernel
theorem dX10_beats_2 : decode cX10_beats 2 = .ok (.iload_n 2, 1) := by decide +kernel
theorem dX10_beats_20 : decode cX10_beats 20 = .ok (.getfield 126, 3) := by decide +kernel
theorem dX10_beats_23 : decode cX10_beats 23 = .ok (.iload_n 1, 1) := by decide +kernel
theorem dX10_beats_24 : decode cX10_beats 24 = .ok (.aaload, 1) := by decide +kernel
theorem dX10_beats_25 : decode cX10_beats 25 = .ok (.astore_n 3, 1) := by decide +kernel
theorem dX10_beats_26 : decode cX10_beats 26 = .ok (.aload_n 3, 1) := by decide +kernel
theorem dX10_beats_27 : decode cX10_beats 27 = .ok (.invokevirtual 133, 3) := by decide +kernel
theorem dX10_beats_3 : decode cX10_beats 3 = .ok (.invokevirtual 172, 3) := by decide +kernel
theorem dX10_beats_30 : decode cX10_beats 30 = .ok (.ifCond .ne 18, 3) := by decide +kernel
theorem dX10_beats_33 : decode cX10_beats 33 = .ok (.aload_n 0, 1) := by decide +kernel
theorem dX10_beats_34 : decode cX10_beats 34 = .ok (.getfield 10, 3) := by decide +kernel
theorem dX10_beats_37 : decode cX10_beats 37 = .ok (.getfield 126, 3) := by decide +kernel
theorem dX10_beats_40 : decode cX10_beats 40 = .ok (.iload_n 2, 1) := by decide +kernel
theorem dX10_beats_41 : decode cX10_beats 41 = .ok (.aaload, 1) := by decide +kernel
theorem dX10_beats_42 : decode cX10_beats 42 = .ok (.invokevirtual 133, 3) := by decide +kernel
theorem dX10_beats_45 : decode cX10_beats 45 = .ok (.ifCond .eq 5, 3) := by decide +kernel
theorem dX10_beats_48 : decode cX10_beats 48 = .ok (.iconst (-1), 1) := by decide +kernel
theorem dX10_beats_49 : decode cX10_beats 49 = .ok (.ireturn, 1) := by decide +kernel
theorem dX10_beats_50 : decode cX10_beats 50 = .ok (.aload_n 0, 1) := by decide +kernel
theorem dX10_beats_51 : decode cX10_beats 51 = .ok (.iload_n 2, 1) := by decide +kernel
theorem dX10_beats_52 : decode cX10_beats 52 = .ok (.bipush 60, 2) := by decide +kernel
theorem dX10_beats_54 : decode cX10_beats 54 = .ok (.invokevirtual 156, 3) := by decide +kernel
theorem dX10_beats_57 : decode cX10_beats 57 = .ok (.istore 4, 2) := by decide +kernel
theorem dX10_beats_59 : decode cX10_beats 59 = .ok (.iload 4, 2) := by decide +kernel
theorem dX10_beats_6 : decode cX10_beats 6 = .ok (.ifCond .ne 10, 3) := by decide +kernel
theorem dX10_beats_61 : decode cX10_beats 61 = .ok (.iconst (-1), 1) := by decide +kernel
theorem dX10_beats_62 : decode cX10_beats 62 = .ok (.if_icmp .ne 8, 3) := by decide +kernel
theorem dX10_beats_65 : decode cX10_beats 65 = .ok (.bipush 60, 2) := by decide +kernel
theorem dX10_beats_67 : decode cX10_beats 67 = .ok (.goto 7, 3) := by decide +kernel
theorem dX10_beats_70 : decode cX10_beats 70 = .ok (.iload 4, 2) := by decide +kernel
theorem dX10_beats_72 : decode cX10_beats 72 = .ok (.iconst 1, 1) := by decide +kernel
theorem dX10_beats_73 : decode cX10_beats 73 = .ok (.isub, 1) := by decide +kernel
theorem dX10_beats_74 : decode cX10_beats 74 = .ok (.istore 5, 2) := by decide +kernel
theorem dX10_beats_76 : decode cX10_beats 76 = .ok (.iconst 0, 1) := by decide +kernel
theorem dX10_beats_77 : decode cX10_beats 77 = .ok (.istore 6, 2) := by decide +kernel
theorem dX10_beats_79 : decode cX10_beats 79 = .ok (.iload 6, 2) := by decide +kernel
theorem dX10_beats_81 : decode cX10_beats 81 = .ok (.bipush 30, 2) := by decide +kernel
theorem dX10_beats_83 : decode cX10_beats 83 = .ok (.if_icmp .gt 78, 3) := by decide +kernel
theorem dX10_beats_86 : decode cX10_beats 86 = .ok (.aload_n 3, 1) := by decide +kernel
theorem dX10_beats_87 : decode cX10_beats 87 = .ok (.getfield 137, 3) := by decide +kernel
theorem dX10_beats_9 : decode cX10_beats 9 = .ok (.aload_n 0, 1) := by decide +kernel
theorem dX10_beats_90 : decode cX10_beats 90 = .ok (.iload 6, 2) := by decide +kernel
theorem dX10_beats_92 : decode cX10_beats 92 = .ok (.iadd, 1) := by decide +kernel
theorem dX10_beats_93 : decode cX10_beats 93 = .ok (.aload_n 0, 1) := by decide +kernel
theorem dX10_beats_94 : decode cX10_beats 94 = .ok (.getfield 10, 3) := by decide +kernel
theorem dX10_beats_97 : decode cX10_beats 97 = .ok (.getfield 140, 3) := by decide +kernel
theorem dX10_close_0 : decode cX10_close 0 = .ok (.aload_n 0, 1) := by decide +kernel
theorem dX10_close_1 : decode cX10_close 1 = .ok (.iload_n 1, 1) := by decide +kernel
theorem dX10_close_10 : decode cX10_close 10 = .ok (.iconst 0, 1) := by decide +kernel
theorem dX10_close_101 : decode cX10_close 101 = .ok (.iload 6, 2) := by decide +kernel
theorem dX10_close_103 : decode cX10_close 103 = .ok (.iadd, 1) := by decide +kernel
theorem dX10_close_104 : decode cX10_close 104 = .ok (.aload_n 0, 1) := by decide +kernel
theorem dX10_close_105 : decode cX10_close 105 = .ok (.getfield 10, 3) := by decide +kernel
theorem dX10_close_108 : decode cX10_close 108 = .ok (.getfield 140, 3) := by decide +kernel
theorem dX10_close_11 : decode cX10_close 11 = .ok (.iconst 1, 1) := by decide +kernel
theorem dX10_close_111 : decode cX10_close 111 = .ok (.invokevirtual 181, 3) := by decide +kernel
theorem dX10_close_114 : decode cX10_close 114 = .ok (.aload_n 0, 1) := by decide +kernel
theorem dX10_close_115 : decode cX10_close 115 = .ok (.getfield 52, 3) := by decide +kernel
theorem dX10_close_118 : decode cX10_close 118 = .ok (.aload_n 0, 1) := by decide +kernel
theorem dX10_close_119 : decode cX10_close 119 = .ok (.getfield 10, 3) := by decide +kernel
theorem dX10_close_12 : decode cX10_close 12 = .ok (.invokestatic 79, 3) := by decide +kernel
theorem dX10_close_122 : decode cX10_close 122 = .ok (.getfield 110, 3) := by decide +kernel
theorem dX10_close_125 : decode cX10_close 125 = .ok (.iload 6, 2) := by decide +kernel
theorem dX10_close_127 : decode cX10_close 127 = .ok (.iadd, 1) := by decide +kernel
theorem dX10_close_128 : decode cX10_close 128 = .ok (.aload_n 0, 1) := by decide +kernel
theorem dX10_close_129 : decode cX10_close 129 = .ok (.getfield 10, 3) := by decide +kernel
theorem dX10_close_132 : decode cX10_close 132 = .ok (.getfield 140, 3) := by decide +kernel
theorem dX10_close_135 : decode cX10_close 135 = .ok (.invokevirtual 181, 3) := by decide +kernel
theorem dX10_close_138 : decode cX10_close 138 = .ok (.aload_n 0, 1) := by decide +kernel
theorem dX10_close_139 : decode cX10_close 139 = .ok (.getfield 48, 3) := by decide +kernel
theorem dX10_close_142 : decode cX10_close 142 = .ok (.getfield 137, 3) := by decide +kernel
theorem dX10_close_145 : decode cX10_close 145 = .ok (.aload_n 0, 1) := by decide +kernel
theorem dX10_close_146 : decode cX10_close 146 = .ok (.getfield 52, 3) := by decide +kernel
theorem dX10_close_149 : decode cX10_close 149 = .ok (.getfield 137, 3) := by decide +kernel
theorem dX10_close_15 : decode cX10_close 15 = .ok (.ifCond .ne 10, 3) := by decide +kernel
theorem dX10_close_152 : decode cX10_close 152 = .ok (.isub, 1) := by decide +kernel
theorem dX10_close_153 : decode cX10_close 153 = .ok (.invokestatic 176, 3) := by decide +kernel
theorem dX10_close_156 : decode cX10_close 156 = .ok (.istore 7, 2) := by decide +kernel
theorem dX10_close_158 : decode cX10_close 158 = .ok (.iload 7, 2) := by decide +kernel
theorem dX10_close_160 : decode cX10_close 160 = .ok (.iload 5, 2) := by decide +kernel
theorem dX10_close_162 : decode cX10_close 162 = .ok (.if_icmp .ge 11, 3) := by decide +kernel
theorem dX10_close_165 : decode cX10_close 165 = .ok (.iload 7, 2) := by decide +kernel
theorem dX10_close_167 : decode cX10_close 167 = .ok (.istore 5, 2) := by decide +kernel
theorem dX10_close_169 : decode cX10_close 169 = .ok (.iload 6, 2) := by decide +kernel
theorem dX10_close_171 : decode cX10_close 171 = .ok (.istore 4, 2) := by decide +kernel
theorem dX10_close_173 : decode cX10_close 173 = .ok (.iinc 6 1, 3) := by decide +kernel
theorem dX10_close_176 : decode cX10_close 176 = .ok (.goto (-93), 3) := by decide +kernel
theorem dX10_close_179 : decode cX10_close 179 = .ok (.iload_n 3, 1) := by decide +kernel
theorem dX10_close_18 : decode cX10_close 18 = .ok (.aload_n 0, 1) := by decide +kernel
theorem dX10_close_180 : decode cX10_close 180 = .ok (.ifCond .ne 8, 3) := by decide +kernel
theorem dX10_close_183 : decode cX10_close 183 = .ok (.iload 4, 2) := by decide +kernel
theorem dX10_close_185 : decode cX10_close 185 = .ok (.goto 5, 3) := by decide +kernel
theorem dX10_close_188 : decode cX10_close 188 = .ok (.iload 5, 2) := by decide +kernel
theorem dX10_close_19 : decode cX10_close 19 = .ok (.bipush (-2), 2) := by decide +kernel
theorem dX10_close_190 : decode cX10_close 190 = .ok (.ireturn, 1) := by decide +kernel
theorem dX10_close_2 : decode cX10_close 2 = .ok (.iload_n 2, 1) := by decide +kernel
theorem dX10_close_21 : decode cX10_close 21 = .ok (.invokevirtual 83, 3) := by decide +kernel
theorem dX10_close_24 : decode cX10_close 24 = .ok (.ireturn, 1) := by decide +kernel
theorem dX10_close_25 : decode cX10_close 25 = .ok (.aload_n 0, 1) := by decide +kernel
theorem dX10_close_26 : decode cX10_close 26 = .ok (.getfield 48, 3) := by decide +kernel
theorem dX10_close_29 : decode cX10_close 29 = .ok (.aload_n 0, 1) := by decide +kernel
theorem dX10_close_3 : decode cX10_close 3 = .ok (.invokevirtual 172, 3) := by decide +kernel
theorem dX10_close_30 : decode cX10_close 30 = .ok (.getfield 10, 3) := by decide +kernel
theorem dX10_close_33 : decode cX10_close 33 = .ok (.getfield 126, 3) := by decide +kernel
theorem dX10_close_36 : decode cX10_close 36 = .ok (.iload_n 1, 1) := by decide +kernel
theorem dX10_close_37 : decode cX10_close 37 = .ok (.aaload, 1) := by decide +kernel
theorem dX10_close_38 : decode cX10_close 38 = .ok (.invokevirtual 148, 3) := by decide +kernel
theorem dX10_close_41 : decode cX10_close 41 = .ok (.aload_n 0, 1) := by decide +kernel
theorem dX10_close_42 : decode cX10_close 42 = .ok (.getfield 52, 3) := by decide +kernel
theorem dX10_close_45 : decode cX10_close 45 = .ok (.aload_n 0, 1) := by decide +kernel
theorem dX10_close_46 : decode cX10_close 46 = .ok (.getfield 10, 3) := by decide +kernel
theorem dX10_close_49 : decode cX10_close 49 = .ok (.getfield 126, 3) := by decide +kernel
theorem dX10_close_52 : decode cX10_close 52 = .ok (.iload_n 2, 1) := by decide +kernel
theorem dX10_close_53 : decode cX10_close 53 = .ok (.aaload, 1) := by decide +kernel
theorem dX10_close_54 : decode cX10_close 54 = .ok (.invokevirtual 148, 3) := by decide +kernel
theorem dX10_close_57 : decode cX10_close 57 = .ok (.iconst 0, 1) := by decide +kernel
theorem dX10_close_58 : decode cX10_close 58 = .ok (.istore 4, 2) := by decide +kernel
theorem dX10_close_6 : decode cX10_close 6 = .ok (.ifCond .eq 12, 3) := by decide +kernel
theorem dX10_close_60 : decode cX10_close 60 = .ok (.aload_n 0, 1) := by decide +kernel
theorem dX10_close_61 : decode cX10_close 61 = .ok (.getfield 48, 3) := by decide +kernel
theorem dX10_close_64 : decode cX10_close 64 = .ok (.getfield 137, 3) := by decide +kernel
theorem dX10_close_67 : decode cX10_close 67 = .ok (.aload_n 0, 1) := by decide +kernel
theorem dX10_close_68 : decode cX10_close 68 = .ok (.getfield 52, 3) := by decide +kernel
theorem dX10_close_71 : decode cX10_close 71 = .ok (.getfield 137, 3) := by decide +kernel
theorem dX10_close_74 : decode cX10_close 74 = .ok (.isub, 1) := by decide +kernel
theorem dX10_close_75 : decode cX10_close 75 = .ok (.invokestatic 176, 3) := by decide +kernel
theorem dX10_close_78 : decode cX10_close 78 = .ok (.istore 5, 2) := by decide +kernel
theorem dX10_close_80 : decode cX10_close 80 = .ok (.iconst 1, 1) := by decide +kernel
theorem dX10_close_81 : decode cX10_close 81 = .ok (.istore 6, 2) := by decide +kernel
theorem dX10_close_83 : decode cX10_close 83 = .ok (.iload 6, 2) := by decide +kernel
theorem dX10_close_85 : decode cX10_close 85 = .ok (.bipush 60, 2) := by decide +kernel
theorem dX10_close_87 : decode cX10_close 87 = .ok (.if_icmp .gt 92, 3) := by decide +kernel
theorem dX10_close_9 : decode cX10_close 9 = .ok (.iload_n 3, 1) := by decide +kernel
theorem dX10_close_90 : decode cX10_close 90 = .ok (.aload_n 0, 1) := by decide +kernel
theorem dX10_close_91 : decode cX10_close 91 = .ok (.getfield 48, 3) := by decide +kernel
theorem dX10_close_94 : decode cX10_close 94 = .ok (.aload_n 0, 1) := by decide +kernel
theorem dX10_close_95 : decode cX10_close 95 = .ok (.getfield 10, 3) := by decide +kernel
theorem dX10_close_98 : decode cX10_close 98 = .ok (.getfield 110, 3) := by decide +kernel
theorem dX10_look_0 : decode cX10_look 0 = .ok (.aload_n 0, 1) := by decide +kernel
theorem dX10_look_1 : decode cX10_look 1 = .ok (.iload_n 1, 1) := by decide +kernel
theorem dX10_look_11 : decode cX10_look 11 = .ok (.invokevirtual 83, 3) := by decide +kernel
theorem dX10_look_14 : decode cX10_look 14 = .ok (.ireturn, 1) := by decide +kernel
theorem dX10_look_15 : decode cX10_look 15 = .ok (.aload_n 0, 1) := by decide +kernel
theorem dX10_look_16 : decode cX10_look 16 = .ok (.aload_n 0, 1) := by decide +kernel
theorem dX10_look_17 : decode cX10_look 17 = .ok (.getfield 10, 3) := by decide +kernel
theorem dX10_look_2 : decode cX10_look 2 = .ok (.invokevirtual 123, 3) := by decide +kernel
theorem dX10_look_20 : decode cX10_look 20 = .ok (.getfield 126, 3) := by decide +kernel
theorem dX10_look_23 : decode cX10_look 23 = .ok (.iload_n 1, 1) := by decide +kernel
theorem dX10_look_24 : decode cX10_look 24 = .ok (.aaload, 1) := by decide +kernel
theorem dX10_look_25 : decode cX10_look 25 = .ok (.iconst 1, 1) := by decide +kernel
theorem dX10_look_26 : decode cX10_look 26 = .ok (.aload_n 0, 1) := by decide +kernel
theorem dX10_look_27 : decode cX10_look 27 = .ok (.getfield 10, 3) := by decide +kernel
theorem dX10_look_30 : decode cX10_look 30 = .ok (.iload_n 1, 1) := by decide +kernel
theorem dX10_look_31 : decode cX10_look 31 = .ok (.invokevirtual 218, 3) := by decide +kernel
theorem dX10_look_34 : decode cX10_look 34 = .ok (.sipush 200, 3) := by decide +kernel
theorem dX10_look_37 : decode cX10_look 37 = .ok (.invokevirtual 208, 3) := by decide +kernel
theorem dX10_look_40 : decode cX10_look 40 = .ok (.ireturn, 1) := by decide +kernel
theorem dX10_look_5 : decode cX10_look 5 = .ok (.ifCond .ne 10, 3) := by decide +kernel
theorem dX10_look_8 : decode cX10_look 8 = .ok (.aload_n 0, 1) := by decide +kernel
theorem dX10_look_9 : decode cX10_look 9 = .ok (.bipush (-2), 2) := by decide +kernel
theorem dX10_mostAlike_0 : decode cX10_mostAlike 0 = .ok (.aload_n 0, 1) := by decide +kernel
theorem dX10_mostAlike_1 : decode cX10_mostAlike 1 = .ok (.getfield 58, 3) := by decide +kernel
theorem dX10_mostAlike_10 : decode cX10_mostAlike 10 = .ok (.iload 5, 2) := by decide +kernel
theorem dX10_mostAlike_12 : decode cX10_mostAlike 12 = .ok (.bipush 9, 2) := by decide +kernel
theorem dX10_mostAlike_14 : decode cX10_mostAlike 14 = .ok (.if_icmp .gt 34, 3) := by decide +kernel
theorem dX10_mostAlike_17 : decode cX10_mostAlike 17 = .ok (.iload_n 3, 1) := by decide +kernel
theorem dX10_mostAlike_18 : decode cX10_mostAlike 18 = .ok (.iload 5, 2) := by decide +kernel
theorem dX10_mostAlike_20 : decode cX10_mostAlike 20 = .ok (.invokestatic 205, 3) := by decide +kernel
theorem dX10_mostAlike_23 : decode cX10_mostAlike 23 = .ok (.ifCond .eq 19, 3) := by decide +kernel
theorem dX10_mostAlike_26 : decode cX10_mostAlike 26 = .ok (.aload_n 0, 1) := by decide +kernel
theorem dX10_mostAlike_27 : decode cX10_mostAlike 27 = .ok (.getfield 58, 3) := by decide +kernel
theorem dX10_mostAlike_30 : decode cX10_mostAlike 30 = .ok (.aload_n 1, 1) := by decide +kernel
theorem dX10_mostAlike_31 : decode cX10_mostAlike 31 = .ok (.iload_n 2, 1) := by decide +kernel
theorem dX10_mostAlike_32 : decode cX10_mostAlike 32 = .ok (.iload 5, 2) := by decide +kernel
theorem dX10_mostAlike_34 : decode cX10_mostAlike 34 = .ok (.iload 4, 2) := by decide +kernel
theorem dX10_mostAlike_36 : decode cX10_mostAlike 36 = .ok (.invokestatic 311, 3) := by decide +kernel
theorem dX10_mostAlike_39 : decode cX10_mostAlike 39 = .ok (.invokevirtual 314, 3) := by decide +kernel
theorem dX10_mostAlike_4 : decode cX10_mostAlike 4 = .ok (.invokevirtual 309, 3) := by decide +kernel
theorem dX10_mostAlike_42 : decode cX10_mostAlike 42 = .ok (.iinc 5 1, 3) := by decide +kernel
theorem dX10_mostAlike_45 : decode cX10_mostAlike 45 = .ok (.goto (-35), 3) := by decide +kernel
theorem dX10_mostAlike_48 : decode cX10_mostAlike 48 = .ok (.aload_n 0, 1) := by decide +kernel
theorem dX10_mostAlike_49 : decode cX10_mostAlike 49 = .ok (.getfield 58, 3) := by decide +kernel
theorem dX10_mostAlike_52 : decode cX10_mostAlike 52 = .ok (.getfield 317, 3) := by decide +kernel
theorem dX10_mostAlike_55 : decode cX10_mostAlike 55 = .ok (.ireturn, 1) := by decide +kernel
theorem dX10_mostAlike_7 : decode cX10_mostAlike 7 = .ok (.iconst 0, 1) := by decide +kernel
theorem dX10_mostAlike_8 : decode cX10_mostAlike 8 = .ok (.istore 5, 2) := by decide +kernel
theorem dX10_nextLook_0 : decode cX10_nextLook 0 = .ok (.iconst (-1), 1) := by decide +kernel
theorem dX10_nextLook_1 : decode cX10_nextLook 1 = .ok (.istore 5, 2) := by decide +kernel
theorem dX10_nextLook_11 : decode cX10_nextLook 11 = .ok (.iconst 0, 1) := by decide +kernel
theorem dX10_nextLook_12 : decode cX10_nextLook 12 = .ok (.istore 7, 2) := by decide +kernel
theorem dX10_nextLook_14 : decode cX10_nextLook 14 = .ok (.iload 7, 2) := by decide +kernel
theorem dX10_nextLook_16 : decode cX10_nextLook 16 = .ok (.iload 4, 2) := by decide +kernel
theorem dX10_nextLook_18 : decode cX10_nextLook 18 = .ok (.if_icmp .ge 41, 3) := by decide +kernel
theorem dX10_nextLook_21 : decode cX10_nextLook 21 = .ok (.iload 6, 2) := by decide +kernel
theorem dX10_nextLook_23 : decode cX10_nextLook 23 = .ok (.iconst 1, 1) := by decide +kernel
theorem dX10_nextLook_24 : decode cX10_nextLook 24 = .ok (.if_icmp .le 35, 3) := by decide +kernel
theorem dX10_nextLook_27 : decode cX10_nextLook 27 = .ok (.aload_n 0, 1) := by decide +kernel
theorem dX10_nextLook_28 : decode cX10_nextLook 28 = .ok (.aload_n 1, 1) := by decide +kernel
theorem dX10_nextLook_29 : decode cX10_nextLook 29 = .ok (.iload_n 2, 1) := by decide +kernel
theorem dX10_nextLook_3 : decode cX10_nextLook 3 = .ok (.iload_n 3, 1) := by decide +kernel
theorem dX10_nextLook_30 : decode cX10_nextLook 30 = .ok (.iload_n 3, 1) := by decide +kernel
theorem dX10_nextLook_31 : decode cX10_nextLook 31 = .ok (.iload 7, 2) := by decide +kernel
theorem dX10_nextLook_33 : decode cX10_nextLook 33 = .ok (.invokevirtual 306, 3) := by decide +kernel
theorem dX10_nextLook_36 : decode cX10_nextLook 36 = .ok (.istore 8, 2) := by decide +kernel
theorem dX10_nextLook_38 : decode cX10_nextLook 38 = .ok (.iload 8, 2) := by decide +kernel
theorem dX10_nextLook_4 : decode cX10_nextLook 4 = .ok (.invokestatic 200, 3) := by decide +kernel
theorem dX10_nextLook_40 : decode cX10_nextLook 40 = .ok (.iload 6, 2) := by decide +kernel
theorem dX10_nextLook_42 : decode cX10_nextLook 42 = .ok (.if_icmp .ge 11, 3) := by decide +kernel
theorem dX10_nextLook_45 : decode cX10_nextLook 45 = .ok (.iload 8, 2) := by decide +kernel
theorem dX10_nextLook_47 : decode cX10_nextLook 47 = .ok (.istore 6, 2) := by decide +kernel
theorem dX10_nextLook_49 : decode cX10_nextLook 49 = .ok (.iload 7, 2) := by decide +kernel
theorem dX10_nextLook_51 : decode cX10_nextLook 51 = .ok (.istore 5, 2) := by decide +kernel
theorem dX10_nextLook_53 : decode cX10_nextLook 53 = .ok (.iinc 7 1, 3) := by decide +kernel
theorem dX10_nextLook_56 : decode cX10_nextLook 56 = .ok (.goto (-42), 3) := by decide +kernel
theorem dX10_nextLook_59 : decode cX10_nextLook 59 = .ok (.iload 5, 2) := by decide +kernel
theorem dX10_nextLook_61 : decode cX10_nextLook 61 = .ok (.ireturn, 1) := by decide +kernel
theorem dX10_nextLook_7 : decode cX10_nextLook 7 = .ok (.iconst 1, 1) := by decide +kernel
theorem dX10_nextLook_8 : decode cX10_nextLook 8 = .ok (.iadd, 1) := by decide +kernel
theorem dX10_nextLook_9 : decode cX10_nextLook 9 = .ok (.istore 6, 2) := by decide +kernel
theorem dX10_tell_0 : decode cX10_tell 0 = .ok (.aload_n 0, 1) := by decide +kernel
theorem dX10_tell_1 : decode cX10_tell 1 = .ok (.iload_n 1, 1) := by decide +kernel
theorem dX10_tell_11 : decode cX10_tell 11 = .ok (.invokevirtual 83, 3) := by decide +kernel
theorem dX10_tell_14 : decode cX10_tell 14 = .ok (.ireturn, 1) := by decide +kernel
theorem dX10_tell_15 : decode cX10_tell 15 = .ok (.aload_n 0, 1) := by decide +kernel
theorem dX10_tell_16 : decode cX10_tell 16 = .ok (.aload_n 0, 1) := by decide +kernel
theorem dX10_tell_17 : decode cX10_tell 17 = .ok (.getfield 10, 3) := by decide +kernel
theorem dX10_tell_2 : decode cX10_tell 2 = .ok (.invokevirtual 123, 3) := by decide +kernel
theorem dX10_tell_20 : decode cX10_tell 20 = .ok (.getfield 126, 3) := by decide +kernel
theorem dX10_tell_23 : decode cX10_tell 23 = .ok (.iload_n 1, 1) := by decide +kernel
theorem dX10_tell_24 : decode cX10_tell 24 = .ok (.aaload, 1) := by decide +kernel
theorem dX10_tell_25 : decode cX10_tell 25 = .ok (.iconst 0, 1) := by decide +kernel
theorem dX10_tell_26 : decode cX10_tell 26 = .ok (.aload_n 0, 1) := by decide +kernel
theorem dX10_tell_27 : decode cX10_tell 27 = .ok (.getfield 10, 3) := by decide +kernel
theorem dX10_tell_30 : decode cX10_tell 30 = .ok (.iload_n 1, 1) := by decide +kernel
theorem dX10_tell_31 : decode cX10_tell 31 = .ok (.invokevirtual 197, 3) := by decide +kernel
theorem dX10_tell_34 : decode cX10_tell 34 = .ok (.sipush 200, 3) := by decide +kernel
theorem dX10_tell_37 : decode cX10_tell 37 = .ok (.invokevirtual 208, 3) := by decide +kernel
theorem dX10_tell_40 : decode cX10_tell 40 = .ok (.ireturn, 1) := by decide +kernel
theorem dX10_tell_5 : decode cX10_tell 5 = .ok (.ifCond .ne 10, 3) := by decide +kernel
theorem dX10_tell_8 : decode cX10_tell 8 = .ok (.aload_n 0, 1) := by decide +kernel
theorem dX10_tell_9 : decode cX10_tell 9 = .ok (.bipush (-2), 2) := by decide +kernel
theorem in_X10_mostAlike_X10 : ∀ w ∈ wsX100, w ∈ wsX10_mostAlike := by decide +kernel
theorem lk_X10_mostAlike_58 : Cond.fieldLink RX10 58 "EggSpoons" "tally" "LEggSpoons$Tally;" ∈ wsX10_mostAlike := by decide +kernel
theorem hdV_X9_restart : yX9_restart.cls = RX9 ∧ yX9_restart.cls ≠ "java/lang/invoke/MethodHandle" ∧ yX9_restart.cls ≠ "java/lang/invoke/VarHandle" ∧ (parseMethodDescriptor yX9_restart.desc).map (fun d => d.parameters.length) = some 0 := by decide +kernel
theorem hdS_X10_farBy : yX10_farBy.cls ≠ "java/lang/invoke/MethodHandle" ∧ yX10_farBy.cls ≠ "java/lang/invoke/VarHandle" ∧ (parseMethodDescriptor yX10_farBy.desc).map (fun d => d.parameters.length) = some 4 := by decide +kernel
theorem hdV_X9_see : yX9_see.cls = RX9 ∧ yX9_see.cls ≠ "java/lang/invoke/MethodHandle" ∧ yX9_see.cls ≠ "java/lang/invoke/VarHandle" ∧ (parseMethodDescriptor yX9_see.desc).map (fun d => d.parameters.length) = some 1 := by decide +kernel
theorem in_X10_mostAlike_X9 : ∀ w ∈ wsX90, w ∈ wsX10_mostAlike := by decide +kernel
theorem lk_X10_mostAlike_317 : Cond.fieldLink RX10 317 "EggSpoons$Tally" "most" "I" ∈ wsX10_mostAlike := by decide +kernel
set_option maxHeartbeats 4000000 in
set_option maxRecDepth 100000 in
/-- mostAlike -/
theorem s_mostAlike0 (l : Launch) (X : EX) (h0 : Nat) (nw : Nat) (sp : Nat) (xa : Nat → Nat) (la : Int64) (lb : Int64) (hc : Nat) (tm : Int32) (tf : Nat → Int32) (hr : Nat) (vr : Nat → Int32) (x3 : Int32) (x4 : Int32) (sz : Nat) : Met l yX10_mostAlike wsX10_mostAlike ({ frames := 2, cells := 0, slots := 0, locals := 49 } : Room) (pE X [.ref h0, .ref hr, .int 0, .int x3, .int x4] (xW h0 nw sp xa la lb ++ [((xa 10), .inr (7, [.ref hc, .int tm])), (hc, .inl (X.2.1, 16, .inl tf))] ++ rnW hr vr) sz) (qI (fun (r : Int32) (u : (Int32) × (Nat → Int32)) => (True)) X (fun (u : (Int32) × (Nat → Int32)) => xW h0 nw sp xa la lb ++ [((xa 10), .inr (7, [.ref hc, .int u.1])), (hc, .inl (X.2.1, 16, .inl u.2))] ++ rnW hr vr) (xW h0 nw sp xa la lb ++ [((xa 10), .inr (7, [.ref hc, .int tm])), (hc, .inl (X.2.1, 16, .inl tf))] ++ rnW hr vr) sz) 0 0 (va_A (xW h0 nw sp xa la lb ++ [((xa 10), .inr (7, [.ref hc, .int tm])), (hc, .inl (X.2.1, 16, .inl tf))] ++ rnW hr vr) sz) := by
  refine mk_met (B := (va_A (xW h0 nw sp xa la lb ++ [((xa 10), .inr (7, [.ref hc, .int tm])), (hc, .inl (X.2.1, 16, .inl tf))] ++ rnW hr vr) sz)) (A := (va_A (xW h0 nw sp xa la lb ++ [((xa 10), .inr (7, [.ref hc, .int tm])), (hc, .inl (X.2.1, 16, .inl tf))] ++ rnW hr vr) sz)) (cc := cX10_mostAlike) (maxL := 6) (ret := (some .int)) (by decide) rfl (Nat.le_of_ble_eq_true rfl) k_w k_a (fun p e s m below meth c S zr zlk znm zsz G ls hl => ?_)
  have S : CallFix p m c cX10_mostAlike 6 s _ wsX10_mostAlike RX10 := S
  have zx := S.1
  have zb := S.2.1
  have hl : lv_has ls 6 [(0, .ref h0), (1, .ref hr), (2, .int 0), (3, .int x3), (4, .int x4)] := hl
  refine lv_aload_n zx zb dX10_mostAlike_0 rfl (lv_at hl 0 rfl) ?_
  refine r_get (C := RX10) (T := TX10) (N := 14) (ci := 8) (v := .ref (xa 10)) S in_X10_mostAlike_X10 G 0 rfl rfl 10 (by decide) lk_X10_mostAlike_58 rfl dX10_mostAlike_1 ?_
  refine b_wv (cells' := 0) (slots' := 0) (wr := xW h0 nw sp xa la lb ++ rnW hr vr) G rfl rfl [1, 2] [0, 3] rfl rfl rfl rfl (n_V (As := []) (rest := []) (C := RX9) (T := TX9) (N := 2) (ci := 7) S G (s_trestart l X (xa 10) hc tm tf s.heap.size) gX10_mostAlike_X9_restart rfl rfl rfl hdV_X9_restart ⟨Nat.le_of_ble_eq_true rfl, Nat.le_of_ble_eq_true rfl⟩ [1, 2] rfl rfl 1 rfl rfl rfl hl.1 (Nat.le_of_ble_eq_true rfl) dX10_mostAlike_4 ⟨Nat.le_of_ble_eq_true rfl, Nat.le_of_ble_eq_true rfl⟩) (fun u_1 H locs hp_1 G => ?_)
  obtain ⟨m_1a, f_1b⟩ := u_1
  have hq_1 := hp_1
  have G : wd X (va_A (xW h0 nw sp xa la lb ++ [((xa 10), .inr (7, [.ref hc, .int tm])), (hc, .inl (X.2.1, 16, .inl tf))] ++ rnW hr vr) sz) (va_A (xW h0 nw sp xa la lb ++ [((xa 10), .inr (7, [.ref hc, .int tm])), (hc, .inl (X.2.1, 16, .inl tf))] ++ rnW hr vr) sz) s (xW h0 nw sp xa la lb ++ rnW hr vr ++ [((xa 10), .inr (7, [.ref hc, .int m_1a])), (hc, .inl (X.2.1, 16, .inl f_1b))]) H locs := G
  refine lv_iconst (v := 0) zx zb dX10_mostAlike_7 (by decide) ?_
  refine lv_istore (lv' := [(5, .int 0), (0, .ref h0), (1, .ref hr), (2, .int 0), (3, .int x3), (4, .int x4)]) zx zb dX10_mostAlike_8 hl (by decide) rfl (fun ls hl => ?_)
  refine k_loop (P := ∀ (zm : Nat) (k10 : Nat) (m10_2 : Int32) (f10_2 : Nat → Int32) (H : Heap) (locs : List Loc) (ls : Array Slot), 10 + 1 ≤ k10 + zm → (k10 ≤ 10) → wd X (va_A (xW h0 nw sp xa la lb ++ [((xa 10), .inr (7, [.ref hc, .int tm])), (hc, .inl (X.2.1, 16, .inl tf))] ++ rnW hr vr) sz) (va_A (xW h0 nw sp xa la lb ++ [((xa 10), .inr (7, [.ref hc, .int tm])), (hc, .inl (X.2.1, 16, .inl tf))] ++ rnW hr vr) sz) s (xW h0 nw sp xa la lb ++ rnW hr vr ++ [((xa 10), .inr (7, [.ref hc, .int m10_2])), (hc, .inl (X.2.1, 16, .inl f10_2))]) H locs → lv_has ls 6 [(5, .int (nI k10)), (0, .ref h0), (1, .ref hr), (2, .int 0), (3, .int x3), (4, .int x4)] → W p l e _ s m _ below meth c H locs _ _ _ (F0 m 10 ls [])) (fun loop => loop (10 + 1) 0 m_1a f_1b _ _ _ (by omega) (by omega) G hl) ?_
  intro zm
  induction zm with
  | zero => intro k10 m10_2 f10_2 H locs ls zz q_hk_k10 _ _; exact absurd zz (by omega)
  | succ zm ih10 =>
    intro k10 m10_2 f10_2 H locs ls zm_10 hk_k10 G hl
    refine lv_iload zx zb dX10_mostAlike_10 (lv_at hl 0 rfl) ?_
    refine lv_bipush (v := 9) zx zb dX10_mostAlike_12 (by decide) ?_
    refine lv_icmp_gt (tgt := 48) zx zb dX10_mostAlike_14 (by decide) (fun c_2 => ?_) (fun c_2 => ?_)
    · have fc_2 := j_lt (a := 9) (b := k10) (by omega) (by omega) c_2
      refine lv_aload_n zx zb dX10_mostAlike_48 rfl (lv_at hl 1 rfl) ?_
      refine r_get (C := RX10) (T := TX10) (N := 14) (ci := 8) (v := .ref (xa 10)) S in_X10_mostAlike_X10 G 0 rfl rfl 10 (by decide) lk_X10_mostAlike_58 rfl dX10_mostAlike_49 ?_
      refine r_get (C := RX9) (T := TX9) (N := 2) (ci := 7) (v := .int m10_2) S in_X10_mostAlike_X9 G 2 rfl rfl 1 (by decide) lk_X10_mostAlike_317 rfl dX10_mostAlike_52 ?_
      exact e_int S zr zlk (vp_nar_int _) G (m10_2, f10_2) [0, 2, 3, 1] rfl rfl (Or.inr rfl) (trivial) dX10_mostAlike_55
    · have fc_2 := j_nlt (a := 9) (b := k10) (by omega) (by omega) c_2
      refine lv_iload_n zx zb dX10_mostAlike_17 rfl (lv_at hl 4 rfl) ?_
      refine lv_iload zx zb dX10_mostAlike_18 (lv_at hl 0 rfl) ?_
      refine o_ri (cells' := 0) (slots' := 0) G rfl rfl (n_S (As := [.int x3, .int (nI k10)]) (rest := []) S G (s_hasBit l X x3 (nI k10) H.size) gX10_mostAlike_X10_hasBit rfl rfl rfl hdS_X10_hasBit ⟨Nat.le_of_ble_eq_true rfl, Nat.le_of_ble_eq_true rfl⟩ [] rfl rfl rfl hl.1 (Nat.le_of_ble_eq_true rfl) dX10_mostAlike_20 ⟨Nat.le_of_ble_eq_true rfl, Nat.le_of_ble_eq_true rfl⟩) (fun r_3 u_3 H locs hp_3 G => ?_)
      have G : wd X (va_A (xW h0 nw sp xa la lb ++ [((xa 10), .inr (7, [.ref hc, .int tm])), (hc, .inl (X.2.1, 16, .inl tf))] ++ rnW hr vr) sz) (va_A (xW h0 nw sp xa la lb ++ [((xa 10), .inr (7, [.ref hc, .int tm])), (hc, .inl (X.2.1, 16, .inl tf))] ++ rnW hr vr) sz) s (xW h0 nw sp xa la lb ++ rnW hr vr ++ [((xa 10), .inr (7, [.ref hc, .int m10_2])), (hc, .inl (X.2.1, 16, .inl f10_2))]) H locs := G
      refine k_cutW (PP := fun Wx => ∀ (m_5 : Int32) (f_6 : Nat → Int32) (H : Heap) (locs : List Loc) (ls : Array Slot), wd X (va_A (xW h0 nw sp xa la lb ++ [((xa 10), .inr (7, [.ref hc, .int tm])), (hc, .inl (X.2.1, 16, .inl tf))] ++ rnW hr vr) sz) (va_A (xW h0 nw sp xa la lb ++ [((xa 10), .inr (7, [.ref hc, .int tm])), (hc, .inl (X.2.1, 16, .inl tf))] ++ rnW hr vr) sz) s (xW h0 nw sp xa la lb ++ rnW hr vr ++ [((xa 10), .inr (7, [.ref hc, .int m_5])), (hc, .inl (X.2.1, 16, .inl f_6))]) H locs → lv_has ls 6 [(5, .int (nI k10)), (0, .ref h0), (1, .ref hr), (2, .int 0), (3, .int x3), (4, .int x4)] → Wx (F0 m 42 ls []) H locs) ?_ ?_
      · intro join_23
        refine lv_if_eq (tgt := 42) zx zb dX10_mostAlike_23 (by decide) (fun c_4 => ?_) (fun c_4 => ?_)
        · exact join_23 m10_2 f10_2 _ _ _  G hl
        · refine lv_aload_n zx zb dX10_mostAlike_26 rfl (lv_at hl 1 rfl) ?_
          refine r_get (C := RX10) (T := TX10) (N := 14) (ci := 8) (v := .ref (xa 10)) S in_X10_mostAlike_X10 G 0 rfl rfl 10 (by decide) lk_X10_mostAlike_58 rfl dX10_mostAlike_27 ?_
          refine lv_aload_n zx zb dX10_mostAlike_30 rfl (lv_at hl 2 rfl) ?_
          refine lv_iload_n zx zb dX10_mostAlike_31 rfl (lv_at hl 3 rfl) ?_
          refine lv_iload zx zb dX10_mostAlike_32 (lv_at hl 0 rfl) ?_
          refine lv_iload zx zb dX10_mostAlike_34 (lv_at hl 5 rfl) ?_
          refine o_ri (cells' := 0) (slots' := 0) G rfl rfl (n_S (As := [.ref hr, .int 0, .int (nI k10), .int x4]) (rest := [.ref (xa 10)]) S G (s_farBy0 l X hr vr (nI k10) x4 H.size) gX10_mostAlike_X10_farBy rfl rfl rfl hdS_X10_farBy ⟨Nat.le_of_ble_eq_true rfl, Nat.le_of_ble_eq_true rfl⟩ [1] rfl rfl rfl hl.1 (Nat.le_of_ble_eq_true rfl) dX10_mostAlike_36 ⟨Nat.le_of_ble_eq_true rfl, Nat.le_of_ble_eq_true rfl⟩) (fun r_7 u_7 H locs hp_7 G => ?_)
          have G : wd X (va_A (xW h0 nw sp xa la lb ++ [((xa 10), .inr (7, [.ref hc, .int tm])), (hc, .inl (X.2.1, 16, .inl tf))] ++ rnW hr vr) sz) (va_A (xW h0 nw sp xa la lb ++ [((xa 10), .inr (7, [.ref hc, .int tm])), (hc, .inl (X.2.1, 16, .inl tf))] ++ rnW hr vr) sz) s (xW h0 nw sp xa la lb ++ rnW hr vr ++ [((xa 10), .inr (7, [.ref hc, .int m10_2])), (hc, .inl (X.2.1, 16, .inl f10_2))]) H locs := G
          refine b_wv (cells' := 0) (slots' := 0) (wr := xW h0 nw sp xa la lb ++ rnW hr vr) G rfl rfl [2, 3] [0, 1] rfl rfl rfl rfl (n_V (As := [.int r_7]) (rest := []) (C := RX9) (T := TX9) (N := 2) (ci := 7) S G (s_see l X (xa 10) hc m10_2 f10_2 r_7 H.size) gX10_mostAlike_X9_see rfl rfl rfl hdV_X9_see ⟨Nat.le_of_ble_eq_true rfl, Nat.le_of_ble_eq_true rfl⟩ [2, 3] rfl rfl 2 rfl rfl rfl hl.1 (Nat.le_of_ble_eq_true rfl) dX10_mostAlike_39 ⟨Nat.le_of_ble_eq_true rfl, Nat.le_of_ble_eq_true rfl⟩) (fun u_8 H locs hp_8 G => ?_)
          obtain ⟨m_8a, f_8b⟩ := u_8
          have hq_8 := hp_8
          have G : wd X (va_A (xW h0 nw sp xa la lb ++ [((xa 10), .inr (7, [.ref hc, .int tm])), (hc, .inl (X.2.1, 16, .inl tf))] ++ rnW hr vr) sz) (va_A (xW h0 nw sp xa la lb ++ [((xa 10), .inr (7, [.ref hc, .int tm])), (hc, .inl (X.2.1, 16, .inl tf))] ++ rnW hr vr) sz) s (xW h0 nw sp xa la lb ++ rnW hr vr ++ [((xa 10), .inr (7, [.ref hc, .int m_8a])), (hc, .inl (X.2.1, 16, .inl f_8b))]) H locs := G
          exact join_23 m_8a f_8b _ _ _  G hl
      · intro m_5 f_6 H locs ls  G hl
        refine lv_iinc (v := (nI (k10 + 1))) (lv' := [(5, .int (nI (k10 + 1))), (0, .ref h0), (1, .ref hr), (2, .int 0), (3, .int x3), (4, .int x4)]) zx zb dX10_mostAlike_42 hl (k := 0) rfl (nI_add k10 1) (by decide) rfl (fun ls hl => ?_)
        refine lv_goto (tgt := 10) zx zb dX10_mostAlike_45 (by decide) ?_
        exact ih10 (k10 + 1) m_5 f_6 _ _ _ (by omega) (by omega) G hl
theorem hdV_X10_mostAlike : yX10_mostAlike.cls = RX10 ∧ yX10_mostAlike.cls ≠ "java/lang/invoke/MethodHandle" ∧ yX10_mostAlike.cls ≠ "java/lang/invoke/VarHandle" ∧ (parseMethodDescriptor yX10_mostAlike.desc).map (fun d => d.parameters.length) = some 4 := by decide +kernel
set_option maxHeartbeats 4000000 in
set_option maxRecDepth 100000 in
/-- nextLook -/
theorem s_nextLook0 (l : Launch) (X : EX) (h0 : Nat) (nw : Nat) (sp : Nat) (xa : Nat → Nat) (la : Int64) (lb : Int64) (hc : Nat) (tm : Int32) (tf : Nat → Int32) (hr : Nat) (vr : Nat → Int32) (x3 : Int32) (sz : Nat) : Met l yX10_nextLook wsX10_nextLook ({ frames := 3, cells := 0, slots := 0, locals := 74 } : Room) (pE X [.ref h0, .ref hr, .int 0, .int x3, .int 200] (xW h0 nw sp xa la lb ++ [((xa 10), .inr (7, [.ref hc, .int tm])), (hc, .inl (X.2.1, 16, .inl tf))] ++ rnW hr vr) sz) (qI (fun (r : Int32) (u : (Int32) × (Nat → Int32)) => (True)) X (fun (u : (Int32) × (Nat → Int32)) => xW h0 nw sp xa la lb ++ [((xa 10), .inr (7, [.ref hc, .int u.1])), (hc, .inl (X.2.1, 16, .inl u.2))] ++ rnW hr vr) (xW h0 nw sp xa la lb ++ [((xa 10), .inr (7, [.ref hc, .int tm])), (hc, .inl (X.2.1, 16, .inl tf))] ++ rnW hr vr) sz) 0 0 (va_A (xW h0 nw sp xa la lb ++ [((xa 10), .inr (7, [.ref hc, .int tm])), (hc, .inl (X.2.1, 16, .inl tf))] ++ rnW hr vr) sz) := by
  refine mk_met (B := (va_A (xW h0 nw sp xa la lb ++ [((xa 10), .inr (7, [.ref hc, .int tm])), (hc, .inl (X.2.1, 16, .inl tf))] ++ rnW hr vr) sz)) (A := (va_A (xW h0 nw sp xa la lb ++ [((xa 10), .inr (7, [.ref hc, .int tm])), (hc, .inl (X.2.1, 16, .inl tf))] ++ rnW hr vr) sz)) (cc := cX10_nextLook) (maxL := 9) (ret := (some .int)) (by decide) rfl (Nat.le_of_ble_eq_true rfl) k_w k_a (fun p e s m below meth c S zr zlk znm zsz G ls hl => ?_)
  have S : CallFix p m c cX10_nextLook 9 s _ wsX10_nextLook RX10 := S
  have zx := S.1
  have zb := S.2.1
  have hl : lv_has ls 9 [(0, .ref h0), (1, .ref hr), (2, .int 0), (3, .int x3), (4, .int 200)] := hl
  refine lv_iconst (v := (-1)) zx zb dX10_nextLook_0 (by decide) ?_
  refine lv_istore (lv' := [(5, .int (-1)), (0, .ref h0), (1, .ref hr), (2, .int 0), (3, .int x3), (4, .int 200)]) zx zb dX10_nextLook_1 hl (by decide) rfl (fun ls hl => ?_)
  refine lv_iload_n zx zb dX10_nextLook_3 rfl (lv_at hl 4 rfl) ?_
  refine o_ri (cells' := 0) (slots' := 0) G rfl rfl (n_S (As := [.int x3]) (rest := []) S G (s_bitCount l X x3 s.heap.size) gX10_nextLook_J6_bitCount_0f7a4 rfl rfl rfl hdS_J6_bitCount_0f7a4 ⟨Nat.le_of_ble_eq_true rfl, Nat.le_of_ble_eq_true rfl⟩ [] rfl rfl rfl hl.1 (Nat.le_of_ble_eq_true rfl) dX10_nextLook_4 ⟨Nat.le_of_ble_eq_true rfl, Nat.le_of_ble_eq_true rfl⟩) (fun r_1 u_1 H locs hp_1 G => ?_)
  have G : wd X (va_A (xW h0 nw sp xa la lb ++ [((xa 10), .inr (7, [.ref hc, .int tm])), (hc, .inl (X.2.1, 16, .inl tf))] ++ rnW hr vr) sz) (va_A (xW h0 nw sp xa la lb ++ [((xa 10), .inr (7, [.ref hc, .int tm])), (hc, .inl (X.2.1, 16, .inl tf))] ++ rnW hr vr) sz) s (xW h0 nw sp xa la lb ++ [((xa 10), .inr (7, [.ref hc, .int tm])), (hc, .inl (X.2.1, 16, .inl tf))] ++ rnW hr vr) H locs := G
  refine lv_iconst (v := 1) zx zb dX10_nextLook_7 (by decide) ?_
  refine r_iadd (v := (r_1 + 1)) S rfl dX10_nextLook_8 ?_
  refine lv_istore (lv' := [(6, .int (r_1 + 1)), (5, .int (-1)), (0, .ref h0), (1, .ref hr), (2, .int 0), (3, .int x3), (4, .int 200)]) zx zb dX10_nextLook_9 hl (by decide) rfl (fun ls hl => ?_)
  refine lv_iconst (v := 0) zx zb dX10_nextLook_11 (by decide) ?_
  refine lv_istore (lv' := [(7, .int 0), (6, .int (r_1 + 1)), (5, .int (-1)), (0, .ref h0), (1, .ref hr), (2, .int 0), (3, .int x3), (4, .int 200)]) zx zb dX10_nextLook_12 hl (by decide) rfl (fun ls hl => ?_)
  refine k_loop (P := ∀ (zm : Nat) (k14 : Nat) (x14_6 : Int32) (x14_5 : Int32) (m14_1 : Int32) (f14_1 : Nat → Int32) (H : Heap) (locs : List Loc) (ls : Array Slot), 200 + 1 ≤ k14 + zm → (k14 ≤ 200) → wd X (va_A (xW h0 nw sp xa la lb ++ [((xa 10), .inr (7, [.ref hc, .int tm])), (hc, .inl (X.2.1, 16, .inl tf))] ++ rnW hr vr) sz) (va_A (xW h0 nw sp xa la lb ++ [((xa 10), .inr (7, [.ref hc, .int tm])), (hc, .inl (X.2.1, 16, .inl tf))] ++ rnW hr vr) sz) s (xW h0 nw sp xa la lb ++ [((xa 10), .inr (7, [.ref hc, .int m14_1])), (hc, .inl (X.2.1, 16, .inl f14_1))] ++ rnW hr vr) H locs → lv_has ls 9 [(7, .int (nI k14)), (6, .int x14_6), (5, .int x14_5), (0, .ref h0), (1, .ref hr), (2, .int 0), (3, .int x3), (4, .int 200)] → W p l e _ s m _ below meth c H locs _ _ _ (F0 m 14 ls [])) (fun loop => loop (200 + 1) 0 (r_1 + 1) (-1) tm tf _ _ _ (by omega) (by omega) G hl) ?_
  intro zm
  induction zm with
  | zero => intro k14 x14_6 x14_5 m14_1 f14_1 H locs ls zz q_hk_k14 _ _; exact absurd zz (by omega)
  | succ zm ih14 =>
    intro k14 x14_6 x14_5 m14_1 f14_1 H locs ls zm_14 hk_k14 G hl
    refine lv_iload zx zb dX10_nextLook_14 (lv_at hl 0 rfl) ?_
    refine lv_iload zx zb dX10_nextLook_16 (lv_at hl 7 rfl) ?_
    refine k_cutW (PP := fun Wx => ∀ (H : Heap) (locs : List Loc) (ls : Array Slot), wd X (va_A (xW h0 nw sp xa la lb ++ [((xa 10), .inr (7, [.ref hc, .int tm])), (hc, .inl (X.2.1, 16, .inl tf))] ++ rnW hr vr) sz) (va_A (xW h0 nw sp xa la lb ++ [((xa 10), .inr (7, [.ref hc, .int tm])), (hc, .inl (X.2.1, 16, .inl tf))] ++ rnW hr vr) sz) s (xW h0 nw sp xa la lb ++ [((xa 10), .inr (7, [.ref hc, .int m14_1])), (hc, .inl (X.2.1, 16, .inl f14_1))] ++ rnW hr vr) H locs → lv_has ls 9 [(7, .int (nI k14)), (6, .int x14_6), (5, .int x14_5), (0, .ref h0), (1, .ref hr), (2, .int 0), (3, .int x3), (4, .int 200)] → Wx (F0 m 59 ls []) H locs) ?_ ?_
    · intro join_18
      refine lv_icmp_ge (tgt := 59) zx zb dX10_nextLook_18 (by decide) (fun c_2 => ?_) (fun c_2 => ?_)
      · have fc_2 := j_le (a := 200) (b := k14) (by omega) (by omega) c_2
        exact join_18  _ _ _  G hl
      · have fc_2 := j_nle (a := 200) (b := k14) (by omega) (by omega) c_2
        refine lv_iload zx zb dX10_nextLook_21 (lv_at hl 1 rfl) ?_
        refine lv_iconst (v := 1) zx zb dX10_nextLook_23 (by decide) ?_
        refine lv_icmp_le (tgt := 59) zx zb dX10_nextLook_24 (by decide) (fun c_3 => ?_) (fun c_3 => ?_)
        · exact join_18  _ _ _  G hl
        · refine lv_aload_n zx zb dX10_nextLook_27 rfl (lv_at hl 3 rfl) ?_
          refine lv_aload_n zx zb dX10_nextLook_28 rfl (lv_at hl 4 rfl) ?_
          refine lv_iload_n zx zb dX10_nextLook_29 rfl (lv_at hl 5 rfl) ?_
          refine lv_iload_n zx zb dX10_nextLook_30 rfl (lv_at hl 6 rfl) ?_
          refine lv_iload zx zb dX10_nextLook_31 (lv_at hl 0 rfl) ?_
          refine b_wi (cells' := 0) (slots' := 0) (wr := []) G rfl rfl [0, 1, 2, 3] [] rfl rfl rfl rfl (n_V (As := [.ref hr, .int 0, .int x3, .int (nI k14)]) (rest := []) (C := RX10) (T := TX10) (N := 14) (ci := 8) S G (s_mostAlike0 l X h0 nw sp xa la lb hc m14_1 f14_1 hr vr x3 (nI k14) H.size) gX10_nextLook_X10_mostAlike rfl rfl rfl hdV_X10_mostAlike ⟨Nat.le_of_ble_eq_true rfl, Nat.le_of_ble_eq_true rfl⟩ [0, 1, 2, 3] rfl rfl 0 rfl rfl rfl hl.1 (Nat.le_of_ble_eq_true rfl) dX10_nextLook_33 ⟨Nat.le_of_ble_eq_true rfl, Nat.le_of_ble_eq_true rfl⟩) (fun r_4 u_4 H locs hp_4 G => ?_)
          obtain ⟨m_4a, f_4b⟩ := u_4
          have hq_4 := hp_4
          have G : wd X (va_A (xW h0 nw sp xa la lb ++ [((xa 10), .inr (7, [.ref hc, .int tm])), (hc, .inl (X.2.1, 16, .inl tf))] ++ rnW hr vr) sz) (va_A (xW h0 nw sp xa la lb ++ [((xa 10), .inr (7, [.ref hc, .int tm])), (hc, .inl (X.2.1, 16, .inl tf))] ++ rnW hr vr) sz) s (xW h0 nw sp xa la lb ++ [((xa 10), .inr (7, [.ref hc, .int m_4a])), (hc, .inl (X.2.1, 16, .inl f_4b))] ++ rnW hr vr) H locs := G
          refine lv_istore (lv' := [(8, .int r_4), (7, .int (nI k14)), (6, .int x14_6), (5, .int x14_5), (0, .ref h0), (1, .ref hr), (2, .int 0), (3, .int x3), (4, .int 200)]) zx zb dX10_nextLook_36 hl (by decide) rfl (fun ls hl => ?_)
          refine lv_iload zx zb dX10_nextLook_38 (lv_at hl 0 rfl) ?_
          refine lv_iload zx zb dX10_nextLook_40 (lv_at hl 2 rfl) ?_
          refine k_cutW (PP := fun Wx => ∀ (x_6 : Int32) (x_7 : Int32) (H : Heap) (locs : List Loc) (ls : Array Slot), wd X (va_A (xW h0 nw sp xa la lb ++ [((xa 10), .inr (7, [.ref hc, .int tm])), (hc, .inl (X.2.1, 16, .inl tf))] ++ rnW hr vr) sz) (va_A (xW h0 nw sp xa la lb ++ [((xa 10), .inr (7, [.ref hc, .int tm])), (hc, .inl (X.2.1, 16, .inl tf))] ++ rnW hr vr) sz) s (xW h0 nw sp xa la lb ++ [((xa 10), .inr (7, [.ref hc, .int m_4a])), (hc, .inl (X.2.1, 16, .inl f_4b))] ++ rnW hr vr) H locs → lv_has ls 9 [(8, .int r_4), (7, .int (nI k14)), (6, .int x_6), (5, .int x_7), (0, .ref h0), (1, .ref hr), (2, .int 0), (3, .int x3), (4, .int 200)] → Wx (F0 m 53 ls []) H locs) ?_ ?_
          · intro join_42
            refine lv_icmp_ge (tgt := 53) zx zb dX10_nextLook_42 (by decide) (fun c_5 => ?_) (fun c_5 => ?_)
            · exact join_42 x14_6 x14_5 _ _ _  G hl
            · refine lv_iload zx zb dX10_nextLook_45 (lv_at hl 0 rfl) ?_
              refine lv_istore (lv' := [(6, .int r_4), (8, .int r_4), (7, .int (nI k14)), (5, .int x14_5), (0, .ref h0), (1, .ref hr), (2, .int 0), (3, .int x3), (4, .int 200)]) zx zb dX10_nextLook_47 hl (by decide) rfl (fun ls hl => ?_)
              refine lv_iload zx zb dX10_nextLook_49 (lv_at hl 2 rfl) ?_
              refine lv_istore (lv' := [(5, .int (nI k14)), (6, .int r_4), (8, .int r_4), (7, .int (nI k14)), (0, .ref h0), (1, .ref hr), (2, .int 0), (3, .int x3), (4, .int 200)]) zx zb dX10_nextLook_51 hl (by decide) rfl (fun ls hl => ?_)
              have hl := lv_sub hl (l' := [(8, .int r_4), (7, .int (nI k14)), (6, .int r_4), (5, .int (nI k14)), (0, .ref h0), (1, .ref hr), (2, .int 0), (3, .int x3), (4, .int 200)]) [2, 3, 1, 0, 4, 5, 6, 7, 8] rfl
              exact join_42 r_4 (nI k14) _ _ _  G hl
          · intro x_6 x_7 H locs ls  G hl
            refine lv_iinc (v := (nI (k14 + 1))) (lv' := [(7, .int (nI (k14 + 1))), (8, .int r_4), (6, .int x_6), (5, .int x_7), (0, .ref h0), (1, .ref hr), (2, .int 0), (3, .int x3), (4, .int 200)]) zx zb dX10_nextLook_53 hl (k := 1) rfl (nI_add k14 1) (by decide) rfl (fun ls hl => ?_)
            refine lv_goto (tgt := 14) zx zb dX10_nextLook_56 (by decide) ?_
            have hl := lv_sub hl (l' := [(7, .int (nI (k14 + 1))), (6, .int x_6), (5, .int x_7), (0, .ref h0), (1, .ref hr), (2, .int 0), (3, .int x3), (4, .int 200)]) [0, 2, 3, 4, 5, 6, 7, 8] rfl
            exact ih14 (k14 + 1) x_6 x_7 m_4a f_4b _ _ _ (by omega) (by omega) G hl
    · intro  H locs ls  G hl
      refine lv_iload zx zb dX10_nextLook_59 (lv_at hl 2 rfl) ?_
      exact e_int S zr zlk (vp_nar_int _) G (m14_1, f14_1) [0, 1, 2, 3] rfl rfl (Or.inr rfl) (trivial) dX10_nextLook_61
set_option maxHeartbeats 4000000 in
set_option maxRecDepth 100000 in
/-- mostAlike -/
theorem s_mostAlike1 (l : Launch) (X : EX) (h0 : Nat) (nw : Nat) (sp : Nat) (xa : Nat → Nat) (la : Int64) (lb : Int64) (hc : Nat) (tm : Int32) (tf : Nat → Int32) (hr : Nat) (vr : Nat → Int32) (x3 : Int32) (x4 : Int32) (sz : Nat) : Met l yX10_mostAlike wsX10_mostAlike ({ frames := 2, cells := 0, slots := 0, locals := 49 } : Room) (pE X [.ref h0, .ref hr, .int 1, .int x3, .int x4] (xW h0 nw sp xa la lb ++ [((xa 10), .inr (7, [.ref hc, .int tm])), (hc, .inl (X.2.1, 16, .inl tf))] ++ rnW hr vr) sz) (qI (fun (r : Int32) (u : (Int32) × (Nat → Int32)) => (True)) X (fun (u : (Int32) × (Nat → Int32)) => xW h0 nw sp xa la lb ++ [((xa 10), .inr (7, [.ref hc, .int u.1])), (hc, .inl (X.2.1, 16, .inl u.2))] ++ rnW hr vr) (xW h0 nw sp xa la lb ++ [((xa 10), .inr (7, [.ref hc, .int tm])), (hc, .inl (X.2.1, 16, .inl tf))] ++ rnW hr vr) sz) 0 0 (va_A (xW h0 nw sp xa la lb ++ [((xa 10), .inr (7, [.ref hc, .int tm])), (hc, .inl (X.2.1, 16, .inl tf))] ++ rnW hr vr) sz) := by
  refine mk_met (B := (va_A (xW h0 nw sp xa la lb ++ [((xa 10), .inr (7, [.ref hc, .int tm])), (hc, .inl (X.2.1, 16, .inl tf))] ++ rnW hr vr) sz)) (A := (va_A (xW h0 nw sp xa la lb ++ [((xa 10), .inr (7, [.ref hc, .int tm])), (hc, .inl (X.2.1, 16, .inl tf))] ++ rnW hr vr) sz)) (cc := cX10_mostAlike) (maxL := 6) (ret := (some .int)) (by decide) rfl (Nat.le_of_ble_eq_true rfl) k_w k_a (fun p e s m below meth c S zr zlk znm zsz G ls hl => ?_)
  have S : CallFix p m c cX10_mostAlike 6 s _ wsX10_mostAlike RX10 := S
  have zx := S.1
  have zb := S.2.1
  have hl : lv_has ls 6 [(0, .ref h0), (1, .ref hr), (2, .int 1), (3, .int x3), (4, .int x4)] := hl
  refine lv_aload_n zx zb dX10_mostAlike_0 rfl (lv_at hl 0 rfl) ?_
  refine r_get (C := RX10) (T := TX10) (N := 14) (ci := 8) (v := .ref (xa 10)) S in_X10_mostAlike_X10 G 0 rfl rfl 10 (by decide) lk_X10_mostAlike_58 rfl dX10_mostAlike_1 ?_
  refine b_wv (cells' := 0) (slots' := 0) (wr := xW h0 nw sp xa la lb ++ rnW hr vr) G rfl rfl [1, 2] [0, 3] rfl rfl rfl rfl (n_V (As := []) (rest := []) (C := RX9) (T := TX9) (N := 2) (ci := 7) S G (s_trestart l X (xa 10) hc tm tf s.heap.size) gX10_mostAlike_X9_restart rfl rfl rfl hdV_X9_restart ⟨Nat.le_of_ble_eq_true rfl, Nat.le_of_ble_eq_true rfl⟩ [1, 2] rfl rfl 1 rfl rfl rfl hl.1 (Nat.le_of_ble_eq_true rfl) dX10_mostAlike_4 ⟨Nat.le_of_ble_eq_true rfl, Nat.le_of_ble_eq_true rfl⟩) (fun u_1 H locs hp_1 G => ?_)
  obtain ⟨m_1a, f_1b⟩ := u_1
  have hq_1 := hp_1
  have G : wd X (va_A (xW h0 nw sp xa la lb ++ [((xa 10), .inr (7, [.ref hc, .int tm])), (hc, .inl (X.2.1, 16, .inl tf))] ++ rnW hr vr) sz) (va_A (xW h0 nw sp xa la lb ++ [((xa 10), .inr (7, [.ref hc, .int tm])), (hc, .inl (X.2.1, 16, .inl tf))] ++ rnW hr vr) sz) s (xW h0 nw sp xa la lb ++ rnW hr vr ++ [((xa 10), .inr (7, [.ref hc, .int m_1a])), (hc, .inl (X.2.1, 16, .inl f_1b))]) H locs := G
  refine lv_iconst (v := 0) zx zb dX10_mostAlike_7 (by decide) ?_
  refine lv_istore (lv' := [(5, .int 0), (0, .ref h0), (1, .ref hr), (2, .int 1), (3, .int x3), (4, .int x4)]) zx zb dX10_mostAlike_8 hl (by decide) rfl (fun ls hl => ?_)
  refine k_loop (P := ∀ (zm : Nat) (k10 : Nat) (m10_2 : Int32) (f10_2 : Nat → Int32) (H : Heap) (locs : List Loc) (ls : Array Slot), 10 + 1 ≤ k10 + zm → (k10 ≤ 10) → wd X (va_A (xW h0 nw sp xa la lb ++ [((xa 10), .inr (7, [.ref hc, .int tm])), (hc, .inl (X.2.1, 16, .inl tf))] ++ rnW hr vr) sz) (va_A (xW h0 nw sp xa la lb ++ [((xa 10), .inr (7, [.ref hc, .int tm])), (hc, .inl (X.2.1, 16, .inl tf))] ++ rnW hr vr) sz) s (xW h0 nw sp xa la lb ++ rnW hr vr ++ [((xa 10), .inr (7, [.ref hc, .int m10_2])), (hc, .inl (X.2.1, 16, .inl f10_2))]) H locs → lv_has ls 6 [(5, .int (nI k10)), (0, .ref h0), (1, .ref hr), (2, .int 1), (3, .int x3), (4, .int x4)] → W p l e _ s m _ below meth c H locs _ _ _ (F0 m 10 ls [])) (fun loop => loop (10 + 1) 0 m_1a f_1b _ _ _ (by omega) (by omega) G hl) ?_
  intro zm
  induction zm with
  | zero => intro k10 m10_2 f10_2 H locs ls zz q_hk_k10 _ _; exact absurd zz (by omega)
  | succ zm ih10 =>
    intro k10 m10_2 f10_2 H locs ls zm_10 hk_k10 G hl
    refine lv_iload zx zb dX10_mostAlike_10 (lv_at hl 0 rfl) ?_
    refine lv_bipush (v := 9) zx zb dX10_mostAlike_12 (by decide) ?_
    refine lv_icmp_gt (tgt := 48) zx zb dX10_mostAlike_14 (by decide) (fun c_2 => ?_) (fun c_2 => ?_)
    · have fc_2 := j_lt (a := 9) (b := k10) (by omega) (by omega) c_2
      refine lv_aload_n zx zb dX10_mostAlike_48 rfl (lv_at hl 1 rfl) ?_
      refine r_get (C := RX10) (T := TX10) (N := 14) (ci := 8) (v := .ref (xa 10)) S in_X10_mostAlike_X10 G 0 rfl rfl 10 (by decide) lk_X10_mostAlike_58 rfl dX10_mostAlike_49 ?_
      refine r_get (C := RX9) (T := TX9) (N := 2) (ci := 7) (v := .int m10_2) S in_X10_mostAlike_X9 G 2 rfl rfl 1 (by decide) lk_X10_mostAlike_317 rfl dX10_mostAlike_52 ?_
      exact e_int S zr zlk (vp_nar_int _) G (m10_2, f10_2) [0, 2, 3, 1] rfl rfl (Or.inr rfl) (trivial) dX10_mostAlike_55
    · have fc_2 := j_nlt (a := 9) (b := k10) (by omega) (by omega) c_2
      refine lv_iload_n zx zb dX10_mostAlike_17 rfl (lv_at hl 4 rfl) ?_
      refine lv_iload zx zb dX10_mostAlike_18 (lv_at hl 0 rfl) ?_
      refine o_ri (cells' := 0) (slots' := 0) G rfl rfl (n_S (As := [.int x3, .int (nI k10)]) (rest := []) S G (s_hasBit l X x3 (nI k10) H.size) gX10_mostAlike_X10_hasBit rfl rfl rfl hdS_X10_hasBit ⟨Nat.le_of_ble_eq_true rfl, Nat.le_of_ble_eq_true rfl⟩ [] rfl rfl rfl hl.1 (Nat.le_of_ble_eq_true rfl) dX10_mostAlike_20 ⟨Nat.le_of_ble_eq_true rfl, Nat.le_of_ble_eq_true rfl⟩) (fun r_3 u_3 H locs hp_3 G => ?_)
      have G : wd X (va_A (xW h0 nw sp xa la lb ++ [((xa 10), .inr (7, [.ref hc, .int tm])), (hc, .inl (X.2.1, 16, .inl tf))] ++ rnW hr vr) sz) (va_A (xW h0 nw sp xa la lb ++ [((xa 10), .inr (7, [.ref hc, .int tm])), (hc, .inl (X.2.1, 16, .inl tf))] ++ rnW hr vr) sz) s (xW h0 nw sp xa la lb ++ rnW hr vr ++ [((xa 10), .inr (7, [.ref hc, .int m10_2])), (hc, .inl (X.2.1, 16, .inl f10_2))]) H locs := G
      refine k_cutW (PP := fun Wx => ∀ (m_5 : Int32) (f_6 : Nat → Int32) (H : Heap) (locs : List Loc) (ls : Array Slot), wd X (va_A (xW h0 nw sp xa la lb ++ [((xa 10), .inr (7, [.ref hc, .int tm])), (hc, .inl (X.2.1, 16, .inl tf))] ++ rnW hr vr) sz) (va_A (xW h0 nw sp xa la lb ++ [((xa 10), .inr (7, [.ref hc, .int tm])), (hc, .inl (X.2.1, 16, .inl tf))] ++ rnW hr vr) sz) s (xW h0 nw sp xa la lb ++ rnW hr vr ++ [((xa 10), .inr (7, [.ref hc, .int m_5])), (hc, .inl (X.2.1, 16, .inl f_6))]) H locs → lv_has ls 6 [(5, .int (nI k10)), (0, .ref h0), (1, .ref hr), (2, .int 1), (3, .int x3), (4, .int x4)] → Wx (F0 m 42 ls []) H locs) ?_ ?_
      · intro join_23
        refine lv_if_eq (tgt := 42) zx zb dX10_mostAlike_23 (by decide) (fun c_4 => ?_) (fun c_4 => ?_)
        · exact join_23 m10_2 f10_2 _ _ _  G hl
        · refine lv_aload_n zx zb dX10_mostAlike_26 rfl (lv_at hl 1 rfl) ?_
          refine r_get (C := RX10) (T := TX10) (N := 14) (ci := 8) (v := .ref (xa 10)) S in_X10_mostAlike_X10 G 0 rfl rfl 10 (by decide) lk_X10_mostAlike_58 rfl dX10_mostAlike_27 ?_
          refine lv_aload_n zx zb dX10_mostAlike_30 rfl (lv_at hl 2 rfl) ?_
          refine lv_iload_n zx zb dX10_mostAlike_31 rfl (lv_at hl 3 rfl) ?_
          refine lv_iload zx zb dX10_mostAlike_32 (lv_at hl 0 rfl) ?_
          refine lv_iload zx zb dX10_mostAlike_34 (lv_at hl 5 rfl) ?_
          refine o_ri (cells' := 0) (slots' := 0) G rfl rfl (n_S (As := [.ref hr, .int 1, .int (nI k10), .int x4]) (rest := [.ref (xa 10)]) S G (s_farBy1 l X hr vr (nI k10) x4 H.size) gX10_mostAlike_X10_farBy rfl rfl rfl hdS_X10_farBy ⟨Nat.le_of_ble_eq_true rfl, Nat.le_of_ble_eq_true rfl⟩ [1] rfl rfl rfl hl.1 (Nat.le_of_ble_eq_true rfl) dX10_mostAlike_36 ⟨Nat.le_of_ble_eq_true rfl, Nat.le_of_ble_eq_true rfl⟩) (fun r_7 u_7 H locs hp_7 G => ?_)
          have G : wd X (va_A (xW h0 nw sp xa la lb ++ [((xa 10), .inr (7, [.ref hc, .int tm])), (hc, .inl (X.2.1, 16, .inl tf))] ++ rnW hr vr) sz) (va_A (xW h0 nw sp xa la lb ++ [((xa 10), .inr (7, [.ref hc, .int tm])), (hc, .inl (X.2.1, 16, .inl tf))] ++ rnW hr vr) sz) s (xW h0 nw sp xa la lb ++ rnW hr vr ++ [((xa 10), .inr (7, [.ref hc, .int m10_2])), (hc, .inl (X.2.1, 16, .inl f10_2))]) H locs := G
          refine b_wv (cells' := 0) (slots' := 0) (wr := xW h0 nw sp xa la lb ++ rnW hr vr) G rfl rfl [2, 3] [0, 1] rfl rfl rfl rfl (n_V (As := [.int r_7]) (rest := []) (C := RX9) (T := TX9) (N := 2) (ci := 7) S G (s_see l X (xa 10) hc m10_2 f10_2 r_7 H.size) gX10_mostAlike_X9_see rfl rfl rfl hdV_X9_see ⟨Nat.le_of_ble_eq_true rfl, Nat.le_of_ble_eq_true rfl⟩ [2, 3] rfl rfl 2 rfl rfl rfl hl.1 (Nat.le_of_ble_eq_true rfl) dX10_mostAlike_39 ⟨Nat.le_of_ble_eq_true rfl, Nat.le_of_ble_eq_true rfl⟩) (fun u_8 H locs hp_8 G => ?_)
          obtain ⟨m_8a, f_8b⟩ := u_8
          have hq_8 := hp_8
          have G : wd X (va_A (xW h0 nw sp xa la lb ++ [((xa 10), .inr (7, [.ref hc, .int tm])), (hc, .inl (X.2.1, 16, .inl tf))] ++ rnW hr vr) sz) (va_A (xW h0 nw sp xa la lb ++ [((xa 10), .inr (7, [.ref hc, .int tm])), (hc, .inl (X.2.1, 16, .inl tf))] ++ rnW hr vr) sz) s (xW h0 nw sp xa la lb ++ rnW hr vr ++ [((xa 10), .inr (7, [.ref hc, .int m_8a])), (hc, .inl (X.2.1, 16, .inl f_8b))]) H locs := G
          exact join_23 m_8a f_8b _ _ _  G hl
      · intro m_5 f_6 H locs ls  G hl
        refine lv_iinc (v := (nI (k10 + 1))) (lv' := [(5, .int (nI (k10 + 1))), (0, .ref h0), (1, .ref hr), (2, .int 1), (3, .int x3), (4, .int x4)]) zx zb dX10_mostAlike_42 hl (k := 0) rfl (nI_add k10 1) (by decide) rfl (fun ls hl => ?_)
        refine lv_goto (tgt := 10) zx zb dX10_mostAlike_45 (by decide) ?_
        exact ih10 (k10 + 1) m_5 f_6 _ _ _ (by omega) (by omega) G hl
set_option maxHeartbeats 4000000 in
set_option maxRecDepth 100000 in
/-- nextLook -/
theorem s_nextLook1 (l : Launch) (X : EX) (h0 : Nat) (nw : Nat) (sp : Nat) (xa : Nat → Nat) (la : Int64) (lb : Int64) (hc : Nat) (tm : Int32) (tf : Nat → Int32) (hr : Nat) (vr : Nat → Int32) (x3 : Int32) (sz : Nat) : Met l yX10_nextLook wsX10_nextLook ({ frames := 3, cells := 0, slots := 0, locals := 74 } : Room) (pE X [.ref h0, .ref hr, .int 1, .int x3, .int 200] (xW h0 nw sp xa la lb ++ [((xa 10), .inr (7, [.ref hc, .int tm])), (hc, .inl (X.2.1, 16, .inl tf))] ++ rnW hr vr) sz) (qI (fun (r : Int32) (u : (Int32) × (Nat → Int32)) => (True)) X (fun (u : (Int32) × (Nat → Int32)) => xW h0 nw sp xa la lb ++ [((xa 10), .inr (7, [.ref hc, .int u.1])), (hc, .inl (X.2.1, 16, .inl u.2))] ++ rnW hr vr) (xW h0 nw sp xa la lb ++ [((xa 10), .inr (7, [.ref hc, .int tm])), (hc, .inl (X.2.1, 16, .inl tf))] ++ rnW hr vr) sz) 0 0 (va_A (xW h0 nw sp xa la lb ++ [((xa 10), .inr (7, [.ref hc, .int tm])), (hc, .inl (X.2.1, 16, .inl tf))] ++ rnW hr vr) sz) := by
  refine mk_met (B := (va_A (xW h0 nw sp xa la lb ++ [((xa 10), .inr (7, [.ref hc, .int tm])), (hc, .inl (X.2.1, 16, .inl tf))] ++ rnW hr vr) sz)) (A := (va_A (xW h0 nw sp xa la lb ++ [((xa 10), .inr (7, [.ref hc, .int tm])), (hc, .inl (X.2.1, 16, .inl tf))] ++ rnW hr vr) sz)) (cc := cX10_nextLook) (maxL := 9) (ret := (some .int)) (by decide) rfl (Nat.le_of_ble_eq_true rfl) k_w k_a (fun p e s m below meth c S zr zlk znm zsz G ls hl => ?_)
  have S : CallFix p m c cX10_nextLook 9 s _ wsX10_nextLook RX10 := S
  have zx := S.1
  have zb := S.2.1
  have hl : lv_has ls 9 [(0, .ref h0), (1, .ref hr), (2, .int 1), (3, .int x3), (4, .int 200)] := hl
  refine lv_iconst (v := (-1)) zx zb dX10_nextLook_0 (by decide) ?_
  refine lv_istore (lv' := [(5, .int (-1)), (0, .ref h0), (1, .ref hr), (2, .int 1), (3, .int x3), (4, .int 200)]) zx zb dX10_nextLook_1 hl (by decide) rfl (fun ls hl => ?_)
  refine lv_iload_n zx zb dX10_nextLook_3 rfl (lv_at hl 4 rfl) ?_
  refine o_ri (cells' := 0) (slots' := 0) G rfl rfl (n_S (As := [.int x3]) (rest := []) S G (s_bitCount l X x3 s.heap.size) gX10_nextLook_J6_bitCount_0f7a4 rfl rfl rfl hdS_J6_bitCount_0f7a4 ⟨Nat.le_of_ble_eq_true rfl, Nat.le_of_ble_eq_true rfl⟩ [] rfl rfl rfl hl.1 (Nat.le_of_ble_eq_true rfl) dX10_nextLook_4 ⟨Nat.le_of_ble_eq_true rfl, Nat.le_of_ble_eq_true rfl⟩) (fun r_1 u_1 H locs hp_1 G => ?_)
  have G : wd X (va_A (xW h0 nw sp xa la lb ++ [((xa 10), .inr (7, [.ref hc, .int tm])), (hc, .inl (X.2.1, 16, .inl tf))] ++ rnW hr vr) sz) (va_A (xW h0 nw sp xa la lb ++ [((xa 10), .inr (7, [.ref hc, .int tm])), (hc, .inl (X.2.1, 16, .inl tf))] ++ rnW hr vr) sz) s (xW h0 nw sp xa la lb ++ [((xa 10), .inr (7, [.ref hc, .int tm])), (hc, .inl (X.2.1, 16, .inl tf))] ++ rnW hr vr) H locs := G
  refine lv_iconst (v := 1) zx zb dX10_nextLook_7 (by decide) ?_
  refine r_iadd (v := (r_1 + 1)) S rfl dX10_nextLook_8 ?_
  refine lv_istore (lv' := [(6, .int (r_1 + 1)), (5, .int (-1)), (0, .ref h0), (1, .ref hr), (2, .int 1), (3, .int x3), (4, .int 200)]) zx zb dX10_nextLook_9 hl (by decide) rfl (fun ls hl => ?_)
  refine lv_iconst (v := 0) zx zb dX10_nextLook_11 (by decide) ?_
  refine lv_istore (lv' := [(7, .int 0), (6, .int (r_1 + 1)), (5, .int (-1)), (0, .ref h0), (1, .ref hr), (2, .int 1), (3, .int x3), (4, .int 200)]) zx zb dX10_nextLook_12 hl (by decide) rfl (fun ls hl => ?_)
  refine k_loop (P := ∀ (zm : Nat) (k14 : Nat) (x14_6 : Int32) (x14_5 : Int32) (m14_1 : Int32) (f14_1 : Nat → Int32) (H : Heap) (locs : List Loc) (ls : Array Slot), 200 + 1 ≤ k14 + zm → (k14 ≤ 200) → wd X (va_A (xW h0 nw sp xa la lb ++ [((xa 10), .inr (7, [.ref hc, .int tm])), (hc, .inl (X.2.1, 16, .inl tf))] ++ rnW hr vr) sz) (va_A (xW h0 nw sp xa la lb ++ [((xa 10), .inr (7, [.ref hc, .int tm])), (hc, .inl (X.2.1, 16, .inl tf))] ++ rnW hr vr) sz) s (xW h0 nw sp xa la lb ++ [((xa 10), .inr (7, [.ref hc, .int m14_1])), (hc, .inl (X.2.1, 16, .inl f14_1))] ++ rnW hr vr) H locs → lv_has ls 9 [(7, .int (nI k14)), (6, .int x14_6), (5, .int x14_5), (0, .ref h0), (1, .ref hr), (2, .int 1), (3, .int x3), (4, .int 200)] → W p l e _ s m _ below meth c H locs _ _ _ (F0 m 14 ls [])) (fun loop => loop (200 + 1) 0 (r_1 + 1) (-1) tm tf _ _ _ (by omega) (by omega) G hl) ?_
  intro zm
  induction zm with
  | zero => intro k14 x14_6 x14_5 m14_1 f14_1 H locs ls zz q_hk_k14 _ _; exact absurd zz (by omega)
  | succ zm ih14 =>
    intro k14 x14_6 x14_5 m14_1 f14_1 H locs ls zm_14 hk_k14 G hl
    refine lv_iload zx zb dX10_nextLook_14 (lv_at hl 0 rfl) ?_
    refine lv_iload zx zb dX10_nextLook_16 (lv_at hl 7 rfl) ?_
    refine k_cutW (PP := fun Wx => ∀ (H : Heap) (locs : List Loc) (ls : Array Slot), wd X (va_A (xW h0 nw sp xa la lb ++ [((xa 10), .inr (7, [.ref hc, .int tm])), (hc, .inl (X.2.1, 16, .inl tf))] ++ rnW hr vr) sz) (va_A (xW h0 nw sp xa la lb ++ [((xa 10), .inr (7, [.ref hc, .int tm])), (hc, .inl (X.2.1, 16, .inl tf))] ++ rnW hr vr) sz) s (xW h0 nw sp xa la lb ++ [((xa 10), .inr (7, [.ref hc, .int m14_1])), (hc, .inl (X.2.1, 16, .inl f14_1))] ++ rnW hr vr) H locs → lv_has ls 9 [(7, .int (nI k14)), (6, .int x14_6), (5, .int x14_5), (0, .ref h0), (1, .ref hr), (2, .int 1), (3, .int x3), (4, .int 200)] → Wx (F0 m 59 ls []) H locs) ?_ ?_
    · intro join_18
      refine lv_icmp_ge (tgt := 59) zx zb dX10_nextLook_18 (by decide) (fun c_2 => ?_) (fun c_2 => ?_)
      · have fc_2 := j_le (a := 200) (b := k14) (by omega) (by omega) c_2
        exact join_18  _ _ _  G hl
      · have fc_2 := j_nle (a := 200) (b := k14) (by omega) (by omega) c_2
        refine lv_iload zx zb dX10_nextLook_21 (lv_at hl 1 rfl) ?_
        refine lv_iconst (v := 1) zx zb dX10_nextLook_23 (by decide) ?_
        refine lv_icmp_le (tgt := 59) zx zb dX10_nextLook_24 (by decide) (fun c_3 => ?_) (fun c_3 => ?_)
        · exact join_18  _ _ _  G hl
        · refine lv_aload_n zx zb dX10_nextLook_27 rfl (lv_at hl 3 rfl) ?_
          refine lv_aload_n zx zb dX10_nextLook_28 rfl (lv_at hl 4 rfl) ?_
          refine lv_iload_n zx zb dX10_nextLook_29 rfl (lv_at hl 5 rfl) ?_
          refine lv_iload_n zx zb dX10_nextLook_30 rfl (lv_at hl 6 rfl) ?_
          refine lv_iload zx zb dX10_nextLook_31 (lv_at hl 0 rfl) ?_
          refine b_wi (cells' := 0) (slots' := 0) (wr := []) G rfl rfl [0, 1, 2, 3] [] rfl rfl rfl rfl (n_V (As := [.ref hr, .int 1, .int x3, .int (nI k14)]) (rest := []) (C := RX10) (T := TX10) (N := 14) (ci := 8) S G (s_mostAlike1 l X h0 nw sp xa la lb hc m14_1 f14_1 hr vr x3 (nI k14) H.size) gX10_nextLook_X10_mostAlike rfl rfl rfl hdV_X10_mostAlike ⟨Nat.le_of_ble_eq_true rfl, Nat.le_of_ble_eq_true rfl⟩ [0, 1, 2, 3] rfl rfl 0 rfl rfl rfl hl.1 (Nat.le_of_ble_eq_true rfl) dX10_nextLook_33 ⟨Nat.le_of_ble_eq_true rfl, Nat.le_of_ble_eq_true rfl⟩) (fun r_4 u_4 H locs hp_4 G => ?_)
          obtain ⟨m_4a, f_4b⟩ := u_4
          have hq_4 := hp_4
          have G : wd X (va_A (xW h0 nw sp xa la lb ++ [((xa 10), .inr (7, [.ref hc, .int tm])), (hc, .inl (X.2.1, 16, .inl tf))] ++ rnW hr vr) sz) (va_A (xW h0 nw sp xa la lb ++ [((xa 10), .inr (7, [.ref hc, .int tm])), (hc, .inl (X.2.1, 16, .inl tf))] ++ rnW hr vr) sz) s (xW h0 nw sp xa la lb ++ [((xa 10), .inr (7, [.ref hc, .int m_4a])), (hc, .inl (X.2.1, 16, .inl f_4b))] ++ rnW hr vr) H locs := G
          refine lv_istore (lv' := [(8, .int r_4), (7, .int (nI k14)), (6, .int x14_6), (5, .int x14_5), (0, .ref h0), (1, .ref hr), (2, .int 1), (3, .int x3), (4, .int 200)]) zx zb dX10_nextLook_36 hl (by decide) rfl (fun ls hl => ?_)
          refine lv_iload zx zb dX10_nextLook_38 (lv_at hl 0 rfl) ?_
          refine lv_iload zx zb dX10_nextLook_40 (lv_at hl 2 rfl) ?_
          refine k_cutW (PP := fun Wx => ∀ (x_6 : Int32) (x_7 : Int32) (H : Heap) (locs : List Loc) (ls : Array Slot), wd X (va_A (xW h0 nw sp xa la lb ++ [((xa 10), .inr (7, [.ref hc, .int tm])), (hc, .inl (X.2.1, 16, .inl tf))] ++ rnW hr vr) sz) (va_A (xW h0 nw sp xa la lb ++ [((xa 10), .inr (7, [.ref hc, .int tm])), (hc, .inl (X.2.1, 16, .inl tf))] ++ rnW hr vr) sz) s (xW h0 nw sp xa la lb ++ [((xa 10), .inr (7, [.ref hc, .int m_4a])), (hc, .inl (X.2.1, 16, .inl f_4b))] ++ rnW hr vr) H locs → lv_has ls 9 [(8, .int r_4), (7, .int (nI k14)), (6, .int x_6), (5, .int x_7), (0, .ref h0), (1, .ref hr), (2, .int 1), (3, .int x3), (4, .int 200)] → Wx (F0 m 53 ls []) H locs) ?_ ?_
          · intro join_42
            refine lv_icmp_ge (tgt := 53) zx zb dX10_nextLook_42 (by decide) (fun c_5 => ?_) (fun c_5 => ?_)
            · exact join_42 x14_6 x14_5 _ _ _  G hl
            · refine lv_iload zx zb dX10_nextLook_45 (lv_at hl 0 rfl) ?_
              refine lv_istore (lv' := [(6, .int r_4), (8, .int r_4), (7, .int (nI k14)), (5, .int x14_5), (0, .ref h0), (1, .ref hr), (2, .int 1), (3, .int x3), (4, .int 200)]) zx zb dX10_nextLook_47 hl (by decide) rfl (fun ls hl => ?_)
              refine lv_iload zx zb dX10_nextLook_49 (lv_at hl 2 rfl) ?_
              refine lv_istore (lv' := [(5, .int (nI k14)), (6, .int r_4), (8, .int r_4), (7, .int (nI k14)), (0, .ref h0), (1, .ref hr), (2, .int 1), (3, .int x3), (4, .int 200)]) zx zb dX10_nextLook_51 hl (by decide) rfl (fun ls hl => ?_)
              have hl := lv_sub hl (l' := [(8, .int r_4), (7, .int (nI k14)), (6, .int r_4), (5, .int (nI k14)), (0, .ref h0), (1, .ref hr), (2, .int 1), (3, .int x3), (4, .int 200)]) [2, 3, 1, 0, 4, 5, 6, 7, 8] rfl
              exact join_42 r_4 (nI k14) _ _ _  G hl
          · intro x_6 x_7 H locs ls  G hl
            refine lv_iinc (v := (nI (k14 + 1))) (lv' := [(7, .int (nI (k14 + 1))), (8, .int r_4), (6, .int x_6), (5, .int x_7), (0, .ref h0), (1, .ref hr), (2, .int 1), (3, .int x3), (4, .int 200)]) zx zb dX10_nextLook_53 hl (k := 1) rfl (nI_add k14 1) (by decide) rfl (fun ls hl => ?_)
            refine lv_goto (tgt := 14) zx zb dX10_nextLook_56 (by decide) ?_
            have hl := lv_sub hl (l' := [(7, .int (nI (k14 + 1))), (6, .int x_6), (5, .int x_7), (0, .ref h0), (1, .ref hr), (2, .int 1), (3, .int x3), (4, .int 200)]) [0, 2, 3, 4, 5, 6, 7, 8] rfl
            exact ih14 (k14 + 1) x_6 x_7 m_4a f_4b _ _ _ (by omega) (by omega) G hl
    · intro  H locs ls  G hl
      refine lv_iload zx zb dX10_nextLook_59 (lv_at hl 2 rfl) ?_
      exact e_int S zr zlk (vp_nar_int _) G (m14_1, f14_1) [0, 1, 2, 3] rfl rfl (Or.inr rfl) (trivial) dX10_nextLook_61
set_option maxHeartbeats 4000000 in
set_option maxRecDepth 100000 in
/-- mostAlike -/
theorem s_mostAlike2 (l : Launch) (X : EX) (h0 : Nat) (nw : Nat) (sp : Nat) (xa : Nat → Nat) (la : Int64) (lb : Int64) (hc : Nat) (tm : Int32) (tf : Nat → Int32) (hr : Nat) (vr : Nat → Int32) (x3 : Int32) (x4 : Int32) (sz : Nat) : Met l yX10_mostAlike wsX10_mostAlike ({ frames := 2, cells := 0, slots := 0, locals := 47 } : Room) (pE X [.ref h0, .ref hr, .int 2, .int x3, .int x4] (xW h0 nw sp xa la lb ++ [((xa 10), .inr (7, [.ref hc, .int tm])), (hc, .inl (X.2.1, 16, .inl tf))] ++ rnW hr vr) sz) (qI (fun (r : Int32) (u : (Int32) × (Nat → Int32)) => (True)) X (fun (u : (Int32) × (Nat → Int32)) => xW h0 nw sp xa la lb ++ [((xa 10), .inr (7, [.ref hc, .int u.1])), (hc, .inl (X.2.1, 16, .inl u.2))] ++ rnW hr vr) (xW h0 nw sp xa la lb ++ [((xa 10), .inr (7, [.ref hc, .int tm])), (hc, .inl (X.2.1, 16, .inl tf))] ++ rnW hr vr) sz) 0 0 (va_A (xW h0 nw sp xa la lb ++ [((xa 10), .inr (7, [.ref hc, .int tm])), (hc, .inl (X.2.1, 16, .inl tf))] ++ rnW hr vr) sz) := by
  refine mk_met (B := (va_A (xW h0 nw sp xa la lb ++ [((xa 10), .inr (7, [.ref hc, .int tm])), (hc, .inl (X.2.1, 16, .inl tf))] ++ rnW hr vr) sz)) (A := (va_A (xW h0 nw sp xa la lb ++ [((xa 10), .inr (7, [.ref hc, .int tm])), (hc, .inl (X.2.1, 16, .inl tf))] ++ rnW hr vr) sz)) (cc := cX10_mostAlike) (maxL := 6) (ret := (some .int)) (by decide) rfl (Nat.le_of_ble_eq_true rfl) k_w k_a (fun p e s m below meth c S zr zlk znm zsz G ls hl => ?_)
  have S : CallFix p m c cX10_mostAlike 6 s _ wsX10_mostAlike RX10 := S
  have zx := S.1
  have zb := S.2.1
  have hl : lv_has ls 6 [(0, .ref h0), (1, .ref hr), (2, .int 2), (3, .int x3), (4, .int x4)] := hl
  refine lv_aload_n zx zb dX10_mostAlike_0 rfl (lv_at hl 0 rfl) ?_
  refine r_get (C := RX10) (T := TX10) (N := 14) (ci := 8) (v := .ref (xa 10)) S in_X10_mostAlike_X10 G 0 rfl rfl 10 (by decide) lk_X10_mostAlike_58 rfl dX10_mostAlike_1 ?_
  refine b_wv (cells' := 0) (slots' := 0) (wr := xW h0 nw sp xa la lb ++ rnW hr vr) G rfl rfl [1, 2] [0, 3] rfl rfl rfl rfl (n_V (As := []) (rest := []) (C := RX9) (T := TX9) (N := 2) (ci := 7) S G (s_trestart l X (xa 10) hc tm tf s.heap.size) gX10_mostAlike_X9_restart rfl rfl rfl hdV_X9_restart ⟨Nat.le_of_ble_eq_true rfl, Nat.le_of_ble_eq_true rfl⟩ [1, 2] rfl rfl 1 rfl rfl rfl hl.1 (Nat.le_of_ble_eq_true rfl) dX10_mostAlike_4 ⟨Nat.le_of_ble_eq_true rfl, Nat.le_of_ble_eq_true rfl⟩) (fun u_1 H locs hp_1 G => ?_)
  obtain ⟨m_1a, f_1b⟩ := u_1
  have hq_1 := hp_1
  have G : wd X (va_A (xW h0 nw sp xa la lb ++ [((xa 10), .inr (7, [.ref hc, .int tm])), (hc, .inl (X.2.1, 16, .inl tf))] ++ rnW hr vr) sz) (va_A (xW h0 nw sp xa la lb ++ [((xa 10), .inr (7, [.ref hc, .int tm])), (hc, .inl (X.2.1, 16, .inl tf))] ++ rnW hr vr) sz) s (xW h0 nw sp xa la lb ++ rnW hr vr ++ [((xa 10), .inr (7, [.ref hc, .int m_1a])), (hc, .inl (X.2.1, 16, .inl f_1b))]) H locs := G
  refine lv_iconst (v := 0) zx zb dX10_mostAlike_7 (by decide) ?_
  refine lv_istore (lv' := [(5, .int 0), (0, .ref h0), (1, .ref hr), (2, .int 2), (3, .int x3), (4, .int x4)]) zx zb dX10_mostAlike_8 hl (by decide) rfl (fun ls hl => ?_)
  refine k_loop (P := ∀ (zm : Nat) (k10 : Nat) (m10_2 : Int32) (f10_2 : Nat → Int32) (H : Heap) (locs : List Loc) (ls : Array Slot), 10 + 1 ≤ k10 + zm → (k10 ≤ 10) → wd X (va_A (xW h0 nw sp xa la lb ++ [((xa 10), .inr (7, [.ref hc, .int tm])), (hc, .inl (X.2.1, 16, .inl tf))] ++ rnW hr vr) sz) (va_A (xW h0 nw sp xa la lb ++ [((xa 10), .inr (7, [.ref hc, .int tm])), (hc, .inl (X.2.1, 16, .inl tf))] ++ rnW hr vr) sz) s (xW h0 nw sp xa la lb ++ rnW hr vr ++ [((xa 10), .inr (7, [.ref hc, .int m10_2])), (hc, .inl (X.2.1, 16, .inl f10_2))]) H locs → lv_has ls 6 [(5, .int (nI k10)), (0, .ref h0), (1, .ref hr), (2, .int 2), (3, .int x3), (4, .int x4)] → W p l e _ s m _ below meth c H locs _ _ _ (F0 m 10 ls [])) (fun loop => loop (10 + 1) 0 m_1a f_1b _ _ _ (by omega) (by omega) G hl) ?_
  intro zm
  induction zm with
  | zero => intro k10 m10_2 f10_2 H locs ls zz q_hk_k10 _ _; exact absurd zz (by omega)
  | succ zm ih10 =>
    intro k10 m10_2 f10_2 H locs ls zm_10 hk_k10 G hl
    refine lv_iload zx zb dX10_mostAlike_10 (lv_at hl 0 rfl) ?_
    refine lv_bipush (v := 9) zx zb dX10_mostAlike_12 (by decide) ?_
    refine lv_icmp_gt (tgt := 48) zx zb dX10_mostAlike_14 (by decide) (fun c_2 => ?_) (fun c_2 => ?_)
    · have fc_2 := j_lt (a := 9) (b := k10) (by omega) (by omega) c_2
      refine lv_aload_n zx zb dX10_mostAlike_48 rfl (lv_at hl 1 rfl) ?_
      refine r_get (C := RX10) (T := TX10) (N := 14) (ci := 8) (v := .ref (xa 10)) S in_X10_mostAlike_X10 G 0 rfl rfl 10 (by decide) lk_X10_mostAlike_58 rfl dX10_mostAlike_49 ?_
      refine r_get (C := RX9) (T := TX9) (N := 2) (ci := 7) (v := .int m10_2) S in_X10_mostAlike_X9 G 2 rfl rfl 1 (by decide) lk_X10_mostAlike_317 rfl dX10_mostAlike_52 ?_
      exact e_int S zr zlk (vp_nar_int _) G (m10_2, f10_2) [0, 2, 3, 1] rfl rfl (Or.inr rfl) (trivial) dX10_mostAlike_55
    · have fc_2 := j_nlt (a := 9) (b := k10) (by omega) (by omega) c_2
      refine lv_iload_n zx zb dX10_mostAlike_17 rfl (lv_at hl 4 rfl) ?_
      refine lv_iload zx zb dX10_mostAlike_18 (lv_at hl 0 rfl) ?_
      refine o_ri (cells' := 0) (slots' := 0) G rfl rfl (n_S (As := [.int x3, .int (nI k10)]) (rest := []) S G (s_hasBit l X x3 (nI k10) H.size) gX10_mostAlike_X10_hasBit rfl rfl rfl hdS_X10_hasBit ⟨Nat.le_of_ble_eq_true rfl, Nat.le_of_ble_eq_true rfl⟩ [] rfl rfl rfl hl.1 (Nat.le_of_ble_eq_true rfl) dX10_mostAlike_20 ⟨Nat.le_of_ble_eq_true rfl, Nat.le_of_ble_eq_true rfl⟩) (fun r_3 u_3 H locs hp_3 G => ?_)
      have G : wd X (va_A (xW h0 nw sp xa la lb ++ [((xa 10), .inr (7, [.ref hc, .int tm])), (hc, .inl (X.2.1, 16, .inl tf))] ++ rnW hr vr) sz) (va_A (xW h0 nw sp xa la lb ++ [((xa 10), .inr (7, [.ref hc, .int tm])), (hc, .inl (X.2.1, 16, .inl tf))] ++ rnW hr vr) sz) s (xW h0 nw sp xa la lb ++ rnW hr vr ++ [((xa 10), .inr (7, [.ref hc, .int m10_2])), (hc, .inl (X.2.1, 16, .inl f10_2))]) H locs := G
      refine k_cutW (PP := fun Wx => ∀ (m_5 : Int32) (f_6 : Nat → Int32) (H : Heap) (locs : List Loc) (ls : Array Slot), wd X (va_A (xW h0 nw sp xa la lb ++ [((xa 10), .inr (7, [.ref hc, .int tm])), (hc, .inl (X.2.1, 16, .inl tf))] ++ rnW hr vr) sz) (va_A (xW h0 nw sp xa la lb ++ [((xa 10), .inr (7, [.ref hc, .int tm])), (hc, .inl (X.2.1, 16, .inl tf))] ++ rnW hr vr) sz) s (xW h0 nw sp xa la lb ++ rnW hr vr ++ [((xa 10), .inr (7, [.ref hc, .int m_5])), (hc, .inl (X.2.1, 16, .inl f_6))]) H locs → lv_has ls 6 [(5, .int (nI k10)), (0, .ref h0), (1, .ref hr), (2, .int 2), (3, .int x3), (4, .int x4)] → Wx (F0 m 42 ls []) H locs) ?_ ?_
      · intro join_23
        refine lv_if_eq (tgt := 42) zx zb dX10_mostAlike_23 (by decide) (fun c_4 => ?_) (fun c_4 => ?_)
        · exact join_23 m10_2 f10_2 _ _ _  G hl
        · refine lv_aload_n zx zb dX10_mostAlike_26 rfl (lv_at hl 1 rfl) ?_
          refine r_get (C := RX10) (T := TX10) (N := 14) (ci := 8) (v := .ref (xa 10)) S in_X10_mostAlike_X10 G 0 rfl rfl 10 (by decide) lk_X10_mostAlike_58 rfl dX10_mostAlike_27 ?_
          refine lv_aload_n zx zb dX10_mostAlike_30 rfl (lv_at hl 2 rfl) ?_
          refine lv_iload_n zx zb dX10_mostAlike_31 rfl (lv_at hl 3 rfl) ?_
          refine lv_iload zx zb dX10_mostAlike_32 (lv_at hl 0 rfl) ?_
          refine lv_iload zx zb dX10_mostAlike_34 (lv_at hl 5 rfl) ?_
          refine o_ri (cells' := 0) (slots' := 0) G rfl rfl (n_S (As := [.ref hr, .int 2, .int (nI k10), .int x4]) (rest := [.ref (xa 10)]) S G (s_farBy2 l X hr vr (nI k10) x4 H.size) gX10_mostAlike_X10_farBy rfl rfl rfl hdS_X10_farBy ⟨Nat.le_of_ble_eq_true rfl, Nat.le_of_ble_eq_true rfl⟩ [1] rfl rfl rfl hl.1 (Nat.le_of_ble_eq_true rfl) dX10_mostAlike_36 ⟨Nat.le_of_ble_eq_true rfl, Nat.le_of_ble_eq_true rfl⟩) (fun r_7 u_7 H locs hp_7 G => ?_)
          have G : wd X (va_A (xW h0 nw sp xa la lb ++ [((xa 10), .inr (7, [.ref hc, .int tm])), (hc, .inl (X.2.1, 16, .inl tf))] ++ rnW hr vr) sz) (va_A (xW h0 nw sp xa la lb ++ [((xa 10), .inr (7, [.ref hc, .int tm])), (hc, .inl (X.2.1, 16, .inl tf))] ++ rnW hr vr) sz) s (xW h0 nw sp xa la lb ++ rnW hr vr ++ [((xa 10), .inr (7, [.ref hc, .int m10_2])), (hc, .inl (X.2.1, 16, .inl f10_2))]) H locs := G
          refine b_wv (cells' := 0) (slots' := 0) (wr := xW h0 nw sp xa la lb ++ rnW hr vr) G rfl rfl [2, 3] [0, 1] rfl rfl rfl rfl (n_V (As := [.int r_7]) (rest := []) (C := RX9) (T := TX9) (N := 2) (ci := 7) S G (s_see l X (xa 10) hc m10_2 f10_2 r_7 H.size) gX10_mostAlike_X9_see rfl rfl rfl hdV_X9_see ⟨Nat.le_of_ble_eq_true rfl, Nat.le_of_ble_eq_true rfl⟩ [2, 3] rfl rfl 2 rfl rfl rfl hl.1 (Nat.le_of_ble_eq_true rfl) dX10_mostAlike_39 ⟨Nat.le_of_ble_eq_true rfl, Nat.le_of_ble_eq_true rfl⟩) (fun u_8 H locs hp_8 G => ?_)
          obtain ⟨m_8a, f_8b⟩ := u_8
          have hq_8 := hp_8
          have G : wd X (va_A (xW h0 nw sp xa la lb ++ [((xa 10), .inr (7, [.ref hc, .int tm])), (hc, .inl (X.2.1, 16, .inl tf))] ++ rnW hr vr) sz) (va_A (xW h0 nw sp xa la lb ++ [((xa 10), .inr (7, [.ref hc, .int tm])), (hc, .inl (X.2.1, 16, .inl tf))] ++ rnW hr vr) sz) s (xW h0 nw sp xa la lb ++ rnW hr vr ++ [((xa 10), .inr (7, [.ref hc, .int m_8a])), (hc, .inl (X.2.1, 16, .inl f_8b))]) H locs := G
          exact join_23 m_8a f_8b _ _ _  G hl
      · intro m_5 f_6 H locs ls  G hl
        refine lv_iinc (v := (nI (k10 + 1))) (lv' := [(5, .int (nI (k10 + 1))), (0, .ref h0), (1, .ref hr), (2, .int 2), (3, .int x3), (4, .int x4)]) zx zb dX10_mostAlike_42 hl (k := 0) rfl (nI_add k10 1) (by decide) rfl (fun ls hl => ?_)
        refine lv_goto (tgt := 10) zx zb dX10_mostAlike_45 (by decide) ?_
        exact ih10 (k10 + 1) m_5 f_6 _ _ _ (by omega) (by omega) G hl
set_option maxHeartbeats 4000000 in
set_option maxRecDepth 100000 in
/-- nextLook -/
theorem s_nextLook2 (l : Launch) (X : EX) (h0 : Nat) (nw : Nat) (sp : Nat) (xa : Nat → Nat) (la : Int64) (lb : Int64) (hc : Nat) (tm : Int32) (tf : Nat → Int32) (hr : Nat) (vr : Nat → Int32) (x3 : Int32) (sz : Nat) : Met l yX10_nextLook wsX10_nextLook ({ frames := 3, cells := 0, slots := 0, locals := 72 } : Room) (pE X [.ref h0, .ref hr, .int 2, .int x3, .int 20] (xW h0 nw sp xa la lb ++ [((xa 10), .inr (7, [.ref hc, .int tm])), (hc, .inl (X.2.1, 16, .inl tf))] ++ rnW hr vr) sz) (qI (fun (r : Int32) (u : (Int32) × (Nat → Int32)) => (True)) X (fun (u : (Int32) × (Nat → Int32)) => xW h0 nw sp xa la lb ++ [((xa 10), .inr (7, [.ref hc, .int u.1])), (hc, .inl (X.2.1, 16, .inl u.2))] ++ rnW hr vr) (xW h0 nw sp xa la lb ++ [((xa 10), .inr (7, [.ref hc, .int tm])), (hc, .inl (X.2.1, 16, .inl tf))] ++ rnW hr vr) sz) 0 0 (va_A (xW h0 nw sp xa la lb ++ [((xa 10), .inr (7, [.ref hc, .int tm])), (hc, .inl (X.2.1, 16, .inl tf))] ++ rnW hr vr) sz) := by
  refine mk_met (B := (va_A (xW h0 nw sp xa la lb ++ [((xa 10), .inr (7, [.ref hc, .int tm])), (hc, .inl (X.2.1, 16, .inl tf))] ++ rnW hr vr) sz)) (A := (va_A (xW h0 nw sp xa la lb ++ [((xa 10), .inr (7, [.ref hc, .int tm])), (hc, .inl (X.2.1, 16, .inl tf))] ++ rnW hr vr) sz)) (cc := cX10_nextLook) (maxL := 9) (ret := (some .int)) (by decide) rfl (Nat.le_of_ble_eq_true rfl) k_w k_a (fun p e s m below meth c S zr zlk znm zsz G ls hl => ?_)
  have S : CallFix p m c cX10_nextLook 9 s _ wsX10_nextLook RX10 := S
  have zx := S.1
  have zb := S.2.1
  have hl : lv_has ls 9 [(0, .ref h0), (1, .ref hr), (2, .int 2), (3, .int x3), (4, .int 20)] := hl
  refine lv_iconst (v := (-1)) zx zb dX10_nextLook_0 (by decide) ?_
  refine lv_istore (lv' := [(5, .int (-1)), (0, .ref h0), (1, .ref hr), (2, .int 2), (3, .int x3), (4, .int 20)]) zx zb dX10_nextLook_1 hl (by decide) rfl (fun ls hl => ?_)
  refine lv_iload_n zx zb dX10_nextLook_3 rfl (lv_at hl 4 rfl) ?_
  refine o_ri (cells' := 0) (slots' := 0) G rfl rfl (n_S (As := [.int x3]) (rest := []) S G (s_bitCount l X x3 s.heap.size) gX10_nextLook_J6_bitCount_0f7a4 rfl rfl rfl hdS_J6_bitCount_0f7a4 ⟨Nat.le_of_ble_eq_true rfl, Nat.le_of_ble_eq_true rfl⟩ [] rfl rfl rfl hl.1 (Nat.le_of_ble_eq_true rfl) dX10_nextLook_4 ⟨Nat.le_of_ble_eq_true rfl, Nat.le_of_ble_eq_true rfl⟩) (fun r_1 u_1 H locs hp_1 G => ?_)
  have G : wd X (va_A (xW h0 nw sp xa la lb ++ [((xa 10), .inr (7, [.ref hc, .int tm])), (hc, .inl (X.2.1, 16, .inl tf))] ++ rnW hr vr) sz) (va_A (xW h0 nw sp xa la lb ++ [((xa 10), .inr (7, [.ref hc, .int tm])), (hc, .inl (X.2.1, 16, .inl tf))] ++ rnW hr vr) sz) s (xW h0 nw sp xa la lb ++ [((xa 10), .inr (7, [.ref hc, .int tm])), (hc, .inl (X.2.1, 16, .inl tf))] ++ rnW hr vr) H locs := G
  refine lv_iconst (v := 1) zx zb dX10_nextLook_7 (by decide) ?_
  refine r_iadd (v := (r_1 + 1)) S rfl dX10_nextLook_8 ?_
  refine lv_istore (lv' := [(6, .int (r_1 + 1)), (5, .int (-1)), (0, .ref h0), (1, .ref hr), (2, .int 2), (3, .int x3), (4, .int 20)]) zx zb dX10_nextLook_9 hl (by decide) rfl (fun ls hl => ?_)
  refine lv_iconst (v := 0) zx zb dX10_nextLook_11 (by decide) ?_
  refine lv_istore (lv' := [(7, .int 0), (6, .int (r_1 + 1)), (5, .int (-1)), (0, .ref h0), (1, .ref hr), (2, .int 2), (3, .int x3), (4, .int 20)]) zx zb dX10_nextLook_12 hl (by decide) rfl (fun ls hl => ?_)
  refine k_loop (P := ∀ (zm : Nat) (k14 : Nat) (x14_6 : Int32) (x14_5 : Int32) (m14_1 : Int32) (f14_1 : Nat → Int32) (H : Heap) (locs : List Loc) (ls : Array Slot), 20 + 1 ≤ k14 + zm → (k14 ≤ 20) → wd X (va_A (xW h0 nw sp xa la lb ++ [((xa 10), .inr (7, [.ref hc, .int tm])), (hc, .inl (X.2.1, 16, .inl tf))] ++ rnW hr vr) sz) (va_A (xW h0 nw sp xa la lb ++ [((xa 10), .inr (7, [.ref hc, .int tm])), (hc, .inl (X.2.1, 16, .inl tf))] ++ rnW hr vr) sz) s (xW h0 nw sp xa la lb ++ [((xa 10), .inr (7, [.ref hc, .int m14_1])), (hc, .inl (X.2.1, 16, .inl f14_1))] ++ rnW hr vr) H locs → lv_has ls 9 [(7, .int (nI k14)), (6, .int x14_6), (5, .int x14_5), (0, .ref h0), (1, .ref hr), (2, .int 2), (3, .int x3), (4, .int 20)] → W p l e _ s m _ below meth c H locs _ _ _ (F0 m 14 ls [])) (fun loop => loop (20 + 1) 0 (r_1 + 1) (-1) tm tf _ _ _ (by omega) (by omega) G hl) ?_
  intro zm
  induction zm with
  | zero => intro k14 x14_6 x14_5 m14_1 f14_1 H locs ls zz q_hk_k14 _ _; exact absurd zz (by omega)
  | succ zm ih14 =>
    intro k14 x14_6 x14_5 m14_1 f14_1 H locs ls zm_14 hk_k14 G hl
    refine lv_iload zx zb dX10_nextLook_14 (lv_at hl 0 rfl) ?_
    refine lv_iload zx zb dX10_nextLook_16 (lv_at hl 7 rfl) ?_
    refine k_cutW (PP := fun Wx => ∀ (H : Heap) (locs : List Loc) (ls : Array Slot), wd X (va_A (xW h0 nw sp xa la lb ++ [((xa 10), .inr (7, [.ref hc, .int tm])), (hc, .inl (X.2.1, 16, .inl tf))] ++ rnW hr vr) sz) (va_A (xW h0 nw sp xa la lb ++ [((xa 10), .inr (7, [.ref hc, .int tm])), (hc, .inl (X.2.1, 16, .inl tf))] ++ rnW hr vr) sz) s (xW h0 nw sp xa la lb ++ [((xa 10), .inr (7, [.ref hc, .int m14_1])), (hc, .inl (X.2.1, 16, .inl f14_1))] ++ rnW hr vr) H locs → lv_has ls 9 [(7, .int (nI k14)), (6, .int x14_6), (5, .int x14_5), (0, .ref h0), (1, .ref hr), (2, .int 2), (3, .int x3), (4, .int 20)] → Wx (F0 m 59 ls []) H locs) ?_ ?_
    · intro join_18
      refine lv_icmp_ge (tgt := 59) zx zb dX10_nextLook_18 (by decide) (fun c_2 => ?_) (fun c_2 => ?_)
      · have fc_2 := j_le (a := 20) (b := k14) (by omega) (by omega) c_2
        exact join_18  _ _ _  G hl
      · have fc_2 := j_nle (a := 20) (b := k14) (by omega) (by omega) c_2
        refine lv_iload zx zb dX10_nextLook_21 (lv_at hl 1 rfl) ?_
        refine lv_iconst (v := 1) zx zb dX10_nextLook_23 (by decide) ?_
        refine lv_icmp_le (tgt := 59) zx zb dX10_nextLook_24 (by decide) (fun c_3 => ?_) (fun c_3 => ?_)
        · exact join_18  _ _ _  G hl
        · refine lv_aload_n zx zb dX10_nextLook_27 rfl (lv_at hl 3 rfl) ?_
          refine lv_aload_n zx zb dX10_nextLook_28 rfl (lv_at hl 4 rfl) ?_
          refine lv_iload_n zx zb dX10_nextLook_29 rfl (lv_at hl 5 rfl) ?_
          refine lv_iload_n zx zb dX10_nextLook_30 rfl (lv_at hl 6 rfl) ?_
          refine lv_iload zx zb dX10_nextLook_31 (lv_at hl 0 rfl) ?_
          refine b_wi (cells' := 0) (slots' := 0) (wr := []) G rfl rfl [0, 1, 2, 3] [] rfl rfl rfl rfl (n_V (As := [.ref hr, .int 2, .int x3, .int (nI k14)]) (rest := []) (C := RX10) (T := TX10) (N := 14) (ci := 8) S G (s_mostAlike2 l X h0 nw sp xa la lb hc m14_1 f14_1 hr vr x3 (nI k14) H.size) gX10_nextLook_X10_mostAlike rfl rfl rfl hdV_X10_mostAlike ⟨Nat.le_of_ble_eq_true rfl, Nat.le_of_ble_eq_true rfl⟩ [0, 1, 2, 3] rfl rfl 0 rfl rfl rfl hl.1 (Nat.le_of_ble_eq_true rfl) dX10_nextLook_33 ⟨Nat.le_of_ble_eq_true rfl, Nat.le_of_ble_eq_true rfl⟩) (fun r_4 u_4 H locs hp_4 G => ?_)
          obtain ⟨m_4a, f_4b⟩ := u_4
          have hq_4 := hp_4
          have G : wd X (va_A (xW h0 nw sp xa la lb ++ [((xa 10), .inr (7, [.ref hc, .int tm])), (hc, .inl (X.2.1, 16, .inl tf))] ++ rnW hr vr) sz) (va_A (xW h0 nw sp xa la lb ++ [((xa 10), .inr (7, [.ref hc, .int tm])), (hc, .inl (X.2.1, 16, .inl tf))] ++ rnW hr vr) sz) s (xW h0 nw sp xa la lb ++ [((xa 10), .inr (7, [.ref hc, .int m_4a])), (hc, .inl (X.2.1, 16, .inl f_4b))] ++ rnW hr vr) H locs := G
          refine lv_istore (lv' := [(8, .int r_4), (7, .int (nI k14)), (6, .int x14_6), (5, .int x14_5), (0, .ref h0), (1, .ref hr), (2, .int 2), (3, .int x3), (4, .int 20)]) zx zb dX10_nextLook_36 hl (by decide) rfl (fun ls hl => ?_)
          refine lv_iload zx zb dX10_nextLook_38 (lv_at hl 0 rfl) ?_
          refine lv_iload zx zb dX10_nextLook_40 (lv_at hl 2 rfl) ?_
          refine k_cutW (PP := fun Wx => ∀ (x_6 : Int32) (x_7 : Int32) (H : Heap) (locs : List Loc) (ls : Array Slot), wd X (va_A (xW h0 nw sp xa la lb ++ [((xa 10), .inr (7, [.ref hc, .int tm])), (hc, .inl (X.2.1, 16, .inl tf))] ++ rnW hr vr) sz) (va_A (xW h0 nw sp xa la lb ++ [((xa 10), .inr (7, [.ref hc, .int tm])), (hc, .inl (X.2.1, 16, .inl tf))] ++ rnW hr vr) sz) s (xW h0 nw sp xa la lb ++ [((xa 10), .inr (7, [.ref hc, .int m_4a])), (hc, .inl (X.2.1, 16, .inl f_4b))] ++ rnW hr vr) H locs → lv_has ls 9 [(8, .int r_4), (7, .int (nI k14)), (6, .int x_6), (5, .int x_7), (0, .ref h0), (1, .ref hr), (2, .int 2), (3, .int x3), (4, .int 20)] → Wx (F0 m 53 ls []) H locs) ?_ ?_
          · intro join_42
            refine lv_icmp_ge (tgt := 53) zx zb dX10_nextLook_42 (by decide) (fun c_5 => ?_) (fun c_5 => ?_)
            · exact join_42 x14_6 x14_5 _ _ _  G hl
            · refine lv_iload zx zb dX10_nextLook_45 (lv_at hl 0 rfl) ?_
              refine lv_istore (lv' := [(6, .int r_4), (8, .int r_4), (7, .int (nI k14)), (5, .int x14_5), (0, .ref h0), (1, .ref hr), (2, .int 2), (3, .int x3), (4, .int 20)]) zx zb dX10_nextLook_47 hl (by decide) rfl (fun ls hl => ?_)
              refine lv_iload zx zb dX10_nextLook_49 (lv_at hl 2 rfl) ?_
              refine lv_istore (lv' := [(5, .int (nI k14)), (6, .int r_4), (8, .int r_4), (7, .int (nI k14)), (0, .ref h0), (1, .ref hr), (2, .int 2), (3, .int x3), (4, .int 20)]) zx zb dX10_nextLook_51 hl (by decide) rfl (fun ls hl => ?_)
              have hl := lv_sub hl (l' := [(8, .int r_4), (7, .int (nI k14)), (6, .int r_4), (5, .int (nI k14)), (0, .ref h0), (1, .ref hr), (2, .int 2), (3, .int x3), (4, .int 20)]) [2, 3, 1, 0, 4, 5, 6, 7, 8] rfl
              exact join_42 r_4 (nI k14) _ _ _  G hl
          · intro x_6 x_7 H locs ls  G hl
            refine lv_iinc (v := (nI (k14 + 1))) (lv' := [(7, .int (nI (k14 + 1))), (8, .int r_4), (6, .int x_6), (5, .int x_7), (0, .ref h0), (1, .ref hr), (2, .int 2), (3, .int x3), (4, .int 20)]) zx zb dX10_nextLook_53 hl (k := 1) rfl (nI_add k14 1) (by decide) rfl (fun ls hl => ?_)
            refine lv_goto (tgt := 14) zx zb dX10_nextLook_56 (by decide) ?_
            have hl := lv_sub hl (l' := [(7, .int (nI (k14 + 1))), (6, .int x_6), (5, .int x_7), (0, .ref h0), (1, .ref hr), (2, .int 2), (3, .int x3), (4, .int 20)]) [0, 2, 3, 4, 5, 6, 7, 8] rfl
            exact ih14 (k14 + 1) x_6 x_7 m_4a f_4b _ _ _ (by omega) (by omega) G hl
    · intro  H locs ls  G hl
      refine lv_iload zx zb dX10_nextLook_59 (lv_at hl 2 rfl) ?_
      exact e_int S zr zlk (vp_nar_int _) G (m14_1, f14_1) [0, 1, 2, 3] rfl rfl (Or.inr rfl) (trivial) dX10_nextLook_61
theorem in_X10_tell_X10 : ∀ w ∈ wsX100, w ∈ wsX10_tell := by decide +kernel
theorem lk_X10_tell_10 : Cond.fieldLink RX10 10 "EggSpoons" "now" "LEggSpoons$Race;" ∈ wsX10_tell := by decide +kernel
theorem in_X10_tell_X5 : ∀ w ∈ wsX50, w ∈ wsX10_tell := by decide +kernel
theorem lk_X10_tell_126 : Cond.fieldLink RX10 126 "EggSpoons$Race" "row" "[LEggSpoons$Runner;" ∈ wsX10_tell := by decide +kernel
theorem hdV_X10_nextLook : yX10_nextLook.cls = RX10 ∧ yX10_nextLook.cls ≠ "java/lang/invoke/MethodHandle" ∧ yX10_nextLook.cls ≠ "java/lang/invoke/VarHandle" ∧ (parseMethodDescriptor yX10_nextLook.desc).map (fun d => d.parameters.length) = some 4 := by decide +kernel
set_option maxHeartbeats 4000000 in
set_option maxRecDepth 100000 in
/-- tell -/
theorem s_tell (l : Launch) (X : EX) (h0 : Nat) (nw : Nat) (sp : Nat) (xa : Nat → Nat) (la : Int64) (lb : Int64) (an : Nat → Nat) (v : Nat → Int32) (b : Nat → Nat) (g : Nat → Nat → Int32) (hc : Nat) (tm : Int32) (tf : Nat → Int32) (fr : Nat → Int32) (x1 : Int32) (hI_b : InR b) (sz : Nat) : Met l yX10_tell wsX10_tell ({ frames := 4, cells := 0, slots := 0, locals := 102 } : Room) (pE X [.ref h0, .int x1] (xW h0 nw sp xa la lb ++ rcW X nw an v b g ++ [((xa 10), .inr (7, [.ref hc, .int tm])), (hc, .inl (X.2.1, 16, .inl tf))] ++ [((xa 5), .inl (X.2.1, 3, .inl fr))]) sz) (qI (fun (r : Int32) (u : (Int32) × (Nat → Int32) × (Nat → Int32)) => (True)) X (fun (u : (Int32) × (Nat → Int32) × (Nat → Int32)) => xW h0 nw sp xa la lb ++ rcW X nw an v b g ++ [((xa 10), .inr (7, [.ref hc, .int u.1])), (hc, .inl (X.2.1, 16, .inl u.2.1))] ++ [((xa 5), .inl (X.2.1, 3, .inl u.2.2))]) (xW h0 nw sp xa la lb ++ rcW X nw an v b g ++ [((xa 10), .inr (7, [.ref hc, .int tm])), (hc, .inl (X.2.1, 16, .inl tf))] ++ [((xa 5), .inl (X.2.1, 3, .inl fr))]) sz) 0 0 (va_A (xW h0 nw sp xa la lb ++ rcW X nw an v b g ++ [((xa 10), .inr (7, [.ref hc, .int tm])), (hc, .inl (X.2.1, 16, .inl tf))] ++ [((xa 5), .inl (X.2.1, 3, .inl fr))]) sz) := by
  refine mk_met (B := (va_A (xW h0 nw sp xa la lb ++ rcW X nw an v b g ++ [((xa 10), .inr (7, [.ref hc, .int tm])), (hc, .inl (X.2.1, 16, .inl tf))] ++ [((xa 5), .inl (X.2.1, 3, .inl fr))]) sz)) (A := (va_A (xW h0 nw sp xa la lb ++ rcW X nw an v b g ++ [((xa 10), .inr (7, [.ref hc, .int tm])), (hc, .inl (X.2.1, 16, .inl tf))] ++ [((xa 5), .inl (X.2.1, 3, .inl fr))]) sz)) (cc := cX10_tell) (maxL := 2) (ret := (some .int)) (by decide) rfl (Nat.le_of_ble_eq_true rfl) k_w k_a (fun p e s m below meth c S zr zlk znm zsz G ls hl => ?_)
  have S : CallFix p m c cX10_tell 2 s _ wsX10_tell RX10 := S
  have zx := S.1
  have zb := S.2.1
  have hl : lv_has ls 2 [(0, .ref h0), (1, .int x1)] := hl
  have hO_b := hI_b
  obtain ⟨hb0_b, hb1_b, hb2_b, hb3_b, hb4_b⟩ := hO_b
  refine lv_aload_n zx zb dX10_tell_0 rfl (lv_at hl 0 rfl) ?_
  refine lv_iload_n zx zb dX10_tell_1 rfl (lv_at hl 1 rfl) ?_
  refine o_ri (cells' := 0) (slots' := 0) G rfl rfl (n_V (As := [.int x1]) (rest := []) (C := RX10) (T := TX10) (N := 14) (ci := 8) S G (s_there l X h0 nw sp xa la lb an v b g x1 hI_b s.heap.size) gX10_tell_X10_there rfl rfl rfl hdV_X10_there ⟨Nat.le_of_ble_eq_true rfl, Nat.le_of_ble_eq_true rfl⟩ [0, 1, 2, 3, 4, 5, 6, 7, 8, 9, 10, 11, 12, 13, 14, 15, 16] rfl rfl 0 rfl rfl rfl hl.1 (Nat.le_of_ble_eq_true rfl) dX10_tell_2 ⟨Nat.le_of_ble_eq_true rfl, Nat.le_of_ble_eq_true rfl⟩) (fun r_1 u_1 H locs hp_1 G => ?_)
  have G : wd X (va_A (xW h0 nw sp xa la lb ++ rcW X nw an v b g ++ [((xa 10), .inr (7, [.ref hc, .int tm])), (hc, .inl (X.2.1, 16, .inl tf))] ++ [((xa 5), .inl (X.2.1, 3, .inl fr))]) sz) (va_A (xW h0 nw sp xa la lb ++ rcW X nw an v b g ++ [((xa 10), .inr (7, [.ref hc, .int tm])), (hc, .inl (X.2.1, 16, .inl tf))] ++ [((xa 5), .inl (X.2.1, 3, .inl fr))]) sz) s (xW h0 nw sp xa la lb ++ rcW X nw an v b g ++ [((xa 10), .inr (7, [.ref hc, .int tm])), (hc, .inl (X.2.1, 16, .inl tf))] ++ [((xa 5), .inl (X.2.1, 3, .inl fr))]) H locs := G
  rcases hp_1 with ⟨rfl, hj_1⟩ | rfl
  · obtain ⟨j_1, hj_1, rfl⟩ := hj_1
    refine lv_if_ne (tgt := 15) zx zb dX10_tell_5 (by decide) (fun c_2 => ?_) (fun c_2 => absurd c_2 (by decide))
    refine lv_aload_n zx zb dX10_tell_15 rfl (lv_at hl 0 rfl) ?_
    refine lv_aload_n zx zb dX10_tell_16 rfl (lv_at hl 0 rfl) ?_
    refine r_get (C := RX10) (T := TX10) (N := 14) (ci := 8) (v := .ref nw) S in_X10_tell_X10 G 0 rfl rfl 0 (by decide) lk_X10_tell_10 rfl dX10_tell_17 ?_
    refine r_get (C := RX5) (T := TX5) (N := 8) (ci := 3) (v := .ref (an 0)) S in_X10_tell_X5 G 1 rfl rfl 3 (by decide) lk_X10_tell_126 rfl dX10_tell_20 ?_
    refine lv_iload_n zx zb dX10_tell_23 rfl (lv_at hl 1 rfl) ?_
    rcases k_6c (show j_1 < 6 by omega) with rfl | rfl | rfl | rfl | rfl | rfl
    · refine k_it (v := 0) rfl ?_
      refine r_aald (C := RX8) (b := (an 1)) S G 2 3 rfl rfl (k_vp (by decide)) rfl dX10_tell_24 ?_
      refine lv_iconst (v := 0) zx zb dX10_tell_25 (by decide) ?_
      refine lv_aload_n zx zb dX10_tell_26 rfl (lv_at hl 0 rfl) ?_
      refine r_get (C := RX10) (T := TX10) (N := 14) (ci := 8) (v := .ref nw) S in_X10_tell_X10 G 0 rfl rfl 0 (by decide) lk_X10_tell_10 rfl dX10_tell_27 ?_
      refine lv_iload_n zx zb dX10_tell_30 rfl (lv_at hl 1 rfl) ?_
      refine o_ri (cells' := 0) (slots' := 0) G rfl rfl (n_V (As := [.int 0]) (rest := [.int 0, .ref (an 1), .ref h0]) (C := RX5) (T := TX5) (N := 8) (ci := 3) S G (s_legsThatFit l X nw an v b g 0 hI_b (by omega) H.size) gX10_tell_X5_legsThatFit rfl rfl rfl hdV_X5_legsThatFit ⟨Nat.le_of_ble_eq_true rfl, Nat.le_of_ble_eq_true rfl⟩ [1, 2, 3, 4, 5, 6, 7, 8, 9, 10, 11, 12, 13, 14, 15, 16] rfl rfl 1 rfl rfl rfl hl.1 (Nat.le_of_ble_eq_true rfl) dX10_tell_31 ⟨Nat.le_of_ble_eq_true rfl, Nat.le_of_ble_eq_true rfl⟩) (fun r_3 u_3 H locs hp_3 G => ?_)
      have G : wd X (va_A (xW h0 nw sp xa la lb ++ rcW X nw an v b g ++ [((xa 10), .inr (7, [.ref hc, .int tm])), (hc, .inl (X.2.1, 16, .inl tf))] ++ [((xa 5), .inl (X.2.1, 3, .inl fr))]) sz) (va_A (xW h0 nw sp xa la lb ++ rcW X nw an v b g ++ [((xa 10), .inr (7, [.ref hc, .int tm])), (hc, .inl (X.2.1, 16, .inl tf))] ++ [((xa 5), .inl (X.2.1, 3, .inl fr))]) sz) s (xW h0 nw sp xa la lb ++ rcW X nw an v b g ++ [((xa 10), .inr (7, [.ref hc, .int tm])), (hc, .inl (X.2.1, 16, .inl tf))] ++ [((xa 5), .inl (X.2.1, 3, .inl fr))]) H locs := G
      refine lv_sipush (v := 200) zx zb dX10_tell_34 (by decide) ?_
      refine b_wi (cells' := 0) (slots' := 0) (wr := [(nw, .inr (3, [.int (v 0), .int (v 1), .int (nI (b 0)), .ref (an 0), .ref (an 7), .ref (an 9), .ref (an 11), .ref (an 13)])), ((an 0), .inl (X.2.2.2.2, 6, .inr (.inr (.inr (.inr (rowQ an)))))), ((an 2), .inr (6, [.int (v 18), .int (v 19), .int (v 20), .int (v 21), .int (v 22), .int (v 23), .int (v 24), .int (v 25)])), ((an 3), .inr (6, [.int (v 26), .int (v 27), .int (v 28), .int (v 29), .int (v 30), .int (v 31), .int (v 32), .int (v 33)])), ((an 4), .inr (6, [.int (v 34), .int (v 35), .int (v 36), .int (v 37), .int (v 38), .int (v 39), .int (v 40), .int (v 41)])), ((an 5), .inr (6, [.int (v 42), .int (v 43), .int (v 44), .int (v 45), .int (v 46), .int (v 47), .int (v 48), .int (v 49)])), ((an 6), .inr (6, [.int (v 50), .int (v 51), .int (v 52), .int (v 53), .int (v 54), .int (v 55), .int (v 56), .int (v 57)])), ((an 7), .inr (2, [.ref (an 8), .int (nI (b 1))])), ((an 8), .inl (X.2.1, 248, .inl (g 0))), ((an 9), .inr (5, [.int 5, .int 0, .int 1, .ref (an 10), .int (nI (b 2))])), ((an 10), .inl (X.2.1, 25, .inl (g 1))), ((an 11), .inr (5, [.int 6, .int 1, .int 1, .ref (an 12), .int (nI (b 3))])), ((an 12), .inl (X.2.1, 30, .inl (g 2))), ((an 13), .inr (5, [.int 6, .int 0, .int 0, .ref (an 14), .int (nI (b 4))])), ((an 14), .inl (X.2.1, 30, .inl (g 3)))] ++ [((xa 5), .inl (X.2.1, 3, .inl fr))]) G rfl rfl [0, 17, 18, 3] [1, 2, 4, 5, 6, 7, 8, 9, 10, 11, 12, 13, 14, 15, 16, 19] rfl rfl rfl rfl (n_V (As := [.ref (an 1), .int 0, .int r_3, .int 200]) (rest := []) (C := RX10) (T := TX10) (N := 14) (ci := 8) S G (s_nextLook0 l X h0 nw sp xa la lb hc tm tf (an 1) (fun k => v (10 + k)) r_3 H.size) gX10_tell_X10_nextLook rfl rfl rfl hdV_X10_nextLook ⟨Nat.le_of_ble_eq_true rfl, Nat.le_of_ble_eq_true rfl⟩ [0, 17, 18, 3] rfl rfl 0 rfl rfl rfl hl.1 (Nat.le_of_ble_eq_true rfl) dX10_tell_37 ⟨Nat.le_of_ble_eq_true rfl, Nat.le_of_ble_eq_true rfl⟩) (fun r_4 u_4 H locs hp_4 G => ?_)
      obtain ⟨m_4a, f_4b⟩ := u_4
      have hq_4 := hp_4
      have G : wd X (va_A (xW h0 nw sp xa la lb ++ rcW X nw an v b g ++ [((xa 10), .inr (7, [.ref hc, .int tm])), (hc, .inl (X.2.1, 16, .inl tf))] ++ [((xa 5), .inl (X.2.1, 3, .inl fr))]) sz) (va_A (xW h0 nw sp xa la lb ++ rcW X nw an v b g ++ [((xa 10), .inr (7, [.ref hc, .int tm])), (hc, .inl (X.2.1, 16, .inl tf))] ++ [((xa 5), .inl (X.2.1, 3, .inl fr))]) sz) s (rcW X nw an v b g ++ [((xa 5), .inl (X.2.1, 3, .inl fr))] ++ xW h0 nw sp xa la lb ++ [((xa 10), .inr (7, [.ref hc, .int m_4a])), (hc, .inl (X.2.1, 16, .inl f_4b))]) H locs := wd_sub G [0, 1, 19, 2, 3, 4, 5, 6, 7, 8, 9, 10, 11, 12, 13, 14, 15, 16, 17, 18] rfl rfl
      exact e_int S zr zlk (vp_nar_int _) G (m_4a, f_4b, fr) [17, 0, 1, 2, 3, 4, 5, 6, 7, 8, 9, 10, 11, 12, 13, 14, 15, 18, 19, 16] rfl rfl (Or.inr rfl) (trivial) dX10_tell_40
    · refine k_it (v := 1) rfl ?_
      refine r_aald (C := RX8) (b := (an 2)) S G 2 3 rfl rfl (k_vp (by decide)) rfl dX10_tell_24 ?_
      refine lv_iconst (v := 0) zx zb dX10_tell_25 (by decide) ?_
      refine lv_aload_n zx zb dX10_tell_26 rfl (lv_at hl 0 rfl) ?_
      refine r_get (C := RX10) (T := TX10) (N := 14) (ci := 8) (v := .ref nw) S in_X10_tell_X10 G 0 rfl rfl 0 (by decide) lk_X10_tell_10 rfl dX10_tell_27 ?_
      refine lv_iload_n zx zb dX10_tell_30 rfl (lv_at hl 1 rfl) ?_
      refine o_ri (cells' := 0) (slots' := 0) G rfl rfl (n_V (As := [.int 1]) (rest := [.int 0, .ref (an 2), .ref h0]) (C := RX5) (T := TX5) (N := 8) (ci := 3) S G (s_legsThatFit l X nw an v b g 1 hI_b (by omega) H.size) gX10_tell_X5_legsThatFit rfl rfl rfl hdV_X5_legsThatFit ⟨Nat.le_of_ble_eq_true rfl, Nat.le_of_ble_eq_true rfl⟩ [1, 2, 3, 4, 5, 6, 7, 8, 9, 10, 11, 12, 13, 14, 15, 16] rfl rfl 1 rfl rfl rfl hl.1 (Nat.le_of_ble_eq_true rfl) dX10_tell_31 ⟨Nat.le_of_ble_eq_true rfl, Nat.le_of_ble_eq_true rfl⟩) (fun r_5 u_5 H locs hp_5 G => ?_)
      have G : wd X (va_A (xW h0 nw sp xa la lb ++ rcW X nw an v b g ++ [((xa 10), .inr (7, [.ref hc, .int tm])), (hc, .inl (X.2.1, 16, .inl tf))] ++ [((xa 5), .inl (X.2.1, 3, .inl fr))]) sz) (va_A (xW h0 nw sp xa la lb ++ rcW X nw an v b g ++ [((xa 10), .inr (7, [.ref hc, .int tm])), (hc, .inl (X.2.1, 16, .inl tf))] ++ [((xa 5), .inl (X.2.1, 3, .inl fr))]) sz) s (xW h0 nw sp xa la lb ++ rcW X nw an v b g ++ [((xa 10), .inr (7, [.ref hc, .int tm])), (hc, .inl (X.2.1, 16, .inl tf))] ++ [((xa 5), .inl (X.2.1, 3, .inl fr))]) H locs := G
      refine lv_sipush (v := 200) zx zb dX10_tell_34 (by decide) ?_
      refine b_wi (cells' := 0) (slots' := 0) (wr := [(nw, .inr (3, [.int (v 0), .int (v 1), .int (nI (b 0)), .ref (an 0), .ref (an 7), .ref (an 9), .ref (an 11), .ref (an 13)])), ((an 0), .inl (X.2.2.2.2, 6, .inr (.inr (.inr (.inr (rowQ an)))))), ((an 1), .inr (6, [.int (v 10), .int (v 11), .int (v 12), .int (v 13), .int (v 14), .int (v 15), .int (v 16), .int (v 17)])), ((an 3), .inr (6, [.int (v 26), .int (v 27), .int (v 28), .int (v 29), .int (v 30), .int (v 31), .int (v 32), .int (v 33)])), ((an 4), .inr (6, [.int (v 34), .int (v 35), .int (v 36), .int (v 37), .int (v 38), .int (v 39), .int (v 40), .int (v 41)])), ((an 5), .inr (6, [.int (v 42), .int (v 43), .int (v 44), .int (v 45), .int (v 46), .int (v 47), .int (v 48), .int (v 49)])), ((an 6), .inr (6, [.int (v 50), .int (v 51), .int (v 52), .int (v 53), .int (v 54), .int (v 55), .int (v 56), .int (v 57)])), ((an 7), .inr (2, [.ref (an 8), .int (nI (b 1))])), ((an 8), .inl (X.2.1, 248, .inl (g 0))), ((an 9), .inr (5, [.int 5, .int 0, .int 1, .ref (an 10), .int (nI (b 2))])), ((an 10), .inl (X.2.1, 25, .inl (g 1))), ((an 11), .inr (5, [.int 6, .int 1, .int 1, .ref (an 12), .int (nI (b 3))])), ((an 12), .inl (X.2.1, 30, .inl (g 2))), ((an 13), .inr (5, [.int 6, .int 0, .int 0, .ref (an 14), .int (nI (b 4))])), ((an 14), .inl (X.2.1, 30, .inl (g 3)))] ++ [((xa 5), .inl (X.2.1, 3, .inl fr))]) G rfl rfl [0, 17, 18, 4] [1, 2, 3, 5, 6, 7, 8, 9, 10, 11, 12, 13, 14, 15, 16, 19] rfl rfl rfl rfl (n_V (As := [.ref (an 2), .int 0, .int r_5, .int 200]) (rest := []) (C := RX10) (T := TX10) (N := 14) (ci := 8) S G (s_nextLook0 l X h0 nw sp xa la lb hc tm tf (an 2) (fun k => v (18 + k)) r_5 H.size) gX10_tell_X10_nextLook rfl rfl rfl hdV_X10_nextLook ⟨Nat.le_of_ble_eq_true rfl, Nat.le_of_ble_eq_true rfl⟩ [0, 17, 18, 4] rfl rfl 0 rfl rfl rfl hl.1 (Nat.le_of_ble_eq_true rfl) dX10_tell_37 ⟨Nat.le_of_ble_eq_true rfl, Nat.le_of_ble_eq_true rfl⟩) (fun r_6 u_6 H locs hp_6 G => ?_)
      obtain ⟨m_6a, f_6b⟩ := u_6
      have hq_6 := hp_6
      have G : wd X (va_A (xW h0 nw sp xa la lb ++ rcW X nw an v b g ++ [((xa 10), .inr (7, [.ref hc, .int tm])), (hc, .inl (X.2.1, 16, .inl tf))] ++ [((xa 5), .inl (X.2.1, 3, .inl fr))]) sz) (va_A (xW h0 nw sp xa la lb ++ rcW X nw an v b g ++ [((xa 10), .inr (7, [.ref hc, .int tm])), (hc, .inl (X.2.1, 16, .inl tf))] ++ [((xa 5), .inl (X.2.1, 3, .inl fr))]) sz) s (rcW X nw an v b g ++ [((xa 5), .inl (X.2.1, 3, .inl fr))] ++ xW h0 nw sp xa la lb ++ [((xa 10), .inr (7, [.ref hc, .int m_6a])), (hc, .inl (X.2.1, 16, .inl f_6b))]) H locs := wd_sub G [0, 1, 2, 19, 3, 4, 5, 6, 7, 8, 9, 10, 11, 12, 13, 14, 15, 16, 17, 18] rfl rfl
      exact e_int S zr zlk (vp_nar_int _) G (m_6a, f_6b, fr) [17, 0, 1, 2, 3, 4, 5, 6, 7, 8, 9, 10, 11, 12, 13, 14, 15, 18, 19, 16] rfl rfl (Or.inr rfl) (trivial) dX10_tell_40
    · refine k_it (v := 2) rfl ?_
      refine r_aald (C := RX8) (b := (an 3)) S G 2 3 rfl rfl (k_vp (by decide)) rfl dX10_tell_24 ?_
      refine lv_iconst (v := 0) zx zb dX10_tell_25 (by decide) ?_
      refine lv_aload_n zx zb dX10_tell_26 rfl (lv_at hl 0 rfl) ?_
      refine r_get (C := RX10) (T := TX10) (N := 14) (ci := 8) (v := .ref nw) S in_X10_tell_X10 G 0 rfl rfl 0 (by decide) lk_X10_tell_10 rfl dX10_tell_27 ?_
      refine lv_iload_n zx zb dX10_tell_30 rfl (lv_at hl 1 rfl) ?_
      refine o_ri (cells' := 0) (slots' := 0) G rfl rfl (n_V (As := [.int 2]) (rest := [.int 0, .ref (an 3), .ref h0]) (C := RX5) (T := TX5) (N := 8) (ci := 3) S G (s_legsThatFit l X nw an v b g 2 hI_b (by omega) H.size) gX10_tell_X5_legsThatFit rfl rfl rfl hdV_X5_legsThatFit ⟨Nat.le_of_ble_eq_true rfl, Nat.le_of_ble_eq_true rfl⟩ [1, 2, 3, 4, 5, 6, 7, 8, 9, 10, 11, 12, 13, 14, 15, 16] rfl rfl 1 rfl rfl rfl hl.1 (Nat.le_of_ble_eq_true rfl) dX10_tell_31 ⟨Nat.le_of_ble_eq_true rfl, Nat.le_of_ble_eq_true rfl⟩) (fun r_7 u_7 H locs hp_7 G => ?_)
      have G : wd X (va_A (xW h0 nw sp xa la lb ++ rcW X nw an v b g ++ [((xa 10), .inr (7, [.ref hc, .int tm])), (hc, .inl (X.2.1, 16, .inl tf))] ++ [((xa 5), .inl (X.2.1, 3, .inl fr))]) sz) (va_A (xW h0 nw sp xa la lb ++ rcW X nw an v b g ++ [((xa 10), .inr (7, [.ref hc, .int tm])), (hc, .inl (X.2.1, 16, .inl tf))] ++ [((xa 5), .inl (X.2.1, 3, .inl fr))]) sz) s (xW h0 nw sp xa la lb ++ rcW X nw an v b g ++ [((xa 10), .inr (7, [.ref hc, .int tm])), (hc, .inl (X.2.1, 16, .inl tf))] ++ [((xa 5), .inl (X.2.1, 3, .inl fr))]) H locs := G
      refine lv_sipush (v := 200) zx zb dX10_tell_34 (by decide) ?_
      refine b_wi (cells' := 0) (slots' := 0) (wr := [(nw, .inr (3, [.int (v 0), .int (v 1), .int (nI (b 0)), .ref (an 0), .ref (an 7), .ref (an 9), .ref (an 11), .ref (an 13)])), ((an 0), .inl (X.2.2.2.2, 6, .inr (.inr (.inr (.inr (rowQ an)))))), ((an 1), .inr (6, [.int (v 10), .int (v 11), .int (v 12), .int (v 13), .int (v 14), .int (v 15), .int (v 16), .int (v 17)])), ((an 2), .inr (6, [.int (v 18), .int (v 19), .int (v 20), .int (v 21), .int (v 22), .int (v 23), .int (v 24), .int (v 25)])), ((an 4), .inr (6, [.int (v 34), .int (v 35), .int (v 36), .int (v 37), .int (v 38), .int (v 39), .int (v 40), .int (v 41)])), ((an 5), .inr (6, [.int (v 42), .int (v 43), .int (v 44), .int (v 45), .int (v 46), .int (v 47), .int (v 48), .int (v 49)])), ((an 6), .inr (6, [.int (v 50), .int (v 51), .int (v 52), .int (v 53), .int (v 54), .int (v 55), .int (v 56), .int (v 57)])), ((an 7), .inr (2, [.ref (an 8), .int (nI (b 1))])), ((an 8), .inl (X.2.1, 248, .inl (g 0))), ((an 9), .inr (5, [.int 5, .int 0, .int 1, .ref (an 10), .int (nI (b 2))])), ((an 10), .inl (X.2.1, 25, .inl (g 1))), ((an 11), .inr (5, [.int 6, .int 1, .int 1, .ref (an 12), .int (nI (b 3))])), ((an 12), .inl (X.2.1, 30, .inl (g 2))), ((an 13), .inr (5, [.int 6, .int 0, .int 0, .ref (an 14), .int (nI (b 4))])), ((an 14), .inl (X.2.1, 30, .inl (g 3)))] ++ [((xa 5), .inl (X.2.1, 3, .inl fr))]) G rfl rfl [0, 17, 18, 5] [1, 2, 3, 4, 6, 7, 8, 9, 10, 11, 12, 13, 14, 15, 16, 19] rfl rfl rfl rfl (n_V (As := [.ref (an 3), .int 0, .int r_7, .int 200]) (rest := []) (C := RX10) (T := TX10) (N := 14) (ci := 8) S G (s_nextLook0 l X h0 nw sp xa la lb hc tm tf (an 3) (fun k => v (26 + k)) r_7 H.size) gX10_tell_X10_nextLook rfl rfl rfl hdV_X10_nextLook ⟨Nat.le_of_ble_eq_true rfl, Nat.le_of_ble_eq_true rfl⟩ [0, 17, 18, 5] rfl rfl 0 rfl rfl rfl hl.1 (Nat.le_of_ble_eq_true rfl) dX10_tell_37 ⟨Nat.le_of_ble_eq_true rfl, Nat.le_of_ble_eq_true rfl⟩) (fun r_8 u_8 H locs hp_8 G => ?_)
      obtain ⟨m_8a, f_8b⟩ := u_8
      have hq_8 := hp_8
      have G : wd X (va_A (xW h0 nw sp xa la lb ++ rcW X nw an v b g ++ [((xa 10), .inr (7, [.ref hc, .int tm])), (hc, .inl (X.2.1, 16, .inl tf))] ++ [((xa 5), .inl (X.2.1, 3, .inl fr))]) sz) (va_A (xW h0 nw sp xa la lb ++ rcW X nw an v b g ++ [((xa 10), .inr (7, [.ref hc, .int tm])), (hc, .inl (X.2.1, 16, .inl tf))] ++ [((xa 5), .inl (X.2.1, 3, .inl fr))]) sz) s (rcW X nw an v b g ++ [((xa 5), .inl (X.2.1, 3, .inl fr))] ++ xW h0 nw sp xa la lb ++ [((xa 10), .inr (7, [.ref hc, .int m_8a])), (hc, .inl (X.2.1, 16, .inl f_8b))]) H locs := wd_sub G [0, 1, 2, 3, 19, 4, 5, 6, 7, 8, 9, 10, 11, 12, 13, 14, 15, 16, 17, 18] rfl rfl
      exact e_int S zr zlk (vp_nar_int _) G (m_8a, f_8b, fr) [17, 0, 1, 2, 3, 4, 5, 6, 7, 8, 9, 10, 11, 12, 13, 14, 15, 18, 19, 16] rfl rfl (Or.inr rfl) (trivial) dX10_tell_40
    · refine k_it (v := 3) rfl ?_
      refine r_aald (C := RX8) (b := (an 4)) S G 2 3 rfl rfl (k_vp (by decide)) rfl dX10_tell_24 ?_
      refine lv_iconst (v := 0) zx zb dX10_tell_25 (by decide) ?_
      refine lv_aload_n zx zb dX10_tell_26 rfl (lv_at hl 0 rfl) ?_
      refine r_get (C := RX10) (T := TX10) (N := 14) (ci := 8) (v := .ref nw) S in_X10_tell_X10 G 0 rfl rfl 0 (by decide) lk_X10_tell_10 rfl dX10_tell_27 ?_
      refine lv_iload_n zx zb dX10_tell_30 rfl (lv_at hl 1 rfl) ?_
      refine o_ri (cells' := 0) (slots' := 0) G rfl rfl (n_V (As := [.int 3]) (rest := [.int 0, .ref (an 4), .ref h0]) (C := RX5) (T := TX5) (N := 8) (ci := 3) S G (s_legsThatFit l X nw an v b g 3 hI_b (by omega) H.size) gX10_tell_X5_legsThatFit rfl rfl rfl hdV_X5_legsThatFit ⟨Nat.le_of_ble_eq_true rfl, Nat.le_of_ble_eq_true rfl⟩ [1, 2, 3, 4, 5, 6, 7, 8, 9, 10, 11, 12, 13, 14, 15, 16] rfl rfl 1 rfl rfl rfl hl.1 (Nat.le_of_ble_eq_true rfl) dX10_tell_31 ⟨Nat.le_of_ble_eq_true rfl, Nat.le_of_ble_eq_true rfl⟩) (fun r_9 u_9 H locs hp_9 G => ?_)
      have G : wd X (va_A (xW h0 nw sp xa la lb ++ rcW X nw an v b g ++ [((xa 10), .inr (7, [.ref hc, .int tm])), (hc, .inl (X.2.1, 16, .inl tf))] ++ [((xa 5), .inl (X.2.1, 3, .inl fr))]) sz) (va_A (xW h0 nw sp xa la lb ++ rcW X nw an v b g ++ [((xa 10), .inr (7, [.ref hc, .int tm])), (hc, .inl (X.2.1, 16, .inl tf))] ++ [((xa 5), .inl (X.2.1, 3, .inl fr))]) sz) s (xW h0 nw sp xa la lb ++ rcW X nw an v b g ++ [((xa 10), .inr (7, [.ref hc, .int tm])), (hc, .inl (X.2.1, 16, .inl tf))] ++ [((xa 5), .inl (X.2.1, 3, .inl fr))]) H locs := G
      refine lv_sipush (v := 200) zx zb dX10_tell_34 (by decide) ?_
      refine b_wi (cells' := 0) (slots' := 0) (wr := [(nw, .inr (3, [.int (v 0), .int (v 1), .int (nI (b 0)), .ref (an 0), .ref (an 7), .ref (an 9), .ref (an 11), .ref (an 13)])), ((an 0), .inl (X.2.2.2.2, 6, .inr (.inr (.inr (.inr (rowQ an)))))), ((an 1), .inr (6, [.int (v 10), .int (v 11), .int (v 12), .int (v 13), .int (v 14), .int (v 15), .int (v 16), .int (v 17)])), ((an 2), .inr (6, [.int (v 18), .int (v 19), .int (v 20), .int (v 21), .int (v 22), .int (v 23), .int (v 24), .int (v 25)])), ((an 3), .inr (6, [.int (v 26), .int (v 27), .int (v 28), .int (v 29), .int (v 30), .int (v 31), .int (v 32), .int (v 33)])), ((an 5), .inr (6, [.int (v 42), .int (v 43), .int (v 44), .int (v 45), .int (v 46), .int (v 47), .int (v 48), .int (v 49)])), ((an 6), .inr (6, [.int (v 50), .int (v 51), .int (v 52), .int (v 53), .int (v 54), .int (v 55), .int (v 56), .int (v 57)])), ((an 7), .inr (2, [.ref (an 8), .int (nI (b 1))])), ((an 8), .inl (X.2.1, 248, .inl (g 0))), ((an 9), .inr (5, [.int 5, .int 0, .int 1, .ref (an 10), .int (nI (b 2))])), ((an 10), .inl (X.2.1, 25, .inl (g 1))), ((an 11), .inr (5, [.int 6, .int 1, .int 1, .ref (an 12), .int (nI (b 3))])), ((an 12), .inl (X.2.1, 30, .inl (g 2))), ((an 13), .inr (5, [.int 6, .int 0, .int 0, .ref (an 14), .int (nI (b 4))])), ((an 14), .inl (X.2.1, 30, .inl (g 3)))] ++ [((xa 5), .inl (X.2.1, 3, .inl fr))]) G rfl rfl [0, 17, 18, 6] [1, 2, 3, 4, 5, 7, 8, 9, 10, 11, 12, 13, 14, 15, 16, 19] rfl rfl rfl rfl (n_V (As := [.ref (an 4), .int 0, .int r_9, .int 200]) (rest := []) (C := RX10) (T := TX10) (N := 14) (ci := 8) S G (s_nextLook0 l X h0 nw sp xa la lb hc tm tf (an 4) (fun k => v (34 + k)) r_9 H.size) gX10_tell_X10_nextLook rfl rfl rfl hdV_X10_nextLook ⟨Nat.le_of_ble_eq_true rfl, Nat.le_of_ble_eq_true rfl⟩ [0, 17, 18, 6] rfl rfl 0 rfl rfl rfl hl.1 (Nat.le_of_ble_eq_true rfl) dX10_tell_37 ⟨Nat.le_of_ble_eq_true rfl, Nat.le_of_ble_eq_true rfl⟩) (fun r_10 u_10 H locs hp_10 G => ?_)
      obtain ⟨m_10a, f_10b⟩ := u_10
      have hq_10 := hp_10
      have G : wd X (va_A (xW h0 nw sp xa la lb ++ rcW X nw an v b g ++ [((xa 10), .inr (7, [.ref hc, .int tm])), (hc, .inl (X.2.1, 16, .inl tf))] ++ [((xa 5), .inl (X.2.1, 3, .inl fr))]) sz) (va_A (xW h0 nw sp xa la lb ++ rcW X nw an v b g ++ [((xa 10), .inr (7, [.ref hc, .int tm])), (hc, .inl (X.2.1, 16, .inl tf))] ++ [((xa 5), .inl (X.2.1, 3, .inl fr))]) sz) s (rcW X nw an v b g ++ [((xa 5), .inl (X.2.1, 3, .inl fr))] ++ xW h0 nw sp xa la lb ++ [((xa 10), .inr (7, [.ref hc, .int m_10a])), (hc, .inl (X.2.1, 16, .inl f_10b))]) H locs := wd_sub G [0, 1, 2, 3, 4, 19, 5, 6, 7, 8, 9, 10, 11, 12, 13, 14, 15, 16, 17, 18] rfl rfl
      exact e_int S zr zlk (vp_nar_int _) G (m_10a, f_10b, fr) [17, 0, 1, 2, 3, 4, 5, 6, 7, 8, 9, 10, 11, 12, 13, 14, 15, 18, 19, 16] rfl rfl (Or.inr rfl) (trivial) dX10_tell_40
    · refine k_it (v := 4) rfl ?_
      refine r_aald (C := RX8) (b := (an 5)) S G 2 3 rfl rfl (k_vp (by decide)) rfl dX10_tell_24 ?_
      refine lv_iconst (v := 0) zx zb dX10_tell_25 (by decide) ?_
      refine lv_aload_n zx zb dX10_tell_26 rfl (lv_at hl 0 rfl) ?_
      refine r_get (C := RX10) (T := TX10) (N := 14) (ci := 8) (v := .ref nw) S in_X10_tell_X10 G 0 rfl rfl 0 (by decide) lk_X10_tell_10 rfl dX10_tell_27 ?_
      refine lv_iload_n zx zb dX10_tell_30 rfl (lv_at hl 1 rfl) ?_
      refine o_ri (cells' := 0) (slots' := 0) G rfl rfl (n_V (As := [.int 4]) (rest := [.int 0, .ref (an 5), .ref h0]) (C := RX5) (T := TX5) (N := 8) (ci := 3) S G (s_legsThatFit l X nw an v b g 4 hI_b (by omega) H.size) gX10_tell_X5_legsThatFit rfl rfl rfl hdV_X5_legsThatFit ⟨Nat.le_of_ble_eq_true rfl, Nat.le_of_ble_eq_true rfl⟩ [1, 2, 3, 4, 5, 6, 7, 8, 9, 10, 11, 12, 13, 14, 15, 16] rfl rfl 1 rfl rfl rfl hl.1 (Nat.le_of_ble_eq_true rfl) dX10_tell_31 ⟨Nat.le_of_ble_eq_true rfl, Nat.le_of_ble_eq_true rfl⟩) (fun r_11 u_11 H locs hp_11 G => ?_)
      have G : wd X (va_A (xW h0 nw sp xa la lb ++ rcW X nw an v b g ++ [((xa 10), .inr (7, [.ref hc, .int tm])), (hc, .inl (X.2.1, 16, .inl tf))] ++ [((xa 5), .inl (X.2.1, 3, .inl fr))]) sz) (va_A (xW h0 nw sp xa la lb ++ rcW X nw an v b g ++ [((xa 10), .inr (7, [.ref hc, .int tm])), (hc, .inl (X.2.1, 16, .inl tf))] ++ [((xa 5), .inl (X.2.1, 3, .inl fr))]) sz) s (xW h0 nw sp xa la lb ++ rcW X nw an v b g ++ [((xa 10), .inr (7, [.ref hc, .int tm])), (hc, .inl (X.2.1, 16, .inl tf))] ++ [((xa 5), .inl (X.2.1, 3, .inl fr))]) H locs := G
      refine lv_sipush (v := 200) zx zb dX10_tell_34 (by decide) ?_
      refine b_wi (cells' := 0) (slots' := 0) (wr := [(nw, .inr (3, [.int (v 0), .int (v 1), .int (nI (b 0)), .ref (an 0), .ref (an 7), .ref (an 9), .ref (an 11), .ref (an 13)])), ((an 0), .inl (X.2.2.2.2, 6, .inr (.inr (.inr (.inr (rowQ an)))))), ((an 1), .inr (6, [.int (v 10), .int (v 11), .int (v 12), .int (v 13), .int (v 14), .int (v 15), .int (v 16), .int (v 17)])), ((an 2), .inr (6, [.int (v 18), .int (v 19), .int (v 20), .int (v 21), .int (v 22), .int (v 23), .int (v 24), .int (v 25)])), ((an 3), .inr (6, [.int (v 26), .int (v 27), .int (v 28), .int (v 29), .int (v 30), .int (v 31), .int (v 32), .int (v 33)])), ((an 4), .inr (6, [.int (v 34), .int (v 35), .int (v 36), .int (v 37), .int (v 38), .int (v 39), .int (v 40), .int (v 41)])), ((an 6), .inr (6, [.int (v 50), .int (v 51), .int (v 52), .int (v 53), .int (v 54), .int (v 55), .int (v 56), .int (v 57)])), ((an 7), .inr (2, [.ref (an 8), .int (nI (b 1))])), ((an 8), .inl (X.2.1, 248, .inl (g 0))), ((an 9), .inr (5, [.int 5, .int 0, .int 1, .ref (an 10), .int (nI (b 2))])), ((an 10), .inl (X.2.1, 25, .inl (g 1))), ((an 11), .inr (5, [.int 6, .int 1, .int 1, .ref (an 12), .int (nI (b 3))])), ((an 12), .inl (X.2.1, 30, .inl (g 2))), ((an 13), .inr (5, [.int 6, .int 0, .int 0, .ref (an 14), .int (nI (b 4))])), ((an 14), .inl (X.2.1, 30, .inl (g 3)))] ++ [((xa 5), .inl (X.2.1, 3, .inl fr))]) G rfl rfl [0, 17, 18, 7] [1, 2, 3, 4, 5, 6, 8, 9, 10, 11, 12, 13, 14, 15, 16, 19] rfl rfl rfl rfl (n_V (As := [.ref (an 5), .int 0, .int r_11, .int 200]) (rest := []) (C := RX10) (T := TX10) (N := 14) (ci := 8) S G (s_nextLook0 l X h0 nw sp xa la lb hc tm tf (an 5) (fun k => v (42 + k)) r_11 H.size) gX10_tell_X10_nextLook rfl rfl rfl hdV_X10_nextLook ⟨Nat.le_of_ble_eq_true rfl, Nat.le_of_ble_eq_true rfl⟩ [0, 17, 18, 7] rfl rfl 0 rfl rfl rfl hl.1 (Nat.le_of_ble_eq_true rfl) dX10_tell_37 ⟨Nat.le_of_ble_eq_true rfl, Nat.le_of_ble_eq_true rfl⟩) (fun r_12 u_12 H locs hp_12 G => ?_)
      obtain ⟨m_12a, f_12b⟩ := u_12
      have hq_12 := hp_12
      have G : wd X (va_A (xW h0 nw sp xa la lb ++ rcW X nw an v b g ++ [((xa 10), .inr (7, [.ref hc, .int tm])), (hc, .inl (X.2.1, 16, .inl tf))] ++ [((xa 5), .inl (X.2.1, 3, .inl fr))]) sz) (va_A (xW h0 nw sp xa la lb ++ rcW X nw an v b g ++ [((xa 10), .inr (7, [.ref hc, .int tm])), (hc, .inl (X.2.1, 16, .inl tf))] ++ [((xa 5), .inl (X.2.1, 3, .inl fr))]) sz) s (rcW X nw an v b g ++ [((xa 5), .inl (X.2.1, 3, .inl fr))] ++ xW h0 nw sp xa la lb ++ [((xa 10), .inr (7, [.ref hc, .int m_12a])), (hc, .inl (X.2.1, 16, .inl f_12b))]) H locs := wd_sub G [0, 1, 2, 3, 4, 5, 19, 6, 7, 8, 9, 10, 11, 12, 13, 14, 15, 16, 17, 18] rfl rfl
      exact e_int S zr zlk (vp_nar_int _) G (m_12a, f_12b, fr) [17, 0, 1, 2, 3, 4, 5, 6, 7, 8, 9, 10, 11, 12, 13, 14, 15, 18, 19, 16] rfl rfl (Or.inr rfl) (trivial) dX10_tell_40
    · refine k_it (v := 5) rfl ?_
      refine r_aald (C := RX8) (b := (an 6)) S G 2 3 rfl rfl (k_vp (by decide)) rfl dX10_tell_24 ?_
      refine lv_iconst (v := 0) zx zb dX10_tell_25 (by decide) ?_
      refine lv_aload_n zx zb dX10_tell_26 rfl (lv_at hl 0 rfl) ?_
      refine r_get (C := RX10) (T := TX10) (N := 14) (ci := 8) (v := .ref nw) S in_X10_tell_X10 G 0 rfl rfl 0 (by decide) lk_X10_tell_10 rfl dX10_tell_27 ?_
      refine lv_iload_n zx zb dX10_tell_30 rfl (lv_at hl 1 rfl) ?_
      refine o_ri (cells' := 0) (slots' := 0) G rfl rfl (n_V (As := [.int 5]) (rest := [.int 0, .ref (an 6), .ref h0]) (C := RX5) (T := TX5) (N := 8) (ci := 3) S G (s_legsThatFit l X nw an v b g 5 hI_b (by omega) H.size) gX10_tell_X5_legsThatFit rfl rfl rfl hdV_X5_legsThatFit ⟨Nat.le_of_ble_eq_true rfl, Nat.le_of_ble_eq_true rfl⟩ [1, 2, 3, 4, 5, 6, 7, 8, 9, 10, 11, 12, 13, 14, 15, 16] rfl rfl 1 rfl rfl rfl hl.1 (Nat.le_of_ble_eq_true rfl) dX10_tell_31 ⟨Nat.le_of_ble_eq_true rfl, Nat.le_of_ble_eq_true rfl⟩) (fun r_13 u_13 H locs hp_13 G => ?_)
      have G : wd X (va_A (xW h0 nw sp xa la lb ++ rcW X nw an v b g ++ [((xa 10), .inr (7, [.ref hc, .int tm])), (hc, .inl (X.2.1, 16, .inl tf))] ++ [((xa 5), .inl (X.2.1, 3, .inl fr))]) sz) (va_A (xW h0 nw sp xa la lb ++ rcW X nw an v b g ++ [((xa 10), .inr (7, [.ref hc, .int tm])), (hc, .inl (X.2.1, 16, .inl tf))] ++ [((xa 5), .inl (X.2.1, 3, .inl fr))]) sz) s (xW h0 nw sp xa la lb ++ rcW X nw an v b g ++ [((xa 10), .inr (7, [.ref hc, .int tm])), (hc, .inl (X.2.1, 16, .inl tf))] ++ [((xa 5), .inl (X.2.1, 3, .inl fr))]) H locs := G
      refine lv_sipush (v := 200) zx zb dX10_tell_34 (by decide) ?_
      refine b_wi (cells' := 0) (slots' := 0) (wr := [(nw, .inr (3, [.int (v 0), .int (v 1), .int (nI (b 0)), .ref (an 0), .ref (an 7), .ref (an 9), .ref (an 11), .ref (an 13)])), ((an 0), .inl (X.2.2.2.2, 6, .inr (.inr (.inr (.inr (rowQ an)))))), ((an 1), .inr (6, [.int (v 10), .int (v 11), .int (v 12), .int (v 13), .int (v 14), .int (v 15), .int (v 16), .int (v 17)])), ((an 2), .inr (6, [.int (v 18), .int (v 19), .int (v 20), .int (v 21), .int (v 22), .int (v 23), .int (v 24), .int (v 25)])), ((an 3), .inr (6, [.int (v 26), .int (v 27), .int (v 28), .int (v 29), .int (v 30), .int (v 31), .int (v 32), .int (v 33)])), ((an 4), .inr (6, [.int (v 34), .int (v 35), .int (v 36), .int (v 37), .int (v 38), .int (v 39), .int (v 40), .int (v 41)])), ((an 5), .inr (6, [.int (v 42), .int (v 43), .int (v 44), .int (v 45), .int (v 46), .int (v 47), .int (v 48), .int (v 49)])), ((an 7), .inr (2, [.ref (an 8), .int (nI (b 1))])), ((an 8), .inl (X.2.1, 248, .inl (g 0))), ((an 9), .inr (5, [.int 5, .int 0, .int 1, .ref (an 10), .int (nI (b 2))])), ((an 10), .inl (X.2.1, 25, .inl (g 1))), ((an 11), .inr (5, [.int 6, .int 1, .int 1, .ref (an 12), .int (nI (b 3))])), ((an 12), .inl (X.2.1, 30, .inl (g 2))), ((an 13), .inr (5, [.int 6, .int 0, .int 0, .ref (an 14), .int (nI (b 4))])), ((an 14), .inl (X.2.1, 30, .inl (g 3)))] ++ [((xa 5), .inl (X.2.1, 3, .inl fr))]) G rfl rfl [0, 17, 18, 8] [1, 2, 3, 4, 5, 6, 7, 9, 10, 11, 12, 13, 14, 15, 16, 19] rfl rfl rfl rfl (n_V (As := [.ref (an 6), .int 0, .int r_13, .int 200]) (rest := []) (C := RX10) (T := TX10) (N := 14) (ci := 8) S G (s_nextLook0 l X h0 nw sp xa la lb hc tm tf (an 6) (fun k => v (50 + k)) r_13 H.size) gX10_tell_X10_nextLook rfl rfl rfl hdV_X10_nextLook ⟨Nat.le_of_ble_eq_true rfl, Nat.le_of_ble_eq_true rfl⟩ [0, 17, 18, 8] rfl rfl 0 rfl rfl rfl hl.1 (Nat.le_of_ble_eq_true rfl) dX10_tell_37 ⟨Nat.le_of_ble_eq_true rfl, Nat.le_of_ble_eq_true rfl⟩) (fun r_14 u_14 H locs hp_14 G => ?_)
      obtain ⟨m_14a, f_14b⟩ := u_14
      have hq_14 := hp_14
      have G : wd X (va_A (xW h0 nw sp xa la lb ++ rcW X nw an v b g ++ [((xa 10), .inr (7, [.ref hc, .int tm])), (hc, .inl (X.2.1, 16, .inl tf))] ++ [((xa 5), .inl (X.2.1, 3, .inl fr))]) sz) (va_A (xW h0 nw sp xa la lb ++ rcW X nw an v b g ++ [((xa 10), .inr (7, [.ref hc, .int tm])), (hc, .inl (X.2.1, 16, .inl tf))] ++ [((xa 5), .inl (X.2.1, 3, .inl fr))]) sz) s (rcW X nw an v b g ++ [((xa 5), .inl (X.2.1, 3, .inl fr))] ++ xW h0 nw sp xa la lb ++ [((xa 10), .inr (7, [.ref hc, .int m_14a])), (hc, .inl (X.2.1, 16, .inl f_14b))]) H locs := wd_sub G [0, 1, 2, 3, 4, 5, 6, 19, 7, 8, 9, 10, 11, 12, 13, 14, 15, 16, 17, 18] rfl rfl
      exact e_int S zr zlk (vp_nar_int _) G (m_14a, f_14b, fr) [17, 0, 1, 2, 3, 4, 5, 6, 7, 8, 9, 10, 11, 12, 13, 14, 15, 18, 19, 16] rfl rfl (Or.inr rfl) (trivial) dX10_tell_40
  · refine lv_if_ne (tgt := 15) zx zb dX10_tell_5 (by decide) (fun c_15 => absurd (by decide) c_15) (fun c_15 => ?_)
    refine lv_aload_n zx zb dX10_tell_8 rfl (lv_at hl 0 rfl) ?_
    refine lv_bipush (v := (-2)) zx zb dX10_tell_9 (by decide) ?_
    refine b_wi (cells' := 0) (slots' := 0) (wr := rcW X nw an v b g ++ [((xa 10), .inr (7, [.ref hc, .int tm])), (hc, .inl (X.2.1, 16, .inl tf))]) G rfl rfl [0, 19] [1, 2, 3, 4, 5, 6, 7, 8, 9, 10, 11, 12, 13, 14, 15, 16, 17, 18] rfl rfl rfl rfl (n_V (As := [.int (-2)]) (rest := []) (C := RX10) (T := TX10) (N := 14) (ci := 8) S G (s_refuse l X h0 nw sp xa la lb fr (-2) H.size) gX10_tell_X10_refuse rfl rfl rfl hdV_X10_refuse ⟨Nat.le_of_ble_eq_true rfl, Nat.le_of_ble_eq_true rfl⟩ [0, 19] rfl rfl 0 rfl rfl rfl hl.1 (Nat.le_of_ble_eq_true rfl) dX10_tell_11 ⟨Nat.le_of_ble_eq_true rfl, Nat.le_of_ble_eq_true rfl⟩) (fun r_16 u_16 H locs hp_16 G => ?_)
    obtain ⟨f_16, rfl⟩ : ∃ z, z = u_16 := ⟨_, rfl⟩
    have hq_16 := hp_16
    have G : wd X (va_A (xW h0 nw sp xa la lb ++ rcW X nw an v b g ++ [((xa 10), .inr (7, [.ref hc, .int tm])), (hc, .inl (X.2.1, 16, .inl tf))] ++ [((xa 5), .inl (X.2.1, 3, .inl fr))]) sz) (va_A (xW h0 nw sp xa la lb ++ rcW X nw an v b g ++ [((xa 10), .inr (7, [.ref hc, .int tm])), (hc, .inl (X.2.1, 16, .inl tf))] ++ [((xa 5), .inl (X.2.1, 3, .inl fr))]) sz) s (rcW X nw an v b g ++ [((xa 10), .inr (7, [.ref hc, .int tm])), (hc, .inl (X.2.1, 16, .inl tf))] ++ xW h0 nw sp xa la lb ++ [((xa 5), .inl (X.2.1, 3, .inl f_16))]) H locs := G
    exact e_int S zr zlk (vp_nar_int _) G (tm, tf, f_16) [18, 0, 1, 2, 3, 4, 5, 6, 7, 8, 9, 10, 11, 12, 13, 14, 15, 16, 17, 19] rfl rfl (Or.inr rfl) (trivial) dX10_tell_14
theorem in_X10_look_X10 : ∀ w ∈ wsX100, w ∈ wsX10_look := by decide +kernel
theorem lk_X10_look_10 : Cond.fieldLink RX10 10 "EggSpoons" "now" "LEggSpoons$Race;" ∈ wsX10_look := by decide +kernel
theorem in_X10_look_X5 : ∀ w ∈ wsX50, w ∈ wsX10_look := by decide +kernel
theorem lk_X10_look_126 : Cond.fieldLink RX10 126 "EggSpoons$Race" "row" "[LEggSpoons$Runner;" ∈ wsX10_look := by decide +kernel
set_option maxHeartbeats 4000000 in
set_option maxRecDepth 100000 in
/-- look -/
theorem s_look (l : Launch) (X : EX) (h0 : Nat) (nw : Nat) (sp : Nat) (xa : Nat → Nat) (la : Int64) (lb : Int64) (an : Nat → Nat) (v : Nat → Int32) (b : Nat → Nat) (g : Nat → Nat → Int32) (hc : Nat) (tm : Int32) (tf : Nat → Int32) (fr : Nat → Int32) (x1 : Int32) (hI_b : InR b) (sz : Nat) : Met l yX10_look wsX10_look ({ frames := 4, cells := 0, slots := 0, locals := 102 } : Room) (pE X [.ref h0, .int x1] (xW h0 nw sp xa la lb ++ rcW X nw an v b g ++ [((xa 10), .inr (7, [.ref hc, .int tm])), (hc, .inl (X.2.1, 16, .inl tf))] ++ [((xa 5), .inl (X.2.1, 3, .inl fr))]) sz) (qI (fun (r : Int32) (u : (Int32) × (Nat → Int32) × (Nat → Int32)) => (True)) X (fun (u : (Int32) × (Nat → Int32) × (Nat → Int32)) => xW h0 nw sp xa la lb ++ rcW X nw an v b g ++ [((xa 10), .inr (7, [.ref hc, .int u.1])), (hc, .inl (X.2.1, 16, .inl u.2.1))] ++ [((xa 5), .inl (X.2.1, 3, .inl u.2.2))]) (xW h0 nw sp xa la lb ++ rcW X nw an v b g ++ [((xa 10), .inr (7, [.ref hc, .int tm])), (hc, .inl (X.2.1, 16, .inl tf))] ++ [((xa 5), .inl (X.2.1, 3, .inl fr))]) sz) 0 0 (va_A (xW h0 nw sp xa la lb ++ rcW X nw an v b g ++ [((xa 10), .inr (7, [.ref hc, .int tm])), (hc, .inl (X.2.1, 16, .inl tf))] ++ [((xa 5), .inl (X.2.1, 3, .inl fr))]) sz) := by
  refine mk_met (B := (va_A (xW h0 nw sp xa la lb ++ rcW X nw an v b g ++ [((xa 10), .inr (7, [.ref hc, .int tm])), (hc, .inl (X.2.1, 16, .inl tf))] ++ [((xa 5), .inl (X.2.1, 3, .inl fr))]) sz)) (A := (va_A (xW h0 nw sp xa la lb ++ rcW X nw an v b g ++ [((xa 10), .inr (7, [.ref hc, .int tm])), (hc, .inl (X.2.1, 16, .inl tf))] ++ [((xa 5), .inl (X.2.1, 3, .inl fr))]) sz)) (cc := cX10_look) (maxL := 2) (ret := (some .int)) (by decide) rfl (Nat.le_of_ble_eq_true rfl) k_w k_a (fun p e s m below meth c S zr zlk znm zsz G ls hl => ?_)
  have S : CallFix p m c cX10_look 2 s _ wsX10_look RX10 := S
  have zx := S.1
  have zb := S.2.1
  have hl : lv_has ls 2 [(0, .ref h0), (1, .int x1)] := hl
  have hO_b := hI_b
  obtain ⟨hb0_b, hb1_b, hb2_b, hb3_b, hb4_b⟩ := hO_b
  refine lv_aload_n zx zb dX10_look_0 rfl (lv_at hl 0 rfl) ?_
  refine lv_iload_n zx zb dX10_look_1 rfl (lv_at hl 1 rfl) ?_
  refine o_ri (cells' := 0) (slots' := 0) G rfl rfl (n_V (As := [.int x1]) (rest := []) (C := RX10) (T := TX10) (N := 14) (ci := 8) S G (s_there l X h0 nw sp xa la lb an v b g x1 hI_b s.heap.size) gX10_look_X10_there rfl rfl rfl hdV_X10_there ⟨Nat.le_of_ble_eq_true rfl, Nat.le_of_ble_eq_true rfl⟩ [0, 1, 2, 3, 4, 5, 6, 7, 8, 9, 10, 11, 12, 13, 14, 15, 16] rfl rfl 0 rfl rfl rfl hl.1 (Nat.le_of_ble_eq_true rfl) dX10_look_2 ⟨Nat.le_of_ble_eq_true rfl, Nat.le_of_ble_eq_true rfl⟩) (fun r_1 u_1 H locs hp_1 G => ?_)
  have G : wd X (va_A (xW h0 nw sp xa la lb ++ rcW X nw an v b g ++ [((xa 10), .inr (7, [.ref hc, .int tm])), (hc, .inl (X.2.1, 16, .inl tf))] ++ [((xa 5), .inl (X.2.1, 3, .inl fr))]) sz) (va_A (xW h0 nw sp xa la lb ++ rcW X nw an v b g ++ [((xa 10), .inr (7, [.ref hc, .int tm])), (hc, .inl (X.2.1, 16, .inl tf))] ++ [((xa 5), .inl (X.2.1, 3, .inl fr))]) sz) s (xW h0 nw sp xa la lb ++ rcW X nw an v b g ++ [((xa 10), .inr (7, [.ref hc, .int tm])), (hc, .inl (X.2.1, 16, .inl tf))] ++ [((xa 5), .inl (X.2.1, 3, .inl fr))]) H locs := G
  rcases hp_1 with ⟨rfl, hj_1⟩ | rfl
  · obtain ⟨j_1, hj_1, rfl⟩ := hj_1
    refine lv_if_ne (tgt := 15) zx zb dX10_look_5 (by decide) (fun c_2 => ?_) (fun c_2 => absurd c_2 (by decide))
    refine lv_aload_n zx zb dX10_look_15 rfl (lv_at hl 0 rfl) ?_
    refine lv_aload_n zx zb dX10_look_16 rfl (lv_at hl 0 rfl) ?_
    refine r_get (C := RX10) (T := TX10) (N := 14) (ci := 8) (v := .ref nw) S in_X10_look_X10 G 0 rfl rfl 0 (by decide) lk_X10_look_10 rfl dX10_look_17 ?_
    refine r_get (C := RX5) (T := TX5) (N := 8) (ci := 3) (v := .ref (an 0)) S in_X10_look_X5 G 1 rfl rfl 3 (by decide) lk_X10_look_126 rfl dX10_look_20 ?_
    refine lv_iload_n zx zb dX10_look_23 rfl (lv_at hl 1 rfl) ?_
    rcases k_6c (show j_1 < 6 by omega) with rfl | rfl | rfl | rfl | rfl | rfl
    · refine k_it (v := 0) rfl ?_
      refine r_aald (C := RX8) (b := (an 1)) S G 2 3 rfl rfl (k_vp (by decide)) rfl dX10_look_24 ?_
      refine lv_iconst (v := 1) zx zb dX10_look_25 (by decide) ?_
      refine lv_aload_n zx zb dX10_look_26 rfl (lv_at hl 0 rfl) ?_
      refine r_get (C := RX10) (T := TX10) (N := 14) (ci := 8) (v := .ref nw) S in_X10_look_X10 G 0 rfl rfl 0 (by decide) lk_X10_look_10 rfl dX10_look_27 ?_
      refine lv_iload_n zx zb dX10_look_30 rfl (lv_at hl 1 rfl) ?_
      refine o_ri (cells' := 0) (slots' := 0) G rfl rfl (n_V (As := [.int 0]) (rest := [.int 1, .ref (an 1), .ref h0]) (C := RX5) (T := TX5) (N := 8) (ci := 3) S G (s_kindsThatFit l X nw an v b g 0 hI_b (by omega) H.size) gX10_look_X5_kindsThatFit rfl rfl rfl hdV_X5_kindsThatFit ⟨Nat.le_of_ble_eq_true rfl, Nat.le_of_ble_eq_true rfl⟩ [1, 2, 3, 4, 5, 6, 7, 8, 9, 10, 11, 12, 13, 14, 15, 16] rfl rfl 1 rfl rfl rfl hl.1 (Nat.le_of_ble_eq_true rfl) dX10_look_31 ⟨Nat.le_of_ble_eq_true rfl, Nat.le_of_ble_eq_true rfl⟩) (fun r_3 u_3 H locs hp_3 G => ?_)
      have G : wd X (va_A (xW h0 nw sp xa la lb ++ rcW X nw an v b g ++ [((xa 10), .inr (7, [.ref hc, .int tm])), (hc, .inl (X.2.1, 16, .inl tf))] ++ [((xa 5), .inl (X.2.1, 3, .inl fr))]) sz) (va_A (xW h0 nw sp xa la lb ++ rcW X nw an v b g ++ [((xa 10), .inr (7, [.ref hc, .int tm])), (hc, .inl (X.2.1, 16, .inl tf))] ++ [((xa 5), .inl (X.2.1, 3, .inl fr))]) sz) s (xW h0 nw sp xa la lb ++ rcW X nw an v b g ++ [((xa 10), .inr (7, [.ref hc, .int tm])), (hc, .inl (X.2.1, 16, .inl tf))] ++ [((xa 5), .inl (X.2.1, 3, .inl fr))]) H locs := G
      refine lv_sipush (v := 200) zx zb dX10_look_34 (by decide) ?_
      refine b_wi (cells' := 0) (slots' := 0) (wr := [(nw, .inr (3, [.int (v 0), .int (v 1), .int (nI (b 0)), .ref (an 0), .ref (an 7), .ref (an 9), .ref (an 11), .ref (an 13)])), ((an 0), .inl (X.2.2.2.2, 6, .inr (.inr (.inr (.inr (rowQ an)))))), ((an 2), .inr (6, [.int (v 18), .int (v 19), .int (v 20), .int (v 21), .int (v 22), .int (v 23), .int (v 24), .int (v 25)])), ((an 3), .inr (6, [.int (v 26), .int (v 27), .int (v 28), .int (v 29), .int (v 30), .int (v 31), .int (v 32), .int (v 33)])), ((an 4), .inr (6, [.int (v 34), .int (v 35), .int (v 36), .int (v 37), .int (v 38), .int (v 39), .int (v 40), .int (v 41)])), ((an 5), .inr (6, [.int (v 42), .int (v 43), .int (v 44), .int (v 45), .int (v 46), .int (v 47), .int (v 48), .int (v 49)])), ((an 6), .inr (6, [.int (v 50), .int (v 51), .int (v 52), .int (v 53), .int (v 54), .int (v 55), .int (v 56), .int (v 57)])), ((an 7), .inr (2, [.ref (an 8), .int (nI (b 1))])), ((an 8), .inl (X.2.1, 248, .inl (g 0))), ((an 9), .inr (5, [.int 5, .int 0, .int 1, .ref (an 10), .int (nI (b 2))])), ((an 10), .inl (X.2.1, 25, .inl (g 1))), ((an 11), .inr (5, [.int 6, .int 1, .int 1, .ref (an 12), .int (nI (b 3))])), ((an 12), .inl (X.2.1, 30, .inl (g 2))), ((an 13), .inr (5, [.int 6, .int 0, .int 0, .ref (an 14), .int (nI (b 4))])), ((an 14), .inl (X.2.1, 30, .inl (g 3)))] ++ [((xa 5), .inl (X.2.1, 3, .inl fr))]) G rfl rfl [0, 17, 18, 3] [1, 2, 4, 5, 6, 7, 8, 9, 10, 11, 12, 13, 14, 15, 16, 19] rfl rfl rfl rfl (n_V (As := [.ref (an 1), .int 1, .int r_3, .int 200]) (rest := []) (C := RX10) (T := TX10) (N := 14) (ci := 8) S G (s_nextLook1 l X h0 nw sp xa la lb hc tm tf (an 1) (fun k => v (10 + k)) r_3 H.size) gX10_look_X10_nextLook rfl rfl rfl hdV_X10_nextLook ⟨Nat.le_of_ble_eq_true rfl, Nat.le_of_ble_eq_true rfl⟩ [0, 17, 18, 3] rfl rfl 0 rfl rfl rfl hl.1 (Nat.le_of_ble_eq_true rfl) dX10_look_37 ⟨Nat.le_of_ble_eq_true rfl, Nat.le_of_ble_eq_true rfl⟩) (fun r_4 u_4 H locs hp_4 G => ?_)
      obtain ⟨m_4a, f_4b⟩ := u_4
      have hq_4 := hp_4
      have G : wd X (va_A (xW h0 nw sp xa la lb ++ rcW X nw an v b g ++ [((xa 10), .inr (7, [.ref hc, .int tm])), (hc, .inl (X.2.1, 16, .inl tf))] ++ [((xa 5), .inl (X.2.1, 3, .inl fr))]) sz) (va_A (xW h0 nw sp xa la lb ++ rcW X nw an v b g ++ [((xa 10), .inr (7, [.ref hc, .int tm])), (hc, .inl (X.2.1, 16, .inl tf))] ++ [((xa 5), .inl (X.2.1, 3, .inl fr))]) sz) s (rcW X nw an v b g ++ [((xa 5), .inl (X.2.1, 3, .inl fr))] ++ xW h0 nw sp xa la lb ++ [((xa 10), .inr (7, [.ref hc, .int m_4a])), (hc, .inl (X.2.1, 16, .inl f_4b))]) H locs := wd_sub G [0, 1, 19, 2, 3, 4, 5, 6, 7, 8, 9, 10, 11, 12, 13, 14, 15, 16, 17, 18] rfl rfl
      exact e_int S zr zlk (vp_nar_int _) G (m_4a, f_4b, fr) [17, 0, 1, 2, 3, 4, 5, 6, 7, 8, 9, 10, 11, 12, 13, 14, 15, 18, 19, 16] rfl rfl (Or.inr rfl) (trivial) dX10_look_40
    · refine k_it (v := 1) rfl ?_
      refine r_aald (C := RX8) (b := (an 2)) S G 2 3 rfl rfl (k_vp (by decide)) rfl dX10_look_24 ?_
      refine lv_iconst (v := 1) zx zb dX10_look_25 (by decide) ?_
      refine lv_aload_n zx zb dX10_look_26 rfl (lv_at hl 0 rfl) ?_
      refine r_get (C := RX10) (T := TX10) (N := 14) (ci := 8) (v := .ref nw) S in_X10_look_X10 G 0 rfl rfl 0 (by decide) lk_X10_look_10 rfl dX10_look_27 ?_
      refine lv_iload_n zx zb dX10_look_30 rfl (lv_at hl 1 rfl) ?_
      refine o_ri (cells' := 0) (slots' := 0) G rfl rfl (n_V (As := [.int 1]) (rest := [.int 1, .ref (an 2), .ref h0]) (C := RX5) (T := TX5) (N := 8) (ci := 3) S G (s_kindsThatFit l X nw an v b g 1 hI_b (by omega) H.size) gX10_look_X5_kindsThatFit rfl rfl rfl hdV_X5_kindsThatFit ⟨Nat.le_of_ble_eq_true rfl, Nat.le_of_ble_eq_true rfl⟩ [1, 2, 3, 4, 5, 6, 7, 8, 9, 10, 11, 12, 13, 14, 15, 16] rfl rfl 1 rfl rfl rfl hl.1 (Nat.le_of_ble_eq_true rfl) dX10_look_31 ⟨Nat.le_of_ble_eq_true rfl, Nat.le_of_ble_eq_true rfl⟩) (fun r_5 u_5 H locs hp_5 G => ?_)
      have G : wd X (va_A (xW h0 nw sp xa la lb ++ rcW X nw an v b g ++ [((xa 10), .inr (7, [.ref hc, .int tm])), (hc, .inl (X.2.1, 16, .inl tf))] ++ [((xa 5), .inl (X.2.1, 3, .inl fr))]) sz) (va_A (xW h0 nw sp xa la lb ++ rcW X nw an v b g ++ [((xa 10), .inr (7, [.ref hc, .int tm])), (hc, .inl (X.2.1, 16, .inl tf))] ++ [((xa 5), .inl (X.2.1, 3, .inl fr))]) sz) s (xW h0 nw sp xa la lb ++ rcW X nw an v b g ++ [((xa 10), .inr (7, [.ref hc, .int tm])), (hc, .inl (X.2.1, 16, .inl tf))] ++ [((xa 5), .inl (X.2.1, 3, .inl fr))]) H locs := G
      refine lv_sipush (v := 200) zx zb dX10_look_34 (by decide) ?_
      refine b_wi (cells' := 0) (slots' := 0) (wr := [(nw, .inr (3, [.int (v 0), .int (v 1), .int (nI (b 0)), .ref (an 0), .ref (an 7), .ref (an 9), .ref (an 11), .ref (an 13)])), ((an 0), .inl (X.2.2.2.2, 6, .inr (.inr (.inr (.inr (rowQ an)))))), ((an 1), .inr (6, [.int (v 10), .int (v 11), .int (v 12), .int (v 13), .int (v 14), .int (v 15), .int (v 16), .int (v 17)])), ((an 3), .inr (6, [.int (v 26), .int (v 27), .int (v 28), .int (v 29), .int (v 30), .int (v 31), .int (v 32), .int (v 33)])), ((an 4), .inr (6, [.int (v 34), .int (v 35), .int (v 36), .int (v 37), .int (v 38), .int (v 39), .int (v 40), .int (v 41)])), ((an 5), .inr (6, [.int (v 42), .int (v 43), .int (v 44), .int (v 45), .int (v 46), .int (v 47), .int (v 48), .int (v 49)])), ((an 6), .inr (6, [.int (v 50), .int (v 51), .int (v 52), .int (v 53), .int (v 54), .int (v 55), .int (v 56), .int (v 57)])), ((an 7), .inr (2, [.ref (an 8), .int (nI (b 1))])), ((an 8), .inl (X.2.1, 248, .inl (g 0))), ((an 9), .inr (5, [.int 5, .int 0, .int 1, .ref (an 10), .int (nI (b 2))])), ((an 10), .inl (X.2.1, 25, .inl (g 1))), ((an 11), .inr (5, [.int 6, .int 1, .int 1, .ref (an 12), .int (nI (b 3))])), ((an 12), .inl (X.2.1, 30, .inl (g 2))), ((an 13), .inr (5, [.int 6, .int 0, .int 0, .ref (an 14), .int (nI (b 4))])), ((an 14), .inl (X.2.1, 30, .inl (g 3)))] ++ [((xa 5), .inl (X.2.1, 3, .inl fr))]) G rfl rfl [0, 17, 18, 4] [1, 2, 3, 5, 6, 7, 8, 9, 10, 11, 12, 13, 14, 15, 16, 19] rfl rfl rfl rfl (n_V (As := [.ref (an 2), .int 1, .int r_5, .int 200]) (rest := []) (C := RX10) (T := TX10) (N := 14) (ci := 8) S G (s_nextLook1 l X h0 nw sp xa la lb hc tm tf (an 2) (fun k => v (18 + k)) r_5 H.size) gX10_look_X10_nextLook rfl rfl rfl hdV_X10_nextLook ⟨Nat.le_of_ble_eq_true rfl, Nat.le_of_ble_eq_true rfl⟩ [0, 17, 18, 4] rfl rfl 0 rfl rfl rfl hl.1 (Nat.le_of_ble_eq_true rfl) dX10_look_37 ⟨Nat.le_of_ble_eq_true rfl, Nat.le_of_ble_eq_true rfl⟩) (fun r_6 u_6 H locs hp_6 G => ?_)
      obtain ⟨m_6a, f_6b⟩ := u_6
      have hq_6 := hp_6
      have G : wd X (va_A (xW h0 nw sp xa la lb ++ rcW X nw an v b g ++ [((xa 10), .inr (7, [.ref hc, .int tm])), (hc, .inl (X.2.1, 16, .inl tf))] ++ [((xa 5), .inl (X.2.1, 3, .inl fr))]) sz) (va_A (xW h0 nw sp xa la lb ++ rcW X nw an v b g ++ [((xa 10), .inr (7, [.ref hc, .int tm])), (hc, .inl (X.2.1, 16, .inl tf))] ++ [((xa 5), .inl (X.2.1, 3, .inl fr))]) sz) s (rcW X nw an v b g ++ [((xa 5), .inl (X.2.1, 3, .inl fr))] ++ xW h0 nw sp xa la lb ++ [((xa 10), .inr (7, [.ref hc, .int m_6a])), (hc, .inl (X.2.1, 16, .inl f_6b))]) H locs := wd_sub G [0, 1, 2, 19, 3, 4, 5, 6, 7, 8, 9, 10, 11, 12, 13, 14, 15, 16, 17, 18] rfl rfl
      exact e_int S zr zlk (vp_nar_int _) G (m_6a, f_6b, fr) [17, 0, 1, 2, 3, 4, 5, 6, 7, 8, 9, 10, 11, 12, 13, 14, 15, 18, 19, 16] rfl rfl (Or.inr rfl) (trivial) dX10_look_40
    · refine k_it (v := 2) rfl ?_
      refine r_aald (C := RX8) (b := (an 3)) S G 2 3 rfl rfl (k_vp (by decide)) rfl dX10_look_24 ?_
      refine lv_iconst (v := 1) zx zb dX10_look_25 (by decide) ?_
      refine lv_aload_n zx zb dX10_look_26 rfl (lv_at hl 0 rfl) ?_
      refine r_get (C := RX10) (T := TX10) (N := 14) (ci := 8) (v := .ref nw) S in_X10_look_X10 G 0 rfl rfl 0 (by decide) lk_X10_look_10 rfl dX10_look_27 ?_
      refine lv_iload_n zx zb dX10_look_30 rfl (lv_at hl 1 rfl) ?_
      refine o_ri (cells' := 0) (slots' := 0) G rfl rfl (n_V (As := [.int 2]) (rest := [.int 1, .ref (an 3), .ref h0]) (C := RX5) (T := TX5) (N := 8) (ci := 3) S G (s_kindsThatFit l X nw an v b g 2 hI_b (by omega) H.size) gX10_look_X5_kindsThatFit rfl rfl rfl hdV_X5_kindsThatFit ⟨Nat.le_of_ble_eq_true rfl, Nat.le_of_ble_eq_true rfl⟩ [1, 2, 3, 4, 5, 6, 7, 8, 9, 10, 11, 12, 13, 14, 15, 16] rfl rfl 1 rfl rfl rfl hl.1 (Nat.le_of_ble_eq_true rfl) dX10_look_31 ⟨Nat.le_of_ble_eq_true rfl, Nat.le_of_ble_eq_true rfl⟩) (fun r_7 u_7 H locs hp_7 G => ?_)
      have G : wd X (va_A (xW h0 nw sp xa la lb ++ rcW X nw an v b g ++ [((xa 10), .inr (7, [.ref hc, .int tm])), (hc, .inl (X.2.1, 16, .inl tf))] ++ [((xa 5), .inl (X.2.1, 3, .inl fr))]) sz) (va_A (xW h0 nw sp xa la lb ++ rcW X nw an v b g ++ [((xa 10), .inr (7, [.ref hc, .int tm])), (hc, .inl (X.2.1, 16, .inl tf))] ++ [((xa 5), .inl (X.2.1, 3, .inl fr))]) sz) s (xW h0 nw sp xa la lb ++ rcW X nw an v b g ++ [((xa 10), .inr (7, [.ref hc, .int tm])), (hc, .inl (X.2.1, 16, .inl tf))] ++ [((xa 5), .inl (X.2.1, 3, .inl fr))]) H locs := G
      refine lv_sipush (v := 200) zx zb dX10_look_34 (by decide) ?_
      refine b_wi (cells' := 0) (slots' := 0) (wr := [(nw, .inr (3, [.int (v 0), .int (v 1), .int (nI (b 0)), .ref (an 0), .ref (an 7), .ref (an 9), .ref (an 11), .ref (an 13)])), ((an 0), .inl (X.2.2.2.2, 6, .inr (.inr (.inr (.inr (rowQ an)))))), ((an 1), .inr (6, [.int (v 10), .int (v 11), .int (v 12), .int (v 13), .int (v 14), .int (v 15), .int (v 16), .int (v 17)])), ((an 2), .inr (6, [.int (v 18), .int (v 19), .int (v 20), .int (v 21), .int (v 22), .int (v 23), .int (v 24), .int (v 25)])), ((an 4), .inr (6, [.int (v 34), .int (v 35), .int (v 36), .int (v 37), .int (v 38), .int (v 39), .int (v 40), .int (v 41)])), ((an 5), .inr (6, [.int (v 42), .int (v 43), .int (v 44), .int (v 45), .int (v 46), .int (v 47), .int (v 48), .int (v 49)])), ((an 6), .inr (6, [.int (v 50), .int (v 51), .int (v 52), .int (v 53), .int (v 54), .int (v 55), .int (v 56), .int (v 57)])), ((an 7), .inr (2, [.ref (an 8), .int (nI (b 1))])), ((an 8), .inl (X.2.1, 248, .inl (g 0))), ((an 9), .inr (5, [.int 5, .int 0, .int 1, .ref (an 10), .int (nI (b 2))])), ((an 10), .inl (X.2.1, 25, .inl (g 1))), ((an 11), .inr (5, [.int 6, .int 1, .int 1, .ref (an 12), .int (nI (b 3))])), ((an 12), .inl (X.2.1, 30, .inl (g 2))), ((an 13), .inr (5, [.int 6, .int 0, .int 0, .ref (an 14), .int (nI (b 4))])), ((an 14), .inl (X.2.1, 30, .inl (g 3)))] ++ [((xa 5), .inl (X.2.1, 3, .inl fr))]) G rfl rfl [0, 17, 18, 5] [1, 2, 3, 4, 6, 7, 8, 9, 10, 11, 12, 13, 14, 15, 16, 19] rfl rfl rfl rfl (n_V (As := [.ref (an 3), .int 1, .int r_7, .int 200]) (rest := []) (C := RX10) (T := TX10) (N := 14) (ci := 8) S G (s_nextLook1 l X h0 nw sp xa la lb hc tm tf (an 3) (fun k => v (26 + k)) r_7 H.size) gX10_look_X10_nextLook rfl rfl rfl hdV_X10_nextLook ⟨Nat.le_of_ble_eq_true rfl, Nat.le_of_ble_eq_true rfl⟩ [0, 17, 18, 5] rfl rfl 0 rfl rfl rfl hl.1 (Nat.le_of_ble_eq_true rfl) dX10_look_37 ⟨Nat.le_of_ble_eq_true rfl, Nat.le_of_ble_eq_true rfl⟩) (fun r_8 u_8 H locs hp_8 G => ?_)
      obtain ⟨m_8a, f_8b⟩ := u_8
      have hq_8 := hp_8
      have G : wd X (va_A (xW h0 nw sp xa la lb ++ rcW X nw an v b g ++ [((xa 10), .inr (7, [.ref hc, .int tm])), (hc, .inl (X.2.1, 16, .inl tf))] ++ [((xa 5), .inl (X.2.1, 3, .inl fr))]) sz) (va_A (xW h0 nw sp xa la lb ++ rcW X nw an v b g ++ [((xa 10), .inr (7, [.ref hc, .int tm])), (hc, .inl (X.2.1, 16, .inl tf))] ++ [((xa 5), .inl (X.2.1, 3, .inl fr))]) sz) s (rcW X nw an v b g ++ [((xa 5), .inl (X.2.1, 3, .inl fr))] ++ xW h0 nw sp xa la lb ++ [((xa 10), .inr (7, [.ref hc, .int m_8a])), (hc, .inl (X.2.1, 16, .inl f_8b))]) H locs := wd_sub G [0, 1, 2, 3, 19, 4, 5, 6, 7, 8, 9, 10, 11, 12, 13, 14, 15, 16, 17, 18] rfl rfl
      exact e_int S zr zlk (vp_nar_int _) G (m_8a, f_8b, fr) [17, 0, 1, 2, 3, 4, 5, 6, 7, 8, 9, 10, 11, 12, 13, 14, 15, 18, 19, 16] rfl rfl (Or.inr rfl) (trivial) dX10_look_40
    · refine k_it (v := 3) rfl ?_
      refine r_aald (C := RX8) (b := (an 4)) S G 2 3 rfl rfl (k_vp (by decide)) rfl dX10_look_24 ?_
      refine lv_iconst (v := 1) zx zb dX10_look_25 (by decide) ?_
      refine lv_aload_n zx zb dX10_look_26 rfl (lv_at hl 0 rfl) ?_
      refine r_get (C := RX10) (T := TX10) (N := 14) (ci := 8) (v := .ref nw) S in_X10_look_X10 G 0 rfl rfl 0 (by decide) lk_X10_look_10 rfl dX10_look_27 ?_
      refine lv_iload_n zx zb dX10_look_30 rfl (lv_at hl 1 rfl) ?_
      refine o_ri (cells' := 0) (slots' := 0) G rfl rfl (n_V (As := [.int 3]) (rest := [.int 1, .ref (an 4), .ref h0]) (C := RX5) (T := TX5) (N := 8) (ci := 3) S G (s_kindsThatFit l X nw an v b g 3 hI_b (by omega) H.size) gX10_look_X5_kindsThatFit rfl rfl rfl hdV_X5_kindsThatFit ⟨Nat.le_of_ble_eq_true rfl, Nat.le_of_ble_eq_true rfl⟩ [1, 2, 3, 4, 5, 6, 7, 8, 9, 10, 11, 12, 13, 14, 15, 16] rfl rfl 1 rfl rfl rfl hl.1 (Nat.le_of_ble_eq_true rfl) dX10_look_31 ⟨Nat.le_of_ble_eq_true rfl, Nat.le_of_ble_eq_true rfl⟩) (fun r_9 u_9 H locs hp_9 G => ?_)
      have G : wd X (va_A (xW h0 nw sp xa la lb ++ rcW X nw an v b g ++ [((xa 10), .inr (7, [.ref hc, .int tm])), (hc, .inl (X.2.1, 16, .inl tf))] ++ [((xa 5), .inl (X.2.1, 3, .inl fr))]) sz) (va_A (xW h0 nw sp xa la lb ++ rcW X nw an v b g ++ [((xa 10), .inr (7, [.ref hc, .int tm])), (hc, .inl (X.2.1, 16, .inl tf))] ++ [((xa 5), .inl (X.2.1, 3, .inl fr))]) sz) s (xW h0 nw sp xa la lb ++ rcW X nw an v b g ++ [((xa 10), .inr (7, [.ref hc, .int tm])), (hc, .inl (X.2.1, 16, .inl tf))] ++ [((xa 5), .inl (X.2.1, 3, .inl fr))]) H locs := G
      refine lv_sipush (v := 200) zx zb dX10_look_34 (by decide) ?_
      refine b_wi (cells' := 0) (slots' := 0) (wr := [(nw, .inr (3, [.int (v 0), .int (v 1), .int (nI (b 0)), .ref (an 0), .ref (an 7), .ref (an 9), .ref (an 11), .ref (an 13)])), ((an 0), .inl (X.2.2.2.2, 6, .inr (.inr (.inr (.inr (rowQ an)))))), ((an 1), .inr (6, [.int (v 10), .int (v 11), .int (v 12), .int (v 13), .int (v 14), .int (v 15), .int (v 16), .int (v 17)])), ((an 2), .inr (6, [.int (v 18), .int (v 19), .int (v 20), .int (v 21), .int (v 22), .int (v 23), .int (v 24), .int (v 25)])), ((an 3), .inr (6, [.int (v 26), .int (v 27), .int (v 28), .int (v 29), .int (v 30), .int (v 31), .int (v 32), .int (v 33)])), ((an 5), .inr (6, [.int (v 42), .int (v 43), .int (v 44), .int (v 45), .int (v 46), .int (v 47), .int (v 48), .int (v 49)])), ((an 6), .inr (6, [.int (v 50), .int (v 51), .int (v 52), .int (v 53), .int (v 54), .int (v 55), .int (v 56), .int (v 57)])), ((an 7), .inr (2, [.ref (an 8), .int (nI (b 1))])), ((an 8), .inl (X.2.1, 248, .inl (g 0))), ((an 9), .inr (5, [.int 5, .int 0, .int 1, .ref (an 10), .int (nI (b 2))])), ((an 10), .inl (X.2.1, 25, .inl (g 1))), ((an 11), .inr (5, [.int 6, .int 1, .int 1, .ref (an 12), .int (nI (b 3))])), ((an 12), .inl (X.2.1, 30, .inl (g 2))), ((an 13), .inr (5, [.int 6, .int 0, .int 0, .ref (an 14), .int (nI (b 4))])), ((an 14), .inl (X.2.1, 30, .inl (g 3)))] ++ [((xa 5), .inl (X.2.1, 3, .inl fr))]) G rfl rfl [0, 17, 18, 6] [1, 2, 3, 4, 5, 7, 8, 9, 10, 11, 12, 13, 14, 15, 16, 19] rfl rfl rfl rfl (n_V (As := [.ref (an 4), .int 1, .int r_9, .int 200]) (rest := []) (C := RX10) (T := TX10) (N := 14) (ci := 8) S G (s_nextLook1 l X h0 nw sp xa la lb hc tm tf (an 4) (fun k => v (34 + k)) r_9 H.size) gX10_look_X10_nextLook rfl rfl rfl hdV_X10_nextLook ⟨Nat.le_of_ble_eq_true rfl, Nat.le_of_ble_eq_true rfl⟩ [0, 17, 18, 6] rfl rfl 0 rfl rfl rfl hl.1 (Nat.le_of_ble_eq_true rfl) dX10_look_37 ⟨Nat.le_of_ble_eq_true rfl, Nat.le_of_ble_eq_true rfl⟩) (fun r_10 u_10 H locs hp_10 G => ?_)
      obtain ⟨m_10a, f_10b⟩ := u_10
      have hq_10 := hp_10
      have G : wd X (va_A (xW h0 nw sp xa la lb ++ rcW X nw an v b g ++ [((xa 10), .inr (7, [.ref hc, .int tm])), (hc, .inl (X.2.1, 16, .inl tf))] ++ [((xa 5), .inl (X.2.1, 3, .inl fr))]) sz) (va_A (xW h0 nw sp xa la lb ++ rcW X nw an v b g ++ [((xa 10), .inr (7, [.ref hc, .int tm])), (hc, .inl (X.2.1, 16, .inl tf))] ++ [((xa 5), .inl (X.2.1, 3, .inl fr))]) sz) s (rcW X nw an v b g ++ [((xa 5), .inl (X.2.1, 3, .inl fr))] ++ xW h0 nw sp xa la lb ++ [((xa 10), .inr (7, [.ref hc, .int m_10a])), (hc, .inl (X.2.1, 16, .inl f_10b))]) H locs := wd_sub G [0, 1, 2, 3, 4, 19, 5, 6, 7, 8, 9, 10, 11, 12, 13, 14, 15, 16, 17, 18] rfl rfl
      exact e_int S zr zlk (vp_nar_int _) G (m_10a, f_10b, fr) [17, 0, 1, 2, 3, 4, 5, 6, 7, 8, 9, 10, 11, 12, 13, 14, 15, 18, 19, 16] rfl rfl (Or.inr rfl) (trivial) dX10_look_40
    · refine k_it (v := 4) rfl ?_
      refine r_aald (C := RX8) (b := (an 5)) S G 2 3 rfl rfl (k_vp (by decide)) rfl dX10_look_24 ?_
      refine lv_iconst (v := 1) zx zb dX10_look_25 (by decide) ?_
      refine lv_aload_n zx zb dX10_look_26 rfl (lv_at hl 0 rfl) ?_
      refine r_get (C := RX10) (T := TX10) (N := 14) (ci := 8) (v := .ref nw) S in_X10_look_X10 G 0 rfl rfl 0 (by decide) lk_X10_look_10 rfl dX10_look_27 ?_
      refine lv_iload_n zx zb dX10_look_30 rfl (lv_at hl 1 rfl) ?_
      refine o_ri (cells' := 0) (slots' := 0) G rfl rfl (n_V (As := [.int 4]) (rest := [.int 1, .ref (an 5), .ref h0]) (C := RX5) (T := TX5) (N := 8) (ci := 3) S G (s_kindsThatFit l X nw an v b g 4 hI_b (by omega) H.size) gX10_look_X5_kindsThatFit rfl rfl rfl hdV_X5_kindsThatFit ⟨Nat.le_of_ble_eq_true rfl, Nat.le_of_ble_eq_true rfl⟩ [1, 2, 3, 4, 5, 6, 7, 8, 9, 10, 11, 12, 13, 14, 15, 16] rfl rfl 1 rfl rfl rfl hl.1 (Nat.le_of_ble_eq_true rfl) dX10_look_31 ⟨Nat.le_of_ble_eq_true rfl, Nat.le_of_ble_eq_true rfl⟩) (fun r_11 u_11 H locs hp_11 G => ?_)
      have G : wd X (va_A (xW h0 nw sp xa la lb ++ rcW X nw an v b g ++ [((xa 10), .inr (7, [.ref hc, .int tm])), (hc, .inl (X.2.1, 16, .inl tf))] ++ [((xa 5), .inl (X.2.1, 3, .inl fr))]) sz) (va_A (xW h0 nw sp xa la lb ++ rcW X nw an v b g ++ [((xa 10), .inr (7, [.ref hc, .int tm])), (hc, .inl (X.2.1, 16, .inl tf))] ++ [((xa 5), .inl (X.2.1, 3, .inl fr))]) sz) s (xW h0 nw sp xa la lb ++ rcW X nw an v b g ++ [((xa 10), .inr (7, [.ref hc, .int tm])), (hc, .inl (X.2.1, 16, .inl tf))] ++ [((xa 5), .inl (X.2.1, 3, .inl fr))]) H locs := G
      refine lv_sipush (v := 200) zx zb dX10_look_34 (by decide) ?_
      refine b_wi (cells' := 0) (slots' := 0) (wr := [(nw, .inr (3, [.int (v 0), .int (v 1), .int (nI (b 0)), .ref (an 0), .ref (an 7), .ref (an 9), .ref (an 11), .ref (an 13)])), ((an 0), .inl (X.2.2.2.2, 6, .inr (.inr (.inr (.inr (rowQ an)))))), ((an 1), .inr (6, [.int (v 10), .int (v 11), .int (v 12), .int (v 13), .int (v 14), .int (v 15), .int (v 16), .int (v 17)])), ((an 2), .inr (6, [.int (v 18), .int (v 19), .int (v 20), .int (v 21), .int (v 22), .int (v 23), .int (v 24), .int (v 25)])), ((an 3), .inr (6, [.int (v 26), .int (v 27), .int (v 28), .int (v 29), .int (v 30), .int (v 31), .int (v 32), .int (v 33)])), ((an 4), .inr (6, [.int (v 34), .int (v 35), .int (v 36), .int (v 37), .int (v 38), .int (v 39), .int (v 40), .int (v 41)])), ((an 6), .inr (6, [.int (v 50), .int (v 51), .int (v 52), .int (v 53), .int (v 54), .int (v 55), .int (v 56), .int (v 57)])), ((an 7), .inr (2, [.ref (an 8), .int (nI (b 1))])), ((an 8), .inl (X.2.1, 248, .inl (g 0))), ((an 9), .inr (5, [.int 5, .int 0, .int 1, .ref (an 10), .int (nI (b 2))])), ((an 10), .inl (X.2.1, 25, .inl (g 1))), ((an 11), .inr (5, [.int 6, .int 1, .int 1, .ref (an 12), .int (nI (b 3))])), ((an 12), .inl (X.2.1, 30, .inl (g 2))), ((an 13), .inr (5, [.int 6, .int 0, .int 0, .ref (an 14), .int (nI (b 4))])), ((an 14), .inl (X.2.1, 30, .inl (g 3)))] ++ [((xa 5), .inl (X.2.1, 3, .inl fr))]) G rfl rfl [0, 17, 18, 7] [1, 2, 3, 4, 5, 6, 8, 9, 10, 11, 12, 13, 14, 15, 16, 19] rfl rfl rfl rfl (n_V (As := [.ref (an 5), .int 1, .int r_11, .int 200]) (rest := []) (C := RX10) (T := TX10) (N := 14) (ci := 8) S G (s_nextLook1 l X h0 nw sp xa la lb hc tm tf (an 5) (fun k => v (42 + k)) r_11 H.size) gX10_look_X10_nextLook rfl rfl rfl hdV_X10_nextLook ⟨Nat.le_of_ble_eq_true rfl, Nat.le_of_ble_eq_true rfl⟩ [0, 17, 18, 7] rfl rfl 0 rfl rfl rfl hl.1 (Nat.le_of_ble_eq_true rfl) dX10_look_37 ⟨Nat.le_of_ble_eq_true rfl, Nat.le_of_ble_eq_true rfl⟩) (fun r_12 u_12 H locs hp_12 G => ?_)
      obtain ⟨m_12a, f_12b⟩ := u_12
      have hq_12 := hp_12
      have G : wd X (va_A (xW h0 nw sp xa la lb ++ rcW X nw an v b g ++ [((xa 10), .inr (7, [.ref hc, .int tm])), (hc, .inl (X.2.1, 16, .inl tf))] ++ [((xa 5), .inl (X.2.1, 3, .inl fr))]) sz) (va_A (xW h0 nw sp xa la lb ++ rcW X nw an v b g ++ [((xa 10), .inr (7, [.ref hc, .int tm])), (hc, .inl (X.2.1, 16, .inl tf))] ++ [((xa 5), .inl (X.2.1, 3, .inl fr))]) sz) s (rcW X nw an v b g ++ [((xa 5), .inl (X.2.1, 3, .inl fr))] ++ xW h0 nw sp xa la lb ++ [((xa 10), .inr (7, [.ref hc, .int m_12a])), (hc, .inl (X.2.1, 16, .inl f_12b))]) H locs := wd_sub G [0, 1, 2, 3, 4, 5, 19, 6, 7, 8, 9, 10, 11, 12, 13, 14, 15, 16, 17, 18] rfl rfl
      exact e_int S zr zlk (vp_nar_int _) G (m_12a, f_12b, fr) [17, 0, 1, 2, 3, 4, 5, 6, 7, 8, 9, 10, 11, 12, 13, 14, 15, 18, 19, 16] rfl rfl (Or.inr rfl) (trivial) dX10_look_40
    · refine k_it (v := 5) rfl ?_
      refine r_aald (C := RX8) (b := (an 6)) S G 2 3 rfl rfl (k_vp (by decide)) rfl dX10_look_24 ?_
      refine lv_iconst (v := 1) zx zb dX10_look_25 (by decide) ?_
      refine lv_aload_n zx zb dX10_look_26 rfl (lv_at hl 0 rfl) ?_
      refine r_get (C := RX10) (T := TX10) (N := 14) (ci := 8) (v := .ref nw) S in_X10_look_X10 G 0 rfl rfl 0 (by decide) lk_X10_look_10 rfl dX10_look_27 ?_
      refine lv_iload_n zx zb dX10_look_30 rfl (lv_at hl 1 rfl) ?_
      refine o_ri (cells' := 0) (slots' := 0) G rfl rfl (n_V (As := [.int 5]) (rest := [.int 1, .ref (an 6), .ref h0]) (C := RX5) (T := TX5) (N := 8) (ci := 3) S G (s_kindsThatFit l X nw an v b g 5 hI_b (by omega) H.size) gX10_look_X5_kindsThatFit rfl rfl rfl hdV_X5_kindsThatFit ⟨Nat.le_of_ble_eq_true rfl, Nat.le_of_ble_eq_true rfl⟩ [1, 2, 3, 4, 5, 6, 7, 8, 9, 10, 11, 12, 13, 14, 15, 16] rfl rfl 1 rfl rfl rfl hl.1 (Nat.le_of_ble_eq_true rfl) dX10_look_31 ⟨Nat.le_of_ble_eq_true rfl, Nat.le_of_ble_eq_true rfl⟩) (fun r_13 u_13 H locs hp_13 G => ?_)
      have G : wd X (va_A (xW h0 nw sp xa la lb ++ rcW X nw an v b g ++ [((xa 10), .inr (7, [.ref hc, .int tm])), (hc, .inl (X.2.1, 16, .inl tf))] ++ [((xa 5), .inl (X.2.1, 3, .inl fr))]) sz) (va_A (xW h0 nw sp xa la lb ++ rcW X nw an v b g ++ [((xa 10), .inr (7, [.ref hc, .int tm])), (hc, .inl (X.2.1, 16, .inl tf))] ++ [((xa 5), .inl (X.2.1, 3, .inl fr))]) sz) s (xW h0 nw sp xa la lb ++ rcW X nw an v b g ++ [((xa 10), .inr (7, [.ref hc, .int tm])), (hc, .inl (X.2.1, 16, .inl tf))] ++ [((xa 5), .inl (X.2.1, 3, .inl fr))]) H locs := G
      refine lv_sipush (v := 200) zx zb dX10_look_34 (by decide) ?_
      refine b_wi (cells' := 0) (slots' := 0) (wr := [(nw, .inr (3, [.int (v 0), .int (v 1), .int (nI (b 0)), .ref (an 0), .ref (an 7), .ref (an 9), .ref (an 11), .ref (an 13)])), ((an 0), .inl (X.2.2.2.2, 6, .inr (.inr (.inr (.inr (rowQ an)))))), ((an 1), .inr (6, [.int (v 10), .int (v 11), .int (v 12), .int (v 13), .int (v 14), .int (v 15), .int (v 16), .int (v 17)])), ((an 2), .inr (6, [.int (v 18), .int (v 19), .int (v 20), .int (v 21), .int (v 22), .int (v 23), .int (v 24), .int (v 25)])), ((an 3), .inr (6, [.int (v 26), .int (v 27), .int (v 28), .int (v 29), .int (v 30), .int (v 31), .int (v 32), .int (v 33)])), ((an 4), .inr (6, [.int (v 34), .int (v 35), .int (v 36), .int (v 37), .int (v 38), .int (v 39), .int (v 40), .int (v 41)])), ((an 5), .inr (6, [.int (v 42), .int (v 43), .int (v 44), .int (v 45), .int (v 46), .int (v 47), .int (v 48), .int (v 49)])), ((an 7), .inr (2, [.ref (an 8), .int (nI (b 1))])), ((an 8), .inl (X.2.1, 248, .inl (g 0))), ((an 9), .inr (5, [.int 5, .int 0, .int 1, .ref (an 10), .int (nI (b 2))])), ((an 10), .inl (X.2.1, 25, .inl (g 1))), ((an 11), .inr (5, [.int 6, .int 1, .int 1, .ref (an 12), .int (nI (b 3))])), ((an 12), .inl (X.2.1, 30, .inl (g 2))), ((an 13), .inr (5, [.int 6, .int 0, .int 0, .ref (an 14), .int (nI (b 4))])), ((an 14), .inl (X.2.1, 30, .inl (g 3)))] ++ [((xa 5), .inl (X.2.1, 3, .inl fr))]) G rfl rfl [0, 17, 18, 8] [1, 2, 3, 4, 5, 6, 7, 9, 10, 11, 12, 13, 14, 15, 16, 19] rfl rfl rfl rfl (n_V (As := [.ref (an 6), .int 1, .int r_13, .int 200]) (rest := []) (C := RX10) (T := TX10) (N := 14) (ci := 8) S G (s_nextLook1 l X h0 nw sp xa la lb hc tm tf (an 6) (fun k => v (50 + k)) r_13 H.size) gX10_look_X10_nextLook rfl rfl rfl hdV_X10_nextLook ⟨Nat.le_of_ble_eq_true rfl, Nat.le_of_ble_eq_true rfl⟩ [0, 17, 18, 8] rfl rfl 0 rfl rfl rfl hl.1 (Nat.le_of_ble_eq_true rfl) dX10_look_37 ⟨Nat.le_of_ble_eq_true rfl, Nat.le_of_ble_eq_true rfl⟩) (fun r_14 u_14 H locs hp_14 G => ?_)
      obtain ⟨m_14a, f_14b⟩ := u_14
      have hq_14 := hp_14
      have G : wd X (va_A (xW h0 nw sp xa la lb ++ rcW X nw an v b g ++ [((xa 10), .inr (7, [.ref hc, .int tm])), (hc, .inl (X.2.1, 16, .inl tf))] ++ [((xa 5), .inl (X.2.1, 3, .inl fr))]) sz) (va_A (xW h0 nw sp xa la lb ++ rcW X nw an v b g ++ [((xa 10), .inr (7, [.ref hc, .int tm])), (hc, .inl (X.2.1, 16, .inl tf))] ++ [((xa 5), .inl (X.2.1, 3, .inl fr))]) sz) s (rcW X nw an v b g ++ [((xa 5), .inl (X.2.1, 3, .inl fr))] ++ xW h0 nw sp xa la lb ++ [((xa 10), .inr (7, [.ref hc, .int m_14a])), (hc, .inl (X.2.1, 16, .inl f_14b))]) H locs := wd_sub G [0, 1, 2, 3, 4, 5, 6, 19, 7, 8, 9, 10, 11, 12, 13, 14, 15, 16, 17, 18] rfl rfl
      exact e_int S zr zlk (vp_nar_int _) G (m_14a, f_14b, fr) [17, 0, 1, 2, 3, 4, 5, 6, 7, 8, 9, 10, 11, 12, 13, 14, 15, 18, 19, 16] rfl rfl (Or.inr rfl) (trivial) dX10_look_40
  · refine lv_if_ne (tgt := 15) zx zb dX10_look_5 (by decide) (fun c_15 => absurd (by decide) c_15) (fun c_15 => ?_)
    refine lv_aload_n zx zb dX10_look_8 rfl (lv_at hl 0 rfl) ?_
    refine lv_bipush (v := (-2)) zx zb dX10_look_9 (by decide) ?_
    refine b_wi (cells' := 0) (slots' := 0) (wr := rcW X nw an v b g ++ [((xa 10), .inr (7, [.ref hc, .int tm])), (hc, .inl (X.2.1, 16, .inl tf))]) G rfl rfl [0, 19] [1, 2, 3, 4, 5, 6, 7, 8, 9, 10, 11, 12, 13, 14, 15, 16, 17, 18] rfl rfl rfl rfl (n_V (As := [.int (-2)]) (rest := []) (C := RX10) (T := TX10) (N := 14) (ci := 8) S G (s_refuse l X h0 nw sp xa la lb fr (-2) H.size) gX10_look_X10_refuse rfl rfl rfl hdV_X10_refuse ⟨Nat.le_of_ble_eq_true rfl, Nat.le_of_ble_eq_true rfl⟩ [0, 19] rfl rfl 0 rfl rfl rfl hl.1 (Nat.le_of_ble_eq_true rfl) dX10_look_11 ⟨Nat.le_of_ble_eq_true rfl, Nat.le_of_ble_eq_true rfl⟩) (fun r_16 u_16 H locs hp_16 G => ?_)
    obtain ⟨f_16, rfl⟩ : ∃ z, z = u_16 := ⟨_, rfl⟩
    have hq_16 := hp_16
    have G : wd X (va_A (xW h0 nw sp xa la lb ++ rcW X nw an v b g ++ [((xa 10), .inr (7, [.ref hc, .int tm])), (hc, .inl (X.2.1, 16, .inl tf))] ++ [((xa 5), .inl (X.2.1, 3, .inl fr))]) sz) (va_A (xW h0 nw sp xa la lb ++ rcW X nw an v b g ++ [((xa 10), .inr (7, [.ref hc, .int tm])), (hc, .inl (X.2.1, 16, .inl tf))] ++ [((xa 5), .inl (X.2.1, 3, .inl fr))]) sz) s (rcW X nw an v b g ++ [((xa 10), .inr (7, [.ref hc, .int tm])), (hc, .inl (X.2.1, 16, .inl tf))] ++ xW h0 nw sp xa la lb ++ [((xa 5), .inl (X.2.1, 3, .inl f_16))]) H locs := G
    exact e_int S zr zlk (vp_nar_int _) G (tm, tf, f_16) [18, 0, 1, 2, 3, 4, 5, 6, 7, 8, 9, 10, 11, 12, 13, 14, 15, 16, 17, 19] rfl rfl (Or.inr rfl) (trivial) dX10_look_14
theorem in_X10_ask_X10 : ∀ w ∈ wsX100, w ∈ wsX10_ask := by decide +kernel
theorem lk_X10_ask_10 : Cond.fieldLink RX10 10 "EggSpoons" "now" "LEggSpoons$Race;" ∈ wsX10_ask := by decide +kernel
theorem in_X10_ask_X5 : ∀ w ∈ wsX50, w ∈ wsX10_ask := by decide +kernel
theorem lk_X10_ask_126 : Cond.fieldLink RX10 126 "EggSpoons$Race" "row" "[LEggSpoons$Runner;" ∈ wsX10_ask := by decide +kernel
set_option maxHeartbeats 4000000 in
set_option maxRecDepth 100000 in
/-- ask -/
theorem s_ask (l : Launch) (X : EX) (h0 : Nat) (nw : Nat) (sp : Nat) (xa : Nat → Nat) (la : Int64) (lb : Int64) (an : Nat → Nat) (v : Nat → Int32) (b : Nat → Nat) (g : Nat → Nat → Int32) (hc : Nat) (tm : Int32) (tf : Nat → Int32) (fr : Nat → Int32) (x1 : Int32) (hI_b : InR b) (sz : Nat) : Met l yX10_ask wsX10_ask ({ frames := 4, cells := 0, slots := 0, locals := 100 } : Room) (pE X [.ref h0, .int x1] (xW h0 nw sp xa la lb ++ rcW X nw an v b g ++ [((xa 10), .inr (7, [.ref hc, .int tm])), (hc, .inl (X.2.1, 16, .inl tf))] ++ [((xa 5), .inl (X.2.1, 3, .inl fr))]) sz) (qI (fun (r : Int32) (u : (Int32) × (Nat → Int32) × (Nat → Int32)) => (True)) X (fun (u : (Int32) × (Nat → Int32) × (Nat → Int32)) => xW h0 nw sp xa la lb ++ rcW X nw an v b g ++ [((xa 10), .inr (7, [.ref hc, .int u.1])), (hc, .inl (X.2.1, 16, .inl u.2.1))] ++ [((xa 5), .inl (X.2.1, 3, .inl u.2.2))]) (xW h0 nw sp xa la lb ++ rcW X nw an v b g ++ [((xa 10), .inr (7, [.ref hc, .int tm])), (hc, .inl (X.2.1, 16, .inl tf))] ++ [((xa 5), .inl (X.2.1, 3, .inl fr))]) sz) 0 0 (va_A (xW h0 nw sp xa la lb ++ rcW X nw an v b g ++ [((xa 10), .inr (7, [.ref hc, .int tm])), (hc, .inl (X.2.1, 16, .inl tf))] ++ [((xa 5), .inl (X.2.1, 3, .inl fr))]) sz) := by
  refine mk_met (B := (va_A (xW h0 nw sp xa la lb ++ rcW X nw an v b g ++ [((xa 10), .inr (7, [.ref hc, .int tm])), (hc, .inl (X.2.1, 16, .inl tf))] ++ [((xa 5), .inl (X.2.1, 3, .inl fr))]) sz)) (A := (va_A (xW h0 nw sp xa la lb ++ rcW X nw an v b g ++ [((xa 10), .inr (7, [.ref hc, .int tm])), (hc, .inl (X.2.1, 16, .inl tf))] ++ [((xa 5), .inl (X.2.1, 3, .inl fr))]) sz)) (cc := cX10_ask) (maxL := 2) (ret := (some .int)) (by decide) rfl (Nat.le_of_ble_eq_true rfl) k_w k_a (fun p e s m below meth c S zr zlk znm zsz G ls hl => ?_)
  have S : CallFix p m c cX10_ask 2 s _ wsX10_ask RX10 := S
  have zx := S.1
  have zb := S.2.1
  have hl : lv_has ls 2 [(0, .ref h0), (1, .int x1)] := hl
  have hO_b := hI_b
  obtain ⟨hb0_b, hb1_b, hb2_b, hb3_b, hb4_b⟩ := hO_b
  refine lv_aload_n zx zb dX10_ask_0 rfl (lv_at hl 0 rfl) ?_
  refine lv_iload_n zx zb dX10_ask_1 rfl (lv_at hl 1 rfl) ?_
  refine o_ri (cells' := 0) (slots' := 0) G rfl rfl (n_V (As := [.int x1]) (rest := []) (C := RX10) (T := TX10) (N := 14) (ci := 8) S G (s_there l X h0 nw sp xa la lb an v b g x1 hI_b s.heap.size) gX10_ask_X10_there rfl rfl rfl hdV_X10_there ⟨Nat.le_of_ble_eq_true rfl, Nat.le_of_ble_eq_true rfl⟩ [0, 1, 2, 3, 4, 5, 6, 7, 8, 9, 10, 11, 12, 13, 14, 15, 16] rfl rfl 0 rfl rfl rfl hl.1 (Nat.le_of_ble_eq_true rfl) dX10_ask_2 ⟨Nat.le_of_ble_eq_true rfl, Nat.le_of_ble_eq_true rfl⟩) (fun r_1 u_1 H locs hp_1 G => ?_)
  have G : wd X (va_A (xW h0 nw sp xa la lb ++ rcW X nw an v b g ++ [((xa 10), .inr (7, [.ref hc, .int tm])), (hc, .inl (X.2.1, 16, .inl tf))] ++ [((xa 5), .inl (X.2.1, 3, .inl fr))]) sz) (va_A (xW h0 nw sp xa la lb ++ rcW X nw an v b g ++ [((xa 10), .inr (7, [.ref hc, .int tm])), (hc, .inl (X.2.1, 16, .inl tf))] ++ [((xa 5), .inl (X.2.1, 3, .inl fr))]) sz) s (xW h0 nw sp xa la lb ++ rcW X nw an v b g ++ [((xa 10), .inr (7, [.ref hc, .int tm])), (hc, .inl (X.2.1, 16, .inl tf))] ++ [((xa 5), .inl (X.2.1, 3, .inl fr))]) H locs := G
  rcases hp_1 with ⟨rfl, hj_1⟩ | rfl
  · obtain ⟨j_1, hj_1, rfl⟩ := hj_1
    refine lv_if_ne (tgt := 15) zx zb dX10_ask_5 (by decide) (fun c_2 => ?_) (fun c_2 => absurd c_2 (by decide))
    refine lv_aload_n zx zb dX10_ask_15 rfl (lv_at hl 0 rfl) ?_
    refine lv_aload_n zx zb dX10_ask_16 rfl (lv_at hl 0 rfl) ?_
    refine r_get (C := RX10) (T := TX10) (N := 14) (ci := 8) (v := .ref nw) S in_X10_ask_X10 G 0 rfl rfl 0 (by decide) lk_X10_ask_10 rfl dX10_ask_17 ?_
    refine r_get (C := RX5) (T := TX5) (N := 8) (ci := 3) (v := .ref (an 0)) S in_X10_ask_X5 G 1 rfl rfl 3 (by decide) lk_X10_ask_126 rfl dX10_ask_20 ?_
    refine lv_iload_n zx zb dX10_ask_23 rfl (lv_at hl 1 rfl) ?_
    rcases k_6c (show j_1 < 6 by omega) with rfl | rfl | rfl | rfl | rfl | rfl
    · refine k_it (v := 0) rfl ?_
      refine r_aald (C := RX8) (b := (an 1)) S G 2 3 rfl rfl (k_vp (by decide)) rfl dX10_ask_24 ?_
      refine lv_iconst (v := 2) zx zb dX10_ask_25 (by decide) ?_
      refine lv_aload_n zx zb dX10_ask_26 rfl (lv_at hl 0 rfl) ?_
      refine r_get (C := RX10) (T := TX10) (N := 14) (ci := 8) (v := .ref nw) S in_X10_ask_X10 G 0 rfl rfl 0 (by decide) lk_X10_ask_10 rfl dX10_ask_27 ?_
      refine lv_iload_n zx zb dX10_ask_30 rfl (lv_at hl 1 rfl) ?_
      refine o_ri (cells' := 0) (slots' := 0) G rfl rfl (n_V (As := [.int 0]) (rest := [.int 2, .ref (an 1), .ref h0]) (C := RX5) (T := TX5) (N := 8) (ci := 3) S G (s_eggsThatFit l X nw an v b g 0 hI_b (by omega) H.size) gX10_ask_X5_eggsThatFit rfl rfl rfl hdV_X5_eggsThatFit ⟨Nat.le_of_ble_eq_true rfl, Nat.le_of_ble_eq_true rfl⟩ [1, 2, 3, 4, 5, 6, 7, 8, 9, 10, 11, 12, 13, 14, 15, 16] rfl rfl 1 rfl rfl rfl hl.1 (Nat.le_of_ble_eq_true rfl) dX10_ask_31 ⟨Nat.le_of_ble_eq_true rfl, Nat.le_of_ble_eq_true rfl⟩) (fun r_3 u_3 H locs hp_3 G => ?_)
      have G : wd X (va_A (xW h0 nw sp xa la lb ++ rcW X nw an v b g ++ [((xa 10), .inr (7, [.ref hc, .int tm])), (hc, .inl (X.2.1, 16, .inl tf))] ++ [((xa 5), .inl (X.2.1, 3, .inl fr))]) sz) (va_A (xW h0 nw sp xa la lb ++ rcW X nw an v b g ++ [((xa 10), .inr (7, [.ref hc, .int tm])), (hc, .inl (X.2.1, 16, .inl tf))] ++ [((xa 5), .inl (X.2.1, 3, .inl fr))]) sz) s (xW h0 nw sp xa la lb ++ rcW X nw an v b g ++ [((xa 10), .inr (7, [.ref hc, .int tm])), (hc, .inl (X.2.1, 16, .inl tf))] ++ [((xa 5), .inl (X.2.1, 3, .inl fr))]) H locs := G
      refine lv_bipush (v := 20) zx zb dX10_ask_34 (by decide) ?_
      refine b_wi (cells' := 0) (slots' := 0) (wr := [(nw, .inr (3, [.int (v 0), .int (v 1), .int (nI (b 0)), .ref (an 0), .ref (an 7), .ref (an 9), .ref (an 11), .ref (an 13)])), ((an 0), .inl (X.2.2.2.2, 6, .inr (.inr (.inr (.inr (rowQ an)))))), ((an 2), .inr (6, [.int (v 18), .int (v 19), .int (v 20), .int (v 21), .int (v 22), .int (v 23), .int (v 24), .int (v 25)])), ((an 3), .inr (6, [.int (v 26), .int (v 27), .int (v 28), .int (v 29), .int (v 30), .int (v 31), .int (v 32), .int (v 33)])), ((an 4), .inr (6, [.int (v 34), .int (v 35), .int (v 36), .int (v 37), .int (v 38), .int (v 39), .int (v 40), .int (v 41)])), ((an 5), .inr (6, [.int (v 42), .int (v 43), .int (v 44), .int (v 45), .int (v 46), .int (v 47), .int (v 48), .int (v 49)])), ((an 6), .inr (6, [.int (v 50), .int (v 51), .int (v 52), .int (v 53), .int (v 54), .int (v 55), .int (v 56), .int (v 57)])), ((an 7), .inr (2, [.ref (an 8), .int (nI (b 1))])), ((an 8), .inl (X.2.1, 248, .inl (g 0))), ((an 9), .inr (5, [.int 5, .int 0, .int 1, .ref (an 10), .int (nI (b 2))])), ((an 10), .inl (X.2.1, 25, .inl (g 1))), ((an 11), .inr (5, [.int 6, .int 1, .int 1, .ref (an 12), .int (nI (b 3))])), ((an 12), .inl (X.2.1, 30, .inl (g 2))), ((an 13), .inr (5, [.int 6, .int 0, .int 0, .ref (an 14), .int (nI (b 4))])), ((an 14), .inl (X.2.1, 30, .inl (g 3)))] ++ [((xa 5), .inl (X.2.1, 3, .inl fr))]) G rfl rfl [0, 17, 18, 3] [1, 2, 4, 5, 6, 7, 8, 9, 10, 11, 12, 13, 14, 15, 16, 19] rfl rfl rfl rfl (n_V (As := [.ref (an 1), .int 2, .int r_3, .int 20]) (rest := []) (C := RX10) (T := TX10) (N := 14) (ci := 8) S G (s_nextLook2 l X h0 nw sp xa la lb hc tm tf (an 1) (fun k => v (10 + k)) r_3 H.size) gX10_ask_X10_nextLook rfl rfl rfl hdV_X10_nextLook ⟨Nat.le_of_ble_eq_true rfl, Nat.le_of_ble_eq_true rfl⟩ [0, 17, 18, 3] rfl rfl 0 rfl rfl rfl hl.1 (Nat.le_of_ble_eq_true rfl) dX10_ask_36 ⟨Nat.le_of_ble_eq_true rfl, Nat.le_of_ble_eq_true rfl⟩) (fun r_4 u_4 H locs hp_4 G => ?_)
      obtain ⟨m_4a, f_4b⟩ := u_4
      have hq_4 := hp_4
      have G : wd X (va_A (xW h0 nw sp xa la lb ++ rcW X nw an v b g ++ [((xa 10), .inr (7, [.ref hc, .int tm])), (hc, .inl (X.2.1, 16, .inl tf))] ++ [((xa 5), .inl (X.2.1, 3, .inl fr))]) sz) (va_A (xW h0 nw sp xa la lb ++ rcW X nw an v b g ++ [((xa 10), .inr (7, [.ref hc, .int tm])), (hc, .inl (X.2.1, 16, .inl tf))] ++ [((xa 5), .inl (X.2.1, 3, .inl fr))]) sz) s (rcW X nw an v b g ++ [((xa 5), .inl (X.2.1, 3, .inl fr))] ++ xW h0 nw sp xa la lb ++ [((xa 10), .inr (7, [.ref hc, .int m_4a])), (hc, .inl (X.2.1, 16, .inl f_4b))]) H locs := wd_sub G [0, 1, 19, 2, 3, 4, 5, 6, 7, 8, 9, 10, 11, 12, 13, 14, 15, 16, 17, 18] rfl rfl
      exact e_int S zr zlk (vp_nar_int _) G (m_4a, f_4b, fr) [17, 0, 1, 2, 3, 4, 5, 6, 7, 8, 9, 10, 11, 12, 13, 14, 15, 18, 19, 16] rfl rfl (Or.inr rfl) (trivial) dX10_ask_39
    · refine k_it (v := 1) rfl ?_
      refine r_aald (C := RX8) (b := (an 2)) S G 2 3 rfl rfl (k_vp (by decide)) rfl dX10_ask_24 ?_
      refine lv_iconst (v := 2) zx zb dX10_ask_25 (by decide) ?_
      refine lv_aload_n zx zb dX10_ask_26 rfl (lv_at hl 0 rfl) ?_
      refine r_get (C := RX10) (T := TX10) (N := 14) (ci := 8) (v := .ref nw) S in_X10_ask_X10 G 0 rfl rfl 0 (by decide) lk_X10_ask_10 rfl dX10_ask_27 ?_
      refine lv_iload_n zx zb dX10_ask_30 rfl (lv_at hl 1 rfl) ?_
      refine o_ri (cells' := 0) (slots' := 0) G rfl rfl (n_V (As := [.int 1]) (rest := [.int 2, .ref (an 2), .ref h0]) (C := RX5) (T := TX5) (N := 8) (ci := 3) S G (s_eggsThatFit l X nw an v b g 1 hI_b (by omega) H.size) gX10_ask_X5_eggsThatFit rfl rfl rfl hdV_X5_eggsThatFit ⟨Nat.le_of_ble_eq_true rfl, Nat.le_of_ble_eq_true rfl⟩ [1, 2, 3, 4, 5, 6, 7, 8, 9, 10, 11, 12, 13, 14, 15, 16] rfl rfl 1 rfl rfl rfl hl.1 (Nat.le_of_ble_eq_true rfl) dX10_ask_31 ⟨Nat.le_of_ble_eq_true rfl, Nat.le_of_ble_eq_true rfl⟩) (fun r_5 u_5 H locs hp_5 G => ?_)
      have G : wd X (va_A (xW h0 nw sp xa la lb ++ rcW X nw an v b g ++ [((xa 10), .inr (7, [.ref hc, .int tm])), (hc, .inl (X.2.1, 16, .inl tf))] ++ [((xa 5), .inl (X.2.1, 3, .inl fr))]) sz) (va_A (xW h0 nw sp xa la lb ++ rcW X nw an v b g ++ [((xa 10), .inr (7, [.ref hc, .int tm])), (hc, .inl (X.2.1, 16, .inl tf))] ++ [((xa 5), .inl (X.2.1, 3, .inl fr))]) sz) s (xW h0 nw sp xa la lb ++ rcW X nw an v b g ++ [((xa 10), .inr (7, [.ref hc, .int tm])), (hc, .inl (X.2.1, 16, .inl tf))] ++ [((xa 5), .inl (X.2.1, 3, .inl fr))]) H locs := G
      refine lv_bipush (v := 20) zx zb dX10_ask_34 (by decide) ?_
      refine b_wi (cells' := 0) (slots' := 0) (wr := [(nw, .inr (3, [.int (v 0), .int (v 1), .int (nI (b 0)), .ref (an 0), .ref (an 7), .ref (an 9), .ref (an 11), .ref (an 13)])), ((an 0), .inl (X.2.2.2.2, 6, .inr (.inr (.inr (.inr (rowQ an)))))), ((an 1), .inr (6, [.int (v 10), .int (v 11), .int (v 12), .int (v 13), .int (v 14), .int (v 15), .int (v 16), .int (v 17)])), ((an 3), .inr (6, [.int (v 26), .int (v 27), .int (v 28), .int (v 29), .int (v 30), .int (v 31), .int (v 32), .int (v 33)])), ((an 4), .inr (6, [.int (v 34), .int (v 35), .int (v 36), .int (v 37), .int (v 38), .int (v 39), .int (v 40), .int (v 41)])), ((an 5), .inr (6, [.int (v 42), .int (v 43), .int (v 44), .int (v 45), .int (v 46), .int (v 47), .int (v 48), .int (v 49)])), ((an 6), .inr (6, [.int (v 50), .int (v 51), .int (v 52), .int (v 53), .int (v 54), .int (v 55), .int (v 56), .int (v 57)])), ((an 7), .inr (2, [.ref (an 8), .int (nI (b 1))])), ((an 8), .inl (X.2.1, 248, .inl (g 0))), ((an 9), .inr (5, [.int 5, .int 0, .int 1, .ref (an 10), .int (nI (b 2))])), ((an 10), .inl (X.2.1, 25, .inl (g 1))), ((an 11), .inr (5, [.int 6, .int 1, .int 1, .ref (an 12), .int (nI (b 3))])), ((an 12), .inl (X.2.1, 30, .inl (g 2))), ((an 13), .inr (5, [.int 6, .int 0, .int 0, .ref (an 14), .int (nI (b 4))])), ((an 14), .inl (X.2.1, 30, .inl (g 3)))] ++ [((xa 5), .inl (X.2.1, 3, .inl fr))]) G rfl rfl [0, 17, 18, 4] [1, 2, 3, 5, 6, 7, 8, 9, 10, 11, 12, 13, 14, 15, 16, 19] rfl rfl rfl rfl (n_V (As := [.ref (an 2), .int 2, .int r_5, .int 20]) (rest := []) (C := RX10) (T := TX10) (N := 14) (ci := 8) S G (s_nextLook2 l X h0 nw sp xa la lb hc tm tf (an 2) (fun k => v (18 + k)) r_5 H.size) gX10_ask_X10_nextLook rfl rfl rfl hdV_X10_nextLook ⟨Nat.le_of_ble_eq_true rfl, Nat.le_of_ble_eq_true rfl⟩ [0, 17, 18, 4] rfl rfl 0 rfl rfl rfl hl.1 (Nat.le_of_ble_eq_true rfl) dX10_ask_36 ⟨Nat.le_of_ble_eq_true rfl, Nat.le_of_ble_eq_true rfl⟩) (fun r_6 u_6 H locs hp_6 G => ?_)
      obtain ⟨m_6a, f_6b⟩ := u_6
      have hq_6 := hp_6
      have G : wd X (va_A (xW h0 nw sp xa la lb ++ rcW X nw an v b g ++ [((xa 10), .inr (7, [.ref hc, .int tm])), (hc, .inl (X.2.1, 16, .inl tf))] ++ [((xa 5), .inl (X.2.1, 3, .inl fr))]) sz) (va_A (xW h0 nw sp xa la lb ++ rcW X nw an v b g ++ [((xa 10), .inr (7, [.ref hc, .int tm])), (hc, .inl (X.2.1, 16, .inl tf))] ++ [((xa 5), .inl (X.2.1, 3, .inl fr))]) sz) s (rcW X nw an v b g ++ [((xa 5), .inl (X.2.1, 3, .inl fr))] ++ xW h0 nw sp xa la lb ++ [((xa 10), .inr (7, [.ref hc, .int m_6a])), (hc, .inl (X.2.1, 16, .inl f_6b))]) H locs := wd_sub G [0, 1, 2, 19, 3, 4, 5, 6, 7, 8, 9, 10, 11, 12, 13, 14, 15, 16, 17, 18] rfl rfl
      exact e_int S zr zlk (vp_nar_int _) G (m_6a, f_6b, fr) [17, 0, 1, 2, 3, 4, 5, 6, 7, 8, 9, 10, 11, 12, 13, 14, 15, 18, 19, 16] rfl rfl (Or.inr rfl) (trivial) dX10_ask_39
    · refine k_it (v := 2) rfl ?_
      refine r_aald (C := RX8) (b := (an 3)) S G 2 3 rfl rfl (k_vp (by decide)) rfl dX10_ask_24 ?_
      refine lv_iconst (v := 2) zx zb dX10_ask_25 (by decide) ?_
      refine lv_aload_n zx zb dX10_ask_26 rfl (lv_at hl 0 rfl) ?_
      refine r_get (C := RX10) (T := TX10) (N := 14) (ci := 8) (v := .ref nw) S in_X10_ask_X10 G 0 rfl rfl 0 (by decide) lk_X10_ask_10 rfl dX10_ask_27 ?_
      refine lv_iload_n zx zb dX10_ask_30 rfl (lv_at hl 1 rfl) ?_
      refine o_ri (cells' := 0) (slots' := 0) G rfl rfl (n_V (As := [.int 2]) (rest := [.int 2, .ref (an 3), .ref h0]) (C := RX5) (T := TX5) (N := 8) (ci := 3) S G (s_eggsThatFit l X nw an v b g 2 hI_b (by omega) H.size) gX10_ask_X5_eggsThatFit rfl rfl rfl hdV_X5_eggsThatFit ⟨Nat.le_of_ble_eq_true rfl, Nat.le_of_ble_eq_true rfl⟩ [1, 2, 3, 4, 5, 6, 7, 8, 9, 10, 11, 12, 13, 14, 15, 16] rfl rfl 1 rfl rfl rfl hl.1 (Nat.le_of_ble_eq_true rfl) dX10_ask_31 ⟨Nat.le_of_ble_eq_true rfl, Nat.le_of_ble_eq_true rfl⟩) (fun r_7 u_7 H locs hp_7 G => ?_)
      have G : wd X (va_A (xW h0 nw sp xa la lb ++ rcW X nw an v b g ++ [((xa 10), .inr (7, [.ref hc, .int tm])), (hc, .inl (X.2.1, 16, .inl tf))] ++ [((xa 5), .inl (X.2.1, 3, .inl fr))]) sz) (va_A (xW h0 nw sp xa la lb ++ rcW X nw an v b g ++ [((xa 10), .inr (7, [.ref hc, .int tm])), (hc, .inl (X.2.1, 16, .inl tf))] ++ [((xa 5), .inl (X.2.1, 3, .inl fr))]) sz) s (xW h0 nw sp xa la lb ++ rcW X nw an v b g ++ [((xa 10), .inr (7, [.ref hc, .int tm])), (hc, .inl (X.2.1, 16, .inl tf))] ++ [((xa 5), .inl (X.2.1, 3, .inl fr))]) H locs := G
      refine lv_bipush (v := 20) zx zb dX10_ask_34 (by decide) ?_
      refine b_wi (cells' := 0) (slots' := 0) (wr := [(nw, .inr (3, [.int (v 0), .int (v 1), .int (nI (b 0)), .ref (an 0), .ref (an 7), .ref (an 9), .ref (an 11), .ref (an 13)])), ((an 0), .inl (X.2.2.2.2, 6, .inr (.inr (.inr (.inr (rowQ an)))))), ((an 1), .inr (6, [.int (v 10), .int (v 11), .int (v 12), .int (v 13), .int (v 14), .int (v 15), .int (v 16), .int (v 17)])), ((an 2), .inr (6, [.int (v 18), .int (v 19), .int (v 20), .int (v 21), .int (v 22), .int (v 23), .int (v 24), .int (v 25)])), ((an 4), .inr (6, [.int (v 34), .int (v 35), .int (v 36), .int (v 37), .int (v 38), .int (v 39), .int (v 40), .int (v 41)])), ((an 5), .inr (6, [.int (v 42), .int (v 43), .int (v 44), .int (v 45), .int (v 46), .int (v 47), .int (v 48), .int (v 49)])), ((an 6), .inr (6, [.int (v 50), .int (v 51), .int (v 52), .int (v 53), .int (v 54), .int (v 55), .int (v 56), .int (v 57)])), ((an 7), .inr (2, [.ref (an 8), .int (nI (b 1))])), ((an 8), .inl (X.2.1, 248, .inl (g 0))), ((an 9), .inr (5, [.int 5, .int 0, .int 1, .ref (an 10), .int (nI (b 2))])), ((an 10), .inl (X.2.1, 25, .inl (g 1))), ((an 11), .inr (5, [.int 6, .int 1, .int 1, .ref (an 12), .int (nI (b 3))])), ((an 12), .inl (X.2.1, 30, .inl (g 2))), ((an 13), .inr (5, [.int 6, .int 0, .int 0, .ref (an 14), .int (nI (b 4))])), ((an 14), .inl (X.2.1, 30, .inl (g 3)))] ++ [((xa 5), .inl (X.2.1, 3, .inl fr))]) G rfl rfl [0, 17, 18, 5] [1, 2, 3, 4, 6, 7, 8, 9, 10, 11, 12, 13, 14, 15, 16, 19] rfl rfl rfl rfl (n_V (As := [.ref (an 3), .int 2, .int r_7, .int 20]) (rest := []) (C := RX10) (T := TX10) (N := 14) (ci := 8) S G (s_nextLook2 l X h0 nw sp xa la lb hc tm tf (an 3) (fun k => v (26 + k)) r_7 H.size) gX10_ask_X10_nextLook rfl rfl rfl hdV_X10_nextLook ⟨Nat.le_of_ble_eq_true rfl, Nat.le_of_ble_eq_true rfl⟩ [0, 17, 18, 5] rfl rfl 0 rfl rfl rfl hl.1 (Nat.le_of_ble_eq_true rfl) dX10_ask_36 ⟨Nat.le_of_ble_eq_true rfl, Nat.le_of_ble_eq_true rfl⟩) (fun r_8 u_8 H locs hp_8 G => ?_)
      obtain ⟨m_8a, f_8b⟩ := u_8
      have hq_8 := hp_8
      have G : wd X (va_A (xW h0 nw sp xa la lb ++ rcW X nw an v b g ++ [((xa 10), .inr (7, [.ref hc, .int tm])), (hc, .inl (X.2.1, 16, .inl tf))] ++ [((xa 5), .inl (X.2.1, 3, .inl fr))]) sz) (va_A (xW h0 nw sp xa la lb ++ rcW X nw an v b g ++ [((xa 10), .inr (7, [.ref hc, .int tm])), (hc, .inl (X.2.1, 16, .inl tf))] ++ [((xa 5), .inl (X.2.1, 3, .inl fr))]) sz) s (rcW X nw an v b g ++ [((xa 5), .inl (X.2.1, 3, .inl fr))] ++ xW h0 nw sp xa la lb ++ [((xa 10), .inr (7, [.ref hc, .int m_8a])), (hc, .inl (X.2.1, 16, .inl f_8b))]) H locs := wd_sub G [0, 1, 2, 3, 19, 4, 5, 6, 7, 8, 9, 10, 11, 12, 13, 14, 15, 16, 17, 18] rfl rfl
      exact e_int S zr zlk (vp_nar_int _) G (m_8a, f_8b, fr) [17, 0, 1, 2, 3, 4, 5, 6, 7, 8, 9, 10, 11, 12, 13, 14, 15, 18, 19, 16] rfl rfl (Or.inr rfl) (trivial) dX10_ask_39
    · refine k_it (v := 3) rfl ?_
      refine r_aald (C := RX8) (b := (an 4)) S G 2 3 rfl rfl (k_vp (by decide)) rfl dX10_ask_24 ?_
      refine lv_iconst (v := 2) zx zb dX10_ask_25 (by decide) ?_
      refine lv_aload_n zx zb dX10_ask_26 rfl (lv_at hl 0 rfl) ?_
      refine r_get (C := RX10) (T := TX10) (N := 14) (ci := 8) (v := .ref nw) S in_X10_ask_X10 G 0 rfl rfl 0 (by decide) lk_X10_ask_10 rfl dX10_ask_27 ?_
      refine lv_iload_n zx zb dX10_ask_30 rfl (lv_at hl 1 rfl) ?_
      refine o_ri (cells' := 0) (slots' := 0) G rfl rfl (n_V (As := [.int 3]) (rest := [.int 2, .ref (an 4), .ref h0]) (C := RX5) (T := TX5) (N := 8) (ci := 3) S G (s_eggsThatFit l X nw an v b g 3 hI_b (by omega) H.size) gX10_ask_X5_eggsThatFit rfl rfl rfl hdV_X5_eggsThatFit ⟨Nat.le_of_ble_eq_true rfl, Nat.le_of_ble_eq_true rfl⟩ [1, 2, 3, 4, 5, 6, 7, 8, 9, 10, 11, 12, 13, 14, 15, 16] rfl rfl 1 rfl rfl rfl hl.1 (Nat.le_of_ble_eq_true rfl) dX10_ask_31 ⟨Nat.le_of_ble_eq_true rfl, Nat.le_of_ble_eq_true rfl⟩) (fun r_9 u_9 H locs hp_9 G => ?_)
      have G : wd X (va_A (xW h0 nw sp xa la lb ++ rcW X nw an v b g ++ [((xa 10), .inr (7, [.ref hc, .int tm])), (hc, .inl (X.2.1, 16, .inl tf))] ++ [((xa 5), .inl (X.2.1, 3, .inl fr))]) sz) (va_A (xW h0 nw sp xa la lb ++ rcW X nw an v b g ++ [((xa 10), .inr (7, [.ref hc, .int tm])), (hc, .inl (X.2.1, 16, .inl tf))] ++ [((xa 5), .inl (X.2.1, 3, .inl fr))]) sz) s (xW h0 nw sp xa la lb ++ rcW X nw an v b g ++ [((xa 10), .inr (7, [.ref hc, .int tm])), (hc, .inl (X.2.1, 16, .inl tf))] ++ [((xa 5), .inl (X.2.1, 3, .inl fr))]) H locs := G
      refine lv_bipush (v := 20) zx zb dX10_ask_34 (by decide) ?_
      refine b_wi (cells' := 0) (slots' := 0) (wr := [(nw, .inr (3, [.int (v 0), .int (v 1), .int (nI (b 0)), .ref (an 0), .ref (an 7), .ref (an 9), .ref (an 11), .ref (an 13)])), ((an 0), .inl (X.2.2.2.2, 6, .inr (.inr (.inr (.inr (rowQ an)))))), ((an 1), .inr (6, [.int (v 10), .int (v 11), .int (v 12), .int (v 13), .int (v 14), .int (v 15), .int (v 16), .int (v 17)])), ((an 2), .inr (6, [.int (v 18), .int (v 19), .int (v 20), .int (v 21), .int (v 22), .int (v 23), .int (v 24), .int (v 25)])), ((an 3), .inr (6, [.int (v 26), .int (v 27), .int (v 28), .int (v 29), .int (v 30), .int (v 31), .int (v 32), .int (v 33)])), ((an 5), .inr (6, [.int (v 42), .int (v 43), .int (v 44), .int (v 45), .int (v 46), .int (v 47), .int (v 48), .int (v 49)])), ((an 6), .inr (6, [.int (v 50), .int (v 51), .int (v 52), .int (v 53), .int (v 54), .int (v 55), .int (v 56), .int (v 57)])), ((an 7), .inr (2, [.ref (an 8), .int (nI (b 1))])), ((an 8), .inl (X.2.1, 248, .inl (g 0))), ((an 9), .inr (5, [.int 5, .int 0, .int 1, .ref (an 10), .int (nI (b 2))])), ((an 10), .inl (X.2.1, 25, .inl (g 1))), ((an 11), .inr (5, [.int 6, .int 1, .int 1, .ref (an 12), .int (nI (b 3))])), ((an 12), .inl (X.2.1, 30, .inl (g 2))), ((an 13), .inr (5, [.int 6, .int 0, .int 0, .ref (an 14), .int (nI (b 4))])), ((an 14), .inl (X.2.1, 30, .inl (g 3)))] ++ [((xa 5), .inl (X.2.1, 3, .inl fr))]) G rfl rfl [0, 17, 18, 6] [1, 2, 3, 4, 5, 7, 8, 9, 10, 11, 12, 13, 14, 15, 16, 19] rfl rfl rfl rfl (n_V (As := [.ref (an 4), .int 2, .int r_9, .int 20]) (rest := []) (C := RX10) (T := TX10) (N := 14) (ci := 8) S G (s_nextLook2 l X h0 nw sp xa la lb hc tm tf (an 4) (fun k => v (34 + k)) r_9 H.size) gX10_ask_X10_nextLook rfl rfl rfl hdV_X10_nextLook ⟨Nat.le_of_ble_eq_true rfl, Nat.le_of_ble_eq_true rfl⟩ [0, 17, 18, 6] rfl rfl 0 rfl rfl rfl hl.1 (Nat.le_of_ble_eq_true rfl) dX10_ask_36 ⟨Nat.le_of_ble_eq_true rfl, Nat.le_of_ble_eq_true rfl⟩) (fun r_10 u_10 H locs hp_10 G => ?_)
      obtain ⟨m_10a, f_10b⟩ := u_10
      have hq_10 := hp_10
      have G : wd X (va_A (xW h0 nw sp xa la lb ++ rcW X nw an v b g ++ [((xa 10), .inr (7, [.ref hc, .int tm])), (hc, .inl (X.2.1, 16, .inl tf))] ++ [((xa 5), .inl (X.2.1, 3, .inl fr))]) sz) (va_A (xW h0 nw sp xa la lb ++ rcW X nw an v b g ++ [((xa 10), .inr (7, [.ref hc, .int tm])), (hc, .inl (X.2.1, 16, .inl tf))] ++ [((xa 5), .inl (X.2.1, 3, .inl fr))]) sz) s (rcW X nw an v b g ++ [((xa 5), .inl (X.2.1, 3, .inl fr))] ++ xW h0 nw sp xa la lb ++ [((xa 10), .inr (7, [.ref hc, .int m_10a])), (hc, .inl (X.2.1, 16, .inl f_10b))]) H locs := wd_sub G [0, 1, 2, 3, 4, 19, 5, 6, 7, 8, 9, 10, 11, 12, 13, 14, 15, 16, 17, 18] rfl rfl
      exact e_int S zr zlk (vp_nar_int _) G (m_10a, f_10b, fr) [17, 0, 1, 2, 3, 4, 5, 6, 7, 8, 9, 10, 11, 12, 13, 14, 15, 18, 19, 16] rfl rfl (Or.inr rfl) (trivial) dX10_ask_39
    · refine k_it (v := 4) rfl ?_
      refine r_aald (C := RX8) (b := (an 5)) S G 2 3 rfl rfl (k_vp (by decide)) rfl dX10_ask_24 ?_
      refine lv_iconst (v := 2) zx zb dX10_ask_25 (by decide) ?_
      refine lv_aload_n zx zb dX10_ask_26 rfl (lv_at hl 0 rfl) ?_
      refine r_get (C := RX10) (T := TX10) (N := 14) (ci := 8) (v := .ref nw) S in_X10_ask_X10 G 0 rfl rfl 0 (by decide) lk_X10_ask_10 rfl dX10_ask_27 ?_
      refine lv_iload_n zx zb dX10_ask_30 rfl (lv_at hl 1 rfl) ?_
      refine o_ri (cells' := 0) (slots' := 0) G rfl rfl (n_V (As := [.int 4]) (rest := [.int 2, .ref (an 5), .ref h0]) (C := RX5) (T := TX5) (N := 8) (ci := 3) S G (s_eggsThatFit l X nw an v b g 4 hI_b (by omega) H.size) gX10_ask_X5_eggsThatFit rfl rfl rfl hdV_X5_eggsThatFit ⟨Nat.le_of_ble_eq_true rfl, Nat.le_of_ble_eq_true rfl⟩ [1, 2, 3, 4, 5, 6, 7, 8, 9, 10, 11, 12, 13, 14, 15, 16] rfl rfl 1 rfl rfl rfl hl.1 (Nat.le_of_ble_eq_true rfl) dX10_ask_31 ⟨Nat.le_of_ble_eq_true rfl, Nat.le_of_ble_eq_true rfl⟩) (fun r_11 u_11 H locs hp_11 G => ?_)
      have G : wd X (va_A (xW h0 nw sp xa la lb ++ rcW X nw an v b g ++ [((xa 10), .inr (7, [.ref hc, .int tm])), (hc, .inl (X.2.1, 16, .inl tf))] ++ [((xa 5), .inl (X.2.1, 3, .inl fr))]) sz) (va_A (xW h0 nw sp xa la lb ++ rcW X nw an v b g ++ [((xa 10), .inr (7, [.ref hc, .int tm])), (hc, .inl (X.2.1, 16, .inl tf))] ++ [((xa 5), .inl (X.2.1, 3, .inl fr))]) sz) s (xW h0 nw sp xa la lb ++ rcW X nw an v b g ++ [((xa 10), .inr (7, [.ref hc, .int tm])), (hc, .inl (X.2.1, 16, .inl tf))] ++ [((xa 5), .inl (X.2.1, 3, .inl fr))]) H locs := G
      refine lv_bipush (v := 20) zx zb dX10_ask_34 (by decide) ?_
      refine b_wi (cells' := 0) (slots' := 0) (wr := [(nw, .inr (3, [.int (v 0), .int (v 1), .int (nI (b 0)), .ref (an 0), .ref (an 7), .ref (an 9), .ref (an 11), .ref (an 13)])), ((an 0), .inl (X.2.2.2.2, 6, .inr (.inr (.inr (.inr (rowQ an)))))), ((an 1), .inr (6, [.int (v 10), .int (v 11), .int (v 12), .int (v 13), .int (v 14), .int (v 15), .int (v 16), .int (v 17)])), ((an 2), .inr (6, [.int (v 18), .int (v 19), .int (v 20), .int (v 21), .int (v 22), .int (v 23), .int (v 24), .int (v 25)])), ((an 3), .inr (6, [.int (v 26), .int (v 27), .int (v 28), .int (v 29), .int (v 30), .int (v 31), .int (v 32), .int (v 33)])), ((an 4), .inr (6, [.int (v 34), .int (v 35), .int (v 36), .int (v 37), .int (v 38), .int (v 39), .int (v 40), .int (v 41)])), ((an 6), .inr (6, [.int (v 50), .int (v 51), .int (v 52), .int (v 53), .int (v 54), .int (v 55), .int (v 56), .int (v 57)])), ((an 7), .inr (2, [.ref (an 8), .int (nI (b 1))])), ((an 8), .inl (X.2.1, 248, .inl (g 0))), ((an 9), .inr (5, [.int 5, .int 0, .int 1, .ref (an 10), .int (nI (b 2))])), ((an 10), .inl (X.2.1, 25, .inl (g 1))), ((an 11), .inr (5, [.int 6, .int 1, .int 1, .ref (an 12), .int (nI (b 3))])), ((an 12), .inl (X.2.1, 30, .inl (g 2))), ((an 13), .inr (5, [.int 6, .int 0, .int 0, .ref (an 14), .int (nI (b 4))])), ((an 14), .inl (X.2.1, 30, .inl (g 3)))] ++ [((xa 5), .inl (X.2.1, 3, .inl fr))]) G rfl rfl [0, 17, 18, 7] [1, 2, 3, 4, 5, 6, 8, 9, 10, 11, 12, 13, 14, 15, 16, 19] rfl rfl rfl rfl (n_V (As := [.ref (an 5), .int 2, .int r_11, .int 20]) (rest := []) (C := RX10) (T := TX10) (N := 14) (ci := 8) S G (s_nextLook2 l X h0 nw sp xa la lb hc tm tf (an 5) (fun k => v (42 + k)) r_11 H.size) gX10_ask_X10_nextLook rfl rfl rfl hdV_X10_nextLook ⟨Nat.le_of_ble_eq_true rfl, Nat.le_of_ble_eq_true rfl⟩ [0, 17, 18, 7] rfl rfl 0 rfl rfl rfl hl.1 (Nat.le_of_ble_eq_true rfl) dX10_ask_36 ⟨Nat.le_of_ble_eq_true rfl, Nat.le_of_ble_eq_true rfl⟩) (fun r_12 u_12 H locs hp_12 G => ?_)
      obtain ⟨m_12a, f_12b⟩ := u_12
      have hq_12 := hp_12
      have G : wd X (va_A (xW h0 nw sp xa la lb ++ rcW X nw an v b g ++ [((xa 10), .inr (7, [.ref hc, .int tm])), (hc, .inl (X.2.1, 16, .inl tf))] ++ [((xa 5), .inl (X.2.1, 3, .inl fr))]) sz) (va_A (xW h0 nw sp xa la lb ++ rcW X nw an v b g ++ [((xa 10), .inr (7, [.ref hc, .int tm])), (hc, .inl (X.2.1, 16, .inl tf))] ++ [((xa 5), .inl (X.2.1, 3, .inl fr))]) sz) s (rcW X nw an v b g ++ [((xa 5), .inl (X.2.1, 3, .inl fr))] ++ xW h0 nw sp xa la lb ++ [((xa 10), .inr (7, [.ref hc, .int m_12a])), (hc, .inl (X.2.1, 16, .inl f_12b))]) H locs := wd_sub G [0, 1, 2, 3, 4, 5, 19, 6, 7, 8, 9, 10, 11, 12, 13, 14, 15, 16, 17, 18] rfl rfl
      exact e_int S zr zlk (vp_nar_int _) G (m_12a, f_12b, fr) [17, 0, 1, 2, 3, 4, 5, 6, 7, 8, 9, 10, 11, 12, 13, 14, 15, 18, 19, 16] rfl rfl (Or.inr rfl) (trivial) dX10_ask_39
    · refine k_it (v := 5) rfl ?_
      refine r_aald (C := RX8) (b := (an 6)) S G 2 3 rfl rfl (k_vp (by decide)) rfl dX10_ask_24 ?_
      refine lv_iconst (v := 2) zx zb dX10_ask_25 (by decide) ?_
      refine lv_aload_n zx zb dX10_ask_26 rfl (lv_at hl 0 rfl) ?_
      refine r_get (C := RX10) (T := TX10) (N := 14) (ci := 8) (v := .ref nw) S in_X10_ask_X10 G 0 rfl rfl 0 (by decide) lk_X10_ask_10 rfl dX10_ask_27 ?_
      refine lv_iload_n zx zb dX10_ask_30 rfl (lv_at hl 1 rfl) ?_
      refine o_ri (cells' := 0) (slots' := 0) G rfl rfl (n_V (As := [.int 5]) (rest := [.int 2, .ref (an 6), .ref h0]) (C := RX5) (T := TX5) (N := 8) (ci := 3) S G (s_eggsThatFit l X nw an v b g 5 hI_b (by omega) H.size) gX10_ask_X5_eggsThatFit rfl rfl rfl hdV_X5_eggsThatFit ⟨Nat.le_of_ble_eq_true rfl, Nat.le_of_ble_eq_true rfl⟩ [1, 2, 3, 4, 5, 6, 7, 8, 9, 10, 11, 12, 13, 14, 15, 16] rfl rfl 1 rfl rfl rfl hl.1 (Nat.le_of_ble_eq_true rfl) dX10_ask_31 ⟨Nat.le_of_ble_eq_true rfl, Nat.le_of_ble_eq_true rfl⟩) (fun r_13 u_13 H locs hp_13 G => ?_)
      have G : wd X (va_A (xW h0 nw sp xa la lb ++ rcW X nw an v b g ++ [((xa 10), .inr (7, [.ref hc, .int tm])), (hc, .inl (X.2.1, 16, .inl tf))] ++ [((xa 5), .inl (X.2.1, 3, .inl fr))]) sz) (va_A (xW h0 nw sp xa la lb ++ rcW X nw an v b g ++ [((xa 10), .inr (7, [.ref hc, .int tm])), (hc, .inl (X.2.1, 16, .inl tf))] ++ [((xa 5), .inl (X.2.1, 3, .inl fr))]) sz) s (xW h0 nw sp xa la lb ++ rcW X nw an v b g ++ [((xa 10), .inr (7, [.ref hc, .int tm])), (hc, .inl (X.2.1, 16, .inl tf))] ++ [((xa 5), .inl (X.2.1, 3, .inl fr))]) H locs := G
      refine lv_bipush (v := 20) zx zb dX10_ask_34 (by decide) ?_
      refine b_wi (cells' := 0) (slots' := 0) (wr := [(nw, .inr (3, [.int (v 0), .int (v 1), .int (nI (b 0)), .ref (an 0), .ref (an 7), .ref (an 9), .ref (an 11), .ref (an 13)])), ((an 0), .inl (X.2.2.2.2, 6, .inr (.inr (.inr (.inr (rowQ an)))))), ((an 1), .inr (6, [.int (v 10), .int (v 11), .int (v 12), .int (v 13), .int (v 14), .int (v 15), .int (v 16), .int (v 17)])), ((an 2), .inr (6, [.int (v 18), .int (v 19), .int (v 20), .int (v 21), .int (v 22), .int (v 23), .int (v 24), .int (v 25)])), ((an 3), .inr (6, [.int (v 26), .int (v 27), .int (v 28), .int (v 29), .int (v 30), .int (v 31), .int (v 32), .int (v 33)])), ((an 4), .inr (6, [.int (v 34), .int (v 35), .int (v 36), .int (v 37), .int (v 38), .int (v 39), .int (v 40), .int (v 41)])), ((an 5), .inr (6, [.int (v 42), .int (v 43), .int (v 44), .int (v 45), .int (v 46), .int (v 47), .int (v 48), .int (v 49)])), ((an 7), .inr (2, [.ref (an 8), .int (nI (b 1))])), ((an 8), .inl (X.2.1, 248, .inl (g 0))), ((an 9), .inr (5, [.int 5, .int 0, .int 1, .ref (an 10), .int (nI (b 2))])), ((an 10), .inl (X.2.1, 25, .inl (g 1))), ((an 11), .inr (5, [.int 6, .int 1, .int 1, .ref (an 12), .int (nI (b 3))])), ((an 12), .inl (X.2.1, 30, .inl (g 2))), ((an 13), .inr (5, [.int 6, .int 0, .int 0, .ref (an 14), .int (nI (b 4))])), ((an 14), .inl (X.2.1, 30, .inl (g 3)))] ++ [((xa 5), .inl (X.2.1, 3, .inl fr))]) G rfl rfl [0, 17, 18, 8] [1, 2, 3, 4, 5, 6, 7, 9, 10, 11, 12, 13, 14, 15, 16, 19] rfl rfl rfl rfl (n_V (As := [.ref (an 6), .int 2, .int r_13, .int 20]) (rest := []) (C := RX10) (T := TX10) (N := 14) (ci := 8) S G (s_nextLook2 l X h0 nw sp xa la lb hc tm tf (an 6) (fun k => v (50 + k)) r_13 H.size) gX10_ask_X10_nextLook rfl rfl rfl hdV_X10_nextLook ⟨Nat.le_of_ble_eq_true rfl, Nat.le_of_ble_eq_true rfl⟩ [0, 17, 18, 8] rfl rfl 0 rfl rfl rfl hl.1 (Nat.le_of_ble_eq_true rfl) dX10_ask_36 ⟨Nat.le_of_ble_eq_true rfl, Nat.le_of_ble_eq_true rfl⟩) (fun r_14 u_14 H locs hp_14 G => ?_)
      obtain ⟨m_14a, f_14b⟩ := u_14
      have hq_14 := hp_14
      have G : wd X (va_A (xW h0 nw sp xa la lb ++ rcW X nw an v b g ++ [((xa 10), .inr (7, [.ref hc, .int tm])), (hc, .inl (X.2.1, 16, .inl tf))] ++ [((xa 5), .inl (X.2.1, 3, .inl fr))]) sz) (va_A (xW h0 nw sp xa la lb ++ rcW X nw an v b g ++ [((xa 10), .inr (7, [.ref hc, .int tm])), (hc, .inl (X.2.1, 16, .inl tf))] ++ [((xa 5), .inl (X.2.1, 3, .inl fr))]) sz) s (rcW X nw an v b g ++ [((xa 5), .inl (X.2.1, 3, .inl fr))] ++ xW h0 nw sp xa la lb ++ [((xa 10), .inr (7, [.ref hc, .int m_14a])), (hc, .inl (X.2.1, 16, .inl f_14b))]) H locs := wd_sub G [0, 1, 2, 3, 4, 5, 6, 19, 7, 8, 9, 10, 11, 12, 13, 14, 15, 16, 17, 18] rfl rfl
      exact e_int S zr zlk (vp_nar_int _) G (m_14a, f_14b, fr) [17, 0, 1, 2, 3, 4, 5, 6, 7, 8, 9, 10, 11, 12, 13, 14, 15, 18, 19, 16] rfl rfl (Or.inr rfl) (trivial) dX10_ask_39
  · refine lv_if_ne (tgt := 15) zx zb dX10_ask_5 (by decide) (fun c_15 => absurd (by decide) c_15) (fun c_15 => ?_)
    refine lv_aload_n zx zb dX10_ask_8 rfl (lv_at hl 0 rfl) ?_
    refine lv_bipush (v := (-2)) zx zb dX10_ask_9 (by decide) ?_
    refine b_wi (cells' := 0) (slots' := 0) (wr := rcW X nw an v b g ++ [((xa 10), .inr (7, [.ref hc, .int tm])), (hc, .inl (X.2.1, 16, .inl tf))]) G rfl rfl [0, 19] [1, 2, 3, 4, 5, 6, 7, 8, 9, 10, 11, 12, 13, 14, 15, 16, 17, 18] rfl rfl rfl rfl (n_V (As := [.int (-2)]) (rest := []) (C := RX10) (T := TX10) (N := 14) (ci := 8) S G (s_refuse l X h0 nw sp xa la lb fr (-2) H.size) gX10_ask_X10_refuse rfl rfl rfl hdV_X10_refuse ⟨Nat.le_of_ble_eq_true rfl, Nat.le_of_ble_eq_true rfl⟩ [0, 19] rfl rfl 0 rfl rfl rfl hl.1 (Nat.le_of_ble_eq_true rfl) dX10_ask_11 ⟨Nat.le_of_ble_eq_true rfl, Nat.le_of_ble_eq_true rfl⟩) (fun r_16 u_16 H locs hp_16 G => ?_)
    obtain ⟨f_16, rfl⟩ : ∃ z, z = u_16 := ⟨_, rfl⟩
    have hq_16 := hp_16
    have G : wd X (va_A (xW h0 nw sp xa la lb ++ rcW X nw an v b g ++ [((xa 10), .inr (7, [.ref hc, .int tm])), (hc, .inl (X.2.1, 16, .inl tf))] ++ [((xa 5), .inl (X.2.1, 3, .inl fr))]) sz) (va_A (xW h0 nw sp xa la lb ++ rcW X nw an v b g ++ [((xa 10), .inr (7, [.ref hc, .int tm])), (hc, .inl (X.2.1, 16, .inl tf))] ++ [((xa 5), .inl (X.2.1, 3, .inl fr))]) sz) s (rcW X nw an v b g ++ [((xa 10), .inr (7, [.ref hc, .int tm])), (hc, .inl (X.2.1, 16, .inl tf))] ++ xW h0 nw sp xa la lb ++ [((xa 5), .inl (X.2.1, 3, .inl f_16))]) H locs := G
    exact e_int S zr zlk (vp_nar_int _) G (tm, tf, f_16) [18, 0, 1, 2, 3, 4, 5, 6, 7, 8, 9, 10, 11, 12, 13, 14, 15, 16, 17, 19] rfl rfl (Or.inr rfl) (trivial) dX10_ask_14
theorem hdV_X10_areTwo : yX10_areTwo.cls = RX10 ∧ yX10_areTwo.cls ≠ "java/lang/invoke/MethodHandle" ∧ yX10_areTwo.cls ≠ "java/lang/invoke/VarHandle" ∧ (parseMethodDescriptor yX10_areTwo.desc).map (fun d => d.parameters.length) = some 2 := by decide +kernel
theorem in_X10_beats_X10 : ∀ w ∈ wsX100, w ∈ wsX10_beats := by decide +kernel
theorem lk_X10_beats_10 : Cond.fieldLink RX10 10 "EggSpoons" "now" "LEggSpoons$Race;" ∈ wsX10_beats := by decide +kernel
theorem in_X10_beats_X5 : ∀ w ∈ wsX50, w ∈ wsX10_beats := by decide +kernel
theorem lk_X10_beats_126 : Cond.fieldLink RX10 126 "EggSpoons$Race" "row" "[LEggSpoons$Runner;" ∈ wsX10_beats := by decide +kernel
theorem in_X10_beats_X8 : ∀ w ∈ wsX80, w ∈ wsX10_beats := by decide +kernel
theorem lk_X10_beats_137 : Cond.fieldLink RX10 137 "EggSpoons$Runner" "place" "I" ∈ wsX10_beats := by decide +kernel
theorem lk_X10_beats_140 : Cond.fieldLink RX10 140 "EggSpoons$Race" "length" "I" ∈ wsX10_beats := by decide +kernel
theorem lk_X10_beats_48 : Cond.fieldLink RX10 48 "EggSpoons" "ghost" "LEggSpoons$Runner;" ∈ wsX10_beats := by decide +kernel
theorem lk_X10_beats_110 : Cond.fieldLink RX10 110 "EggSpoons$Race" "tick" "I" ∈ wsX10_beats := by decide +kernel
set_option maxHeartbeats 4000000 in
set_option maxRecDepth 100000 in
/-- beats -/
theorem s_beats (l : Launch) (X : EX) (h0 : Nat) (nw : Nat) (sp : Nat) (xa : Nat → Nat) (la : Int64) (lb : Int64) (an : Nat → Nat) (v : Nat → Int32) (b : Nat → Nat) (g : Nat → Nat → Int32) (vg : Nat → Int32) (fr : Nat → Int32) (x1 : Int32) (x2 : Int32) (hI_b : InR b) (sz : Nat) : Met l yX10_beats wsX10_beats ({ frames := 4, cells := 0, slots := 0, locals := 95 } : Room) (pE X [.ref h0, .int x1, .int x2] (xW h0 nw sp xa la lb ++ rcW X nw an v b g ++ rnW (xa 8) vg ++ [((xa 5), .inl (X.2.1, 3, .inl fr))]) sz) (qI (fun (r : Int32) (u : (Nat → Int32) × (Nat → Int32)) => (True)) X (fun (u : (Nat → Int32) × (Nat → Int32)) => xW h0 nw sp xa la lb ++ rcW X nw an v b g ++ rnW (xa 8) u.1 ++ [((xa 5), .inl (X.2.1, 3, .inl u.2))]) (xW h0 nw sp xa la lb ++ rcW X nw an v b g ++ rnW (xa 8) vg ++ [((xa 5), .inl (X.2.1, 3, .inl fr))]) sz) 0 0 (va_A (xW h0 nw sp xa la lb ++ rcW X nw an v b g ++ rnW (xa 8) vg ++ [((xa 5), .inl (X.2.1, 3, .inl fr))]) sz) := by
  refine mk_met (B := (va_A (xW h0 nw sp xa la lb ++ rcW X nw an v b g ++ rnW (xa 8) vg ++ [((xa 5), .inl (X.2.1, 3, .inl fr))]) sz)) (A := (va_A (xW h0 nw sp xa la lb ++ rcW X nw an v b g ++ rnW (xa 8) vg ++ [((xa 5), .inl (X.2.1, 3, .inl fr))]) sz)) (cc := cX10_beats) (maxL := 7) (ret := (some .int)) (by decide) rfl (Nat.le_of_ble_eq_true rfl) k_w k_a (fun p e s m below meth c S zr zlk znm zsz G ls hl => ?_)
  have S : CallFix p m c cX10_beats 7 s _ wsX10_beats RX10 := S
  have zx := S.1
  have zb := S.2.1
  have hl : lv_has ls 7 [(0, .ref h0), (1, .int x1), (2, .int x2)] := hl
  have hO_b := hI_b
  obtain ⟨hb0_b, hb1_b, hb2_b, hb3_b, hb4_b⟩ := hO_b
  refine lv_aload_n zx zb dX10_beats_0 rfl (lv_at hl 0 rfl) ?_
  refine lv_iload_n zx zb dX10_beats_1 rfl (lv_at hl 1 rfl) ?_
  refine lv_iload_n zx zb dX10_beats_2 rfl (lv_at hl 2 rfl) ?_
  refine o_ri (cells' := 0) (slots' := 0) G rfl rfl (n_V (As := [.int x1, .int x2]) (rest := []) (C := RX10) (T := TX10) (N := 14) (ci := 8) S G (s_areTwo l X h0 nw sp xa la lb an v b g x1 x2 hI_b s.heap.size) gX10_beats_X10_areTwo rfl rfl rfl hdV_X10_areTwo ⟨Nat.le_of_ble_eq_true rfl, Nat.le_of_ble_eq_true rfl⟩ [0, 1, 2, 3, 4, 5, 6, 7, 8, 9, 10, 11, 12, 13, 14, 15, 16] rfl rfl 0 rfl rfl rfl hl.1 (Nat.le_of_ble_eq_true rfl) dX10_beats_3 ⟨Nat.le_of_ble_eq_true rfl, Nat.le_of_ble_eq_true rfl⟩) (fun r_1 u_1 H locs hp_1 G => ?_)
  have G : wd X (va_A (xW h0 nw sp xa la lb ++ rcW X nw an v b g ++ rnW (xa 8) vg ++ [((xa 5), .inl (X.2.1, 3, .inl fr))]) sz) (va_A (xW h0 nw sp xa la lb ++ rcW X nw an v b g ++ rnW (xa 8) vg ++ [((xa 5), .inl (X.2.1, 3, .inl fr))]) sz) s (xW h0 nw sp xa la lb ++ rcW X nw an v b g ++ rnW (xa 8) vg ++ [((xa 5), .inl (X.2.1, 3, .inl fr))]) H locs := G
  rcases hp_1 with ⟨rfl, hj_1, hi_1⟩ | rfl
  · obtain ⟨j_1, hj_1, rfl⟩ := hj_1
    obtain ⟨i_1, hi_1, rfl⟩ := hi_1
    refine lv_if_ne (tgt := 16) zx zb dX10_beats_6 (by decide) (fun c_2 => ?_) (fun c_2 => absurd c_2 (by decide))
    refine lv_aload_n zx zb dX10_beats_16 rfl (lv_at hl 0 rfl) ?_
    refine r_get (C := RX10) (T := TX10) (N := 14) (ci := 8) (v := .ref nw) S in_X10_beats_X10 G 0 rfl rfl 0 (by decide) lk_X10_beats_10 rfl dX10_beats_17 ?_
    refine r_get (C := RX5) (T := TX5) (N := 8) (ci := 3) (v := .ref (an 0)) S in_X10_beats_X5 G 1 rfl rfl 3 (by decide) lk_X10_beats_126 rfl dX10_beats_20 ?_
    refine lv_iload_n zx zb dX10_beats_23 rfl (lv_at hl 1 rfl) ?_
    rcases k_6c (show j_1 < 6 by omega) with rfl | rfl | rfl | rfl | rfl | rfl
    · refine k_it (v := 0) rfl ?_
      refine r_aald (C := RX8) (b := (an 1)) S G 2 3 rfl rfl (k_vp (by decide)) rfl dX10_beats_24 ?_
      refine lv_astore_n (lv' := [(3, .ref (an 1)), (0, .ref h0), (1, .int 0), (2, .int (nI i_1))]) zx zb dX10_beats_25 rfl hl (by decide) rfl (fun ls hl => ?_)
      refine lv_aload_n zx zb dX10_beats_26 rfl (lv_at hl 0 rfl) ?_
      refine o_ri (cells' := 0) (slots' := 0) G rfl rfl (n_V (As := []) (rest := []) (C := RX8) (T := TX8) (N := 8) (ci := 6) S G (s_isHome l X (an 1) (fun k => v (10 + k)) H.size) gX10_beats_X8_isHome rfl rfl rfl hdV_X8_isHome ⟨Nat.le_of_ble_eq_true rfl, Nat.le_of_ble_eq_true rfl⟩ [3] rfl rfl 3 rfl rfl rfl hl.1 (Nat.le_of_ble_eq_true rfl) dX10_beats_27 ⟨Nat.le_of_ble_eq_true rfl, Nat.le_of_ble_eq_true rfl⟩) (fun r_3 u_3 H locs hp_3 G => ?_)
      have G : wd X (va_A (xW h0 nw sp xa la lb ++ rcW X nw an v b g ++ rnW (xa 8) vg ++ [((xa 5), .inl (X.2.1, 3, .inl fr))]) sz) (va_A (xW h0 nw sp xa la lb ++ rcW X nw an v b g ++ rnW (xa 8) vg ++ [((xa 5), .inl (X.2.1, 3, .inl fr))]) sz) s (xW h0 nw sp xa la lb ++ rcW X nw an v b g ++ rnW (xa 8) vg ++ [((xa 5), .inl (X.2.1, 3, .inl fr))]) H locs := G
      refine lv_if_ne (tgt := 48) zx zb dX10_beats_30 (by decide) (fun c_4 => ?_) (fun c_4 => ?_)
      · refine lv_iconst (v := (-1)) zx zb dX10_beats_48 (by decide) ?_
        exact e_int S zr zlk (vp_nar_int _) G (vg, fr) [0, 1, 2, 3, 4, 5, 6, 7, 8, 9, 10, 11, 12, 13, 14, 15, 16, 17, 18] rfl rfl (Or.inr rfl) (trivial) dX10_beats_49
      · refine lv_aload_n zx zb dX10_beats_33 rfl (lv_at hl 1 rfl) ?_
        refine r_get (C := RX10) (T := TX10) (N := 14) (ci := 8) (v := .ref nw) S in_X10_beats_X10 G 0 rfl rfl 0 (by decide) lk_X10_beats_10 rfl dX10_beats_34 ?_
        refine r_get (C := RX5) (T := TX5) (N := 8) (ci := 3) (v := .ref (an 0)) S in_X10_beats_X5 G 1 rfl rfl 3 (by decide) lk_X10_beats_126 rfl dX10_beats_37 ?_
        refine lv_iload_n zx zb dX10_beats_40 rfl (lv_at hl 3 rfl) ?_
        refine k_cutW (PP := fun Wx => ∀ (x_5 : Int32) (H : Heap) (locs : List Loc) (ls : Array Slot), wd X (va_A (xW h0 nw sp xa la lb ++ rcW X nw an v b g ++ rnW (xa 8) vg ++ [((xa 5), .inl (X.2.1, 3, .inl fr))]) sz) (va_A (xW h0 nw sp xa la lb ++ rcW X nw an v b g ++ rnW (xa 8) vg ++ [((xa 5), .inl (X.2.1, 3, .inl fr))]) sz) s (xW h0 nw sp xa la lb ++ rcW X nw an v b g ++ rnW (xa 8) vg ++ [((xa 5), .inl (X.2.1, 3, .inl fr))]) H locs → lv_has ls 7 [(3, .ref (an 1)), (0, .ref h0), (1, .int 0), (2, .int (nI i_1))] → Wx (F0 m 45 ls [.int x_5]) H locs) ?_ ?_
        · intro join_41
          rcases k_6c (show i_1 < 6 by omega) with q_6 | q_6 | q_6 | q_6 | q_6 | q_6
          · refine k_it (v := 0) (by rw [q_6]; rfl) ?_
            refine r_aald (C := RX8) (b := (an 1)) S G 2 3 rfl rfl (k_vp (by decide)) rfl dX10_beats_41 ?_
            refine o_ri (cells' := 0) (slots' := 0) G rfl rfl (n_V (As := []) (rest := []) (C := RX8) (T := TX8) (N := 8) (ci := 6) S G (s_isHome l X (an 1) (fun k => v (10 + k)) H.size) gX10_beats_X8_isHome rfl rfl rfl hdV_X8_isHome ⟨Nat.le_of_ble_eq_true rfl, Nat.le_of_ble_eq_true rfl⟩ [3] rfl rfl 3 rfl rfl rfl hl.1 (Nat.le_of_ble_eq_true rfl) dX10_beats_42 ⟨Nat.le_of_ble_eq_true rfl, Nat.le_of_ble_eq_true rfl⟩) (fun r_7 u_7 H locs hp_7 G => ?_)
            have G : wd X (va_A (xW h0 nw sp xa la lb ++ rcW X nw an v b g ++ rnW (xa 8) vg ++ [((xa 5), .inl (X.2.1, 3, .inl fr))]) sz) (va_A (xW h0 nw sp xa la lb ++ rcW X nw an v b g ++ rnW (xa 8) vg ++ [((xa 5), .inl (X.2.1, 3, .inl fr))]) sz) s (xW h0 nw sp xa la lb ++ rcW X nw an v b g ++ rnW (xa 8) vg ++ [((xa 5), .inl (X.2.1, 3, .inl fr))]) H locs := G
            exact join_41 r_7 _ _ _  G hl
          · refine k_it (v := 1) (by rw [q_6]; rfl) ?_
            refine r_aald (C := RX8) (b := (an 2)) S G 2 3 rfl rfl (k_vp (by decide)) rfl dX10_beats_41 ?_
            refine o_ri (cells' := 0) (slots' := 0) G rfl rfl (n_V (As := []) (rest := []) (C := RX8) (T := TX8) (N := 8) (ci := 6) S G (s_isHome l X (an 2) (fun k => v (18 + k)) H.size) gX10_beats_X8_isHome rfl rfl rfl hdV_X8_isHome ⟨Nat.le_of_ble_eq_true rfl, Nat.le_of_ble_eq_true rfl⟩ [4] rfl rfl 4 rfl rfl rfl hl.1 (Nat.le_of_ble_eq_true rfl) dX10_beats_42 ⟨Nat.le_of_ble_eq_true rfl, Nat.le_of_ble_eq_true rfl⟩) (fun r_8 u_8 H locs hp_8 G => ?_)
            have G : wd X (va_A (xW h0 nw sp xa la lb ++ rcW X nw an v b g ++ rnW (xa 8) vg ++ [((xa 5), .inl (X.2.1, 3, .inl fr))]) sz) (va_A (xW h0 nw sp xa la lb ++ rcW X nw an v b g ++ rnW (xa 8) vg ++ [((xa 5), .inl (X.2.1, 3, .inl fr))]) sz) s (xW h0 nw sp xa la lb ++ rcW X nw an v b g ++ rnW (xa 8) vg ++ [((xa 5), .inl (X.2.1, 3, .inl fr))]) H locs := G
            exact join_41 r_8 _ _ _  G hl
          · refine k_it (v := 2) (by rw [q_6]; rfl) ?_
            refine r_aald (C := RX8) (b := (an 3)) S G 2 3 rfl rfl (k_vp (by decide)) rfl dX10_beats_41 ?_
            refine o_ri (cells' := 0) (slots' := 0) G rfl rfl (n_V (As := []) (rest := []) (C := RX8) (T := TX8) (N := 8) (ci := 6) S G (s_isHome l X (an 3) (fun k => v (26 + k)) H.size) gX10_beats_X8_isHome rfl rfl rfl hdV_X8_isHome ⟨Nat.le_of_ble_eq_true rfl, Nat.le_of_ble_eq_true rfl⟩ [5] rfl rfl 5 rfl rfl rfl hl.1 (Nat.le_of_ble_eq_true rfl) dX10_beats_42 ⟨Nat.le_of_ble_eq_true rfl, Nat.le_of_ble_eq_true rfl⟩) (fun r_9 u_9 H locs hp_9 G => ?_)
            have G : wd X (va_A (xW h0 nw sp xa la lb ++ rcW X nw an v b g ++ rnW (xa 8) vg ++ [((xa 5), .inl (X.2.1, 3, .inl fr))]) sz) (va_A (xW h0 nw sp xa la lb ++ rcW X nw an v b g ++ rnW (xa 8) vg ++ [((xa 5), .inl (X.2.1, 3, .inl fr))]) sz) s (xW h0 nw sp xa la lb ++ rcW X nw an v b g ++ rnW (xa 8) vg ++ [((xa 5), .inl (X.2.1, 3, .inl fr))]) H locs := G
            exact join_41 r_9 _ _ _  G hl
          · refine k_it (v := 3) (by rw [q_6]; rfl) ?_
            refine r_aald (C := RX8) (b := (an 4)) S G 2 3 rfl rfl (k_vp (by decide)) rfl dX10_beats_41 ?_
            refine o_ri (cells' := 0) (slots' := 0) G rfl rfl (n_V (As := []) (rest := []) (C := RX8) (T := TX8) (N := 8) (ci := 6) S G (s_isHome l X (an 4) (fun k => v (34 + k)) H.size) gX10_beats_X8_isHome rfl rfl rfl hdV_X8_isHome ⟨Nat.le_of_ble_eq_true rfl, Nat.le_of_ble_eq_true rfl⟩ [6] rfl rfl 6 rfl rfl rfl hl.1 (Nat.le_of_ble_eq_true rfl) dX10_beats_42 ⟨Nat.le_of_ble_eq_true rfl, Nat.le_of_ble_eq_true rfl⟩) (fun r_10 u_10 H locs hp_10 G => ?_)
            have G : wd X (va_A (xW h0 nw sp xa la lb ++ rcW X nw an v b g ++ rnW (xa 8) vg ++ [((xa 5), .inl (X.2.1, 3, .inl fr))]) sz) (va_A (xW h0 nw sp xa la lb ++ rcW X nw an v b g ++ rnW (xa 8) vg ++ [((xa 5), .inl (X.2.1, 3, .inl fr))]) sz) s (xW h0 nw sp xa la lb ++ rcW X nw an v b g ++ rnW (xa 8) vg ++ [((xa 5), .inl (X.2.1, 3, .inl fr))]) H locs := G
            exact join_41 r_10 _ _ _  G hl
          · refine k_it (v := 4) (by rw [q_6]; rfl) ?_
            refine r_aald (C := RX8) (b := (an 5)) S G 2 3 rfl rfl (k_vp (by decide)) rfl dX10_beats_41 ?_
            refine o_ri (cells' := 0) (slots' := 0) G rfl rfl (n_V (As := []) (rest := []) (C := RX8) (T := TX8) (N := 8) (ci := 6) S G (s_isHome l X (an 5) (fun k => v (42 + k)) H.size) gX10_beats_X8_isHome rfl rfl rfl hdV_X8_isHome ⟨Nat.le_of_ble_eq_true rfl, Nat.le_of_ble_eq_true rfl⟩ [7] rfl rfl 7 rfl rfl rfl hl.1 (Nat.le_of_ble_eq_true rfl) dX10_beats_42 ⟨Nat.le_of_ble_eq_true rfl, Nat.le_of_ble_eq_true rfl⟩) (fun r_11 u_11 H locs hp_11 G => ?_)
            have G : wd X (va_A (xW h0 nw sp xa la lb ++ rcW X nw an v b g ++ rnW (xa 8) vg ++ [((xa 5), .inl (X.2.1, 3, .inl fr))]) sz) (va_A (xW h0 nw sp xa la lb ++ rcW X nw an v b g ++ rnW (xa 8) vg ++ [((xa 5), .inl (X.2.1, 3, .inl fr))]) sz) s (xW h0 nw sp xa la lb ++ rcW X nw an v b g ++ rnW (xa 8) vg ++ [((xa 5), .inl (X.2.1, 3, .inl fr))]) H locs := G
            exact join_41 r_11 _ _ _  G hl
          · refine k_it (v := 5) (by rw [q_6]; rfl) ?_
            refine r_aald (C := RX8) (b := (an 6)) S G 2 3 rfl rfl (k_vp (by decide)) rfl dX10_beats_41 ?_
            refine o_ri (cells' := 0) (slots' := 0) G rfl rfl (n_V (As := []) (rest := []) (C := RX8) (T := TX8) (N := 8) (ci := 6) S G (s_isHome l X (an 6) (fun k => v (50 + k)) H.size) gX10_beats_X8_isHome rfl rfl rfl hdV_X8_isHome ⟨Nat.le_of_ble_eq_true rfl, Nat.le_of_ble_eq_true rfl⟩ [8] rfl rfl 8 rfl rfl rfl hl.1 (Nat.le_of_ble_eq_true rfl) dX10_beats_42 ⟨Nat.le_of_ble_eq_true rfl, Nat.le_of_ble_eq_true rfl⟩) (fun r_12 u_12 H locs hp_12 G => ?_)
            have G : wd X (va_A (xW h0 nw sp xa la lb ++ rcW X nw an v b g ++ rnW (xa 8) vg ++ [((xa 5), .inl (X.2.1, 3, .inl fr))]) sz) (va_A (xW h0 nw sp xa la lb ++ rcW X nw an v b g ++ rnW (xa 8) vg ++ [((xa 5), .inl (X.2.1, 3, .inl fr))]) sz) s (xW h0 nw sp xa la lb ++ rcW X nw an v b g ++ rnW (xa 8) vg ++ [((xa 5), .inl (X.2.1, 3, .inl fr))]) H locs := G
            exact join_41 r_12 _ _ _  G hl
        · intro x_5 H locs ls  G hl
          refine lv_if_eq (tgt := 50) zx zb dX10_beats_45 (by decide) (fun c_13 => ?_) (fun c_13 => ?_)
          · refine lv_aload_n zx zb dX10_beats_50 rfl (lv_at hl 1 rfl) ?_
            refine lv_iload_n zx zb dX10_beats_51 rfl (lv_at hl 3 rfl) ?_
            refine lv_bipush (v := 60) zx zb dX10_beats_52 (by decide) ?_
            refine b_wi (cells' := 0) (slots' := 0) (wr := [((xa 5), .inl (X.2.1, 3, .inl fr))]) G rfl rfl [0, 1, 2, 3, 4, 5, 6, 7, 8, 9, 10, 11, 12, 13, 14, 15, 16, 17] [18] rfl rfl rfl rfl (n_V (As := [.int (nI i_1), .int 60]) (rest := []) (C := RX10) (T := TX10) (N := 14) (ci := 8) S G (s_homeBehind l X h0 nw sp xa la lb an v b g vg i_1 60 hI_b (by omega) (by first | decide | assumption | exact k_60a (by assumption)) H.size) gX10_beats_X10_homeBehind rfl rfl rfl hdV_X10_homeBehind ⟨Nat.le_of_ble_eq_true rfl, Nat.le_of_ble_eq_true rfl⟩ [0, 1, 2, 3, 4, 5, 6, 7, 8, 9, 10, 11, 12, 13, 14, 15, 16, 17] rfl rfl 0 rfl rfl rfl hl.1 (Nat.le_of_ble_eq_true rfl) dX10_beats_54 ⟨Nat.le_of_ble_eq_true rfl, Nat.le_of_ble_eq_true rfl⟩) (fun r_14 u_14 H locs hp_14 G => ?_)
            obtain ⟨v_14, rfl⟩ : ∃ z, z = u_14 := ⟨_, rfl⟩
            have hq_14 := hp_14
            have G : wd X (va_A (xW h0 nw sp xa la lb ++ rcW X nw an v b g ++ rnW (xa 8) vg ++ [((xa 5), .inl (X.2.1, 3, .inl fr))]) sz) (va_A (xW h0 nw sp xa la lb ++ rcW X nw an v b g ++ rnW (xa 8) vg ++ [((xa 5), .inl (X.2.1, 3, .inl fr))]) sz) s ([((xa 5), .inl (X.2.1, 3, .inl fr))] ++ xW h0 nw sp xa la lb ++ rcW X nw an v b g ++ rnW (xa 8) v_14) H locs := G
            refine lv_istore (lv' := [(4, .int r_14), (3, .ref (an 1)), (0, .ref h0), (1, .int 0), (2, .int (nI i_1))]) zx zb dX10_beats_57 hl (by decide) rfl (fun ls hl => ?_)
            refine lv_iload zx zb dX10_beats_59 (lv_at hl 0 rfl) ?_
            refine lv_iconst (v := (-1)) zx zb dX10_beats_61 (by decide) ?_
            refine k_cutW (PP := fun Wx => ∀ (x_16 : Int32) (H : Heap) (locs : List Loc) (ls : Array Slot), (x_16 ≤ 60) → wd X (va_A (xW h0 nw sp xa la lb ++ rcW X nw an v b g ++ rnW (xa 8) vg ++ [((xa 5), .inl (X.2.1, 3, .inl fr))]) sz) (va_A (xW h0 nw sp xa la lb ++ rcW X nw an v b g ++ rnW (xa 8) vg ++ [((xa 5), .inl (X.2.1, 3, .inl fr))]) sz) s ([((xa 5), .inl (X.2.1, 3, .inl fr))] ++ xW h0 nw sp xa la lb ++ rcW X nw an v b g ++ rnW (xa 8) v_14) H locs → lv_has ls 7 [(4, .int r_14), (3, .ref (an 1)), (0, .ref h0), (1, .int 0), (2, .int (nI i_1))] → Wx (F0 m 74 ls [.int x_16]) H locs) ?_ ?_
            · intro join_62
              refine lv_icmp_ne (tgt := 70) zx zb dX10_beats_62 (by decide) (fun c_15 => ?_) (fun c_15 => ?_)
              · refine lv_iload zx zb dX10_beats_70 (lv_at hl 0 rfl) ?_
                refine lv_iconst (v := 1) zx zb dX10_beats_72 (by decide) ?_
                refine r_isub (v := (r_14 - 1)) S rfl dX10_beats_73 ?_
                exact join_62 (r_14 - 1) _ _ _ (by first | assumption | decide | exact k_m60 (by assumption)) G hl
              · refine lv_bipush (v := 60) zx zb dX10_beats_65 (by decide) ?_
                refine lv_goto (tgt := 74) zx zb dX10_beats_67 (by decide) ?_
                exact join_62 60 _ _ _ (by first | assumption | decide | exact k_m60 (by assumption)) G hl
            · intro x_16 H locs ls hk_x_16 G hl
              refine lv_istore (lv' := [(5, .int x_16), (4, .int r_14), (3, .ref (an 1)), (0, .ref h0), (1, .int 0), (2, .int (nI i_1))]) zx zb dX10_beats_74 hl (by decide) rfl (fun ls hl => ?_)
              refine lv_iconst (v := 0) zx zb dX10_beats_76 (by decide) ?_
              refine lv_istore (lv' := [(6, .int 0), (5, .int x_16), (4, .int r_14), (3, .ref (an 1)), (0, .ref h0), (1, .int 0), (2, .int (nI i_1))]) zx zb dX10_beats_77 hl (by decide) rfl (fun ls hl => ?_)
              refine k_loop (P := ∀ (zm : Nat) (k79 : Nat) (v79_3 : Nat → Int32) (H : Heap) (locs : List Loc) (ls : Array Slot), 31 + 1 ≤ k79 + zm → (k79 ≤ 31) → wd X (va_A (xW h0 nw sp xa la lb ++ rcW X nw an v b g ++ rnW (xa 8) vg ++ [((xa 5), .inl (X.2.1, 3, .inl fr))]) sz) (va_A (xW h0 nw sp xa la lb ++ rcW X nw an v b g ++ rnW (xa 8) vg ++ [((xa 5), .inl (X.2.1, 3, .inl fr))]) sz) s ([((xa 5), .inl (X.2.1, 3, .inl fr))] ++ xW h0 nw sp xa la lb ++ rcW X nw an v b g ++ rnW (xa 8) v79_3) H locs → lv_has ls 7 [(6, .int (nI k79)), (5, .int x_16), (4, .int r_14), (3, .ref (an 1)), (0, .ref h0), (1, .int 0), (2, .int (nI i_1))] → W p l e _ s m _ below meth c H locs _ _ _ (F0 m 79 ls [])) (fun loop => loop (31 + 1) 0 v_14 _ _ _ (by omega) (by omega) G hl) ?_
              intro zm
              induction zm with
              | zero => intro k79 v79_3 H locs ls zz q_hk_k79 _ _; exact absurd zz (by omega)
              | succ zm ih79 =>
                intro k79 v79_3 H locs ls zm_79 hk_k79 G hl
                refine lv_iload zx zb dX10_beats_79 (lv_at hl 0 rfl) ?_
                refine lv_bipush (v := 30) zx zb dX10_beats_81 (by decide) ?_
                refine lv_icmp_gt (tgt := 161) zx zb dX10_beats_83 (by decide) (fun c_17 => ?_) (fun c_17 => ?_)
                · have fc_17 := j_lt (a := 30) (b := k79) (by omega) (by omega) c_17
                  refine lv_iconst (v := (-1)) zx zb dX10_beats_161 (by decide) ?_
                  exact e_int S zr zlk (vp_nar_int _) G (v79_3, fr) [1, 2, 3, 4, 5, 6, 7, 8, 9, 10, 11, 12, 13, 14, 15, 16, 17, 18, 0] rfl rfl (Or.inr rfl) (trivial) dX10_beats_162
                · have fc_17 := j_nlt (a := 30) (b := k79) (by omega) (by omega) c_17
                  refine lv_aload_n zx zb dX10_beats_86 rfl (lv_at hl 3 rfl) ?_
                  refine r_get (C := RX8) (T := TX8) (N := 8) (ci := 6) (v := .int (v 14)) S in_X10_beats_X8 G 4 rfl rfl 4 (by decide) lk_X10_beats_137 rfl dX10_beats_87 ?_
                  refine lv_iload zx zb dX10_beats_90 (lv_at hl 0 rfl) ?_
                  refine r_iadd (v := ((v 14) + (nI k79))) S rfl dX10_beats_92 ?_
                  refine lv_aload_n zx zb dX10_beats_93 rfl (lv_at hl 4 rfl) ?_
                  refine r_get (C := RX10) (T := TX10) (N := 14) (ci := 8) (v := .ref nw) S in_X10_beats_X10 G 1 rfl rfl 0 (by decide) lk_X10_beats_10 rfl dX10_beats_94 ?_
                  refine r_get (C := RX5) (T := TX5) (N := 8) (ci := 3) (v := .int (v 0)) S in_X10_beats_X5 G 2 rfl rfl 0 (by decide) lk_X10_beats_140 rfl dX10_beats_97 ?_
                  refine lv_icmp_ge (tgt := 161) zx zb dX10_beats_100 (by decide) (fun c_18 => ?_) (fun c_18 => ?_)
                  · refine lv_iconst (v := (-1)) zx zb dX10_beats_161 (by decide) ?_
                    exact e_int S zr zlk (vp_nar_int _) G (v79_3, fr) [1, 2, 3, 4, 5, 6, 7, 8, 9, 10, 11, 12, 13, 14, 15, 16, 17, 18, 0] rfl rfl (Or.inr rfl) (trivial) dX10_beats_162
                  · refine lv_aload_n zx zb dX10_beats_103 rfl (lv_at hl 4 rfl) ?_
                    refine r_get (C := RX10) (T := TX10) (N := 14) (ci := 8) (v := .ref (xa 8)) S in_X10_beats_X10 G 1 rfl rfl 8 (by decide) lk_X10_beats_48 rfl dX10_beats_104 ?_
                    refine lv_aload_n zx zb dX10_beats_107 rfl (lv_at hl 3 rfl) ?_
                    refine b_wv (cells' := 0) (slots' := 0) (wr := [((xa 5), .inl (X.2.1, 3, .inl fr))] ++ xW h0 nw sp xa la lb ++ [(nw, .inr (3, [.int (v 0), .int (v 1), .int (nI (b 0)), .ref (an 0), .ref (an 7), .ref (an 9), .ref (an 11), .ref (an 13)])), ((an 0), .inl (X.2.2.2.2, 6, .inr (.inr (.inr (.inr (rowQ an)))))), ((an 2), .inr (6, [.int (v 18), .int (v 19), .int (v 20), .int (v 21), .int (v 22), .int (v 23), .int (v 24), .int (v 25)])), ((an 3), .inr (6, [.int (v 26), .int (v 27), .int (v 28), .int (v 29), .int (v 30), .int (v 31), .int (v 32), .int (v 33)])), ((an 4), .inr (6, [.int (v 34), .int (v 35), .int (v 36), .int (v 37), .int (v 38), .int (v 39), .int (v 40), .int (v 41)])), ((an 5), .inr (6, [.int (v 42), .int (v 43), .int (v 44), .int (v 45), .int (v 46), .int (v 47), .int (v 48), .int (v 49)])), ((an 6), .inr (6, [.int (v 50), .int (v 51), .int (v 52), .int (v 53), .int (v 54), .int (v 55), .int (v 56), .int (v 57)])), ((an 7), .inr (2, [.ref (an 8), .int (nI (b 1))])), ((an 8), .inl (X.2.1, 248, .inl (g 0))), ((an 9), .inr (5, [.int 5, .int 0, .int 1, .ref (an 10), .int (nI (b 2))])), ((an 10), .inl (X.2.1, 25, .inl (g 1))), ((an 11), .inr (5, [.int 6, .int 1, .int 1, .ref (an 12), .int (nI (b 3))])), ((an 12), .inl (X.2.1, 30, .inl (g 2))), ((an 13), .inr (5, [.int 6, .int 0, .int 0, .ref (an 14), .int (nI (b 4))])), ((an 14), .inl (X.2.1, 30, .inl (g 3)))]) G rfl rfl [18, 4] [0, 1, 2, 3, 5, 6, 7, 8, 9, 10, 11, 12, 13, 14, 15, 16, 17] rfl rfl rfl rfl (n_V (As := [.ref (an 1)]) (rest := []) (C := RX8) (T := TX8) (N := 8) (ci := 6) S G (s_rcopy l X (xa 8) v79_3 (an 1) (fun k => v (10 + k)) H.size) gX10_beats_X8_copyFrom rfl rfl rfl hdV_X8_copyFrom ⟨Nat.le_of_ble_eq_true rfl, Nat.le_of_ble_eq_true rfl⟩ [18, 4] rfl rfl 18 rfl rfl rfl hl.1 (Nat.le_of_ble_eq_true rfl) dX10_beats_108 ⟨Nat.le_of_ble_eq_true rfl, Nat.le_of_ble_eq_true rfl⟩) (fun u_19 H locs hp_19 G => ?_)
                    obtain ⟨v_19, rfl⟩ : ∃ z, z = u_19 := ⟨_, rfl⟩
                    have hq_19 := hp_19
                    have G : wd X (va_A (xW h0 nw sp xa la lb ++ rcW X nw an v b g ++ rnW (xa 8) vg ++ [((xa 5), .inl (X.2.1, 3, .inl fr))]) sz) (va_A (xW h0 nw sp xa la lb ++ rcW X nw an v b g ++ rnW (xa 8) vg ++ [((xa 5), .inl (X.2.1, 3, .inl fr))]) sz) s ([((xa 5), .inl (X.2.1, 3, .inl fr))] ++ xW h0 nw sp xa la lb ++ rcW X nw an v b g ++ rnW (xa 8) v_19) H locs := wd_sub G [0, 1, 2, 3, 18, 4, 5, 6, 7, 8, 9, 10, 11, 12, 13, 14, 15, 16, 17] rfl rfl
                    refine lv_aload_n zx zb dX10_beats_111 rfl (lv_at hl 4 rfl) ?_
                    refine r_get (C := RX10) (T := TX10) (N := 14) (ci := 8) (v := .ref (xa 8)) S in_X10_beats_X10 G 1 rfl rfl 8 (by decide) lk_X10_beats_48 rfl dX10_beats_112 ?_
                    refine lv_dup zx zb dX10_beats_115 rfl ?_
                    refine r_get (C := RX8) (T := TX8) (N := 8) (ci := 6) (v := .int (v_19 4)) S in_X10_beats_X8 G 18 rfl rfl 4 (by decide) lk_X10_beats_137 rfl dX10_beats_116 ?_
                    refine lv_iload zx zb dX10_beats_119 (lv_at hl 0 rfl) ?_
                    refine r_iadd (v := ((v_19 4) + (nI k79))) S rfl dX10_beats_121 ?_
                    refine r_put (C := RX8) (T := TX8) (N := 8) (ci := 6) (v := .int ((v_19 4) + (nI k79))) S in_X10_beats_X8 tyX8_ok nmX8 G 18 rfl rfl 4 (by decide) lk_X10_beats_137 rfl (vp_nar_int _) rfl (Nat.le_of_ble_eq_true rfl) dX10_beats_122 (fun H locs G => ?_)
                    obtain ⟨v_20, G⟩ : ∃ v_20 : Nat → Int32, wd X (va_A (xW h0 nw sp xa la lb ++ rcW X nw an v b g ++ rnW (xa 8) vg ++ [((xa 5), .inl (X.2.1, 3, .inl fr))]) sz) (va_A (xW h0 nw sp xa la lb ++ rcW X nw an v b g ++ rnW (xa 8) vg ++ [((xa 5), .inl (X.2.1, 3, .inl fr))]) sz) s ([((xa 5), .inl (X.2.1, 3, .inl fr))] ++ xW h0 nw sp xa la lb ++ rcW X nw an v b g ++ rnW (xa 8) v_20) H locs := ⟨upd v_19 4 ((v_19 4) + (nI k79)), G⟩
                    refine lv_aload_n zx zb dX10_beats_125 rfl (lv_at hl 4 rfl) ?_
                    refine r_get (C := RX10) (T := TX10) (N := 14) (ci := 8) (v := .ref (xa 8)) S in_X10_beats_X10 G 1 rfl rfl 8 (by decide) lk_X10_beats_48 rfl dX10_beats_126 ?_
                    refine lv_aload_n zx zb dX10_beats_129 rfl (lv_at hl 4 rfl) ?_
                    refine r_get (C := RX10) (T := TX10) (N := 14) (ci := 8) (v := .ref nw) S in_X10_beats_X10 G 1 rfl rfl 0 (by decide) lk_X10_beats_10 rfl dX10_beats_130 ?_
                    refine r_get (C := RX5) (T := TX5) (N := 8) (ci := 3) (v := .int (v 1)) S in_X10_beats_X5 G 2 rfl rfl 1 (by decide) lk_X10_beats_110 rfl dX10_beats_133 ?_
                    refine lv_aload_n zx zb dX10_beats_136 rfl (lv_at hl 4 rfl) ?_
                    refine r_get (C := RX10) (T := TX10) (N := 14) (ci := 8) (v := .ref nw) S in_X10_beats_X10 G 1 rfl rfl 0 (by decide) lk_X10_beats_10 rfl dX10_beats_137 ?_
                    refine r_get (C := RX5) (T := TX5) (N := 8) (ci := 3) (v := .int (v 0)) S in_X10_beats_X5 G 2 rfl rfl 0 (by decide) lk_X10_beats_140 rfl dX10_beats_140 ?_
                    refine lv_iload zx zb dX10_beats_143 (lv_at hl 1 rfl) ?_
                    refine b_wi (cells' := 0) (slots' := 0) (wr := [((xa 5), .inl (X.2.1, 3, .inl fr))] ++ xW h0 nw sp xa la lb ++ rcW X nw an v b g) G rfl rfl [18] [0, 1, 2, 3, 4, 5, 6, 7, 8, 9, 10, 11, 12, 13, 14, 15, 16, 17] rfl rfl rfl rfl (n_V (As := [.int (v 1), .int (v 0), .int x_16]) (rest := []) (C := RX8) (T := TX8) (N := 8) (ci := 6) S G (s_ticksToHome l X (xa 8) v_20 (v 1) (v 0) x_16 (by first | decide | assumption | exact k_60a (by assumption)) H.size) gX10_beats_X8_ticksToHome rfl rfl rfl hdV_X8_ticksToHome ⟨Nat.le_of_ble_eq_true rfl, Nat.le_of_ble_eq_true rfl⟩ [18] rfl rfl 18 rfl rfl rfl hl.1 (Nat.le_of_ble_eq_true rfl) dX10_beats_145 ⟨Nat.le_of_ble_eq_true rfl, Nat.le_of_ble_eq_true rfl⟩) (fun r_21 u_21 H locs hp_21 G => ?_)
                    obtain ⟨v_21, rfl⟩ : ∃ z, z = u_21 := ⟨_, rfl⟩
                    have hq_21 := hp_21
                    obtain ⟨hq_21, hs_21⟩ := hq_21
                    have G : wd X (va_A (xW h0 nw sp xa la lb ++ rcW X nw an v b g ++ rnW (xa 8) vg ++ [((xa 5), .inl (X.2.1, 3, .inl fr))]) sz) (va_A (xW h0 nw sp xa la lb ++ rcW X nw an v b g ++ rnW (xa 8) vg ++ [((xa 5), .inl (X.2.1, 3, .inl fr))]) sz) s ([((xa 5), .inl (X.2.1, 3, .inl fr))] ++ xW h0 nw sp xa la lb ++ rcW X nw an v b g ++ rnW (xa 8) v_21) H locs := G
                    refine lv_iconst (v := (-1)) zx zb dX10_beats_148 (by decide) ?_
                    refine lv_icmp_eq (tgt := 155) zx zb dX10_beats_149 (by decide) (fun c_22 => ?_) (fun c_22 => ?_)
                    · refine lv_iinc (v := (nI (k79 + 1))) (lv' := [(6, .int (nI (k79 + 1))), (5, .int x_16), (4, .int r_14), (3, .ref (an 1)), (0, .ref h0), (1, .int 0), (2, .int (nI i_1))]) zx zb dX10_beats_155 hl (k := 0) rfl (nI_add k79 1) (by decide) rfl (fun ls hl => ?_)
                      refine lv_goto (tgt := 79) zx zb dX10_beats_158 (by decide) ?_
                      exact ih79 (k79 + 1) v_21 _ _ _ (by omega) (by omega) G hl
                    · refine lv_iload zx zb dX10_beats_152 (lv_at hl 0 rfl) ?_
                      exact e_int S zr zlk (vp_nar_int _) G (v_21, fr) [1, 2, 3, 4, 5, 6, 7, 8, 9, 10, 11, 12, 13, 14, 15, 16, 17, 18, 0] rfl rfl (Or.inr rfl) (trivial) dX10_beats_154
          · refine lv_iconst (v := (-1)) zx zb dX10_beats_48 (by decide) ?_
            exact e_int S zr zlk (vp_nar_int _) G (vg, fr) [0, 1, 2, 3, 4, 5, 6, 7, 8, 9, 10, 11, 12, 13, 14, 15, 16, 17, 18] rfl rfl (Or.inr rfl) (trivial) dX10_beats_49
    · refine k_it (v := 1) rfl ?_
      refine r_aald (C := RX8) (b := (an 2)) S G 2 3 rfl rfl (k_vp (by decide)) rfl dX10_beats_24 ?_
      refine lv_astore_n (lv' := [(3, .ref (an 2)), (0, .ref h0), (1, .int 1), (2, .int (nI i_1))]) zx zb dX10_beats_25 rfl hl (by decide) rfl (fun ls hl => ?_)
      refine lv_aload_n zx zb dX10_beats_26 rfl (lv_at hl 0 rfl) ?_
      refine o_ri (cells' := 0) (slots' := 0) G rfl rfl (n_V (As := []) (rest := []) (C := RX8) (T := TX8) (N := 8) (ci := 6) S G (s_isHome l X (an 2) (fun k => v (18 + k)) H.size) gX10_beats_X8_isHome rfl rfl rfl hdV_X8_isHome ⟨Nat.le_of_ble_eq_true rfl, Nat.le_of_ble_eq_true rfl⟩ [4] rfl rfl 4 rfl rfl rfl hl.1 (Nat.le_of_ble_eq_true rfl) dX10_beats_27 ⟨Nat.le_of_ble_eq_true rfl, Nat.le_of_ble_eq_true rfl⟩) (fun r_23 u_23 H locs hp_23 G => ?_)
      have G : wd X (va_A (xW h0 nw sp xa la lb ++ rcW X nw an v b g ++ rnW (xa 8) vg ++ [((xa 5), .inl (X.2.1, 3, .inl fr))]) sz) (va_A (xW h0 nw sp xa la lb ++ rcW X nw an v b g ++ rnW (xa 8) vg ++ [((xa 5), .inl (X.2.1, 3, .inl fr))]) sz) s (xW h0 nw sp xa la lb ++ rcW X nw an v b g ++ rnW (xa 8) vg ++ [((xa 5), .inl (X.2.1, 3, .inl fr))]) H locs := G
      refine lv_if_ne (tgt := 48) zx zb dX10_beats_30 (by decide) (fun c_24 => ?_) (fun c_24 => ?_)
      · refine lv_iconst (v := (-1)) zx zb dX10_beats_48 (by decide) ?_
        exact e_int S zr zlk (vp_nar_int _) G (vg, fr) [0, 1, 2, 3, 4, 5, 6, 7, 8, 9, 10, 11, 12, 13, 14, 15, 16, 17, 18] rfl rfl (Or.inr rfl) (trivial) dX10_beats_49
      · refine lv_aload_n zx zb dX10_beats_33 rfl (lv_at hl 1 rfl) ?_
        refine r_get (C := RX10) (T := TX10) (N := 14) (ci := 8) (v := .ref nw) S in_X10_beats_X10 G 0 rfl rfl 0 (by decide) lk_X10_beats_10 rfl dX10_beats_34 ?_
        refine r_get (C := RX5) (T := TX5) (N := 8) (ci := 3) (v := .ref (an 0)) S in_X10_beats_X5 G 1 rfl rfl 3 (by decide) lk_X10_beats_126 rfl dX10_beats_37 ?_
        refine lv_iload_n zx zb dX10_beats_40 rfl (lv_at hl 3 rfl) ?_
        refine k_cutW (PP := fun Wx => ∀ (x_25 : Int32) (H : Heap) (locs : List Loc) (ls : Array Slot), wd X (va_A (xW h0 nw sp xa la lb ++ rcW X nw an v b g ++ rnW (xa 8) vg ++ [((xa 5), .inl (X.2.1, 3, .inl fr))]) sz) (va_A (xW h0 nw sp xa la lb ++ rcW X nw an v b g ++ rnW (xa 8) vg ++ [((xa 5), .inl (X.2.1, 3, .inl fr))]) sz) s (xW h0 nw sp xa la lb ++ rcW X nw an v b g ++ rnW (xa 8) vg ++ [((xa 5), .inl (X.2.1, 3, .inl fr))]) H locs → lv_has ls 7 [(3, .ref (an 2)), (0, .ref h0), (1, .int 1), (2, .int (nI i_1))] → Wx (F0 m 45 ls [.int x_25]) H locs) ?_ ?_
        · intro join_41
          rcases k_6c (show i_1 < 6 by omega) with q_26 | q_26 | q_26 | q_26 | q_26 | q_26
          · refine k_it (v := 0) (by rw [q_26]; rfl) ?_
            refine r_aald (C := RX8) (b := (an 1)) S G 2 3 rfl rfl (k_vp (by decide)) rfl dX10_beats_41 ?_
            refine o_ri (cells' := 0) (slots' := 0) G rfl rfl (n_V (As := []) (rest := []) (C := RX8) (T := TX8) (N := 8) (ci := 6) S G (s_isHome l X (an 1) (fun k => v (10 + k)) H.size) gX10_beats_X8_isHome rfl rfl rfl hdV_X8_isHome ⟨Nat.le_of_ble_eq_true rfl, Nat.le_of_ble_eq_true rfl⟩ [3] rfl rfl 3 rfl rfl rfl hl.1 (Nat.le_of_ble_eq_true rfl) dX10_beats_42 ⟨Nat.le_of_ble_eq_true rfl, Nat.le_of_ble_eq_true rfl⟩) (fun r_27 u_27 H locs hp_27 G => ?_)
            have G : wd X (va_A (xW h0 nw sp xa la lb ++ rcW X nw an v b g ++ rnW (xa 8) vg ++ [((xa 5), .inl (X.2.1, 3, .inl fr))]) sz) (va_A (xW h0 nw sp xa la lb ++ rcW X nw an v b g ++ rnW (xa 8) vg ++ [((xa 5), .inl (X.2.1, 3, .inl fr))]) sz) s (xW h0 nw sp xa la lb ++ rcW X nw an v b g ++ rnW (xa 8) vg ++ [((xa 5), .inl (X.2.1, 3, .inl fr))]) H locs := G
            exact join_41 r_27 _ _ _  G hl
          · refine k_it (v := 1) (by rw [q_26]; rfl) ?_
            refine r_aald (C := RX8) (b := (an 2)) S G 2 3 rfl rfl (k_vp (by decide)) rfl dX10_beats_41 ?_
            refine o_ri (cells' := 0) (slots' := 0) G rfl rfl (n_V (As := []) (rest := []) (C := RX8) (T := TX8) (N := 8) (ci := 6) S G (s_isHome l X (an 2) (fun k => v (18 + k)) H.size) gX10_beats_X8_isHome rfl rfl rfl hdV_X8_isHome ⟨Nat.le_of_ble_eq_true rfl, Nat.le_of_ble_eq_true rfl⟩ [4] rfl rfl 4 rfl rfl rfl hl.1 (Nat.le_of_ble_eq_true rfl) dX10_beats_42 ⟨Nat.le_of_ble_eq_true rfl, Nat.le_of_ble_eq_true rfl⟩) (fun r_28 u_28 H locs hp_28 G => ?_)
            have G : wd X (va_A (xW h0 nw sp xa la lb ++ rcW X nw an v b g ++ rnW (xa 8) vg ++ [((xa 5), .inl (X.2.1, 3, .inl fr))]) sz) (va_A (xW h0 nw sp xa la lb ++ rcW X nw an v b g ++ rnW (xa 8) vg ++ [((xa 5), .inl (X.2.1, 3, .inl fr))]) sz) s (xW h0 nw sp xa la lb ++ rcW X nw an v b g ++ rnW (xa 8) vg ++ [((xa 5), .inl (X.2.1, 3, .inl fr))]) H locs := G
            exact join_41 r_28 _ _ _  G hl
          · refine k_it (v := 2) (by rw [q_26]; rfl) ?_
            refine r_aald (C := RX8) (b := (an 3)) S G 2 3 rfl rfl (k_vp (by decide)) rfl dX10_beats_41 ?_
            refine o_ri (cells' := 0) (slots' := 0) G rfl rfl (n_V (As := []) (rest := []) (C := RX8) (T := TX8) (N := 8) (ci := 6) S G (s_isHome l X (an 3) (fun k => v (26 + k)) H.size) gX10_beats_X8_isHome rfl rfl rfl hdV_X8_isHome ⟨Nat.le_of_ble_eq_true rfl, Nat.le_of_ble_eq_true rfl⟩ [5] rfl rfl 5 rfl rfl rfl hl.1 (Nat.le_of_ble_eq_true rfl) dX10_beats_42 ⟨Nat.le_of_ble_eq_true rfl, Nat.le_of_ble_eq_true rfl⟩) (fun r_29 u_29 H locs hp_29 G => ?_)
            have G : wd X (va_A (xW h0 nw sp xa la lb ++ rcW X nw an v b g ++ rnW (xa 8) vg ++ [((xa 5), .inl (X.2.1, 3, .inl fr))]) sz) (va_A (xW h0 nw sp xa la lb ++ rcW X nw an v b g ++ rnW (xa 8) vg ++ [((xa 5), .inl (X.2.1, 3, .inl fr))]) sz) s (xW h0 nw sp xa la lb ++ rcW X nw an v b g ++ rnW (xa 8) vg ++ [((xa 5), .inl (X.2.1, 3, .inl fr))]) H locs := G
            exact join_41 r_29 _ _ _  G hl
          · refine k_it (v := 3) (by rw [q_26]; rfl) ?_
            refine r_aald (C := RX8) (b := (an 4)) S G 2 3 rfl rfl (k_vp (by decide)) rfl dX10_beats_41 ?_
            refine o_ri (cells' := 0) (slots' := 0) G rfl rfl (n_V (As := []) (rest := []) (C := RX8) (T := TX8) (N := 8) (ci := 6) S G (s_isHome l X (an 4) (fun k => v (34 + k)) H.size) gX10_beats_X8_isHome rfl rfl rfl hdV_X8_isHome ⟨Nat.le_of_ble_eq_true rfl, Nat.le_of_ble_eq_true rfl⟩ [6] rfl rfl 6 rfl rfl rfl hl.1 (Nat.le_of_ble_eq_true rfl) dX10_beats_42 ⟨Nat.le_of_ble_eq_true rfl, Nat.le_of_ble_eq_true rfl⟩) (fun r_30 u_30 H locs hp_30 G => ?_)
            have G : wd X (va_A (xW h0 nw sp xa la lb ++ rcW X nw an v b g ++ rnW (xa 8) vg ++ [((xa 5), .inl (X.2.1, 3, .inl fr))]) sz) (va_A (xW h0 nw sp xa la lb ++ rcW X nw an v b g ++ rnW (xa 8) vg ++ [((xa 5), .inl (X.2.1, 3, .inl fr))]) sz) s (xW h0 nw sp xa la lb ++ rcW X nw an v b g ++ rnW (xa 8) vg ++ [((xa 5), .inl (X.2.1, 3, .inl fr))]) H locs := G
            exact join_41 r_30 _ _ _  G hl
          · refine k_it (v := 4) (by rw [q_26]; rfl) ?_
            refine r_aald (C := RX8) (b := (an 5)) S G 2 3 rfl rfl (k_vp (by decide)) rfl dX10_beats_41 ?_
            refine o_ri (cells' := 0) (slots' := 0) G rfl rfl (n_V (As := []) (rest := []) (C := RX8) (T := TX8) (N := 8) (ci := 6) S G (s_isHome l X (an 5) (fun k => v (42 + k)) H.size) gX10_beats_X8_isHome rfl rfl rfl hdV_X8_isHome ⟨Nat.le_of_ble_eq_true rfl, Nat.le_of_ble_eq_true rfl⟩ [7] rfl rfl 7 rfl rfl rfl hl.1 (Nat.le_of_ble_eq_true rfl) dX10_beats_42 ⟨Nat.le_of_ble_eq_true rfl, Nat.le_of_ble_eq_true rfl⟩) (fun r_31 u_31 H locs hp_31 G => ?_)
            have G : wd X (va_A (xW h0 nw sp xa la lb ++ rcW X nw an v b g ++ rnW (xa 8) vg ++ [((xa 5), .inl (X.2.1, 3, .inl fr))]) sz) (va_A (xW h0 nw sp xa la lb ++ rcW X nw an v b g ++ rnW (xa 8) vg ++ [((xa 5), .inl (X.2.1, 3, .inl fr))]) sz) s (xW h0 nw sp xa la lb ++ rcW X nw an v b g ++ rnW (xa 8) vg ++ [((xa 5), .inl (X.2.1, 3, .inl fr))]) H locs := G
            exact join_41 r_31 _ _ _  G hl
          · refine k_it (v := 5) (by rw [q_26]; rfl) ?_
            refine r_aald (C := RX8) (b := (an 6)) S G 2 3 rfl rfl (k_vp (by decide)) rfl dX10_beats_41 ?_
            refine o_ri (cells' := 0) (slots' := 0) G rfl rfl (n_V (As := []) (rest := []) (C := RX8) (T := TX8) (N := 8) (ci := 6) S G (s_isHome l X (an 6) (fun k => v (50 + k)) H.size) gX10_beats_X8_isHome rfl rfl rfl hdV_X8_isHome ⟨Nat.le_of_ble_eq_true rfl, Nat.le_of_ble_eq_true rfl⟩ [8] rfl rfl 8 rfl rfl rfl hl.1 (Nat.le_of_ble_eq_true rfl) dX10_beats_42 ⟨Nat.le_of_ble_eq_true rfl, Nat.le_of_ble_eq_true rfl⟩) (fun r_32 u_32 H locs hp_32 G => ?_)
            have G : wd X (va_A (xW h0 nw sp xa la lb ++ rcW X nw an v b g ++ rnW (xa 8) vg ++ [((xa 5), .inl (X.2.1, 3, .inl fr))]) sz) (va_A (xW h0 nw sp xa la lb ++ rcW X nw an v b g ++ rnW (xa 8) vg ++ [((xa 5), .inl (X.2.1, 3, .inl fr))]) sz) s (xW h0 nw sp xa la lb ++ rcW X nw an v b g ++ rnW (xa 8) vg ++ [((xa 5), .inl (X.2.1, 3, .inl fr))]) H locs := G
            exact join_41 r_32 _ _ _  G hl
        · intro x_25 H locs ls  G hl
          refine lv_if_eq (tgt := 50) zx zb dX10_beats_45 (by decide) (fun c_33 => ?_) (fun c_33 => ?_)
          · refine lv_aload_n zx zb dX10_beats_50 rfl (lv_at hl 1 rfl) ?_
            refine lv_iload_n zx zb dX10_beats_51 rfl (lv_at hl 3 rfl) ?_
            refine lv_bipush (v := 60) zx zb dX10_beats_52 (by decide) ?_
            refine b_wi (cells' := 0) (slots' := 0) (wr := [((xa 5), .inl (X.2.1, 3, .inl fr))]) G rfl rfl [0, 1, 2, 3, 4, 5, 6, 7, 8, 9, 10, 11, 12, 13, 14, 15, 16, 17] [18] rfl rfl rfl rfl (n_V (As := [.int (nI i_1), .int 60]) (rest := []) (C := RX10) (T := TX10) (N := 14) (ci := 8) S G (s_homeBehind l X h0 nw sp xa la lb an v b g vg i_1 60 hI_b (by omega) (by first | decide | assumption | exact k_60a (by assumption)) H.size) gX10_beats_X10_homeBehind rfl rfl rfl hdV_X10_homeBehind ⟨Nat.le_of_ble_eq_true rfl, Nat.le_of_ble_eq_true rfl⟩ [0, 1, 2, 3, 4, 5, 6, 7, 8, 9, 10, 11, 12, 13, 14, 15, 16, 17] rfl rfl 0 rfl rfl rfl hl.1 (Nat.le_of_ble_eq_true rfl) dX10_beats_54 ⟨Nat.le_of_ble_eq_true rfl, Nat.le_of_ble_eq_true rfl⟩) (fun r_34 u_34 H locs hp_34 G => ?_)
            obtain ⟨v_34, rfl⟩ : ∃ z, z = u_34 := ⟨_, rfl⟩
            have hq_34 := hp_34
            have G : wd X (va_A (xW h0 nw sp xa la lb ++ rcW X nw an v b g ++ rnW (xa 8) vg ++ [((xa 5), .inl (X.2.1, 3, .inl fr))]) sz) (va_A (xW h0 nw sp xa la lb ++ rcW X nw an v b g ++ rnW (xa 8) vg ++ [((xa 5), .inl (X.2.1, 3, .inl fr))]) sz) s ([((xa 5), .inl (X.2.1, 3, .inl fr))] ++ xW h0 nw sp xa la lb ++ rcW X nw an v b g ++ rnW (xa 8) v_34) H locs := G
            refine lv_istore (lv' := [(4, .int r_34), (3, .ref (an 2)), (0, .ref h0), (1, .int 1), (2, .int (nI i_1))]) zx zb dX10_beats_57 hl (by decide) rfl (fun ls hl => ?_)
            refine lv_iload zx zb dX10_beats_59 (lv_at hl 0 rfl) ?_
            refine lv_iconst (v := (-1)) zx zb dX10_beats_61 (by decide) ?_
            refine k_cutW (PP := fun Wx => ∀ (x_36 : Int32) (H : Heap) (locs : List Loc) (ls : Array Slot), (x_36 ≤ 60) → wd X (va_A (xW h0 nw sp xa la lb ++ rcW X nw an v b g ++ rnW (xa 8) vg ++ [((xa 5), .inl (X.2.1, 3, .inl fr))]) sz) (va_A (xW h0 nw sp xa la lb ++ rcW X nw an v b g ++ rnW (xa 8) vg ++ [((xa 5), .inl (X.2.1, 3, .inl fr))]) sz) s ([((xa 5), .inl (X.2.1, 3, .inl fr))] ++ xW h0 nw sp xa la lb ++ rcW X nw an v b g ++ rnW (xa 8) v_34) H locs → lv_has ls 7 [(4, .int r_34), (3, .ref (an 2)), (0, .ref h0), (1, .int 1), (2, .int (nI i_1))] → Wx (F0 m 74 ls [.int x_36]) H locs) ?_ ?_
            · intro join_62
              refine lv_icmp_ne (tgt := 70) zx zb dX10_beats_62 (by decide) (fun c_35 => ?_) (fun c_35 => ?_)
              · refine lv_iload zx zb dX10_beats_70 (lv_at hl 0 rfl) ?_
                refine lv_iconst (v := 1) zx zb dX10_beats_72 (by decide) ?_
                refine r_isub (v := (r_34 - 1)) S rfl dX10_beats_73 ?_
                exact join_62 (r_34 - 1) _ _ _ (by first | assumption | decide | exact k_m60 (by assumption)) G hl
              · refine lv_bipush (v := 60) zx zb dX10_beats_65 (by decide) ?_
                refine lv_goto (tgt := 74) zx zb dX10_beats_67 (by decide) ?_
                exact join_62 60 _ _ _ (by first | assumption | decide | exact k_m60 (by assumption)) G hl
            · intro x_36 H locs ls hk_x_36 G hl
              refine lv_istore (lv' := [(5, .int x_36), (4, .int r_34), (3, .ref (an 2)), (0, .ref h0), (1, .int 1), (2, .int (nI i_1))]) zx zb dX10_beats_74 hl (by decide) rfl (fun ls hl => ?_)
              refine lv_iconst (v := 0) zx zb dX10_beats_76 (by decide) ?_
              refine lv_istore (lv' := [(6, .int 0), (5, .int x_36), (4, .int r_34), (3, .ref (an 2)), (0, .ref h0), (1, .int 1), (2, .int (nI i_1))]) zx zb dX10_beats_77 hl (by decide) rfl (fun ls hl => ?_)
              refine k_loop (P := ∀ (zm : Nat) (k79 : Nat) (v79_3 : Nat → Int32) (H : Heap) (locs : List Loc) (ls : Array Slot), 31 + 1 ≤ k79 + zm → (k79 ≤ 31) → wd X (va_A (xW h0 nw sp xa la lb ++ rcW X nw an v b g ++ rnW (xa 8) vg ++ [((xa 5), .inl (X.2.1, 3, .inl fr))]) sz) (va_A (xW h0 nw sp xa la lb ++ rcW X nw an v b g ++ rnW (xa 8) vg ++ [((xa 5), .inl (X.2.1, 3, .inl fr))]) sz) s ([((xa 5), .inl (X.2.1, 3, .inl fr))] ++ xW h0 nw sp xa la lb ++ rcW X nw an v b g ++ rnW (xa 8) v79_3) H locs → lv_has ls 7 [(6, .int (nI k79)), (5, .int x_36), (4, .int r_34), (3, .ref (an 2)), (0, .ref h0), (1, .int 1), (2, .int (nI i_1))] → W p l e _ s m _ below meth c H locs _ _ _ (F0 m 79 ls [])) (fun loop => loop (31 + 1) 0 v_34 _ _ _ (by omega) (by omega) G hl) ?_
              intro zm
              induction zm with
              | zero => intro k79 v79_3 H locs ls zz q_hk_k79 _ _; exact absurd zz (by omega)
              | succ zm ih79 =>
                intro k79 v79_3 H locs ls zm_79 hk_k79 G hl
                refine lv_iload zx zb dX10_beats_79 (lv_at hl 0 rfl) ?_
                refine lv_bipush (v := 30) zx zb dX10_beats_81 (by decide) ?_
                refine lv_icmp_gt (tgt := 161) zx zb dX10_beats_83 (by decide) (fun c_37 => ?_) (fun c_37 => ?_)
                · have fc_37 := j_lt (a := 30) (b := k79) (by omega) (by omega) c_37
                  refine lv_iconst (v := (-1)) zx zb dX10_beats_161 (by decide) ?_
                  exact e_int S zr zlk (vp_nar_int _) G (v79_3, fr) [1, 2, 3, 4, 5, 6, 7, 8, 9, 10, 11, 12, 13, 14, 15, 16, 17, 18, 0] rfl rfl (Or.inr rfl) (trivial) dX10_beats_162
                · have fc_37 := j_nlt (a := 30) (b := k79) (by omega) (by omega) c_37
                  refine lv_aload_n zx zb dX10_beats_86 rfl (lv_at hl 3 rfl) ?_
                  refine r_get (C := RX8) (T := TX8) (N := 8) (ci := 6) (v := .int (v 22)) S in_X10_beats_X8 G 5 rfl rfl 4 (by decide) lk_X10_beats_137 rfl dX10_beats_87 ?_
                  refine lv_iload zx zb dX10_beats_90 (lv_at hl 0 rfl) ?_
                  refine r_iadd (v := ((v 22) + (nI k79))) S rfl dX10_beats_92 ?_
                  refine lv_aload_n zx zb dX10_beats_93 rfl (lv_at hl 4 rfl) ?_
                  refine r_get (C := RX10) (T := TX10) (N := 14) (ci := 8) (v := .ref nw) S in_X10_beats_X10 G 1 rfl rfl 0 (by decide) lk_X10_beats_10 rfl dX10_beats_94 ?_
                  refine r_get (C := RX5) (T := TX5) (N := 8) (ci := 3) (v := .int (v 0)) S in_X10_beats_X5 G 2 rfl rfl 0 (by decide) lk_X10_beats_140 rfl dX10_beats_97 ?_
                  refine lv_icmp_ge (tgt := 161) zx zb dX10_beats_100 (by decide) (fun c_38 => ?_) (fun c_38 => ?_)
                  · refine lv_iconst (v := (-1)) zx zb dX10_beats_161 (by decide) ?_
                    exact e_int S zr zlk (vp_nar_int _) G (v79_3, fr) [1, 2, 3, 4, 5, 6, 7, 8, 9, 10, 11, 12, 13, 14, 15, 16, 17, 18, 0] rfl rfl (Or.inr rfl) (trivial) dX10_beats_162
                  · refine lv_aload_n zx zb dX10_beats_103 rfl (lv_at hl 4 rfl) ?_
                    refine r_get (C := RX10) (T := TX10) (N := 14) (ci := 8) (v := .ref (xa 8)) S in_X10_beats_X10 G 1 rfl rfl 8 (by decide) lk_X10_beats_48 rfl dX10_beats_104 ?_
                    refine lv_aload_n zx zb dX10_beats_107 rfl (lv_at hl 3 rfl) ?_
                    refine b_wv (cells' := 0) (slots' := 0) (wr := [((xa 5), .inl (X.2.1, 3, .inl fr))] ++ xW h0 nw sp xa la lb ++ [(nw, .inr (3, [.int (v 0), .int (v 1), .int (nI (b 0)), .ref (an 0), .ref (an 7), .ref (an 9), .ref (an 11), .ref (an 13)])), ((an 0), .inl (X.2.2.2.2, 6, .inr (.inr (.inr (.inr (rowQ an)))))), ((an 1), .inr (6, [.int (v 10), .int (v 11), .int (v 12), .int (v 13), .int (v 14), .int (v 15), .int (v 16), .int (v 17)])), ((an 3), .inr (6, [.int (v 26), .int (v 27), .int (v 28), .int (v 29), .int (v 30), .int (v 31), .int (v 32), .int (v 33)])), ((an 4), .inr (6, [.int (v 34), .int (v 35), .int (v 36), .int (v 37), .int (v 38), .int (v 39), .int (v 40), .int (v 41)])), ((an 5), .inr (6, [.int (v 42), .int (v 43), .int (v 44), .int (v 45), .int (v 46), .int (v 47), .int (v 48), .int (v 49)])), ((an 6), .inr (6, [.int (v 50), .int (v 51), .int (v 52), .int (v 53), .int (v 54), .int (v 55), .int (v 56), .int (v 57)])), ((an 7), .inr (2, [.ref (an 8), .int (nI (b 1))])), ((an 8), .inl (X.2.1, 248, .inl (g 0))), ((an 9), .inr (5, [.int 5, .int 0, .int 1, .ref (an 10), .int (nI (b 2))])), ((an 10), .inl (X.2.1, 25, .inl (g 1))), ((an 11), .inr (5, [.int 6, .int 1, .int 1, .ref (an 12), .int (nI (b 3))])), ((an 12), .inl (X.2.1, 30, .inl (g 2))), ((an 13), .inr (5, [.int 6, .int 0, .int 0, .ref (an 14), .int (nI (b 4))])), ((an 14), .inl (X.2.1, 30, .inl (g 3)))]) G rfl rfl [18, 5] [0, 1, 2, 3, 4, 6, 7, 8, 9, 10, 11, 12, 13, 14, 15, 16, 17] rfl rfl rfl rfl (n_V (As := [.ref (an 2)]) (rest := []) (C := RX8) (T := TX8) (N := 8) (ci := 6) S G (s_rcopy l X (xa 8) v79_3 (an 2) (fun k => v (18 + k)) H.size) gX10_beats_X8_copyFrom rfl rfl rfl hdV_X8_copyFrom ⟨Nat.le_of_ble_eq_true rfl, Nat.le_of_ble_eq_true rfl⟩ [18, 5] rfl rfl 18 rfl rfl rfl hl.1 (Nat.le_of_ble_eq_true rfl) dX10_beats_108 ⟨Nat.le_of_ble_eq_true rfl, Nat.le_of_ble_eq_true rfl⟩) (fun u_39 H locs hp_39 G => ?_)
                    obtain ⟨v_39, rfl⟩ : ∃ z, z = u_39 := ⟨_, rfl⟩
                    have hq_39 := hp_39
                    have G : wd X (va_A (xW h0 nw sp xa la lb ++ rcW X nw an v b g ++ rnW (xa 8) vg ++ [((xa 5), .inl (X.2.1, 3, .inl fr))]) sz) (va_A (xW h0 nw sp xa la lb ++ rcW X nw an v b g ++ rnW (xa 8) vg ++ [((xa 5), .inl (X.2.1, 3, .inl fr))]) sz) s ([((xa 5), .inl (X.2.1, 3, .inl fr))] ++ xW h0 nw sp xa la lb ++ rcW X nw an v b g ++ rnW (xa 8) v_39) H locs := wd_sub G [0, 1, 2, 3, 4, 18, 5, 6, 7, 8, 9, 10, 11, 12, 13, 14, 15, 16, 17] rfl rfl
                    refine lv_aload_n zx zb dX10_beats_111 rfl (lv_at hl 4 rfl) ?_
                    refine r_get (C := RX10) (T := TX10) (N := 14) (ci := 8) (v := .ref (xa 8)) S in_X10_beats_X10 G 1 rfl rfl 8 (by decide) lk_X10_beats_48 rfl dX10_beats_112 ?_
                    refine lv_dup zx zb dX10_beats_115 rfl ?_
                    refine r_get (C := RX8) (T := TX8) (N := 8) (ci := 6) (v := .int (v_39 4)) S in_X10_beats_X8 G 18 rfl rfl 4 (by decide) lk_X10_beats_137 rfl dX10_beats_116 ?_
                    refine lv_iload zx zb dX10_beats_119 (lv_at hl 0 rfl) ?_
                    refine r_iadd (v := ((v_39 4) + (nI k79))) S rfl dX10_beats_121 ?_
                    refine r_put (C := RX8) (T := TX8) (N := 8) (ci := 6) (v := .int ((v_39 4) + (nI k79))) S in_X10_beats_X8 tyX8_ok nmX8 G 18 rfl rfl 4 (by decide) lk_X10_beats_137 rfl (vp_nar_int _) rfl (Nat.le_of_ble_eq_true rfl) dX10_beats_122 (fun H locs G => ?_)
                    obtain ⟨v_40, G⟩ : ∃ v_40 : Nat → Int32, wd X (va_A (xW h0 nw sp xa la lb ++ rcW X nw an v b g ++ rnW (xa 8) vg ++ [((xa 5), .inl (X.2.1, 3, .inl fr))]) sz) (va_A (xW h0 nw sp xa la lb ++ rcW X nw an v b g ++ rnW (xa 8) vg ++ [((xa 5), .inl (X.2.1, 3, .inl fr))]) sz) s ([((xa 5), .inl (X.2.1, 3, .inl fr))] ++ xW h0 nw sp xa la lb ++ rcW X nw an v b g ++ rnW (xa 8) v_40) H locs := ⟨upd v_39 4 ((v_39 4) + (nI k79)), G⟩
                    refine lv_aload_n zx zb dX10_beats_125 rfl (lv_at hl 4 rfl) ?_
                    refine r_get (C := RX10) (T := TX10) (N := 14) (ci := 8) (v := .ref (xa 8)) S in_X10_beats_X10 G 1 rfl rfl 8 (by decide) lk_X10_beats_48 rfl dX10_beats_126 ?_
                    refine lv_aload_n zx zb dX10_beats_129 rfl (lv_at hl 4 rfl) ?_
                    refine r_get (C := RX10) (T := TX10) (N := 14) (ci := 8) (v := .ref nw) S in_X10_beats_X10 G 1 rfl rfl 0 (by decide) lk_X10_beats_10 rfl dX10_beats_130 ?_
                    refine r_get (C := RX5) (T := TX5) (N := 8) (ci := 3) (v := .int (v 1)) S in_X10_beats_X5 G 2 rfl rfl 1 (by decide) lk_X10_beats_110 rfl dX10_beats_133 ?_
                    refine lv_aload_n zx zb dX10_beats_136 rfl (lv_at hl 4 rfl) ?_
                    refine r_get (C := RX10) (T := TX10) (N := 14) (ci := 8) (v := .ref nw) S in_X10_beats_X10 G 1 rfl rfl 0 (by decide) lk_X10_beats_10 rfl dX10_beats_137 ?_
                    refine r_get (C := RX5) (T := TX5) (N := 8) (ci := 3) (v := .int (v 0)) S in_X10_beats_X5 G 2 rfl rfl 0 (by decide) lk_X10_beats_140 rfl dX10_beats_140 ?_
                    refine lv_iload zx zb dX10_beats_143 (lv_at hl 1 rfl) ?_
                    refine b_wi (cells' := 0) (slots' := 0) (wr := [((xa 5), .inl (X.2.1, 3, .inl fr))] ++ xW h0 nw sp xa la lb ++ rcW X nw an v b g) G rfl rfl [18] [0, 1, 2, 3, 4, 5, 6, 7, 8, 9, 10, 11, 12, 13, 14, 15, 16, 17] rfl rfl rfl rfl (n_V (As := [.int (v 1), .int (v 0), .int x_36]) (rest := []) (C := RX8) (T := TX8) (N := 8) (ci := 6) S G (s_ticksToHome l X (xa 8) v_40 (v 1) (v 0) x_36 (by first | decide | assumption | exact k_60a (by assumption)) H.size) gX10_beats_X8_ticksToHome rfl rfl rfl hdV_X8_ticksToHome ⟨Nat.le_of_ble_eq_true rfl, Nat.le_of_ble_eq_true rfl⟩ [18] rfl rfl 18 rfl rfl rfl hl.1 (Nat.le_of_ble_eq_true rfl) dX10_beats_145 ⟨Nat.le_of_ble_eq_true rfl, Nat.le_of_ble_eq_true rfl⟩) (fun r_41 u_41 H locs hp_41 G => ?_)
                    obtain ⟨v_41, rfl⟩ : ∃ z, z = u_41 := ⟨_, rfl⟩
                    have hq_41 := hp_41
                    obtain ⟨hq_41, hs_41⟩ := hq_41
                    have G : wd X (va_A (xW h0 nw sp xa la lb ++ rcW X nw an v b g ++ rnW (xa 8) vg ++ [((xa 5), .inl (X.2.1, 3, .inl fr))]) sz) (va_A (xW h0 nw sp xa la lb ++ rcW X nw an v b g ++ rnW (xa 8) vg ++ [((xa 5), .inl (X.2.1, 3, .inl fr))]) sz) s ([((xa 5), .inl (X.2.1, 3, .inl fr))] ++ xW h0 nw sp xa la lb ++ rcW X nw an v b g ++ rnW (xa 8) v_41) H locs := G
                    refine lv_iconst (v := (-1)) zx zb dX10_beats_148 (by decide) ?_
                    refine lv_icmp_eq (tgt := 155) zx zb dX10_beats_149 (by decide) (fun c_42 => ?_) (fun c_42 => ?_)
                    · refine lv_iinc (v := (nI (k79 + 1))) (lv' := [(6, .int (nI (k79 + 1))), (5, .int x_36), (4, .int r_34), (3, .ref (an 2)), (0, .ref h0), (1, .int 1), (2, .int (nI i_1))]) zx zb dX10_beats_155 hl (k := 0) rfl (nI_add k79 1) (by decide) rfl (fun ls hl => ?_)
                      refine lv_goto (tgt := 79) zx zb dX10_beats_158 (by decide) ?_
                      exact ih79 (k79 + 1) v_41 _ _ _ (by omega) (by omega) G hl
                    · refine lv_iload zx zb dX10_beats_152 (lv_at hl 0 rfl) ?_
                      exact e_int S zr zlk (vp_nar_int _) G (v_41, fr) [1, 2, 3, 4, 5, 6, 7, 8, 9, 10, 11, 12, 13, 14, 15, 16, 17, 18, 0] rfl rfl (Or.inr rfl) (trivial) dX10_beats_154
          · refine lv_iconst (v := (-1)) zx zb dX10_beats_48 (by decide) ?_
            exact e_int S zr zlk (vp_nar_int _) G (vg, fr) [0, 1, 2, 3, 4, 5, 6, 7, 8, 9, 10, 11, 12, 13, 14, 15, 16, 17, 18] rfl rfl (Or.inr rfl) (trivial) dX10_beats_49
    · refine k_it (v := 2) rfl ?_
      refine r_aald (C := RX8) (b := (an 3)) S G 2 3 rfl rfl (k_vp (by decide)) rfl dX10_beats_24 ?_
      refine lv_astore_n (lv' := [(3, .ref (an 3)), (0, .ref h0), (1, .int 2), (2, .int (nI i_1))]) zx zb dX10_beats_25 rfl hl (by decide) rfl (fun ls hl => ?_)
      refine lv_aload_n zx zb dX10_beats_26 rfl (lv_at hl 0 rfl) ?_
      refine o_ri (cells' := 0) (slots' := 0) G rfl rfl (n_V (As := []) (rest := []) (C := RX8) (T := TX8) (N := 8) (ci := 6) S G (s_isHome l X (an 3) (fun k => v (26 + k)) H.size) gX10_beats_X8_isHome rfl rfl rfl hdV_X8_isHome ⟨Nat.le_of_ble_eq_true rfl, Nat.le_of_ble_eq_true rfl⟩ [5] rfl rfl 5 rfl rfl rfl hl.1 (Nat.le_of_ble_eq_true rfl) dX10_beats_27 ⟨Nat.le_of_ble_eq_true rfl, Nat.le_of_ble_eq_true rfl⟩) (fun r_43 u_43 H locs hp_43 G => ?_)
      have G : wd X (va_A (xW h0 nw sp xa la lb ++ rcW X nw an v b g ++ rnW (xa 8) vg ++ [((xa 5), .inl (X.2.1, 3, .inl fr))]) sz) (va_A (xW h0 nw sp xa la lb ++ rcW X nw an v b g ++ rnW (xa 8) vg ++ [((xa 5), .inl (X.2.1, 3, .inl fr))]) sz) s (xW h0 nw sp xa la lb ++ rcW X nw an v b g ++ rnW (xa 8) vg ++ [((xa 5), .inl (X.2.1, 3, .inl fr))]) H locs := G
      refine lv_if_ne (tgt := 48) zx zb dX10_beats_30 (by decide) (fun c_44 => ?_) (fun c_44 => ?_)
      · refine lv_iconst (v := (-1)) zx zb dX10_beats_48 (by decide) ?_
        exact e_int S zr zlk (vp_nar_int _) G (vg, fr) [0, 1, 2, 3, 4, 5, 6, 7, 8, 9, 10, 11, 12, 13, 14, 15, 16, 17, 18] rfl rfl (Or.inr rfl) (trivial) dX10_beats_49
      · refine lv_aload_n zx zb dX10_beats_33 rfl (lv_at hl 1 rfl) ?_
        refine r_get (C := RX10) (T := TX10) (N := 14) (ci := 8) (v := .ref nw) S in_X10_beats_X10 G 0 rfl rfl 0 (by decide) lk_X10_beats_10 rfl dX10_beats_34 ?_
        refine r_get (C := RX5) (T := TX5) (N := 8) (ci := 3) (v := .ref (an 0)) S in_X10_beats_X5 G 1 rfl rfl 3 (by decide) lk_X10_beats_126 rfl dX10_beats_37 ?_
        refine lv_iload_n zx zb dX10_beats_40 rfl (lv_at hl 3 rfl) ?_
        refine k_cutW (PP := fun Wx => ∀ (x_45 : Int32) (H : Heap) (locs : List Loc) (ls : Array Slot), wd X (va_A (xW h0 nw sp xa la lb ++ rcW X nw an v b g ++ rnW (xa 8) vg ++ [((xa 5), .inl (X.2.1, 3, .inl fr))]) sz) (va_A (xW h0 nw sp xa la lb ++ rcW X nw an v b g ++ rnW (xa 8) vg ++ [((xa 5), .inl (X.2.1, 3, .inl fr))]) sz) s (xW h0 nw sp xa la lb ++ rcW X nw an v b g ++ rnW (xa 8) vg ++ [((xa 5), .inl (X.2.1, 3, .inl fr))]) H locs → lv_has ls 7 [(3, .ref (an 3)), (0, .ref h0), (1, .int 2), (2, .int (nI i_1))] → Wx (F0 m 45 ls [.int x_45]) H locs) ?_ ?_
        · intro join_41
          rcases k_6c (show i_1 < 6 by omega) with q_46 | q_46 | q_46 | q_46 | q_46 | q_46
          · refine k_it (v := 0) (by rw [q_46]; rfl) ?_
            refine r_aald (C := RX8) (b := (an 1)) S G 2 3 rfl rfl (k_vp (by decide)) rfl dX10_beats_41 ?_
            refine o_ri (cells' := 0) (slots' := 0) G rfl rfl (n_V (As := []) (rest := []) (C := RX8) (T := TX8) (N := 8) (ci := 6) S G (s_isHome l X (an 1) (fun k => v (10 + k)) H.size) gX10_beats_X8_isHome rfl rfl rfl hdV_X8_isHome ⟨Nat.le_of_ble_eq_true rfl, Nat.le_of_ble_eq_true rfl⟩ [3] rfl rfl 3 rfl rfl rfl hl.1 (Nat.le_of_ble_eq_true rfl) dX10_beats_42 ⟨Nat.le_of_ble_eq_true rfl, Nat.le_of_ble_eq_true rfl⟩) (fun r_47 u_47 H locs hp_47 G => ?_)
            have G : wd X (va_A (xW h0 nw sp xa la lb ++ rcW X nw an v b g ++ rnW (xa 8) vg ++ [((xa 5), .inl (X.2.1, 3, .inl fr))]) sz) (va_A (xW h0 nw sp xa la lb ++ rcW X nw an v b g ++ rnW (xa 8) vg ++ [((xa 5), .inl (X.2.1, 3, .inl fr))]) sz) s (xW h0 nw sp xa la lb ++ rcW X nw an v b g ++ rnW (xa 8) vg ++ [((xa 5), .inl (X.2.1, 3, .inl fr))]) H locs := G
            exact join_41 r_47 _ _ _  G hl
          · refine k_it (v := 1) (by rw [q_46]; rfl) ?_
            refine r_aald (C := RX8) (b := (an 2)) S G 2 3 rfl rfl (k_vp (by decide)) rfl dX10_beats_41 ?_
            refine o_ri (cells' := 0) (slots' := 0) G rfl rfl (n_V (As := []) (rest := []) (C := RX8) (T := TX8) (N := 8) (ci := 6) S G (s_isHome l X (an 2) (fun k => v (18 + k)) H.size) gX10_beats_X8_isHome rfl rfl rfl hdV_X8_isHome ⟨Nat.le_of_ble_eq_true rfl, Nat.le_of_ble_eq_true rfl⟩ [4] rfl rfl 4 rfl rfl rfl hl.1 (Nat.le_of_ble_eq_true rfl) dX10_beats_42 ⟨Nat.le_of_ble_eq_true rfl, Nat.le_of_ble_eq_true rfl⟩) (fun r_48 u_48 H locs hp_48 G => ?_)
            have G : wd X (va_A (xW h0 nw sp xa la lb ++ rcW X nw an v b g ++ rnW (xa 8) vg ++ [((xa 5), .inl (X.2.1, 3, .inl fr))]) sz) (va_A (xW h0 nw sp xa la lb ++ rcW X nw an v b g ++ rnW (xa 8) vg ++ [((xa 5), .inl (X.2.1, 3, .inl fr))]) sz) s (xW h0 nw sp xa la lb ++ rcW X nw an v b g ++ rnW (xa 8) vg ++ [((xa 5), .inl (X.2.1, 3, .inl fr))]) H locs := G
            exact join_41 r_48 _ _ _  G hl
          · refine k_it (v := 2) (by rw [q_46]; rfl) ?_
            refine r_aald (C := RX8) (b := (an 3)) S G 2 3 rfl rfl (k_vp (by decide)) rfl dX10_beats_41 ?_
            refine o_ri (cells' := 0) (slots' := 0) G rfl rfl (n_V (As := []) (rest := []) (C := RX8) (T := TX8) (N := 8) (ci := 6) S G (s_isHome l X (an 3) (fun k => v (26 + k)) H.size) gX10_beats_X8_isHome rfl rfl rfl hdV_X8_isHome ⟨Nat.le_of_ble_eq_true rfl, Nat.le_of_ble_eq_true rfl⟩ [5] rfl rfl 5 rfl rfl rfl hl.1 (Nat.le_of_ble_eq_true rfl) dX10_beats_42 ⟨Nat.le_of_ble_eq_true rfl, Nat.le_of_ble_eq_true rfl⟩) (fun r_49 u_49 H locs hp_49 G => ?_)
            have G : wd X (va_A (xW h0 nw sp xa la lb ++ rcW X nw an v b g ++ rnW (xa 8) vg ++ [((xa 5), .inl (X.2.1, 3, .inl fr))]) sz) (va_A (xW h0 nw sp xa la lb ++ rcW X nw an v b g ++ rnW (xa 8) vg ++ [((xa 5), .inl (X.2.1, 3, .inl fr))]) sz) s (xW h0 nw sp xa la lb ++ rcW X nw an v b g ++ rnW (xa 8) vg ++ [((xa 5), .inl (X.2.1, 3, .inl fr))]) H locs := G
            exact join_41 r_49 _ _ _  G hl
          · refine k_it (v := 3) (by rw [q_46]; rfl) ?_
            refine r_aald (C := RX8) (b := (an 4)) S G 2 3 rfl rfl (k_vp (by decide)) rfl dX10_beats_41 ?_
            refine o_ri (cells' := 0) (slots' := 0) G rfl rfl (n_V (As := []) (rest := []) (C := RX8) (T := TX8) (N := 8) (ci := 6) S G (s_isHome l X (an 4) (fun k => v (34 + k)) H.size) gX10_beats_X8_isHome rfl rfl rfl hdV_X8_isHome ⟨Nat.le_of_ble_eq_true rfl, Nat.le_of_ble_eq_true rfl⟩ [6] rfl rfl 6 rfl rfl rfl hl.1 (Nat.le_of_ble_eq_true rfl) dX10_beats_42 ⟨Nat.le_of_ble_eq_true rfl, Nat.le_of_ble_eq_true rfl⟩) (fun r_50 u_50 H locs hp_50 G => ?_)
            have G : wd X (va_A (xW h0 nw sp xa la lb ++ rcW X nw an v b g ++ rnW (xa 8) vg ++ [((xa 5), .inl (X.2.1, 3, .inl fr))]) sz) (va_A (xW h0 nw sp xa la lb ++ rcW X nw an v b g ++ rnW (xa 8) vg ++ [((xa 5), .inl (X.2.1, 3, .inl fr))]) sz) s (xW h0 nw sp xa la lb ++ rcW X nw an v b g ++ rnW (xa 8) vg ++ [((xa 5), .inl (X.2.1, 3, .inl fr))]) H locs := G
            exact join_41 r_50 _ _ _  G hl
          · refine k_it (v := 4) (by rw [q_46]; rfl) ?_
            refine r_aald (C := RX8) (b := (an 5)) S G 2 3 rfl rfl (k_vp (by decide)) rfl dX10_beats_41 ?_
            refine o_ri (cells' := 0) (slots' := 0) G rfl rfl (n_V (As := []) (rest := []) (C := RX8) (T := TX8) (N := 8) (ci := 6) S G (s_isHome l X (an 5) (fun k => v (42 + k)) H.size) gX10_beats_X8_isHome rfl rfl rfl hdV_X8_isHome ⟨Nat.le_of_ble_eq_true rfl, Nat.le_of_ble_eq_true rfl⟩ [7] rfl rfl 7 rfl rfl rfl hl.1 (Nat.le_of_ble_eq_true rfl) dX10_beats_42 ⟨Nat.le_of_ble_eq_true rfl, Nat.le_of_ble_eq_true rfl⟩) (fun r_51 u_51 H locs hp_51 G => ?_)
            have G : wd X (va_A (xW h0 nw sp xa la lb ++ rcW X nw an v b g ++ rnW (xa 8) vg ++ [((xa 5), .inl (X.2.1, 3, .inl fr))]) sz) (va_A (xW h0 nw sp xa la lb ++ rcW X nw an v b g ++ rnW (xa 8) vg ++ [((xa 5), .inl (X.2.1, 3, .inl fr))]) sz) s (xW h0 nw sp xa la lb ++ rcW X nw an v b g ++ rnW (xa 8) vg ++ [((xa 5), .inl (X.2.1, 3, .inl fr))]) H locs := G
            exact join_41 r_51 _ _ _  G hl
          · refine k_it (v := 5) (by rw [q_46]; rfl) ?_
            refine r_aald (C := RX8) (b := (an 6)) S G 2 3 rfl rfl (k_vp (by decide)) rfl dX10_beats_41 ?_
            refine o_ri (cells' := 0) (slots' := 0) G rfl rfl (n_V (As := []) (rest := []) (C := RX8) (T := TX8) (N := 8) (ci := 6) S G (s_isHome l X (an 6) (fun k => v (50 + k)) H.size) gX10_beats_X8_isHome rfl rfl rfl hdV_X8_isHome ⟨Nat.le_of_ble_eq_true rfl, Nat.le_of_ble_eq_true rfl⟩ [8] rfl rfl 8 rfl rfl rfl hl.1 (Nat.le_of_ble_eq_true rfl) dX10_beats_42 ⟨Nat.le_of_ble_eq_true rfl, Nat.le_of_ble_eq_true rfl⟩) (fun r_52 u_52 H locs hp_52 G => ?_)
            have G : wd X (va_A (xW h0 nw sp xa la lb ++ rcW X nw an v b g ++ rnW (xa 8) vg ++ [((xa 5), .inl (X.2.1, 3, .inl fr))]) sz) (va_A (xW h0 nw sp xa la lb ++ rcW X nw an v b g ++ rnW (xa 8) vg ++ [((xa 5), .inl (X.2.1, 3, .inl fr))]) sz) s (xW h0 nw sp xa la lb ++ rcW X nw an v b g ++ rnW (xa 8) vg ++ [((xa 5), .inl (X.2.1, 3, .inl fr))]) H locs := G
            exact join_41 r_52 _ _ _  G hl
        · intro x_45 H locs ls  G hl
          refine lv_if_eq (tgt := 50) zx zb dX10_beats_45 (by decide) (fun c_53 => ?_) (fun c_53 => ?_)
          · refine lv_aload_n zx zb dX10_beats_50 rfl (lv_at hl 1 rfl) ?_
            refine lv_iload_n zx zb dX10_beats_51 rfl (lv_at hl 3 rfl) ?_
            refine lv_bipush (v := 60) zx zb dX10_beats_52 (by decide) ?_
            refine b_wi (cells' := 0) (slots' := 0) (wr := [((xa 5), .inl (X.2.1, 3, .inl fr))]) G rfl rfl [0, 1, 2, 3, 4, 5, 6, 7, 8, 9, 10, 11, 12, 13, 14, 15, 16, 17] [18] rfl rfl rfl rfl (n_V (As := [.int (nI i_1), .int 60]) (rest := []) (C := RX10) (T := TX10) (N := 14) (ci := 8) S G (s_homeBehind l X h0 nw sp xa la lb an v b g vg i_1 60 hI_b (by omega) (by first | decide | assumption | exact k_60a (by assumption)) H.size) gX10_beats_X10_homeBehind rfl rfl rfl hdV_X10_homeBehind ⟨Nat.le_of_ble_eq_true rfl, Nat.le_of_ble_eq_true rfl⟩ [0, 1, 2, 3, 4, 5, 6, 7, 8, 9, 10, 11, 12, 13, 14, 15, 16, 17] rfl rfl 0 rfl rfl rfl hl.1 (Nat.le_of_ble_eq_true rfl) dX10_beats_54 ⟨Nat.le_of_ble_eq_true rfl, Nat.le_of_ble_eq_true rfl⟩) (fun r_54 u_54 H locs hp_54 G => ?_)
            obtain ⟨v_54, rfl⟩ : ∃ z, z = u_54 := ⟨_, rfl⟩
            have hq_54 := hp_54
            have G : wd X (va_A (xW h0 nw sp xa la lb ++ rcW X nw an v b g ++ rnW (xa 8) vg ++ [((xa 5), .inl (X.2.1, 3, .inl fr))]) sz) (va_A (xW h0 nw sp xa la lb ++ rcW X nw an v b g ++ rnW (xa 8) vg ++ [((xa 5), .inl (X.2.1, 3, .inl fr))]) sz) s ([((xa 5), .inl (X.2.1, 3, .inl fr))] ++ xW h0 nw sp xa la lb ++ rcW X nw an v b g ++ rnW (xa 8) v_54) H locs := G
            refine lv_istore (lv' := [(4, .int r_54), (3, .ref (an 3)), (0, .ref h0), (1, .int 2), (2, .int (nI i_1))]) zx zb dX10_beats_57 hl (by decide) rfl (fun ls hl => ?_)
            refine lv_iload zx zb dX10_beats_59 (lv_at hl 0 rfl) ?_
            refine lv_iconst (v := (-1)) zx zb dX10_beats_61 (by decide) ?_
            refine k_cutW (PP := fun Wx => ∀ (x_56 : Int32) (H : Heap) (locs : List Loc) (ls : Array Slot), (x_56 ≤ 60) → wd X (va_A (xW h0 nw sp xa la lb ++ rcW X nw an v b g ++ rnW (xa 8) vg ++ [((xa 5), .inl (X.2.1, 3, .inl fr))]) sz) (va_A (xW h0 nw sp xa la lb ++ rcW X nw an v b g ++ rnW (xa 8) vg ++ [((xa 5), .inl (X.2.1, 3, .inl fr))]) sz) s ([((xa 5), .inl (X.2.1, 3, .inl fr))] ++ xW h0 nw sp xa la lb ++ rcW X nw an v b g ++ rnW (xa 8) v_54) H locs → lv_has ls 7 [(4, .int r_54), (3, .ref (an 3)), (0, .ref h0), (1, .int 2), (2, .int (nI i_1))] → Wx (F0 m 74 ls [.int x_56]) H locs) ?_ ?_
            · intro join_62
              refine lv_icmp_ne (tgt := 70) zx zb dX10_beats_62 (by decide) (fun c_55 => ?_) (fun c_55 => ?_)
              · refine lv_iload zx zb dX10_beats_70 (lv_at hl 0 rfl) ?_
                refine lv_iconst (v := 1) zx zb dX10_beats_72 (by decide) ?_
                refine r_isub (v := (r_54 - 1)) S rfl dX10_beats_73 ?_
                exact join_62 (r_54 - 1) _ _ _ (by first | assumption | decide | exact k_m60 (by assumption)) G hl
              · refine lv_bipush (v := 60) zx zb dX10_beats_65 (by decide) ?_
                refine lv_goto (tgt := 74) zx zb dX10_beats_67 (by decide) ?_
                exact join_62 60 _ _ _ (by first | assumption | decide | exact k_m60 (by assumption)) G hl
            · intro x_56 H locs ls hk_x_56 G hl
              refine lv_istore (lv' := [(5, .int x_56), (4, .int r_54), (3, .ref (an 3)), (0, .ref h0), (1, .int 2), (2, .int (nI i_1))]) zx zb dX10_beats_74 hl (by decide) rfl (fun ls hl => ?_)
              refine lv_iconst (v := 0) zx zb dX10_beats_76 (by decide) ?_
              refine lv_istore (lv' := [(6, .int 0), (5, .int x_56), (4, .int r_54), (3, .ref (an 3)), (0, .ref h0), (1, .int 2), (2, .int (nI i_1))]) zx zb dX10_beats_77 hl (by decide) rfl (fun ls hl => ?_)
              refine k_loop (P := ∀ (zm : Nat) (k79 : Nat) (v79_3 : Nat → Int32) (H : Heap) (locs : List Loc) (ls : Array Slot), 31 + 1 ≤ k79 + zm → (k79 ≤ 31) → wd X (va_A (xW h0 nw sp xa la lb ++ rcW X nw an v b g ++ rnW (xa 8) vg ++ [((xa 5), .inl (X.2.1, 3, .inl fr))]) sz) (va_A (xW h0 nw sp xa la lb ++ rcW X nw an v b g ++ rnW (xa 8) vg ++ [((xa 5), .inl (X.2.1, 3, .inl fr))]) sz) s ([((xa 5), .inl (X.2.1, 3, .inl fr))] ++ xW h0 nw sp xa la lb ++ rcW X nw an v b g ++ rnW (xa 8) v79_3) H locs → lv_has ls 7 [(6, .int (nI k79)), (5, .int x_56), (4, .int r_54), (3, .ref (an 3)), (0, .ref h0), (1, .int 2), (2, .int (nI i_1))] → W p l e _ s m _ below meth c H locs _ _ _ (F0 m 79 ls [])) (fun loop => loop (31 + 1) 0 v_54 _ _ _ (by omega) (by omega) G hl) ?_
              intro zm
              induction zm with
              | zero => intro k79 v79_3 H locs ls zz q_hk_k79 _ _; exact absurd zz (by omega)
              | succ zm ih79 =>
                intro k79 v79_3 H locs ls zm_79 hk_k79 G hl
                refine lv_iload zx zb dX10_beats_79 (lv_at hl 0 rfl) ?_
                refine lv_bipush (v := 30) zx zb dX10_beats_81 (by decide) ?_
                refine lv_icmp_gt (tgt := 161) zx zb dX10_beats_83 (by decide) (fun c_57 => ?_) (fun c_57 => ?_)
                · have fc_57 := j_lt (a := 30) (b := k79) (by omega) (by omega) c_57
                  refine lv_iconst (v := (-1)) zx zb dX10_beats_161 (by decide) ?_
                  exact e_int S zr zlk (vp_nar_int _) G (v79_3, fr) [1, 2, 3, 4, 5, 6, 7, 8, 9, 10, 11, 12, 13, 14, 15, 16, 17, 18, 0] rfl rfl (Or.inr rfl) (trivial) dX10_beats_162
                · have fc_57 := j_nlt (a := 30) (b := k79) (by omega) (by omega) c_57
                  refine lv_aload_n zx zb dX10_beats_86 rfl (lv_at hl 3 rfl) ?_
                  refine r_get (C := RX8) (T := TX8) (N := 8) (ci := 6) (v := .int (v 30)) S in_X10_beats_X8 G 6 rfl rfl 4 (by decide) lk_X10_beats_137 rfl dX10_beats_87 ?_
                  refine lv_iload zx zb dX10_beats_90 (lv_at hl 0 rfl) ?_
                  refine r_iadd (v := ((v 30) + (nI k79))) S rfl dX10_beats_92 ?_
                  refine lv_aload_n zx zb dX10_beats_93 rfl (lv_at hl 4 rfl) ?_
                  refine r_get (C := RX10) (T := TX10) (N := 14) (ci := 8) (v := .ref nw) S in_X10_beats_X10 G 1 rfl rfl 0 (by decide) lk_X10_beats_10 rfl dX10_beats_94 ?_
                  refine r_get (C := RX5) (T := TX5) (N := 8) (ci := 3) (v := .int (v 0)) S in_X10_beats_X5 G 2 rfl rfl 0 (by decide) lk_X10_beats_140 rfl dX10_beats_97 ?_
                  refine lv_icmp_ge (tgt := 161) zx zb dX10_beats_100 (by decide) (fun c_58 => ?_) (fun c_58 => ?_)
                  · refine lv_iconst (v := (-1)) zx zb dX10_beats_161 (by decide) ?_
                    exact e_int S zr zlk (vp_nar_int _) G (v79_3, fr) [1, 2, 3, 4, 5, 6, 7, 8, 9, 10, 11, 12, 13, 14, 15, 16, 17, 18, 0] rfl rfl (Or.inr rfl) (trivial) dX10_beats_162
                  · refine lv_aload_n zx zb dX10_beats_103 rfl (lv_at hl 4 rfl) ?_
                    refine r_get (C := RX10) (T := TX10) (N := 14) (ci := 8) (v := .ref (xa 8)) S in_X10_beats_X10 G 1 rfl rfl 8 (by decide) lk_X10_beats_48 rfl dX10_beats_104 ?_
                    refine lv_aload_n zx zb dX10_beats_107 rfl (lv_at hl 3 rfl) ?_
                    refine b_wv (cells' := 0) (slots' := 0) (wr := [((xa 5), .inl (X.2.1, 3, .inl fr))] ++ xW h0 nw sp xa la lb ++ [(nw, .inr (3, [.int (v 0), .int (v 1), .int (nI (b 0)), .ref (an 0), .ref (an 7), .ref (an 9), .ref (an 11), .ref (an 13)])), ((an 0), .inl (X.2.2.2.2, 6, .inr (.inr (.inr (.inr (rowQ an)))))), ((an 1), .inr (6, [.int (v 10), .int (v 11), .int (v 12), .int (v 13), .int (v 14), .int (v 15), .int (v 16), .int (v 17)])), ((an 2), .inr (6, [.int (v 18), .int (v 19), .int (v 20), .int (v 21), .int (v 22), .int (v 23), .int (v 24), .int (v 25)])), ((an 4), .inr (6, [.int (v 34), .int (v 35), .int (v 36), .int (v 37), .int (v 38), .int (v 39), .int (v 40), .int (v 41)])), ((an 5), .inr (6, [.int (v 42), .int (v 43), .int (v 44), .int (v 45), .int (v 46), .int (v 47), .int (v 48), .int (v 49)])), ((an 6), .inr (6, [.int (v 50), .int (v 51), .int (v 52), .int (v 53), .int (v 54), .int (v 55), .int (v 56), .int (v 57)])), ((an 7), .inr (2, [.ref (an 8), .int (nI (b 1))])), ((an 8), .inl (X.2.1, 248, .inl (g 0))), ((an 9), .inr (5, [.int 5, .int 0, .int 1, .ref (an 10), .int (nI (b 2))])), ((an 10), .inl (X.2.1, 25, .inl (g 1))), ((an 11), .inr (5, [.int 6, .int 1, .int 1, .ref (an 12), .int (nI (b 3))])), ((an 12), .inl (X.2.1, 30, .inl (g 2))), ((an 13), .inr (5, [.int 6, .int 0, .int 0, .ref (an 14), .int (nI (b 4))])), ((an 14), .inl (X.2.1, 30, .inl (g 3)))]) G rfl rfl [18, 6] [0, 1, 2, 3, 4, 5, 7, 8, 9, 10, 11, 12, 13, 14, 15, 16, 17] rfl rfl rfl rfl (n_V (As := [.ref (an 3)]) (rest := []) (C := RX8) (T := TX8) (N := 8) (ci := 6) S G (s_rcopy l X (xa 8) v79_3 (an 3) (fun k => v (26 + k)) H.size) gX10_beats_X8_copyFrom rfl rfl rfl hdV_X8_copyFrom ⟨Nat.le_of_ble_eq_true rfl, Nat.le_of_ble_eq_true rfl⟩ [18, 6] rfl rfl 18 rfl rfl rfl hl.1 (Nat.le_of_ble_eq_true rfl) dX10_beats_108 ⟨Nat.le_of_ble_eq_true rfl, Nat.le_of_ble_eq_true rfl⟩) (fun u_59 H locs hp_59 G => ?_)
                    obtain ⟨v_59, rfl⟩ : ∃ z, z = u_59 := ⟨_, rfl⟩
                    have hq_59 := hp_59
                    have G : wd X (va_A (xW h0 nw sp xa la lb ++ rcW X nw an v b g ++ rnW (xa 8) vg ++ [((xa 5), .inl (X.2.1, 3, .inl fr))]) sz) (va_A (xW h0 nw sp xa la lb ++ rcW X nw an v b g ++ rnW (xa 8) vg ++ [((xa 5), .inl (X.2.1, 3, .inl fr))]) sz) s ([((xa 5), .inl (X.2.1, 3, .inl fr))] ++ xW h0 nw sp xa la lb ++ rcW X nw an v b g ++ rnW (xa 8) v_59) H locs := wd_sub G [0, 1, 2, 3, 4, 5, 18, 6, 7, 8, 9, 10, 11, 12, 13, 14, 15, 16, 17] rfl rfl
                    refine lv_aload_n zx zb dX10_beats_111 rfl (lv_at hl 4 rfl) ?_
                    refine r_get (C := RX10) (T := TX10) (N := 14) (ci := 8) (v := .ref (xa 8)) S in_X10_beats_X10 G 1 rfl rfl 8 (by decide) lk_X10_beats_48 rfl dX10_beats_112 ?_
                    refine lv_dup zx zb dX10_beats_115 rfl ?_
                    refine r_get (C := RX8) (T := TX8) (N := 8) (ci := 6) (v := .int (v_59 4)) S in_X10_beats_X8 G 18 rfl rfl 4 (by decide) lk_X10_beats_137 rfl dX10_beats_116 ?_
                    refine lv_iload zx zb dX10_beats_119 (lv_at hl 0 rfl) ?_
                    refine r_iadd (v := ((v_59 4) + (nI k79))) S rfl dX10_beats_121 ?_
                    refine r_put (C := RX8) (T := TX8) (N := 8) (ci := 6) (v := .int ((v_59 4) + (nI k79))) S in_X10_beats_X8 tyX8_ok nmX8 G 18 rfl rfl 4 (by decide) lk_X10_beats_137 rfl (vp_nar_int _) rfl (Nat.le_of_ble_eq_true rfl) dX10_beats_122 (fun H locs G => ?_)
                    obtain ⟨v_60, G⟩ : ∃ v_60 : Nat → Int32, wd X (va_A (xW h0 nw sp xa la lb ++ rcW X nw an v b g ++ rnW (xa 8) vg ++ [((xa 5), .inl (X.2.1, 3, .inl fr))]) sz) (va_A (xW h0 nw sp xa la lb ++ rcW X nw an v b g ++ rnW (xa 8) vg ++ [((xa 5), .inl (X.2.1, 3, .inl fr))]) sz) s ([((xa 5), .inl (X.2.1, 3, .inl fr))] ++ xW h0 nw sp xa la lb ++ rcW X nw an v b g ++ rnW (xa 8) v_60) H locs := ⟨upd v_59 4 ((v_59 4) + (nI k79)), G⟩
                    refine lv_aload_n zx zb dX10_beats_125 rfl (lv_at hl 4 rfl) ?_
                    refine r_get (C := RX10) (T := TX10) (N := 14) (ci := 8) (v := .ref (xa 8)) S in_X10_beats_X10 G 1 rfl rfl 8 (by decide) lk_X10_beats_48 rfl dX10_beats_126 ?_
                    refine lv_aload_n zx zb dX10_beats_129 rfl (lv_at hl 4 rfl) ?_
                    refine r_get (C := RX10) (T := TX10) (N := 14) (ci := 8) (v := .ref nw) S in_X10_beats_X10 G 1 rfl rfl 0 (by decide) lk_X10_beats_10 rfl dX10_beats_130 ?_
                    refine r_get (C := RX5) (T := TX5) (N := 8) (ci := 3) (v := .int (v 1)) S in_X10_beats_X5 G 2 rfl rfl 1 (by decide) lk_X10_beats_110 rfl dX10_beats_133 ?_
                    refine lv_aload_n zx zb dX10_beats_136 rfl (lv_at hl 4 rfl) ?_
                    refine r_get (C := RX10) (T := TX10) (N := 14) (ci := 8) (v := .ref nw) S in_X10_beats_X10 G 1 rfl rfl 0 (by decide) lk_X10_beats_10 rfl dX10_beats_137 ?_
                    refine r_get (C := RX5) (T := TX5) (N := 8) (ci := 3) (v := .int (v 0)) S in_X10_beats_X5 G 2 rfl rfl 0 (by decide) lk_X10_beats_140 rfl dX10_beats_140 ?_
                    refine lv_iload zx zb dX10_beats_143 (lv_at hl 1 rfl) ?_
                    refine b_wi (cells' := 0) (slots' := 0) (wr := [((xa 5), .inl (X.2.1, 3, .inl fr))] ++ xW h0 nw sp xa la lb ++ rcW X nw an v b g) G rfl rfl [18] [0, 1, 2, 3, 4, 5, 6, 7, 8, 9, 10, 11, 12, 13, 14, 15, 16, 17] rfl rfl rfl rfl (n_V (As := [.int (v 1), .int (v 0), .int x_56]) (rest := []) (C := RX8) (T := TX8) (N := 8) (ci := 6) S G (s_ticksToHome l X (xa 8) v_60 (v 1) (v 0) x_56 (by first | decide | assumption | exact k_60a (by assumption)) H.size) gX10_beats_X8_ticksToHome rfl rfl rfl hdV_X8_ticksToHome ⟨Nat.le_of_ble_eq_true rfl, Nat.le_of_ble_eq_true rfl⟩ [18] rfl rfl 18 rfl rfl rfl hl.1 (Nat.le_of_ble_eq_true rfl) dX10_beats_145 ⟨Nat.le_of_ble_eq_true rfl, Nat.le_of_ble_eq_true rfl⟩) (fun r_61 u_61 H locs hp_61 G => ?_)
                    obtain ⟨v_61, rfl⟩ : ∃ z, z = u_61 := ⟨_, rfl⟩
                    have hq_61 := hp_61
                    obtain ⟨hq_61, hs_61⟩ := hq_61
                    have G : wd X (va_A (xW h0 nw sp xa la lb ++ rcW X nw an v b g ++ rnW (xa 8) vg ++ [((xa 5), .inl (X.2.1, 3, .inl fr))]) sz) (va_A (xW h0 nw sp xa la lb ++ rcW X nw an v b g ++ rnW (xa 8) vg ++ [((xa 5), .inl (X.2.1, 3, .inl fr))]) sz) s ([((xa 5), .inl (X.2.1, 3, .inl fr))] ++ xW h0 nw sp xa la lb ++ rcW X nw an v b g ++ rnW (xa 8) v_61) H locs := G
                    refine lv_iconst (v := (-1)) zx zb dX10_beats_148 (by decide) ?_
                    refine lv_icmp_eq (tgt := 155) zx zb dX10_beats_149 (by decide) (fun c_62 => ?_) (fun c_62 => ?_)
                    · refine lv_iinc (v := (nI (k79 + 1))) (lv' := [(6, .int (nI (k79 + 1))), (5, .int x_56), (4, .int r_54), (3, .ref (an 3)), (0, .ref h0), (1, .int 2), (2, .int (nI i_1))]) zx zb dX10_beats_155 hl (k := 0) rfl (nI_add k79 1) (by decide) rfl (fun ls hl => ?_)
                      refine lv_goto (tgt := 79) zx zb dX10_beats_158 (by decide) ?_
                      exact ih79 (k79 + 1) v_61 _ _ _ (by omega) (by omega) G hl
                    · refine lv_iload zx zb dX10_beats_152 (lv_at hl 0 rfl) ?_
                      exact e_int S zr zlk (vp_nar_int _) G (v_61, fr) [1, 2, 3, 4, 5, 6, 7, 8, 9, 10, 11, 12, 13, 14, 15, 16, 17, 18, 0] rfl rfl (Or.inr rfl) (trivial) dX10_beats_154
          · refine lv_iconst (v := (-1)) zx zb dX10_beats_48 (by decide) ?_
            exact e_int S zr zlk (vp_nar_int _) G (vg, fr) [0, 1, 2, 3, 4, 5, 6, 7, 8, 9, 10, 11, 12, 13, 14, 15, 16, 17, 18] rfl rfl (Or.inr rfl) (trivial) dX10_beats_49
    · refine k_it (v := 3) rfl ?_
      refine r_aald (C := RX8) (b := (an 4)) S G 2 3 rfl rfl (k_vp (by decide)) rfl dX10_beats_24 ?_
      refine lv_astore_n (lv' := [(3, .ref (an 4)), (0, .ref h0), (1, .int 3), (2, .int (nI i_1))]) zx zb dX10_beats_25 rfl hl (by decide) rfl (fun ls hl => ?_)
      refine lv_aload_n zx zb dX10_beats_26 rfl (lv_at hl 0 rfl) ?_
      refine o_ri (cells' := 0) (slots' := 0) G rfl rfl (n_V (As := []) (rest := []) (C := RX8) (T := TX8) (N := 8) (ci := 6) S G (s_isHome l X (an 4) (fun k => v (34 + k)) H.size) gX10_beats_X8_isHome rfl rfl rfl hdV_X8_isHome ⟨Nat.le_of_ble_eq_true rfl, Nat.le_of_ble_eq_true rfl⟩ [6] rfl rfl 6 rfl rfl rfl hl.1 (Nat.le_of_ble_eq_true rfl) dX10_beats_27 ⟨Nat.le_of_ble_eq_true rfl, Nat.le_of_ble_eq_true rfl⟩) (fun r_63 u_63 H locs hp_63 G => ?_)
      have G : wd X (va_A (xW h0 nw sp xa la lb ++ rcW X nw an v b g ++ rnW (xa 8) vg ++ [((xa 5), .inl (X.2.1, 3, .inl fr))]) sz) (va_A (xW h0 nw sp xa la lb ++ rcW X nw an v b g ++ rnW (xa 8) vg ++ [((xa 5), .inl (X.2.1, 3, .inl fr))]) sz) s (xW h0 nw sp xa la lb ++ rcW X nw an v b g ++ rnW (xa 8) vg ++ [((xa 5), .inl (X.2.1, 3, .inl fr))]) H locs := G
      refine lv_if_ne (tgt := 48) zx zb dX10_beats_30 (by decide) (fun c_64 => ?_) (fun c_64 => ?_)
      · refine lv_iconst (v := (-1)) zx zb dX10_beats_48 (by decide) ?_
        exact e_int S zr zlk (vp_nar_int _) G (vg, fr) [0, 1, 2, 3, 4, 5, 6, 7, 8, 9, 10, 11, 12, 13, 14, 15, 16, 17, 18] rfl rfl (Or.inr rfl) (trivial) dX10_beats_49
      · refine lv_aload_n zx zb dX10_beats_33 rfl (lv_at hl 1 rfl) ?_
        refine r_get (C := RX10) (T := TX10) (N := 14) (ci := 8) (v := .ref nw) S in_X10_beats_X10 G 0 rfl rfl 0 (by decide) lk_X10_beats_10 rfl dX10_beats_34 ?_
        refine r_get (C := RX5) (T := TX5) (N := 8) (ci := 3) (v := .ref (an 0)) S in_X10_beats_X5 G 1 rfl rfl 3 (by decide) lk_X10_beats_126 rfl dX10_beats_37 ?_
        refine lv_iload_n zx zb dX10_beats_40 rfl (lv_at hl 3 rfl) ?_
        refine k_cutW (PP := fun Wx => ∀ (x_65 : Int32) (H : Heap) (locs : List Loc) (ls : Array Slot), wd X (va_A (xW h0 nw sp xa la lb ++ rcW X nw an v b g ++ rnW (xa 8) vg ++ [((xa 5), .inl (X.2.1, 3, .inl fr))]) sz) (va_A (xW h0 nw sp xa la lb ++ rcW X nw an v b g ++ rnW (xa 8) vg ++ [((xa 5), .inl (X.2.1, 3, .inl fr))]) sz) s (xW h0 nw sp xa la lb ++ rcW X nw an v b g ++ rnW (xa 8) vg ++ [((xa 5), .inl (X.2.1, 3, .inl fr))]) H locs → lv_has ls 7 [(3, .ref (an 4)), (0, .ref h0), (1, .int 3), (2, .int (nI i_1))] → Wx (F0 m 45 ls [.int x_65]) H locs) ?_ ?_
        · intro join_41
          rcases k_6c (show i_1 < 6 by omega) with q_66 | q_66 | q_66 | q_66 | q_66 | q_66
          · refine k_it (v := 0) (by rw [q_66]; rfl) ?_
            refine r_aald (C := RX8) (b := (an 1)) S G 2 3 rfl rfl (k_vp (by decide)) rfl dX10_beats_41 ?_
            refine o_ri (cells' := 0) (slots' := 0) G rfl rfl (n_V (As := []) (rest := []) (C := RX8) (T := TX8) (N := 8) (ci := 6) S G (s_isHome l X (an 1) (fun k => v (10 + k)) H.size) gX10_beats_X8_isHome rfl rfl rfl hdV_X8_isHome ⟨Nat.le_of_ble_eq_true rfl, Nat.le_of_ble_eq_true rfl⟩ [3] rfl rfl 3 rfl rfl rfl hl.1 (Nat.le_of_ble_eq_true rfl) dX10_beats_42 ⟨Nat.le_of_ble_eq_true rfl, Nat.le_of_ble_eq_true rfl⟩) (fun r_67 u_67 H locs hp_67 G => ?_)
            have G : wd X (va_A (xW h0 nw sp xa la lb ++ rcW X nw an v b g ++ rnW (xa 8) vg ++ [((xa 5), .inl (X.2.1, 3, .inl fr))]) sz) (va_A (xW h0 nw sp xa la lb ++ rcW X nw an v b g ++ rnW (xa 8) vg ++ [((xa 5), .inl (X.2.1, 3, .inl fr))]) sz) s (xW h0 nw sp xa la lb ++ rcW X nw an v b g ++ rnW (xa 8) vg ++ [((xa 5), .inl (X.2.1, 3, .inl fr))]) H locs := G
            exact join_41 r_67 _ _ _  G hl
          · refine k_it (v := 1) (by rw [q_66]; rfl) ?_
            refine r_aald (C := RX8) (b := (an 2)) S G 2 3 rfl rfl (k_vp (by decide)) rfl dX10_beats_41 ?_
            refine o_ri (cells' := 0) (slots' := 0) G rfl rfl (n_V (As := []) (rest := []) (C := RX8) (T := TX8) (N := 8) (ci := 6) S G (s_isHome l X (an 2) (fun k => v (18 + k)) H.size) gX10_beats_X8_isHome rfl rfl rfl hdV_X8_isHome ⟨Nat.le_of_ble_eq_true rfl, Nat.le_of_ble_eq_true rfl⟩ [4] rfl rfl 4 rfl rfl rfl hl.1 (Nat.le_of_ble_eq_true rfl) dX10_beats_42 ⟨Nat.le_of_ble_eq_true rfl, Nat.le_of_ble_eq_true rfl⟩) (fun r_68 u_68 H locs hp_68 G => ?_)
            have G : wd X (va_A (xW h0 nw sp xa la lb ++ rcW X nw an v b g ++ rnW (xa 8) vg ++ [((xa 5), .inl (X.2.1, 3, .inl fr))]) sz) (va_A (xW h0 nw sp xa la lb ++ rcW X nw an v b g ++ rnW (xa 8) vg ++ [((xa 5), .inl (X.2.1, 3, .inl fr))]) sz) s (xW h0 nw sp xa la lb ++ rcW X nw an v b g ++ rnW (xa 8) vg ++ [((xa 5), .inl (X.2.1, 3, .inl fr))]) H locs := G
            exact join_41 r_68 _ _ _  G hl
          · refine k_it (v := 2) (by rw [q_66]; rfl) ?_
            refine r_aald (C := RX8) (b := (an 3)) S G 2 3 rfl rfl (k_vp (by decide)) rfl dX10_beats_41 ?_
            refine o_ri (cells' := 0) (slots' := 0) G rfl rfl (n_V (As := []) (rest := []) (C := RX8) (T := TX8) (N := 8) (ci := 6) S G (s_isHome l X (an 3) (fun k => v (26 + k)) H.size) gX10_beats_X8_isHome rfl rfl rfl hdV_X8_isHome ⟨Nat.le_of_ble_eq_true rfl, Nat.le_of_ble_eq_true rfl⟩ [5] rfl rfl 5 rfl rfl rfl hl.1 (Nat.le_of_ble_eq_true rfl) dX10_beats_42 ⟨Nat.le_of_ble_eq_true rfl, Nat.le_of_ble_eq_true rfl⟩) (fun r_69 u_69 H locs hp_69 G => ?_)
            have G : wd X (va_A (xW h0 nw sp xa la lb ++ rcW X nw an v b g ++ rnW (xa 8) vg ++ [((xa 5), .inl (X.2.1, 3, .inl fr))]) sz) (va_A (xW h0 nw sp xa la lb ++ rcW X nw an v b g ++ rnW (xa 8) vg ++ [((xa 5), .inl (X.2.1, 3, .inl fr))]) sz) s (xW h0 nw sp xa la lb ++ rcW X nw an v b g ++ rnW (xa 8) vg ++ [((xa 5), .inl (X.2.1, 3, .inl fr))]) H locs := G
            exact join_41 r_69 _ _ _  G hl
          · refine k_it (v := 3) (by rw [q_66]; rfl) ?_
            refine r_aald (C := RX8) (b := (an 4)) S G 2 3 rfl rfl (k_vp (by decide)) rfl dX10_beats_41 ?_
            refine o_ri (cells' := 0) (slots' := 0) G rfl rfl (n_V (As := []) (rest := []) (C := RX8) (T := TX8) (N := 8) (ci := 6) S G (s_isHome l X (an 4) (fun k => v (34 + k)) H.size) gX10_beats_X8_isHome rfl rfl rfl hdV_X8_isHome ⟨Nat.le_of_ble_eq_true rfl, Nat.le_of_ble_eq_true rfl⟩ [6] rfl rfl 6 rfl rfl rfl hl.1 (Nat.le_of_ble_eq_true rfl) dX10_beats_42 ⟨Nat.le_of_ble_eq_true rfl, Nat.le_of_ble_eq_true rfl⟩) (fun r_70 u_70 H locs hp_70 G => ?_)
            have G : wd X (va_A (xW h0 nw sp xa la lb ++ rcW X nw an v b g ++ rnW (xa 8) vg ++ [((xa 5), .inl (X.2.1, 3, .inl fr))]) sz) (va_A (xW h0 nw sp xa la lb ++ rcW X nw an v b g ++ rnW (xa 8) vg ++ [((xa 5), .inl (X.2.1, 3, .inl fr))]) sz) s (xW h0 nw sp xa la lb ++ rcW X nw an v b g ++ rnW (xa 8) vg ++ [((xa 5), .inl (X.2.1, 3, .inl fr))]) H locs := G
            exact join_41 r_70 _ _ _  G hl
          · refine k_it (v := 4) (by rw [q_66]; rfl) ?_
            refine r_aald (C := RX8) (b := (an 5)) S G 2 3 rfl rfl (k_vp (by decide)) rfl dX10_beats_41 ?_
            refine o_ri (cells' := 0) (slots' := 0) G rfl rfl (n_V (As := []) (rest := []) (C := RX8) (T := TX8) (N := 8) (ci := 6) S G (s_isHome l X (an 5) (fun k => v (42 + k)) H.size) gX10_beats_X8_isHome rfl rfl rfl hdV_X8_isHome ⟨Nat.le_of_ble_eq_true rfl, Nat.le_of_ble_eq_true rfl⟩ [7] rfl rfl 7 rfl rfl rfl hl.1 (Nat.le_of_ble_eq_true rfl) dX10_beats_42 ⟨Nat.le_of_ble_eq_true rfl, Nat.le_of_ble_eq_true rfl⟩) (fun r_71 u_71 H locs hp_71 G => ?_)
            have G : wd X (va_A (xW h0 nw sp xa la lb ++ rcW X nw an v b g ++ rnW (xa 8) vg ++ [((xa 5), .inl (X.2.1, 3, .inl fr))]) sz) (va_A (xW h0 nw sp xa la lb ++ rcW X nw an v b g ++ rnW (xa 8) vg ++ [((xa 5), .inl (X.2.1, 3, .inl fr))]) sz) s (xW h0 nw sp xa la lb ++ rcW X nw an v b g ++ rnW (xa 8) vg ++ [((xa 5), .inl (X.2.1, 3, .inl fr))]) H locs := G
            exact join_41 r_71 _ _ _  G hl
          · refine k_it (v := 5) (by rw [q_66]; rfl) ?_
            refine r_aald (C := RX8) (b := (an 6)) S G 2 3 rfl rfl (k_vp (by decide)) rfl dX10_beats_41 ?_
            refine o_ri (cells' := 0) (slots' := 0) G rfl rfl (n_V (As := []) (rest := []) (C := RX8) (T := TX8) (N := 8) (ci := 6) S G (s_isHome l X (an 6) (fun k => v (50 + k)) H.size) gX10_beats_X8_isHome rfl rfl rfl hdV_X8_isHome ⟨Nat.le_of_ble_eq_true rfl, Nat.le_of_ble_eq_true rfl⟩ [8] rfl rfl 8 rfl rfl rfl hl.1 (Nat.le_of_ble_eq_true rfl) dX10_beats_42 ⟨Nat.le_of_ble_eq_true rfl, Nat.le_of_ble_eq_true rfl⟩) (fun r_72 u_72 H locs hp_72 G => ?_)
            have G : wd X (va_A (xW h0 nw sp xa la lb ++ rcW X nw an v b g ++ rnW (xa 8) vg ++ [((xa 5), .inl (X.2.1, 3, .inl fr))]) sz) (va_A (xW h0 nw sp xa la lb ++ rcW X nw an v b g ++ rnW (xa 8) vg ++ [((xa 5), .inl (X.2.1, 3, .inl fr))]) sz) s (xW h0 nw sp xa la lb ++ rcW X nw an v b g ++ rnW (xa 8) vg ++ [((xa 5), .inl (X.2.1, 3, .inl fr))]) H locs := G
            exact join_41 r_72 _ _ _  G hl
        · intro x_65 H locs ls  G hl
          refine lv_if_eq (tgt := 50) zx zb dX10_beats_45 (by decide) (fun c_73 => ?_) (fun c_73 => ?_)
          · refine lv_aload_n zx zb dX10_beats_50 rfl (lv_at hl 1 rfl) ?_
            refine lv_iload_n zx zb dX10_beats_51 rfl (lv_at hl 3 rfl) ?_
            refine lv_bipush (v := 60) zx zb dX10_beats_52 (by decide) ?_
            refine b_wi (cells' := 0) (slots' := 0) (wr := [((xa 5), .inl (X.2.1, 3, .inl fr))]) G rfl rfl [0, 1, 2, 3, 4, 5, 6, 7, 8, 9, 10, 11, 12, 13, 14, 15, 16, 17] [18] rfl rfl rfl rfl (n_V (As := [.int (nI i_1), .int 60]) (rest := []) (C := RX10) (T := TX10) (N := 14) (ci := 8) S G (s_homeBehind l X h0 nw sp xa la lb an v b g vg i_1 60 hI_b (by omega) (by first | decide | assumption | exact k_60a (by assumption)) H.size) gX10_beats_X10_homeBehind rfl rfl rfl hdV_X10_homeBehind ⟨Nat.le_of_ble_eq_true rfl, Nat.le_of_ble_eq_true rfl⟩ [0, 1, 2, 3, 4, 5, 6, 7, 8, 9, 10, 11, 12, 13, 14, 15, 16, 17] rfl rfl 0 rfl rfl rfl hl.1 (Nat.le_of_ble_eq_true rfl) dX10_beats_54 ⟨Nat.le_of_ble_eq_true rfl, Nat.le_of_ble_eq_true rfl⟩) (fun r_74 u_74 H locs hp_74 G => ?_)
            obtain ⟨v_74, rfl⟩ : ∃ z, z = u_74 := ⟨_, rfl⟩
            have hq_74 := hp_74
            have G : wd X (va_A (xW h0 nw sp xa la lb ++ rcW X nw an v b g ++ rnW (xa 8) vg ++ [((xa 5), .inl (X.2.1, 3, .inl fr))]) sz) (va_A (xW h0 nw sp xa la lb ++ rcW X nw an v b g ++ rnW (xa 8) vg ++ [((xa 5), .inl (X.2.1, 3, .inl fr))]) sz) s ([((xa 5), .inl (X.2.1, 3, .inl fr))] ++ xW h0 nw sp xa la lb ++ rcW X nw an v b g ++ rnW (xa 8) v_74) H locs := G
            refine lv_istore (lv' := [(4, .int r_74), (3, .ref (an 4)), (0, .ref h0), (1, .int 3), (2, .int (nI i_1))]) zx zb dX10_beats_57 hl (by decide) rfl (fun ls hl => ?_)
            refine lv_iload zx zb dX10_beats_59 (lv_at hl 0 rfl) ?_
            refine lv_iconst (v := (-1)) zx zb dX10_beats_61 (by decide) ?_
            refine k_cutW (PP := fun Wx => ∀ (x_76 : Int32) (H : Heap) (locs : List Loc) (ls : Array Slot), (x_76 ≤ 60) → wd X (va_A (xW h0 nw sp xa la lb ++ rcW X nw an v b g ++ rnW (xa 8) vg ++ [((xa 5), .inl (X.2.1, 3, .inl fr))]) sz) (va_A (xW h0 nw sp xa la lb ++ rcW X nw an v b g ++ rnW (xa 8) vg ++ [((xa 5), .inl (X.2.1, 3, .inl fr))]) sz) s ([((xa 5), .inl (X.2.1, 3, .inl fr))] ++ xW h0 nw sp xa la lb ++ rcW X nw an v b g ++ rnW (xa 8) v_74) H locs → lv_has ls 7 [(4, .int r_74), (3, .ref (an 4)), (0, .ref h0), (1, .int 3), (2, .int (nI i_1))] → Wx (F0 m 74 ls [.int x_76]) H locs) ?_ ?_
            · intro join_62
              refine lv_icmp_ne (tgt := 70) zx zb dX10_beats_62 (by decide) (fun c_75 => ?_) (fun c_75 => ?_)
              · refine lv_iload zx zb dX10_beats_70 (lv_at hl 0 rfl) ?_
                refine lv_iconst (v := 1) zx zb dX10_beats_72 (by decide) ?_
                refine r_isub (v := (r_74 - 1)) S rfl dX10_beats_73 ?_
                exact join_62 (r_74 - 1) _ _ _ (by first | assumption | decide | exact k_m60 (by assumption)) G hl
              · refine lv_bipush (v := 60) zx zb dX10_beats_65 (by decide) ?_
                refine lv_goto (tgt := 74) zx zb dX10_beats_67 (by decide) ?_
                exact join_62 60 _ _ _ (by first | assumption | decide | exact k_m60 (by assumption)) G hl
            · intro x_76 H locs ls hk_x_76 G hl
              refine lv_istore (lv' := [(5, .int x_76), (4, .int r_74), (3, .ref (an 4)), (0, .ref h0), (1, .int 3), (2, .int (nI i_1))]) zx zb dX10_beats_74 hl (by decide) rfl (fun ls hl => ?_)
              refine lv_iconst (v := 0) zx zb dX10_beats_76 (by decide) ?_
              refine lv_istore (lv' := [(6, .int 0), (5, .int x_76), (4, .int r_74), (3, .ref (an 4)), (0, .ref h0), (1, .int 3), (2, .int (nI i_1))]) zx zb dX10_beats_77 hl (by decide) rfl (fun ls hl => ?_)
              refine k_loop (P := ∀ (zm : Nat) (k79 : Nat) (v79_3 : Nat → Int32) (H : Heap) (locs : List Loc) (ls : Array Slot), 31 + 1 ≤ k79 + zm → (k79 ≤ 31) → wd X (va_A (xW h0 nw sp xa la lb ++ rcW X nw an v b g ++ rnW (xa 8) vg ++ [((xa 5), .inl (X.2.1, 3, .inl fr))]) sz) (va_A (xW h0 nw sp xa la lb ++ rcW X nw an v b g ++ rnW (xa 8) vg ++ [((xa 5), .inl (X.2.1, 3, .inl fr))]) sz) s ([((xa 5), .inl (X.2.1, 3, .inl fr))] ++ xW h0 nw sp xa la lb ++ rcW X nw an v b g ++ rnW (xa 8) v79_3) H locs → lv_has ls 7 [(6, .int (nI k79)), (5, .int x_76), (4, .int r_74), (3, .ref (an 4)), (0, .ref h0), (1, .int 3), (2, .int (nI i_1))] → W p l e _ s m _ below meth c H locs _ _ _ (F0 m 79 ls [])) (fun loop => loop (31 + 1) 0 v_74 _ _ _ (by omega) (by omega) G hl) ?_
              intro zm
              induction zm with
              | zero => intro k79 v79_3 H locs ls zz q_hk_k79 _ _; exact absurd zz (by omega)
              | succ zm ih79 =>
                intro k79 v79_3 H locs ls zm_79 hk_k79 G hl
                refine lv_iload zx zb dX10_beats_79 (lv_at hl 0 rfl) ?_
                refine lv_bipush (v := 30) zx zb dX10_beats_81 (by decide) ?_
                refine lv_icmp_gt (tgt := 161) zx zb dX10_beats_83 (by decide) (fun c_77 => ?_) (fun c_77 => ?_)
                · have fc_77 := j_lt (a := 30) (b := k79) (by omega) (by omega) c_77
                  refine lv_iconst (v := (-1)) zx zb dX10_beats_161 (by decide) ?_
                  exact e_int S zr zlk (vp_nar_int _) G (v79_3, fr) [1, 2, 3, 4, 5, 6, 7, 8, 9, 10, 11, 12, 13, 14, 15, 16, 17, 18, 0] rfl rfl (Or.inr rfl) (trivial) dX10_beats_162
                · have fc_77 := j_nlt (a := 30) (b := k79) (by omega) (by omega) c_77
                  refine lv_aload_n zx zb dX10_beats_86 rfl (lv_at hl 3 rfl) ?_
                  refine r_get (C := RX8) (T := TX8) (N := 8) (ci := 6) (v := .int (v 38)) S in_X10_beats_X8 G 7 rfl rfl 4 (by decide) lk_X10_beats_137 rfl dX10_beats_87 ?_
                  refine lv_iload zx zb dX10_beats_90 (lv_at hl 0 rfl) ?_
                  refine r_iadd (v := ((v 38) + (nI k79))) S rfl dX10_beats_92 ?_
                  refine lv_aload_n zx zb dX10_beats_93 rfl (lv_at hl 4 rfl) ?_
                  refine r_get (C := RX10) (T := TX10) (N := 14) (ci := 8) (v := .ref nw) S in_X10_beats_X10 G 1 rfl rfl 0 (by decide) lk_X10_beats_10 rfl dX10_beats_94 ?_
                  refine r_get (C := RX5) (T := TX5) (N := 8) (ci := 3) (v := .int (v 0)) S in_X10_beats_X5 G 2 rfl rfl 0 (by decide) lk_X10_beats_140 rfl dX10_beats_97 ?_
                  refine lv_icmp_ge (tgt := 161) zx zb dX10_beats_100 (by decide) (fun c_78 => ?_) (fun c_78 => ?_)
                  · refine lv_iconst (v := (-1)) zx zb dX10_beats_161 (by decide) ?_
                    exact e_int S zr zlk (vp_nar_int _) G (v79_3, fr) [1, 2, 3, 4, 5, 6, 7, 8, 9, 10, 11, 12, 13, 14, 15, 16, 17, 18, 0] rfl rfl (Or.inr rfl) (trivial) dX10_beats_162
                  · refine lv_aload_n zx zb dX10_beats_103 rfl (lv_at hl 4 rfl) ?_
                    refine r_get (C := RX10) (T := TX10) (N := 14) (ci := 8) (v := .ref (xa 8)) S in_X10_beats_X10 G 1 rfl rfl 8 (by decide) lk_X10_beats_48 rfl dX10_beats_104 ?_
                    refine lv_aload_n zx zb dX10_beats_107 rfl (lv_at hl 3 rfl) ?_
                    refine b_wv (cells' := 0) (slots' := 0) (wr := [((xa 5), .inl (X.2.1, 3, .inl fr))] ++ xW h0 nw sp xa la lb ++ [(nw, .inr (3, [.int (v 0), .int (v 1), .int (nI (b 0)), .ref (an 0), .ref (an 7), .ref (an 9), .ref (an 11), .ref (an 13)])), ((an 0), .inl (X.2.2.2.2, 6, .inr (.inr (.inr (.inr (rowQ an)))))), ((an 1), .inr (6, [.int (v 10), .int (v 11), .int (v 12), .int (v 13), .int (v 14), .int (v 15), .int (v 16), .int (v 17)])), ((an 2), .inr (6, [.int (v 18), .int (v 19), .int (v 20), .int (v 21), .int (v 22), .int (v 23), .int (v 24), .int (v 25)])), ((an 3), .inr (6, [.int (v 26), .int (v 27), .int (v 28), .int (v 29), .int (v 30), .int (v 31), .int (v 32), .int (v 33)])), ((an 5), .inr (6, [.int (v 42), .int (v 43), .int (v 44), .int (v 45), .int (v 46), .int (v 47), .int (v 48), .int (v 49)])), ((an 6), .inr (6, [.int (v 50), .int (v 51), .int (v 52), .int (v 53), .int (v 54), .int (v 55), .int (v 56), .int (v 57)])), ((an 7), .inr (2, [.ref (an 8), .int (nI (b 1))])), ((an 8), .inl (X.2.1, 248, .inl (g 0))), ((an 9), .inr (5, [.int 5, .int 0, .int 1, .ref (an 10), .int (nI (b 2))])), ((an 10), .inl (X.2.1, 25, .inl (g 1))), ((an 11), .inr (5, [.int 6, .int 1, .int 1, .ref (an 12), .int (nI (b 3))])), ((an 12), .inl (X.2.1, 30, .inl (g 2))), ((an 13), .inr (5, [.int 6, .int 0, .int 0, .ref (an 14), .int (nI (b 4))])), ((an 14), .inl (X.2.1, 30, .inl (g 3)))]) G rfl rfl [18, 7] [0, 1, 2, 3, 4, 5, 6, 8, 9, 10, 11, 12, 13, 14, 15, 16, 17] rfl rfl rfl rfl (n_V (As := [.ref (an 4)]) (rest := []) (C := RX8) (T := TX8) (N := 8) (ci := 6) S G (s_rcopy l X (xa 8) v79_3 (an 4) (fun k => v (34 + k)) H.size) gX10_beats_X8_copyFrom rfl rfl rfl hdV_X8_copyFrom ⟨Nat.le_of_ble_eq_true rfl, Nat.le_of_ble_eq_true rfl⟩ [18, 7] rfl rfl 18 rfl rfl rfl hl.1 (Nat.le_of_ble_eq_true rfl) dX10_beats_108 ⟨Nat.le_of_ble_eq_true rfl, Nat.le_of_ble_eq_true rfl⟩) (fun u_79 H locs hp_79 G => ?_)
                    obtain ⟨v_79, rfl⟩ : ∃ z, z = u_79 := ⟨_, rfl⟩
                    have hq_79 := hp_79
                    have G : wd X (va_A (xW h0 nw sp xa la lb ++ rcW X nw an v b g ++ rnW (xa 8) vg ++ [((xa 5), .inl (X.2.1, 3, .inl fr))]) sz) (va_A (xW h0 nw sp xa la lb ++ rcW X nw an v b g ++ rnW (xa 8) vg ++ [((xa 5), .inl (X.2.1, 3, .inl fr))]) sz) s ([((xa 5), .inl (X.2.1, 3, .inl fr))] ++ xW h0 nw sp xa la lb ++ rcW X nw an v b g ++ rnW (xa 8) v_79) H locs := wd_sub G [0, 1, 2, 3, 4, 5, 6, 18, 7, 8, 9, 10, 11, 12, 13, 14, 15, 16, 17] rfl rfl
                    refine lv_aload_n zx zb dX10_beats_111 rfl (lv_at hl 4 rfl) ?_
                    refine r_get (C := RX10) (T := TX10) (N := 14) (ci := 8) (v := .ref (xa 8)) S in_X10_beats_X10 G 1 rfl rfl 8 (by decide) lk_X10_beats_48 rfl dX10_beats_112 ?_
                    refine lv_dup zx zb dX10_beats_115 rfl ?_
                    refine r_get (C := RX8) (T := TX8) (N := 8) (ci := 6) (v := .int (v_79 4)) S in_X10_beats_X8 G 18 rfl rfl 4 (by decide) lk_X10_beats_137 rfl dX10_beats_116 ?_
                    refine lv_iload zx zb dX10_beats_119 (lv_at hl 0 rfl) ?_
                    refine r_iadd (v := ((v_79 4) + (nI k79))) S rfl dX10_beats_121 ?_
                    refine r_put (C := RX8) (T := TX8) (N := 8) (ci := 6) (v := .int ((v_79 4) + (nI k79))) S in_X10_beats_X8 tyX8_ok nmX8 G 18 rfl rfl 4 (by decide) lk_X10_beats_137 rfl (vp_nar_int _) rfl (Nat.le_of_ble_eq_true rfl) dX10_beats_122 (fun H locs G => ?_)
                    obtain ⟨v_80, G⟩ : ∃ v_80 : Nat → Int32, wd X (va_A (xW h0 nw sp xa la lb ++ rcW X nw an v b g ++ rnW (xa 8) vg ++ [((xa 5), .inl (X.2.1, 3, .inl fr))]) sz) (va_A (xW h0 nw sp xa la lb ++ rcW X nw an v b g ++ rnW (xa 8) vg ++ [((xa 5), .inl (X.2.1, 3, .inl fr))]) sz) s ([((xa 5), .inl (X.2.1, 3, .inl fr))] ++ xW h0 nw sp xa la lb ++ rcW X nw an v b g ++ rnW (xa 8) v_80) H locs := ⟨upd v_79 4 ((v_79 4) + (nI k79)), G⟩
                    refine lv_aload_n zx zb dX10_beats_125 rfl (lv_at hl 4 rfl) ?_
                    refine r_get (C := RX10) (T := TX10) (N := 14) (ci := 8) (v := .ref (xa 8)) S in_X10_beats_X10 G 1 rfl rfl 8 (by decide) lk_X10_beats_48 rfl dX10_beats_126 ?_
                    refine lv_aload_n zx zb dX10_beats_129 rfl (lv_at hl 4 rfl) ?_
                    refine r_get (C := RX10) (T := TX10) (N := 14) (ci := 8) (v := .ref nw) S in_X10_beats_X10 G 1 rfl rfl 0 (by decide) lk_X10_beats_10 rfl dX10_beats_130 ?_
                    refine r_get (C := RX5) (T := TX5) (N := 8) (ci := 3) (v := .int (v 1)) S in_X10_beats_X5 G 2 rfl rfl 1 (by decide) lk_X10_beats_110 rfl dX10_beats_133 ?_
                    refine lv_aload_n zx zb dX10_beats_136 rfl (lv_at hl 4 rfl) ?_
                    refine r_get (C := RX10) (T := TX10) (N := 14) (ci := 8) (v := .ref nw) S in_X10_beats_X10 G 1 rfl rfl 0 (by decide) lk_X10_beats_10 rfl dX10_beats_137 ?_
                    refine r_get (C := RX5) (T := TX5) (N := 8) (ci := 3) (v := .int (v 0)) S in_X10_beats_X5 G 2 rfl rfl 0 (by decide) lk_X10_beats_140 rfl dX10_beats_140 ?_
                    refine lv_iload zx zb dX10_beats_143 (lv_at hl 1 rfl) ?_
                    refine b_wi (cells' := 0) (slots' := 0) (wr := [((xa 5), .inl (X.2.1, 3, .inl fr))] ++ xW h0 nw sp xa la lb ++ rcW X nw an v b g) G rfl rfl [18] [0, 1, 2, 3, 4, 5, 6, 7, 8, 9, 10, 11, 12, 13, 14, 15, 16, 17] rfl rfl rfl rfl (n_V (As := [.int (v 1), .int (v 0), .int x_76]) (rest := []) (C := RX8) (T := TX8) (N := 8) (ci := 6) S G (s_ticksToHome l X (xa 8) v_80 (v 1) (v 0) x_76 (by first | decide | assumption | exact k_60a (by assumption)) H.size) gX10_beats_X8_ticksToHome rfl rfl rfl hdV_X8_ticksToHome ⟨Nat.le_of_ble_eq_true rfl, Nat.le_of_ble_eq_true rfl⟩ [18] rfl rfl 18 rfl rfl rfl hl.1 (Nat.le_of_ble_eq_true rfl) dX10_beats_145 ⟨Nat.le_of_ble_eq_true rfl, Nat.le_of_ble_eq_true rfl⟩) (fun r_81 u_81 H locs hp_81 G => ?_)
                    obtain ⟨v_81, rfl⟩ : ∃ z, z = u_81 := ⟨_, rfl⟩
                    have hq_81 := hp_81
                    obtain ⟨hq_81, hs_81⟩ := hq_81
                    have G : wd X (va_A (xW h0 nw sp xa la lb ++ rcW X nw an v b g ++ rnW (xa 8) vg ++ [((xa 5), .inl (X.2.1, 3, .inl fr))]) sz) (va_A (xW h0 nw sp xa la lb ++ rcW X nw an v b g ++ rnW (xa 8) vg ++ [((xa 5), .inl (X.2.1, 3, .inl fr))]) sz) s ([((xa 5), .inl (X.2.1, 3, .inl fr))] ++ xW h0 nw sp xa la lb ++ rcW X nw an v b g ++ rnW (xa 8) v_81) H locs := G
                    refine lv_iconst (v := (-1)) zx zb dX10_beats_148 (by decide) ?_
                    refine lv_icmp_eq (tgt := 155) zx zb dX10_beats_149 (by decide) (fun c_82 => ?_) (fun c_82 => ?_)
                    · refine lv_iinc (v := (nI (k79 + 1))) (lv' := [(6, .int (nI (k79 + 1))), (5, .int x_76), (4, .int r_74), (3, .ref (an 4)), (0, .ref h0), (1, .int 3), (2, .int (nI i_1))]) zx zb dX10_beats_155 hl (k := 0) rfl (nI_add k79 1) (by decide) rfl (fun ls hl => ?_)
                      refine lv_goto (tgt := 79) zx zb dX10_beats_158 (by decide) ?_
                      exact ih79 (k79 + 1) v_81 _ _ _ (by omega) (by omega) G hl
                    · refine lv_iload zx zb dX10_beats_152 (lv_at hl 0 rfl) ?_
                      exact e_int S zr zlk (vp_nar_int _) G (v_81, fr) [1, 2, 3, 4, 5, 6, 7, 8, 9, 10, 11, 12, 13, 14, 15, 16, 17, 18, 0] rfl rfl (Or.inr rfl) (trivial) dX10_beats_154
          · refine lv_iconst (v := (-1)) zx zb dX10_beats_48 (by decide) ?_
            exact e_int S zr zlk (vp_nar_int _) G (vg, fr) [0, 1, 2, 3, 4, 5, 6, 7, 8, 9, 10, 11, 12, 13, 14, 15, 16, 17, 18] rfl rfl (Or.inr rfl) (trivial) dX10_beats_49
    · refine k_it (v := 4) rfl ?_
      refine r_aald (C := RX8) (b := (an 5)) S G 2 3 rfl rfl (k_vp (by decide)) rfl dX10_beats_24 ?_
      refine lv_astore_n (lv' := [(3, .ref (an 5)), (0, .ref h0), (1, .int 4), (2, .int (nI i_1))]) zx zb dX10_beats_25 rfl hl (by decide) rfl (fun ls hl => ?_)
      refine lv_aload_n zx zb dX10_beats_26 rfl (lv_at hl 0 rfl) ?_
      refine o_ri (cells' := 0) (slots' := 0) G rfl rfl (n_V (As := []) (rest := []) (C := RX8) (T := TX8) (N := 8) (ci := 6) S G (s_isHome l X (an 5) (fun k => v (42 + k)) H.size) gX10_beats_X8_isHome rfl rfl rfl hdV_X8_isHome ⟨Nat.le_of_ble_eq_true rfl, Nat.le_of_ble_eq_true rfl⟩ [7] rfl rfl 7 rfl rfl rfl hl.1 (Nat.le_of_ble_eq_true rfl) dX10_beats_27 ⟨Nat.le_of_ble_eq_true rfl, Nat.le_of_ble_eq_true rfl⟩) (fun r_83 u_83 H locs hp_83 G => ?_)
      have G : wd X (va_A (xW h0 nw sp xa la lb ++ rcW X nw an v b g ++ rnW (xa 8) vg ++ [((xa 5), .inl (X.2.1, 3, .inl fr))]) sz) (va_A (xW h0 nw sp xa la lb ++ rcW X nw an v b g ++ rnW (xa 8) vg ++ [((xa 5), .inl (X.2.1, 3, .inl fr))]) sz) s (xW h0 nw sp xa la lb ++ rcW X nw an v b g ++ rnW (xa 8) vg ++ [((xa 5), .inl (X.2.1, 3, .inl fr))]) H locs := G
      refine lv_if_ne (tgt := 48) zx zb dX10_beats_30 (by decide) (fun c_84 => ?_) (fun c_84 => ?_)
      · refine lv_iconst (v := (-1)) zx zb dX10_beats_48 (by decide) ?_
        exact e_int S zr zlk (vp_nar_int _) G (vg, fr) [0, 1, 2, 3, 4, 5, 6, 7, 8, 9, 10, 11, 12, 13, 14, 15, 16, 17, 18] rfl rfl (Or.inr rfl) (trivial) dX10_beats_49
      · refine lv_aload_n zx zb dX10_beats_33 rfl (lv_at hl 1 rfl) ?_
        refine r_get (C := RX10) (T := TX10) (N := 14) (ci := 8) (v := .ref nw) S in_X10_beats_X10 G 0 rfl rfl 0 (by decide) lk_X10_beats_10 rfl dX10_beats_34 ?_
        refine r_get (C := RX5) (T := TX5) (N := 8) (ci := 3) (v := .ref (an 0)) S in_X10_beats_X5 G 1 rfl rfl 3 (by decide) lk_X10_beats_126 rfl dX10_beats_37 ?_
        refine lv_iload_n zx zb dX10_beats_40 rfl (lv_at hl 3 rfl) ?_
        refine k_cutW (PP := fun Wx => ∀ (x_85 : Int32) (H : Heap) (locs : List Loc) (ls : Array Slot), wd X (va_A (xW h0 nw sp xa la lb ++ rcW X nw an v b g ++ rnW (xa 8) vg ++ [((xa 5), .inl (X.2.1, 3, .inl fr))]) sz) (va_A (xW h0 nw sp xa la lb ++ rcW X nw an v b g ++ rnW (xa 8) vg ++ [((xa 5), .inl (X.2.1, 3, .inl fr))]) sz) s (xW h0 nw sp xa la lb ++ rcW X nw an v b g ++ rnW (xa 8) vg ++ [((xa 5), .inl (X.2.1, 3, .inl fr))]) H locs → lv_has ls 7 [(3, .ref (an 5)), (0, .ref h0), (1, .int 4), (2, .int (nI i_1))] → Wx (F0 m 45 ls [.int x_85]) H locs) ?_ ?_
        · intro join_41
          rcases k_6c (show i_1 < 6 by omega) with q_86 | q_86 | q_86 | q_86 | q_86 | q_86
          · refine k_it (v := 0) (by rw [q_86]; rfl) ?_
            refine r_aald (C := RX8) (b := (an 1)) S G 2 3 rfl rfl (k_vp (by decide)) rfl dX10_beats_41 ?_
            refine o_ri (cells' := 0) (slots' := 0) G rfl rfl (n_V (As := []) (rest := []) (C := RX8) (T := TX8) (N := 8) (ci := 6) S G (s_isHome l X (an 1) (fun k => v (10 + k)) H.size) gX10_beats_X8_isHome rfl rfl rfl hdV_X8_isHome ⟨Nat.le_of_ble_eq_true rfl, Nat.le_of_ble_eq_true rfl⟩ [3] rfl rfl 3 rfl rfl rfl hl.1 (Nat.le_of_ble_eq_true rfl) dX10_beats_42 ⟨Nat.le_of_ble_eq_true rfl, Nat.le_of_ble_eq_true rfl⟩) (fun r_87 u_87 H locs hp_87 G => ?_)
            have G : wd X (va_A (xW h0 nw sp xa la lb ++ rcW X nw an v b g ++ rnW (xa 8) vg ++ [((xa 5), .inl (X.2.1, 3, .inl fr))]) sz) (va_A (xW h0 nw sp xa la lb ++ rcW X nw an v b g ++ rnW (xa 8) vg ++ [((xa 5), .inl (X.2.1, 3, .inl fr))]) sz) s (xW h0 nw sp xa la lb ++ rcW X nw an v b g ++ rnW (xa 8) vg ++ [((xa 5), .inl (X.2.1, 3, .inl fr))]) H locs := G
            exact join_41 r_87 _ _ _  G hl
          · refine k_it (v := 1) (by rw [q_86]; rfl) ?_
            refine r_aald (C := RX8) (b := (an 2)) S G 2 3 rfl rfl (k_vp (by decide)) rfl dX10_beats_41 ?_
            refine o_ri (cells' := 0) (slots' := 0) G rfl rfl (n_V (As := []) (rest := []) (C := RX8) (T := TX8) (N := 8) (ci := 6) S G (s_isHome l X (an 2) (fun k => v (18 + k)) H.size) gX10_beats_X8_isHome rfl rfl rfl hdV_X8_isHome ⟨Nat.le_of_ble_eq_true rfl, Nat.le_of_ble_eq_true rfl⟩ [4] rfl rfl 4 rfl rfl rfl hl.1 (Nat.le_of_ble_eq_true rfl) dX10_beats_42 ⟨Nat.le_of_ble_eq_true rfl, Nat.le_of_ble_eq_true rfl⟩) (fun r_88 u_88 H locs hp_88 G => ?_)
            have G : wd X (va_A (xW h0 nw sp xa la lb ++ rcW X nw an v b g ++ rnW (xa 8) vg ++ [((xa 5), .inl (X.2.1, 3, .inl fr))]) sz) (va_A (xW h0 nw sp xa la lb ++ rcW X nw an v b g ++ rnW (xa 8) vg ++ [((xa 5), .inl (X.2.1, 3, .inl fr))]) sz) s (xW h0 nw sp xa la lb ++ rcW X nw an v b g ++ rnW (xa 8) vg ++ [((xa 5), .inl (X.2.1, 3, .inl fr))]) H locs := G
            exact join_41 r_88 _ _ _  G hl
          · refine k_it (v := 2) (by rw [q_86]; rfl) ?_
            refine r_aald (C := RX8) (b := (an 3)) S G 2 3 rfl rfl (k_vp (by decide)) rfl dX10_beats_41 ?_
            refine o_ri (cells' := 0) (slots' := 0) G rfl rfl (n_V (As := []) (rest := []) (C := RX8) (T := TX8) (N := 8) (ci := 6) S G (s_isHome l X (an 3) (fun k => v (26 + k)) H.size) gX10_beats_X8_isHome rfl rfl rfl hdV_X8_isHome ⟨Nat.le_of_ble_eq_true rfl, Nat.le_of_ble_eq_true rfl⟩ [5] rfl rfl 5 rfl rfl rfl hl.1 (Nat.le_of_ble_eq_true rfl) dX10_beats_42 ⟨Nat.le_of_ble_eq_true rfl, Nat.le_of_ble_eq_true rfl⟩) (fun r_89 u_89 H locs hp_89 G => ?_)
            have G : wd X (va_A (xW h0 nw sp xa la lb ++ rcW X nw an v b g ++ rnW (xa 8) vg ++ [((xa 5), .inl (X.2.1, 3, .inl fr))]) sz) (va_A (xW h0 nw sp xa la lb ++ rcW X nw an v b g ++ rnW (xa 8) vg ++ [((xa 5), .inl (X.2.1, 3, .inl fr))]) sz) s (xW h0 nw sp xa la lb ++ rcW X nw an v b g ++ rnW (xa 8) vg ++ [((xa 5), .inl (X.2.1, 3, .inl fr))]) H locs := G
            exact join_41 r_89 _ _ _  G hl
          · refine k_it (v := 3) (by rw [q_86]; rfl) ?_
            refine r_aald (C := RX8) (b := (an 4)) S G 2 3 rfl rfl (k_vp (by decide)) rfl dX10_beats_41 ?_
            refine o_ri (cells' := 0) (slots' := 0) G rfl rfl (n_V (As := []) (rest := []) (C := RX8) (T := TX8) (N := 8) (ci := 6) S G (s_isHome l X (an 4) (fun k => v (34 + k)) H.size) gX10_beats_X8_isHome rfl rfl rfl hdV_X8_isHome ⟨Nat.le_of_ble_eq_true rfl, Nat.le_of_ble_eq_true rfl⟩ [6] rfl rfl 6 rfl rfl rfl hl.1 (Nat.le_of_ble_eq_true rfl) dX10_beats_42 ⟨Nat.le_of_ble_eq_true rfl, Nat.le_of_ble_eq_true rfl⟩) (fun r_90 u_90 H locs hp_90 G => ?_)
            have G : wd X (va_A (xW h0 nw sp xa la lb ++ rcW X nw an v b g ++ rnW (xa 8) vg ++ [((xa 5), .inl (X.2.1, 3, .inl fr))]) sz) (va_A (xW h0 nw sp xa la lb ++ rcW X nw an v b g ++ rnW (xa 8) vg ++ [((xa 5), .inl (X.2.1, 3, .inl fr))]) sz) s (xW h0 nw sp xa la lb ++ rcW X nw an v b g ++ rnW (xa 8) vg ++ [((xa 5), .inl (X.2.1, 3, .inl fr))]) H locs := G
            exact join_41 r_90 _ _ _  G hl
          · refine k_it (v := 4) (by rw [q_86]; rfl) ?_
            refine r_aald (C := RX8) (b := (an 5)) S G 2 3 rfl rfl (k_vp (by decide)) rfl dX10_beats_41 ?_
            refine o_ri (cells' := 0) (slots' := 0) G rfl rfl (n_V (As := []) (rest := []) (C := RX8) (T := TX8) (N := 8) (ci := 6) S G (s_isHome l X (an 5) (fun k => v (42 + k)) H.size) gX10_beats_X8_isHome rfl rfl rfl hdV_X8_isHome ⟨Nat.le_of_ble_eq_true rfl, Nat.le_of_ble_eq_true rfl⟩ [7] rfl rfl 7 rfl rfl rfl hl.1 (Nat.le_of_ble_eq_true rfl) dX10_beats_42 ⟨Nat.le_of_ble_eq_true rfl, Nat.le_of_ble_eq_true rfl⟩) (fun r_91 u_91 H locs hp_91 G => ?_)
            have G : wd X (va_A (xW h0 nw sp xa la lb ++ rcW X nw an v b g ++ rnW (xa 8) vg ++ [((xa 5), .inl (X.2.1, 3, .inl fr))]) sz) (va_A (xW h0 nw sp xa la lb ++ rcW X nw an v b g ++ rnW (xa 8) vg ++ [((xa 5), .inl (X.2.1, 3, .inl fr))]) sz) s (xW h0 nw sp xa la lb ++ rcW X nw an v b g ++ rnW (xa 8) vg ++ [((xa 5), .inl (X.2.1, 3, .inl fr))]) H locs := G
            exact join_41 r_91 _ _ _  G hl
          · refine k_it (v := 5) (by rw [q_86]; rfl) ?_
            refine r_aald (C := RX8) (b := (an 6)) S G 2 3 rfl rfl (k_vp (by decide)) rfl dX10_beats_41 ?_
            refine o_ri (cells' := 0) (slots' := 0) G rfl rfl (n_V (As := []) (rest := []) (C := RX8) (T := TX8) (N := 8) (ci := 6) S G (s_isHome l X (an 6) (fun k => v (50 + k)) H.size) gX10_beats_X8_isHome rfl rfl rfl hdV_X8_isHome ⟨Nat.le_of_ble_eq_true rfl, Nat.le_of_ble_eq_true rfl⟩ [8] rfl rfl 8 rfl rfl rfl hl.1 (Nat.le_of_ble_eq_true rfl) dX10_beats_42 ⟨Nat.le_of_ble_eq_true rfl, Nat.le_of_ble_eq_true rfl⟩) (fun r_92 u_92 H locs hp_92 G => ?_)
            have G : wd X (va_A (xW h0 nw sp xa la lb ++ rcW X nw an v b g ++ rnW (xa 8) vg ++ [((xa 5), .inl (X.2.1, 3, .inl fr))]) sz) (va_A (xW h0 nw sp xa la lb ++ rcW X nw an v b g ++ rnW (xa 8) vg ++ [((xa 5), .inl (X.2.1, 3, .inl fr))]) sz) s (xW h0 nw sp xa la lb ++ rcW X nw an v b g ++ rnW (xa 8) vg ++ [((xa 5), .inl (X.2.1, 3, .inl fr))]) H locs := G
            exact join_41 r_92 _ _ _  G hl
        · intro x_85 H locs ls  G hl
          refine lv_if_eq (tgt := 50) zx zb dX10_beats_45 (by decide) (fun c_93 => ?_) (fun c_93 => ?_)
          · refine lv_aload_n zx zb dX10_beats_50 rfl (lv_at hl 1 rfl) ?_
            refine lv_iload_n zx zb dX10_beats_51 rfl (lv_at hl 3 rfl) ?_
            refine lv_bipush (v := 60) zx zb dX10_beats_52 (by decide) ?_
            refine b_wi (cells' := 0) (slots' := 0) (wr := [((xa 5), .inl (X.2.1, 3, .inl fr))]) G rfl rfl [0, 1, 2, 3, 4, 5, 6, 7, 8, 9, 10, 11, 12, 13, 14, 15, 16, 17] [18] rfl rfl rfl rfl (n_V (As := [.int (nI i_1), .int 60]) (rest := []) (C := RX10) (T := TX10) (N := 14) (ci := 8) S G (s_homeBehind l X h0 nw sp xa la lb an v b g vg i_1 60 hI_b (by omega) (by first | decide | assumption | exact k_60a (by assumption)) H.size) gX10_beats_X10_homeBehind rfl rfl rfl hdV_X10_homeBehind ⟨Nat.le_of_ble_eq_true rfl, Nat.le_of_ble_eq_true rfl⟩ [0, 1, 2, 3, 4, 5, 6, 7, 8, 9, 10, 11, 12, 13, 14, 15, 16, 17] rfl rfl 0 rfl rfl rfl hl.1 (Nat.le_of_ble_eq_true rfl) dX10_beats_54 ⟨Nat.le_of_ble_eq_true rfl, Nat.le_of_ble_eq_true rfl⟩) (fun r_94 u_94 H locs hp_94 G => ?_)
            obtain ⟨v_94, rfl⟩ : ∃ z, z = u_94 := ⟨_, rfl⟩
            have hq_94 := hp_94
            have G : wd X (va_A (xW h0 nw sp xa la lb ++ rcW X nw an v b g ++ rnW (xa 8) vg ++ [((xa 5), .inl (X.2.1, 3, .inl fr))]) sz) (va_A (xW h0 nw sp xa la lb ++ rcW X nw an v b g ++ rnW (xa 8) vg ++ [((xa 5), .inl (X.2.1, 3, .inl fr))]) sz) s ([((xa 5), .inl (X.2.1, 3, .inl fr))] ++ xW h0 nw sp xa la lb ++ rcW X nw an v b g ++ rnW (xa 8) v_94) H locs := G
            refine lv_istore (lv' := [(4, .int r_94), (3, .ref (an 5)), (0, .ref h0), (1, .int 4), (2, .int (nI i_1))]) zx zb dX10_beats_57 hl (by decide) rfl (fun ls hl => ?_)
            refine lv_iload zx zb dX10_beats_59 (lv_at hl 0 rfl) ?_
            refine lv_iconst (v := (-1)) zx zb dX10_beats_61 (by decide) ?_
            refine k_cutW (PP := fun Wx => ∀ (x_96 : Int32) (H : Heap) (locs : List Loc) (ls : Array Slot), (x_96 ≤ 60) → wd X (va_A (xW h0 nw sp xa la lb ++ rcW X nw an v b g ++ rnW (xa 8) vg ++ [((xa 5), .inl (X.2.1, 3, .inl fr))]) sz) (va_A (xW h0 nw sp xa la lb ++ rcW X nw an v b g ++ rnW (xa 8) vg ++ [((xa 5), .inl (X.2.1, 3, .inl fr))]) sz) s ([((xa 5), .inl (X.2.1, 3, .inl fr))] ++ xW h0 nw sp xa la lb ++ rcW X nw an v b g ++ rnW (xa 8) v_94) H locs → lv_has ls 7 [(4, .int r_94), (3, .ref (an 5)), (0, .ref h0), (1, .int 4), (2, .int (nI i_1))] → Wx (F0 m 74 ls [.int x_96]) H locs) ?_ ?_
            · intro join_62
              refine lv_icmp_ne (tgt := 70) zx zb dX10_beats_62 (by decide) (fun c_95 => ?_) (fun c_95 => ?_)
              · refine lv_iload zx zb dX10_beats_70 (lv_at hl 0 rfl) ?_
                refine lv_iconst (v := 1) zx zb dX10_beats_72 (by decide) ?_
                refine r_isub (v := (r_94 - 1)) S rfl dX10_beats_73 ?_
                exact join_62 (r_94 - 1) _ _ _ (by first | assumption | decide | exact k_m60 (by assumption)) G hl
              · refine lv_bipush (v := 60) zx zb dX10_beats_65 (by decide) ?_
                refine lv_goto (tgt := 74) zx zb dX10_beats_67 (by decide) ?_
                exact join_62 60 _ _ _ (by first | assumption | decide | exact k_m60 (by assumption)) G hl
            · intro x_96 H locs ls hk_x_96 G hl
              refine lv_istore (lv' := [(5, .int x_96), (4, .int r_94), (3, .ref (an 5)), (0, .ref h0), (1, .int 4), (2, .int (nI i_1))]) zx zb dX10_beats_74 hl (by decide) rfl (fun ls hl => ?_)
              refine lv_iconst (v := 0) zx zb dX10_beats_76 (by decide) ?_
              refine lv_istore (lv' := [(6, .int 0), (5, .int x_96), (4, .int r_94), (3, .ref (an 5)), (0, .ref h0), (1, .int 4), (2, .int (nI i_1))]) zx zb dX10_beats_77 hl (by decide) rfl (fun ls hl => ?_)
              refine k_loop (P := ∀ (zm : Nat) (k79 : Nat) (v79_3 : Nat → Int32) (H : Heap) (locs : List Loc) (ls : Array Slot), 31 + 1 ≤ k79 + zm → (k79 ≤ 31) → wd X (va_A (xW h0 nw sp xa la lb ++ rcW X nw an v b g ++ rnW (xa 8) vg ++ [((xa 5), .inl (X.2.1, 3, .inl fr))]) sz) (va_A (xW h0 nw sp xa la lb ++ rcW X nw an v b g ++ rnW (xa 8) vg ++ [((xa 5), .inl (X.2.1, 3, .inl fr))]) sz) s ([((xa 5), .inl (X.2.1, 3, .inl fr))] ++ xW h0 nw sp xa la lb ++ rcW X nw an v b g ++ rnW (xa 8) v79_3) H locs → lv_has ls 7 [(6, .int (nI k79)), (5, .int x_96), (4, .int r_94), (3, .ref (an 5)), (0, .ref h0), (1, .int 4), (2, .int (nI i_1))] → W p l e _ s m _ below meth c H locs _ _ _ (F0 m 79 ls [])) (fun loop => loop (31 + 1) 0 v_94 _ _ _ (by omega) (by omega) G hl) ?_
              intro zm
              induction zm with
              | zero => intro k79 v79_3 H locs ls zz q_hk_k79 _ _; exact absurd zz (by omega)
              | succ zm ih79 =>
                intro k79 v79_3 H locs ls zm_79 hk_k79 G hl
                refine lv_iload zx zb dX10_beats_79 (lv_at hl 0 rfl) ?_
                refine lv_bipush (v := 30) zx zb dX10_beats_81 (by decide) ?_
                refine lv_icmp_gt (tgt := 161) zx zb dX10_beats_83 (by decide) (fun c_97 => ?_) (fun c_97 => ?_)
                · have fc_97 := j_lt (a := 30) (b := k79) (by omega) (by omega) c_97
                  refine lv_iconst (v := (-1)) zx zb dX10_beats_161 (by decide) ?_
                  exact e_int S zr zlk (vp_nar_int _) G (v79_3, fr) [1, 2, 3, 4, 5, 6, 7, 8, 9, 10, 11, 12, 13, 14, 15, 16, 17, 18, 0] rfl rfl (Or.inr rfl) (trivial) dX10_beats_162
                · have fc_97 := j_nlt (a := 30) (b := k79) (by omega) (by omega) c_97
                  refine lv_aload_n zx zb dX10_beats_86 rfl (lv_at hl 3 rfl) ?_
                  refine r_get (C := RX8) (T := TX8) (N := 8) (ci := 6) (v := .int (v 46)) S in_X10_beats_X8 G 8 rfl rfl 4 (by decide) lk_X10_beats_137 rfl dX10_beats_87 ?_
                  refine lv_iload zx zb dX10_beats_90 (lv_at hl 0 rfl) ?_
                  refine r_iadd (v := ((v 46) + (nI k79))) S rfl dX10_beats_92 ?_
                  refine lv_aload_n zx zb dX10_beats_93 rfl (lv_at hl 4 rfl) ?_
                  refine r_get (C := RX10) (T := TX10) (N := 14) (ci := 8) (v := .ref nw) S in_X10_beats_X10 G 1 rfl rfl 0 (by decide) lk_X10_beats_10 rfl dX10_beats_94 ?_
                  refine r_get (C := RX5) (T := TX5) (N := 8) (ci := 3) (v := .int (v 0)) S in_X10_beats_X5 G 2 rfl rfl 0 (by decide) lk_X10_beats_140 rfl dX10_beats_97 ?_
                  refine lv_icmp_ge (tgt := 161) zx zb dX10_beats_100 (by decide) (fun c_98 => ?_) (fun c_98 => ?_)
                  · refine lv_iconst (v := (-1)) zx zb dX10_beats_161 (by decide) ?_
                    exact e_int S zr zlk (vp_nar_int _) G (v79_3, fr) [1, 2, 3, 4, 5, 6, 7, 8, 9, 10, 11, 12, 13, 14, 15, 16, 17, 18, 0] rfl rfl (Or.inr rfl) (trivial) dX10_beats_162
                  · refine lv_aload_n zx zb dX10_beats_103 rfl (lv_at hl 4 rfl) ?_
                    refine r_get (C := RX10) (T := TX10) (N := 14) (ci := 8) (v := .ref (xa 8)) S in_X10_beats_X10 G 1 rfl rfl 8 (by decide) lk_X10_beats_48 rfl dX10_beats_104 ?_
                    refine lv_aload_n zx zb dX10_beats_107 rfl (lv_at hl 3 rfl) ?_
                    refine b_wv (cells' := 0) (slots' := 0) (wr := [((xa 5), .inl (X.2.1, 3, .inl fr))] ++ xW h0 nw sp xa la lb ++ [(nw, .inr (3, [.int (v 0), .int (v 1), .int (nI (b 0)), .ref (an 0), .ref (an 7), .ref (an 9), .ref (an 11), .ref (an 13)])), ((an 0), .inl (X.2.2.2.2, 6, .inr (.inr (.inr (.inr (rowQ an)))))), ((an 1), .inr (6, [.int (v 10), .int (v 11), .int (v 12), .int (v 13), .int (v 14), .int (v 15), .int (v 16), .int (v 17)])), ((an 2), .inr (6, [.int (v 18), .int (v 19), .int (v 20), .int (v 21), .int (v 22), .int (v 23), .int (v 24), .int (v 25)])), ((an 3), .inr (6, [.int (v 26), .int (v 27), .int (v 28), .int (v 29), .int (v 30), .int (v 31), .int (v 32), .int (v 33)])), ((an 4), .inr (6, [.int (v 34), .int (v 35), .int (v 36), .int (v 37), .int (v 38), .int (v 39), .int (v 40), .int (v 41)])), ((an 6), .inr (6, [.int (v 50), .int (v 51), .int (v 52), .int (v 53), .int (v 54), .int (v 55), .int (v 56), .int (v 57)])), ((an 7), .inr (2, [.ref (an 8), .int (nI (b 1))])), ((an 8), .inl (X.2.1, 248, .inl (g 0))), ((an 9), .inr (5, [.int 5, .int 0, .int 1, .ref (an 10), .int (nI (b 2))])), ((an 10), .inl (X.2.1, 25, .inl (g 1))), ((an 11), .inr (5, [.int 6, .int 1, .int 1, .ref (an 12), .int (nI (b 3))])), ((an 12), .inl (X.2.1, 30, .inl (g 2))), ((an 13), .inr (5, [.int 6, .int 0, .int 0, .ref (an 14), .int (nI (b 4))])), ((an 14), .inl (X.2.1, 30, .inl (g 3)))]) G rfl rfl [18, 8] [0, 1, 2, 3, 4, 5, 6, 7, 9, 10, 11, 12, 13, 14, 15, 16, 17] rfl rfl rfl rfl (n_V (As := [.ref (an 5)]) (rest := []) (C := RX8) (T := TX8) (N := 8) (ci := 6) S G (s_rcopy l X (xa 8) v79_3 (an 5) (fun k => v (42 + k)) H.size) gX10_beats_X8_copyFrom rfl rfl rfl hdV_X8_copyFrom ⟨Nat.le_of_ble_eq_true rfl, Nat.le_of_ble_eq_true rfl⟩ [18, 8] rfl rfl 18 rfl rfl rfl hl.1 (Nat.le_of_ble_eq_true rfl) dX10_beats_108 ⟨Nat.le_of_ble_eq_true rfl, Nat.le_of_ble_eq_true rfl⟩) (fun u_99 H locs hp_99 G => ?_)
                    obtain ⟨v_99, rfl⟩ : ∃ z, z = u_99 := ⟨_, rfl⟩
                    have hq_99 := hp_99
                    have G : wd X (va_A (xW h0 nw sp xa la lb ++ rcW X nw an v b g ++ rnW (xa 8) vg ++ [((xa 5), .inl (X.2.1, 3, .inl fr))]) sz) (va_A (xW h0 nw sp xa la lb ++ rcW X nw an v b g ++ rnW (xa 8) vg ++ [((xa 5), .inl (X.2.1, 3, .inl fr))]) sz) s ([((xa 5), .inl (X.2.1, 3, .inl fr))] ++ xW h0 nw sp xa la lb ++ rcW X nw an v b g ++ rnW (xa 8) v_99) H locs := wd_sub G [0, 1, 2, 3, 4, 5, 6, 7, 18, 8, 9, 10, 11, 12, 13, 14, 15, 16, 17] rfl rfl
                    refine lv_aload_n zx zb dX10_beats_111 rfl (lv_at hl 4 rfl) ?_
                    refine r_get (C := RX10) (T := TX10) (N := 14) (ci := 8) (v := .ref (xa 8)) S in_X10_beats_X10 G 1 rfl rfl 8 (by decide) lk_X10_beats_48 rfl dX10_beats_112 ?_
                    refine lv_dup zx zb dX10_beats_115 rfl ?_
                    refine r_get (C := RX8) (T := TX8) (N := 8) (ci := 6) (v := .int (v_99 4)) S in_X10_beats_X8 G 18 rfl rfl 4 (by decide) lk_X10_beats_137 rfl dX10_beats_116 ?_
                    refine lv_iload zx zb dX10_beats_119 (lv_at hl 0 rfl) ?_
                    refine r_iadd (v := ((v_99 4) + (nI k79))) S rfl dX10_beats_121 ?_
                    refine r_put (C := RX8) (T := TX8) (N := 8) (ci := 6) (v := .int ((v_99 4) + (nI k79))) S in_X10_beats_X8 tyX8_ok nmX8 G 18 rfl rfl 4 (by decide) lk_X10_beats_137 rfl (vp_nar_int _) rfl (Nat.le_of_ble_eq_true rfl) dX10_beats_122 (fun H locs G => ?_)
                    obtain ⟨v_100, G⟩ : ∃ v_100 : Nat → Int32, wd X (va_A (xW h0 nw sp xa la lb ++ rcW X nw an v b g ++ rnW (xa 8) vg ++ [((xa 5), .inl (X.2.1, 3, .inl fr))]) sz) (va_A (xW h0 nw sp xa la lb ++ rcW X nw an v b g ++ rnW (xa 8) vg ++ [((xa 5), .inl (X.2.1, 3, .inl fr))]) sz) s ([((xa 5), .inl (X.2.1, 3, .inl fr))] ++ xW h0 nw sp xa la lb ++ rcW X nw an v b g ++ rnW (xa 8) v_100) H locs := ⟨upd v_99 4 ((v_99 4) + (nI k79)), G⟩
                    refine lv_aload_n zx zb dX10_beats_125 rfl (lv_at hl 4 rfl) ?_
                    refine r_get (C := RX10) (T := TX10) (N := 14) (ci := 8) (v := .ref (xa 8)) S in_X10_beats_X10 G 1 rfl rfl 8 (by decide) lk_X10_beats_48 rfl dX10_beats_126 ?_
                    refine lv_aload_n zx zb dX10_beats_129 rfl (lv_at hl 4 rfl) ?_
                    refine r_get (C := RX10) (T := TX10) (N := 14) (ci := 8) (v := .ref nw) S in_X10_beats_X10 G 1 rfl rfl 0 (by decide) lk_X10_beats_10 rfl dX10_beats_130 ?_
                    refine r_get (C := RX5) (T := TX5) (N := 8) (ci := 3) (v := .int (v 1)) S in_X10_beats_X5 G 2 rfl rfl 1 (by decide) lk_X10_beats_110 rfl dX10_beats_133 ?_
                    refine lv_aload_n zx zb dX10_beats_136 rfl (lv_at hl 4 rfl) ?_
                    refine r_get (C := RX10) (T := TX10) (N := 14) (ci := 8) (v := .ref nw) S in_X10_beats_X10 G 1 rfl rfl 0 (by decide) lk_X10_beats_10 rfl dX10_beats_137 ?_
                    refine r_get (C := RX5) (T := TX5) (N := 8) (ci := 3) (v := .int (v 0)) S in_X10_beats_X5 G 2 rfl rfl 0 (by decide) lk_X10_beats_140 rfl dX10_beats_140 ?_
                    refine lv_iload zx zb dX10_beats_143 (lv_at hl 1 rfl) ?_
                    refine b_wi (cells' := 0) (slots' := 0) (wr := [((xa 5), .inl (X.2.1, 3, .inl fr))] ++ xW h0 nw sp xa la lb ++ rcW X nw an v b g) G rfl rfl [18] [0, 1, 2, 3, 4, 5, 6, 7, 8, 9, 10, 11, 12, 13, 14, 15, 16, 17] rfl rfl rfl rfl (n_V (As := [.int (v 1), .int (v 0), .int x_96]) (rest := []) (C := RX8) (T := TX8) (N := 8) (ci := 6) S G (s_ticksToHome l X (xa 8) v_100 (v 1) (v 0) x_96 (by first | decide | assumption | exact k_60a (by assumption)) H.size) gX10_beats_X8_ticksToHome rfl rfl rfl hdV_X8_ticksToHome ⟨Nat.le_of_ble_eq_true rfl, Nat.le_of_ble_eq_true rfl⟩ [18] rfl rfl 18 rfl rfl rfl hl.1 (Nat.le_of_ble_eq_true rfl) dX10_beats_145 ⟨Nat.le_of_ble_eq_true rfl, Nat.le_of_ble_eq_true rfl⟩) (fun r_101 u_101 H locs hp_101 G => ?_)
                    obtain ⟨v_101, rfl⟩ : ∃ z, z = u_101 := ⟨_, rfl⟩
                    have hq_101 := hp_101
                    obtain ⟨hq_101, hs_101⟩ := hq_101
                    have G : wd X (va_A (xW h0 nw sp xa la lb ++ rcW X nw an v b g ++ rnW (xa 8) vg ++ [((xa 5), .inl (X.2.1, 3, .inl fr))]) sz) (va_A (xW h0 nw sp xa la lb ++ rcW X nw an v b g ++ rnW (xa 8) vg ++ [((xa 5), .inl (X.2.1, 3, .inl fr))]) sz) s ([((xa 5), .inl (X.2.1, 3, .inl fr))] ++ xW h0 nw sp xa la lb ++ rcW X nw an v b g ++ rnW (xa 8) v_101) H locs := G
                    refine lv_iconst (v := (-1)) zx zb dX10_beats_148 (by decide) ?_
                    refine lv_icmp_eq (tgt := 155) zx zb dX10_beats_149 (by decide) (fun c_102 => ?_) (fun c_102 => ?_)
                    · refine lv_iinc (v := (nI (k79 + 1))) (lv' := [(6, .int (nI (k79 + 1))), (5, .int x_96), (4, .int r_94), (3, .ref (an 5)), (0, .ref h0), (1, .int 4), (2, .int (nI i_1))]) zx zb dX10_beats_155 hl (k := 0) rfl (nI_add k79 1) (by decide) rfl (fun ls hl => ?_)
                      refine lv_goto (tgt := 79) zx zb dX10_beats_158 (by decide) ?_
                      exact ih79 (k79 + 1) v_101 _ _ _ (by omega) (by omega) G hl
                    · refine lv_iload zx zb dX10_beats_152 (lv_at hl 0 rfl) ?_
                      exact e_int S zr zlk (vp_nar_int _) G (v_101, fr) [1, 2, 3, 4, 5, 6, 7, 8, 9, 10, 11, 12, 13, 14, 15, 16, 17, 18, 0] rfl rfl (Or.inr rfl) (trivial) dX10_beats_154
          · refine lv_iconst (v := (-1)) zx zb dX10_beats_48 (by decide) ?_
            exact e_int S zr zlk (vp_nar_int _) G (vg, fr) [0, 1, 2, 3, 4, 5, 6, 7, 8, 9, 10, 11, 12, 13, 14, 15, 16, 17, 18] rfl rfl (Or.inr rfl) (trivial) dX10_beats_49
    · refine k_it (v := 5) rfl ?_
      refine r_aald (C := RX8) (b := (an 6)) S G 2 3 rfl rfl (k_vp (by decide)) rfl dX10_beats_24 ?_
      refine lv_astore_n (lv' := [(3, .ref (an 6)), (0, .ref h0), (1, .int 5), (2, .int (nI i_1))]) zx zb dX10_beats_25 rfl hl (by decide) rfl (fun ls hl => ?_)
      refine lv_aload_n zx zb dX10_beats_26 rfl (lv_at hl 0 rfl) ?_
      refine o_ri (cells' := 0) (slots' := 0) G rfl rfl (n_V (As := []) (rest := []) (C := RX8) (T := TX8) (N := 8) (ci := 6) S G (s_isHome l X (an 6) (fun k => v (50 + k)) H.size) gX10_beats_X8_isHome rfl rfl rfl hdV_X8_isHome ⟨Nat.le_of_ble_eq_true rfl, Nat.le_of_ble_eq_true rfl⟩ [8] rfl rfl 8 rfl rfl rfl hl.1 (Nat.le_of_ble_eq_true rfl) dX10_beats_27 ⟨Nat.le_of_ble_eq_true rfl, Nat.le_of_ble_eq_true rfl⟩) (fun r_103 u_103 H locs hp_103 G => ?_)
      have G : wd X (va_A (xW h0 nw sp xa la lb ++ rcW X nw an v b g ++ rnW (xa 8) vg ++ [((xa 5), .inl (X.2.1, 3, .inl fr))]) sz) (va_A (xW h0 nw sp xa la lb ++ rcW X nw an v b g ++ rnW (xa 8) vg ++ [((xa 5), .inl (X.2.1, 3, .inl fr))]) sz) s (xW h0 nw sp xa la lb ++ rcW X nw an v b g ++ rnW (xa 8) vg ++ [((xa 5), .inl (X.2.1, 3, .inl fr))]) H locs := G
      refine lv_if_ne (tgt := 48) zx zb dX10_beats_30 (by decide) (fun c_104 => ?_) (fun c_104 => ?_)
      · refine lv_iconst (v := (-1)) zx zb dX10_beats_48 (by decide) ?_
        exact e_int S zr zlk (vp_nar_int _) G (vg, fr) [0, 1, 2, 3, 4, 5, 6, 7, 8, 9, 10, 11, 12, 13, 14, 15, 16, 17, 18] rfl rfl (Or.inr rfl) (trivial) dX10_beats_49
      · refine lv_aload_n zx zb dX10_beats_33 rfl (lv_at hl 1 rfl) ?_
        refine r_get (C := RX10) (T := TX10) (N := 14) (ci := 8) (v := .ref nw) S in_X10_beats_X10 G 0 rfl rfl 0 (by decide) lk_X10_beats_10 rfl dX10_beats_34 ?_
        refine r_get (C := RX5) (T := TX5) (N := 8) (ci := 3) (v := .ref (an 0)) S in_X10_beats_X5 G 1 rfl rfl 3 (by decide) lk_X10_beats_126 rfl dX10_beats_37 ?_
        refine lv_iload_n zx zb dX10_beats_40 rfl (lv_at hl 3 rfl) ?_
        refine k_cutW (PP := fun Wx => ∀ (x_105 : Int32) (H : Heap) (locs : List Loc) (ls : Array Slot), wd X (va_A (xW h0 nw sp xa la lb ++ rcW X nw an v b g ++ rnW (xa 8) vg ++ [((xa 5), .inl (X.2.1, 3, .inl fr))]) sz) (va_A (xW h0 nw sp xa la lb ++ rcW X nw an v b g ++ rnW (xa 8) vg ++ [((xa 5), .inl (X.2.1, 3, .inl fr))]) sz) s (xW h0 nw sp xa la lb ++ rcW X nw an v b g ++ rnW (xa 8) vg ++ [((xa 5), .inl (X.2.1, 3, .inl fr))]) H locs → lv_has ls 7 [(3, .ref (an 6)), (0, .ref h0), (1, .int 5), (2, .int (nI i_1))] → Wx (F0 m 45 ls [.int x_105]) H locs) ?_ ?_
        · intro join_41
          rcases k_6c (show i_1 < 6 by omega) with q_106 | q_106 | q_106 | q_106 | q_106 | q_106
          · refine k_it (v := 0) (by rw [q_106]; rfl) ?_
            refine r_aald (C := RX8) (b := (an 1)) S G 2 3 rfl rfl (k_vp (by decide)) rfl dX10_beats_41 ?_
            refine o_ri (cells' := 0) (slots' := 0) G rfl rfl (n_V (As := []) (rest := []) (C := RX8) (T := TX8) (N := 8) (ci := 6) S G (s_isHome l X (an 1) (fun k => v (10 + k)) H.size) gX10_beats_X8_isHome rfl rfl rfl hdV_X8_isHome ⟨Nat.le_of_ble_eq_true rfl, Nat.le_of_ble_eq_true rfl⟩ [3] rfl rfl 3 rfl rfl rfl hl.1 (Nat.le_of_ble_eq_true rfl) dX10_beats_42 ⟨Nat.le_of_ble_eq_true rfl, Nat.le_of_ble_eq_true rfl⟩) (fun r_107 u_107 H locs hp_107 G => ?_)
            have G : wd X (va_A (xW h0 nw sp xa la lb ++ rcW X nw an v b g ++ rnW (xa 8) vg ++ [((xa 5), .inl (X.2.1, 3, .inl fr))]) sz) (va_A (xW h0 nw sp xa la lb ++ rcW X nw an v b g ++ rnW (xa 8) vg ++ [((xa 5), .inl (X.2.1, 3, .inl fr))]) sz) s (xW h0 nw sp xa la lb ++ rcW X nw an v b g ++ rnW (xa 8) vg ++ [((xa 5), .inl (X.2.1, 3, .inl fr))]) H locs := G
            exact join_41 r_107 _ _ _  G hl
          · refine k_it (v := 1) (by rw [q_106]; rfl) ?_
            refine r_aald (C := RX8) (b := (an 2)) S G 2 3 rfl rfl (k_vp (by decide)) rfl dX10_beats_41 ?_
            refine o_ri (cells' := 0) (slots' := 0) G rfl rfl (n_V (As := []) (rest := []) (C := RX8) (T := TX8) (N := 8) (ci := 6) S G (s_isHome l X (an 2) (fun k => v (18 + k)) H.size) gX10_beats_X8_isHome rfl rfl rfl hdV_X8_isHome ⟨Nat.le_of_ble_eq_true rfl, Nat.le_of_ble_eq_true rfl⟩ [4] rfl rfl 4 rfl rfl rfl hl.1 (Nat.le_of_ble_eq_true rfl) dX10_beats_42 ⟨Nat.le_of_ble_eq_true rfl, Nat.le_of_ble_eq_true rfl⟩) (fun r_108 u_108 H locs hp_108 G => ?_)
            have G : wd X (va_A (xW h0 nw sp xa la lb ++ rcW X nw an v b g ++ rnW (xa 8) vg ++ [((xa 5), .inl (X.2.1, 3, .inl fr))]) sz) (va_A (xW h0 nw sp xa la lb ++ rcW X nw an v b g ++ rnW (xa 8) vg ++ [((xa 5), .inl (X.2.1, 3, .inl fr))]) sz) s (xW h0 nw sp xa la lb ++ rcW X nw an v b g ++ rnW (xa 8) vg ++ [((xa 5), .inl (X.2.1, 3, .inl fr))]) H locs := G
            exact join_41 r_108 _ _ _  G hl
          · refine k_it (v := 2) (by rw [q_106]; rfl) ?_
            refine r_aald (C := RX8) (b := (an 3)) S G 2 3 rfl rfl (k_vp (by decide)) rfl dX10_beats_41 ?_
            refine o_ri (cells' := 0) (slots' := 0) G rfl rfl (n_V (As := []) (rest := []) (C := RX8) (T := TX8) (N := 8) (ci := 6) S G (s_isHome l X (an 3) (fun k => v (26 + k)) H.size) gX10_beats_X8_isHome rfl rfl rfl hdV_X8_isHome ⟨Nat.le_of_ble_eq_true rfl, Nat.le_of_ble_eq_true rfl⟩ [5] rfl rfl 5 rfl rfl rfl hl.1 (Nat.le_of_ble_eq_true rfl) dX10_beats_42 ⟨Nat.le_of_ble_eq_true rfl, Nat.le_of_ble_eq_true rfl⟩) (fun r_109 u_109 H locs hp_109 G => ?_)
            have G : wd X (va_A (xW h0 nw sp xa la lb ++ rcW X nw an v b g ++ rnW (xa 8) vg ++ [((xa 5), .inl (X.2.1, 3, .inl fr))]) sz) (va_A (xW h0 nw sp xa la lb ++ rcW X nw an v b g ++ rnW (xa 8) vg ++ [((xa 5), .inl (X.2.1, 3, .inl fr))]) sz) s (xW h0 nw sp xa la lb ++ rcW X nw an v b g ++ rnW (xa 8) vg ++ [((xa 5), .inl (X.2.1, 3, .inl fr))]) H locs := G
            exact join_41 r_109 _ _ _  G hl
          · refine k_it (v := 3) (by rw [q_106]; rfl) ?_
            refine r_aald (C := RX8) (b := (an 4)) S G 2 3 rfl rfl (k_vp (by decide)) rfl dX10_beats_41 ?_
            refine o_ri (cells' := 0) (slots' := 0) G rfl rfl (n_V (As := []) (rest := []) (C := RX8) (T := TX8) (N := 8) (ci := 6) S G (s_isHome l X (an 4) (fun k => v (34 + k)) H.size) gX10_beats_X8_isHome rfl rfl rfl hdV_X8_isHome ⟨Nat.le_of_ble_eq_true rfl, Nat.le_of_ble_eq_true rfl⟩ [6] rfl rfl 6 rfl rfl rfl hl.1 (Nat.le_of_ble_eq_true rfl) dX10_beats_42 ⟨Nat.le_of_ble_eq_true rfl, Nat.le_of_ble_eq_true rfl⟩) (fun r_110 u_110 H locs hp_110 G => ?_)
            have G : wd X (va_A (xW h0 nw sp xa la lb ++ rcW X nw an v b g ++ rnW (xa 8) vg ++ [((xa 5), .inl (X.2.1, 3, .inl fr))]) sz) (va_A (xW h0 nw sp xa la lb ++ rcW X nw an v b g ++ rnW (xa 8) vg ++ [((xa 5), .inl (X.2.1, 3, .inl fr))]) sz) s (xW h0 nw sp xa la lb ++ rcW X nw an v b g ++ rnW (xa 8) vg ++ [((xa 5), .inl (X.2.1, 3, .inl fr))]) H locs := G
            exact join_41 r_110 _ _ _  G hl
          · refine k_it (v := 4) (by rw [q_106]; rfl) ?_
            refine r_aald (C := RX8) (b := (an 5)) S G 2 3 rfl rfl (k_vp (by decide)) rfl dX10_beats_41 ?_
            refine o_ri (cells' := 0) (slots' := 0) G rfl rfl (n_V (As := []) (rest := []) (C := RX8) (T := TX8) (N := 8) (ci := 6) S G (s_isHome l X (an 5) (fun k => v (42 + k)) H.size) gX10_beats_X8_isHome rfl rfl rfl hdV_X8_isHome ⟨Nat.le_of_ble_eq_true rfl, Nat.le_of_ble_eq_true rfl⟩ [7] rfl rfl 7 rfl rfl rfl hl.1 (Nat.le_of_ble_eq_true rfl) dX10_beats_42 ⟨Nat.le_of_ble_eq_true rfl, Nat.le_of_ble_eq_true rfl⟩) (fun r_111 u_111 H locs hp_111 G => ?_)
            have G : wd X (va_A (xW h0 nw sp xa la lb ++ rcW X nw an v b g ++ rnW (xa 8) vg ++ [((xa 5), .inl (X.2.1, 3, .inl fr))]) sz) (va_A (xW h0 nw sp xa la lb ++ rcW X nw an v b g ++ rnW (xa 8) vg ++ [((xa 5), .inl (X.2.1, 3, .inl fr))]) sz) s (xW h0 nw sp xa la lb ++ rcW X nw an v b g ++ rnW (xa 8) vg ++ [((xa 5), .inl (X.2.1, 3, .inl fr))]) H locs := G
            exact join_41 r_111 _ _ _  G hl
          · refine k_it (v := 5) (by rw [q_106]; rfl) ?_
            refine r_aald (C := RX8) (b := (an 6)) S G 2 3 rfl rfl (k_vp (by decide)) rfl dX10_beats_41 ?_
            refine o_ri (cells' := 0) (slots' := 0) G rfl rfl (n_V (As := []) (rest := []) (C := RX8) (T := TX8) (N := 8) (ci := 6) S G (s_isHome l X (an 6) (fun k => v (50 + k)) H.size) gX10_beats_X8_isHome rfl rfl rfl hdV_X8_isHome ⟨Nat.le_of_ble_eq_true rfl, Nat.le_of_ble_eq_true rfl⟩ [8] rfl rfl 8 rfl rfl rfl hl.1 (Nat.le_of_ble_eq_true rfl) dX10_beats_42 ⟨Nat.le_of_ble_eq_true rfl, Nat.le_of_ble_eq_true rfl⟩) (fun r_112 u_112 H locs hp_112 G => ?_)
            have G : wd X (va_A (xW h0 nw sp xa la lb ++ rcW X nw an v b g ++ rnW (xa 8) vg ++ [((xa 5), .inl (X.2.1, 3, .inl fr))]) sz) (va_A (xW h0 nw sp xa la lb ++ rcW X nw an v b g ++ rnW (xa 8) vg ++ [((xa 5), .inl (X.2.1, 3, .inl fr))]) sz) s (xW h0 nw sp xa la lb ++ rcW X nw an v b g ++ rnW (xa 8) vg ++ [((xa 5), .inl (X.2.1, 3, .inl fr))]) H locs := G
            exact join_41 r_112 _ _ _  G hl
        · intro x_105 H locs ls  G hl
          refine lv_if_eq (tgt := 50) zx zb dX10_beats_45 (by decide) (fun c_113 => ?_) (fun c_113 => ?_)
          · refine lv_aload_n zx zb dX10_beats_50 rfl (lv_at hl 1 rfl) ?_
            refine lv_iload_n zx zb dX10_beats_51 rfl (lv_at hl 3 rfl) ?_
            refine lv_bipush (v := 60) zx zb dX10_beats_52 (by decide) ?_
            refine b_wi (cells' := 0) (slots' := 0) (wr := [((xa 5), .inl (X.2.1, 3, .inl fr))]) G rfl rfl [0, 1, 2, 3, 4, 5, 6, 7, 8, 9, 10, 11, 12, 13, 14, 15, 16, 17] [18] rfl rfl rfl rfl (n_V (As := [.int (nI i_1), .int 60]) (rest := []) (C := RX10) (T := TX10) (N := 14) (ci := 8) S G (s_homeBehind l X h0 nw sp xa la lb an v b g vg i_1 60 hI_b (by omega) (by first | decide | assumption | exact k_60a (by assumption)) H.size) gX10_beats_X10_homeBehind rfl rfl rfl hdV_X10_homeBehind ⟨Nat.le_of_ble_eq_true rfl, Nat.le_of_ble_eq_true rfl⟩ [0, 1, 2, 3, 4, 5, 6, 7, 8, 9, 10, 11, 12, 13, 14, 15, 16, 17] rfl rfl 0 rfl rfl rfl hl.1 (Nat.le_of_ble_eq_true rfl) dX10_beats_54 ⟨Nat.le_of_ble_eq_true rfl, Nat.le_of_ble_eq_true rfl⟩) (fun r_114 u_114 H locs hp_114 G => ?_)
            obtain ⟨v_114, rfl⟩ : ∃ z, z = u_114 := ⟨_, rfl⟩
            have hq_114 := hp_114
            have G : wd X (va_A (xW h0 nw sp xa la lb ++ rcW X nw an v b g ++ rnW (xa 8) vg ++ [((xa 5), .inl (X.2.1, 3, .inl fr))]) sz) (va_A (xW h0 nw sp xa la lb ++ rcW X nw an v b g ++ rnW (xa 8) vg ++ [((xa 5), .inl (X.2.1, 3, .inl fr))]) sz) s ([((xa 5), .inl (X.2.1, 3, .inl fr))] ++ xW h0 nw sp xa la lb ++ rcW X nw an v b g ++ rnW (xa 8) v_114) H locs := G
            refine lv_istore (lv' := [(4, .int r_114), (3, .ref (an 6)), (0, .ref h0), (1, .int 5), (2, .int (nI i_1))]) zx zb dX10_beats_57 hl (by decide) rfl (fun ls hl => ?_)
            refine lv_iload zx zb dX10_beats_59 (lv_at hl 0 rfl) ?_
            refine lv_iconst (v := (-1)) zx zb dX10_beats_61 (by decide) ?_
            refine k_cutW (PP := fun Wx => ∀ (x_116 : Int32) (H : Heap) (locs : List Loc) (ls : Array Slot), (x_116 ≤ 60) → wd X (va_A (xW h0 nw sp xa la lb ++ rcW X nw an v b g ++ rnW (xa 8) vg ++ [((xa 5), .inl (X.2.1, 3, .inl fr))]) sz) (va_A (xW h0 nw sp xa la lb ++ rcW X nw an v b g ++ rnW (xa 8) vg ++ [((xa 5), .inl (X.2.1, 3, .inl fr))]) sz) s ([((xa 5), .inl (X.2.1, 3, .inl fr))] ++ xW h0 nw sp xa la lb ++ rcW X nw an v b g ++ rnW (xa 8) v_114) H locs → lv_has ls 7 [(4, .int r_114), (3, .ref (an 6)), (0, .ref h0), (1, .int 5), (2, .int (nI i_1))] → Wx (F0 m 74 ls [.int x_116]) H locs) ?_ ?_
            · intro join_62
              refine lv_icmp_ne (tgt := 70) zx zb dX10_beats_62 (by decide) (fun c_115 => ?_) (fun c_115 => ?_)
              · refine lv_iload zx zb dX10_beats_70 (lv_at hl 0 rfl) ?_
                refine lv_iconst (v := 1) zx zb dX10_beats_72 (by decide) ?_
                refine r_isub (v := (r_114 - 1)) S rfl dX10_beats_73 ?_
                exact join_62 (r_114 - 1) _ _ _ (by first | assumption | decide | exact k_m60 (by assumption)) G hl
              · refine lv_bipush (v := 60) zx zb dX10_beats_65 (by decide) ?_
                refine lv_goto (tgt := 74) zx zb dX10_beats_67 (by decide) ?_
                exact join_62 60 _ _ _ (by first | assumption | decide | exact k_m60 (by assumption)) G hl
            · intro x_116 H locs ls hk_x_116 G hl
              refine lv_istore (lv' := [(5, .int x_116), (4, .int r_114), (3, .ref (an 6)), (0, .ref h0), (1, .int 5), (2, .int (nI i_1))]) zx zb dX10_beats_74 hl (by decide) rfl (fun ls hl => ?_)
              refine lv_iconst (v := 0) zx zb dX10_beats_76 (by decide) ?_
              refine lv_istore (lv' := [(6, .int 0), (5, .int x_116), (4, .int r_114), (3, .ref (an 6)), (0, .ref h0), (1, .int 5), (2, .int (nI i_1))]) zx zb dX10_beats_77 hl (by decide) rfl (fun ls hl => ?_)
              refine k_loop (P := ∀ (zm : Nat) (k79 : Nat) (v79_3 : Nat → Int32) (H : Heap) (locs : List Loc) (ls : Array Slot), 31 + 1 ≤ k79 + zm → (k79 ≤ 31) → wd X (va_A (xW h0 nw sp xa la lb ++ rcW X nw an v b g ++ rnW (xa 8) vg ++ [((xa 5), .inl (X.2.1, 3, .inl fr))]) sz) (va_A (xW h0 nw sp xa la lb ++ rcW X nw an v b g ++ rnW (xa 8) vg ++ [((xa 5), .inl (X.2.1, 3, .inl fr))]) sz) s ([((xa 5), .inl (X.2.1, 3, .inl fr))] ++ xW h0 nw sp xa la lb ++ rcW X nw an v b g ++ rnW (xa 8) v79_3) H locs → lv_has ls 7 [(6, .int (nI k79)), (5, .int x_116), (4, .int r_114), (3, .ref (an 6)), (0, .ref h0), (1, .int 5), (2, .int (nI i_1))] → W p l e _ s m _ below meth c H locs _ _ _ (F0 m 79 ls [])) (fun loop => loop (31 + 1) 0 v_114 _ _ _ (by omega) (by omega) G hl) ?_
              intro zm
              induction zm with
              | zero => intro k79 v79_3 H locs ls zz q_hk_k79 _ _; exact absurd zz (by omega)
              | succ zm ih79 =>
                intro k79 v79_3 H locs ls zm_79 hk_k79 G hl
                refine lv_iload zx zb dX10_beats_79 (lv_at hl 0 rfl) ?_
                refine lv_bipush (v := 30) zx zb dX10_beats_81 (by decide) ?_
                refine lv_icmp_gt (tgt := 161) zx zb dX10_beats_83 (by decide) (fun c_117 => ?_) (fun c_117 => ?_)
                · have fc_117 := j_lt (a := 30) (b := k79) (by omega) (by omega) c_117
                  refine lv_iconst (v := (-1)) zx zb dX10_beats_161 (by decide) ?_
                  exact e_int S zr zlk (vp_nar_int _) G (v79_3, fr) [1, 2, 3, 4, 5, 6, 7, 8, 9, 10, 11, 12, 13, 14, 15, 16, 17, 18, 0] rfl rfl (Or.inr rfl) (trivial) dX10_beats_162
                · have fc_117 := j_nlt (a := 30) (b := k79) (by omega) (by omega) c_117
                  refine lv_aload_n zx zb dX10_beats_86 rfl (lv_at hl 3 rfl) ?_
                  refine r_get (C := RX8) (T := TX8) (N := 8) (ci := 6) (v := .int (v 54)) S in_X10_beats_X8 G 9 rfl rfl 4 (by decide) lk_X10_beats_137 rfl dX10_beats_87 ?_
                  refine lv_iload zx zb dX10_beats_90 (lv_at hl 0 rfl) ?_
                  refine r_iadd (v := ((v 54) + (nI k79))) S rfl dX10_beats_92 ?_
                  refine lv_aload_n zx zb dX10_beats_93 rfl (lv_at hl 4 rfl) ?_
                  refine r_get (C := RX10) (T := TX10) (N := 14) (ci := 8) (v := .ref nw) S in_X10_beats_X10 G 1 rfl rfl 0 (by decide) lk_X10_beats_10 rfl dX10_beats_94 ?_
                  refine r_get (C := RX5) (T := TX5) (N := 8) (ci := 3) (v := .int (v 0)) S in_X10_beats_X5 G 2 rfl rfl 0 (by decide) lk_X10_beats_140 rfl dX10_beats_97 ?_
                  refine lv_icmp_ge (tgt := 161) zx zb dX10_beats_100 (by decide) (fun c_118 => ?_) (fun c_118 => ?_)
                  · refine lv_iconst (v := (-1)) zx zb dX10_beats_161 (by decide) ?_
                    exact e_int S zr zlk (vp_nar_int _) G (v79_3, fr) [1, 2, 3, 4, 5, 6, 7, 8, 9, 10, 11, 12, 13, 14, 15, 16, 17, 18, 0] rfl rfl (Or.inr rfl) (trivial) dX10_beats_162
                  · refine lv_aload_n zx zb dX10_beats_103 rfl (lv_at hl 4 rfl) ?_
                    refine r_get (C := RX10) (T := TX10) (N := 14) (ci := 8) (v := .ref (xa 8)) S in_X10_beats_X10 G 1 rfl rfl 8 (by decide) lk_X10_beats_48 rfl dX10_beats_104 ?_
                    refine lv_aload_n zx zb dX10_beats_107 rfl (lv_at hl 3 rfl) ?_
                    refine b_wv (cells' := 0) (slots' := 0) (wr := [((xa 5), .inl (X.2.1, 3, .inl fr))] ++ xW h0 nw sp xa la lb ++ [(nw, .inr (3, [.int (v 0), .int (v 1), .int (nI (b 0)), .ref (an 0), .ref (an 7), .ref (an 9), .ref (an 11), .ref (an 13)])), ((an 0), .inl (X.2.2.2.2, 6, .inr (.inr (.inr (.inr (rowQ an)))))), ((an 1), .inr (6, [.int (v 10), .int (v 11), .int (v 12), .int (v 13), .int (v 14), .int (v 15), .int (v 16), .int (v 17)])), ((an 2), .inr (6, [.int (v 18), .int (v 19), .int (v 20), .int (v 21), .int (v 22), .int (v 23), .int (v 24), .int (v 25)])), ((an 3), .inr (6, [.int (v 26), .int (v 27), .int (v 28), .int (v 29), .int (v 30), .int (v 31), .int (v 32), .int (v 33)])), ((an 4), .inr (6, [.int (v 34), .int (v 35), .int (v 36), .int (v 37), .int (v 38), .int (v 39), .int (v 40), .int (v 41)])), ((an 5), .inr (6, [.int (v 42), .int (v 43), .int (v 44), .int (v 45), .int (v 46), .int (v 47), .int (v 48), .int (v 49)])), ((an 7), .inr (2, [.ref (an 8), .int (nI (b 1))])), ((an 8), .inl (X.2.1, 248, .inl (g 0))), ((an 9), .inr (5, [.int 5, .int 0, .int 1, .ref (an 10), .int (nI (b 2))])), ((an 10), .inl (X.2.1, 25, .inl (g 1))), ((an 11), .inr (5, [.int 6, .int 1, .int 1, .ref (an 12), .int (nI (b 3))])), ((an 12), .inl (X.2.1, 30, .inl (g 2))), ((an 13), .inr (5, [.int 6, .int 0, .int 0, .ref (an 14), .int (nI (b 4))])), ((an 14), .inl (X.2.1, 30, .inl (g 3)))]) G rfl rfl [18, 9] [0, 1, 2, 3, 4, 5, 6, 7, 8, 10, 11, 12, 13, 14, 15, 16, 17] rfl rfl rfl rfl (n_V (As := [.ref (an 6)]) (rest := []) (C := RX8) (T := TX8) (N := 8) (ci := 6) S G (s_rcopy l X (xa 8) v79_3 (an 6) (fun k => v (50 + k)) H.size) gX10_beats_X8_copyFrom rfl rfl rfl hdV_X8_copyFrom ⟨Nat.le_of_ble_eq_true rfl, Nat.le_of_ble_eq_true rfl⟩ [18, 9] rfl rfl 18 rfl rfl rfl hl.1 (Nat.le_of_ble_eq_true rfl) dX10_beats_108 ⟨Nat.le_of_ble_eq_true rfl, Nat.le_of_ble_eq_true rfl⟩) (fun u_119 H locs hp_119 G => ?_)
                    obtain ⟨v_119, rfl⟩ : ∃ z, z = u_119 := ⟨_, rfl⟩
                    have hq_119 := hp_119
                    have G : wd X (va_A (xW h0 nw sp xa la lb ++ rcW X nw an v b g ++ rnW (xa 8) vg ++ [((xa 5), .inl (X.2.1, 3, .inl fr))]) sz) (va_A (xW h0 nw sp xa la lb ++ rcW X nw an v b g ++ rnW (xa 8) vg ++ [((xa 5), .inl (X.2.1, 3, .inl fr))]) sz) s ([((xa 5), .inl (X.2.1, 3, .inl fr))] ++ xW h0 nw sp xa la lb ++ rcW X nw an v b g ++ rnW (xa 8) v_119) H locs := wd_sub G [0, 1, 2, 3, 4, 5, 6, 7, 8, 18, 9, 10, 11, 12, 13, 14, 15, 16, 17] rfl rfl
                    refine lv_aload_n zx zb dX10_beats_111 rfl (lv_at hl 4 rfl) ?_
                    refine r_get (C := RX10) (T := TX10) (N := 14) (ci := 8) (v := .ref (xa 8)) S in_X10_beats_X10 G 1 rfl rfl 8 (by decide) lk_X10_beats_48 rfl dX10_beats_112 ?_
                    refine lv_dup zx zb dX10_beats_115 rfl ?_
                    refine r_get (C := RX8) (T := TX8) (N := 8) (ci := 6) (v := .int (v_119 4)) S in_X10_beats_X8 G 18 rfl rfl 4 (by decide) lk_X10_beats_137 rfl dX10_beats_116 ?_
                    refine lv_iload zx zb dX10_beats_119 (lv_at hl 0 rfl) ?_
                    refine r_iadd (v := ((v_119 4) + (nI k79))) S rfl dX10_beats_121 ?_
                    refine r_put (C := RX8) (T := TX8) (N := 8) (ci := 6) (v := .int ((v_119 4) + (nI k79))) S in_X10_beats_X8 tyX8_ok nmX8 G 18 rfl rfl 4 (by decide) lk_X10_beats_137 rfl (vp_nar_int _) rfl (Nat.le_of_ble_eq_true rfl) dX10_beats_122 (fun H locs G => ?_)
                    obtain ⟨v_120, G⟩ : ∃ v_120 : Nat → Int32, wd X (va_A (xW h0 nw sp xa la lb ++ rcW X nw an v b g ++ rnW (xa 8) vg ++ [((xa 5), .inl (X.2.1, 3, .inl fr))]) sz) (va_A (xW h0 nw sp xa la lb ++ rcW X nw an v b g ++ rnW (xa 8) vg ++ [((xa 5), .inl (X.2.1, 3, .inl fr))]) sz) s ([((xa 5), .inl (X.2.1, 3, .inl fr))] ++ xW h0 nw sp xa la lb ++ rcW X nw an v b g ++ rnW (xa 8) v_120) H locs := ⟨upd v_119 4 ((v_119 4) + (nI k79)), G⟩
                    refine lv_aload_n zx zb dX10_beats_125 rfl (lv_at hl 4 rfl) ?_
                    refine r_get (C := RX10) (T := TX10) (N := 14) (ci := 8) (v := .ref (xa 8)) S in_X10_beats_X10 G 1 rfl rfl 8 (by decide) lk_X10_beats_48 rfl dX10_beats_126 ?_
                    refine lv_aload_n zx zb dX10_beats_129 rfl (lv_at hl 4 rfl) ?_
                    refine r_get (C := RX10) (T := TX10) (N := 14) (ci := 8) (v := .ref nw) S in_X10_beats_X10 G 1 rfl rfl 0 (by decide) lk_X10_beats_10 rfl dX10_beats_130 ?_
                    refine r_get (C := RX5) (T := TX5) (N := 8) (ci := 3) (v := .int (v 1)) S in_X10_beats_X5 G 2 rfl rfl 1 (by decide) lk_X10_beats_110 rfl dX10_beats_133 ?_
                    refine lv_aload_n zx zb dX10_beats_136 rfl (lv_at hl 4 rfl) ?_
                    refine r_get (C := RX10) (T := TX10) (N := 14) (ci := 8) (v := .ref nw) S in_X10_beats_X10 G 1 rfl rfl 0 (by decide) lk_X10_beats_10 rfl dX10_beats_137 ?_
                    refine r_get (C := RX5) (T := TX5) (N := 8) (ci := 3) (v := .int (v 0)) S in_X10_beats_X5 G 2 rfl rfl 0 (by decide) lk_X10_beats_140 rfl dX10_beats_140 ?_
                    refine lv_iload zx zb dX10_beats_143 (lv_at hl 1 rfl) ?_
                    refine b_wi (cells' := 0) (slots' := 0) (wr := [((xa 5), .inl (X.2.1, 3, .inl fr))] ++ xW h0 nw sp xa la lb ++ rcW X nw an v b g) G rfl rfl [18] [0, 1, 2, 3, 4, 5, 6, 7, 8, 9, 10, 11, 12, 13, 14, 15, 16, 17] rfl rfl rfl rfl (n_V (As := [.int (v 1), .int (v 0), .int x_116]) (rest := []) (C := RX8) (T := TX8) (N := 8) (ci := 6) S G (s_ticksToHome l X (xa 8) v_120 (v 1) (v 0) x_116 (by first | decide | assumption | exact k_60a (by assumption)) H.size) gX10_beats_X8_ticksToHome rfl rfl rfl hdV_X8_ticksToHome ⟨Nat.le_of_ble_eq_true rfl, Nat.le_of_ble_eq_true rfl⟩ [18] rfl rfl 18 rfl rfl rfl hl.1 (Nat.le_of_ble_eq_true rfl) dX10_beats_145 ⟨Nat.le_of_ble_eq_true rfl, Nat.le_of_ble_eq_true rfl⟩) (fun r_121 u_121 H locs hp_121 G => ?_)
                    obtain ⟨v_121, rfl⟩ : ∃ z, z = u_121 := ⟨_, rfl⟩
                    have hq_121 := hp_121
                    obtain ⟨hq_121, hs_121⟩ := hq_121
                    have G : wd X (va_A (xW h0 nw sp xa la lb ++ rcW X nw an v b g ++ rnW (xa 8) vg ++ [((xa 5), .inl (X.2.1, 3, .inl fr))]) sz) (va_A (xW h0 nw sp xa la lb ++ rcW X nw an v b g ++ rnW (xa 8) vg ++ [((xa 5), .inl (X.2.1, 3, .inl fr))]) sz) s ([((xa 5), .inl (X.2.1, 3, .inl fr))] ++ xW h0 nw sp xa la lb ++ rcW X nw an v b g ++ rnW (xa 8) v_121) H locs := G
                    refine lv_iconst (v := (-1)) zx zb dX10_beats_148 (by decide) ?_
                    refine lv_icmp_eq (tgt := 155) zx zb dX10_beats_149 (by decide) (fun c_122 => ?_) (fun c_122 => ?_)
                    · refine lv_iinc (v := (nI (k79 + 1))) (lv' := [(6, .int (nI (k79 + 1))), (5, .int x_116), (4, .int r_114), (3, .ref (an 6)), (0, .ref h0), (1, .int 5), (2, .int (nI i_1))]) zx zb dX10_beats_155 hl (k := 0) rfl (nI_add k79 1) (by decide) rfl (fun ls hl => ?_)
                      refine lv_goto (tgt := 79) zx zb dX10_beats_158 (by decide) ?_
                      exact ih79 (k79 + 1) v_121 _ _ _ (by omega) (by omega) G hl
                    · refine lv_iload zx zb dX10_beats_152 (lv_at hl 0 rfl) ?_
                      exact e_int S zr zlk (vp_nar_int _) G (v_121, fr) [1, 2, 3, 4, 5, 6, 7, 8, 9, 10, 11, 12, 13, 14, 15, 16, 17, 18, 0] rfl rfl (Or.inr rfl) (trivial) dX10_beats_154
          · refine lv_iconst (v := (-1)) zx zb dX10_beats_48 (by decide) ?_
            exact e_int S zr zlk (vp_nar_int _) G (vg, fr) [0, 1, 2, 3, 4, 5, 6, 7, 8, 9, 10, 11, 12, 13, 14, 15, 16, 17, 18] rfl rfl (Or.inr rfl) (trivial) dX10_beats_49
  · refine lv_if_ne (tgt := 16) zx zb dX10_beats_6 (by decide) (fun c_123 => absurd (by decide) c_123) (fun c_123 => ?_)
    refine lv_aload_n zx zb dX10_beats_9 rfl (lv_at hl 0 rfl) ?_
    refine lv_bipush (v := (-2)) zx zb dX10_beats_10 (by decide) ?_
    refine b_wi (cells' := 0) (slots' := 0) (wr := rcW X nw an v b g ++ rnW (xa 8) vg) G rfl rfl [0, 18] [1, 2, 3, 4, 5, 6, 7, 8, 9, 10, 11, 12, 13, 14, 15, 16, 17] rfl rfl rfl rfl (n_V (As := [.int (-2)]) (rest := []) (C := RX10) (T := TX10) (N := 14) (ci := 8) S G (s_refuse l X h0 nw sp xa la lb fr (-2) H.size) gX10_beats_X10_refuse rfl rfl rfl hdV_X10_refuse ⟨Nat.le_of_ble_eq_true rfl, Nat.le_of_ble_eq_true rfl⟩ [0, 18] rfl rfl 0 rfl rfl rfl hl.1 (Nat.le_of_ble_eq_true rfl) dX10_beats_12 ⟨Nat.le_of_ble_eq_true rfl, Nat.le_of_ble_eq_true rfl⟩) (fun r_124 u_124 H locs hp_124 G => ?_)
    obtain ⟨f_124, rfl⟩ : ∃ z, z = u_124 := ⟨_, rfl⟩
    have hq_124 := hp_124
    have G : wd X (va_A (xW h0 nw sp xa la lb ++ rcW X nw an v b g ++ rnW (xa 8) vg ++ [((xa 5), .inl (X.2.1, 3, .inl fr))]) sz) (va_A (xW h0 nw sp xa la lb ++ rcW X nw an v b g ++ rnW (xa 8) vg ++ [((xa 5), .inl (X.2.1, 3, .inl fr))]) sz) s (rcW X nw an v b g ++ rnW (xa 8) vg ++ xW h0 nw sp xa la lb ++ [((xa 5), .inl (X.2.1, 3, .inl f_124))]) H locs := G
    exact e_int S zr zlk (vp_nar_int _) G (vg, f_124) [17, 0, 1, 2, 3, 4, 5, 6, 7, 8, 9, 10, 11, 12, 13, 14, 15, 16, 18] rfl rfl (Or.inr rfl) (trivial) dX10_beats_15
theorem in_X10_close_X10 : ∀ w ∈ wsX100, w ∈ wsX10_close := by decide +kernel
theorem lk_X10_close_48 : Cond.fieldLink RX10 48 "EggSpoons" "ghost" "LEggSpoons$Runner;" ∈ wsX10_close := by decide +kernel
theorem lk_X10_close_10 : Cond.fieldLink RX10 10 "EggSpoons" "now" "LEggSpoons$Race;" ∈ wsX10_close := by decide +kernel
theorem in_X10_close_X5 : ∀ w ∈ wsX50, w ∈ wsX10_close := by decide +kernel
theorem lk_X10_close_126 : Cond.fieldLink RX10 126 "EggSpoons$Race" "row" "[LEggSpoons$Runner;" ∈ wsX10_close := by decide +kernel
theorem lk_X10_close_52 : Cond.fieldLink RX10 52 "EggSpoons" "rival" "LEggSpoons$Runner;" ∈ wsX10_close := by decide +kernel
theorem in_X10_close_X8 : ∀ w ∈ wsX80, w ∈ wsX10_close := by decide +kernel
theorem lk_X10_close_137 : Cond.fieldLink RX10 137 "EggSpoons$Runner" "place" "I" ∈ wsX10_close := by decide +kernel
theorem mm_X10_close_ml176 : Cond.methodLink RX10 176 Lib.Math.abs.name ∈ wsX10_close := by decide +kernel
theorem mm_X10_close_msabs : Cond.static Lib.Math.abs.name ∈ wsX10_close := by decide +kernel
theorem mm_X10_close_mi : Cond.initialized "java/lang/Math" ∈ wsX10_close := by decide +kernel
theorem mm_X10_close_mcabs : Cond.code Lib.Math.abs.name Lib.Math.abs.code 1 (some .int) ∈ wsX10_close := by decide +kernel
theorem lk_X10_close_110 : Cond.fieldLink RX10 110 "EggSpoons$Race" "tick" "I" ∈ wsX10_close := by decide +kernel
theorem lk_X10_close_140 : Cond.fieldLink RX10 140 "EggSpoons$Race" "length" "I" ∈ wsX10_close := by decide +kernel
set_option maxHeartbeats 4000000 in
set_option maxRecDepth 100000 in
/-- close -/
theorem s_close (l : Launch) (X : EX) (h0 : Nat) (nw : Nat) (sp : Nat) (xa : Nat → Nat) (la : Int64) (lb : Int64) (an : Nat → Nat) (v : Nat → Int32) (b : Nat → Nat) (g : Nat → Nat → Int32) (vg : Nat → Int32) (vr : Nat → Int32) (fr : Nat → Int32) (x1 : Int32) (x2 : Int32) (x3 : Int32) (hI_b : InR b) (sz : Nat) : Met l yX10_close wsX10_close ({ frames := 2, cells := 0, slots := 0, locals := 49 } : Room) (pE X [.ref h0, .int x1, .int x2, .int x3] (xW h0 nw sp xa la lb ++ rcW X nw an v b g ++ rnW (xa 8) vg ++ rnW (xa 9) vr ++ [((xa 5), .inl (X.2.1, 3, .inl fr))]) sz) (qI (fun (r : Int32) (u : (Nat → Int32) × (Nat → Int32) × (Nat → Int32)) => (True)) X (fun (u : (Nat → Int32) × (Nat → Int32) × (Nat → Int32)) => xW h0 nw sp xa la lb ++ rcW X nw an v b g ++ rnW (xa 8) u.1 ++ rnW (xa 9) u.2.1 ++ [((xa 5), .inl (X.2.1, 3, .inl u.2.2))]) (xW h0 nw sp xa la lb ++ rcW X nw an v b g ++ rnW (xa 8) vg ++ rnW (xa 9) vr ++ [((xa 5), .inl (X.2.1, 3, .inl fr))]) sz) 0 0 (va_A (xW h0 nw sp xa la lb ++ rcW X nw an v b g ++ rnW (xa 8) vg ++ rnW (xa 9) vr ++ [((xa 5), .inl (X.2.1, 3, .inl fr))]) sz) := by
  refine mk_met (B := (va_A (xW h0 nw sp xa la lb ++ rcW X nw an v b g ++ rnW (xa 8) vg ++ rnW (xa 9) vr ++ [((xa 5), .inl (X.2.1, 3, .inl fr))]) sz)) (A := (va_A (xW h0 nw sp xa la lb ++ rcW X nw an v b g ++ rnW (xa 8) vg ++ rnW (xa 9) vr ++ [((xa 5), .inl (X.2.1, 3, .inl fr))]) sz)) (cc := cX10_close) (maxL := 8) (ret := (some .int)) (by decide) rfl (Nat.le_of_ble_eq_true rfl) k_w k_a (fun p e s m below meth c S zr zlk znm zsz G ls hl => ?_)
  have S : CallFix p m c cX10_close 8 s _ wsX10_close RX10 := S
  have zx := S.1
  have zb := S.2.1
  have hl : lv_has ls 8 [(0, .ref h0), (1, .int x1), (2, .int x2), (3, .int x3)] := hl
  have hO_b := hI_b
  obtain ⟨hb0_b, hb1_b, hb2_b, hb3_b, hb4_b⟩ := hO_b
  refine lv_aload_n zx zb dX10_close_0 rfl (lv_at hl 0 rfl) ?_
  refine lv_iload_n zx zb dX10_close_1 rfl (lv_at hl 1 rfl) ?_
  refine lv_iload_n zx zb dX10_close_2 rfl (lv_at hl 2 rfl) ?_
  refine o_ri (cells' := 0) (slots' := 0) G rfl rfl (n_V (As := [.int x1, .int x2]) (rest := []) (C := RX10) (T := TX10) (N := 14) (ci := 8) S G (s_areTwo l X h0 nw sp xa la lb an v b g x1 x2 hI_b s.heap.size) gX10_close_X10_areTwo rfl rfl rfl hdV_X10_areTwo ⟨Nat.le_of_ble_eq_true rfl, Nat.le_of_ble_eq_true rfl⟩ [0, 1, 2, 3, 4, 5, 6, 7, 8, 9, 10, 11, 12, 13, 14, 15, 16] rfl rfl 0 rfl rfl rfl hl.1 (Nat.le_of_ble_eq_true rfl) dX10_close_3 ⟨Nat.le_of_ble_eq_true rfl, Nat.le_of_ble_eq_true rfl⟩) (fun r_1 u_1 H locs hp_1 G => ?_)
  have G : wd X (va_A (xW h0 nw sp xa la lb ++ rcW X nw an v b g ++ rnW (xa 8) vg ++ rnW (xa 9) vr ++ [((xa 5), .inl (X.2.1, 3, .inl fr))]) sz) (va_A (xW h0 nw sp xa la lb ++ rcW X nw an v b g ++ rnW (xa 8) vg ++ rnW (xa 9) vr ++ [((xa 5), .inl (X.2.1, 3, .inl fr))]) sz) s (xW h0 nw sp xa la lb ++ rcW X nw an v b g ++ rnW (xa 8) vg ++ rnW (xa 9) vr ++ [((xa 5), .inl (X.2.1, 3, .inl fr))]) H locs := G
  rcases hp_1 with ⟨rfl, hj_1, hi_1⟩ | rfl
  · obtain ⟨j_1, hj_1, rfl⟩ := hj_1
    obtain ⟨i_1, hi_1, rfl⟩ := hi_1
    refine lv_if_eq (tgt := 18) zx zb dX10_close_6 (by decide) (fun c_2 => absurd c_2 (by decide)) (fun c_2 => ?_)
    refine lv_iload_n zx zb dX10_close_9 rfl (lv_at hl 3 rfl) ?_
    refine lv_iconst (v := 0) zx zb dX10_close_10 (by decide) ?_
    refine lv_iconst (v := 1) zx zb dX10_close_11 (by decide) ?_
    refine o_ri (cells' := 0) (slots' := 0) G rfl rfl (n_S (As := [.int x3, .int 0, .int 1]) (rest := []) S G (s_within l X x3 0 1 H.size) gX10_close_X10_within rfl rfl rfl hdS_X10_within ⟨Nat.le_of_ble_eq_true rfl, Nat.le_of_ble_eq_true rfl⟩ [] rfl rfl rfl hl.1 (Nat.le_of_ble_eq_true rfl) dX10_close_12 ⟨Nat.le_of_ble_eq_true rfl, Nat.le_of_ble_eq_true rfl⟩) (fun r_3 u_3 H locs hp_3 G => ?_)
    have G : wd X (va_A (xW h0 nw sp xa la lb ++ rcW X nw an v b g ++ rnW (xa 8) vg ++ rnW (xa 9) vr ++ [((xa 5), .inl (X.2.1, 3, .inl fr))]) sz) (va_A (xW h0 nw sp xa la lb ++ rcW X nw an v b g ++ rnW (xa 8) vg ++ rnW (xa 9) vr ++ [((xa 5), .inl (X.2.1, 3, .inl fr))]) sz) s (xW h0 nw sp xa la lb ++ rcW X nw an v b g ++ rnW (xa 8) vg ++ rnW (xa 9) vr ++ [((xa 5), .inl (X.2.1, 3, .inl fr))]) H locs := G
    rcases hp_3 with ⟨rfl, hw_3⟩ | ⟨rfl, hw_3⟩
    · refine lv_if_ne (tgt := 25) zx zb dX10_close_15 (by decide) (fun c_4 => ?_) (fun c_4 => absurd c_4 (by decide))
      refine lv_aload_n zx zb dX10_close_25 rfl (lv_at hl 0 rfl) ?_
      refine r_get (C := RX10) (T := TX10) (N := 14) (ci := 8) (v := .ref (xa 8)) S in_X10_close_X10 G 0 rfl rfl 8 (by decide) lk_X10_close_48 rfl dX10_close_26 ?_
      refine lv_aload_n zx zb dX10_close_29 rfl (lv_at hl 0 rfl) ?_
      refine r_get (C := RX10) (T := TX10) (N := 14) (ci := 8) (v := .ref nw) S in_X10_close_X10 G 0 rfl rfl 0 (by decide) lk_X10_close_10 rfl dX10_close_30 ?_
      refine r_get (C := RX5) (T := TX5) (N := 8) (ci := 3) (v := .ref (an 0)) S in_X10_close_X5 G 1 rfl rfl 3 (by decide) lk_X10_close_126 rfl dX10_close_33 ?_
      refine lv_iload_n zx zb dX10_close_36 rfl (lv_at hl 1 rfl) ?_
      refine k_cutW (PP := fun Wx => ∀ (v_5 : Nat → Int32) (H : Heap) (locs : List Loc) (ls : Array Slot), wd X (va_A (xW h0 nw sp xa la lb ++ rcW X nw an v b g ++ rnW (xa 8) vg ++ rnW (xa 9) vr ++ [((xa 5), .inl (X.2.1, 3, .inl fr))]) sz) (va_A (xW h0 nw sp xa la lb ++ rcW X nw an v b g ++ rnW (xa 8) vg ++ rnW (xa 9) vr ++ [((xa 5), .inl (X.2.1, 3, .inl fr))]) sz) s (xW h0 nw sp xa la lb ++ rcW X nw an v b g ++ rnW (xa 8) v_5 ++ rnW (xa 9) vr ++ [((xa 5), .inl (X.2.1, 3, .inl fr))]) H locs → lv_has ls 8 [(0, .ref h0), (1, .int (nI j_1)), (2, .int (nI i_1)), (3, .int x3)] → Wx (F0 m 41 ls []) H locs) ?_ ?_
      · intro join_37
        rcases k_6c (show j_1 < 6 by omega) with q_6 | q_6 | q_6 | q_6 | q_6 | q_6
        · refine k_it (v := 0) (by rw [q_6]; rfl) ?_
          refine r_aald (C := RX8) (b := (an 1)) S G 2 3 rfl rfl (k_vp (by decide)) rfl dX10_close_37 ?_
          refine b_wv (cells' := 0) (slots' := 0) (wr := xW h0 nw sp xa la lb ++ [(nw, .inr (3, [.int (v 0), .int (v 1), .int (nI (b 0)), .ref (an 0), .ref (an 7), .ref (an 9), .ref (an 11), .ref (an 13)])), ((an 0), .inl (X.2.2.2.2, 6, .inr (.inr (.inr (.inr (rowQ an)))))), ((an 2), .inr (6, [.int (v 18), .int (v 19), .int (v 20), .int (v 21), .int (v 22), .int (v 23), .int (v 24), .int (v 25)])), ((an 3), .inr (6, [.int (v 26), .int (v 27), .int (v 28), .int (v 29), .int (v 30), .int (v 31), .int (v 32), .int (v 33)])), ((an 4), .inr (6, [.int (v 34), .int (v 35), .int (v 36), .int (v 37), .int (v 38), .int (v 39), .int (v 40), .int (v 41)])), ((an 5), .inr (6, [.int (v 42), .int (v 43), .int (v 44), .int (v 45), .int (v 46), .int (v 47), .int (v 48), .int (v 49)])), ((an 6), .inr (6, [.int (v 50), .int (v 51), .int (v 52), .int (v 53), .int (v 54), .int (v 55), .int (v 56), .int (v 57)])), ((an 7), .inr (2, [.ref (an 8), .int (nI (b 1))])), ((an 8), .inl (X.2.1, 248, .inl (g 0))), ((an 9), .inr (5, [.int 5, .int 0, .int 1, .ref (an 10), .int (nI (b 2))])), ((an 10), .inl (X.2.1, 25, .inl (g 1))), ((an 11), .inr (5, [.int 6, .int 1, .int 1, .ref (an 12), .int (nI (b 3))])), ((an 12), .inl (X.2.1, 30, .inl (g 2))), ((an 13), .inr (5, [.int 6, .int 0, .int 0, .ref (an 14), .int (nI (b 4))])), ((an 14), .inl (X.2.1, 30, .inl (g 3)))] ++ rnW (xa 9) vr ++ [((xa 5), .inl (X.2.1, 3, .inl fr))]) G rfl rfl [17, 3] [0, 1, 2, 4, 5, 6, 7, 8, 9, 10, 11, 12, 13, 14, 15, 16, 18, 19] rfl rfl rfl rfl (n_V (As := [.ref (an 1)]) (rest := []) (C := RX8) (T := TX8) (N := 8) (ci := 6) S G (s_rcopy l X (xa 8) vg (an 1) (fun k => v (10 + k)) H.size) gX10_close_X8_copyFrom rfl rfl rfl hdV_X8_copyFrom ⟨Nat.le_of_ble_eq_true rfl, Nat.le_of_ble_eq_true rfl⟩ [17, 3] rfl rfl 17 rfl rfl rfl hl.1 (Nat.le_of_ble_eq_true rfl) dX10_close_38 ⟨Nat.le_of_ble_eq_true rfl, Nat.le_of_ble_eq_true rfl⟩) (fun u_7 H locs hp_7 G => ?_)
          obtain ⟨v_7, rfl⟩ : ∃ z, z = u_7 := ⟨_, rfl⟩
          have hq_7 := hp_7
          have G : wd X (va_A (xW h0 nw sp xa la lb ++ rcW X nw an v b g ++ rnW (xa 8) vg ++ rnW (xa 9) vr ++ [((xa 5), .inl (X.2.1, 3, .inl fr))]) sz) (va_A (xW h0 nw sp xa la lb ++ rcW X nw an v b g ++ rnW (xa 8) vg ++ rnW (xa 9) vr ++ [((xa 5), .inl (X.2.1, 3, .inl fr))]) sz) s (xW h0 nw sp xa la lb ++ rcW X nw an v b g ++ rnW (xa 9) vr ++ [((xa 5), .inl (X.2.1, 3, .inl fr))] ++ rnW (xa 8) v_7) H locs := wd_sub G [0, 1, 2, 19, 3, 4, 5, 6, 7, 8, 9, 10, 11, 12, 13, 14, 15, 16, 17, 18] rfl rfl
          have G : wd X (va_A (xW h0 nw sp xa la lb ++ rcW X nw an v b g ++ rnW (xa 8) vg ++ rnW (xa 9) vr ++ [((xa 5), .inl (X.2.1, 3, .inl fr))]) sz) (va_A (xW h0 nw sp xa la lb ++ rcW X nw an v b g ++ rnW (xa 8) vg ++ rnW (xa 9) vr ++ [((xa 5), .inl (X.2.1, 3, .inl fr))]) sz) s (xW h0 nw sp xa la lb ++ rcW X nw an v b g ++ rnW (xa 8) v_7 ++ rnW (xa 9) vr ++ [((xa 5), .inl (X.2.1, 3, .inl fr))]) H locs := wd_sub G [0, 1, 2, 3, 4, 5, 6, 7, 8, 9, 10, 11, 12, 13, 14, 15, 16, 19, 17, 18] rfl rfl
          exact join_37 v_7 _ _ _  G hl
        · refine k_it (v := 1) (by rw [q_6]; rfl) ?_
          refine r_aald (C := RX8) (b := (an 2)) S G 2 3 rfl rfl (k_vp (by decide)) rfl dX10_close_37 ?_
          refine b_wv (cells' := 0) (slots' := 0) (wr := xW h0 nw sp xa la lb ++ [(nw, .inr (3, [.int (v 0), .int (v 1), .int (nI (b 0)), .ref (an 0), .ref (an 7), .ref (an 9), .ref (an 11), .ref (an 13)])), ((an 0), .inl (X.2.2.2.2, 6, .inr (.inr (.inr (.inr (rowQ an)))))), ((an 1), .inr (6, [.int (v 10), .int (v 11), .int (v 12), .int (v 13), .int (v 14), .int (v 15), .int (v 16), .int (v 17)])), ((an 3), .inr (6, [.int (v 26), .int (v 27), .int (v 28), .int (v 29), .int (v 30), .int (v 31), .int (v 32), .int (v 33)])), ((an 4), .inr (6, [.int (v 34), .int (v 35), .int (v 36), .int (v 37), .int (v 38), .int (v 39), .int (v 40), .int (v 41)])), ((an 5), .inr (6, [.int (v 42), .int (v 43), .int (v 44), .int (v 45), .int (v 46), .int (v 47), .int (v 48), .int (v 49)])), ((an 6), .inr (6, [.int (v 50), .int (v 51), .int (v 52), .int (v 53), .int (v 54), .int (v 55), .int (v 56), .int (v 57)])), ((an 7), .inr (2, [.ref (an 8), .int (nI (b 1))])), ((an 8), .inl (X.2.1, 248, .inl (g 0))), ((an 9), .inr (5, [.int 5, .int 0, .int 1, .ref (an 10), .int (nI (b 2))])), ((an 10), .inl (X.2.1, 25, .inl (g 1))), ((an 11), .inr (5, [.int 6, .int 1, .int 1, .ref (an 12), .int (nI (b 3))])), ((an 12), .inl (X.2.1, 30, .inl (g 2))), ((an 13), .inr (5, [.int 6, .int 0, .int 0, .ref (an 14), .int (nI (b 4))])), ((an 14), .inl (X.2.1, 30, .inl (g 3)))] ++ rnW (xa 9) vr ++ [((xa 5), .inl (X.2.1, 3, .inl fr))]) G rfl rfl [17, 4] [0, 1, 2, 3, 5, 6, 7, 8, 9, 10, 11, 12, 13, 14, 15, 16, 18, 19] rfl rfl rfl rfl (n_V (As := [.ref (an 2)]) (rest := []) (C := RX8) (T := TX8) (N := 8) (ci := 6) S G (s_rcopy l X (xa 8) vg (an 2) (fun k => v (18 + k)) H.size) gX10_close_X8_copyFrom rfl rfl rfl hdV_X8_copyFrom ⟨Nat.le_of_ble_eq_true rfl, Nat.le_of_ble_eq_true rfl⟩ [17, 4] rfl rfl 17 rfl rfl rfl hl.1 (Nat.le_of_ble_eq_true rfl) dX10_close_38 ⟨Nat.le_of_ble_eq_true rfl, Nat.le_of_ble_eq_true rfl⟩) (fun u_8 H locs hp_8 G => ?_)
          obtain ⟨v_8, rfl⟩ : ∃ z, z = u_8 := ⟨_, rfl⟩
          have hq_8 := hp_8
          have G : wd X (va_A (xW h0 nw sp xa la lb ++ rcW X nw an v b g ++ rnW (xa 8) vg ++ rnW (xa 9) vr ++ [((xa 5), .inl (X.2.1, 3, .inl fr))]) sz) (va_A (xW h0 nw sp xa la lb ++ rcW X nw an v b g ++ rnW (xa 8) vg ++ rnW (xa 9) vr ++ [((xa 5), .inl (X.2.1, 3, .inl fr))]) sz) s (xW h0 nw sp xa la lb ++ rcW X nw an v b g ++ rnW (xa 9) vr ++ [((xa 5), .inl (X.2.1, 3, .inl fr))] ++ rnW (xa 8) v_8) H locs := wd_sub G [0, 1, 2, 3, 19, 4, 5, 6, 7, 8, 9, 10, 11, 12, 13, 14, 15, 16, 17, 18] rfl rfl
          have G : wd X (va_A (xW h0 nw sp xa la lb ++ rcW X nw an v b g ++ rnW (xa 8) vg ++ rnW (xa 9) vr ++ [((xa 5), .inl (X.2.1, 3, .inl fr))]) sz) (va_A (xW h0 nw sp xa la lb ++ rcW X nw an v b g ++ rnW (xa 8) vg ++ rnW (xa 9) vr ++ [((xa 5), .inl (X.2.1, 3, .inl fr))]) sz) s (xW h0 nw sp xa la lb ++ rcW X nw an v b g ++ rnW (xa 8) v_8 ++ rnW (xa 9) vr ++ [((xa 5), .inl (X.2.1, 3, .inl fr))]) H locs := wd_sub G [0, 1, 2, 3, 4, 5, 6, 7, 8, 9, 10, 11, 12, 13, 14, 15, 16, 19, 17, 18] rfl rfl
          exact join_37 v_8 _ _ _  G hl
        · refine k_it (v := 2) (by rw [q_6]; rfl) ?_
          refine r_aald (C := RX8) (b := (an 3)) S G 2 3 rfl rfl (k_vp (by decide)) rfl dX10_close_37 ?_
          refine b_wv (cells' := 0) (slots' := 0) (wr := xW h0 nw sp xa la lb ++ [(nw, .inr (3, [.int (v 0), .int (v 1), .int (nI (b 0)), .ref (an 0), .ref (an 7), .ref (an 9), .ref (an 11), .ref (an 13)])), ((an 0), .inl (X.2.2.2.2, 6, .inr (.inr (.inr (.inr (rowQ an)))))), ((an 1), .inr (6, [.int (v 10), .int (v 11), .int (v 12), .int (v 13), .int (v 14), .int (v 15), .int (v 16), .int (v 17)])), ((an 2), .inr (6, [.int (v 18), .int (v 19), .int (v 20), .int (v 21), .int (v 22), .int (v 23), .int (v 24), .int (v 25)])), ((an 4), .inr (6, [.int (v 34), .int (v 35), .int (v 36), .int (v 37), .int (v 38), .int (v 39), .int (v 40), .int (v 41)])), ((an 5), .inr (6, [.int (v 42), .int (v 43), .int (v 44), .int (v 45), .int (v 46), .int (v 47), .int (v 48), .int (v 49)])), ((an 6), .inr (6, [.int (v 50), .int (v 51), .int (v 52), .int (v 53), .int (v 54), .int (v 55), .int (v 56), .int (v 57)])), ((an 7), .inr (2, [.ref (an 8), .int (nI (b 1))])), ((an 8), .inl (X.2.1, 248, .inl (g 0))), ((an 9), .inr (5, [.int 5, .int 0, .int 1, .ref (an 10), .int (nI (b 2))])), ((an 10), .inl (X.2.1, 25, .inl (g 1))), ((an 11), .inr (5, [.int 6, .int 1, .int 1, .ref (an 12), .int (nI (b 3))])), ((an 12), .inl (X.2.1, 30, .inl (g 2))), ((an 13), .inr (5, [.int 6, .int 0, .int 0, .ref (an 14), .int (nI (b 4))])), ((an 14), .inl (X.2.1, 30, .inl (g 3)))] ++ rnW (xa 9) vr ++ [((xa 5), .inl (X.2.1, 3, .inl fr))]) G rfl rfl [17, 5] [0, 1, 2, 3, 4, 6, 7, 8, 9, 10, 11, 12, 13, 14, 15, 16, 18, 19] rfl rfl rfl rfl (n_V (As := [.ref (an 3)]) (rest := []) (C := RX8) (T := TX8) (N := 8) (ci := 6) S G (s_rcopy l X (xa 8) vg (an 3) (fun k => v (26 + k)) H.size) gX10_close_X8_copyFrom rfl rfl rfl hdV_X8_copyFrom ⟨Nat.le_of_ble_eq_true rfl, Nat.le_of_ble_eq_true rfl⟩ [17, 5] rfl rfl 17 rfl rfl rfl hl.1 (Nat.le_of_ble_eq_true rfl) dX10_close_38 ⟨Nat.le_of_ble_eq_true rfl, Nat.le_of_ble_eq_true rfl⟩) (fun u_9 H locs hp_9 G => ?_)
          obtain ⟨v_9, rfl⟩ : ∃ z, z = u_9 := ⟨_, rfl⟩
          have hq_9 := hp_9
          have G : wd X (va_A (xW h0 nw sp xa la lb ++ rcW X nw an v b g ++ rnW (xa 8) vg ++ rnW (xa 9) vr ++ [((xa 5), .inl (X.2.1, 3, .inl fr))]) sz) (va_A (xW h0 nw sp xa la lb ++ rcW X nw an v b g ++ rnW (xa 8) vg ++ rnW (xa 9) vr ++ [((xa 5), .inl (X.2.1, 3, .inl fr))]) sz) s (xW h0 nw sp xa la lb ++ rcW X nw an v b g ++ rnW (xa 9) vr ++ [((xa 5), .inl (X.2.1, 3, .inl fr))] ++ rnW (xa 8) v_9) H locs := wd_sub G [0, 1, 2, 3, 4, 19, 5, 6, 7, 8, 9, 10, 11, 12, 13, 14, 15, 16, 17, 18] rfl rfl
          have G : wd X (va_A (xW h0 nw sp xa la lb ++ rcW X nw an v b g ++ rnW (xa 8) vg ++ rnW (xa 9) vr ++ [((xa 5), .inl (X.2.1, 3, .inl fr))]) sz) (va_A (xW h0 nw sp xa la lb ++ rcW X nw an v b g ++ rnW (xa 8) vg ++ rnW (xa 9) vr ++ [((xa 5), .inl (X.2.1, 3, .inl fr))]) sz) s (xW h0 nw sp xa la lb ++ rcW X nw an v b g ++ rnW (xa 8) v_9 ++ rnW (xa 9) vr ++ [((xa 5), .inl (X.2.1, 3, .inl fr))]) H locs := wd_sub G [0, 1, 2, 3, 4, 5, 6, 7, 8, 9, 10, 11, 12, 13, 14, 15, 16, 19, 17, 18] rfl rfl
          exact join_37 v_9 _ _ _  G hl
        · refine k_it (v := 3) (by rw [q_6]; rfl) ?_
          refine r_aald (C := RX8) (b := (an 4)) S G 2 3 rfl rfl (k_vp (by decide)) rfl dX10_close_37 ?_
          refine b_wv (cells' := 0) (slots' := 0) (wr := xW h0 nw sp xa la lb ++ [(nw, .inr (3, [.int (v 0), .int (v 1), .int (nI (b 0)), .ref (an 0), .ref (an 7), .ref (an 9), .ref (an 11), .ref (an 13)])), ((an 0), .inl (X.2.2.2.2, 6, .inr (.inr (.inr (.inr (rowQ an)))))), ((an 1), .inr (6, [.int (v 10), .int (v 11), .int (v 12), .int (v 13), .int (v 14), .int (v 15), .int (v 16), .int (v 17)])), ((an 2), .inr (6, [.int (v 18), .int (v 19), .int (v 20), .int (v 21), .int (v 22), .int (v 23), .int (v 24), .int (v 25)])), ((an 3), .inr (6, [.int (v 26), .int (v 27), .int (v 28), .int (v 29), .int (v 30), .int (v 31), .int (v 32), .int (v 33)])), ((an 5), .inr (6, [.int (v 42), .int (v 43), .int (v 44), .int (v 45), .int (v 46), .int (v 47), .int (v 48), .int (v 49)])), ((an 6), .inr (6, [.int (v 50), .int (v 51), .int (v 52), .int (v 53), .int (v 54), .int (v 55), .int (v 56), .int (v 57)])), ((an 7), .inr (2, [.ref (an 8), .int (nI (b 1))])), ((an 8), .inl (X.2.1, 248, .inl (g 0))), ((an 9), .inr (5, [.int 5, .int 0, .int 1, .ref (an 10), .int (nI (b 2))])), ((an 10), .inl (X.2.1, 25, .inl (g 1))), ((an 11), .inr (5, [.int 6, .int 1, .int 1, .ref (an 12), .int (nI (b 3))])), ((an 12), .inl (X.2.1, 30, .inl (g 2))), ((an 13), .inr (5, [.int 6, .int 0, .int 0, .ref (an 14), .int (nI (b 4))])), ((an 14), .inl (X.2.1, 30, .inl (g 3)))] ++ rnW (xa 9) vr ++ [((xa 5), .inl (X.2.1, 3, .inl fr))]) G rfl rfl [17, 6] [0, 1, 2, 3, 4, 5, 7, 8, 9, 10, 11, 12, 13, 14, 15, 16, 18, 19] rfl rfl rfl rfl (n_V (As := [.ref (an 4)]) (rest := []) (C := RX8) (T := TX8) (N := 8) (ci := 6) S G (s_rcopy l X (xa 8) vg (an 4) (fun k => v (34 + k)) H.size) gX10_close_X8_copyFrom rfl rfl rfl hdV_X8_copyFrom ⟨Nat.le_of_ble_eq_true rfl, Nat.le_of_ble_eq_true rfl⟩ [17, 6] rfl rfl 17 rfl rfl rfl hl.1 (Nat.le_of_ble_eq_true rfl) dX10_close_38 ⟨Nat.le_of_ble_eq_true rfl, Nat.le_of_ble_eq_true rfl⟩) (fun u_10 H locs hp_10 G => ?_)
          obtain ⟨v_10, rfl⟩ : ∃ z, z = u_10 := ⟨_, rfl⟩
          have hq_10 := hp_10
          have G : wd X (va_A (xW h0 nw sp xa la lb ++ rcW X nw an v b g ++ rnW (xa 8) vg ++ rnW (xa 9) vr ++ [((xa 5), .inl (X.2.1, 3, .inl fr))]) sz) (va_A (xW h0 nw sp xa la lb ++ rcW X nw an v b g ++ rnW (xa 8) vg ++ rnW (xa 9) vr ++ [((xa 5), .inl (X.2.1, 3, .inl fr))]) sz) s (xW h0 nw sp xa la lb ++ rcW X nw an v b g ++ rnW (xa 9) vr ++ [((xa 5), .inl (X.2.1, 3, .inl fr))] ++ rnW (xa 8) v_10) H locs := wd_sub G [0, 1, 2, 3, 4, 5, 19, 6, 7, 8, 9, 10, 11, 12, 13, 14, 15, 16, 17, 18] rfl rfl
          have G : wd X (va_A (xW h0 nw sp xa la lb ++ rcW X nw an v b g ++ rnW (xa 8) vg ++ rnW (xa 9) vr ++ [((xa 5), .inl (X.2.1, 3, .inl fr))]) sz) (va_A (xW h0 nw sp xa la lb ++ rcW X nw an v b g ++ rnW (xa 8) vg ++ rnW (xa 9) vr ++ [((xa 5), .inl (X.2.1, 3, .inl fr))]) sz) s (xW h0 nw sp xa la lb ++ rcW X nw an v b g ++ rnW (xa 8) v_10 ++ rnW (xa 9) vr ++ [((xa 5), .inl (X.2.1, 3, .inl fr))]) H locs := wd_sub G [0, 1, 2, 3, 4, 5, 6, 7, 8, 9, 10, 11, 12, 13, 14, 15, 16, 19, 17, 18] rfl rfl
          exact join_37 v_10 _ _ _  G hl
        · refine k_it (v := 4) (by rw [q_6]; rfl) ?_
          refine r_aald (C := RX8) (b := (an 5)) S G 2 3 rfl rfl (k_vp (by decide)) rfl dX10_close_37 ?_
          refine b_wv (cells' := 0) (slots' := 0) (wr := xW h0 nw sp xa la lb ++ [(nw, .inr (3, [.int (v 0), .int (v 1), .int (nI (b 0)), .ref (an 0), .ref (an 7), .ref (an 9), .ref (an 11), .ref (an 13)])), ((an 0), .inl (X.2.2.2.2, 6, .inr (.inr (.inr (.inr (rowQ an)))))), ((an 1), .inr (6, [.int (v 10), .int (v 11), .int (v 12), .int (v 13), .int (v 14), .int (v 15), .int (v 16), .int (v 17)])), ((an 2), .inr (6, [.int (v 18), .int (v 19), .int (v 20), .int (v 21), .int (v 22), .int (v 23), .int (v 24), .int (v 25)])), ((an 3), .inr (6, [.int (v 26), .int (v 27), .int (v 28), .int (v 29), .int (v 30), .int (v 31), .int (v 32), .int (v 33)])), ((an 4), .inr (6, [.int (v 34), .int (v 35), .int (v 36), .int (v 37), .int (v 38), .int (v 39), .int (v 40), .int (v 41)])), ((an 6), .inr (6, [.int (v 50), .int (v 51), .int (v 52), .int (v 53), .int (v 54), .int (v 55), .int (v 56), .int (v 57)])), ((an 7), .inr (2, [.ref (an 8), .int (nI (b 1))])), ((an 8), .inl (X.2.1, 248, .inl (g 0))), ((an 9), .inr (5, [.int 5, .int 0, .int 1, .ref (an 10), .int (nI (b 2))])), ((an 10), .inl (X.2.1, 25, .inl (g 1))), ((an 11), .inr (5, [.int 6, .int 1, .int 1, .ref (an 12), .int (nI (b 3))])), ((an 12), .inl (X.2.1, 30, .inl (g 2))), ((an 13), .inr (5, [.int 6, .int 0, .int 0, .ref (an 14), .int (nI (b 4))])), ((an 14), .inl (X.2.1, 30, .inl (g 3)))] ++ rnW (xa 9) vr ++ [((xa 5), .inl (X.2.1, 3, .inl fr))]) G rfl rfl [17, 7] [0, 1, 2, 3, 4, 5, 6, 8, 9, 10, 11, 12, 13, 14, 15, 16, 18, 19] rfl rfl rfl rfl (n_V (As := [.ref (an 5)]) (rest := []) (C := RX8) (T := TX8) (N := 8) (ci := 6) S G (s_rcopy l X (xa 8) vg (an 5) (fun k => v (42 + k)) H.size) gX10_close_X8_copyFrom rfl rfl rfl hdV_X8_copyFrom ⟨Nat.le_of_ble_eq_true rfl, Nat.le_of_ble_eq_true rfl⟩ [17, 7] rfl rfl 17 rfl rfl rfl hl.1 (Nat.le_of_ble_eq_true rfl) dX10_close_38 ⟨Nat.le_of_ble_eq_true rfl, Nat.le_of_ble_eq_true rfl⟩) (fun u_11 H locs hp_11 G => ?_)
          obtain ⟨v_11, rfl⟩ : ∃ z, z = u_11 := ⟨_, rfl⟩
          have hq_11 := hp_11
          have G : wd X (va_A (xW h0 nw sp xa la lb ++ rcW X nw an v b g ++ rnW (xa 8) vg ++ rnW (xa 9) vr ++ [((xa 5), .inl (X.2.1, 3, .inl fr))]) sz) (va_A (xW h0 nw sp xa la lb ++ rcW X nw an v b g ++ rnW (xa 8) vg ++ rnW (xa 9) vr ++ [((xa 5), .inl (X.2.1, 3, .inl fr))]) sz) s (xW h0 nw sp xa la lb ++ rcW X nw an v b g ++ rnW (xa 9) vr ++ [((xa 5), .inl (X.2.1, 3, .inl fr))] ++ rnW (xa 8) v_11) H locs := wd_sub G [0, 1, 2, 3, 4, 5, 6, 19, 7, 8, 9, 10, 11, 12, 13, 14, 15, 16, 17, 18] rfl rfl
          have G : wd X (va_A (xW h0 nw sp xa la lb ++ rcW X nw an v b g ++ rnW (xa 8) vg ++ rnW (xa 9) vr ++ [((xa 5), .inl (X.2.1, 3, .inl fr))]) sz) (va_A (xW h0 nw sp xa la lb ++ rcW X nw an v b g ++ rnW (xa 8) vg ++ rnW (xa 9) vr ++ [((xa 5), .inl (X.2.1, 3, .inl fr))]) sz) s (xW h0 nw sp xa la lb ++ rcW X nw an v b g ++ rnW (xa 8) v_11 ++ rnW (xa 9) vr ++ [((xa 5), .inl (X.2.1, 3, .inl fr))]) H locs := wd_sub G [0, 1, 2, 3, 4, 5, 6, 7, 8, 9, 10, 11, 12, 13, 14, 15, 16, 19, 17, 18] rfl rfl
          exact join_37 v_11 _ _ _  G hl
        · refine k_it (v := 5) (by rw [q_6]; rfl) ?_
          refine r_aald (C := RX8) (b := (an 6)) S G 2 3 rfl rfl (k_vp (by decide)) rfl dX10_close_37 ?_
          refine b_wv (cells' := 0) (slots' := 0) (wr := xW h0 nw sp xa la lb ++ [(nw, .inr (3, [.int (v 0), .int (v 1), .int (nI (b 0)), .ref (an 0), .ref (an 7), .ref (an 9), .ref (an 11), .ref (an 13)])), ((an 0), .inl (X.2.2.2.2, 6, .inr (.inr (.inr (.inr (rowQ an)))))), ((an 1), .inr (6, [.int (v 10), .int (v 11), .int (v 12), .int (v 13), .int (v 14), .int (v 15), .int (v 16), .int (v 17)])), ((an 2), .inr (6, [.int (v 18), .int (v 19), .int (v 20), .int (v 21), .int (v 22), .int (v 23), .int (v 24), .int (v 25)])), ((an 3), .inr (6, [.int (v 26), .int (v 27), .int (v 28), .int (v 29), .int (v 30), .int (v 31), .int (v 32), .int (v 33)])), ((an 4), .inr (6, [.int (v 34), .int (v 35), .int (v 36), .int (v 37), .int (v 38), .int (v 39), .int (v 40), .int (v 41)])), ((an 5), .inr (6, [.int (v 42), .int (v 43), .int (v 44), .int (v 45), .int (v 46), .int (v 47), .int (v 48), .int (v 49)])), ((an 7), .inr (2, [.ref (an 8), .int (nI (b 1))])), ((an 8), .inl (X.2.1, 248, .inl (g 0))), ((an 9), .inr (5, [.int 5, .int 0, .int 1, .ref (an 10), .int (nI (b 2))])), ((an 10), .inl (X.2.1, 25, .inl (g 1))), ((an 11), .inr (5, [.int 6, .int 1, .int 1, .ref (an 12), .int (nI (b 3))])), ((an 12), .inl (X.2.1, 30, .inl (g 2))), ((an 13), .inr (5, [.int 6, .int 0, .int 0, .ref (an 14), .int (nI (b 4))])), ((an 14), .inl (X.2.1, 30, .inl (g 3)))] ++ rnW (xa 9) vr ++ [((xa 5), .inl (X.2.1, 3, .inl fr))]) G rfl rfl [17, 8] [0, 1, 2, 3, 4, 5, 6, 7, 9, 10, 11, 12, 13, 14, 15, 16, 18, 19] rfl rfl rfl rfl (n_V (As := [.ref (an 6)]) (rest := []) (C := RX8) (T := TX8) (N := 8) (ci := 6) S G (s_rcopy l X (xa 8) vg (an 6) (fun k => v (50 + k)) H.size) gX10_close_X8_copyFrom rfl rfl rfl hdV_X8_copyFrom ⟨Nat.le_of_ble_eq_true rfl, Nat.le_of_ble_eq_true rfl⟩ [17, 8] rfl rfl 17 rfl rfl rfl hl.1 (Nat.le_of_ble_eq_true rfl) dX10_close_38 ⟨Nat.le_of_ble_eq_true rfl, Nat.le_of_ble_eq_true rfl⟩) (fun u_12 H locs hp_12 G => ?_)
          obtain ⟨v_12, rfl⟩ : ∃ z, z = u_12 := ⟨_, rfl⟩
          have hq_12 := hp_12
          have G : wd X (va_A (xW h0 nw sp xa la lb ++ rcW X nw an v b g ++ rnW (xa 8) vg ++ rnW (xa 9) vr ++ [((xa 5), .inl (X.2.1, 3, .inl fr))]) sz) (va_A (xW h0 nw sp xa la lb ++ rcW X nw an v b g ++ rnW (xa 8) vg ++ rnW (xa 9) vr ++ [((xa 5), .inl (X.2.1, 3, .inl fr))]) sz) s (xW h0 nw sp xa la lb ++ rcW X nw an v b g ++ rnW (xa 9) vr ++ [((xa 5), .inl (X.2.1, 3, .inl fr))] ++ rnW (xa 8) v_12) H locs := wd_sub G [0, 1, 2, 3, 4, 5, 6, 7, 19, 8, 9, 10, 11, 12, 13, 14, 15, 16, 17, 18] rfl rfl
          have G : wd X (va_A (xW h0 nw sp xa la lb ++ rcW X nw an v b g ++ rnW (xa 8) vg ++ rnW (xa 9) vr ++ [((xa 5), .inl (X.2.1, 3, .inl fr))]) sz) (va_A (xW h0 nw sp xa la lb ++ rcW X nw an v b g ++ rnW (xa 8) vg ++ rnW (xa 9) vr ++ [((xa 5), .inl (X.2.1, 3, .inl fr))]) sz) s (xW h0 nw sp xa la lb ++ rcW X nw an v b g ++ rnW (xa 8) v_12 ++ rnW (xa 9) vr ++ [((xa 5), .inl (X.2.1, 3, .inl fr))]) H locs := wd_sub G [0, 1, 2, 3, 4, 5, 6, 7, 8, 9, 10, 11, 12, 13, 14, 15, 16, 19, 17, 18] rfl rfl
          exact join_37 v_12 _ _ _  G hl
      · intro v_5 H locs ls  G hl
        refine lv_aload_n zx zb dX10_close_41 rfl (lv_at hl 0 rfl) ?_
        refine r_get (C := RX10) (T := TX10) (N := 14) (ci := 8) (v := .ref (xa 9)) S in_X10_close_X10 G 0 rfl rfl 9 (by decide) lk_X10_close_52 rfl dX10_close_42 ?_
        refine lv_aload_n zx zb dX10_close_45 rfl (lv_at hl 0 rfl) ?_
        refine r_get (C := RX10) (T := TX10) (N := 14) (ci := 8) (v := .ref nw) S in_X10_close_X10 G 0 rfl rfl 0 (by decide) lk_X10_close_10 rfl dX10_close_46 ?_
        refine r_get (C := RX5) (T := TX5) (N := 8) (ci := 3) (v := .ref (an 0)) S in_X10_close_X5 G 1 rfl rfl 3 (by decide) lk_X10_close_126 rfl dX10_close_49 ?_
        refine lv_iload_n zx zb dX10_close_52 rfl (lv_at hl 2 rfl) ?_
        refine k_cutW (PP := fun Wx => ∀ (v_13 : Nat → Int32) (H : Heap) (locs : List Loc) (ls : Array Slot), wd X (va_A (xW h0 nw sp xa la lb ++ rcW X nw an v b g ++ rnW (xa 8) vg ++ rnW (xa 9) vr ++ [((xa 5), .inl (X.2.1, 3, .inl fr))]) sz) (va_A (xW h0 nw sp xa la lb ++ rcW X nw an v b g ++ rnW (xa 8) vg ++ rnW (xa 9) vr ++ [((xa 5), .inl (X.2.1, 3, .inl fr))]) sz) s (xW h0 nw sp xa la lb ++ rcW X nw an v b g ++ rnW (xa 8) v_5 ++ rnW (xa 9) v_13 ++ [((xa 5), .inl (X.2.1, 3, .inl fr))]) H locs → lv_has ls 8 [(0, .ref h0), (1, .int (nI j_1)), (2, .int (nI i_1)), (3, .int x3)] → Wx (F0 m 57 ls []) H locs) ?_ ?_
        · intro join_53
          rcases k_6c (show i_1 < 6 by omega) with q_14 | q_14 | q_14 | q_14 | q_14 | q_14
          · refine k_it (v := 0) (by rw [q_14]; rfl) ?_
            refine r_aald (C := RX8) (b := (an 1)) S G 2 3 rfl rfl (k_vp (by decide)) rfl dX10_close_53 ?_
            refine b_wv (cells' := 0) (slots' := 0) (wr := xW h0 nw sp xa la lb ++ [(nw, .inr (3, [.int (v 0), .int (v 1), .int (nI (b 0)), .ref (an 0), .ref (an 7), .ref (an 9), .ref (an 11), .ref (an 13)])), ((an 0), .inl (X.2.2.2.2, 6, .inr (.inr (.inr (.inr (rowQ an)))))), ((an 2), .inr (6, [.int (v 18), .int (v 19), .int (v 20), .int (v 21), .int (v 22), .int (v 23), .int (v 24), .int (v 25)])), ((an 3), .inr (6, [.int (v 26), .int (v 27), .int (v 28), .int (v 29), .int (v 30), .int (v 31), .int (v 32), .int (v 33)])), ((an 4), .inr (6, [.int (v 34), .int (v 35), .int (v 36), .int (v 37), .int (v 38), .int (v 39), .int (v 40), .int (v 41)])), ((an 5), .inr (6, [.int (v 42), .int (v 43), .int (v 44), .int (v 45), .int (v 46), .int (v 47), .int (v 48), .int (v 49)])), ((an 6), .inr (6, [.int (v 50), .int (v 51), .int (v 52), .int (v 53), .int (v 54), .int (v 55), .int (v 56), .int (v 57)])), ((an 7), .inr (2, [.ref (an 8), .int (nI (b 1))])), ((an 8), .inl (X.2.1, 248, .inl (g 0))), ((an 9), .inr (5, [.int 5, .int 0, .int 1, .ref (an 10), .int (nI (b 2))])), ((an 10), .inl (X.2.1, 25, .inl (g 1))), ((an 11), .inr (5, [.int 6, .int 1, .int 1, .ref (an 12), .int (nI (b 3))])), ((an 12), .inl (X.2.1, 30, .inl (g 2))), ((an 13), .inr (5, [.int 6, .int 0, .int 0, .ref (an 14), .int (nI (b 4))])), ((an 14), .inl (X.2.1, 30, .inl (g 3)))] ++ rnW (xa 8) v_5 ++ [((xa 5), .inl (X.2.1, 3, .inl fr))]) G rfl rfl [18, 3] [0, 1, 2, 4, 5, 6, 7, 8, 9, 10, 11, 12, 13, 14, 15, 16, 17, 19] rfl rfl rfl rfl (n_V (As := [.ref (an 1)]) (rest := []) (C := RX8) (T := TX8) (N := 8) (ci := 6) S G (s_rcopy l X (xa 9) vr (an 1) (fun k => v (10 + k)) H.size) gX10_close_X8_copyFrom rfl rfl rfl hdV_X8_copyFrom ⟨Nat.le_of_ble_eq_true rfl, Nat.le_of_ble_eq_true rfl⟩ [18, 3] rfl rfl 18 rfl rfl rfl hl.1 (Nat.le_of_ble_eq_true rfl) dX10_close_54 ⟨Nat.le_of_ble_eq_true rfl, Nat.le_of_ble_eq_true rfl⟩) (fun u_15 H locs hp_15 G => ?_)
            obtain ⟨v_15, rfl⟩ : ∃ z, z = u_15 := ⟨_, rfl⟩
            have hq_15 := hp_15
            have G : wd X (va_A (xW h0 nw sp xa la lb ++ rcW X nw an v b g ++ rnW (xa 8) vg ++ rnW (xa 9) vr ++ [((xa 5), .inl (X.2.1, 3, .inl fr))]) sz) (va_A (xW h0 nw sp xa la lb ++ rcW X nw an v b g ++ rnW (xa 8) vg ++ rnW (xa 9) vr ++ [((xa 5), .inl (X.2.1, 3, .inl fr))]) sz) s (xW h0 nw sp xa la lb ++ rcW X nw an v b g ++ rnW (xa 8) v_5 ++ [((xa 5), .inl (X.2.1, 3, .inl fr))] ++ rnW (xa 9) v_15) H locs := wd_sub G [0, 1, 2, 19, 3, 4, 5, 6, 7, 8, 9, 10, 11, 12, 13, 14, 15, 16, 17, 18] rfl rfl
            have G : wd X (va_A (xW h0 nw sp xa la lb ++ rcW X nw an v b g ++ rnW (xa 8) vg ++ rnW (xa 9) vr ++ [((xa 5), .inl (X.2.1, 3, .inl fr))]) sz) (va_A (xW h0 nw sp xa la lb ++ rcW X nw an v b g ++ rnW (xa 8) vg ++ rnW (xa 9) vr ++ [((xa 5), .inl (X.2.1, 3, .inl fr))]) sz) s (xW h0 nw sp xa la lb ++ rcW X nw an v b g ++ rnW (xa 8) v_5 ++ rnW (xa 9) v_15 ++ [((xa 5), .inl (X.2.1, 3, .inl fr))]) H locs := wd_sub G [0, 1, 2, 3, 4, 5, 6, 7, 8, 9, 10, 11, 12, 13, 14, 15, 16, 17, 19, 18] rfl rfl
            exact join_53 v_15 _ _ _  G hl
          · refine k_it (v := 1) (by rw [q_14]; rfl) ?_
            refine r_aald (C := RX8) (b := (an 2)) S G 2 3 rfl rfl (k_vp (by decide)) rfl dX10_close_53 ?_
            refine b_wv (cells' := 0) (slots' := 0) (wr := xW h0 nw sp xa la lb ++ [(nw, .inr (3, [.int (v 0), .int (v 1), .int (nI (b 0)), .ref (an 0), .ref (an 7), .ref (an 9), .ref (an 11), .ref (an 13)])), ((an 0), .inl (X.2.2.2.2, 6, .inr (.inr (.inr (.inr (rowQ an)))))), ((an 1), .inr (6, [.int (v 10), .int (v 11), .int (v 12), .int (v 13), .int (v 14), .int (v 15), .int (v 16), .int (v 17)])), ((an 3), .inr (6, [.int (v 26), .int (v 27), .int (v 28), .int (v 29), .int (v 30), .int (v 31), .int (v 32), .int (v 33)])), ((an 4), .inr (6, [.int (v 34), .int (v 35), .int (v 36), .int (v 37), .int (v 38), .int (v 39), .int (v 40), .int (v 41)])), ((an 5), .inr (6, [.int (v 42), .int (v 43), .int (v 44), .int (v 45), .int (v 46), .int (v 47), .int (v 48), .int (v 49)])), ((an 6), .inr (6, [.int (v 50), .int (v 51), .int (v 52), .int (v 53), .int (v 54), .int (v 55), .int (v 56), .int (v 57)])), ((an 7), .inr (2, [.ref (an 8), .int (nI (b 1))])), ((an 8), .inl (X.2.1, 248, .inl (g 0))), ((an 9), .inr (5, [.int 5, .int 0, .int 1, .ref (an 10), .int (nI (b 2))])), ((an 10), .inl (X.2.1, 25, .inl (g 1))), ((an 11), .inr (5, [.int 6, .int 1, .int 1, .ref (an 12), .int (nI (b 3))])), ((an 12), .inl (X.2.1, 30, .inl (g 2))), ((an 13), .inr (5, [.int 6, .int 0, .int 0, .ref (an 14), .int (nI (b 4))])), ((an 14), .inl (X.2.1, 30, .inl (g 3)))] ++ rnW (xa 8) v_5 ++ [((xa 5), .inl (X.2.1, 3, .inl fr))]) G rfl rfl [18, 4] [0, 1, 2, 3, 5, 6, 7, 8, 9, 10, 11, 12, 13, 14, 15, 16, 17, 19] rfl rfl rfl rfl (n_V (As := [.ref (an 2)]) (rest := []) (C := RX8) (T := TX8) (N := 8) (ci := 6) S G (s_rcopy l X (xa 9) vr (an 2) (fun k => v (18 + k)) H.size) gX10_close_X8_copyFrom rfl rfl rfl hdV_X8_copyFrom ⟨Nat.le_of_ble_eq_true rfl, Nat.le_of_ble_eq_true rfl⟩ [18, 4] rfl rfl 18 rfl rfl rfl hl.1 (Nat.le_of_ble_eq_true rfl) dX10_close_54 ⟨Nat.le_of_ble_eq_true rfl, Nat.le_of_ble_eq_true rfl⟩) (fun u_16 H locs hp_16 G => ?_)
            obtain ⟨v_16, rfl⟩ : ∃ z, z = u_16 := ⟨_, rfl⟩
            have hq_16 := hp_16
            have G : wd X (va_A (xW h0 nw sp xa la lb ++ rcW X nw an v b g ++ rnW (xa 8) vg ++ rnW (xa 9) vr ++ [((xa 5), .inl (X.2.1, 3, .inl fr))]) sz) (va_A (xW h0 nw sp xa la lb ++ rcW X nw an v b g ++ rnW (xa 8) vg ++ rnW (xa 9) vr ++ [((xa 5), .inl (X.2.1, 3, .inl fr))]) sz) s (xW h0 nw sp xa la lb ++ rcW X nw an v b g ++ rnW (xa 8) v_5 ++ [((xa 5), .inl (X.2.1, 3, .inl fr))] ++ rnW (xa 9) v_16) H locs := wd_sub G [0, 1, 2, 3, 19, 4, 5, 6, 7, 8, 9, 10, 11, 12, 13, 14, 15, 16, 17, 18] rfl rfl
            have G : wd X (va_A (xW h0 nw sp xa la lb ++ rcW X nw an v b g ++ rnW (xa 8) vg ++ rnW (xa 9) vr ++ [((xa 5), .inl (X.2.1, 3, .inl fr))]) sz) (va_A (xW h0 nw sp xa la lb ++ rcW X nw an v b g ++ rnW (xa 8) vg ++ rnW (xa 9) vr ++ [((xa 5), .inl (X.2.1, 3, .inl fr))]) sz) s (xW h0 nw sp xa la lb ++ rcW X nw an v b g ++ rnW (xa 8) v_5 ++ rnW (xa 9) v_16 ++ [((xa 5), .inl (X.2.1, 3, .inl fr))]) H locs := wd_sub G [0, 1, 2, 3, 4, 5, 6, 7, 8, 9, 10, 11, 12, 13, 14, 15, 16, 17, 19, 18] rfl rfl
            exact join_53 v_16 _ _ _  G hl
          · refine k_it (v := 2) (by rw [q_14]; rfl) ?_
            refine r_aald (C := RX8) (b := (an 3)) S G 2 3 rfl rfl (k_vp (by decide)) rfl dX10_close_53 ?_
            refine b_wv (cells' := 0) (slots' := 0) (wr := xW h0 nw sp xa la lb ++ [(nw, .inr (3, [.int (v 0), .int (v 1), .int (nI (b 0)), .ref (an 0), .ref (an 7), .ref (an 9), .ref (an 11), .ref (an 13)])), ((an 0), .inl (X.2.2.2.2, 6, .inr (.inr (.inr (.inr (rowQ an)))))), ((an 1), .inr (6, [.int (v 10), .int (v 11), .int (v 12), .int (v 13), .int (v 14), .int (v 15), .int (v 16), .int (v 17)])), ((an 2), .inr (6, [.int (v 18), .int (v 19), .int (v 20), .int (v 21), .int (v 22), .int (v 23), .int (v 24), .int (v 25)])), ((an 4), .inr (6, [.int (v 34), .int (v 35), .int (v 36), .int (v 37), .int (v 38), .int (v 39), .int (v 40), .int (v 41)])), ((an 5), .inr (6, [.int (v 42), .int (v 43), .int (v 44), .int (v 45), .int (v 46), .int (v 47), .int (v 48), .int (v 49)])), ((an 6), .inr (6, [.int (v 50), .int (v 51), .int (v 52), .int (v 53), .int (v 54), .int (v 55), .int (v 56), .int (v 57)])), ((an 7), .inr (2, [.ref (an 8), .int (nI (b 1))])), ((an 8), .inl (X.2.1, 248, .inl (g 0))), ((an 9), .inr (5, [.int 5, .int 0, .int 1, .ref (an 10), .int (nI (b 2))])), ((an 10), .inl (X.2.1, 25, .inl (g 1))), ((an 11), .inr (5, [.int 6, .int 1, .int 1, .ref (an 12), .int (nI (b 3))])), ((an 12), .inl (X.2.1, 30, .inl (g 2))), ((an 13), .inr (5, [.int 6, .int 0, .int 0, .ref (an 14), .int (nI (b 4))])), ((an 14), .inl (X.2.1, 30, .inl (g 3)))] ++ rnW (xa 8) v_5 ++ [((xa 5), .inl (X.2.1, 3, .inl fr))]) G rfl rfl [18, 5] [0, 1, 2, 3, 4, 6, 7, 8, 9, 10, 11, 12, 13, 14, 15, 16, 17, 19] rfl rfl rfl rfl (n_V (As := [.ref (an 3)]) (rest := []) (C := RX8) (T := TX8) (N := 8) (ci := 6) S G (s_rcopy l X (xa 9) vr (an 3) (fun k => v (26 + k)) H.size) gX10_close_X8_copyFrom rfl rfl rfl hdV_X8_copyFrom ⟨Nat.le_of_ble_eq_true rfl, Nat.le_of_ble_eq_true rfl⟩ [18, 5] rfl rfl 18 rfl rfl rfl hl.1 (Nat.le_of_ble_eq_true rfl) dX10_close_54 ⟨Nat.le_of_ble_eq_true rfl, Nat.le_of_ble_eq_true rfl⟩) (fun u_17 H locs hp_17 G => ?_)
            obtain ⟨v_17, rfl⟩ : ∃ z, z = u_17 := ⟨_, rfl⟩
            have hq_17 := hp_17
            have G : wd X (va_A (xW h0 nw sp xa la lb ++ rcW X nw an v b g ++ rnW (xa 8) vg ++ rnW (xa 9) vr ++ [((xa 5), .inl (X.2.1, 3, .inl fr))]) sz) (va_A (xW h0 nw sp xa la lb ++ rcW X nw an v b g ++ rnW (xa 8) vg ++ rnW (xa 9) vr ++ [((xa 5), .inl (X.2.1, 3, .inl fr))]) sz) s (xW h0 nw sp xa la lb ++ rcW X nw an v b g ++ rnW (xa 8) v_5 ++ [((xa 5), .inl (X.2.1, 3, .inl fr))] ++ rnW (xa 9) v_17) H locs := wd_sub G [0, 1, 2, 3, 4, 19, 5, 6, 7, 8, 9, 10, 11, 12, 13, 14, 15, 16, 17, 18] rfl rfl
            have G : wd X (va_A (xW h0 nw sp xa la lb ++ rcW X nw an v b g ++ rnW (xa 8) vg ++ rnW (xa 9) vr ++ [((xa 5), .inl (X.2.1, 3, .inl fr))]) sz) (va_A (xW h0 nw sp xa la lb ++ rcW X nw an v b g ++ rnW (xa 8) vg ++ rnW (xa 9) vr ++ [((xa 5), .inl (X.2.1, 3, .inl fr))]) sz) s (xW h0 nw sp xa la lb ++ rcW X nw an v b g ++ rnW (xa 8) v_5 ++ rnW (xa 9) v_17 ++ [((xa 5), .inl (X.2.1, 3, .inl fr))]) H locs := wd_sub G [0, 1, 2, 3, 4, 5, 6, 7, 8, 9, 10, 11, 12, 13, 14, 15, 16, 17, 19, 18] rfl rfl
            exact join_53 v_17 _ _ _  G hl
          · refine k_it (v := 3) (by rw [q_14]; rfl) ?_
            refine r_aald (C := RX8) (b := (an 4)) S G 2 3 rfl rfl (k_vp (by decide)) rfl dX10_close_53 ?_
            refine b_wv (cells' := 0) (slots' := 0) (wr := xW h0 nw sp xa la lb ++ [(nw, .inr (3, [.int (v 0), .int (v 1), .int (nI (b 0)), .ref (an 0), .ref (an 7), .ref (an 9), .ref (an 11), .ref (an 13)])), ((an 0), .inl (X.2.2.2.2, 6, .inr (.inr (.inr (.inr (rowQ an)))))), ((an 1), .inr (6, [.int (v 10), .int (v 11), .int (v 12), .int (v 13), .int (v 14), .int (v 15), .int (v 16), .int (v 17)])), ((an 2), .inr (6, [.int (v 18), .int (v 19), .int (v 20), .int (v 21), .int (v 22), .int (v 23), .int (v 24), .int (v 25)])), ((an 3), .inr (6, [.int (v 26), .int (v 27), .int (v 28), .int (v 29), .int (v 30), .int (v 31), .int (v 32), .int (v 33)])), ((an 5), .inr (6, [.int (v 42), .int (v 43), .int (v 44), .int (v 45), .int (v 46), .int (v 47), .int (v 48), .int (v 49)])), ((an 6), .inr (6, [.int (v 50), .int (v 51), .int (v 52), .int (v 53), .int (v 54), .int (v 55), .int (v 56), .int (v 57)])), ((an 7), .inr (2, [.ref (an 8), .int (nI (b 1))])), ((an 8), .inl (X.2.1, 248, .inl (g 0))), ((an 9), .inr (5, [.int 5, .int 0, .int 1, .ref (an 10), .int (nI (b 2))])), ((an 10), .inl (X.2.1, 25, .inl (g 1))), ((an 11), .inr (5, [.int 6, .int 1, .int 1, .ref (an 12), .int (nI (b 3))])), ((an 12), .inl (X.2.1, 30, .inl (g 2))), ((an 13), .inr (5, [.int 6, .int 0, .int 0, .ref (an 14), .int (nI (b 4))])), ((an 14), .inl (X.2.1, 30, .inl (g 3)))] ++ rnW (xa 8) v_5 ++ [((xa 5), .inl (X.2.1, 3, .inl fr))]) G rfl rfl [18, 6] [0, 1, 2, 3, 4, 5, 7, 8, 9, 10, 11, 12, 13, 14, 15, 16, 17, 19] rfl rfl rfl rfl (n_V (As := [.ref (an 4)]) (rest := []) (C := RX8) (T := TX8) (N := 8) (ci := 6) S G (s_rcopy l X (xa 9) vr (an 4) (fun k => v (34 + k)) H.size) gX10_close_X8_copyFrom rfl rfl rfl hdV_X8_copyFrom ⟨Nat.le_of_ble_eq_true rfl, Nat.le_of_ble_eq_true rfl⟩ [18, 6] rfl rfl 18 rfl rfl rfl hl.1 (Nat.le_of_ble_eq_true rfl) dX10_close_54 ⟨Nat.le_of_ble_eq_true rfl, Nat.le_of_ble_eq_true rfl⟩) (fun u_18 H locs hp_18 G => ?_)
            obtain ⟨v_18, rfl⟩ : ∃ z, z = u_18 := ⟨_, rfl⟩
            have hq_18 := hp_18
            have G : wd X (va_A (xW h0 nw sp xa la lb ++ rcW X nw an v b g ++ rnW (xa 8) vg ++ rnW (xa 9) vr ++ [((xa 5), .inl (X.2.1, 3, .inl fr))]) sz) (va_A (xW h0 nw sp xa la lb ++ rcW X nw an v b g ++ rnW (xa 8) vg ++ rnW (xa 9) vr ++ [((xa 5), .inl (X.2.1, 3, .inl fr))]) sz) s (xW h0 nw sp xa la lb ++ rcW X nw an v b g ++ rnW (xa 8) v_5 ++ [((xa 5), .inl (X.2.1, 3, .inl fr))] ++ rnW (xa 9) v_18) H locs := wd_sub G [0, 1, 2, 3, 4, 5, 19, 6, 7, 8, 9, 10, 11, 12, 13, 14, 15, 16, 17, 18] rfl rfl
            have G : wd X (va_A (xW h0 nw sp xa la lb ++ rcW X nw an v b g ++ rnW (xa 8) vg ++ rnW (xa 9) vr ++ [((xa 5), .inl (X.2.1, 3, .inl fr))]) sz) (va_A (xW h0 nw sp xa la lb ++ rcW X nw an v b g ++ rnW (xa 8) vg ++ rnW (xa 9) vr ++ [((xa 5), .inl (X.2.1, 3, .inl fr))]) sz) s (xW h0 nw sp xa la lb ++ rcW X nw an v b g ++ rnW (xa 8) v_5 ++ rnW (xa 9) v_18 ++ [((xa 5), .inl (X.2.1, 3, .inl fr))]) H locs := wd_sub G [0, 1, 2, 3, 4, 5, 6, 7, 8, 9, 10, 11, 12, 13, 14, 15, 16, 17, 19, 18] rfl rfl
            exact join_53 v_18 _ _ _  G hl
          · refine k_it (v := 4) (by rw [q_14]; rfl) ?_
            refine r_aald (C := RX8) (b := (an 5)) S G 2 3 rfl rfl (k_vp (by decide)) rfl dX10_close_53 ?_
            refine b_wv (cells' := 0) (slots' := 0) (wr := xW h0 nw sp xa la lb ++ [(nw, .inr (3, [.int (v 0), .int (v 1), .int (nI (b 0)), .ref (an 0), .ref (an 7), .ref (an 9), .ref (an 11), .ref (an 13)])), ((an 0), .inl (X.2.2.2.2, 6, .inr (.inr (.inr (.inr (rowQ an)))))), ((an 1), .inr (6, [.int (v 10), .int (v 11), .int (v 12), .int (v 13), .int (v 14), .int (v 15), .int (v 16), .int (v 17)])), ((an 2), .inr (6, [.int (v 18), .int (v 19), .int (v 20), .int (v 21), .int (v 22), .int (v 23), .int (v 24), .int (v 25)])), ((an 3), .inr (6, [.int (v 26), .int (v 27), .int (v 28), .int (v 29), .int (v 30), .int (v 31), .int (v 32), .int (v 33)])), ((an 4), .inr (6, [.int (v 34), .int (v 35), .int (v 36), .int (v 37), .int (v 38), .int (v 39), .int (v 40), .int (v 41)])), ((an 6), .inr (6, [.int (v 50), .int (v 51), .int (v 52), .int (v 53), .int (v 54), .int (v 55), .int (v 56), .int (v 57)])), ((an 7), .inr (2, [.ref (an 8), .int (nI (b 1))])), ((an 8), .inl (X.2.1, 248, .inl (g 0))), ((an 9), .inr (5, [.int 5, .int 0, .int 1, .ref (an 10), .int (nI (b 2))])), ((an 10), .inl (X.2.1, 25, .inl (g 1))), ((an 11), .inr (5, [.int 6, .int 1, .int 1, .ref (an 12), .int (nI (b 3))])), ((an 12), .inl (X.2.1, 30, .inl (g 2))), ((an 13), .inr (5, [.int 6, .int 0, .int 0, .ref (an 14), .int (nI (b 4))])), ((an 14), .inl (X.2.1, 30, .inl (g 3)))] ++ rnW (xa 8) v_5 ++ [((xa 5), .inl (X.2.1, 3, .inl fr))]) G rfl rfl [18, 7] [0, 1, 2, 3, 4, 5, 6, 8, 9, 10, 11, 12, 13, 14, 15, 16, 17, 19] rfl rfl rfl rfl (n_V (As := [.ref (an 5)]) (rest := []) (C := RX8) (T := TX8) (N := 8) (ci := 6) S G (s_rcopy l X (xa 9) vr (an 5) (fun k => v (42 + k)) H.size) gX10_close_X8_copyFrom rfl rfl rfl hdV_X8_copyFrom ⟨Nat.le_of_ble_eq_true rfl, Nat.le_of_ble_eq_true rfl⟩ [18, 7] rfl rfl 18 rfl rfl rfl hl.1 (Nat.le_of_ble_eq_true rfl) dX10_close_54 ⟨Nat.le_of_ble_eq_true rfl, Nat.le_of_ble_eq_true rfl⟩) (fun u_19 H locs hp_19 G => ?_)
            obtain ⟨v_19, rfl⟩ : ∃ z, z = u_19 := ⟨_, rfl⟩
            have hq_19 := hp_19
            have G : wd X (va_A (xW h0 nw sp xa la lb ++ rcW X nw an v b g ++ rnW (xa 8) vg ++ rnW (xa 9) vr ++ [((xa 5), .inl (X.2.1, 3, .inl fr))]) sz) (va_A (xW h0 nw sp xa la lb ++ rcW X nw an v b g ++ rnW (xa 8) vg ++ rnW (xa 9) vr ++ [((xa 5), .inl (X.2.1, 3, .inl fr))]) sz) s (xW h0 nw sp xa la lb ++ rcW X nw an v b g ++ rnW (xa 8) v_5 ++ [((xa 5), .inl (X.2.1, 3, .inl fr))] ++ rnW (xa 9) v_19) H locs := wd_sub G [0, 1, 2, 3, 4, 5, 6, 19, 7, 8, 9, 10, 11, 12, 13, 14, 15, 16, 17, 18] rfl rfl
            have G : wd X (va_A (xW h0 nw sp xa la lb ++ rcW X nw an v b g ++ rnW (xa 8) vg ++ rnW (xa 9) vr ++ [((xa 5), .inl (X.2.1, 3, .inl fr))]) sz) (va_A (xW h0 nw sp xa la lb ++ rcW X nw an v b g ++ rnW (xa 8) vg ++ rnW (xa 9) vr ++ [((xa 5), .inl (X.2.1, 3, .inl fr))]) sz) s (xW h0 nw sp xa la lb ++ rcW X nw an v b g ++ rnW (xa 8) v_5 ++ rnW (xa 9) v_19 ++ [((xa 5), .inl (X.2.1, 3, .inl fr))]) H locs := wd_sub G [0, 1, 2, 3, 4, 5, 6, 7, 8, 9, 10, 11, 12, 13, 14, 15, 16, 17, 19, 18] rfl rfl
            exact join_53 v_19 _ _ _  G hl
          · refine k_it (v := 5) (by rw [q_14]; rfl) ?_
            refine r_aald (C := RX8) (b := (an 6)) S G 2 3 rfl rfl (k_vp (by decide)) rfl dX10_close_53 ?_
            refine b_wv (cells' := 0) (slots' := 0) (wr := xW h0 nw sp xa la lb ++ [(nw, .inr (3, [.int (v 0), .int (v 1), .int (nI (b 0)), .ref (an 0), .ref (an 7), .ref (an 9), .ref (an 11), .ref (an 13)])), ((an 0), .inl (X.2.2.2.2, 6, .inr (.inr (.inr (.inr (rowQ an)))))), ((an 1), .inr (6, [.int (v 10), .int (v 11), .int (v 12), .int (v 13), .int (v 14), .int (v 15), .int (v 16), .int (v 17)])), ((an 2), .inr (6, [.int (v 18), .int (v 19), .int (v 20), .int (v 21), .int (v 22), .int (v 23), .int (v 24), .int (v 25)])), ((an 3), .inr (6, [.int (v 26), .int (v 27), .int (v 28), .int (v 29), .int (v 30), .int (v 31), .int (v 32), .int (v 33)])), ((an 4), .inr (6, [.int (v 34), .int (v 35), .int (v 36), .int (v 37), .int (v 38), .int (v 39), .int (v 40), .int (v 41)])), ((an 5), .inr (6, [.int (v 42), .int (v 43), .int (v 44), .int (v 45), .int (v 46), .int (v 47), .int (v 48), .int (v 49)])), ((an 7), .inr (2, [.ref (an 8), .int (nI (b 1))])), ((an 8), .inl (X.2.1, 248, .inl (g 0))), ((an 9), .inr (5, [.int 5, .int 0, .int 1, .ref (an 10), .int (nI (b 2))])), ((an 10), .inl (X.2.1, 25, .inl (g 1))), ((an 11), .inr (5, [.int 6, .int 1, .int 1, .ref (an 12), .int (nI (b 3))])), ((an 12), .inl (X.2.1, 30, .inl (g 2))), ((an 13), .inr (5, [.int 6, .int 0, .int 0, .ref (an 14), .int (nI (b 4))])), ((an 14), .inl (X.2.1, 30, .inl (g 3)))] ++ rnW (xa 8) v_5 ++ [((xa 5), .inl (X.2.1, 3, .inl fr))]) G rfl rfl [18, 8] [0, 1, 2, 3, 4, 5, 6, 7, 9, 10, 11, 12, 13, 14, 15, 16, 17, 19] rfl rfl rfl rfl (n_V (As := [.ref (an 6)]) (rest := []) (C := RX8) (T := TX8) (N := 8) (ci := 6) S G (s_rcopy l X (xa 9) vr (an 6) (fun k => v (50 + k)) H.size) gX10_close_X8_copyFrom rfl rfl rfl hdV_X8_copyFrom ⟨Nat.le_of_ble_eq_true rfl, Nat.le_of_ble_eq_true rfl⟩ [18, 8] rfl rfl 18 rfl rfl rfl hl.1 (Nat.le_of_ble_eq_true rfl) dX10_close_54 ⟨Nat.le_of_ble_eq_true rfl, Nat.le_of_ble_eq_true rfl⟩) (fun u_20 H locs hp_20 G => ?_)
            obtain ⟨v_20, rfl⟩ : ∃ z, z = u_20 := ⟨_, rfl⟩
            have hq_20 := hp_20
            have G : wd X (va_A (xW h0 nw sp xa la lb ++ rcW X nw an v b g ++ rnW (xa 8) vg ++ rnW (xa 9) vr ++ [((xa 5), .inl (X.2.1, 3, .inl fr))]) sz) (va_A (xW h0 nw sp xa la lb ++ rcW X nw an v b g ++ rnW (xa 8) vg ++ rnW (xa 9) vr ++ [((xa 5), .inl (X.2.1, 3, .inl fr))]) sz) s (xW h0 nw sp xa la lb ++ rcW X nw an v b g ++ rnW (xa 8) v_5 ++ [((xa 5), .inl (X.2.1, 3, .inl fr))] ++ rnW (xa 9) v_20) H locs := wd_sub G [0, 1, 2, 3, 4, 5, 6, 7, 19, 8, 9, 10, 11, 12, 13, 14, 15, 16, 17, 18] rfl rfl
            have G : wd X (va_A (xW h0 nw sp xa la lb ++ rcW X nw an v b g ++ rnW (xa 8) vg ++ rnW (xa 9) vr ++ [((xa 5), .inl (X.2.1, 3, .inl fr))]) sz) (va_A (xW h0 nw sp xa la lb ++ rcW X nw an v b g ++ rnW (xa 8) vg ++ rnW (xa 9) vr ++ [((xa 5), .inl (X.2.1, 3, .inl fr))]) sz) s (xW h0 nw sp xa la lb ++ rcW X nw an v b g ++ rnW (xa 8) v_5 ++ rnW (xa 9) v_20 ++ [((xa 5), .inl (X.2.1, 3, .inl fr))]) H locs := wd_sub G [0, 1, 2, 3, 4, 5, 6, 7, 8, 9, 10, 11, 12, 13, 14, 15, 16, 17, 19, 18] rfl rfl
            exact join_53 v_20 _ _ _  G hl
        · intro v_13 H locs ls  G hl
          refine lv_iconst (v := 0) zx zb dX10_close_57 (by decide) ?_
          refine lv_istore (lv' := [(4, .int 0), (0, .ref h0), (1, .int (nI j_1)), (2, .int (nI i_1)), (3, .int x3)]) zx zb dX10_close_58 hl (by decide) rfl (fun ls hl => ?_)
          refine lv_aload_n zx zb dX10_close_60 rfl (lv_at hl 1 rfl) ?_
          refine r_get (C := RX10) (T := TX10) (N := 14) (ci := 8) (v := .ref (xa 8)) S in_X10_close_X10 G 0 rfl rfl 8 (by decide) lk_X10_close_48 rfl dX10_close_61 ?_
          refine r_get (C := RX8) (T := TX8) (N := 8) (ci := 6) (v := .int (v_5 4)) S in_X10_close_X8 G 17 rfl rfl 4 (by decide) lk_X10_close_137 rfl dX10_close_64 ?_
          refine lv_aload_n zx zb dX10_close_67 rfl (lv_at hl 1 rfl) ?_
          refine r_get (C := RX10) (T := TX10) (N := 14) (ci := 8) (v := .ref (xa 9)) S in_X10_close_X10 G 0 rfl rfl 9 (by decide) lk_X10_close_52 rfl dX10_close_68 ?_
          refine r_get (C := RX8) (T := TX8) (N := 8) (ci := 6) (v := .int (v_13 4)) S in_X10_close_X8 G 18 rfl rfl 4 (by decide) lk_X10_close_137 rfl dX10_close_71 ?_
          refine r_isub (v := ((v_5 4) - (v_13 4))) S rfl dX10_close_74 ?_
          refine r_mabsE S hl.1 mm_X10_close_ml176 mm_X10_close_msabs mm_X10_close_mi mm_X10_close_mcabs (Nat.le_of_ble_eq_true rfl) (Nat.le_of_ble_eq_true rfl) (Nat.zero_le _) (Nat.zero_le _) dX10_close_75 (fun y_21 => ?_)
          refine lv_istore (lv' := [(5, .int y_21), (4, .int 0), (0, .ref h0), (1, .int (nI j_1)), (2, .int (nI i_1)), (3, .int x3)]) zx zb dX10_close_78 hl (by decide) rfl (fun ls hl => ?_)
          refine lv_iconst (v := 1) zx zb dX10_close_80 (by decide) ?_
          refine lv_istore (lv' := [(6, .int 1), (5, .int y_21), (4, .int 0), (0, .ref h0), (1, .int (nI j_1)), (2, .int (nI i_1)), (3, .int x3)]) zx zb dX10_close_81 hl (by decide) rfl (fun ls hl => ?_)
          refine k_loop (P := ∀ (zm : Nat) (k83 : Nat) (x83_5 : Int32) (x83_4 : Int32) (v83_2 : Nat → Int32) (v83_3 : Nat → Int32) (H : Heap) (locs : List Loc) (ls : Array Slot), 61 + 1 ≤ k83 + zm → (k83 ≤ 61) → wd X (va_A (xW h0 nw sp xa la lb ++ rcW X nw an v b g ++ rnW (xa 8) vg ++ rnW (xa 9) vr ++ [((xa 5), .inl (X.2.1, 3, .inl fr))]) sz) (va_A (xW h0 nw sp xa la lb ++ rcW X nw an v b g ++ rnW (xa 8) vg ++ rnW (xa 9) vr ++ [((xa 5), .inl (X.2.1, 3, .inl fr))]) sz) s (xW h0 nw sp xa la lb ++ rcW X nw an v b g ++ rnW (xa 8) v83_2 ++ rnW (xa 9) v83_3 ++ [((xa 5), .inl (X.2.1, 3, .inl fr))]) H locs → lv_has ls 8 [(6, .int (nI k83)), (5, .int x83_5), (4, .int x83_4), (0, .ref h0), (1, .int (nI j_1)), (2, .int (nI i_1)), (3, .int x3)] → W p l e _ s m _ below meth c H locs _ _ _ (F0 m 83 ls [])) (fun loop => loop (61 + 1) 1 y_21 0 v_5 v_13 _ _ _ (by omega) (by omega) G hl) ?_
          intro zm
          induction zm with
          | zero => intro k83 x83_5 x83_4 v83_2 v83_3 H locs ls zz q_hk_k83 _ _; exact absurd zz (by omega)
          | succ zm ih83 =>
            intro k83 x83_5 x83_4 v83_2 v83_3 H locs ls zm_83 hk_k83 G hl
            refine lv_iload zx zb dX10_close_83 (lv_at hl 0 rfl) ?_
            refine lv_bipush (v := 60) zx zb dX10_close_85 (by decide) ?_
            refine lv_icmp_gt (tgt := 179) zx zb dX10_close_87 (by decide) (fun c_22 => ?_) (fun c_22 => ?_)
            · have fc_22 := j_lt (a := 60) (b := k83) (by omega) (by omega) c_22
              refine lv_iload_n zx zb dX10_close_179 rfl (lv_at hl 6 rfl) ?_
              refine k_cutW (PP := fun Wx => ∀ (x_24 : Int32) (H : Heap) (locs : List Loc) (ls : Array Slot), wd X (va_A (xW h0 nw sp xa la lb ++ rcW X nw an v b g ++ rnW (xa 8) vg ++ rnW (xa 9) vr ++ [((xa 5), .inl (X.2.1, 3, .inl fr))]) sz) (va_A (xW h0 nw sp xa la lb ++ rcW X nw an v b g ++ rnW (xa 8) vg ++ rnW (xa 9) vr ++ [((xa 5), .inl (X.2.1, 3, .inl fr))]) sz) s (xW h0 nw sp xa la lb ++ rcW X nw an v b g ++ rnW (xa 8) v83_2 ++ rnW (xa 9) v83_3 ++ [((xa 5), .inl (X.2.1, 3, .inl fr))]) H locs → lv_has ls 8 [(6, .int (nI k83)), (5, .int x83_5), (4, .int x83_4), (0, .ref h0), (1, .int (nI j_1)), (2, .int (nI i_1)), (3, .int x3)] → Wx (F0 m 190 ls [.int x_24]) H locs) ?_ ?_
              · intro join_180
                refine lv_if_ne (tgt := 188) zx zb dX10_close_180 (by decide) (fun c_23 => ?_) (fun c_23 => ?_)
                · refine lv_iload zx zb dX10_close_188 (lv_at hl 1 rfl) ?_
                  exact join_180 x83_5 _ _ _  G hl
                · refine lv_iload zx zb dX10_close_183 (lv_at hl 2 rfl) ?_
                  refine lv_goto (tgt := 190) zx zb dX10_close_185 (by decide) ?_
                  exact join_180 x83_4 _ _ _  G hl
              · intro x_24 H locs ls  G hl
                exact e_int S zr zlk (vp_nar_int _) G (v83_2, v83_3, fr) [0, 1, 2, 3, 4, 5, 6, 7, 8, 9, 10, 11, 12, 13, 14, 15, 16, 17, 18, 19] rfl rfl (Or.inr rfl) (trivial) dX10_close_190
            · have fc_22 := j_nlt (a := 60) (b := k83) (by omega) (by omega) c_22
              refine lv_aload_n zx zb dX10_close_90 rfl (lv_at hl 3 rfl) ?_
              refine r_get (C := RX10) (T := TX10) (N := 14) (ci := 8) (v := .ref (xa 8)) S in_X10_close_X10 G 0 rfl rfl 8 (by decide) lk_X10_close_48 rfl dX10_close_91 ?_
              refine lv_aload_n zx zb dX10_close_94 rfl (lv_at hl 3 rfl) ?_
              refine r_get (C := RX10) (T := TX10) (N := 14) (ci := 8) (v := .ref nw) S in_X10_close_X10 G 0 rfl rfl 0 (by decide) lk_X10_close_10 rfl dX10_close_95 ?_
              refine r_get (C := RX5) (T := TX5) (N := 8) (ci := 3) (v := .int (v 1)) S in_X10_close_X5 G 1 rfl rfl 1 (by decide) lk_X10_close_110 rfl dX10_close_98 ?_
              refine lv_iload zx zb dX10_close_101 (lv_at hl 0 rfl) ?_
              refine r_iadd (v := ((v 1) + (nI k83))) S rfl dX10_close_103 ?_
              refine lv_aload_n zx zb dX10_close_104 rfl (lv_at hl 3 rfl) ?_
              refine r_get (C := RX10) (T := TX10) (N := 14) (ci := 8) (v := .ref nw) S in_X10_close_X10 G 0 rfl rfl 0 (by decide) lk_X10_close_10 rfl dX10_close_105 ?_
              refine r_get (C := RX5) (T := TX5) (N := 8) (ci := 3) (v := .int (v 0)) S in_X10_close_X5 G 1 rfl rfl 0 (by decide) lk_X10_close_140 rfl dX10_close_108 ?_
              refine b_wv (cells' := 0) (slots' := 0) (wr := xW h0 nw sp xa la lb ++ rcW X nw an v b g ++ rnW (xa 9) v83_3 ++ [((xa 5), .inl (X.2.1, 3, .inl fr))]) G rfl rfl [17] [0, 1, 2, 3, 4, 5, 6, 7, 8, 9, 10, 11, 12, 13, 14, 15, 16, 18, 19] rfl rfl rfl rfl (n_V (As := [.int ((v 1) + (nI k83)), .int (v 0)]) (rest := []) (C := RX8) (T := TX8) (N := 8) (ci := 6) S G (s_step l X (xa 8) v83_2 ((v 1) + (nI k83)) (v 0) H.size) gX10_close_X8_step rfl rfl rfl hdV_X8_step ⟨Nat.le_of_ble_eq_true rfl, Nat.le_of_ble_eq_true rfl⟩ [17] rfl rfl 17 rfl rfl rfl hl.1 (Nat.le_of_ble_eq_true rfl) dX10_close_111 ⟨Nat.le_of_ble_eq_true rfl, Nat.le_of_ble_eq_true rfl⟩) (fun u_25 H locs hp_25 G => ?_)
              obtain ⟨v_25, rfl⟩ : ∃ z, z = u_25 := ⟨_, rfl⟩
              have hq_25 := hp_25
              have G : wd X (va_A (xW h0 nw sp xa la lb ++ rcW X nw an v b g ++ rnW (xa 8) vg ++ rnW (xa 9) vr ++ [((xa 5), .inl (X.2.1, 3, .inl fr))]) sz) (va_A (xW h0 nw sp xa la lb ++ rcW X nw an v b g ++ rnW (xa 8) vg ++ rnW (xa 9) vr ++ [((xa 5), .inl (X.2.1, 3, .inl fr))]) sz) s (xW h0 nw sp xa la lb ++ rcW X nw an v b g ++ rnW (xa 9) v83_3 ++ [((xa 5), .inl (X.2.1, 3, .inl fr))] ++ rnW (xa 8) v_25) H locs := G
              refine lv_aload_n zx zb dX10_close_114 rfl (lv_at hl 3 rfl) ?_
              refine r_get (C := RX10) (T := TX10) (N := 14) (ci := 8) (v := .ref (xa 9)) S in_X10_close_X10 G 0 rfl rfl 9 (by decide) lk_X10_close_52 rfl dX10_close_115 ?_
              refine lv_aload_n zx zb dX10_close_118 rfl (lv_at hl 3 rfl) ?_
              refine r_get (C := RX10) (T := TX10) (N := 14) (ci := 8) (v := .ref nw) S in_X10_close_X10 G 0 rfl rfl 0 (by decide) lk_X10_close_10 rfl dX10_close_119 ?_
              refine r_get (C := RX5) (T := TX5) (N := 8) (ci := 3) (v := .int (v 1)) S in_X10_close_X5 G 1 rfl rfl 1 (by decide) lk_X10_close_110 rfl dX10_close_122 ?_
              refine lv_iload zx zb dX10_close_125 (lv_at hl 0 rfl) ?_
              refine r_iadd (v := ((v 1) + (nI k83))) S rfl dX10_close_127 ?_
              refine lv_aload_n zx zb dX10_close_128 rfl (lv_at hl 3 rfl) ?_
              refine r_get (C := RX10) (T := TX10) (N := 14) (ci := 8) (v := .ref nw) S in_X10_close_X10 G 0 rfl rfl 0 (by decide) lk_X10_close_10 rfl dX10_close_129 ?_
              refine r_get (C := RX5) (T := TX5) (N := 8) (ci := 3) (v := .int (v 0)) S in_X10_close_X5 G 1 rfl rfl 0 (by decide) lk_X10_close_140 rfl dX10_close_132 ?_
              refine b_wv (cells' := 0) (slots' := 0) (wr := xW h0 nw sp xa la lb ++ rcW X nw an v b g ++ [((xa 5), .inl (X.2.1, 3, .inl fr))] ++ rnW (xa 8) v_25) G rfl rfl [17] [0, 1, 2, 3, 4, 5, 6, 7, 8, 9, 10, 11, 12, 13, 14, 15, 16, 18, 19] rfl rfl rfl rfl (n_V (As := [.int ((v 1) + (nI k83)), .int (v 0)]) (rest := []) (C := RX8) (T := TX8) (N := 8) (ci := 6) S G (s_step l X (xa 9) v83_3 ((v 1) + (nI k83)) (v 0) H.size) gX10_close_X8_step rfl rfl rfl hdV_X8_step ⟨Nat.le_of_ble_eq_true rfl, Nat.le_of_ble_eq_true rfl⟩ [17] rfl rfl 17 rfl rfl rfl hl.1 (Nat.le_of_ble_eq_true rfl) dX10_close_135 ⟨Nat.le_of_ble_eq_true rfl, Nat.le_of_ble_eq_true rfl⟩) (fun u_26 H locs hp_26 G => ?_)
              obtain ⟨v_26, rfl⟩ : ∃ z, z = u_26 := ⟨_, rfl⟩
              have hq_26 := hp_26
              have G : wd X (va_A (xW h0 nw sp xa la lb ++ rcW X nw an v b g ++ rnW (xa 8) vg ++ rnW (xa 9) vr ++ [((xa 5), .inl (X.2.1, 3, .inl fr))]) sz) (va_A (xW h0 nw sp xa la lb ++ rcW X nw an v b g ++ rnW (xa 8) vg ++ rnW (xa 9) vr ++ [((xa 5), .inl (X.2.1, 3, .inl fr))]) sz) s (xW h0 nw sp xa la lb ++ rcW X nw an v b g ++ [((xa 5), .inl (X.2.1, 3, .inl fr))] ++ rnW (xa 8) v_25 ++ rnW (xa 9) v_26) H locs := G
              refine lv_aload_n zx zb dX10_close_138 rfl (lv_at hl 3 rfl) ?_
              refine r_get (C := RX10) (T := TX10) (N := 14) (ci := 8) (v := .ref (xa 8)) S in_X10_close_X10 G 0 rfl rfl 8 (by decide) lk_X10_close_48 rfl dX10_close_139 ?_
              refine r_get (C := RX8) (T := TX8) (N := 8) (ci := 6) (v := .int (v_25 4)) S in_X10_close_X8 G 18 rfl rfl 4 (by decide) lk_X10_close_137 rfl dX10_close_142 ?_
              refine lv_aload_n zx zb dX10_close_145 rfl (lv_at hl 3 rfl) ?_
              refine r_get (C := RX10) (T := TX10) (N := 14) (ci := 8) (v := .ref (xa 9)) S in_X10_close_X10 G 0 rfl rfl 9 (by decide) lk_X10_close_52 rfl dX10_close_146 ?_
              refine r_get (C := RX8) (T := TX8) (N := 8) (ci := 6) (v := .int (v_26 4)) S in_X10_close_X8 G 19 rfl rfl 4 (by decide) lk_X10_close_137 rfl dX10_close_149 ?_
              refine r_isub (v := ((v_25 4) - (v_26 4))) S rfl dX10_close_152 ?_
              refine r_mabsE S hl.1 mm_X10_close_ml176 mm_X10_close_msabs mm_X10_close_mi mm_X10_close_mcabs (Nat.le_of_ble_eq_true rfl) (Nat.le_of_ble_eq_true rfl) (Nat.zero_le _) (Nat.zero_le _) dX10_close_153 (fun y_27 => ?_)
              refine lv_istore (lv' := [(7, .int y_27), (6, .int (nI k83)), (5, .int x83_5), (4, .int x83_4), (0, .ref h0), (1, .int (nI j_1)), (2, .int (nI i_1)), (3, .int x3)]) zx zb dX10_close_156 hl (by decide) rfl (fun ls hl => ?_)
              refine lv_iload zx zb dX10_close_158 (lv_at hl 0 rfl) ?_
              refine lv_iload zx zb dX10_close_160 (lv_at hl 2 rfl) ?_
              refine k_cutW (PP := fun Wx => ∀ (x_29 : Int32) (x_30 : Int32) (H : Heap) (locs : List Loc) (ls : Array Slot), wd X (va_A (xW h0 nw sp xa la lb ++ rcW X nw an v b g ++ rnW (xa 8) vg ++ rnW (xa 9) vr ++ [((xa 5), .inl (X.2.1, 3, .inl fr))]) sz) (va_A (xW h0 nw sp xa la lb ++ rcW X nw an v b g ++ rnW (xa 8) vg ++ rnW (xa 9) vr ++ [((xa 5), .inl (X.2.1, 3, .inl fr))]) sz) s (xW h0 nw sp xa la lb ++ rcW X nw an v b g ++ [((xa 5), .inl (X.2.1, 3, .inl fr))] ++ rnW (xa 8) v_25 ++ rnW (xa 9) v_26) H locs → lv_has ls 8 [(7, .int y_27), (6, .int (nI k83)), (5, .int x_29), (4, .int x_30), (0, .ref h0), (1, .int (nI j_1)), (2, .int (nI i_1)), (3, .int x3)] → Wx (F0 m 173 ls []) H locs) ?_ ?_
              · intro join_162
                refine lv_icmp_ge (tgt := 173) zx zb dX10_close_162 (by decide) (fun c_28 => ?_) (fun c_28 => ?_)
                · exact join_162 x83_5 x83_4 _ _ _  G hl
                · refine lv_iload zx zb dX10_close_165 (lv_at hl 0 rfl) ?_
                  refine lv_istore (lv' := [(5, .int y_27), (7, .int y_27), (6, .int (nI k83)), (4, .int x83_4), (0, .ref h0), (1, .int (nI j_1)), (2, .int (nI i_1)), (3, .int x3)]) zx zb dX10_close_167 hl (by decide) rfl (fun ls hl => ?_)
                  refine lv_iload zx zb dX10_close_169 (lv_at hl 2 rfl) ?_
                  refine lv_istore (lv' := [(4, .int (nI k83)), (5, .int y_27), (7, .int y_27), (6, .int (nI k83)), (0, .ref h0), (1, .int (nI j_1)), (2, .int (nI i_1)), (3, .int x3)]) zx zb dX10_close_171 hl (by decide) rfl (fun ls hl => ?_)
                  have hl := lv_sub hl (l' := [(7, .int y_27), (6, .int (nI k83)), (5, .int y_27), (4, .int (nI k83)), (0, .ref h0), (1, .int (nI j_1)), (2, .int (nI i_1)), (3, .int x3)]) [2, 3, 1, 0, 4, 5, 6, 7] rfl
                  exact join_162 y_27 (nI k83) _ _ _  G hl
              · intro x_29 x_30 H locs ls  G hl
                refine lv_iinc (v := (nI (k83 + 1))) (lv' := [(6, .int (nI (k83 + 1))), (7, .int y_27), (5, .int x_29), (4, .int x_30), (0, .ref h0), (1, .int (nI j_1)), (2, .int (nI i_1)), (3, .int x3)]) zx zb dX10_close_173 hl (k := 1) rfl (nI_add k83 1) (by decide) rfl (fun ls hl => ?_)
                refine lv_goto (tgt := 83) zx zb dX10_close_176 (by decide) ?_
                have G : wd X (va_A (xW h0 nw sp xa la lb ++ rcW X nw an v b g ++ rnW (xa 8) vg ++ rnW (xa 9) vr ++ [((xa 5), .inl (X.2.1, 3, .inl fr))]) sz) (va_A (xW h0 nw sp xa la lb ++ rcW X nw an v b g ++ rnW (xa 8) vg ++ rnW (xa 9) vr ++ [((xa 5), .inl (X.2.1, 3, .inl fr))]) sz) s (xW h0 nw sp xa la lb ++ rcW X nw an v b g ++ rnW (xa 8) v_25 ++ rnW (xa 9) v_26 ++ [((xa 5), .inl (X.2.1, 3, .inl fr))]) H locs := wd_sub G [0, 1, 2, 3, 4, 5, 6, 7, 8, 9, 10, 11, 12, 13, 14, 15, 16, 18, 19, 17] rfl rfl
                have hl := lv_sub hl (l' := [(6, .int (nI (k83 + 1))), (5, .int x_29), (4, .int x_30), (0, .ref h0), (1, .int (nI j_1)), (2, .int (nI i_1)), (3, .int x3)]) [0, 2, 3, 4, 5, 6, 7] rfl
                exact ih83 (k83 + 1) x_29 x_30 v_25 v_26 _ _ _ (by omega) (by omega) G hl
    · refine lv_if_ne (tgt := 25) zx zb dX10_close_15 (by decide) (fun c_31 => absurd (by decide) c_31) (fun c_31 => ?_)
      refine lv_aload_n zx zb dX10_close_18 rfl (lv_at hl 0 rfl) ?_
      refine lv_bipush (v := (-2)) zx zb dX10_close_19 (by decide) ?_
      refine b_wi (cells' := 0) (slots' := 0) (wr := rcW X nw an v b g ++ rnW (xa 8) vg ++ rnW (xa 9) vr) G rfl rfl [0, 19] [1, 2, 3, 4, 5, 6, 7, 8, 9, 10, 11, 12, 13, 14, 15, 16, 17, 18] rfl rfl rfl rfl (n_V (As := [.int (-2)]) (rest := []) (C := RX10) (T := TX10) (N := 14) (ci := 8) S G (s_refuse l X h0 nw sp xa la lb fr (-2) H.size) gX10_close_X10_refuse rfl rfl rfl hdV_X10_refuse ⟨Nat.le_of_ble_eq_true rfl, Nat.le_of_ble_eq_true rfl⟩ [0, 19] rfl rfl 0 rfl rfl rfl hl.1 (Nat.le_of_ble_eq_true rfl) dX10_close_21 ⟨Nat.le_of_ble_eq_true rfl, Nat.le_of_ble_eq_true rfl⟩) (fun r_32 u_32 H locs hp_32 G => ?_)
      obtain ⟨f_32, rfl⟩ : ∃ z, z = u_32 := ⟨_, rfl⟩
      have hq_32 := hp_32
      have G : wd X (va_A (xW h0 nw sp xa la lb ++ rcW X nw an v b g ++ rnW (xa 8) vg ++ rnW (xa 9) vr ++ [((xa 5), .inl (X.2.1, 3, .inl fr))]) sz) (va_A (xW h0 nw sp xa la lb ++ rcW X nw an v b g ++ rnW (xa 8) vg ++ rnW (xa 9) vr ++ [((xa 5), .inl (X.2.1, 3, .inl fr))]) sz) s (rcW X nw an v b g ++ rnW (xa 8) vg ++ rnW (xa 9) vr ++ xW h0 nw sp xa la lb ++ [((xa 5), .inl (X.2.1, 3, .inl f_32))]) H locs := G
      exact e_int S zr zlk (vp_nar_int _) G (vg, vr, f_32) [18, 0, 1, 2, 3, 4, 5, 6, 7, 8, 9, 10, 11, 12, 13, 14, 15, 16, 17, 19] rfl rfl (Or.inr rfl) (trivial) dX10_close_24
  · refine lv_if_eq (tgt := 18) zx zb dX10_close_6 (by decide) (fun c_33 => ?_) (fun c_33 => absurd (by decide) c_33)
    refine lv_aload_n zx zb dX10_close_18 rfl (lv_at hl 0 rfl) ?_
    refine lv_bipush (v := (-2)) zx zb dX10_close_19 (by decide) ?_
    refine b_wi (cells' := 0) (slots' := 0) (wr := rcW X nw an v b g ++ rnW (xa 8) vg ++ rnW (xa 9) vr) G rfl rfl [0, 19] [1, 2, 3, 4, 5, 6, 7, 8, 9, 10, 11, 12, 13, 14, 15, 16, 17, 18] rfl rfl rfl rfl (n_V (As := [.int (-2)]) (rest := []) (C := RX10) (T := TX10) (N := 14) (ci := 8) S G (s_refuse l X h0 nw sp xa la lb fr (-2) H.size) gX10_close_X10_refuse rfl rfl rfl hdV_X10_refuse ⟨Nat.le_of_ble_eq_true rfl, Nat.le_of_ble_eq_true rfl⟩ [0, 19] rfl rfl 0 rfl rfl rfl hl.1 (Nat.le_of_ble_eq_true rfl) dX10_close_21 ⟨Nat.le_of_ble_eq_true rfl, Nat.le_of_ble_eq_true rfl⟩) (fun r_34 u_34 H locs hp_34 G => ?_)
    obtain ⟨f_34, rfl⟩ : ∃ z, z = u_34 := ⟨_, rfl⟩
    have hq_34 := hp_34
    have G : wd X (va_A (xW h0 nw sp xa la lb ++ rcW X nw an v b g ++ rnW (xa 8) vg ++ rnW (xa 9) vr ++ [((xa 5), .inl (X.2.1, 3, .inl fr))]) sz) (va_A (xW h0 nw sp xa la lb ++ rcW X nw an v b g ++ rnW (xa 8) vg ++ rnW (xa 9) vr ++ [((xa 5), .inl (X.2.1, 3, .inl fr))]) sz) s (rcW X nw an v b g ++ rnW (xa 8) vg ++ rnW (xa 9) vr ++ xW h0 nw sp xa la lb ++ [((xa 5), .inl (X.2.1, 3, .inl f_34))]) H locs := G
    exact e_int S zr zlk (vp_nar_int _) G (vg, vr, f_34) [18, 0, 1, 2, 3, 4, 5, 6, 7, 8, 9, 10, 11, 12, 13, 14, 15, 16, 17, 19] rfl rfl (Or.inr rfl) (trivial) dX10_close_24
