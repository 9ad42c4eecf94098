set_option maxRecDepth 20000 in
theorem ggX11_goOne_X11_drop : GoodIn wsX11_goOne wsX11_drop := goodIn_r _ [13] rfl (by decide +kernel)
set_option maxRecDepth 20000 in
theorem gX11_goOne_X11_drop : GoodIn wsX11_goOne (va_wsS RX11 98 yX11_drop wsX11_drop) := goodIn_app (goodIn_of _ (by decide +kernel)) ggX11_goOne_X11_drop
set_option maxRecDepth 20000 in
theorem ggX11_goOne_X11_mayAs : GoodIn wsX11_goOne wsX11_mayAs := goodIn_r _ [10] rfl (by decide +kernel)
set_option maxRecDepth 20000 in
theorem gX11_goOne_X11_mayAs : GoodIn wsX11_goOne (va_wsS RX11 94 yX11_mayAs wsX11_mayAs) := goodIn_app (goodIn_of _ (by decide +kernel)) ggX11_goOne_X11_mayAs
set_option maxRecDepth 20000 in
theorem ggX11_goOne_X11_runsOf : GoodIn wsX11_goOne wsX11_runsOf := goodIn_r _ [4, 5, 6, 3, 7] rfl (by decide +kernel)
set_option maxRecDepth 20000 in
theorem gX11_goOne_X11_runsOf : GoodIn wsX11_goOne (va_wsS RX11 90 yX11_runsOf wsX11_runsOf) := goodIn_app (goodIn_of _ (by decide +kernel)) ggX11_goOne_X11_runsOf
set_option maxRecDepth 20000 in
theorem ggX11_goTick_X11_goOne : GoodIn wsX11_goTick wsX11_goOne := goodIn_r _ [7, 8, 9, 3, 10, 11, 12, 13, 14, 15, 16, 17, 18, 19] rfl (by decide +kernel)
set_option maxRecDepth 20000 in
theorem gX11_goTick_X11_goOne : GoodIn wsX11_goTick (va_wsS RX11 105 yX11_goOne wsX11_goOne) := goodIn_app (goodIn_of _ (by decide +kernel)) ggX11_goTick_X11_goOne
set_option maxRecDepth 20000 in
theorem ggX11_goTick_X11_isHome : GoodIn wsX11_goTick wsX11_isHome := goodIn_r _ [4] rfl (by decide +kernel)
set_option maxRecDepth 20000 in
theorem gX11_goTick_X11_isHome : GoodIn wsX11_goTick (va_wsS RX11 101 yX11_isHome wsX11_isHome) := goodIn_app (goodIn_of _ (by decide +kernel)) ggX11_goTick_X11_isHome
set_option maxRecDepth 20000 in
theorem ggX11_goTicks_X11_goTick : GoodIn wsX11_goTicks wsX11_goTick := goodIn_r _ [4, 5, 6, 3, 7, 8, 9, 10, 11, 12, 13, 14, 15, 16, 17, 18, 19, 20, 21, 22] rfl (by decide +kernel)
set_option maxRecDepth 20000 in
theorem gX11_goTicks_X11_goTick : GoodIn wsX11_goTicks (va_wsS RX11 109 yX11_goTick wsX11_goTick) := goodIn_app (goodIn_of _ (by decide +kernel)) ggX11_goTicks_X11_goTick
set_option maxRecDepth 20000 in
theorem ggX11_isKind_X11_in : GoodIn wsX11_isKind wsX11_in := goodIn_r _ [5] rfl (by decide +kernel)
set_option maxRecDepth 20000 in
theorem gX11_isKind_X11_in : GoodIn wsX11_isKind (va_wsS RX11 56 yX11_in wsX11_in) := goodIn_app (goodIn_of _ (by decide +kernel)) ggX11_isKind_X11_in
set_option maxRecDepth 20000 in
theorem ggX11_isLegs_X11_in : GoodIn wsX11_isLegs wsX11_in := goodIn_r _ [5] rfl (by decide +kernel)
set_option maxRecDepth 20000 in
theorem gX11_isLegs_X11_in : GoodIn wsX11_isLegs (va_wsS RX11 56 yX11_in wsX11_in) := goodIn_app (goodIn_of _ (by decide +kernel)) ggX11_isLegs_X11_in
set_option maxRecDepth 20000 in
theorem ggX11_isOne_X11_in : GoodIn wsX11_isOne wsX11_in := goodIn_r _ [9] rfl (by decide +kernel)
set_option maxRecDepth 20000 in
theorem gX11_isOne_X11_in : GoodIn wsX11_isOne (va_wsS RX11 56 yX11_in wsX11_in) := goodIn_app (goodIn_of _ (by decide +kernel)) ggX11_isOne_X11_in
set_option maxRecDepth 20000 in
theorem ggX11_isOne_X11_many : GoodIn wsX11_isOne wsX11_many := goodIn_r _ [5, 6, 10, 11, 12, 13, 14, 15, 16, 17, 18, 19, 20, 21, 22, 23, 24, 25, 26, 27] rfl (by decide +kernel)
set_option maxRecDepth 20000 in
theorem gX11_isOne_X11_many : GoodIn wsX11_isOne (wsV RX11 52 RX11 yX11_many wsX11_many) := goodIn_app (goodIn_of _ (by decide +kernel)) ggX11_isOne_X11_many
set_option maxRecDepth 20000 in
theorem ggX11_isSpeed_X11_in : GoodIn wsX11_isSpeed wsX11_in := goodIn_r _ [5] rfl (by decide +kernel)
set_option maxRecDepth 20000 in
theorem gX11_isSpeed_X11_in : GoodIn wsX11_isSpeed (va_wsS RX11 56 yX11_in wsX11_in) := goodIn_app (goodIn_of _ (by decide +kernel)) ggX11_isSpeed_X11_in
set_option maxRecDepth 20000 in
theorem ggX11_manyHome_X11_isHome : GoodIn wsX11_manyHome wsX11_isHome := goodIn_r _ [4] rfl (by decide +kernel)
set_option maxRecDepth 20000 in
theorem gX11_manyHome_X11_isHome : GoodIn wsX11_manyHome (va_wsS RX11 101 yX11_isHome wsX11_isHome) := goodIn_app (goodIn_of _ (by decide +kernel)) ggX11_manyHome_X11_isHome
set_option maxRecDepth 20000 in
theorem ggX11_one_X11_bad : GoodIn wsX11_one wsX11_bad := goodIn_r _ [17, 18, 30, 31, 32, 33, 34, 35, 36, 37, 38, 39, 40, 41, 42, 43, 44, 45, 46, 47] rfl (by decide +kernel)
set_option maxRecDepth 20000 in
theorem gX11_one_X11_bad : GoodIn wsX11_one (wsV RX11 68 RX11 yX11_bad wsX11_bad) := goodIn_app (goodIn_of _ (by decide +kernel)) ggX11_one_X11_bad
set_option maxRecDepth 20000 in
theorem ggX11_one_X11_full : GoodIn wsX11_one wsX11_full := goodIn_r _ [26, 18, 30, 31, 32, 33, 34, 35, 36, 37, 38, 39, 40, 41, 42, 43, 44, 45, 46, 47] rfl (by decide +kernel)
set_option maxRecDepth 20000 in
theorem gX11_one_X11_full : GoodIn wsX11_one (wsV RX11 79 RX11 yX11_full wsX11_full) := goodIn_app (goodIn_of _ (by decide +kernel)) ggX11_one_X11_full
set_option maxRecDepth 20000 in
theorem ggX11_one_X11_isKind : GoodIn wsX11_one wsX11_isKind := goodIn_r _ [5, 6, 7, 8, 4, 9] rfl (by decide +kernel)
set_option maxRecDepth 20000 in
theorem gX11_one_X11_isKind : GoodIn wsX11_one (va_wsS RX11 72 yX11_isKind wsX11_isKind) := goodIn_app (goodIn_of _ (by decide +kernel)) ggX11_one_X11_isKind
set_option maxRecDepth 20000 in
theorem ggX11_one_X11_isLegs : GoodIn wsX11_one wsX11_isLegs := goodIn_r _ [12, 13, 7, 8, 4, 9] rfl (by decide +kernel)
set_option maxRecDepth 20000 in
theorem gX11_one_X11_isLegs : GoodIn wsX11_one (va_wsS RX11 76 yX11_isLegs wsX11_isLegs) := goodIn_app (goodIn_of _ (by decide +kernel)) ggX11_one_X11_isLegs
set_option maxRecDepth 20000 in
theorem ggX11_one_X11_layOne : GoodIn wsX11_one wsX11_layOne := goodIn_r _ [29] rfl (by decide +kernel)
set_option maxRecDepth 20000 in
theorem gX11_one_X11_layOne : GoodIn wsX11_one (va_wsS RX11 82 yX11_layOne wsX11_layOne) := goodIn_app (goodIn_of _ (by decide +kernel)) ggX11_one_X11_layOne
set_option maxRecDepth 20000 in
theorem ggX11_one_X11_many : GoodIn wsX11_one wsX11_many := goodIn_r _ [22, 1, 30, 31, 32, 33, 34, 35, 36, 37, 38, 39, 40, 41, 42, 43, 44, 45, 46, 47] rfl (by decide +kernel)
set_option maxRecDepth 20000 in
theorem gX11_one_X11_many : GoodIn wsX11_one (wsV RX11 52 RX11 yX11_many wsX11_many) := goodIn_app (goodIn_of _ (by decide +kernel)) ggX11_one_X11_many
set_option maxRecDepth 20000 in
theorem ggX11_race_X11_bad : GoodIn wsX11_race wsX11_bad := goodIn_r _ [11, 12, 20, 21, 22, 23, 24, 25, 26, 27, 28, 29, 30, 31, 32, 33, 34, 35, 36, 37] rfl (by decide +kernel)
set_option maxRecDepth 20000 in
theorem gX11_race_X11_bad : GoodIn wsX11_race (wsV RX11 68 RX11 yX11_bad wsX11_bad) := goodIn_app (goodIn_of _ (by decide +kernel)) ggX11_race_X11_bad
set_option maxRecDepth 20000 in
theorem ggX11_race_X11_begin : GoodIn wsX11_race wsX11_begin := goodIn_r _ [19] rfl (by decide +kernel)
set_option maxRecDepth 20000 in
theorem gX11_race_X11_begin : GoodIn wsX11_race (va_wsS RX11 48 yX11_begin wsX11_begin) := goodIn_app (goodIn_of _ (by decide +kernel)) ggX11_race_X11_begin
set_option maxRecDepth 20000 in
theorem ggX11_race_X11_in : GoodIn wsX11_race wsX11_in := goodIn_r _ [7] rfl (by decide +kernel)
set_option maxRecDepth 20000 in
theorem gX11_race_X11_in : GoodIn wsX11_race (va_wsS RX11 56 yX11_in wsX11_in) := goodIn_app (goodIn_of _ (by decide +kernel)) ggX11_race_X11_in
set_option maxRecDepth 20000 in
theorem ggX11_race_X11_many : GoodIn wsX11_race wsX11_many := goodIn_r _ [16, 3, 20, 21, 22, 23, 24, 25, 26, 27, 28, 29, 30, 31, 32, 33, 34, 35, 36, 37] rfl (by decide +kernel)
set_option maxRecDepth 20000 in
theorem gX11_race_X11_many : GoodIn wsX11_race (wsV RX11 52 RX11 yX11_many wsX11_many) := goodIn_app (goodIn_of _ (by decide +kernel)) ggX11_race_X11_many
set_option maxRecDepth 20000 in
theorem ggX11_runsOf_X11_runsAs : GoodIn wsX11_runsOf wsX11_runsAs := goodIn_r _ [4] rfl (by decide +kernel)
set_option maxRecDepth 20000 in
theorem gX11_runsOf_X11_runsAs : GoodIn wsX11_runsOf (va_wsS RX11 86 yX11_runsAs wsX11_runsAs) := goodIn_app (goodIn_of _ (by decide +kernel)) ggX11_runsOf_X11_runsAs
set_option maxRecDepth 20000 in
theorem ggX11_speed_X11_bad : GoodIn wsX11_speed wsX11_bad := goodIn_r _ [21, 22, 34, 35, 36, 37, 38, 39, 40, 41, 42, 43, 44, 45, 46, 47, 48, 49, 50, 51] rfl (by decide +kernel)
set_option maxRecDepth 20000 in
theorem gX11_speed_X11_bad : GoodIn wsX11_speed (wsV RX11 68 RX11 yX11_bad wsX11_bad) := goodIn_app (goodIn_of _ (by decide +kernel)) ggX11_speed_X11_bad
set_option maxRecDepth 20000 in
theorem ggX11_speed_X11_isHome : GoodIn wsX11_speed wsX11_isHome := goodIn_r _ [25] rfl (by decide +kernel)
set_option maxRecDepth 20000 in
theorem gX11_speed_X11_isHome : GoodIn wsX11_speed (va_wsS RX11 101 yX11_isHome wsX11_isHome) := goodIn_app (goodIn_of _ (by decide +kernel)) ggX11_speed_X11_isHome
set_option maxRecDepth 20000 in
theorem ggX11_speed_X11_isOne : GoodIn wsX11_speed wsX11_isOne := goodIn_r _ [6, 7, 8, 9, 5, 10, 1, 11, 12, 13, 34, 35, 36, 37, 38, 39, 40, 41, 42, 43, 44, 45, 46, 47, 48, 49, 50, 51] rfl (by decide +kernel)
set_option maxRecDepth 20000 in
theorem gX11_speed_X11_isOne : GoodIn wsX11_speed (wsV RX11 123 RX11 yX11_isOne wsX11_isOne) := goodIn_app (goodIn_of _ (by decide +kernel)) ggX11_speed_X11_isOne
set_option maxRecDepth 20000 in
theorem ggX11_speed_X11_isSpeed : GoodIn wsX11_speed wsX11_isSpeed := goodIn_r _ [16, 17, 11, 12, 5, 13] rfl (by decide +kernel)
set_option maxRecDepth 20000 in
theorem gX11_speed_X11_isSpeed : GoodIn wsX11_speed (va_wsS RX11 126 yX11_isSpeed wsX11_isSpeed) := goodIn_app (goodIn_of _ (by decide +kernel)) ggX11_speed_X11_isSpeed
set_option maxRecDepth 20000 in
theorem ggX11_speed_X11_no : GoodIn wsX11_speed wsX11_no := goodIn_r _ [29, 22, 34, 35, 36, 37, 38, 39, 40, 41, 42, 43, 44, 45, 46, 47, 48, 49, 50, 51] rfl (by decide +kernel)
set_option maxRecDepth 20000 in
theorem gX11_speed_X11_no : GoodIn wsX11_speed (wsV RX11 129 RX11 yX11_no wsX11_no) := goodIn_app (goodIn_of _ (by decide +kernel)) ggX11_speed_X11_no
set_option maxRecDepth 20000 in
theorem ggX11_speed_X11_save : GoodIn wsX11_speed wsX11_save := goodIn_r _ [33, 1, 34, 35, 36, 37, 38, 39, 40, 41, 42, 43, 44, 45, 46, 47, 48, 49, 50, 51] rfl (by decide +kernel)
set_option maxRecDepth 20000 in
theorem gX11_speed_X11_save : GoodIn wsX11_speed (wsV RX11 113 RX11 yX11_save wsX11_save) := goodIn_app (goodIn_of _ (by decide +kernel)) ggX11_speed_X11_save
set_option maxRecDepth 20000 in
theorem ggX11_ticks_X11_bad : GoodIn wsX11_ticks wsX11_bad := goodIn_r _ [10, 11, 43, 44, 45, 46, 47, 48, 49, 50, 51, 52, 53, 54, 55, 56, 57, 58, 59, 60] rfl (by decide +kernel)
set_option maxRecDepth 20000 in
theorem gX11_ticks_X11_bad : GoodIn wsX11_ticks (wsV RX11 68 RX11 yX11_bad wsX11_bad) := goodIn_app (goodIn_of _ (by decide +kernel)) ggX11_ticks_X11_bad
set_option maxRecDepth 20000 in
theorem ggX11_ticks_X11_goTicks : GoodIn wsX11_ticks wsX11_goTicks := goodIn_r _ [18, 19, 20, 5, 21, 22, 23, 24, 25, 26, 27, 28, 29, 30, 31, 32, 33, 34, 35, 36, 37, 38, 39] rfl (by decide +kernel)
set_option maxRecDepth 20000 in
theorem gX11_ticks_X11_goTicks : GoodIn wsX11_ticks (va_wsS RX11 116 yX11_goTicks wsX11_goTicks) := goodIn_app (goodIn_of _ (by decide +kernel)) ggX11_ticks_X11_goTicks
set_option maxRecDepth 20000 in
theorem ggX11_ticks_X11_in : GoodIn wsX11_ticks wsX11_in := goodIn_r _ [6] rfl (by decide +kernel)
set_option maxRecDepth 20000 in
theorem gX11_ticks_X11_in : GoodIn wsX11_ticks (va_wsS RX11 56 yX11_in wsX11_in) := goodIn_app (goodIn_of _ (by decide +kernel)) ggX11_ticks_X11_in
set_option maxRecDepth 20000 in
theorem ggX11_ticks_X11_manyHome : GoodIn wsX11_ticks wsX11_manyHome := goodIn_r _ [42, 22, 23, 5, 24] rfl (by decide +kernel)
set_option maxRecDepth 20000 in
theorem gX11_ticks_X11_manyHome : GoodIn wsX11_ticks (va_wsS RX11 119 yX11_manyHome wsX11_manyHome) := goodIn_app (goodIn_of _ (by decide +kernel)) ggX11_ticks_X11_manyHome
set_option maxRecDepth 20000 in
theorem ggX11_ticks_X11_save : GoodIn wsX11_ticks wsX11_save := goodIn_r _ [15, 2, 43, 44, 45, 46, 47, 48, 49, 50, 51, 52, 53, 54, 55, 56, 57, 58, 59, 60] rfl (by decide +kernel)
set_option maxRecDepth 20000 in
theorem gX11_ticks_X11_save : GoodIn wsX11_ticks (wsV RX11 113 RX11 yX11_save wsX11_save) := goodIn_app (goodIn_of _ (by decide +kernel)) ggX11_ticks_X11_save
theorem dX11_bad_0 : decode cX11_bad 0 = .ok (.aload_n 0, 1) := by decide +kernel
theorem dX11_bad_1 : decode cX11_bad 1 = .ok (.getfield 20, 3) := by decide +kernel
theorem dX11_bad_10 : decode cX11_bad 10 = .ok (.iload_n 1, 1) := by decide +kernel
theorem dX11_bad_11 : decode cX11_bad 11 = .ok (.ireturn, 1) := by decide +kernel
theorem dX11_bad_4 : decode cX11_bad 4 = .ok (.iconst 0, 1) := by decide +kernel
theorem dX11_bad_5 : decode cX11_bad 5 = .ok (.dup2, 1) := by decide +kernel
theorem dX11_bad_6 : decode cX11_bad 6 = .ok (.iaload, 1) := by decide +kernel
theorem dX11_bad_7 : decode cX11_bad 7 = .ok (.iconst 1, 1) := by decide +kernel
theorem dX11_bad_8 : decode cX11_bad 8 = .ok (.iadd, 1) := by decide +kernel
theorem dX11_bad_9 : decode cX11_bad 9 = .ok (.iastore, 1) := by decide +kernel
theorem dX11_begin_0 : decode cX11_begin 0 = .ok (.iconst 0, 1) := by decide +kernel
theorem dX11_begin_1 : decode cX11_begin 1 = .ok (.istore_n 2, 1) := by decide +kernel
theorem dX11_begin_10 : decode cX11_begin 10 = .ok (.iconst 0, 1) := by decide +kernel
theorem dX11_begin_11 : decode cX11_begin 11 = .ok (.iastore, 1) := by decide +kernel
theorem dX11_begin_12 : decode cX11_begin 12 = .ok (.iinc 2 1, 3) := by decide +kernel
theorem dX11_begin_15 : decode cX11_begin 15 = .ok (.goto (-13), 3) := by decide +kernel
theorem dX11_begin_18 : decode cX11_begin 18 = .ok (.aload_n 0, 1) := by decide +kernel
theorem dX11_begin_19 : decode cX11_begin 19 = .ok (.bipush 36, 2) := by decide +kernel
theorem dX11_begin_2 : decode cX11_begin 2 = .ok (.iload_n 2, 1) := by decide +kernel
theorem dX11_begin_21 : decode cX11_begin 21 = .ok (.iload_n 1, 1) := by decide +kernel
theorem dX11_begin_22 : decode cX11_begin 22 = .ok (.iastore, 1) := by decide +kernel
theorem dX11_begin_23 : decode cX11_begin 23 = .ok (.return_, 1) := by decide +kernel
theorem dX11_begin_3 : decode cX11_begin 3 = .ok (.bipush 123, 2) := by decide +kernel
theorem dX11_begin_5 : decode cX11_begin 5 = .ok (.if_icmp .ge 13, 3) := by decide +kernel
theorem dX11_begin_8 : decode cX11_begin 8 = .ok (.aload_n 0, 1) := by decide +kernel
theorem dX11_begin_9 : decode cX11_begin 9 = .ok (.iload_n 2, 1) := by decide +kernel
theorem dX11_drop_0 : decode cX11_drop 0 = .ok (.aload_n 0, 1) := by decide +kernel
theorem dX11_drop_1 : decode cX11_drop 1 = .ok (.bipush 17, 2) := by decide +kernel
theorem dX11_drop_10 : decode cX11_drop 10 = .ok (.iload_n 1, 1) := by decide +kernel
theorem dX11_drop_11 : decode cX11_drop 11 = .ok (.iadd, 1) := by decide +kernel
theorem dX11_drop_12 : decode cX11_drop 12 = .ok (.iaload, 1) := by decide +kernel
theorem dX11_drop_13 : decode cX11_drop 13 = .ok (.bipush 99, 2) := by decide +kernel
theorem dX11_drop_15 : decode cX11_drop 15 = .ok (.if_icmp .ge 7, 3) := by decide +kernel
theorem dX11_drop_18 : decode cX11_drop 18 = .ok (.iconst 1, 1) := by decide +kernel
theorem dX11_drop_19 : decode cX11_drop 19 = .ok (.goto 4, 3) := by decide +kernel
theorem dX11_drop_22 : decode cX11_drop 22 = .ok (.iconst 0, 1) := by decide +kernel
theorem dX11_drop_23 : decode cX11_drop 23 = .ok (.iadd, 1) := by decide +kernel
theorem dX11_drop_24 : decode cX11_drop 24 = .ok (.iastore, 1) := by decide +kernel
theorem dX11_drop_25 : decode cX11_drop 25 = .ok (.aload_n 0, 1) := by decide +kernel
theorem dX11_drop_26 : decode cX11_drop 26 = .ok (.bipush 23, 2) := by decide +kernel
theorem dX11_drop_28 : decode cX11_drop 28 = .ok (.iload_n 1, 1) := by decide +kernel
theorem dX11_drop_29 : decode cX11_drop 29 = .ok (.iadd, 1) := by decide +kernel
theorem dX11_drop_3 : decode cX11_drop 3 = .ok (.iload_n 1, 1) := by decide +kernel
theorem dX11_drop_30 : decode cX11_drop 30 = .ok (.iconst 2, 1) := by decide +kernel
theorem dX11_drop_31 : decode cX11_drop 31 = .ok (.iastore, 1) := by decide +kernel
theorem dX11_drop_32 : decode cX11_drop 32 = .ok (.return_, 1) := by decide +kernel
theorem dX11_drop_4 : decode cX11_drop 4 = .ok (.iadd, 1) := by decide +kernel
theorem dX11_drop_5 : decode cX11_drop 5 = .ok (.dup2, 1) := by decide +kernel
theorem dX11_drop_6 : decode cX11_drop 6 = .ok (.iaload, 1) := by decide +kernel
theorem dX11_drop_7 : decode cX11_drop 7 = .ok (.aload_n 0, 1) := by decide +kernel
theorem dX11_drop_8 : decode cX11_drop 8 = .ok (.bipush 17, 2) := by decide +kernel
theorem dX11_full_0 : decode cX11_full 0 = .ok (.aload_n 0, 1) := by decide +kernel
theorem dX11_full_1 : decode cX11_full 1 = .ok (.getfield 20, 3) := by decide +kernel
theorem dX11_full_10 : decode cX11_full 10 = .ok (.bipush (-4), 2) := by decide +kernel
theorem dX11_full_12 : decode cX11_full 12 = .ok (.ireturn, 1) := by decide +kernel
theorem dX11_full_4 : decode cX11_full 4 = .ok (.iconst 2, 1) := by decide +kernel
theorem dX11_full_5 : decode cX11_full 5 = .ok (.dup2, 1) := by decide +kernel
theorem dX11_full_6 : decode cX11_full 6 = .ok (.iaload, 1) := by decide +kernel
theorem dX11_full_7 : decode cX11_full 7 = .ok (.iconst 1, 1) := by decide +kernel
theorem dX11_full_8 : decode cX11_full 8 = .ok (.iadd, 1) := by decide +kernel
theorem dX11_full_9 : decode cX11_full 9 = .ok (.iastore, 1) := by decide +kernel
theorem dX11_goOne_0 : decode cX11_goOne 0 = .ok (.aload_n 0, 1) := by decide +kernel
theorem dX11_goOne_1 : decode cX11_goOne 1 = .ok (.bipush 35, 2) := by decide +kernel
theorem dX11_goOne_11 : decode cX11_goOne 11 = .ok (.istore 4, 2) := by decide +kernel
theorem dX11_goOne_13 : decode cX11_goOne 13 = .ok (.aload_n 0, 1) := by decide +kernel
theorem dX11_goOne_14 : decode cX11_goOne 14 = .ok (.bipush 23, 2) := by decide +kernel
theorem dX11_goOne_16 : decode cX11_goOne 16 = .ok (.iload_n 1, 1) := by decide +kernel
theorem dX11_goOne_17 : decode cX11_goOne 17 = .ok (.iadd, 1) := by decide +kernel
theorem dX11_goOne_18 : decode cX11_goOne 18 = .ok (.iaload, 1) := by decide +kernel
theorem dX11_goOne_19 : decode cX11_goOne 19 = .ok (.ifCond .le 16, 3) := by decide +kernel
theorem dX11_goOne_22 : decode cX11_goOne 22 = .ok (.aload_n 0, 1) := by decide +kernel
theorem dX11_goOne_23 : decode cX11_goOne 23 = .ok (.bipush 23, 2) := by decide +kernel
theorem dX11_goOne_25 : decode cX11_goOne 25 = .ok (.iload_n 1, 1) := by decide +kernel
theorem dX11_goOne_26 : decode cX11_goOne 26 = .ok (.iadd, 1) := by decide +kernel
theorem dX11_goOne_27 : decode cX11_goOne 27 = .ok (.dup2, 1) := by decide +kernel
theorem dX11_goOne_28 : decode cX11_goOne 28 = .ok (.iaload, 1) := by decide +kernel
theorem dX11_goOne_29 : decode cX11_goOne 29 = .ok (.iconst 1, 1) := by decide +kernel
theorem dX11_goOne_3 : decode cX11_goOne 3 = .ok (.iaload, 1) := by decide +kernel
theorem dX11_goOne_30 : decode cX11_goOne 30 = .ok (.isub, 1) := by decide +kernel
theorem dX11_goOne_31 : decode cX11_goOne 31 = .ok (.iastore, 1) := by decide +kernel
theorem dX11_goOne_32 : decode cX11_goOne 32 = .ok (.goto 63, 3) := by decide +kernel
theorem dX11_goOne_35 : decode cX11_goOne 35 = .ok (.iload_n 2, 1) := by decide +kernel
theorem dX11_goOne_36 : decode cX11_goOne 36 = .ok (.ifCond .ne 18, 3) := by decide +kernel
theorem dX11_goOne_39 : decode cX11_goOne 39 = .ok (.iload 4, 2) := by decide +kernel
theorem dX11_goOne_4 : decode cX11_goOne 4 = .ok (.istore_n 3, 1) := by decide +kernel
theorem dX11_goOne_41 : decode cX11_goOne 41 = .ok (.aload_n 0, 1) := by decide +kernel
theorem dX11_goOne_42 : decode cX11_goOne 42 = .ok (.bipush 49, 2) := by decide +kernel
theorem dX11_goOne_44 : decode cX11_goOne 44 = .ok (.iload_n 1, 1) := by decide +kernel
theorem dX11_goOne_45 : decode cX11_goOne 45 = .ok (.iadd, 1) := by decide +kernel
theorem dX11_goOne_46 : decode cX11_goOne 46 = .ok (.iaload, 1) := by decide +kernel
theorem dX11_goOne_47 : decode cX11_goOne 47 = .ok (.iload_n 3, 1) := by decide +kernel
theorem dX11_goOne_48 : decode cX11_goOne 48 = .ok (.invokestatic 94, 3) := by decide +kernel
theorem dX11_goOne_5 : decode cX11_goOne 5 = .ok (.aload_n 0, 1) := by decide +kernel
theorem dX11_goOne_51 : decode cX11_goOne 51 = .ok (.if_icmp .le 11, 3) := by decide +kernel
theorem dX11_goOne_54 : decode cX11_goOne 54 = .ok (.aload_n 0, 1) := by decide +kernel
theorem dX11_goOne_55 : decode cX11_goOne 55 = .ok (.iload_n 1, 1) := by decide +kernel
theorem dX11_goOne_56 : decode cX11_goOne 56 = .ok (.invokestatic 98, 3) := by decide +kernel
theorem dX11_goOne_59 : decode cX11_goOne 59 = .ok (.goto 36, 3) := by decide +kernel
theorem dX11_goOne_6 : decode cX11_goOne 6 = .ok (.iload_n 1, 1) := by decide +kernel
theorem dX11_goOne_62 : decode cX11_goOne 62 = .ok (.aload_n 0, 1) := by decide +kernel
theorem dX11_goOne_63 : decode cX11_goOne 63 = .ok (.iconst 5, 1) := by decide +kernel
theorem dX11_goOne_64 : decode cX11_goOne 64 = .ok (.iload_n 1, 1) := by decide +kernel
theorem dX11_goOne_65 : decode cX11_goOne 65 = .ok (.iadd, 1) := by decide +kernel
theorem dX11_goOne_66 : decode cX11_goOne 66 = .ok (.dup2, 1) := by decide +kernel
theorem dX11_goOne_67 : decode cX11_goOne 67 = .ok (.iaload, 1) := by decide +kernel
theorem dX11_goOne_68 : decode cX11_goOne 68 = .ok (.iload 4, 2) := by decide +kernel
theorem dX11_goOne_7 : decode cX11_goOne 7 = .ok (.iload_n 3, 1) := by decide +kernel
theorem dX11_goOne_70 : decode cX11_goOne 70 = .ok (.iadd, 1) := by decide +kernel
theorem dX11_goOne_71 : decode cX11_goOne 71 = .ok (.iastore, 1) := by decide +kernel
theorem dX11_goOne_72 : decode cX11_goOne 72 = .ok (.aload_n 0, 1) := by decide +kernel
theorem dX11_goOne_73 : decode cX11_goOne 73 = .ok (.bipush 29, 2) := by decide +kernel
theorem dX11_goOne_75 : decode cX11_goOne 75 = .ok (.iload_n 1, 1) := by decide +kernel
theorem dX11_goOne_76 : decode cX11_goOne 76 = .ok (.iadd, 1) := by decide +kernel
theorem dX11_goOne_77 : decode cX11_goOne 77 = .ok (.aload_n 0, 1) := by decide +kernel
theorem dX11_goOne_78 : decode cX11_goOne 78 = .ok (.iconst 5, 1) := by decide +kernel
theorem dX11_goOne_79 : decode cX11_goOne 79 = .ok (.iload_n 1, 1) := by decide +kernel
theorem dX11_goOne_8 : decode cX11_goOne 8 = .ok (.invokestatic 90, 3) := by decide +kernel
theorem dX11_goOne_80 : decode cX11_goOne 80 = .ok (.iadd, 1) := by decide +kernel
theorem dX11_goOne_81 : decode cX11_goOne 81 = .ok (.iaload, 1) := by decide +kernel
theorem dX11_goOne_82 : decode cX11_goOne 82 = .ok (.aload_n 0, 1) := by decide +kernel
theorem dX11_goOne_83 : decode cX11_goOne 83 = .ok (.bipush 36, 2) := by decide +kernel
theorem dX11_goOne_85 : decode cX11_goOne 85 = .ok (.iaload, 1) := by decide +kernel
theorem dX11_goOne_86 : decode cX11_goOne 86 = .ok (.if_icmp .lt 7, 3) := by decide +kernel
theorem dX11_goOne_89 : decode cX11_goOne 89 = .ok (.iload_n 3, 1) := by decide +kernel
theorem dX11_goOne_90 : decode cX11_goOne 90 = .ok (.goto 4, 3) := by decide +kernel
theorem dX11_goOne_93 : decode cX11_goOne 93 = .ok (.iconst 0, 1) := by decide +kernel
theorem dX11_goOne_94 : decode cX11_goOne 94 = .ok (.iastore, 1) := by decide +kernel
theorem dX11_goOne_95 : decode cX11_goOne 95 = .ok (.return_, 1) := by decide +kernel
theorem dX11_goTick_0 : decode cX11_goTick 0 = .ok (.aload_n 0, 1) := by decide +kernel
theorem dX11_goTick_1 : decode cX11_goTick 1 = .ok (.bipush 35, 2) := by decide +kernel
theorem dX11_goTick_10 : decode cX11_goTick 10 = .ok (.iload_n 1, 1) := by decide +kernel
theorem dX11_goTick_11 : decode cX11_goTick 11 = .ok (.aload_n 0, 1) := by decide +kernel
theorem dX11_goTick_12 : decode cX11_goTick 12 = .ok (.iconst 0, 1) := by decide +kernel
theorem dX11_goTick_13 : decode cX11_goTick 13 = .ok (.iaload, 1) := by decide +kernel
theorem dX11_goTick_14 : decode cX11_goTick 14 = .ok (.if_icmp .ge 23, 3) := by decide +kernel
theorem dX11_goTick_17 : decode cX11_goTick 17 = .ok (.aload_n 0, 1) := by decide +kernel
theorem dX11_goTick_18 : decode cX11_goTick 18 = .ok (.iload_n 1, 1) := by decide +kernel
theorem dX11_goTick_19 : decode cX11_goTick 19 = .ok (.invokestatic 101, 3) := by decide +kernel
theorem dX11_goTick_22 : decode cX11_goTick 22 = .ok (.ifCond .ne 9, 3) := by decide +kernel
theorem dX11_goTick_25 : decode cX11_goTick 25 = .ok (.aload_n 0, 1) := by decide +kernel
theorem dX11_goTick_26 : decode cX11_goTick 26 = .ok (.iload_n 1, 1) := by decide +kernel
theorem dX11_goTick_27 : decode cX11_goTick 27 = .ok (.iconst 0, 1) := by decide +kernel
theorem dX11_goTick_28 : decode cX11_goTick 28 = .ok (.invokestatic 105, 3) := by decide +kernel
theorem dX11_goTick_3 : decode cX11_goTick 3 = .ok (.dup2, 1) := by decide +kernel
theorem dX11_goTick_31 : decode cX11_goTick 31 = .ok (.iinc 1 1, 3) := by decide +kernel
theorem dX11_goTick_34 : decode cX11_goTick 34 = .ok (.goto (-24), 3) := by decide +kernel
theorem dX11_goTick_37 : decode cX11_goTick 37 = .ok (.return_, 1) := by decide +kernel
theorem dX11_goTick_4 : decode cX11_goTick 4 = .ok (.iaload, 1) := by decide +kernel
theorem dX11_goTick_5 : decode cX11_goTick 5 = .ok (.iconst 1, 1) := by decide +kernel
theorem dX11_goTick_6 : decode cX11_goTick 6 = .ok (.iadd, 1) := by decide +kernel
theorem dX11_goTick_7 : decode cX11_goTick 7 = .ok (.iastore, 1) := by decide +kernel
theorem dX11_goTick_8 : decode cX11_goTick 8 = .ok (.iconst 0, 1) := by decide +kernel
theorem dX11_goTick_9 : decode cX11_goTick 9 = .ok (.istore_n 1, 1) := by decide +kernel
theorem dX11_goTicks_0 : decode cX11_goTicks 0 = .ok (.iconst 0, 1) := by decide +kernel
theorem dX11_goTicks_1 : decode cX11_goTicks 1 = .ok (.istore_n 2, 1) := by decide +kernel
theorem dX11_goTicks_10 : decode cX11_goTicks 10 = .ok (.iaload, 1) := by decide +kernel
theorem dX11_goTicks_11 : decode cX11_goTicks 11 = .ok (.sipush 9999, 3) := by decide +kernel
theorem dX11_goTicks_14 : decode cX11_goTicks 14 = .ok (.if_icmp .ge 13, 3) := by decide +kernel
theorem dX11_goTicks_17 : decode cX11_goTicks 17 = .ok (.aload_n 0, 1) := by decide +kernel
theorem dX11_goTicks_18 : decode cX11_goTicks 18 = .ok (.invokestatic 109, 3) := by decide +kernel
theorem dX11_goTicks_2 : decode cX11_goTicks 2 = .ok (.iload_n 2, 1) := by decide +kernel
theorem dX11_goTicks_21 : decode cX11_goTicks 21 = .ok (.iinc 2 1, 3) := by decide +kernel
theorem dX11_goTicks_24 : decode cX11_goTicks 24 = .ok (.goto (-22), 3) := by decide +kernel
theorem dX11_goTicks_27 : decode cX11_goTicks 27 = .ok (.return_, 1) := by decide +kernel
theorem dX11_goTicks_3 : decode cX11_goTicks 3 = .ok (.iload_n 1, 1) := by decide +kernel
theorem dX11_goTicks_4 : decode cX11_goTicks 4 = .ok (.if_icmp .ge 23, 3) := by decide +kernel
theorem dX11_goTicks_7 : decode cX11_goTicks 7 = .ok (.aload_n 0, 1) := by decide +kernel
theorem dX11_goTicks_8 : decode cX11_goTicks 8 = .ok (.bipush 35, 2) := by decide +kernel
theorem dX11_has_0 : decode cX11_has 0 = .ok (.iload_n 0, 1) := by decide +kernel
theorem dX11_has_1 : decode cX11_has 1 = .ok (.iload_n 1, 1) := by decide +kernel
theorem dX11_has_10 : decode cX11_has 10 = .ok (.goto 4, 3) := by decide +kernel
theorem dX11_has_13 : decode cX11_has 13 = .ok (.iconst 0, 1) := by decide +kernel
theorem dX11_has_14 : decode cX11_has 14 = .ok (.ireturn, 1) := by decide +kernel
theorem dX11_has_2 : decode cX11_has 2 = .ok (.ishr, 1) := by decide +kernel
theorem dX11_has_3 : decode cX11_has 3 = .ok (.iconst 1, 1) := by decide +kernel
theorem dX11_has_4 : decode cX11_has 4 = .ok (.iand, 1) := by decide +kernel
theorem dX11_has_5 : decode cX11_has 5 = .ok (.iconst 1, 1) := by decide +kernel
theorem dX11_has_6 : decode cX11_has 6 = .ok (.if_icmp .ne 7, 3) := by decide +kernel
theorem dX11_has_9 : decode cX11_has 9 = .ok (.iconst 1, 1) := by decide +kernel
theorem dX11_in_0 : decode cX11_in 0 = .ok (.lload_n 0, 1) := by decide +kernel
theorem dX11_in_1 : decode cX11_in 1 = .ok (.lload_n 2, 1) := by decide +kernel
theorem dX11_in_10 : decode cX11_in 10 = .ok (.ifCond .gt 7, 3) := by decide +kernel
theorem dX11_in_13 : decode cX11_in 13 = .ok (.iconst 1, 1) := by decide +kernel
theorem dX11_in_14 : decode cX11_in 14 = .ok (.goto 4, 3) := by decide +kernel
theorem dX11_in_17 : decode cX11_in 17 = .ok (.iconst 0, 1) := by decide +kernel
theorem dX11_in_18 : decode cX11_in 18 = .ok (.ireturn, 1) := by decide +kernel
theorem dX11_in_2 : decode cX11_in 2 = .ok (.lcmp, 1) := by decide +kernel
theorem dX11_in_3 : decode cX11_in 3 = .ok (.ifCond .lt 14, 3) := by decide +kernel
theorem dX11_in_6 : decode cX11_in 6 = .ok (.lload_n 0, 1) := by decide +kernel
theorem dX11_in_7 : decode cX11_in 7 = .ok (.lload 4, 2) := by decide +kernel
theorem dX11_in_9 : decode cX11_in 9 = .ok (.lcmp, 1) := by decide +kernel
theorem dX11_isHome_0 : decode cX11_isHome 0 = .ok (.aload_n 0, 1) := by decide +kernel
theorem dX11_isHome_1 : decode cX11_isHome 1 = .ok (.bipush 29, 2) := by decide +kernel
theorem dX11_isHome_10 : decode cX11_isHome 10 = .ok (.goto 4, 3) := by decide +kernel
theorem dX11_isHome_13 : decode cX11_isHome 13 = .ok (.iconst 0, 1) := by decide +kernel
theorem dX11_isHome_14 : decode cX11_isHome 14 = .ok (.ireturn, 1) := by decide +kernel
theorem dX11_isHome_3 : decode cX11_isHome 3 = .ok (.iload_n 1, 1) := by decide +kernel
theorem dX11_isHome_4 : decode cX11_isHome 4 = .ok (.iadd, 1) := by decide +kernel
theorem dX11_isHome_5 : decode cX11_isHome 5 = .ok (.iaload, 1) := by decide +kernel
theorem dX11_isHome_6 : decode cX11_isHome 6 = .ok (.ifCond .le 7, 3) := by decide +kernel
theorem dX11_isHome_9 : decode cX11_isHome 9 = .ok (.iconst 1, 1) := by decide +kernel
theorem dX11_isKind_0 : decode cX11_isKind 0 = .ok (.iload_n 0, 1) := by decide +kernel
theorem dX11_isKind_1 : decode cX11_isKind 1 = .ok (.i2l, 1) := by decide +kernel
theorem dX11_isKind_2 : decode cX11_isKind 2 = .ok (.lconst 0, 1) := by decide +kernel
theorem dX11_isKind_3 : decode cX11_isKind 3 = .ok (.ldc2_w 60, 3) := by decide +kernel
theorem dX11_isKind_6 : decode cX11_isKind 6 = .ok (.invokestatic 56, 3) := by decide +kernel
theorem dX11_isKind_9 : decode cX11_isKind 9 = .ok (.ireturn, 1) := by decide +kernel
theorem dX11_isLegs_0 : decode cX11_isLegs 0 = .ok (.iload_n 0, 1) := by decide +kernel
theorem dX11_isLegs_1 : decode cX11_isLegs 1 = .ok (.i2l, 1) := by decide +kernel
theorem dX11_isLegs_2 : decode cX11_isLegs 2 = .ok (.lconst 1, 1) := by decide +kernel
theorem dX11_isLegs_3 : decode cX11_isLegs 3 = .ok (.ldc2_w 62, 3) := by decide +kernel
theorem dX11_isLegs_6 : decode cX11_isLegs 6 = .ok (.invokestatic 56, 3) := by decide +kernel
theorem dX11_isLegs_9 : decode cX11_isLegs 9 = .ok (.ireturn, 1) := by decide +kernel
theorem dX11_isOne_0 : decode cX11_isOne 0 = .ok (.iload_n 1, 1) := by decide +kernel
theorem dX11_isOne_1 : decode cX11_isOne 1 = .ok (.i2l, 1) := by decide +kernel
theorem dX11_isOne_10 : decode cX11_isOne 10 = .ok (.invokestatic 56, 3) := by decide +kernel
theorem dX11_isOne_13 : decode cX11_isOne 13 = .ok (.ireturn, 1) := by decide +kernel
theorem dX11_isOne_2 : decode cX11_isOne 2 = .ok (.lconst 0, 1) := by decide +kernel
theorem dX11_isOne_3 : decode cX11_isOne 3 = .ok (.aload_n 0, 1) := by decide +kernel
theorem dX11_isOne_4 : decode cX11_isOne 4 = .ok (.invokevirtual 52, 3) := by decide +kernel
theorem dX11_isOne_7 : decode cX11_isOne 7 = .ok (.iconst 1, 1) := by decide +kernel
theorem dX11_isOne_8 : decode cX11_isOne 8 = .ok (.isub, 1) := by decide +kernel
theorem dX11_isOne_9 : decode cX11_isOne 9 = .ok (.i2l, 1) := by decide +kernel
theorem dX11_isSpeed_0 : decode cX11_isSpeed 0 = .ok (.iload_n 0, 1) := by decide +kernel
theorem dX11_isSpeed_1 : decode cX11_isSpeed 1 = .ok (.i2l, 1) := by decide +kernel
theorem dX11_isSpeed_2 : decode cX11_isSpeed 2 = .ok (.lconst 0, 1) := by decide +kernel
theorem dX11_isSpeed_3 : decode cX11_isSpeed 3 = .ok (.ldc2_w 62, 3) := by decide +kernel
theorem dX11_isSpeed_6 : decode cX11_isSpeed 6 = .ok (.invokestatic 56, 3) := by decide +kernel
theorem dX11_isSpeed_9 : decode cX11_isSpeed 9 = .ok (.ireturn, 1) := by decide +kernel
theorem dX11_layOne_0 : decode cX11_layOne 0 = .ok (.aload_n 0, 1) := by decide +kernel
theorem dX11_layOne_1 : decode cX11_layOne 1 = .ok (.iconst 0, 1) := by decide +kernel
theorem dX11_layOne_10 : decode cX11_layOne 10 = .ok (.iadd, 1) := by decide +kernel
theorem dX11_layOne_11 : decode cX11_layOne 11 = .ok (.iload_n 1, 1) := by decide +kernel
theorem dX11_layOne_12 : decode cX11_layOne 12 = .ok (.iastore, 1) := by decide +kernel
theorem dX11_layOne_13 : decode cX11_layOne 13 = .ok (.aload_n 0, 1) := by decide +kernel
theorem dX11_layOne_14 : decode cX11_layOne 14 = .ok (.bipush 43, 2) := by decide +kernel
theorem dX11_layOne_16 : decode cX11_layOne 16 = .ok (.iload 4, 2) := by decide +kernel
theorem dX11_layOne_18 : decode cX11_layOne 18 = .ok (.iadd, 1) := by decide +kernel
theorem dX11_layOne_19 : decode cX11_layOne 19 = .ok (.iload_n 2, 1) := by decide +kernel
theorem dX11_layOne_2 : decode cX11_layOne 2 = .ok (.iaload, 1) := by decide +kernel
theorem dX11_layOne_20 : decode cX11_layOne 20 = .ok (.iastore, 1) := by decide +kernel
theorem dX11_layOne_21 : decode cX11_layOne 21 = .ok (.aload_n 0, 1) := by decide +kernel
theorem dX11_layOne_22 : decode cX11_layOne 22 = .ok (.bipush 49, 2) := by decide +kernel
theorem dX11_layOne_24 : decode cX11_layOne 24 = .ok (.iload 4, 2) := by decide +kernel
theorem dX11_layOne_26 : decode cX11_layOne 26 = .ok (.iadd, 1) := by decide +kernel
theorem dX11_layOne_27 : decode cX11_layOne 27 = .ok (.iload_n 3, 1) := by decide +kernel
theorem dX11_layOne_28 : decode cX11_layOne 28 = .ok (.iastore, 1) := by decide +kernel
theorem dX11_layOne_29 : decode cX11_layOne 29 = .ok (.aload_n 0, 1) := by decide +kernel
theorem dX11_layOne_3 : decode cX11_layOne 3 = .ok (.istore 4, 2) := by decide +kernel
theorem dX11_layOne_30 : decode cX11_layOne 30 = .ok (.bipush 11, 2) := by decide +kernel
theorem dX11_layOne_32 : decode cX11_layOne 32 = .ok (.iload 4, 2) := by decide +kernel
theorem dX11_layOne_34 : decode cX11_layOne 34 = .ok (.iadd, 1) := by decide +kernel
theorem dX11_layOne_35 : decode cX11_layOne 35 = .ok (.iconst 4, 1) := by decide +kernel
theorem dX11_layOne_36 : decode cX11_layOne 36 = .ok (.iastore, 1) := by decide +kernel
theorem dX11_layOne_37 : decode cX11_layOne 37 = .ok (.aload_n 0, 1) := by decide +kernel
theorem dX11_layOne_38 : decode cX11_layOne 38 = .ok (.iconst 0, 1) := by decide +kernel
theorem dX11_layOne_39 : decode cX11_layOne 39 = .ok (.dup2, 1) := by decide +kernel
theorem dX11_layOne_40 : decode cX11_layOne 40 = .ok (.iaload, 1) := by decide +kernel
theorem dX11_layOne_41 : decode cX11_layOne 41 = .ok (.iconst 1, 1) := by decide +kernel
theorem dX11_layOne_42 : decode cX11_layOne 42 = .ok (.iadd, 1) := by decide +kernel
theorem dX11_layOne_43 : decode cX11_layOne 43 = .ok (.iastore, 1) := by decide +kernel
theorem dX11_layOne_44 : decode cX11_layOne 44 = .ok (.return_, 1) := by decide +kernel
theorem dX11_layOne_5 : decode cX11_layOne 5 = .ok (.aload_n 0, 1) := by decide +kernel
theorem dX11_layOne_6 : decode cX11_layOne 6 = .ok (.bipush 37, 2) := by decide +kernel
theorem dX11_layOne_8 : decode cX11_layOne 8 = .ok (.iload 4, 2) := by decide +kernel
theorem dX11_manyHome_0 : decode cX11_manyHome 0 = .ok (.iconst 0, 1) := by decide +kernel
theorem dX11_manyHome_1 : decode cX11_manyHome 1 = .ok (.istore_n 1, 1) := by decide +kernel
theorem dX11_manyHome_11 : decode cX11_manyHome 11 = .ok (.iload_n 1, 1) := by decide +kernel
theorem dX11_manyHome_12 : decode cX11_manyHome 12 = .ok (.aload_n 0, 1) := by decide +kernel
theorem dX11_manyHome_13 : decode cX11_manyHome 13 = .ok (.iload_n 2, 1) := by decide +kernel
theorem dX11_manyHome_14 : decode cX11_manyHome 14 = .ok (.invokestatic 101, 3) := by decide +kernel
theorem dX11_manyHome_17 : decode cX11_manyHome 17 = .ok (.ifCond .eq 7, 3) := by decide +kernel
theorem dX11_manyHome_2 : decode cX11_manyHome 2 = .ok (.iconst 0, 1) := by decide +kernel
theorem dX11_manyHome_20 : decode cX11_manyHome 20 = .ok (.iconst 1, 1) := by decide +kernel
theorem dX11_manyHome_21 : decode cX11_manyHome 21 = .ok (.goto 4, 3) := by decide +kernel
theorem dX11_manyHome_24 : decode cX11_manyHome 24 = .ok (.iconst 0, 1) := by decide +kernel
theorem dX11_manyHome_25 : decode cX11_manyHome 25 = .ok (.iadd, 1) := by decide +kernel
theorem dX11_manyHome_26 : decode cX11_manyHome 26 = .ok (.istore_n 1, 1) := by decide +kernel
theorem dX11_manyHome_27 : decode cX11_manyHome 27 = .ok (.iinc 2 1, 3) := by decide +kernel
theorem dX11_manyHome_3 : decode cX11_manyHome 3 = .ok (.istore_n 2, 1) := by decide +kernel
theorem dX11_manyHome_30 : decode cX11_manyHome 30 = .ok (.goto (-26), 3) := by decide +kernel
theorem dX11_manyHome_33 : decode cX11_manyHome 33 = .ok (.iload_n 1, 1) := by decide +kernel
theorem dX11_manyHome_34 : decode cX11_manyHome 34 = .ok (.ireturn, 1) := by decide +kernel
theorem dX11_manyHome_4 : decode cX11_manyHome 4 = .ok (.iload_n 2, 1) := by decide +kernel
theorem dX11_manyHome_5 : decode cX11_manyHome 5 = .ok (.aload_n 0, 1) := by decide +kernel
theorem dX11_manyHome_6 : decode cX11_manyHome 6 = .ok (.iconst 0, 1) := by decide +kernel
theorem dX11_manyHome_7 : decode cX11_manyHome 7 = .ok (.iaload, 1) := by decide +kernel
theorem dX11_manyHome_8 : decode cX11_manyHome 8 = .ok (.if_icmp .ge 25, 3) := by decide +kernel
theorem dX11_many_0 : decode cX11_many 0 = .ok (.aload_n 0, 1) := by decide +kernel
theorem dX11_many_1 : decode cX11_many 1 = .ok (.getfield 7, 3) := by decide +kernel
theorem dX11_many_4 : decode cX11_many 4 = .ok (.iconst 0, 1) := by decide +kernel
theorem dX11_many_5 : decode cX11_many 5 = .ok (.iaload, 1) := by decide +kernel
theorem dX11_many_6 : decode cX11_many 6 = .ok (.ireturn, 1) := by decide +kernel
theorem dX11_mayAs_0 : decode cX11_mayAs 0 = .ok (.iload_n 1, 1) := by decide +kernel
theorem dX11_mayAs_1 : decode cX11_mayAs 1 = .ok (.iconst 2, 1) := by decide +kernel
theorem dX11_mayAs_11 : decode cX11_mayAs 11 = .ok (.iconst 4, 1) := by decide +kernel
theorem dX11_mayAs_12 : decode cX11_mayAs 12 = .ok (.istore_n 2, 1) := by decide +kernel
theorem dX11_mayAs_13 : decode cX11_mayAs 13 = .ok (.iload_n 0, 1) := by decide +kernel
theorem dX11_mayAs_14 : decode cX11_mayAs 14 = .ok (.tableswitch 67 1 5 #[34, 36, 38, 50, 54], 34) := by decide +kernel
theorem dX11_mayAs_2 : decode cX11_mayAs 2 = .ok (.irem, 1) := by decide +kernel
theorem dX11_mayAs_3 : decode cX11_mayAs 3 = .ok (.iconst 1, 1) := by decide +kernel
theorem dX11_mayAs_4 : decode cX11_mayAs 4 = .ok (.if_icmp .ne 7, 3) := by decide +kernel
theorem dX11_mayAs_48 : decode cX11_mayAs 48 = .ok (.iconst 5, 1) := by decide +kernel
theorem dX11_mayAs_49 : decode cX11_mayAs 49 = .ok (.ireturn, 1) := by decide +kernel
theorem dX11_mayAs_50 : decode cX11_mayAs 50 = .ok (.iload_n 2, 1) := by decide +kernel
theorem dX11_mayAs_51 : decode cX11_mayAs 51 = .ok (.ireturn, 1) := by decide +kernel
theorem dX11_mayAs_52 : decode cX11_mayAs 52 = .ok (.iload_n 1, 1) := by decide +kernel
theorem dX11_mayAs_53 : decode cX11_mayAs 53 = .ok (.iconst 3, 1) := by decide +kernel
theorem dX11_mayAs_54 : decode cX11_mayAs 54 = .ok (.if_icmp .ge 8, 3) := by decide +kernel
theorem dX11_mayAs_57 : decode cX11_mayAs 57 = .ok (.bipush 8, 2) := by decide +kernel
theorem dX11_mayAs_59 : decode cX11_mayAs 59 = .ok (.goto 4, 3) := by decide +kernel
theorem dX11_mayAs_62 : decode cX11_mayAs 62 = .ok (.iconst 5, 1) := by decide +kernel
theorem dX11_mayAs_63 : decode cX11_mayAs 63 = .ok (.ireturn, 1) := by decide +kernel
theorem dX11_mayAs_64 : decode cX11_mayAs 64 = .ok (.iload_n 2, 1) := by decide +kernel
theorem dX11_mayAs_65 : decode cX11_mayAs 65 = .ok (.iconst 1, 1) := by decide +kernel
theorem dX11_mayAs_66 : decode cX11_mayAs 66 = .ok (.isub, 1) := by decide +kernel
theorem dX11_mayAs_67 : decode cX11_mayAs 67 = .ok (.ireturn, 1) := by decide +kernel
theorem dX11_mayAs_68 : decode cX11_mayAs 68 = .ok (.iload_n 1, 1) := by decide +kernel
theorem dX11_mayAs_69 : decode cX11_mayAs 69 = .ok (.iconst 4, 1) := by decide +kernel
theorem dX11_mayAs_7 : decode cX11_mayAs 7 = .ok (.iconst 3, 1) := by decide +kernel
theorem dX11_mayAs_70 : decode cX11_mayAs 70 = .ok (.irem, 1) := by decide +kernel
theorem dX11_mayAs_71 : decode cX11_mayAs 71 = .ok (.ifCond .ne 8, 3) := by decide +kernel
theorem dX11_mayAs_74 : decode cX11_mayAs 74 = .ok (.bipush 7, 2) := by decide +kernel
theorem dX11_mayAs_76 : decode cX11_mayAs 76 = .ok (.goto 4, 3) := by decide +kernel
theorem dX11_mayAs_79 : decode cX11_mayAs 79 = .ok (.iconst 5, 1) := by decide +kernel
theorem dX11_mayAs_8 : decode cX11_mayAs 8 = .ok (.goto 4, 3) := by decide +kernel
theorem dX11_mayAs_80 : decode cX11_mayAs 80 = .ok (.ireturn, 1) := by decide +kernel
theorem dX11_mayAs_81 : decode cX11_mayAs 81 = .ok (.iconst 4, 1) := by decide +kernel
theorem dX11_mayAs_82 : decode cX11_mayAs 82 = .ok (.ireturn, 1) := by decide +kernel
theorem dX11_no_0 : decode cX11_no 0 = .ok (.aload_n 0, 1) := by decide +kernel
theorem dX11_no_1 : decode cX11_no 1 = .ok (.getfield 20, 3) := by decide +kernel
theorem dX11_no_10 : decode cX11_no 10 = .ok (.bipush (-3), 2) := by decide +kernel
theorem dX11_no_12 : decode cX11_no 12 = .ok (.ireturn, 1) := by decide +kernel
theorem dX11_no_4 : decode cX11_no 4 = .ok (.iconst 1, 1) := by decide +kernel
theorem dX11_no_5 : decode cX11_no 5 = .ok (.dup2, 1) := by decide +kernel
theorem dX11_no_6 : decode cX11_no 6 = .ok (.iaload, 1) := by decide +kernel
theorem dX11_no_7 : decode cX11_no 7 = .ok (.iconst 1, 1) := by decide +kernel
theorem dX11_no_8 : decode cX11_no 8 = .ok (.iadd, 1) := by decide +kernel
theorem dX11_no_9 : decode cX11_no 9 = .ok (.iastore, 1) := by decide +kernel
theorem dX11_one_0 : decode cX11_one 0 = .ok (.iload_n 1, 1) := by decide +kernel
theorem dX11_one_1 : decode cX11_one 1 = .ok (.invokestatic 72, 3) := by decide +kernel
theorem dX11_one_11 : decode cX11_one 11 = .ok (.ifCond .eq 10, 3) := by decide +kernel
theorem dX11_one_14 : decode cX11_one 14 = .ok (.iload_n 3, 1) := by decide +kernel
theorem dX11_one_15 : decode cX11_one 15 = .ok (.invokestatic 72, 3) := by decide +kernel
theorem dX11_one_18 : decode cX11_one 18 = .ok (.ifCond .ne 10, 3) := by decide +kernel
theorem dX11_one_21 : decode cX11_one 21 = .ok (.aload_n 0, 1) := by decide +kernel
theorem dX11_one_22 : decode cX11_one 22 = .ok (.bipush (-2), 2) := by decide +kernel
theorem dX11_one_24 : decode cX11_one 24 = .ok (.invokevirtual 68, 3) := by decide +kernel
theorem dX11_one_27 : decode cX11_one 27 = .ok (.ireturn, 1) := by decide +kernel
theorem dX11_one_28 : decode cX11_one 28 = .ok (.aload_n 0, 1) := by decide +kernel
theorem dX11_one_29 : decode cX11_one 29 = .ok (.invokevirtual 52, 3) := by decide +kernel
theorem dX11_one_32 : decode cX11_one 32 = .ok (.bipush 6, 2) := by decide +kernel
theorem dX11_one_34 : decode cX11_one 34 = .ok (.if_icmp .ne 8, 3) := by decide +kernel
theorem dX11_one_37 : decode cX11_one 37 = .ok (.aload_n 0, 1) := by decide +kernel
theorem dX11_one_38 : decode cX11_one 38 = .ok (.invokevirtual 79, 3) := by decide +kernel
theorem dX11_one_4 : decode cX11_one 4 = .ok (.ifCond .eq 17, 3) := by decide +kernel
theorem dX11_one_41 : decode cX11_one 41 = .ok (.ireturn, 1) := by decide +kernel
theorem dX11_one_42 : decode cX11_one 42 = .ok (.aload_n 0, 1) := by decide +kernel
theorem dX11_one_43 : decode cX11_one 43 = .ok (.getfield 7, 3) := by decide +kernel
theorem dX11_one_46 : decode cX11_one 46 = .ok (.iload_n 1, 1) := by decide +kernel
theorem dX11_one_47 : decode cX11_one 47 = .ok (.iload_n 2, 1) := by decide +kernel
theorem dX11_one_48 : decode cX11_one 48 = .ok (.iload_n 3, 1) := by decide +kernel
theorem dX11_one_49 : decode cX11_one 49 = .ok (.invokestatic 82, 3) := by decide +kernel
theorem dX11_one_52 : decode cX11_one 52 = .ok (.aload_n 0, 1) := by decide +kernel
theorem dX11_one_53 : decode cX11_one 53 = .ok (.getfield 7, 3) := by decide +kernel
theorem dX11_one_56 : decode cX11_one 56 = .ok (.iconst 4, 1) := by decide +kernel
theorem dX11_one_57 : decode cX11_one 57 = .ok (.iconst 0, 1) := by decide +kernel
theorem dX11_one_58 : decode cX11_one 58 = .ok (.iastore, 1) := by decide +kernel
theorem dX11_one_59 : decode cX11_one 59 = .ok (.aload_n 0, 1) := by decide +kernel
theorem dX11_one_60 : decode cX11_one 60 = .ok (.invokevirtual 52, 3) := by decide +kernel
theorem dX11_one_63 : decode cX11_one 63 = .ok (.iconst 1, 1) := by decide +kernel
theorem dX11_one_64 : decode cX11_one 64 = .ok (.isub, 1) := by decide +kernel
theorem dX11_one_65 : decode cX11_one 65 = .ok (.ireturn, 1) := by decide +kernel
theorem dX11_one_7 : decode cX11_one 7 = .ok (.iload_n 2, 1) := by decide +kernel
theorem dX11_one_8 : decode cX11_one 8 = .ok (.invokestatic 76, 3) := by decide +kernel
theorem dX11_race_0 : decode cX11_race 0 = .ok (.iload_n 1, 1) := by decide +kernel
theorem dX11_race_1 : decode cX11_race 1 = .ok (.i2l, 1) := by decide +kernel
theorem dX11_race_11 : decode cX11_race 11 = .ok (.ifCond .ne 10, 3) := by decide +kernel
theorem dX11_race_14 : decode cX11_race 14 = .ok (.aload_n 0, 1) := by decide +kernel
theorem dX11_race_15 : decode cX11_race 15 = .ok (.bipush (-2), 2) := by decide +kernel
theorem dX11_race_17 : decode cX11_race 17 = .ok (.invokevirtual 68, 3) := by decide +kernel
theorem dX11_race_2 : decode cX11_race 2 = .ok (.ldc2_w 64, 3) := by decide +kernel
theorem dX11_race_20 : decode cX11_race 20 = .ok (.ireturn, 1) := by decide +kernel
theorem dX11_race_21 : decode cX11_race 21 = .ok (.aload_n 0, 1) := by decide +kernel
theorem dX11_race_22 : decode cX11_race 22 = .ok (.invokevirtual 52, 3) := by decide +kernel
theorem dX11_race_25 : decode cX11_race 25 = .ok (.istore_n 2, 1) := by decide +kernel
theorem dX11_race_26 : decode cX11_race 26 = .ok (.aload_n 0, 1) := by decide +kernel
theorem dX11_race_27 : decode cX11_race 27 = .ok (.getfield 7, 3) := by decide +kernel
theorem dX11_race_30 : decode cX11_race 30 = .ok (.iload_n 1, 1) := by decide +kernel
theorem dX11_race_31 : decode cX11_race 31 = .ok (.invokestatic 48, 3) := by decide +kernel
theorem dX11_race_34 : decode cX11_race 34 = .ok (.iload_n 2, 1) := by decide +kernel
theorem dX11_race_35 : decode cX11_race 35 = .ok (.ireturn, 1) := by decide +kernel
theorem dX11_race_5 : decode cX11_race 5 = .ok (.ldc2_w 66, 3) := by decide +kernel
theorem dX11_race_8 : decode cX11_race 8 = .ok (.invokestatic 56, 3) := by decide +kernel
theorem dX11_runsAs_0 : decode cX11_runsAs 0 = .ok (.iload_n 2, 1) := by decide +kernel
theorem dX11_runsAs_1 : decode cX11_runsAs 1 = .ok (.iload_n 1, 1) := by decide +kernel
theorem dX11_runsAs_10 : decode cX11_runsAs 10 = .ok (.istore 4, 2) := by decide +kernel
theorem dX11_runsAs_100 : decode cX11_runsAs 100 = .ok (.iadd, 1) := by decide +kernel
theorem dX11_runsAs_101 : decode cX11_runsAs 101 = .ok (.goto 5, 3) := by decide +kernel
theorem dX11_runsAs_104 : decode cX11_runsAs 104 = .ok (.iload 5, 2) := by decide +kernel
theorem dX11_runsAs_106 : decode cX11_runsAs 106 = .ok (.ireturn, 1) := by decide +kernel
theorem dX11_runsAs_107 : decode cX11_runsAs 107 = .ok (.iload 4, 2) := by decide +kernel
theorem dX11_runsAs_109 : decode cX11_runsAs 109 = .ok (.iconst 1, 1) := by decide +kernel
theorem dX11_runsAs_110 : decode cX11_runsAs 110 = .ok (.iadd, 1) := by decide +kernel
theorem dX11_runsAs_111 : decode cX11_runsAs 111 = .ok (.iconst 2, 1) := by decide +kernel
theorem dX11_runsAs_112 : decode cX11_runsAs 112 = .ok (.idiv, 1) := by decide +kernel
theorem dX11_runsAs_113 : decode cX11_runsAs 113 = .ok (.ireturn, 1) := by decide +kernel
theorem dX11_runsAs_114 : decode cX11_runsAs 114 = .ok (.iload_n 3, 1) := by decide +kernel
theorem dX11_runsAs_115 : decode cX11_runsAs 115 = .ok (.iconst 2, 1) := by decide +kernel
theorem dX11_runsAs_116 : decode cX11_runsAs 116 = .ok (.irem, 1) := by decide +kernel
theorem dX11_runsAs_117 : decode cX11_runsAs 117 = .ok (.iconst 1, 1) := by decide +kernel
theorem dX11_runsAs_118 : decode cX11_runsAs 118 = .ok (.if_icmp .ne 10, 3) := by decide +kernel
theorem dX11_runsAs_12 : decode cX11_runsAs 12 = .ok (.iload_n 2, 1) := by decide +kernel
theorem dX11_runsAs_121 : decode cX11_runsAs 121 = .ok (.iload 6, 2) := by decide +kernel
theorem dX11_runsAs_123 : decode cX11_runsAs 123 = .ok (.iconst 2, 1) := by decide +kernel
theorem dX11_runsAs_124 : decode cX11_runsAs 124 = .ok (.iadd, 1) := by decide +kernel
theorem dX11_runsAs_125 : decode cX11_runsAs 125 = .ok (.goto 5, 3) := by decide +kernel
theorem dX11_runsAs_128 : decode cX11_runsAs 128 = .ok (.iload 6, 2) := by decide +kernel
theorem dX11_runsAs_13 : decode cX11_runsAs 13 = .ok (.iconst 5, 1) := by decide +kernel
theorem dX11_runsAs_130 : decode cX11_runsAs 130 = .ok (.ireturn, 1) := by decide +kernel
theorem dX11_runsAs_131 : decode cX11_runsAs 131 = .ok (.iload 4, 2) := by decide +kernel
theorem dX11_runsAs_133 : decode cX11_runsAs 133 = .ok (.ireturn, 1) := by decide +kernel
theorem dX11_runsAs_14 : decode cX11_runsAs 14 = .ok (.if_icmp .lt 10, 3) := by decide +kernel
theorem dX11_runsAs_17 : decode cX11_runsAs 17 = .ok (.iload 4, 2) := by decide +kernel
theorem dX11_runsAs_19 : decode cX11_runsAs 19 = .ok (.iconst 1, 1) := by decide +kernel
theorem dX11_runsAs_2 : decode cX11_runsAs 2 = .ok (.if_icmp .ge 7, 3) := by decide +kernel
theorem dX11_runsAs_20 : decode cX11_runsAs 20 = .ok (.iadd, 1) := by decide +kernel
theorem dX11_runsAs_21 : decode cX11_runsAs 21 = .ok (.goto 5, 3) := by decide +kernel
theorem dX11_runsAs_24 : decode cX11_runsAs 24 = .ok (.iload 4, 2) := by decide +kernel
theorem dX11_runsAs_26 : decode cX11_runsAs 26 = .ok (.istore 5, 2) := by decide +kernel
theorem dX11_runsAs_28 : decode cX11_runsAs 28 = .ok (.iload 4, 2) := by decide +kernel
theorem dX11_runsAs_30 : decode cX11_runsAs 30 = .ok (.iload_n 3, 1) := by decide +kernel
theorem dX11_runsAs_31 : decode cX11_runsAs 31 = .ok (.bipush 10, 2) := by decide +kernel
theorem dX11_runsAs_33 : decode cX11_runsAs 33 = .ok (.idiv, 1) := by decide +kernel
theorem dX11_runsAs_34 : decode cX11_runsAs 34 = .ok (.if_icmp .le 13, 3) := by decide +kernel
theorem dX11_runsAs_37 : decode cX11_runsAs 37 = .ok (.iload 4, 2) := by decide +kernel
theorem dX11_runsAs_39 : decode cX11_runsAs 39 = .ok (.iload_n 3, 1) := by decide +kernel
theorem dX11_runsAs_40 : decode cX11_runsAs 40 = .ok (.bipush 10, 2) := by decide +kernel
theorem dX11_runsAs_42 : decode cX11_runsAs 42 = .ok (.idiv, 1) := by decide +kernel
theorem dX11_runsAs_43 : decode cX11_runsAs 43 = .ok (.isub, 1) := by decide +kernel
theorem dX11_runsAs_44 : decode cX11_runsAs 44 = .ok (.goto 4, 3) := by decide +kernel
theorem dX11_runsAs_47 : decode cX11_runsAs 47 = .ok (.iconst 0, 1) := by decide +kernel
theorem dX11_runsAs_48 : decode cX11_runsAs 48 = .ok (.istore 6, 2) := by decide +kernel
theorem dX11_runsAs_5 : decode cX11_runsAs 5 = .ok (.iload_n 2, 1) := by decide +kernel
theorem dX11_runsAs_50 : decode cX11_runsAs 50 = .ok (.iload_n 0, 1) := by decide +kernel
theorem dX11_runsAs_51 : decode cX11_runsAs 51 = .ok (.tableswitch 80 1 5 #[33, 36, 39, 56, 63], 33) := by decide +kernel
theorem dX11_runsAs_6 : decode cX11_runsAs 6 = .ok (.goto 4, 3) := by decide +kernel
theorem dX11_runsAs_84 : decode cX11_runsAs 84 = .ok (.iload 5, 2) := by decide +kernel
theorem dX11_runsAs_86 : decode cX11_runsAs 86 = .ok (.ireturn, 1) := by decide +kernel
theorem dX11_runsAs_87 : decode cX11_runsAs 87 = .ok (.iload 6, 2) := by decide +kernel
theorem dX11_runsAs_89 : decode cX11_runsAs 89 = .ok (.ireturn, 1) := by decide +kernel
theorem dX11_runsAs_9 : decode cX11_runsAs 9 = .ok (.iload_n 1, 1) := by decide +kernel
theorem dX11_runsAs_90 : decode cX11_runsAs 90 = .ok (.iload_n 3, 1) := by decide +kernel
theorem dX11_runsAs_91 : decode cX11_runsAs 91 = .ok (.iconst 5, 1) := by decide +kernel
theorem dX11_runsAs_92 : decode cX11_runsAs 92 = .ok (.irem, 1) := by decide +kernel
theorem dX11_runsAs_93 : decode cX11_runsAs 93 = .ok (.iconst 4, 1) := by decide +kernel
theorem dX11_runsAs_94 : decode cX11_runsAs 94 = .ok (.if_icmp .ne 10, 3) := by decide +kernel
theorem dX11_runsAs_97 : decode cX11_runsAs 97 = .ok (.iload 5, 2) := by decide +kernel
theorem dX11_runsAs_99 : decode cX11_runsAs 99 = .ok (.iconst 3, 1) := by decide +kernel
theorem dX11_runsOf_0 : decode cX11_runsOf 0 = .ok (.aload_n 0, 1) := by decide +kernel
theorem dX11_runsOf_1 : decode cX11_runsOf 1 = .ok (.bipush 37, 2) := by decide +kernel
theorem dX11_runsOf_10 : decode cX11_runsOf 10 = .ok (.iadd, 1) := by decide +kernel
theorem dX11_runsOf_11 : decode cX11_runsOf 11 = .ok (.iaload, 1) := by decide +kernel
theorem dX11_runsOf_12 : decode cX11_runsOf 12 = .ok (.aload_n 0, 1) := by decide +kernel
theorem dX11_runsOf_13 : decode cX11_runsOf 13 = .ok (.bipush 11, 2) := by decide +kernel
theorem dX11_runsOf_15 : decode cX11_runsOf 15 = .ok (.iload_n 1, 1) := by decide +kernel
theorem dX11_runsOf_16 : decode cX11_runsOf 16 = .ok (.iadd, 1) := by decide +kernel
theorem dX11_runsOf_17 : decode cX11_runsOf 17 = .ok (.iaload, 1) := by decide +kernel
theorem dX11_runsOf_18 : decode cX11_runsOf 18 = .ok (.iload_n 2, 1) := by decide +kernel
theorem dX11_runsOf_19 : decode cX11_runsOf 19 = .ok (.invokestatic 86, 3) := by decide +kernel
theorem dX11_runsOf_22 : decode cX11_runsOf 22 = .ok (.ireturn, 1) := by decide +kernel
theorem dX11_runsOf_3 : decode cX11_runsOf 3 = .ok (.iload_n 1, 1) := by decide +kernel
theorem dX11_runsOf_4 : decode cX11_runsOf 4 = .ok (.iadd, 1) := by decide +kernel
theorem dX11_runsOf_5 : decode cX11_runsOf 5 = .ok (.iaload, 1) := by decide +kernel
theorem dX11_runsOf_6 : decode cX11_runsOf 6 = .ok (.aload_n 0, 1) := by decide +kernel
theorem dX11_runsOf_7 : decode cX11_runsOf 7 = .ok (.bipush 43, 2) := by decide +kernel
theorem dX11_runsOf_9 : decode cX11_runsOf 9 = .ok (.iload_n 1, 1) := by decide +kernel
theorem dX11_save_0 : decode cX11_save 0 = .ok (.aload_n 0, 1) := by decide +kernel
theorem dX11_save_1 : decode cX11_save 1 = .ok (.getfield 7, 3) := by decide +kernel
theorem dX11_save_100 : decode cX11_save 100 = .ok (.iaload, 1) := by decide +kernel
theorem dX11_save_101 : decode cX11_save 101 = .ok (.iconst 1, 1) := by decide +kernel
theorem dX11_save_102 : decode cX11_save 102 = .ok (.iadd, 1) := by decide +kernel
theorem dX11_save_103 : decode cX11_save 103 = .ok (.iastore, 1) := by decide +kernel
theorem dX11_save_104 : decode cX11_save 104 = .ok (.return_, 1) := by decide +kernel
theorem dX11_save_11 : decode cX11_save 11 = .ok (.iconst 0, 1) := by decide +kernel
theorem dX11_save_12 : decode cX11_save 12 = .ok (.istore_n 1, 1) := by decide +kernel
theorem dX11_save_13 : decode cX11_save 13 = .ok (.iload_n 1, 1) := by decide +kernel
theorem dX11_save_14 : decode cX11_save 14 = .ok (.sipush 217, 3) := by decide +kernel
theorem dX11_save_17 : decode cX11_save 17 = .ok (.if_icmp .ge 28, 3) := by decide +kernel
theorem dX11_save_20 : decode cX11_save 20 = .ok (.aload_n 0, 1) := by decide +kernel
theorem dX11_save_21 : decode cX11_save 21 = .ok (.getfield 7, 3) := by decide +kernel
theorem dX11_save_24 : decode cX11_save 24 = .ok (.bipush 123, 2) := by decide +kernel
theorem dX11_save_26 : decode cX11_save 26 = .ok (.iload_n 1, 1) := by decide +kernel
theorem dX11_save_27 : decode cX11_save 27 = .ok (.iadd, 1) := by decide +kernel
theorem dX11_save_28 : decode cX11_save 28 = .ok (.aload_n 0, 1) := by decide +kernel
theorem dX11_save_29 : decode cX11_save 29 = .ok (.getfield 7, 3) := by decide +kernel
theorem dX11_save_32 : decode cX11_save 32 = .ok (.sipush 154, 3) := by decide +kernel
theorem dX11_save_35 : decode cX11_save 35 = .ok (.iload_n 1, 1) := by decide +kernel
theorem dX11_save_36 : decode cX11_save 36 = .ok (.iadd, 1) := by decide +kernel
theorem dX11_save_37 : decode cX11_save 37 = .ok (.iaload, 1) := by decide +kernel
theorem dX11_save_38 : decode cX11_save 38 = .ok (.iastore, 1) := by decide +kernel
theorem dX11_save_39 : decode cX11_save 39 = .ok (.iinc 1 1, 3) := by decide +kernel
theorem dX11_save_4 : decode cX11_save 4 = .ok (.iconst 4, 1) := by decide +kernel
theorem dX11_save_42 : decode cX11_save 42 = .ok (.goto (-29), 3) := by decide +kernel
theorem dX11_save_45 : decode cX11_save 45 = .ok (.aload_n 0, 1) := by decide +kernel
theorem dX11_save_46 : decode cX11_save 46 = .ok (.getfield 7, 3) := by decide +kernel
theorem dX11_save_49 : decode cX11_save 49 = .ok (.iconst 4, 1) := by decide +kernel
theorem dX11_save_5 : decode cX11_save 5 = .ok (.iaload, 1) := by decide +kernel
theorem dX11_save_50 : decode cX11_save 50 = .ok (.bipush 7, 2) := by decide +kernel
theorem dX11_save_52 : decode cX11_save 52 = .ok (.iastore, 1) := by decide +kernel
theorem dX11_save_53 : decode cX11_save 53 = .ok (.iconst 0, 1) := by decide +kernel
theorem dX11_save_54 : decode cX11_save 54 = .ok (.istore_n 1, 1) := by decide +kernel
theorem dX11_save_55 : decode cX11_save 55 = .ok (.iload_n 1, 1) := by decide +kernel
theorem dX11_save_56 : decode cX11_save 56 = .ok (.bipush 31, 2) := by decide +kernel
theorem dX11_save_58 : decode cX11_save 58 = .ok (.if_icmp .ge 36, 3) := by decide +kernel
theorem dX11_save_6 : decode cX11_save 6 = .ok (.bipush 8, 2) := by decide +kernel
theorem dX11_save_61 : decode cX11_save 61 = .ok (.aload_n 0, 1) := by decide +kernel
theorem dX11_save_62 : decode cX11_save 62 = .ok (.getfield 7, 3) := by decide +kernel
theorem dX11_save_65 : decode cX11_save 65 = .ok (.bipush 123, 2) := by decide +kernel
theorem dX11_save_67 : decode cX11_save 67 = .ok (.bipush 31, 2) := by decide +kernel
theorem dX11_save_69 : decode cX11_save 69 = .ok (.aload_n 0, 1) := by decide +kernel
theorem dX11_save_70 : decode cX11_save 70 = .ok (.getfield 7, 3) := by decide +kernel
theorem dX11_save_73 : decode cX11_save 73 = .ok (.iconst 4, 1) := by decide +kernel
theorem dX11_save_74 : decode cX11_save 74 = .ok (.iaload, 1) := by decide +kernel
theorem dX11_save_75 : decode cX11_save 75 = .ok (.imul, 1) := by decide +kernel
theorem dX11_save_76 : decode cX11_save 76 = .ok (.iadd, 1) := by decide +kernel
theorem dX11_save_77 : decode cX11_save 77 = .ok (.iload_n 1, 1) := by decide +kernel
theorem dX11_save_78 : decode cX11_save 78 = .ok (.iadd, 1) := by decide +kernel
theorem dX11_save_79 : decode cX11_save 79 = .ok (.aload_n 0, 1) := by decide +kernel
theorem dX11_save_8 : decode cX11_save 8 = .ok (.if_icmp .ne 45, 3) := by decide +kernel
theorem dX11_save_80 : decode cX11_save 80 = .ok (.getfield 7, 3) := by decide +kernel
theorem dX11_save_83 : decode cX11_save 83 = .ok (.iconst 5, 1) := by decide +kernel
theorem dX11_save_84 : decode cX11_save 84 = .ok (.iload_n 1, 1) := by decide +kernel
theorem dX11_save_85 : decode cX11_save 85 = .ok (.iadd, 1) := by decide +kernel
theorem dX11_save_86 : decode cX11_save 86 = .ok (.iaload, 1) := by decide +kernel
theorem dX11_save_87 : decode cX11_save 87 = .ok (.iastore, 1) := by decide +kernel
theorem dX11_save_88 : decode cX11_save 88 = .ok (.iinc 1 1, 3) := by decide +kernel
theorem dX11_save_91 : decode cX11_save 91 = .ok (.goto (-36), 3) := by decide +kernel
theorem dX11_save_94 : decode cX11_save 94 = .ok (.aload_n 0, 1) := by decide +kernel
theorem dX11_save_95 : decode cX11_save 95 = .ok (.getfield 7, 3) := by decide +kernel
theorem dX11_save_98 : decode cX11_save 98 = .ok (.iconst 4, 1) := by decide +kernel
theorem dX11_save_99 : decode cX11_save 99 = .ok (.dup2, 1) := by decide +kernel
theorem dX11_speed_0 : decode cX11_speed 0 = .ok (.aload_n 0, 1) := by decide +kernel
theorem dX11_speed_1 : decode cX11_speed 1 = .ok (.iload_n 1, 1) := by decide +kernel
theorem dX11_speed_12 : decode cX11_speed 12 = .ok (.ifCond .ne 10, 3) := by decide +kernel
theorem dX11_speed_15 : decode cX11_speed 15 = .ok (.aload_n 0, 1) := by decide +kernel
theorem dX11_speed_16 : decode cX11_speed 16 = .ok (.bipush (-2), 2) := by decide +kernel
theorem dX11_speed_18 : decode cX11_speed 18 = .ok (.invokevirtual 68, 3) := by decide +kernel
theorem dX11_speed_2 : decode cX11_speed 2 = .ok (.invokevirtual 123, 3) := by decide +kernel
theorem dX11_speed_21 : decode cX11_speed 21 = .ok (.ireturn, 1) := by decide +kernel
theorem dX11_speed_22 : decode cX11_speed 22 = .ok (.aload_n 0, 1) := by decide +kernel
theorem dX11_speed_23 : decode cX11_speed 23 = .ok (.getfield 7, 3) := by decide +kernel
theorem dX11_speed_26 : decode cX11_speed 26 = .ok (.bipush 11, 2) := by decide +kernel
theorem dX11_speed_28 : decode cX11_speed 28 = .ok (.iload_n 1, 1) := by decide +kernel
theorem dX11_speed_29 : decode cX11_speed 29 = .ok (.iadd, 1) := by decide +kernel
theorem dX11_speed_30 : decode cX11_speed 30 = .ok (.iaload, 1) := by decide +kernel
theorem dX11_speed_31 : decode cX11_speed 31 = .ok (.istore_n 3, 1) := by decide +kernel
theorem dX11_speed_32 : decode cX11_speed 32 = .ok (.iload_n 3, 1) := by decide +kernel
theorem dX11_speed_33 : decode cX11_speed 33 = .ok (.iload_n 2, 1) := by decide +kernel
theorem dX11_speed_34 : decode cX11_speed 34 = .ok (.if_icmp .eq 14, 3) := by decide +kernel
theorem dX11_speed_37 : decode cX11_speed 37 = .ok (.aload_n 0, 1) := by decide +kernel
theorem dX11_speed_38 : decode cX11_speed 38 = .ok (.getfield 7, 3) := by decide +kernel
theorem dX11_speed_41 : decode cX11_speed 41 = .ok (.iload_n 1, 1) := by decide +kernel
theorem dX11_speed_42 : decode cX11_speed 42 = .ok (.invokestatic 101, 3) := by decide +kernel
theorem dX11_speed_45 : decode cX11_speed 45 = .ok (.ifCond .eq 8, 3) := by decide +kernel
theorem dX11_speed_48 : decode cX11_speed 48 = .ok (.aload_n 0, 1) := by decide +kernel
theorem dX11_speed_49 : decode cX11_speed 49 = .ok (.invokevirtual 129, 3) := by decide +kernel
theorem dX11_speed_5 : decode cX11_speed 5 = .ok (.ifCond .eq 10, 3) := by decide +kernel
theorem dX11_speed_52 : decode cX11_speed 52 = .ok (.ireturn, 1) := by decide +kernel
theorem dX11_speed_53 : decode cX11_speed 53 = .ok (.aload_n 0, 1) := by decide +kernel
theorem dX11_speed_54 : decode cX11_speed 54 = .ok (.invokevirtual 113, 3) := by decide +kernel
theorem dX11_speed_57 : decode cX11_speed 57 = .ok (.aload_n 0, 1) := by decide +kernel
theorem dX11_speed_58 : decode cX11_speed 58 = .ok (.getfield 7, 3) := by decide +kernel
theorem dX11_speed_61 : decode cX11_speed 61 = .ok (.bipush 11, 2) := by decide +kernel
theorem dX11_speed_63 : decode cX11_speed 63 = .ok (.iload_n 1, 1) := by decide +kernel
theorem dX11_speed_64 : decode cX11_speed 64 = .ok (.iadd, 1) := by decide +kernel
theorem dX11_speed_65 : decode cX11_speed 65 = .ok (.iload_n 2, 1) := by decide +kernel
theorem dX11_speed_66 : decode cX11_speed 66 = .ok (.iastore, 1) := by decide +kernel
theorem dX11_speed_67 : decode cX11_speed 67 = .ok (.iload_n 3, 1) := by decide +kernel
theorem dX11_speed_68 : decode cX11_speed 68 = .ok (.ireturn, 1) := by decide +kernel
theorem dX11_speed_8 : decode cX11_speed 8 = .ok (.iload_n 2, 1) := by decide +kernel
theorem dX11_speed_9 : decode cX11_speed 9 = .ok (.invokestatic 126, 3) := by decide +kernel
theorem dX11_ticks_0 : decode cX11_ticks 0 = .ok (.iload_n 1, 1) := by decide +kernel
theorem dX11_ticks_1 : decode cX11_ticks 1 = .ok (.i2l, 1) := by decide +kernel
theorem dX11_ticks_12 : decode cX11_ticks 12 = .ok (.aload_n 0, 1) := by decide +kernel
theorem dX11_ticks_13 : decode cX11_ticks 13 = .ok (.bipush (-2), 2) := by decide +kernel
theorem dX11_ticks_15 : decode cX11_ticks 15 = .ok (.invokevirtual 68, 3) := by decide +kernel
theorem dX11_ticks_18 : decode cX11_ticks 18 = .ok (.ireturn, 1) := by decide +kernel
theorem dX11_ticks_19 : decode cX11_ticks 19 = .ok (.aload_n 0, 1) := by decide +kernel
theorem dX11_ticks_2 : decode cX11_ticks 2 = .ok (.lconst 1, 1) := by decide +kernel
theorem dX11_ticks_20 : decode cX11_ticks 20 = .ok (.invokevirtual 113, 3) := by decide +kernel
theorem dX11_ticks_23 : decode cX11_ticks 23 = .ok (.aload_n 0, 1) := by decide +kernel
theorem dX11_ticks_24 : decode cX11_ticks 24 = .ok (.getfield 7, 3) := by decide +kernel
theorem dX11_ticks_27 : decode cX11_ticks 27 = .ok (.iload_n 1, 1) := by decide +kernel
theorem dX11_ticks_28 : decode cX11_ticks 28 = .ok (.invokestatic 116, 3) := by decide +kernel
theorem dX11_ticks_3 : decode cX11_ticks 3 = .ok (.ldc2_w 66, 3) := by decide +kernel
theorem dX11_ticks_31 : decode cX11_ticks 31 = .ok (.aload_n 0, 1) := by decide +kernel
theorem dX11_ticks_32 : decode cX11_ticks 32 = .ok (.getfield 7, 3) := by decide +kernel
theorem dX11_ticks_35 : decode cX11_ticks 35 = .ok (.invokestatic 119, 3) := by decide +kernel
theorem dX11_ticks_38 : decode cX11_ticks 38 = .ok (.ireturn, 1) := by decide +kernel
theorem dX11_ticks_6 : decode cX11_ticks 6 = .ok (.invokestatic 56, 3) := by decide +kernel
theorem dX11_ticks_9 : decode cX11_ticks 9 = .ok (.ifCond .ne 10, 3) := by decide +kernel
set_option maxHeartbeats 4000000 in
set_option maxRecDepth 100000 in
/-- in -/
theorem m_in (l : Launch) (X : EX) (v : Int32) (lo : Int32) (hi : Int32) (sz : Nat) : Met l yX11_in wsX11_in ({ frames := 0, cells := 0, slots := 0, locals := 0 } : Room) (pE X [.long (Int32.toInt64 v), .long (Int32.toInt64 lo), .long (Int32.toInt64 hi)] ([]) sz) (qI (fun (r : Int32) (u : Unit) => (r = 1 ∧ (lo ≤ v ∧ v ≤ hi)) ∨ (r = 0 ∧ ¬ (lo ≤ v ∧ v ≤ hi))) X (fun (u : Unit) => []) [] sz) 0 0 (va_A [] sz) := by
  refine mk_met (B := (fun _ => True)) (A := (va_A [] sz)) (cc := cX11_in) (maxL := 6) (ret := (some .boolean)) (by decide) rfl (Nat.le_of_ble_eq_true rfl) k_ro k_a (fun p e s m below meth c S zr zlk znm zsz G ls hl => ?_)
  have S : CallFix p m c cX11_in 6 s _ wsX11_in RX11 := S
  have zx := S.1
  have zb := S.2.1
  have hl : lv_has ls 6 [(0, .long (Int32.toInt64 v)), (2, .long (Int32.toInt64 lo)), (4, .long (Int32.toInt64 hi))] := hl
  refine lv_lload_n zx zb dX11_in_0 rfl (lv_at hl 0 rfl) ?_
  refine lv_lload_n zx zb dX11_in_1 rfl (lv_at hl 1 rfl) ?_
  refine W.lcmp zx zb dX11_in_2 ?_
  refine lv_if_lt (tgt := 17) zx zb dX11_in_3 (by decide) (fun c_1 => ?_) (fun c_1 => ?_)
  · refine lv_iconst (v := 0) zx zb dX11_in_17 (by decide) ?_
    exact e_int S zr zlk (by decide) G () [] rfl rfl (Or.inl rfl) (by first | exact Or.inl ⟨rfl, Int32.not_lt.mp (fun q => c_1 (k_lc1.mpr q)), Int32.not_lt.mp (fun q => c_2 (k_lc2.mpr q))⟩ | exact Or.inr ⟨rfl, fun h => absurd (k_lc1.mp c_1) (Int32.not_lt.mpr h.1)⟩ | exact Or.inr ⟨rfl, fun h => absurd (k_lc2.mp c_2) (Int32.not_lt.mpr h.2)⟩) dX11_in_18
  · refine lv_lload_n zx zb dX11_in_6 rfl (lv_at hl 0 rfl) ?_
    refine lv_lload zx zb dX11_in_7 (lv_at hl 2 rfl) ?_
    refine W.lcmp zx zb dX11_in_9 ?_
    refine lv_if_gt (tgt := 17) zx zb dX11_in_10 (by decide) (fun c_2 => ?_) (fun c_2 => ?_)
    · refine lv_iconst (v := 0) zx zb dX11_in_17 (by decide) ?_
      exact e_int S zr zlk (by decide) G () [] rfl rfl (Or.inl rfl) (by first | exact Or.inl ⟨rfl, Int32.not_lt.mp (fun q => c_1 (k_lc1.mpr q)), Int32.not_lt.mp (fun q => c_2 (k_lc2.mpr q))⟩ | exact Or.inr ⟨rfl, fun h => absurd (k_lc1.mp c_1) (Int32.not_lt.mpr h.1)⟩ | exact Or.inr ⟨rfl, fun h => absurd (k_lc2.mp c_2) (Int32.not_lt.mpr h.2)⟩) dX11_in_18
    · refine lv_iconst (v := 1) zx zb dX11_in_13 (by decide) ?_
      refine lv_goto (tgt := 18) zx zb dX11_in_14 (by decide) ?_
      exact e_int S zr zlk (by decide) G () [] rfl rfl (Or.inl rfl) (by first | exact Or.inl ⟨rfl, Int32.not_lt.mp (fun q => c_1 (k_lc1.mpr q)), Int32.not_lt.mp (fun q => c_2 (k_lc2.mpr q))⟩ | exact Or.inr ⟨rfl, fun h => absurd (k_lc1.mp c_1) (Int32.not_lt.mpr h.1)⟩ | exact Or.inr ⟨rfl, fun h => absurd (k_lc2.mp c_2) (Int32.not_lt.mpr h.2)⟩) dX11_in_18
theorem in_X11_bad_X11 : ∀ w ∈ wsX110, w ∈ wsX11_bad := by decide +kernel
theorem lk_X11_bad_20 : Cond.fieldLink RX11 20 "EggSpoonsModel" "refused" "[I" ∈ wsX11_bad := by decide +kernel
set_option maxHeartbeats 4000000 in
set_option maxRecDepth 100000 in
/-- bad -/
theorem m_bad (l : Launch) (X : EX) (m0 : Nat) (ma : Nat → Nat) (la : Int64) (lb : Int64) (n : Nat) (t : Nat → Nat) (v : Nat → Int32) (fr : Nat → Int32) (x : Int32) (hI_n : n ≤ 150) (hI_t : InT t) (sz : Nat) : Met l yX11_bad wsX11_bad ({ frames := 0, cells := 0, slots := 0, locals := 0 } : Room) (pE X [.ref m0, .int x] (@HAppend.hAppend va_W va_W va_W _ (mW m0 ma la lb n t v) ([((ma 3), .inl (X.2.1, 3, .inl fr))])) sz) (qI (fun (r : Int32) (u : (Nat → Int32)) => (r = x)) X (fun (u : (Nat → Int32)) => @HAppend.hAppend va_W va_W va_W _ (mW m0 ma la lb n t v) ([((ma 3), .inl (X.2.1, 3, .inl u))])) (@HAppend.hAppend va_W va_W va_W _ (mW m0 ma la lb n t v) ([((ma 3), .inl (X.2.1, 3, .inl fr))])) sz) 0 0 (va_A (@HAppend.hAppend va_W va_W va_W _ (mW m0 ma la lb n t v) ([((ma 3), .inl (X.2.1, 3, .inl fr))])) sz) := by
  refine mk_met (B := (va_A (@HAppend.hAppend va_W va_W va_W _ (mW m0 ma la lb n t v) ([((ma 3), .inl (X.2.1, 3, .inl fr))])) sz)) (A := (va_A (@HAppend.hAppend va_W va_W va_W _ (mW m0 ma la lb n t v) ([((ma 3), .inl (X.2.1, 3, .inl fr))])) sz)) (cc := cX11_bad) (maxL := 2) (ret := (some .int)) (by decide) rfl (Nat.le_of_ble_eq_true rfl) k_w k_a (fun p e s m below meth c S zr zlk znm zsz G ls hl => ?_)
  have S : CallFix p m c cX11_bad 2 s _ wsX11_bad RX11 := S
  have zx := S.1
  have zb := S.2.1
  have hl : lv_has ls 2 [(0, .ref m0), (1, .int x)] := hl
  have hO_t := hI_t
  obtain ⟨ht0_t, ht1_t⟩ := hO_t
  refine lv_aload_n zx zb dX11_bad_0 rfl (lv_at hl 0 rfl) ?_
  refine r_get (C := RX11) (T := TX11) (N := 18) (ci := 9) (v := .ref (ma 3)) S in_X11_bad_X11 G 0 rfl rfl 3 (by decide) lk_X11_bad_20 rfl dX11_bad_1 ?_
  refine lv_iconst (v := 0) zx zb dX11_bad_4 (by decide) ?_
  refine lv_dup2_11 zx zb dX11_bad_5 rfl rfl ?_
  refine r_iald S G 1 rfl (k_vp (by decide)) rfl dX11_bad_6 ?_
  refine k_itE (fun y_1 => ?_)
  refine lv_iconst (v := 1) zx zb dX11_bad_7 (by decide) ?_
  refine r_iadd (v := (y_1 + 1)) S rfl dX11_bad_8 ?_
  refine r_iast S G 1 rfl (k_vp (by decide)) dX11_bad_9 (fun H locs G => ?_)
  obtain ⟨f_2, G⟩ : ∃ f_2 : Nat → Int32, wd X (va_A (@HAppend.hAppend va_W va_W va_W _ (mW m0 ma la lb n t v) ([((ma 3), .inl (X.2.1, 3, .inl fr))])) sz) (va_A (@HAppend.hAppend va_W va_W va_W _ (mW m0 ma la lb n t v) ([((ma 3), .inl (X.2.1, 3, .inl fr))])) sz) s (@HAppend.hAppend va_W va_W va_W _ (mW m0 ma la lb n t v) ([((ma 3), .inl (X.2.1, 3, .inl f_2))])) H locs := ⟨_, G⟩
  refine lv_iload_n zx zb dX11_bad_10 rfl (lv_at hl 1 rfl) ?_
  exact e_int S zr zlk (vp_nar_int _) G (f_2) [0, 1] rfl rfl (Or.inr rfl) (rfl) dX11_bad_11
theorem in_X11_no_X11 : ∀ w ∈ wsX110, w ∈ wsX11_no := by decide +kernel
theorem lk_X11_no_20 : Cond.fieldLink RX11 20 "EggSpoonsModel" "refused" "[I" ∈ wsX11_no := by decide +kernel
set_option maxHeartbeats 4000000 in
set_option maxRecDepth 100000 in
/-- no -/
theorem m_no (l : Launch) (X : EX) (m0 : Nat) (ma : Nat → Nat) (la : Int64) (lb : Int64) (n : Nat) (t : Nat → Nat) (v : Nat → Int32) (fr : Nat → Int32) (hI_n : n ≤ 150) (hI_t : InT t) (sz : Nat) : Met l yX11_no wsX11_no ({ frames := 0, cells := 0, slots := 0, locals := 0 } : Room) (pE X [.ref m0] (@HAppend.hAppend va_W va_W va_W _ (mW m0 ma la lb n t v) ([((ma 3), .inl (X.2.1, 3, .inl fr))])) sz) (qI (fun (r : Int32) (u : (Nat → Int32)) => (r = -3)) X (fun (u : (Nat → Int32)) => @HAppend.hAppend va_W va_W va_W _ (mW m0 ma la lb n t v) ([((ma 3), .inl (X.2.1, 3, .inl u))])) (@HAppend.hAppend va_W va_W va_W _ (mW m0 ma la lb n t v) ([((ma 3), .inl (X.2.1, 3, .inl fr))])) sz) 0 0 (va_A (@HAppend.hAppend va_W va_W va_W _ (mW m0 ma la lb n t v) ([((ma 3), .inl (X.2.1, 3, .inl fr))])) sz) := by
  refine mk_met (B := (va_A (@HAppend.hAppend va_W va_W va_W _ (mW m0 ma la lb n t v) ([((ma 3), .inl (X.2.1, 3, .inl fr))])) sz)) (A := (va_A (@HAppend.hAppend va_W va_W va_W _ (mW m0 ma la lb n t v) ([((ma 3), .inl (X.2.1, 3, .inl fr))])) sz)) (cc := cX11_no) (maxL := 1) (ret := (some .int)) (by decide) rfl (Nat.le_of_ble_eq_true rfl) k_w k_a (fun p e s m below meth c S zr zlk znm zsz G ls hl => ?_)
  have S : CallFix p m c cX11_no 1 s _ wsX11_no RX11 := S
  have zx := S.1
  have zb := S.2.1
  have hl : lv_has ls 1 [(0, .ref m0)] := hl
  have hO_t := hI_t
  obtain ⟨ht0_t, ht1_t⟩ := hO_t
  refine lv_aload_n zx zb dX11_no_0 rfl (lv_at hl 0 rfl) ?_
  refine r_get (C := RX11) (T := TX11) (N := 18) (ci := 9) (v := .ref (ma 3)) S in_X11_no_X11 G 0 rfl rfl 3 (by decide) lk_X11_no_20 rfl dX11_no_1 ?_
  refine lv_iconst (v := 1) zx zb dX11_no_4 (by decide) ?_
  refine lv_dup2_11 zx zb dX11_no_5 rfl rfl ?_
  refine r_iald S G 1 rfl (k_vp (by decide)) rfl dX11_no_6 ?_
  refine k_itE (fun y_1 => ?_)
  refine lv_iconst (v := 1) zx zb dX11_no_7 (by decide) ?_
  refine r_iadd (v := (y_1 + 1)) S rfl dX11_no_8 ?_
  refine r_iast S G 1 rfl (k_vp (by decide)) dX11_no_9 (fun H locs G => ?_)
  obtain ⟨f_2, G⟩ : ∃ f_2 : Nat → Int32, wd X (va_A (@HAppend.hAppend va_W va_W va_W _ (mW m0 ma la lb n t v) ([((ma 3), .inl (X.2.1, 3, .inl fr))])) sz) (va_A (@HAppend.hAppend va_W va_W va_W _ (mW m0 ma la lb n t v) ([((ma 3), .inl (X.2.1, 3, .inl fr))])) sz) s (@HAppend.hAppend va_W va_W va_W _ (mW m0 ma la lb n t v) ([((ma 3), .inl (X.2.1, 3, .inl f_2))])) H locs := ⟨_, G⟩
  refine lv_bipush (v := (-3)) zx zb dX11_no_10 (by decide) ?_
  exact e_int S zr zlk (vp_nar_int _) G (f_2) [0, 1] rfl rfl (Or.inr rfl) (rfl) dX11_no_12
theorem in_X11_full_X11 : ∀ w ∈ wsX110, w ∈ wsX11_full := by decide +kernel
theorem lk_X11_full_20 : Cond.fieldLink RX11 20 "EggSpoonsModel" "refused" "[I" ∈ wsX11_full := by decide +kernel
set_option maxHeartbeats 4000000 in
set_option maxRecDepth 100000 in
/-- full -/
theorem m_full (l : Launch) (X : EX) (m0 : Nat) (ma : Nat → Nat) (la : Int64) (lb : Int64) (n : Nat) (t : Nat → Nat) (v : Nat → Int32) (fr : Nat → Int32) (hI_n : n ≤ 150) (hI_t : InT t) (sz : Nat) : Met l yX11_full wsX11_full ({ frames := 0, cells := 0, slots := 0, locals := 0 } : Room) (pE X [.ref m0] (@HAppend.hAppend va_W va_W va_W _ (mW m0 ma la lb n t v) ([((ma 3), .inl (X.2.1, 3, .inl fr))])) sz) (qI (fun (r : Int32) (u : (Nat → Int32)) => (r = -4)) X (fun (u : (Nat → Int32)) => @HAppend.hAppend va_W va_W va_W _ (mW m0 ma la lb n t v) ([((ma 3), .inl (X.2.1, 3, .inl u))])) (@HAppend.hAppend va_W va_W va_W _ (mW m0 ma la lb n t v) ([((ma 3), .inl (X.2.1, 3, .inl fr))])) sz) 0 0 (va_A (@HAppend.hAppend va_W va_W va_W _ (mW m0 ma la lb n t v) ([((ma 3), .inl (X.2.1, 3, .inl fr))])) sz) := by
  refine mk_met (B := (va_A (@HAppend.hAppend va_W va_W va_W _ (mW m0 ma la lb n t v) ([((ma 3), .inl (X.2.1, 3, .inl fr))])) sz)) (A := (va_A (@HAppend.hAppend va_W va_W va_W _ (mW m0 ma la lb n t v) ([((ma 3), .inl (X.2.1, 3, .inl fr))])) sz)) (cc := cX11_full) (maxL := 1) (ret := (some .int)) (by decide) rfl (Nat.le_of_ble_eq_true rfl) k_w k_a (fun p e s m below meth c S zr zlk znm zsz G ls hl => ?_)
  have S : CallFix p m c cX11_full 1 s _ wsX11_full RX11 := S
  have zx := S.1
  have zb := S.2.1
  have hl : lv_has ls 1 [(0, .ref m0)] := hl
  have hO_t := hI_t
  obtain ⟨ht0_t, ht1_t⟩ := hO_t
  refine lv_aload_n zx zb dX11_full_0 rfl (lv_at hl 0 rfl) ?_
  refine r_get (C := RX11) (T := TX11) (N := 18) (ci := 9) (v := .ref (ma 3)) S in_X11_full_X11 G 0 rfl rfl 3 (by decide) lk_X11_full_20 rfl dX11_full_1 ?_
  refine lv_iconst (v := 2) zx zb dX11_full_4 (by decide) ?_
  refine lv_dup2_11 zx zb dX11_full_5 rfl rfl ?_
  refine r_iald S G 1 rfl (k_vp (by decide)) rfl dX11_full_6 ?_
  refine k_itE (fun y_1 => ?_)
  refine lv_iconst (v := 1) zx zb dX11_full_7 (by decide) ?_
  refine r_iadd (v := (y_1 + 1)) S rfl dX11_full_8 ?_
  refine r_iast S G 1 rfl (k_vp (by decide)) dX11_full_9 (fun H locs G => ?_)
  obtain ⟨f_2, G⟩ : ∃ f_2 : Nat → Int32, wd X (va_A (@HAppend.hAppend va_W va_W va_W _ (mW m0 ma la lb n t v) ([((ma 3), .inl (X.2.1, 3, .inl fr))])) sz) (va_A (@HAppend.hAppend va_W va_W va_W _ (mW m0 ma la lb n t v) ([((ma 3), .inl (X.2.1, 3, .inl fr))])) sz) s (@HAppend.hAppend va_W va_W va_W _ (mW m0 ma la lb n t v) ([((ma 3), .inl (X.2.1, 3, .inl f_2))])) H locs := ⟨_, G⟩
  refine lv_bipush (v := (-4)) zx zb dX11_full_10 (by decide) ?_
  exact e_int S zr zlk (vp_nar_int _) G (f_2) [0, 1] rfl rfl (Or.inr rfl) (rfl) dX11_full_12
set_option maxHeartbeats 4000000 in
set_option maxRecDepth 100000 in
/-- has -/
theorem m_has (l : Launch) (X : EX) (x1 : Int32) (x2 : Int32) (sz : Nat) : Met l yX11_has wsX11_has ({ frames := 0, cells := 0, slots := 0, locals := 0 } : Room) (pE X [.int x1, .int x2] ([]) sz) (qI (fun (r : Int32) (u : Unit) => r = 0 ∨ r = 1) X (fun (u : Unit) => []) [] sz) 0 0 (va_A [] sz) := by
  refine mk_met (B := (fun _ => True)) (A := (va_A [] sz)) (cc := cX11_has) (maxL := 2) (ret := (some .boolean)) (by decide) rfl (Nat.le_of_ble_eq_true rfl) k_ro k_a (fun p e s m below meth c S zr zlk znm zsz G ls hl => ?_)
  have S : CallFix p m c cX11_has 2 s _ wsX11_has RX11 := S
  have zx := S.1
  have zb := S.2.1
  have hl : lv_has ls 2 [(0, .int x1), (1, .int x2)] := hl
  refine lv_iload_n zx zb dX11_has_0 rfl (lv_at hl 0 rfl) ?_
  refine lv_iload_n zx zb dX11_has_1 rfl (lv_at hl 1 rfl) ?_
  refine lv_ishr zx zb dX11_has_2 ?_
  refine k_itE (fun y_1 => ?_)
  refine lv_iconst (v := 1) zx zb dX11_has_3 (by decide) ?_
  refine lv_iand zx zb dX11_has_4 ?_
  refine k_itE (fun y_2 => ?_)
  refine lv_iconst (v := 1) zx zb dX11_has_5 (by decide) ?_
  refine lv_icmp_ne (tgt := 13) zx zb dX11_has_6 (by decide) (fun c_3 => ?_) (fun c_3 => ?_)
  · refine lv_iconst (v := 0) zx zb dX11_has_13 (by decide) ?_
    exact e_int S zr zlk (by decide) G () [] rfl rfl (Or.inl rfl) (by first | exact Or.inl rfl | exact Or.inr rfl) dX11_has_14
  · refine lv_iconst (v := 1) zx zb dX11_has_9 (by decide) ?_
    refine lv_goto (tgt := 14) zx zb dX11_has_10 (by decide) ?_
    exact e_int S zr zlk (by decide) G () [] rfl rfl (Or.inl rfl) (by first | exact Or.inl rfl | exact Or.inr rfl) dX11_has_14
set_option maxHeartbeats 4000000 in
set_option maxRecDepth 100000 in
/-- begin -/
theorem m_begin (l : Launch) (X : EX) (ha : Nat) (N : Nat) (f : Nat → Int32) (c0 : Nat) (c1 : Nat) (c2 : Nat) (c3 : Nat) (c4 : Nat) (x : Int32) (hI_f : InA f c0 c1 c2 c3 c4) (hN : 123 ≤ N) (hM : N ≤ 1000) (sz : Nat) : Met l yX11_begin wsX11_begin ({ frames := 0, cells := 0, slots := 0, locals := 0 } : Room) (pE X [.ref ha, .int x] ([(ha, .inl (X.2.1, N, .inl f))]) sz) (qV (fun (u : (Nat → Int32) × (Nat) × (Nat) × (Nat) × (Nat) × (Nat)) => InA u.1 u.2.1 u.2.2.1 u.2.2.2.1 u.2.2.2.2.1 u.2.2.2.2.2 ∧ ((∀ j : Nat, j < 123 → j ≠ 36 → u.1 j = 0) ∧ u.1 36 = x ∧ (∀ j : Nat, 123 ≤ j → u.1 j = f j) ∧ u.2.1 = 0 ∧ u.2.2.1 = 0 ∧ u.2.2.2.1 = 0 ∧ u.2.2.2.2.1 = 0 ∧ u.2.2.2.2.2 = 0)) X (fun (u : (Nat → Int32) × (Nat) × (Nat) × (Nat) × (Nat) × (Nat)) => [(ha, .inl (X.2.1, N, .inl u.1))]) ([(ha, .inl (X.2.1, N, .inl f))]) sz) 0 0 (va_A ([(ha, .inl (X.2.1, N, .inl f))]) sz) := by
  refine mk_met (B := (va_A ([(ha, .inl (X.2.1, N, .inl f))]) sz)) (A := (va_A ([(ha, .inl (X.2.1, N, .inl f))]) sz)) (cc := cX11_begin) (maxL := 3) (ret := none) (by decide) rfl (Nat.le_of_ble_eq_true rfl) k_w k_a (fun p e s m below meth c S zr zlk znm zsz G ls hl => ?_)
  have S : CallFix p m c cX11_begin 3 s _ wsX11_begin RX11 := S
  have zx := S.1
  have zb := S.2.1
  have hl : lv_has ls 3 [(0, .ref ha), (1, .int x)] := hl
  have hO_f := hI_f.2
  obtain ⟨hm0_f, hm1_f, hm2_f, hm3_f, hm4_f⟩ := hO_f
  refine lv_iconst (v := 0) zx zb dX11_begin_0 (by decide) ?_
  refine lv_istore_n (lv' := [(2, .int 0), (0, .ref ha), (1, .int x)]) zx zb dX11_begin_1 rfl hl (by decide) rfl (fun ls hl => ?_)
  refine k_loop (P := ∀ (zm : Nat) (n2_2 : Nat) (f2_0 : Nat → Int32) (c02_0 : Nat) (c12_0 : Nat) (c22_0 : Nat) (c32_0 : Nat) (c42_0 : Nat) (H : Heap) (locs : List Loc) (ls : Array Slot), ((123 - n2_2) < zm) → ((∀ j : Nat, j < n2_2 → f2_0 j = 0) ∧ ∀ j : Nat, n2_2 ≤ j → f2_0 j = f j) → InA f2_0 c02_0 c12_0 c22_0 c32_0 c42_0 → (n2_2 ≤ 123) → wd X (va_A ([(ha, .inl (X.2.1, N, .inl f))]) sz) (va_A ([(ha, .inl (X.2.1, N, .inl f))]) sz) s ([(ha, .inl (X.2.1, N, .inl f2_0))]) H locs → lv_has ls 3 [(2, .int (nI n2_2)), (0, .ref ha), (1, .int x)] → W p l e _ s m _ below meth c H locs _ _ _ (F0 m 2 ls [])) (fun loop => loop ((123 - 0) + 1) 0 f c0 c1 c2 c3 c4 _ _ _ (by omega) ⟨fun j h => absurd h (Nat.not_lt_zero j), fun j _ => rfl⟩ hI_f (by omega) G hl) ?_
  intro zm
  induction zm with
  | zero => intro n2_2 f2_0 c02_0 c12_0 c22_0 c32_0 c42_0 H locs ls zz q_x0 q_hI_f2_0 q_hk_n2_2 _ _; exact absurd zz (by omega)
  | succ zm ih2 =>
    intro n2_2 f2_0 c02_0 c12_0 c22_0 c32_0 c42_0 H locs ls zm_2 hx2_0 hI_f2_0 hk_n2_2 G hl
    have hO_f2_0 := hI_f2_0.2
    obtain ⟨hm0_f2_0, hm1_f2_0, hm2_f2_0, hm3_f2_0, hm4_f2_0⟩ := hO_f2_0
    refine lv_iload_n zx zb dX11_begin_2 rfl (lv_at hl 0 rfl) ?_
    refine lv_bipush (v := 123) zx zb dX11_begin_3 (by decide) ?_
    refine lv_icmp_ge (tgt := 18) zx zb dX11_begin_5 (by decide) (fun c_1 => ?_) (fun c_1 => ?_)
    · have fc_1 := j_le (a := 123) (b := n2_2) (by omega) (by omega) c_1
      refine lv_aload_n zx zb dX11_begin_18 rfl (lv_at hl 1 rfl) ?_
      refine lv_bipush (v := 36) zx zb dX11_begin_19 (by decide) ?_
      refine lv_iload_n zx zb dX11_begin_21 rfl (lv_at hl 2 rfl) ?_
      refine r_iast S G 0 rfl (k_vpc (c := 36) rfl (by omega) (by omega)) dX11_begin_22 (fun H locs G => ?_)
      obtain ⟨f_2, hI_f_2, hE_f_2, G⟩ : ∃ f_2 : Nat → Int32, InA f_2 c02_0 c12_0 c22_0 c32_0 c42_0 ∧ f_2 = upd f2_0 36 x ∧ wd X (va_A ([(ha, .inl (X.2.1, N, .inl f))]) sz) (va_A ([(ha, .inl (X.2.1, N, .inl f))]) sz) s ([(ha, .inl (X.2.1, N, .inl f_2))]) H locs := ⟨_, InA_o hI_f2_0 (by decide), rfl, G⟩
      exact e_void S zr zlk G (f_2, c02_0, c12_0, c22_0, c32_0, c42_0) [0] rfl rfl (Or.inr rfl) (⟨hI_f_2, ⟨(fun j hj h36 => (congrFun hE_f_2 j).trans ((upd_ne h36).trans (hx2_0.1 j (by first | omega | (dsimp only; omega))))), (congrFun hE_f_2 36).trans upd_eq, fun j hj => (congrFun hE_f_2 j).trans ((upd_ne (by first | omega | (dsimp only; omega))).trans (hx2_0.2 j (by first | omega | (dsimp only; omega)))), k_cz (hI_f2_0.1.1.symm.trans (hx2_0.1 0 (by first | omega | (dsimp only; omega)))) (by first | omega | (dsimp only; omega)), k_cz (hI_f2_0.1.2.1.symm.trans (hx2_0.1 1 (by first | omega | (dsimp only; omega)))) (by first | omega | (dsimp only; omega)), k_cz (hI_f2_0.1.2.2.1.symm.trans (hx2_0.1 2 (by first | omega | (dsimp only; omega)))) (by first | omega | (dsimp only; omega)), k_cz (hI_f2_0.1.2.2.2.1.symm.trans (hx2_0.1 3 (by first | omega | (dsimp only; omega)))) (by first | omega | (dsimp only; omega)), k_cz (hI_f2_0.1.2.2.2.2.symm.trans (hx2_0.1 4 (by first | omega | (dsimp only; omega)))) (by first | omega | (dsimp only; omega))⟩⟩) dX11_begin_23
    · have fc_1 := j_nle (a := 123) (b := n2_2) (by omega) (by omega) c_1
      refine lv_aload_n zx zb dX11_begin_8 rfl (lv_at hl 1 rfl) ?_
      refine lv_iload_n zx zb dX11_begin_9 rfl (lv_at hl 0 rfl) ?_
      refine lv_iconst (v := 0) zx zb dX11_begin_10 (by decide) ?_
      refine r_iast S G 0 rfl (vp_in_nI (by omega) (by omega)) dX11_begin_11 (fun H locs G => ?_)
      obtain ⟨c_4, c_5, c_6, c_7, c_8, hI_f_3⟩ := InA_z (j := (nI n2_2).toNatClampNeg) hI_f2_0
      obtain ⟨f_3, hI_f_3, hE_f_3, G⟩ : ∃ f_3 : Nat → Int32, InA f_3 c_4 c_5 c_6 c_7 c_8 ∧ f_3 = upd f2_0 (nI n2_2).toNatClampNeg 0 ∧ wd X (va_A ([(ha, .inl (X.2.1, N, .inl f))]) sz) (va_A ([(ha, .inl (X.2.1, N, .inl f))]) sz) s ([(ha, .inl (X.2.1, N, .inl f_3))]) H locs := ⟨_, hI_f_3, rfl, G⟩
      have hO_f_3 := hI_f_3.2
      obtain ⟨hm0_f_3, hm1_f_3, hm2_f_3, hm3_f_3, hm4_f_3⟩ := hO_f_3
      refine lv_iinc (v := (nI (n2_2 + 1))) (lv' := [(2, .int (nI (n2_2 + 1))), (0, .ref ha), (1, .int x)]) zx zb dX11_begin_12 hl (k := 0) rfl (nI_add n2_2 1) (by decide) rfl (fun ls hl => ?_)
      refine lv_goto (tgt := 2) zx zb dX11_begin_15 (by decide) ?_
      exact ih2 (n2_2 + 1) f_3 c_4 c_5 c_6 c_7 c_8 _ _ _ (by omega) (k_zer hE_f_3 (nI_clamp (by omega)) hx2_0) hI_f_3 (by omega) G hl
theorem in_X11_many_X11 : ∀ w ∈ wsX110, w ∈ wsX11_many := by decide +kernel
theorem lk_X11_many_7 : Cond.fieldLink RX11 7 "EggSpoonsModel" "all" "[I" ∈ wsX11_many := by decide +kernel
set_option maxHeartbeats 4000000 in
set_option maxRecDepth 100000 in
/-- many -/
theorem m_many (l : Launch) (X : EX) (m0 : Nat) (ma : Nat → Nat) (la : Int64) (lb : Int64) (n : Nat) (t : Nat → Nat) (v : Nat → Int32) (fa : Nat → Int32) (c0 : Nat) (c1 : Nat) (c2 : Nat) (c3 : Nat) (c4 : Nat) (hI_n : n ≤ 150) (hI_t : InT t) (hI_fa : InA fa c0 c1 c2 c3 c4) (sz : Nat) : Met l yX11_many wsX11_many ({ frames := 0, cells := 0, slots := 0, locals := 0 } : Room) (pE X [.ref m0] (@HAppend.hAppend va_W va_W va_W _ (mW m0 ma la lb n t v) ([((ma 0), .inl (X.2.1, 371, .inl fa))])) sz) (qI (fun (r : Int32) (u : Unit) => r = nI c0) X (fun (u : Unit) => []) [] sz) 0 0 (va_A [] sz) := by
  refine mk_met (B := (fun _ => True)) (A := (va_A [] sz)) (cc := cX11_many) (maxL := 1) (ret := (some .int)) (by decide) rfl (Nat.le_of_ble_eq_true rfl) k_ro k_a (fun p e s m below meth c S zr zlk znm zsz G ls hl => ?_)
  have S : CallFix p m c cX11_many 1 s _ wsX11_many RX11 := S
  have zx := S.1
  have zb := S.2.1
  have hl : lv_has ls 1 [(0, .ref m0)] := hl
  have hO_t := hI_t
  obtain ⟨ht0_t, ht1_t⟩ := hO_t
  have hO_fa := hI_fa.2
  obtain ⟨hm0_fa, hm1_fa, hm2_fa, hm3_fa, hm4_fa⟩ := hO_fa
  refine lv_aload_n zx zb dX11_many_0 rfl (lv_at hl 0 rfl) ?_
  refine r_get (C := RX11) (T := TX11) (N := 18) (ci := 9) (v := .ref (ma 0)) S in_X11_many_X11 G 0 rfl rfl 0 (by decide) lk_X11_many_7 rfl dX11_many_1 ?_
  refine lv_iconst (v := 0) zx zb dX11_many_4 (by decide) ?_
  refine r_iald (v := (nI c0)) S G 1 rfl (k_vp (by decide)) hI_fa.1.1 dX11_many_5 ?_
  exact e_int S zr zlk (vp_nar_int _) G () [] rfl rfl (Or.inl rfl) (rfl) dX11_many_6
theorem hdV_X11_many : yX11_many.cls = RX11 ∧ yX11_many.cls ≠ "java/lang/invoke/MethodHandle" ∧ yX11_many.cls ≠ "java/lang/invoke/VarHandle" ∧ (parseMethodDescriptor yX11_many.desc).map (fun d => d.parameters.length) = some 0 := by decide +kernel
theorem hdS_X11_in : yX11_in.cls ≠ "java/lang/invoke/MethodHandle" ∧ yX11_in.cls ≠ "java/lang/invoke/VarHandle" ∧ (parseMethodDescriptor yX11_in.desc).map (fun d => d.parameters.length) = some 3 := by decide +kernel
set_option maxHeartbeats 4000000 in
set_option maxRecDepth 100000 in
/-- isOne -/
theorem m_isOne (l : Launch) (X : EX) (m0 : Nat) (ma : Nat → Nat) (la : Int64) (lb : Int64) (n : Nat) (t : Nat → Nat) (v : Nat → Int32) (fa : Nat → Int32) (c0 : Nat) (c1 : Nat) (c2 : Nat) (c3 : Nat) (c4 : Nat) (i : Int32) (hI_n : n ≤ 150) (hI_t : InT t) (hI_fa : InA fa c0 c1 c2 c3 c4) (sz : Nat) : Met l yX11_isOne wsX11_isOne ({ frames := 1, cells := 0, slots := 0, locals := 25 } : Room) (pE X [.ref m0, .int i] (@HAppend.hAppend va_W va_W va_W _ (mW m0 ma la lb n t v) ([((ma 0), .inl (X.2.1, 371, .inl fa))])) sz) (qI (fun (r : Int32) (u : Unit) => (r = 1 ∧ ∃ j : Nat, j < c0 ∧ i = nI j) ∨ (r = 0 ∧ ¬ thP c0 i)) X (fun (u : Unit) => []) [] sz) 0 0 (va_A [] sz) := by
  refine mk_met (B := (fun _ => True)) (A := (va_A [] sz)) (cc := cX11_isOne) (maxL := 2) (ret := (some .boolean)) (by decide) rfl (Nat.le_of_ble_eq_true rfl) k_ro k_a (fun p e s m below meth c S zr zlk znm zsz G ls hl => ?_)
  have S : CallFix p m c cX11_isOne 2 s _ wsX11_isOne RX11 := S
  have zx := S.1
  have zb := S.2.1
  have hl : lv_has ls 2 [(0, .ref m0), (1, .int i)] := hl
  have hO_t := hI_t
  obtain ⟨ht0_t, ht1_t⟩ := hO_t
  have hO_fa := hI_fa.2
  obtain ⟨hm0_fa, hm1_fa, hm2_fa, hm3_fa, hm4_fa⟩ := hO_fa
  refine lv_iload_n zx zb dX11_isOne_0 rfl (lv_at hl 1 rfl) ?_
  refine lv_i2l (v := (Int32.toInt64 i)) zx zb dX11_isOne_1 rfl ?_
  refine lv_lconst (v := (Int32.toInt64 0)) zx zb dX11_isOne_2 (by decide) ?_
  refine lv_aload_n zx zb dX11_isOne_3 rfl (lv_at hl 0 rfl) ?_
  refine o_ri (cells' := 0) (slots' := 0) G rfl rfl (n_V (As := []) (rest := [.long (Int32.toInt64 0), .long (Int32.toInt64 i)]) (C := RX11) (T := TX11) (N := 18) (ci := 9) S G (m_many l X m0 ma la lb n t v fa c0 c1 c2 c3 c4 hI_n hI_t hI_fa s.heap.size) gX11_isOne_X11_many rfl rfl rfl hdV_X11_many ⟨Nat.le_of_ble_eq_true rfl, Nat.le_of_ble_eq_true rfl⟩ [0, 1] rfl rfl 0 rfl rfl rfl hl.1 (Nat.le_of_ble_eq_true rfl) dX11_isOne_4 ⟨Nat.le_of_ble_eq_true rfl, Nat.le_of_ble_eq_true rfl⟩) (fun r_1 u_1 H locs hp_1 G => ?_)
  have G : wd X (fun _ => True) (va_A [] sz) s (@HAppend.hAppend va_W va_W va_W _ (mW m0 ma la lb n t v) ([((ma 0), .inl (X.2.1, 371, .inl fa))])) H locs := G
  obtain rfl := hp_1
  refine lv_iconst (v := 1) zx zb dX11_isOne_7 (by decide) ?_
  refine r_isub (v := ((nI c0) - 1)) S rfl dX11_isOne_8 ?_
  refine lv_i2l (v := (Int32.toInt64 ((nI c0) - 1))) zx zb dX11_isOne_9 rfl ?_
  refine o_ri (cells' := 0) (slots' := 0) G rfl rfl (n_S (As := [.long (Int32.toInt64 i), .long (Int32.toInt64 0), .long (Int32.toInt64 ((nI c0) - 1))]) (rest := []) S G (m_in l X i 0 ((nI c0) - 1) H.size) gX11_isOne_X11_in rfl rfl rfl hdS_X11_in ⟨Nat.le_of_ble_eq_true rfl, Nat.le_of_ble_eq_true rfl⟩ [] rfl rfl rfl hl.1 (Nat.le_of_ble_eq_true rfl) dX11_isOne_10 ⟨Nat.le_of_ble_eq_true rfl, Nat.le_of_ble_eq_true rfl⟩) (fun r_2 u_2 H locs hp_2 G => ?_)
  have G : wd X (fun _ => True) (va_A [] sz) s (@HAppend.hAppend va_W va_W va_W _ (mW m0 ma la lb n t v) ([((ma 0), .inl (X.2.1, 371, .inl fa))])) H locs := G
  rcases hp_2 with ⟨rfl, hw_2⟩ | ⟨rfl, hw_2⟩
  · exact e_int S zr zlk (by decide) G () [] rfl rfl (Or.inl rfl) (Or.inl ⟨rfl, k_one (by omega) hw_2⟩) dX11_isOne_13
  · exact e_int S zr zlk (by decide) G () [] rfl rfl (Or.inl rfl) (Or.inr ⟨rfl, k_nix2 (by omega) hw_2⟩) dX11_isOne_13
theorem mm_X11_isKind_c60 : Cond.constantLong RX11 60 (5) ∈ wsX11_isKind := by decide +kernel
set_option maxHeartbeats 4000000 in
set_option maxRecDepth 100000 in
/-- isKind -/
theorem m_isKind (l : Launch) (X : EX) (v : Int32) (sz : Nat) : Met l yX11_isKind wsX11_isKind ({ frames := 1, cells := 0, slots := 0, locals := 25 } : Room) (pE X [.int v] ([]) sz) (qI (fun (r : Int32) (u : Unit) => (r = 1 ∧ ((0 : Int32) ≤ v ∧ v ≤ 5)) ∨ (r = 0 ∧ ¬ ((0 : Int32) ≤ v ∧ v ≤ 5))) X (fun (u : Unit) => []) [] sz) 0 0 (va_A [] sz) := by
  refine mk_met (B := (fun _ => True)) (A := (va_A [] sz)) (cc := cX11_isKind) (maxL := 1) (ret := (some .boolean)) (by decide) rfl (Nat.le_of_ble_eq_true rfl) k_ro k_a (fun p e s m below meth c S zr zlk znm zsz G ls hl => ?_)
  have S : CallFix p m c cX11_isKind 1 s _ wsX11_isKind RX11 := S
  have zx := S.1
  have zb := S.2.1
  have hl : lv_has ls 1 [(0, .int v)] := hl
  refine lv_iload_n zx zb dX11_isKind_0 rfl (lv_at hl 0 rfl) ?_
  refine lv_i2l (v := (Int32.toInt64 v)) zx zb dX11_isKind_1 rfl ?_
  refine lv_lconst (v := (Int32.toInt64 0)) zx zb dX11_isKind_2 (by decide) ?_
  refine lv_ldc2 zx zb S.2.2.2.1 (S.2.2.2.2 _ mm_X11_isKind_c60) dX11_isKind_3 ?_
  refine k_ld (v := (Int32.toInt64 5)) (by decide) ?_
  refine o_ri (cells' := 0) (slots' := 0) G rfl rfl (n_S (As := [.long (Int32.toInt64 v), .long (Int32.toInt64 0), .long (Int32.toInt64 5)]) (rest := []) S G (m_in l X v 0 5 s.heap.size) gX11_isKind_X11_in rfl rfl rfl hdS_X11_in ⟨Nat.le_of_ble_eq_true rfl, Nat.le_of_ble_eq_true rfl⟩ [] rfl rfl rfl hl.1 (Nat.le_of_ble_eq_true rfl) dX11_isKind_6 ⟨Nat.le_of_ble_eq_true rfl, Nat.le_of_ble_eq_true rfl⟩) (fun r_1 u_1 H locs hp_1 G => ?_)
  have G : wd X (fun _ => True) (va_A [] sz) s ([]) H locs := G
  rcases hp_1 with ⟨rfl, hw_1⟩ | ⟨rfl, hw_1⟩
  · obtain ⟨j_1, ⟨ja_1, jb_1⟩, rfl⟩ := k_natR (a := 0) (b := 5) hw_1 rfl rfl (by decide) (by decide)
    exact e_int S zr zlk (by decide) G () [] rfl rfl (Or.inl rfl) (by first | exact Or.inl ⟨rfl, hw_1⟩ | exact Or.inr ⟨rfl, hw_1⟩) dX11_isKind_9
  · exact e_int S zr zlk (by decide) G () [] rfl rfl (Or.inl rfl) (by first | exact Or.inl ⟨rfl, hw_1⟩ | exact Or.inr ⟨rfl, hw_1⟩) dX11_isKind_9
theorem mm_X11_isLegs_c62 : Cond.constantLong RX11 62 (9) ∈ wsX11_isLegs := by decide +kernel
set_option maxHeartbeats 4000000 in
set_option maxRecDepth 100000 in
/-- isLegs -/
theorem m_isLegs (l : Launch) (X : EX) (v : Int32) (sz : Nat) : Met l yX11_isLegs wsX11_isLegs ({ frames := 1, cells := 0, slots := 0, locals := 25 } : Room) (pE X [.int v] ([]) sz) (qI (fun (r : Int32) (u : Unit) => (r = 1 ∧ ((1 : Int32) ≤ v ∧ v ≤ 9)) ∨ (r = 0 ∧ ¬ ((1 : Int32) ≤ v ∧ v ≤ 9))) X (fun (u : Unit) => []) [] sz) 0 0 (va_A [] sz) := by
  refine mk_met (B := (fun _ => True)) (A := (va_A [] sz)) (cc := cX11_isLegs) (maxL := 1) (ret := (some .boolean)) (by decide) rfl (Nat.le_of_ble_eq_true rfl) k_ro k_a (fun p e s m below meth c S zr zlk znm zsz G ls hl => ?_)
  have S : CallFix p m c cX11_isLegs 1 s _ wsX11_isLegs RX11 := S
  have zx := S.1
  have zb := S.2.1
  have hl : lv_has ls 1 [(0, .int v)] := hl
  refine lv_iload_n zx zb dX11_isLegs_0 rfl (lv_at hl 0 rfl) ?_
  refine lv_i2l (v := (Int32.toInt64 v)) zx zb dX11_isLegs_1 rfl ?_
  refine lv_lconst (v := (Int32.toInt64 1)) zx zb dX11_isLegs_2 (by decide) ?_
  refine lv_ldc2 zx zb S.2.2.2.1 (S.2.2.2.2 _ mm_X11_isLegs_c62) dX11_isLegs_3 ?_
  refine k_ld (v := (Int32.toInt64 9)) (by decide) ?_
  refine o_ri (cells' := 0) (slots' := 0) G rfl rfl (n_S (As := [.long (Int32.toInt64 v), .long (Int32.toInt64 1), .long (Int32.toInt64 9)]) (rest := []) S G (m_in l X v 1 9 s.heap.size) gX11_isLegs_X11_in rfl rfl rfl hdS_X11_in ⟨Nat.le_of_ble_eq_true rfl, Nat.le_of_ble_eq_true rfl⟩ [] rfl rfl rfl hl.1 (Nat.le_of_ble_eq_true rfl) dX11_isLegs_6 ⟨Nat.le_of_ble_eq_true rfl, Nat.le_of_ble_eq_true rfl⟩) (fun r_1 u_1 H locs hp_1 G => ?_)
  have G : wd X (fun _ => True) (va_A [] sz) s ([]) H locs := G
  rcases hp_1 with ⟨rfl, hw_1⟩ | ⟨rfl, hw_1⟩
  · obtain ⟨j_1, ⟨ja_1, jb_1⟩, rfl⟩ := k_natR (a := 1) (b := 9) hw_1 rfl rfl (by decide) (by decide)
    exact e_int S zr zlk (by decide) G () [] rfl rfl (Or.inl rfl) (by first | exact Or.inl ⟨rfl, hw_1⟩ | exact Or.inr ⟨rfl, hw_1⟩) dX11_isLegs_9
  · exact e_int S zr zlk (by decide) G () [] rfl rfl (Or.inl rfl) (by first | exact Or.inl ⟨rfl, hw_1⟩ | exact Or.inr ⟨rfl, hw_1⟩) dX11_isLegs_9
theorem mm_X11_isSpeed_c62 : Cond.constantLong RX11 62 (9) ∈ wsX11_isSpeed := by decide +kernel
set_option maxHeartbeats 4000000 in
set_option maxRecDepth 100000 in
/-- isSpeed -/
theorem m_isSpeed (l : Launch) (X : EX) (v : Int32) (sz : Nat) : Met l yX11_isSpeed wsX11_isSpeed ({ frames := 1, cells := 0, slots := 0, locals := 25 } : Room) (pE X [.int v] ([]) sz) (qI (fun (r : Int32) (u : Unit) => (r = 1 ∧ ((0 : Int32) ≤ v ∧ v ≤ 9)) ∨ (r = 0 ∧ ¬ ((0 : Int32) ≤ v ∧ v ≤ 9))) X (fun (u : Unit) => []) [] sz) 0 0 (va_A [] sz) := by
  refine mk_met (B := (fun _ => True)) (A := (va_A [] sz)) (cc := cX11_isSpeed) (maxL := 1) (ret := (some .boolean)) (by decide) rfl (Nat.le_of_ble_eq_true rfl) k_ro k_a (fun p e s m below meth c S zr zlk znm zsz G ls hl => ?_)
  have S : CallFix p m c cX11_isSpeed 1 s _ wsX11_isSpeed RX11 := S
  have zx := S.1
  have zb := S.2.1
  have hl : lv_has ls 1 [(0, .int v)] := hl
  refine lv_iload_n zx zb dX11_isSpeed_0 rfl (lv_at hl 0 rfl) ?_
  refine lv_i2l (v := (Int32.toInt64 v)) zx zb dX11_isSpeed_1 rfl ?_
  refine lv_lconst (v := (Int32.toInt64 0)) zx zb dX11_isSpeed_2 (by decide) ?_
  refine lv_ldc2 zx zb S.2.2.2.1 (S.2.2.2.2 _ mm_X11_isSpeed_c62) dX11_isSpeed_3 ?_
  refine k_ld (v := (Int32.toInt64 9)) (by decide) ?_
  refine o_ri (cells' := 0) (slots' := 0) G rfl rfl (n_S (As := [.long (Int32.toInt64 v), .long (Int32.toInt64 0), .long (Int32.toInt64 9)]) (rest := []) S G (m_in l X v 0 9 s.heap.size) gX11_isSpeed_X11_in rfl rfl rfl hdS_X11_in ⟨Nat.le_of_ble_eq_true rfl, Nat.le_of_ble_eq_true rfl⟩ [] rfl rfl rfl hl.1 (Nat.le_of_ble_eq_true rfl) dX11_isSpeed_6 ⟨Nat.le_of_ble_eq_true rfl, Nat.le_of_ble_eq_true rfl⟩) (fun r_1 u_1 H locs hp_1 G => ?_)
  have G : wd X (fun _ => True) (va_A [] sz) s ([]) H locs := G
  rcases hp_1 with ⟨rfl, hw_1⟩ | ⟨rfl, hw_1⟩
  · obtain ⟨j_1, ⟨ja_1, jb_1⟩, rfl⟩ := k_natR (a := 0) (b := 9) hw_1 rfl rfl (by decide) (by decide)
    exact e_int S zr zlk (by decide) G () [] rfl rfl (Or.inl rfl) (by first | exact Or.inl ⟨rfl, hw_1⟩ | exact Or.inr ⟨rfl, hw_1⟩) dX11_isSpeed_9
  · exact e_int S zr zlk (by decide) G () [] rfl rfl (Or.inl rfl) (by first | exact Or.inl ⟨rfl, hw_1⟩ | exact Or.inr ⟨rfl, hw_1⟩) dX11_isSpeed_9
theorem mm_X11_race_c64 : Cond.constantLong RX11 64 (10) ∈ wsX11_race := by decide +kernel
theorem mm_X11_race_c66 : Cond.constantLong RX11 66 (60) ∈ wsX11_race := by decide +kernel
theorem in_X11_race_X11 : ∀ w ∈ wsX110, w ∈ wsX11_race := by decide +kernel
theorem lk_X11_race_7 : Cond.fieldLink RX11 7 "EggSpoonsModel" "all" "[I" ∈ wsX11_race := by decide +kernel
theorem hdS_X11_begin : yX11_begin.cls ≠ "java/lang/invoke/MethodHandle" ∧ yX11_begin.cls ≠ "java/lang/invoke/VarHandle" ∧ (parseMethodDescriptor yX11_begin.desc).map (fun d => d.parameters.length) = some 2 := by decide +kernel
theorem hdV_X11_bad : yX11_bad.cls = RX11 ∧ yX11_bad.cls ≠ "java/lang/invoke/MethodHandle" ∧ yX11_bad.cls ≠ "java/lang/invoke/VarHandle" ∧ (parseMethodDescriptor yX11_bad.desc).map (fun d => d.parameters.length) = some 1 := by decide +kernel
set_option maxHeartbeats 4000000 in
set_option maxRecDepth 100000 in
/-- race -/
theorem m_race (l : Launch) (X : EX) (m0 : Nat) (ma : Nat → Nat) (la : Int64) (lb : Int64) (n : Nat) (t : Nat → Nat) (v : Nat → Int32) (fa : Nat → Int32) (c0 : Nat) (c1 : Nat) (c2 : Nat) (c3 : Nat) (c4 : Nat) (fr : Nat → Int32) (x1 : Int32) (hI_n : n ≤ 150) (hI_t : InT t) (hI_fa : InA fa c0 c1 c2 c3 c4) (sz : Nat) : Met l yX11_race wsX11_race ({ frames := 1, cells := 0, slots := 0, locals := 25 } : Room) (pE X [.ref m0, .int x1] (@HAppend.hAppend va_W va_W va_W _ (mW m0 ma la lb n t v) (@HAppend.hAppend va_W va_W va_W _ ([((ma 0), .inl (X.2.1, 371, .inl fa))]) ([((ma 3), .inl (X.2.1, 3, .inl fr))]))) sz) (qI (fun (r : Int32) (u : (Nat → Int32) × (Nat) × (Nat) × (Nat) × (Nat) × (Nat) × (Nat → Int32)) => InA u.1 u.2.1 u.2.2.1 u.2.2.2.1 u.2.2.2.2.1 u.2.2.2.2.2.1 ∧ ((r, (u.2.1, u.2.2.1, u.2.2.2.1, u.2.2.2.2.1)) = raceF x1 (c0, c1, c2, c3))) X (fun (u : (Nat → Int32) × (Nat) × (Nat) × (Nat) × (Nat) × (Nat) × (Nat → Int32)) => @HAppend.hAppend va_W va_W va_W _ (mW m0 ma la lb n t v) (@HAppend.hAppend va_W va_W va_W _ ([((ma 0), .inl (X.2.1, 371, .inl u.1))]) ([((ma 3), .inl (X.2.1, 3, .inl u.2.2.2.2.2.2))]))) (@HAppend.hAppend va_W va_W va_W _ (mW m0 ma la lb n t v) (@HAppend.hAppend va_W va_W va_W _ ([((ma 0), .inl (X.2.1, 371, .inl fa))]) ([((ma 3), .inl (X.2.1, 3, .inl fr))]))) sz) 0 0 (va_A (@HAppend.hAppend va_W va_W va_W _ (mW m0 ma la lb n t v) (@HAppend.hAppend va_W va_W va_W _ ([((ma 0), .inl (X.2.1, 371, .inl fa))]) ([((ma 3), .inl (X.2.1, 3, .inl fr))]))) sz) := by
  refine mk_met (B := (va_A (@HAppend.hAppend va_W va_W va_W _ (mW m0 ma la lb n t v) (@HAppend.hAppend va_W va_W va_W _ ([((ma 0), .inl (X.2.1, 371, .inl fa))]) ([((ma 3), .inl (X.2.1, 3, .inl fr))]))) sz)) (A := (va_A (@HAppend.hAppend va_W va_W va_W _ (mW m0 ma la lb n t v) (@HAppend.hAppend va_W va_W va_W _ ([((ma 0), .inl (X.2.1, 371, .inl fa))]) ([((ma 3), .inl (X.2.1, 3, .inl fr))]))) sz)) (cc := cX11_race) (maxL := 3) (ret := (some .int)) (by decide) rfl (Nat.le_of_ble_eq_true rfl) k_w k_a (fun p e s m below meth c S zr zlk znm zsz G ls hl => ?_)
  have S : CallFix p m c cX11_race 3 s _ wsX11_race RX11 := S
  have zx := S.1
  have zb := S.2.1
  have hl : lv_has ls 3 [(0, .ref m0), (1, .int x1)] := hl
  have hO_t := hI_t
  obtain ⟨ht0_t, ht1_t⟩ := hO_t
  have hO_fa := hI_fa.2
  obtain ⟨hm0_fa, hm1_fa, hm2_fa, hm3_fa, hm4_fa⟩ := hO_fa
  refine lv_iload_n zx zb dX11_race_0 rfl (lv_at hl 1 rfl) ?_
  refine lv_i2l (v := (Int32.toInt64 x1)) zx zb dX11_race_1 rfl ?_
  refine lv_ldc2 zx zb S.2.2.2.1 (S.2.2.2.2 _ mm_X11_race_c64) dX11_race_2 ?_
  refine k_ld (v := (Int32.toInt64 10)) (by decide) ?_
  refine lv_ldc2 zx zb S.2.2.2.1 (S.2.2.2.2 _ mm_X11_race_c66) dX11_race_5 ?_
  refine k_ld (v := (Int32.toInt64 60)) (by decide) ?_
  refine o_ri (cells' := 0) (slots' := 0) G rfl rfl (n_S (As := [.long (Int32.toInt64 x1), .long (Int32.toInt64 10), .long (Int32.toInt64 60)]) (rest := []) S G (m_in l X x1 10 60 s.heap.size) gX11_race_X11_in rfl rfl rfl hdS_X11_in ⟨Nat.le_of_ble_eq_true rfl, Nat.le_of_ble_eq_true rfl⟩ [] rfl rfl rfl hl.1 (Nat.le_of_ble_eq_true rfl) dX11_race_8 ⟨Nat.le_of_ble_eq_true rfl, Nat.le_of_ble_eq_true rfl⟩) (fun r_1 u_1 H locs hp_1 G => ?_)
  have G : wd X (va_A (@HAppend.hAppend va_W va_W va_W _ (mW m0 ma la lb n t v) (@HAppend.hAppend va_W va_W va_W _ ([((ma 0), .inl (X.2.1, 371, .inl fa))]) ([((ma 3), .inl (X.2.1, 3, .inl fr))]))) sz) (va_A (@HAppend.hAppend va_W va_W va_W _ (mW m0 ma la lb n t v) (@HAppend.hAppend va_W va_W va_W _ ([((ma 0), .inl (X.2.1, 371, .inl fa))]) ([((ma 3), .inl (X.2.1, 3, .inl fr))]))) sz) s (@HAppend.hAppend va_W va_W va_W _ (mW m0 ma la lb n t v) (@HAppend.hAppend va_W va_W va_W _ ([((ma 0), .inl (X.2.1, 371, .inl fa))]) ([((ma 3), .inl (X.2.1, 3, .inl fr))]))) H locs := G
  rcases hp_1 with ⟨rfl, hw_1⟩ | ⟨rfl, hw_1⟩
  · obtain ⟨j_1, ⟨ja_1, jb_1⟩, rfl⟩ := k_natR (a := 10) (b := 60) hw_1 rfl rfl (by decide) (by decide)
    refine lv_if_ne (tgt := 21) zx zb dX11_race_11 (by decide) (fun c_2 => ?_) (fun c_2 => absurd c_2 (by decide))
    refine lv_aload_n zx zb dX11_race_21 rfl (lv_at hl 0 rfl) ?_
    refine o_ri (cells' := 0) (slots' := 0) G rfl rfl (n_V (As := []) (rest := []) (C := RX11) (T := TX11) (N := 18) (ci := 9) S G (m_many l X m0 ma la lb n t v fa c0 c1 c2 c3 c4 hI_n hI_t hI_fa H.size) gX11_race_X11_many rfl rfl rfl hdV_X11_many ⟨Nat.le_of_ble_eq_true rfl, Nat.le_of_ble_eq_true rfl⟩ [0, 1] rfl rfl 0 rfl rfl rfl hl.1 (Nat.le_of_ble_eq_true rfl) dX11_race_22 ⟨Nat.le_of_ble_eq_true rfl, Nat.le_of_ble_eq_true rfl⟩) (fun r_3 u_3 H locs hp_3 G => ?_)
    have G : wd X (va_A (@HAppend.hAppend va_W va_W va_W _ (mW m0 ma la lb n t v) (@HAppend.hAppend va_W va_W va_W _ ([((ma 0), .inl (X.2.1, 371, .inl fa))]) ([((ma 3), .inl (X.2.1, 3, .inl fr))]))) sz) (va_A (@HAppend.hAppend va_W va_W va_W _ (mW m0 ma la lb n t v) (@HAppend.hAppend va_W va_W va_W _ ([((ma 0), .inl (X.2.1, 371, .inl fa))]) ([((ma 3), .inl (X.2.1, 3, .inl fr))]))) sz) s (@HAppend.hAppend va_W va_W va_W _ (mW m0 ma la lb n t v) (@HAppend.hAppend va_W va_W va_W _ ([((ma 0), .inl (X.2.1, 371, .inl fa))]) ([((ma 3), .inl (X.2.1, 3, .inl fr))]))) H locs := G
    obtain rfl := hp_3
    refine lv_istore_n (lv' := [(2, .int (nI c0)), (0, .ref m0), (1, .int (nI j_1))]) zx zb dX11_race_25 rfl hl (by decide) rfl (fun ls hl => ?_)
    refine lv_aload_n zx zb dX11_race_26 rfl (lv_at hl 1 rfl) ?_
    refine r_get (C := RX11) (T := TX11) (N := 18) (ci := 9) (v := .ref (ma 0)) S in_X11_race_X11 G 0 rfl rfl 0 (by decide) lk_X11_race_7 rfl dX11_race_27 ?_
    refine lv_iload_n zx zb dX11_race_30 rfl (lv_at hl 2 rfl) ?_
    refine b_wv (cells' := 0) (slots' := 0) (wr := @HAppend.hAppend va_W va_W va_W _ (mW m0 ma la lb n t v) ([((ma 3), .inl (X.2.1, 3, .inl fr))])) G rfl rfl [1] [0, 2] rfl rfl rfl rfl (n_S (As := [.ref (ma 0), .int (nI j_1)]) (rest := []) S G (m_begin l X (ma 0) 371 fa c0 c1 c2 c3 c4 (nI j_1) hI_fa (by omega) (by omega) H.size) gX11_race_X11_begin rfl rfl rfl hdS_X11_begin ⟨Nat.le_of_ble_eq_true rfl, Nat.le_of_ble_eq_true rfl⟩ [1] rfl rfl rfl hl.1 (Nat.le_of_ble_eq_true rfl) dX11_race_31 ⟨Nat.le_of_ble_eq_true rfl, Nat.le_of_ble_eq_true rfl⟩) (fun u_4 H locs hp_4 G => ?_)
    obtain ⟨f_4a, c0_4b, c1_4c, c2_4d, c3_4e, c4_4f⟩ := u_4
    try dsimp only at hp_4
    obtain ⟨hI_f_4a, hq_4⟩ := hp_4
    have hO_f_4a := hI_f_4a.2
    obtain ⟨hm0_f_4a, hm1_f_4a, hm2_f_4a, hm3_f_4a, hm4_f_4a⟩ := hO_f_4a
    have G : wd X (va_A (@HAppend.hAppend va_W va_W va_W _ (mW m0 ma la lb n t v) (@HAppend.hAppend va_W va_W va_W _ ([((ma 0), .inl (X.2.1, 371, .inl fa))]) ([((ma 3), .inl (X.2.1, 3, .inl fr))]))) sz) (va_A (@HAppend.hAppend va_W va_W va_W _ (mW m0 ma la lb n t v) (@HAppend.hAppend va_W va_W va_W _ ([((ma 0), .inl (X.2.1, 371, .inl fa))]) ([((ma 3), .inl (X.2.1, 3, .inl fr))]))) sz) s (@HAppend.hAppend va_W va_W va_W _ (mW m0 ma la lb n t v) (@HAppend.hAppend va_W va_W va_W _ ([((ma 3), .inl (X.2.1, 3, .inl fr))]) ([((ma 0), .inl (X.2.1, 371, .inl f_4a))]))) H locs := G
    obtain ⟨hb0_4, hb1_4, hb2_4, hb3_4, hb4_4, hb5_4, hb6_4, hb7_4⟩ := hq_4
    refine lv_iload_n zx zb dX11_race_34 rfl (lv_at hl 0 rfl) ?_
    have hzF : ((nI c0), (c0_4b, c1_4c, c2_4d, c3_4e)) = raceF (nI j_1) (c0, c1, c2, c3) := by rw [raceF_p hw_1, hb3_4, hb4_4, hb5_4, hb6_4]
    exact e_int S zr zlk (vp_nar_int _) G (f_4a, c0_4b, c1_4c, c2_4d, c3_4e, c4_4f, fr) [0, 2, 1] rfl rfl (Or.inr rfl) (⟨hI_f_4a, hzF⟩) dX11_race_35
  · refine lv_if_ne (tgt := 21) zx zb dX11_race_11 (by decide) (fun c_5 => absurd (by decide) c_5) (fun c_5 => ?_)
    refine lv_aload_n zx zb dX11_race_14 rfl (lv_at hl 0 rfl) ?_
    refine lv_bipush (v := (-2)) zx zb dX11_race_15 (by decide) ?_
    refine b_wi (cells' := 0) (slots' := 0) (wr := [((ma 0), .inl (X.2.1, 371, .inl fa))]) G rfl rfl [0, 2] [1] rfl rfl rfl rfl (n_V (As := [.int (-2)]) (rest := []) (C := RX11) (T := TX11) (N := 18) (ci := 9) S G (m_bad l X m0 ma la lb n t v fr (-2) hI_n hI_t H.size) gX11_race_X11_bad rfl rfl rfl hdV_X11_bad ⟨Nat.le_of_ble_eq_true rfl, Nat.le_of_ble_eq_true rfl⟩ [0, 2] rfl rfl 0 rfl rfl rfl hl.1 (Nat.le_of_ble_eq_true rfl) dX11_race_17 ⟨Nat.le_of_ble_eq_true rfl, Nat.le_of_ble_eq_true rfl⟩) (fun r_6 u_6 H locs hp_6 G => ?_)
    obtain ⟨f_6, rfl⟩ : ∃ z, z = u_6 := ⟨_, rfl⟩
    have hq_6 := hp_6
    have G : wd X (va_A (@HAppend.hAppend va_W va_W va_W _ (mW m0 ma la lb n t v) (@HAppend.hAppend va_W va_W va_W _ ([((ma 0), .inl (X.2.1, 371, .inl fa))]) ([((ma 3), .inl (X.2.1, 3, .inl fr))]))) sz) (va_A (@HAppend.hAppend va_W va_W va_W _ (mW m0 ma la lb n t v) (@HAppend.hAppend va_W va_W va_W _ ([((ma 0), .inl (X.2.1, 371, .inl fa))]) ([((ma 3), .inl (X.2.1, 3, .inl fr))]))) sz) s (@HAppend.hAppend va_W va_W va_W _ ([((ma 0), .inl (X.2.1, 371, .inl fa))]) (@HAppend.hAppend va_W va_W va_W _ (mW m0 ma la lb n t v) ([((ma 3), .inl (X.2.1, 3, .inl f_6))]))) H locs := G
    obtain rfl := hq_6
    have hzF : ((-2), (c0, c1, c2, c3)) = raceF x1 (c0, c1, c2, c3) := (raceF_n (fun h => hw_1 h)).symm
    exact e_int S zr zlk (vp_nar_int _) G (fa, c0, c1, c2, c3, c4, f_6) [1, 0, 2] rfl rfl (Or.inr rfl) (⟨hI_fa, hzF⟩) dX11_race_20
set_option maxHeartbeats 4000000 in
set_option maxRecDepth 100000 in
/-- layOne -/
theorem m_layOne (l : Launch) (X : EX) (ha : Nat) (N : Nat) (f : Nat → Int32) (c0 : Nat) (c1 : Nat) (c2 : Nat) (c3 : Nat) (c4 : Nat) (x1 : Int32) (x2 : Int32) (x3 : Int32) (hI_f : InA f c0 c1 c2 c3 c4) (hN : 55 ≤ N) (hM : N ≤ 1000) (h5 : c0 < 6) (sz : Nat) : Met l yX11_layOne wsX11_layOne ({ frames := 0, cells := 0, slots := 0, locals := 0 } : Room) (pE X [.ref ha, .int x1, .int x2, .int x3] ([(ha, .inl (X.2.1, N, .inl f))]) sz) (qV (fun (u : (Nat → Int32) × (Nat)) => InA u.1 u.2 c1 c2 c3 c4 ∧ (u.2 = c0 + 1)) X (fun (u : (Nat → Int32) × (Nat)) => [(ha, .inl (X.2.1, N, .inl u.1))]) ([(ha, .inl (X.2.1, N, .inl f))]) sz) 0 0 (va_A ([(ha, .inl (X.2.1, N, .inl f))]) sz) := by
  refine mk_met (B := (va_A ([(ha, .inl (X.2.1, N, .inl f))]) sz)) (A := (va_A ([(ha, .inl (X.2.1, N, .inl f))]) sz)) (cc := cX11_layOne) (maxL := 5) (ret := none) (by decide) rfl (Nat.le_of_ble_eq_true rfl) k_w k_a (fun p e s m below meth c S zr zlk znm zsz G ls hl => ?_)
  have S : CallFix p m c cX11_layOne 5 s _ wsX11_layOne RX11 := S
  have zx := S.1
  have zb := S.2.1
  have hl : lv_has ls 5 [(0, .ref ha), (1, .int x1), (2, .int x2), (3, .int x3)] := hl
  have hO_f := hI_f.2
  obtain ⟨hm0_f, hm1_f, hm2_f, hm3_f, hm4_f⟩ := hO_f
  refine lv_aload_n zx zb dX11_layOne_0 rfl (lv_at hl 0 rfl) ?_
  refine lv_iconst (v := 0) zx zb dX11_layOne_1 (by decide) ?_
  refine r_iald (v := (nI c0)) S G 0 rfl (k_vpc (c := 0) rfl (by omega) (by omega)) hI_f.1.1 dX11_layOne_2 ?_
  refine lv_istore (lv' := [(4, .int (nI c0)), (0, .ref ha), (1, .int x1), (2, .int x2), (3, .int x3)]) zx zb dX11_layOne_3 hl (by decide) rfl (fun ls hl => ?_)
  refine lv_aload_n zx zb dX11_layOne_5 rfl (lv_at hl 1 rfl) ?_
  refine lv_bipush (v := 37) zx zb dX11_layOne_6 (by decide) ?_
  refine lv_iload zx zb dX11_layOne_8 (lv_at hl 0 rfl) ?_
  refine r_iadd (v := (nI (37 + c0))) S (nI_add 37 c0) dX11_layOne_10 ?_
  refine lv_iload_n zx zb dX11_layOne_11 rfl (lv_at hl 2 rfl) ?_
  refine r_iast S G 0 rfl (vp_in_nI (by omega) (by omega)) dX11_layOne_12 (fun H locs G => ?_)
  obtain ⟨f_2, hI_f_2, hE_f_2, G⟩ : ∃ f_2 : Nat → Int32, InA f_2 c0 c1 c2 c3 c4 ∧ f_2 = upd f (nI (37 + c0)).toNatClampNeg x1 ∧ wd X (va_A ([(ha, .inl (X.2.1, N, .inl f))]) sz) (va_A ([(ha, .inl (X.2.1, N, .inl f))]) sz) s ([(ha, .inl (X.2.1, N, .inl f_2))]) H locs := ⟨_, InA_o hI_f (by rw [nI_clamp (by omega)]; omega), rfl, G⟩
  refine lv_aload_n zx zb dX11_layOne_13 rfl (lv_at hl 1 rfl) ?_
  refine lv_bipush (v := 43) zx zb dX11_layOne_14 (by decide) ?_
  refine lv_iload zx zb dX11_layOne_16 (lv_at hl 0 rfl) ?_
  refine r_iadd (v := (nI (43 + c0))) S (nI_add 43 c0) dX11_layOne_18 ?_
  refine lv_iload_n zx zb dX11_layOne_19 rfl (lv_at hl 3 rfl) ?_
  refine r_iast S G 0 rfl (vp_in_nI (by omega) (by omega)) dX11_layOne_20 (fun H locs G => ?_)
  obtain ⟨f_3, hI_f_3, hE_f_3, G⟩ : ∃ f_3 : Nat → Int32, InA f_3 c0 c1 c2 c3 c4 ∧ f_3 = upd f_2 (nI (43 + c0)).toNatClampNeg x2 ∧ wd X (va_A ([(ha, .inl (X.2.1, N, .inl f))]) sz) (va_A ([(ha, .inl (X.2.1, N, .inl f))]) sz) s ([(ha, .inl (X.2.1, N, .inl f_3))]) H locs := ⟨_, InA_o hI_f_2 (by rw [nI_clamp (by omega)]; omega), rfl, G⟩
  refine lv_aload_n zx zb dX11_layOne_21 rfl (lv_at hl 1 rfl) ?_
  refine lv_bipush (v := 49) zx zb dX11_layOne_22 (by decide) ?_
  refine lv_iload zx zb dX11_layOne_24 (lv_at hl 0 rfl) ?_
  refine r_iadd (v := (nI (49 + c0))) S (nI_add 49 c0) dX11_layOne_26 ?_
  refine lv_iload_n zx zb dX11_layOne_27 rfl (lv_at hl 4 rfl) ?_
  refine r_iast S G 0 rfl (vp_in_nI (by omega) (by omega)) dX11_layOne_28 (fun H locs G => ?_)
  obtain ⟨f_4, hI_f_4, hE_f_4, G⟩ : ∃ f_4 : Nat → Int32, InA f_4 c0 c1 c2 c3 c4 ∧ f_4 = upd f_3 (nI (49 + c0)).toNatClampNeg x3 ∧ wd X (va_A ([(ha, .inl (X.2.1, N, .inl f))]) sz) (va_A ([(ha, .inl (X.2.1, N, .inl f))]) sz) s ([(ha, .inl (X.2.1, N, .inl f_4))]) H locs := ⟨_, InA_o hI_f_3 (by rw [nI_clamp (by omega)]; omega), rfl, G⟩
  refine lv_aload_n zx zb dX11_layOne_29 rfl (lv_at hl 1 rfl) ?_
  refine lv_bipush (v := 11) zx zb dX11_layOne_30 (by decide) ?_
  refine lv_iload zx zb dX11_layOne_32 (lv_at hl 0 rfl) ?_
  refine r_iadd (v := (nI (11 + c0))) S (nI_add 11 c0) dX11_layOne_34 ?_
  refine lv_iconst (v := 4) zx zb dX11_layOne_35 (by decide) ?_
  refine r_iast S G 0 rfl (vp_in_nI (by omega) (by omega)) dX11_layOne_36 (fun H locs G => ?_)
  obtain ⟨f_5, hI_f_5, hE_f_5, G⟩ : ∃ f_5 : Nat → Int32, InA f_5 c0 c1 c2 c3 c4 ∧ f_5 = upd f_4 (nI (11 + c0)).toNatClampNeg 4 ∧ wd X (va_A ([(ha, .inl (X.2.1, N, .inl f))]) sz) (va_A ([(ha, .inl (X.2.1, N, .inl f))]) sz) s ([(ha, .inl (X.2.1, N, .inl f_5))]) H locs := ⟨_, InA_o hI_f_4 (by rw [nI_clamp (by omega)]; omega), rfl, G⟩
  refine lv_aload_n zx zb dX11_layOne_37 rfl (lv_at hl 1 rfl) ?_
  refine lv_iconst (v := 0) zx zb dX11_layOne_38 (by decide) ?_
  refine lv_dup2_11 zx zb dX11_layOne_39 rfl rfl ?_
  refine r_iald (v := (nI c0)) S G 0 rfl (k_vpc (c := 0) rfl (by omega) (by omega)) hI_f_5.1.1 dX11_layOne_40 ?_
  refine lv_iconst (v := 1) zx zb dX11_layOne_41 (by decide) ?_
  refine r_iadd (v := (nI (c0 + 1))) S (nI_add c0 1) dX11_layOne_42 ?_
  refine r_iast S G 0 rfl (k_vpc (c := 0) rfl (by omega) (by omega)) dX11_layOne_43 (fun H locs G => ?_)
  obtain ⟨f_7, c_8, hI_f_7, hE_c_8, hE_f_7, G⟩ : ∃ (f_7 : Nat → Int32) (c_8 : Nat), InA f_7 c_8 c1 c2 c3 c4 ∧ c_8 = (c0 + 1) ∧ f_7 = upd f_5 0 (nI (c0 + 1)) ∧ wd X (va_A ([(ha, .inl (X.2.1, N, .inl f))]) sz) (va_A ([(ha, .inl (X.2.1, N, .inl f))]) sz) s ([(ha, .inl (X.2.1, N, .inl f_7))]) H locs := ⟨_, (c0 + 1), InA_n0 (n := (c0 + 1)) hI_f_5 (by omega), rfl, rfl, G⟩
  exact e_void S zr zlk G (f_7, c_8) [0] rfl rfl (Or.inr rfl) (⟨hI_f_7, by first | omega | (dsimp only; omega)⟩) dX11_layOne_44
theorem hdS_X11_isKind : yX11_isKind.cls ≠ "java/lang/invoke/MethodHandle" ∧ yX11_isKind.cls ≠ "java/lang/invoke/VarHandle" ∧ (parseMethodDescriptor yX11_isKind.desc).map (fun d => d.parameters.length) = some 1 := by decide +kernel
theorem hdS_X11_isLegs : yX11_isLegs.cls ≠ "java/lang/invoke/MethodHandle" ∧ yX11_isLegs.cls ≠ "java/lang/invoke/VarHandle" ∧ (parseMethodDescriptor yX11_isLegs.desc).map (fun d => d.parameters.length) = some 1 := by decide +kernel
theorem in_X11_one_X11 : ∀ w ∈ wsX110, w ∈ wsX11_one := by decide +kernel
theorem lk_X11_one_7 : Cond.fieldLink RX11 7 "EggSpoonsModel" "all" "[I" ∈ wsX11_one := by decide +kernel
theorem hdS_X11_layOne : yX11_layOne.cls ≠ "java/lang/invoke/MethodHandle" ∧ yX11_layOne.cls ≠ "java/lang/invoke/VarHandle" ∧ (parseMethodDescriptor yX11_layOne.desc).map (fun d => d.parameters.length) = some 4 := by decide +kernel
theorem hdV_X11_full : yX11_full.cls = RX11 ∧ yX11_full.cls ≠ "java/lang/invoke/MethodHandle" ∧ yX11_full.cls ≠ "java/lang/invoke/VarHandle" ∧ (parseMethodDescriptor yX11_full.desc).map (fun d => d.parameters.length) = some 0 := by decide +kernel
set_option maxHeartbeats 4000000 in
set_option maxRecDepth 100000 in
/-- one -/
theorem m_one (l : Launch) (X : EX) (m0 : Nat) (ma : Nat → Nat) (la : Int64) (lb : Int64) (n : Nat) (t : Nat → Nat) (v : Nat → Int32) (fa : Nat → Int32) (c0 : Nat) (c1 : Nat) (c2 : Nat) (c3 : Nat) (c4 : Nat) (fr : Nat → Int32) (x1 : Int32) (x2 : Int32) (x3 : Int32) (hI_n : n ≤ 150) (hI_t : InT t) (hI_fa : InA fa c0 c1 c2 c3 c4) (sz : Nat) : Met l yX11_one wsX11_one ({ frames := 2, cells := 0, slots := 0, locals := 45 } : Room) (pE X [.ref m0, .int x1, .int x2, .int x3] (@HAppend.hAppend va_W va_W va_W _ (mW m0 ma la lb n t v) (@HAppend.hAppend va_W va_W va_W _ ([((ma 0), .inl (X.2.1, 371, .inl fa))]) ([((ma 3), .inl (X.2.1, 3, .inl fr))]))) sz) (qI (fun (r : Int32) (u : (Nat → Int32) × (Nat) × (Nat) × (Nat → Int32)) => InA u.1 u.2.1 c1 c2 c3 u.2.2.1 ∧ ((r, u.2.1) = oneF (((0 : Int32) ≤ x1 ∧ x1 ≤ 5) ∧ ((1 : Int32) ≤ x2 ∧ x2 ≤ 9) ∧ ((0 : Int32) ≤ x3 ∧ x3 ≤ 5)) c0)) X (fun (u : (Nat → Int32) × (Nat) × (Nat) × (Nat → Int32)) => @HAppend.hAppend va_W va_W va_W _ (mW m0 ma la lb n t v) (@HAppend.hAppend va_W va_W va_W _ ([((ma 0), .inl (X.2.1, 371, .inl u.1))]) ([((ma 3), .inl (X.2.1, 3, .inl u.2.2.2))]))) (@HAppend.hAppend va_W va_W va_W _ (mW m0 ma la lb n t v) (@HAppend.hAppend va_W va_W va_W _ ([((ma 0), .inl (X.2.1, 371, .inl fa))]) ([((ma 3), .inl (X.2.1, 3, .inl fr))]))) sz) 0 0 (va_A (@HAppend.hAppend va_W va_W va_W _ (mW m0 ma la lb n t v) (@HAppend.hAppend va_W va_W va_W _ ([((ma 0), .inl (X.2.1, 371, .inl fa))]) ([((ma 3), .inl (X.2.1, 3, .inl fr))]))) sz) := by
  refine mk_met (B := (va_A (@HAppend.hAppend va_W va_W va_W _ (mW m0 ma la lb n t v) (@HAppend.hAppend va_W va_W va_W _ ([((ma 0), .inl (X.2.1, 371, .inl fa))]) ([((ma 3), .inl (X.2.1, 3, .inl fr))]))) sz)) (A := (va_A (@HAppend.hAppend va_W va_W va_W _ (mW m0 ma la lb n t v) (@HAppend.hAppend va_W va_W va_W _ ([((ma 0), .inl (X.2.1, 371, .inl fa))]) ([((ma 3), .inl (X.2.1, 3, .inl fr))]))) sz)) (cc := cX11_one) (maxL := 4) (ret := (some .int)) (by decide) rfl (Nat.le_of_ble_eq_true rfl) k_w k_a (fun p e s m below meth c S zr zlk znm zsz G ls hl => ?_)
  have S : CallFix p m c cX11_one 4 s _ wsX11_one RX11 := S
  have zx := S.1
  have zb := S.2.1
  have hl : lv_has ls 4 [(0, .ref m0), (1, .int x1), (2, .int x2), (3, .int x3)] := hl
  have hO_t := hI_t
  obtain ⟨ht0_t, ht1_t⟩ := hO_t
  have hO_fa := hI_fa.2
  obtain ⟨hm0_fa, hm1_fa, hm2_fa, hm3_fa, hm4_fa⟩ := hO_fa
  refine lv_iload_n zx zb dX11_one_0 rfl (lv_at hl 1 rfl) ?_
  refine o_ri (cells' := 0) (slots' := 0) G rfl rfl (n_S (As := [.int x1]) (rest := []) S G (m_isKind l X x1 s.heap.size) gX11_one_X11_isKind rfl rfl rfl hdS_X11_isKind ⟨Nat.le_of_ble_eq_true rfl, Nat.le_of_ble_eq_true rfl⟩ [] rfl rfl rfl hl.1 (Nat.le_of_ble_eq_true rfl) dX11_one_1 ⟨Nat.le_of_ble_eq_true rfl, Nat.le_of_ble_eq_true rfl⟩) (fun r_1 u_1 H locs hp_1 G => ?_)
  have G : wd X (va_A (@HAppend.hAppend va_W va_W va_W _ (mW m0 ma la lb n t v) (@HAppend.hAppend va_W va_W va_W _ ([((ma 0), .inl (X.2.1, 371, .inl fa))]) ([((ma 3), .inl (X.2.1, 3, .inl fr))]))) sz) (va_A (@HAppend.hAppend va_W va_W va_W _ (mW m0 ma la lb n t v) (@HAppend.hAppend va_W va_W va_W _ ([((ma 0), .inl (X.2.1, 371, .inl fa))]) ([((ma 3), .inl (X.2.1, 3, .inl fr))]))) sz) s (@HAppend.hAppend va_W va_W va_W _ (mW m0 ma la lb n t v) (@HAppend.hAppend va_W va_W va_W _ ([((ma 0), .inl (X.2.1, 371, .inl fa))]) ([((ma 3), .inl (X.2.1, 3, .inl fr))]))) H locs := G
  rcases hp_1 with ⟨rfl, hw_1⟩ | ⟨rfl, hw_1⟩
  · obtain ⟨j_1, ⟨ja_1, jb_1⟩, rfl⟩ := k_natR (a := 0) (b := 5) hw_1 rfl rfl (by decide) (by decide)
    refine lv_if_eq (tgt := 21) zx zb dX11_one_4 (by decide) (fun c_2 => absurd c_2 (by decide)) (fun c_2 => ?_)
    refine lv_iload_n zx zb dX11_one_7 rfl (lv_at hl 2 rfl) ?_
    refine o_ri (cells' := 0) (slots' := 0) G rfl rfl (n_S (As := [.int x2]) (rest := []) S G (m_isLegs l X x2 H.size) gX11_one_X11_isLegs rfl rfl rfl hdS_X11_isLegs ⟨Nat.le_of_ble_eq_true rfl, Nat.le_of_ble_eq_true rfl⟩ [] rfl rfl rfl hl.1 (Nat.le_of_ble_eq_true rfl) dX11_one_8 ⟨Nat.le_of_ble_eq_true rfl, Nat.le_of_ble_eq_true rfl⟩) (fun r_3 u_3 H locs hp_3 G => ?_)
    have G : wd X (va_A (@HAppend.hAppend va_W va_W va_W _ (mW m0 ma la lb n t v) (@HAppend.hAppend va_W va_W va_W _ ([((ma 0), .inl (X.2.1, 371, .inl fa))]) ([((ma 3), .inl (X.2.1, 3, .inl fr))]))) sz) (va_A (@HAppend.hAppend va_W va_W va_W _ (mW m0 ma la lb n t v) (@HAppend.hAppend va_W va_W va_W _ ([((ma 0), .inl (X.2.1, 371, .inl fa))]) ([((ma 3), .inl (X.2.1, 3, .inl fr))]))) sz) s (@HAppend.hAppend va_W va_W va_W _ (mW m0 ma la lb n t v) (@HAppend.hAppend va_W va_W va_W _ ([((ma 0), .inl (X.2.1, 371, .inl fa))]) ([((ma 3), .inl (X.2.1, 3, .inl fr))]))) H locs := G
    rcases hp_3 with ⟨rfl, hw_3⟩ | ⟨rfl, hw_3⟩
    · obtain ⟨j_3, ⟨ja_3, jb_3⟩, rfl⟩ := k_natR (a := 1) (b := 9) hw_3 rfl rfl (by decide) (by decide)
      refine lv_if_eq (tgt := 21) zx zb dX11_one_11 (by decide) (fun c_4 => absurd c_4 (by decide)) (fun c_4 => ?_)
      refine lv_iload_n zx zb dX11_one_14 rfl (lv_at hl 3 rfl) ?_
      refine o_ri (cells' := 0) (slots' := 0) G rfl rfl (n_S (As := [.int x3]) (rest := []) S G (m_isKind l X x3 H.size) gX11_one_X11_isKind rfl rfl rfl hdS_X11_isKind ⟨Nat.le_of_ble_eq_true rfl, Nat.le_of_ble_eq_true rfl⟩ [] rfl rfl rfl hl.1 (Nat.le_of_ble_eq_true rfl) dX11_one_15 ⟨Nat.le_of_ble_eq_true rfl, Nat.le_of_ble_eq_true rfl⟩) (fun r_5 u_5 H locs hp_5 G => ?_)
      have G : wd X (va_A (@HAppend.hAppend va_W va_W va_W _ (mW m0 ma la lb n t v) (@HAppend.hAppend va_W va_W va_W _ ([((ma 0), .inl (X.2.1, 371, .inl fa))]) ([((ma 3), .inl (X.2.1, 3, .inl fr))]))) sz) (va_A (@HAppend.hAppend va_W va_W va_W _ (mW m0 ma la lb n t v) (@HAppend.hAppend va_W va_W va_W _ ([((ma 0), .inl (X.2.1, 371, .inl fa))]) ([((ma 3), .inl (X.2.1, 3, .inl fr))]))) sz) s (@HAppend.hAppend va_W va_W va_W _ (mW m0 ma la lb n t v) (@HAppend.hAppend va_W va_W va_W _ ([((ma 0), .inl (X.2.1, 371, .inl fa))]) ([((ma 3), .inl (X.2.1, 3, .inl fr))]))) H locs := G
      rcases hp_5 with ⟨rfl, hw_5⟩ | ⟨rfl, hw_5⟩
      · obtain ⟨j_5, ⟨ja_5, jb_5⟩, rfl⟩ := k_natR (a := 0) (b := 5) hw_5 rfl rfl (by decide) (by decide)
        refine lv_if_ne (tgt := 28) zx zb dX11_one_18 (by decide) (fun c_6 => ?_) (fun c_6 => absurd c_6 (by decide))
        refine lv_aload_n zx zb dX11_one_28 rfl (lv_at hl 0 rfl) ?_
        refine o_ri (cells' := 0) (slots' := 0) G rfl rfl (n_V (As := []) (rest := []) (C := RX11) (T := TX11) (N := 18) (ci := 9) S G (m_many l X m0 ma la lb n t v fa c0 c1 c2 c3 c4 hI_n hI_t hI_fa H.size) gX11_one_X11_many rfl rfl rfl hdV_X11_many ⟨Nat.le_of_ble_eq_true rfl, Nat.le_of_ble_eq_true rfl⟩ [0, 1] rfl rfl 0 rfl rfl rfl hl.1 (Nat.le_of_ble_eq_true rfl) dX11_one_29 ⟨Nat.le_of_ble_eq_true rfl, Nat.le_of_ble_eq_true rfl⟩) (fun r_7 u_7 H locs hp_7 G => ?_)
        have G : wd X (va_A (@HAppend.hAppend va_W va_W va_W _ (mW m0 ma la lb n t v) (@HAppend.hAppend va_W va_W va_W _ ([((ma 0), .inl (X.2.1, 371, .inl fa))]) ([((ma 3), .inl (X.2.1, 3, .inl fr))]))) sz) (va_A (@HAppend.hAppend va_W va_W va_W _ (mW m0 ma la lb n t v) (@HAppend.hAppend va_W va_W va_W _ ([((ma 0), .inl (X.2.1, 371, .inl fa))]) ([((ma 3), .inl (X.2.1, 3, .inl fr))]))) sz) s (@HAppend.hAppend va_W va_W va_W _ (mW m0 ma la lb n t v) (@HAppend.hAppend va_W va_W va_W _ ([((ma 0), .inl (X.2.1, 371, .inl fa))]) ([((ma 3), .inl (X.2.1, 3, .inl fr))]))) H locs := G
        obtain rfl := hp_7
        refine lv_bipush (v := 6) zx zb dX11_one_32 (by decide) ?_
        refine lv_icmp_ne (tgt := 42) zx zb dX11_one_34 (by decide) (fun c_8 => ?_) (fun c_8 => ?_)
        · have fc_8 := j_ne (a := c0) (b := 6) c_8
          refine lv_aload_n zx zb dX11_one_42 rfl (lv_at hl 0 rfl) ?_
          refine r_get (C := RX11) (T := TX11) (N := 18) (ci := 9) (v := .ref (ma 0)) S in_X11_one_X11 G 0 rfl rfl 0 (by decide) lk_X11_one_7 rfl dX11_one_43 ?_
          refine lv_iload_n zx zb dX11_one_46 rfl (lv_at hl 1 rfl) ?_
          refine lv_iload_n zx zb dX11_one_47 rfl (lv_at hl 2 rfl) ?_
          refine lv_iload_n zx zb dX11_one_48 rfl (lv_at hl 3 rfl) ?_
          refine b_wv (cells' := 0) (slots' := 0) (wr := @HAppend.hAppend va_W va_W va_W _ (mW m0 ma la lb n t v) ([((ma 3), .inl (X.2.1, 3, .inl fr))])) G rfl rfl [1] [0, 2] rfl rfl rfl rfl (n_S (As := [.ref (ma 0), .int (nI j_1), .int (nI j_3), .int (nI j_5)]) (rest := []) S G (m_layOne l X (ma 0) 371 fa c0 c1 c2 c3 c4 (nI j_1) (nI j_3) (nI j_5) hI_fa (by omega) (by omega) (by omega) H.size) gX11_one_X11_layOne rfl rfl rfl hdS_X11_layOne ⟨Nat.le_of_ble_eq_true rfl, Nat.le_of_ble_eq_true rfl⟩ [1] rfl rfl rfl hl.1 (Nat.le_of_ble_eq_true rfl) dX11_one_49 ⟨Nat.le_of_ble_eq_true rfl, Nat.le_of_ble_eq_true rfl⟩) (fun u_9 H locs hp_9 G => ?_)
          obtain ⟨f_9a, c0_9b⟩ := u_9
          try dsimp only at hp_9
          obtain ⟨hI_f_9a, hq_9⟩ := hp_9
          have hO_f_9a := hI_f_9a.2
          obtain ⟨hm0_f_9a, hm1_f_9a, hm2_f_9a, hm3_f_9a, hm4_f_9a⟩ := hO_f_9a
          have G : wd X (va_A (@HAppend.hAppend va_W va_W va_W _ (mW m0 ma la lb n t v) (@HAppend.hAppend va_W va_W va_W _ ([((ma 0), .inl (X.2.1, 371, .inl fa))]) ([((ma 3), .inl (X.2.1, 3, .inl fr))]))) sz) (va_A (@HAppend.hAppend va_W va_W va_W _ (mW m0 ma la lb n t v) (@HAppend.hAppend va_W va_W va_W _ ([((ma 0), .inl (X.2.1, 371, .inl fa))]) ([((ma 3), .inl (X.2.1, 3, .inl fr))]))) sz) s (@HAppend.hAppend va_W va_W va_W _ (mW m0 ma la lb n t v) (@HAppend.hAppend va_W va_W va_W _ ([((ma 3), .inl (X.2.1, 3, .inl fr))]) ([((ma 0), .inl (X.2.1, 371, .inl f_9a))]))) H locs := G
          refine lv_aload_n zx zb dX11_one_52 rfl (lv_at hl 0 rfl) ?_
          refine r_get (C := RX11) (T := TX11) (N := 18) (ci := 9) (v := .ref (ma 0)) S in_X11_one_X11 G 0 rfl rfl 0 (by decide) lk_X11_one_7 rfl dX11_one_53 ?_
          refine lv_iconst (v := 4) zx zb dX11_one_56 (by decide) ?_
          refine lv_iconst (v := 0) zx zb dX11_one_57 (by decide) ?_
          refine r_iast S G 2 rfl (k_vp (by decide)) dX11_one_58 (fun H locs G => ?_)
          obtain ⟨f_10, c_11, hI_f_10, hE_c_11, hE_f_10, G⟩ : ∃ (f_10 : Nat → Int32) (c_11 : Nat), InA f_10 c0_9b c1 c2 c3 c_11 ∧ c_11 = 0 ∧ f_10 = upd f_9a 4 (nI 0) ∧ wd X (va_A (@HAppend.hAppend va_W va_W va_W _ (mW m0 ma la lb n t v) (@HAppend.hAppend va_W va_W va_W _ ([((ma 0), .inl (X.2.1, 371, .inl fa))]) ([((ma 3), .inl (X.2.1, 3, .inl fr))]))) sz) (va_A (@HAppend.hAppend va_W va_W va_W _ (mW m0 ma la lb n t v) (@HAppend.hAppend va_W va_W va_W _ ([((ma 0), .inl (X.2.1, 371, .inl fa))]) ([((ma 3), .inl (X.2.1, 3, .inl fr))]))) sz) s (@HAppend.hAppend va_W va_W va_W _ (mW m0 ma la lb n t v) (@HAppend.hAppend va_W va_W va_W _ ([((ma 3), .inl (X.2.1, 3, .inl fr))]) ([((ma 0), .inl (X.2.1, 371, .inl f_10))]))) H locs := ⟨_, 0, InA_n4 (n := 0) hI_f_9a (by omega), rfl, rfl, G⟩
          refine lv_aload_n zx zb dX11_one_59 rfl (lv_at hl 0 rfl) ?_
          refine o_ri (cells' := 0) (slots' := 0) G rfl rfl (n_V (As := []) (rest := []) (C := RX11) (T := TX11) (N := 18) (ci := 9) S G (m_many l X m0 ma la lb n t v f_10 c0_9b c1 c2 c3 c_11 hI_n hI_t hI_f_10 H.size) gX11_one_X11_many rfl rfl rfl hdV_X11_many ⟨Nat.le_of_ble_eq_true rfl, Nat.le_of_ble_eq_true rfl⟩ [0, 2] rfl rfl 0 rfl rfl rfl hl.1 (Nat.le_of_ble_eq_true rfl) dX11_one_60 ⟨Nat.le_of_ble_eq_true rfl, Nat.le_of_ble_eq_true rfl⟩) (fun r_12 u_12 H locs hp_12 G => ?_)
          have G : wd X (va_A (@HAppend.hAppend va_W va_W va_W _ (mW m0 ma la lb n t v) (@HAppend.hAppend va_W va_W va_W _ ([((ma 0), .inl (X.2.1, 371, .inl fa))]) ([((ma 3), .inl (X.2.1, 3, .inl fr))]))) sz) (va_A (@HAppend.hAppend va_W va_W va_W _ (mW m0 ma la lb n t v) (@HAppend.hAppend va_W va_W va_W _ ([((ma 0), .inl (X.2.1, 371, .inl fa))]) ([((ma 3), .inl (X.2.1, 3, .inl fr))]))) sz) s (@HAppend.hAppend va_W va_W va_W _ (mW m0 ma la lb n t v) (@HAppend.hAppend va_W va_W va_W _ ([((ma 3), .inl (X.2.1, 3, .inl fr))]) ([((ma 0), .inl (X.2.1, 371, .inl f_10))]))) H locs := G
          obtain rfl := hp_12
          refine lv_iconst (v := 1) zx zb dX11_one_63 (by decide) ?_
          refine r_isub (v := (nI (c0_9b - 1))) S (pk_sub (a := c0_9b) (b := 1) (by omega)) dX11_one_64 ?_
          have hzF : ((nI (c0_9b - 1)), c0_9b) = oneF (((0 : Int32) ≤ (nI j_1) ∧ (nI j_1) ≤ 5) ∧ ((1 : Int32) ≤ (nI j_3) ∧ (nI j_3) ≤ 9) ∧ ((0 : Int32) ≤ (nI j_5) ∧ (nI j_5) ≤ 5)) c0 := by rw [oneF_p ⟨hw_1, hw_3, hw_5⟩ (by omega), show c0_9b = c0 + 1 from by omega]; rfl
          exact e_int S zr zlk (vp_nar_int _) G (f_10, c0_9b, c_11, fr) [0, 2, 1] rfl rfl (Or.inr rfl) (⟨hI_f_10, hzF⟩) dX11_one_65
        · have fc_8 := j_eq (a := c0) (b := 6) (by omega) (by omega) c_8
          refine lv_aload_n zx zb dX11_one_37 rfl (lv_at hl 0 rfl) ?_
          refine b_wi (cells' := 0) (slots' := 0) (wr := [((ma 0), .inl (X.2.1, 371, .inl fa))]) G rfl rfl [0, 2] [1] rfl rfl rfl rfl (n_V (As := []) (rest := []) (C := RX11) (T := TX11) (N := 18) (ci := 9) S G (m_full l X m0 ma la lb n t v fr hI_n hI_t H.size) gX11_one_X11_full rfl rfl rfl hdV_X11_full ⟨Nat.le_of_ble_eq_true rfl, Nat.le_of_ble_eq_true rfl⟩ [0, 2] rfl rfl 0 rfl rfl rfl hl.1 (Nat.le_of_ble_eq_true rfl) dX11_one_38 ⟨Nat.le_of_ble_eq_true rfl, Nat.le_of_ble_eq_true rfl⟩) (fun r_13 u_13 H locs hp_13 G => ?_)
          obtain ⟨f_13, rfl⟩ : ∃ z, z = u_13 := ⟨_, rfl⟩
          have hq_13 := hp_13
          have G : wd X (va_A (@HAppend.hAppend va_W va_W va_W _ (mW m0 ma la lb n t v) (@HAppend.hAppend va_W va_W va_W _ ([((ma 0), .inl (X.2.1, 371, .inl fa))]) ([((ma 3), .inl (X.2.1, 3, .inl fr))]))) sz) (va_A (@HAppend.hAppend va_W va_W va_W _ (mW m0 ma la lb n t v) (@HAppend.hAppend va_W va_W va_W _ ([((ma 0), .inl (X.2.1, 371, .inl fa))]) ([((ma 3), .inl (X.2.1, 3, .inl fr))]))) sz) s (@HAppend.hAppend va_W va_W va_W _ ([((ma 0), .inl (X.2.1, 371, .inl fa))]) (@HAppend.hAppend va_W va_W va_W _ (mW m0 ma la lb n t v) ([((ma 3), .inl (X.2.1, 3, .inl f_13))]))) H locs := G
          obtain rfl := hq_13
          have hzF : ((-4), c0) = oneF (((0 : Int32) ≤ (nI j_1) ∧ (nI j_1) ≤ 5) ∧ ((1 : Int32) ≤ (nI j_3) ∧ (nI j_3) ≤ 9) ∧ ((0 : Int32) ≤ (nI j_5) ∧ (nI j_5) ≤ 5)) c0 := (oneF_f ⟨hw_1, hw_3, hw_5⟩ (by omega)).symm
          exact e_int S zr zlk (vp_nar_int _) G (fa, c0, c4, f_13) [1, 0, 2] rfl rfl (Or.inr rfl) (⟨hI_fa, hzF⟩) dX11_one_41
      · refine lv_if_ne (tgt := 28) zx zb dX11_one_18 (by decide) (fun c_14 => absurd (by decide) c_14) (fun c_14 => ?_)
        refine lv_aload_n zx zb dX11_one_21 rfl (lv_at hl 0 rfl) ?_
        refine lv_bipush (v := (-2)) zx zb dX11_one_22 (by decide) ?_
        refine b_wi (cells' := 0) (slots' := 0) (wr := [((ma 0), .inl (X.2.1, 371, .inl fa))]) G rfl rfl [0, 2] [1] rfl rfl rfl rfl (n_V (As := [.int (-2)]) (rest := []) (C := RX11) (T := TX11) (N := 18) (ci := 9) S G (m_bad l X m0 ma la lb n t v fr (-2) hI_n hI_t H.size) gX11_one_X11_bad rfl rfl rfl hdV_X11_bad ⟨Nat.le_of_ble_eq_true rfl, Nat.le_of_ble_eq_true rfl⟩ [0, 2] rfl rfl 0 rfl rfl rfl hl.1 (Nat.le_of_ble_eq_true rfl) dX11_one_24 ⟨Nat.le_of_ble_eq_true rfl, Nat.le_of_ble_eq_true rfl⟩) (fun r_15 u_15 H locs hp_15 G => ?_)
        obtain ⟨f_15, rfl⟩ : ∃ z, z = u_15 := ⟨_, rfl⟩
        have hq_15 := hp_15
        have G : wd X (va_A (@HAppend.hAppend va_W va_W va_W _ (mW m0 ma la lb n t v) (@HAppend.hAppend va_W va_W va_W _ ([((ma 0), .inl (X.2.1, 371, .inl fa))]) ([((ma 3), .inl (X.2.1, 3, .inl fr))]))) sz) (va_A (@HAppend.hAppend va_W va_W va_W _ (mW m0 ma la lb n t v) (@HAppend.hAppend va_W va_W va_W _ ([((ma 0), .inl (X.2.1, 371, .inl fa))]) ([((ma 3), .inl (X.2.1, 3, .inl fr))]))) sz) s (@HAppend.hAppend va_W va_W va_W _ ([((ma 0), .inl (X.2.1, 371, .inl fa))]) (@HAppend.hAppend va_W va_W va_W _ (mW m0 ma la lb n t v) ([((ma 3), .inl (X.2.1, 3, .inl f_15))]))) H locs := G
        obtain rfl := hq_15
        have hzF : ((-2), c0) = oneF (((0 : Int32) ≤ (nI j_1) ∧ (nI j_1) ≤ 5) ∧ ((1 : Int32) ≤ (nI j_3) ∧ (nI j_3) ≤ 9) ∧ ((0 : Int32) ≤ x3 ∧ x3 ≤ 5)) c0 := (oneF_n (fun h => hw_5 h.2.2)).symm
        exact e_int S zr zlk (vp_nar_int _) G (fa, c0, c4, f_15) [1, 0, 2] rfl rfl (Or.inr rfl) (⟨hI_fa, hzF⟩) dX11_one_27
    · refine lv_if_eq (tgt := 21) zx zb dX11_one_11 (by decide) (fun c_16 => ?_) (fun c_16 => absurd (by decide) c_16)
      refine lv_aload_n zx zb dX11_one_21 rfl (lv_at hl 0 rfl) ?_
      refine lv_bipush (v := (-2)) zx zb dX11_one_22 (by decide) ?_
      refine b_wi (cells' := 0) (slots' := 0) (wr := [((ma 0), .inl (X.2.1, 371, .inl fa))]) G rfl rfl [0, 2] [1] rfl rfl rfl rfl (n_V (As := [.int (-2)]) (rest := []) (C := RX11) (T := TX11) (N := 18) (ci := 9) S G (m_bad l X m0 ma la lb n t v fr (-2) hI_n hI_t H.size) gX11_one_X11_bad rfl rfl rfl hdV_X11_bad ⟨Nat.le_of_ble_eq_true rfl, Nat.le_of_ble_eq_true rfl⟩ [0, 2] rfl rfl 0 rfl rfl rfl hl.1 (Nat.le_of_ble_eq_true rfl) dX11_one_24 ⟨Nat.le_of_ble_eq_true rfl, Nat.le_of_ble_eq_true rfl⟩) (fun r_17 u_17 H locs hp_17 G => ?_)
      obtain ⟨f_17, rfl⟩ : ∃ z, z = u_17 := ⟨_, rfl⟩
      have hq_17 := hp_17
      have G : wd X (va_A (@HAppend.hAppend va_W va_W va_W _ (mW m0 ma la lb n t v) (@HAppend.hAppend va_W va_W va_W _ ([((ma 0), .inl (X.2.1, 371, .inl fa))]) ([((ma 3), .inl (X.2.1, 3, .inl fr))]))) sz) (va_A (@HAppend.hAppend va_W va_W va_W _ (mW m0 ma la lb n t v) (@HAppend.hAppend va_W va_W va_W _ ([((ma 0), .inl (X.2.1, 371, .inl fa))]) ([((ma 3), .inl (X.2.1, 3, .inl fr))]))) sz) s (@HAppend.hAppend va_W va_W va_W _ ([((ma 0), .inl (X.2.1, 371, .inl fa))]) (@HAppend.hAppend va_W va_W va_W _ (mW m0 ma la lb n t v) ([((ma 3), .inl (X.2.1, 3, .inl f_17))]))) H locs := G
      obtain rfl := hq_17
      have hzF : ((-2), c0) = oneF (((0 : Int32) ≤ (nI j_1) ∧ (nI j_1) ≤ 5) ∧ ((1 : Int32) ≤ x2 ∧ x2 ≤ 9) ∧ ((0 : Int32) ≤ x3 ∧ x3 ≤ 5)) c0 := (oneF_n (fun h => hw_3 h.2.1)).symm
      exact e_int S zr zlk (vp_nar_int _) G (fa, c0, c4, f_17) [1, 0, 2] rfl rfl (Or.inr rfl) (⟨hI_fa, hzF⟩) dX11_one_27
  · refine lv_if_eq (tgt := 21) zx zb dX11_one_4 (by decide) (fun c_18 => ?_) (fun c_18 => absurd (by decide) c_18)
    refine lv_aload_n zx zb dX11_one_21 rfl (lv_at hl 0 rfl) ?_
    refine lv_bipush (v := (-2)) zx zb dX11_one_22 (by decide) ?_
    refine b_wi (cells' := 0) (slots' := 0) (wr := [((ma 0), .inl (X.2.1, 371, .inl fa))]) G rfl rfl [0, 2] [1] rfl rfl rfl rfl (n_V (As := [.int (-2)]) (rest := []) (C := RX11) (T := TX11) (N := 18) (ci := 9) S G (m_bad l X m0 ma la lb n t v fr (-2) hI_n hI_t H.size) gX11_one_X11_bad rfl rfl rfl hdV_X11_bad ⟨Nat.le_of_ble_eq_true rfl, Nat.le_of_ble_eq_true rfl⟩ [0, 2] rfl rfl 0 rfl rfl rfl hl.1 (Nat.le_of_ble_eq_true rfl) dX11_one_24 ⟨Nat.le_of_ble_eq_true rfl, Nat.le_of_ble_eq_true rfl⟩) (fun r_19 u_19 H locs hp_19 G => ?_)
    obtain ⟨f_19, rfl⟩ : ∃ z, z = u_19 := ⟨_, rfl⟩
    have hq_19 := hp_19
    have G : wd X (va_A (@HAppend.hAppend va_W va_W va_W _ (mW m0 ma la lb n t v) (@HAppend.hAppend va_W va_W va_W _ ([((ma 0), .inl (X.2.1, 371, .inl fa))]) ([((ma 3), .inl (X.2.1, 3, .inl fr))]))) sz) (va_A (@HAppend.hAppend va_W va_W va_W _ (mW m0 ma la lb n t v) (@HAppend.hAppend va_W va_W va_W _ ([((ma 0), .inl (X.2.1, 371, .inl fa))]) ([((ma 3), .inl (X.2.1, 3, .inl fr))]))) sz) s (@HAppend.hAppend va_W va_W va_W _ ([((ma 0), .inl (X.2.1, 371, .inl fa))]) (@HAppend.hAppend va_W va_W va_W _ (mW m0 ma la lb n t v) ([((ma 3), .inl (X.2.1, 3, .inl f_19))]))) H locs := G
    obtain rfl := hq_19
    have hzF : ((-2), c0) = oneF (((0 : Int32) ≤ x1 ∧ x1 ≤ 5) ∧ ((1 : Int32) ≤ x2 ∧ x2 ≤ 9) ∧ ((0 : Int32) ≤ x3 ∧ x3 ≤ 5)) c0 := (oneF_n (fun h => hw_1 h.1)).symm
    exact e_int S zr zlk (vp_nar_int _) G (fa, c0, c4, f_19) [1, 0, 2] rfl rfl (Or.inr rfl) (⟨hI_fa, hzF⟩) dX11_one_27
set_option maxHeartbeats 4000000 in
set_option maxRecDepth 100000 in
/-- runsAs -/
theorem m_runsAs (l : Launch) (X : EX) (x1 : Int32) (x2 : Int32) (x3 : Int32) (x4 : Int32) (sz : Nat) : Met l yX11_runsAs wsX11_runsAs ({ frames := 0, cells := 0, slots := 0, locals := 0 } : Room) (pE X [.int x1, .int x2, .int x3, .int x4] ([]) sz) (qI (fun (r : Int32) (u : Unit) => True) X (fun (u : Unit) => []) [] sz) 0 0 (va_A [] sz) := by
  refine mk_met (B := (fun _ => True)) (A := (va_A [] sz)) (cc := cX11_runsAs) (maxL := 7) (ret := (some .int)) (by decide) rfl (Nat.le_of_ble_eq_true rfl) k_ro k_a (fun p e s m below meth c S zr zlk znm zsz G ls hl => ?_)
  have S : CallFix p m c cX11_runsAs 7 s _ wsX11_runsAs RX11 := S
  have zx := S.1
  have zb := S.2.1
  have hl : lv_has ls 7 [(0, .int x1), (1, .int x2), (2, .int x3), (3, .int x4)] := hl
  refine lv_iload_n zx zb dX11_runsAs_0 rfl (lv_at hl 2 rfl) ?_
  refine lv_iload_n zx zb dX11_runsAs_1 rfl (lv_at hl 1 rfl) ?_
  refine k_cutW (PP := fun Wx => ∀ (x_2 : Int32) (H : Heap) (locs : List Loc) (ls : Array Slot), wd X (fun _ => True) (va_A [] sz) s ([]) H locs → lv_has ls 7 [(0, .int x1), (1, .int x2), (2, .int x3), (3, .int x4)] → Wx (F0 m 10 ls [.int x_2]) H locs) ?_ ?_
  · intro join_2
    refine lv_icmp_ge (tgt := 9) zx zb dX11_runsAs_2 (by decide) (fun c_1 => ?_) (fun c_1 => ?_)
    · refine lv_iload_n zx zb dX11_runsAs_9 rfl (lv_at hl 1 rfl) ?_
      exact join_2 x2 _ _ _  G hl
    · refine lv_iload_n zx zb dX11_runsAs_5 rfl (lv_at hl 2 rfl) ?_
      refine lv_goto (tgt := 10) zx zb dX11_runsAs_6 (by decide) ?_
      exact join_2 x3 _ _ _  G hl
  · intro x_2 H locs ls  G hl
    refine lv_istore (lv' := [(4, .int x_2), (0, .int x1), (1, .int x2), (2, .int x3), (3, .int x4)]) zx zb dX11_runsAs_10 hl (by decide) rfl (fun ls hl => ?_)
    refine lv_iload_n zx zb dX11_runsAs_12 rfl (lv_at hl 3 rfl) ?_
    refine lv_iconst (v := 5) zx zb dX11_runsAs_13 (by decide) ?_
    refine k_cutW (PP := fun Wx => ∀ (x_4 : Int32) (H : Heap) (locs : List Loc) (ls : Array Slot), wd X (fun _ => True) (va_A [] sz) s ([]) H locs → lv_has ls 7 [(4, .int x_2), (0, .int x1), (1, .int x2), (2, .int x3), (3, .int x4)] → Wx (F0 m 26 ls [.int x_4]) H locs) ?_ ?_
    · intro join_14
      refine lv_icmp_lt (tgt := 24) zx zb dX11_runsAs_14 (by decide) (fun c_3 => ?_) (fun c_3 => ?_)
      · refine lv_iload zx zb dX11_runsAs_24 (lv_at hl 0 rfl) ?_
        exact join_14 x_2 _ _ _  G hl
      · refine lv_iload zx zb dX11_runsAs_17 (lv_at hl 0 rfl) ?_
        refine lv_iconst (v := 1) zx zb dX11_runsAs_19 (by decide) ?_
        refine r_iadd (v := (x_2 + 1)) S rfl dX11_runsAs_20 ?_
        refine lv_goto (tgt := 26) zx zb dX11_runsAs_21 (by decide) ?_
        exact join_14 (x_2 + 1) _ _ _  G hl
    · intro x_4 H locs ls  G hl
      refine lv_istore (lv' := [(5, .int x_4), (4, .int x_2), (0, .int x1), (1, .int x2), (2, .int x3), (3, .int x4)]) zx zb dX11_runsAs_26 hl (by decide) rfl (fun ls hl => ?_)
      refine lv_iload zx zb dX11_runsAs_28 (lv_at hl 1 rfl) ?_
      refine lv_iload_n zx zb dX11_runsAs_30 rfl (lv_at hl 5 rfl) ?_
      refine lv_bipush (v := 10) zx zb dX11_runsAs_31 (by decide) ?_
      refine lv_idiv zx zb dX11_runsAs_33 (by decide) ?_
      refine k_itE (fun y_5 => ?_)
      refine k_cutW (PP := fun Wx => ∀ (x_7 : Int32) (H : Heap) (locs : List Loc) (ls : Array Slot), wd X (fun _ => True) (va_A [] sz) s ([]) H locs → lv_has ls 7 [(5, .int x_4), (4, .int x_2), (0, .int x1), (1, .int x2), (2, .int x3), (3, .int x4)] → Wx (F0 m 48 ls [.int x_7]) H locs) ?_ ?_
      · intro join_34
        refine lv_icmp_le (tgt := 47) zx zb dX11_runsAs_34 (by decide) (fun c_6 => ?_) (fun c_6 => ?_)
        · refine lv_iconst (v := 0) zx zb dX11_runsAs_47 (by decide) ?_
          exact join_34 0 _ _ _  G hl
        · refine lv_iload zx zb dX11_runsAs_37 (lv_at hl 1 rfl) ?_
          refine lv_iload_n zx zb dX11_runsAs_39 rfl (lv_at hl 5 rfl) ?_
          refine lv_bipush (v := 10) zx zb dX11_runsAs_40 (by decide) ?_
          refine lv_idiv zx zb dX11_runsAs_42 (by decide) ?_
          refine k_itE (fun y_8 => ?_)
          refine r_isub (v := (x_2 - y_8)) S rfl dX11_runsAs_43 ?_
          refine lv_goto (tgt := 48) zx zb dX11_runsAs_44 (by decide) ?_
          exact join_34 (x_2 - y_8) _ _ _  G hl
      · intro x_7 H locs ls  G hl
        refine lv_istore (lv' := [(6, .int x_7), (5, .int x_4), (4, .int x_2), (0, .int x1), (1, .int x2), (2, .int x3), (3, .int x4)]) zx zb dX11_runsAs_48 hl (by decide) rfl (fun ls hl => ?_)
        refine lv_iload_n zx zb dX11_runsAs_50 rfl (lv_at hl 3 rfl) ?_
        rcases k_ts1_5 x1 with w_9 | w_9 | w_9 | w_9 | w_9 | w_9
        · refine k_it w_9 ?_
          refine lv_tableIn (off := 33) (tgt := 84) zx zb dX11_runsAs_51 (by decide) (by decide) rfl (by decide) ?_
          refine lv_iload zx zb dX11_runsAs_84 (lv_at hl 1 rfl) ?_
          exact e_int S zr zlk (vp_nar_int _) G () [] rfl rfl (Or.inl rfl) (trivial) dX11_runsAs_86
        · refine k_it w_9 ?_
          refine lv_tableIn (off := 36) (tgt := 87) zx zb dX11_runsAs_51 (by decide) (by decide) rfl (by decide) ?_
          refine lv_iload zx zb dX11_runsAs_87 (lv_at hl 0 rfl) ?_
          exact e_int S zr zlk (vp_nar_int _) G () [] rfl rfl (Or.inl rfl) (trivial) dX11_runsAs_89
        · refine k_it w_9 ?_
          refine lv_tableIn (off := 39) (tgt := 90) zx zb dX11_runsAs_51 (by decide) (by decide) rfl (by decide) ?_
          refine lv_iload_n zx zb dX11_runsAs_90 rfl (lv_at hl 6 rfl) ?_
          refine lv_iconst (v := 5) zx zb dX11_runsAs_91 (by decide) ?_
          refine lv_irem zx zb dX11_runsAs_92 (by decide) ?_
          refine k_itE (fun y_10 => ?_)
          refine lv_iconst (v := 4) zx zb dX11_runsAs_93 (by decide) ?_
          refine k_cutW (PP := fun Wx => ∀ (x_12 : Int32) (H : Heap) (locs : List Loc) (ls : Array Slot), wd X (fun _ => True) (va_A [] sz) s ([]) H locs → lv_has ls 7 [(6, .int x_7), (5, .int x_4), (4, .int x_2), (0, .int x1), (1, .int x2), (2, .int x3), (3, .int x4)] → Wx (F0 m 106 ls [.int x_12]) H locs) ?_ ?_
          · intro join_94
            refine lv_icmp_ne (tgt := 104) zx zb dX11_runsAs_94 (by decide) (fun c_11 => ?_) (fun c_11 => ?_)
            · refine lv_iload zx zb dX11_runsAs_104 (lv_at hl 1 rfl) ?_
              exact join_94 x_4 _ _ _  G hl
            · refine lv_iload zx zb dX11_runsAs_97 (lv_at hl 1 rfl) ?_
              refine lv_iconst (v := 3) zx zb dX11_runsAs_99 (by decide) ?_
              refine r_iadd (v := (x_4 + 3)) S rfl dX11_runsAs_100 ?_
              refine lv_goto (tgt := 106) zx zb dX11_runsAs_101 (by decide) ?_
              exact join_94 (x_4 + 3) _ _ _  G hl
          · intro x_12 H locs ls  G hl
            exact e_int S zr zlk (vp_nar_int _) G () [] rfl rfl (Or.inl rfl) (trivial) dX11_runsAs_106
        · refine k_it w_9 ?_
          refine lv_tableIn (off := 56) (tgt := 107) zx zb dX11_runsAs_51 (by decide) (by decide) rfl (by decide) ?_
          refine lv_iload zx zb dX11_runsAs_107 (lv_at hl 2 rfl) ?_
          refine lv_iconst (v := 1) zx zb dX11_runsAs_109 (by decide) ?_
          refine r_iadd (v := (x_2 + 1)) S rfl dX11_runsAs_110 ?_
          refine lv_iconst (v := 2) zx zb dX11_runsAs_111 (by decide) ?_
          refine lv_idiv zx zb dX11_runsAs_112 (by decide) ?_
          refine k_itE (fun y_13 => ?_)
          exact e_int S zr zlk (vp_nar_int _) G () [] rfl rfl (Or.inl rfl) (trivial) dX11_runsAs_113
        · refine k_it w_9 ?_
          refine lv_tableIn (off := 63) (tgt := 114) zx zb dX11_runsAs_51 (by decide) (by decide) rfl (by decide) ?_
          refine lv_iload_n zx zb dX11_runsAs_114 rfl (lv_at hl 6 rfl) ?_
          refine lv_iconst (v := 2) zx zb dX11_runsAs_115 (by decide) ?_
          refine lv_irem zx zb dX11_runsAs_116 (by decide) ?_
          refine k_itE (fun y_14 => ?_)
          refine lv_iconst (v := 1) zx zb dX11_runsAs_117 (by decide) ?_
          refine k_cutW (PP := fun Wx => ∀ (x_16 : Int32) (H : Heap) (locs : List Loc) (ls : Array Slot), wd X (fun _ => True) (va_A [] sz) s ([]) H locs → lv_has ls 7 [(6, .int x_7), (5, .int x_4), (4, .int x_2), (0, .int x1), (1, .int x2), (2, .int x3), (3, .int x4)] → Wx (F0 m 130 ls [.int x_16]) H locs) ?_ ?_
          · intro join_118
            refine lv_icmp_ne (tgt := 128) zx zb dX11_runsAs_118 (by decide) (fun c_15 => ?_) (fun c_15 => ?_)
            · refine lv_iload zx zb dX11_runsAs_128 (lv_at hl 0 rfl) ?_
              exact join_118 x_7 _ _ _  G hl
            · refine lv_iload zx zb dX11_runsAs_121 (lv_at hl 0 rfl) ?_
              refine lv_iconst (v := 2) zx zb dX11_runsAs_123 (by decide) ?_
              refine r_iadd (v := (x_7 + 2)) S rfl dX11_runsAs_124 ?_
              refine lv_goto (tgt := 130) zx zb dX11_runsAs_125 (by decide) ?_
              exact join_118 (x_7 + 2) _ _ _  G hl
          · intro x_16 H locs ls  G hl
            exact e_int S zr zlk (vp_nar_int _) G () [] rfl rfl (Or.inl rfl) (trivial) dX11_runsAs_130
        · refine lv_tableOut (tgt := 131) zx zb dX11_runsAs_51 w_9 (by decide) ?_
          refine lv_iload zx zb dX11_runsAs_131 (lv_at hl 2 rfl) ?_
          exact e_int S zr zlk (vp_nar_int _) G () [] rfl rfl (Or.inl rfl) (trivial) dX11_runsAs_133
set_option maxHeartbeats 4000000 in
set_option maxRecDepth 100000 in
/-- mayAs -/
theorem m_mayAs (l : Launch) (X : EX) (x1 : Int32) (x2 : Int32) (sz : Nat) : Met l yX11_mayAs wsX11_mayAs ({ frames := 0, cells := 0, slots := 0, locals := 0 } : Room) (pE X [.int x1, .int x2] ([]) sz) (qI (fun (r : Int32) (u : Unit) => True) X (fun (u : Unit) => []) [] sz) 0 0 (va_A [] sz) := by
  refine mk_met (B := (fun _ => True)) (A := (va_A [] sz)) (cc := cX11_mayAs) (maxL := 3) (ret := (some .int)) (by decide) rfl (Nat.le_of_ble_eq_true rfl) k_ro k_a (fun p e s m below meth c S zr zlk znm zsz G ls hl => ?_)
  have S : CallFix p m c cX11_mayAs 3 s _ wsX11_mayAs RX11 := S
  have zx := S.1
  have zb := S.2.1
  have hl : lv_has ls 3 [(0, .int x1), (1, .int x2)] := hl
  refine lv_iload_n zx zb dX11_mayAs_0 rfl (lv_at hl 1 rfl) ?_
  refine lv_iconst (v := 2) zx zb dX11_mayAs_1 (by decide) ?_
  refine lv_irem zx zb dX11_mayAs_2 (by decide) ?_
  refine k_itE (fun y_1 => ?_)
  refine lv_iconst (v := 1) zx zb dX11_mayAs_3 (by decide) ?_
  refine k_cutW (PP := fun Wx => ∀ (x_3 : Int32) (H : Heap) (locs : List Loc) (ls : Array Slot), wd X (fun _ => True) (va_A [] sz) s ([]) H locs → lv_has ls 3 [(0, .int x1), (1, .int x2)] → Wx (F0 m 12 ls [.int x_3]) H locs) ?_ ?_
  · intro join_4
    refine lv_icmp_ne (tgt := 11) zx zb dX11_mayAs_4 (by decide) (fun c_2 => ?_) (fun c_2 => ?_)
    · refine lv_iconst (v := 4) zx zb dX11_mayAs_11 (by decide) ?_
      exact join_4 4 _ _ _  G hl
    · refine lv_iconst (v := 3) zx zb dX11_mayAs_7 (by decide) ?_
      refine lv_goto (tgt := 12) zx zb dX11_mayAs_8 (by decide) ?_
      exact join_4 3 _ _ _  G hl
  · intro x_3 H locs ls  G hl
    refine lv_istore_n (lv' := [(2, .int x_3), (0, .int x1), (1, .int x2)]) zx zb dX11_mayAs_12 rfl hl (by decide) rfl (fun ls hl => ?_)
    refine lv_iload_n zx zb dX11_mayAs_13 rfl (lv_at hl 1 rfl) ?_
    rcases k_ts1_5 x1 with w_4 | w_4 | w_4 | w_4 | w_4 | w_4
    · refine k_it w_4 ?_
      refine lv_tableIn (off := 34) (tgt := 48) zx zb dX11_mayAs_14 (by decide) (by decide) rfl (by decide) ?_
      refine lv_iconst (v := 5) zx zb dX11_mayAs_48 (by decide) ?_
      exact e_int S zr zlk (vp_nar_int _) G () [] rfl rfl (Or.inl rfl) (trivial) dX11_mayAs_49
    · refine k_it w_4 ?_
      refine lv_tableIn (off := 36) (tgt := 50) zx zb dX11_mayAs_14 (by decide) (by decide) rfl (by decide) ?_
      refine lv_iload_n zx zb dX11_mayAs_50 rfl (lv_at hl 0 rfl) ?_
      exact e_int S zr zlk (vp_nar_int _) G () [] rfl rfl (Or.inl rfl) (trivial) dX11_mayAs_51
    · refine k_it w_4 ?_
      refine lv_tableIn (off := 38) (tgt := 52) zx zb dX11_mayAs_14 (by decide) (by decide) rfl (by decide) ?_
      refine lv_iload_n zx zb dX11_mayAs_52 rfl (lv_at hl 2 rfl) ?_
      refine lv_iconst (v := 3) zx zb dX11_mayAs_53 (by decide) ?_
      refine k_cutW (PP := fun Wx => ∀ (x_6 : Int32) (H : Heap) (locs : List Loc) (ls : Array Slot), wd X (fun _ => True) (va_A [] sz) s ([]) H locs → lv_has ls 3 [(2, .int x_3), (0, .int x1), (1, .int x2)] → Wx (F0 m 63 ls [.int x_6]) H locs) ?_ ?_
      · intro join_54
        refine lv_icmp_ge (tgt := 62) zx zb dX11_mayAs_54 (by decide) (fun c_5 => ?_) (fun c_5 => ?_)
        · refine lv_iconst (v := 5) zx zb dX11_mayAs_62 (by decide) ?_
          exact join_54 5 _ _ _  G hl
        · refine lv_bipush (v := 8) zx zb dX11_mayAs_57 (by decide) ?_
          refine lv_goto (tgt := 63) zx zb dX11_mayAs_59 (by decide) ?_
          exact join_54 8 _ _ _  G hl
      · intro x_6 H locs ls  G hl
        exact e_int S zr zlk (vp_nar_int _) G () [] rfl rfl (Or.inl rfl) (trivial) dX11_mayAs_63
    · refine k_it w_4 ?_
      refine lv_tableIn (off := 50) (tgt := 64) zx zb dX11_mayAs_14 (by decide) (by decide) rfl (by decide) ?_
      refine lv_iload_n zx zb dX11_mayAs_64 rfl (lv_at hl 0 rfl) ?_
      refine lv_iconst (v := 1) zx zb dX11_mayAs_65 (by decide) ?_
      refine r_isub (v := (x_3 - 1)) S rfl dX11_mayAs_66 ?_
      exact e_int S zr zlk (vp_nar_int _) G () [] rfl rfl (Or.inl rfl) (trivial) dX11_mayAs_67
    · refine k_it w_4 ?_
      refine lv_tableIn (off := 54) (tgt := 68) zx zb dX11_mayAs_14 (by decide) (by decide) rfl (by decide) ?_
      refine lv_iload_n zx zb dX11_mayAs_68 rfl (lv_at hl 2 rfl) ?_
      refine lv_iconst (v := 4) zx zb dX11_mayAs_69 (by decide) ?_
      refine lv_irem zx zb dX11_mayAs_70 (by decide) ?_
      refine k_itE (fun y_7 => ?_)
      refine k_cutW (PP := fun Wx => ∀ (x_9 : Int32) (H : Heap) (locs : List Loc) (ls : Array Slot), wd X (fun _ => True) (va_A [] sz) s ([]) H locs → lv_has ls 3 [(2, .int x_3), (0, .int x1), (1, .int x2)] → Wx (F0 m 80 ls [.int x_9]) H locs) ?_ ?_
      · intro join_71
        refine lv_if_ne (tgt := 79) zx zb dX11_mayAs_71 (by decide) (fun c_8 => ?_) (fun c_8 => ?_)
        · refine lv_iconst (v := 5) zx zb dX11_mayAs_79 (by decide) ?_
          exact join_71 5 _ _ _  G hl
        · refine lv_bipush (v := 7) zx zb dX11_mayAs_74 (by decide) ?_
          refine lv_goto (tgt := 80) zx zb dX11_mayAs_76 (by decide) ?_
          exact join_71 7 _ _ _  G hl
      · intro x_9 H locs ls  G hl
        exact e_int S zr zlk (vp_nar_int _) G () [] rfl rfl (Or.inl rfl) (trivial) dX11_mayAs_80
    · refine lv_tableOut (tgt := 81) zx zb dX11_mayAs_14 w_4 (by decide) ?_
      refine lv_iconst (v := 4) zx zb dX11_mayAs_81 (by decide) ?_
      exact e_int S zr zlk (vp_nar_int _) G () [] rfl rfl (Or.inl rfl) (trivial) dX11_mayAs_82
theorem hdS_X11_runsAs : yX11_runsAs.cls ≠ "java/lang/invoke/MethodHandle" ∧ yX11_runsAs.cls ≠ "java/lang/invoke/VarHandle" ∧ (parseMethodDescriptor yX11_runsAs.desc).map (fun d => d.parameters.length) = some 4 := by decide +kernel
set_option maxHeartbeats 4000000 in
set_option maxRecDepth 100000 in
/-- runsOf -/
theorem m_runsOf (l : Launch) (X : EX) (ha : Nat) (N : Nat) (f : Nat → Int32) (c0 : Nat) (c1 : Nat) (c2 : Nat) (c3 : Nat) (c4 : Nat) (i : Nat) (x2 : Int32) (hI_f : InA f c0 c1 c2 c3 c4) (hN : 55 ≤ N) (hM : N ≤ 1000) (h6 : i < 6) (sz : Nat) : Met l yX11_runsOf wsX11_runsOf ({ frames := 1, cells := 0, slots := 0, locals := 26 } : Room) (pE X [.ref ha, .int (nI i), .int x2] ([(ha, .inl (X.2.1, N, .inl f))]) sz) (qI (fun (r : Int32) (u : Unit) => True) X (fun (u : Unit) => []) [] sz) 0 0 (va_A [] sz) := by
  refine mk_met (B := (fun _ => True)) (A := (va_A [] sz)) (cc := cX11_runsOf) (maxL := 3) (ret := (some .int)) (by decide) rfl (Nat.le_of_ble_eq_true rfl) k_ro k_a (fun p e s m below meth c S zr zlk znm zsz G ls hl => ?_)
  have S : CallFix p m c cX11_runsOf 3 s _ wsX11_runsOf RX11 := S
  have zx := S.1
  have zb := S.2.1
  have hl : lv_has ls 3 [(0, .ref ha), (1, .int (nI i)), (2, .int x2)] := hl
  have hO_f := hI_f.2
  obtain ⟨hm0_f, hm1_f, hm2_f, hm3_f, hm4_f⟩ := hO_f
  refine lv_aload_n zx zb dX11_runsOf_0 rfl (lv_at hl 0 rfl) ?_
  refine lv_bipush (v := 37) zx zb dX11_runsOf_1 (by decide) ?_
  refine lv_iload_n zx zb dX11_runsOf_3 rfl (lv_at hl 1 rfl) ?_
  refine r_iadd (v := (nI (37 + i))) S (nI_add 37 i) dX11_runsOf_4 ?_
  refine r_iald S G 0 rfl (vp_in_nI (by omega) (by omega)) rfl dX11_runsOf_5 ?_
  refine k_itE (fun y_1 => ?_)
  refine lv_aload_n zx zb dX11_runsOf_6 rfl (lv_at hl 0 rfl) ?_
  refine lv_bipush (v := 43) zx zb dX11_runsOf_7 (by decide) ?_
  refine lv_iload_n zx zb dX11_runsOf_9 rfl (lv_at hl 1 rfl) ?_
  refine r_iadd (v := (nI (43 + i))) S (nI_add 43 i) dX11_runsOf_10 ?_
  refine r_iald S G 0 rfl (vp_in_nI (by omega) (by omega)) rfl dX11_runsOf_11 ?_
  refine k_itE (fun y_2 => ?_)
  refine lv_aload_n zx zb dX11_runsOf_12 rfl (lv_at hl 0 rfl) ?_
  refine lv_bipush (v := 11) zx zb dX11_runsOf_13 (by decide) ?_
  refine lv_iload_n zx zb dX11_runsOf_15 rfl (lv_at hl 1 rfl) ?_
  refine r_iadd (v := (nI (11 + i))) S (nI_add 11 i) dX11_runsOf_16 ?_
  refine r_iald S G 0 rfl (vp_in_nI (by omega) (by omega)) rfl dX11_runsOf_17 ?_
  refine k_itE (fun y_3 => ?_)
  refine lv_iload_n zx zb dX11_runsOf_18 rfl (lv_at hl 2 rfl) ?_
  refine o_ri (cells' := 0) (slots' := 0) G rfl rfl (n_S (As := [.int y_1, .int y_2, .int y_3, .int x2]) (rest := []) S G (m_runsAs l X y_1 y_2 y_3 x2 s.heap.size) gX11_runsOf_X11_runsAs rfl rfl rfl hdS_X11_runsAs ⟨Nat.le_of_ble_eq_true rfl, Nat.le_of_ble_eq_true rfl⟩ [] rfl rfl rfl hl.1 (Nat.le_of_ble_eq_true rfl) dX11_runsOf_19 ⟨Nat.le_of_ble_eq_true rfl, Nat.le_of_ble_eq_true rfl⟩) (fun r_4 u_4 H locs hp_4 G => ?_)
  have G : wd X (fun _ => True) (va_A [] sz) s ([(ha, .inl (X.2.1, N, .inl f))]) H locs := G
  exact e_int S zr zlk (vp_nar_int _) G () [] rfl rfl (Or.inl rfl) (trivial) dX11_runsOf_22
set_option maxHeartbeats 4000000 in
set_option maxRecDepth 100000 in
/-- isHome -/
theorem m_isHome (l : Launch) (X : EX) (ha : Nat) (N : Nat) (f : Nat → Int32) (c0 : Nat) (c1 : Nat) (c2 : Nat) (c3 : Nat) (c4 : Nat) (i : Nat) (hI_f : InA f c0 c1 c2 c3 c4) (hN : 55 ≤ N) (hM : N ≤ 1000) (h6 : i < 6) (sz : Nat) : Met l yX11_isHome wsX11_isHome ({ frames := 0, cells := 0, slots := 0, locals := 0 } : Room) (pE X [.ref ha, .int (nI i)] ([(ha, .inl (X.2.1, N, .inl f))]) sz) (qI (fun (r : Int32) (u : Unit) => r = 0 ∨ r = 1) X (fun (u : Unit) => []) [] sz) 0 0 (va_A [] sz) := by
  refine mk_met (B := (fun _ => True)) (A := (va_A [] sz)) (cc := cX11_isHome) (maxL := 2) (ret := (some .boolean)) (by decide) rfl (Nat.le_of_ble_eq_true rfl) k_ro k_a (fun p e s m below meth c S zr zlk znm zsz G ls hl => ?_)
  have S : CallFix p m c cX11_isHome 2 s _ wsX11_isHome RX11 := S
  have zx := S.1
  have zb := S.2.1
  have hl : lv_has ls 2 [(0, .ref ha), (1, .int (nI i))] := hl
  have hO_f := hI_f.2
  obtain ⟨hm0_f, hm1_f, hm2_f, hm3_f, hm4_f⟩ := hO_f
  refine lv_aload_n zx zb dX11_isHome_0 rfl (lv_at hl 0 rfl) ?_
  refine lv_bipush (v := 29) zx zb dX11_isHome_1 (by decide) ?_
  refine lv_iload_n zx zb dX11_isHome_3 rfl (lv_at hl 1 rfl) ?_
  refine r_iadd (v := (nI (29 + i))) S (nI_add 29 i) dX11_isHome_4 ?_
  refine r_iald S G 0 rfl (vp_in_nI (by omega) (by omega)) rfl dX11_isHome_5 ?_
  refine k_itE (fun y_1 => ?_)
  refine lv_if_le (tgt := 13) zx zb dX11_isHome_6 (by decide) (fun c_2 => ?_) (fun c_2 => ?_)
  · refine lv_iconst (v := 0) zx zb dX11_isHome_13 (by decide) ?_
    exact e_int S zr zlk (by decide) G () [] rfl rfl (Or.inl rfl) ((Or.inl rfl)) dX11_isHome_14
  · refine lv_iconst (v := 1) zx zb dX11_isHome_9 (by decide) ?_
    refine lv_goto (tgt := 14) zx zb dX11_isHome_10 (by decide) ?_
    exact e_int S zr zlk (by decide) G () [] rfl rfl (Or.inl rfl) ((Or.inr rfl)) dX11_isHome_14
set_option maxHeartbeats 4000000 in
set_option maxRecDepth 100000 in
/-- drop -/
theorem m_drop (l : Launch) (X : EX) (ha : Nat) (N : Nat) (f : Nat → Int32) (c0 : Nat) (c1 : Nat) (c2 : Nat) (c3 : Nat) (c4 : Nat) (i : Nat) (hI_f : InA f c0 c1 c2 c3 c4) (hN : 55 ≤ N) (hM : N ≤ 1000) (h6 : i < 6) (sz : Nat) : Met l yX11_drop wsX11_drop ({ frames := 0, cells := 0, slots := 0, locals := 0 } : Room) (pE X [.ref ha, .int (nI i)] ([(ha, .inl (X.2.1, N, .inl f))]) sz) (qV (fun (u : (Nat → Int32)) => InA u c0 c1 c2 c3 c4 ∧ (True)) X (fun (u : (Nat → Int32)) => [(ha, .inl (X.2.1, N, .inl u))]) ([(ha, .inl (X.2.1, N, .inl f))]) sz) 0 0 (va_A ([(ha, .inl (X.2.1, N, .inl f))]) sz) := by
  refine mk_met (B := (va_A ([(ha, .inl (X.2.1, N, .inl f))]) sz)) (A := (va_A ([(ha, .inl (X.2.1, N, .inl f))]) sz)) (cc := cX11_drop) (maxL := 2) (ret := none) (by decide) rfl (Nat.le_of_ble_eq_true rfl) k_w k_a (fun p e s m below meth c S zr zlk znm zsz G ls hl => ?_)
  have S : CallFix p m c cX11_drop 2 s _ wsX11_drop RX11 := S
  have zx := S.1
  have zb := S.2.1
  have hl : lv_has ls 2 [(0, .ref ha), (1, .int (nI i))] := hl
  have hO_f := hI_f.2
  obtain ⟨hm0_f, hm1_f, hm2_f, hm3_f, hm4_f⟩ := hO_f
  refine lv_aload_n zx zb dX11_drop_0 rfl (lv_at hl 0 rfl) ?_
  refine lv_bipush (v := 17) zx zb dX11_drop_1 (by decide) ?_
  refine lv_iload_n zx zb dX11_drop_3 rfl (lv_at hl 1 rfl) ?_
  refine r_iadd (v := (nI (17 + i))) S (nI_add 17 i) dX11_drop_4 ?_
  refine lv_dup2_11 zx zb dX11_drop_5 rfl rfl ?_
  refine r_iald S G 0 rfl (vp_in_nI (by omega) (by omega)) rfl dX11_drop_6 ?_
  refine k_itE (fun y_1 => ?_)
  refine lv_aload_n zx zb dX11_drop_7 rfl (lv_at hl 0 rfl) ?_
  refine lv_bipush (v := 17) zx zb dX11_drop_8 (by decide) ?_
  refine lv_iload_n zx zb dX11_drop_10 rfl (lv_at hl 1 rfl) ?_
  refine r_iadd (v := (nI (17 + i))) S (nI_add 17 i) dX11_drop_11 ?_
  refine r_iald S G 0 rfl (vp_in_nI (by omega) (by omega)) rfl dX11_drop_12 ?_
  refine k_itE (fun y_2 => ?_)
  refine lv_bipush (v := 99) zx zb dX11_drop_13 (by decide) ?_
  refine k_cutW (PP := fun Wx => ∀ (x_4 : Int32) (H : Heap) (locs : List Loc) (ls : Array Slot), (x_4 = 0 ∨ x_4 = 1) → wd X (va_A ([(ha, .inl (X.2.1, N, .inl f))]) sz) (va_A ([(ha, .inl (X.2.1, N, .inl f))]) sz) s ([(ha, .inl (X.2.1, N, .inl f))]) H locs → lv_has ls 2 [(0, .ref ha), (1, .int (nI i))] → Wx (F0 m 23 ls [.int x_4, .int y_1, .int (nI (17 + i)), .ref ha]) H locs) ?_ ?_
  · intro join_15
    refine lv_icmp_ge (tgt := 22) zx zb dX11_drop_15 (by decide) (fun c_3 => ?_) (fun c_3 => ?_)
    · refine lv_iconst (v := 0) zx zb dX11_drop_22 (by decide) ?_
      exact join_15 0 _ _ _ (by first | assumption | exact Or.inl rfl | exact Or.inr rfl) G hl
    · refine lv_iconst (v := 1) zx zb dX11_drop_18 (by decide) ?_
      refine lv_goto (tgt := 23) zx zb dX11_drop_19 (by decide) ?_
      exact join_15 1 _ _ _ (by first | assumption | exact Or.inl rfl | exact Or.inr rfl) G hl
  · intro x_4 H locs ls hk_x_4 G hl
    refine r_iadd (v := (y_1 + x_4)) S rfl dX11_drop_23 ?_
    refine r_iast S G 0 rfl (vp_in_nI (by omega) (by omega)) dX11_drop_24 (fun H locs G => ?_)
    obtain ⟨f_5, hI_f_5, hE_f_5, G⟩ : ∃ f_5 : Nat → Int32, InA f_5 c0 c1 c2 c3 c4 ∧ f_5 = upd f (nI (17 + i)).toNatClampNeg (y_1 + x_4) ∧ wd X (va_A ([(ha, .inl (X.2.1, N, .inl f))]) sz) (va_A ([(ha, .inl (X.2.1, N, .inl f))]) sz) s ([(ha, .inl (X.2.1, N, .inl f_5))]) H locs := ⟨_, InA_o hI_f (by rw [nI_clamp (by omega)]; omega), rfl, G⟩
    refine lv_aload_n zx zb dX11_drop_25 rfl (lv_at hl 0 rfl) ?_
    refine lv_bipush (v := 23) zx zb dX11_drop_26 (by decide) ?_
    refine lv_iload_n zx zb dX11_drop_28 rfl (lv_at hl 1 rfl) ?_
    refine r_iadd (v := (nI (23 + i))) S (nI_add 23 i) dX11_drop_29 ?_
    refine lv_iconst (v := 2) zx zb dX11_drop_30 (by decide) ?_
    refine r_iast S G 0 rfl (vp_in_nI (by omega) (by omega)) dX11_drop_31 (fun H locs G => ?_)
    obtain ⟨f_6, hI_f_6, hE_f_6, G⟩ : ∃ f_6 : Nat → Int32, InA f_6 c0 c1 c2 c3 c4 ∧ f_6 = upd f_5 (nI (23 + i)).toNatClampNeg 2 ∧ wd X (va_A ([(ha, .inl (X.2.1, N, .inl f))]) sz) (va_A ([(ha, .inl (X.2.1, N, .inl f))]) sz) s ([(ha, .inl (X.2.1, N, .inl f_6))]) H locs := ⟨_, InA_o hI_f_5 (by rw [nI_clamp (by omega)]; omega), rfl, G⟩
    exact e_void S zr zlk G (f_6) [0] rfl rfl (Or.inr rfl) (⟨hI_f_6, trivial⟩) dX11_drop_32
theorem hdS_X11_runsOf : yX11_runsOf.cls ≠ "java/lang/invoke/MethodHandle" ∧ yX11_runsOf.cls ≠ "java/lang/invoke/VarHandle" ∧ (parseMethodDescriptor yX11_runsOf.desc).map (fun d => d.parameters.length) = some 3 := by decide +kernel
theorem hdS_X11_drop : yX11_drop.cls ≠ "java/lang/invoke/MethodHandle" ∧ yX11_drop.cls ≠ "java/lang/invoke/VarHandle" ∧ (parseMethodDescriptor yX11_drop.desc).map (fun d => d.parameters.length) = some 2 := by decide +kernel
theorem hdS_X11_mayAs : yX11_mayAs.cls ≠ "java/lang/invoke/MethodHandle" ∧ yX11_mayAs.cls ≠ "java/lang/invoke/VarHandle" ∧ (parseMethodDescriptor yX11_mayAs.desc).map (fun d => d.parameters.length) = some 2 := by decide +kernel
set_option maxHeartbeats 4000000 in
set_option maxRecDepth 100000 in
/-- goOne -/
theorem m_goOne (l : Launch) (X : EX) (ha : Nat) (N : Nat) (f : Nat → Int32) (c0 : Nat) (c1 : Nat) (c2 : Nat) (c3 : Nat) (c4 : Nat) (i : Nat) (x2 : Int32) (hI_f : InA f c0 c1 c2 c3 c4) (hN : 55 ≤ N) (hM : N ≤ 1000) (h6 : i < 6) (sz : Nat) : Met l yX11_goOne wsX11_goOne ({ frames := 2, cells := 0, slots := 0, locals := 48 } : Room) (pE X [.ref ha, .int (nI i), .int x2] ([(ha, .inl (X.2.1, N, .inl f))]) sz) (qV (fun (u : (Nat → Int32)) => InA u c0 c1 c2 c3 c4 ∧ (True)) X (fun (u : (Nat → Int32)) => [(ha, .inl (X.2.1, N, .inl u))]) ([(ha, .inl (X.2.1, N, .inl f))]) sz) 0 0 (va_A ([(ha, .inl (X.2.1, N, .inl f))]) sz) := by
  refine mk_met (B := (va_A ([(ha, .inl (X.2.1, N, .inl f))]) sz)) (A := (va_A ([(ha, .inl (X.2.1, N, .inl f))]) sz)) (cc := cX11_goOne) (maxL := 5) (ret := none) (by decide) rfl (Nat.le_of_ble_eq_true rfl) k_w k_a (fun p e s m below meth c S zr zlk znm zsz G ls hl => ?_)
  have S : CallFix p m c cX11_goOne 5 s _ wsX11_goOne RX11 := S
  have zx := S.1
  have zb := S.2.1
  have hl : lv_has ls 5 [(0, .ref ha), (1, .int (nI i)), (2, .int x2)] := hl
  have hO_f := hI_f.2
  obtain ⟨hm0_f, hm1_f, hm2_f, hm3_f, hm4_f⟩ := hO_f
  refine lv_aload_n zx zb dX11_goOne_0 rfl (lv_at hl 0 rfl) ?_
  refine lv_bipush (v := 35) zx zb dX11_goOne_1 (by decide) ?_
  refine r_iald S G 0 rfl (k_vpc (c := 35) rfl (by omega) (by omega)) rfl dX11_goOne_3 ?_
  refine k_itE (fun y_1 => ?_)
  refine lv_istore_n (lv' := [(3, .int y_1), (0, .ref ha), (1, .int (nI i)), (2, .int x2)]) zx zb dX11_goOne_4 rfl hl (by decide) rfl (fun ls hl => ?_)
  refine lv_aload_n zx zb dX11_goOne_5 rfl (lv_at hl 1 rfl) ?_
  refine lv_iload_n zx zb dX11_goOne_6 rfl (lv_at hl 2 rfl) ?_
  refine lv_iload_n zx zb dX11_goOne_7 rfl (lv_at hl 0 rfl) ?_
  refine o_ri (cells' := 0) (slots' := 0) G rfl rfl (n_S (As := [.ref ha, .int (nI i), .int y_1]) (rest := []) S G (m_runsOf l X ha N f c0 c1 c2 c3 c4 i y_1 hI_f (by omega) (by omega) (by omega) s.heap.size) gX11_goOne_X11_runsOf rfl rfl rfl hdS_X11_runsOf ⟨Nat.le_of_ble_eq_true rfl, Nat.le_of_ble_eq_true rfl⟩ [0] rfl rfl rfl hl.1 (Nat.le_of_ble_eq_true rfl) dX11_goOne_8 ⟨Nat.le_of_ble_eq_true rfl, Nat.le_of_ble_eq_true rfl⟩) (fun r_2 u_2 H locs hp_2 G => ?_)
  have G : wd X (va_A ([(ha, .inl (X.2.1, N, .inl f))]) sz) (va_A ([(ha, .inl (X.2.1, N, .inl f))]) sz) s ([(ha, .inl (X.2.1, N, .inl f))]) H locs := G
  refine lv_istore (lv' := [(4, .int r_2), (3, .int y_1), (0, .ref ha), (1, .int (nI i)), (2, .int x2)]) zx zb dX11_goOne_11 hl (by decide) rfl (fun ls hl => ?_)
  refine lv_aload_n zx zb dX11_goOne_13 rfl (lv_at hl 2 rfl) ?_
  refine lv_bipush (v := 23) zx zb dX11_goOne_14 (by decide) ?_
  refine lv_iload_n zx zb dX11_goOne_16 rfl (lv_at hl 3 rfl) ?_
  refine r_iadd (v := (nI (23 + i))) S (nI_add 23 i) dX11_goOne_17 ?_
  refine r_iald S G 0 rfl (vp_in_nI (by omega) (by omega)) rfl dX11_goOne_18 ?_
  refine k_itE (fun y_3 => ?_)
  refine k_cutW (PP := fun Wx => ∀ (f_5 : Nat → Int32) (H : Heap) (locs : List Loc) (ls : Array Slot), InA f_5 c0 c1 c2 c3 c4 → wd X (va_A ([(ha, .inl (X.2.1, N, .inl f))]) sz) (va_A ([(ha, .inl (X.2.1, N, .inl f))]) sz) s ([(ha, .inl (X.2.1, N, .inl f_5))]) H locs → lv_has ls 5 [(4, .int r_2), (3, .int y_1), (0, .ref ha), (1, .int (nI i)), (2, .int x2)] → Wx (F0 m 95 ls []) H locs) ?_ ?_
  · intro join_19
    refine lv_if_le (tgt := 35) zx zb dX11_goOne_19 (by decide) (fun c_4 => ?_) (fun c_4 => ?_)
    · refine lv_iload_n zx zb dX11_goOne_35 rfl (lv_at hl 4 rfl) ?_
      refine lv_if_ne (tgt := 54) zx zb dX11_goOne_36 (by decide) (fun c_6 => ?_) (fun c_6 => ?_)
      · refine lv_aload_n zx zb dX11_goOne_54 rfl (lv_at hl 2 rfl) ?_
        refine lv_iload_n zx zb dX11_goOne_55 rfl (lv_at hl 3 rfl) ?_
        refine b_wv (cells' := 0) (slots' := 0) (wr := []) G rfl rfl [0] [] rfl rfl rfl rfl (n_S (As := [.ref ha, .int (nI i)]) (rest := []) S G (m_drop l X ha N f c0 c1 c2 c3 c4 i hI_f (by omega) (by omega) (by omega) H.size) gX11_goOne_X11_drop rfl rfl rfl hdS_X11_drop ⟨Nat.le_of_ble_eq_true rfl, Nat.le_of_ble_eq_true rfl⟩ [0] rfl rfl rfl hl.1 (Nat.le_of_ble_eq_true rfl) dX11_goOne_56 ⟨Nat.le_of_ble_eq_true rfl, Nat.le_of_ble_eq_true rfl⟩) (fun u_7 H locs hp_7 G => ?_)
        obtain ⟨f_7, rfl⟩ : ∃ z, z = u_7 := ⟨_, rfl⟩
        obtain ⟨hI_f_7, hq_7⟩ := hp_7
        have G : wd X (va_A ([(ha, .inl (X.2.1, N, .inl f))]) sz) (va_A ([(ha, .inl (X.2.1, N, .inl f))]) sz) s ([(ha, .inl (X.2.1, N, .inl f_7))]) H locs := G
        refine lv_goto (tgt := 95) zx zb dX11_goOne_59 (by decide) ?_
        exact join_19 f_7 _ _ _ hI_f_7 G hl
      · refine lv_iload zx zb dX11_goOne_39 (lv_at hl 0 rfl) ?_
        refine lv_aload_n zx zb dX11_goOne_41 rfl (lv_at hl 2 rfl) ?_
        refine lv_bipush (v := 49) zx zb dX11_goOne_42 (by decide) ?_
        refine lv_iload_n zx zb dX11_goOne_44 rfl (lv_at hl 3 rfl) ?_
        refine r_iadd (v := (nI (49 + i))) S (nI_add 49 i) dX11_goOne_45 ?_
        refine r_iald S G 0 rfl (vp_in_nI (by omega) (by omega)) rfl dX11_goOne_46 ?_
        refine k_itE (fun y_8 => ?_)
        refine lv_iload_n zx zb dX11_goOne_47 rfl (lv_at hl 1 rfl) ?_
        refine o_ri (cells' := 0) (slots' := 0) G rfl rfl (n_S (As := [.int y_8, .int y_1]) (rest := [.int r_2]) S G (m_mayAs l X y_8 y_1 H.size) gX11_goOne_X11_mayAs rfl rfl rfl hdS_X11_mayAs ⟨Nat.le_of_ble_eq_true rfl, Nat.le_of_ble_eq_true rfl⟩ [] rfl rfl rfl hl.1 (Nat.le_of_ble_eq_true rfl) dX11_goOne_48 ⟨Nat.le_of_ble_eq_true rfl, Nat.le_of_ble_eq_true rfl⟩) (fun r_9 u_9 H locs hp_9 G => ?_)
        have G : wd X (va_A ([(ha, .inl (X.2.1, N, .inl f))]) sz) (va_A ([(ha, .inl (X.2.1, N, .inl f))]) sz) s ([(ha, .inl (X.2.1, N, .inl f))]) H locs := G
        refine lv_icmp_le (tgt := 62) zx zb dX11_goOne_51 (by decide) (fun c_10 => ?_) (fun c_10 => ?_)
        · refine lv_aload_n zx zb dX11_goOne_62 rfl (lv_at hl 2 rfl) ?_
          refine lv_iconst (v := 5) zx zb dX11_goOne_63 (by decide) ?_
          refine lv_iload_n zx zb dX11_goOne_64 rfl (lv_at hl 3 rfl) ?_
          refine r_iadd (v := (nI (5 + i))) S (nI_add 5 i) dX11_goOne_65 ?_
          refine lv_dup2_11 zx zb dX11_goOne_66 rfl rfl ?_
          refine r_iald S G 0 rfl (vp_in_nI (by omega) (by omega)) rfl dX11_goOne_67 ?_
          refine k_itE (fun y_11 => ?_)
          refine lv_iload zx zb dX11_goOne_68 (lv_at hl 0 rfl) ?_
          refine r_iadd (v := (y_11 + r_2)) S rfl dX11_goOne_70 ?_
          refine r_iast S G 0 rfl (vp_in_nI (by omega) (by omega)) dX11_goOne_71 (fun H locs G => ?_)
          obtain ⟨f_12, hI_f_12, hE_f_12, G⟩ : ∃ f_12 : Nat → Int32, InA f_12 c0 c1 c2 c3 c4 ∧ f_12 = upd f (nI (5 + i)).toNatClampNeg (y_11 + r_2) ∧ wd X (va_A ([(ha, .inl (X.2.1, N, .inl f))]) sz) (va_A ([(ha, .inl (X.2.1, N, .inl f))]) sz) s ([(ha, .inl (X.2.1, N, .inl f_12))]) H locs := ⟨_, InA_o hI_f (by rw [nI_clamp (by omega)]; omega), rfl, G⟩
          refine lv_aload_n zx zb dX11_goOne_72 rfl (lv_at hl 2 rfl) ?_
          refine lv_bipush (v := 29) zx zb dX11_goOne_73 (by decide) ?_
          refine lv_iload_n zx zb dX11_goOne_75 rfl (lv_at hl 3 rfl) ?_
          refine r_iadd (v := (nI (29 + i))) S (nI_add 29 i) dX11_goOne_76 ?_
          refine lv_aload_n zx zb dX11_goOne_77 rfl (lv_at hl 2 rfl) ?_
          refine lv_iconst (v := 5) zx zb dX11_goOne_78 (by decide) ?_
          refine lv_iload_n zx zb dX11_goOne_79 rfl (lv_at hl 3 rfl) ?_
          refine r_iadd (v := (nI (5 + i))) S (nI_add 5 i) dX11_goOne_80 ?_
          refine r_iald S G 0 rfl (vp_in_nI (by omega) (by omega)) rfl dX11_goOne_81 ?_
          refine k_itE (fun y_13 => ?_)
          refine lv_aload_n zx zb dX11_goOne_82 rfl (lv_at hl 2 rfl) ?_
          refine lv_bipush (v := 36) zx zb dX11_goOne_83 (by decide) ?_
          refine r_iald S G 0 rfl (k_vpc (c := 36) rfl (by omega) (by omega)) rfl dX11_goOne_85 ?_
          refine k_itE (fun y_14 => ?_)
          refine k_cutW (PP := fun Wx => ∀ (x_16 : Int32) (H : Heap) (locs : List Loc) (ls : Array Slot), wd X (va_A ([(ha, .inl (X.2.1, N, .inl f))]) sz) (va_A ([(ha, .inl (X.2.1, N, .inl f))]) sz) s ([(ha, .inl (X.2.1, N, .inl f_12))]) H locs → lv_has ls 5 [(4, .int r_2), (3, .int y_1), (0, .ref ha), (1, .int (nI i)), (2, .int x2)] → Wx (F0 m 94 ls [.int x_16, .int (nI (29 + i)), .ref ha]) H locs) ?_ ?_
          · intro join_86
            refine lv_icmp_lt (tgt := 93) zx zb dX11_goOne_86 (by decide) (fun c_15 => ?_) (fun c_15 => ?_)
            · refine lv_iconst (v := 0) zx zb dX11_goOne_93 (by decide) ?_
              exact join_86 0 _ _ _  G hl
            · refine lv_iload_n zx zb dX11_goOne_89 rfl (lv_at hl 1 rfl) ?_
              refine lv_goto (tgt := 94) zx zb dX11_goOne_90 (by decide) ?_
              exact join_86 y_1 _ _ _  G hl
          · intro x_16 H locs ls  G hl
            refine r_iast S G 0 rfl (vp_in_nI (by omega) (by omega)) dX11_goOne_94 (fun H locs G => ?_)
            obtain ⟨f_17, hI_f_17, hE_f_17, G⟩ : ∃ f_17 : Nat → Int32, InA f_17 c0 c1 c2 c3 c4 ∧ f_17 = upd f_12 (nI (29 + i)).toNatClampNeg x_16 ∧ wd X (va_A ([(ha, .inl (X.2.1, N, .inl f))]) sz) (va_A ([(ha, .inl (X.2.1, N, .inl f))]) sz) s ([(ha, .inl (X.2.1, N, .inl f_17))]) H locs := ⟨_, InA_o hI_f_12 (by rw [nI_clamp (by omega)]; omega), rfl, G⟩
            exact join_19 f_17 _ _ _ hI_f_17 G hl
        · refine lv_aload_n zx zb dX11_goOne_54 rfl (lv_at hl 2 rfl) ?_
          refine lv_iload_n zx zb dX11_goOne_55 rfl (lv_at hl 3 rfl) ?_
          refine b_wv (cells' := 0) (slots' := 0) (wr := []) G rfl rfl [0] [] rfl rfl rfl rfl (n_S (As := [.ref ha, .int (nI i)]) (rest := []) S G (m_drop l X ha N f c0 c1 c2 c3 c4 i hI_f (by omega) (by omega) (by omega) H.size) gX11_goOne_X11_drop rfl rfl rfl hdS_X11_drop ⟨Nat.le_of_ble_eq_true rfl, Nat.le_of_ble_eq_true rfl⟩ [0] rfl rfl rfl hl.1 (Nat.le_of_ble_eq_true rfl) dX11_goOne_56 ⟨Nat.le_of_ble_eq_true rfl, Nat.le_of_ble_eq_true rfl⟩) (fun u_18 H locs hp_18 G => ?_)
          obtain ⟨f_18, rfl⟩ : ∃ z, z = u_18 := ⟨_, rfl⟩
          obtain ⟨hI_f_18, hq_18⟩ := hp_18
          have G : wd X (va_A ([(ha, .inl (X.2.1, N, .inl f))]) sz) (va_A ([(ha, .inl (X.2.1, N, .inl f))]) sz) s ([(ha, .inl (X.2.1, N, .inl f_18))]) H locs := G
          refine lv_goto (tgt := 95) zx zb dX11_goOne_59 (by decide) ?_
          exact join_19 f_18 _ _ _ hI_f_18 G hl
    · refine lv_aload_n zx zb dX11_goOne_22 rfl (lv_at hl 2 rfl) ?_
      refine lv_bipush (v := 23) zx zb dX11_goOne_23 (by decide) ?_
      refine lv_iload_n zx zb dX11_goOne_25 rfl (lv_at hl 3 rfl) ?_
      refine r_iadd (v := (nI (23 + i))) S (nI_add 23 i) dX11_goOne_26 ?_
      refine lv_dup2_11 zx zb dX11_goOne_27 rfl rfl ?_
      refine r_iald S G 0 rfl (vp_in_nI (by omega) (by omega)) rfl dX11_goOne_28 ?_
      refine k_itE (fun y_19 => ?_)
      refine lv_iconst (v := 1) zx zb dX11_goOne_29 (by decide) ?_
      refine r_isub (v := (y_19 - 1)) S rfl dX11_goOne_30 ?_
      refine r_iast S G 0 rfl (vp_in_nI (by omega) (by omega)) dX11_goOne_31 (fun H locs G => ?_)
      obtain ⟨f_20, hI_f_20, hE_f_20, G⟩ : ∃ f_20 : Nat → Int32, InA f_20 c0 c1 c2 c3 c4 ∧ f_20 = upd f (nI (23 + i)).toNatClampNeg (y_19 - 1) ∧ wd X (va_A ([(ha, .inl (X.2.1, N, .inl f))]) sz) (va_A ([(ha, .inl (X.2.1, N, .inl f))]) sz) s ([(ha, .inl (X.2.1, N, .inl f_20))]) H locs := ⟨_, InA_o hI_f (by rw [nI_clamp (by omega)]; omega), rfl, G⟩
      refine lv_goto (tgt := 95) zx zb dX11_goOne_32 (by decide) ?_
      exact join_19 f_20 _ _ _ hI_f_20 G hl
  · intro f_5 H locs ls hI_f_5 G hl
    exact e_void S zr zlk G (f_5) [0] rfl rfl (Or.inr rfl) (⟨hI_f_5, trivial⟩) dX11_goOne_95
theorem hdS_X11_isHome : yX11_isHome.cls ≠ "java/lang/invoke/MethodHandle" ∧ yX11_isHome.cls ≠ "java/lang/invoke/VarHandle" ∧ (parseMethodDescriptor yX11_isHome.desc).map (fun d => d.parameters.length) = some 2 := by decide +kernel
theorem hdS_X11_goOne : yX11_goOne.cls ≠ "java/lang/invoke/MethodHandle" ∧ yX11_goOne.cls ≠ "java/lang/invoke/VarHandle" ∧ (parseMethodDescriptor yX11_goOne.desc).map (fun d => d.parameters.length) = some 3 := by decide +kernel
set_option maxHeartbeats 4000000 in
set_option maxRecDepth 100000 in
/-- goTick -/
theorem m_goTick (l : Launch) (X : EX) (ha : Nat) (N : Nat) (f : Nat → Int32) (c0 : Nat) (c1 : Nat) (c2 : Nat) (c3 : Nat) (c4 : Nat) (hI_f : InA f c0 c1 c2 c3 c4) (hN : 55 ≤ N) (hM : N ≤ 1000) (sz : Nat) : Met l yX11_goTick wsX11_goTick ({ frames := 3, cells := 0, slots := 0, locals := 72 } : Room) (pE X [.ref ha] ([(ha, .inl (X.2.1, N, .inl f))]) sz) (qV (fun (u : (Nat → Int32)) => InA u c0 c1 c2 c3 c4 ∧ (True)) X (fun (u : (Nat → Int32)) => [(ha, .inl (X.2.1, N, .inl u))]) ([(ha, .inl (X.2.1, N, .inl f))]) sz) 0 0 (va_A ([(ha, .inl (X.2.1, N, .inl f))]) sz) := by
  refine mk_met (B := (va_A ([(ha, .inl (X.2.1, N, .inl f))]) sz)) (A := (va_A ([(ha, .inl (X.2.1, N, .inl f))]) sz)) (cc := cX11_goTick) (maxL := 2) (ret := none) (by decide) rfl (Nat.le_of_ble_eq_true rfl) k_w k_a (fun p e s m below meth c S zr zlk znm zsz G ls hl => ?_)
  have S : CallFix p m c cX11_goTick 2 s _ wsX11_goTick RX11 := S
  have zx := S.1
  have zb := S.2.1
  have hl : lv_has ls 2 [(0, .ref ha)] := hl
  have hO_f := hI_f.2
  obtain ⟨hm0_f, hm1_f, hm2_f, hm3_f, hm4_f⟩ := hO_f
  refine lv_aload_n zx zb dX11_goTick_0 rfl (lv_at hl 0 rfl) ?_
  refine lv_bipush (v := 35) zx zb dX11_goTick_1 (by decide) ?_
  refine lv_dup2_11 zx zb dX11_goTick_3 rfl rfl ?_
  refine r_iald S G 0 rfl (k_vpc (c := 35) rfl (by omega) (by omega)) rfl dX11_goTick_4 ?_
  refine k_itE (fun y_1 => ?_)
  refine lv_iconst (v := 1) zx zb dX11_goTick_5 (by decide) ?_
  refine r_iadd (v := (y_1 + 1)) S rfl dX11_goTick_6 ?_
  refine r_iast S G 0 rfl (k_vpc (c := 35) rfl (by omega) (by omega)) dX11_goTick_7 (fun H locs G => ?_)
  obtain ⟨f_2, hI_f_2, hE_f_2, G⟩ : ∃ f_2 : Nat → Int32, InA f_2 c0 c1 c2 c3 c4 ∧ f_2 = upd f 35 (y_1 + 1) ∧ wd X (va_A ([(ha, .inl (X.2.1, N, .inl f))]) sz) (va_A ([(ha, .inl (X.2.1, N, .inl f))]) sz) s ([(ha, .inl (X.2.1, N, .inl f_2))]) H locs := ⟨_, InA_o hI_f (by decide), rfl, G⟩
  refine lv_iconst (v := 0) zx zb dX11_goTick_8 (by decide) ?_
  refine lv_istore_n (lv' := [(1, .int 0), (0, .ref ha)]) zx zb dX11_goTick_9 rfl hl (by decide) rfl (fun ls hl => ?_)
  refine k_loop (P := ∀ (zm : Nat) (k10 : Nat) (f10_0 : Nat → Int32) (H : Heap) (locs : List Loc) (ls : Array Slot), 6 + 1 ≤ k10 + zm → InA f10_0 c0 c1 c2 c3 c4 → (k10 ≤ 6) → wd X (va_A ([(ha, .inl (X.2.1, N, .inl f))]) sz) (va_A ([(ha, .inl (X.2.1, N, .inl f))]) sz) s ([(ha, .inl (X.2.1, N, .inl f10_0))]) H locs → lv_has ls 2 [(1, .int (nI k10)), (0, .ref ha)] → W p l e _ s m _ below meth c H locs _ _ _ (F0 m 10 ls [])) (fun loop => loop (6 + 1) 0 f_2 _ _ _ (by omega) hI_f_2 (by omega) G hl) ?_
  intro zm
  induction zm with
  | zero => intro k10 f10_0 H locs ls zz q_hI_f10_0 q_hk_k10 _ _; exact absurd zz (by omega)
  | succ zm ih10 =>
    intro k10 f10_0 H locs ls zm_10 hI_f10_0 hk_k10 G hl
    refine lv_iload_n zx zb dX11_goTick_10 rfl (lv_at hl 0 rfl) ?_
    refine lv_aload_n zx zb dX11_goTick_11 rfl (lv_at hl 1 rfl) ?_
    refine lv_iconst (v := 0) zx zb dX11_goTick_12 (by decide) ?_
    refine r_iald (v := (nI c0)) S G 0 rfl (k_vpc (c := 0) rfl (by omega) (by omega)) hI_f10_0.1.1 dX11_goTick_13 ?_
    refine lv_icmp_ge (tgt := 37) zx zb dX11_goTick_14 (by decide) (fun c_4 => ?_) (fun c_4 => ?_)
    · have fc_4 := j_le (a := c0) (b := k10) (by omega) (by omega) c_4
      exact e_void S zr zlk G (f10_0) [0] rfl rfl (Or.inr rfl) (⟨hI_f10_0, trivial⟩) dX11_goTick_37
    · have fc_4 := j_nle (a := c0) (b := k10) (by omega) (by omega) c_4
      refine lv_aload_n zx zb dX11_goTick_17 rfl (lv_at hl 1 rfl) ?_
      refine lv_iload_n zx zb dX11_goTick_18 rfl (lv_at hl 0 rfl) ?_
      refine o_ri (cells' := 0) (slots' := 0) G rfl rfl (n_S (As := [.ref ha, .int (nI k10)]) (rest := []) S G (m_isHome l X ha N f10_0 c0 c1 c2 c3 c4 k10 hI_f10_0 (by omega) (by omega) (by omega) H.size) gX11_goTick_X11_isHome rfl rfl rfl hdS_X11_isHome ⟨Nat.le_of_ble_eq_true rfl, Nat.le_of_ble_eq_true rfl⟩ [0] rfl rfl rfl hl.1 (Nat.le_of_ble_eq_true rfl) dX11_goTick_19 ⟨Nat.le_of_ble_eq_true rfl, Nat.le_of_ble_eq_true rfl⟩) (fun r_5 u_5 H locs hp_5 G => ?_)
      have G : wd X (va_A ([(ha, .inl (X.2.1, N, .inl f))]) sz) (va_A ([(ha, .inl (X.2.1, N, .inl f))]) sz) s ([(ha, .inl (X.2.1, N, .inl f10_0))]) H locs := G
      refine k_cutW (PP := fun Wx => ∀ (f_7 : Nat → Int32) (H : Heap) (locs : List Loc) (ls : Array Slot), InA f_7 c0 c1 c2 c3 c4 → wd X (va_A ([(ha, .inl (X.2.1, N, .inl f))]) sz) (va_A ([(ha, .inl (X.2.1, N, .inl f))]) sz) s ([(ha, .inl (X.2.1, N, .inl f_7))]) H locs → lv_has ls 2 [(1, .int (nI k10)), (0, .ref ha)] → Wx (F0 m 31 ls []) H locs) ?_ ?_
      · intro join_22
        refine lv_if_ne (tgt := 31) zx zb dX11_goTick_22 (by decide) (fun c_6 => ?_) (fun c_6 => ?_)
        · exact join_22 f10_0 _ _ _ hI_f10_0 G hl
        · refine lv_aload_n zx zb dX11_goTick_25 rfl (lv_at hl 1 rfl) ?_
          refine lv_iload_n zx zb dX11_goTick_26 rfl (lv_at hl 0 rfl) ?_
          refine lv_iconst (v := 0) zx zb dX11_goTick_27 (by decide) ?_
          refine b_wv (cells' := 0) (slots' := 0) (wr := []) G rfl rfl [0] [] rfl rfl rfl rfl (n_S (As := [.ref ha, .int (nI k10), .int 0]) (rest := []) S G (m_goOne l X ha N f10_0 c0 c1 c2 c3 c4 k10 0 hI_f10_0 (by omega) (by omega) (by omega) H.size) gX11_goTick_X11_goOne rfl rfl rfl hdS_X11_goOne ⟨Nat.le_of_ble_eq_true rfl, Nat.le_of_ble_eq_true rfl⟩ [0] rfl rfl rfl hl.1 (Nat.le_of_ble_eq_true rfl) dX11_goTick_28 ⟨Nat.le_of_ble_eq_true rfl, Nat.le_of_ble_eq_true rfl⟩) (fun u_8 H locs hp_8 G => ?_)
          obtain ⟨f_8, rfl⟩ : ∃ z, z = u_8 := ⟨_, rfl⟩
          obtain ⟨hI_f_8, hq_8⟩ := hp_8
          have G : wd X (va_A ([(ha, .inl (X.2.1, N, .inl f))]) sz) (va_A ([(ha, .inl (X.2.1, N, .inl f))]) sz) s ([(ha, .inl (X.2.1, N, .inl f_8))]) H locs := G
          exact join_22 f_8 _ _ _ hI_f_8 G hl
      · intro f_7 H locs ls hI_f_7 G hl
        refine lv_iinc (v := (nI (k10 + 1))) (lv' := [(1, .int (nI (k10 + 1))), (0, .ref ha)]) zx zb dX11_goTick_31 hl (k := 0) rfl (nI_add k10 1) (by decide) rfl (fun ls hl => ?_)
        refine lv_goto (tgt := 10) zx zb dX11_goTick_34 (by decide) ?_
        exact ih10 (k10 + 1) f_7 _ _ _ (by omega) hI_f_7 (by omega) G hl
theorem hdS_X11_goTick : yX11_goTick.cls ≠ "java/lang/invoke/MethodHandle" ∧ yX11_goTick.cls ≠ "java/lang/invoke/VarHandle" ∧ (parseMethodDescriptor yX11_goTick.desc).map (fun d => d.parameters.length) = some 1 := by decide +kernel
set_option maxHeartbeats 4000000 in
set_option maxRecDepth 100000 in
/-- goTicks -/
theorem m_goTicks (l : Launch) (X : EX) (ha : Nat) (N : Nat) (f : Nat → Int32) (c0 : Nat) (c1 : Nat) (c2 : Nat) (c3 : Nat) (c4 : Nat) (z : Nat) (hI_f : InA f c0 c1 c2 c3 c4) (hN : 55 ≤ N) (hM : N ≤ 1000) (hz : z ≤ 99) (sz : Nat) : Met l yX11_goTicks wsX11_goTicks ({ frames := 4, cells := 0, slots := 0, locals := 93 } : Room) (pE X [.ref ha, .int (nI z)] ([(ha, .inl (X.2.1, N, .inl f))]) sz) (qV (fun (u : (Nat → Int32)) => InA u c0 c1 c2 c3 c4 ∧ (True)) X (fun (u : (Nat → Int32)) => [(ha, .inl (X.2.1, N, .inl u))]) ([(ha, .inl (X.2.1, N, .inl f))]) sz) 0 0 (va_A ([(ha, .inl (X.2.1, N, .inl f))]) sz) := by
  refine mk_met (B := (va_A ([(ha, .inl (X.2.1, N, .inl f))]) sz)) (A := (va_A ([(ha, .inl (X.2.1, N, .inl f))]) sz)) (cc := cX11_goTicks) (maxL := 3) (ret := none) (by decide) rfl (Nat.le_of_ble_eq_true rfl) k_w k_a (fun p e s m below meth c S zr zlk znm zsz G ls hl => ?_)
  have S : CallFix p m c cX11_goTicks 3 s _ wsX11_goTicks RX11 := S
  have zx := S.1
  have zb := S.2.1
  have hl : lv_has ls 3 [(0, .ref ha), (1, .int (nI z))] := hl
  have hO_f := hI_f.2
  obtain ⟨hm0_f, hm1_f, hm2_f, hm3_f, hm4_f⟩ := hO_f
  refine lv_iconst (v := 0) zx zb dX11_goTicks_0 (by decide) ?_
  refine lv_istore_n (lv' := [(2, .int 0), (0, .ref ha), (1, .int (nI z))]) zx zb dX11_goTicks_1 rfl hl (by decide) rfl (fun ls hl => ?_)
  refine k_loop (P := ∀ (zm : Nat) (k2 : Nat) (f2_0 : Nat → Int32) (H : Heap) (locs : List Loc) (ls : Array Slot), z + 1 ≤ k2 + zm → InA f2_0 c0 c1 c2 c3 c4 → (k2 ≤ z) → wd X (va_A ([(ha, .inl (X.2.1, N, .inl f))]) sz) (va_A ([(ha, .inl (X.2.1, N, .inl f))]) sz) s ([(ha, .inl (X.2.1, N, .inl f2_0))]) H locs → lv_has ls 3 [(2, .int (nI k2)), (0, .ref ha), (1, .int (nI z))] → W p l e _ s m _ below meth c H locs _ _ _ (F0 m 2 ls [])) (fun loop => loop (z + 1) 0 f _ _ _ (by omega) hI_f (by omega) G hl) ?_
  intro zm
  induction zm with
  | zero => intro k2 f2_0 H locs ls zz q_hI_f2_0 q_hk_k2 _ _; exact absurd zz (by omega)
  | succ zm ih2 =>
    intro k2 f2_0 H locs ls zm_2 hI_f2_0 hk_k2 G hl
    refine lv_iload_n zx zb dX11_goTicks_2 rfl (lv_at hl 0 rfl) ?_
    refine lv_iload_n zx zb dX11_goTicks_3 rfl (lv_at hl 2 rfl) ?_
    refine k_cutW (PP := fun Wx => ∀ (H : Heap) (locs : List Loc) (ls : Array Slot), wd X (va_A ([(ha, .inl (X.2.1, N, .inl f))]) sz) (va_A ([(ha, .inl (X.2.1, N, .inl f))]) sz) s ([(ha, .inl (X.2.1, N, .inl f2_0))]) H locs → lv_has ls 3 [(2, .int (nI k2)), (0, .ref ha), (1, .int (nI z))] → Wx (F0 m 27 ls []) H locs) ?_ ?_
    · intro join_4
      refine lv_icmp_ge (tgt := 27) zx zb dX11_goTicks_4 (by decide) (fun c_1 => ?_) (fun c_1 => ?_)
      · have fc_1 := j_le (a := z) (b := k2) (by omega) (by omega) c_1
        exact join_4  _ _ _  G hl
      · have fc_1 := j_nle (a := z) (b := k2) (by omega) (by omega) c_1
        refine lv_aload_n zx zb dX11_goTicks_7 rfl (lv_at hl 1 rfl) ?_
        refine lv_bipush (v := 35) zx zb dX11_goTicks_8 (by decide) ?_
        refine r_iald S G 0 rfl (k_vpc (c := 35) rfl (by omega) (by omega)) rfl dX11_goTicks_10 ?_
        refine k_itE (fun y_2 => ?_)
        refine lv_sipush (v := 9999) zx zb dX11_goTicks_11 (by decide) ?_
        refine lv_icmp_ge (tgt := 27) zx zb dX11_goTicks_14 (by decide) (fun c_3 => ?_) (fun c_3 => ?_)
        · exact join_4  _ _ _  G hl
        · refine lv_aload_n zx zb dX11_goTicks_17 rfl (lv_at hl 1 rfl) ?_
          refine b_wv (cells' := 0) (slots' := 0) (wr := []) G rfl rfl [0] [] rfl rfl rfl rfl (n_S (As := [.ref ha]) (rest := []) S G (m_goTick l X ha N f2_0 c0 c1 c2 c3 c4 hI_f2_0 (by omega) (by omega) H.size) gX11_goTicks_X11_goTick rfl rfl rfl hdS_X11_goTick ⟨Nat.le_of_ble_eq_true rfl, Nat.le_of_ble_eq_true rfl⟩ [0] rfl rfl rfl hl.1 (Nat.le_of_ble_eq_true rfl) dX11_goTicks_18 ⟨Nat.le_of_ble_eq_true rfl, Nat.le_of_ble_eq_true rfl⟩) (fun u_4 H locs hp_4 G => ?_)
          obtain ⟨f_4, rfl⟩ : ∃ z, z = u_4 := ⟨_, rfl⟩
          obtain ⟨hI_f_4, hq_4⟩ := hp_4
          have G : wd X (va_A ([(ha, .inl (X.2.1, N, .inl f))]) sz) (va_A ([(ha, .inl (X.2.1, N, .inl f))]) sz) s ([(ha, .inl (X.2.1, N, .inl f_4))]) H locs := G
          refine lv_iinc (v := (nI (k2 + 1))) (lv' := [(2, .int (nI (k2 + 1))), (0, .ref ha), (1, .int (nI z))]) zx zb dX11_goTicks_21 hl (k := 0) rfl (nI_add k2 1) (by decide) rfl (fun ls hl => ?_)
          refine lv_goto (tgt := 2) zx zb dX11_goTicks_24 (by decide) ?_
          exact ih2 (k2 + 1) f_4 _ _ _ (by omega) hI_f_4 (by omega) G hl
    · intro  H locs ls  G hl
      exact e_void S zr zlk G (f2_0) [0] rfl rfl (Or.inr rfl) (⟨hI_f2_0, trivial⟩) dX11_goTicks_27
set_option maxHeartbeats 4000000 in
set_option maxRecDepth 100000 in
/-- manyHome -/
theorem m_manyHome (l : Launch) (X : EX) (ha : Nat) (N : Nat) (f : Nat → Int32) (c0 : Nat) (c1 : Nat) (c2 : Nat) (c3 : Nat) (c4 : Nat) (hI_f : InA f c0 c1 c2 c3 c4) (hN : 55 ≤ N) (hM : N ≤ 1000) (sz : Nat) : Met l yX11_manyHome wsX11_manyHome ({ frames := 1, cells := 0, slots := 0, locals := 21 } : Room) (pE X [.ref ha] ([(ha, .inl (X.2.1, N, .inl f))]) sz) (qI (fun (r : Int32) (u : Unit) => True) X (fun (u : Unit) => []) [] sz) 0 0 (va_A [] sz) := by
  refine mk_met (B := (fun _ => True)) (A := (va_A [] sz)) (cc := cX11_manyHome) (maxL := 3) (ret := (some .int)) (by decide) rfl (Nat.le_of_ble_eq_true rfl) k_ro k_a (fun p e s m below meth c S zr zlk znm zsz G ls hl => ?_)
  have S : CallFix p m c cX11_manyHome 3 s _ wsX11_manyHome RX11 := S
  have zx := S.1
  have zb := S.2.1
  have hl : lv_has ls 3 [(0, .ref ha)] := hl
  have hO_f := hI_f.2
  obtain ⟨hm0_f, hm1_f, hm2_f, hm3_f, hm4_f⟩ := hO_f
  refine lv_iconst (v := 0) zx zb dX11_manyHome_0 (by decide) ?_
  refine lv_istore_n (lv' := [(1, .int 0), (0, .ref ha)]) zx zb dX11_manyHome_1 rfl hl (by decide) rfl (fun ls hl => ?_)
  refine lv_iconst (v := 0) zx zb dX11_manyHome_2 (by decide) ?_
  refine lv_istore_n (lv' := [(2, .int 0), (1, .int 0), (0, .ref ha)]) zx zb dX11_manyHome_3 rfl hl (by decide) rfl (fun ls hl => ?_)
  refine k_loop (P := ∀ (zm : Nat) (k4 : Nat) (x4_1 : Int32) (H : Heap) (locs : List Loc) (ls : Array Slot), 6 + 1 ≤ k4 + zm → (k4 ≤ 6) → wd X (fun _ => True) (va_A [] sz) s ([(ha, .inl (X.2.1, N, .inl f))]) H locs → lv_has ls 3 [(2, .int (nI k4)), (1, .int x4_1), (0, .ref ha)] → W p l e _ s m _ below meth c H locs _ _ _ (F0 m 4 ls [])) (fun loop => loop (6 + 1) 0 0 _ _ _ (by omega) (by omega) G hl) ?_
  intro zm
  induction zm with
  | zero => intro k4 x4_1 H locs ls zz q_hk_k4 _ _; exact absurd zz (by omega)
  | succ zm ih4 =>
    intro k4 x4_1 H locs ls zm_4 hk_k4 G hl
    refine lv_iload_n zx zb dX11_manyHome_4 rfl (lv_at hl 0 rfl) ?_
    refine lv_aload_n zx zb dX11_manyHome_5 rfl (lv_at hl 2 rfl) ?_
    refine lv_iconst (v := 0) zx zb dX11_manyHome_6 (by decide) ?_
    refine r_iald (v := (nI c0)) S G 0 rfl (k_vpc (c := 0) rfl (by omega) (by omega)) hI_f.1.1 dX11_manyHome_7 ?_
    refine lv_icmp_ge (tgt := 33) zx zb dX11_manyHome_8 (by decide) (fun c_2 => ?_) (fun c_2 => ?_)
    · have fc_2 := j_le (a := c0) (b := k4) (by omega) (by omega) c_2
      refine lv_iload_n zx zb dX11_manyHome_33 rfl (lv_at hl 1 rfl) ?_
      exact e_int S zr zlk (vp_nar_int _) G () [] rfl rfl (Or.inl rfl) (trivial) dX11_manyHome_34
    · have fc_2 := j_nle (a := c0) (b := k4) (by omega) (by omega) c_2
      refine lv_iload_n zx zb dX11_manyHome_11 rfl (lv_at hl 1 rfl) ?_
      refine lv_aload_n zx zb dX11_manyHome_12 rfl (lv_at hl 2 rfl) ?_
      refine lv_iload_n zx zb dX11_manyHome_13 rfl (lv_at hl 0 rfl) ?_
      refine o_ri (cells' := 0) (slots' := 0) G rfl rfl (n_S (As := [.ref ha, .int (nI k4)]) (rest := [.int x4_1]) S G (m_isHome l X ha N f c0 c1 c2 c3 c4 k4 hI_f (by omega) (by omega) (by omega) H.size) gX11_manyHome_X11_isHome rfl rfl rfl hdS_X11_isHome ⟨Nat.le_of_ble_eq_true rfl, Nat.le_of_ble_eq_true rfl⟩ [0] rfl rfl rfl hl.1 (Nat.le_of_ble_eq_true rfl) dX11_manyHome_14 ⟨Nat.le_of_ble_eq_true rfl, Nat.le_of_ble_eq_true rfl⟩) (fun r_3 u_3 H locs hp_3 G => ?_)
      have G : wd X (fun _ => True) (va_A [] sz) s ([(ha, .inl (X.2.1, N, .inl f))]) H locs := G
      refine k_cutW (PP := fun Wx => ∀ (x_5 : Int32) (H : Heap) (locs : List Loc) (ls : Array Slot), (x_5 = 0 ∨ x_5 = 1) → wd X (fun _ => True) (va_A [] sz) s ([(ha, .inl (X.2.1, N, .inl f))]) H locs → lv_has ls 3 [(2, .int (nI k4)), (1, .int x4_1), (0, .ref ha)] → Wx (F0 m 25 ls [.int x_5, .int x4_1]) H locs) ?_ ?_
      · intro join_17
        refine lv_if_eq (tgt := 24) zx zb dX11_manyHome_17 (by decide) (fun c_4 => ?_) (fun c_4 => ?_)
        · refine lv_iconst (v := 0) zx zb dX11_manyHome_24 (by decide) ?_
          exact join_17 0 _ _ _ (by first | assumption | exact Or.inl rfl | exact Or.inr rfl) G hl
        · refine lv_iconst (v := 1) zx zb dX11_manyHome_20 (by decide) ?_
          refine lv_goto (tgt := 25) zx zb dX11_manyHome_21 (by decide) ?_
          exact join_17 1 _ _ _ (by first | assumption | exact Or.inl rfl | exact Or.inr rfl) G hl
      · intro x_5 H locs ls hk_x_5 G hl
        refine r_iadd (v := (x4_1 + x_5)) S rfl dX11_manyHome_25 ?_
        refine lv_istore_n (lv' := [(1, .int (x4_1 + x_5)), (2, .int (nI k4)), (0, .ref ha)]) zx zb dX11_manyHome_26 rfl hl (by decide) rfl (fun ls hl => ?_)
        refine lv_iinc (v := (nI (k4 + 1))) (lv' := [(2, .int (nI (k4 + 1))), (1, .int (x4_1 + x_5)), (0, .ref ha)]) zx zb dX11_manyHome_27 hl (k := 1) rfl (nI_add k4 1) (by decide) rfl (fun ls hl => ?_)
        refine lv_goto (tgt := 4) zx zb dX11_manyHome_30 (by decide) ?_
        exact ih4 (k4 + 1) (x4_1 + x_5) _ _ _ (by omega) (by omega) G hl
theorem in_X11_save_X11 : ∀ w ∈ wsX110, w ∈ wsX11_save := by decide +kernel
theorem lk_X11_save_7 : Cond.fieldLink RX11 7 "EggSpoonsModel" "all" "[I" ∈ wsX11_save := by decide +kernel
set_option maxHeartbeats 4000000 in
set_option maxRecDepth 100000 in
/-- save -/
theorem m_save (l : Launch) (X : EX) (m0 : Nat) (ma : Nat → Nat) (la : Int64) (lb : Int64) (n : Nat) (t : Nat → Nat) (v : Nat → Int32) (fa : Nat → Int32) (c0 : Nat) (c1 : Nat) (c2 : Nat) (c3 : Nat) (c4 : Nat) (hI_n : n ≤ 150) (hI_t : InT t) (hI_fa : InA fa c0 c1 c2 c3 c4) (sz : Nat) : Met l yX11_save wsX11_save ({ frames := 0, cells := 0, slots := 0, locals := 0 } : Room) (pE X [.ref m0] (@HAppend.hAppend va_W va_W va_W _ (mW m0 ma la lb n t v) ([((ma 0), .inl (X.2.1, 371, .inl fa))])) sz) (qV (fun (u : (Nat → Int32) × (Nat)) => InA u.1 c0 c1 c2 c3 u.2 ∧ (True)) X (fun (u : (Nat → Int32) × (Nat)) => @HAppend.hAppend va_W va_W va_W _ (mW m0 ma la lb n t v) ([((ma 0), .inl (X.2.1, 371, .inl u.1))])) (@HAppend.hAppend va_W va_W va_W _ (mW m0 ma la lb n t v) ([((ma 0), .inl (X.2.1, 371, .inl fa))])) sz) 0 0 (va_A (@HAppend.hAppend va_W va_W va_W _ (mW m0 ma la lb n t v) ([((ma 0), .inl (X.2.1, 371, .inl fa))])) sz) := by
  refine mk_met (B := (va_A (@HAppend.hAppend va_W va_W va_W _ (mW m0 ma la lb n t v) ([((ma 0), .inl (X.2.1, 371, .inl fa))])) sz)) (A := (va_A (@HAppend.hAppend va_W va_W va_W _ (mW m0 ma la lb n t v) ([((ma 0), .inl (X.2.1, 371, .inl fa))])) sz)) (cc := cX11_save) (maxL := 2) (ret := none) (by decide) rfl (Nat.le_of_ble_eq_true rfl) k_w k_a (fun p e s m below meth c S zr zlk znm zsz G ls hl => ?_)
  have S : CallFix p m c cX11_save 2 s _ wsX11_save RX11 := S
  have zx := S.1
  have zb := S.2.1
  have hl : lv_has ls 2 [(0, .ref m0)] := hl
  have hO_t := hI_t
  obtain ⟨ht0_t, ht1_t⟩ := hO_t
  have hO_fa := hI_fa.2
  obtain ⟨hm0_fa, hm1_fa, hm2_fa, hm3_fa, hm4_fa⟩ := hO_fa
  refine lv_aload_n zx zb dX11_save_0 rfl (lv_at hl 0 rfl) ?_
  refine r_get (C := RX11) (T := TX11) (N := 18) (ci := 9) (v := .ref (ma 0)) S in_X11_save_X11 G 0 rfl rfl 0 (by decide) lk_X11_save_7 rfl dX11_save_1 ?_
  refine lv_iconst (v := 4) zx zb dX11_save_4 (by decide) ?_
  refine r_iald (v := (nI c4)) S G 1 rfl (k_vp (by decide)) hI_fa.1.2.2.2.2 dX11_save_5 ?_
  refine lv_bipush (v := 8) zx zb dX11_save_6 (by decide) ?_
  refine lv_icmp_ne (tgt := 53) zx zb dX11_save_8 (by decide) (fun c_2 => ?_) (fun c_2 => ?_)
  · have fc_2 := j_ne (a := c4) (b := 8) c_2
    refine lv_iconst (v := 0) zx zb dX11_save_53 (by decide) ?_
    refine lv_istore_n (lv' := [(1, .int 0), (0, .ref m0)]) zx zb dX11_save_54 rfl hl (by decide) rfl (fun ls hl => ?_)
    refine k_loop (P := ∀ (zm : Nat) (k55 : Nat) (f55_1 : Nat → Int32) (H : Heap) (locs : List Loc) (ls : Array Slot), 31 + 1 ≤ k55 + zm → InA f55_1 c0 c1 c2 c3 c4 → (k55 ≤ 31) → wd X (va_A (@HAppend.hAppend va_W va_W va_W _ (mW m0 ma la lb n t v) ([((ma 0), .inl (X.2.1, 371, .inl fa))])) sz) (va_A (@HAppend.hAppend va_W va_W va_W _ (mW m0 ma la lb n t v) ([((ma 0), .inl (X.2.1, 371, .inl fa))])) sz) s (@HAppend.hAppend va_W va_W va_W _ (mW m0 ma la lb n t v) ([((ma 0), .inl (X.2.1, 371, .inl f55_1))])) H locs → lv_has ls 2 [(1, .int (nI k55)), (0, .ref m0)] → W p l e _ s m _ below meth c H locs _ _ _ (F0 m 55 ls [])) (fun loop => loop (31 + 1) 0 fa _ _ _ (by omega) hI_fa (by omega) G hl) ?_
    intro zm
    induction zm with
    | zero => intro k55 f55_1 H locs ls zz q_hI_f55_1 q_hk_k55 _ _; exact absurd zz (by omega)
    | succ zm ih55 =>
      intro k55 f55_1 H locs ls zm_55 hI_f55_1 hk_k55 G hl
      refine lv_iload_n zx zb dX11_save_55 rfl (lv_at hl 0 rfl) ?_
      refine lv_bipush (v := 31) zx zb dX11_save_56 (by decide) ?_
      refine lv_icmp_ge (tgt := 94) zx zb dX11_save_58 (by decide) (fun c_3 => ?_) (fun c_3 => ?_)
      · have fc_3 := j_le (a := 31) (b := k55) (by omega) (by omega) c_3
        refine lv_aload_n zx zb dX11_save_94 rfl (lv_at hl 1 rfl) ?_
        refine r_get (C := RX11) (T := TX11) (N := 18) (ci := 9) (v := .ref (ma 0)) S in_X11_save_X11 G 0 rfl rfl 0 (by decide) lk_X11_save_7 rfl dX11_save_95 ?_
        refine lv_iconst (v := 4) zx zb dX11_save_98 (by decide) ?_
        refine lv_dup2_11 zx zb dX11_save_99 rfl rfl ?_
        refine r_iald (v := (nI c4)) S G 1 rfl (k_vp (by decide)) hI_f55_1.1.2.2.2.2 dX11_save_100 ?_
        refine lv_iconst (v := 1) zx zb dX11_save_101 (by decide) ?_
        refine r_iadd (v := (nI (c4 + 1))) S (nI_add c4 1) dX11_save_102 ?_
        refine r_iast S G 1 rfl (k_vp (by decide)) dX11_save_103 (fun H locs G => ?_)
        obtain ⟨f_5, c_6, hI_f_5, hE_c_6, hE_f_5, G⟩ : ∃ (f_5 : Nat → Int32) (c_6 : Nat), InA f_5 c0 c1 c2 c3 c_6 ∧ c_6 = (c4 + 1) ∧ f_5 = upd f55_1 4 (nI (c4 + 1)) ∧ wd X (va_A (@HAppend.hAppend va_W va_W va_W _ (mW m0 ma la lb n t v) ([((ma 0), .inl (X.2.1, 371, .inl fa))])) sz) (va_A (@HAppend.hAppend va_W va_W va_W _ (mW m0 ma la lb n t v) ([((ma 0), .inl (X.2.1, 371, .inl fa))])) sz) s (@HAppend.hAppend va_W va_W va_W _ (mW m0 ma la lb n t v) ([((ma 0), .inl (X.2.1, 371, .inl f_5))])) H locs := ⟨_, (c4 + 1), InA_n4 (n := (c4 + 1)) hI_f55_1 (by omega), rfl, rfl, G⟩
        exact e_void S zr zlk G (f_5, c_6) [0, 1] rfl rfl (Or.inr rfl) (⟨hI_f_5, trivial⟩) dX11_save_104
      · have fc_3 := j_nle (a := 31) (b := k55) (by omega) (by omega) c_3
        refine lv_aload_n zx zb dX11_save_61 rfl (lv_at hl 1 rfl) ?_
        refine r_get (C := RX11) (T := TX11) (N := 18) (ci := 9) (v := .ref (ma 0)) S in_X11_save_X11 G 0 rfl rfl 0 (by decide) lk_X11_save_7 rfl dX11_save_62 ?_
        refine lv_bipush (v := 123) zx zb dX11_save_65 (by decide) ?_
        refine lv_bipush (v := 31) zx zb dX11_save_67 (by decide) ?_
        refine lv_aload_n zx zb dX11_save_69 rfl (lv_at hl 1 rfl) ?_
        refine r_get (C := RX11) (T := TX11) (N := 18) (ci := 9) (v := .ref (ma 0)) S in_X11_save_X11 G 0 rfl rfl 0 (by decide) lk_X11_save_7 rfl dX11_save_70 ?_
        refine lv_iconst (v := 4) zx zb dX11_save_73 (by decide) ?_
        refine r_iald (v := (nI c4)) S G 1 rfl (k_vp (by decide)) hI_f55_1.1.2.2.2.2 dX11_save_74 ?_
        refine r_imul (v := (nI (31 * c4))) S (pk_mul 31 c4) dX11_save_75 ?_
        refine r_iadd (v := (nI (123 + (31 * c4)))) S (nI_add 123 (31 * c4)) dX11_save_76 ?_
        refine lv_iload_n zx zb dX11_save_77 rfl (lv_at hl 0 rfl) ?_
        refine r_iadd (v := (nI ((123 + (31 * c4)) + k55))) S (nI_add (123 + (31 * c4)) k55) dX11_save_78 ?_
        refine lv_aload_n zx zb dX11_save_79 rfl (lv_at hl 1 rfl) ?_
        refine r_get (C := RX11) (T := TX11) (N := 18) (ci := 9) (v := .ref (ma 0)) S in_X11_save_X11 G 0 rfl rfl 0 (by decide) lk_X11_save_7 rfl dX11_save_80 ?_
        refine lv_iconst (v := 5) zx zb dX11_save_83 (by decide) ?_
        refine lv_iload_n zx zb dX11_save_84 rfl (lv_at hl 0 rfl) ?_
        refine r_iadd (v := (nI (5 + k55))) S (nI_add 5 k55) dX11_save_85 ?_
        refine r_iald S G 1 rfl (vp_in_nI (by omega) (by decide)) rfl dX11_save_86 ?_
        refine k_itE (fun y_8 => ?_)
        refine r_iast S G 1 rfl (vp_in_nI (by omega) (by decide)) dX11_save_87 (fun H locs G => ?_)
        obtain ⟨f_9, hI_f_9, hE_f_9, G⟩ : ∃ f_9 : Nat → Int32, InA f_9 c0 c1 c2 c3 c4 ∧ f_9 = upd f55_1 (nI ((123 + (31 * c4)) + k55)).toNatClampNeg y_8 ∧ wd X (va_A (@HAppend.hAppend va_W va_W va_W _ (mW m0 ma la lb n t v) ([((ma 0), .inl (X.2.1, 371, .inl fa))])) sz) (va_A (@HAppend.hAppend va_W va_W va_W _ (mW m0 ma la lb n t v) ([((ma 0), .inl (X.2.1, 371, .inl fa))])) sz) s (@HAppend.hAppend va_W va_W va_W _ (mW m0 ma la lb n t v) ([((ma 0), .inl (X.2.1, 371, .inl f_9))])) H locs := ⟨_, InA_o hI_f55_1 (by rw [nI_clamp (by omega)]; omega), rfl, G⟩
        refine lv_iinc (v := (nI (k55 + 1))) (lv' := [(1, .int (nI (k55 + 1))), (0, .ref m0)]) zx zb dX11_save_88 hl (k := 0) rfl (nI_add k55 1) (by decide) rfl (fun ls hl => ?_)
        refine lv_goto (tgt := 55) zx zb dX11_save_91 (by decide) ?_
        exact ih55 (k55 + 1) f_9 _ _ _ (by omega) hI_f_9 (by omega) G hl
  · have fc_2 := j_eq (a := c4) (b := 8) (by omega) (by omega) c_2
    refine lv_iconst (v := 0) zx zb dX11_save_11 (by decide) ?_
    refine lv_istore_n (lv' := [(1, .int 0), (0, .ref m0)]) zx zb dX11_save_12 rfl hl (by decide) rfl (fun ls hl => ?_)
    refine k_loop (P := ∀ (zm : Nat) (k13 : Nat) (f13_1 : Nat → Int32) (H : Heap) (locs : List Loc) (ls : Array Slot), 217 + 1 ≤ k13 + zm → InA f13_1 c0 c1 c2 c3 c4 → (k13 ≤ 217) → wd X (va_A (@HAppend.hAppend va_W va_W va_W _ (mW m0 ma la lb n t v) ([((ma 0), .inl (X.2.1, 371, .inl fa))])) sz) (va_A (@HAppend.hAppend va_W va_W va_W _ (mW m0 ma la lb n t v) ([((ma 0), .inl (X.2.1, 371, .inl fa))])) sz) s (@HAppend.hAppend va_W va_W va_W _ (mW m0 ma la lb n t v) ([((ma 0), .inl (X.2.1, 371, .inl f13_1))])) H locs → lv_has ls 2 [(1, .int (nI k13)), (0, .ref m0)] → W p l e _ s m _ below meth c H locs _ _ _ (F0 m 13 ls [])) (fun loop => loop (217 + 1) 0 fa _ _ _ (by omega) hI_fa (by omega) G hl) ?_
    intro zm
    induction zm with
    | zero => intro k13 f13_1 H locs ls zz q_hI_f13_1 q_hk_k13 _ _; exact absurd zz (by omega)
    | succ zm ih13 =>
      intro k13 f13_1 H locs ls zm_13 hI_f13_1 hk_k13 G hl
      refine lv_iload_n zx zb dX11_save_13 rfl (lv_at hl 0 rfl) ?_
      refine lv_sipush (v := 217) zx zb dX11_save_14 (by decide) ?_
      refine lv_icmp_ge (tgt := 45) zx zb dX11_save_17 (by decide) (fun c_10 => ?_) (fun c_10 => ?_)
      · have fc_10 := j_le (a := 217) (b := k13) (by omega) (by omega) c_10
        refine lv_aload_n zx zb dX11_save_45 rfl (lv_at hl 1 rfl) ?_
        refine r_get (C := RX11) (T := TX11) (N := 18) (ci := 9) (v := .ref (ma 0)) S in_X11_save_X11 G 0 rfl rfl 0 (by decide) lk_X11_save_7 rfl dX11_save_46 ?_
        refine lv_iconst (v := 4) zx zb dX11_save_49 (by decide) ?_
        refine lv_bipush (v := 7) zx zb dX11_save_50 (by decide) ?_
        refine r_iast S G 1 rfl (k_vp (by decide)) dX11_save_52 (fun H locs G => ?_)
        obtain ⟨f_11, c_12, hI_f_11, hE_c_12, hE_f_11, G⟩ : ∃ (f_11 : Nat → Int32) (c_12 : Nat), InA f_11 c0 c1 c2 c3 c_12 ∧ c_12 = 7 ∧ f_11 = upd f13_1 4 (nI 7) ∧ wd X (va_A (@HAppend.hAppend va_W va_W va_W _ (mW m0 ma la lb n t v) ([((ma 0), .inl (X.2.1, 371, .inl fa))])) sz) (va_A (@HAppend.hAppend va_W va_W va_W _ (mW m0 ma la lb n t v) ([((ma 0), .inl (X.2.1, 371, .inl fa))])) sz) s (@HAppend.hAppend va_W va_W va_W _ (mW m0 ma la lb n t v) ([((ma 0), .inl (X.2.1, 371, .inl f_11))])) H locs := ⟨_, 7, InA_n4 (n := 7) hI_f13_1 (by omega), rfl, rfl, G⟩
        refine lv_iconst (v := 0) zx zb dX11_save_53 (by decide) ?_
        refine lv_istore_n (lv' := [(1, .int 0), (0, .ref m0)]) zx zb dX11_save_54 rfl hl (by decide) rfl (fun ls hl => ?_)
        refine k_loop (P := ∀ (zm : Nat) (k55 : Nat) (f55_1 : Nat → Int32) (H : Heap) (locs : List Loc) (ls : Array Slot), 31 + 1 ≤ k55 + zm → InA f55_1 c0 c1 c2 c3 c_12 → (k55 ≤ 31) → wd X (va_A (@HAppend.hAppend va_W va_W va_W _ (mW m0 ma la lb n t v) ([((ma 0), .inl (X.2.1, 371, .inl fa))])) sz) (va_A (@HAppend.hAppend va_W va_W va_W _ (mW m0 ma la lb n t v) ([((ma 0), .inl (X.2.1, 371, .inl fa))])) sz) s (@HAppend.hAppend va_W va_W va_W _ (mW m0 ma la lb n t v) ([((ma 0), .inl (X.2.1, 371, .inl f55_1))])) H locs → lv_has ls 2 [(1, .int (nI k55)), (0, .ref m0)] → W p l e _ s m _ below meth c H locs _ _ _ (F0 m 55 ls [])) (fun loop => loop (31 + 1) 0 f_11 _ _ _ (by omega) hI_f_11 (by omega) G hl) ?_
        intro zm
        induction zm with
        | zero => intro k55 f55_1 H locs ls zz q_hI_f55_1 q_hk_k55 _ _; exact absurd zz (by omega)
        | succ zm ih55 =>
          intro k55 f55_1 H locs ls zm_55 hI_f55_1 hk_k55 G hl
          refine lv_iload_n zx zb dX11_save_55 rfl (lv_at hl 0 rfl) ?_
          refine lv_bipush (v := 31) zx zb dX11_save_56 (by decide) ?_
          refine lv_icmp_ge (tgt := 94) zx zb dX11_save_58 (by decide) (fun c_13 => ?_) (fun c_13 => ?_)
          · have fc_13 := j_le (a := 31) (b := k55) (by omega) (by omega) c_13
            refine lv_aload_n zx zb dX11_save_94 rfl (lv_at hl 1 rfl) ?_
            refine r_get (C := RX11) (T := TX11) (N := 18) (ci := 9) (v := .ref (ma 0)) S in_X11_save_X11 G 0 rfl rfl 0 (by decide) lk_X11_save_7 rfl dX11_save_95 ?_
            refine lv_iconst (v := 4) zx zb dX11_save_98 (by decide) ?_
            refine lv_dup2_11 zx zb dX11_save_99 rfl rfl ?_
            refine r_iald (v := (nI c_12)) S G 1 rfl (k_vp (by decide)) hI_f55_1.1.2.2.2.2 dX11_save_100 ?_
            refine lv_iconst (v := 1) zx zb dX11_save_101 (by decide) ?_
            refine r_iadd (v := (nI (c_12 + 1))) S (nI_add c_12 1) dX11_save_102 ?_
            refine r_iast S G 1 rfl (k_vp (by decide)) dX11_save_103 (fun H locs G => ?_)
            obtain ⟨f_15, c_16, hI_f_15, hE_c_16, hE_f_15, G⟩ : ∃ (f_15 : Nat → Int32) (c_16 : Nat), InA f_15 c0 c1 c2 c3 c_16 ∧ c_16 = (c_12 + 1) ∧ f_15 = upd f55_1 4 (nI (c_12 + 1)) ∧ wd X (va_A (@HAppend.hAppend va_W va_W va_W _ (mW m0 ma la lb n t v) ([((ma 0), .inl (X.2.1, 371, .inl fa))])) sz) (va_A (@HAppend.hAppend va_W va_W va_W _ (mW m0 ma la lb n t v) ([((ma 0), .inl (X.2.1, 371, .inl fa))])) sz) s (@HAppend.hAppend va_W va_W va_W _ (mW m0 ma la lb n t v) ([((ma 0), .inl (X.2.1, 371, .inl f_15))])) H locs := ⟨_, (c_12 + 1), InA_n4 (n := (c_12 + 1)) hI_f55_1 (by omega), rfl, rfl, G⟩
            exact e_void S zr zlk G (f_15, c_16) [0, 1] rfl rfl (Or.inr rfl) (⟨hI_f_15, trivial⟩) dX11_save_104
          · have fc_13 := j_nle (a := 31) (b := k55) (by omega) (by omega) c_13
            refine lv_aload_n zx zb dX11_save_61 rfl (lv_at hl 1 rfl) ?_
            refine r_get (C := RX11) (T := TX11) (N := 18) (ci := 9) (v := .ref (ma 0)) S in_X11_save_X11 G 0 rfl rfl 0 (by decide) lk_X11_save_7 rfl dX11_save_62 ?_
            refine lv_bipush (v := 123) zx zb dX11_save_65 (by decide) ?_
            refine lv_bipush (v := 31) zx zb dX11_save_67 (by decide) ?_
            refine lv_aload_n zx zb dX11_save_69 rfl (lv_at hl 1 rfl) ?_
            refine r_get (C := RX11) (T := TX11) (N := 18) (ci := 9) (v := .ref (ma 0)) S in_X11_save_X11 G 0 rfl rfl 0 (by decide) lk_X11_save_7 rfl dX11_save_70 ?_
            refine lv_iconst (v := 4) zx zb dX11_save_73 (by decide) ?_
            refine r_iald (v := (nI c_12)) S G 1 rfl (k_vp (by decide)) hI_f55_1.1.2.2.2.2 dX11_save_74 ?_
            refine r_imul (v := (nI (31 * c_12))) S (pk_mul 31 c_12) dX11_save_75 ?_
            refine r_iadd (v := (nI (123 + (31 * c_12)))) S (nI_add 123 (31 * c_12)) dX11_save_76 ?_
            refine lv_iload_n zx zb dX11_save_77 rfl (lv_at hl 0 rfl) ?_
            refine r_iadd (v := (nI ((123 + (31 * c_12)) + k55))) S (nI_add (123 + (31 * c_12)) k55) dX11_save_78 ?_
            refine lv_aload_n zx zb dX11_save_79 rfl (lv_at hl 1 rfl) ?_
            refine r_get (C := RX11) (T := TX11) (N := 18) (ci := 9) (v := .ref (ma 0)) S in_X11_save_X11 G 0 rfl rfl 0 (by decide) lk_X11_save_7 rfl dX11_save_80 ?_
            refine lv_iconst (v := 5) zx zb dX11_save_83 (by decide) ?_
            refine lv_iload_n zx zb dX11_save_84 rfl (lv_at hl 0 rfl) ?_
            refine r_iadd (v := (nI (5 + k55))) S (nI_add 5 k55) dX11_save_85 ?_
            refine r_iald S G 1 rfl (vp_in_nI (by omega) (by decide)) rfl dX11_save_86 ?_
            refine k_itE (fun y_18 => ?_)
            refine r_iast S G 1 rfl (vp_in_nI (by omega) (by decide)) dX11_save_87 (fun H locs G => ?_)
            obtain ⟨f_19, hI_f_19, hE_f_19, G⟩ : ∃ f_19 : Nat → Int32, InA f_19 c0 c1 c2 c3 c_12 ∧ f_19 = upd f55_1 (nI ((123 + (31 * c_12)) + k55)).toNatClampNeg y_18 ∧ wd X (va_A (@HAppend.hAppend va_W va_W va_W _ (mW m0 ma la lb n t v) ([((ma 0), .inl (X.2.1, 371, .inl fa))])) sz) (va_A (@HAppend.hAppend va_W va_W va_W _ (mW m0 ma la lb n t v) ([((ma 0), .inl (X.2.1, 371, .inl fa))])) sz) s (@HAppend.hAppend va_W va_W va_W _ (mW m0 ma la lb n t v) ([((ma 0), .inl (X.2.1, 371, .inl f_19))])) H locs := ⟨_, InA_o hI_f55_1 (by rw [nI_clamp (by omega)]; omega), rfl, G⟩
            refine lv_iinc (v := (nI (k55 + 1))) (lv' := [(1, .int (nI (k55 + 1))), (0, .ref m0)]) zx zb dX11_save_88 hl (k := 0) rfl (nI_add k55 1) (by decide) rfl (fun ls hl => ?_)
            refine lv_goto (tgt := 55) zx zb dX11_save_91 (by decide) ?_
            exact ih55 (k55 + 1) f_19 _ _ _ (by omega) hI_f_19 (by omega) G hl
      · have fc_10 := j_nle (a := 217) (b := k13) (by omega) (by omega) c_10
        refine lv_aload_n zx zb dX11_save_20 rfl (lv_at hl 1 rfl) ?_
        refine r_get (C := RX11) (T := TX11) (N := 18) (ci := 9) (v := .ref (ma 0)) S in_X11_save_X11 G 0 rfl rfl 0 (by decide) lk_X11_save_7 rfl dX11_save_21 ?_
        refine lv_bipush (v := 123) zx zb dX11_save_24 (by decide) ?_
        refine lv_iload_n zx zb dX11_save_26 rfl (lv_at hl 0 rfl) ?_
        refine r_iadd (v := (nI (123 + k13))) S (nI_add 123 k13) dX11_save_27 ?_
        refine lv_aload_n zx zb dX11_save_28 rfl (lv_at hl 1 rfl) ?_
        refine r_get (C := RX11) (T := TX11) (N := 18) (ci := 9) (v := .ref (ma 0)) S in_X11_save_X11 G 0 rfl rfl 0 (by decide) lk_X11_save_7 rfl dX11_save_29 ?_
        refine lv_sipush (v := 154) zx zb dX11_save_32 (by decide) ?_
        refine lv_iload_n zx zb dX11_save_35 rfl (lv_at hl 0 rfl) ?_
        refine r_iadd (v := (nI (154 + k13))) S (nI_add 154 k13) dX11_save_36 ?_
        refine r_iald S G 1 rfl (vp_in_nI (by omega) (by decide)) rfl dX11_save_37 ?_
        refine k_itE (fun y_20 => ?_)
        refine r_iast S G 1 rfl (vp_in_nI (by omega) (by decide)) dX11_save_38 (fun H locs G => ?_)
        obtain ⟨f_21, hI_f_21, hE_f_21, G⟩ : ∃ f_21 : Nat → Int32, InA f_21 c0 c1 c2 c3 c4 ∧ f_21 = upd f13_1 (nI (123 + k13)).toNatClampNeg y_20 ∧ wd X (va_A (@HAppend.hAppend va_W va_W va_W _ (mW m0 ma la lb n t v) ([((ma 0), .inl (X.2.1, 371, .inl fa))])) sz) (va_A (@HAppend.hAppend va_W va_W va_W _ (mW m0 ma la lb n t v) ([((ma 0), .inl (X.2.1, 371, .inl fa))])) sz) s (@HAppend.hAppend va_W va_W va_W _ (mW m0 ma la lb n t v) ([((ma 0), .inl (X.2.1, 371, .inl f_21))])) H locs := ⟨_, InA_o hI_f13_1 (by rw [nI_clamp (by omega)]; omega), rfl, G⟩
        refine lv_iinc (v := (nI (k13 + 1))) (lv' := [(1, .int (nI (k13 + 1))), (0, .ref m0)]) zx zb dX11_save_39 hl (k := 0) rfl (nI_add k13 1) (by decide) rfl (fun ls hl => ?_)
        refine lv_goto (tgt := 13) zx zb dX11_save_42 (by decide) ?_
        exact ih13 (k13 + 1) f_21 _ _ _ (by omega) hI_f_21 (by omega) G hl
theorem mm_X11_ticks_c66 : Cond.constantLong RX11 66 (60) ∈ wsX11_ticks := by decide +kernel
theorem hdV_X11_save : yX11_save.cls = RX11 ∧ yX11_save.cls ≠ "java/lang/invoke/MethodHandle" ∧ yX11_save.cls ≠ "java/lang/invoke/VarHandle" ∧ (parseMethodDescriptor yX11_save.desc).map (fun d => d.parameters.length) = some 0 := by decide +kernel
theorem in_X11_ticks_X11 : ∀ w ∈ wsX110, w ∈ wsX11_ticks := by decide +kernel
theorem lk_X11_ticks_7 : Cond.fieldLink RX11 7 "EggSpoonsModel" "all" "[I" ∈ wsX11_ticks := by decide +kernel
theorem hdS_X11_goTicks : yX11_goTicks.cls ≠ "java/lang/invoke/MethodHandle" ∧ yX11_goTicks.cls ≠ "java/lang/invoke/VarHandle" ∧ (parseMethodDescriptor yX11_goTicks.desc).map (fun d => d.parameters.length) = some 2 := by decide +kernel
theorem hdS_X11_manyHome : yX11_manyHome.cls ≠ "java/lang/invoke/MethodHandle" ∧ yX11_manyHome.cls ≠ "java/lang/invoke/VarHandle" ∧ (parseMethodDescriptor yX11_manyHome.desc).map (fun d => d.parameters.length) = some 1 := by decide +kernel
set_option maxHeartbeats 4000000 in
set_option maxRecDepth 100000 in
/-- ticks -/
theorem m_ticks (l : Launch) (X : EX) (m0 : Nat) (ma : Nat → Nat) (la : Int64) (lb : Int64) (n : Nat) (t : Nat → Nat) (v : Nat → Int32) (fa : Nat → Int32) (c0 : Nat) (c1 : Nat) (c2 : Nat) (c3 : Nat) (c4 : Nat) (fr : Nat → Int32) (x1 : Int32) (hI_n : n ≤ 150) (hI_t : InT t) (hI_fa : InA fa c0 c1 c2 c3 c4) (sz : Nat) : Met l yX11_ticks wsX11_ticks ({ frames := 5, cells := 0, slots := 0, locals := 115 } : Room) (pE X [.ref m0, .int x1] (@HAppend.hAppend va_W va_W va_W _ (mW m0 ma la lb n t v) (@HAppend.hAppend va_W va_W va_W _ ([((ma 0), .inl (X.2.1, 371, .inl fa))]) ([((ma 3), .inl (X.2.1, 3, .inl fr))]))) sz) (qI (fun (r : Int32) (u : (Nat → Int32) × (Nat) × (Nat → Int32)) => InA u.1 c0 c1 c2 c3 u.2.1 ∧ (True)) X (fun (u : (Nat → Int32) × (Nat) × (Nat → Int32)) => @HAppend.hAppend va_W va_W va_W _ (mW m0 ma la lb n t v) (@HAppend.hAppend va_W va_W va_W _ ([((ma 0), .inl (X.2.1, 371, .inl u.1))]) ([((ma 3), .inl (X.2.1, 3, .inl u.2.2))]))) (@HAppend.hAppend va_W va_W va_W _ (mW m0 ma la lb n t v) (@HAppend.hAppend va_W va_W va_W _ ([((ma 0), .inl (X.2.1, 371, .inl fa))]) ([((ma 3), .inl (X.2.1, 3, .inl fr))]))) sz) 0 0 (va_A (@HAppend.hAppend va_W va_W va_W _ (mW m0 ma la lb n t v) (@HAppend.hAppend va_W va_W va_W _ ([((ma 0), .inl (X.2.1, 371, .inl fa))]) ([((ma 3), .inl (X.2.1, 3, .inl fr))]))) sz) := by
  refine mk_met (B := (va_A (@HAppend.hAppend va_W va_W va_W _ (mW m0 ma la lb n t v) (@HAppend.hAppend va_W va_W va_W _ ([((ma 0), .inl (X.2.1, 371, .inl fa))]) ([((ma 3), .inl (X.2.1, 3, .inl fr))]))) sz)) (A := (va_A (@HAppend.hAppend va_W va_W va_W _ (mW m0 ma la lb n t v) (@HAppend.hAppend va_W va_W va_W _ ([((ma 0), .inl (X.2.1, 371, .inl fa))]) ([((ma 3), .inl (X.2.1, 3, .inl fr))]))) sz)) (cc := cX11_ticks) (maxL := 2) (ret := (some .int)) (by decide) rfl (Nat.le_of_ble_eq_true rfl) k_w k_a (fun p e s m below meth c S zr zlk znm zsz G ls hl => ?_)
  have S : CallFix p m c cX11_ticks 2 s _ wsX11_ticks RX11 := S
  have zx := S.1
  have zb := S.2.1
  have hl : lv_has ls 2 [(0, .ref m0), (1, .int x1)] := hl
  have hO_t := hI_t
  obtain ⟨ht0_t, ht1_t⟩ := hO_t
  have hO_fa := hI_fa.2
  obtain ⟨hm0_fa, hm1_fa, hm2_fa, hm3_fa, hm4_fa⟩ := hO_fa
  refine lv_iload_n zx zb dX11_ticks_0 rfl (lv_at hl 1 rfl) ?_
  refine lv_i2l (v := (Int32.toInt64 x1)) zx zb dX11_ticks_1 rfl ?_
  refine lv_lconst (v := (Int32.toInt64 1)) zx zb dX11_ticks_2 (by decide) ?_
  refine lv_ldc2 zx zb S.2.2.2.1 (S.2.2.2.2 _ mm_X11_ticks_c66) dX11_ticks_3 ?_
  refine k_ld (v := (Int32.toInt64 60)) (by decide) ?_
  refine o_ri (cells' := 0) (slots' := 0) G rfl rfl (n_S (As := [.long (Int32.toInt64 x1), .long (Int32.toInt64 1), .long (Int32.toInt64 60)]) (rest := []) S G (m_in l X x1 1 60 s.heap.size) gX11_ticks_X11_in rfl rfl rfl hdS_X11_in ⟨Nat.le_of_ble_eq_true rfl, Nat.le_of_ble_eq_true rfl⟩ [] rfl rfl rfl hl.1 (Nat.le_of_ble_eq_true rfl) dX11_ticks_6 ⟨Nat.le_of_ble_eq_true rfl, Nat.le_of_ble_eq_true rfl⟩) (fun r_1 u_1 H locs hp_1 G => ?_)
  have G : wd X (va_A (@HAppend.hAppend va_W va_W va_W _ (mW m0 ma la lb n t v) (@HAppend.hAppend va_W va_W va_W _ ([((ma 0), .inl (X.2.1, 371, .inl fa))]) ([((ma 3), .inl (X.2.1, 3, .inl fr))]))) sz) (va_A (@HAppend.hAppend va_W va_W va_W _ (mW m0 ma la lb n t v) (@HAppend.hAppend va_W va_W va_W _ ([((ma 0), .inl (X.2.1, 371, .inl fa))]) ([((ma 3), .inl (X.2.1, 3, .inl fr))]))) sz) s (@HAppend.hAppend va_W va_W va_W _ (mW m0 ma la lb n t v) (@HAppend.hAppend va_W va_W va_W _ ([((ma 0), .inl (X.2.1, 371, .inl fa))]) ([((ma 3), .inl (X.2.1, 3, .inl fr))]))) H locs := G
  rcases hp_1 with ⟨rfl, hw_1⟩ | ⟨rfl, hw_1⟩
  · obtain ⟨j_1, ⟨ja_1, jb_1⟩, rfl⟩ := k_natR (a := 1) (b := 60) hw_1 rfl rfl (by decide) (by decide)
    refine lv_if_ne (tgt := 19) zx zb dX11_ticks_9 (by decide) (fun c_2 => ?_) (fun c_2 => absurd c_2 (by decide))
    refine lv_aload_n zx zb dX11_ticks_19 rfl (lv_at hl 0 rfl) ?_
    refine b_wv (cells' := 0) (slots' := 0) (wr := [((ma 3), .inl (X.2.1, 3, .inl fr))]) G rfl rfl [0, 1] [2] rfl rfl rfl rfl (n_V (As := []) (rest := []) (C := RX11) (T := TX11) (N := 18) (ci := 9) S G (m_save l X m0 ma la lb n t v fa c0 c1 c2 c3 c4 hI_n hI_t hI_fa H.size) gX11_ticks_X11_save rfl rfl rfl hdV_X11_save ⟨Nat.le_of_ble_eq_true rfl, Nat.le_of_ble_eq_true rfl⟩ [0, 1] rfl rfl 0 rfl rfl rfl hl.1 (Nat.le_of_ble_eq_true rfl) dX11_ticks_20 ⟨Nat.le_of_ble_eq_true rfl, Nat.le_of_ble_eq_true rfl⟩) (fun u_3 H locs hp_3 G => ?_)
    obtain ⟨f_3a, c4_3b⟩ := u_3
    try dsimp only at hp_3
    obtain ⟨hI_f_3a, hq_3⟩ := hp_3
    have hO_f_3a := hI_f_3a.2
    obtain ⟨hm0_f_3a, hm1_f_3a, hm2_f_3a, hm3_f_3a, hm4_f_3a⟩ := hO_f_3a
    have G : wd X (va_A (@HAppend.hAppend va_W va_W va_W _ (mW m0 ma la lb n t v) (@HAppend.hAppend va_W va_W va_W _ ([((ma 0), .inl (X.2.1, 371, .inl fa))]) ([((ma 3), .inl (X.2.1, 3, .inl fr))]))) sz) (va_A (@HAppend.hAppend va_W va_W va_W _ (mW m0 ma la lb n t v) (@HAppend.hAppend va_W va_W va_W _ ([((ma 0), .inl (X.2.1, 371, .inl fa))]) ([((ma 3), .inl (X.2.1, 3, .inl fr))]))) sz) s (@HAppend.hAppend va_W va_W va_W _ ([((ma 3), .inl (X.2.1, 3, .inl fr))]) (@HAppend.hAppend va_W va_W va_W _ (mW m0 ma la lb n t v) ([((ma 0), .inl (X.2.1, 371, .inl f_3a))]))) H locs := G
    refine lv_aload_n zx zb dX11_ticks_23 rfl (lv_at hl 0 rfl) ?_
    refine r_get (C := RX11) (T := TX11) (N := 18) (ci := 9) (v := .ref (ma 0)) S in_X11_ticks_X11 G 1 rfl rfl 0 (by decide) lk_X11_ticks_7 rfl dX11_ticks_24 ?_
    refine lv_iload_n zx zb dX11_ticks_27 rfl (lv_at hl 1 rfl) ?_
    refine b_wv (cells' := 0) (slots' := 0) (wr := @HAppend.hAppend va_W va_W va_W _ ([((ma 3), .inl (X.2.1, 3, .inl fr))]) (mW m0 ma la lb n t v)) G rfl rfl [2] [0, 1] rfl rfl rfl rfl (n_S (As := [.ref (ma 0), .int (nI j_1)]) (rest := []) S G (m_goTicks l X (ma 0) 371 f_3a c0 c1 c2 c3 c4_3b j_1 hI_f_3a (by omega) (by omega) (by omega) H.size) gX11_ticks_X11_goTicks rfl rfl rfl hdS_X11_goTicks ⟨Nat.le_of_ble_eq_true rfl, Nat.le_of_ble_eq_true rfl⟩ [2] rfl rfl rfl hl.1 (Nat.le_of_ble_eq_true rfl) dX11_ticks_28 ⟨Nat.le_of_ble_eq_true rfl, Nat.le_of_ble_eq_true rfl⟩) (fun u_4 H locs hp_4 G => ?_)
    obtain ⟨f_4, rfl⟩ : ∃ z, z = u_4 := ⟨_, rfl⟩
    obtain ⟨hI_f_4, hq_4⟩ := hp_4
    have G : wd X (va_A (@HAppend.hAppend va_W va_W va_W _ (mW m0 ma la lb n t v) (@HAppend.hAppend va_W va_W va_W _ ([((ma 0), .inl (X.2.1, 371, .inl fa))]) ([((ma 3), .inl (X.2.1, 3, .inl fr))]))) sz) (va_A (@HAppend.hAppend va_W va_W va_W _ (mW m0 ma la lb n t v) (@HAppend.hAppend va_W va_W va_W _ ([((ma 0), .inl (X.2.1, 371, .inl fa))]) ([((ma 3), .inl (X.2.1, 3, .inl fr))]))) sz) s (@HAppend.hAppend va_W va_W va_W _ ([((ma 3), .inl (X.2.1, 3, .inl fr))]) (@HAppend.hAppend va_W va_W va_W _ (mW m0 ma la lb n t v) ([((ma 0), .inl (X.2.1, 371, .inl f_4))]))) H locs := G
    refine lv_aload_n zx zb dX11_ticks_31 rfl (lv_at hl 0 rfl) ?_
    refine r_get (C := RX11) (T := TX11) (N := 18) (ci := 9) (v := .ref (ma 0)) S in_X11_ticks_X11 G 1 rfl rfl 0 (by decide) lk_X11_ticks_7 rfl dX11_ticks_32 ?_
    refine o_ri (cells' := 0) (slots' := 0) G rfl rfl (n_S (As := [.ref (ma 0)]) (rest := []) S G (m_manyHome l X (ma 0) 371 f_4 c0 c1 c2 c3 c4_3b hI_f_4 (by omega) (by omega) H.size) gX11_ticks_X11_manyHome rfl rfl rfl hdS_X11_manyHome ⟨Nat.le_of_ble_eq_true rfl, Nat.le_of_ble_eq_true rfl⟩ [2] rfl rfl rfl hl.1 (Nat.le_of_ble_eq_true rfl) dX11_ticks_35 ⟨Nat.le_of_ble_eq_true rfl, Nat.le_of_ble_eq_true rfl⟩) (fun r_5 u_5 H locs hp_5 G => ?_)
    have G : wd X (va_A (@HAppend.hAppend va_W va_W va_W _ (mW m0 ma la lb n t v) (@HAppend.hAppend va_W va_W va_W _ ([((ma 0), .inl (X.2.1, 371, .inl fa))]) ([((ma 3), .inl (X.2.1, 3, .inl fr))]))) sz) (va_A (@HAppend.hAppend va_W va_W va_W _ (mW m0 ma la lb n t v) (@HAppend.hAppend va_W va_W va_W _ ([((ma 0), .inl (X.2.1, 371, .inl fa))]) ([((ma 3), .inl (X.2.1, 3, .inl fr))]))) sz) s (@HAppend.hAppend va_W va_W va_W _ ([((ma 3), .inl (X.2.1, 3, .inl fr))]) (@HAppend.hAppend va_W va_W va_W _ (mW m0 ma la lb n t v) ([((ma 0), .inl (X.2.1, 371, .inl f_4))]))) H locs := G
    exact e_int S zr zlk (vp_nar_int _) G (f_4, c4_3b, fr) [1, 2, 0] rfl rfl (Or.inr rfl) (⟨hI_f_4, trivial⟩) dX11_ticks_38
  · refine lv_if_ne (tgt := 19) zx zb dX11_ticks_9 (by decide) (fun c_6 => absurd (by decide) c_6) (fun c_6 => ?_)
    refine lv_aload_n zx zb dX11_ticks_12 rfl (lv_at hl 0 rfl) ?_
    refine lv_bipush (v := (-2)) zx zb dX11_ticks_13 (by decide) ?_
    refine b_wi (cells' := 0) (slots' := 0) (wr := [((ma 0), .inl (X.2.1, 371, .inl fa))]) G rfl rfl [0, 2] [1] rfl rfl rfl rfl (n_V (As := [.int (-2)]) (rest := []) (C := RX11) (T := TX11) (N := 18) (ci := 9) S G (m_bad l X m0 ma la lb n t v fr (-2) hI_n hI_t H.size) gX11_ticks_X11_bad rfl rfl rfl hdV_X11_bad ⟨Nat.le_of_ble_eq_true rfl, Nat.le_of_ble_eq_true rfl⟩ [0, 2] rfl rfl 0 rfl rfl rfl hl.1 (Nat.le_of_ble_eq_true rfl) dX11_ticks_15 ⟨Nat.le_of_ble_eq_true rfl, Nat.le_of_ble_eq_true rfl⟩) (fun r_7 u_7 H locs hp_7 G => ?_)
    obtain ⟨f_7, rfl⟩ : ∃ z, z = u_7 := ⟨_, rfl⟩
    have hq_7 := hp_7
    have G : wd X (va_A (@HAppend.hAppend va_W va_W va_W _ (mW m0 ma la lb n t v) (@HAppend.hAppend va_W va_W va_W _ ([((ma 0), .inl (X.2.1, 371, .inl fa))]) ([((ma 3), .inl (X.2.1, 3, .inl fr))]))) sz) (va_A (@HAppend.hAppend va_W va_W va_W _ (mW m0 ma la lb n t v) (@HAppend.hAppend va_W va_W va_W _ ([((ma 0), .inl (X.2.1, 371, .inl fa))]) ([((ma 3), .inl (X.2.1, 3, .inl fr))]))) sz) s (@HAppend.hAppend va_W va_W va_W _ ([((ma 0), .inl (X.2.1, 371, .inl fa))]) (@HAppend.hAppend va_W va_W va_W _ (mW m0 ma la lb n t v) ([((ma 3), .inl (X.2.1, 3, .inl f_7))]))) H locs := G
    obtain rfl := hq_7
    exact e_int S zr zlk (vp_nar_int _) G (fa, c4, f_7) [1, 0, 2] rfl rfl (Or.inr rfl) (⟨hI_fa, trivial⟩) dX11_ticks_18
theorem hdV_X11_isOne : yX11_isOne.cls = RX11 ∧ yX11_isOne.cls ≠ "java/lang/invoke/MethodHandle" ∧ yX11_isOne.cls ≠ "java/lang/invoke/VarHandle" ∧ (parseMethodDescriptor yX11_isOne.desc).map (fun d => d.parameters.length) = some 1 := by decide +kernel
theorem hdS_X11_isSpeed : yX11_isSpeed.cls ≠ "java/lang/invoke/MethodHandle" ∧ yX11_isSpeed.cls ≠ "java/lang/invoke/VarHandle" ∧ (parseMethodDescriptor yX11_isSpeed.desc).map (fun d => d.parameters.length) = some 1 := by decide +kernel
theorem in_X11_speed_X11 : ∀ w ∈ wsX110, w ∈ wsX11_speed := by decide +kernel
theorem lk_X11_speed_7 : Cond.fieldLink RX11 7 "EggSpoonsModel" "all" "[I" ∈ wsX11_speed := by decide +kernel
theorem hdV_X11_no : yX11_no.cls = RX11 ∧ yX11_no.cls ≠ "java/lang/invoke/MethodHandle" ∧ yX11_no.cls ≠ "java/lang/invoke/VarHandle" ∧ (parseMethodDescriptor yX11_no.desc).map (fun d => d.parameters.length) = some 0 := by decide +kernel
set_option maxHeartbeats 4000000 in
set_option maxRecDepth 100000 in
/-- speed -/
theorem m_speed (l : Launch) (X : EX) (m0 : Nat) (ma : Nat → Nat) (la : Int64) (lb : Int64) (n : Nat) (t : Nat → Nat) (v : Nat → Int32) (fa : Nat → Int32) (c0 : Nat) (c1 : Nat) (c2 : Nat) (c3 : Nat) (c4 : Nat) (fr : Nat → Int32) (x1 : Int32) (x2 : Int32) (hI_n : n ≤ 150) (hI_t : InT t) (hI_fa : InA fa c0 c1 c2 c3 c4) (sz : Nat) : Met l yX11_speed wsX11_speed ({ frames := 2, cells := 0, slots := 0, locals := 46 } : Room) (pE X [.ref m0, .int x1, .int x2] (@HAppend.hAppend va_W va_W va_W _ (mW m0 ma la lb n t v) (@HAppend.hAppend va_W va_W va_W _ ([((ma 0), .inl (X.2.1, 371, .inl fa))]) ([((ma 3), .inl (X.2.1, 3, .inl fr))]))) sz) (qI (fun (r : Int32) (u : (Nat → Int32) × (Nat) × (Nat → Int32)) => InA u.1 c0 c1 c2 c3 u.2.1 ∧ (True)) X (fun (u : (Nat → Int32) × (Nat) × (Nat → Int32)) => @HAppend.hAppend va_W va_W va_W _ (mW m0 ma la lb n t v) (@HAppend.hAppend va_W va_W va_W _ ([((ma 0), .inl (X.2.1, 371, .inl u.1))]) ([((ma 3), .inl (X.2.1, 3, .inl u.2.2))]))) (@HAppend.hAppend va_W va_W va_W _ (mW m0 ma la lb n t v) (@HAppend.hAppend va_W va_W va_W _ ([((ma 0), .inl (X.2.1, 371, .inl fa))]) ([((ma 3), .inl (X.2.1, 3, .inl fr))]))) sz) 0 0 (va_A (@HAppend.hAppend va_W va_W va_W _ (mW m0 ma la lb n t v) (@HAppend.hAppend va_W va_W va_W _ ([((ma 0), .inl (X.2.1, 371, .inl fa))]) ([((ma 3), .inl (X.2.1, 3, .inl fr))]))) sz) := by
  refine mk_met (B := (va_A (@HAppend.hAppend va_W va_W va_W _ (mW m0 ma la lb n t v) (@HAppend.hAppend va_W va_W va_W _ ([((ma 0), .inl (X.2.1, 371, .inl fa))]) ([((ma 3), .inl (X.2.1, 3, .inl fr))]))) sz)) (A := (va_A (@HAppend.hAppend va_W va_W va_W _ (mW m0 ma la lb n t v) (@HAppend.hAppend va_W va_W va_W _ ([((ma 0), .inl (X.2.1, 371, .inl fa))]) ([((ma 3), .inl (X.2.1, 3, .inl fr))]))) sz)) (cc := cX11_speed) (maxL := 4) (ret := (some .int)) (by decide) rfl (Nat.le_of_ble_eq_true rfl) k_w k_a (fun p e s m below meth c S zr zlk znm zsz G ls hl => ?_)
  have S : CallFix p m c cX11_speed 4 s _ wsX11_speed RX11 := S
  have zx := S.1
  have zb := S.2.1
  have hl : lv_has ls 4 [(0, .ref m0), (1, .int x1), (2, .int x2)] := hl
  have hO_t := hI_t
  obtain ⟨ht0_t, ht1_t⟩ := hO_t
  have hO_fa := hI_fa.2
  obtain ⟨hm0_fa, hm1_fa, hm2_fa, hm3_fa, hm4_fa⟩ := hO_fa
  refine lv_aload_n zx zb dX11_speed_0 rfl (lv_at hl 0 rfl) ?_
  refine lv_iload_n zx zb dX11_speed_1 rfl (lv_at hl 1 rfl) ?_
  refine o_ri (cells' := 0) (slots' := 0) G rfl rfl (n_V (As := [.int x1]) (rest := []) (C := RX11) (T := TX11) (N := 18) (ci := 9) S G (m_isOne l X m0 ma la lb n t v fa c0 c1 c2 c3 c4 x1 hI_n hI_t hI_fa s.heap.size) gX11_speed_X11_isOne rfl rfl rfl hdV_X11_isOne ⟨Nat.le_of_ble_eq_true rfl, Nat.le_of_ble_eq_true rfl⟩ [0, 1] rfl rfl 0 rfl rfl rfl hl.1 (Nat.le_of_ble_eq_true rfl) dX11_speed_2 ⟨Nat.le_of_ble_eq_true rfl, Nat.le_of_ble_eq_true rfl⟩) (fun r_1 u_1 H locs hp_1 G => ?_)
  have G : wd X (va_A (@HAppend.hAppend va_W va_W va_W _ (mW m0 ma la lb n t v) (@HAppend.hAppend va_W va_W va_W _ ([((ma 0), .inl (X.2.1, 371, .inl fa))]) ([((ma 3), .inl (X.2.1, 3, .inl fr))]))) sz) (va_A (@HAppend.hAppend va_W va_W va_W _ (mW m0 ma la lb n t v) (@HAppend.hAppend va_W va_W va_W _ ([((ma 0), .inl (X.2.1, 371, .inl fa))]) ([((ma 3), .inl (X.2.1, 3, .inl fr))]))) sz) s (@HAppend.hAppend va_W va_W va_W _ (mW m0 ma la lb n t v) (@HAppend.hAppend va_W va_W va_W _ ([((ma 0), .inl (X.2.1, 371, .inl fa))]) ([((ma 3), .inl (X.2.1, 3, .inl fr))]))) H locs := G
  rcases hp_1 with ⟨rfl, hj_1⟩ | ⟨rfl, hj_1⟩
  · obtain ⟨j_1, hj_1, rfl⟩ := hj_1
    refine lv_if_eq (tgt := 15) zx zb dX11_speed_5 (by decide) (fun c_2 => absurd c_2 (by decide)) (fun c_2 => ?_)
    refine lv_iload_n zx zb dX11_speed_8 rfl (lv_at hl 2 rfl) ?_
    refine o_ri (cells' := 0) (slots' := 0) G rfl rfl (n_S (As := [.int x2]) (rest := []) S G (m_isSpeed l X x2 H.size) gX11_speed_X11_isSpeed rfl rfl rfl hdS_X11_isSpeed ⟨Nat.le_of_ble_eq_true rfl, Nat.le_of_ble_eq_true rfl⟩ [] rfl rfl rfl hl.1 (Nat.le_of_ble_eq_true rfl) dX11_speed_9 ⟨Nat.le_of_ble_eq_true rfl, Nat.le_of_ble_eq_true rfl⟩) (fun r_3 u_3 H locs hp_3 G => ?_)
    have G : wd X (va_A (@HAppend.hAppend va_W va_W va_W _ (mW m0 ma la lb n t v) (@HAppend.hAppend va_W va_W va_W _ ([((ma 0), .inl (X.2.1, 371, .inl fa))]) ([((ma 3), .inl (X.2.1, 3, .inl fr))]))) sz) (va_A (@HAppend.hAppend va_W va_W va_W _ (mW m0 ma la lb n t v) (@HAppend.hAppend va_W va_W va_W _ ([((ma 0), .inl (X.2.1, 371, .inl fa))]) ([((ma 3), .inl (X.2.1, 3, .inl fr))]))) sz) s (@HAppend.hAppend va_W va_W va_W _ (mW m0 ma la lb n t v) (@HAppend.hAppend va_W va_W va_W _ ([((ma 0), .inl (X.2.1, 371, .inl fa))]) ([((ma 3), .inl (X.2.1, 3, .inl fr))]))) H locs := G
    rcases hp_3 with ⟨rfl, hw_3⟩ | ⟨rfl, hw_3⟩
    · obtain ⟨j_3, ⟨ja_3, jb_3⟩, rfl⟩ := k_natR (a := 0) (b := 9) hw_3 rfl rfl (by decide) (by decide)
      refine lv_if_ne (tgt := 22) zx zb dX11_speed_12 (by decide) (fun c_4 => ?_) (fun c_4 => absurd c_4 (by decide))
      refine lv_aload_n zx zb dX11_speed_22 rfl (lv_at hl 0 rfl) ?_
      refine r_get (C := RX11) (T := TX11) (N := 18) (ci := 9) (v := .ref (ma 0)) S in_X11_speed_X11 G 0 rfl rfl 0 (by decide) lk_X11_speed_7 rfl dX11_speed_23 ?_
      refine lv_bipush (v := 11) zx zb dX11_speed_26 (by decide) ?_
      refine lv_iload_n zx zb dX11_speed_28 rfl (lv_at hl 1 rfl) ?_
      refine r_iadd (v := (nI (11 + j_1))) S (nI_add 11 j_1) dX11_speed_29 ?_
      refine r_iald S G 1 rfl (vp_in_nI (by omega) (by decide)) rfl dX11_speed_30 ?_
      refine k_itE (fun y_5 => ?_)
      refine lv_istore_n (lv' := [(3, .int y_5), (0, .ref m0), (1, .int (nI j_1)), (2, .int (nI j_3))]) zx zb dX11_speed_31 rfl hl (by decide) rfl (fun ls hl => ?_)
      refine lv_iload_n zx zb dX11_speed_32 rfl (lv_at hl 0 rfl) ?_
      refine lv_iload_n zx zb dX11_speed_33 rfl (lv_at hl 3 rfl) ?_
      refine lv_icmp_eq (tgt := 48) zx zb dX11_speed_34 (by decide) (fun c_6 => ?_) (fun c_6 => ?_)
      · refine lv_aload_n zx zb dX11_speed_48 rfl (lv_at hl 1 rfl) ?_
        refine b_wi (cells' := 0) (slots' := 0) (wr := [((ma 0), .inl (X.2.1, 371, .inl fa))]) G rfl rfl [0, 2] [1] rfl rfl rfl rfl (n_V (As := []) (rest := []) (C := RX11) (T := TX11) (N := 18) (ci := 9) S G (m_no l X m0 ma la lb n t v fr hI_n hI_t H.size) gX11_speed_X11_no rfl rfl rfl hdV_X11_no ⟨Nat.le_of_ble_eq_true rfl, Nat.le_of_ble_eq_true rfl⟩ [0, 2] rfl rfl 0 rfl rfl rfl hl.1 (Nat.le_of_ble_eq_true rfl) dX11_speed_49 ⟨Nat.le_of_ble_eq_true rfl, Nat.le_of_ble_eq_true rfl⟩) (fun r_7 u_7 H locs hp_7 G => ?_)
        obtain ⟨f_7, rfl⟩ : ∃ z, z = u_7 := ⟨_, rfl⟩
        have hq_7 := hp_7
        have G : wd X (va_A (@HAppend.hAppend va_W va_W va_W _ (mW m0 ma la lb n t v) (@HAppend.hAppend va_W va_W va_W _ ([((ma 0), .inl (X.2.1, 371, .inl fa))]) ([((ma 3), .inl (X.2.1, 3, .inl fr))]))) sz) (va_A (@HAppend.hAppend va_W va_W va_W _ (mW m0 ma la lb n t v) (@HAppend.hAppend va_W va_W va_W _ ([((ma 0), .inl (X.2.1, 371, .inl fa))]) ([((ma 3), .inl (X.2.1, 3, .inl fr))]))) sz) s (@HAppend.hAppend va_W va_W va_W _ ([((ma 0), .inl (X.2.1, 371, .inl fa))]) (@HAppend.hAppend va_W va_W va_W _ (mW m0 ma la lb n t v) ([((ma 3), .inl (X.2.1, 3, .inl f_7))]))) H locs := G
        obtain rfl := hq_7
        exact e_int S zr zlk (vp_nar_int _) G (fa, c4, f_7) [1, 0, 2] rfl rfl (Or.inr rfl) (⟨hI_fa, trivial⟩) dX11_speed_52
      · refine lv_aload_n zx zb dX11_speed_37 rfl (lv_at hl 1 rfl) ?_
        refine r_get (C := RX11) (T := TX11) (N := 18) (ci := 9) (v := .ref (ma 0)) S in_X11_speed_X11 G 0 rfl rfl 0 (by decide) lk_X11_speed_7 rfl dX11_speed_38 ?_
        refine lv_iload_n zx zb dX11_speed_41 rfl (lv_at hl 2 rfl) ?_
        refine o_ri (cells' := 0) (slots' := 0) G rfl rfl (n_S (As := [.ref (ma 0), .int (nI j_1)]) (rest := []) S G (m_isHome l X (ma 0) 371 fa c0 c1 c2 c3 c4 j_1 hI_fa (by omega) (by omega) (by omega) H.size) gX11_speed_X11_isHome rfl rfl rfl hdS_X11_isHome ⟨Nat.le_of_ble_eq_true rfl, Nat.le_of_ble_eq_true rfl⟩ [1] rfl rfl rfl hl.1 (Nat.le_of_ble_eq_true rfl) dX11_speed_42 ⟨Nat.le_of_ble_eq_true rfl, Nat.le_of_ble_eq_true rfl⟩) (fun r_8 u_8 H locs hp_8 G => ?_)
        have G : wd X (va_A (@HAppend.hAppend va_W va_W va_W _ (mW m0 ma la lb n t v) (@HAppend.hAppend va_W va_W va_W _ ([((ma 0), .inl (X.2.1, 371, .inl fa))]) ([((ma 3), .inl (X.2.1, 3, .inl fr))]))) sz) (va_A (@HAppend.hAppend va_W va_W va_W _ (mW m0 ma la lb n t v) (@HAppend.hAppend va_W va_W va_W _ ([((ma 0), .inl (X.2.1, 371, .inl fa))]) ([((ma 3), .inl (X.2.1, 3, .inl fr))]))) sz) s (@HAppend.hAppend va_W va_W va_W _ (mW m0 ma la lb n t v) (@HAppend.hAppend va_W va_W va_W _ ([((ma 0), .inl (X.2.1, 371, .inl fa))]) ([((ma 3), .inl (X.2.1, 3, .inl fr))]))) H locs := G
        refine lv_if_eq (tgt := 53) zx zb dX11_speed_45 (by decide) (fun c_9 => ?_) (fun c_9 => ?_)
        · refine lv_aload_n zx zb dX11_speed_53 rfl (lv_at hl 1 rfl) ?_
          refine b_wv (cells' := 0) (slots' := 0) (wr := [((ma 3), .inl (X.2.1, 3, .inl fr))]) G rfl rfl [0, 1] [2] rfl rfl rfl rfl (n_V (As := []) (rest := []) (C := RX11) (T := TX11) (N := 18) (ci := 9) S G (m_save l X m0 ma la lb n t v fa c0 c1 c2 c3 c4 hI_n hI_t hI_fa H.size) gX11_speed_X11_save rfl rfl rfl hdV_X11_save ⟨Nat.le_of_ble_eq_true rfl, Nat.le_of_ble_eq_true rfl⟩ [0, 1] rfl rfl 0 rfl rfl rfl hl.1 (Nat.le_of_ble_eq_true rfl) dX11_speed_54 ⟨Nat.le_of_ble_eq_true rfl, Nat.le_of_ble_eq_true rfl⟩) (fun u_10 H locs hp_10 G => ?_)
          obtain ⟨f_10a, c4_10b⟩ := u_10
          try dsimp only at hp_10
          obtain ⟨hI_f_10a, hq_10⟩ := hp_10
          have hO_f_10a := hI_f_10a.2
          obtain ⟨hm0_f_10a, hm1_f_10a, hm2_f_10a, hm3_f_10a, hm4_f_10a⟩ := hO_f_10a
          have G : wd X (va_A (@HAppend.hAppend va_W va_W va_W _ (mW m0 ma la lb n t v) (@HAppend.hAppend va_W va_W va_W _ ([((ma 0), .inl (X.2.1, 371, .inl fa))]) ([((ma 3), .inl (X.2.1, 3, .inl fr))]))) sz) (va_A (@HAppend.hAppend va_W va_W va_W _ (mW m0 ma la lb n t v) (@HAppend.hAppend va_W va_W va_W _ ([((ma 0), .inl (X.2.1, 371, .inl fa))]) ([((ma 3), .inl (X.2.1, 3, .inl fr))]))) sz) s (@HAppend.hAppend va_W va_W va_W _ ([((ma 3), .inl (X.2.1, 3, .inl fr))]) (@HAppend.hAppend va_W va_W va_W _ (mW m0 ma la lb n t v) ([((ma 0), .inl (X.2.1, 371, .inl f_10a))]))) H locs := G
          refine lv_aload_n zx zb dX11_speed_57 rfl (lv_at hl 1 rfl) ?_
          refine r_get (C := RX11) (T := TX11) (N := 18) (ci := 9) (v := .ref (ma 0)) S in_X11_speed_X11 G 1 rfl rfl 0 (by decide) lk_X11_speed_7 rfl dX11_speed_58 ?_
          refine lv_bipush (v := 11) zx zb dX11_speed_61 (by decide) ?_
          refine lv_iload_n zx zb dX11_speed_63 rfl (lv_at hl 2 rfl) ?_
          refine r_iadd (v := (nI (11 + j_1))) S (nI_add 11 j_1) dX11_speed_64 ?_
          refine lv_iload_n zx zb dX11_speed_65 rfl (lv_at hl 3 rfl) ?_
          refine r_iast S G 2 rfl (vp_in_nI (by omega) (by decide)) dX11_speed_66 (fun H locs G => ?_)
          obtain ⟨f_11, hI_f_11, hE_f_11, G⟩ : ∃ f_11 : Nat → Int32, InA f_11 c0 c1 c2 c3 c4_10b ∧ f_11 = upd f_10a (nI (11 + j_1)).toNatClampNeg (nI j_3) ∧ wd X (va_A (@HAppend.hAppend va_W va_W va_W _ (mW m0 ma la lb n t v) (@HAppend.hAppend va_W va_W va_W _ ([((ma 0), .inl (X.2.1, 371, .inl fa))]) ([((ma 3), .inl (X.2.1, 3, .inl fr))]))) sz) (va_A (@HAppend.hAppend va_W va_W va_W _ (mW m0 ma la lb n t v) (@HAppend.hAppend va_W va_W va_W _ ([((ma 0), .inl (X.2.1, 371, .inl fa))]) ([((ma 3), .inl (X.2.1, 3, .inl fr))]))) sz) s (@HAppend.hAppend va_W va_W va_W _ ([((ma 3), .inl (X.2.1, 3, .inl fr))]) (@HAppend.hAppend va_W va_W va_W _ (mW m0 ma la lb n t v) ([((ma 0), .inl (X.2.1, 371, .inl f_11))]))) H locs := ⟨_, InA_o hI_f_10a (by rw [nI_clamp (by omega)]; omega), rfl, G⟩
          refine lv_iload_n zx zb dX11_speed_67 rfl (lv_at hl 0 rfl) ?_
          exact e_int S zr zlk (vp_nar_int _) G (f_11, c4_10b, fr) [1, 2, 0] rfl rfl (Or.inr rfl) (⟨hI_f_11, trivial⟩) dX11_speed_68
        · refine lv_aload_n zx zb dX11_speed_48 rfl (lv_at hl 1 rfl) ?_
          refine b_wi (cells' := 0) (slots' := 0) (wr := [((ma 0), .inl (X.2.1, 371, .inl fa))]) G rfl rfl [0, 2] [1] rfl rfl rfl rfl (n_V (As := []) (rest := []) (C := RX11) (T := TX11) (N := 18) (ci := 9) S G (m_no l X m0 ma la lb n t v fr hI_n hI_t H.size) gX11_speed_X11_no rfl rfl rfl hdV_X11_no ⟨Nat.le_of_ble_eq_true rfl, Nat.le_of_ble_eq_true rfl⟩ [0, 2] rfl rfl 0 rfl rfl rfl hl.1 (Nat.le_of_ble_eq_true rfl) dX11_speed_49 ⟨Nat.le_of_ble_eq_true rfl, Nat.le_of_ble_eq_true rfl⟩) (fun r_12 u_12 H locs hp_12 G => ?_)
          obtain ⟨f_12, rfl⟩ : ∃ z, z = u_12 := ⟨_, rfl⟩
          have hq_12 := hp_12
          have G : wd X (va_A (@HAppend.hAppend va_W va_W va_W _ (mW m0 ma la lb n t v) (@HAppend.hAppend va_W va_W va_W _ ([((ma 0), .inl (X.2.1, 371, .inl fa))]) ([((ma 3), .inl (X.2.1, 3, .inl fr))]))) sz) (va_A (@HAppend.hAppend va_W va_W va_W _ (mW m0 ma la lb n t v) (@HAppend.hAppend va_W va_W va_W _ ([((ma 0), .inl (X.2.1, 371, .inl fa))]) ([((ma 3), .inl (X.2.1, 3, .inl fr))]))) sz) s (@HAppend.hAppend va_W va_W va_W _ ([((ma 0), .inl (X.2.1, 371, .inl fa))]) (@HAppend.hAppend va_W va_W va_W _ (mW m0 ma la lb n t v) ([((ma 3), .inl (X.2.1, 3, .inl f_12))]))) H locs := G
          obtain rfl := hq_12
          exact e_int S zr zlk (vp_nar_int _) G (fa, c4, f_12) [1, 0, 2] rfl rfl (Or.inr rfl) (⟨hI_fa, trivial⟩) dX11_speed_52
    · refine lv_if_ne (tgt := 22) zx zb dX11_speed_12 (by decide) (fun c_13 => absurd (by decide) c_13) (fun c_13 => ?_)
      refine lv_aload_n zx zb dX11_speed_15 rfl (lv_at hl 0 rfl) ?_
      refine lv_bipush (v := (-2)) zx zb dX11_speed_16 (by decide) ?_
      refine b_wi (cells' := 0) (slots' := 0) (wr := [((ma 0), .inl (X.2.1, 371, .inl fa))]) G rfl rfl [0, 2] [1] rfl rfl rfl rfl (n_V (As := [.int (-2)]) (rest := []) (C := RX11) (T := TX11) (N := 18) (ci := 9) S G (m_bad l X m0 ma la lb n t v fr (-2) hI_n hI_t H.size) gX11_speed_X11_bad rfl rfl rfl hdV_X11_bad ⟨Nat.le_of_ble_eq_true rfl, Nat.le_of_ble_eq_true rfl⟩ [0, 2] rfl rfl 0 rfl rfl rfl hl.1 (Nat.le_of_ble_eq_true rfl) dX11_speed_18 ⟨Nat.le_of_ble_eq_true rfl, Nat.le_of_ble_eq_true rfl⟩) (fun r_14 u_14 H locs hp_14 G => ?_)
      obtain ⟨f_14, rfl⟩ : ∃ z, z = u_14 := ⟨_, rfl⟩
      have hq_14 := hp_14
      have G : wd X (va_A (@HAppend.hAppend va_W va_W va_W _ (mW m0 ma la lb n t v) (@HAppend.hAppend va_W va_W va_W _ ([((ma 0), .inl (X.2.1, 371, .inl fa))]) ([((ma 3), .inl (X.2.1, 3, .inl fr))]))) sz) (va_A (@HAppend.hAppend va_W va_W va_W _ (mW m0 ma la lb n t v) (@HAppend.hAppend va_W va_W va_W _ ([((ma 0), .inl (X.2.1, 371, .inl fa))]) ([((ma 3), .inl (X.2.1, 3, .inl fr))]))) sz) s (@HAppend.hAppend va_W va_W va_W _ ([((ma 0), .inl (X.2.1, 371, .inl fa))]) (@HAppend.hAppend va_W va_W va_W _ (mW m0 ma la lb n t v) ([((ma 3), .inl (X.2.1, 3, .inl f_14))]))) H locs := G
      obtain rfl := hq_14
      exact e_int S zr zlk (vp_nar_int _) G (fa, c4, f_14) [1, 0, 2] rfl rfl (Or.inr rfl) (⟨hI_fa, trivial⟩) dX11_speed_21
  · refine lv_if_eq (tgt := 15) zx zb dX11_speed_5 (by decide) (fun c_15 => ?_) (fun c_15 => absurd (by decide) c_15)
    refine lv_aload_n zx zb dX11_speed_15 rfl (lv_at hl 0 rfl) ?_
    refine lv_bipush (v := (-2)) zx zb dX11_speed_16 (by decide) ?_
    refine b_wi (cells' := 0) (slots' := 0) (wr := [((ma 0), .inl (X.2.1, 371, .inl fa))]) G rfl rfl [0, 2] [1] rfl rfl rfl rfl (n_V (As := [.int (-2)]) (rest := []) (C := RX11) (T := TX11) (N := 18) (ci := 9) S G (m_bad l X m0 ma la lb n t v fr (-2) hI_n hI_t H.size) gX11_speed_X11_bad rfl rfl rfl hdV_X11_bad ⟨Nat.le_of_ble_eq_true rfl, Nat.le_of_ble_eq_true rfl⟩ [0, 2] rfl rfl 0 rfl rfl rfl hl.1 (Nat.le_of_ble_eq_true rfl) dX11_speed_18 ⟨Nat.le_of_ble_eq_true rfl, Nat.le_of_ble_eq_true rfl⟩) (fun r_16 u_16 H locs hp_16 G => ?_)
    obtain ⟨f_16, rfl⟩ : ∃ z, z = u_16 := ⟨_, rfl⟩
    have hq_16 := hp_16
    have G : wd X (va_A (@HAppend.hAppend va_W va_W va_W _ (mW m0 ma la lb n t v) (@HAppend.hAppend va_W va_W va_W _ ([((ma 0), .inl (X.2.1, 371, .inl fa))]) ([((ma 3), .inl (X.2.1, 3, .inl fr))]))) sz) (va_A (@HAppend.hAppend va_W va_W va_W _ (mW m0 ma la lb n t v) (@HAppend.hAppend va_W va_W va_W _ ([((ma 0), .inl (X.2.1, 371, .inl fa))]) ([((ma 3), .inl (X.2.1, 3, .inl fr))]))) sz) s (@HAppend.hAppend va_W va_W va_W _ ([((ma 0), .inl (X.2.1, 371, .inl fa))]) (@HAppend.hAppend va_W va_W va_W _ (mW m0 ma la lb n t v) ([((ma 3), .inl (X.2.1, 3, .inl f_16))]))) H locs := G
    obtain rfl := hq_16
    exact e_int S zr zlk (vp_nar_int _) G (fa, c4, f_16) [1, 0, 2] rfl rfl (Or.inr rfl) (⟨hI_fa, trivial⟩) dX11_speed_21
