set_option maxRecDepth 20000 in
theorem ggX11_is_X11_bad : GoodIn wsX11_is wsX11_bad := goodIn_r _ [24, 25, 26, 27, 28, 29, 30, 31, 32, 33, 34, 35, 36, 37, 38, 39, 40, 41, 42, 43] rfl (by decide +kernel)
set_option maxRecDepth 20000 in
theorem gX11_is_X11_bad : GoodIn wsX11_is (wsV RX11 68 RX11 yX11_bad wsX11_bad) := goodIn_app (goodIn_of _ (by decide +kernel)) ggX11_is_X11_bad
set_option maxRecDepth 20000 in
theorem ggX11_is_X11_isOne : GoodIn wsX11_is wsX11_isOne := goodIn_r _ [5, 6, 7, 8, 4, 9, 10, 11, 12, 13, 26, 27, 28, 29, 30, 31, 32, 33, 34, 35, 36, 37, 38, 39, 40, 41, 42, 43] rfl (by decide +kernel)
set_option maxRecDepth 20000 in
theorem gX11_is_X11_isOne : GoodIn wsX11_is (wsV RX11 123 RX11 yX11_isOne wsX11_isOne) := goodIn_app (goodIn_of _ (by decide +kernel)) ggX11_is_X11_isOne
set_option maxRecDepth 20000 in
theorem ggX11_is_X11_kindsOfOne : GoodIn wsX11_is wsX11_kindsOfOne := goodIn_r _ [17, 10, 18, 19, 4, 20, 26, 27, 28, 29, 30, 31, 32, 33, 34, 35, 36, 37, 38, 39, 40, 41, 42, 43] rfl (by decide +kernel)
set_option maxRecDepth 20000 in
theorem gX11_is_X11_kindsOfOne : GoodIn wsX11_is (wsV RX11 168 RX11 yX11_kindsOfOne wsX11_kindsOfOne) := goodIn_app (goodIn_of _ (by decide +kernel)) ggX11_is_X11_kindsOfOne
set_option maxRecDepth 20000 in
theorem ggX11_kinds_X11_bad : GoodIn wsX11_kinds wsX11_bad := goodIn_r _ [24, 25, 26, 27, 28, 29, 30, 31, 32, 33, 34, 35, 36, 37, 38, 39, 40, 41, 42, 43] rfl (by decide +kernel)
set_option maxRecDepth 20000 in
theorem gX11_kinds_X11_bad : GoodIn wsX11_kinds (wsV RX11 68 RX11 yX11_bad wsX11_bad) := goodIn_app (goodIn_of _ (by decide +kernel)) ggX11_kinds_X11_bad
set_option maxRecDepth 20000 in
theorem ggX11_kinds_X11_isOne : GoodIn wsX11_kinds wsX11_isOne := goodIn_r _ [5, 6, 7, 8, 4, 9, 10, 11, 12, 13, 26, 27, 28, 29, 30, 31, 32, 33, 34, 35, 36, 37, 38, 39, 40, 41, 42, 43] rfl (by decide +kernel)
set_option maxRecDepth 20000 in
theorem gX11_kinds_X11_isOne : GoodIn wsX11_kinds (wsV RX11 123 RX11 yX11_isOne wsX11_isOne) := goodIn_app (goodIn_of _ (by decide +kernel)) ggX11_kinds_X11_isOne
set_option maxRecDepth 20000 in
theorem ggX11_kinds_X11_kindsOfEgg : GoodIn wsX11_kinds wsX11_kindsOfEgg := goodIn_r _ [17, 10, 18, 19, 4, 20, 26, 27, 28, 29, 30, 31, 32, 33, 34, 35, 36, 37, 38, 39, 40, 41, 42, 43] rfl (by decide +kernel)
set_option maxRecDepth 20000 in
theorem gX11_kinds_X11_kindsOfEgg : GoodIn wsX11_kinds (wsV RX11 171 RX11 yX11_kindsOfEgg wsX11_kindsOfEgg) := goodIn_app (goodIn_of _ (by decide +kernel)) ggX11_kinds_X11_kindsOfEgg
set_option maxRecDepth 20000 in
theorem ggX11_mark_X11_bad : GoodIn wsX11_mark wsX11_bad := goodIn_r _ [19, 20, 25, 26, 27, 28, 29, 30, 31, 32, 33, 34, 35, 36, 37, 38, 39, 40, 41, 42] rfl (by decide +kernel)
set_option maxRecDepth 20000 in
theorem gX11_mark_X11_bad : GoodIn wsX11_mark (wsV RX11 68 RX11 yX11_bad wsX11_bad) := goodIn_app (goodIn_of _ (by decide +kernel)) ggX11_mark_X11_bad
set_option maxRecDepth 20000 in
theorem ggX11_mark_X11_full : GoodIn wsX11_mark wsX11_full := goodIn_r _ [24, 20, 25, 26, 27, 28, 29, 30, 31, 32, 33, 34, 35, 36, 37, 38, 39, 40, 41, 42] rfl (by decide +kernel)
set_option maxRecDepth 20000 in
theorem gX11_mark_X11_full : GoodIn wsX11_mark (wsV RX11 79 RX11 yX11_full wsX11_full) := goodIn_app (goodIn_of _ (by decide +kernel)) ggX11_mark_X11_full
set_option maxRecDepth 20000 in
theorem ggX11_mark_X11_in : GoodIn wsX11_mark wsX11_in := goodIn_r _ [15] rfl (by decide +kernel)
set_option maxRecDepth 20000 in
theorem gX11_mark_X11_in : GoodIn wsX11_mark (va_wsS RX11 56 yX11_in wsX11_in) := goodIn_app (goodIn_of _ (by decide +kernel)) ggX11_mark_X11_in
set_option maxRecDepth 20000 in
theorem ggX11_mark_X11_isOne : GoodIn wsX11_mark wsX11_isOne := goodIn_r _ [8, 9, 10, 11, 7, 12, 3, 13, 14, 15, 25, 26, 27, 28, 29, 30, 31, 32, 33, 34, 35, 36, 37, 38, 39, 40, 41, 42] rfl (by decide +kernel)
set_option maxRecDepth 20000 in
theorem gX11_mark_X11_isOne : GoodIn wsX11_mark (wsV RX11 123 RX11 yX11_isOne wsX11_isOne) := goodIn_app (goodIn_of _ (by decide +kernel)) ggX11_mark_X11_isOne
set_option maxRecDepth 20000 in
theorem ggX11_note_X11_bad : GoodIn wsX11_note wsX11_bad := goodIn_r _ [26, 27, 32, 33, 34, 35, 36, 37, 38, 39, 40, 41, 42, 43, 44, 45, 46, 47, 48, 49] rfl (by decide +kernel)
set_option maxRecDepth 20000 in
theorem gX11_note_X11_bad : GoodIn wsX11_note (wsV RX11 68 RX11 yX11_bad wsX11_bad) := goodIn_app (goodIn_of _ (by decide +kernel)) ggX11_note_X11_bad
set_option maxRecDepth 20000 in
theorem ggX11_note_X11_full : GoodIn wsX11_note wsX11_full := goodIn_r _ [31, 27, 32, 33, 34, 35, 36, 37, 38, 39, 40, 41, 42, 43, 44, 45, 46, 47, 48, 49] rfl (by decide +kernel)
set_option maxRecDepth 20000 in
theorem gX11_note_X11_full : GoodIn wsX11_note (wsV RX11 79 RX11 yX11_full wsX11_full) := goodIn_app (goodIn_of _ (by decide +kernel)) ggX11_note_X11_full
set_option maxRecDepth 20000 in
theorem ggX11_note_X11_in : GoodIn wsX11_note wsX11_in := goodIn_r _ [15] rfl (by decide +kernel)
set_option maxRecDepth 20000 in
theorem gX11_note_X11_in : GoodIn wsX11_note (va_wsS RX11 56 yX11_in wsX11_in) := goodIn_app (goodIn_of _ (by decide +kernel)) ggX11_note_X11_in
set_option maxRecDepth 20000 in
theorem ggX11_note_X11_isLegs : GoodIn wsX11_note wsX11_isLegs := goodIn_r _ [18, 19, 13, 14, 7, 15] rfl (by decide +kernel)
set_option maxRecDepth 20000 in
theorem gX11_note_X11_isLegs : GoodIn wsX11_note (va_wsS RX11 76 yX11_isLegs wsX11_isLegs) := goodIn_app (goodIn_of _ (by decide +kernel)) ggX11_note_X11_isLegs
set_option maxRecDepth 20000 in
theorem ggX11_note_X11_isOne : GoodIn wsX11_note wsX11_isOne := goodIn_r _ [8, 9, 10, 11, 7, 12, 3, 13, 14, 15, 32, 33, 34, 35, 36, 37, 38, 39, 40, 41, 42, 43, 44, 45, 46, 47, 48, 49] rfl (by decide +kernel)
set_option maxRecDepth 20000 in
theorem gX11_note_X11_isOne : GoodIn wsX11_note (wsV RX11 123 RX11 yX11_isOne wsX11_isOne) := goodIn_app (goodIn_of _ (by decide +kernel)) ggX11_note_X11_isOne
set_option maxRecDepth 20000 in
theorem ggX11_note_X11_isSpeed : GoodIn wsX11_note wsX11_isSpeed := goodIn_r _ [22, 19, 13, 14, 7, 15] rfl (by decide +kernel)
set_option maxRecDepth 20000 in
theorem gX11_note_X11_isSpeed : GoodIn wsX11_note (va_wsS RX11 126 yX11_isSpeed wsX11_isSpeed) := goodIn_app (goodIn_of _ (by decide +kernel)) ggX11_note_X11_isSpeed
set_option maxRecDepth 20000 in
theorem ggX11_seen_X11_bad : GoodIn wsX11_seen wsX11_bad := goodIn_r _ [23, 24, 29, 30, 31, 32, 33, 34, 35, 36, 37, 38, 39, 40, 41, 42, 43, 44, 45, 46] rfl (by decide +kernel)
set_option maxRecDepth 20000 in
theorem gX11_seen_X11_bad : GoodIn wsX11_seen (wsV RX11 68 RX11 yX11_bad wsX11_bad) := goodIn_app (goodIn_of _ (by decide +kernel)) ggX11_seen_X11_bad
set_option maxRecDepth 20000 in
theorem ggX11_seen_X11_full : GoodIn wsX11_seen wsX11_full := goodIn_r _ [28, 24, 29, 30, 31, 32, 33, 34, 35, 36, 37, 38, 39, 40, 41, 42, 43, 44, 45, 46] rfl (by decide +kernel)
set_option maxRecDepth 20000 in
theorem gX11_seen_X11_full : GoodIn wsX11_seen (wsV RX11 79 RX11 yX11_full wsX11_full) := goodIn_app (goodIn_of _ (by decide +kernel)) ggX11_seen_X11_full
set_option maxRecDepth 20000 in
theorem ggX11_seen_X11_in : GoodIn wsX11_seen wsX11_in := goodIn_r _ [15] rfl (by decide +kernel)
set_option maxRecDepth 20000 in
theorem gX11_seen_X11_in : GoodIn wsX11_seen (va_wsS RX11 56 yX11_in wsX11_in) := goodIn_app (goodIn_of _ (by decide +kernel)) ggX11_seen_X11_in
set_option maxRecDepth 20000 in
theorem ggX11_seen_X11_isOne : GoodIn wsX11_seen wsX11_isOne := goodIn_r _ [8, 9, 10, 11, 7, 12, 3, 13, 14, 15, 29, 30, 31, 32, 33, 34, 35, 36, 37, 38, 39, 40, 41, 42, 43, 44, 45, 46] rfl (by decide +kernel)
set_option maxRecDepth 20000 in
theorem gX11_seen_X11_isOne : GoodIn wsX11_seen (wsV RX11 123 RX11 yX11_isOne wsX11_isOne) := goodIn_app (goodIn_of _ (by decide +kernel)) ggX11_seen_X11_isOne
set_option maxRecDepth 20000 in
theorem ggX11_seen_X11_isSpeed : GoodIn wsX11_seen wsX11_isSpeed := goodIn_r _ [18, 19, 13, 14, 7, 15] rfl (by decide +kernel)
set_option maxRecDepth 20000 in
theorem gX11_seen_X11_isSpeed : GoodIn wsX11_seen (va_wsS RX11 126 yX11_isSpeed wsX11_isSpeed) := goodIn_app (goodIn_of _ (by decide +kernel)) ggX11_seen_X11_isSpeed
set_option maxRecDepth 20000 in
theorem ggX11_speed_X11_bad : GoodIn wsX11_speed wsX11_bad := goodIn_r _ [21, 22, 34, 35, 36, 37, 38, 39, 40, 41, 42, 43, 44, 45, 46, 47, 48, 49, 50, 51] rfl (by decide +kernel)
set_option maxRecDepth 20000 in
theorem gX11_speed_X11_bad : GoodIn wsX11_speed (wsV RX11 68 RX11 yX11_bad wsX11_bad) := goodIn_app (goodIn_of _ (by decide +kernel)) ggX11_speed_X11_bad
set_option maxRecDepth 20000 in
theorem ggX11_speed_X11_isHome : GoodIn wsX11_speed wsX11_isHome := goodIn_r _ [25] rfl (by decide +kernel)
set_option maxRecDepth 20000 in
theorem gX11_speed_X11_isHome : GoodIn wsX11_speed (va_wsS RX11 101 yX11_isHome wsX11_isHome) := goodIn_app (goodIn_of _ (by decide +kernel)) ggX11_speed_X11_isHome
set_option maxRecDepth 20000 in
theorem ggX11_speed_X11_isOne : GoodIn wsX11_speed wsX11_isOne := goodIn_r _ [6, 7, 8, 9, 5, 10, 1, 11, 12, 13, 34, 35, 36, 37, 38, 39, 40, 41, 42, 43, 44, 45, 46, 47, 48, 49, 50, 51] rfl (by decide +kernel)
set_option maxRecDepth 20000 in
theorem gX11_speed_X11_isOne : GoodIn wsX11_speed (wsV RX11 123 RX11 yX11_isOne wsX11_isOne) := goodIn_app (goodIn_of _ (by decide +kernel)) ggX11_speed_X11_isOne
set_option maxRecDepth 20000 in
theorem ggX11_speed_X11_isSpeed : GoodIn wsX11_speed wsX11_isSpeed := goodIn_r _ [16, 17, 11, 12, 5, 13] rfl (by decide +kernel)
set_option maxRecDepth 20000 in
theorem gX11_speed_X11_isSpeed : GoodIn wsX11_speed (va_wsS RX11 126 yX11_isSpeed wsX11_isSpeed) := goodIn_app (goodIn_of _ (by decide +kernel)) ggX11_speed_X11_isSpeed
set_option maxRecDepth 20000 in
theorem ggX11_speed_X11_no : GoodIn wsX11_speed wsX11_no := goodIn_r _ [29, 22, 34, 35, 36, 37, 38, 39, 40, 41, 42, 43, 44, 45, 46, 47, 48, 49, 50, 51] rfl (by decide +kernel)
set_option maxRecDepth 20000 in
theorem gX11_speed_X11_no : GoodIn wsX11_speed (wsV RX11 129 RX11 yX11_no wsX11_no) := goodIn_app (goodIn_of _ (by decide +kernel)) ggX11_speed_X11_no
set_option maxRecDepth 20000 in
theorem ggX11_speed_X11_save : GoodIn wsX11_speed wsX11_save := goodIn_r _ [33, 1, 34, 35, 36, 37, 38, 39, 40, 41, 42, 43, 44, 45, 46, 47, 48, 49, 50, 51] rfl (by decide +kernel)
set_option maxRecDepth 20000 in
theorem gX11_speed_X11_save : GoodIn wsX11_speed (wsV RX11 113 RX11 yX11_save wsX11_save) := goodIn_app (goodIn_of _ (by decide +kernel)) ggX11_speed_X11_save
set_option maxRecDepth 20000 in
theorem ggX11_start_X11_bad : GoodIn wsX11_start wsX11_bad := goodIn_r _ [18, 19, 31, 32, 33, 34, 35, 36, 37, 38, 39, 40, 41, 42, 43, 44, 45, 46, 47, 48] rfl (by decide +kernel)
set_option maxRecDepth 20000 in
theorem gX11_start_X11_bad : GoodIn wsX11_start (wsV RX11 68 RX11 yX11_bad wsX11_bad) := goodIn_app (goodIn_of _ (by decide +kernel)) ggX11_start_X11_bad
set_option maxRecDepth 20000 in
theorem ggX11_start_X11_in : GoodIn wsX11_start wsX11_in := goodIn_r _ [14] rfl (by decide +kernel)
set_option maxRecDepth 20000 in
theorem gX11_start_X11_in : GoodIn wsX11_start (va_wsS RX11 56 yX11_in wsX11_in) := goodIn_app (goodIn_of _ (by decide +kernel)) ggX11_start_X11_in
set_option maxRecDepth 20000 in
theorem ggX11_start_X11_isHome : GoodIn wsX11_start wsX11_isHome := goodIn_r _ [22] rfl (by decide +kernel)
set_option maxRecDepth 20000 in
theorem gX11_start_X11_isHome : GoodIn wsX11_start (va_wsS RX11 101 yX11_isHome wsX11_isHome) := goodIn_app (goodIn_of _ (by decide +kernel)) ggX11_start_X11_isHome
set_option maxRecDepth 20000 in
theorem ggX11_start_X11_isOne : GoodIn wsX11_start wsX11_isOne := goodIn_r _ [7, 8, 9, 10, 6, 11, 2, 12, 13, 14, 31, 32, 33, 34, 35, 36, 37, 38, 39, 40, 41, 42, 43, 44, 45, 46, 47, 48] rfl (by decide +kernel)
set_option maxRecDepth 20000 in
theorem gX11_start_X11_isOne : GoodIn wsX11_start (wsV RX11 123 RX11 yX11_isOne wsX11_isOne) := goodIn_app (goodIn_of _ (by decide +kernel)) ggX11_start_X11_isOne
set_option maxRecDepth 20000 in
theorem ggX11_start_X11_no : GoodIn wsX11_start wsX11_no := goodIn_r _ [26, 19, 31, 32, 33, 34, 35, 36, 37, 38, 39, 40, 41, 42, 43, 44, 45, 46, 47, 48] rfl (by decide +kernel)
set_option maxRecDepth 20000 in
theorem gX11_start_X11_no : GoodIn wsX11_start (wsV RX11 129 RX11 yX11_no wsX11_no) := goodIn_app (goodIn_of _ (by decide +kernel)) ggX11_start_X11_no
set_option maxRecDepth 20000 in
theorem ggX11_start_X11_save : GoodIn wsX11_start wsX11_save := goodIn_r _ [30, 2, 31, 32, 33, 34, 35, 36, 37, 38, 39, 40, 41, 42, 43, 44, 45, 46, 47, 48] rfl (by decide +kernel)
set_option maxRecDepth 20000 in
theorem gX11_start_X11_save : GoodIn wsX11_start (wsV RX11 113 RX11 yX11_save wsX11_save) := goodIn_app (goodIn_of _ (by decide +kernel)) ggX11_start_X11_save
set_option maxRecDepth 20000 in
theorem ggX11_ticks_X11_bad : GoodIn wsX11_ticks wsX11_bad := goodIn_r _ [10, 11, 43, 44, 45, 46, 47, 48, 49, 50, 51, 52, 53, 54, 55, 56, 57, 58, 59, 60] rfl (by decide +kernel)
set_option maxRecDepth 20000 in
theorem gX11_ticks_X11_bad : GoodIn wsX11_ticks (wsV RX11 68 RX11 yX11_bad wsX11_bad) := goodIn_app (goodIn_of _ (by decide +kernel)) ggX11_ticks_X11_bad
set_option maxRecDepth 20000 in
theorem ggX11_ticks_X11_goTicks : GoodIn wsX11_ticks wsX11_goTicks := goodIn_r _ [18, 19, 20, 5, 21, 22, 23, 24, 25, 26, 27, 28, 29, 30, 31, 32, 33, 34, 35, 36, 37, 38, 39] rfl (by decide +kernel)
set_option maxRecDepth 20000 in
theorem gX11_ticks_X11_goTicks : GoodIn wsX11_ticks (va_wsS RX11 116 yX11_goTicks wsX11_goTicks) := goodIn_app (goodIn_of _ (by decide +kernel)) ggX11_ticks_X11_goTicks
set_option maxRecDepth 20000 in
theorem ggX11_ticks_X11_in : GoodIn wsX11_ticks wsX11_in := goodIn_r _ [6] rfl (by decide +kernel)
set_option maxRecDepth 20000 in
theorem gX11_ticks_X11_in : GoodIn wsX11_ticks (va_wsS RX11 56 yX11_in wsX11_in) := goodIn_app (goodIn_of _ (by decide +kernel)) ggX11_ticks_X11_in
set_option maxRecDepth 20000 in
theorem ggX11_ticks_X11_manyHome : GoodIn wsX11_ticks wsX11_manyHome := goodIn_r _ [42, 22, 23, 5, 24] rfl (by decide +kernel)
set_option maxRecDepth 20000 in
theorem gX11_ticks_X11_manyHome : GoodIn wsX11_ticks (va_wsS RX11 119 yX11_manyHome wsX11_manyHome) := goodIn_app (goodIn_of _ (by decide +kernel)) ggX11_ticks_X11_manyHome
set_option maxRecDepth 20000 in
theorem ggX11_ticks_X11_save : GoodIn wsX11_ticks wsX11_save := goodIn_r _ [15, 2, 43, 44, 45, 46, 47, 48, 49, 50, 51, 52, 53, 54, 55, 56, 57, 58, 59, 60] rfl (by decide +kernel)
set_option maxRecDepth 20000 in
theorem gX11_ticks_X11_save : GoodIn wsX11_ticks (wsV RX11 113 RX11 yX11_save wsX11_save) := goodIn_app (goodIn_of _ (by decide +kernel)) ggX11_ticks_X11_save
theorem dX11_is_0 : decode cX11_is 0 = .ok (.aload_n 0, 1) := by decide +kernel
theorem dX11_is_1 : decode cX11_is 1 = .ok (.iload_n 1, 1) := by decide +kernel
theorem dX11_is_10 : decode cX11_is 10 = .ok (.invokevirtual 168, 3) := by decide +kernel
theorem dX11_is_13 : decode cX11_is 13 = .ok (.goto 9, 3) := by decide +kernel
theorem dX11_is_16 : decode cX11_is 16 = .ok (.aload_n 0, 1) := by decide +kernel
theorem dX11_is_17 : decode cX11_is 17 = .ok (.bipush (-2), 2) := by decide +kernel
theorem dX11_is_19 : decode cX11_is 19 = .ok (.invokevirtual 68, 3) := by decide +kernel
theorem dX11_is_2 : decode cX11_is 2 = .ok (.invokevirtual 123, 3) := by decide +kernel
theorem dX11_is_22 : decode cX11_is 22 = .ok (.ireturn, 1) := by decide +kernel
theorem dX11_is_5 : decode cX11_is 5 = .ok (.ifCond .eq 11, 3) := by decide +kernel
theorem dX11_is_8 : decode cX11_is 8 = .ok (.aload_n 0, 1) := by decide +kernel
theorem dX11_is_9 : decode cX11_is 9 = .ok (.iload_n 1, 1) := by decide +kernel
theorem dX11_kinds_0 : decode cX11_kinds 0 = .ok (.aload_n 0, 1) := by decide +kernel
theorem dX11_kinds_1 : decode cX11_kinds 1 = .ok (.iload_n 1, 1) := by decide +kernel
theorem dX11_kinds_10 : decode cX11_kinds 10 = .ok (.invokevirtual 171, 3) := by decide +kernel
theorem dX11_kinds_13 : decode cX11_kinds 13 = .ok (.goto 9, 3) := by decide +kernel
theorem dX11_kinds_16 : decode cX11_kinds 16 = .ok (.aload_n 0, 1) := by decide +kernel
theorem dX11_kinds_17 : decode cX11_kinds 17 = .ok (.bipush (-2), 2) := by decide +kernel
theorem dX11_kinds_19 : decode cX11_kinds 19 = .ok (.invokevirtual 68, 3) := by decide +kernel
theorem dX11_kinds_2 : decode cX11_kinds 2 = .ok (.invokevirtual 123, 3) := by decide +kernel
theorem dX11_kinds_22 : decode cX11_kinds 22 = .ok (.ireturn, 1) := by decide +kernel
theorem dX11_kinds_5 : decode cX11_kinds 5 = .ok (.ifCond .eq 11, 3) := by decide +kernel
theorem dX11_kinds_8 : decode cX11_kinds 8 = .ok (.aload_n 0, 1) := by decide +kernel
theorem dX11_kinds_9 : decode cX11_kinds 9 = .ok (.iload_n 1, 1) := by decide +kernel
theorem dX11_mark_0 : decode cX11_mark 0 = .ok (.aload_n 0, 1) := by decide +kernel
theorem dX11_mark_1 : decode cX11_mark 1 = .ok (.iload_n 1, 1) := by decide +kernel
theorem dX11_mark_10 : decode cX11_mark 10 = .ok (.lconst 0, 1) := by decide +kernel
theorem dX11_mark_100 : decode cX11_mark 100 = .ok (.iconst 3, 1) := by decide +kernel
theorem dX11_mark_101 : decode cX11_mark 101 = .ok (.dup2, 1) := by decide +kernel
theorem dX11_mark_102 : decode cX11_mark 102 = .ok (.iaload, 1) := by decide +kernel
theorem dX11_mark_103 : decode cX11_mark 103 = .ok (.iconst 1, 1) := by decide +kernel
theorem dX11_mark_104 : decode cX11_mark 104 = .ok (.iadd, 1) := by decide +kernel
theorem dX11_mark_105 : decode cX11_mark 105 = .ok (.iastore, 1) := by decide +kernel
theorem dX11_mark_106 : decode cX11_mark 106 = .ok (.aload_n 0, 1) := by decide +kernel
theorem dX11_mark_107 : decode cX11_mark 107 = .ok (.getfield 7, 3) := by decide +kernel
theorem dX11_mark_11 : decode cX11_mark 11 = .ok (.ldc2_w 152, 3) := by decide +kernel
theorem dX11_mark_110 : decode cX11_mark 110 = .ok (.iconst 3, 1) := by decide +kernel
theorem dX11_mark_111 : decode cX11_mark 111 = .ok (.iaload, 1) := by decide +kernel
theorem dX11_mark_112 : decode cX11_mark 112 = .ok (.ireturn, 1) := by decide +kernel
theorem dX11_mark_14 : decode cX11_mark 14 = .ok (.invokestatic 56, 3) := by decide +kernel
theorem dX11_mark_17 : decode cX11_mark 17 = .ok (.ifCond .eq 15, 3) := by decide +kernel
theorem dX11_mark_2 : decode cX11_mark 2 = .ok (.invokevirtual 123, 3) := by decide +kernel
theorem dX11_mark_20 : decode cX11_mark 20 = .ok (.iload_n 3, 1) := by decide +kernel
theorem dX11_mark_21 : decode cX11_mark 21 = .ok (.i2l, 1) := by decide +kernel
theorem dX11_mark_22 : decode cX11_mark 22 = .ok (.lconst 0, 1) := by decide +kernel
theorem dX11_mark_23 : decode cX11_mark 23 = .ok (.ldc2_w 154, 3) := by decide +kernel
theorem dX11_mark_26 : decode cX11_mark 26 = .ok (.invokestatic 56, 3) := by decide +kernel
theorem dX11_mark_29 : decode cX11_mark 29 = .ok (.ifCond .ne 10, 3) := by decide +kernel
theorem dX11_mark_32 : decode cX11_mark 32 = .ok (.aload_n 0, 1) := by decide +kernel
theorem dX11_mark_33 : decode cX11_mark 33 = .ok (.bipush (-2), 2) := by decide +kernel
theorem dX11_mark_35 : decode cX11_mark 35 = .ok (.invokevirtual 68, 3) := by decide +kernel
theorem dX11_mark_38 : decode cX11_mark 38 = .ok (.ireturn, 1) := by decide +kernel
theorem dX11_mark_39 : decode cX11_mark 39 = .ok (.aload_n 0, 1) := by decide +kernel
theorem dX11_mark_40 : decode cX11_mark 40 = .ok (.getfield 7, 3) := by decide +kernel
theorem dX11_mark_43 : decode cX11_mark 43 = .ok (.iconst 3, 1) := by decide +kernel
theorem dX11_mark_44 : decode cX11_mark 44 = .ok (.iaload, 1) := by decide +kernel
theorem dX11_mark_45 : decode cX11_mark 45 = .ok (.bipush 6, 2) := by decide +kernel
theorem dX11_mark_47 : decode cX11_mark 47 = .ok (.if_icmp .ne 8, 3) := by decide +kernel
theorem dX11_mark_5 : decode cX11_mark 5 = .ok (.ifCond .eq 27, 3) := by decide +kernel
theorem dX11_mark_50 : decode cX11_mark 50 = .ok (.aload_n 0, 1) := by decide +kernel
theorem dX11_mark_51 : decode cX11_mark 51 = .ok (.invokevirtual 79, 3) := by decide +kernel
theorem dX11_mark_54 : decode cX11_mark 54 = .ok (.ireturn, 1) := by decide +kernel
theorem dX11_mark_55 : decode cX11_mark 55 = .ok (.bipush 105, 2) := by decide +kernel
theorem dX11_mark_57 : decode cX11_mark 57 = .ok (.iconst 3, 1) := by decide +kernel
theorem dX11_mark_58 : decode cX11_mark 58 = .ok (.aload_n 0, 1) := by decide +kernel
theorem dX11_mark_59 : decode cX11_mark 59 = .ok (.getfield 7, 3) := by decide +kernel
theorem dX11_mark_62 : decode cX11_mark 62 = .ok (.iconst 3, 1) := by decide +kernel
theorem dX11_mark_63 : decode cX11_mark 63 = .ok (.iaload, 1) := by decide +kernel
theorem dX11_mark_64 : decode cX11_mark 64 = .ok (.imul, 1) := by decide +kernel
theorem dX11_mark_65 : decode cX11_mark 65 = .ok (.iadd, 1) := by decide +kernel
theorem dX11_mark_66 : decode cX11_mark 66 = .ok (.istore 4, 2) := by decide +kernel
theorem dX11_mark_68 : decode cX11_mark 68 = .ok (.aload_n 0, 1) := by decide +kernel
theorem dX11_mark_69 : decode cX11_mark 69 = .ok (.getfield 7, 3) := by decide +kernel
theorem dX11_mark_72 : decode cX11_mark 72 = .ok (.iload 4, 2) := by decide +kernel
theorem dX11_mark_74 : decode cX11_mark 74 = .ok (.iload_n 1, 1) := by decide +kernel
theorem dX11_mark_75 : decode cX11_mark 75 = .ok (.iastore, 1) := by decide +kernel
theorem dX11_mark_76 : decode cX11_mark 76 = .ok (.aload_n 0, 1) := by decide +kernel
theorem dX11_mark_77 : decode cX11_mark 77 = .ok (.getfield 7, 3) := by decide +kernel
theorem dX11_mark_8 : decode cX11_mark 8 = .ok (.iload_n 2, 1) := by decide +kernel
theorem dX11_mark_80 : decode cX11_mark 80 = .ok (.iload 4, 2) := by decide +kernel
theorem dX11_mark_82 : decode cX11_mark 82 = .ok (.iconst 1, 1) := by decide +kernel
theorem dX11_mark_83 : decode cX11_mark 83 = .ok (.iadd, 1) := by decide +kernel
theorem dX11_mark_84 : decode cX11_mark 84 = .ok (.iload_n 2, 1) := by decide +kernel
theorem dX11_mark_85 : decode cX11_mark 85 = .ok (.iastore, 1) := by decide +kernel
theorem dX11_mark_86 : decode cX11_mark 86 = .ok (.aload_n 0, 1) := by decide +kernel
theorem dX11_mark_87 : decode cX11_mark 87 = .ok (.getfield 7, 3) := by decide +kernel
theorem dX11_mark_9 : decode cX11_mark 9 = .ok (.i2l, 1) := by decide +kernel
theorem dX11_mark_90 : decode cX11_mark 90 = .ok (.iload 4, 2) := by decide +kernel
theorem dX11_mark_92 : decode cX11_mark 92 = .ok (.iconst 2, 1) := by decide +kernel
theorem dX11_mark_93 : decode cX11_mark 93 = .ok (.iadd, 1) := by decide +kernel
theorem dX11_mark_94 : decode cX11_mark 94 = .ok (.iload_n 3, 1) := by decide +kernel
theorem dX11_mark_95 : decode cX11_mark 95 = .ok (.iastore, 1) := by decide +kernel
theorem dX11_mark_96 : decode cX11_mark 96 = .ok (.aload_n 0, 1) := by decide +kernel
theorem dX11_mark_97 : decode cX11_mark 97 = .ok (.getfield 7, 3) := by decide +kernel
theorem dX11_note_0 : decode cX11_note 0 = .ok (.aload_n 0, 1) := by decide +kernel
theorem dX11_note_1 : decode cX11_note 1 = .ok (.iload_n 1, 1) := by decide +kernel
theorem dX11_note_100 : decode cX11_note 100 = .ok (.iload_n 2, 1) := by decide +kernel
theorem dX11_note_101 : decode cX11_note 101 = .ok (.iastore, 1) := by decide +kernel
theorem dX11_note_102 : decode cX11_note 102 = .ok (.aload_n 0, 1) := by decide +kernel
theorem dX11_note_103 : decode cX11_note 103 = .ok (.getfield 7, 3) := by decide +kernel
theorem dX11_note_106 : decode cX11_note 106 = .ok (.iload 6, 2) := by decide +kernel
theorem dX11_note_108 : decode cX11_note 108 = .ok (.iconst 2, 1) := by decide +kernel
theorem dX11_note_109 : decode cX11_note 109 = .ok (.iadd, 1) := by decide +kernel
theorem dX11_note_110 : decode cX11_note 110 = .ok (.iload_n 3, 1) := by decide +kernel
theorem dX11_note_111 : decode cX11_note 111 = .ok (.iastore, 1) := by decide +kernel
theorem dX11_note_112 : decode cX11_note 112 = .ok (.aload_n 0, 1) := by decide +kernel
theorem dX11_note_113 : decode cX11_note 113 = .ok (.getfield 7, 3) := by decide +kernel
theorem dX11_note_116 : decode cX11_note 116 = .ok (.iload 6, 2) := by decide +kernel
theorem dX11_note_118 : decode cX11_note 118 = .ok (.iconst 3, 1) := by decide +kernel
theorem dX11_note_119 : decode cX11_note 119 = .ok (.iadd, 1) := by decide +kernel
theorem dX11_note_12 : decode cX11_note 12 = .ok (.ifCond .eq 36, 3) := by decide +kernel
theorem dX11_note_120 : decode cX11_note 120 = .ok (.iload 4, 2) := by decide +kernel
theorem dX11_note_122 : decode cX11_note 122 = .ok (.iastore, 1) := by decide +kernel
theorem dX11_note_123 : decode cX11_note 123 = .ok (.aload_n 0, 1) := by decide +kernel
theorem dX11_note_124 : decode cX11_note 124 = .ok (.getfield 7, 3) := by decide +kernel
theorem dX11_note_127 : decode cX11_note 127 = .ok (.iload 6, 2) := by decide +kernel
theorem dX11_note_129 : decode cX11_note 129 = .ok (.iconst 4, 1) := by decide +kernel
theorem dX11_note_130 : decode cX11_note 130 = .ok (.iadd, 1) := by decide +kernel
theorem dX11_note_131 : decode cX11_note 131 = .ok (.iload 5, 2) := by decide +kernel
theorem dX11_note_133 : decode cX11_note 133 = .ok (.iastore, 1) := by decide +kernel
theorem dX11_note_134 : decode cX11_note 134 = .ok (.aload_n 0, 1) := by decide +kernel
theorem dX11_note_135 : decode cX11_note 135 = .ok (.getfield 7, 3) := by decide +kernel
theorem dX11_note_138 : decode cX11_note 138 = .ok (.iconst 2, 1) := by decide +kernel
theorem dX11_note_139 : decode cX11_note 139 = .ok (.dup2, 1) := by decide +kernel
theorem dX11_note_140 : decode cX11_note 140 = .ok (.iaload, 1) := by decide +kernel
theorem dX11_note_141 : decode cX11_note 141 = .ok (.iconst 1, 1) := by decide +kernel
theorem dX11_note_142 : decode cX11_note 142 = .ok (.iadd, 1) := by decide +kernel
theorem dX11_note_143 : decode cX11_note 143 = .ok (.iastore, 1) := by decide +kernel
theorem dX11_note_144 : decode cX11_note 144 = .ok (.aload_n 0, 1) := by decide +kernel
theorem dX11_note_145 : decode cX11_note 145 = .ok (.getfield 7, 3) := by decide +kernel
theorem dX11_note_148 : decode cX11_note 148 = .ok (.iconst 2, 1) := by decide +kernel
theorem dX11_note_149 : decode cX11_note 149 = .ok (.iaload, 1) := by decide +kernel
theorem dX11_note_15 : decode cX11_note 15 = .ok (.iload_n 3, 1) := by decide +kernel
theorem dX11_note_150 : decode cX11_note 150 = .ok (.ireturn, 1) := by decide +kernel
theorem dX11_note_16 : decode cX11_note 16 = .ok (.i2l, 1) := by decide +kernel
theorem dX11_note_17 : decode cX11_note 17 = .ok (.lconst 0, 1) := by decide +kernel
theorem dX11_note_18 : decode cX11_note 18 = .ok (.ldc2_w 152, 3) := by decide +kernel
theorem dX11_note_2 : decode cX11_note 2 = .ok (.invokevirtual 123, 3) := by decide +kernel
theorem dX11_note_21 : decode cX11_note 21 = .ok (.invokestatic 56, 3) := by decide +kernel
theorem dX11_note_24 : decode cX11_note 24 = .ok (.ifCond .eq 24, 3) := by decide +kernel
theorem dX11_note_27 : decode cX11_note 27 = .ok (.iload 4, 2) := by decide +kernel
theorem dX11_note_29 : decode cX11_note 29 = .ok (.invokestatic 126, 3) := by decide +kernel
theorem dX11_note_32 : decode cX11_note 32 = .ok (.ifCond .eq 16, 3) := by decide +kernel
theorem dX11_note_35 : decode cX11_note 35 = .ok (.iload 5, 2) := by decide +kernel
theorem dX11_note_37 : decode cX11_note 37 = .ok (.i2l, 1) := by decide +kernel
theorem dX11_note_38 : decode cX11_note 38 = .ok (.lconst 0, 1) := by decide +kernel
theorem dX11_note_39 : decode cX11_note 39 = .ok (.ldc2_w 154, 3) := by decide +kernel
theorem dX11_note_42 : decode cX11_note 42 = .ok (.invokestatic 56, 3) := by decide +kernel
theorem dX11_note_45 : decode cX11_note 45 = .ok (.ifCond .ne 10, 3) := by decide +kernel
theorem dX11_note_48 : decode cX11_note 48 = .ok (.aload_n 0, 1) := by decide +kernel
theorem dX11_note_49 : decode cX11_note 49 = .ok (.bipush (-2), 2) := by decide +kernel
theorem dX11_note_5 : decode cX11_note 5 = .ok (.ifCond .eq 43, 3) := by decide +kernel
theorem dX11_note_51 : decode cX11_note 51 = .ok (.invokevirtual 68, 3) := by decide +kernel
theorem dX11_note_54 : decode cX11_note 54 = .ok (.ireturn, 1) := by decide +kernel
theorem dX11_note_55 : decode cX11_note 55 = .ok (.aload_n 0, 1) := by decide +kernel
theorem dX11_note_56 : decode cX11_note 56 = .ok (.getfield 7, 3) := by decide +kernel
theorem dX11_note_59 : decode cX11_note 59 = .ok (.iconst 2, 1) := by decide +kernel
theorem dX11_note_60 : decode cX11_note 60 = .ok (.iaload, 1) := by decide +kernel
theorem dX11_note_61 : decode cX11_note 61 = .ok (.bipush 6, 2) := by decide +kernel
theorem dX11_note_63 : decode cX11_note 63 = .ok (.if_icmp .ne 8, 3) := by decide +kernel
theorem dX11_note_66 : decode cX11_note 66 = .ok (.aload_n 0, 1) := by decide +kernel
theorem dX11_note_67 : decode cX11_note 67 = .ok (.invokevirtual 79, 3) := by decide +kernel
theorem dX11_note_70 : decode cX11_note 70 = .ok (.ireturn, 1) := by decide +kernel
theorem dX11_note_71 : decode cX11_note 71 = .ok (.bipush 75, 2) := by decide +kernel
theorem dX11_note_73 : decode cX11_note 73 = .ok (.iconst 5, 1) := by decide +kernel
theorem dX11_note_74 : decode cX11_note 74 = .ok (.aload_n 0, 1) := by decide +kernel
theorem dX11_note_75 : decode cX11_note 75 = .ok (.getfield 7, 3) := by decide +kernel
theorem dX11_note_78 : decode cX11_note 78 = .ok (.iconst 2, 1) := by decide +kernel
theorem dX11_note_79 : decode cX11_note 79 = .ok (.iaload, 1) := by decide +kernel
theorem dX11_note_8 : decode cX11_note 8 = .ok (.iload_n 2, 1) := by decide +kernel
theorem dX11_note_80 : decode cX11_note 80 = .ok (.imul, 1) := by decide +kernel
theorem dX11_note_81 : decode cX11_note 81 = .ok (.iadd, 1) := by decide +kernel
theorem dX11_note_82 : decode cX11_note 82 = .ok (.istore 6, 2) := by decide +kernel
theorem dX11_note_84 : decode cX11_note 84 = .ok (.aload_n 0, 1) := by decide +kernel
theorem dX11_note_85 : decode cX11_note 85 = .ok (.getfield 7, 3) := by decide +kernel
theorem dX11_note_88 : decode cX11_note 88 = .ok (.iload 6, 2) := by decide +kernel
theorem dX11_note_9 : decode cX11_note 9 = .ok (.invokestatic 76, 3) := by decide +kernel
theorem dX11_note_90 : decode cX11_note 90 = .ok (.iload_n 1, 1) := by decide +kernel
theorem dX11_note_91 : decode cX11_note 91 = .ok (.iastore, 1) := by decide +kernel
theorem dX11_note_92 : decode cX11_note 92 = .ok (.aload_n 0, 1) := by decide +kernel
theorem dX11_note_93 : decode cX11_note 93 = .ok (.getfield 7, 3) := by decide +kernel
theorem dX11_note_96 : decode cX11_note 96 = .ok (.iload 6, 2) := by decide +kernel
theorem dX11_note_98 : decode cX11_note 98 = .ok (.iconst 1, 1) := by decide +kernel
theorem dX11_note_99 : decode cX11_note 99 = .ok (.iadd, 1) := by decide +kernel
theorem dX11_save_0 : decode cX11_save 0 = .ok (.aload_n 0, 1) := by decide +kernel
theorem dX11_save_1 : decode cX11_save 1 = .ok (.getfield 7, 3) := by decide +kernel
theorem dX11_save_100 : decode cX11_save 100 = .ok (.iaload, 1) := by decide +kernel
theorem dX11_save_101 : decode cX11_save 101 = .ok (.iconst 1, 1) := by decide +kernel
theorem dX11_save_102 : decode cX11_save 102 = .ok (.iadd, 1) := by decide +kernel
theorem dX11_save_103 : decode cX11_save 103 = .ok (.iastore, 1) := by decide +kernel
theorem dX11_save_104 : decode cX11_save 104 = .ok (.return_, 1) := by decide +kernel
theorem dX11_save_11 : decode cX11_save 11 = .ok (.iconst 0, 1) := by decide +kernel
theorem dX11_save_12 : decode cX11_save 12 = .ok (.istore_n 1, 1) := by decide +kernel
theorem dX11_save_13 : decode cX11_save 13 = .ok (.iload_n 1, 1) := by decide +kernel
theorem dX11_save_14 : decode cX11_save 14 = .ok (.sipush 217, 3) := by decide +kernel
theorem dX11_save_17 : decode cX11_save 17 = .ok (.if_icmp .ge 28, 3) := by decide +kernel
theorem dX11_save_20 : decode cX11_save 20 = .ok (.aload_n 0, 1) := by decide +kernel
theorem dX11_save_21 : decode cX11_save 21 = .ok (.getfield 7, 3) := by decide +kernel
theorem dX11_save_24 : decode cX11_save 24 = .ok (.bipush 123, 2) := by decide +kernel
theorem dX11_save_26 : decode cX11_save 26 = .ok (.iload_n 1, 1) := by decide +kernel
theorem dX11_save_27 : decode cX11_save 27 = .ok (.iadd, 1) := by decide +kernel
theorem dX11_save_28 : decode cX11_save 28 = .ok (.aload_n 0, 1) := by decide +kernel
theorem dX11_save_29 : decode cX11_save 29 = .ok (.getfield 7, 3) := by decide +kernel
theorem dX11_save_32 : decode cX11_save 32 = .ok (.sipush 154, 3) := by decide +kernel
theorem dX11_save_35 : decode cX11_save 35 = .ok (.iload_n 1, 1) := by decide +kernel
theorem dX11_save_36 : decode cX11_save 36 = .ok (.iadd, 1) := by decide +kernel
theorem dX11_save_37 : decode cX11_save 37 = .ok (.iaload, 1) := by decide +kernel
theorem dX11_save_38 : decode cX11_save 38 = .ok (.iastore, 1) := by decide +kernel
theorem dX11_save_39 : decode cX11_save 39 = .ok (.iinc 1 1, 3) := by decide +kernel
theorem dX11_save_4 : decode cX11_save 4 = .ok (.iconst 4, 1) := by decide +kernel
theorem dX11_save_42 : decode cX11_save 42 = .ok (.goto (-29), 3) := by decide +kernel
theorem dX11_save_45 : decode cX11_save 45 = .ok (.aload_n 0, 1) := by decide +kernel
theorem dX11_save_46 : decode cX11_save 46 = .ok (.getfield 7, 3) := by decide +kernel
theorem dX11_save_49 : decode cX11_save 49 = .ok (.iconst 4, 1) := by decide +kernel
theorem dX11_save_5 : decode cX11_save 5 = .ok (.iaload, 1) := by decide +kernel
theorem dX11_save_50 : decode cX11_save 50 = .ok (.bipush 7, 2) := by decide +kernel
theorem dX11_save_52 : decode cX11_save 52 = .ok (.iastore, 1) := by decide +kernel
theorem dX11_save_53 : decode cX11_save 53 = .ok (.iconst 0, 1) := by decide +kernel
theorem dX11_save_54 : decode cX11_save 54 = .ok (.istore_n 1, 1) := by decide +kernel
theorem dX11_save_55 : decode cX11_save 55 = .ok (.iload_n 1, 1) := by decide +kernel
theorem dX11_save_56 : decode cX11_save 56 = .ok (.bipush 31, 2) := by decide +kernel
theorem dX11_save_58 : decode cX11_save 58 = .ok (.if_icmp .ge 36, 3) := by decide +kernel
theorem dX11_save_6 : decode cX11_save 6 = .ok (.bipush 8, 2) := by decide +kernel
theorem dX11_save_61 : decode cX11_save 61 = .ok (.aload_n 0, 1) := by decide +kernel
theorem dX11_save_62 : decode cX11_save 62 = .ok (.getfield 7, 3) := by decide +kernel
theorem dX11_save_65 : decode cX11_save 65 = .ok (.bipush 123, 2) := by decide +kernel
theorem dX11_save_67 : decode cX11_save 67 = .ok (.bipush 31, 2) := by decide +kernel
theorem dX11_save_69 : decode cX11_save 69 = .ok (.aload_n 0, 1) := by decide +kernel
theorem dX11_save_70 : decode cX11_save 70 = .ok (.getfield 7, 3) := by decide +kernel
theorem dX11_save_73 : decode cX11_save 73 = .ok (.iconst 4, 1) := by decide +kernel
theorem dX11_save_74 : decode cX11_save 74 = .ok (.iaload, 1) := by decide +kernel
theorem dX11_save_75 : decode cX11_save 75 = .ok (.imul, 1) := by decide +kernel
theorem dX11_save_76 : decode cX11_save 76 = .ok (.iadd, 1) := by decide +kernel
theorem dX11_save_77 : decode cX11_save 77 = .ok (.iload_n 1, 1) := by decide +kernel
theorem dX11_save_78 : decode cX11_save 78 = .ok (.iadd, 1) := by decide +kernel
theorem dX11_save_79 : decode cX11_save 79 = .ok (.aload_n 0, 1) := by decide +kernel
theorem dX11_save_8 : decode cX11_save 8 = .ok (.if_icmp .ne 45, 3) := by decide +kernel
theorem dX11_save_80 : decode cX11_save 80 = .ok (.getfield 7, 3) := by decide +kernel
theorem dX11_save_83 : decode cX11_save 83 = .ok (.iconst 5, 1) := by decide +kernel
theorem dX11_save_84 : decode cX11_save 84 = .ok (.iload_n 1, 1) := by decide +kernel
theorem dX11_save_85 : decode cX11_save 85 = .ok (.iadd, 1) := by decide +kernel
theorem dX11_save_86 : decode cX11_save 86 = .ok (.iaload, 1) := by decide +kernel
theorem dX11_save_87 : decode cX11_save 87 = .ok (.iastore, 1) := by decide +kernel
theorem dX11_save_88 : decode cX11_save 88 = .ok (.iinc 1 1, 3) := by decide +kernel
theorem dX11_save_91 : decode cX11_save 91 = .ok (.goto (-36), 3) := by decide +kernel
theorem dX11_save_94 : decode cX11_save 94 = .ok (.aload_n 0, 1) := by decide +kernel
theorem dX11_save_95 : decode cX11_save 95 = .ok (.getfield 7, 3) := by decide +kernel
theorem dX11_save_98 : decode cX11_save 98 = .ok (.iconst 4, 1) := by decide +kernel
theorem dX11_save_99 : decode cX11_save 99 = .ok (.dup2, 1) := by decide +kernel
theorem dX11_seen_0 : decode cX11_seen 0 = .ok (.aload_n 0, 1) := by decide +kernel
theorem dX11_seen_1 : decode cX11_seen 1 = .ok (.iload_n 1, 1) := by decide +kernel
theorem dX11_seen_10 : decode cX11_seen 10 = .ok (.lconst 0, 1) := by decide +kernel
theorem dX11_seen_100 : decode cX11_seen 100 = .ok (.iadd, 1) := by decide +kernel
theorem dX11_seen_101 : decode cX11_seen 101 = .ok (.iload_n 3, 1) := by decide +kernel
theorem dX11_seen_102 : decode cX11_seen 102 = .ok (.iastore, 1) := by decide +kernel
theorem dX11_seen_103 : decode cX11_seen 103 = .ok (.aload_n 0, 1) := by decide +kernel
theorem dX11_seen_104 : decode cX11_seen 104 = .ok (.getfield 7, 3) := by decide +kernel
theorem dX11_seen_107 : decode cX11_seen 107 = .ok (.iload 5, 2) := by decide +kernel
theorem dX11_seen_109 : decode cX11_seen 109 = .ok (.iconst 3, 1) := by decide +kernel
theorem dX11_seen_11 : decode cX11_seen 11 = .ok (.ldc2_w 152, 3) := by decide +kernel
theorem dX11_seen_110 : decode cX11_seen 110 = .ok (.iadd, 1) := by decide +kernel
theorem dX11_seen_111 : decode cX11_seen 111 = .ok (.iload 4, 2) := by decide +kernel
theorem dX11_seen_113 : decode cX11_seen 113 = .ok (.iastore, 1) := by decide +kernel
theorem dX11_seen_114 : decode cX11_seen 114 = .ok (.aload_n 0, 1) := by decide +kernel
theorem dX11_seen_115 : decode cX11_seen 115 = .ok (.getfield 7, 3) := by decide +kernel
theorem dX11_seen_118 : decode cX11_seen 118 = .ok (.iconst 1, 1) := by decide +kernel
theorem dX11_seen_119 : decode cX11_seen 119 = .ok (.dup2, 1) := by decide +kernel
theorem dX11_seen_120 : decode cX11_seen 120 = .ok (.iaload, 1) := by decide +kernel
theorem dX11_seen_121 : decode cX11_seen 121 = .ok (.iconst 1, 1) := by decide +kernel
theorem dX11_seen_122 : decode cX11_seen 122 = .ok (.iadd, 1) := by decide +kernel
theorem dX11_seen_123 : decode cX11_seen 123 = .ok (.iastore, 1) := by decide +kernel
theorem dX11_seen_124 : decode cX11_seen 124 = .ok (.aload_n 0, 1) := by decide +kernel
theorem dX11_seen_125 : decode cX11_seen 125 = .ok (.getfield 7, 3) := by decide +kernel
theorem dX11_seen_128 : decode cX11_seen 128 = .ok (.iconst 1, 1) := by decide +kernel
theorem dX11_seen_129 : decode cX11_seen 129 = .ok (.iaload, 1) := by decide +kernel
theorem dX11_seen_130 : decode cX11_seen 130 = .ok (.ireturn, 1) := by decide +kernel
theorem dX11_seen_14 : decode cX11_seen 14 = .ok (.invokestatic 56, 3) := by decide +kernel
theorem dX11_seen_17 : decode cX11_seen 17 = .ok (.ifCond .eq 23, 3) := by decide +kernel
theorem dX11_seen_2 : decode cX11_seen 2 = .ok (.invokevirtual 123, 3) := by decide +kernel
theorem dX11_seen_20 : decode cX11_seen 20 = .ok (.iload_n 3, 1) := by decide +kernel
theorem dX11_seen_21 : decode cX11_seen 21 = .ok (.invokestatic 126, 3) := by decide +kernel
theorem dX11_seen_24 : decode cX11_seen 24 = .ok (.ifCond .eq 16, 3) := by decide +kernel
theorem dX11_seen_27 : decode cX11_seen 27 = .ok (.iload 4, 2) := by decide +kernel
theorem dX11_seen_29 : decode cX11_seen 29 = .ok (.i2l, 1) := by decide +kernel
theorem dX11_seen_30 : decode cX11_seen 30 = .ok (.lconst 0, 1) := by decide +kernel
theorem dX11_seen_31 : decode cX11_seen 31 = .ok (.ldc2_w 154, 3) := by decide +kernel
theorem dX11_seen_34 : decode cX11_seen 34 = .ok (.invokestatic 56, 3) := by decide +kernel
theorem dX11_seen_37 : decode cX11_seen 37 = .ok (.ifCond .ne 10, 3) := by decide +kernel
theorem dX11_seen_40 : decode cX11_seen 40 = .ok (.aload_n 0, 1) := by decide +kernel
theorem dX11_seen_41 : decode cX11_seen 41 = .ok (.bipush (-2), 2) := by decide +kernel
theorem dX11_seen_43 : decode cX11_seen 43 = .ok (.invokevirtual 68, 3) := by decide +kernel
theorem dX11_seen_46 : decode cX11_seen 46 = .ok (.ireturn, 1) := by decide +kernel
theorem dX11_seen_47 : decode cX11_seen 47 = .ok (.aload_n 0, 1) := by decide +kernel
theorem dX11_seen_48 : decode cX11_seen 48 = .ok (.getfield 7, 3) := by decide +kernel
theorem dX11_seen_5 : decode cX11_seen 5 = .ok (.ifCond .eq 35, 3) := by decide +kernel
theorem dX11_seen_51 : decode cX11_seen 51 = .ok (.iconst 1, 1) := by decide +kernel
theorem dX11_seen_52 : decode cX11_seen 52 = .ok (.iaload, 1) := by decide +kernel
theorem dX11_seen_53 : decode cX11_seen 53 = .ok (.iconst 5, 1) := by decide +kernel
theorem dX11_seen_54 : decode cX11_seen 54 = .ok (.if_icmp .ne 8, 3) := by decide +kernel
theorem dX11_seen_57 : decode cX11_seen 57 = .ok (.aload_n 0, 1) := by decide +kernel
theorem dX11_seen_58 : decode cX11_seen 58 = .ok (.invokevirtual 79, 3) := by decide +kernel
theorem dX11_seen_61 : decode cX11_seen 61 = .ok (.ireturn, 1) := by decide +kernel
theorem dX11_seen_62 : decode cX11_seen 62 = .ok (.bipush 55, 2) := by decide +kernel
theorem dX11_seen_64 : decode cX11_seen 64 = .ok (.iconst 4, 1) := by decide +kernel
theorem dX11_seen_65 : decode cX11_seen 65 = .ok (.aload_n 0, 1) := by decide +kernel
theorem dX11_seen_66 : decode cX11_seen 66 = .ok (.getfield 7, 3) := by decide +kernel
theorem dX11_seen_69 : decode cX11_seen 69 = .ok (.iconst 1, 1) := by decide +kernel
theorem dX11_seen_70 : decode cX11_seen 70 = .ok (.iaload, 1) := by decide +kernel
theorem dX11_seen_71 : decode cX11_seen 71 = .ok (.imul, 1) := by decide +kernel
theorem dX11_seen_72 : decode cX11_seen 72 = .ok (.iadd, 1) := by decide +kernel
theorem dX11_seen_73 : decode cX11_seen 73 = .ok (.istore 5, 2) := by decide +kernel
theorem dX11_seen_75 : decode cX11_seen 75 = .ok (.aload_n 0, 1) := by decide +kernel
theorem dX11_seen_76 : decode cX11_seen 76 = .ok (.getfield 7, 3) := by decide +kernel
theorem dX11_seen_79 : decode cX11_seen 79 = .ok (.iload 5, 2) := by decide +kernel
theorem dX11_seen_8 : decode cX11_seen 8 = .ok (.iload_n 2, 1) := by decide +kernel
theorem dX11_seen_81 : decode cX11_seen 81 = .ok (.iload_n 1, 1) := by decide +kernel
theorem dX11_seen_82 : decode cX11_seen 82 = .ok (.iastore, 1) := by decide +kernel
theorem dX11_seen_83 : decode cX11_seen 83 = .ok (.aload_n 0, 1) := by decide +kernel
theorem dX11_seen_84 : decode cX11_seen 84 = .ok (.getfield 7, 3) := by decide +kernel
theorem dX11_seen_87 : decode cX11_seen 87 = .ok (.iload 5, 2) := by decide +kernel
theorem dX11_seen_89 : decode cX11_seen 89 = .ok (.iconst 1, 1) := by decide +kernel
theorem dX11_seen_9 : decode cX11_seen 9 = .ok (.i2l, 1) := by decide +kernel
theorem dX11_seen_90 : decode cX11_seen 90 = .ok (.iadd, 1) := by decide +kernel
theorem dX11_seen_91 : decode cX11_seen 91 = .ok (.iload_n 2, 1) := by decide +kernel
theorem dX11_seen_92 : decode cX11_seen 92 = .ok (.iastore, 1) := by decide +kernel
theorem dX11_seen_93 : decode cX11_seen 93 = .ok (.aload_n 0, 1) := by decide +kernel
theorem dX11_seen_94 : decode cX11_seen 94 = .ok (.getfield 7, 3) := by decide +kernel
theorem dX11_seen_97 : decode cX11_seen 97 = .ok (.iload 5, 2) := by decide +kernel
theorem dX11_seen_99 : decode cX11_seen 99 = .ok (.iconst 2, 1) := by decide +kernel
theorem dX11_speed_0 : decode cX11_speed 0 = .ok (.aload_n 0, 1) := by decide +kernel
theorem dX11_speed_1 : decode cX11_speed 1 = .ok (.iload_n 1, 1) := by decide +kernel
theorem dX11_speed_12 : decode cX11_speed 12 = .ok (.ifCond .ne 10, 3) := by decide +kernel
theorem dX11_speed_15 : decode cX11_speed 15 = .ok (.aload_n 0, 1) := by decide +kernel
theorem dX11_speed_16 : decode cX11_speed 16 = .ok (.bipush (-2), 2) := by decide +kernel
theorem dX11_speed_18 : decode cX11_speed 18 = .ok (.invokevirtual 68, 3) := by decide +kernel
theorem dX11_speed_2 : decode cX11_speed 2 = .ok (.invokevirtual 123, 3) := by decide +kernel
theorem dX11_speed_21 : decode cX11_speed 21 = .ok (.ireturn, 1) := by decide +kernel
theorem dX11_speed_22 : decode cX11_speed 22 = .ok (.aload_n 0, 1) := by decide +kernel
theorem dX11_speed_23 : decode cX11_speed 23 = .ok (.getfield 7, 3) := by decide +kernel
theorem dX11_speed_26 : decode cX11_speed 26 = .ok (.bipush 11, 2) := by decide +kernel
theorem dX11_speed_28 : decode cX11_speed 28 = .ok (.iload_n 1, 1) := by decide +kernel
theorem dX11_speed_29 : decode cX11_speed 29 = .ok (.iadd, 1) := by decide +kernel
theorem dX11_speed_30 : decode cX11_speed 30 = .ok (.iaload, 1) := by decide +kernel
theorem dX11_speed_31 : decode cX11_speed 31 = .ok (.istore_n 3, 1) := by decide +kernel
theorem dX11_speed_32 : decode cX11_speed 32 = .ok (.iload_n 3, 1) := by decide +kernel
theorem dX11_speed_33 : decode cX11_speed 33 = .ok (.iload_n 2, 1) := by decide +kernel
theorem dX11_speed_34 : decode cX11_speed 34 = .ok (.if_icmp .eq 14, 3) := by decide +kernel
theorem dX11_speed_37 : decode cX11_speed 37 = .ok (.aload_n 0, 1) := by decide +kernel
theorem dX11_speed_38 : decode cX11_speed 38 = .ok (.getfield 7, 3) := by decide +kernel
theorem dX11_speed_41 : decode cX11_speed 41 = .ok (.iload_n 1, 1) := by decide +kernel
theorem dX11_speed_42 : decode cX11_speed 42 = .ok (.invokestatic 101, 3) := by decide +kernel
theorem dX11_speed_45 : decode cX11_speed 45 = .ok (.ifCond .eq 8, 3) := by decide +kernel
theorem dX11_speed_48 : decode cX11_speed 48 = .ok (.aload_n 0, 1) := by decide +kernel
theorem dX11_speed_49 : decode cX11_speed 49 = .ok (.invokevirtual 129, 3) := by decide +kernel
theorem dX11_speed_5 : decode cX11_speed 5 = .ok (.ifCond .eq 10, 3) := by decide +kernel
theorem dX11_speed_52 : decode cX11_speed 52 = .ok (.ireturn, 1) := by decide +kernel
theorem dX11_speed_53 : decode cX11_speed 53 = .ok (.aload_n 0, 1) := by decide +kernel
theorem dX11_speed_54 : decode cX11_speed 54 = .ok (.invokevirtual 113, 3) := by decide +kernel
theorem dX11_speed_57 : decode cX11_speed 57 = .ok (.aload_n 0, 1) := by decide +kernel
theorem dX11_speed_58 : decode cX11_speed 58 = .ok (.getfield 7, 3) := by decide +kernel
theorem dX11_speed_61 : decode cX11_speed 61 = .ok (.bipush 11, 2) := by decide +kernel
theorem dX11_speed_63 : decode cX11_speed 63 = .ok (.iload_n 1, 1) := by decide +kernel
theorem dX11_speed_64 : decode cX11_speed 64 = .ok (.iadd, 1) := by decide +kernel
theorem dX11_speed_65 : decode cX11_speed 65 = .ok (.iload_n 2, 1) := by decide +kernel
theorem dX11_speed_66 : decode cX11_speed 66 = .ok (.iastore, 1) := by decide +kernel
theorem dX11_speed_67 : decode cX11_speed 67 = .ok (.iload_n 3, 1) := by decide +kernel
theorem dX11_speed_68 : decode cX11_speed 68 = .ok (.ireturn, 1) := by decide +kernel
theorem dX11_speed_8 : decode cX11_speed 8 = .ok (.iload_n 2, 1) := by decide +kernel
theorem dX11_speed_9 : decode cX11_speed 9 = .ok (.invokestatic 126, 3) := by decide +kernel
theorem dX11_start_0 : decode cX11_start 0 = .ok (.aload_n 0, 1) := by decide +kernel
theorem dX11_start_1 : decode cX11_start 1 = .ok (.iload_n 1, 1) := by decide +kernel
theorem dX11_start_10 : decode cX11_start 10 = .ok (.lconst 1, 1) := by decide +kernel
theorem dX11_start_11 : decode cX11_start 11 = .ok (.ldc2_w 132, 3) := by decide +kernel
theorem dX11_start_14 : decode cX11_start 14 = .ok (.invokestatic 56, 3) := by decide +kernel
theorem dX11_start_17 : decode cX11_start 17 = .ok (.ifCond .ne 10, 3) := by decide +kernel
theorem dX11_start_2 : decode cX11_start 2 = .ok (.invokevirtual 123, 3) := by decide +kernel
theorem dX11_start_20 : decode cX11_start 20 = .ok (.aload_n 0, 1) := by decide +kernel
theorem dX11_start_21 : decode cX11_start 21 = .ok (.bipush (-2), 2) := by decide +kernel
theorem dX11_start_23 : decode cX11_start 23 = .ok (.invokevirtual 68, 3) := by decide +kernel
theorem dX11_start_26 : decode cX11_start 26 = .ok (.ireturn, 1) := by decide +kernel
theorem dX11_start_27 : decode cX11_start 27 = .ok (.aload_n 0, 1) := by decide +kernel
theorem dX11_start_28 : decode cX11_start 28 = .ok (.getfield 7, 3) := by decide +kernel
theorem dX11_start_31 : decode cX11_start 31 = .ok (.iload_n 1, 1) := by decide +kernel
theorem dX11_start_32 : decode cX11_start 32 = .ok (.invokestatic 101, 3) := by decide +kernel
theorem dX11_start_35 : decode cX11_start 35 = .ok (.ifCond .ne 23, 3) := by decide +kernel
theorem dX11_start_38 : decode cX11_start 38 = .ok (.aload_n 0, 1) := by decide +kernel
theorem dX11_start_39 : decode cX11_start 39 = .ok (.getfield 7, 3) := by decide +kernel
theorem dX11_start_42 : decode cX11_start 42 = .ok (.iconst 5, 1) := by decide +kernel
theorem dX11_start_43 : decode cX11_start 43 = .ok (.iload_n 1, 1) := by decide +kernel
theorem dX11_start_44 : decode cX11_start 44 = .ok (.iadd, 1) := by decide +kernel
theorem dX11_start_45 : decode cX11_start 45 = .ok (.iaload, 1) := by decide +kernel
theorem dX11_start_46 : decode cX11_start 46 = .ok (.iload_n 2, 1) := by decide +kernel
theorem dX11_start_47 : decode cX11_start 47 = .ok (.iadd, 1) := by decide +kernel
theorem dX11_start_48 : decode cX11_start 48 = .ok (.aload_n 0, 1) := by decide +kernel
theorem dX11_start_49 : decode cX11_start 49 = .ok (.getfield 7, 3) := by decide +kernel
theorem dX11_start_5 : decode cX11_start 5 = .ok (.ifCond .eq 15, 3) := by decide +kernel
theorem dX11_start_52 : decode cX11_start 52 = .ok (.bipush 36, 2) := by decide +kernel
theorem dX11_start_54 : decode cX11_start 54 = .ok (.iaload, 1) := by decide +kernel
theorem dX11_start_55 : decode cX11_start 55 = .ok (.if_icmp .lt 8, 3) := by decide +kernel
theorem dX11_start_58 : decode cX11_start 58 = .ok (.aload_n 0, 1) := by decide +kernel
theorem dX11_start_59 : decode cX11_start 59 = .ok (.invokevirtual 129, 3) := by decide +kernel
theorem dX11_start_62 : decode cX11_start 62 = .ok (.ireturn, 1) := by decide +kernel
theorem dX11_start_63 : decode cX11_start 63 = .ok (.aload_n 0, 1) := by decide +kernel
theorem dX11_start_64 : decode cX11_start 64 = .ok (.invokevirtual 113, 3) := by decide +kernel
theorem dX11_start_67 : decode cX11_start 67 = .ok (.aload_n 0, 1) := by decide +kernel
theorem dX11_start_68 : decode cX11_start 68 = .ok (.getfield 7, 3) := by decide +kernel
theorem dX11_start_71 : decode cX11_start 71 = .ok (.iconst 5, 1) := by decide +kernel
theorem dX11_start_72 : decode cX11_start 72 = .ok (.iload_n 1, 1) := by decide +kernel
theorem dX11_start_73 : decode cX11_start 73 = .ok (.iadd, 1) := by decide +kernel
theorem dX11_start_74 : decode cX11_start 74 = .ok (.dup2, 1) := by decide +kernel
theorem dX11_start_75 : decode cX11_start 75 = .ok (.iaload, 1) := by decide +kernel
theorem dX11_start_76 : decode cX11_start 76 = .ok (.iload_n 2, 1) := by decide +kernel
theorem dX11_start_77 : decode cX11_start 77 = .ok (.iadd, 1) := by decide +kernel
theorem dX11_start_78 : decode cX11_start 78 = .ok (.iastore, 1) := by decide +kernel
theorem dX11_start_79 : decode cX11_start 79 = .ok (.aload_n 0, 1) := by decide +kernel
theorem dX11_start_8 : decode cX11_start 8 = .ok (.iload_n 2, 1) := by decide +kernel
theorem dX11_start_80 : decode cX11_start 80 = .ok (.getfield 7, 3) := by decide +kernel
theorem dX11_start_83 : decode cX11_start 83 = .ok (.iconst 5, 1) := by decide +kernel
theorem dX11_start_84 : decode cX11_start 84 = .ok (.iload_n 1, 1) := by decide +kernel
theorem dX11_start_85 : decode cX11_start 85 = .ok (.iadd, 1) := by decide +kernel
theorem dX11_start_86 : decode cX11_start 86 = .ok (.iaload, 1) := by decide +kernel
theorem dX11_start_87 : decode cX11_start 87 = .ok (.ireturn, 1) := by decide +kernel
theorem dX11_start_9 : decode cX11_start 9 = .ok (.i2l, 1) := by decide +kernel
theorem dX11_ticks_0 : decode cX11_ticks 0 = .ok (.iload_n 1, 1) := by decide +kernel
theorem dX11_ticks_1 : decode cX11_ticks 1 = .ok (.i2l, 1) := by decide +kernel
theorem dX11_ticks_12 : decode cX11_ticks 12 = .ok (.aload_n 0, 1) := by decide +kernel
theorem dX11_ticks_13 : decode cX11_ticks 13 = .ok (.bipush (-2), 2) := by decide +kernel
theorem dX11_ticks_15 : decode cX11_ticks 15 = .ok (.invokevirtual 68, 3) := by decide +kernel
theorem dX11_ticks_18 : decode cX11_ticks 18 = .ok (.ireturn, 1) := by decide +kernel
theorem dX11_ticks_19 : decode cX11_ticks 19 = .ok (.aload_n 0, 1) := by decide +kernel
theorem dX11_ticks_2 : decode cX11_ticks 2 = .ok (.lconst 1, 1) := by decide +kernel
theorem dX11_ticks_20 : decode cX11_ticks 20 = .ok (.invokevirtual 113, 3) := by decide +kernel
theorem dX11_ticks_23 : decode cX11_ticks 23 = .ok (.aload_n 0, 1) := by decide +kernel
theorem dX11_ticks_24 : decode cX11_ticks 24 = .ok (.getfield 7, 3) := by decide +kernel
theorem dX11_ticks_27 : decode cX11_ticks 27 = .ok (.iload_n 1, 1) := by decide +kernel
theorem dX11_ticks_28 : decode cX11_ticks 28 = .ok (.invokestatic 116, 3) := by decide +kernel
theorem dX11_ticks_3 : decode cX11_ticks 3 = .ok (.ldc2_w 66, 3) := by decide +kernel
theorem dX11_ticks_31 : decode cX11_ticks 31 = .ok (.aload_n 0, 1) := by decide +kernel
theorem dX11_ticks_32 : decode cX11_ticks 32 = .ok (.getfield 7, 3) := by decide +kernel
theorem dX11_ticks_35 : decode cX11_ticks 35 = .ok (.invokestatic 119, 3) := by decide +kernel
theorem dX11_ticks_38 : decode cX11_ticks 38 = .ok (.ireturn, 1) := by decide +kernel
theorem dX11_ticks_6 : decode cX11_ticks 6 = .ok (.invokestatic 56, 3) := by decide +kernel
theorem dX11_ticks_9 : decode cX11_ticks 9 = .ok (.ifCond .ne 10, 3) := by decide +kernel
set_option maxHeartbeats 4000000 in
set_option maxRecDepth 100000 in
theorem y_is (l : Launch) (X : EX) (m0 : Nat) (ma : Nat → Nat) (la : Int64) (lb : Int64) (n : Nat) (t : Nat → Nat) (v : Nat → Int32) (fa : Nat → Int32) (c0 : Nat) (c1 : Nat) (c2 : Nat) (c3 : Nat) (c4 : Nat) (fr : Nat → Int32) (x1 : Int32) (hI_n : n ≤ 150) (hI_t : InT t) (hI_fa : InA fa c0 c1 c2 c3 c4) (sz : Nat) : Met l yX11_is wsX11_is ({ frames := 2, cells := 0, slots := 0, locals := 52 } : Room) (pE X [.ref m0, .int x1] (@HAppend.hAppend va_W va_W va_W _ (mW m0 ma la lb n t v) (@HAppend.hAppend va_W va_W va_W _ ([((ma 0), .inl (X.2.1, 371, .inl fa))]) ([((ma 3), .inl (X.2.1, 3, .inl fr))]))) sz) (qI (fun (r : Int32) (u : (Nat → Int32)) => (r = ansF (thP c0 x1) (setF (fun l => fitP c2 (fun k => fa (75 + (5 * k))) (fun k => fa ((75 + (5 * k)) + 1)) (fun k => fa ((75 + (5 * k)) + 2)) (fun k => fa ((75 + (5 * k)) + 3)) (fun k => fa ((75 + (5 * k)) + 4)) x1 (nI l)) 0 6))) X (fun (u : (Nat → Int32)) => @HAppend.hAppend va_W va_W va_W _ (mW m0 ma la lb n t v) (@HAppend.hAppend va_W va_W va_W _ ([((ma 0), .inl (X.2.1, 371, .inl fa))]) ([((ma 3), .inl (X.2.1, 3, .inl u))]))) (@HAppend.hAppend va_W va_W va_W _ (mW m0 ma la lb n t v) (@HAppend.hAppend va_W va_W va_W _ ([((ma 0), .inl (X.2.1, 371, .inl fa))]) ([((ma 3), .inl (X.2.1, 3, .inl fr))]))) sz) 0 0 (va_A (@HAppend.hAppend va_W va_W va_W _ (mW m0 ma la lb n t v) (@HAppend.hAppend va_W va_W va_W _ ([((ma 0), .inl (X.2.1, 371, .inl fa))]) ([((ma 3), .inl (X.2.1, 3, .inl fr))]))) sz) := by
  refine mk_met (B := (va_A (@HAppend.hAppend va_W va_W va_W _ (mW m0 ma la lb n t v) (@HAppend.hAppend va_W va_W va_W _ ([((ma 0), .inl (X.2.1, 371, .inl fa))]) ([((ma 3), .inl (X.2.1, 3, .inl fr))]))) sz)) (A := (va_A (@HAppend.hAppend va_W va_W va_W _ (mW m0 ma la lb n t v) (@HAppend.hAppend va_W va_W va_W _ ([((ma 0), .inl (X.2.1, 371, .inl fa))]) ([((ma 3), .inl (X.2.1, 3, .inl fr))]))) sz)) (cc := cX11_is) (maxL := 2) (ret := (some .int)) (by decide) rfl (Nat.le_of_ble_eq_true rfl) k_w k_a (fun p e s m below meth c S zr zlk znm zsz G ls hl => ?_)
  have S : CallFix p m c cX11_is 2 s _ wsX11_is RX11 := S
  have zx := S.1
  have zb := S.2.1
  have hl : lv_has ls 2 [(0, .ref m0), (1, .int x1)] := hl
  have hO_t := hI_t
  obtain ⟨ht0_t, ht1_t⟩ := hO_t
  have hO_fa := hI_fa.2
  obtain ⟨hm0_fa, hm1_fa, hm2_fa, hm3_fa, hm4_fa⟩ := hO_fa
  refine lv_aload_n zx zb dX11_is_0 rfl (lv_at hl 0 rfl) ?_
  refine lv_iload_n zx zb dX11_is_1 rfl (lv_at hl 1 rfl) ?_
  refine o_ri (cells' := 0) (slots' := 0) G rfl rfl (n_V (As := [.int x1]) (rest := []) (C := RX11) (T := TX11) (N := 18) (ci := 9) S G (m_isOne l X m0 ma la lb n t v fa c0 c1 c2 c3 c4 x1 hI_n hI_t hI_fa s.heap.size) gX11_is_X11_isOne rfl rfl rfl hdV_X11_isOne ⟨Nat.le_of_ble_eq_true rfl, Nat.le_of_ble_eq_true rfl⟩ [0, 1] rfl rfl 0 rfl rfl rfl hl.1 (Nat.le_of_ble_eq_true rfl) dX11_is_2 ⟨Nat.le_of_ble_eq_true rfl, Nat.le_of_ble_eq_true rfl⟩) (fun r_1 u_1 H locs hp_1 G => ?_)
  have G : wd X (va_A (@HAppend.hAppend va_W va_W va_W _ (mW m0 ma la lb n t v) (@HAppend.hAppend va_W va_W va_W _ ([((ma 0), .inl (X.2.1, 371, .inl fa))]) ([((ma 3), .inl (X.2.1, 3, .inl fr))]))) sz) (va_A (@HAppend.hAppend va_W va_W va_W _ (mW m0 ma la lb n t v) (@HAppend.hAppend va_W va_W va_W _ ([((ma 0), .inl (X.2.1, 371, .inl fa))]) ([((ma 3), .inl (X.2.1, 3, .inl fr))]))) sz) s (@HAppend.hAppend va_W va_W va_W _ (mW m0 ma la lb n t v) (@HAppend.hAppend va_W va_W va_W _ ([((ma 0), .inl (X.2.1, 371, .inl fa))]) ([((ma 3), .inl (X.2.1, 3, .inl fr))]))) H locs := G
  rcases hp_1 with ⟨rfl, hj_1⟩ | ⟨rfl, hj_1⟩
  · obtain ⟨j_1, hj_1, rfl⟩ := hj_1
    refine lv_if_eq (tgt := 16) zx zb dX11_is_5 (by decide) (fun c_2 => absurd c_2 (by decide)) (fun c_2 => ?_)
    refine lv_aload_n zx zb dX11_is_8 rfl (lv_at hl 0 rfl) ?_
    refine lv_iload_n zx zb dX11_is_9 rfl (lv_at hl 1 rfl) ?_
    refine o_ri (cells' := 0) (slots' := 0) G rfl rfl (n_V (As := [.int (nI j_1)]) (rest := []) (C := RX11) (T := TX11) (N := 18) (ci := 9) S G (y_kindsOfOne l X m0 ma la lb n t v fa c0 c1 c2 c3 c4 (nI j_1) hI_n hI_t hI_fa H.size) gX11_is_X11_kindsOfOne rfl rfl rfl hdV_X11_kindsOfOne ⟨Nat.le_of_ble_eq_true rfl, Nat.le_of_ble_eq_true rfl⟩ [0, 1] rfl rfl 0 rfl rfl rfl hl.1 (Nat.le_of_ble_eq_true rfl) dX11_is_10 ⟨Nat.le_of_ble_eq_true rfl, Nat.le_of_ble_eq_true rfl⟩) (fun r_3 u_3 H locs hp_3 G => ?_)
    have G : wd X (va_A (@HAppend.hAppend va_W va_W va_W _ (mW m0 ma la lb n t v) (@HAppend.hAppend va_W va_W va_W _ ([((ma 0), .inl (X.2.1, 371, .inl fa))]) ([((ma 3), .inl (X.2.1, 3, .inl fr))]))) sz) (va_A (@HAppend.hAppend va_W va_W va_W _ (mW m0 ma la lb n t v) (@HAppend.hAppend va_W va_W va_W _ ([((ma 0), .inl (X.2.1, 371, .inl fa))]) ([((ma 3), .inl (X.2.1, 3, .inl fr))]))) sz) s (@HAppend.hAppend va_W va_W va_W _ (mW m0 ma la lb n t v) (@HAppend.hAppend va_W va_W va_W _ ([((ma 0), .inl (X.2.1, 371, .inl fa))]) ([((ma 3), .inl (X.2.1, 3, .inl fr))]))) H locs := G
    refine lv_goto (tgt := 22) zx zb dX11_is_13 (by decide) ?_
    exact e_int S zr zlk (vp_nar_int _) G (fr) [0, 1, 2] rfl rfl (Or.inr rfl) (hp_3.trans (ansF_t ⟨_, hj_1, rfl⟩).symm) dX11_is_22
  · refine lv_if_eq (tgt := 16) zx zb dX11_is_5 (by decide) (fun c_4 => ?_) (fun c_4 => absurd (by decide) c_4)
    refine lv_aload_n zx zb dX11_is_16 rfl (lv_at hl 0 rfl) ?_
    refine lv_bipush (v := (-2)) zx zb dX11_is_17 (by decide) ?_
    refine b_wi (cells' := 0) (slots' := 0) (wr := [((ma 0), .inl (X.2.1, 371, .inl fa))]) G rfl rfl [0, 2] [1] rfl rfl rfl rfl (n_V (As := [.int (-2)]) (rest := []) (C := RX11) (T := TX11) (N := 18) (ci := 9) S G (m_bad l X m0 ma la lb n t v fr (-2) hI_n hI_t H.size) gX11_is_X11_bad rfl rfl rfl hdV_X11_bad ⟨Nat.le_of_ble_eq_true rfl, Nat.le_of_ble_eq_true rfl⟩ [0, 2] rfl rfl 0 rfl rfl rfl hl.1 (Nat.le_of_ble_eq_true rfl) dX11_is_19 ⟨Nat.le_of_ble_eq_true rfl, Nat.le_of_ble_eq_true rfl⟩) (fun r_5 u_5 H locs hp_5 G => ?_)
    obtain ⟨f_5, rfl⟩ : ∃ z, z = u_5 := ⟨_, rfl⟩
    have hq_5 := hp_5
    have G : wd X (va_A (@HAppend.hAppend va_W va_W va_W _ (mW m0 ma la lb n t v) (@HAppend.hAppend va_W va_W va_W _ ([((ma 0), .inl (X.2.1, 371, .inl fa))]) ([((ma 3), .inl (X.2.1, 3, .inl fr))]))) sz) (va_A (@HAppend.hAppend va_W va_W va_W _ (mW m0 ma la lb n t v) (@HAppend.hAppend va_W va_W va_W _ ([((ma 0), .inl (X.2.1, 371, .inl fa))]) ([((ma 3), .inl (X.2.1, 3, .inl fr))]))) sz) s (@HAppend.hAppend va_W va_W va_W _ ([((ma 0), .inl (X.2.1, 371, .inl fa))]) (@HAppend.hAppend va_W va_W va_W _ (mW m0 ma la lb n t v) ([((ma 3), .inl (X.2.1, 3, .inl f_5))]))) H locs := G
    obtain rfl := hq_5
    exact e_int S zr zlk (vp_nar_int _) G (f_5) [1, 0, 2] rfl rfl (Or.inr rfl) ((ansF_f (fun h => hj_1 h)).symm) dX11_is_22
set_option maxHeartbeats 4000000 in
set_option maxRecDepth 100000 in
theorem y_kinds (l : Launch) (X : EX) (m0 : Nat) (ma : Nat → Nat) (la : Int64) (lb : Int64) (n : Nat) (t : Nat → Nat) (v : Nat → Int32) (fa : Nat → Int32) (c0 : Nat) (c1 : Nat) (c2 : Nat) (c3 : Nat) (c4 : Nat) (fr : Nat → Int32) (x1 : Int32) (hI_n : n ≤ 150) (hI_t : InT t) (hI_fa : InA fa c0 c1 c2 c3 c4) (sz : Nat) : Met l yX11_kinds wsX11_kinds ({ frames := 2, cells := 0, slots := 0, locals := 48 } : Room) (pE X [.ref m0, .int x1] (@HAppend.hAppend va_W va_W va_W _ (mW m0 ma la lb n t v) (@HAppend.hAppend va_W va_W va_W _ ([((ma 0), .inl (X.2.1, 371, .inl fa))]) ([((ma 3), .inl (X.2.1, 3, .inl fr))]))) sz) (qI (fun (r : Int32) (u : (Nat → Int32)) => (r = ansF (thP c0 x1) (setF (fun l => eggP c3 (fun k => fa (105 + (3 * k))) (fun k => fa ((105 + (3 * k)) + 1)) (fun k => fa ((105 + (3 * k)) + 2)) x1 (nI l)) 0 6))) X (fun (u : (Nat → Int32)) => @HAppend.hAppend va_W va_W va_W _ (mW m0 ma la lb n t v) (@HAppend.hAppend va_W va_W va_W _ ([((ma 0), .inl (X.2.1, 371, .inl fa))]) ([((ma 3), .inl (X.2.1, 3, .inl u))]))) (@HAppend.hAppend va_W va_W va_W _ (mW m0 ma la lb n t v) (@HAppend.hAppend va_W va_W va_W _ ([((ma 0), .inl (X.2.1, 371, .inl fa))]) ([((ma 3), .inl (X.2.1, 3, .inl fr))]))) sz) 0 0 (va_A (@HAppend.hAppend va_W va_W va_W _ (mW m0 ma la lb n t v) (@HAppend.hAppend va_W va_W va_W _ ([((ma 0), .inl (X.2.1, 371, .inl fa))]) ([((ma 3), .inl (X.2.1, 3, .inl fr))]))) sz) := by
  refine mk_met (B := (va_A (@HAppend.hAppend va_W va_W va_W _ (mW m0 ma la lb n t v) (@HAppend.hAppend va_W va_W va_W _ ([((ma 0), .inl (X.2.1, 371, .inl fa))]) ([((ma 3), .inl (X.2.1, 3, .inl fr))]))) sz)) (A := (va_A (@HAppend.hAppend va_W va_W va_W _ (mW m0 ma la lb n t v) (@HAppend.hAppend va_W va_W va_W _ ([((ma 0), .inl (X.2.1, 371, .inl fa))]) ([((ma 3), .inl (X.2.1, 3, .inl fr))]))) sz)) (cc := cX11_kinds) (maxL := 2) (ret := (some .int)) (by decide) rfl (Nat.le_of_ble_eq_true rfl) k_w k_a (fun p e s m below meth c S zr zlk znm zsz G ls hl => ?_)
  have S : CallFix p m c cX11_kinds 2 s _ wsX11_kinds RX11 := S
  have zx := S.1
  have zb := S.2.1
  have hl : lv_has ls 2 [(0, .ref m0), (1, .int x1)] := hl
  have hO_t := hI_t
  obtain ⟨ht0_t, ht1_t⟩ := hO_t
  have hO_fa := hI_fa.2
  obtain ⟨hm0_fa, hm1_fa, hm2_fa, hm3_fa, hm4_fa⟩ := hO_fa
  refine lv_aload_n zx zb dX11_kinds_0 rfl (lv_at hl 0 rfl) ?_
  refine lv_iload_n zx zb dX11_kinds_1 rfl (lv_at hl 1 rfl) ?_
  refine o_ri (cells' := 0) (slots' := 0) G rfl rfl (n_V (As := [.int x1]) (rest := []) (C := RX11) (T := TX11) (N := 18) (ci := 9) S G (m_isOne l X m0 ma la lb n t v fa c0 c1 c2 c3 c4 x1 hI_n hI_t hI_fa s.heap.size) gX11_kinds_X11_isOne rfl rfl rfl hdV_X11_isOne ⟨Nat.le_of_ble_eq_true rfl, Nat.le_of_ble_eq_true rfl⟩ [0, 1] rfl rfl 0 rfl rfl rfl hl.1 (Nat.le_of_ble_eq_true rfl) dX11_kinds_2 ⟨Nat.le_of_ble_eq_true rfl, Nat.le_of_ble_eq_true rfl⟩) (fun r_1 u_1 H locs hp_1 G => ?_)
  have G : wd X (va_A (@HAppend.hAppend va_W va_W va_W _ (mW m0 ma la lb n t v) (@HAppend.hAppend va_W va_W va_W _ ([((ma 0), .inl (X.2.1, 371, .inl fa))]) ([((ma 3), .inl (X.2.1, 3, .inl fr))]))) sz) (va_A (@HAppend.hAppend va_W va_W va_W _ (mW m0 ma la lb n t v) (@HAppend.hAppend va_W va_W va_W _ ([((ma 0), .inl (X.2.1, 371, .inl fa))]) ([((ma 3), .inl (X.2.1, 3, .inl fr))]))) sz) s (@HAppend.hAppend va_W va_W va_W _ (mW m0 ma la lb n t v) (@HAppend.hAppend va_W va_W va_W _ ([((ma 0), .inl (X.2.1, 371, .inl fa))]) ([((ma 3), .inl (X.2.1, 3, .inl fr))]))) H locs := G
  rcases hp_1 with ⟨rfl, hj_1⟩ | ⟨rfl, hj_1⟩
  · obtain ⟨j_1, hj_1, rfl⟩ := hj_1
    refine lv_if_eq (tgt := 16) zx zb dX11_kinds_5 (by decide) (fun c_2 => absurd c_2 (by decide)) (fun c_2 => ?_)
    refine lv_aload_n zx zb dX11_kinds_8 rfl (lv_at hl 0 rfl) ?_
    refine lv_iload_n zx zb dX11_kinds_9 rfl (lv_at hl 1 rfl) ?_
    refine o_ri (cells' := 0) (slots' := 0) G rfl rfl (n_V (As := [.int (nI j_1)]) (rest := []) (C := RX11) (T := TX11) (N := 18) (ci := 9) S G (y_kindsOfEgg l X m0 ma la lb n t v fa c0 c1 c2 c3 c4 (nI j_1) hI_n hI_t hI_fa H.size) gX11_kinds_X11_kindsOfEgg rfl rfl rfl hdV_X11_kindsOfEgg ⟨Nat.le_of_ble_eq_true rfl, Nat.le_of_ble_eq_true rfl⟩ [0, 1] rfl rfl 0 rfl rfl rfl hl.1 (Nat.le_of_ble_eq_true rfl) dX11_kinds_10 ⟨Nat.le_of_ble_eq_true rfl, Nat.le_of_ble_eq_true rfl⟩) (fun r_3 u_3 H locs hp_3 G => ?_)
    have G : wd X (va_A (@HAppend.hAppend va_W va_W va_W _ (mW m0 ma la lb n t v) (@HAppend.hAppend va_W va_W va_W _ ([((ma 0), .inl (X.2.1, 371, .inl fa))]) ([((ma 3), .inl (X.2.1, 3, .inl fr))]))) sz) (va_A (@HAppend.hAppend va_W va_W va_W _ (mW m0 ma la lb n t v) (@HAppend.hAppend va_W va_W va_W _ ([((ma 0), .inl (X.2.1, 371, .inl fa))]) ([((ma 3), .inl (X.2.1, 3, .inl fr))]))) sz) s (@HAppend.hAppend va_W va_W va_W _ (mW m0 ma la lb n t v) (@HAppend.hAppend va_W va_W va_W _ ([((ma 0), .inl (X.2.1, 371, .inl fa))]) ([((ma 3), .inl (X.2.1, 3, .inl fr))]))) H locs := G
    refine lv_goto (tgt := 22) zx zb dX11_kinds_13 (by decide) ?_
    exact e_int S zr zlk (vp_nar_int _) G (fr) [0, 1, 2] rfl rfl (Or.inr rfl) (hp_3.trans (ansF_t ⟨_, hj_1, rfl⟩).symm) dX11_kinds_22
  · refine lv_if_eq (tgt := 16) zx zb dX11_kinds_5 (by decide) (fun c_4 => ?_) (fun c_4 => absurd (by decide) c_4)
    refine lv_aload_n zx zb dX11_kinds_16 rfl (lv_at hl 0 rfl) ?_
    refine lv_bipush (v := (-2)) zx zb dX11_kinds_17 (by decide) ?_
    refine b_wi (cells' := 0) (slots' := 0) (wr := [((ma 0), .inl (X.2.1, 371, .inl fa))]) G rfl rfl [0, 2] [1] rfl rfl rfl rfl (n_V (As := [.int (-2)]) (rest := []) (C := RX11) (T := TX11) (N := 18) (ci := 9) S G (m_bad l X m0 ma la lb n t v fr (-2) hI_n hI_t H.size) gX11_kinds_X11_bad rfl rfl rfl hdV_X11_bad ⟨Nat.le_of_ble_eq_true rfl, Nat.le_of_ble_eq_true rfl⟩ [0, 2] rfl rfl 0 rfl rfl rfl hl.1 (Nat.le_of_ble_eq_true rfl) dX11_kinds_19 ⟨Nat.le_of_ble_eq_true rfl, Nat.le_of_ble_eq_true rfl⟩) (fun r_5 u_5 H locs hp_5 G => ?_)
    obtain ⟨f_5, rfl⟩ : ∃ z, z = u_5 := ⟨_, rfl⟩
    have hq_5 := hp_5
    have G : wd X (va_A (@HAppend.hAppend va_W va_W va_W _ (mW m0 ma la lb n t v) (@HAppend.hAppend va_W va_W va_W _ ([((ma 0), .inl (X.2.1, 371, .inl fa))]) ([((ma 3), .inl (X.2.1, 3, .inl fr))]))) sz) (va_A (@HAppend.hAppend va_W va_W va_W _ (mW m0 ma la lb n t v) (@HAppend.hAppend va_W va_W va_W _ ([((ma 0), .inl (X.2.1, 371, .inl fa))]) ([((ma 3), .inl (X.2.1, 3, .inl fr))]))) sz) s (@HAppend.hAppend va_W va_W va_W _ ([((ma 0), .inl (X.2.1, 371, .inl fa))]) (@HAppend.hAppend va_W va_W va_W _ (mW m0 ma la lb n t v) ([((ma 3), .inl (X.2.1, 3, .inl f_5))]))) H locs := G
    obtain rfl := hq_5
    exact e_int S zr zlk (vp_nar_int _) G (f_5) [1, 0, 2] rfl rfl (Or.inr rfl) ((ansF_f (fun h => hj_1 h)).symm) dX11_kinds_22
set_option maxHeartbeats 4000000 in
set_option maxRecDepth 100000 in
theorem y_seen (l : Launch) (X : EX) (m0 : Nat) (ma : Nat → Nat) (la : Int64) (lb : Int64) (n : Nat) (t : Nat → Nat) (v : Nat → Int32) (fa : Nat → Int32) (c0 : Nat) (c1 : Nat) (c2 : Nat) (c3 : Nat) (c4 : Nat) (fr : Nat → Int32) (x1 : Int32) (x2 : Int32) (x3 : Int32) (x4 : Int32) (hI_n : n ≤ 150) (hI_t : InT t) (hI_fa : InA fa c0 c1 c2 c3 c4) (sz : Nat) : Met l yX11_seen wsX11_seen ({ frames := 2, cells := 0, slots := 0, locals := 46 } : Room) (pE X [.ref m0, .int x1, .int x2, .int x3, .int x4] (@HAppend.hAppend va_W va_W va_W _ (mW m0 ma la lb n t v) (@HAppend.hAppend va_W va_W va_W _ ([((ma 0), .inl (X.2.1, 371, .inl fa))]) ([((ma 3), .inl (X.2.1, 3, .inl fr))]))) sz) (qI (fun (r : Int32) (u : (Nat → Int32) × (Nat) × (Nat → Int32)) => InA u.1 c0 u.2.1 c2 c3 c4 ∧ ((r, (u.2.1, u.1)) = apgF (thP c0 x1 ∧ ((0 : Int32) ≤ x2 ∧ x2 ≤ 99) ∧ ((0 : Int32) ≤ x3 ∧ x3 ≤ 9) ∧ ((0 : Int32) ≤ x4 ∧ x4 ≤ 15)) 5 c1 fa (seenM fa c1 x1 x2 x3 x4))) X (fun (u : (Nat → Int32) × (Nat) × (Nat → Int32)) => @HAppend.hAppend va_W va_W va_W _ (mW m0 ma la lb n t v) (@HAppend.hAppend va_W va_W va_W _ ([((ma 0), .inl (X.2.1, 371, .inl u.1))]) ([((ma 3), .inl (X.2.1, 3, .inl u.2.2))]))) (@HAppend.hAppend va_W va_W va_W _ (mW m0 ma la lb n t v) (@HAppend.hAppend va_W va_W va_W _ ([((ma 0), .inl (X.2.1, 371, .inl fa))]) ([((ma 3), .inl (X.2.1, 3, .inl fr))]))) sz) 0 0 (va_A (@HAppend.hAppend va_W va_W va_W _ (mW m0 ma la lb n t v) (@HAppend.hAppend va_W va_W va_W _ ([((ma 0), .inl (X.2.1, 371, .inl fa))]) ([((ma 3), .inl (X.2.1, 3, .inl fr))]))) sz) := by
  refine mk_met (B := (va_A (@HAppend.hAppend va_W va_W va_W _ (mW m0 ma la lb n t v) (@HAppend.hAppend va_W va_W va_W _ ([((ma 0), .inl (X.2.1, 371, .inl fa))]) ([((ma 3), .inl (X.2.1, 3, .inl fr))]))) sz)) (A := (va_A (@HAppend.hAppend va_W va_W va_W _ (mW m0 ma la lb n t v) (@HAppend.hAppend va_W va_W va_W _ ([((ma 0), .inl (X.2.1, 371, .inl fa))]) ([((ma 3), .inl (X.2.1, 3, .inl fr))]))) sz)) (cc := cX11_seen) (maxL := 6) (ret := (some .int)) (by decide) rfl (Nat.le_of_ble_eq_true rfl) k_w k_a (fun p e s m below meth c S zr zlk znm zsz G ls hl => ?_)
  have S : CallFix p m c cX11_seen 6 s _ wsX11_seen RX11 := S
  have zx := S.1
  have zb := S.2.1
  have hl : lv_has ls 6 [(0, .ref m0), (1, .int x1), (2, .int x2), (3, .int x3), (4, .int x4)] := hl
  have hO_t := hI_t
  obtain ⟨ht0_t, ht1_t⟩ := hO_t
  have hO_fa := hI_fa.2
  obtain ⟨hm0_fa, hm1_fa, hm2_fa, hm3_fa, hm4_fa⟩ := hO_fa
  refine lv_aload_n zx zb dX11_seen_0 rfl (lv_at hl 0 rfl) ?_
  refine lv_iload_n zx zb dX11_seen_1 rfl (lv_at hl 1 rfl) ?_
  refine o_ri (cells' := 0) (slots' := 0) G rfl rfl (n_V (As := [.int x1]) (rest := []) (C := RX11) (T := TX11) (N := 18) (ci := 9) S G (m_isOne l X m0 ma la lb n t v fa c0 c1 c2 c3 c4 x1 hI_n hI_t hI_fa s.heap.size) gX11_seen_X11_isOne rfl rfl rfl hdV_X11_isOne ⟨Nat.le_of_ble_eq_true rfl, Nat.le_of_ble_eq_true rfl⟩ [0, 1] rfl rfl 0 rfl rfl rfl hl.1 (Nat.le_of_ble_eq_true rfl) dX11_seen_2 ⟨Nat.le_of_ble_eq_true rfl, Nat.le_of_ble_eq_true rfl⟩) (fun r_1 u_1 H locs hp_1 G => ?_)
  have G : wd X (va_A (@HAppend.hAppend va_W va_W va_W _ (mW m0 ma la lb n t v) (@HAppend.hAppend va_W va_W va_W _ ([((ma 0), .inl (X.2.1, 371, .inl fa))]) ([((ma 3), .inl (X.2.1, 3, .inl fr))]))) sz) (va_A (@HAppend.hAppend va_W va_W va_W _ (mW m0 ma la lb n t v) (@HAppend.hAppend va_W va_W va_W _ ([((ma 0), .inl (X.2.1, 371, .inl fa))]) ([((ma 3), .inl (X.2.1, 3, .inl fr))]))) sz) s (@HAppend.hAppend va_W va_W va_W _ (mW m0 ma la lb n t v) (@HAppend.hAppend va_W va_W va_W _ ([((ma 0), .inl (X.2.1, 371, .inl fa))]) ([((ma 3), .inl (X.2.1, 3, .inl fr))]))) H locs := G
  rcases hp_1 with ⟨rfl, hj_1⟩ | ⟨rfl, hj_1⟩
  · obtain ⟨j_1, hj_1, rfl⟩ := hj_1
    refine lv_if_eq (tgt := 40) zx zb dX11_seen_5 (by decide) (fun c_2 => absurd c_2 (by decide)) (fun c_2 => ?_)
    refine lv_iload_n zx zb dX11_seen_8 rfl (lv_at hl 2 rfl) ?_
    refine lv_i2l (v := (Int32.toInt64 x2)) zx zb dX11_seen_9 rfl ?_
    refine lv_lconst (v := (Int32.toInt64 0)) zx zb dX11_seen_10 (by decide) ?_
    refine lv_ldc2 zx zb S.2.2.2.1 (S.2.2.2.2 _ mm_X11_seen_c152) dX11_seen_11 ?_
    refine k_ld (v := (Int32.toInt64 99)) (by decide) ?_
    refine o_ri (cells' := 0) (slots' := 0) G rfl rfl (n_S (As := [.long (Int32.toInt64 x2), .long (Int32.toInt64 0), .long (Int32.toInt64 99)]) (rest := []) S G (m_in l X x2 0 99 H.size) gX11_seen_X11_in rfl rfl rfl hdS_X11_in ⟨Nat.le_of_ble_eq_true rfl, Nat.le_of_ble_eq_true rfl⟩ [] rfl rfl rfl hl.1 (Nat.le_of_ble_eq_true rfl) dX11_seen_14 ⟨Nat.le_of_ble_eq_true rfl, Nat.le_of_ble_eq_true rfl⟩) (fun r_3 u_3 H locs hp_3 G => ?_)
    have G : wd X (va_A (@HAppend.hAppend va_W va_W va_W _ (mW m0 ma la lb n t v) (@HAppend.hAppend va_W va_W va_W _ ([((ma 0), .inl (X.2.1, 371, .inl fa))]) ([((ma 3), .inl (X.2.1, 3, .inl fr))]))) sz) (va_A (@HAppend.hAppend va_W va_W va_W _ (mW m0 ma la lb n t v) (@HAppend.hAppend va_W va_W va_W _ ([((ma 0), .inl (X.2.1, 371, .inl fa))]) ([((ma 3), .inl (X.2.1, 3, .inl fr))]))) sz) s (@HAppend.hAppend va_W va_W va_W _ (mW m0 ma la lb n t v) (@HAppend.hAppend va_W va_W va_W _ ([((ma 0), .inl (X.2.1, 371, .inl fa))]) ([((ma 3), .inl (X.2.1, 3, .inl fr))]))) H locs := G
    rcases hp_3 with ⟨rfl, hw_3⟩ | ⟨rfl, hw_3⟩
    · obtain ⟨j_3, ⟨ja_3, jb_3⟩, rfl⟩ := k_natR (a := 0) (b := 99) hw_3 rfl rfl (by decide) (by decide)
      refine lv_if_eq (tgt := 40) zx zb dX11_seen_17 (by decide) (fun c_4 => absurd c_4 (by decide)) (fun c_4 => ?_)
      refine lv_iload_n zx zb dX11_seen_20 rfl (lv_at hl 3 rfl) ?_
      refine o_ri (cells' := 0) (slots' := 0) G rfl rfl (n_S (As := [.int x3]) (rest := []) S G (m_isSpeed l X x3 H.size) gX11_seen_X11_isSpeed rfl rfl rfl hdS_X11_isSpeed ⟨Nat.le_of_ble_eq_true rfl, Nat.le_of_ble_eq_true rfl⟩ [] rfl rfl rfl hl.1 (Nat.le_of_ble_eq_true rfl) dX11_seen_21 ⟨Nat.le_of_ble_eq_true rfl, Nat.le_of_ble_eq_true rfl⟩) (fun r_5 u_5 H locs hp_5 G => ?_)
      have G : wd X (va_A (@HAppend.hAppend va_W va_W va_W _ (mW m0 ma la lb n t v) (@HAppend.hAppend va_W va_W va_W _ ([((ma 0), .inl (X.2.1, 371, .inl fa))]) ([((ma 3), .inl (X.2.1, 3, .inl fr))]))) sz) (va_A (@HAppend.hAppend va_W va_W va_W _ (mW m0 ma la lb n t v) (@HAppend.hAppend va_W va_W va_W _ ([((ma 0), .inl (X.2.1, 371, .inl fa))]) ([((ma 3), .inl (X.2.1, 3, .inl fr))]))) sz) s (@HAppend.hAppend va_W va_W va_W _ (mW m0 ma la lb n t v) (@HAppend.hAppend va_W va_W va_W _ ([((ma 0), .inl (X.2.1, 371, .inl fa))]) ([((ma 3), .inl (X.2.1, 3, .inl fr))]))) H locs := G
      rcases hp_5 with ⟨rfl, hw_5⟩ | ⟨rfl, hw_5⟩
      · obtain ⟨j_5, ⟨ja_5, jb_5⟩, rfl⟩ := k_natR (a := 0) (b := 9) hw_5 rfl rfl (by decide) (by decide)
        refine lv_if_eq (tgt := 40) zx zb dX11_seen_24 (by decide) (fun c_6 => absurd c_6 (by decide)) (fun c_6 => ?_)
        refine lv_iload zx zb dX11_seen_27 (lv_at hl 4 rfl) ?_
        refine lv_i2l (v := (Int32.toInt64 x4)) zx zb dX11_seen_29 rfl ?_
        refine lv_lconst (v := (Int32.toInt64 0)) zx zb dX11_seen_30 (by decide) ?_
        refine lv_ldc2 zx zb S.2.2.2.1 (S.2.2.2.2 _ mm_X11_seen_c154) dX11_seen_31 ?_
        refine k_ld (v := (Int32.toInt64 15)) (by decide) ?_
        refine o_ri (cells' := 0) (slots' := 0) G rfl rfl (n_S (As := [.long (Int32.toInt64 x4), .long (Int32.toInt64 0), .long (Int32.toInt64 15)]) (rest := []) S G (m_in l X x4 0 15 H.size) gX11_seen_X11_in rfl rfl rfl hdS_X11_in ⟨Nat.le_of_ble_eq_true rfl, Nat.le_of_ble_eq_true rfl⟩ [] rfl rfl rfl hl.1 (Nat.le_of_ble_eq_true rfl) dX11_seen_34 ⟨Nat.le_of_ble_eq_true rfl, Nat.le_of_ble_eq_true rfl⟩) (fun r_7 u_7 H locs hp_7 G => ?_)
        have G : wd X (va_A (@HAppend.hAppend va_W va_W va_W _ (mW m0 ma la lb n t v) (@HAppend.hAppend va_W va_W va_W _ ([((ma 0), .inl (X.2.1, 371, .inl fa))]) ([((ma 3), .inl (X.2.1, 3, .inl fr))]))) sz) (va_A (@HAppend.hAppend va_W va_W va_W _ (mW m0 ma la lb n t v) (@HAppend.hAppend va_W va_W va_W _ ([((ma 0), .inl (X.2.1, 371, .inl fa))]) ([((ma 3), .inl (X.2.1, 3, .inl fr))]))) sz) s (@HAppend.hAppend va_W va_W va_W _ (mW m0 ma la lb n t v) (@HAppend.hAppend va_W va_W va_W _ ([((ma 0), .inl (X.2.1, 371, .inl fa))]) ([((ma 3), .inl (X.2.1, 3, .inl fr))]))) H locs := G
        rcases hp_7 with ⟨rfl, hw_7⟩ | ⟨rfl, hw_7⟩
        · obtain ⟨j_7, ⟨ja_7, jb_7⟩, rfl⟩ := k_natR (a := 0) (b := 15) hw_7 rfl rfl (by decide) (by decide)
          refine lv_if_ne (tgt := 47) zx zb dX11_seen_37 (by decide) (fun c_8 => ?_) (fun c_8 => absurd c_8 (by decide))
          refine lv_aload_n zx zb dX11_seen_47 rfl (lv_at hl 0 rfl) ?_
          refine r_get (C := RX11) (T := TX11) (N := 18) (ci := 9) (v := .ref (ma 0)) S in_X11_seen_X11 G 0 rfl rfl 0 (by decide) lk_X11_seen_7 rfl dX11_seen_48 ?_
          refine lv_iconst (v := 1) zx zb dX11_seen_51 (by decide) ?_
          refine r_iald (v := (nI c1)) S G 1 rfl (k_vp (by decide)) hI_fa.1.2.1 dX11_seen_52 ?_
          refine lv_iconst (v := 5) zx zb dX11_seen_53 (by decide) ?_
          refine lv_icmp_ne (tgt := 62) zx zb dX11_seen_54 (by decide) (fun c_10 => ?_) (fun c_10 => ?_)
          · have fc_10 := j_ne (a := c1) (b := 5) c_10
            refine lv_bipush (v := 55) zx zb dX11_seen_62 (by decide) ?_
            refine lv_iconst (v := 4) zx zb dX11_seen_64 (by decide) ?_
            refine lv_aload_n zx zb dX11_seen_65 rfl (lv_at hl 0 rfl) ?_
            refine r_get (C := RX11) (T := TX11) (N := 18) (ci := 9) (v := .ref (ma 0)) S in_X11_seen_X11 G 0 rfl rfl 0 (by decide) lk_X11_seen_7 rfl dX11_seen_66 ?_
            refine lv_iconst (v := 1) zx zb dX11_seen_69 (by decide) ?_
            refine r_iald (v := (nI c1)) S G 1 rfl (k_vp (by decide)) hI_fa.1.2.1 dX11_seen_70 ?_
            refine r_imul (v := (nI (4 * c1))) S (pk_mul 4 c1) dX11_seen_71 ?_
            refine r_iadd (v := (nI (55 + (4 * c1)))) S (nI_add 55 (4 * c1)) dX11_seen_72 ?_
            refine lv_istore (lv' := [(5, .int (nI (55 + (4 * c1)))), (0, .ref m0), (1, .int (nI j_1)), (2, .int (nI j_3)), (3, .int (nI j_5)), (4, .int (nI j_7))]) zx zb dX11_seen_73 hl (by decide) rfl (fun ls hl => ?_)
            refine lv_aload_n zx zb dX11_seen_75 rfl (lv_at hl 1 rfl) ?_
            refine r_get (C := RX11) (T := TX11) (N := 18) (ci := 9) (v := .ref (ma 0)) S in_X11_seen_X11 G 0 rfl rfl 0 (by decide) lk_X11_seen_7 rfl dX11_seen_76 ?_
            refine lv_iload zx zb dX11_seen_79 (lv_at hl 0 rfl) ?_
            refine lv_iload_n zx zb dX11_seen_81 rfl (lv_at hl 2 rfl) ?_
            refine r_iast S G 1 rfl (vp_in_nI (by omega) (by decide)) dX11_seen_82 (fun H locs G => ?_)
            obtain ⟨f_12, hI_f_12, hE_f_12, G⟩ : ∃ f_12 : Nat → Int32, InA f_12 c0 c1 c2 c3 c4 ∧ f_12 = upd fa (nI (55 + (4 * c1))).toNatClampNeg (nI j_1) ∧ wd X (va_A (@HAppend.hAppend va_W va_W va_W _ (mW m0 ma la lb n t v) (@HAppend.hAppend va_W va_W va_W _ ([((ma 0), .inl (X.2.1, 371, .inl fa))]) ([((ma 3), .inl (X.2.1, 3, .inl fr))]))) sz) (va_A (@HAppend.hAppend va_W va_W va_W _ (mW m0 ma la lb n t v) (@HAppend.hAppend va_W va_W va_W _ ([((ma 0), .inl (X.2.1, 371, .inl fa))]) ([((ma 3), .inl (X.2.1, 3, .inl fr))]))) sz) s (@HAppend.hAppend va_W va_W va_W _ (mW m0 ma la lb n t v) (@HAppend.hAppend va_W va_W va_W _ ([((ma 0), .inl (X.2.1, 371, .inl f_12))]) ([((ma 3), .inl (X.2.1, 3, .inl fr))]))) H locs := ⟨_, InA_o hI_fa (by rw [nI_clamp (by omega)]; omega), rfl, G⟩
            refine lv_aload_n zx zb dX11_seen_83 rfl (lv_at hl 1 rfl) ?_
            refine r_get (C := RX11) (T := TX11) (N := 18) (ci := 9) (v := .ref (ma 0)) S in_X11_seen_X11 G 0 rfl rfl 0 (by decide) lk_X11_seen_7 rfl dX11_seen_84 ?_
            refine lv_iload zx zb dX11_seen_87 (lv_at hl 0 rfl) ?_
            refine lv_iconst (v := 1) zx zb dX11_seen_89 (by decide) ?_
            refine r_iadd (v := (nI ((55 + (4 * c1)) + 1))) S (nI_add (55 + (4 * c1)) 1) dX11_seen_90 ?_
            refine lv_iload_n zx zb dX11_seen_91 rfl (lv_at hl 3 rfl) ?_
            refine r_iast S G 1 rfl (vp_in_nI (by omega) (by decide)) dX11_seen_92 (fun H locs G => ?_)
            obtain ⟨f_13, hI_f_13, hE_f_13, G⟩ : ∃ f_13 : Nat → Int32, InA f_13 c0 c1 c2 c3 c4 ∧ f_13 = upd f_12 (nI ((55 + (4 * c1)) + 1)).toNatClampNeg (nI j_3) ∧ wd X (va_A (@HAppend.hAppend va_W va_W va_W _ (mW m0 ma la lb n t v) (@HAppend.hAppend va_W va_W va_W _ ([((ma 0), .inl (X.2.1, 371, .inl fa))]) ([((ma 3), .inl (X.2.1, 3, .inl fr))]))) sz) (va_A (@HAppend.hAppend va_W va_W va_W _ (mW m0 ma la lb n t v) (@HAppend.hAppend va_W va_W va_W _ ([((ma 0), .inl (X.2.1, 371, .inl fa))]) ([((ma 3), .inl (X.2.1, 3, .inl fr))]))) sz) s (@HAppend.hAppend va_W va_W va_W _ (mW m0 ma la lb n t v) (@HAppend.hAppend va_W va_W va_W _ ([((ma 0), .inl (X.2.1, 371, .inl f_13))]) ([((ma 3), .inl (X.2.1, 3, .inl fr))]))) H locs := ⟨_, InA_o hI_f_12 (by rw [nI_clamp (by omega)]; omega), rfl, G⟩
            refine lv_aload_n zx zb dX11_seen_93 rfl (lv_at hl 1 rfl) ?_
            refine r_get (C := RX11) (T := TX11) (N := 18) (ci := 9) (v := .ref (ma 0)) S in_X11_seen_X11 G 0 rfl rfl 0 (by decide) lk_X11_seen_7 rfl dX11_seen_94 ?_
            refine lv_iload zx zb dX11_seen_97 (lv_at hl 0 rfl) ?_
            refine lv_iconst (v := 2) zx zb dX11_seen_99 (by decide) ?_
            refine r_iadd (v := (nI ((55 + (4 * c1)) + 2))) S (nI_add (55 + (4 * c1)) 2) dX11_seen_100 ?_
            refine lv_iload_n zx zb dX11_seen_101 rfl (lv_at hl 4 rfl) ?_
            refine r_iast S G 1 rfl (vp_in_nI (by omega) (by decide)) dX11_seen_102 (fun H locs G => ?_)
            obtain ⟨f_14, hI_f_14, hE_f_14, G⟩ : ∃ f_14 : Nat → Int32, InA f_14 c0 c1 c2 c3 c4 ∧ f_14 = upd f_13 (nI ((55 + (4 * c1)) + 2)).toNatClampNeg (nI j_5) ∧ wd X (va_A (@HAppend.hAppend va_W va_W va_W _ (mW m0 ma la lb n t v) (@HAppend.hAppend va_W va_W va_W _ ([((ma 0), .inl (X.2.1, 371, .inl fa))]) ([((ma 3), .inl (X.2.1, 3, .inl fr))]))) sz) (va_A (@HAppend.hAppend va_W va_W va_W _ (mW m0 ma la lb n t v) (@HAppend.hAppend va_W va_W va_W _ ([((ma 0), .inl (X.2.1, 371, .inl fa))]) ([((ma 3), .inl (X.2.1, 3, .inl fr))]))) sz) s (@HAppend.hAppend va_W va_W va_W _ (mW m0 ma la lb n t v) (@HAppend.hAppend va_W va_W va_W _ ([((ma 0), .inl (X.2.1, 371, .inl f_14))]) ([((ma 3), .inl (X.2.1, 3, .inl fr))]))) H locs := ⟨_, InA_o hI_f_13 (by rw [nI_clamp (by omega)]; omega), rfl, G⟩
            refine lv_aload_n zx zb dX11_seen_103 rfl (lv_at hl 1 rfl) ?_
            refine r_get (C := RX11) (T := TX11) (N := 18) (ci := 9) (v := .ref (ma 0)) S in_X11_seen_X11 G 0 rfl rfl 0 (by decide) lk_X11_seen_7 rfl dX11_seen_104 ?_
            refine lv_iload zx zb dX11_seen_107 (lv_at hl 0 rfl) ?_
            refine lv_iconst (v := 3) zx zb dX11_seen_109 (by decide) ?_
            refine r_iadd (v := (nI ((55 + (4 * c1)) + 3))) S (nI_add (55 + (4 * c1)) 3) dX11_seen_110 ?_
            refine lv_iload zx zb dX11_seen_111 (lv_at hl 5 rfl) ?_
            refine r_iast S G 1 rfl (vp_in_nI (by omega) (by decide)) dX11_seen_113 (fun H locs G => ?_)
            obtain ⟨f_15, hI_f_15, hE_f_15, G⟩ : ∃ f_15 : Nat → Int32, InA f_15 c0 c1 c2 c3 c4 ∧ f_15 = upd f_14 (nI ((55 + (4 * c1)) + 3)).toNatClampNeg (nI j_7) ∧ wd X (va_A (@HAppend.hAppend va_W va_W va_W _ (mW m0 ma la lb n t v) (@HAppend.hAppend va_W va_W va_W _ ([((ma 0), .inl (X.2.1, 371, .inl fa))]) ([((ma 3), .inl (X.2.1, 3, .inl fr))]))) sz) (va_A (@HAppend.hAppend va_W va_W va_W _ (mW m0 ma la lb n t v) (@HAppend.hAppend va_W va_W va_W _ ([((ma 0), .inl (X.2.1, 371, .inl fa))]) ([((ma 3), .inl (X.2.1, 3, .inl fr))]))) sz) s (@HAppend.hAppend va_W va_W va_W _ (mW m0 ma la lb n t v) (@HAppend.hAppend va_W va_W va_W _ ([((ma 0), .inl (X.2.1, 371, .inl f_15))]) ([((ma 3), .inl (X.2.1, 3, .inl fr))]))) H locs := ⟨_, InA_o hI_f_14 (by rw [nI_clamp (by omega)]; omega), rfl, G⟩
            refine lv_aload_n zx zb dX11_seen_114 rfl (lv_at hl 1 rfl) ?_
            refine r_get (C := RX11) (T := TX11) (N := 18) (ci := 9) (v := .ref (ma 0)) S in_X11_seen_X11 G 0 rfl rfl 0 (by decide) lk_X11_seen_7 rfl dX11_seen_115 ?_
            refine lv_iconst (v := 1) zx zb dX11_seen_118 (by decide) ?_
            refine lv_dup2_11 zx zb dX11_seen_119 rfl rfl ?_
            refine r_iald (v := (nI c1)) S G 1 rfl (k_vp (by decide)) hI_f_15.1.2.1 dX11_seen_120 ?_
            refine lv_iconst (v := 1) zx zb dX11_seen_121 (by decide) ?_
            refine r_iadd (v := (nI (c1 + 1))) S (nI_add c1 1) dX11_seen_122 ?_
            refine r_iast S G 1 rfl (k_vp (by decide)) dX11_seen_123 (fun H locs G => ?_)
            obtain ⟨f_17, c_18, hI_f_17, hE_c_18, hE_f_17, G⟩ : ∃ (f_17 : Nat → Int32) (c_18 : Nat), InA f_17 c0 c_18 c2 c3 c4 ∧ c_18 = (c1 + 1) ∧ f_17 = upd f_15 1 (nI (c1 + 1)) ∧ wd X (va_A (@HAppend.hAppend va_W va_W va_W _ (mW m0 ma la lb n t v) (@HAppend.hAppend va_W va_W va_W _ ([((ma 0), .inl (X.2.1, 371, .inl fa))]) ([((ma 3), .inl (X.2.1, 3, .inl fr))]))) sz) (va_A (@HAppend.hAppend va_W va_W va_W _ (mW m0 ma la lb n t v) (@HAppend.hAppend va_W va_W va_W _ ([((ma 0), .inl (X.2.1, 371, .inl fa))]) ([((ma 3), .inl (X.2.1, 3, .inl fr))]))) sz) s (@HAppend.hAppend va_W va_W va_W _ (mW m0 ma la lb n t v) (@HAppend.hAppend va_W va_W va_W _ ([((ma 0), .inl (X.2.1, 371, .inl f_17))]) ([((ma 3), .inl (X.2.1, 3, .inl fr))]))) H locs := ⟨_, (c1 + 1), InA_n1 (n := (c1 + 1)) hI_f_15 (by omega), rfl, rfl, G⟩
            refine lv_aload_n zx zb dX11_seen_124 rfl (lv_at hl 1 rfl) ?_
            refine r_get (C := RX11) (T := TX11) (N := 18) (ci := 9) (v := .ref (ma 0)) S in_X11_seen_X11 G 0 rfl rfl 0 (by decide) lk_X11_seen_7 rfl dX11_seen_125 ?_
            refine lv_iconst (v := 1) zx zb dX11_seen_128 (by decide) ?_
            refine r_iald (v := (nI c_18)) S G 1 rfl (k_vp (by decide)) hI_f_17.1.2.1 dX11_seen_129 ?_
            have hzF : ((nI c_18), (c_18, f_17)) = apgF (thP c0 (nI j_1) ∧ ((0 : Int32) ≤ (nI j_3) ∧ (nI j_3) ≤ 99) ∧ ((0 : Int32) ≤ (nI j_5) ∧ (nI j_5) ≤ 9) ∧ ((0 : Int32) ≤ (nI j_7) ∧ (nI j_7) ≤ 15)) 5 c1 fa (seenM fa c1 (nI j_1) (nI j_3) (nI j_5) (nI j_7)) := by rw [apgF_p ⟨⟨_, hj_1, rfl⟩, hw_3, hw_5, hw_7⟩ (by omega), show c_18 = c1 + 1 from by omega, hE_f_17, hE_f_15, hE_f_14, hE_f_13, hE_f_12, nI_clamp (by omega), nI_clamp (by omega), nI_clamp (by omega), nI_clamp (by omega)]; rfl
            exact e_int S zr zlk (vp_nar_int _) G (f_17, c_18, fr) [0, 1, 2] rfl rfl (Or.inr rfl) (⟨hI_f_17, hzF⟩) dX11_seen_130
          · have fc_10 := j_eq (a := c1) (b := 5) (by omega) (by omega) c_10
            refine lv_aload_n zx zb dX11_seen_57 rfl (lv_at hl 0 rfl) ?_
            refine b_wi (cells' := 0) (slots' := 0) (wr := [((ma 0), .inl (X.2.1, 371, .inl fa))]) G rfl rfl [0, 2] [1] rfl rfl rfl rfl (n_V (As := []) (rest := []) (C := RX11) (T := TX11) (N := 18) (ci := 9) S G (m_full l X m0 ma la lb n t v fr hI_n hI_t H.size) gX11_seen_X11_full rfl rfl rfl hdV_X11_full ⟨Nat.le_of_ble_eq_true rfl, Nat.le_of_ble_eq_true rfl⟩ [0, 2] rfl rfl 0 rfl rfl rfl hl.1 (Nat.le_of_ble_eq_true rfl) dX11_seen_58 ⟨Nat.le_of_ble_eq_true rfl, Nat.le_of_ble_eq_true rfl⟩) (fun r_20 u_20 H locs hp_20 G => ?_)
            obtain ⟨f_20, rfl⟩ : ∃ z, z = u_20 := ⟨_, rfl⟩
            have hq_20 := hp_20
            have G : wd X (va_A (@HAppend.hAppend va_W va_W va_W _ (mW m0 ma la lb n t v) (@HAppend.hAppend va_W va_W va_W _ ([((ma 0), .inl (X.2.1, 371, .inl fa))]) ([((ma 3), .inl (X.2.1, 3, .inl fr))]))) sz) (va_A (@HAppend.hAppend va_W va_W va_W _ (mW m0 ma la lb n t v) (@HAppend.hAppend va_W va_W va_W _ ([((ma 0), .inl (X.2.1, 371, .inl fa))]) ([((ma 3), .inl (X.2.1, 3, .inl fr))]))) sz) s (@HAppend.hAppend va_W va_W va_W _ ([((ma 0), .inl (X.2.1, 371, .inl fa))]) (@HAppend.hAppend va_W va_W va_W _ (mW m0 ma la lb n t v) ([((ma 3), .inl (X.2.1, 3, .inl f_20))]))) H locs := G
            obtain rfl := hq_20
            have hzF : ((-4), (c1, fa)) = apgF (thP c0 (nI j_1) ∧ ((0 : Int32) ≤ (nI j_3) ∧ (nI j_3) ≤ 99) ∧ ((0 : Int32) ≤ (nI j_5) ∧ (nI j_5) ≤ 9) ∧ ((0 : Int32) ≤ (nI j_7) ∧ (nI j_7) ≤ 15)) 5 c1 fa (seenM fa c1 (nI j_1) (nI j_3) (nI j_5) (nI j_7)) := (apgF_f ⟨⟨_, hj_1, rfl⟩, hw_3, hw_5, hw_7⟩ (by omega)).symm
            exact e_int S zr zlk (vp_nar_int _) G (fa, c1, f_20) [1, 0, 2] rfl rfl (Or.inr rfl) (⟨hI_fa, hzF⟩) dX11_seen_61
        · refine lv_if_ne (tgt := 47) zx zb dX11_seen_37 (by decide) (fun c_21 => absurd (by decide) c_21) (fun c_21 => ?_)
          refine lv_aload_n zx zb dX11_seen_40 rfl (lv_at hl 0 rfl) ?_
          refine lv_bipush (v := (-2)) zx zb dX11_seen_41 (by decide) ?_
          refine b_wi (cells' := 0) (slots' := 0) (wr := [((ma 0), .inl (X.2.1, 371, .inl fa))]) G rfl rfl [0, 2] [1] rfl rfl rfl rfl (n_V (As := [.int (-2)]) (rest := []) (C := RX11) (T := TX11) (N := 18) (ci := 9) S G (m_bad l X m0 ma la lb n t v fr (-2) hI_n hI_t H.size) gX11_seen_X11_bad rfl rfl rfl hdV_X11_bad ⟨Nat.le_of_ble_eq_true rfl, Nat.le_of_ble_eq_true rfl⟩ [0, 2] rfl rfl 0 rfl rfl rfl hl.1 (Nat.le_of_ble_eq_true rfl) dX11_seen_43 ⟨Nat.le_of_ble_eq_true rfl, Nat.le_of_ble_eq_true rfl⟩) (fun r_22 u_22 H locs hp_22 G => ?_)
          obtain ⟨f_22, rfl⟩ : ∃ z, z = u_22 := ⟨_, rfl⟩
          have hq_22 := hp_22
          have G : wd X (va_A (@HAppend.hAppend va_W va_W va_W _ (mW m0 ma la lb n t v) (@HAppend.hAppend va_W va_W va_W _ ([((ma 0), .inl (X.2.1, 371, .inl fa))]) ([((ma 3), .inl (X.2.1, 3, .inl fr))]))) sz) (va_A (@HAppend.hAppend va_W va_W va_W _ (mW m0 ma la lb n t v) (@HAppend.hAppend va_W va_W va_W _ ([((ma 0), .inl (X.2.1, 371, .inl fa))]) ([((ma 3), .inl (X.2.1, 3, .inl fr))]))) sz) s (@HAppend.hAppend va_W va_W va_W _ ([((ma 0), .inl (X.2.1, 371, .inl fa))]) (@HAppend.hAppend va_W va_W va_W _ (mW m0 ma la lb n t v) ([((ma 3), .inl (X.2.1, 3, .inl f_22))]))) H locs := G
          obtain rfl := hq_22
          have hzF : ((-2), (c1, fa)) = apgF (thP c0 (nI j_1) ∧ ((0 : Int32) ≤ (nI j_3) ∧ (nI j_3) ≤ 99) ∧ ((0 : Int32) ≤ (nI j_5) ∧ (nI j_5) ≤ 9) ∧ ((0 : Int32) ≤ x4 ∧ x4 ≤ 15)) 5 c1 fa (seenM fa c1 (nI j_1) (nI j_3) (nI j_5) x4) := (apgF_n (fun h => hw_7 h.2.2.2)).symm
          exact e_int S zr zlk (vp_nar_int _) G (fa, c1, f_22) [1, 0, 2] rfl rfl (Or.inr rfl) (⟨hI_fa, hzF⟩) dX11_seen_46
      · refine lv_if_eq (tgt := 40) zx zb dX11_seen_24 (by decide) (fun c_23 => ?_) (fun c_23 => absurd (by decide) c_23)
        refine lv_aload_n zx zb dX11_seen_40 rfl (lv_at hl 0 rfl) ?_
        refine lv_bipush (v := (-2)) zx zb dX11_seen_41 (by decide) ?_
        refine b_wi (cells' := 0) (slots' := 0) (wr := [((ma 0), .inl (X.2.1, 371, .inl fa))]) G rfl rfl [0, 2] [1] rfl rfl rfl rfl (n_V (As := [.int (-2)]) (rest := []) (C := RX11) (T := TX11) (N := 18) (ci := 9) S G (m_bad l X m0 ma la lb n t v fr (-2) hI_n hI_t H.size) gX11_seen_X11_bad rfl rfl rfl hdV_X11_bad ⟨Nat.le_of_ble_eq_true rfl, Nat.le_of_ble_eq_true rfl⟩ [0, 2] rfl rfl 0 rfl rfl rfl hl.1 (Nat.le_of_ble_eq_true rfl) dX11_seen_43 ⟨Nat.le_of_ble_eq_true rfl, Nat.le_of_ble_eq_true rfl⟩) (fun r_24 u_24 H locs hp_24 G => ?_)
        obtain ⟨f_24, rfl⟩ : ∃ z, z = u_24 := ⟨_, rfl⟩
        have hq_24 := hp_24
        have G : wd X (va_A (@HAppend.hAppend va_W va_W va_W _ (mW m0 ma la lb n t v) (@HAppend.hAppend va_W va_W va_W _ ([((ma 0), .inl (X.2.1, 371, .inl fa))]) ([((ma 3), .inl (X.2.1, 3, .inl fr))]))) sz) (va_A (@HAppend.hAppend va_W va_W va_W _ (mW m0 ma la lb n t v) (@HAppend.hAppend va_W va_W va_W _ ([((ma 0), .inl (X.2.1, 371, .inl fa))]) ([((ma 3), .inl (X.2.1, 3, .inl fr))]))) sz) s (@HAppend.hAppend va_W va_W va_W _ ([((ma 0), .inl (X.2.1, 371, .inl fa))]) (@HAppend.hAppend va_W va_W va_W _ (mW m0 ma la lb n t v) ([((ma 3), .inl (X.2.1, 3, .inl f_24))]))) H locs := G
        obtain rfl := hq_24
        have hzF : ((-2), (c1, fa)) = apgF (thP c0 (nI j_1) ∧ ((0 : Int32) ≤ (nI j_3) ∧ (nI j_3) ≤ 99) ∧ ((0 : Int32) ≤ x3 ∧ x3 ≤ 9) ∧ ((0 : Int32) ≤ x4 ∧ x4 ≤ 15)) 5 c1 fa (seenM fa c1 (nI j_1) (nI j_3) x3 x4) := (apgF_n (fun h => hw_5 h.2.2.1)).symm
        exact e_int S zr zlk (vp_nar_int _) G (fa, c1, f_24) [1, 0, 2] rfl rfl (Or.inr rfl) (⟨hI_fa, hzF⟩) dX11_seen_46
    · refine lv_if_eq (tgt := 40) zx zb dX11_seen_17 (by decide) (fun c_25 => ?_) (fun c_25 => absurd (by decide) c_25)
      refine lv_aload_n zx zb dX11_seen_40 rfl (lv_at hl 0 rfl) ?_
      refine lv_bipush (v := (-2)) zx zb dX11_seen_41 (by decide) ?_
      refine b_wi (cells' := 0) (slots' := 0) (wr := [((ma 0), .inl (X.2.1, 371, .inl fa))]) G rfl rfl [0, 2] [1] rfl rfl rfl rfl (n_V (As := [.int (-2)]) (rest := []) (C := RX11) (T := TX11) (N := 18) (ci := 9) S G (m_bad l X m0 ma la lb n t v fr (-2) hI_n hI_t H.size) gX11_seen_X11_bad rfl rfl rfl hdV_X11_bad ⟨Nat.le_of_ble_eq_true rfl, Nat.le_of_ble_eq_true rfl⟩ [0, 2] rfl rfl 0 rfl rfl rfl hl.1 (Nat.le_of_ble_eq_true rfl) dX11_seen_43 ⟨Nat.le_of_ble_eq_true rfl, Nat.le_of_ble_eq_true rfl⟩) (fun r_26 u_26 H locs hp_26 G => ?_)
      obtain ⟨f_26, rfl⟩ : ∃ z, z = u_26 := ⟨_, rfl⟩
      have hq_26 := hp_26
      have G : wd X (va_A (@HAppend.hAppend va_W va_W va_W _ (mW m0 ma la lb n t v) (@HAppend.hAppend va_W va_W va_W _ ([((ma 0), .inl (X.2.1, 371, .inl fa))]) ([((ma 3), .inl (X.2.1, 3, .inl fr))]))) sz) (va_A (@HAppend.hAppend va_W va_W va_W _ (mW m0 ma la lb n t v) (@HAppend.hAppend va_W va_W va_W _ ([((ma 0), .inl (X.2.1, 371, .inl fa))]) ([((ma 3), .inl (X.2.1, 3, .inl fr))]))) sz) s (@HAppend.hAppend va_W va_W va_W _ ([((ma 0), .inl (X.2.1, 371, .inl fa))]) (@HAppend.hAppend va_W va_W va_W _ (mW m0 ma la lb n t v) ([((ma 3), .inl (X.2.1, 3, .inl f_26))]))) H locs := G
      obtain rfl := hq_26
      have hzF : ((-2), (c1, fa)) = apgF (thP c0 (nI j_1) ∧ ((0 : Int32) ≤ x2 ∧ x2 ≤ 99) ∧ ((0 : Int32) ≤ x3 ∧ x3 ≤ 9) ∧ ((0 : Int32) ≤ x4 ∧ x4 ≤ 15)) 5 c1 fa (seenM fa c1 (nI j_1) x2 x3 x4) := (apgF_n (fun h => hw_3 h.2.1)).symm
      exact e_int S zr zlk (vp_nar_int _) G (fa, c1, f_26) [1, 0, 2] rfl rfl (Or.inr rfl) (⟨hI_fa, hzF⟩) dX11_seen_46
  · refine lv_if_eq (tgt := 40) zx zb dX11_seen_5 (by decide) (fun c_27 => ?_) (fun c_27 => absurd (by decide) c_27)
    refine lv_aload_n zx zb dX11_seen_40 rfl (lv_at hl 0 rfl) ?_
    refine lv_bipush (v := (-2)) zx zb dX11_seen_41 (by decide) ?_
    refine b_wi (cells' := 0) (slots' := 0) (wr := [((ma 0), .inl (X.2.1, 371, .inl fa))]) G rfl rfl [0, 2] [1] rfl rfl rfl rfl (n_V (As := [.int (-2)]) (rest := []) (C := RX11) (T := TX11) (N := 18) (ci := 9) S G (m_bad l X m0 ma la lb n t v fr (-2) hI_n hI_t H.size) gX11_seen_X11_bad rfl rfl rfl hdV_X11_bad ⟨Nat.le_of_ble_eq_true rfl, Nat.le_of_ble_eq_true rfl⟩ [0, 2] rfl rfl 0 rfl rfl rfl hl.1 (Nat.le_of_ble_eq_true rfl) dX11_seen_43 ⟨Nat.le_of_ble_eq_true rfl, Nat.le_of_ble_eq_true rfl⟩) (fun r_28 u_28 H locs hp_28 G => ?_)
    obtain ⟨f_28, rfl⟩ : ∃ z, z = u_28 := ⟨_, rfl⟩
    have hq_28 := hp_28
    have G : wd X (va_A (@HAppend.hAppend va_W va_W va_W _ (mW m0 ma la lb n t v) (@HAppend.hAppend va_W va_W va_W _ ([((ma 0), .inl (X.2.1, 371, .inl fa))]) ([((ma 3), .inl (X.2.1, 3, .inl fr))]))) sz) (va_A (@HAppend.hAppend va_W va_W va_W _ (mW m0 ma la lb n t v) (@HAppend.hAppend va_W va_W va_W _ ([((ma 0), .inl (X.2.1, 371, .inl fa))]) ([((ma 3), .inl (X.2.1, 3, .inl fr))]))) sz) s (@HAppend.hAppend va_W va_W va_W _ ([((ma 0), .inl (X.2.1, 371, .inl fa))]) (@HAppend.hAppend va_W va_W va_W _ (mW m0 ma la lb n t v) ([((ma 3), .inl (X.2.1, 3, .inl f_28))]))) H locs := G
    obtain rfl := hq_28
    have hzF : ((-2), (c1, fa)) = apgF (thP c0 x1 ∧ ((0 : Int32) ≤ x2 ∧ x2 ≤ 99) ∧ ((0 : Int32) ≤ x3 ∧ x3 ≤ 9) ∧ ((0 : Int32) ≤ x4 ∧ x4 ≤ 15)) 5 c1 fa (seenM fa c1 x1 x2 x3 x4) := (apgF_n (fun h => hj_1 h.1)).symm
    exact e_int S zr zlk (vp_nar_int _) G (fa, c1, f_28) [1, 0, 2] rfl rfl (Or.inr rfl) (⟨hI_fa, hzF⟩) dX11_seen_46
set_option maxHeartbeats 4000000 in
set_option maxRecDepth 100000 in
theorem y_note (l : Launch) (X : EX) (m0 : Nat) (ma : Nat → Nat) (la : Int64) (lb : Int64) (n : Nat) (t : Nat → Nat) (v : Nat → Int32) (fa : Nat → Int32) (c0 : Nat) (c1 : Nat) (c2 : Nat) (c3 : Nat) (c4 : Nat) (fr : Nat → Int32) (x1 : Int32) (x2 : Int32) (x3 : Int32) (x4 : Int32) (x5 : Int32) (hI_n : n ≤ 150) (hI_t : InT t) (hI_fa : InA fa c0 c1 c2 c3 c4) (sz : Nat) : Met l yX11_note wsX11_note ({ frames := 2, cells := 0, slots := 0, locals := 46 } : Room) (pE X [.ref m0, .int x1, .int x2, .int x3, .int x4, .int x5] (@HAppend.hAppend va_W va_W va_W _ (mW m0 ma la lb n t v) (@HAppend.hAppend va_W va_W va_W _ ([((ma 0), .inl (X.2.1, 371, .inl fa))]) ([((ma 3), .inl (X.2.1, 3, .inl fr))]))) sz) (qI (fun (r : Int32) (u : (Nat → Int32) × (Nat) × (Nat → Int32)) => InA u.1 c0 c1 u.2.1 c3 c4 ∧ ((r, (u.2.1, u.1)) = apgF (thP c0 x1 ∧ ((1 : Int32) ≤ x2 ∧ x2 ≤ 9) ∧ ((0 : Int32) ≤ x3 ∧ x3 ≤ 99) ∧ ((0 : Int32) ≤ x4 ∧ x4 ≤ 9) ∧ ((0 : Int32) ≤ x5 ∧ x5 ≤ 15)) 6 c2 fa (noteM fa c2 x1 x2 x3 x4 x5))) X (fun (u : (Nat → Int32) × (Nat) × (Nat → Int32)) => @HAppend.hAppend va_W va_W va_W _ (mW m0 ma la lb n t v) (@HAppend.hAppend va_W va_W va_W _ ([((ma 0), .inl (X.2.1, 371, .inl u.1))]) ([((ma 3), .inl (X.2.1, 3, .inl u.2.2))]))) (@HAppend.hAppend va_W va_W va_W _ (mW m0 ma la lb n t v) (@HAppend.hAppend va_W va_W va_W _ ([((ma 0), .inl (X.2.1, 371, .inl fa))]) ([((ma 3), .inl (X.2.1, 3, .inl fr))]))) sz) 0 0 (va_A (@HAppend.hAppend va_W va_W va_W _ (mW m0 ma la lb n t v) (@HAppend.hAppend va_W va_W va_W _ ([((ma 0), .inl (X.2.1, 371, .inl fa))]) ([((ma 3), .inl (X.2.1, 3, .inl fr))]))) sz) := by
  refine mk_met (B := (va_A (@HAppend.hAppend va_W va_W va_W _ (mW m0 ma la lb n t v) (@HAppend.hAppend va_W va_W va_W _ ([((ma 0), .inl (X.2.1, 371, .inl fa))]) ([((ma 3), .inl (X.2.1, 3, .inl fr))]))) sz)) (A := (va_A (@HAppend.hAppend va_W va_W va_W _ (mW m0 ma la lb n t v) (@HAppend.hAppend va_W va_W va_W _ ([((ma 0), .inl (X.2.1, 371, .inl fa))]) ([((ma 3), .inl (X.2.1, 3, .inl fr))]))) sz)) (cc := cX11_note) (maxL := 7) (ret := (some .int)) (by decide) rfl (Nat.le_of_ble_eq_true rfl) k_w k_a (fun p e s m below meth c S zr zlk znm zsz G ls hl => ?_)
  have S : CallFix p m c cX11_note 7 s _ wsX11_note RX11 := S
  have zx := S.1
  have zb := S.2.1
  have hl : lv_has ls 7 [(0, .ref m0), (1, .int x1), (2, .int x2), (3, .int x3), (4, .int x4), (5, .int x5)] := hl
  have hO_t := hI_t
  obtain ⟨ht0_t, ht1_t⟩ := hO_t
  have hO_fa := hI_fa.2
  obtain ⟨hm0_fa, hm1_fa, hm2_fa, hm3_fa, hm4_fa⟩ := hO_fa
  refine lv_aload_n zx zb dX11_note_0 rfl (lv_at hl 0 rfl) ?_
  refine lv_iload_n zx zb dX11_note_1 rfl (lv_at hl 1 rfl) ?_
  refine o_ri (cells' := 0) (slots' := 0) G rfl rfl (n_V (As := [.int x1]) (rest := []) (C := RX11) (T := TX11) (N := 18) (ci := 9) S G (m_isOne l X m0 ma la lb n t v fa c0 c1 c2 c3 c4 x1 hI_n hI_t hI_fa s.heap.size) gX11_note_X11_isOne rfl rfl rfl hdV_X11_isOne ⟨Nat.le_of_ble_eq_true rfl, Nat.le_of_ble_eq_true rfl⟩ [0, 1] rfl rfl 0 rfl rfl rfl hl.1 (Nat.le_of_ble_eq_true rfl) dX11_note_2 ⟨Nat.le_of_ble_eq_true rfl, Nat.le_of_ble_eq_true rfl⟩) (fun r_1 u_1 H locs hp_1 G => ?_)
  have G : wd X (va_A (@HAppend.hAppend va_W va_W va_W _ (mW m0 ma la lb n t v) (@HAppend.hAppend va_W va_W va_W _ ([((ma 0), .inl (X.2.1, 371, .inl fa))]) ([((ma 3), .inl (X.2.1, 3, .inl fr))]))) sz) (va_A (@HAppend.hAppend va_W va_W va_W _ (mW m0 ma la lb n t v) (@HAppend.hAppend va_W va_W va_W _ ([((ma 0), .inl (X.2.1, 371, .inl fa))]) ([((ma 3), .inl (X.2.1, 3, .inl fr))]))) sz) s (@HAppend.hAppend va_W va_W va_W _ (mW m0 ma la lb n t v) (@HAppend.hAppend va_W va_W va_W _ ([((ma 0), .inl (X.2.1, 371, .inl fa))]) ([((ma 3), .inl (X.2.1, 3, .inl fr))]))) H locs := G
  rcases hp_1 with ⟨rfl, hj_1⟩ | ⟨rfl, hj_1⟩
  · obtain ⟨j_1, hj_1, rfl⟩ := hj_1
    refine lv_if_eq (tgt := 48) zx zb dX11_note_5 (by decide) (fun c_2 => absurd c_2 (by decide)) (fun c_2 => ?_)
    refine lv_iload_n zx zb dX11_note_8 rfl (lv_at hl 2 rfl) ?_
    refine o_ri (cells' := 0) (slots' := 0) G rfl rfl (n_S (As := [.int x2]) (rest := []) S G (m_isLegs l X x2 H.size) gX11_note_X11_isLegs rfl rfl rfl hdS_X11_isLegs ⟨Nat.le_of_ble_eq_true rfl, Nat.le_of_ble_eq_true rfl⟩ [] rfl rfl rfl hl.1 (Nat.le_of_ble_eq_true rfl) dX11_note_9 ⟨Nat.le_of_ble_eq_true rfl, Nat.le_of_ble_eq_true rfl⟩) (fun r_3 u_3 H locs hp_3 G => ?_)
    have G : wd X (va_A (@HAppend.hAppend va_W va_W va_W _ (mW m0 ma la lb n t v) (@HAppend.hAppend va_W va_W va_W _ ([((ma 0), .inl (X.2.1, 371, .inl fa))]) ([((ma 3), .inl (X.2.1, 3, .inl fr))]))) sz) (va_A (@HAppend.hAppend va_W va_W va_W _ (mW m0 ma la lb n t v) (@HAppend.hAppend va_W va_W va_W _ ([((ma 0), .inl (X.2.1, 371, .inl fa))]) ([((ma 3), .inl (X.2.1, 3, .inl fr))]))) sz) s (@HAppend.hAppend va_W va_W va_W _ (mW m0 ma la lb n t v) (@HAppend.hAppend va_W va_W va_W _ ([((ma 0), .inl (X.2.1, 371, .inl fa))]) ([((ma 3), .inl (X.2.1, 3, .inl fr))]))) H locs := G
    rcases hp_3 with ⟨rfl, hw_3⟩ | ⟨rfl, hw_3⟩
    · obtain ⟨j_3, ⟨ja_3, jb_3⟩, rfl⟩ := k_natR (a := 1) (b := 9) hw_3 rfl rfl (by decide) (by decide)
      refine lv_if_eq (tgt := 48) zx zb dX11_note_12 (by decide) (fun c_4 => absurd c_4 (by decide)) (fun c_4 => ?_)
      refine lv_iload_n zx zb dX11_note_15 rfl (lv_at hl 3 rfl) ?_
      refine lv_i2l (v := (Int32.toInt64 x3)) zx zb dX11_note_16 rfl ?_
      refine lv_lconst (v := (Int32.toInt64 0)) zx zb dX11_note_17 (by decide) ?_
      refine lv_ldc2 zx zb S.2.2.2.1 (S.2.2.2.2 _ mm_X11_note_c152) dX11_note_18 ?_
      refine k_ld (v := (Int32.toInt64 99)) (by decide) ?_
      refine o_ri (cells' := 0) (slots' := 0) G rfl rfl (n_S (As := [.long (Int32.toInt64 x3), .long (Int32.toInt64 0), .long (Int32.toInt64 99)]) (rest := []) S G (m_in l X x3 0 99 H.size) gX11_note_X11_in rfl rfl rfl hdS_X11_in ⟨Nat.le_of_ble_eq_true rfl, Nat.le_of_ble_eq_true rfl⟩ [] rfl rfl rfl hl.1 (Nat.le_of_ble_eq_true rfl) dX11_note_21 ⟨Nat.le_of_ble_eq_true rfl, Nat.le_of_ble_eq_true rfl⟩) (fun r_5 u_5 H locs hp_5 G => ?_)
      have G : wd X (va_A (@HAppend.hAppend va_W va_W va_W _ (mW m0 ma la lb n t v) (@HAppend.hAppend va_W va_W va_W _ ([((ma 0), .inl (X.2.1, 371, .inl fa))]) ([((ma 3), .inl (X.2.1, 3, .inl fr))]))) sz) (va_A (@HAppend.hAppend va_W va_W va_W _ (mW m0 ma la lb n t v) (@HAppend.hAppend va_W va_W va_W _ ([((ma 0), .inl (X.2.1, 371, .inl fa))]) ([((ma 3), .inl (X.2.1, 3, .inl fr))]))) sz) s (@HAppend.hAppend va_W va_W va_W _ (mW m0 ma la lb n t v) (@HAppend.hAppend va_W va_W va_W _ ([((ma 0), .inl (X.2.1, 371, .inl fa))]) ([((ma 3), .inl (X.2.1, 3, .inl fr))]))) H locs := G
      rcases hp_5 with ⟨rfl, hw_5⟩ | ⟨rfl, hw_5⟩
      · obtain ⟨j_5, ⟨ja_5, jb_5⟩, rfl⟩ := k_natR (a := 0) (b := 99) hw_5 rfl rfl (by decide) (by decide)
        refine lv_if_eq (tgt := 48) zx zb dX11_note_24 (by decide) (fun c_6 => absurd c_6 (by decide)) (fun c_6 => ?_)
        refine lv_iload zx zb dX11_note_27 (lv_at hl 4 rfl) ?_
        refine o_ri (cells' := 0) (slots' := 0) G rfl rfl (n_S (As := [.int x4]) (rest := []) S G (m_isSpeed l X x4 H.size) gX11_note_X11_isSpeed rfl rfl rfl hdS_X11_isSpeed ⟨Nat.le_of_ble_eq_true rfl, Nat.le_of_ble_eq_true rfl⟩ [] rfl rfl rfl hl.1 (Nat.le_of_ble_eq_true rfl) dX11_note_29 ⟨Nat.le_of_ble_eq_true rfl, Nat.le_of_ble_eq_true rfl⟩) (fun r_7 u_7 H locs hp_7 G => ?_)
        have G : wd X (va_A (@HAppend.hAppend va_W va_W va_W _ (mW m0 ma la lb n t v) (@HAppend.hAppend va_W va_W va_W _ ([((ma 0), .inl (X.2.1, 371, .inl fa))]) ([((ma 3), .inl (X.2.1, 3, .inl fr))]))) sz) (va_A (@HAppend.hAppend va_W va_W va_W _ (mW m0 ma la lb n t v) (@HAppend.hAppend va_W va_W va_W _ ([((ma 0), .inl (X.2.1, 371, .inl fa))]) ([((ma 3), .inl (X.2.1, 3, .inl fr))]))) sz) s (@HAppend.hAppend va_W va_W va_W _ (mW m0 ma la lb n t v) (@HAppend.hAppend va_W va_W va_W _ ([((ma 0), .inl (X.2.1, 371, .inl fa))]) ([((ma 3), .inl (X.2.1, 3, .inl fr))]))) H locs := G
        rcases hp_7 with ⟨rfl, hw_7⟩ | ⟨rfl, hw_7⟩
        · obtain ⟨j_7, ⟨ja_7, jb_7⟩, rfl⟩ := k_natR (a := 0) (b := 9) hw_7 rfl rfl (by decide) (by decide)
          refine lv_if_eq (tgt := 48) zx zb dX11_note_32 (by decide) (fun c_8 => absurd c_8 (by decide)) (fun c_8 => ?_)
          refine lv_iload zx zb dX11_note_35 (lv_at hl 5 rfl) ?_
          refine lv_i2l (v := (Int32.toInt64 x5)) zx zb dX11_note_37 rfl ?_
          refine lv_lconst (v := (Int32.toInt64 0)) zx zb dX11_note_38 (by decide) ?_
          refine lv_ldc2 zx zb S.2.2.2.1 (S.2.2.2.2 _ mm_X11_note_c154) dX11_note_39 ?_
          refine k_ld (v := (Int32.toInt64 15)) (by decide) ?_
          refine o_ri (cells' := 0) (slots' := 0) G rfl rfl (n_S (As := [.long (Int32.toInt64 x5), .long (Int32.toInt64 0), .long (Int32.toInt64 15)]) (rest := []) S G (m_in l X x5 0 15 H.size) gX11_note_X11_in rfl rfl rfl hdS_X11_in ⟨Nat.le_of_ble_eq_true rfl, Nat.le_of_ble_eq_true rfl⟩ [] rfl rfl rfl hl.1 (Nat.le_of_ble_eq_true rfl) dX11_note_42 ⟨Nat.le_of_ble_eq_true rfl, Nat.le_of_ble_eq_true rfl⟩) (fun r_9 u_9 H locs hp_9 G => ?_)
          have G : wd X (va_A (@HAppend.hAppend va_W va_W va_W _ (mW m0 ma la lb n t v) (@HAppend.hAppend va_W va_W va_W _ ([((ma 0), .inl (X.2.1, 371, .inl fa))]) ([((ma 3), .inl (X.2.1, 3, .inl fr))]))) sz) (va_A (@HAppend.hAppend va_W va_W va_W _ (mW m0 ma la lb n t v) (@HAppend.hAppend va_W va_W va_W _ ([((ma 0), .inl (X.2.1, 371, .inl fa))]) ([((ma 3), .inl (X.2.1, 3, .inl fr))]))) sz) s (@HAppend.hAppend va_W va_W va_W _ (mW m0 ma la lb n t v) (@HAppend.hAppend va_W va_W va_W _ ([((ma 0), .inl (X.2.1, 371, .inl fa))]) ([((ma 3), .inl (X.2.1, 3, .inl fr))]))) H locs := G
          rcases hp_9 with ⟨rfl, hw_9⟩ | ⟨rfl, hw_9⟩
          · obtain ⟨j_9, ⟨ja_9, jb_9⟩, rfl⟩ := k_natR (a := 0) (b := 15) hw_9 rfl rfl (by decide) (by decide)
            refine lv_if_ne (tgt := 55) zx zb dX11_note_45 (by decide) (fun c_10 => ?_) (fun c_10 => absurd c_10 (by decide))
            refine lv_aload_n zx zb dX11_note_55 rfl (lv_at hl 0 rfl) ?_
            refine r_get (C := RX11) (T := TX11) (N := 18) (ci := 9) (v := .ref (ma 0)) S in_X11_note_X11 G 0 rfl rfl 0 (by decide) lk_X11_note_7 rfl dX11_note_56 ?_
            refine lv_iconst (v := 2) zx zb dX11_note_59 (by decide) ?_
            refine r_iald (v := (nI c2)) S G 1 rfl (k_vp (by decide)) hI_fa.1.2.2.1 dX11_note_60 ?_
            refine lv_bipush (v := 6) zx zb dX11_note_61 (by decide) ?_
            refine lv_icmp_ne (tgt := 71) zx zb dX11_note_63 (by decide) (fun c_12 => ?_) (fun c_12 => ?_)
            · have fc_12 := j_ne (a := c2) (b := 6) c_12
              refine lv_bipush (v := 75) zx zb dX11_note_71 (by decide) ?_
              refine lv_iconst (v := 5) zx zb dX11_note_73 (by decide) ?_
              refine lv_aload_n zx zb dX11_note_74 rfl (lv_at hl 0 rfl) ?_
              refine r_get (C := RX11) (T := TX11) (N := 18) (ci := 9) (v := .ref (ma 0)) S in_X11_note_X11 G 0 rfl rfl 0 (by decide) lk_X11_note_7 rfl dX11_note_75 ?_
              refine lv_iconst (v := 2) zx zb dX11_note_78 (by decide) ?_
              refine r_iald (v := (nI c2)) S G 1 rfl (k_vp (by decide)) hI_fa.1.2.2.1 dX11_note_79 ?_
              refine r_imul (v := (nI (5 * c2))) S (pk_mul 5 c2) dX11_note_80 ?_
              refine r_iadd (v := (nI (75 + (5 * c2)))) S (nI_add 75 (5 * c2)) dX11_note_81 ?_
              refine lv_istore (lv' := [(6, .int (nI (75 + (5 * c2)))), (0, .ref m0), (1, .int (nI j_1)), (2, .int (nI j_3)), (3, .int (nI j_5)), (4, .int (nI j_7)), (5, .int (nI j_9))]) zx zb dX11_note_82 hl (by decide) rfl (fun ls hl => ?_)
              refine lv_aload_n zx zb dX11_note_84 rfl (lv_at hl 1 rfl) ?_
              refine r_get (C := RX11) (T := TX11) (N := 18) (ci := 9) (v := .ref (ma 0)) S in_X11_note_X11 G 0 rfl rfl 0 (by decide) lk_X11_note_7 rfl dX11_note_85 ?_
              refine lv_iload zx zb dX11_note_88 (lv_at hl 0 rfl) ?_
              refine lv_iload_n zx zb dX11_note_90 rfl (lv_at hl 2 rfl) ?_
              refine r_iast S G 1 rfl (vp_in_nI (by omega) (by decide)) dX11_note_91 (fun H locs G => ?_)
              obtain ⟨f_14, hI_f_14, hE_f_14, G⟩ : ∃ f_14 : Nat → Int32, InA f_14 c0 c1 c2 c3 c4 ∧ f_14 = upd fa (nI (75 + (5 * c2))).toNatClampNeg (nI j_1) ∧ wd X (va_A (@HAppend.hAppend va_W va_W va_W _ (mW m0 ma la lb n t v) (@HAppend.hAppend va_W va_W va_W _ ([((ma 0), .inl (X.2.1, 371, .inl fa))]) ([((ma 3), .inl (X.2.1, 3, .inl fr))]))) sz) (va_A (@HAppend.hAppend va_W va_W va_W _ (mW m0 ma la lb n t v) (@HAppend.hAppend va_W va_W va_W _ ([((ma 0), .inl (X.2.1, 371, .inl fa))]) ([((ma 3), .inl (X.2.1, 3, .inl fr))]))) sz) s (@HAppend.hAppend va_W va_W va_W _ (mW m0 ma la lb n t v) (@HAppend.hAppend va_W va_W va_W _ ([((ma 0), .inl (X.2.1, 371, .inl f_14))]) ([((ma 3), .inl (X.2.1, 3, .inl fr))]))) H locs := ⟨_, InA_o hI_fa (by rw [nI_clamp (by omega)]; omega), rfl, G⟩
              refine lv_aload_n zx zb dX11_note_92 rfl (lv_at hl 1 rfl) ?_
              refine r_get (C := RX11) (T := TX11) (N := 18) (ci := 9) (v := .ref (ma 0)) S in_X11_note_X11 G 0 rfl rfl 0 (by decide) lk_X11_note_7 rfl dX11_note_93 ?_
              refine lv_iload zx zb dX11_note_96 (lv_at hl 0 rfl) ?_
              refine lv_iconst (v := 1) zx zb dX11_note_98 (by decide) ?_
              refine r_iadd (v := (nI ((75 + (5 * c2)) + 1))) S (nI_add (75 + (5 * c2)) 1) dX11_note_99 ?_
              refine lv_iload_n zx zb dX11_note_100 rfl (lv_at hl 3 rfl) ?_
              refine r_iast S G 1 rfl (vp_in_nI (by omega) (by decide)) dX11_note_101 (fun H locs G => ?_)
              obtain ⟨f_15, hI_f_15, hE_f_15, G⟩ : ∃ f_15 : Nat → Int32, InA f_15 c0 c1 c2 c3 c4 ∧ f_15 = upd f_14 (nI ((75 + (5 * c2)) + 1)).toNatClampNeg (nI j_3) ∧ wd X (va_A (@HAppend.hAppend va_W va_W va_W _ (mW m0 ma la lb n t v) (@HAppend.hAppend va_W va_W va_W _ ([((ma 0), .inl (X.2.1, 371, .inl fa))]) ([((ma 3), .inl (X.2.1, 3, .inl fr))]))) sz) (va_A (@HAppend.hAppend va_W va_W va_W _ (mW m0 ma la lb n t v) (@HAppend.hAppend va_W va_W va_W _ ([((ma 0), .inl (X.2.1, 371, .inl fa))]) ([((ma 3), .inl (X.2.1, 3, .inl fr))]))) sz) s (@HAppend.hAppend va_W va_W va_W _ (mW m0 ma la lb n t v) (@HAppend.hAppend va_W va_W va_W _ ([((ma 0), .inl (X.2.1, 371, .inl f_15))]) ([((ma 3), .inl (X.2.1, 3, .inl fr))]))) H locs := ⟨_, InA_o hI_f_14 (by rw [nI_clamp (by omega)]; omega), rfl, G⟩
              refine lv_aload_n zx zb dX11_note_102 rfl (lv_at hl 1 rfl) ?_
              refine r_get (C := RX11) (T := TX11) (N := 18) (ci := 9) (v := .ref (ma 0)) S in_X11_note_X11 G 0 rfl rfl 0 (by decide) lk_X11_note_7 rfl dX11_note_103 ?_
              refine lv_iload zx zb dX11_note_106 (lv_at hl 0 rfl) ?_
              refine lv_iconst (v := 2) zx zb dX11_note_108 (by decide) ?_
              refine r_iadd (v := (nI ((75 + (5 * c2)) + 2))) S (nI_add (75 + (5 * c2)) 2) dX11_note_109 ?_
              refine lv_iload_n zx zb dX11_note_110 rfl (lv_at hl 4 rfl) ?_
              refine r_iast S G 1 rfl (vp_in_nI (by omega) (by decide)) dX11_note_111 (fun H locs G => ?_)
              obtain ⟨f_16, hI_f_16, hE_f_16, G⟩ : ∃ f_16 : Nat → Int32, InA f_16 c0 c1 c2 c3 c4 ∧ f_16 = upd f_15 (nI ((75 + (5 * c2)) + 2)).toNatClampNeg (nI j_5) ∧ wd X (va_A (@HAppend.hAppend va_W va_W va_W _ (mW m0 ma la lb n t v) (@HAppend.hAppend va_W va_W va_W _ ([((ma 0), .inl (X.2.1, 371, .inl fa))]) ([((ma 3), .inl (X.2.1, 3, .inl fr))]))) sz) (va_A (@HAppend.hAppend va_W va_W va_W _ (mW m0 ma la lb n t v) (@HAppend.hAppend va_W va_W va_W _ ([((ma 0), .inl (X.2.1, 371, .inl fa))]) ([((ma 3), .inl (X.2.1, 3, .inl fr))]))) sz) s (@HAppend.hAppend va_W va_W va_W _ (mW m0 ma la lb n t v) (@HAppend.hAppend va_W va_W va_W _ ([((ma 0), .inl (X.2.1, 371, .inl f_16))]) ([((ma 3), .inl (X.2.1, 3, .inl fr))]))) H locs := ⟨_, InA_o hI_f_15 (by rw [nI_clamp (by omega)]; omega), rfl, G⟩
              refine lv_aload_n zx zb dX11_note_112 rfl (lv_at hl 1 rfl) ?_
              refine r_get (C := RX11) (T := TX11) (N := 18) (ci := 9) (v := .ref (ma 0)) S in_X11_note_X11 G 0 rfl rfl 0 (by decide) lk_X11_note_7 rfl dX11_note_113 ?_
              refine lv_iload zx zb dX11_note_116 (lv_at hl 0 rfl) ?_
              refine lv_iconst (v := 3) zx zb dX11_note_118 (by decide) ?_
              refine r_iadd (v := (nI ((75 + (5 * c2)) + 3))) S (nI_add (75 + (5 * c2)) 3) dX11_note_119 ?_
              refine lv_iload zx zb dX11_note_120 (lv_at hl 5 rfl) ?_
              refine r_iast S G 1 rfl (vp_in_nI (by omega) (by decide)) dX11_note_122 (fun H locs G => ?_)
              obtain ⟨f_17, hI_f_17, hE_f_17, G⟩ : ∃ f_17 : Nat → Int32, InA f_17 c0 c1 c2 c3 c4 ∧ f_17 = upd f_16 (nI ((75 + (5 * c2)) + 3)).toNatClampNeg (nI j_7) ∧ wd X (va_A (@HAppend.hAppend va_W va_W va_W _ (mW m0 ma la lb n t v) (@HAppend.hAppend va_W va_W va_W _ ([((ma 0), .inl (X.2.1, 371, .inl fa))]) ([((ma 3), .inl (X.2.1, 3, .inl fr))]))) sz) (va_A (@HAppend.hAppend va_W va_W va_W _ (mW m0 ma la lb n t v) (@HAppend.hAppend va_W va_W va_W _ ([((ma 0), .inl (X.2.1, 371, .inl fa))]) ([((ma 3), .inl (X.2.1, 3, .inl fr))]))) sz) s (@HAppend.hAppend va_W va_W va_W _ (mW m0 ma la lb n t v) (@HAppend.hAppend va_W va_W va_W _ ([((ma 0), .inl (X.2.1, 371, .inl f_17))]) ([((ma 3), .inl (X.2.1, 3, .inl fr))]))) H locs := ⟨_, InA_o hI_f_16 (by rw [nI_clamp (by omega)]; omega), rfl, G⟩
              refine lv_aload_n zx zb dX11_note_123 rfl (lv_at hl 1 rfl) ?_
              refine r_get (C := RX11) (T := TX11) (N := 18) (ci := 9) (v := .ref (ma 0)) S in_X11_note_X11 G 0 rfl rfl 0 (by decide) lk_X11_note_7 rfl dX11_note_124 ?_
              refine lv_iload zx zb dX11_note_127 (lv_at hl 0 rfl) ?_
              refine lv_iconst (v := 4) zx zb dX11_note_129 (by decide) ?_
              refine r_iadd (v := (nI ((75 + (5 * c2)) + 4))) S (nI_add (75 + (5 * c2)) 4) dX11_note_130 ?_
              refine lv_iload zx zb dX11_note_131 (lv_at hl 6 rfl) ?_
              refine r_iast S G 1 rfl (vp_in_nI (by omega) (by decide)) dX11_note_133 (fun H locs G => ?_)
              obtain ⟨f_18, hI_f_18, hE_f_18, G⟩ : ∃ f_18 : Nat → Int32, InA f_18 c0 c1 c2 c3 c4 ∧ f_18 = upd f_17 (nI ((75 + (5 * c2)) + 4)).toNatClampNeg (nI j_9) ∧ wd X (va_A (@HAppend.hAppend va_W va_W va_W _ (mW m0 ma la lb n t v) (@HAppend.hAppend va_W va_W va_W _ ([((ma 0), .inl (X.2.1, 371, .inl fa))]) ([((ma 3), .inl (X.2.1, 3, .inl fr))]))) sz) (va_A (@HAppend.hAppend va_W va_W va_W _ (mW m0 ma la lb n t v) (@HAppend.hAppend va_W va_W va_W _ ([((ma 0), .inl (X.2.1, 371, .inl fa))]) ([((ma 3), .inl (X.2.1, 3, .inl fr))]))) sz) s (@HAppend.hAppend va_W va_W va_W _ (mW m0 ma la lb n t v) (@HAppend.hAppend va_W va_W va_W _ ([((ma 0), .inl (X.2.1, 371, .inl f_18))]) ([((ma 3), .inl (X.2.1, 3, .inl fr))]))) H locs := ⟨_, InA_o hI_f_17 (by rw [nI_clamp (by omega)]; omega), rfl, G⟩
              refine lv_aload_n zx zb dX11_note_134 rfl (lv_at hl 1 rfl) ?_
              refine r_get (C := RX11) (T := TX11) (N := 18) (ci := 9) (v := .ref (ma 0)) S in_X11_note_X11 G 0 rfl rfl 0 (by decide) lk_X11_note_7 rfl dX11_note_135 ?_
              refine lv_iconst (v := 2) zx zb dX11_note_138 (by decide) ?_
              refine lv_dup2_11 zx zb dX11_note_139 rfl rfl ?_
              refine r_iald (v := (nI c2)) S G 1 rfl (k_vp (by decide)) hI_f_18.1.2.2.1 dX11_note_140 ?_
              refine lv_iconst (v := 1) zx zb dX11_note_141 (by decide) ?_
              refine r_iadd (v := (nI (c2 + 1))) S (nI_add c2 1) dX11_note_142 ?_
              refine r_iast S G 1 rfl (k_vp (by decide)) dX11_note_143 (fun H locs G => ?_)
              obtain ⟨f_20, c_21, hI_f_20, hE_c_21, hE_f_20, G⟩ : ∃ (f_20 : Nat → Int32) (c_21 : Nat), InA f_20 c0 c1 c_21 c3 c4 ∧ c_21 = (c2 + 1) ∧ f_20 = upd f_18 2 (nI (c2 + 1)) ∧ wd X (va_A (@HAppend.hAppend va_W va_W va_W _ (mW m0 ma la lb n t v) (@HAppend.hAppend va_W va_W va_W _ ([((ma 0), .inl (X.2.1, 371, .inl fa))]) ([((ma 3), .inl (X.2.1, 3, .inl fr))]))) sz) (va_A (@HAppend.hAppend va_W va_W va_W _ (mW m0 ma la lb n t v) (@HAppend.hAppend va_W va_W va_W _ ([((ma 0), .inl (X.2.1, 371, .inl fa))]) ([((ma 3), .inl (X.2.1, 3, .inl fr))]))) sz) s (@HAppend.hAppend va_W va_W va_W _ (mW m0 ma la lb n t v) (@HAppend.hAppend va_W va_W va_W _ ([((ma 0), .inl (X.2.1, 371, .inl f_20))]) ([((ma 3), .inl (X.2.1, 3, .inl fr))]))) H locs := ⟨_, (c2 + 1), InA_n2 (n := (c2 + 1)) hI_f_18 (by omega), rfl, rfl, G⟩
              refine lv_aload_n zx zb dX11_note_144 rfl (lv_at hl 1 rfl) ?_
              refine r_get (C := RX11) (T := TX11) (N := 18) (ci := 9) (v := .ref (ma 0)) S in_X11_note_X11 G 0 rfl rfl 0 (by decide) lk_X11_note_7 rfl dX11_note_145 ?_
              refine lv_iconst (v := 2) zx zb dX11_note_148 (by decide) ?_
              refine r_iald (v := (nI c_21)) S G 1 rfl (k_vp (by decide)) hI_f_20.1.2.2.1 dX11_note_149 ?_
              have hzF : ((nI c_21), (c_21, f_20)) = apgF (thP c0 (nI j_1) ∧ ((1 : Int32) ≤ (nI j_3) ∧ (nI j_3) ≤ 9) ∧ ((0 : Int32) ≤ (nI j_5) ∧ (nI j_5) ≤ 99) ∧ ((0 : Int32) ≤ (nI j_7) ∧ (nI j_7) ≤ 9) ∧ ((0 : Int32) ≤ (nI j_9) ∧ (nI j_9) ≤ 15)) 6 c2 fa (noteM fa c2 (nI j_1) (nI j_3) (nI j_5) (nI j_7) (nI j_9)) := by rw [apgF_p ⟨⟨_, hj_1, rfl⟩, hw_3, hw_5, hw_7, hw_9⟩ (by omega), show c_21 = c2 + 1 from by omega, hE_f_20, hE_f_18, hE_f_17, hE_f_16, hE_f_15, hE_f_14, nI_clamp (by omega), nI_clamp (by omega), nI_clamp (by omega), nI_clamp (by omega), nI_clamp (by omega)]; rfl
              exact e_int S zr zlk (vp_nar_int _) G (f_20, c_21, fr) [0, 1, 2] rfl rfl (Or.inr rfl) (⟨hI_f_20, hzF⟩) dX11_note_150
            · have fc_12 := j_eq (a := c2) (b := 6) (by omega) (by omega) c_12
              refine lv_aload_n zx zb dX11_note_66 rfl (lv_at hl 0 rfl) ?_
              refine b_wi (cells' := 0) (slots' := 0) (wr := [((ma 0), .inl (X.2.1, 371, .inl fa))]) G rfl rfl [0, 2] [1] rfl rfl rfl rfl (n_V (As := []) (rest := []) (C := RX11) (T := TX11) (N := 18) (ci := 9) S G (m_full l X m0 ma la lb n t v fr hI_n hI_t H.size) gX11_note_X11_full rfl rfl rfl hdV_X11_full ⟨Nat.le_of_ble_eq_true rfl, Nat.le_of_ble_eq_true rfl⟩ [0, 2] rfl rfl 0 rfl rfl rfl hl.1 (Nat.le_of_ble_eq_true rfl) dX11_note_67 ⟨Nat.le_of_ble_eq_true rfl, Nat.le_of_ble_eq_true rfl⟩) (fun r_23 u_23 H locs hp_23 G => ?_)
              obtain ⟨f_23, rfl⟩ : ∃ z, z = u_23 := ⟨_, rfl⟩
              have hq_23 := hp_23
              have G : wd X (va_A (@HAppend.hAppend va_W va_W va_W _ (mW m0 ma la lb n t v) (@HAppend.hAppend va_W va_W va_W _ ([((ma 0), .inl (X.2.1, 371, .inl fa))]) ([((ma 3), .inl (X.2.1, 3, .inl fr))]))) sz) (va_A (@HAppend.hAppend va_W va_W va_W _ (mW m0 ma la lb n t v) (@HAppend.hAppend va_W va_W va_W _ ([((ma 0), .inl (X.2.1, 371, .inl fa))]) ([((ma 3), .inl (X.2.1, 3, .inl fr))]))) sz) s (@HAppend.hAppend va_W va_W va_W _ ([((ma 0), .inl (X.2.1, 371, .inl fa))]) (@HAppend.hAppend va_W va_W va_W _ (mW m0 ma la lb n t v) ([((ma 3), .inl (X.2.1, 3, .inl f_23))]))) H locs := G
              obtain rfl := hq_23
              have hzF : ((-4), (c2, fa)) = apgF (thP c0 (nI j_1) ∧ ((1 : Int32) ≤ (nI j_3) ∧ (nI j_3) ≤ 9) ∧ ((0 : Int32) ≤ (nI j_5) ∧ (nI j_5) ≤ 99) ∧ ((0 : Int32) ≤ (nI j_7) ∧ (nI j_7) ≤ 9) ∧ ((0 : Int32) ≤ (nI j_9) ∧ (nI j_9) ≤ 15)) 6 c2 fa (noteM fa c2 (nI j_1) (nI j_3) (nI j_5) (nI j_7) (nI j_9)) := (apgF_f ⟨⟨_, hj_1, rfl⟩, hw_3, hw_5, hw_7, hw_9⟩ (by omega)).symm
              exact e_int S zr zlk (vp_nar_int _) G (fa, c2, f_23) [1, 0, 2] rfl rfl (Or.inr rfl) (⟨hI_fa, hzF⟩) dX11_note_70
          · refine lv_if_ne (tgt := 55) zx zb dX11_note_45 (by decide) (fun c_24 => absurd (by decide) c_24) (fun c_24 => ?_)
            refine lv_aload_n zx zb dX11_note_48 rfl (lv_at hl 0 rfl) ?_
            refine lv_bipush (v := (-2)) zx zb dX11_note_49 (by decide) ?_
            refine b_wi (cells' := 0) (slots' := 0) (wr := [((ma 0), .inl (X.2.1, 371, .inl fa))]) G rfl rfl [0, 2] [1] rfl rfl rfl rfl (n_V (As := [.int (-2)]) (rest := []) (C := RX11) (T := TX11) (N := 18) (ci := 9) S G (m_bad l X m0 ma la lb n t v fr (-2) hI_n hI_t H.size) gX11_note_X11_bad rfl rfl rfl hdV_X11_bad ⟨Nat.le_of_ble_eq_true rfl, Nat.le_of_ble_eq_true rfl⟩ [0, 2] rfl rfl 0 rfl rfl rfl hl.1 (Nat.le_of_ble_eq_true rfl) dX11_note_51 ⟨Nat.le_of_ble_eq_true rfl, Nat.le_of_ble_eq_true rfl⟩) (fun r_25 u_25 H locs hp_25 G => ?_)
            obtain ⟨f_25, rfl⟩ : ∃ z, z = u_25 := ⟨_, rfl⟩
            have hq_25 := hp_25
            have G : wd X (va_A (@HAppend.hAppend va_W va_W va_W _ (mW m0 ma la lb n t v) (@HAppend.hAppend va_W va_W va_W _ ([((ma 0), .inl (X.2.1, 371, .inl fa))]) ([((ma 3), .inl (X.2.1, 3, .inl fr))]))) sz) (va_A (@HAppend.hAppend va_W va_W va_W _ (mW m0 ma la lb n t v) (@HAppend.hAppend va_W va_W va_W _ ([((ma 0), .inl (X.2.1, 371, .inl fa))]) ([((ma 3), .inl (X.2.1, 3, .inl fr))]))) sz) s (@HAppend.hAppend va_W va_W va_W _ ([((ma 0), .inl (X.2.1, 371, .inl fa))]) (@HAppend.hAppend va_W va_W va_W _ (mW m0 ma la lb n t v) ([((ma 3), .inl (X.2.1, 3, .inl f_25))]))) H locs := G
            obtain rfl := hq_25
            have hzF : ((-2), (c2, fa)) = apgF (thP c0 (nI j_1) ∧ ((1 : Int32) ≤ (nI j_3) ∧ (nI j_3) ≤ 9) ∧ ((0 : Int32) ≤ (nI j_5) ∧ (nI j_5) ≤ 99) ∧ ((0 : Int32) ≤ (nI j_7) ∧ (nI j_7) ≤ 9) ∧ ((0 : Int32) ≤ x5 ∧ x5 ≤ 15)) 6 c2 fa (noteM fa c2 (nI j_1) (nI j_3) (nI j_5) (nI j_7) x5) := (apgF_n (fun h => hw_9 h.2.2.2.2)).symm
            exact e_int S zr zlk (vp_nar_int _) G (fa, c2, f_25) [1, 0, 2] rfl rfl (Or.inr rfl) (⟨hI_fa, hzF⟩) dX11_note_54
        · refine lv_if_eq (tgt := 48) zx zb dX11_note_32 (by decide) (fun c_26 => ?_) (fun c_26 => absurd (by decide) c_26)
          refine lv_aload_n zx zb dX11_note_48 rfl (lv_at hl 0 rfl) ?_
          refine lv_bipush (v := (-2)) zx zb dX11_note_49 (by decide) ?_
          refine b_wi (cells' := 0) (slots' := 0) (wr := [((ma 0), .inl (X.2.1, 371, .inl fa))]) G rfl rfl [0, 2] [1] rfl rfl rfl rfl (n_V (As := [.int (-2)]) (rest := []) (C := RX11) (T := TX11) (N := 18) (ci := 9) S G (m_bad l X m0 ma la lb n t v fr (-2) hI_n hI_t H.size) gX11_note_X11_bad rfl rfl rfl hdV_X11_bad ⟨Nat.le_of_ble_eq_true rfl, Nat.le_of_ble_eq_true rfl⟩ [0, 2] rfl rfl 0 rfl rfl rfl hl.1 (Nat.le_of_ble_eq_true rfl) dX11_note_51 ⟨Nat.le_of_ble_eq_true rfl, Nat.le_of_ble_eq_true rfl⟩) (fun r_27 u_27 H locs hp_27 G => ?_)
          obtain ⟨f_27, rfl⟩ : ∃ z, z = u_27 := ⟨_, rfl⟩
          have hq_27 := hp_27
          have G : wd X (va_A (@HAppend.hAppend va_W va_W va_W _ (mW m0 ma la lb n t v) (@HAppend.hAppend va_W va_W va_W _ ([((ma 0), .inl (X.2.1, 371, .inl fa))]) ([((ma 3), .inl (X.2.1, 3, .inl fr))]))) sz) (va_A (@HAppend.hAppend va_W va_W va_W _ (mW m0 ma la lb n t v) (@HAppend.hAppend va_W va_W va_W _ ([((ma 0), .inl (X.2.1, 371, .inl fa))]) ([((ma 3), .inl (X.2.1, 3, .inl fr))]))) sz) s (@HAppend.hAppend va_W va_W va_W _ ([((ma 0), .inl (X.2.1, 371, .inl fa))]) (@HAppend.hAppend va_W va_W va_W _ (mW m0 ma la lb n t v) ([((ma 3), .inl (X.2.1, 3, .inl f_27))]))) H locs := G
          obtain rfl := hq_27
          have hzF : ((-2), (c2, fa)) = apgF (thP c0 (nI j_1) ∧ ((1 : Int32) ≤ (nI j_3) ∧ (nI j_3) ≤ 9) ∧ ((0 : Int32) ≤ (nI j_5) ∧ (nI j_5) ≤ 99) ∧ ((0 : Int32) ≤ x4 ∧ x4 ≤ 9) ∧ ((0 : Int32) ≤ x5 ∧ x5 ≤ 15)) 6 c2 fa (noteM fa c2 (nI j_1) (nI j_3) (nI j_5) x4 x5) := (apgF_n (fun h => hw_7 h.2.2.2.1)).symm
          exact e_int S zr zlk (vp_nar_int _) G (fa, c2, f_27) [1, 0, 2] rfl rfl (Or.inr rfl) (⟨hI_fa, hzF⟩) dX11_note_54
      · refine lv_if_eq (tgt := 48) zx zb dX11_note_24 (by decide) (fun c_28 => ?_) (fun c_28 => absurd (by decide) c_28)
        refine lv_aload_n zx zb dX11_note_48 rfl (lv_at hl 0 rfl) ?_
        refine lv_bipush (v := (-2)) zx zb dX11_note_49 (by decide) ?_
        refine b_wi (cells' := 0) (slots' := 0) (wr := [((ma 0), .inl (X.2.1, 371, .inl fa))]) G rfl rfl [0, 2] [1] rfl rfl rfl rfl (n_V (As := [.int (-2)]) (rest := []) (C := RX11) (T := TX11) (N := 18) (ci := 9) S G (m_bad l X m0 ma la lb n t v fr (-2) hI_n hI_t H.size) gX11_note_X11_bad rfl rfl rfl hdV_X11_bad ⟨Nat.le_of_ble_eq_true rfl, Nat.le_of_ble_eq_true rfl⟩ [0, 2] rfl rfl 0 rfl rfl rfl hl.1 (Nat.le_of_ble_eq_true rfl) dX11_note_51 ⟨Nat.le_of_ble_eq_true rfl, Nat.le_of_ble_eq_true rfl⟩) (fun r_29 u_29 H locs hp_29 G => ?_)
        obtain ⟨f_29, rfl⟩ : ∃ z, z = u_29 := ⟨_, rfl⟩
        have hq_29 := hp_29
        have G : wd X (va_A (@HAppend.hAppend va_W va_W va_W _ (mW m0 ma la lb n t v) (@HAppend.hAppend va_W va_W va_W _ ([((ma 0), .inl (X.2.1, 371, .inl fa))]) ([((ma 3), .inl (X.2.1, 3, .inl fr))]))) sz) (va_A (@HAppend.hAppend va_W va_W va_W _ (mW m0 ma la lb n t v) (@HAppend.hAppend va_W va_W va_W _ ([((ma 0), .inl (X.2.1, 371, .inl fa))]) ([((ma 3), .inl (X.2.1, 3, .inl fr))]))) sz) s (@HAppend.hAppend va_W va_W va_W _ ([((ma 0), .inl (X.2.1, 371, .inl fa))]) (@HAppend.hAppend va_W va_W va_W _ (mW m0 ma la lb n t v) ([((ma 3), .inl (X.2.1, 3, .inl f_29))]))) H locs := G
        obtain rfl := hq_29
        have hzF : ((-2), (c2, fa)) = apgF (thP c0 (nI j_1) ∧ ((1 : Int32) ≤ (nI j_3) ∧ (nI j_3) ≤ 9) ∧ ((0 : Int32) ≤ x3 ∧ x3 ≤ 99) ∧ ((0 : Int32) ≤ x4 ∧ x4 ≤ 9) ∧ ((0 : Int32) ≤ x5 ∧ x5 ≤ 15)) 6 c2 fa (noteM fa c2 (nI j_1) (nI j_3) x3 x4 x5) := (apgF_n (fun h => hw_5 h.2.2.1)).symm
        exact e_int S zr zlk (vp_nar_int _) G (fa, c2, f_29) [1, 0, 2] rfl rfl (Or.inr rfl) (⟨hI_fa, hzF⟩) dX11_note_54
    · refine lv_if_eq (tgt := 48) zx zb dX11_note_12 (by decide) (fun c_30 => ?_) (fun c_30 => absurd (by decide) c_30)
      refine lv_aload_n zx zb dX11_note_48 rfl (lv_at hl 0 rfl) ?_
      refine lv_bipush (v := (-2)) zx zb dX11_note_49 (by decide) ?_
      refine b_wi (cells' := 0) (slots' := 0) (wr := [((ma 0), .inl (X.2.1, 371, .inl fa))]) G rfl rfl [0, 2] [1] rfl rfl rfl rfl (n_V (As := [.int (-2)]) (rest := []) (C := RX11) (T := TX11) (N := 18) (ci := 9) S G (m_bad l X m0 ma la lb n t v fr (-2) hI_n hI_t H.size) gX11_note_X11_bad rfl rfl rfl hdV_X11_bad ⟨Nat.le_of_ble_eq_true rfl, Nat.le_of_ble_eq_true rfl⟩ [0, 2] rfl rfl 0 rfl rfl rfl hl.1 (Nat.le_of_ble_eq_true rfl) dX11_note_51 ⟨Nat.le_of_ble_eq_true rfl, Nat.le_of_ble_eq_true rfl⟩) (fun r_31 u_31 H locs hp_31 G => ?_)
      obtain ⟨f_31, rfl⟩ : ∃ z, z = u_31 := ⟨_, rfl⟩
      have hq_31 := hp_31
      have G : wd X (va_A (@HAppend.hAppend va_W va_W va_W _ (mW m0 ma la lb n t v) (@HAppend.hAppend va_W va_W va_W _ ([((ma 0), .inl (X.2.1, 371, .inl fa))]) ([((ma 3), .inl (X.2.1, 3, .inl fr))]))) sz) (va_A (@HAppend.hAppend va_W va_W va_W _ (mW m0 ma la lb n t v) (@HAppend.hAppend va_W va_W va_W _ ([((ma 0), .inl (X.2.1, 371, .inl fa))]) ([((ma 3), .inl (X.2.1, 3, .inl fr))]))) sz) s (@HAppend.hAppend va_W va_W va_W _ ([((ma 0), .inl (X.2.1, 371, .inl fa))]) (@HAppend.hAppend va_W va_W va_W _ (mW m0 ma la lb n t v) ([((ma 3), .inl (X.2.1, 3, .inl f_31))]))) H locs := G
      obtain rfl := hq_31
      have hzF : ((-2), (c2, fa)) = apgF (thP c0 (nI j_1) ∧ ((1 : Int32) ≤ x2 ∧ x2 ≤ 9) ∧ ((0 : Int32) ≤ x3 ∧ x3 ≤ 99) ∧ ((0 : Int32) ≤ x4 ∧ x4 ≤ 9) ∧ ((0 : Int32) ≤ x5 ∧ x5 ≤ 15)) 6 c2 fa (noteM fa c2 (nI j_1) x2 x3 x4 x5) := (apgF_n (fun h => hw_3 h.2.1)).symm
      exact e_int S zr zlk (vp_nar_int _) G (fa, c2, f_31) [1, 0, 2] rfl rfl (Or.inr rfl) (⟨hI_fa, hzF⟩) dX11_note_54
  · refine lv_if_eq (tgt := 48) zx zb dX11_note_5 (by decide) (fun c_32 => ?_) (fun c_32 => absurd (by decide) c_32)
    refine lv_aload_n zx zb dX11_note_48 rfl (lv_at hl 0 rfl) ?_
    refine lv_bipush (v := (-2)) zx zb dX11_note_49 (by decide) ?_
    refine b_wi (cells' := 0) (slots' := 0) (wr := [((ma 0), .inl (X.2.1, 371, .inl fa))]) G rfl rfl [0, 2] [1] rfl rfl rfl rfl (n_V (As := [.int (-2)]) (rest := []) (C := RX11) (T := TX11) (N := 18) (ci := 9) S G (m_bad l X m0 ma la lb n t v fr (-2) hI_n hI_t H.size) gX11_note_X11_bad rfl rfl rfl hdV_X11_bad ⟨Nat.le_of_ble_eq_true rfl, Nat.le_of_ble_eq_true rfl⟩ [0, 2] rfl rfl 0 rfl rfl rfl hl.1 (Nat.le_of_ble_eq_true rfl) dX11_note_51 ⟨Nat.le_of_ble_eq_true rfl, Nat.le_of_ble_eq_true rfl⟩) (fun r_33 u_33 H locs hp_33 G => ?_)
    obtain ⟨f_33, rfl⟩ : ∃ z, z = u_33 := ⟨_, rfl⟩
    have hq_33 := hp_33
    have G : wd X (va_A (@HAppend.hAppend va_W va_W va_W _ (mW m0 ma la lb n t v) (@HAppend.hAppend va_W va_W va_W _ ([((ma 0), .inl (X.2.1, 371, .inl fa))]) ([((ma 3), .inl (X.2.1, 3, .inl fr))]))) sz) (va_A (@HAppend.hAppend va_W va_W va_W _ (mW m0 ma la lb n t v) (@HAppend.hAppend va_W va_W va_W _ ([((ma 0), .inl (X.2.1, 371, .inl fa))]) ([((ma 3), .inl (X.2.1, 3, .inl fr))]))) sz) s (@HAppend.hAppend va_W va_W va_W _ ([((ma 0), .inl (X.2.1, 371, .inl fa))]) (@HAppend.hAppend va_W va_W va_W _ (mW m0 ma la lb n t v) ([((ma 3), .inl (X.2.1, 3, .inl f_33))]))) H locs := G
    obtain rfl := hq_33
    have hzF : ((-2), (c2, fa)) = apgF (thP c0 x1 ∧ ((1 : Int32) ≤ x2 ∧ x2 ≤ 9) ∧ ((0 : Int32) ≤ x3 ∧ x3 ≤ 99) ∧ ((0 : Int32) ≤ x4 ∧ x4 ≤ 9) ∧ ((0 : Int32) ≤ x5 ∧ x5 ≤ 15)) 6 c2 fa (noteM fa c2 x1 x2 x3 x4 x5) := (apgF_n (fun h => hj_1 h.1)).symm
    exact e_int S zr zlk (vp_nar_int _) G (fa, c2, f_33) [1, 0, 2] rfl rfl (Or.inr rfl) (⟨hI_fa, hzF⟩) dX11_note_54
set_option maxHeartbeats 4000000 in
set_option maxRecDepth 100000 in
theorem y_mark (l : Launch) (X : EX) (m0 : Nat) (ma : Nat → Nat) (la : Int64) (lb : Int64) (n : Nat) (t : Nat → Nat) (v : Nat → Int32) (fa : Nat → Int32) (c0 : Nat) (c1 : Nat) (c2 : Nat) (c3 : Nat) (c4 : Nat) (fr : Nat → Int32) (x1 : Int32) (x2 : Int32) (x3 : Int32) (hI_n : n ≤ 150) (hI_t : InT t) (hI_fa : InA fa c0 c1 c2 c3 c4) (sz : Nat) : Met l yX11_mark wsX11_mark ({ frames := 2, cells := 0, slots := 0, locals := 46 } : Room) (pE X [.ref m0, .int x1, .int x2, .int x3] (@HAppend.hAppend va_W va_W va_W _ (mW m0 ma la lb n t v) (@HAppend.hAppend va_W va_W va_W _ ([((ma 0), .inl (X.2.1, 371, .inl fa))]) ([((ma 3), .inl (X.2.1, 3, .inl fr))]))) sz) (qI (fun (r : Int32) (u : (Nat → Int32) × (Nat) × (Nat → Int32)) => InA u.1 c0 c1 c2 u.2.1 c4 ∧ ((r, (u.2.1, u.1)) = apgF (thP c0 x1 ∧ ((0 : Int32) ≤ x2 ∧ x2 ≤ 99) ∧ ((0 : Int32) ≤ x3 ∧ x3 ≤ 15)) 6 c3 fa (markM fa c3 x1 x2 x3))) X (fun (u : (Nat → Int32) × (Nat) × (Nat → Int32)) => @HAppend.hAppend va_W va_W va_W _ (mW m0 ma la lb n t v) (@HAppend.hAppend va_W va_W va_W _ ([((ma 0), .inl (X.2.1, 371, .inl u.1))]) ([((ma 3), .inl (X.2.1, 3, .inl u.2.2))]))) (@HAppend.hAppend va_W va_W va_W _ (mW m0 ma la lb n t v) (@HAppend.hAppend va_W va_W va_W _ ([((ma 0), .inl (X.2.1, 371, .inl fa))]) ([((ma 3), .inl (X.2.1, 3, .inl fr))]))) sz) 0 0 (va_A (@HAppend.hAppend va_W va_W va_W _ (mW m0 ma la lb n t v) (@HAppend.hAppend va_W va_W va_W _ ([((ma 0), .inl (X.2.1, 371, .inl fa))]) ([((ma 3), .inl (X.2.1, 3, .inl fr))]))) sz) := by
  refine mk_met (B := (va_A (@HAppend.hAppend va_W va_W va_W _ (mW m0 ma la lb n t v) (@HAppend.hAppend va_W va_W va_W _ ([((ma 0), .inl (X.2.1, 371, .inl fa))]) ([((ma 3), .inl (X.2.1, 3, .inl fr))]))) sz)) (A := (va_A (@HAppend.hAppend va_W va_W va_W _ (mW m0 ma la lb n t v) (@HAppend.hAppend va_W va_W va_W _ ([((ma 0), .inl (X.2.1, 371, .inl fa))]) ([((ma 3), .inl (X.2.1, 3, .inl fr))]))) sz)) (cc := cX11_mark) (maxL := 5) (ret := (some .int)) (by decide) rfl (Nat.le_of_ble_eq_true rfl) k_w k_a (fun p e s m below meth c S zr zlk znm zsz G ls hl => ?_)
  have S : CallFix p m c cX11_mark 5 s _ wsX11_mark RX11 := S
  have zx := S.1
  have zb := S.2.1
  have hl : lv_has ls 5 [(0, .ref m0), (1, .int x1), (2, .int x2), (3, .int x3)] := hl
  have hO_t := hI_t
  obtain ⟨ht0_t, ht1_t⟩ := hO_t
  have hO_fa := hI_fa.2
  obtain ⟨hm0_fa, hm1_fa, hm2_fa, hm3_fa, hm4_fa⟩ := hO_fa
  refine lv_aload_n zx zb dX11_mark_0 rfl (lv_at hl 0 rfl) ?_
  refine lv_iload_n zx zb dX11_mark_1 rfl (lv_at hl 1 rfl) ?_
  refine o_ri (cells' := 0) (slots' := 0) G rfl rfl (n_V (As := [.int x1]) (rest := []) (C := RX11) (T := TX11) (N := 18) (ci := 9) S G (m_isOne l X m0 ma la lb n t v fa c0 c1 c2 c3 c4 x1 hI_n hI_t hI_fa s.heap.size) gX11_mark_X11_isOne rfl rfl rfl hdV_X11_isOne ⟨Nat.le_of_ble_eq_true rfl, Nat.le_of_ble_eq_true rfl⟩ [0, 1] rfl rfl 0 rfl rfl rfl hl.1 (Nat.le_of_ble_eq_true rfl) dX11_mark_2 ⟨Nat.le_of_ble_eq_true rfl, Nat.le_of_ble_eq_true rfl⟩) (fun r_1 u_1 H locs hp_1 G => ?_)
  have G : wd X (va_A (@HAppend.hAppend va_W va_W va_W _ (mW m0 ma la lb n t v) (@HAppend.hAppend va_W va_W va_W _ ([((ma 0), .inl (X.2.1, 371, .inl fa))]) ([((ma 3), .inl (X.2.1, 3, .inl fr))]))) sz) (va_A (@HAppend.hAppend va_W va_W va_W _ (mW m0 ma la lb n t v) (@HAppend.hAppend va_W va_W va_W _ ([((ma 0), .inl (X.2.1, 371, .inl fa))]) ([((ma 3), .inl (X.2.1, 3, .inl fr))]))) sz) s (@HAppend.hAppend va_W va_W va_W _ (mW m0 ma la lb n t v) (@HAppend.hAppend va_W va_W va_W _ ([((ma 0), .inl (X.2.1, 371, .inl fa))]) ([((ma 3), .inl (X.2.1, 3, .inl fr))]))) H locs := G
  rcases hp_1 with ⟨rfl, hj_1⟩ | ⟨rfl, hj_1⟩
  · obtain ⟨j_1, hj_1, rfl⟩ := hj_1
    refine lv_if_eq (tgt := 32) zx zb dX11_mark_5 (by decide) (fun c_2 => absurd c_2 (by decide)) (fun c_2 => ?_)
    refine lv_iload_n zx zb dX11_mark_8 rfl (lv_at hl 2 rfl) ?_
    refine lv_i2l (v := (Int32.toInt64 x2)) zx zb dX11_mark_9 rfl ?_
    refine lv_lconst (v := (Int32.toInt64 0)) zx zb dX11_mark_10 (by decide) ?_
    refine lv_ldc2 zx zb S.2.2.2.1 (S.2.2.2.2 _ mm_X11_mark_c152) dX11_mark_11 ?_
    refine k_ld (v := (Int32.toInt64 99)) (by decide) ?_
    refine o_ri (cells' := 0) (slots' := 0) G rfl rfl (n_S (As := [.long (Int32.toInt64 x2), .long (Int32.toInt64 0), .long (Int32.toInt64 99)]) (rest := []) S G (m_in l X x2 0 99 H.size) gX11_mark_X11_in rfl rfl rfl hdS_X11_in ⟨Nat.le_of_ble_eq_true rfl, Nat.le_of_ble_eq_true rfl⟩ [] rfl rfl rfl hl.1 (Nat.le_of_ble_eq_true rfl) dX11_mark_14 ⟨Nat.le_of_ble_eq_true rfl, Nat.le_of_ble_eq_true rfl⟩) (fun r_3 u_3 H locs hp_3 G => ?_)
    have G : wd X (va_A (@HAppend.hAppend va_W va_W va_W _ (mW m0 ma la lb n t v) (@HAppend.hAppend va_W va_W va_W _ ([((ma 0), .inl (X.2.1, 371, .inl fa))]) ([((ma 3), .inl (X.2.1, 3, .inl fr))]))) sz) (va_A (@HAppend.hAppend va_W va_W va_W _ (mW m0 ma la lb n t v) (@HAppend.hAppend va_W va_W va_W _ ([((ma 0), .inl (X.2.1, 371, .inl fa))]) ([((ma 3), .inl (X.2.1, 3, .inl fr))]))) sz) s (@HAppend.hAppend va_W va_W va_W _ (mW m0 ma la lb n t v) (@HAppend.hAppend va_W va_W va_W _ ([((ma 0), .inl (X.2.1, 371, .inl fa))]) ([((ma 3), .inl (X.2.1, 3, .inl fr))]))) H locs := G
    rcases hp_3 with ⟨rfl, hw_3⟩ | ⟨rfl, hw_3⟩
    · obtain ⟨j_3, ⟨ja_3, jb_3⟩, rfl⟩ := k_natR (a := 0) (b := 99) hw_3 rfl rfl (by decide) (by decide)
      refine lv_if_eq (tgt := 32) zx zb dX11_mark_17 (by decide) (fun c_4 => absurd c_4 (by decide)) (fun c_4 => ?_)
      refine lv_iload_n zx zb dX11_mark_20 rfl (lv_at hl 3 rfl) ?_
      refine lv_i2l (v := (Int32.toInt64 x3)) zx zb dX11_mark_21 rfl ?_
      refine lv_lconst (v := (Int32.toInt64 0)) zx zb dX11_mark_22 (by decide) ?_
      refine lv_ldc2 zx zb S.2.2.2.1 (S.2.2.2.2 _ mm_X11_mark_c154) dX11_mark_23 ?_
      refine k_ld (v := (Int32.toInt64 15)) (by decide) ?_
      refine o_ri (cells' := 0) (slots' := 0) G rfl rfl (n_S (As := [.long (Int32.toInt64 x3), .long (Int32.toInt64 0), .long (Int32.toInt64 15)]) (rest := []) S G (m_in l X x3 0 15 H.size) gX11_mark_X11_in rfl rfl rfl hdS_X11_in ⟨Nat.le_of_ble_eq_true rfl, Nat.le_of_ble_eq_true rfl⟩ [] rfl rfl rfl hl.1 (Nat.le_of_ble_eq_true rfl) dX11_mark_26 ⟨Nat.le_of_ble_eq_true rfl, Nat.le_of_ble_eq_true rfl⟩) (fun r_5 u_5 H locs hp_5 G => ?_)
      have G : wd X (va_A (@HAppend.hAppend va_W va_W va_W _ (mW m0 ma la lb n t v) (@HAppend.hAppend va_W va_W va_W _ ([((ma 0), .inl (X.2.1, 371, .inl fa))]) ([((ma 3), .inl (X.2.1, 3, .inl fr))]))) sz) (va_A (@HAppend.hAppend va_W va_W va_W _ (mW m0 ma la lb n t v) (@HAppend.hAppend va_W va_W va_W _ ([((ma 0), .inl (X.2.1, 371, .inl fa))]) ([((ma 3), .inl (X.2.1, 3, .inl fr))]))) sz) s (@HAppend.hAppend va_W va_W va_W _ (mW m0 ma la lb n t v) (@HAppend.hAppend va_W va_W va_W _ ([((ma 0), .inl (X.2.1, 371, .inl fa))]) ([((ma 3), .inl (X.2.1, 3, .inl fr))]))) H locs := G
      rcases hp_5 with ⟨rfl, hw_5⟩ | ⟨rfl, hw_5⟩
      · obtain ⟨j_5, ⟨ja_5, jb_5⟩, rfl⟩ := k_natR (a := 0) (b := 15) hw_5 rfl rfl (by decide) (by decide)
        refine lv_if_ne (tgt := 39) zx zb dX11_mark_29 (by decide) (fun c_6 => ?_) (fun c_6 => absurd c_6 (by decide))
        refine lv_aload_n zx zb dX11_mark_39 rfl (lv_at hl 0 rfl) ?_
        refine r_get (C := RX11) (T := TX11) (N := 18) (ci := 9) (v := .ref (ma 0)) S in_X11_mark_X11 G 0 rfl rfl 0 (by decide) lk_X11_mark_7 rfl dX11_mark_40 ?_
        refine lv_iconst (v := 3) zx zb dX11_mark_43 (by decide) ?_
        refine r_iald (v := (nI c3)) S G 1 rfl (k_vp (by decide)) hI_fa.1.2.2.2.1 dX11_mark_44 ?_
        refine lv_bipush (v := 6) zx zb dX11_mark_45 (by decide) ?_
        refine lv_icmp_ne (tgt := 55) zx zb dX11_mark_47 (by decide) (fun c_8 => ?_) (fun c_8 => ?_)
        · have fc_8 := j_ne (a := c3) (b := 6) c_8
          refine lv_bipush (v := 105) zx zb dX11_mark_55 (by decide) ?_
          refine lv_iconst (v := 3) zx zb dX11_mark_57 (by decide) ?_
          refine lv_aload_n zx zb dX11_mark_58 rfl (lv_at hl 0 rfl) ?_
          refine r_get (C := RX11) (T := TX11) (N := 18) (ci := 9) (v := .ref (ma 0)) S in_X11_mark_X11 G 0 rfl rfl 0 (by decide) lk_X11_mark_7 rfl dX11_mark_59 ?_
          refine lv_iconst (v := 3) zx zb dX11_mark_62 (by decide) ?_
          refine r_iald (v := (nI c3)) S G 1 rfl (k_vp (by decide)) hI_fa.1.2.2.2.1 dX11_mark_63 ?_
          refine r_imul (v := (nI (3 * c3))) S (pk_mul 3 c3) dX11_mark_64 ?_
          refine r_iadd (v := (nI (105 + (3 * c3)))) S (nI_add 105 (3 * c3)) dX11_mark_65 ?_
          refine lv_istore (lv' := [(4, .int (nI (105 + (3 * c3)))), (0, .ref m0), (1, .int (nI j_1)), (2, .int (nI j_3)), (3, .int (nI j_5))]) zx zb dX11_mark_66 hl (by decide) rfl (fun ls hl => ?_)
          refine lv_aload_n zx zb dX11_mark_68 rfl (lv_at hl 1 rfl) ?_
          refine r_get (C := RX11) (T := TX11) (N := 18) (ci := 9) (v := .ref (ma 0)) S in_X11_mark_X11 G 0 rfl rfl 0 (by decide) lk_X11_mark_7 rfl dX11_mark_69 ?_
          refine lv_iload zx zb dX11_mark_72 (lv_at hl 0 rfl) ?_
          refine lv_iload_n zx zb dX11_mark_74 rfl (lv_at hl 2 rfl) ?_
          refine r_iast S G 1 rfl (vp_in_nI (by omega) (by decide)) dX11_mark_75 (fun H locs G => ?_)
          obtain ⟨f_10, hI_f_10, hE_f_10, G⟩ : ∃ f_10 : Nat → Int32, InA f_10 c0 c1 c2 c3 c4 ∧ f_10 = upd fa (nI (105 + (3 * c3))).toNatClampNeg (nI j_1) ∧ wd X (va_A (@HAppend.hAppend va_W va_W va_W _ (mW m0 ma la lb n t v) (@HAppend.hAppend va_W va_W va_W _ ([((ma 0), .inl (X.2.1, 371, .inl fa))]) ([((ma 3), .inl (X.2.1, 3, .inl fr))]))) sz) (va_A (@HAppend.hAppend va_W va_W va_W _ (mW m0 ma la lb n t v) (@HAppend.hAppend va_W va_W va_W _ ([((ma 0), .inl (X.2.1, 371, .inl fa))]) ([((ma 3), .inl (X.2.1, 3, .inl fr))]))) sz) s (@HAppend.hAppend va_W va_W va_W _ (mW m0 ma la lb n t v) (@HAppend.hAppend va_W va_W va_W _ ([((ma 0), .inl (X.2.1, 371, .inl f_10))]) ([((ma 3), .inl (X.2.1, 3, .inl fr))]))) H locs := ⟨_, InA_o hI_fa (by rw [nI_clamp (by omega)]; omega), rfl, G⟩
          refine lv_aload_n zx zb dX11_mark_76 rfl (lv_at hl 1 rfl) ?_
          refine r_get (C := RX11) (T := TX11) (N := 18) (ci := 9) (v := .ref (ma 0)) S in_X11_mark_X11 G 0 rfl rfl 0 (by decide) lk_X11_mark_7 rfl dX11_mark_77 ?_
          refine lv_iload zx zb dX11_mark_80 (lv_at hl 0 rfl) ?_
          refine lv_iconst (v := 1) zx zb dX11_mark_82 (by decide) ?_
          refine r_iadd (v := (nI ((105 + (3 * c3)) + 1))) S (nI_add (105 + (3 * c3)) 1) dX11_mark_83 ?_
          refine lv_iload_n zx zb dX11_mark_84 rfl (lv_at hl 3 rfl) ?_
          refine r_iast S G 1 rfl (vp_in_nI (by omega) (by decide)) dX11_mark_85 (fun H locs G => ?_)
          obtain ⟨f_11, hI_f_11, hE_f_11, G⟩ : ∃ f_11 : Nat → Int32, InA f_11 c0 c1 c2 c3 c4 ∧ f_11 = upd f_10 (nI ((105 + (3 * c3)) + 1)).toNatClampNeg (nI j_3) ∧ wd X (va_A (@HAppend.hAppend va_W va_W va_W _ (mW m0 ma la lb n t v) (@HAppend.hAppend va_W va_W va_W _ ([((ma 0), .inl (X.2.1, 371, .inl fa))]) ([((ma 3), .inl (X.2.1, 3, .inl fr))]))) sz) (va_A (@HAppend.hAppend va_W va_W va_W _ (mW m0 ma la lb n t v) (@HAppend.hAppend va_W va_W va_W _ ([((ma 0), .inl (X.2.1, 371, .inl fa))]) ([((ma 3), .inl (X.2.1, 3, .inl fr))]))) sz) s (@HAppend.hAppend va_W va_W va_W _ (mW m0 ma la lb n t v) (@HAppend.hAppend va_W va_W va_W _ ([((ma 0), .inl (X.2.1, 371, .inl f_11))]) ([((ma 3), .inl (X.2.1, 3, .inl fr))]))) H locs := ⟨_, InA_o hI_f_10 (by rw [nI_clamp (by omega)]; omega), rfl, G⟩
          refine lv_aload_n zx zb dX11_mark_86 rfl (lv_at hl 1 rfl) ?_
          refine r_get (C := RX11) (T := TX11) (N := 18) (ci := 9) (v := .ref (ma 0)) S in_X11_mark_X11 G 0 rfl rfl 0 (by decide) lk_X11_mark_7 rfl dX11_mark_87 ?_
          refine lv_iload zx zb dX11_mark_90 (lv_at hl 0 rfl) ?_
          refine lv_iconst (v := 2) zx zb dX11_mark_92 (by decide) ?_
          refine r_iadd (v := (nI ((105 + (3 * c3)) + 2))) S (nI_add (105 + (3 * c3)) 2) dX11_mark_93 ?_
          refine lv_iload_n zx zb dX11_mark_94 rfl (lv_at hl 4 rfl) ?_
          refine r_iast S G 1 rfl (vp_in_nI (by omega) (by decide)) dX11_mark_95 (fun H locs G => ?_)
          obtain ⟨f_12, hI_f_12, hE_f_12, G⟩ : ∃ f_12 : Nat → Int32, InA f_12 c0 c1 c2 c3 c4 ∧ f_12 = upd f_11 (nI ((105 + (3 * c3)) + 2)).toNatClampNeg (nI j_5) ∧ wd X (va_A (@HAppend.hAppend va_W va_W va_W _ (mW m0 ma la lb n t v) (@HAppend.hAppend va_W va_W va_W _ ([((ma 0), .inl (X.2.1, 371, .inl fa))]) ([((ma 3), .inl (X.2.1, 3, .inl fr))]))) sz) (va_A (@HAppend.hAppend va_W va_W va_W _ (mW m0 ma la lb n t v) (@HAppend.hAppend va_W va_W va_W _ ([((ma 0), .inl (X.2.1, 371, .inl fa))]) ([((ma 3), .inl (X.2.1, 3, .inl fr))]))) sz) s (@HAppend.hAppend va_W va_W va_W _ (mW m0 ma la lb n t v) (@HAppend.hAppend va_W va_W va_W _ ([((ma 0), .inl (X.2.1, 371, .inl f_12))]) ([((ma 3), .inl (X.2.1, 3, .inl fr))]))) H locs := ⟨_, InA_o hI_f_11 (by rw [nI_clamp (by omega)]; omega), rfl, G⟩
          refine lv_aload_n zx zb dX11_mark_96 rfl (lv_at hl 1 rfl) ?_
          refine r_get (C := RX11) (T := TX11) (N := 18) (ci := 9) (v := .ref (ma 0)) S in_X11_mark_X11 G 0 rfl rfl 0 (by decide) lk_X11_mark_7 rfl dX11_mark_97 ?_
          refine lv_iconst (v := 3) zx zb dX11_mark_100 (by decide) ?_
          refine lv_dup2_11 zx zb dX11_mark_101 rfl rfl ?_
          refine r_iald (v := (nI c3)) S G 1 rfl (k_vp (by decide)) hI_f_12.1.2.2.2.1 dX11_mark_102 ?_
          refine lv_iconst (v := 1) zx zb dX11_mark_103 (by decide) ?_
          refine r_iadd (v := (nI (c3 + 1))) S (nI_add c3 1) dX11_mark_104 ?_
          refine r_iast S G 1 rfl (k_vp (by decide)) dX11_mark_105 (fun H locs G => ?_)
          obtain ⟨f_14, c_15, hI_f_14, hE_c_15, hE_f_14, G⟩ : ∃ (f_14 : Nat → Int32) (c_15 : Nat), InA f_14 c0 c1 c2 c_15 c4 ∧ c_15 = (c3 + 1) ∧ f_14 = upd f_12 3 (nI (c3 + 1)) ∧ wd X (va_A (@HAppend.hAppend va_W va_W va_W _ (mW m0 ma la lb n t v) (@HAppend.hAppend va_W va_W va_W _ ([((ma 0), .inl (X.2.1, 371, .inl fa))]) ([((ma 3), .inl (X.2.1, 3, .inl fr))]))) sz) (va_A (@HAppend.hAppend va_W va_W va_W _ (mW m0 ma la lb n t v) (@HAppend.hAppend va_W va_W va_W _ ([((ma 0), .inl (X.2.1, 371, .inl fa))]) ([((ma 3), .inl (X.2.1, 3, .inl fr))]))) sz) s (@HAppend.hAppend va_W va_W va_W _ (mW m0 ma la lb n t v) (@HAppend.hAppend va_W va_W va_W _ ([((ma 0), .inl (X.2.1, 371, .inl f_14))]) ([((ma 3), .inl (X.2.1, 3, .inl fr))]))) H locs := ⟨_, (c3 + 1), InA_n3 (n := (c3 + 1)) hI_f_12 (by omega), rfl, rfl, G⟩
          refine lv_aload_n zx zb dX11_mark_106 rfl (lv_at hl 1 rfl) ?_
          refine r_get (C := RX11) (T := TX11) (N := 18) (ci := 9) (v := .ref (ma 0)) S in_X11_mark_X11 G 0 rfl rfl 0 (by decide) lk_X11_mark_7 rfl dX11_mark_107 ?_
          refine lv_iconst (v := 3) zx zb dX11_mark_110 (by decide) ?_
          refine r_iald (v := (nI c_15)) S G 1 rfl (k_vp (by decide)) hI_f_14.1.2.2.2.1 dX11_mark_111 ?_
          have hzF : ((nI c_15), (c_15, f_14)) = apgF (thP c0 (nI j_1) ∧ ((0 : Int32) ≤ (nI j_3) ∧ (nI j_3) ≤ 99) ∧ ((0 : Int32) ≤ (nI j_5) ∧ (nI j_5) ≤ 15)) 6 c3 fa (markM fa c3 (nI j_1) (nI j_3) (nI j_5)) := by rw [apgF_p ⟨⟨_, hj_1, rfl⟩, hw_3, hw_5⟩ (by omega), show c_15 = c3 + 1 from by omega, hE_f_14, hE_f_12, hE_f_11, hE_f_10, nI_clamp (by omega), nI_clamp (by omega), nI_clamp (by omega)]; rfl
          exact e_int S zr zlk (vp_nar_int _) G (f_14, c_15, fr) [0, 1, 2] rfl rfl (Or.inr rfl) (⟨hI_f_14, hzF⟩) dX11_mark_112
        · have fc_8 := j_eq (a := c3) (b := 6) (by omega) (by omega) c_8
          refine lv_aload_n zx zb dX11_mark_50 rfl (lv_at hl 0 rfl) ?_
          refine b_wi (cells' := 0) (slots' := 0) (wr := [((ma 0), .inl (X.2.1, 371, .inl fa))]) G rfl rfl [0, 2] [1] rfl rfl rfl rfl (n_V (As := []) (rest := []) (C := RX11) (T := TX11) (N := 18) (ci := 9) S G (m_full l X m0 ma la lb n t v fr hI_n hI_t H.size) gX11_mark_X11_full rfl rfl rfl hdV_X11_full ⟨Nat.le_of_ble_eq_true rfl, Nat.le_of_ble_eq_true rfl⟩ [0, 2] rfl rfl 0 rfl rfl rfl hl.1 (Nat.le_of_ble_eq_true rfl) dX11_mark_51 ⟨Nat.le_of_ble_eq_true rfl, Nat.le_of_ble_eq_true rfl⟩) (fun r_17 u_17 H locs hp_17 G => ?_)
          obtain ⟨f_17, rfl⟩ : ∃ z, z = u_17 := ⟨_, rfl⟩
          have hq_17 := hp_17
          have G : wd X (va_A (@HAppend.hAppend va_W va_W va_W _ (mW m0 ma la lb n t v) (@HAppend.hAppend va_W va_W va_W _ ([((ma 0), .inl (X.2.1, 371, .inl fa))]) ([((ma 3), .inl (X.2.1, 3, .inl fr))]))) sz) (va_A (@HAppend.hAppend va_W va_W va_W _ (mW m0 ma la lb n t v) (@HAppend.hAppend va_W va_W va_W _ ([((ma 0), .inl (X.2.1, 371, .inl fa))]) ([((ma 3), .inl (X.2.1, 3, .inl fr))]))) sz) s (@HAppend.hAppend va_W va_W va_W _ ([((ma 0), .inl (X.2.1, 371, .inl fa))]) (@HAppend.hAppend va_W va_W va_W _ (mW m0 ma la lb n t v) ([((ma 3), .inl (X.2.1, 3, .inl f_17))]))) H locs := G
          obtain rfl := hq_17
          have hzF : ((-4), (c3, fa)) = apgF (thP c0 (nI j_1) ∧ ((0 : Int32) ≤ (nI j_3) ∧ (nI j_3) ≤ 99) ∧ ((0 : Int32) ≤ (nI j_5) ∧ (nI j_5) ≤ 15)) 6 c3 fa (markM fa c3 (nI j_1) (nI j_3) (nI j_5)) := (apgF_f ⟨⟨_, hj_1, rfl⟩, hw_3, hw_5⟩ (by omega)).symm
          exact e_int S zr zlk (vp_nar_int _) G (fa, c3, f_17) [1, 0, 2] rfl rfl (Or.inr rfl) (⟨hI_fa, hzF⟩) dX11_mark_54
      · refine lv_if_ne (tgt := 39) zx zb dX11_mark_29 (by decide) (fun c_18 => absurd (by decide) c_18) (fun c_18 => ?_)
        refine lv_aload_n zx zb dX11_mark_32 rfl (lv_at hl 0 rfl) ?_
        refine lv_bipush (v := (-2)) zx zb dX11_mark_33 (by decide) ?_
        refine b_wi (cells' := 0) (slots' := 0) (wr := [((ma 0), .inl (X.2.1, 371, .inl fa))]) G rfl rfl [0, 2] [1] rfl rfl rfl rfl (n_V (As := [.int (-2)]) (rest := []) (C := RX11) (T := TX11) (N := 18) (ci := 9) S G (m_bad l X m0 ma la lb n t v fr (-2) hI_n hI_t H.size) gX11_mark_X11_bad rfl rfl rfl hdV_X11_bad ⟨Nat.le_of_ble_eq_true rfl, Nat.le_of_ble_eq_true rfl⟩ [0, 2] rfl rfl 0 rfl rfl rfl hl.1 (Nat.le_of_ble_eq_true rfl) dX11_mark_35 ⟨Nat.le_of_ble_eq_true rfl, Nat.le_of_ble_eq_true rfl⟩) (fun r_19 u_19 H locs hp_19 G => ?_)
        obtain ⟨f_19, rfl⟩ : ∃ z, z = u_19 := ⟨_, rfl⟩
        have hq_19 := hp_19
        have G : wd X (va_A (@HAppend.hAppend va_W va_W va_W _ (mW m0 ma la lb n t v) (@HAppend.hAppend va_W va_W va_W _ ([((ma 0), .inl (X.2.1, 371, .inl fa))]) ([((ma 3), .inl (X.2.1, 3, .inl fr))]))) sz) (va_A (@HAppend.hAppend va_W va_W va_W _ (mW m0 ma la lb n t v) (@HAppend.hAppend va_W va_W va_W _ ([((ma 0), .inl (X.2.1, 371, .inl fa))]) ([((ma 3), .inl (X.2.1, 3, .inl fr))]))) sz) s (@HAppend.hAppend va_W va_W va_W _ ([((ma 0), .inl (X.2.1, 371, .inl fa))]) (@HAppend.hAppend va_W va_W va_W _ (mW m0 ma la lb n t v) ([((ma 3), .inl (X.2.1, 3, .inl f_19))]))) H locs := G
        obtain rfl := hq_19
        have hzF : ((-2), (c3, fa)) = apgF (thP c0 (nI j_1) ∧ ((0 : Int32) ≤ (nI j_3) ∧ (nI j_3) ≤ 99) ∧ ((0 : Int32) ≤ x3 ∧ x3 ≤ 15)) 6 c3 fa (markM fa c3 (nI j_1) (nI j_3) x3) := (apgF_n (fun h => hw_5 h.2.2)).symm
        exact e_int S zr zlk (vp_nar_int _) G (fa, c3, f_19) [1, 0, 2] rfl rfl (Or.inr rfl) (⟨hI_fa, hzF⟩) dX11_mark_38
    · refine lv_if_eq (tgt := 32) zx zb dX11_mark_17 (by decide) (fun c_20 => ?_) (fun c_20 => absurd (by decide) c_20)
      refine lv_aload_n zx zb dX11_mark_32 rfl (lv_at hl 0 rfl) ?_
      refine lv_bipush (v := (-2)) zx zb dX11_mark_33 (by decide) ?_
      refine b_wi (cells' := 0) (slots' := 0) (wr := [((ma 0), .inl (X.2.1, 371, .inl fa))]) G rfl rfl [0, 2] [1] rfl rfl rfl rfl (n_V (As := [.int (-2)]) (rest := []) (C := RX11) (T := TX11) (N := 18) (ci := 9) S G (m_bad l X m0 ma la lb n t v fr (-2) hI_n hI_t H.size) gX11_mark_X11_bad rfl rfl rfl hdV_X11_bad ⟨Nat.le_of_ble_eq_true rfl, Nat.le_of_ble_eq_true rfl⟩ [0, 2] rfl rfl 0 rfl rfl rfl hl.1 (Nat.le_of_ble_eq_true rfl) dX11_mark_35 ⟨Nat.le_of_ble_eq_true rfl, Nat.le_of_ble_eq_true rfl⟩) (fun r_21 u_21 H locs hp_21 G => ?_)
      obtain ⟨f_21, rfl⟩ : ∃ z, z = u_21 := ⟨_, rfl⟩
      have hq_21 := hp_21
      have G : wd X (va_A (@HAppend.hAppend va_W va_W va_W _ (mW m0 ma la lb n t v) (@HAppend.hAppend va_W va_W va_W _ ([((ma 0), .inl (X.2.1, 371, .inl fa))]) ([((ma 3), .inl (X.2.1, 3, .inl fr))]))) sz) (va_A (@HAppend.hAppend va_W va_W va_W _ (mW m0 ma la lb n t v) (@HAppend.hAppend va_W va_W va_W _ ([((ma 0), .inl (X.2.1, 371, .inl fa))]) ([((ma 3), .inl (X.2.1, 3, .inl fr))]))) sz) s (@HAppend.hAppend va_W va_W va_W _ ([((ma 0), .inl (X.2.1, 371, .inl fa))]) (@HAppend.hAppend va_W va_W va_W _ (mW m0 ma la lb n t v) ([((ma 3), .inl (X.2.1, 3, .inl f_21))]))) H locs := G
      obtain rfl := hq_21
      have hzF : ((-2), (c3, fa)) = apgF (thP c0 (nI j_1) ∧ ((0 : Int32) ≤ x2 ∧ x2 ≤ 99) ∧ ((0 : Int32) ≤ x3 ∧ x3 ≤ 15)) 6 c3 fa (markM fa c3 (nI j_1) x2 x3) := (apgF_n (fun h => hw_3 h.2.1)).symm
      exact e_int S zr zlk (vp_nar_int _) G (fa, c3, f_21) [1, 0, 2] rfl rfl (Or.inr rfl) (⟨hI_fa, hzF⟩) dX11_mark_38
  · refine lv_if_eq (tgt := 32) zx zb dX11_mark_5 (by decide) (fun c_22 => ?_) (fun c_22 => absurd (by decide) c_22)
    refine lv_aload_n zx zb dX11_mark_32 rfl (lv_at hl 0 rfl) ?_
    refine lv_bipush (v := (-2)) zx zb dX11_mark_33 (by decide) ?_
    refine b_wi (cells' := 0) (slots' := 0) (wr := [((ma 0), .inl (X.2.1, 371, .inl fa))]) G rfl rfl [0, 2] [1] rfl rfl rfl rfl (n_V (As := [.int (-2)]) (rest := []) (C := RX11) (T := TX11) (N := 18) (ci := 9) S G (m_bad l X m0 ma la lb n t v fr (-2) hI_n hI_t H.size) gX11_mark_X11_bad rfl rfl rfl hdV_X11_bad ⟨Nat.le_of_ble_eq_true rfl, Nat.le_of_ble_eq_true rfl⟩ [0, 2] rfl rfl 0 rfl rfl rfl hl.1 (Nat.le_of_ble_eq_true rfl) dX11_mark_35 ⟨Nat.le_of_ble_eq_true rfl, Nat.le_of_ble_eq_true rfl⟩) (fun r_23 u_23 H locs hp_23 G => ?_)
    obtain ⟨f_23, rfl⟩ : ∃ z, z = u_23 := ⟨_, rfl⟩
    have hq_23 := hp_23
    have G : wd X (va_A (@HAppend.hAppend va_W va_W va_W _ (mW m0 ma la lb n t v) (@HAppend.hAppend va_W va_W va_W _ ([((ma 0), .inl (X.2.1, 371, .inl fa))]) ([((ma 3), .inl (X.2.1, 3, .inl fr))]))) sz) (va_A (@HAppend.hAppend va_W va_W va_W _ (mW m0 ma la lb n t v) (@HAppend.hAppend va_W va_W va_W _ ([((ma 0), .inl (X.2.1, 371, .inl fa))]) ([((ma 3), .inl (X.2.1, 3, .inl fr))]))) sz) s (@HAppend.hAppend va_W va_W va_W _ ([((ma 0), .inl (X.2.1, 371, .inl fa))]) (@HAppend.hAppend va_W va_W va_W _ (mW m0 ma la lb n t v) ([((ma 3), .inl (X.2.1, 3, .inl f_23))]))) H locs := G
    obtain rfl := hq_23
    have hzF : ((-2), (c3, fa)) = apgF (thP c0 x1 ∧ ((0 : Int32) ≤ x2 ∧ x2 ≤ 99) ∧ ((0 : Int32) ≤ x3 ∧ x3 ≤ 15)) 6 c3 fa (markM fa c3 x1 x2 x3) := (apgF_n (fun h => hj_1 h.1)).symm
    exact e_int S zr zlk (vp_nar_int _) G (fa, c3, f_23) [1, 0, 2] rfl rfl (Or.inr rfl) (⟨hI_fa, hzF⟩) dX11_mark_38
set_option maxHeartbeats 4000000 in
set_option maxRecDepth 100000 in
theorem w_goTick (l : Launch) (X : EX) (ha : Nat) (N : Nat) (f : Nat → Int32) (c0 : Nat) (c1 : Nat) (c2 : Nat) (c3 : Nat) (c4 : Nat) (hI_f : InA f c0 c1 c2 c3 c4) (hN : 55 ≤ N) (hM : N ≤ 1000) (sz : Nat) : Met l yX11_goTick wsX11_goTick ({ frames := 3, cells := 0, slots := 0, locals := 72 } : Room) (pE X [.ref ha] ([(ha, .inl (X.2.1, N, .inl f))]) sz) (qV (fun (u : (Nat → Int32)) => InA u c0 c1 c2 c3 c4 ∧ (kpM f u)) X (fun (u : (Nat → Int32)) => [(ha, .inl (X.2.1, N, .inl u))]) ([(ha, .inl (X.2.1, N, .inl f))]) sz) 0 0 (va_A ([(ha, .inl (X.2.1, N, .inl f))]) sz) := by
  refine mk_met (B := (va_A ([(ha, .inl (X.2.1, N, .inl f))]) sz)) (A := (va_A ([(ha, .inl (X.2.1, N, .inl f))]) sz)) (cc := cX11_goTick) (maxL := 2) (ret := none) (by decide) rfl (Nat.le_of_ble_eq_true rfl) k_w k_a (fun p e s m below meth c S zr zlk znm zsz G ls hl => ?_)
  have S : CallFix p m c cX11_goTick 2 s _ wsX11_goTick RX11 := S
  have zx := S.1
  have zb := S.2.1
  have hl : lv_has ls 2 [(0, .ref ha)] := hl
  have hO_f := hI_f.2
  obtain ⟨hm0_f, hm1_f, hm2_f, hm3_f, hm4_f⟩ := hO_f
  refine lv_aload_n zx zb dX11_goTick_0 rfl (lv_at hl 0 rfl) ?_
  refine lv_bipush (v := 35) zx zb dX11_goTick_1 (by decide) ?_
  refine lv_dup2_11 zx zb dX11_goTick_3 rfl rfl ?_
  refine r_iald (v := (f 35)) S G 0 rfl (k_vpc (c := 35) rfl (by omega) (by omega)) rfl dX11_goTick_4 ?_
  refine lv_iconst (v := 1) zx zb dX11_goTick_5 (by decide) ?_
  refine r_iadd (v := ((f 35) + 1)) S rfl dX11_goTick_6 ?_
  refine r_iast S G 0 rfl (k_vpc (c := 35) rfl (by omega) (by omega)) dX11_goTick_7 (fun H locs G => ?_)
  obtain ⟨f_2, hI_f_2, hE_f_2, G⟩ : ∃ f_2 : Nat → Int32, InA f_2 c0 c1 c2 c3 c4 ∧ f_2 = upd f 35 ((f 35) + 1) ∧ wd X (va_A ([(ha, .inl (X.2.1, N, .inl f))]) sz) (va_A ([(ha, .inl (X.2.1, N, .inl f))]) sz) s ([(ha, .inl (X.2.1, N, .inl f_2))]) H locs := ⟨_, InA_o hI_f (by decide), rfl, G⟩
  have kp_f_2 : kpM f f_2 := kp_u kp_r hE_f_2 (by decide)
  refine lv_iconst (v := 0) zx zb dX11_goTick_8 (by decide) ?_
  refine lv_istore_n (lv' := [(1, .int 0), (0, .ref ha)]) zx zb dX11_goTick_9 rfl hl (by decide) rfl (fun ls hl => ?_)
  refine k_loop (P := ∀ (zm : Nat) (n10_1 : Nat) (f10_0 : Nat → Int32) (H : Heap) (locs : List Loc) (ls : Array Slot), ((6 - n10_1) < zm) → (kpM f f10_0) → InA f10_0 c0 c1 c2 c3 c4 → (n10_1 ≤ 6) → wd X (va_A ([(ha, .inl (X.2.1, N, .inl f))]) sz) (va_A ([(ha, .inl (X.2.1, N, .inl f))]) sz) s ([(ha, .inl (X.2.1, N, .inl f10_0))]) H locs → lv_has ls 2 [(1, .int (nI n10_1)), (0, .ref ha)] → W p l e _ s m _ below meth c H locs _ _ _ (F0 m 10 ls [])) (fun loop => loop ((6 - 0) + 1) 0 f_2 _ _ _ (by omega) kp_f_2 hI_f_2 (by omega) G hl) ?_
  intro zm
  induction zm with
  | zero => intro n10_1 f10_0 H locs ls zz q_x0 q_hI_f10_0 q_hk_n10_1 _ _; exact absurd zz (by omega)
  | succ zm ih10 =>
    intro n10_1 f10_0 H locs ls zm_10 hx10_0 hI_f10_0 hk_n10_1 G hl
    have kp_f10_0 := hx10_0
    refine lv_iload_n zx zb dX11_goTick_10 rfl (lv_at hl 0 rfl) ?_
    refine lv_aload_n zx zb dX11_goTick_11 rfl (lv_at hl 1 rfl) ?_
    refine lv_iconst (v := 0) zx zb dX11_goTick_12 (by decide) ?_
    refine r_iald (v := (nI c0)) S G 0 rfl (k_vpc (c := 0) rfl (by omega) (by omega)) hI_f10_0.1.1 dX11_goTick_13 ?_
    refine lv_icmp_ge (tgt := 37) zx zb dX11_goTick_14 (by decide) (fun c_4 => ?_) (fun c_4 => ?_)
    · have fc_4 := j_le (a := c0) (b := n10_1) (by omega) (by omega) c_4
      exact e_void S zr zlk G (f10_0) [0] rfl rfl (Or.inr rfl) (⟨hI_f10_0, kp_f10_0⟩) dX11_goTick_37
    · have fc_4 := j_nle (a := c0) (b := n10_1) (by omega) (by omega) c_4
      refine lv_aload_n zx zb dX11_goTick_17 rfl (lv_at hl 1 rfl) ?_
      refine lv_iload_n zx zb dX11_goTick_18 rfl (lv_at hl 0 rfl) ?_
      refine o_ri (cells' := 0) (slots' := 0) G rfl rfl (n_S (As := [.ref ha, .int (nI n10_1)]) (rest := []) S G (y_isHome l X ha N f10_0 c0 c1 c2 c3 c4 n10_1 hI_f10_0 (by omega) (by omega) (by omega) H.size) gX11_goTick_X11_isHome rfl rfl rfl hdS_X11_isHome ⟨Nat.le_of_ble_eq_true rfl, Nat.le_of_ble_eq_true rfl⟩ [0] rfl rfl rfl hl.1 (Nat.le_of_ble_eq_true rfl) dX11_goTick_19 ⟨Nat.le_of_ble_eq_true rfl, Nat.le_of_ble_eq_true rfl⟩) (fun r_5 u_5 H locs hp_5 G => ?_)
      have G : wd X (va_A ([(ha, .inl (X.2.1, N, .inl f))]) sz) (va_A ([(ha, .inl (X.2.1, N, .inl f))]) sz) s ([(ha, .inl (X.2.1, N, .inl f10_0))]) H locs := G
      rcases hp_5 with ⟨rfl, hh_5⟩ | ⟨rfl, hh_5⟩
      · refine lv_if_ne (tgt := 31) zx zb dX11_goTick_22 (by decide) (fun c_6 => ?_) (fun c_6 => absurd c_6 (by decide))
        refine lv_iinc (v := (nI (n10_1 + 1))) (lv' := [(1, .int (nI (n10_1 + 1))), (0, .ref ha)]) zx zb dX11_goTick_31 hl (k := 0) rfl (nI_add n10_1 1) (by decide) rfl (fun ls hl => ?_)
        refine lv_goto (tgt := 10) zx zb dX11_goTick_34 (by decide) ?_
        exact ih10 (n10_1 + 1) f10_0 _ _ _ (by omega) kp_f10_0 hI_f10_0 (by omega) G hl
      · refine lv_if_ne (tgt := 31) zx zb dX11_goTick_22 (by decide) (fun c_7 => absurd (by decide) c_7) (fun c_7 => ?_)
        refine lv_aload_n zx zb dX11_goTick_25 rfl (lv_at hl 1 rfl) ?_
        refine lv_iload_n zx zb dX11_goTick_26 rfl (lv_at hl 0 rfl) ?_
        refine lv_iconst (v := 0) zx zb dX11_goTick_27 (by decide) ?_
        refine b_wv (cells' := 0) (slots' := 0) (wr := []) G rfl rfl [0] [] rfl rfl rfl rfl (n_S (As := [.ref ha, .int (nI n10_1), .int 0]) (rest := []) S G (y_goOne l X ha N f10_0 c0 c1 c2 c3 c4 n10_1 hI_f10_0 (by omega) (by omega) (by omega) H.size) gX11_goTick_X11_goOne rfl rfl rfl hdS_X11_goOne ⟨Nat.le_of_ble_eq_true rfl, Nat.le_of_ble_eq_true rfl⟩ [0] rfl rfl rfl hl.1 (Nat.le_of_ble_eq_true rfl) dX11_goTick_28 ⟨Nat.le_of_ble_eq_true rfl, Nat.le_of_ble_eq_true rfl⟩) (fun u_8 H locs hp_8 G => ?_)
        obtain ⟨f_8, rfl⟩ : ∃ z, z = u_8 := ⟨_, rfl⟩
        obtain ⟨hI_f_8, hq_8⟩ := hp_8
        have G : wd X (va_A ([(ha, .inl (X.2.1, N, .inl f))]) sz) (va_A ([(ha, .inl (X.2.1, N, .inl f))]) sz) s ([(ha, .inl (X.2.1, N, .inl f_8))]) H locs := G
        have kp_f_8 : kpM f f_8 := kp_t kp_f10_0 (by rw [hq_8]; exact kp_g (by omega))
        refine lv_iinc (v := (nI (n10_1 + 1))) (lv' := [(1, .int (nI (n10_1 + 1))), (0, .ref ha)]) zx zb dX11_goTick_31 hl (k := 0) rfl (nI_add n10_1 1) (by decide) rfl (fun ls hl => ?_)
        refine lv_goto (tgt := 10) zx zb dX11_goTick_34 (by decide) ?_
        exact ih10 (n10_1 + 1) f_8 _ _ _ (by omega) kp_f_8 hI_f_8 (by omega) G hl
set_option maxHeartbeats 4000000 in
set_option maxRecDepth 100000 in
theorem w_goTicks (l : Launch) (X : EX) (ha : Nat) (N : Nat) (f : Nat → Int32) (c0 : Nat) (c1 : Nat) (c2 : Nat) (c3 : Nat) (c4 : Nat) (z : Nat) (hI_f : InA f c0 c1 c2 c3 c4) (hN : 55 ≤ N) (hM : N ≤ 1000) (hz : z ≤ 99) (sz : Nat) : Met l yX11_goTicks wsX11_goTicks ({ frames := 4, cells := 0, slots := 0, locals := 93 } : Room) (pE X [.ref ha, .int (nI z)] ([(ha, .inl (X.2.1, N, .inl f))]) sz) (qV (fun (u : (Nat → Int32)) => InA u c0 c1 c2 c3 c4 ∧ (kpM f u)) X (fun (u : (Nat → Int32)) => [(ha, .inl (X.2.1, N, .inl u))]) ([(ha, .inl (X.2.1, N, .inl f))]) sz) 0 0 (va_A ([(ha, .inl (X.2.1, N, .inl f))]) sz) := by
  refine mk_met (B := (va_A ([(ha, .inl (X.2.1, N, .inl f))]) sz)) (A := (va_A ([(ha, .inl (X.2.1, N, .inl f))]) sz)) (cc := cX11_goTicks) (maxL := 3) (ret := none) (by decide) rfl (Nat.le_of_ble_eq_true rfl) k_w k_a (fun p e s m below meth c S zr zlk znm zsz G ls hl => ?_)
  have S : CallFix p m c cX11_goTicks 3 s _ wsX11_goTicks RX11 := S
  have zx := S.1
  have zb := S.2.1
  have hl : lv_has ls 3 [(0, .ref ha), (1, .int (nI z))] := hl
  have hO_f := hI_f.2
  obtain ⟨hm0_f, hm1_f, hm2_f, hm3_f, hm4_f⟩ := hO_f
  refine lv_iconst (v := 0) zx zb dX11_goTicks_0 (by decide) ?_
  refine lv_istore_n (lv' := [(2, .int 0), (0, .ref ha), (1, .int (nI z))]) zx zb dX11_goTicks_1 rfl hl (by decide) rfl (fun ls hl => ?_)
  refine k_loop (P := ∀ (zm : Nat) (n2_2 : Nat) (f2_0 : Nat → Int32) (H : Heap) (locs : List Loc) (ls : Array Slot), ((z - n2_2) < zm) → (kpM f f2_0) → InA f2_0 c0 c1 c2 c3 c4 → (n2_2 ≤ z) → wd X (va_A ([(ha, .inl (X.2.1, N, .inl f))]) sz) (va_A ([(ha, .inl (X.2.1, N, .inl f))]) sz) s ([(ha, .inl (X.2.1, N, .inl f2_0))]) H locs → lv_has ls 3 [(2, .int (nI n2_2)), (0, .ref ha), (1, .int (nI z))] → W p l e _ s m _ below meth c H locs _ _ _ (F0 m 2 ls [])) (fun loop => loop ((z - 0) + 1) 0 f _ _ _ (by omega) kp_r hI_f (by omega) G hl) ?_
  intro zm
  induction zm with
  | zero => intro n2_2 f2_0 H locs ls zz q_x0 q_hI_f2_0 q_hk_n2_2 _ _; exact absurd zz (by omega)
  | succ zm ih2 =>
    intro n2_2 f2_0 H locs ls zm_2 hx2_0 hI_f2_0 hk_n2_2 G hl
    have kp_f2_0 := hx2_0
    refine lv_iload_n zx zb dX11_goTicks_2 rfl (lv_at hl 0 rfl) ?_
    refine lv_iload_n zx zb dX11_goTicks_3 rfl (lv_at hl 2 rfl) ?_
    refine k_cutW (PP := fun Wx => ∀ (H : Heap) (locs : List Loc) (ls : Array Slot), wd X (va_A ([(ha, .inl (X.2.1, N, .inl f))]) sz) (va_A ([(ha, .inl (X.2.1, N, .inl f))]) sz) s ([(ha, .inl (X.2.1, N, .inl f2_0))]) H locs → lv_has ls 3 [(2, .int (nI n2_2)), (0, .ref ha), (1, .int (nI z))] → Wx (F0 m 27 ls []) H locs) ?_ ?_
    · intro join_4
      refine lv_icmp_ge (tgt := 27) zx zb dX11_goTicks_4 (by decide) (fun c_1 => ?_) (fun c_1 => ?_)
      · have fc_1 := j_le (a := z) (b := n2_2) (by omega) (by omega) c_1
        exact join_4  _ _ _  G hl
      · have fc_1 := j_nle (a := z) (b := n2_2) (by omega) (by omega) c_1
        refine lv_aload_n zx zb dX11_goTicks_7 rfl (lv_at hl 1 rfl) ?_
        refine lv_bipush (v := 35) zx zb dX11_goTicks_8 (by decide) ?_
        refine r_iald (v := (f2_0 35)) S G 0 rfl (k_vpc (c := 35) rfl (by omega) (by omega)) rfl dX11_goTicks_10 ?_
        refine lv_sipush (v := 9999) zx zb dX11_goTicks_11 (by decide) ?_
        refine lv_icmp_ge (tgt := 27) zx zb dX11_goTicks_14 (by decide) (fun c_3 => ?_) (fun c_3 => ?_)
        · exact join_4  _ _ _  G hl
        · refine lv_aload_n zx zb dX11_goTicks_17 rfl (lv_at hl 1 rfl) ?_
          refine b_wv (cells' := 0) (slots' := 0) (wr := []) G rfl rfl [0] [] rfl rfl rfl rfl (n_S (As := [.ref ha]) (rest := []) S G (w_goTick l X ha N f2_0 c0 c1 c2 c3 c4 hI_f2_0 (by omega) (by omega) H.size) gX11_goTicks_X11_goTick rfl rfl rfl hdS_X11_goTick ⟨Nat.le_of_ble_eq_true rfl, Nat.le_of_ble_eq_true rfl⟩ [0] rfl rfl rfl hl.1 (Nat.le_of_ble_eq_true rfl) dX11_goTicks_18 ⟨Nat.le_of_ble_eq_true rfl, Nat.le_of_ble_eq_true rfl⟩) (fun u_4 H locs hp_4 G => ?_)
          obtain ⟨f_4, rfl⟩ : ∃ z, z = u_4 := ⟨_, rfl⟩
          obtain ⟨hI_f_4, hq_4⟩ := hp_4
          have G : wd X (va_A ([(ha, .inl (X.2.1, N, .inl f))]) sz) (va_A ([(ha, .inl (X.2.1, N, .inl f))]) sz) s ([(ha, .inl (X.2.1, N, .inl f_4))]) H locs := G
          have kp_f_4 : kpM f f_4 := kp_t kp_f2_0 hq_4
          refine lv_iinc (v := (nI (n2_2 + 1))) (lv' := [(2, .int (nI (n2_2 + 1))), (0, .ref ha), (1, .int (nI z))]) zx zb dX11_goTicks_21 hl (k := 0) rfl (nI_add n2_2 1) (by decide) rfl (fun ls hl => ?_)
          refine lv_goto (tgt := 2) zx zb dX11_goTicks_24 (by decide) ?_
          exact ih2 (n2_2 + 1) f_4 _ _ _ (by omega) kp_f_4 hI_f_4 (by omega) G hl
    · intro  H locs ls  G hl
      exact e_void S zr zlk G (f2_0) [0] rfl rfl (Or.inr rfl) (⟨hI_f2_0, kp_f2_0⟩) dX11_goTicks_27
set_option maxHeartbeats 4000000 in
set_option maxRecDepth 100000 in
theorem w_save (l : Launch) (X : EX) (m0 : Nat) (ma : Nat → Nat) (la : Int64) (lb : Int64) (n : Nat) (t : Nat → Nat) (v : Nat → Int32) (fa : Nat → Int32) (c0 : Nat) (c1 : Nat) (c2 : Nat) (c3 : Nat) (c4 : Nat) (hI_n : n ≤ 150) (hI_t : InT t) (hI_fa : InA fa c0 c1 c2 c3 c4) (sz : Nat) : Met l yX11_save wsX11_save ({ frames := 0, cells := 0, slots := 0, locals := 0 } : Room) (pE X [.ref m0] (@HAppend.hAppend va_W va_W va_W _ (mW m0 ma la lb n t v) ([((ma 0), .inl (X.2.1, 371, .inl fa))])) sz) (qV (fun (u : (Nat → Int32) × (Nat)) => InA u.1 c0 c1 c2 c3 u.2 ∧ (kpM fa u.1)) X (fun (u : (Nat → Int32) × (Nat)) => @HAppend.hAppend va_W va_W va_W _ (mW m0 ma la lb n t v) ([((ma 0), .inl (X.2.1, 371, .inl u.1))])) (@HAppend.hAppend va_W va_W va_W _ (mW m0 ma la lb n t v) ([((ma 0), .inl (X.2.1, 371, .inl fa))])) sz) 0 0 (va_A (@HAppend.hAppend va_W va_W va_W _ (mW m0 ma la lb n t v) ([((ma 0), .inl (X.2.1, 371, .inl fa))])) sz) := by
  refine mk_met (B := (va_A (@HAppend.hAppend va_W va_W va_W _ (mW m0 ma la lb n t v) ([((ma 0), .inl (X.2.1, 371, .inl fa))])) sz)) (A := (va_A (@HAppend.hAppend va_W va_W va_W _ (mW m0 ma la lb n t v) ([((ma 0), .inl (X.2.1, 371, .inl fa))])) sz)) (cc := cX11_save) (maxL := 2) (ret := none) (by decide) rfl (Nat.le_of_ble_eq_true rfl) k_w k_a (fun p e s m below meth c S zr zlk znm zsz G ls hl => ?_)
  have S : CallFix p m c cX11_save 2 s _ wsX11_save RX11 := S
  have zx := S.1
  have zb := S.2.1
  have hl : lv_has ls 2 [(0, .ref m0)] := hl
  have hO_t := hI_t
  obtain ⟨ht0_t, ht1_t⟩ := hO_t
  have hO_fa := hI_fa.2
  obtain ⟨hm0_fa, hm1_fa, hm2_fa, hm3_fa, hm4_fa⟩ := hO_fa
  refine lv_aload_n zx zb dX11_save_0 rfl (lv_at hl 0 rfl) ?_
  refine r_get (C := RX11) (T := TX11) (N := 18) (ci := 9) (v := .ref (ma 0)) S in_X11_save_X11 G 0 rfl rfl 0 (by decide) lk_X11_save_7 rfl dX11_save_1 ?_
  refine lv_iconst (v := 4) zx zb dX11_save_4 (by decide) ?_
  refine r_iald (v := (nI c4)) S G 1 rfl (k_vp (by decide)) hI_fa.1.2.2.2.2 dX11_save_5 ?_
  refine lv_bipush (v := 8) zx zb dX11_save_6 (by decide) ?_
  refine lv_icmp_ne (tgt := 53) zx zb dX11_save_8 (by decide) (fun c_2 => ?_) (fun c_2 => ?_)
  · have fc_2 := j_ne (a := c4) (b := 8) c_2
    refine lv_iconst (v := 0) zx zb dX11_save_53 (by decide) ?_
    refine lv_istore_n (lv' := [(1, .int 0), (0, .ref m0)]) zx zb dX11_save_54 rfl hl (by decide) rfl (fun ls hl => ?_)
    refine k_loop (P := ∀ (zm : Nat) (n55_1 : Nat) (f55_1 : Nat → Int32) (H : Heap) (locs : List Loc) (ls : Array Slot), ((31 - n55_1) < zm) → (kpM fa f55_1) → InA f55_1 c0 c1 c2 c3 c4 → (n55_1 ≤ 31) → wd X (va_A (@HAppend.hAppend va_W va_W va_W _ (mW m0 ma la lb n t v) ([((ma 0), .inl (X.2.1, 371, .inl fa))])) sz) (va_A (@HAppend.hAppend va_W va_W va_W _ (mW m0 ma la lb n t v) ([((ma 0), .inl (X.2.1, 371, .inl fa))])) sz) s (@HAppend.hAppend va_W va_W va_W _ (mW m0 ma la lb n t v) ([((ma 0), .inl (X.2.1, 371, .inl f55_1))])) H locs → lv_has ls 2 [(1, .int (nI n55_1)), (0, .ref m0)] → W p l e _ s m _ below meth c H locs _ _ _ (F0 m 55 ls [])) (fun loop => loop ((31 - 0) + 1) 0 fa _ _ _ (by omega) kp_r hI_fa (by omega) G hl) ?_
    intro zm
    induction zm with
    | zero => intro n55_1 f55_1 H locs ls zz q_x0 q_hI_f55_1 q_hk_n55_1 _ _; exact absurd zz (by omega)
    | succ zm ih55 =>
      intro n55_1 f55_1 H locs ls zm_55 hx55_0 hI_f55_1 hk_n55_1 G hl
      have kp_f55_1 := hx55_0
      refine lv_iload_n zx zb dX11_save_55 rfl (lv_at hl 0 rfl) ?_
      refine lv_bipush (v := 31) zx zb dX11_save_56 (by decide) ?_
      refine lv_icmp_ge (tgt := 94) zx zb dX11_save_58 (by decide) (fun c_3 => ?_) (fun c_3 => ?_)
      · have fc_3 := j_le (a := 31) (b := n55_1) (by omega) (by omega) c_3
        refine lv_aload_n zx zb dX11_save_94 rfl (lv_at hl 1 rfl) ?_
        refine r_get (C := RX11) (T := TX11) (N := 18) (ci := 9) (v := .ref (ma 0)) S in_X11_save_X11 G 0 rfl rfl 0 (by decide) lk_X11_save_7 rfl dX11_save_95 ?_
        refine lv_iconst (v := 4) zx zb dX11_save_98 (by decide) ?_
        refine lv_dup2_11 zx zb dX11_save_99 rfl rfl ?_
        refine r_iald (v := (nI c4)) S G 1 rfl (k_vp (by decide)) hI_f55_1.1.2.2.2.2 dX11_save_100 ?_
        refine lv_iconst (v := 1) zx zb dX11_save_101 (by decide) ?_
        refine r_iadd (v := (nI (c4 + 1))) S (nI_add c4 1) dX11_save_102 ?_
        refine r_iast S G 1 rfl (k_vp (by decide)) dX11_save_103 (fun H locs G => ?_)
        obtain ⟨f_5, c_6, hI_f_5, hE_c_6, hE_f_5, G⟩ : ∃ (f_5 : Nat → Int32) (c_6 : Nat), InA f_5 c0 c1 c2 c3 c_6 ∧ c_6 = (c4 + 1) ∧ f_5 = upd f55_1 4 (nI (c4 + 1)) ∧ wd X (va_A (@HAppend.hAppend va_W va_W va_W _ (mW m0 ma la lb n t v) ([((ma 0), .inl (X.2.1, 371, .inl fa))])) sz) (va_A (@HAppend.hAppend va_W va_W va_W _ (mW m0 ma la lb n t v) ([((ma 0), .inl (X.2.1, 371, .inl fa))])) sz) s (@HAppend.hAppend va_W va_W va_W _ (mW m0 ma la lb n t v) ([((ma 0), .inl (X.2.1, 371, .inl f_5))])) H locs := ⟨_, (c4 + 1), InA_n4 (n := (c4 + 1)) hI_f55_1 (by omega), rfl, rfl, G⟩
        have kp_f_5 : kpM fa f_5 := kp_u kp_f55_1 hE_f_5 (by decide)
        exact e_void S zr zlk G (f_5, c_6) [0, 1] rfl rfl (Or.inr rfl) (⟨hI_f_5, kp_f_5⟩) dX11_save_104
      · have fc_3 := j_nle (a := 31) (b := n55_1) (by omega) (by omega) c_3
        refine lv_aload_n zx zb dX11_save_61 rfl (lv_at hl 1 rfl) ?_
        refine r_get (C := RX11) (T := TX11) (N := 18) (ci := 9) (v := .ref (ma 0)) S in_X11_save_X11 G 0 rfl rfl 0 (by decide) lk_X11_save_7 rfl dX11_save_62 ?_
        refine lv_bipush (v := 123) zx zb dX11_save_65 (by decide) ?_
        refine lv_bipush (v := 31) zx zb dX11_save_67 (by decide) ?_
        refine lv_aload_n zx zb dX11_save_69 rfl (lv_at hl 1 rfl) ?_
        refine r_get (C := RX11) (T := TX11) (N := 18) (ci := 9) (v := .ref (ma 0)) S in_X11_save_X11 G 0 rfl rfl 0 (by decide) lk_X11_save_7 rfl dX11_save_70 ?_
        refine lv_iconst (v := 4) zx zb dX11_save_73 (by decide) ?_
        refine r_iald (v := (nI c4)) S G 1 rfl (k_vp (by decide)) hI_f55_1.1.2.2.2.2 dX11_save_74 ?_
        refine r_imul (v := (nI (31 * c4))) S (pk_mul 31 c4) dX11_save_75 ?_
        refine r_iadd (v := (nI (123 + (31 * c4)))) S (nI_add 123 (31 * c4)) dX11_save_76 ?_
        refine lv_iload_n zx zb dX11_save_77 rfl (lv_at hl 0 rfl) ?_
        refine r_iadd (v := (nI ((123 + (31 * c4)) + n55_1))) S (nI_add (123 + (31 * c4)) n55_1) dX11_save_78 ?_
        refine lv_aload_n zx zb dX11_save_79 rfl (lv_at hl 1 rfl) ?_
        refine r_get (C := RX11) (T := TX11) (N := 18) (ci := 9) (v := .ref (ma 0)) S in_X11_save_X11 G 0 rfl rfl 0 (by decide) lk_X11_save_7 rfl dX11_save_80 ?_
        refine lv_iconst (v := 5) zx zb dX11_save_83 (by decide) ?_
        refine lv_iload_n zx zb dX11_save_84 rfl (lv_at hl 0 rfl) ?_
        refine r_iadd (v := (nI (5 + n55_1))) S (nI_add 5 n55_1) dX11_save_85 ?_
        refine r_iald (v := (f55_1 (5 + n55_1))) S G 1 rfl (vp_in_nI (by omega) (by decide)) (congrArg f55_1 (nI_clamp (by omega))) dX11_save_86 ?_
        refine r_iast S G 1 rfl (vp_in_nI (by omega) (by decide)) dX11_save_87 (fun H locs G => ?_)
        obtain ⟨f_9, hI_f_9, hE_f_9, G⟩ : ∃ f_9 : Nat → Int32, InA f_9 c0 c1 c2 c3 c4 ∧ f_9 = upd f55_1 (nI ((123 + (31 * c4)) + n55_1)).toNatClampNeg (f55_1 (5 + n55_1)) ∧ wd X (va_A (@HAppend.hAppend va_W va_W va_W _ (mW m0 ma la lb n t v) ([((ma 0), .inl (X.2.1, 371, .inl fa))])) sz) (va_A (@HAppend.hAppend va_W va_W va_W _ (mW m0 ma la lb n t v) ([((ma 0), .inl (X.2.1, 371, .inl fa))])) sz) s (@HAppend.hAppend va_W va_W va_W _ (mW m0 ma la lb n t v) ([((ma 0), .inl (X.2.1, 371, .inl f_9))])) H locs := ⟨_, InA_o hI_f55_1 (by rw [nI_clamp (by omega)]; omega), rfl, G⟩
        have kp_f_9 : kpM fa f_9 := kp_u kp_f55_1 hE_f_9 (by rw [nI_clamp (by omega)]; omega)
        refine lv_iinc (v := (nI (n55_1 + 1))) (lv' := [(1, .int (nI (n55_1 + 1))), (0, .ref m0)]) zx zb dX11_save_88 hl (k := 0) rfl (nI_add n55_1 1) (by decide) rfl (fun ls hl => ?_)
        refine lv_goto (tgt := 55) zx zb dX11_save_91 (by decide) ?_
        exact ih55 (n55_1 + 1) f_9 _ _ _ (by omega) kp_f_9 hI_f_9 (by omega) G hl
  · have fc_2 := j_eq (a := c4) (b := 8) (by omega) (by omega) c_2
    refine lv_iconst (v := 0) zx zb dX11_save_11 (by decide) ?_
    refine lv_istore_n (lv' := [(1, .int 0), (0, .ref m0)]) zx zb dX11_save_12 rfl hl (by decide) rfl (fun ls hl => ?_)
    refine k_loop (P := ∀ (zm : Nat) (n13_1 : Nat) (f13_1 : Nat → Int32) (H : Heap) (locs : List Loc) (ls : Array Slot), ((217 - n13_1) < zm) → (kpM fa f13_1) → InA f13_1 c0 c1 c2 c3 c4 → (n13_1 ≤ 217) → wd X (va_A (@HAppend.hAppend va_W va_W va_W _ (mW m0 ma la lb n t v) ([((ma 0), .inl (X.2.1, 371, .inl fa))])) sz) (va_A (@HAppend.hAppend va_W va_W va_W _ (mW m0 ma la lb n t v) ([((ma 0), .inl (X.2.1, 371, .inl fa))])) sz) s (@HAppend.hAppend va_W va_W va_W _ (mW m0 ma la lb n t v) ([((ma 0), .inl (X.2.1, 371, .inl f13_1))])) H locs → lv_has ls 2 [(1, .int (nI n13_1)), (0, .ref m0)] → W p l e _ s m _ below meth c H locs _ _ _ (F0 m 13 ls [])) (fun loop => loop ((217 - 0) + 1) 0 fa _ _ _ (by omega) kp_r hI_fa (by omega) G hl) ?_
    intro zm
    induction zm with
    | zero => intro n13_1 f13_1 H locs ls zz q_x0 q_hI_f13_1 q_hk_n13_1 _ _; exact absurd zz (by omega)
    | succ zm ih13 =>
      intro n13_1 f13_1 H locs ls zm_13 hx13_0 hI_f13_1 hk_n13_1 G hl
      have kp_f13_1 := hx13_0
      refine lv_iload_n zx zb dX11_save_13 rfl (lv_at hl 0 rfl) ?_
      refine lv_sipush (v := 217) zx zb dX11_save_14 (by decide) ?_
      refine lv_icmp_ge (tgt := 45) zx zb dX11_save_17 (by decide) (fun c_10 => ?_) (fun c_10 => ?_)
      · have fc_10 := j_le (a := 217) (b := n13_1) (by omega) (by omega) c_10
        refine lv_aload_n zx zb dX11_save_45 rfl (lv_at hl 1 rfl) ?_
        refine r_get (C := RX11) (T := TX11) (N := 18) (ci := 9) (v := .ref (ma 0)) S in_X11_save_X11 G 0 rfl rfl 0 (by decide) lk_X11_save_7 rfl dX11_save_46 ?_
        refine lv_iconst (v := 4) zx zb dX11_save_49 (by decide) ?_
        refine lv_bipush (v := 7) zx zb dX11_save_50 (by decide) ?_
        refine r_iast S G 1 rfl (k_vp (by decide)) dX11_save_52 (fun H locs G => ?_)
        obtain ⟨f_11, c_12, hI_f_11, hE_c_12, hE_f_11, G⟩ : ∃ (f_11 : Nat → Int32) (c_12 : Nat), InA f_11 c0 c1 c2 c3 c_12 ∧ c_12 = 7 ∧ f_11 = upd f13_1 4 (nI 7) ∧ wd X (va_A (@HAppend.hAppend va_W va_W va_W _ (mW m0 ma la lb n t v) ([((ma 0), .inl (X.2.1, 371, .inl fa))])) sz) (va_A (@HAppend.hAppend va_W va_W va_W _ (mW m0 ma la lb n t v) ([((ma 0), .inl (X.2.1, 371, .inl fa))])) sz) s (@HAppend.hAppend va_W va_W va_W _ (mW m0 ma la lb n t v) ([((ma 0), .inl (X.2.1, 371, .inl f_11))])) H locs := ⟨_, 7, InA_n4 (n := 7) hI_f13_1 (by omega), rfl, rfl, G⟩
        have kp_f_11 : kpM fa f_11 := kp_u kp_f13_1 hE_f_11 (by decide)
        refine lv_iconst (v := 0) zx zb dX11_save_53 (by decide) ?_
        refine lv_istore_n (lv' := [(1, .int 0), (0, .ref m0)]) zx zb dX11_save_54 rfl hl (by decide) rfl (fun ls hl => ?_)
        refine k_loop (P := ∀ (zm : Nat) (n55_1 : Nat) (f55_1 : Nat → Int32) (H : Heap) (locs : List Loc) (ls : Array Slot), ((31 - n55_1) < zm) → (kpM fa f55_1) → InA f55_1 c0 c1 c2 c3 c_12 → (n55_1 ≤ 31) → wd X (va_A (@HAppend.hAppend va_W va_W va_W _ (mW m0 ma la lb n t v) ([((ma 0), .inl (X.2.1, 371, .inl fa))])) sz) (va_A (@HAppend.hAppend va_W va_W va_W _ (mW m0 ma la lb n t v) ([((ma 0), .inl (X.2.1, 371, .inl fa))])) sz) s (@HAppend.hAppend va_W va_W va_W _ (mW m0 ma la lb n t v) ([((ma 0), .inl (X.2.1, 371, .inl f55_1))])) H locs → lv_has ls 2 [(1, .int (nI n55_1)), (0, .ref m0)] → W p l e _ s m _ below meth c H locs _ _ _ (F0 m 55 ls [])) (fun loop => loop ((31 - 0) + 1) 0 f_11 _ _ _ (by omega) kp_f_11 hI_f_11 (by omega) G hl) ?_
        intro zm
        induction zm with
        | zero => intro n55_1 f55_1 H locs ls zz q_x0 q_hI_f55_1 q_hk_n55_1 _ _; exact absurd zz (by omega)
        | succ zm ih55 =>
          intro n55_1 f55_1 H locs ls zm_55 hx55_0 hI_f55_1 hk_n55_1 G hl
          have kp_f55_1 := hx55_0
          refine lv_iload_n zx zb dX11_save_55 rfl (lv_at hl 0 rfl) ?_
          refine lv_bipush (v := 31) zx zb dX11_save_56 (by decide) ?_
          refine lv_icmp_ge (tgt := 94) zx zb dX11_save_58 (by decide) (fun c_13 => ?_) (fun c_13 => ?_)
          · have fc_13 := j_le (a := 31) (b := n55_1) (by omega) (by omega) c_13
            refine lv_aload_n zx zb dX11_save_94 rfl (lv_at hl 1 rfl) ?_
            refine r_get (C := RX11) (T := TX11) (N := 18) (ci := 9) (v := .ref (ma 0)) S in_X11_save_X11 G 0 rfl rfl 0 (by decide) lk_X11_save_7 rfl dX11_save_95 ?_
            refine lv_iconst (v := 4) zx zb dX11_save_98 (by decide) ?_
            refine lv_dup2_11 zx zb dX11_save_99 rfl rfl ?_
            refine r_iald (v := (nI c_12)) S G 1 rfl (k_vp (by decide)) hI_f55_1.1.2.2.2.2 dX11_save_100 ?_
            refine lv_iconst (v := 1) zx zb dX11_save_101 (by decide) ?_
            refine r_iadd (v := (nI (c_12 + 1))) S (nI_add c_12 1) dX11_save_102 ?_
            refine r_iast S G 1 rfl (k_vp (by decide)) dX11_save_103 (fun H locs G => ?_)
            obtain ⟨f_15, c_16, hI_f_15, hE_c_16, hE_f_15, G⟩ : ∃ (f_15 : Nat → Int32) (c_16 : Nat), InA f_15 c0 c1 c2 c3 c_16 ∧ c_16 = (c_12 + 1) ∧ f_15 = upd f55_1 4 (nI (c_12 + 1)) ∧ wd X (va_A (@HAppend.hAppend va_W va_W va_W _ (mW m0 ma la lb n t v) ([((ma 0), .inl (X.2.1, 371, .inl fa))])) sz) (va_A (@HAppend.hAppend va_W va_W va_W _ (mW m0 ma la lb n t v) ([((ma 0), .inl (X.2.1, 371, .inl fa))])) sz) s (@HAppend.hAppend va_W va_W va_W _ (mW m0 ma la lb n t v) ([((ma 0), .inl (X.2.1, 371, .inl f_15))])) H locs := ⟨_, (c_12 + 1), InA_n4 (n := (c_12 + 1)) hI_f55_1 (by omega), rfl, rfl, G⟩
            have kp_f_15 : kpM fa f_15 := kp_u kp_f55_1 hE_f_15 (by decide)
            exact e_void S zr zlk G (f_15, c_16) [0, 1] rfl rfl (Or.inr rfl) (⟨hI_f_15, kp_f_15⟩) dX11_save_104
          · have fc_13 := j_nle (a := 31) (b := n55_1) (by omega) (by omega) c_13
            refine lv_aload_n zx zb dX11_save_61 rfl (lv_at hl 1 rfl) ?_
            refine r_get (C := RX11) (T := TX11) (N := 18) (ci := 9) (v := .ref (ma 0)) S in_X11_save_X11 G 0 rfl rfl 0 (by decide) lk_X11_save_7 rfl dX11_save_62 ?_
            refine lv_bipush (v := 123) zx zb dX11_save_65 (by decide) ?_
            refine lv_bipush (v := 31) zx zb dX11_save_67 (by decide) ?_
            refine lv_aload_n zx zb dX11_save_69 rfl (lv_at hl 1 rfl) ?_
            refine r_get (C := RX11) (T := TX11) (N := 18) (ci := 9) (v := .ref (ma 0)) S in_X11_save_X11 G 0 rfl rfl 0 (by decide) lk_X11_save_7 rfl dX11_save_70 ?_
            refine lv_iconst (v := 4) zx zb dX11_save_73 (by decide) ?_
            refine r_iald (v := (nI c_12)) S G 1 rfl (k_vp (by decide)) hI_f55_1.1.2.2.2.2 dX11_save_74 ?_
            refine r_imul (v := (nI (31 * c_12))) S (pk_mul 31 c_12) dX11_save_75 ?_
            refine r_iadd (v := (nI (123 + (31 * c_12)))) S (nI_add 123 (31 * c_12)) dX11_save_76 ?_
            refine lv_iload_n zx zb dX11_save_77 rfl (lv_at hl 0 rfl) ?_
            refine r_iadd (v := (nI ((123 + (31 * c_12)) + n55_1))) S (nI_add (123 + (31 * c_12)) n55_1) dX11_save_78 ?_
            refine lv_aload_n zx zb dX11_save_79 rfl (lv_at hl 1 rfl) ?_
            refine r_get (C := RX11) (T := TX11) (N := 18) (ci := 9) (v := .ref (ma 0)) S in_X11_save_X11 G 0 rfl rfl 0 (by decide) lk_X11_save_7 rfl dX11_save_80 ?_
            refine lv_iconst (v := 5) zx zb dX11_save_83 (by decide) ?_
            refine lv_iload_n zx zb dX11_save_84 rfl (lv_at hl 0 rfl) ?_
            refine r_iadd (v := (nI (5 + n55_1))) S (nI_add 5 n55_1) dX11_save_85 ?_
            refine r_iald (v := (f55_1 (5 + n55_1))) S G 1 rfl (vp_in_nI (by omega) (by decide)) (congrArg f55_1 (nI_clamp (by omega))) dX11_save_86 ?_
            refine r_iast S G 1 rfl (vp_in_nI (by omega) (by decide)) dX11_save_87 (fun H locs G => ?_)
            obtain ⟨f_19, hI_f_19, hE_f_19, G⟩ : ∃ f_19 : Nat → Int32, InA f_19 c0 c1 c2 c3 c_12 ∧ f_19 = upd f55_1 (nI ((123 + (31 * c_12)) + n55_1)).toNatClampNeg (f55_1 (5 + n55_1)) ∧ wd X (va_A (@HAppend.hAppend va_W va_W va_W _ (mW m0 ma la lb n t v) ([((ma 0), .inl (X.2.1, 371, .inl fa))])) sz) (va_A (@HAppend.hAppend va_W va_W va_W _ (mW m0 ma la lb n t v) ([((ma 0), .inl (X.2.1, 371, .inl fa))])) sz) s (@HAppend.hAppend va_W va_W va_W _ (mW m0 ma la lb n t v) ([((ma 0), .inl (X.2.1, 371, .inl f_19))])) H locs := ⟨_, InA_o hI_f55_1 (by rw [nI_clamp (by omega)]; omega), rfl, G⟩
            have kp_f_19 : kpM fa f_19 := kp_u kp_f55_1 hE_f_19 (by rw [nI_clamp (by omega)]; omega)
            refine lv_iinc (v := (nI (n55_1 + 1))) (lv' := [(1, .int (nI (n55_1 + 1))), (0, .ref m0)]) zx zb dX11_save_88 hl (k := 0) rfl (nI_add n55_1 1) (by decide) rfl (fun ls hl => ?_)
            refine lv_goto (tgt := 55) zx zb dX11_save_91 (by decide) ?_
            exact ih55 (n55_1 + 1) f_19 _ _ _ (by omega) kp_f_19 hI_f_19 (by omega) G hl
      · have fc_10 := j_nle (a := 217) (b := n13_1) (by omega) (by omega) c_10
        refine lv_aload_n zx zb dX11_save_20 rfl (lv_at hl 1 rfl) ?_
        refine r_get (C := RX11) (T := TX11) (N := 18) (ci := 9) (v := .ref (ma 0)) S in_X11_save_X11 G 0 rfl rfl 0 (by decide) lk_X11_save_7 rfl dX11_save_21 ?_
        refine lv_bipush (v := 123) zx zb dX11_save_24 (by decide) ?_
        refine lv_iload_n zx zb dX11_save_26 rfl (lv_at hl 0 rfl) ?_
        refine r_iadd (v := (nI (123 + n13_1))) S (nI_add 123 n13_1) dX11_save_27 ?_
        refine lv_aload_n zx zb dX11_save_28 rfl (lv_at hl 1 rfl) ?_
        refine r_get (C := RX11) (T := TX11) (N := 18) (ci := 9) (v := .ref (ma 0)) S in_X11_save_X11 G 0 rfl rfl 0 (by decide) lk_X11_save_7 rfl dX11_save_29 ?_
        refine lv_sipush (v := 154) zx zb dX11_save_32 (by decide) ?_
        refine lv_iload_n zx zb dX11_save_35 rfl (lv_at hl 0 rfl) ?_
        refine r_iadd (v := (nI (154 + n13_1))) S (nI_add 154 n13_1) dX11_save_36 ?_
        refine r_iald (v := (f13_1 (154 + n13_1))) S G 1 rfl (vp_in_nI (by omega) (by decide)) (congrArg f13_1 (nI_clamp (by omega))) dX11_save_37 ?_
        refine r_iast S G 1 rfl (vp_in_nI (by omega) (by decide)) dX11_save_38 (fun H locs G => ?_)
        obtain ⟨f_21, hI_f_21, hE_f_21, G⟩ : ∃ f_21 : Nat → Int32, InA f_21 c0 c1 c2 c3 c4 ∧ f_21 = upd f13_1 (nI (123 + n13_1)).toNatClampNeg (f13_1 (154 + n13_1)) ∧ wd X (va_A (@HAppend.hAppend va_W va_W va_W _ (mW m0 ma la lb n t v) ([((ma 0), .inl (X.2.1, 371, .inl fa))])) sz) (va_A (@HAppend.hAppend va_W va_W va_W _ (mW m0 ma la lb n t v) ([((ma 0), .inl (X.2.1, 371, .inl fa))])) sz) s (@HAppend.hAppend va_W va_W va_W _ (mW m0 ma la lb n t v) ([((ma 0), .inl (X.2.1, 371, .inl f_21))])) H locs := ⟨_, InA_o hI_f13_1 (by rw [nI_clamp (by omega)]; omega), rfl, G⟩
        have kp_f_21 : kpM fa f_21 := kp_u kp_f13_1 hE_f_21 (by rw [nI_clamp (by omega)]; omega)
        refine lv_iinc (v := (nI (n13_1 + 1))) (lv' := [(1, .int (nI (n13_1 + 1))), (0, .ref m0)]) zx zb dX11_save_39 hl (k := 0) rfl (nI_add n13_1 1) (by decide) rfl (fun ls hl => ?_)
        refine lv_goto (tgt := 13) zx zb dX11_save_42 (by decide) ?_
        exact ih13 (n13_1 + 1) f_21 _ _ _ (by omega) kp_f_21 hI_f_21 (by omega) G hl
set_option maxHeartbeats 4000000 in
set_option maxRecDepth 100000 in
theorem w_ticks (l : Launch) (X : EX) (m0 : Nat) (ma : Nat → Nat) (la : Int64) (lb : Int64) (n : Nat) (t : Nat → Nat) (v : Nat → Int32) (fa : Nat → Int32) (c0 : Nat) (c1 : Nat) (c2 : Nat) (c3 : Nat) (c4 : Nat) (fr : Nat → Int32) (x1 : Int32) (hI_n : n ≤ 150) (hI_t : InT t) (hI_fa : InA fa c0 c1 c2 c3 c4) (sz : Nat) : Met l yX11_ticks wsX11_ticks ({ frames := 5, cells := 0, slots := 0, locals := 115 } : Room) (pE X [.ref m0, .int x1] (@HAppend.hAppend va_W va_W va_W _ (mW m0 ma la lb n t v) (@HAppend.hAppend va_W va_W va_W _ ([((ma 0), .inl (X.2.1, 371, .inl fa))]) ([((ma 3), .inl (X.2.1, 3, .inl fr))]))) sz) (qI (fun (r : Int32) (u : (Nat → Int32) × (Nat) × (Nat → Int32)) => InA u.1 c0 c1 c2 c3 u.2.1 ∧ (kpM fa u.1)) X (fun (u : (Nat → Int32) × (Nat) × (Nat → Int32)) => @HAppend.hAppend va_W va_W va_W _ (mW m0 ma la lb n t v) (@HAppend.hAppend va_W va_W va_W _ ([((ma 0), .inl (X.2.1, 371, .inl u.1))]) ([((ma 3), .inl (X.2.1, 3, .inl u.2.2))]))) (@HAppend.hAppend va_W va_W va_W _ (mW m0 ma la lb n t v) (@HAppend.hAppend va_W va_W va_W _ ([((ma 0), .inl (X.2.1, 371, .inl fa))]) ([((ma 3), .inl (X.2.1, 3, .inl fr))]))) sz) 0 0 (va_A (@HAppend.hAppend va_W va_W va_W _ (mW m0 ma la lb n t v) (@HAppend.hAppend va_W va_W va_W _ ([((ma 0), .inl (X.2.1, 371, .inl fa))]) ([((ma 3), .inl (X.2.1, 3, .inl fr))]))) sz) := by
  refine mk_met (B := (va_A (@HAppend.hAppend va_W va_W va_W _ (mW m0 ma la lb n t v) (@HAppend.hAppend va_W va_W va_W _ ([((ma 0), .inl (X.2.1, 371, .inl fa))]) ([((ma 3), .inl (X.2.1, 3, .inl fr))]))) sz)) (A := (va_A (@HAppend.hAppend va_W va_W va_W _ (mW m0 ma la lb n t v) (@HAppend.hAppend va_W va_W va_W _ ([((ma 0), .inl (X.2.1, 371, .inl fa))]) ([((ma 3), .inl (X.2.1, 3, .inl fr))]))) sz)) (cc := cX11_ticks) (maxL := 2) (ret := (some .int)) (by decide) rfl (Nat.le_of_ble_eq_true rfl) k_w k_a (fun p e s m below meth c S zr zlk znm zsz G ls hl => ?_)
  have S : CallFix p m c cX11_ticks 2 s _ wsX11_ticks RX11 := S
  have zx := S.1
  have zb := S.2.1
  have hl : lv_has ls 2 [(0, .ref m0), (1, .int x1)] := hl
  have hO_t := hI_t
  obtain ⟨ht0_t, ht1_t⟩ := hO_t
  have hO_fa := hI_fa.2
  obtain ⟨hm0_fa, hm1_fa, hm2_fa, hm3_fa, hm4_fa⟩ := hO_fa
  refine lv_iload_n zx zb dX11_ticks_0 rfl (lv_at hl 1 rfl) ?_
  refine lv_i2l (v := (Int32.toInt64 x1)) zx zb dX11_ticks_1 rfl ?_
  refine lv_lconst (v := (Int32.toInt64 1)) zx zb dX11_ticks_2 (by decide) ?_
  refine lv_ldc2 zx zb S.2.2.2.1 (S.2.2.2.2 _ mm_X11_ticks_c66) dX11_ticks_3 ?_
  refine k_ld (v := (Int32.toInt64 60)) (by decide) ?_
  refine o_ri (cells' := 0) (slots' := 0) G rfl rfl (n_S (As := [.long (Int32.toInt64 x1), .long (Int32.toInt64 1), .long (Int32.toInt64 60)]) (rest := []) S G (m_in l X x1 1 60 s.heap.size) gX11_ticks_X11_in rfl rfl rfl hdS_X11_in ⟨Nat.le_of_ble_eq_true rfl, Nat.le_of_ble_eq_true rfl⟩ [] rfl rfl rfl hl.1 (Nat.le_of_ble_eq_true rfl) dX11_ticks_6 ⟨Nat.le_of_ble_eq_true rfl, Nat.le_of_ble_eq_true rfl⟩) (fun r_1 u_1 H locs hp_1 G => ?_)
  have G : wd X (va_A (@HAppend.hAppend va_W va_W va_W _ (mW m0 ma la lb n t v) (@HAppend.hAppend va_W va_W va_W _ ([((ma 0), .inl (X.2.1, 371, .inl fa))]) ([((ma 3), .inl (X.2.1, 3, .inl fr))]))) sz) (va_A (@HAppend.hAppend va_W va_W va_W _ (mW m0 ma la lb n t v) (@HAppend.hAppend va_W va_W va_W _ ([((ma 0), .inl (X.2.1, 371, .inl fa))]) ([((ma 3), .inl (X.2.1, 3, .inl fr))]))) sz) s (@HAppend.hAppend va_W va_W va_W _ (mW m0 ma la lb n t v) (@HAppend.hAppend va_W va_W va_W _ ([((ma 0), .inl (X.2.1, 371, .inl fa))]) ([((ma 3), .inl (X.2.1, 3, .inl fr))]))) H locs := G
  rcases hp_1 with ⟨rfl, hw_1⟩ | ⟨rfl, hw_1⟩
  · obtain ⟨j_1, ⟨ja_1, jb_1⟩, rfl⟩ := k_natR (a := 1) (b := 60) hw_1 rfl rfl (by decide) (by decide)
    refine lv_if_ne (tgt := 19) zx zb dX11_ticks_9 (by decide) (fun c_2 => ?_) (fun c_2 => absurd c_2 (by decide))
    refine lv_aload_n zx zb dX11_ticks_19 rfl (lv_at hl 0 rfl) ?_
    refine b_wv (cells' := 0) (slots' := 0) (wr := [((ma 3), .inl (X.2.1, 3, .inl fr))]) G rfl rfl [0, 1] [2] rfl rfl rfl rfl (n_V (As := []) (rest := []) (C := RX11) (T := TX11) (N := 18) (ci := 9) S G (w_save l X m0 ma la lb n t v fa c0 c1 c2 c3 c4 hI_n hI_t hI_fa H.size) gX11_ticks_X11_save rfl rfl rfl hdV_X11_save ⟨Nat.le_of_ble_eq_true rfl, Nat.le_of_ble_eq_true rfl⟩ [0, 1] rfl rfl 0 rfl rfl rfl hl.1 (Nat.le_of_ble_eq_true rfl) dX11_ticks_20 ⟨Nat.le_of_ble_eq_true rfl, Nat.le_of_ble_eq_true rfl⟩) (fun u_3 H locs hp_3 G => ?_)
    obtain ⟨f_3a, c4_3b⟩ := u_3
    try dsimp only at hp_3
    obtain ⟨hI_f_3a, hq_3⟩ := hp_3
    have hO_f_3a := hI_f_3a.2
    obtain ⟨hm0_f_3a, hm1_f_3a, hm2_f_3a, hm3_f_3a, hm4_f_3a⟩ := hO_f_3a
    have G : wd X (va_A (@HAppend.hAppend va_W va_W va_W _ (mW m0 ma la lb n t v) (@HAppend.hAppend va_W va_W va_W _ ([((ma 0), .inl (X.2.1, 371, .inl fa))]) ([((ma 3), .inl (X.2.1, 3, .inl fr))]))) sz) (va_A (@HAppend.hAppend va_W va_W va_W _ (mW m0 ma la lb n t v) (@HAppend.hAppend va_W va_W va_W _ ([((ma 0), .inl (X.2.1, 371, .inl fa))]) ([((ma 3), .inl (X.2.1, 3, .inl fr))]))) sz) s (@HAppend.hAppend va_W va_W va_W _ ([((ma 3), .inl (X.2.1, 3, .inl fr))]) (@HAppend.hAppend va_W va_W va_W _ (mW m0 ma la lb n t v) ([((ma 0), .inl (X.2.1, 371, .inl f_3a))]))) H locs := G
    have kp_f_3a : kpM fa f_3a := kp_t kp_r hq_3
    refine lv_aload_n zx zb dX11_ticks_23 rfl (lv_at hl 0 rfl) ?_
    refine r_get (C := RX11) (T := TX11) (N := 18) (ci := 9) (v := .ref (ma 0)) S in_X11_ticks_X11 G 1 rfl rfl 0 (by decide) lk_X11_ticks_7 rfl dX11_ticks_24 ?_
    refine lv_iload_n zx zb dX11_ticks_27 rfl (lv_at hl 1 rfl) ?_
    refine b_wv (cells' := 0) (slots' := 0) (wr := @HAppend.hAppend va_W va_W va_W _ ([((ma 3), .inl (X.2.1, 3, .inl fr))]) (mW m0 ma la lb n t v)) G rfl rfl [2] [0, 1] rfl rfl rfl rfl (n_S (As := [.ref (ma 0), .int (nI j_1)]) (rest := []) S G (w_goTicks l X (ma 0) 371 f_3a c0 c1 c2 c3 c4_3b j_1 hI_f_3a (by omega) (by omega) (by omega) H.size) gX11_ticks_X11_goTicks rfl rfl rfl hdS_X11_goTicks ⟨Nat.le_of_ble_eq_true rfl, Nat.le_of_ble_eq_true rfl⟩ [2] rfl rfl rfl hl.1 (Nat.le_of_ble_eq_true rfl) dX11_ticks_28 ⟨Nat.le_of_ble_eq_true rfl, Nat.le_of_ble_eq_true rfl⟩) (fun u_4 H locs hp_4 G => ?_)
    obtain ⟨f_4, rfl⟩ : ∃ z, z = u_4 := ⟨_, rfl⟩
    obtain ⟨hI_f_4, hq_4⟩ := hp_4
    have G : wd X (va_A (@HAppend.hAppend va_W va_W va_W _ (mW m0 ma la lb n t v) (@HAppend.hAppend va_W va_W va_W _ ([((ma 0), .inl (X.2.1, 371, .inl fa))]) ([((ma 3), .inl (X.2.1, 3, .inl fr))]))) sz) (va_A (@HAppend.hAppend va_W va_W va_W _ (mW m0 ma la lb n t v) (@HAppend.hAppend va_W va_W va_W _ ([((ma 0), .inl (X.2.1, 371, .inl fa))]) ([((ma 3), .inl (X.2.1, 3, .inl fr))]))) sz) s (@HAppend.hAppend va_W va_W va_W _ ([((ma 3), .inl (X.2.1, 3, .inl fr))]) (@HAppend.hAppend va_W va_W va_W _ (mW m0 ma la lb n t v) ([((ma 0), .inl (X.2.1, 371, .inl f_4))]))) H locs := G
    have kp_f_4 : kpM fa f_4 := kp_t kp_f_3a hq_4
    refine lv_aload_n zx zb dX11_ticks_31 rfl (lv_at hl 0 rfl) ?_
    refine r_get (C := RX11) (T := TX11) (N := 18) (ci := 9) (v := .ref (ma 0)) S in_X11_ticks_X11 G 1 rfl rfl 0 (by decide) lk_X11_ticks_7 rfl dX11_ticks_32 ?_
    refine o_ri (cells' := 0) (slots' := 0) G rfl rfl (n_S (As := [.ref (ma 0)]) (rest := []) S G (m_manyHome l X (ma 0) 371 f_4 c0 c1 c2 c3 c4_3b hI_f_4 (by omega) (by omega) H.size) gX11_ticks_X11_manyHome rfl rfl rfl hdS_X11_manyHome ⟨Nat.le_of_ble_eq_true rfl, Nat.le_of_ble_eq_true rfl⟩ [2] rfl rfl rfl hl.1 (Nat.le_of_ble_eq_true rfl) dX11_ticks_35 ⟨Nat.le_of_ble_eq_true rfl, Nat.le_of_ble_eq_true rfl⟩) (fun r_5 u_5 H locs hp_5 G => ?_)
    have G : wd X (va_A (@HAppend.hAppend va_W va_W va_W _ (mW m0 ma la lb n t v) (@HAppend.hAppend va_W va_W va_W _ ([((ma 0), .inl (X.2.1, 371, .inl fa))]) ([((ma 3), .inl (X.2.1, 3, .inl fr))]))) sz) (va_A (@HAppend.hAppend va_W va_W va_W _ (mW m0 ma la lb n t v) (@HAppend.hAppend va_W va_W va_W _ ([((ma 0), .inl (X.2.1, 371, .inl fa))]) ([((ma 3), .inl (X.2.1, 3, .inl fr))]))) sz) s (@HAppend.hAppend va_W va_W va_W _ ([((ma 3), .inl (X.2.1, 3, .inl fr))]) (@HAppend.hAppend va_W va_W va_W _ (mW m0 ma la lb n t v) ([((ma 0), .inl (X.2.1, 371, .inl f_4))]))) H locs := G
    exact e_int S zr zlk (vp_nar_int _) G (f_4, c4_3b, fr) [1, 2, 0] rfl rfl (Or.inr rfl) (⟨hI_f_4, kp_f_4⟩) dX11_ticks_38
  · refine lv_if_ne (tgt := 19) zx zb dX11_ticks_9 (by decide) (fun c_6 => absurd (by decide) c_6) (fun c_6 => ?_)
    refine lv_aload_n zx zb dX11_ticks_12 rfl (lv_at hl 0 rfl) ?_
    refine lv_bipush (v := (-2)) zx zb dX11_ticks_13 (by decide) ?_
    refine b_wi (cells' := 0) (slots' := 0) (wr := [((ma 0), .inl (X.2.1, 371, .inl fa))]) G rfl rfl [0, 2] [1] rfl rfl rfl rfl (n_V (As := [.int (-2)]) (rest := []) (C := RX11) (T := TX11) (N := 18) (ci := 9) S G (m_bad l X m0 ma la lb n t v fr (-2) hI_n hI_t H.size) gX11_ticks_X11_bad rfl rfl rfl hdV_X11_bad ⟨Nat.le_of_ble_eq_true rfl, Nat.le_of_ble_eq_true rfl⟩ [0, 2] rfl rfl 0 rfl rfl rfl hl.1 (Nat.le_of_ble_eq_true rfl) dX11_ticks_15 ⟨Nat.le_of_ble_eq_true rfl, Nat.le_of_ble_eq_true rfl⟩) (fun r_7 u_7 H locs hp_7 G => ?_)
    obtain ⟨f_7, rfl⟩ : ∃ z, z = u_7 := ⟨_, rfl⟩
    have hq_7 := hp_7
    have G : wd X (va_A (@HAppend.hAppend va_W va_W va_W _ (mW m0 ma la lb n t v) (@HAppend.hAppend va_W va_W va_W _ ([((ma 0), .inl (X.2.1, 371, .inl fa))]) ([((ma 3), .inl (X.2.1, 3, .inl fr))]))) sz) (va_A (@HAppend.hAppend va_W va_W va_W _ (mW m0 ma la lb n t v) (@HAppend.hAppend va_W va_W va_W _ ([((ma 0), .inl (X.2.1, 371, .inl fa))]) ([((ma 3), .inl (X.2.1, 3, .inl fr))]))) sz) s (@HAppend.hAppend va_W va_W va_W _ ([((ma 0), .inl (X.2.1, 371, .inl fa))]) (@HAppend.hAppend va_W va_W va_W _ (mW m0 ma la lb n t v) ([((ma 3), .inl (X.2.1, 3, .inl f_7))]))) H locs := G
    obtain rfl := hq_7
    exact e_int S zr zlk (vp_nar_int _) G (fa, c4, f_7) [1, 0, 2] rfl rfl (Or.inr rfl) (⟨hI_fa, kp_r⟩) dX11_ticks_18
set_option maxHeartbeats 4000000 in
set_option maxRecDepth 100000 in
theorem w_speed (l : Launch) (X : EX) (m0 : Nat) (ma : Nat → Nat) (la : Int64) (lb : Int64) (n : Nat) (t : Nat → Nat) (v : Nat → Int32) (fa : Nat → Int32) (c0 : Nat) (c1 : Nat) (c2 : Nat) (c3 : Nat) (c4 : Nat) (fr : Nat → Int32) (x1 : Int32) (x2 : Int32) (hI_n : n ≤ 150) (hI_t : InT t) (hI_fa : InA fa c0 c1 c2 c3 c4) (sz : Nat) : Met l yX11_speed wsX11_speed ({ frames := 2, cells := 0, slots := 0, locals := 46 } : Room) (pE X [.ref m0, .int x1, .int x2] (@HAppend.hAppend va_W va_W va_W _ (mW m0 ma la lb n t v) (@HAppend.hAppend va_W va_W va_W _ ([((ma 0), .inl (X.2.1, 371, .inl fa))]) ([((ma 3), .inl (X.2.1, 3, .inl fr))]))) sz) (qI (fun (r : Int32) (u : (Nat → Int32) × (Nat) × (Nat → Int32)) => InA u.1 c0 c1 c2 c3 u.2.1 ∧ (kpM fa u.1)) X (fun (u : (Nat → Int32) × (Nat) × (Nat → Int32)) => @HAppend.hAppend va_W va_W va_W _ (mW m0 ma la lb n t v) (@HAppend.hAppend va_W va_W va_W _ ([((ma 0), .inl (X.2.1, 371, .inl u.1))]) ([((ma 3), .inl (X.2.1, 3, .inl u.2.2))]))) (@HAppend.hAppend va_W va_W va_W _ (mW m0 ma la lb n t v) (@HAppend.hAppend va_W va_W va_W _ ([((ma 0), .inl (X.2.1, 371, .inl fa))]) ([((ma 3), .inl (X.2.1, 3, .inl fr))]))) sz) 0 0 (va_A (@HAppend.hAppend va_W va_W va_W _ (mW m0 ma la lb n t v) (@HAppend.hAppend va_W va_W va_W _ ([((ma 0), .inl (X.2.1, 371, .inl fa))]) ([((ma 3), .inl (X.2.1, 3, .inl fr))]))) sz) := by
  refine mk_met (B := (va_A (@HAppend.hAppend va_W va_W va_W _ (mW m0 ma la lb n t v) (@HAppend.hAppend va_W va_W va_W _ ([((ma 0), .inl (X.2.1, 371, .inl fa))]) ([((ma 3), .inl (X.2.1, 3, .inl fr))]))) sz)) (A := (va_A (@HAppend.hAppend va_W va_W va_W _ (mW m0 ma la lb n t v) (@HAppend.hAppend va_W va_W va_W _ ([((ma 0), .inl (X.2.1, 371, .inl fa))]) ([((ma 3), .inl (X.2.1, 3, .inl fr))]))) sz)) (cc := cX11_speed) (maxL := 4) (ret := (some .int)) (by decide) rfl (Nat.le_of_ble_eq_true rfl) k_w k_a (fun p e s m below meth c S zr zlk znm zsz G ls hl => ?_)
  have S : CallFix p m c cX11_speed 4 s _ wsX11_speed RX11 := S
  have zx := S.1
  have zb := S.2.1
  have hl : lv_has ls 4 [(0, .ref m0), (1, .int x1), (2, .int x2)] := hl
  have hO_t := hI_t
  obtain ⟨ht0_t, ht1_t⟩ := hO_t
  have hO_fa := hI_fa.2
  obtain ⟨hm0_fa, hm1_fa, hm2_fa, hm3_fa, hm4_fa⟩ := hO_fa
  refine lv_aload_n zx zb dX11_speed_0 rfl (lv_at hl 0 rfl) ?_
  refine lv_iload_n zx zb dX11_speed_1 rfl (lv_at hl 1 rfl) ?_
  refine o_ri (cells' := 0) (slots' := 0) G rfl rfl (n_V (As := [.int x1]) (rest := []) (C := RX11) (T := TX11) (N := 18) (ci := 9) S G (m_isOne l X m0 ma la lb n t v fa c0 c1 c2 c3 c4 x1 hI_n hI_t hI_fa s.heap.size) gX11_speed_X11_isOne rfl rfl rfl hdV_X11_isOne ⟨Nat.le_of_ble_eq_true rfl, Nat.le_of_ble_eq_true rfl⟩ [0, 1] rfl rfl 0 rfl rfl rfl hl.1 (Nat.le_of_ble_eq_true rfl) dX11_speed_2 ⟨Nat.le_of_ble_eq_true rfl, Nat.le_of_ble_eq_true rfl⟩) (fun r_1 u_1 H locs hp_1 G => ?_)
  have G : wd X (va_A (@HAppend.hAppend va_W va_W va_W _ (mW m0 ma la lb n t v) (@HAppend.hAppend va_W va_W va_W _ ([((ma 0), .inl (X.2.1, 371, .inl fa))]) ([((ma 3), .inl (X.2.1, 3, .inl fr))]))) sz) (va_A (@HAppend.hAppend va_W va_W va_W _ (mW m0 ma la lb n t v) (@HAppend.hAppend va_W va_W va_W _ ([((ma 0), .inl (X.2.1, 371, .inl fa))]) ([((ma 3), .inl (X.2.1, 3, .inl fr))]))) sz) s (@HAppend.hAppend va_W va_W va_W _ (mW m0 ma la lb n t v) (@HAppend.hAppend va_W va_W va_W _ ([((ma 0), .inl (X.2.1, 371, .inl fa))]) ([((ma 3), .inl (X.2.1, 3, .inl fr))]))) H locs := G
  rcases hp_1 with ⟨rfl, hj_1⟩ | ⟨rfl, hj_1⟩
  · obtain ⟨j_1, hj_1, rfl⟩ := hj_1
    refine lv_if_eq (tgt := 15) zx zb dX11_speed_5 (by decide) (fun c_2 => absurd c_2 (by decide)) (fun c_2 => ?_)
    refine lv_iload_n zx zb dX11_speed_8 rfl (lv_at hl 2 rfl) ?_
    refine o_ri (cells' := 0) (slots' := 0) G rfl rfl (n_S (As := [.int x2]) (rest := []) S G (m_isSpeed l X x2 H.size) gX11_speed_X11_isSpeed rfl rfl rfl hdS_X11_isSpeed ⟨Nat.le_of_ble_eq_true rfl, Nat.le_of_ble_eq_true rfl⟩ [] rfl rfl rfl hl.1 (Nat.le_of_ble_eq_true rfl) dX11_speed_9 ⟨Nat.le_of_ble_eq_true rfl, Nat.le_of_ble_eq_true rfl⟩) (fun r_3 u_3 H locs hp_3 G => ?_)
    have G : wd X (va_A (@HAppend.hAppend va_W va_W va_W _ (mW m0 ma la lb n t v) (@HAppend.hAppend va_W va_W va_W _ ([((ma 0), .inl (X.2.1, 371, .inl fa))]) ([((ma 3), .inl (X.2.1, 3, .inl fr))]))) sz) (va_A (@HAppend.hAppend va_W va_W va_W _ (mW m0 ma la lb n t v) (@HAppend.hAppend va_W va_W va_W _ ([((ma 0), .inl (X.2.1, 371, .inl fa))]) ([((ma 3), .inl (X.2.1, 3, .inl fr))]))) sz) s (@HAppend.hAppend va_W va_W va_W _ (mW m0 ma la lb n t v) (@HAppend.hAppend va_W va_W va_W _ ([((ma 0), .inl (X.2.1, 371, .inl fa))]) ([((ma 3), .inl (X.2.1, 3, .inl fr))]))) H locs := G
    rcases hp_3 with ⟨rfl, hw_3⟩ | ⟨rfl, hw_3⟩
    · obtain ⟨j_3, ⟨ja_3, jb_3⟩, rfl⟩ := k_natR (a := 0) (b := 9) hw_3 rfl rfl (by decide) (by decide)
      refine lv_if_ne (tgt := 22) zx zb dX11_speed_12 (by decide) (fun c_4 => ?_) (fun c_4 => absurd c_4 (by decide))
      refine lv_aload_n zx zb dX11_speed_22 rfl (lv_at hl 0 rfl) ?_
      refine r_get (C := RX11) (T := TX11) (N := 18) (ci := 9) (v := .ref (ma 0)) S in_X11_speed_X11 G 0 rfl rfl 0 (by decide) lk_X11_speed_7 rfl dX11_speed_23 ?_
      refine lv_bipush (v := 11) zx zb dX11_speed_26 (by decide) ?_
      refine lv_iload_n zx zb dX11_speed_28 rfl (lv_at hl 1 rfl) ?_
      refine r_iadd (v := (nI (11 + j_1))) S (nI_add 11 j_1) dX11_speed_29 ?_
      refine r_iald (v := (fa (11 + j_1))) S G 1 rfl (vp_in_nI (by omega) (by decide)) (congrArg fa (nI_clamp (by omega))) dX11_speed_30 ?_
      refine lv_istore_n (lv' := [(3, .int (fa (11 + j_1))), (0, .ref m0), (1, .int (nI j_1)), (2, .int (nI j_3))]) zx zb dX11_speed_31 rfl hl (by decide) rfl (fun ls hl => ?_)
      refine lv_iload_n zx zb dX11_speed_32 rfl (lv_at hl 0 rfl) ?_
      refine lv_iload_n zx zb dX11_speed_33 rfl (lv_at hl 3 rfl) ?_
      refine lv_icmp_eq (tgt := 48) zx zb dX11_speed_34 (by decide) (fun c_6 => ?_) (fun c_6 => ?_)
      · refine lv_aload_n zx zb dX11_speed_48 rfl (lv_at hl 1 rfl) ?_
        refine b_wi (cells' := 0) (slots' := 0) (wr := [((ma 0), .inl (X.2.1, 371, .inl fa))]) G rfl rfl [0, 2] [1] rfl rfl rfl rfl (n_V (As := []) (rest := []) (C := RX11) (T := TX11) (N := 18) (ci := 9) S G (m_no l X m0 ma la lb n t v fr hI_n hI_t H.size) gX11_speed_X11_no rfl rfl rfl hdV_X11_no ⟨Nat.le_of_ble_eq_true rfl, Nat.le_of_ble_eq_true rfl⟩ [0, 2] rfl rfl 0 rfl rfl rfl hl.1 (Nat.le_of_ble_eq_true rfl) dX11_speed_49 ⟨Nat.le_of_ble_eq_true rfl, Nat.le_of_ble_eq_true rfl⟩) (fun r_7 u_7 H locs hp_7 G => ?_)
        obtain ⟨f_7, rfl⟩ : ∃ z, z = u_7 := ⟨_, rfl⟩
        have hq_7 := hp_7
        have G : wd X (va_A (@HAppend.hAppend va_W va_W va_W _ (mW m0 ma la lb n t v) (@HAppend.hAppend va_W va_W va_W _ ([((ma 0), .inl (X.2.1, 371, .inl fa))]) ([((ma 3), .inl (X.2.1, 3, .inl fr))]))) sz) (va_A (@HAppend.hAppend va_W va_W va_W _ (mW m0 ma la lb n t v) (@HAppend.hAppend va_W va_W va_W _ ([((ma 0), .inl (X.2.1, 371, .inl fa))]) ([((ma 3), .inl (X.2.1, 3, .inl fr))]))) sz) s (@HAppend.hAppend va_W va_W va_W _ ([((ma 0), .inl (X.2.1, 371, .inl fa))]) (@HAppend.hAppend va_W va_W va_W _ (mW m0 ma la lb n t v) ([((ma 3), .inl (X.2.1, 3, .inl f_7))]))) H locs := G
        obtain rfl := hq_7
        exact e_int S zr zlk (vp_nar_int _) G (fa, c4, f_7) [1, 0, 2] rfl rfl (Or.inr rfl) (⟨hI_fa, kp_r⟩) dX11_speed_52
      · refine lv_aload_n zx zb dX11_speed_37 rfl (lv_at hl 1 rfl) ?_
        refine r_get (C := RX11) (T := TX11) (N := 18) (ci := 9) (v := .ref (ma 0)) S in_X11_speed_X11 G 0 rfl rfl 0 (by decide) lk_X11_speed_7 rfl dX11_speed_38 ?_
        refine lv_iload_n zx zb dX11_speed_41 rfl (lv_at hl 2 rfl) ?_
        refine o_ri (cells' := 0) (slots' := 0) G rfl rfl (n_S (As := [.ref (ma 0), .int (nI j_1)]) (rest := []) S G (y_isHome l X (ma 0) 371 fa c0 c1 c2 c3 c4 j_1 hI_fa (by omega) (by omega) (by omega) H.size) gX11_speed_X11_isHome rfl rfl rfl hdS_X11_isHome ⟨Nat.le_of_ble_eq_true rfl, Nat.le_of_ble_eq_true rfl⟩ [1] rfl rfl rfl hl.1 (Nat.le_of_ble_eq_true rfl) dX11_speed_42 ⟨Nat.le_of_ble_eq_true rfl, Nat.le_of_ble_eq_true rfl⟩) (fun r_8 u_8 H locs hp_8 G => ?_)
        have G : wd X (va_A (@HAppend.hAppend va_W va_W va_W _ (mW m0 ma la lb n t v) (@HAppend.hAppend va_W va_W va_W _ ([((ma 0), .inl (X.2.1, 371, .inl fa))]) ([((ma 3), .inl (X.2.1, 3, .inl fr))]))) sz) (va_A (@HAppend.hAppend va_W va_W va_W _ (mW m0 ma la lb n t v) (@HAppend.hAppend va_W va_W va_W _ ([((ma 0), .inl (X.2.1, 371, .inl fa))]) ([((ma 3), .inl (X.2.1, 3, .inl fr))]))) sz) s (@HAppend.hAppend va_W va_W va_W _ (mW m0 ma la lb n t v) (@HAppend.hAppend va_W va_W va_W _ ([((ma 0), .inl (X.2.1, 371, .inl fa))]) ([((ma 3), .inl (X.2.1, 3, .inl fr))]))) H locs := G
        rcases hp_8 with ⟨rfl, hh_8⟩ | ⟨rfl, hh_8⟩
        · refine lv_if_eq (tgt := 53) zx zb dX11_speed_45 (by decide) (fun c_9 => absurd c_9 (by decide)) (fun c_9 => ?_)
          refine lv_aload_n zx zb dX11_speed_48 rfl (lv_at hl 1 rfl) ?_
          refine b_wi (cells' := 0) (slots' := 0) (wr := [((ma 0), .inl (X.2.1, 371, .inl fa))]) G rfl rfl [0, 2] [1] rfl rfl rfl rfl (n_V (As := []) (rest := []) (C := RX11) (T := TX11) (N := 18) (ci := 9) S G (m_no l X m0 ma la lb n t v fr hI_n hI_t H.size) gX11_speed_X11_no rfl rfl rfl hdV_X11_no ⟨Nat.le_of_ble_eq_true rfl, Nat.le_of_ble_eq_true rfl⟩ [0, 2] rfl rfl 0 rfl rfl rfl hl.1 (Nat.le_of_ble_eq_true rfl) dX11_speed_49 ⟨Nat.le_of_ble_eq_true rfl, Nat.le_of_ble_eq_true rfl⟩) (fun r_10 u_10 H locs hp_10 G => ?_)
          obtain ⟨f_10, rfl⟩ : ∃ z, z = u_10 := ⟨_, rfl⟩
          have hq_10 := hp_10
          have G : wd X (va_A (@HAppend.hAppend va_W va_W va_W _ (mW m0 ma la lb n t v) (@HAppend.hAppend va_W va_W va_W _ ([((ma 0), .inl (X.2.1, 371, .inl fa))]) ([((ma 3), .inl (X.2.1, 3, .inl fr))]))) sz) (va_A (@HAppend.hAppend va_W va_W va_W _ (mW m0 ma la lb n t v) (@HAppend.hAppend va_W va_W va_W _ ([((ma 0), .inl (X.2.1, 371, .inl fa))]) ([((ma 3), .inl (X.2.1, 3, .inl fr))]))) sz) s (@HAppend.hAppend va_W va_W va_W _ ([((ma 0), .inl (X.2.1, 371, .inl fa))]) (@HAppend.hAppend va_W va_W va_W _ (mW m0 ma la lb n t v) ([((ma 3), .inl (X.2.1, 3, .inl f_10))]))) H locs := G
          obtain rfl := hq_10
          exact e_int S zr zlk (vp_nar_int _) G (fa, c4, f_10) [1, 0, 2] rfl rfl (Or.inr rfl) (⟨hI_fa, kp_r⟩) dX11_speed_52
        · refine lv_if_eq (tgt := 53) zx zb dX11_speed_45 (by decide) (fun c_11 => ?_) (fun c_11 => absurd (by decide) c_11)
          refine lv_aload_n zx zb dX11_speed_53 rfl (lv_at hl 1 rfl) ?_
          refine b_wv (cells' := 0) (slots' := 0) (wr := [((ma 3), .inl (X.2.1, 3, .inl fr))]) G rfl rfl [0, 1] [2] rfl rfl rfl rfl (n_V (As := []) (rest := []) (C := RX11) (T := TX11) (N := 18) (ci := 9) S G (w_save l X m0 ma la lb n t v fa c0 c1 c2 c3 c4 hI_n hI_t hI_fa H.size) gX11_speed_X11_save rfl rfl rfl hdV_X11_save ⟨Nat.le_of_ble_eq_true rfl, Nat.le_of_ble_eq_true rfl⟩ [0, 1] rfl rfl 0 rfl rfl rfl hl.1 (Nat.le_of_ble_eq_true rfl) dX11_speed_54 ⟨Nat.le_of_ble_eq_true rfl, Nat.le_of_ble_eq_true rfl⟩) (fun u_12 H locs hp_12 G => ?_)
          obtain ⟨f_12a, c4_12b⟩ := u_12
          try dsimp only at hp_12
          obtain ⟨hI_f_12a, hq_12⟩ := hp_12
          have hO_f_12a := hI_f_12a.2
          obtain ⟨hm0_f_12a, hm1_f_12a, hm2_f_12a, hm3_f_12a, hm4_f_12a⟩ := hO_f_12a
          have G : wd X (va_A (@HAppend.hAppend va_W va_W va_W _ (mW m0 ma la lb n t v) (@HAppend.hAppend va_W va_W va_W _ ([((ma 0), .inl (X.2.1, 371, .inl fa))]) ([((ma 3), .inl (X.2.1, 3, .inl fr))]))) sz) (va_A (@HAppend.hAppend va_W va_W va_W _ (mW m0 ma la lb n t v) (@HAppend.hAppend va_W va_W va_W _ ([((ma 0), .inl (X.2.1, 371, .inl fa))]) ([((ma 3), .inl (X.2.1, 3, .inl fr))]))) sz) s (@HAppend.hAppend va_W va_W va_W _ ([((ma 3), .inl (X.2.1, 3, .inl fr))]) (@HAppend.hAppend va_W va_W va_W _ (mW m0 ma la lb n t v) ([((ma 0), .inl (X.2.1, 371, .inl f_12a))]))) H locs := G
          have kp_f_12a : kpM fa f_12a := kp_t kp_r hq_12
          refine lv_aload_n zx zb dX11_speed_57 rfl (lv_at hl 1 rfl) ?_
          refine r_get (C := RX11) (T := TX11) (N := 18) (ci := 9) (v := .ref (ma 0)) S in_X11_speed_X11 G 1 rfl rfl 0 (by decide) lk_X11_speed_7 rfl dX11_speed_58 ?_
          refine lv_bipush (v := 11) zx zb dX11_speed_61 (by decide) ?_
          refine lv_iload_n zx zb dX11_speed_63 rfl (lv_at hl 2 rfl) ?_
          refine r_iadd (v := (nI (11 + j_1))) S (nI_add 11 j_1) dX11_speed_64 ?_
          refine lv_iload_n zx zb dX11_speed_65 rfl (lv_at hl 3 rfl) ?_
          refine r_iast S G 2 rfl (vp_in_nI (by omega) (by decide)) dX11_speed_66 (fun H locs G => ?_)
          obtain ⟨f_13, hI_f_13, hE_f_13, G⟩ : ∃ f_13 : Nat → Int32, InA f_13 c0 c1 c2 c3 c4_12b ∧ f_13 = upd f_12a (nI (11 + j_1)).toNatClampNeg (nI j_3) ∧ wd X (va_A (@HAppend.hAppend va_W va_W va_W _ (mW m0 ma la lb n t v) (@HAppend.hAppend va_W va_W va_W _ ([((ma 0), .inl (X.2.1, 371, .inl fa))]) ([((ma 3), .inl (X.2.1, 3, .inl fr))]))) sz) (va_A (@HAppend.hAppend va_W va_W va_W _ (mW m0 ma la lb n t v) (@HAppend.hAppend va_W va_W va_W _ ([((ma 0), .inl (X.2.1, 371, .inl fa))]) ([((ma 3), .inl (X.2.1, 3, .inl fr))]))) sz) s (@HAppend.hAppend va_W va_W va_W _ ([((ma 3), .inl (X.2.1, 3, .inl fr))]) (@HAppend.hAppend va_W va_W va_W _ (mW m0 ma la lb n t v) ([((ma 0), .inl (X.2.1, 371, .inl f_13))]))) H locs := ⟨_, InA_o hI_f_12a (by rw [nI_clamp (by omega)]; omega), rfl, G⟩
          have kp_f_13 : kpM fa f_13 := kp_u kp_f_12a hE_f_13 (by rw [nI_clamp (by omega)]; omega)
          refine lv_iload_n zx zb dX11_speed_67 rfl (lv_at hl 0 rfl) ?_
          exact e_int S zr zlk (vp_nar_int _) G (f_13, c4_12b, fr) [1, 2, 0] rfl rfl (Or.inr rfl) (⟨hI_f_13, kp_f_13⟩) dX11_speed_68
    · refine lv_if_ne (tgt := 22) zx zb dX11_speed_12 (by decide) (fun c_14 => absurd (by decide) c_14) (fun c_14 => ?_)
      refine lv_aload_n zx zb dX11_speed_15 rfl (lv_at hl 0 rfl) ?_
      refine lv_bipush (v := (-2)) zx zb dX11_speed_16 (by decide) ?_
      refine b_wi (cells' := 0) (slots' := 0) (wr := [((ma 0), .inl (X.2.1, 371, .inl fa))]) G rfl rfl [0, 2] [1] rfl rfl rfl rfl (n_V (As := [.int (-2)]) (rest := []) (C := RX11) (T := TX11) (N := 18) (ci := 9) S G (m_bad l X m0 ma la lb n t v fr (-2) hI_n hI_t H.size) gX11_speed_X11_bad rfl rfl rfl hdV_X11_bad ⟨Nat.le_of_ble_eq_true rfl, Nat.le_of_ble_eq_true rfl⟩ [0, 2] rfl rfl 0 rfl rfl rfl hl.1 (Nat.le_of_ble_eq_true rfl) dX11_speed_18 ⟨Nat.le_of_ble_eq_true rfl, Nat.le_of_ble_eq_true rfl⟩) (fun r_15 u_15 H locs hp_15 G => ?_)
      obtain ⟨f_15, rfl⟩ : ∃ z, z = u_15 := ⟨_, rfl⟩
      have hq_15 := hp_15
      have G : wd X (va_A (@HAppend.hAppend va_W va_W va_W _ (mW m0 ma la lb n t v) (@HAppend.hAppend va_W va_W va_W _ ([((ma 0), .inl (X.2.1, 371, .inl fa))]) ([((ma 3), .inl (X.2.1, 3, .inl fr))]))) sz) (va_A (@HAppend.hAppend va_W va_W va_W _ (mW m0 ma la lb n t v) (@HAppend.hAppend va_W va_W va_W _ ([((ma 0), .inl (X.2.1, 371, .inl fa))]) ([((ma 3), .inl (X.2.1, 3, .inl fr))]))) sz) s (@HAppend.hAppend va_W va_W va_W _ ([((ma 0), .inl (X.2.1, 371, .inl fa))]) (@HAppend.hAppend va_W va_W va_W _ (mW m0 ma la lb n t v) ([((ma 3), .inl (X.2.1, 3, .inl f_15))]))) H locs := G
      obtain rfl := hq_15
      exact e_int S zr zlk (vp_nar_int _) G (fa, c4, f_15) [1, 0, 2] rfl rfl (Or.inr rfl) (⟨hI_fa, kp_r⟩) dX11_speed_21
  · refine lv_if_eq (tgt := 15) zx zb dX11_speed_5 (by decide) (fun c_16 => ?_) (fun c_16 => absurd (by decide) c_16)
    refine lv_aload_n zx zb dX11_speed_15 rfl (lv_at hl 0 rfl) ?_
    refine lv_bipush (v := (-2)) zx zb dX11_speed_16 (by decide) ?_
    refine b_wi (cells' := 0) (slots' := 0) (wr := [((ma 0), .inl (X.2.1, 371, .inl fa))]) G rfl rfl [0, 2] [1] rfl rfl rfl rfl (n_V (As := [.int (-2)]) (rest := []) (C := RX11) (T := TX11) (N := 18) (ci := 9) S G (m_bad l X m0 ma la lb n t v fr (-2) hI_n hI_t H.size) gX11_speed_X11_bad rfl rfl rfl hdV_X11_bad ⟨Nat.le_of_ble_eq_true rfl, Nat.le_of_ble_eq_true rfl⟩ [0, 2] rfl rfl 0 rfl rfl rfl hl.1 (Nat.le_of_ble_eq_true rfl) dX11_speed_18 ⟨Nat.le_of_ble_eq_true rfl, Nat.le_of_ble_eq_true rfl⟩) (fun r_17 u_17 H locs hp_17 G => ?_)
    obtain ⟨f_17, rfl⟩ : ∃ z, z = u_17 := ⟨_, rfl⟩
    have hq_17 := hp_17
    have G : wd X (va_A (@HAppend.hAppend va_W va_W va_W _ (mW m0 ma la lb n t v) (@HAppend.hAppend va_W va_W va_W _ ([((ma 0), .inl (X.2.1, 371, .inl fa))]) ([((ma 3), .inl (X.2.1, 3, .inl fr))]))) sz) (va_A (@HAppend.hAppend va_W va_W va_W _ (mW m0 ma la lb n t v) (@HAppend.hAppend va_W va_W va_W _ ([((ma 0), .inl (X.2.1, 371, .inl fa))]) ([((ma 3), .inl (X.2.1, 3, .inl fr))]))) sz) s (@HAppend.hAppend va_W va_W va_W _ ([((ma 0), .inl (X.2.1, 371, .inl fa))]) (@HAppend.hAppend va_W va_W va_W _ (mW m0 ma la lb n t v) ([((ma 3), .inl (X.2.1, 3, .inl f_17))]))) H locs := G
    obtain rfl := hq_17
    exact e_int S zr zlk (vp_nar_int _) G (fa, c4, f_17) [1, 0, 2] rfl rfl (Or.inr rfl) (⟨hI_fa, kp_r⟩) dX11_speed_21
set_option maxHeartbeats 4000000 in
set_option maxRecDepth 100000 in
theorem w_start (l : Launch) (X : EX) (m0 : Nat) (ma : Nat → Nat) (la : Int64) (lb : Int64) (n : Nat) (t : Nat → Nat) (v : Nat → Int32) (fa : Nat → Int32) (c0 : Nat) (c1 : Nat) (c2 : Nat) (c3 : Nat) (c4 : Nat) (fr : Nat → Int32) (x1 : Int32) (x2 : Int32) (hI_n : n ≤ 150) (hI_t : InT t) (hI_fa : InA fa c0 c1 c2 c3 c4) (sz : Nat) : Met l yX11_start wsX11_start ({ frames := 2, cells := 0, slots := 0, locals := 46 } : Room) (pE X [.ref m0, .int x1, .int x2] (@HAppend.hAppend va_W va_W va_W _ (mW m0 ma la lb n t v) (@HAppend.hAppend va_W va_W va_W _ ([((ma 0), .inl (X.2.1, 371, .inl fa))]) ([((ma 3), .inl (X.2.1, 3, .inl fr))]))) sz) (qI (fun (r : Int32) (u : (Nat → Int32) × (Nat) × (Nat → Int32)) => InA u.1 c0 c1 c2 c3 u.2.1 ∧ (kpM fa u.1)) X (fun (u : (Nat → Int32) × (Nat) × (Nat → Int32)) => @HAppend.hAppend va_W va_W va_W _ (mW m0 ma la lb n t v) (@HAppend.hAppend va_W va_W va_W _ ([((ma 0), .inl (X.2.1, 371, .inl u.1))]) ([((ma 3), .inl (X.2.1, 3, .inl u.2.2))]))) (@HAppend.hAppend va_W va_W va_W _ (mW m0 ma la lb n t v) (@HAppend.hAppend va_W va_W va_W _ ([((ma 0), .inl (X.2.1, 371, .inl fa))]) ([((ma 3), .inl (X.2.1, 3, .inl fr))]))) sz) 0 0 (va_A (@HAppend.hAppend va_W va_W va_W _ (mW m0 ma la lb n t v) (@HAppend.hAppend va_W va_W va_W _ ([((ma 0), .inl (X.2.1, 371, .inl fa))]) ([((ma 3), .inl (X.2.1, 3, .inl fr))]))) sz) := by
  refine mk_met (B := (va_A (@HAppend.hAppend va_W va_W va_W _ (mW m0 ma la lb n t v) (@HAppend.hAppend va_W va_W va_W _ ([((ma 0), .inl (X.2.1, 371, .inl fa))]) ([((ma 3), .inl (X.2.1, 3, .inl fr))]))) sz)) (A := (va_A (@HAppend.hAppend va_W va_W va_W _ (mW m0 ma la lb n t v) (@HAppend.hAppend va_W va_W va_W _ ([((ma 0), .inl (X.2.1, 371, .inl fa))]) ([((ma 3), .inl (X.2.1, 3, .inl fr))]))) sz)) (cc := cX11_start) (maxL := 3) (ret := (some .int)) (by decide) rfl (Nat.le_of_ble_eq_true rfl) k_w k_a (fun p e s m below meth c S zr zlk znm zsz G ls hl => ?_)
  have S : CallFix p m c cX11_start 3 s _ wsX11_start RX11 := S
  have zx := S.1
  have zb := S.2.1
  have hl : lv_has ls 3 [(0, .ref m0), (1, .int x1), (2, .int x2)] := hl
  have hO_t := hI_t
  obtain ⟨ht0_t, ht1_t⟩ := hO_t
  have hO_fa := hI_fa.2
  obtain ⟨hm0_fa, hm1_fa, hm2_fa, hm3_fa, hm4_fa⟩ := hO_fa
  refine lv_aload_n zx zb dX11_start_0 rfl (lv_at hl 0 rfl) ?_
  refine lv_iload_n zx zb dX11_start_1 rfl (lv_at hl 1 rfl) ?_
  refine o_ri (cells' := 0) (slots' := 0) G rfl rfl (n_V (As := [.int x1]) (rest := []) (C := RX11) (T := TX11) (N := 18) (ci := 9) S G (m_isOne l X m0 ma la lb n t v fa c0 c1 c2 c3 c4 x1 hI_n hI_t hI_fa s.heap.size) gX11_start_X11_isOne rfl rfl rfl hdV_X11_isOne ⟨Nat.le_of_ble_eq_true rfl, Nat.le_of_ble_eq_true rfl⟩ [0, 1] rfl rfl 0 rfl rfl rfl hl.1 (Nat.le_of_ble_eq_true rfl) dX11_start_2 ⟨Nat.le_of_ble_eq_true rfl, Nat.le_of_ble_eq_true rfl⟩) (fun r_1 u_1 H locs hp_1 G => ?_)
  have G : wd X (va_A (@HAppend.hAppend va_W va_W va_W _ (mW m0 ma la lb n t v) (@HAppend.hAppend va_W va_W va_W _ ([((ma 0), .inl (X.2.1, 371, .inl fa))]) ([((ma 3), .inl (X.2.1, 3, .inl fr))]))) sz) (va_A (@HAppend.hAppend va_W va_W va_W _ (mW m0 ma la lb n t v) (@HAppend.hAppend va_W va_W va_W _ ([((ma 0), .inl (X.2.1, 371, .inl fa))]) ([((ma 3), .inl (X.2.1, 3, .inl fr))]))) sz) s (@HAppend.hAppend va_W va_W va_W _ (mW m0 ma la lb n t v) (@HAppend.hAppend va_W va_W va_W _ ([((ma 0), .inl (X.2.1, 371, .inl fa))]) ([((ma 3), .inl (X.2.1, 3, .inl fr))]))) H locs := G
  rcases hp_1 with ⟨rfl, hj_1⟩ | ⟨rfl, hj_1⟩
  · obtain ⟨j_1, hj_1, rfl⟩ := hj_1
    refine lv_if_eq (tgt := 20) zx zb dX11_start_5 (by decide) (fun c_2 => absurd c_2 (by decide)) (fun c_2 => ?_)
    refine lv_iload_n zx zb dX11_start_8 rfl (lv_at hl 2 rfl) ?_
    refine lv_i2l (v := (Int32.toInt64 x2)) zx zb dX11_start_9 rfl ?_
    refine lv_lconst (v := (Int32.toInt64 1)) zx zb dX11_start_10 (by decide) ?_
    refine lv_ldc2 zx zb S.2.2.2.1 (S.2.2.2.2 _ mm_X11_start_c132) dX11_start_11 ?_
    refine k_ld (v := (Int32.toInt64 30)) (by decide) ?_
    refine o_ri (cells' := 0) (slots' := 0) G rfl rfl (n_S (As := [.long (Int32.toInt64 x2), .long (Int32.toInt64 1), .long (Int32.toInt64 30)]) (rest := []) S G (m_in l X x2 1 30 H.size) gX11_start_X11_in rfl rfl rfl hdS_X11_in ⟨Nat.le_of_ble_eq_true rfl, Nat.le_of_ble_eq_true rfl⟩ [] rfl rfl rfl hl.1 (Nat.le_of_ble_eq_true rfl) dX11_start_14 ⟨Nat.le_of_ble_eq_true rfl, Nat.le_of_ble_eq_true rfl⟩) (fun r_3 u_3 H locs hp_3 G => ?_)
    have G : wd X (va_A (@HAppend.hAppend va_W va_W va_W _ (mW m0 ma la lb n t v) (@HAppend.hAppend va_W va_W va_W _ ([((ma 0), .inl (X.2.1, 371, .inl fa))]) ([((ma 3), .inl (X.2.1, 3, .inl fr))]))) sz) (va_A (@HAppend.hAppend va_W va_W va_W _ (mW m0 ma la lb n t v) (@HAppend.hAppend va_W va_W va_W _ ([((ma 0), .inl (X.2.1, 371, .inl fa))]) ([((ma 3), .inl (X.2.1, 3, .inl fr))]))) sz) s (@HAppend.hAppend va_W va_W va_W _ (mW m0 ma la lb n t v) (@HAppend.hAppend va_W va_W va_W _ ([((ma 0), .inl (X.2.1, 371, .inl fa))]) ([((ma 3), .inl (X.2.1, 3, .inl fr))]))) H locs := G
    rcases hp_3 with ⟨rfl, hw_3⟩ | ⟨rfl, hw_3⟩
    · obtain ⟨j_3, ⟨ja_3, jb_3⟩, rfl⟩ := k_natR (a := 1) (b := 30) hw_3 rfl rfl (by decide) (by decide)
      refine lv_if_ne (tgt := 27) zx zb dX11_start_17 (by decide) (fun c_4 => ?_) (fun c_4 => absurd c_4 (by decide))
      refine lv_aload_n zx zb dX11_start_27 rfl (lv_at hl 0 rfl) ?_
      refine r_get (C := RX11) (T := TX11) (N := 18) (ci := 9) (v := .ref (ma 0)) S in_X11_start_X11 G 0 rfl rfl 0 (by decide) lk_X11_start_7 rfl dX11_start_28 ?_
      refine lv_iload_n zx zb dX11_start_31 rfl (lv_at hl 1 rfl) ?_
      refine o_ri (cells' := 0) (slots' := 0) G rfl rfl (n_S (As := [.ref (ma 0), .int (nI j_1)]) (rest := []) S G (y_isHome l X (ma 0) 371 fa c0 c1 c2 c3 c4 j_1 hI_fa (by omega) (by omega) (by omega) H.size) gX11_start_X11_isHome rfl rfl rfl hdS_X11_isHome ⟨Nat.le_of_ble_eq_true rfl, Nat.le_of_ble_eq_true rfl⟩ [1] rfl rfl rfl hl.1 (Nat.le_of_ble_eq_true rfl) dX11_start_32 ⟨Nat.le_of_ble_eq_true rfl, Nat.le_of_ble_eq_true rfl⟩) (fun r_5 u_5 H locs hp_5 G => ?_)
      have G : wd X (va_A (@HAppend.hAppend va_W va_W va_W _ (mW m0 ma la lb n t v) (@HAppend.hAppend va_W va_W va_W _ ([((ma 0), .inl (X.2.1, 371, .inl fa))]) ([((ma 3), .inl (X.2.1, 3, .inl fr))]))) sz) (va_A (@HAppend.hAppend va_W va_W va_W _ (mW m0 ma la lb n t v) (@HAppend.hAppend va_W va_W va_W _ ([((ma 0), .inl (X.2.1, 371, .inl fa))]) ([((ma 3), .inl (X.2.1, 3, .inl fr))]))) sz) s (@HAppend.hAppend va_W va_W va_W _ (mW m0 ma la lb n t v) (@HAppend.hAppend va_W va_W va_W _ ([((ma 0), .inl (X.2.1, 371, .inl fa))]) ([((ma 3), .inl (X.2.1, 3, .inl fr))]))) H locs := G
      rcases hp_5 with ⟨rfl, hh_5⟩ | ⟨rfl, hh_5⟩
      · refine lv_if_ne (tgt := 58) zx zb dX11_start_35 (by decide) (fun c_6 => ?_) (fun c_6 => absurd c_6 (by decide))
        refine lv_aload_n zx zb dX11_start_58 rfl (lv_at hl 0 rfl) ?_
        refine b_wi (cells' := 0) (slots' := 0) (wr := [((ma 0), .inl (X.2.1, 371, .inl fa))]) G rfl rfl [0, 2] [1] rfl rfl rfl rfl (n_V (As := []) (rest := []) (C := RX11) (T := TX11) (N := 18) (ci := 9) S G (m_no l X m0 ma la lb n t v fr hI_n hI_t H.size) gX11_start_X11_no rfl rfl rfl hdV_X11_no ⟨Nat.le_of_ble_eq_true rfl, Nat.le_of_ble_eq_true rfl⟩ [0, 2] rfl rfl 0 rfl rfl rfl hl.1 (Nat.le_of_ble_eq_true rfl) dX11_start_59 ⟨Nat.le_of_ble_eq_true rfl, Nat.le_of_ble_eq_true rfl⟩) (fun r_7 u_7 H locs hp_7 G => ?_)
        obtain ⟨f_7, rfl⟩ : ∃ z, z = u_7 := ⟨_, rfl⟩
        have hq_7 := hp_7
        have G : wd X (va_A (@HAppend.hAppend va_W va_W va_W _ (mW m0 ma la lb n t v) (@HAppend.hAppend va_W va_W va_W _ ([((ma 0), .inl (X.2.1, 371, .inl fa))]) ([((ma 3), .inl (X.2.1, 3, .inl fr))]))) sz) (va_A (@HAppend.hAppend va_W va_W va_W _ (mW m0 ma la lb n t v) (@HAppend.hAppend va_W va_W va_W _ ([((ma 0), .inl (X.2.1, 371, .inl fa))]) ([((ma 3), .inl (X.2.1, 3, .inl fr))]))) sz) s (@HAppend.hAppend va_W va_W va_W _ ([((ma 0), .inl (X.2.1, 371, .inl fa))]) (@HAppend.hAppend va_W va_W va_W _ (mW m0 ma la lb n t v) ([((ma 3), .inl (X.2.1, 3, .inl f_7))]))) H locs := G
        obtain rfl := hq_7
        exact e_int S zr zlk (vp_nar_int _) G (fa, c4, f_7) [1, 0, 2] rfl rfl (Or.inr rfl) (⟨hI_fa, kp_r⟩) dX11_start_62
      · refine lv_if_ne (tgt := 58) zx zb dX11_start_35 (by decide) (fun c_8 => absurd (by decide) c_8) (fun c_8 => ?_)
        refine lv_aload_n zx zb dX11_start_38 rfl (lv_at hl 0 rfl) ?_
        refine r_get (C := RX11) (T := TX11) (N := 18) (ci := 9) (v := .ref (ma 0)) S in_X11_start_X11 G 0 rfl rfl 0 (by decide) lk_X11_start_7 rfl dX11_start_39 ?_
        refine lv_iconst (v := 5) zx zb dX11_start_42 (by decide) ?_
        refine lv_iload_n zx zb dX11_start_43 rfl (lv_at hl 1 rfl) ?_
        refine r_iadd (v := (nI (5 + j_1))) S (nI_add 5 j_1) dX11_start_44 ?_
        refine r_iald (v := (fa (5 + j_1))) S G 1 rfl (vp_in_nI (by omega) (by decide)) (congrArg fa (nI_clamp (by omega))) dX11_start_45 ?_
        refine lv_iload_n zx zb dX11_start_46 rfl (lv_at hl 2 rfl) ?_
        refine r_iadd (v := ((fa (5 + j_1)) + (nI j_3))) S rfl dX11_start_47 ?_
        refine lv_aload_n zx zb dX11_start_48 rfl (lv_at hl 0 rfl) ?_
        refine r_get (C := RX11) (T := TX11) (N := 18) (ci := 9) (v := .ref (ma 0)) S in_X11_start_X11 G 0 rfl rfl 0 (by decide) lk_X11_start_7 rfl dX11_start_49 ?_
        refine lv_bipush (v := 36) zx zb dX11_start_52 (by decide) ?_
        refine r_iald (v := (fa 36)) S G 1 rfl (k_vp (by decide)) rfl dX11_start_54 ?_
        refine lv_icmp_lt (tgt := 63) zx zb dX11_start_55 (by decide) (fun c_11 => ?_) (fun c_11 => ?_)
        · refine lv_aload_n zx zb dX11_start_63 rfl (lv_at hl 0 rfl) ?_
          refine b_wv (cells' := 0) (slots' := 0) (wr := [((ma 3), .inl (X.2.1, 3, .inl fr))]) G rfl rfl [0, 1] [2] rfl rfl rfl rfl (n_V (As := []) (rest := []) (C := RX11) (T := TX11) (N := 18) (ci := 9) S G (w_save l X m0 ma la lb n t v fa c0 c1 c2 c3 c4 hI_n hI_t hI_fa H.size) gX11_start_X11_save rfl rfl rfl hdV_X11_save ⟨Nat.le_of_ble_eq_true rfl, Nat.le_of_ble_eq_true rfl⟩ [0, 1] rfl rfl 0 rfl rfl rfl hl.1 (Nat.le_of_ble_eq_true rfl) dX11_start_64 ⟨Nat.le_of_ble_eq_true rfl, Nat.le_of_ble_eq_true rfl⟩) (fun u_12 H locs hp_12 G => ?_)
          obtain ⟨f_12a, c4_12b⟩ := u_12
          try dsimp only at hp_12
          obtain ⟨hI_f_12a, hq_12⟩ := hp_12
          have hO_f_12a := hI_f_12a.2
          obtain ⟨hm0_f_12a, hm1_f_12a, hm2_f_12a, hm3_f_12a, hm4_f_12a⟩ := hO_f_12a
          have G : wd X (va_A (@HAppend.hAppend va_W va_W va_W _ (mW m0 ma la lb n t v) (@HAppend.hAppend va_W va_W va_W _ ([((ma 0), .inl (X.2.1, 371, .inl fa))]) ([((ma 3), .inl (X.2.1, 3, .inl fr))]))) sz) (va_A (@HAppend.hAppend va_W va_W va_W _ (mW m0 ma la lb n t v) (@HAppend.hAppend va_W va_W va_W _ ([((ma 0), .inl (X.2.1, 371, .inl fa))]) ([((ma 3), .inl (X.2.1, 3, .inl fr))]))) sz) s (@HAppend.hAppend va_W va_W va_W _ ([((ma 3), .inl (X.2.1, 3, .inl fr))]) (@HAppend.hAppend va_W va_W va_W _ (mW m0 ma la lb n t v) ([((ma 0), .inl (X.2.1, 371, .inl f_12a))]))) H locs := G
          have kp_f_12a : kpM fa f_12a := kp_t kp_r hq_12
          refine lv_aload_n zx zb dX11_start_67 rfl (lv_at hl 0 rfl) ?_
          refine r_get (C := RX11) (T := TX11) (N := 18) (ci := 9) (v := .ref (ma 0)) S in_X11_start_X11 G 1 rfl rfl 0 (by decide) lk_X11_start_7 rfl dX11_start_68 ?_
          refine lv_iconst (v := 5) zx zb dX11_start_71 (by decide) ?_
          refine lv_iload_n zx zb dX11_start_72 rfl (lv_at hl 1 rfl) ?_
          refine r_iadd (v := (nI (5 + j_1))) S (nI_add 5 j_1) dX11_start_73 ?_
          refine lv_dup2_11 zx zb dX11_start_74 rfl rfl ?_
          refine r_iald (v := (f_12a (5 + j_1))) S G 2 rfl (vp_in_nI (by omega) (by decide)) (congrArg f_12a (nI_clamp (by omega))) dX11_start_75 ?_
          refine lv_iload_n zx zb dX11_start_76 rfl (lv_at hl 2 rfl) ?_
          refine r_iadd (v := ((f_12a (5 + j_1)) + (nI j_3))) S rfl dX11_start_77 ?_
          refine r_iast S G 2 rfl (vp_in_nI (by omega) (by decide)) dX11_start_78 (fun H locs G => ?_)
          obtain ⟨f_14, hI_f_14, hE_f_14, G⟩ : ∃ f_14 : Nat → Int32, InA f_14 c0 c1 c2 c3 c4_12b ∧ f_14 = upd f_12a (nI (5 + j_1)).toNatClampNeg ((f_12a (5 + j_1)) + (nI j_3)) ∧ wd X (va_A (@HAppend.hAppend va_W va_W va_W _ (mW m0 ma la lb n t v) (@HAppend.hAppend va_W va_W va_W _ ([((ma 0), .inl (X.2.1, 371, .inl fa))]) ([((ma 3), .inl (X.2.1, 3, .inl fr))]))) sz) (va_A (@HAppend.hAppend va_W va_W va_W _ (mW m0 ma la lb n t v) (@HAppend.hAppend va_W va_W va_W _ ([((ma 0), .inl (X.2.1, 371, .inl fa))]) ([((ma 3), .inl (X.2.1, 3, .inl fr))]))) sz) s (@HAppend.hAppend va_W va_W va_W _ ([((ma 3), .inl (X.2.1, 3, .inl fr))]) (@HAppend.hAppend va_W va_W va_W _ (mW m0 ma la lb n t v) ([((ma 0), .inl (X.2.1, 371, .inl f_14))]))) H locs := ⟨_, InA_o hI_f_12a (by rw [nI_clamp (by omega)]; omega), rfl, G⟩
          have kp_f_14 : kpM fa f_14 := kp_u kp_f_12a hE_f_14 (by rw [nI_clamp (by omega)]; omega)
          refine lv_aload_n zx zb dX11_start_79 rfl (lv_at hl 0 rfl) ?_
          refine r_get (C := RX11) (T := TX11) (N := 18) (ci := 9) (v := .ref (ma 0)) S in_X11_start_X11 G 1 rfl rfl 0 (by decide) lk_X11_start_7 rfl dX11_start_80 ?_
          refine lv_iconst (v := 5) zx zb dX11_start_83 (by decide) ?_
          refine lv_iload_n zx zb dX11_start_84 rfl (lv_at hl 1 rfl) ?_
          refine r_iadd (v := (nI (5 + j_1))) S (nI_add 5 j_1) dX11_start_85 ?_
          refine r_iald (v := (f_14 (5 + j_1))) S G 2 rfl (vp_in_nI (by omega) (by decide)) (congrArg f_14 (nI_clamp (by omega))) dX11_start_86 ?_
          exact e_int S zr zlk (vp_nar_int _) G (f_14, c4_12b, fr) [1, 2, 0] rfl rfl (Or.inr rfl) (⟨hI_f_14, kp_f_14⟩) dX11_start_87
        · refine lv_aload_n zx zb dX11_start_58 rfl (lv_at hl 0 rfl) ?_
          refine b_wi (cells' := 0) (slots' := 0) (wr := [((ma 0), .inl (X.2.1, 371, .inl fa))]) G rfl rfl [0, 2] [1] rfl rfl rfl rfl (n_V (As := []) (rest := []) (C := RX11) (T := TX11) (N := 18) (ci := 9) S G (m_no l X m0 ma la lb n t v fr hI_n hI_t H.size) gX11_start_X11_no rfl rfl rfl hdV_X11_no ⟨Nat.le_of_ble_eq_true rfl, Nat.le_of_ble_eq_true rfl⟩ [0, 2] rfl rfl 0 rfl rfl rfl hl.1 (Nat.le_of_ble_eq_true rfl) dX11_start_59 ⟨Nat.le_of_ble_eq_true rfl, Nat.le_of_ble_eq_true rfl⟩) (fun r_16 u_16 H locs hp_16 G => ?_)
          obtain ⟨f_16, rfl⟩ : ∃ z, z = u_16 := ⟨_, rfl⟩
          have hq_16 := hp_16
          have G : wd X (va_A (@HAppend.hAppend va_W va_W va_W _ (mW m0 ma la lb n t v) (@HAppend.hAppend va_W va_W va_W _ ([((ma 0), .inl (X.2.1, 371, .inl fa))]) ([((ma 3), .inl (X.2.1, 3, .inl fr))]))) sz) (va_A (@HAppend.hAppend va_W va_W va_W _ (mW m0 ma la lb n t v) (@HAppend.hAppend va_W va_W va_W _ ([((ma 0), .inl (X.2.1, 371, .inl fa))]) ([((ma 3), .inl (X.2.1, 3, .inl fr))]))) sz) s (@HAppend.hAppend va_W va_W va_W _ ([((ma 0), .inl (X.2.1, 371, .inl fa))]) (@HAppend.hAppend va_W va_W va_W _ (mW m0 ma la lb n t v) ([((ma 3), .inl (X.2.1, 3, .inl f_16))]))) H locs := G
          obtain rfl := hq_16
          exact e_int S zr zlk (vp_nar_int _) G (fa, c4, f_16) [1, 0, 2] rfl rfl (Or.inr rfl) (⟨hI_fa, kp_r⟩) dX11_start_62
    · refine lv_if_ne (tgt := 27) zx zb dX11_start_17 (by decide) (fun c_17 => absurd (by decide) c_17) (fun c_17 => ?_)
      refine lv_aload_n zx zb dX11_start_20 rfl (lv_at hl 0 rfl) ?_
      refine lv_bipush (v := (-2)) zx zb dX11_start_21 (by decide) ?_
      refine b_wi (cells' := 0) (slots' := 0) (wr := [((ma 0), .inl (X.2.1, 371, .inl fa))]) G rfl rfl [0, 2] [1] rfl rfl rfl rfl (n_V (As := [.int (-2)]) (rest := []) (C := RX11) (T := TX11) (N := 18) (ci := 9) S G (m_bad l X m0 ma la lb n t v fr (-2) hI_n hI_t H.size) gX11_start_X11_bad rfl rfl rfl hdV_X11_bad ⟨Nat.le_of_ble_eq_true rfl, Nat.le_of_ble_eq_true rfl⟩ [0, 2] rfl rfl 0 rfl rfl rfl hl.1 (Nat.le_of_ble_eq_true rfl) dX11_start_23 ⟨Nat.le_of_ble_eq_true rfl, Nat.le_of_ble_eq_true rfl⟩) (fun r_18 u_18 H locs hp_18 G => ?_)
      obtain ⟨f_18, rfl⟩ : ∃ z, z = u_18 := ⟨_, rfl⟩
      have hq_18 := hp_18
      have G : wd X (va_A (@HAppend.hAppend va_W va_W va_W _ (mW m0 ma la lb n t v) (@HAppend.hAppend va_W va_W va_W _ ([((ma 0), .inl (X.2.1, 371, .inl fa))]) ([((ma 3), .inl (X.2.1, 3, .inl fr))]))) sz) (va_A (@HAppend.hAppend va_W va_W va_W _ (mW m0 ma la lb n t v) (@HAppend.hAppend va_W va_W va_W _ ([((ma 0), .inl (X.2.1, 371, .inl fa))]) ([((ma 3), .inl (X.2.1, 3, .inl fr))]))) sz) s (@HAppend.hAppend va_W va_W va_W _ ([((ma 0), .inl (X.2.1, 371, .inl fa))]) (@HAppend.hAppend va_W va_W va_W _ (mW m0 ma la lb n t v) ([((ma 3), .inl (X.2.1, 3, .inl f_18))]))) H locs := G
      obtain rfl := hq_18
      exact e_int S zr zlk (vp_nar_int _) G (fa, c4, f_18) [1, 0, 2] rfl rfl (Or.inr rfl) (⟨hI_fa, kp_r⟩) dX11_start_26
  · refine lv_if_eq (tgt := 20) zx zb dX11_start_5 (by decide) (fun c_19 => ?_) (fun c_19 => absurd (by decide) c_19)
    refine lv_aload_n zx zb dX11_start_20 rfl (lv_at hl 0 rfl) ?_
    refine lv_bipush (v := (-2)) zx zb dX11_start_21 (by decide) ?_
    refine b_wi (cells' := 0) (slots' := 0) (wr := [((ma 0), .inl (X.2.1, 371, .inl fa))]) G rfl rfl [0, 2] [1] rfl rfl rfl rfl (n_V (As := [.int (-2)]) (rest := []) (C := RX11) (T := TX11) (N := 18) (ci := 9) S G (m_bad l X m0 ma la lb n t v fr (-2) hI_n hI_t H.size) gX11_start_X11_bad rfl rfl rfl hdV_X11_bad ⟨Nat.le_of_ble_eq_true rfl, Nat.le_of_ble_eq_true rfl⟩ [0, 2] rfl rfl 0 rfl rfl rfl hl.1 (Nat.le_of_ble_eq_true rfl) dX11_start_23 ⟨Nat.le_of_ble_eq_true rfl, Nat.le_of_ble_eq_true rfl⟩) (fun r_20 u_20 H locs hp_20 G => ?_)
    obtain ⟨f_20, rfl⟩ : ∃ z, z = u_20 := ⟨_, rfl⟩
    have hq_20 := hp_20
    have G : wd X (va_A (@HAppend.hAppend va_W va_W va_W _ (mW m0 ma la lb n t v) (@HAppend.hAppend va_W va_W va_W _ ([((ma 0), .inl (X.2.1, 371, .inl fa))]) ([((ma 3), .inl (X.2.1, 3, .inl fr))]))) sz) (va_A (@HAppend.hAppend va_W va_W va_W _ (mW m0 ma la lb n t v) (@HAppend.hAppend va_W va_W va_W _ ([((ma 0), .inl (X.2.1, 371, .inl fa))]) ([((ma 3), .inl (X.2.1, 3, .inl fr))]))) sz) s (@HAppend.hAppend va_W va_W va_W _ ([((ma 0), .inl (X.2.1, 371, .inl fa))]) (@HAppend.hAppend va_W va_W va_W _ (mW m0 ma la lb n t v) ([((ma 3), .inl (X.2.1, 3, .inl f_20))]))) H locs := G
    obtain rfl := hq_20
    exact e_int S zr zlk (vp_nar_int _) G (fa, c4, f_20) [1, 0, 2] rfl rfl (Or.inr rfl) (⟨hI_fa, kp_r⟩) dX11_start_26
