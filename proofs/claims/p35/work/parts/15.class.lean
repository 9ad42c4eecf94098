set_option maxRecDepth 20000 in
theorem ggX10_farBy_X1_limit : GoodIn wsX10_farBy wsX1_limit := goodIn_r _ [10] rfl (by decide +kernel)
set_option maxRecDepth 20000 in
theorem gX10_farBy_X1_limit : GoodIn wsX10_farBy (va_wsS RX10 331 yX1_limit wsX1_limit) := goodIn_app (goodIn_of _ (by decide +kernel)) ggX10_farBy_X1_limit
set_option maxRecDepth 20000 in
theorem ggX10_farBy_X2_reach : GoodIn wsX10_farBy wsX2_reach := goodIn_r _ [6] rfl (by decide +kernel)
set_option maxRecDepth 20000 in
theorem gX10_farBy_X2_reach : GoodIn wsX10_farBy (va_wsS RX10 323 yX2_reach wsX2_reach) := goodIn_app (goodIn_of _ (by decide +kernel)) ggX10_farBy_X2_reach
set_option maxRecDepth 20000 in
theorem ggX10_forget_X10_refuse : GoodIn wsX10_forget wsX10_refuse := goodIn_r _ [13, 14, 15, 16, 17, 18, 19, 20, 21, 22, 23, 24, 25, 26, 27, 28] rfl (by decide +kernel)
set_option maxRecDepth 20000 in
theorem gX10_forget_X10_refuse : GoodIn wsX10_forget (wsV RX10 83 RX10 yX10_refuse wsX10_refuse) := goodIn_app (goodIn_of _ (by decide +kernel)) ggX10_forget_X10_refuse
set_option maxRecDepth 20000 in
theorem ggX10_forget_X10_within : GoodIn wsX10_forget wsX10_within := goodIn_r _ [9] rfl (by decide +kernel)
set_option maxRecDepth 20000 in
theorem gX10_forget_X10_within : GoodIn wsX10_forget (va_wsS RX10 79 yX10_within wsX10_within) := goodIn_app (goodIn_of _ (by decide +kernel)) ggX10_forget_X10_within
set_option maxRecDepth 20000 in
theorem ggX10_is_X10_refuse : GoodIn wsX10_is wsX10_refuse := goodIn_r _ [29, 30, 31, 32, 33, 34, 35, 36, 37, 38, 39, 40, 41, 42, 43, 44] rfl (by decide +kernel)
set_option maxRecDepth 20000 in
theorem gX10_is_X10_refuse : GoodIn wsX10_is (wsV RX10 83 RX10 yX10_refuse wsX10_refuse) := goodIn_app (goodIn_of _ (by decide +kernel)) ggX10_is_X10_refuse
set_option maxRecDepth 20000 in
theorem ggX10_is_X10_there : GoodIn wsX10_is wsX10_there := goodIn_r _ [6, 1, 7, 31, 32, 33, 34, 35, 36, 37, 38, 39, 40, 41, 42, 43, 44, 45, 46, 47, 48, 49, 50, 51, 52] rfl (by decide +kernel)
set_option maxRecDepth 20000 in
theorem gX10_is_X10_there : GoodIn wsX10_is (wsV RX10 123 RX10 yX10_there wsX10_there) := goodIn_app (goodIn_of _ (by decide +kernel)) ggX10_is_X10_there
set_option maxRecDepth 20000 in
theorem ggX10_is_X5_kindsThatFit : GoodIn wsX10_is wsX5_kindsThatFit := goodIn_r _ [12, 13, 14, 15, 16, 17, 18, 19, 20, 21, 22, 23, 24, 25, 45, 46, 47, 48, 49, 50, 51, 52, 53, 54, 55, 56, 57] rfl (by decide +kernel)
set_option maxRecDepth 20000 in
theorem gX10_is_X5_kindsThatFit : GoodIn wsX10_is (wsV RX10 218 RX5 yX5_kindsThatFit wsX5_kindsThatFit) := goodIn_app (goodIn_of _ (by decide +kernel)) ggX10_is_X5_kindsThatFit
set_option maxRecDepth 20000 in
theorem ggX10_kinds_X10_refuse : GoodIn wsX10_kinds wsX10_refuse := goodIn_r _ [28, 29, 30, 31, 32, 33, 34, 35, 36, 37, 38, 39, 40, 41, 42, 43] rfl (by decide +kernel)
set_option maxRecDepth 20000 in
theorem gX10_kinds_X10_refuse : GoodIn wsX10_kinds (wsV RX10 83 RX10 yX10_refuse wsX10_refuse) := goodIn_app (goodIn_of _ (by decide +kernel)) ggX10_kinds_X10_refuse
set_option maxRecDepth 20000 in
theorem ggX10_kinds_X10_there : GoodIn wsX10_kinds wsX10_there := goodIn_r _ [6, 1, 7, 30, 31, 32, 33, 34, 35, 36, 37, 38, 39, 40, 41, 42, 43, 44, 45, 46, 47, 48, 49, 50, 51] rfl (by decide +kernel)
set_option maxRecDepth 20000 in
theorem gX10_kinds_X10_there : GoodIn wsX10_kinds (wsV RX10 123 RX10 yX10_there wsX10_there) := goodIn_app (goodIn_of _ (by decide +kernel)) ggX10_kinds_X10_there
set_option maxRecDepth 20000 in
theorem ggX10_kinds_X5_eggsThatFit : GoodIn wsX10_kinds wsX5_eggsThatFit := goodIn_r _ [12, 13, 14, 15, 16, 17, 18, 19, 20, 21, 22, 23, 24, 44, 45, 46, 47, 48, 49, 50, 51, 52, 53, 54, 55, 56] rfl (by decide +kernel)
set_option maxRecDepth 20000 in
theorem gX10_kinds_X5_eggsThatFit : GoodIn wsX10_kinds (wsV RX10 221 RX5 yX5_eggsThatFit wsX5_eggsThatFit) := goodIn_app (goodIn_of _ (by decide +kernel)) ggX10_kinds_X5_eggsThatFit
set_option maxRecDepth 20000 in
theorem ggX10_mark_X10_refuse : GoodIn wsX10_mark wsX10_refuse := goodIn_r _ [16, 17, 26, 27, 28, 29, 30, 31, 32, 33, 34, 35, 36, 37, 38, 39] rfl (by decide +kernel)
set_option maxRecDepth 20000 in
theorem gX10_mark_X10_refuse : GoodIn wsX10_mark (wsV RX10 83 RX10 yX10_refuse wsX10_refuse) := goodIn_app (goodIn_of _ (by decide +kernel)) ggX10_mark_X10_refuse
set_option maxRecDepth 20000 in
theorem ggX10_mark_X10_there : GoodIn wsX10_mark wsX10_there := goodIn_r _ [8, 1, 9, 26, 27, 28, 29, 30, 31, 32, 33, 34, 35, 36, 37, 38, 39, 40, 41, 42, 43, 44, 45, 46, 47] rfl (by decide +kernel)
set_option maxRecDepth 20000 in
theorem gX10_mark_X10_there : GoodIn wsX10_mark (wsV RX10 123 RX10 yX10_there wsX10_there) := goodIn_app (goodIn_of _ (by decide +kernel)) ggX10_mark_X10_there
set_option maxRecDepth 20000 in
theorem ggX10_mark_X10_within : GoodIn wsX10_mark wsX10_within := goodIn_r _ [12] rfl (by decide +kernel)
set_option maxRecDepth 20000 in
theorem gX10_mark_X10_within : GoodIn wsX10_mark (va_wsS RX10 79 yX10_within wsX10_within) := goodIn_app (goodIn_of _ (by decide +kernel)) ggX10_mark_X10_within
set_option maxRecDepth 20000 in
theorem ggX10_mark_X7_append : GoodIn wsX10_mark wsX7_append := goodIn_r _ [22, 23, 24, 25, 48, 49, 50, 51, 52] rfl (by decide +kernel)
set_option maxRecDepth 20000 in
theorem gX10_mark_X7_append : GoodIn wsX10_mark (wsV RX10 189 RX7 yX7_append wsX7_append) := goodIn_app (goodIn_of _ (by decide +kernel)) ggX10_mark_X7_append
set_option maxRecDepth 20000 in
theorem ggX10_note_X10_refuse : GoodIn wsX10_note wsX10_refuse := goodIn_r _ [16, 17, 26, 27, 28, 29, 30, 31, 32, 33, 34, 35, 36, 37, 38, 39] rfl (by decide +kernel)
set_option maxRecDepth 20000 in
theorem gX10_note_X10_refuse : GoodIn wsX10_note (wsV RX10 83 RX10 yX10_refuse wsX10_refuse) := goodIn_app (goodIn_of _ (by decide +kernel)) ggX10_note_X10_refuse
set_option maxRecDepth 20000 in
theorem ggX10_note_X10_there : GoodIn wsX10_note wsX10_there := goodIn_r _ [8, 1, 9, 26, 27, 28, 29, 30, 31, 32, 33, 34, 35, 36, 37, 38, 39, 40, 41, 42, 43, 44, 45, 46, 47] rfl (by decide +kernel)
set_option maxRecDepth 20000 in
theorem gX10_note_X10_there : GoodIn wsX10_note (wsV RX10 123 RX10 yX10_there wsX10_there) := goodIn_app (goodIn_of _ (by decide +kernel)) ggX10_note_X10_there
set_option maxRecDepth 20000 in
theorem ggX10_note_X10_within : GoodIn wsX10_note wsX10_within := goodIn_r _ [12] rfl (by decide +kernel)
set_option maxRecDepth 20000 in
theorem gX10_note_X10_within : GoodIn wsX10_note (va_wsS RX10 79 yX10_within wsX10_within) := goodIn_app (goodIn_of _ (by decide +kernel)) ggX10_note_X10_within
set_option maxRecDepth 20000 in
theorem ggX10_note_X7_append : GoodIn wsX10_note wsX7_append := goodIn_r _ [22, 23, 24, 25, 48, 49, 50, 51, 52] rfl (by decide +kernel)
set_option maxRecDepth 20000 in
theorem gX10_note_X7_append : GoodIn wsX10_note (wsV RX10 189 RX7 yX7_append wsX7_append) := goodIn_app (goodIn_of _ (by decide +kernel)) ggX10_note_X7_append
set_option maxRecDepth 20000 in
theorem ggX10_part_X10_refuse : GoodIn wsX10_part wsX10_refuse := goodIn_r _ [10, 11, 12, 13, 14, 15, 16, 17, 18, 19, 20, 21, 22, 23, 24, 25] rfl (by decide +kernel)
set_option maxRecDepth 20000 in
theorem gX10_part_X10_refuse : GoodIn wsX10_part (wsV RX10 83 RX10 yX10_refuse wsX10_refuse) := goodIn_app (goodIn_of _ (by decide +kernel)) ggX10_part_X10_refuse
set_option maxRecDepth 20000 in
theorem ggX10_part_X10_within : GoodIn wsX10_part wsX10_within := goodIn_r _ [6] rfl (by decide +kernel)
set_option maxRecDepth 20000 in
theorem gX10_part_X10_within : GoodIn wsX10_part (va_wsS RX10 79 yX10_within wsX10_within) := goodIn_app (goodIn_of _ (by decide +kernel)) ggX10_part_X10_within
set_option maxRecDepth 20000 in
theorem ggX10_seen_X10_refuse : GoodIn wsX10_seen wsX10_refuse := goodIn_r _ [16, 17, 26, 27, 28, 29, 30, 31, 32, 33, 34, 35, 36, 37, 38, 39] rfl (by decide +kernel)
set_option maxRecDepth 20000 in
theorem gX10_seen_X10_refuse : GoodIn wsX10_seen (wsV RX10 83 RX10 yX10_refuse wsX10_refuse) := goodIn_app (goodIn_of _ (by decide +kernel)) ggX10_seen_X10_refuse
set_option maxRecDepth 20000 in
theorem ggX10_seen_X10_there : GoodIn wsX10_seen wsX10_there := goodIn_r _ [8, 1, 9, 26, 27, 28, 29, 30, 31, 32, 33, 34, 35, 36, 37, 38, 39, 40, 41, 42, 43, 44, 45, 46, 47] rfl (by decide +kernel)
set_option maxRecDepth 20000 in
theorem gX10_seen_X10_there : GoodIn wsX10_seen (wsV RX10 123 RX10 yX10_there wsX10_there) := goodIn_app (goodIn_of _ (by decide +kernel)) ggX10_seen_X10_there
set_option maxRecDepth 20000 in
theorem ggX10_seen_X10_within : GoodIn wsX10_seen wsX10_within := goodIn_r _ [12] rfl (by decide +kernel)
set_option maxRecDepth 20000 in
theorem gX10_seen_X10_within : GoodIn wsX10_seen (va_wsS RX10 79 yX10_within wsX10_within) := goodIn_app (goodIn_of _ (by decide +kernel)) ggX10_seen_X10_within
set_option maxRecDepth 20000 in
theorem ggX10_seen_X7_append : GoodIn wsX10_seen wsX7_append := goodIn_r _ [22, 23, 24, 25, 48, 49, 50, 51, 52] rfl (by decide +kernel)
set_option maxRecDepth 20000 in
theorem gX10_seen_X7_append : GoodIn wsX10_seen (wsV RX10 189 RX7 yX7_append wsX7_append) := goodIn_app (goodIn_of _ (by decide +kernel)) ggX10_seen_X7_append
set_option maxRecDepth 20000 in
theorem ggX10_status_X10_refuse : GoodIn wsX10_status wsX10_refuse := goodIn_r _ [9, 1, 10, 11, 12, 13, 14, 15, 16, 17, 18, 19, 20, 21, 22, 23] rfl (by decide +kernel)
set_option maxRecDepth 20000 in
theorem gX10_status_X10_refuse : GoodIn wsX10_status (wsV RX10 83 RX10 yX10_refuse wsX10_refuse) := goodIn_app (goodIn_of _ (by decide +kernel)) ggX10_status_X10_refuse
set_option maxRecDepth 20000 in
theorem ggX10_status_X10_within : GoodIn wsX10_status wsX10_within := goodIn_r _ [5] rfl (by decide +kernel)
set_option maxRecDepth 20000 in
theorem gX10_status_X10_within : GoodIn wsX10_status (va_wsS RX10 79 yX10_within wsX10_within) := goodIn_app (goodIn_of _ (by decide +kernel)) ggX10_status_X10_within
set_option maxRecDepth 20000 in
theorem ggX10_strong_J6_bitCount_0f7a4 : GoodIn wsX10_strong wsJ6_bitCount_0f7a4 := goodIn_r _ [39, 40, 41, 42] rfl (by decide +kernel)
set_option maxRecDepth 20000 in
theorem gX10_strong_J6_bitCount_0f7a4 : GoodIn wsX10_strong (va_wsS RX10 200 yJ6_bitCount_0f7a4 wsJ6_bitCount_0f7a4) := goodIn_app (goodIn_of _ (by decide +kernel)) ggX10_strong_J6_bitCount_0f7a4
set_option maxRecDepth 20000 in
theorem ggX10_strong_X10_hasBit : GoodIn wsX10_strong wsX10_hasBit := goodIn_r _ [45] rfl (by decide +kernel)
set_option maxRecDepth 20000 in
theorem gX10_strong_X10_hasBit : GoodIn wsX10_strong (va_wsS RX10 205 yX10_hasBit wsX10_hasBit) := goodIn_app (goodIn_of _ (by decide +kernel)) ggX10_strong_X10_hasBit
set_option maxRecDepth 20000 in
theorem ggX10_strong_X10_refuse : GoodIn wsX10_strong wsX10_refuse := goodIn_r _ [14, 15, 46, 47, 48, 49, 50, 51, 52, 53, 54, 55, 56, 57, 58, 59] rfl (by decide +kernel)
set_option maxRecDepth 20000 in
theorem gX10_strong_X10_refuse : GoodIn wsX10_strong (wsV RX10 83 RX10 yX10_refuse wsX10_refuse) := goodIn_app (goodIn_of _ (by decide +kernel)) ggX10_strong_X10_refuse
set_option maxRecDepth 20000 in
theorem ggX10_strong_X10_there : GoodIn wsX10_strong wsX10_there := goodIn_r _ [6, 1, 7, 46, 47, 48, 49, 50, 51, 52, 53, 54, 55, 56, 57, 58, 59, 60, 61, 62, 63, 64, 65, 66, 67] rfl (by decide +kernel)
set_option maxRecDepth 20000 in
theorem gX10_strong_X10_there : GoodIn wsX10_strong (wsV RX10 123 RX10 yX10_there wsX10_there) := goodIn_app (goodIn_of _ (by decide +kernel)) ggX10_strong_X10_there
set_option maxRecDepth 20000 in
theorem ggX10_strong_X10_within : GoodIn wsX10_strong wsX10_within := goodIn_r _ [10] rfl (by decide +kernel)
set_option maxRecDepth 20000 in
theorem gX10_strong_X10_within : GoodIn wsX10_strong (va_wsS RX10 79 yX10_within wsX10_within) := goodIn_app (goodIn_of _ (by decide +kernel)) ggX10_strong_X10_within
set_option maxRecDepth 20000 in
theorem ggX10_strong_X5_legsThatFit : GoodIn wsX10_strong wsX5_legsThatFit := goodIn_r _ [20, 21, 22, 23, 24, 25, 26, 27, 28, 29, 30, 31, 32, 33, 34, 35, 60, 61, 62, 63, 64, 65, 66, 67, 68, 69, 70, 71, 72, 73, 74, 75, 76, 77, 78, 79, 80] rfl (by decide +kernel)
set_option maxRecDepth 20000 in
theorem gX10_strong_X5_legsThatFit : GoodIn wsX10_strong (wsV RX10 197 RX5 yX5_legsThatFit wsX5_legsThatFit) := goodIn_app (goodIn_of _ (by decide +kernel)) ggX10_strong_X5_legsThatFit
set_option maxRecDepth 20000 in
theorem ggX10_ticks_X10_refuse : GoodIn wsX10_ticks wsX10_refuse := goodIn_r _ [10, 11, 72, 73, 74, 75, 76, 77, 78, 79, 80, 81, 82, 83, 84, 85] rfl (by decide +kernel)
set_option maxRecDepth 20000 in
theorem gX10_ticks_X10_refuse : GoodIn wsX10_ticks (wsV RX10 83 RX10 yX10_refuse wsX10_refuse) := goodIn_app (goodIn_of _ (by decide +kernel)) ggX10_ticks_X10_refuse
set_option maxRecDepth 20000 in
theorem ggX10_ticks_X10_within : GoodIn wsX10_ticks wsX10_within := goodIn_r _ [6] rfl (by decide +kernel)
set_option maxRecDepth 20000 in
theorem gX10_ticks_X10_within : GoodIn wsX10_ticks (va_wsS RX10 79 yX10_within wsX10_within) := goodIn_app (goodIn_of _ (by decide +kernel)) ggX10_ticks_X10_within
set_option maxRecDepth 20000 in
theorem ggX10_ticks_X5_goOn : GoodIn wsX10_ticks wsX5_goOn := goodIn_r _ [39, 18, 40, 19, 41, 42, 43, 44, 45, 46, 47, 48, 49, 50, 51, 52, 53, 54, 55, 56, 57, 58, 59, 60, 61, 62, 63, 64, 65, 66, 86, 87, 88, 89, 90, 91, 92, 93, 96, 97, 98, 99, 100, 101, 102, 103] rfl (by decide +kernel)
set_option maxRecDepth 20000 in
theorem gX10_ticks_X5_goOn : GoodIn wsX10_ticks (wsV RX10 116 RX5 yX5_goOn wsX5_goOn) := goodIn_app (goodIn_of _ (by decide +kernel)) ggX10_ticks_X5_goOn
set_option maxRecDepth 20000 in
theorem ggX10_ticks_X5_homes : GoodIn wsX10_ticks wsX5_homes := goodIn_r _ [70, 40, 19, 71, 56, 57, 45, 58, 54, 86, 87, 88, 89, 90, 91, 92, 93, 96, 97, 98, 99, 100, 101, 102, 103] rfl (by decide +kernel)
set_option maxRecDepth 20000 in
theorem gX10_ticks_X5_homes : GoodIn wsX10_ticks (wsV RX10 119 RX5 yX5_homes wsX5_homes) := goodIn_app (goodIn_of _ (by decide +kernel)) ggX10_ticks_X5_homes
set_option maxRecDepth 20000 in
theorem ggX10_ticks_X5_keep : GoodIn wsX10_ticks wsX5_keep := goodIn_r _ [16, 17, 18, 19, 20, 21, 22, 23, 24, 25, 26, 27, 28, 29, 30, 31, 32, 33, 34, 35, 86, 87, 88, 89, 90, 91, 92, 93, 94, 95, 96, 97, 98, 99, 100, 101, 102, 103] rfl (by decide +kernel)
set_option maxRecDepth 20000 in
theorem gX10_ticks_X5_keep : GoodIn wsX10_ticks (wsV RX10 113 RX5 yX5_keep wsX5_keep) := goodIn_app (goodIn_of _ (by decide +kernel)) ggX10_ticks_X5_keep
theorem dJ6_bitCount_0f7a4_0 : decode cJ6_bitCount_0f7a4 0 = .ok (.iload_n 0, 1) := by decide +kernel
theorem dJ6_bitCount_0f7a4_1 : decode cJ6_bitCount_0f7a4 1 = .ok (.iload_n 0, 1) := by decide +kernel
theorem dJ6_bitCount_0f7a4_10 : decode cJ6_bitCount_0f7a4 10 = .ok (.iload_n 0, 1) := by decide +kernel
theorem dJ6_bitCount_0f7a4_11 : decode cJ6_bitCount_0f7a4 11 = .ok (.ldc_w 266, 3) := by decide +kernel
theorem dJ6_bitCount_0f7a4_14 : decode cJ6_bitCount_0f7a4 14 = .ok (.iand, 1) := by decide +kernel
theorem dJ6_bitCount_0f7a4_15 : decode cJ6_bitCount_0f7a4 15 = .ok (.iload_n 0, 1) := by decide +kernel
theorem dJ6_bitCount_0f7a4_16 : decode cJ6_bitCount_0f7a4 16 = .ok (.iconst 2, 1) := by decide +kernel
theorem dJ6_bitCount_0f7a4_17 : decode cJ6_bitCount_0f7a4 17 = .ok (.iushr, 1) := by decide +kernel
theorem dJ6_bitCount_0f7a4_18 : decode cJ6_bitCount_0f7a4 18 = .ok (.ldc_w 266, 3) := by decide +kernel
theorem dJ6_bitCount_0f7a4_2 : decode cJ6_bitCount_0f7a4 2 = .ok (.iconst 1, 1) := by decide +kernel
theorem dJ6_bitCount_0f7a4_21 : decode cJ6_bitCount_0f7a4 21 = .ok (.iand, 1) := by decide +kernel
theorem dJ6_bitCount_0f7a4_22 : decode cJ6_bitCount_0f7a4 22 = .ok (.iadd, 1) := by decide +kernel
theorem dJ6_bitCount_0f7a4_23 : decode cJ6_bitCount_0f7a4 23 = .ok (.istore_n 0, 1) := by decide +kernel
theorem dJ6_bitCount_0f7a4_24 : decode cJ6_bitCount_0f7a4 24 = .ok (.iload_n 0, 1) := by decide +kernel
theorem dJ6_bitCount_0f7a4_25 : decode cJ6_bitCount_0f7a4 25 = .ok (.iload_n 0, 1) := by decide +kernel
theorem dJ6_bitCount_0f7a4_26 : decode cJ6_bitCount_0f7a4 26 = .ok (.iconst 4, 1) := by decide +kernel
theorem dJ6_bitCount_0f7a4_27 : decode cJ6_bitCount_0f7a4 27 = .ok (.iushr, 1) := by decide +kernel
theorem dJ6_bitCount_0f7a4_28 : decode cJ6_bitCount_0f7a4 28 = .ok (.iadd, 1) := by decide +kernel
theorem dJ6_bitCount_0f7a4_29 : decode cJ6_bitCount_0f7a4 29 = .ok (.ldc_w 267, 3) := by decide +kernel
theorem dJ6_bitCount_0f7a4_3 : decode cJ6_bitCount_0f7a4 3 = .ok (.iushr, 1) := by decide +kernel
theorem dJ6_bitCount_0f7a4_32 : decode cJ6_bitCount_0f7a4 32 = .ok (.iand, 1) := by decide +kernel
theorem dJ6_bitCount_0f7a4_33 : decode cJ6_bitCount_0f7a4 33 = .ok (.istore_n 0, 1) := by decide +kernel
theorem dJ6_bitCount_0f7a4_34 : decode cJ6_bitCount_0f7a4 34 = .ok (.iload_n 0, 1) := by decide +kernel
theorem dJ6_bitCount_0f7a4_35 : decode cJ6_bitCount_0f7a4 35 = .ok (.iload_n 0, 1) := by decide +kernel
theorem dJ6_bitCount_0f7a4_36 : decode cJ6_bitCount_0f7a4 36 = .ok (.bipush 8, 2) := by decide +kernel
theorem dJ6_bitCount_0f7a4_38 : decode cJ6_bitCount_0f7a4 38 = .ok (.iushr, 1) := by decide +kernel
theorem dJ6_bitCount_0f7a4_39 : decode cJ6_bitCount_0f7a4 39 = .ok (.iadd, 1) := by decide +kernel
theorem dJ6_bitCount_0f7a4_4 : decode cJ6_bitCount_0f7a4 4 = .ok (.ldc_w 265, 3) := by decide +kernel
theorem dJ6_bitCount_0f7a4_40 : decode cJ6_bitCount_0f7a4 40 = .ok (.istore_n 0, 1) := by decide +kernel
theorem dJ6_bitCount_0f7a4_41 : decode cJ6_bitCount_0f7a4 41 = .ok (.iload_n 0, 1) := by decide +kernel
theorem dJ6_bitCount_0f7a4_42 : decode cJ6_bitCount_0f7a4 42 = .ok (.iload_n 0, 1) := by decide +kernel
theorem dJ6_bitCount_0f7a4_43 : decode cJ6_bitCount_0f7a4 43 = .ok (.bipush 16, 2) := by decide +kernel
theorem dJ6_bitCount_0f7a4_45 : decode cJ6_bitCount_0f7a4 45 = .ok (.iushr, 1) := by decide +kernel
theorem dJ6_bitCount_0f7a4_46 : decode cJ6_bitCount_0f7a4 46 = .ok (.iadd, 1) := by decide +kernel
theorem dJ6_bitCount_0f7a4_47 : decode cJ6_bitCount_0f7a4 47 = .ok (.istore_n 0, 1) := by decide +kernel
theorem dJ6_bitCount_0f7a4_48 : decode cJ6_bitCount_0f7a4 48 = .ok (.iload_n 0, 1) := by decide +kernel
theorem dJ6_bitCount_0f7a4_49 : decode cJ6_bitCount_0f7a4 49 = .ok (.bipush 63, 2) := by decide +kernel
theorem dJ6_bitCount_0f7a4_51 : decode cJ6_bitCount_0f7a4 51 = .ok (.iand, 1) := by decide +kernel
theorem dJ6_bitCount_0f7a4_52 : decode cJ6_bitCount_0f7a4 52 = .ok (.ireturn, 1) := by decide +kernel
theorem dJ6_bitCount_0f7a4_7 : decode cJ6_bitCount_0f7a4 7 = .ok (.iand, 1) := by decide +kernel
theorem dJ6_bitCount_0f7a4_8 : decode cJ6_bitCount_0f7a4 8 = .ok (.isub, 1) := by decide +kernel
theorem dJ6_bitCount_0f7a4_9 : decode cJ6_bitCount_0f7a4 9 = .ok (.istore_n 0, 1) := by decide +kernel
theorem dX10_farBy_0 : decode cX10_farBy 0 = .ok (.iload_n 1, 1) := by decide +kernel
theorem dX10_farBy_1 : decode cX10_farBy 1 = .ok (.lookupswitch 61 #[(0, 27), (1, 44)], 27) := by decide +kernel
theorem dX10_farBy_28 : decode cX10_farBy 28 = .ok (.aload_n 0, 1) := by decide +kernel
theorem dX10_farBy_29 : decode cX10_farBy 29 = .ok (.getfield 320, 3) := by decide +kernel
theorem dX10_farBy_32 : decode cX10_farBy 32 = .ok (.iload_n 2, 1) := by decide +kernel
theorem dX10_farBy_33 : decode cX10_farBy 33 = .ok (.iload_n 3, 1) := by decide +kernel
theorem dX10_farBy_34 : decode cX10_farBy 34 = .ok (.bipush 10, 2) := by decide +kernel
theorem dX10_farBy_36 : decode cX10_farBy 36 = .ok (.idiv, 1) := by decide +kernel
theorem dX10_farBy_37 : decode cX10_farBy 37 = .ok (.iload_n 3, 1) := by decide +kernel
theorem dX10_farBy_38 : decode cX10_farBy 38 = .ok (.bipush 10, 2) := by decide +kernel
theorem dX10_farBy_40 : decode cX10_farBy 40 = .ok (.irem, 1) := by decide +kernel
theorem dX10_farBy_41 : decode cX10_farBy 41 = .ok (.invokestatic 323, 3) := by decide +kernel
theorem dX10_farBy_44 : decode cX10_farBy 44 = .ok (.ireturn, 1) := by decide +kernel
theorem dX10_farBy_45 : decode cX10_farBy 45 = .ok (.iload_n 2, 1) := by decide +kernel
theorem dX10_farBy_46 : decode cX10_farBy 46 = .ok (.aload_n 0, 1) := by decide +kernel
theorem dX10_farBy_47 : decode cX10_farBy 47 = .ok (.getfield 328, 3) := by decide +kernel
theorem dX10_farBy_50 : decode cX10_farBy 50 = .ok (.iload_n 3, 1) := by decide +kernel
theorem dX10_farBy_51 : decode cX10_farBy 51 = .ok (.bipush 10, 2) := by decide +kernel
theorem dX10_farBy_53 : decode cX10_farBy 53 = .ok (.idiv, 1) := by decide +kernel
theorem dX10_farBy_54 : decode cX10_farBy 54 = .ok (.iload_n 3, 1) := by decide +kernel
theorem dX10_farBy_55 : decode cX10_farBy 55 = .ok (.bipush 10, 2) := by decide +kernel
theorem dX10_farBy_57 : decode cX10_farBy 57 = .ok (.irem, 1) := by decide +kernel
theorem dX10_farBy_58 : decode cX10_farBy 58 = .ok (.invokestatic 323, 3) := by decide +kernel
theorem dX10_farBy_61 : decode cX10_farBy 61 = .ok (.ireturn, 1) := by decide +kernel
theorem dX10_farBy_62 : decode cX10_farBy 62 = .ok (.iload_n 2, 1) := by decide +kernel
theorem dX10_farBy_63 : decode cX10_farBy 63 = .ok (.iload_n 3, 1) := by decide +kernel
theorem dX10_farBy_64 : decode cX10_farBy 64 = .ok (.invokestatic 331, 3) := by decide +kernel
theorem dX10_farBy_67 : decode cX10_farBy 67 = .ok (.ireturn, 1) := by decide +kernel
theorem dX10_forget_0 : decode cX10_forget 0 = .ok (.iload_n 1, 1) := by decide +kernel
theorem dX10_forget_1 : decode cX10_forget 1 = .ok (.iconst 0, 1) := by decide +kernel
theorem dX10_forget_10 : decode cX10_forget 10 = .ok (.bipush (-2), 2) := by decide +kernel
theorem dX10_forget_12 : decode cX10_forget 12 = .ok (.invokevirtual 83, 3) := by decide +kernel
theorem dX10_forget_15 : decode cX10_forget 15 = .ok (.ireturn, 1) := by decide +kernel
theorem dX10_forget_16 : decode cX10_forget 16 = .ok (.iload_n 1, 1) := by decide +kernel
theorem dX10_forget_17 : decode cX10_forget 17 = .ok (.ifCond .ne 13, 3) := by decide +kernel
theorem dX10_forget_2 : decode cX10_forget 2 = .ok (.iconst 2, 1) := by decide +kernel
theorem dX10_forget_20 : decode cX10_forget 20 = .ok (.aload_n 0, 1) := by decide +kernel
theorem dX10_forget_21 : decode cX10_forget 21 = .ok (.getfield 10, 3) := by decide +kernel
theorem dX10_forget_24 : decode cX10_forget 24 = .ok (.getfield 185, 3) := by decide +kernel
theorem dX10_forget_27 : decode cX10_forget 27 = .ok (.goto 25, 3) := by decide +kernel
theorem dX10_forget_3 : decode cX10_forget 3 = .ok (.invokestatic 79, 3) := by decide +kernel
theorem dX10_forget_30 : decode cX10_forget 30 = .ok (.iload_n 1, 1) := by decide +kernel
theorem dX10_forget_31 : decode cX10_forget 31 = .ok (.iconst 1, 1) := by decide +kernel
theorem dX10_forget_32 : decode cX10_forget 32 = .ok (.if_icmp .ne 13, 3) := by decide +kernel
theorem dX10_forget_35 : decode cX10_forget 35 = .ok (.aload_n 0, 1) := by decide +kernel
theorem dX10_forget_36 : decode cX10_forget 36 = .ok (.getfield 10, 3) := by decide +kernel
theorem dX10_forget_39 : decode cX10_forget 39 = .ok (.getfield 212, 3) := by decide +kernel
theorem dX10_forget_42 : decode cX10_forget 42 = .ok (.goto 10, 3) := by decide +kernel
theorem dX10_forget_45 : decode cX10_forget 45 = .ok (.aload_n 0, 1) := by decide +kernel
theorem dX10_forget_46 : decode cX10_forget 46 = .ok (.getfield 10, 3) := by decide +kernel
theorem dX10_forget_49 : decode cX10_forget 49 = .ok (.getfield 215, 3) := by decide +kernel
theorem dX10_forget_52 : decode cX10_forget 52 = .ok (.astore_n 2, 1) := by decide +kernel
theorem dX10_forget_53 : decode cX10_forget 53 = .ok (.aload_n 2, 1) := by decide +kernel
theorem dX10_forget_54 : decode cX10_forget 54 = .ok (.getfield 194, 3) := by decide +kernel
theorem dX10_forget_57 : decode cX10_forget 57 = .ok (.istore_n 3, 1) := by decide +kernel
theorem dX10_forget_58 : decode cX10_forget 58 = .ok (.aload_n 2, 1) := by decide +kernel
theorem dX10_forget_59 : decode cX10_forget 59 = .ok (.iconst 0, 1) := by decide +kernel
theorem dX10_forget_6 : decode cX10_forget 6 = .ok (.ifCond .ne 10, 3) := by decide +kernel
theorem dX10_forget_60 : decode cX10_forget 60 = .ok (.putfield 194, 3) := by decide +kernel
theorem dX10_forget_63 : decode cX10_forget 63 = .ok (.iload_n 3, 1) := by decide +kernel
theorem dX10_forget_64 : decode cX10_forget 64 = .ok (.ireturn, 1) := by decide +kernel
theorem dX10_forget_9 : decode cX10_forget 9 = .ok (.aload_n 0, 1) := by decide +kernel
theorem dX10_hasBit_0 : decode cX10_hasBit 0 = .ok (.iload_n 0, 1) := by decide +kernel
theorem dX10_hasBit_1 : decode cX10_hasBit 1 = .ok (.iload_n 1, 1) := by decide +kernel
theorem dX10_hasBit_10 : decode cX10_hasBit 10 = .ok (.goto 4, 3) := by decide +kernel
theorem dX10_hasBit_13 : decode cX10_hasBit 13 = .ok (.iconst 0, 1) := by decide +kernel
theorem dX10_hasBit_14 : decode cX10_hasBit 14 = .ok (.ireturn, 1) := by decide +kernel
theorem dX10_hasBit_2 : decode cX10_hasBit 2 = .ok (.ishr, 1) := by decide +kernel
theorem dX10_hasBit_3 : decode cX10_hasBit 3 = .ok (.iconst 1, 1) := by decide +kernel
theorem dX10_hasBit_4 : decode cX10_hasBit 4 = .ok (.iand, 1) := by decide +kernel
theorem dX10_hasBit_5 : decode cX10_hasBit 5 = .ok (.iconst 1, 1) := by decide +kernel
theorem dX10_hasBit_6 : decode cX10_hasBit 6 = .ok (.if_icmp .ne 7, 3) := by decide +kernel
theorem dX10_hasBit_9 : decode cX10_hasBit 9 = .ok (.iconst 1, 1) := by decide +kernel
theorem dX10_is_0 : decode cX10_is 0 = .ok (.aload_n 0, 1) := by decide +kernel
theorem dX10_is_1 : decode cX10_is 1 = .ok (.iload_n 1, 1) := by decide +kernel
theorem dX10_is_12 : decode cX10_is 12 = .ok (.iload_n 1, 1) := by decide +kernel
theorem dX10_is_13 : decode cX10_is 13 = .ok (.invokevirtual 218, 3) := by decide +kernel
theorem dX10_is_16 : decode cX10_is 16 = .ok (.goto 9, 3) := by decide +kernel
theorem dX10_is_19 : decode cX10_is 19 = .ok (.aload_n 0, 1) := by decide +kernel
theorem dX10_is_2 : decode cX10_is 2 = .ok (.invokevirtual 123, 3) := by decide +kernel
theorem dX10_is_20 : decode cX10_is 20 = .ok (.bipush (-2), 2) := by decide +kernel
theorem dX10_is_22 : decode cX10_is 22 = .ok (.invokevirtual 83, 3) := by decide +kernel
theorem dX10_is_25 : decode cX10_is 25 = .ok (.ireturn, 1) := by decide +kernel
theorem dX10_is_5 : decode cX10_is 5 = .ok (.ifCond .eq 14, 3) := by decide +kernel
theorem dX10_is_8 : decode cX10_is 8 = .ok (.aload_n 0, 1) := by decide +kernel
theorem dX10_is_9 : decode cX10_is 9 = .ok (.getfield 10, 3) := by decide +kernel
theorem dX10_kinds_0 : decode cX10_kinds 0 = .ok (.aload_n 0, 1) := by decide +kernel
theorem dX10_kinds_1 : decode cX10_kinds 1 = .ok (.iload_n 1, 1) := by decide +kernel
theorem dX10_kinds_12 : decode cX10_kinds 12 = .ok (.iload_n 1, 1) := by decide +kernel
theorem dX10_kinds_13 : decode cX10_kinds 13 = .ok (.invokevirtual 221, 3) := by decide +kernel
theorem dX10_kinds_16 : decode cX10_kinds 16 = .ok (.goto 9, 3) := by decide +kernel
theorem dX10_kinds_19 : decode cX10_kinds 19 = .ok (.aload_n 0, 1) := by decide +kernel
theorem dX10_kinds_2 : decode cX10_kinds 2 = .ok (.invokevirtual 123, 3) := by decide +kernel
theorem dX10_kinds_20 : decode cX10_kinds 20 = .ok (.bipush (-2), 2) := by decide +kernel
theorem dX10_kinds_22 : decode cX10_kinds 22 = .ok (.invokevirtual 83, 3) := by decide +kernel
theorem dX10_kinds_25 : decode cX10_kinds 25 = .ok (.ireturn, 1) := by decide +kernel
theorem dX10_kinds_5 : decode cX10_kinds 5 = .ok (.ifCond .eq 14, 3) := by decide +kernel
theorem dX10_kinds_8 : decode cX10_kinds 8 = .ok (.aload_n 0, 1) := by decide +kernel
theorem dX10_kinds_9 : decode cX10_kinds 9 = .ok (.getfield 10, 3) := by decide +kernel
theorem dX10_mark_0 : decode cX10_mark 0 = .ok (.aload_n 0, 1) := by decide +kernel
theorem dX10_mark_1 : decode cX10_mark 1 = .ok (.iload_n 1, 1) := by decide +kernel
theorem dX10_mark_10 : decode cX10_mark 10 = .ok (.bipush 99, 2) := by decide +kernel
theorem dX10_mark_12 : decode cX10_mark 12 = .ok (.invokestatic 79, 3) := by decide +kernel
theorem dX10_mark_15 : decode cX10_mark 15 = .ok (.ifCond .eq 13, 3) := by decide +kernel
theorem dX10_mark_18 : decode cX10_mark 18 = .ok (.iload_n 3, 1) := by decide +kernel
theorem dX10_mark_19 : decode cX10_mark 19 = .ok (.iconst 0, 1) := by decide +kernel
theorem dX10_mark_2 : decode cX10_mark 2 = .ok (.invokevirtual 123, 3) := by decide +kernel
theorem dX10_mark_20 : decode cX10_mark 20 = .ok (.bipush 15, 2) := by decide +kernel
theorem dX10_mark_22 : decode cX10_mark 22 = .ok (.invokestatic 79, 3) := by decide +kernel
theorem dX10_mark_25 : decode cX10_mark 25 = .ok (.ifCond .ne 10, 3) := by decide +kernel
theorem dX10_mark_28 : decode cX10_mark 28 = .ok (.aload_n 0, 1) := by decide +kernel
theorem dX10_mark_29 : decode cX10_mark 29 = .ok (.bipush (-2), 2) := by decide +kernel
theorem dX10_mark_31 : decode cX10_mark 31 = .ok (.invokevirtual 83, 3) := by decide +kernel
theorem dX10_mark_34 : decode cX10_mark 34 = .ok (.ireturn, 1) := by decide +kernel
theorem dX10_mark_35 : decode cX10_mark 35 = .ok (.aload_n 0, 1) := by decide +kernel
theorem dX10_mark_36 : decode cX10_mark 36 = .ok (.getfield 10, 3) := by decide +kernel
theorem dX10_mark_39 : decode cX10_mark 39 = .ok (.getfield 215, 3) := by decide +kernel
theorem dX10_mark_42 : decode cX10_mark 42 = .ok (.iload_n 1, 1) := by decide +kernel
theorem dX10_mark_43 : decode cX10_mark 43 = .ok (.iconst 0, 1) := by decide +kernel
theorem dX10_mark_44 : decode cX10_mark 44 = .ok (.iload_n 2, 1) := by decide +kernel
theorem dX10_mark_45 : decode cX10_mark 45 = .ok (.iconst 0, 1) := by decide +kernel
theorem dX10_mark_46 : decode cX10_mark 46 = .ok (.iload_n 3, 1) := by decide +kernel
theorem dX10_mark_47 : decode cX10_mark 47 = .ok (.invokevirtual 189, 3) := by decide +kernel
theorem dX10_mark_5 : decode cX10_mark 5 = .ok (.ifCond .eq 23, 3) := by decide +kernel
theorem dX10_mark_50 : decode cX10_mark 50 = .ok (.ifCond .eq 16, 3) := by decide +kernel
theorem dX10_mark_53 : decode cX10_mark 53 = .ok (.aload_n 0, 1) := by decide +kernel
theorem dX10_mark_54 : decode cX10_mark 54 = .ok (.getfield 10, 3) := by decide +kernel
theorem dX10_mark_57 : decode cX10_mark 57 = .ok (.getfield 215, 3) := by decide +kernel
theorem dX10_mark_60 : decode cX10_mark 60 = .ok (.getfield 194, 3) := by decide +kernel
theorem dX10_mark_63 : decode cX10_mark 63 = .ok (.goto 9, 3) := by decide +kernel
theorem dX10_mark_66 : decode cX10_mark 66 = .ok (.aload_n 0, 1) := by decide +kernel
theorem dX10_mark_67 : decode cX10_mark 67 = .ok (.bipush (-4), 2) := by decide +kernel
theorem dX10_mark_69 : decode cX10_mark 69 = .ok (.invokevirtual 83, 3) := by decide +kernel
theorem dX10_mark_72 : decode cX10_mark 72 = .ok (.ireturn, 1) := by decide +kernel
theorem dX10_mark_8 : decode cX10_mark 8 = .ok (.iload_n 2, 1) := by decide +kernel
theorem dX10_mark_9 : decode cX10_mark 9 = .ok (.iconst 0, 1) := by decide +kernel
theorem dX10_note_0 : decode cX10_note 0 = .ok (.aload_n 0, 1) := by decide +kernel
theorem dX10_note_1 : decode cX10_note 1 = .ok (.iload_n 1, 1) := by decide +kernel
theorem dX10_note_10 : decode cX10_note 10 = .ok (.bipush 9, 2) := by decide +kernel
theorem dX10_note_12 : decode cX10_note 12 = .ok (.invokestatic 79, 3) := by decide +kernel
theorem dX10_note_15 : decode cX10_note 15 = .ok (.ifCond .eq 35, 3) := by decide +kernel
theorem dX10_note_18 : decode cX10_note 18 = .ok (.iload_n 3, 1) := by decide +kernel
theorem dX10_note_19 : decode cX10_note 19 = .ok (.iconst 0, 1) := by decide +kernel
theorem dX10_note_2 : decode cX10_note 2 = .ok (.invokevirtual 123, 3) := by decide +kernel
theorem dX10_note_20 : decode cX10_note 20 = .ok (.bipush 99, 2) := by decide +kernel
theorem dX10_note_22 : decode cX10_note 22 = .ok (.invokestatic 79, 3) := by decide +kernel
theorem dX10_note_25 : decode cX10_note 25 = .ok (.ifCond .eq 25, 3) := by decide +kernel
theorem dX10_note_28 : decode cX10_note 28 = .ok (.iload 4, 2) := by decide +kernel
theorem dX10_note_30 : decode cX10_note 30 = .ok (.iconst 0, 1) := by decide +kernel
theorem dX10_note_31 : decode cX10_note 31 = .ok (.bipush 9, 2) := by decide +kernel
theorem dX10_note_33 : decode cX10_note 33 = .ok (.invokestatic 79, 3) := by decide +kernel
theorem dX10_note_36 : decode cX10_note 36 = .ok (.ifCond .eq 14, 3) := by decide +kernel
theorem dX10_note_39 : decode cX10_note 39 = .ok (.iload 5, 2) := by decide +kernel
theorem dX10_note_41 : decode cX10_note 41 = .ok (.iconst 0, 1) := by decide +kernel
theorem dX10_note_42 : decode cX10_note 42 = .ok (.bipush 15, 2) := by decide +kernel
theorem dX10_note_44 : decode cX10_note 44 = .ok (.invokestatic 79, 3) := by decide +kernel
theorem dX10_note_47 : decode cX10_note 47 = .ok (.ifCond .ne 10, 3) := by decide +kernel
theorem dX10_note_5 : decode cX10_note 5 = .ok (.ifCond .eq 45, 3) := by decide +kernel
theorem dX10_note_50 : decode cX10_note 50 = .ok (.aload_n 0, 1) := by decide +kernel
theorem dX10_note_51 : decode cX10_note 51 = .ok (.bipush (-2), 2) := by decide +kernel
theorem dX10_note_53 : decode cX10_note 53 = .ok (.invokevirtual 83, 3) := by decide +kernel
theorem dX10_note_56 : decode cX10_note 56 = .ok (.ireturn, 1) := by decide +kernel
theorem dX10_note_57 : decode cX10_note 57 = .ok (.aload_n 0, 1) := by decide +kernel
theorem dX10_note_58 : decode cX10_note 58 = .ok (.getfield 10, 3) := by decide +kernel
theorem dX10_note_61 : decode cX10_note 61 = .ok (.getfield 212, 3) := by decide +kernel
theorem dX10_note_64 : decode cX10_note 64 = .ok (.iload_n 1, 1) := by decide +kernel
theorem dX10_note_65 : decode cX10_note 65 = .ok (.iload_n 2, 1) := by decide +kernel
theorem dX10_note_66 : decode cX10_note 66 = .ok (.iload_n 3, 1) := by decide +kernel
theorem dX10_note_67 : decode cX10_note 67 = .ok (.iload 4, 2) := by decide +kernel
theorem dX10_note_69 : decode cX10_note 69 = .ok (.iload 5, 2) := by decide +kernel
theorem dX10_note_71 : decode cX10_note 71 = .ok (.invokevirtual 189, 3) := by decide +kernel
theorem dX10_note_74 : decode cX10_note 74 = .ok (.ifCond .eq 16, 3) := by decide +kernel
theorem dX10_note_77 : decode cX10_note 77 = .ok (.aload_n 0, 1) := by decide +kernel
theorem dX10_note_78 : decode cX10_note 78 = .ok (.getfield 10, 3) := by decide +kernel
theorem dX10_note_8 : decode cX10_note 8 = .ok (.iload_n 2, 1) := by decide +kernel
theorem dX10_note_81 : decode cX10_note 81 = .ok (.getfield 212, 3) := by decide +kernel
theorem dX10_note_84 : decode cX10_note 84 = .ok (.getfield 194, 3) := by decide +kernel
theorem dX10_note_87 : decode cX10_note 87 = .ok (.goto 9, 3) := by decide +kernel
theorem dX10_note_9 : decode cX10_note 9 = .ok (.iconst 1, 1) := by decide +kernel
theorem dX10_note_90 : decode cX10_note 90 = .ok (.aload_n 0, 1) := by decide +kernel
theorem dX10_note_91 : decode cX10_note 91 = .ok (.bipush (-4), 2) := by decide +kernel
theorem dX10_note_93 : decode cX10_note 93 = .ok (.invokevirtual 83, 3) := by decide +kernel
theorem dX10_note_96 : decode cX10_note 96 = .ok (.ireturn, 1) := by decide +kernel
theorem dX10_part_0 : decode cX10_part 0 = .ok (.iload_n 1, 1) := by decide +kernel
theorem dX10_part_1 : decode cX10_part 1 = .ok (.iconst 0, 1) := by decide +kernel
theorem dX10_part_10 : decode cX10_part 10 = .ok (.bipush (-2), 2) := by decide +kernel
theorem dX10_part_12 : decode cX10_part 12 = .ok (.invokevirtual 83, 3) := by decide +kernel
theorem dX10_part_15 : decode cX10_part 15 = .ok (.i2l, 1) := by decide +kernel
theorem dX10_part_16 : decode cX10_part 16 = .ok (.lreturn, 1) := by decide +kernel
theorem dX10_part_17 : decode cX10_part 17 = .ok (.iload_n 1, 1) := by decide +kernel
theorem dX10_part_18 : decode cX10_part 18 = .ok (.ifCond .ne 10, 3) := by decide +kernel
theorem dX10_part_2 : decode cX10_part 2 = .ok (.iconst 1, 1) := by decide +kernel
theorem dX10_part_21 : decode cX10_part 21 = .ok (.aload_n 0, 1) := by decide +kernel
theorem dX10_part_22 : decode cX10_part 22 = .ok (.getfield 38, 3) := by decide +kernel
theorem dX10_part_25 : decode cX10_part 25 = .ok (.goto 7, 3) := by decide +kernel
theorem dX10_part_28 : decode cX10_part 28 = .ok (.aload_n 0, 1) := by decide +kernel
theorem dX10_part_29 : decode cX10_part 29 = .ok (.getfield 42, 3) := by decide +kernel
theorem dX10_part_3 : decode cX10_part 3 = .ok (.invokestatic 79, 3) := by decide +kernel
theorem dX10_part_32 : decode cX10_part 32 = .ok (.lreturn, 1) := by decide +kernel
theorem dX10_part_6 : decode cX10_part 6 = .ok (.ifCond .ne 11, 3) := by decide +kernel
theorem dX10_part_9 : decode cX10_part 9 = .ok (.aload_n 0, 1) := by decide +kernel
theorem dX10_seen_0 : decode cX10_seen 0 = .ok (.aload_n 0, 1) := by decide +kernel
theorem dX10_seen_1 : decode cX10_seen 1 = .ok (.iload_n 1, 1) := by decide +kernel
theorem dX10_seen_10 : decode cX10_seen 10 = .ok (.bipush 99, 2) := by decide +kernel
theorem dX10_seen_12 : decode cX10_seen 12 = .ok (.invokestatic 79, 3) := by decide +kernel
theorem dX10_seen_15 : decode cX10_seen 15 = .ok (.ifCond .eq 24, 3) := by decide +kernel
theorem dX10_seen_18 : decode cX10_seen 18 = .ok (.iload_n 3, 1) := by decide +kernel
theorem dX10_seen_19 : decode cX10_seen 19 = .ok (.iconst 0, 1) := by decide +kernel
theorem dX10_seen_2 : decode cX10_seen 2 = .ok (.invokevirtual 123, 3) := by decide +kernel
theorem dX10_seen_20 : decode cX10_seen 20 = .ok (.bipush 9, 2) := by decide +kernel
theorem dX10_seen_22 : decode cX10_seen 22 = .ok (.invokestatic 79, 3) := by decide +kernel
theorem dX10_seen_25 : decode cX10_seen 25 = .ok (.ifCond .eq 14, 3) := by decide +kernel
theorem dX10_seen_28 : decode cX10_seen 28 = .ok (.iload 4, 2) := by decide +kernel
theorem dX10_seen_30 : decode cX10_seen 30 = .ok (.iconst 0, 1) := by decide +kernel
theorem dX10_seen_31 : decode cX10_seen 31 = .ok (.bipush 15, 2) := by decide +kernel
theorem dX10_seen_33 : decode cX10_seen 33 = .ok (.invokestatic 79, 3) := by decide +kernel
theorem dX10_seen_36 : decode cX10_seen 36 = .ok (.ifCond .ne 10, 3) := by decide +kernel
theorem dX10_seen_39 : decode cX10_seen 39 = .ok (.aload_n 0, 1) := by decide +kernel
theorem dX10_seen_40 : decode cX10_seen 40 = .ok (.bipush (-2), 2) := by decide +kernel
theorem dX10_seen_42 : decode cX10_seen 42 = .ok (.invokevirtual 83, 3) := by decide +kernel
theorem dX10_seen_45 : decode cX10_seen 45 = .ok (.ireturn, 1) := by decide +kernel
theorem dX10_seen_46 : decode cX10_seen 46 = .ok (.aload_n 0, 1) := by decide +kernel
theorem dX10_seen_47 : decode cX10_seen 47 = .ok (.getfield 10, 3) := by decide +kernel
theorem dX10_seen_5 : decode cX10_seen 5 = .ok (.ifCond .eq 34, 3) := by decide +kernel
theorem dX10_seen_50 : decode cX10_seen 50 = .ok (.getfield 185, 3) := by decide +kernel
theorem dX10_seen_53 : decode cX10_seen 53 = .ok (.iload_n 1, 1) := by decide +kernel
theorem dX10_seen_54 : decode cX10_seen 54 = .ok (.iconst 0, 1) := by decide +kernel
theorem dX10_seen_55 : decode cX10_seen 55 = .ok (.iload_n 2, 1) := by decide +kernel
theorem dX10_seen_56 : decode cX10_seen 56 = .ok (.iload_n 3, 1) := by decide +kernel
theorem dX10_seen_57 : decode cX10_seen 57 = .ok (.iload 4, 2) := by decide +kernel
theorem dX10_seen_59 : decode cX10_seen 59 = .ok (.invokevirtual 189, 3) := by decide +kernel
theorem dX10_seen_62 : decode cX10_seen 62 = .ok (.ifCond .eq 16, 3) := by decide +kernel
theorem dX10_seen_65 : decode cX10_seen 65 = .ok (.aload_n 0, 1) := by decide +kernel
theorem dX10_seen_66 : decode cX10_seen 66 = .ok (.getfield 10, 3) := by decide +kernel
theorem dX10_seen_69 : decode cX10_seen 69 = .ok (.getfield 185, 3) := by decide +kernel
theorem dX10_seen_72 : decode cX10_seen 72 = .ok (.getfield 194, 3) := by decide +kernel
theorem dX10_seen_75 : decode cX10_seen 75 = .ok (.goto 9, 3) := by decide +kernel
theorem dX10_seen_78 : decode cX10_seen 78 = .ok (.aload_n 0, 1) := by decide +kernel
theorem dX10_seen_79 : decode cX10_seen 79 = .ok (.bipush (-4), 2) := by decide +kernel
theorem dX10_seen_8 : decode cX10_seen 8 = .ok (.iload_n 2, 1) := by decide +kernel
theorem dX10_seen_81 : decode cX10_seen 81 = .ok (.invokevirtual 83, 3) := by decide +kernel
theorem dX10_seen_84 : decode cX10_seen 84 = .ok (.ireturn, 1) := by decide +kernel
theorem dX10_seen_9 : decode cX10_seen 9 = .ok (.iconst 0, 1) := by decide +kernel
theorem dX10_status_0 : decode cX10_status 0 = .ok (.iload_n 1, 1) := by decide +kernel
theorem dX10_status_1 : decode cX10_status 1 = .ok (.iconst 0, 1) := by decide +kernel
theorem dX10_status_10 : decode cX10_status 10 = .ok (.bipush (-2), 2) := by decide +kernel
theorem dX10_status_12 : decode cX10_status 12 = .ok (.invokevirtual 83, 3) := by decide +kernel
theorem dX10_status_15 : decode cX10_status 15 = .ok (.pop, 1) := by decide +kernel
theorem dX10_status_16 : decode cX10_status 16 = .ok (.iconst (-1), 1) := by decide +kernel
theorem dX10_status_17 : decode cX10_status 17 = .ok (.ireturn, 1) := by decide +kernel
theorem dX10_status_18 : decode cX10_status 18 = .ok (.aload_n 0, 1) := by decide +kernel
theorem dX10_status_19 : decode cX10_status 19 = .ok (.getfield 34, 3) := by decide +kernel
theorem dX10_status_2 : decode cX10_status 2 = .ok (.iconst 2, 1) := by decide +kernel
theorem dX10_status_22 : decode cX10_status 22 = .ok (.iload_n 1, 1) := by decide +kernel
theorem dX10_status_23 : decode cX10_status 23 = .ok (.iaload, 1) := by decide +kernel
theorem dX10_status_24 : decode cX10_status 24 = .ok (.ireturn, 1) := by decide +kernel
theorem dX10_status_3 : decode cX10_status 3 = .ok (.invokestatic 79, 3) := by decide +kernel
theorem dX10_status_6 : decode cX10_status 6 = .ok (.ifCond .ne 12, 3) := by decide +kernel
theorem dX10_status_9 : decode cX10_status 9 = .ok (.aload_n 0, 1) := by decide +kernel
theorem dX10_strong_0 : decode cX10_strong 0 = .ok (.aload_n 0, 1) := by decide +kernel
theorem dX10_strong_1 : decode cX10_strong 1 = .ok (.iload_n 1, 1) := by decide +kernel
theorem dX10_strong_10 : decode cX10_strong 10 = .ok (.iconst 2, 1) := by decide +kernel
theorem dX10_strong_11 : decode cX10_strong 11 = .ok (.invokestatic 79, 3) := by decide +kernel
theorem dX10_strong_14 : decode cX10_strong 14 = .ok (.ifCond .ne 10, 3) := by decide +kernel
theorem dX10_strong_17 : decode cX10_strong 17 = .ok (.aload_n 0, 1) := by decide +kernel
theorem dX10_strong_18 : decode cX10_strong 18 = .ok (.bipush (-2), 2) := by decide +kernel
theorem dX10_strong_2 : decode cX10_strong 2 = .ok (.invokevirtual 123, 3) := by decide +kernel
theorem dX10_strong_20 : decode cX10_strong 20 = .ok (.invokevirtual 83, 3) := by decide +kernel
theorem dX10_strong_23 : decode cX10_strong 23 = .ok (.ireturn, 1) := by decide +kernel
theorem dX10_strong_24 : decode cX10_strong 24 = .ok (.aload_n 0, 1) := by decide +kernel
theorem dX10_strong_25 : decode cX10_strong 25 = .ok (.getfield 10, 3) := by decide +kernel
theorem dX10_strong_28 : decode cX10_strong 28 = .ok (.iload_n 1, 1) := by decide +kernel
theorem dX10_strong_29 : decode cX10_strong 29 = .ok (.invokevirtual 197, 3) := by decide +kernel
theorem dX10_strong_32 : decode cX10_strong 32 = .ok (.istore_n 3, 1) := by decide +kernel
theorem dX10_strong_33 : decode cX10_strong 33 = .ok (.iload_n 2, 1) := by decide +kernel
theorem dX10_strong_34 : decode cX10_strong 34 = .ok (.ifCond .ne 8, 3) := by decide +kernel
theorem dX10_strong_37 : decode cX10_strong 37 = .ok (.iload_n 3, 1) := by decide +kernel
theorem dX10_strong_38 : decode cX10_strong 38 = .ok (.invokestatic 200, 3) := by decide +kernel
theorem dX10_strong_41 : decode cX10_strong 41 = .ok (.ireturn, 1) := by decide +kernel
theorem dX10_strong_42 : decode cX10_strong 42 = .ok (.iconst (-1), 1) := by decide +kernel
theorem dX10_strong_43 : decode cX10_strong 43 = .ok (.istore 4, 2) := by decide +kernel
theorem dX10_strong_45 : decode cX10_strong 45 = .ok (.iconst 1, 1) := by decide +kernel
theorem dX10_strong_46 : decode cX10_strong 46 = .ok (.istore 5, 2) := by decide +kernel
theorem dX10_strong_48 : decode cX10_strong 48 = .ok (.iload 5, 2) := by decide +kernel
theorem dX10_strong_5 : decode cX10_strong 5 = .ok (.ifCond .eq 12, 3) := by decide +kernel
theorem dX10_strong_50 : decode cX10_strong 50 = .ok (.bipush 9, 2) := by decide +kernel
theorem dX10_strong_52 : decode cX10_strong 52 = .ok (.if_icmp .gt 33, 3) := by decide +kernel
theorem dX10_strong_55 : decode cX10_strong 55 = .ok (.iload_n 3, 1) := by decide +kernel
theorem dX10_strong_56 : decode cX10_strong 56 = .ok (.iload 5, 2) := by decide +kernel
theorem dX10_strong_58 : decode cX10_strong 58 = .ok (.invokestatic 205, 3) := by decide +kernel
theorem dX10_strong_61 : decode cX10_strong 61 = .ok (.ifCond .eq 18, 3) := by decide +kernel
theorem dX10_strong_64 : decode cX10_strong 64 = .ok (.iload_n 2, 1) := by decide +kernel
theorem dX10_strong_65 : decode cX10_strong 65 = .ok (.iconst 2, 1) := by decide +kernel
theorem dX10_strong_66 : decode cX10_strong 66 = .ok (.if_icmp .eq 9, 3) := by decide +kernel
theorem dX10_strong_69 : decode cX10_strong 69 = .ok (.iload 4, 2) := by decide +kernel
theorem dX10_strong_71 : decode cX10_strong 71 = .ok (.iconst (-1), 1) := by decide +kernel
theorem dX10_strong_72 : decode cX10_strong 72 = .ok (.if_icmp .ne 7, 3) := by decide +kernel
theorem dX10_strong_75 : decode cX10_strong 75 = .ok (.iload 5, 2) := by decide +kernel
theorem dX10_strong_77 : decode cX10_strong 77 = .ok (.istore 4, 2) := by decide +kernel
theorem dX10_strong_79 : decode cX10_strong 79 = .ok (.iinc 5 1, 3) := by decide +kernel
theorem dX10_strong_8 : decode cX10_strong 8 = .ok (.iload_n 2, 1) := by decide +kernel
theorem dX10_strong_82 : decode cX10_strong 82 = .ok (.goto (-34), 3) := by decide +kernel
theorem dX10_strong_85 : decode cX10_strong 85 = .ok (.iload 4, 2) := by decide +kernel
theorem dX10_strong_87 : decode cX10_strong 87 = .ok (.ireturn, 1) := by decide +kernel
theorem dX10_strong_9 : decode cX10_strong 9 = .ok (.iconst 0, 1) := by decide +kernel
theorem dX10_ticks_0 : decode cX10_ticks 0 = .ok (.iload_n 1, 1) := by decide +kernel
theorem dX10_ticks_1 : decode cX10_ticks 1 = .ok (.iconst 1, 1) := by decide +kernel
theorem dX10_ticks_10 : decode cX10_ticks 10 = .ok (.aload_n 0, 1) := by decide +kernel
theorem dX10_ticks_11 : decode cX10_ticks 11 = .ok (.bipush (-2), 2) := by decide +kernel
theorem dX10_ticks_13 : decode cX10_ticks 13 = .ok (.invokevirtual 83, 3) := by decide +kernel
theorem dX10_ticks_16 : decode cX10_ticks 16 = .ok (.ireturn, 1) := by decide +kernel
theorem dX10_ticks_17 : decode cX10_ticks 17 = .ok (.aload_n 0, 1) := by decide +kernel
theorem dX10_ticks_18 : decode cX10_ticks 18 = .ok (.getfield 10, 3) := by decide +kernel
theorem dX10_ticks_2 : decode cX10_ticks 2 = .ok (.bipush 60, 2) := by decide +kernel
theorem dX10_ticks_21 : decode cX10_ticks 21 = .ok (.getfield 110, 3) := by decide +kernel
theorem dX10_ticks_24 : decode cX10_ticks 24 = .ok (.sipush 9999, 3) := by decide +kernel
theorem dX10_ticks_27 : decode cX10_ticks 27 = .ok (.if_icmp .ge 10, 3) := by decide +kernel
theorem dX10_ticks_30 : decode cX10_ticks 30 = .ok (.aload_n 0, 1) := by decide +kernel
theorem dX10_ticks_31 : decode cX10_ticks 31 = .ok (.getfield 10, 3) := by decide +kernel
theorem dX10_ticks_34 : decode cX10_ticks 34 = .ok (.invokevirtual 113, 3) := by decide +kernel
theorem dX10_ticks_37 : decode cX10_ticks 37 = .ok (.iconst 0, 1) := by decide +kernel
theorem dX10_ticks_38 : decode cX10_ticks 38 = .ok (.istore_n 2, 1) := by decide +kernel
theorem dX10_ticks_39 : decode cX10_ticks 39 = .ok (.iload_n 2, 1) := by decide +kernel
theorem dX10_ticks_4 : decode cX10_ticks 4 = .ok (.invokestatic 79, 3) := by decide +kernel
theorem dX10_ticks_40 : decode cX10_ticks 40 = .ok (.iload_n 1, 1) := by decide +kernel
theorem dX10_ticks_41 : decode cX10_ticks 41 = .ok (.if_icmp .ge 29, 3) := by decide +kernel
theorem dX10_ticks_44 : decode cX10_ticks 44 = .ok (.aload_n 0, 1) := by decide +kernel
theorem dX10_ticks_45 : decode cX10_ticks 45 = .ok (.getfield 10, 3) := by decide +kernel
theorem dX10_ticks_48 : decode cX10_ticks 48 = .ok (.getfield 110, 3) := by decide +kernel
theorem dX10_ticks_51 : decode cX10_ticks 51 = .ok (.sipush 9999, 3) := by decide +kernel
theorem dX10_ticks_54 : decode cX10_ticks 54 = .ok (.if_icmp .ge 16, 3) := by decide +kernel
theorem dX10_ticks_57 : decode cX10_ticks 57 = .ok (.aload_n 0, 1) := by decide +kernel
theorem dX10_ticks_58 : decode cX10_ticks 58 = .ok (.getfield 10, 3) := by decide +kernel
theorem dX10_ticks_61 : decode cX10_ticks 61 = .ok (.invokevirtual 116, 3) := by decide +kernel
theorem dX10_ticks_64 : decode cX10_ticks 64 = .ok (.iinc 2 1, 3) := by decide +kernel
theorem dX10_ticks_67 : decode cX10_ticks 67 = .ok (.goto (-28), 3) := by decide +kernel
theorem dX10_ticks_7 : decode cX10_ticks 7 = .ok (.ifCond .ne 10, 3) := by decide +kernel
theorem dX10_ticks_70 : decode cX10_ticks 70 = .ok (.aload_n 0, 1) := by decide +kernel
theorem dX10_ticks_71 : decode cX10_ticks 71 = .ok (.getfield 10, 3) := by decide +kernel
theorem dX10_ticks_74 : decode cX10_ticks 74 = .ok (.invokevirtual 119, 3) := by decide +kernel
theorem dX10_ticks_77 : decode cX10_ticks 77 = .ok (.ireturn, 1) := by decide +kernel
theorem dX9_restart_0 : decode cX9_restart 0 = .ok (.iconst 0, 1) := by decide +kernel
theorem dX9_restart_1 : decode cX9_restart 1 = .ok (.istore_n 1, 1) := by decide +kernel
theorem dX9_restart_11 : decode cX9_restart 11 = .ok (.aload_n 0, 1) := by decide +kernel
theorem dX9_restart_12 : decode cX9_restart 12 = .ok (.getfield 9, 3) := by decide +kernel
theorem dX9_restart_15 : decode cX9_restart 15 = .ok (.iload_n 1, 1) := by decide +kernel
theorem dX9_restart_16 : decode cX9_restart 16 = .ok (.iconst 0, 1) := by decide +kernel
theorem dX9_restart_17 : decode cX9_restart 17 = .ok (.iastore, 1) := by decide +kernel
theorem dX9_restart_18 : decode cX9_restart 18 = .ok (.iinc 1 1, 3) := by decide +kernel
theorem dX9_restart_2 : decode cX9_restart 2 = .ok (.iload_n 1, 1) := by decide +kernel
theorem dX9_restart_21 : decode cX9_restart 21 = .ok (.goto (-19), 3) := by decide +kernel
theorem dX9_restart_24 : decode cX9_restart 24 = .ok (.aload_n 0, 1) := by decide +kernel
theorem dX9_restart_25 : decode cX9_restart 25 = .ok (.iconst 0, 1) := by decide +kernel
theorem dX9_restart_26 : decode cX9_restart 26 = .ok (.putfield 15, 3) := by decide +kernel
theorem dX9_restart_29 : decode cX9_restart 29 = .ok (.return_, 1) := by decide +kernel
theorem dX9_restart_3 : decode cX9_restart 3 = .ok (.aload_n 0, 1) := by decide +kernel
theorem dX9_restart_4 : decode cX9_restart 4 = .ok (.getfield 9, 3) := by decide +kernel
theorem dX9_restart_7 : decode cX9_restart 7 = .ok (.arraylength, 1) := by decide +kernel
theorem dX9_restart_8 : decode cX9_restart 8 = .ok (.if_icmp .ge 16, 3) := by decide +kernel
theorem dX9_see_0 : decode cX9_see 0 = .ok (.iload_n 1, 1) := by decide +kernel
theorem dX9_see_1 : decode cX9_see 1 = .ok (.ifCond .lt 39, 3) := by decide +kernel
theorem dX9_see_10 : decode cX9_see 10 = .ok (.if_icmp .ge 30, 3) := by decide +kernel
theorem dX9_see_13 : decode cX9_see 13 = .ok (.aload_n 0, 1) := by decide +kernel
theorem dX9_see_14 : decode cX9_see 14 = .ok (.getfield 9, 3) := by decide +kernel
theorem dX9_see_17 : decode cX9_see 17 = .ok (.iload_n 1, 1) := by decide +kernel
theorem dX9_see_18 : decode cX9_see 18 = .ok (.dup2, 1) := by decide +kernel
theorem dX9_see_19 : decode cX9_see 19 = .ok (.iaload, 1) := by decide +kernel
theorem dX9_see_20 : decode cX9_see 20 = .ok (.iconst 1, 1) := by decide +kernel
theorem dX9_see_21 : decode cX9_see 21 = .ok (.iadd, 1) := by decide +kernel
theorem dX9_see_22 : decode cX9_see 22 = .ok (.iastore, 1) := by decide +kernel
theorem dX9_see_23 : decode cX9_see 23 = .ok (.aload_n 0, 1) := by decide +kernel
theorem dX9_see_24 : decode cX9_see 24 = .ok (.aload_n 0, 1) := by decide +kernel
theorem dX9_see_25 : decode cX9_see 25 = .ok (.getfield 15, 3) := by decide +kernel
theorem dX9_see_28 : decode cX9_see 28 = .ok (.aload_n 0, 1) := by decide +kernel
theorem dX9_see_29 : decode cX9_see 29 = .ok (.getfield 9, 3) := by decide +kernel
theorem dX9_see_32 : decode cX9_see 32 = .ok (.iload_n 1, 1) := by decide +kernel
theorem dX9_see_33 : decode cX9_see 33 = .ok (.iaload, 1) := by decide +kernel
theorem dX9_see_34 : decode cX9_see 34 = .ok (.invokestatic 19, 3) := by decide +kernel
theorem dX9_see_37 : decode cX9_see 37 = .ok (.putfield 15, 3) := by decide +kernel
theorem dX9_see_4 : decode cX9_see 4 = .ok (.iload_n 1, 1) := by decide +kernel
theorem dX9_see_40 : decode cX9_see 40 = .ok (.return_, 1) := by decide +kernel
theorem dX9_see_5 : decode cX9_see 5 = .ok (.aload_n 0, 1) := by decide +kernel
theorem dX9_see_6 : decode cX9_see 6 = .ok (.getfield 9, 3) := by decide +kernel
theorem dX9_see_9 : decode cX9_see 9 = .ok (.arraylength, 1) := by decide +kernel
theorem in_X9_restart_X9 : ∀ w ∈ wsX90, w ∈ wsX9_restart := by decide +kernel
theorem lk_X9_restart_9 : Cond.fieldLink RX9 9 "EggSpoons$Tally" "counts" "[I" ∈ wsX9_restart := by decide +kernel
theorem lk_X9_restart_15 : Cond.fieldLink RX9 15 "EggSpoons$Tally" "most" "I" ∈ wsX9_restart := by decide +kernel
set_option maxHeartbeats 4000000 in
set_option maxRecDepth 100000 in
/-- Tally.restart -/
theorem s_trestart (l : Launch) (X : EX) (ht : Nat) (hc : Nat) (tm : Int32) (tf : Nat → Int32) (sz : Nat) : Met l yX9_restart wsX9_restart ({ frames := 0, cells := 0, slots := 0, locals := 0 } : Room) (pE X [.ref ht] ([(ht, .inr (7, [.ref hc, .int tm])), (hc, .inl (X.2.1, 16, .inl tf))]) sz) (qV (fun (u : (Int32) × (Nat → Int32)) => (True)) X (fun (u : (Int32) × (Nat → Int32)) => [(ht, .inr (7, [.ref hc, .int u.1])), (hc, .inl (X.2.1, 16, .inl u.2))]) ([(ht, .inr (7, [.ref hc, .int tm])), (hc, .inl (X.2.1, 16, .inl tf))]) sz) 0 0 (va_A ([(ht, .inr (7, [.ref hc, .int tm])), (hc, .inl (X.2.1, 16, .inl tf))]) sz) := by
  refine mk_met (B := (va_A ([(ht, .inr (7, [.ref hc, .int tm])), (hc, .inl (X.2.1, 16, .inl tf))]) sz)) (A := (va_A ([(ht, .inr (7, [.ref hc, .int tm])), (hc, .inl (X.2.1, 16, .inl tf))]) sz)) (cc := cX9_restart) (maxL := 2) (ret := none) (by decide) rfl (Nat.le_of_ble_eq_true rfl) k_w k_a (fun p e s m below meth c S zr zlk znm zsz G ls hl => ?_)
  have S : CallFix p m c cX9_restart 2 s _ wsX9_restart RX9 := S
  have zx := S.1
  have zb := S.2.1
  have hl : lv_has ls 2 [(0, .ref ht)] := hl
  refine lv_iconst (v := 0) zx zb dX9_restart_0 (by decide) ?_
  refine lv_istore_n (lv' := [(1, .int 0), (0, .ref ht)]) zx zb dX9_restart_1 rfl hl (by decide) rfl (fun ls hl => ?_)
  refine k_loop (P := ∀ (zm : Nat) (k2 : Nat) (f2_0 : Nat → Int32) (H : Heap) (locs : List Loc) (ls : Array Slot), 16 + 1 ≤ k2 + zm → (k2 ≤ 16) → wd X (va_A ([(ht, .inr (7, [.ref hc, .int tm])), (hc, .inl (X.2.1, 16, .inl tf))]) sz) (va_A ([(ht, .inr (7, [.ref hc, .int tm])), (hc, .inl (X.2.1, 16, .inl tf))]) sz) s ([(ht, .inr (7, [.ref hc, .int tm])), (hc, .inl (X.2.1, 16, .inl f2_0))]) H locs → lv_has ls 2 [(1, .int (nI k2)), (0, .ref ht)] → W p l e _ s m _ below meth c H locs _ _ _ (F0 m 2 ls [])) (fun loop => loop (16 + 1) 0 tf _ _ _ (by omega) (by omega) G hl) ?_
  intro zm
  induction zm with
  | zero => intro k2 f2_0 H locs ls zz q_hk_k2 _ _; exact absurd zz (by omega)
  | succ zm ih2 =>
    intro k2 f2_0 H locs ls zm_2 hk_k2 G hl
    refine lv_iload_n zx zb dX9_restart_2 rfl (lv_at hl 0 rfl) ?_
    refine lv_aload_n zx zb dX9_restart_3 rfl (lv_at hl 1 rfl) ?_
    refine r_get (C := RX9) (T := TX9) (N := 2) (ci := 7) (v := .ref hc) S in_X9_restart_X9 G 0 rfl rfl 0 (by decide) lk_X9_restart_9 rfl dX9_restart_4 ?_
    refine r_alen (v := 16) S G 1 0 rfl rfl rfl dX9_restart_7 ?_
    refine lv_icmp_ge (tgt := 24) zx zb dX9_restart_8 (by decide) (fun c_1 => ?_) (fun c_1 => ?_)
    · have fc_1 := j_le (a := 16) (b := k2) (by omega) (by omega) c_1
      refine lv_aload_n zx zb dX9_restart_24 rfl (lv_at hl 1 rfl) ?_
      refine lv_iconst (v := 0) zx zb dX9_restart_25 (by decide) ?_
      refine r_put (C := RX9) (T := TX9) (N := 2) (ci := 7) (v := .int 0) S in_X9_restart_X9 tyX9_ok nmX9 G 0 rfl rfl 1 (by decide) lk_X9_restart_15 rfl (vp_nar_int _) rfl (Nat.le_of_ble_eq_true rfl) dX9_restart_26 (fun H locs G => ?_)
      obtain ⟨m_2, G⟩ : ∃ m_2 : Int32, wd X (va_A ([(ht, .inr (7, [.ref hc, .int tm])), (hc, .inl (X.2.1, 16, .inl tf))]) sz) (va_A ([(ht, .inr (7, [.ref hc, .int tm])), (hc, .inl (X.2.1, 16, .inl tf))]) sz) s ([(ht, .inr (7, [.ref hc, .int m_2])), (hc, .inl (X.2.1, 16, .inl f2_0))]) H locs := ⟨_, G⟩
      exact e_void S zr zlk G (m_2, f2_0) [0, 1] rfl rfl (Or.inr rfl) (trivial) dX9_restart_29
    · have fc_1 := j_nle (a := 16) (b := k2) (by omega) (by omega) c_1
      refine lv_aload_n zx zb dX9_restart_11 rfl (lv_at hl 1 rfl) ?_
      refine r_get (C := RX9) (T := TX9) (N := 2) (ci := 7) (v := .ref hc) S in_X9_restart_X9 G 0 rfl rfl 0 (by decide) lk_X9_restart_9 rfl dX9_restart_12 ?_
      refine lv_iload_n zx zb dX9_restart_15 rfl (lv_at hl 0 rfl) ?_
      refine lv_iconst (v := 0) zx zb dX9_restart_16 (by decide) ?_
      refine r_iast S G 1 rfl (vp_in_nI (by omega) (by decide)) dX9_restart_17 (fun H locs G => ?_)
      obtain ⟨f_3, G⟩ : ∃ f_3 : Nat → Int32, wd X (va_A ([(ht, .inr (7, [.ref hc, .int tm])), (hc, .inl (X.2.1, 16, .inl tf))]) sz) (va_A ([(ht, .inr (7, [.ref hc, .int tm])), (hc, .inl (X.2.1, 16, .inl tf))]) sz) s ([(ht, .inr (7, [.ref hc, .int tm])), (hc, .inl (X.2.1, 16, .inl f_3))]) H locs := ⟨_, G⟩
      refine lv_iinc (v := (nI (k2 + 1))) (lv' := [(1, .int (nI (k2 + 1))), (0, .ref ht)]) zx zb dX9_restart_18 hl (k := 0) rfl (nI_add k2 1) (by decide) rfl (fun ls hl => ?_)
      refine lv_goto (tgt := 2) zx zb dX9_restart_21 (by decide) ?_
      exact ih2 (k2 + 1) f_3 _ _ _ (by omega) (by omega) G hl
theorem in_X9_see_X9 : ∀ w ∈ wsX90, w ∈ wsX9_see := by decide +kernel
theorem lk_X9_see_9 : Cond.fieldLink RX9 9 "EggSpoons$Tally" "counts" "[I" ∈ wsX9_see := by decide +kernel
theorem lk_X9_see_15 : Cond.fieldLink RX9 15 "EggSpoons$Tally" "most" "I" ∈ wsX9_see := by decide +kernel
theorem mm_X9_see_ml19 : Cond.methodLink RX9 19 Lib.Math.max.name ∈ wsX9_see := by decide +kernel
theorem mm_X9_see_msmax : Cond.static Lib.Math.max.name ∈ wsX9_see := by decide +kernel
theorem mm_X9_see_mi : Cond.initialized "java/lang/Math" ∈ wsX9_see := by decide +kernel
theorem mm_X9_see_mcmax : Cond.code Lib.Math.max.name Lib.Math.max.code 2 (some .int) ∈ wsX9_see := by decide +kernel
set_option maxHeartbeats 4000000 in
set_option maxRecDepth 100000 in
/-- see -/
theorem s_see (l : Launch) (X : EX) (ht : Nat) (hc : Nat) (tm : Int32) (tf : Nat → Int32) (x1 : Int32) (sz : Nat) : Met l yX9_see wsX9_see ({ frames := 1, cells := 0, slots := 0, locals := 14 } : Room) (pE X [.ref ht, .int x1] ([(ht, .inr (7, [.ref hc, .int tm])), (hc, .inl (X.2.1, 16, .inl tf))]) sz) (qV (fun (u : (Int32) × (Nat → Int32)) => (True)) X (fun (u : (Int32) × (Nat → Int32)) => [(ht, .inr (7, [.ref hc, .int u.1])), (hc, .inl (X.2.1, 16, .inl u.2))]) ([(ht, .inr (7, [.ref hc, .int tm])), (hc, .inl (X.2.1, 16, .inl tf))]) sz) 0 0 (va_A ([(ht, .inr (7, [.ref hc, .int tm])), (hc, .inl (X.2.1, 16, .inl tf))]) sz) := by
  refine mk_met (B := (va_A ([(ht, .inr (7, [.ref hc, .int tm])), (hc, .inl (X.2.1, 16, .inl tf))]) sz)) (A := (va_A ([(ht, .inr (7, [.ref hc, .int tm])), (hc, .inl (X.2.1, 16, .inl tf))]) sz)) (cc := cX9_see) (maxL := 2) (ret := none) (by decide) rfl (Nat.le_of_ble_eq_true rfl) k_w k_a (fun p e s m below meth c S zr zlk znm zsz G ls hl => ?_)
  have S : CallFix p m c cX9_see 2 s _ wsX9_see RX9 := S
  have zx := S.1
  have zb := S.2.1
  have hl : lv_has ls 2 [(0, .ref ht), (1, .int x1)] := hl
  refine lv_iload_n zx zb dX9_see_0 rfl (lv_at hl 1 rfl) ?_
  refine k_cutW (PP := fun Wx => ∀ (m_2 : Int32) (f_3 : Nat → Int32) (H : Heap) (locs : List Loc) (ls : Array Slot), wd X (va_A ([(ht, .inr (7, [.ref hc, .int tm])), (hc, .inl (X.2.1, 16, .inl tf))]) sz) (va_A ([(ht, .inr (7, [.ref hc, .int tm])), (hc, .inl (X.2.1, 16, .inl tf))]) sz) s ([(ht, .inr (7, [.ref hc, .int m_2])), (hc, .inl (X.2.1, 16, .inl f_3))]) H locs → lv_has ls 2 [(0, .ref ht), (1, .int x1)] → Wx (F0 m 40 ls []) H locs) ?_ ?_
  · intro join_1
    refine lv_if_lt (tgt := 40) zx zb dX9_see_1 (by decide) (fun c_1 => ?_) (fun c_1 => ?_)
    · exact join_1 tm tf _ _ _  G hl
    · refine lv_iload_n zx zb dX9_see_4 rfl (lv_at hl 1 rfl) ?_
      refine lv_aload_n zx zb dX9_see_5 rfl (lv_at hl 0 rfl) ?_
      refine r_get (C := RX9) (T := TX9) (N := 2) (ci := 7) (v := .ref hc) S in_X9_see_X9 G 0 rfl rfl 0 (by decide) lk_X9_see_9 rfl dX9_see_6 ?_
      refine r_alen (v := 16) S G 1 0 rfl rfl rfl dX9_see_9 ?_
      refine lv_icmp_ge (tgt := 40) zx zb dX9_see_10 (by decide) (fun c_4 => ?_) (fun c_4 => ?_)
      · exact join_1 tm tf _ _ _  G hl
      · refine lv_aload_n zx zb dX9_see_13 rfl (lv_at hl 0 rfl) ?_
        refine r_get (C := RX9) (T := TX9) (N := 2) (ci := 7) (v := .ref hc) S in_X9_see_X9 G 0 rfl rfl 0 (by decide) lk_X9_see_9 rfl dX9_see_14 ?_
        refine lv_iload_n zx zb dX9_see_17 rfl (lv_at hl 1 rfl) ?_
        refine lv_dup2_11 zx zb dX9_see_18 rfl rfl ?_
        refine r_iald S G 1 rfl (k_in (by decide) c_1 c_4) rfl dX9_see_19 ?_
        refine k_itE (fun y_5 => ?_)
        refine lv_iconst (v := 1) zx zb dX9_see_20 (by decide) ?_
        refine r_iadd (v := (y_5 + 1)) S rfl dX9_see_21 ?_
        refine r_iast S G 1 rfl (k_in (by decide) c_1 c_4) dX9_see_22 (fun H locs G => ?_)
        obtain ⟨f_6, G⟩ : ∃ f_6 : Nat → Int32, wd X (va_A ([(ht, .inr (7, [.ref hc, .int tm])), (hc, .inl (X.2.1, 16, .inl tf))]) sz) (va_A ([(ht, .inr (7, [.ref hc, .int tm])), (hc, .inl (X.2.1, 16, .inl tf))]) sz) s ([(ht, .inr (7, [.ref hc, .int tm])), (hc, .inl (X.2.1, 16, .inl f_6))]) H locs := ⟨_, G⟩
        refine lv_aload_n zx zb dX9_see_23 rfl (lv_at hl 0 rfl) ?_
        refine lv_aload_n zx zb dX9_see_24 rfl (lv_at hl 0 rfl) ?_
        refine r_get (C := RX9) (T := TX9) (N := 2) (ci := 7) (v := .int tm) S in_X9_see_X9 G 0 rfl rfl 1 (by decide) lk_X9_see_15 rfl dX9_see_25 ?_
        refine lv_aload_n zx zb dX9_see_28 rfl (lv_at hl 0 rfl) ?_
        refine r_get (C := RX9) (T := TX9) (N := 2) (ci := 7) (v := .ref hc) S in_X9_see_X9 G 0 rfl rfl 0 (by decide) lk_X9_see_9 rfl dX9_see_29 ?_
        refine lv_iload_n zx zb dX9_see_32 rfl (lv_at hl 1 rfl) ?_
        refine r_iald S G 1 rfl (k_in (by decide) c_1 c_4) rfl dX9_see_33 ?_
        refine k_itE (fun y_7 => ?_)
        refine r_mmaxE S hl.1 mm_X9_see_ml19 mm_X9_see_msmax mm_X9_see_mi mm_X9_see_mcmax (Nat.le_of_ble_eq_true rfl) (Nat.le_of_ble_eq_true rfl) (Nat.zero_le _) (Nat.zero_le _) dX9_see_34 (fun y_8 => ?_)
        refine r_put (C := RX9) (T := TX9) (N := 2) (ci := 7) (v := .int y_8) S in_X9_see_X9 tyX9_ok nmX9 G 0 rfl rfl 1 (by decide) lk_X9_see_15 rfl (vp_nar_int _) rfl (Nat.le_of_ble_eq_true rfl) dX9_see_37 (fun H locs G => ?_)
        obtain ⟨m_9, G⟩ : ∃ m_9 : Int32, wd X (va_A ([(ht, .inr (7, [.ref hc, .int tm])), (hc, .inl (X.2.1, 16, .inl tf))]) sz) (va_A ([(ht, .inr (7, [.ref hc, .int tm])), (hc, .inl (X.2.1, 16, .inl tf))]) sz) s ([(ht, .inr (7, [.ref hc, .int m_9])), (hc, .inl (X.2.1, 16, .inl f_6))]) H locs := ⟨_, G⟩
        exact join_1 m_9 f_6 _ _ _  G hl
  · intro m_2 f_3 H locs ls  G hl
    exact e_void S zr zlk G (m_2, f_3) [0, 1] rfl rfl (Or.inr rfl) (trivial) dX9_see_40
set_option maxHeartbeats 4000000 in
set_option maxRecDepth 100000 in
/-- hasBit -/
theorem s_hasBit (l : Launch) (X : EX) (x1 : Int32) (x2 : Int32) (sz : Nat) : Met l yX10_hasBit wsX10_hasBit ({ frames := 0, cells := 0, slots := 0, locals := 0 } : Room) (pE X [.int x1, .int x2] ([]) sz) (qI (fun (r : Int32) (u : Unit) => r = 0 ∨ r = 1) X (fun (u : Unit) => []) [] sz) 0 0 (va_A [] sz) := by
  refine mk_met (B := (fun _ => True)) (A := (va_A [] sz)) (cc := cX10_hasBit) (maxL := 2) (ret := (some .boolean)) (by decide) rfl (Nat.le_of_ble_eq_true rfl) k_ro k_a (fun p e s m below meth c S zr zlk znm zsz G ls hl => ?_)
  have S : CallFix p m c cX10_hasBit 2 s _ wsX10_hasBit RX10 := S
  have zx := S.1
  have zb := S.2.1
  have hl : lv_has ls 2 [(0, .int x1), (1, .int x2)] := hl
  refine lv_iload_n zx zb dX10_hasBit_0 rfl (lv_at hl 0 rfl) ?_
  refine lv_iload_n zx zb dX10_hasBit_1 rfl (lv_at hl 1 rfl) ?_
  refine lv_ishr zx zb dX10_hasBit_2 ?_
  refine k_itE (fun y_1 => ?_)
  refine lv_iconst (v := 1) zx zb dX10_hasBit_3 (by decide) ?_
  refine lv_iand zx zb dX10_hasBit_4 ?_
  refine k_itE (fun y_2 => ?_)
  refine lv_iconst (v := 1) zx zb dX10_hasBit_5 (by decide) ?_
  refine lv_icmp_ne (tgt := 13) zx zb dX10_hasBit_6 (by decide) (fun c_3 => ?_) (fun c_3 => ?_)
  · refine lv_iconst (v := 0) zx zb dX10_hasBit_13 (by decide) ?_
    exact e_int S zr zlk (by decide) G () [] rfl rfl (Or.inl rfl) (by first | exact Or.inl rfl | exact Or.inr rfl) dX10_hasBit_14
  · refine lv_iconst (v := 1) zx zb dX10_hasBit_9 (by decide) ?_
    refine lv_goto (tgt := 14) zx zb dX10_hasBit_10 (by decide) ?_
    exact e_int S zr zlk (by decide) G () [] rfl rfl (Or.inl rfl) (by first | exact Or.inl rfl | exact Or.inr rfl) dX10_hasBit_14
theorem mm_J6_bitCount_0f7a4_c265 : Cond.constant RJ6 265 (1431655765) ∈ wsJ6_bitCount_0f7a4 := by decide +kernel
theorem mm_J6_bitCount_0f7a4_c266 : Cond.constant RJ6 266 (858993459) ∈ wsJ6_bitCount_0f7a4 := by decide +kernel
theorem mm_J6_bitCount_0f7a4_c267 : Cond.constant RJ6 267 (252645135) ∈ wsJ6_bitCount_0f7a4 := by decide +kernel
set_option maxHeartbeats 4000000 in
set_option maxRecDepth 100000 in
/-- bitCount -/
theorem s_bitCount (l : Launch) (X : EX) (x1 : Int32) (sz : Nat) : Met l yJ6_bitCount_0f7a4 wsJ6_bitCount_0f7a4 ({ frames := 0, cells := 0, slots := 0, locals := 0 } : Room) (pE X [.int x1] ([]) sz) (qI (fun (r : Int32) (u : Unit) => True) X (fun (u : Unit) => []) [] sz) 0 0 (va_A [] sz) := by
  refine mk_met (B := (fun _ => True)) (A := (va_A [] sz)) (cc := cJ6_bitCount_0f7a4) (maxL := 1) (ret := (some .int)) (by decide) rfl (Nat.le_of_ble_eq_true rfl) k_ro k_a (fun p e s m below meth c S zr zlk znm zsz G ls hl => ?_)
  have S : CallFix p m c cJ6_bitCount_0f7a4 1 s _ wsJ6_bitCount_0f7a4 RJ6 := S
  have zx := S.1
  have zb := S.2.1
  have hl : lv_has ls 1 [(0, .int x1)] := hl
  refine lv_iload_n zx zb dJ6_bitCount_0f7a4_0 rfl (lv_at hl 0 rfl) ?_
  refine lv_iload_n zx zb dJ6_bitCount_0f7a4_1 rfl (lv_at hl 0 rfl) ?_
  refine lv_iconst (v := 1) zx zb dJ6_bitCount_0f7a4_2 (by decide) ?_
  refine lv_iushr zx zb dJ6_bitCount_0f7a4_3 rfl ?_
  refine k_itE (fun y_1 => ?_)
  refine lv_ldcw zx zb S.2.2.2.1 (S.2.2.2.2 _ mm_J6_bitCount_0f7a4_c265) dJ6_bitCount_0f7a4_4 ?_
  refine lv_iand zx zb dJ6_bitCount_0f7a4_7 ?_
  refine k_itE (fun y_3 => ?_)
  refine r_isub (v := (x1 - y_3)) S rfl dJ6_bitCount_0f7a4_8 ?_
  refine lv_istore_n (lv' := [(0, .int (x1 - y_3))]) zx zb dJ6_bitCount_0f7a4_9 rfl hl (by decide) rfl (fun ls hl => ?_)
  refine lv_iload_n zx zb dJ6_bitCount_0f7a4_10 rfl (lv_at hl 0 rfl) ?_
  refine lv_ldcw zx zb S.2.2.2.1 (S.2.2.2.2 _ mm_J6_bitCount_0f7a4_c266) dJ6_bitCount_0f7a4_11 ?_
  refine lv_iand zx zb dJ6_bitCount_0f7a4_14 ?_
  refine k_itE (fun y_5 => ?_)
  refine lv_iload_n zx zb dJ6_bitCount_0f7a4_15 rfl (lv_at hl 0 rfl) ?_
  refine lv_iconst (v := 2) zx zb dJ6_bitCount_0f7a4_16 (by decide) ?_
  refine lv_iushr zx zb dJ6_bitCount_0f7a4_17 rfl ?_
  refine k_itE (fun y_6 => ?_)
  refine lv_ldcw zx zb S.2.2.2.1 (S.2.2.2.2 _ mm_J6_bitCount_0f7a4_c266) dJ6_bitCount_0f7a4_18 ?_
  refine lv_iand zx zb dJ6_bitCount_0f7a4_21 ?_
  refine k_itE (fun y_8 => ?_)
  refine r_iadd (v := (y_5 + y_8)) S rfl dJ6_bitCount_0f7a4_22 ?_
  refine lv_istore_n (lv' := [(0, .int (y_5 + y_8))]) zx zb dJ6_bitCount_0f7a4_23 rfl hl (by decide) rfl (fun ls hl => ?_)
  refine lv_iload_n zx zb dJ6_bitCount_0f7a4_24 rfl (lv_at hl 0 rfl) ?_
  refine lv_iload_n zx zb dJ6_bitCount_0f7a4_25 rfl (lv_at hl 0 rfl) ?_
  refine lv_iconst (v := 4) zx zb dJ6_bitCount_0f7a4_26 (by decide) ?_
  refine lv_iushr zx zb dJ6_bitCount_0f7a4_27 rfl ?_
  refine k_itE (fun y_9 => ?_)
  refine r_iadd (v := ((y_5 + y_8) + y_9)) S rfl dJ6_bitCount_0f7a4_28 ?_
  refine lv_ldcw zx zb S.2.2.2.1 (S.2.2.2.2 _ mm_J6_bitCount_0f7a4_c267) dJ6_bitCount_0f7a4_29 ?_
  refine lv_iand zx zb dJ6_bitCount_0f7a4_32 ?_
  refine k_itE (fun y_11 => ?_)
  refine lv_istore_n (lv' := [(0, .int y_11)]) zx zb dJ6_bitCount_0f7a4_33 rfl hl (by decide) rfl (fun ls hl => ?_)
  refine lv_iload_n zx zb dJ6_bitCount_0f7a4_34 rfl (lv_at hl 0 rfl) ?_
  refine lv_iload_n zx zb dJ6_bitCount_0f7a4_35 rfl (lv_at hl 0 rfl) ?_
  refine lv_bipush (v := 8) zx zb dJ6_bitCount_0f7a4_36 (by decide) ?_
  refine lv_iushr zx zb dJ6_bitCount_0f7a4_38 rfl ?_
  refine k_itE (fun y_12 => ?_)
  refine r_iadd (v := (y_11 + y_12)) S rfl dJ6_bitCount_0f7a4_39 ?_
  refine lv_istore_n (lv' := [(0, .int (y_11 + y_12))]) zx zb dJ6_bitCount_0f7a4_40 rfl hl (by decide) rfl (fun ls hl => ?_)
  refine lv_iload_n zx zb dJ6_bitCount_0f7a4_41 rfl (lv_at hl 0 rfl) ?_
  refine lv_iload_n zx zb dJ6_bitCount_0f7a4_42 rfl (lv_at hl 0 rfl) ?_
  refine lv_bipush (v := 16) zx zb dJ6_bitCount_0f7a4_43 (by decide) ?_
  refine lv_iushr zx zb dJ6_bitCount_0f7a4_45 rfl ?_
  refine k_itE (fun y_13 => ?_)
  refine r_iadd (v := ((y_11 + y_12) + y_13)) S rfl dJ6_bitCount_0f7a4_46 ?_
  refine lv_istore_n (lv' := [(0, .int ((y_11 + y_12) + y_13))]) zx zb dJ6_bitCount_0f7a4_47 rfl hl (by decide) rfl (fun ls hl => ?_)
  refine lv_iload_n zx zb dJ6_bitCount_0f7a4_48 rfl (lv_at hl 0 rfl) ?_
  refine lv_bipush (v := 63) zx zb dJ6_bitCount_0f7a4_49 (by decide) ?_
  refine lv_iand zx zb dJ6_bitCount_0f7a4_51 ?_
  refine k_itE (fun y_14 => ?_)
  exact e_int S zr zlk (vp_nar_int _) G () [] rfl rfl (Or.inl rfl) (trivial) dJ6_bitCount_0f7a4_52
theorem in_X10_farBy_X8 : ∀ w ∈ wsX80, w ∈ wsX10_farBy := by decide +kernel
theorem lk_X10_farBy_320 : Cond.fieldLink RX10 320 "EggSpoons$Runner" "kind" "I" ∈ wsX10_farBy := by decide +kernel
set_option maxHeartbeats 4000000 in
set_option maxRecDepth 100000 in
/-- farBy -/
theorem s_farBy0 (l : Launch) (X : EX) (h0 : Nat) (v : Nat → Int32) (x2 : Int32) (x3 : Int32) (sz : Nat) : Met l yX10_farBy wsX10_farBy ({ frames := 1, cells := 0, slots := 0, locals := 26 } : Room) (pE X [.ref h0, .int 0, .int x2, .int x3] (rnW h0 v) sz) (qI (fun (r : Int32) (u : Unit) => True) X (fun (u : Unit) => []) [] sz) 0 0 (va_A [] sz) := by
  refine mk_met (B := (fun _ => True)) (A := (va_A [] sz)) (cc := cX10_farBy) (maxL := 4) (ret := (some .int)) (by decide) rfl (Nat.le_of_ble_eq_true rfl) k_ro k_a (fun p e s m below meth c S zr zlk znm zsz G ls hl => ?_)
  have S : CallFix p m c cX10_farBy 4 s _ wsX10_farBy RX10 := S
  have zx := S.1
  have zb := S.2.1
  have hl : lv_has ls 4 [(0, .ref h0), (1, .int 0), (2, .int x2), (3, .int x3)] := hl
  refine lv_iload_n zx zb dX10_farBy_0 rfl (lv_at hl 1 rfl) ?_
  refine lv_lookup (off := 27) (tgt := 28) zx zb dX10_farBy_1 rfl (by decide) (by decide) ?_
  refine lv_aload_n zx zb dX10_farBy_28 rfl (lv_at hl 0 rfl) ?_
  refine r_get (C := RX8) (T := TX8) (N := 8) (ci := 6) (v := .int (v 0)) S in_X10_farBy_X8 G 0 rfl rfl 0 (by decide) lk_X10_farBy_320 rfl dX10_farBy_29 ?_
  refine lv_iload_n zx zb dX10_farBy_32 rfl (lv_at hl 2 rfl) ?_
  refine lv_iload_n zx zb dX10_farBy_33 rfl (lv_at hl 3 rfl) ?_
  refine lv_bipush (v := 10) zx zb dX10_farBy_34 (by decide) ?_
  refine lv_idiv zx zb dX10_farBy_36 (by decide) ?_
  refine k_itE (fun y_1 => ?_)
  refine lv_iload_n zx zb dX10_farBy_37 rfl (lv_at hl 3 rfl) ?_
  refine lv_bipush (v := 10) zx zb dX10_farBy_38 (by decide) ?_
  refine lv_irem zx zb dX10_farBy_40 (by decide) ?_
  refine k_itE (fun y_2 => ?_)
  refine o_ri (cells' := 0) (slots' := 0) G rfl rfl (n_S (As := [.int (v 0), .int x2, .int y_1, .int y_2]) (rest := []) S G (s_reach l X (v 0) x2 y_1 y_2 s.heap.size) gX10_farBy_X2_reach rfl rfl rfl hdS_X2_reach ⟨Nat.le_of_ble_eq_true rfl, Nat.le_of_ble_eq_true rfl⟩ [] rfl rfl rfl hl.1 (Nat.le_of_ble_eq_true rfl) dX10_farBy_41 ⟨Nat.le_of_ble_eq_true rfl, Nat.le_of_ble_eq_true rfl⟩) (fun r_3 u_3 H locs hp_3 G => ?_)
  have G : wd X (fun _ => True) (va_A [] sz) s (rnW h0 v) H locs := G
  exact e_int S zr zlk (vp_nar_int _) G () [] rfl rfl (Or.inl rfl) (trivial) dX10_farBy_44
theorem lk_X10_farBy_328 : Cond.fieldLink RX10 328 "EggSpoons$Runner" "legs" "I" ∈ wsX10_farBy := by decide +kernel
set_option maxHeartbeats 4000000 in
set_option maxRecDepth 100000 in
/-- farBy -/
theorem s_farBy1 (l : Launch) (X : EX) (h0 : Nat) (v : Nat → Int32) (x2 : Int32) (x3 : Int32) (sz : Nat) : Met l yX10_farBy wsX10_farBy ({ frames := 1, cells := 0, slots := 0, locals := 26 } : Room) (pE X [.ref h0, .int 1, .int x2, .int x3] (rnW h0 v) sz) (qI (fun (r : Int32) (u : Unit) => True) X (fun (u : Unit) => []) [] sz) 0 0 (va_A [] sz) := by
  refine mk_met (B := (fun _ => True)) (A := (va_A [] sz)) (cc := cX10_farBy) (maxL := 4) (ret := (some .int)) (by decide) rfl (Nat.le_of_ble_eq_true rfl) k_ro k_a (fun p e s m below meth c S zr zlk znm zsz G ls hl => ?_)
  have S : CallFix p m c cX10_farBy 4 s _ wsX10_farBy RX10 := S
  have zx := S.1
  have zb := S.2.1
  have hl : lv_has ls 4 [(0, .ref h0), (1, .int 1), (2, .int x2), (3, .int x3)] := hl
  refine lv_iload_n zx zb dX10_farBy_0 rfl (lv_at hl 1 rfl) ?_
  refine lv_lookup (off := 44) (tgt := 45) zx zb dX10_farBy_1 rfl (by decide) (by decide) ?_
  refine lv_iload_n zx zb dX10_farBy_45 rfl (lv_at hl 2 rfl) ?_
  refine lv_aload_n zx zb dX10_farBy_46 rfl (lv_at hl 0 rfl) ?_
  refine r_get (C := RX8) (T := TX8) (N := 8) (ci := 6) (v := .int (v 1)) S in_X10_farBy_X8 G 0 rfl rfl 1 (by decide) lk_X10_farBy_328 rfl dX10_farBy_47 ?_
  refine lv_iload_n zx zb dX10_farBy_50 rfl (lv_at hl 3 rfl) ?_
  refine lv_bipush (v := 10) zx zb dX10_farBy_51 (by decide) ?_
  refine lv_idiv zx zb dX10_farBy_53 (by decide) ?_
  refine k_itE (fun y_1 => ?_)
  refine lv_iload_n zx zb dX10_farBy_54 rfl (lv_at hl 3 rfl) ?_
  refine lv_bipush (v := 10) zx zb dX10_farBy_55 (by decide) ?_
  refine lv_irem zx zb dX10_farBy_57 (by decide) ?_
  refine k_itE (fun y_2 => ?_)
  refine o_ri (cells' := 0) (slots' := 0) G rfl rfl (n_S (As := [.int x2, .int (v 1), .int y_1, .int y_2]) (rest := []) S G (s_reach l X x2 (v 1) y_1 y_2 s.heap.size) gX10_farBy_X2_reach rfl rfl rfl hdS_X2_reach ⟨Nat.le_of_ble_eq_true rfl, Nat.le_of_ble_eq_true rfl⟩ [] rfl rfl rfl hl.1 (Nat.le_of_ble_eq_true rfl) dX10_farBy_58 ⟨Nat.le_of_ble_eq_true rfl, Nat.le_of_ble_eq_true rfl⟩) (fun r_3 u_3 H locs hp_3 G => ?_)
  have G : wd X (fun _ => True) (va_A [] sz) s (rnW h0 v) H locs := G
  exact e_int S zr zlk (vp_nar_int _) G () [] rfl rfl (Or.inl rfl) (trivial) dX10_farBy_61
set_option maxHeartbeats 4000000 in
set_option maxRecDepth 100000 in
/-- farBy -/
theorem s_farBy2 (l : Launch) (X : EX) (h0 : Nat) (v : Nat → Int32) (x2 : Int32) (x3 : Int32) (sz : Nat) : Met l yX10_farBy wsX10_farBy ({ frames := 1, cells := 0, slots := 0, locals := 24 } : Room) (pE X [.ref h0, .int 2, .int x2, .int x3] (rnW h0 v) sz) (qI (fun (r : Int32) (u : Unit) => True) X (fun (u : Unit) => []) [] sz) 0 0 (va_A [] sz) := by
  refine mk_met (B := (fun _ => True)) (A := (va_A [] sz)) (cc := cX10_farBy) (maxL := 4) (ret := (some .int)) (by decide) rfl (Nat.le_of_ble_eq_true rfl) k_ro k_a (fun p e s m below meth c S zr zlk znm zsz G ls hl => ?_)
  have S : CallFix p m c cX10_farBy 4 s _ wsX10_farBy RX10 := S
  have zx := S.1
  have zb := S.2.1
  have hl : lv_has ls 4 [(0, .ref h0), (1, .int 2), (2, .int x2), (3, .int x3)] := hl
  refine lv_iload_n zx zb dX10_farBy_0 rfl (lv_at hl 1 rfl) ?_
  refine lv_lookup (off := 61) (tgt := 62) zx zb dX10_farBy_1 rfl (by decide) (by decide) ?_
  refine lv_iload_n zx zb dX10_farBy_62 rfl (lv_at hl 2 rfl) ?_
  refine lv_iload_n zx zb dX10_farBy_63 rfl (lv_at hl 3 rfl) ?_
  refine o_ri (cells' := 0) (slots' := 0) G rfl rfl (n_S (As := [.int x2, .int x3]) (rest := []) S G (s_limit l X x2 x3 s.heap.size) gX10_farBy_X1_limit rfl rfl rfl hdS_X1_limit ⟨Nat.le_of_ble_eq_true rfl, Nat.le_of_ble_eq_true rfl⟩ [] rfl rfl rfl hl.1 (Nat.le_of_ble_eq_true rfl) dX10_farBy_64 ⟨Nat.le_of_ble_eq_true rfl, Nat.le_of_ble_eq_true rfl⟩) (fun r_1 u_1 H locs hp_1 G => ?_)
  have G : wd X (fun _ => True) (va_A [] sz) s (rnW h0 v) H locs := G
  exact e_int S zr zlk (vp_nar_int _) G () [] rfl rfl (Or.inl rfl) (trivial) dX10_farBy_67
theorem in_X10_seen_X10 : ∀ w ∈ wsX100, w ∈ wsX10_seen := by decide +kernel
theorem lk_X10_seen_10 : Cond.fieldLink RX10 10 "EggSpoons" "now" "LEggSpoons$Race;" ∈ wsX10_seen := by decide +kernel
theorem in_X10_seen_X5 : ∀ w ∈ wsX50, w ∈ wsX10_seen := by decide +kernel
theorem lk_X10_seen_185 : Cond.fieldLink RX10 185 "EggSpoons$Race" "seenRows" "LEggSpoons$Rows;" ∈ wsX10_seen := by decide +kernel
theorem hdV_X7_append : yX7_append.cls = RX7 ∧ yX7_append.cls ≠ "java/lang/invoke/MethodHandle" ∧ yX7_append.cls ≠ "java/lang/invoke/VarHandle" ∧ (parseMethodDescriptor yX7_append.desc).map (fun d => d.parameters.length) = some 5 := by decide +kernel
theorem in_X10_seen_X7 : ∀ w ∈ wsX70, w ∈ wsX10_seen := by decide +kernel
theorem lk_X10_seen_194 : Cond.fieldLink RX10 194 "EggSpoons$Rows" "size" "I" ∈ wsX10_seen := by decide +kernel
set_option maxHeartbeats 4000000 in
set_option maxRecDepth 100000 in
/-- seen -/
theorem s_seen (l : Launch) (X : EX) (h0 : Nat) (nw : Nat) (sp : Nat) (xa : Nat → Nat) (la : Int64) (lb : Int64) (an : Nat → Nat) (v : Nat → Int32) (b : Nat → Nat) (g : Nat → Nat → Int32) (fr : Nat → Int32) (x1 : Int32) (x2 : Int32) (x3 : Int32) (x4 : Int32) (hI_b : InR b) (sz : Nat) : Met l yX10_seen wsX10_seen ({ frames := 1, cells := 0, slots := 0, locals := 26 } : Room) (pE X [.ref h0, .int x1, .int x2, .int x3, .int x4] (@HAppend.hAppend va_W va_W va_W _ (xW h0 nw sp xa la lb) (@HAppend.hAppend va_W va_W va_W _ (rcW X nw an v b g) ([((xa 5), .inl (X.2.1, 3, .inl fr))]))) sz) (qI (fun (r : Int32) (u : (Nat → Int32) × (Nat → Nat) × (Nat → Nat → Int32) × (Nat → Int32)) => InR u.2.1 ∧ (True)) X (fun (u : (Nat → Int32) × (Nat → Nat) × (Nat → Nat → Int32) × (Nat → Int32)) => @HAppend.hAppend va_W va_W va_W _ (xW h0 nw sp xa la lb) (@HAppend.hAppend va_W va_W va_W _ (rcW X nw an u.1 u.2.1 u.2.2.1) ([((xa 5), .inl (X.2.1, 3, .inl u.2.2.2))]))) (@HAppend.hAppend va_W va_W va_W _ (xW h0 nw sp xa la lb) (@HAppend.hAppend va_W va_W va_W _ (rcW X nw an v b g) ([((xa 5), .inl (X.2.1, 3, .inl fr))]))) sz) 0 0 (va_A (@HAppend.hAppend va_W va_W va_W _ (xW h0 nw sp xa la lb) (@HAppend.hAppend va_W va_W va_W _ (rcW X nw an v b g) ([((xa 5), .inl (X.2.1, 3, .inl fr))]))) sz) := by
  refine mk_met (B := (va_A (@HAppend.hAppend va_W va_W va_W _ (xW h0 nw sp xa la lb) (@HAppend.hAppend va_W va_W va_W _ (rcW X nw an v b g) ([((xa 5), .inl (X.2.1, 3, .inl fr))]))) sz)) (A := (va_A (@HAppend.hAppend va_W va_W va_W _ (xW h0 nw sp xa la lb) (@HAppend.hAppend va_W va_W va_W _ (rcW X nw an v b g) ([((xa 5), .inl (X.2.1, 3, .inl fr))]))) sz)) (cc := cX10_seen) (maxL := 5) (ret := (some .int)) (by decide) rfl (Nat.le_of_ble_eq_true rfl) k_w k_a (fun p e s m below meth c S zr zlk znm zsz G ls hl => ?_)
  have S : CallFix p m c cX10_seen 5 s _ wsX10_seen RX10 := S
  have zx := S.1
  have zb := S.2.1
  have hl : lv_has ls 5 [(0, .ref h0), (1, .int x1), (2, .int x2), (3, .int x3), (4, .int x4)] := hl
  have hO_b := hI_b
  obtain ⟨hb0_b, hb1_b, hb2_b, hb3_b, hb4_b⟩ := hO_b
  refine lv_aload_n zx zb dX10_seen_0 rfl (lv_at hl 0 rfl) ?_
  refine lv_iload_n zx zb dX10_seen_1 rfl (lv_at hl 1 rfl) ?_
  refine o_ri (cells' := 0) (slots' := 0) G rfl rfl (n_V (As := [.int x1]) (rest := []) (C := RX10) (T := TX10) (N := 14) (ci := 8) S G (s_there l X h0 nw sp xa la lb an v b g x1 hI_b s.heap.size) gX10_seen_X10_there rfl rfl rfl hdV_X10_there ⟨Nat.le_of_ble_eq_true rfl, Nat.le_of_ble_eq_true rfl⟩ [0, 1, 2, 3, 4, 5, 6, 7, 8, 9, 10, 11, 12, 13, 14, 15, 16] rfl rfl 0 rfl rfl rfl hl.1 (Nat.le_of_ble_eq_true rfl) dX10_seen_2 ⟨Nat.le_of_ble_eq_true rfl, Nat.le_of_ble_eq_true rfl⟩) (fun r_1 u_1 H locs hp_1 G => ?_)
  have G : wd X (va_A (@HAppend.hAppend va_W va_W va_W _ (xW h0 nw sp xa la lb) (@HAppend.hAppend va_W va_W va_W _ (rcW X nw an v b g) ([((xa 5), .inl (X.2.1, 3, .inl fr))]))) sz) (va_A (@HAppend.hAppend va_W va_W va_W _ (xW h0 nw sp xa la lb) (@HAppend.hAppend va_W va_W va_W _ (rcW X nw an v b g) ([((xa 5), .inl (X.2.1, 3, .inl fr))]))) sz) s (@HAppend.hAppend va_W va_W va_W _ (xW h0 nw sp xa la lb) (@HAppend.hAppend va_W va_W va_W _ (rcW X nw an v b g) ([((xa 5), .inl (X.2.1, 3, .inl fr))]))) H locs := G
  rcases hp_1 with ⟨rfl, hj_1⟩ | rfl
  · obtain ⟨j_1, hj_1, rfl⟩ := hj_1
    refine lv_if_eq (tgt := 39) zx zb dX10_seen_5 (by decide) (fun c_2 => absurd c_2 (by decide)) (fun c_2 => ?_)
    refine lv_iload_n zx zb dX10_seen_8 rfl (lv_at hl 2 rfl) ?_
    refine lv_iconst (v := 0) zx zb dX10_seen_9 (by decide) ?_
    refine lv_bipush (v := 99) zx zb dX10_seen_10 (by decide) ?_
    refine o_ri (cells' := 0) (slots' := 0) G rfl rfl (n_S (As := [.int x2, .int 0, .int 99]) (rest := []) S G (s_within l X x2 0 99 H.size) gX10_seen_X10_within rfl rfl rfl hdS_X10_within ⟨Nat.le_of_ble_eq_true rfl, Nat.le_of_ble_eq_true rfl⟩ [] rfl rfl rfl hl.1 (Nat.le_of_ble_eq_true rfl) dX10_seen_12 ⟨Nat.le_of_ble_eq_true rfl, Nat.le_of_ble_eq_true rfl⟩) (fun r_3 u_3 H locs hp_3 G => ?_)
    have G : wd X (va_A (@HAppend.hAppend va_W va_W va_W _ (xW h0 nw sp xa la lb) (@HAppend.hAppend va_W va_W va_W _ (rcW X nw an v b g) ([((xa 5), .inl (X.2.1, 3, .inl fr))]))) sz) (va_A (@HAppend.hAppend va_W va_W va_W _ (xW h0 nw sp xa la lb) (@HAppend.hAppend va_W va_W va_W _ (rcW X nw an v b g) ([((xa 5), .inl (X.2.1, 3, .inl fr))]))) sz) s (@HAppend.hAppend va_W va_W va_W _ (xW h0 nw sp xa la lb) (@HAppend.hAppend va_W va_W va_W _ (rcW X nw an v b g) ([((xa 5), .inl (X.2.1, 3, .inl fr))]))) H locs := G
    rcases hp_3 with ⟨rfl, hw_3⟩ | ⟨rfl, hw_3⟩
    · refine lv_if_eq (tgt := 39) zx zb dX10_seen_15 (by decide) (fun c_4 => absurd c_4 (by decide)) (fun c_4 => ?_)
      refine lv_iload_n zx zb dX10_seen_18 rfl (lv_at hl 3 rfl) ?_
      refine lv_iconst (v := 0) zx zb dX10_seen_19 (by decide) ?_
      refine lv_bipush (v := 9) zx zb dX10_seen_20 (by decide) ?_
      refine o_ri (cells' := 0) (slots' := 0) G rfl rfl (n_S (As := [.int x3, .int 0, .int 9]) (rest := []) S G (s_within l X x3 0 9 H.size) gX10_seen_X10_within rfl rfl rfl hdS_X10_within ⟨Nat.le_of_ble_eq_true rfl, Nat.le_of_ble_eq_true rfl⟩ [] rfl rfl rfl hl.1 (Nat.le_of_ble_eq_true rfl) dX10_seen_22 ⟨Nat.le_of_ble_eq_true rfl, Nat.le_of_ble_eq_true rfl⟩) (fun r_5 u_5 H locs hp_5 G => ?_)
      have G : wd X (va_A (@HAppend.hAppend va_W va_W va_W _ (xW h0 nw sp xa la lb) (@HAppend.hAppend va_W va_W va_W _ (rcW X nw an v b g) ([((xa 5), .inl (X.2.1, 3, .inl fr))]))) sz) (va_A (@HAppend.hAppend va_W va_W va_W _ (xW h0 nw sp xa la lb) (@HAppend.hAppend va_W va_W va_W _ (rcW X nw an v b g) ([((xa 5), .inl (X.2.1, 3, .inl fr))]))) sz) s (@HAppend.hAppend va_W va_W va_W _ (xW h0 nw sp xa la lb) (@HAppend.hAppend va_W va_W va_W _ (rcW X nw an v b g) ([((xa 5), .inl (X.2.1, 3, .inl fr))]))) H locs := G
      rcases hp_5 with ⟨rfl, hw_5⟩ | ⟨rfl, hw_5⟩
      · refine lv_if_eq (tgt := 39) zx zb dX10_seen_25 (by decide) (fun c_6 => absurd c_6 (by decide)) (fun c_6 => ?_)
        refine lv_iload zx zb dX10_seen_28 (lv_at hl 4 rfl) ?_
        refine lv_iconst (v := 0) zx zb dX10_seen_30 (by decide) ?_
        refine lv_bipush (v := 15) zx zb dX10_seen_31 (by decide) ?_
        refine o_ri (cells' := 0) (slots' := 0) G rfl rfl (n_S (As := [.int x4, .int 0, .int 15]) (rest := []) S G (s_within l X x4 0 15 H.size) gX10_seen_X10_within rfl rfl rfl hdS_X10_within ⟨Nat.le_of_ble_eq_true rfl, Nat.le_of_ble_eq_true rfl⟩ [] rfl rfl rfl hl.1 (Nat.le_of_ble_eq_true rfl) dX10_seen_33 ⟨Nat.le_of_ble_eq_true rfl, Nat.le_of_ble_eq_true rfl⟩) (fun r_7 u_7 H locs hp_7 G => ?_)
        have G : wd X (va_A (@HAppend.hAppend va_W va_W va_W _ (xW h0 nw sp xa la lb) (@HAppend.hAppend va_W va_W va_W _ (rcW X nw an v b g) ([((xa 5), .inl (X.2.1, 3, .inl fr))]))) sz) (va_A (@HAppend.hAppend va_W va_W va_W _ (xW h0 nw sp xa la lb) (@HAppend.hAppend va_W va_W va_W _ (rcW X nw an v b g) ([((xa 5), .inl (X.2.1, 3, .inl fr))]))) sz) s (@HAppend.hAppend va_W va_W va_W _ (xW h0 nw sp xa la lb) (@HAppend.hAppend va_W va_W va_W _ (rcW X nw an v b g) ([((xa 5), .inl (X.2.1, 3, .inl fr))]))) H locs := G
        rcases hp_7 with ⟨rfl, hw_7⟩ | ⟨rfl, hw_7⟩
        · refine lv_if_ne (tgt := 46) zx zb dX10_seen_36 (by decide) (fun c_8 => ?_) (fun c_8 => absurd c_8 (by decide))
          refine lv_aload_n zx zb dX10_seen_46 rfl (lv_at hl 0 rfl) ?_
          refine r_get (C := RX10) (T := TX10) (N := 14) (ci := 8) (v := .ref nw) S in_X10_seen_X10 G 0 rfl rfl 0 (by decide) lk_X10_seen_10 rfl dX10_seen_47 ?_
          refine r_get (C := RX5) (T := TX5) (N := 8) (ci := 3) (v := .ref (an 9)) S in_X10_seen_X5 G 1 rfl rfl 5 (by decide) lk_X10_seen_185 rfl dX10_seen_50 ?_
          refine lv_iload_n zx zb dX10_seen_53 rfl (lv_at hl 1 rfl) ?_
          refine lv_iconst (v := 0) zx zb dX10_seen_54 (by decide) ?_
          refine lv_iload_n zx zb dX10_seen_55 rfl (lv_at hl 2 rfl) ?_
          refine lv_iload_n zx zb dX10_seen_56 rfl (lv_at hl 3 rfl) ?_
          refine lv_iload zx zb dX10_seen_57 (lv_at hl 4 rfl) ?_
          refine b_wi (cells' := 0) (slots' := 0) (wr := @HAppend.hAppend va_W va_W va_W _ (xW h0 nw sp xa la lb) (@HAppend.hAppend va_W va_W va_W _ ([(nw, .inr (3, [.int (v 0), .int (v 1), .int (nI (b 0)), .ref (an 0), .ref (an 7), .ref (an 9), .ref (an 11), .ref (an 13)])), ((an 0), .inl (X.2.2.2.2, 6, .inr (.inr (.inr (.inr (rowQ an)))))), ((an 1), .inr (6, [.int (v 10), .int (v 11), .int (v 12), .int (v 13), .int (v 14), .int (v 15), .int (v 16), .int (v 17)])), ((an 2), .inr (6, [.int (v 18), .int (v 19), .int (v 20), .int (v 21), .int (v 22), .int (v 23), .int (v 24), .int (v 25)])), ((an 3), .inr (6, [.int (v 26), .int (v 27), .int (v 28), .int (v 29), .int (v 30), .int (v 31), .int (v 32), .int (v 33)])), ((an 4), .inr (6, [.int (v 34), .int (v 35), .int (v 36), .int (v 37), .int (v 38), .int (v 39), .int (v 40), .int (v 41)])), ((an 5), .inr (6, [.int (v 42), .int (v 43), .int (v 44), .int (v 45), .int (v 46), .int (v 47), .int (v 48), .int (v 49)])), ((an 6), .inr (6, [.int (v 50), .int (v 51), .int (v 52), .int (v 53), .int (v 54), .int (v 55), .int (v 56), .int (v 57)])), ((an 7), .inr (2, [.ref (an 8), .int (nI (b 1))])), ((an 8), .inl (X.2.1, 248, .inl (g 0))), ((an 11), .inr (5, [.int 6, .int 1, .int 1, .ref (an 12), .int (nI (b 3))])), ((an 12), .inl (X.2.1, 30, .inl (g 2))), ((an 13), .inr (5, [.int 6, .int 0, .int 0, .ref (an 14), .int (nI (b 4))])), ((an 14), .inl (X.2.1, 30, .inl (g 3)))]) ([((xa 5), .inl (X.2.1, 3, .inl fr))]))) G rfl rfl [11, 12] [0, 1, 2, 3, 4, 5, 6, 7, 8, 9, 10, 13, 14, 15, 16, 17] rfl rfl rfl rfl (n_V (As := [.int (nI j_1), .int 0, .int x2, .int x3, .int x4]) (rest := []) (C := RX7) (T := TX7) (N := 5) (ci := 5) S G (s_append0 l X (an 9) (an 10) (b 2) (g 1) (nI j_1) 0 x2 x3 x4 hb2_b H.size) gX10_seen_X7_append rfl rfl rfl hdV_X7_append ⟨Nat.le_of_ble_eq_true rfl, Nat.le_of_ble_eq_true rfl⟩ [11, 12] rfl rfl 11 rfl rfl rfl hl.1 (Nat.le_of_ble_eq_true rfl) dX10_seen_59 ⟨Nat.le_of_ble_eq_true rfl, Nat.le_of_ble_eq_true rfl⟩) (fun r_9 u_9 H locs hp_9 G => ?_)
          obtain ⟨n_9a, f_9b⟩ := u_9
          obtain ⟨hI_n_9a, hq_9⟩ := hp_9
          obtain ⟨b_10, g_11, hI_b_10, hE_b_10_0, hE_b_10_1, hE_b_10_2, hE_b_10_3, hE_b_10_4, G⟩ : ∃ (b_10 : Nat → Nat) (g_11 : Nat → Nat → Int32), InR b_10 ∧ b_10 0 = b 0 ∧ b_10 1 = b 1 ∧ b_10 2 = n_9a ∧ b_10 3 = b 3 ∧ b_10 4 = b 4 ∧ wd X (va_A (@HAppend.hAppend va_W va_W va_W _ (xW h0 nw sp xa la lb) (@HAppend.hAppend va_W va_W va_W _ (rcW X nw an v b g) ([((xa 5), .inl (X.2.1, 3, .inl fr))]))) sz) (va_A (@HAppend.hAppend va_W va_W va_W _ (xW h0 nw sp xa la lb) (@HAppend.hAppend va_W va_W va_W _ (rcW X nw an v b g) ([((xa 5), .inl (X.2.1, 3, .inl fr))]))) sz) s (@HAppend.hAppend va_W va_W va_W _ (xW h0 nw sp xa la lb) (@HAppend.hAppend va_W va_W va_W _ (rcW X nw an v b_10 g_11) ([((xa 5), .inl (X.2.1, 3, .inl fr))]))) H locs := ⟨(upN b 2 n_9a), (upG g 1 f_9b), ⟨hb0_b, hb1_b, hI_n_9a, hb3_b, hb4_b⟩, rfl, rfl, rfl, rfl, rfl, wd_sub G [0, 1, 2, 3, 4, 5, 6, 7, 8, 9, 10, 16, 17, 11, 12, 13, 14, 15] rfl rfl⟩
          have hO_b_10 := hI_b_10
          obtain ⟨hb0_b_10, hb1_b_10, hb2_b_10, hb3_b_10, hb4_b_10⟩ := hO_b_10
          refine k_cutW (PP := fun Wx => ∀ (x_13 : Int32) (f_14 : Nat → Int32) (H : Heap) (locs : List Loc) (ls : Array Slot), wd X (va_A (@HAppend.hAppend va_W va_W va_W _ (xW h0 nw sp xa la lb) (@HAppend.hAppend va_W va_W va_W _ (rcW X nw an v b g) ([((xa 5), .inl (X.2.1, 3, .inl fr))]))) sz) (va_A (@HAppend.hAppend va_W va_W va_W _ (xW h0 nw sp xa la lb) (@HAppend.hAppend va_W va_W va_W _ (rcW X nw an v b g) ([((xa 5), .inl (X.2.1, 3, .inl fr))]))) sz) s (@HAppend.hAppend va_W va_W va_W _ (xW h0 nw sp xa la lb) (@HAppend.hAppend va_W va_W va_W _ (rcW X nw an v b_10 g_11) ([((xa 5), .inl (X.2.1, 3, .inl f_14))]))) H locs → lv_has ls 5 [(0, .ref h0), (1, .int (nI j_1)), (2, .int x2), (3, .int x3), (4, .int x4)] → Wx (F0 m 84 ls [.int x_13]) H locs) ?_ ?_
          · intro join_62
            refine lv_if_eq (tgt := 78) zx zb dX10_seen_62 (by decide) (fun c_12 => ?_) (fun c_12 => ?_)
            · refine lv_aload_n zx zb dX10_seen_78 rfl (lv_at hl 0 rfl) ?_
              refine lv_bipush (v := (-4)) zx zb dX10_seen_79 (by decide) ?_
              refine b_wi (cells' := 0) (slots' := 0) (wr := rcW X nw an v b_10 g_11) G rfl rfl [0, 17] [1, 2, 3, 4, 5, 6, 7, 8, 9, 10, 11, 12, 13, 14, 15, 16] rfl rfl rfl rfl (n_V (As := [.int (-4)]) (rest := []) (C := RX10) (T := TX10) (N := 14) (ci := 8) S G (s_refuse l X h0 nw sp xa la lb fr (-4) H.size) gX10_seen_X10_refuse rfl rfl rfl hdV_X10_refuse ⟨Nat.le_of_ble_eq_true rfl, Nat.le_of_ble_eq_true rfl⟩ [0, 17] rfl rfl 0 rfl rfl rfl hl.1 (Nat.le_of_ble_eq_true rfl) dX10_seen_81 ⟨Nat.le_of_ble_eq_true rfl, Nat.le_of_ble_eq_true rfl⟩) (fun r_15 u_15 H locs hp_15 G => ?_)
              obtain ⟨f_15, rfl⟩ : ∃ z, z = u_15 := ⟨_, rfl⟩
              have hq_15 := hp_15
              have G : wd X (va_A (@HAppend.hAppend va_W va_W va_W _ (xW h0 nw sp xa la lb) (@HAppend.hAppend va_W va_W va_W _ (rcW X nw an v b g) ([((xa 5), .inl (X.2.1, 3, .inl fr))]))) sz) (va_A (@HAppend.hAppend va_W va_W va_W _ (xW h0 nw sp xa la lb) (@HAppend.hAppend va_W va_W va_W _ (rcW X nw an v b g) ([((xa 5), .inl (X.2.1, 3, .inl fr))]))) sz) s (@HAppend.hAppend va_W va_W va_W _ (rcW X nw an v b_10 g_11) (@HAppend.hAppend va_W va_W va_W _ (xW h0 nw sp xa la lb) ([((xa 5), .inl (X.2.1, 3, .inl f_15))]))) H locs := G
              have G : wd X (va_A (@HAppend.hAppend va_W va_W va_W _ (xW h0 nw sp xa la lb) (@HAppend.hAppend va_W va_W va_W _ (rcW X nw an v b g) ([((xa 5), .inl (X.2.1, 3, .inl fr))]))) sz) (va_A (@HAppend.hAppend va_W va_W va_W _ (xW h0 nw sp xa la lb) (@HAppend.hAppend va_W va_W va_W _ (rcW X nw an v b g) ([((xa 5), .inl (X.2.1, 3, .inl fr))]))) sz) s (@HAppend.hAppend va_W va_W va_W _ (xW h0 nw sp xa la lb) (@HAppend.hAppend va_W va_W va_W _ (rcW X nw an v b_10 g_11) ([((xa 5), .inl (X.2.1, 3, .inl f_15))]))) H locs := wd_sub G [16, 0, 1, 2, 3, 4, 5, 6, 7, 8, 9, 10, 11, 12, 13, 14, 15, 17] rfl rfl
              exact join_62 r_15 f_15 _ _ _  G hl
            · refine lv_aload_n zx zb dX10_seen_65 rfl (lv_at hl 0 rfl) ?_
              refine r_get (C := RX10) (T := TX10) (N := 14) (ci := 8) (v := .ref nw) S in_X10_seen_X10 G 0 rfl rfl 0 (by decide) lk_X10_seen_10 rfl dX10_seen_66 ?_
              refine r_get (C := RX5) (T := TX5) (N := 8) (ci := 3) (v := .ref (an 9)) S in_X10_seen_X5 G 1 rfl rfl 5 (by decide) lk_X10_seen_185 rfl dX10_seen_69 ?_
              refine r_get (C := RX7) (T := TX7) (N := 5) (ci := 5) (v := .int (nI (b_10 2))) S in_X10_seen_X7 G 11 rfl rfl 4 (by decide) lk_X10_seen_194 rfl dX10_seen_72 ?_
              refine lv_goto (tgt := 84) zx zb dX10_seen_75 (by decide) ?_
              exact join_62 (nI (b_10 2)) fr _ _ _  G hl
          · intro x_13 f_14 H locs ls  G hl
            exact e_int S zr zlk (vp_nar_int _) G (v, b_10, g_11, f_14) [0, 1, 2, 3, 4, 5, 6, 7, 8, 9, 10, 11, 12, 13, 14, 15, 16, 17] rfl rfl (Or.inr rfl) (⟨hI_b_10, trivial⟩) dX10_seen_84
        · refine lv_if_ne (tgt := 46) zx zb dX10_seen_36 (by decide) (fun c_16 => absurd (by decide) c_16) (fun c_16 => ?_)
          refine lv_aload_n zx zb dX10_seen_39 rfl (lv_at hl 0 rfl) ?_
          refine lv_bipush (v := (-2)) zx zb dX10_seen_40 (by decide) ?_
          refine b_wi (cells' := 0) (slots' := 0) (wr := rcW X nw an v b g) G rfl rfl [0, 17] [1, 2, 3, 4, 5, 6, 7, 8, 9, 10, 11, 12, 13, 14, 15, 16] rfl rfl rfl rfl (n_V (As := [.int (-2)]) (rest := []) (C := RX10) (T := TX10) (N := 14) (ci := 8) S G (s_refuse l X h0 nw sp xa la lb fr (-2) H.size) gX10_seen_X10_refuse rfl rfl rfl hdV_X10_refuse ⟨Nat.le_of_ble_eq_true rfl, Nat.le_of_ble_eq_true rfl⟩ [0, 17] rfl rfl 0 rfl rfl rfl hl.1 (Nat.le_of_ble_eq_true rfl) dX10_seen_42 ⟨Nat.le_of_ble_eq_true rfl, Nat.le_of_ble_eq_true rfl⟩) (fun r_17 u_17 H locs hp_17 G => ?_)
          obtain ⟨f_17, rfl⟩ : ∃ z, z = u_17 := ⟨_, rfl⟩
          have hq_17 := hp_17
          have G : wd X (va_A (@HAppend.hAppend va_W va_W va_W _ (xW h0 nw sp xa la lb) (@HAppend.hAppend va_W va_W va_W _ (rcW X nw an v b g) ([((xa 5), .inl (X.2.1, 3, .inl fr))]))) sz) (va_A (@HAppend.hAppend va_W va_W va_W _ (xW h0 nw sp xa la lb) (@HAppend.hAppend va_W va_W va_W _ (rcW X nw an v b g) ([((xa 5), .inl (X.2.1, 3, .inl fr))]))) sz) s (@HAppend.hAppend va_W va_W va_W _ (rcW X nw an v b g) (@HAppend.hAppend va_W va_W va_W _ (xW h0 nw sp xa la lb) ([((xa 5), .inl (X.2.1, 3, .inl f_17))]))) H locs := G
          exact e_int S zr zlk (vp_nar_int _) G (v, b, g, f_17) [16, 0, 1, 2, 3, 4, 5, 6, 7, 8, 9, 10, 11, 12, 13, 14, 15, 17] rfl rfl (Or.inr rfl) (⟨hI_b, trivial⟩) dX10_seen_45
      · refine lv_if_eq (tgt := 39) zx zb dX10_seen_25 (by decide) (fun c_18 => ?_) (fun c_18 => absurd (by decide) c_18)
        refine lv_aload_n zx zb dX10_seen_39 rfl (lv_at hl 0 rfl) ?_
        refine lv_bipush (v := (-2)) zx zb dX10_seen_40 (by decide) ?_
        refine b_wi (cells' := 0) (slots' := 0) (wr := rcW X nw an v b g) G rfl rfl [0, 17] [1, 2, 3, 4, 5, 6, 7, 8, 9, 10, 11, 12, 13, 14, 15, 16] rfl rfl rfl rfl (n_V (As := [.int (-2)]) (rest := []) (C := RX10) (T := TX10) (N := 14) (ci := 8) S G (s_refuse l X h0 nw sp xa la lb fr (-2) H.size) gX10_seen_X10_refuse rfl rfl rfl hdV_X10_refuse ⟨Nat.le_of_ble_eq_true rfl, Nat.le_of_ble_eq_true rfl⟩ [0, 17] rfl rfl 0 rfl rfl rfl hl.1 (Nat.le_of_ble_eq_true rfl) dX10_seen_42 ⟨Nat.le_of_ble_eq_true rfl, Nat.le_of_ble_eq_true rfl⟩) (fun r_19 u_19 H locs hp_19 G => ?_)
        obtain ⟨f_19, rfl⟩ : ∃ z, z = u_19 := ⟨_, rfl⟩
        have hq_19 := hp_19
        have G : wd X (va_A (@HAppend.hAppend va_W va_W va_W _ (xW h0 nw sp xa la lb) (@HAppend.hAppend va_W va_W va_W _ (rcW X nw an v b g) ([((xa 5), .inl (X.2.1, 3, .inl fr))]))) sz) (va_A (@HAppend.hAppend va_W va_W va_W _ (xW h0 nw sp xa la lb) (@HAppend.hAppend va_W va_W va_W _ (rcW X nw an v b g) ([((xa 5), .inl (X.2.1, 3, .inl fr))]))) sz) s (@HAppend.hAppend va_W va_W va_W _ (rcW X nw an v b g) (@HAppend.hAppend va_W va_W va_W _ (xW h0 nw sp xa la lb) ([((xa 5), .inl (X.2.1, 3, .inl f_19))]))) H locs := G
        exact e_int S zr zlk (vp_nar_int _) G (v, b, g, f_19) [16, 0, 1, 2, 3, 4, 5, 6, 7, 8, 9, 10, 11, 12, 13, 14, 15, 17] rfl rfl (Or.inr rfl) (⟨hI_b, trivial⟩) dX10_seen_45
    · refine lv_if_eq (tgt := 39) zx zb dX10_seen_15 (by decide) (fun c_20 => ?_) (fun c_20 => absurd (by decide) c_20)
      refine lv_aload_n zx zb dX10_seen_39 rfl (lv_at hl 0 rfl) ?_
      refine lv_bipush (v := (-2)) zx zb dX10_seen_40 (by decide) ?_
      refine b_wi (cells' := 0) (slots' := 0) (wr := rcW X nw an v b g) G rfl rfl [0, 17] [1, 2, 3, 4, 5, 6, 7, 8, 9, 10, 11, 12, 13, 14, 15, 16] rfl rfl rfl rfl (n_V (As := [.int (-2)]) (rest := []) (C := RX10) (T := TX10) (N := 14) (ci := 8) S G (s_refuse l X h0 nw sp xa la lb fr (-2) H.size) gX10_seen_X10_refuse rfl rfl rfl hdV_X10_refuse ⟨Nat.le_of_ble_eq_true rfl, Nat.le_of_ble_eq_true rfl⟩ [0, 17] rfl rfl 0 rfl rfl rfl hl.1 (Nat.le_of_ble_eq_true rfl) dX10_seen_42 ⟨Nat.le_of_ble_eq_true rfl, Nat.le_of_ble_eq_true rfl⟩) (fun r_21 u_21 H locs hp_21 G => ?_)
      obtain ⟨f_21, rfl⟩ : ∃ z, z = u_21 := ⟨_, rfl⟩
      have hq_21 := hp_21
      have G : wd X (va_A (@HAppend.hAppend va_W va_W va_W _ (xW h0 nw sp xa la lb) (@HAppend.hAppend va_W va_W va_W _ (rcW X nw an v b g) ([((xa 5), .inl (X.2.1, 3, .inl fr))]))) sz) (va_A (@HAppend.hAppend va_W va_W va_W _ (xW h0 nw sp xa la lb) (@HAppend.hAppend va_W va_W va_W _ (rcW X nw an v b g) ([((xa 5), .inl (X.2.1, 3, .inl fr))]))) sz) s (@HAppend.hAppend va_W va_W va_W _ (rcW X nw an v b g) (@HAppend.hAppend va_W va_W va_W _ (xW h0 nw sp xa la lb) ([((xa 5), .inl (X.2.1, 3, .inl f_21))]))) H locs := G
      exact e_int S zr zlk (vp_nar_int _) G (v, b, g, f_21) [16, 0, 1, 2, 3, 4, 5, 6, 7, 8, 9, 10, 11, 12, 13, 14, 15, 17] rfl rfl (Or.inr rfl) (⟨hI_b, trivial⟩) dX10_seen_45
  · refine lv_if_eq (tgt := 39) zx zb dX10_seen_5 (by decide) (fun c_22 => ?_) (fun c_22 => absurd (by decide) c_22)
    refine lv_aload_n zx zb dX10_seen_39 rfl (lv_at hl 0 rfl) ?_
    refine lv_bipush (v := (-2)) zx zb dX10_seen_40 (by decide) ?_
    refine b_wi (cells' := 0) (slots' := 0) (wr := rcW X nw an v b g) G rfl rfl [0, 17] [1, 2, 3, 4, 5, 6, 7, 8, 9, 10, 11, 12, 13, 14, 15, 16] rfl rfl rfl rfl (n_V (As := [.int (-2)]) (rest := []) (C := RX10) (T := TX10) (N := 14) (ci := 8) S G (s_refuse l X h0 nw sp xa la lb fr (-2) H.size) gX10_seen_X10_refuse rfl rfl rfl hdV_X10_refuse ⟨Nat.le_of_ble_eq_true rfl, Nat.le_of_ble_eq_true rfl⟩ [0, 17] rfl rfl 0 rfl rfl rfl hl.1 (Nat.le_of_ble_eq_true rfl) dX10_seen_42 ⟨Nat.le_of_ble_eq_true rfl, Nat.le_of_ble_eq_true rfl⟩) (fun r_23 u_23 H locs hp_23 G => ?_)
    obtain ⟨f_23, rfl⟩ : ∃ z, z = u_23 := ⟨_, rfl⟩
    have hq_23 := hp_23
    have G : wd X (va_A (@HAppend.hAppend va_W va_W va_W _ (xW h0 nw sp xa la lb) (@HAppend.hAppend va_W va_W va_W _ (rcW X nw an v b g) ([((xa 5), .inl (X.2.1, 3, .inl fr))]))) sz) (va_A (@HAppend.hAppend va_W va_W va_W _ (xW h0 nw sp xa la lb) (@HAppend.hAppend va_W va_W va_W _ (rcW X nw an v b g) ([((xa 5), .inl (X.2.1, 3, .inl fr))]))) sz) s (@HAppend.hAppend va_W va_W va_W _ (rcW X nw an v b g) (@HAppend.hAppend va_W va_W va_W _ (xW h0 nw sp xa la lb) ([((xa 5), .inl (X.2.1, 3, .inl f_23))]))) H locs := G
    exact e_int S zr zlk (vp_nar_int _) G (v, b, g, f_23) [16, 0, 1, 2, 3, 4, 5, 6, 7, 8, 9, 10, 11, 12, 13, 14, 15, 17] rfl rfl (Or.inr rfl) (⟨hI_b, trivial⟩) dX10_seen_45
theorem in_X10_note_X10 : ∀ w ∈ wsX100, w ∈ wsX10_note := by decide +kernel
theorem lk_X10_note_10 : Cond.fieldLink RX10 10 "EggSpoons" "now" "LEggSpoons$Race;" ∈ wsX10_note := by decide +kernel
theorem in_X10_note_X5 : ∀ w ∈ wsX50, w ∈ wsX10_note := by decide +kernel
theorem lk_X10_note_212 : Cond.fieldLink RX10 212 "EggSpoons$Race" "noteRows" "LEggSpoons$Rows;" ∈ wsX10_note := by decide +kernel
theorem in_X10_note_X7 : ∀ w ∈ wsX70, w ∈ wsX10_note := by decide +kernel
theorem lk_X10_note_194 : Cond.fieldLink RX10 194 "EggSpoons$Rows" "size" "I" ∈ wsX10_note := by decide +kernel
set_option maxHeartbeats 4000000 in
set_option maxRecDepth 100000 in
/-- note -/
theorem s_note (l : Launch) (X : EX) (h0 : Nat) (nw : Nat) (sp : Nat) (xa : Nat → Nat) (la : Int64) (lb : Int64) (an : Nat → Nat) (v : Nat → Int32) (b : Nat → Nat) (g : Nat → Nat → Int32) (fr : Nat → Int32) (x1 : Int32) (x2 : Int32) (x3 : Int32) (x4 : Int32) (x5 : Int32) (hI_b : InR b) (sz : Nat) : Met l yX10_note wsX10_note ({ frames := 1, cells := 0, slots := 0, locals := 26 } : Room) (pE X [.ref h0, .int x1, .int x2, .int x3, .int x4, .int x5] (@HAppend.hAppend va_W va_W va_W _ (xW h0 nw sp xa la lb) (@HAppend.hAppend va_W va_W va_W _ (rcW X nw an v b g) ([((xa 5), .inl (X.2.1, 3, .inl fr))]))) sz) (qI (fun (r : Int32) (u : (Nat → Int32) × (Nat → Nat) × (Nat → Nat → Int32) × (Nat → Int32)) => InR u.2.1 ∧ (True)) X (fun (u : (Nat → Int32) × (Nat → Nat) × (Nat → Nat → Int32) × (Nat → Int32)) => @HAppend.hAppend va_W va_W va_W _ (xW h0 nw sp xa la lb) (@HAppend.hAppend va_W va_W va_W _ (rcW X nw an u.1 u.2.1 u.2.2.1) ([((xa 5), .inl (X.2.1, 3, .inl u.2.2.2))]))) (@HAppend.hAppend va_W va_W va_W _ (xW h0 nw sp xa la lb) (@HAppend.hAppend va_W va_W va_W _ (rcW X nw an v b g) ([((xa 5), .inl (X.2.1, 3, .inl fr))]))) sz) 0 0 (va_A (@HAppend.hAppend va_W va_W va_W _ (xW h0 nw sp xa la lb) (@HAppend.hAppend va_W va_W va_W _ (rcW X nw an v b g) ([((xa 5), .inl (X.2.1, 3, .inl fr))]))) sz) := by
  refine mk_met (B := (va_A (@HAppend.hAppend va_W va_W va_W _ (xW h0 nw sp xa la lb) (@HAppend.hAppend va_W va_W va_W _ (rcW X nw an v b g) ([((xa 5), .inl (X.2.1, 3, .inl fr))]))) sz)) (A := (va_A (@HAppend.hAppend va_W va_W va_W _ (xW h0 nw sp xa la lb) (@HAppend.hAppend va_W va_W va_W _ (rcW X nw an v b g) ([((xa 5), .inl (X.2.1, 3, .inl fr))]))) sz)) (cc := cX10_note) (maxL := 6) (ret := (some .int)) (by decide) rfl (Nat.le_of_ble_eq_true rfl) k_w k_a (fun p e s m below meth c S zr zlk znm zsz G ls hl => ?_)
  have S : CallFix p m c cX10_note 6 s _ wsX10_note RX10 := S
  have zx := S.1
  have zb := S.2.1
  have hl : lv_has ls 6 [(0, .ref h0), (1, .int x1), (2, .int x2), (3, .int x3), (4, .int x4), (5, .int x5)] := hl
  have hO_b := hI_b
  obtain ⟨hb0_b, hb1_b, hb2_b, hb3_b, hb4_b⟩ := hO_b
  refine lv_aload_n zx zb dX10_note_0 rfl (lv_at hl 0 rfl) ?_
  refine lv_iload_n zx zb dX10_note_1 rfl (lv_at hl 1 rfl) ?_
  refine o_ri (cells' := 0) (slots' := 0) G rfl rfl (n_V (As := [.int x1]) (rest := []) (C := RX10) (T := TX10) (N := 14) (ci := 8) S G (s_there l X h0 nw sp xa la lb an v b g x1 hI_b s.heap.size) gX10_note_X10_there rfl rfl rfl hdV_X10_there ⟨Nat.le_of_ble_eq_true rfl, Nat.le_of_ble_eq_true rfl⟩ [0, 1, 2, 3, 4, 5, 6, 7, 8, 9, 10, 11, 12, 13, 14, 15, 16] rfl rfl 0 rfl rfl rfl hl.1 (Nat.le_of_ble_eq_true rfl) dX10_note_2 ⟨Nat.le_of_ble_eq_true rfl, Nat.le_of_ble_eq_true rfl⟩) (fun r_1 u_1 H locs hp_1 G => ?_)
  have G : wd X (va_A (@HAppend.hAppend va_W va_W va_W _ (xW h0 nw sp xa la lb) (@HAppend.hAppend va_W va_W va_W _ (rcW X nw an v b g) ([((xa 5), .inl (X.2.1, 3, .inl fr))]))) sz) (va_A (@HAppend.hAppend va_W va_W va_W _ (xW h0 nw sp xa la lb) (@HAppend.hAppend va_W va_W va_W _ (rcW X nw an v b g) ([((xa 5), .inl (X.2.1, 3, .inl fr))]))) sz) s (@HAppend.hAppend va_W va_W va_W _ (xW h0 nw sp xa la lb) (@HAppend.hAppend va_W va_W va_W _ (rcW X nw an v b g) ([((xa 5), .inl (X.2.1, 3, .inl fr))]))) H locs := G
  rcases hp_1 with ⟨rfl, hj_1⟩ | rfl
  · obtain ⟨j_1, hj_1, rfl⟩ := hj_1
    refine lv_if_eq (tgt := 50) zx zb dX10_note_5 (by decide) (fun c_2 => absurd c_2 (by decide)) (fun c_2 => ?_)
    refine lv_iload_n zx zb dX10_note_8 rfl (lv_at hl 2 rfl) ?_
    refine lv_iconst (v := 1) zx zb dX10_note_9 (by decide) ?_
    refine lv_bipush (v := 9) zx zb dX10_note_10 (by decide) ?_
    refine o_ri (cells' := 0) (slots' := 0) G rfl rfl (n_S (As := [.int x2, .int 1, .int 9]) (rest := []) S G (s_within l X x2 1 9 H.size) gX10_note_X10_within rfl rfl rfl hdS_X10_within ⟨Nat.le_of_ble_eq_true rfl, Nat.le_of_ble_eq_true rfl⟩ [] rfl rfl rfl hl.1 (Nat.le_of_ble_eq_true rfl) dX10_note_12 ⟨Nat.le_of_ble_eq_true rfl, Nat.le_of_ble_eq_true rfl⟩) (fun r_3 u_3 H locs hp_3 G => ?_)
    have G : wd X (va_A (@HAppend.hAppend va_W va_W va_W _ (xW h0 nw sp xa la lb) (@HAppend.hAppend va_W va_W va_W _ (rcW X nw an v b g) ([((xa 5), .inl (X.2.1, 3, .inl fr))]))) sz) (va_A (@HAppend.hAppend va_W va_W va_W _ (xW h0 nw sp xa la lb) (@HAppend.hAppend va_W va_W va_W _ (rcW X nw an v b g) ([((xa 5), .inl (X.2.1, 3, .inl fr))]))) sz) s (@HAppend.hAppend va_W va_W va_W _ (xW h0 nw sp xa la lb) (@HAppend.hAppend va_W va_W va_W _ (rcW X nw an v b g) ([((xa 5), .inl (X.2.1, 3, .inl fr))]))) H locs := G
    rcases hp_3 with ⟨rfl, hw_3⟩ | ⟨rfl, hw_3⟩
    · refine lv_if_eq (tgt := 50) zx zb dX10_note_15 (by decide) (fun c_4 => absurd c_4 (by decide)) (fun c_4 => ?_)
      refine lv_iload_n zx zb dX10_note_18 rfl (lv_at hl 3 rfl) ?_
      refine lv_iconst (v := 0) zx zb dX10_note_19 (by decide) ?_
      refine lv_bipush (v := 99) zx zb dX10_note_20 (by decide) ?_
      refine o_ri (cells' := 0) (slots' := 0) G rfl rfl (n_S (As := [.int x3, .int 0, .int 99]) (rest := []) S G (s_within l X x3 0 99 H.size) gX10_note_X10_within rfl rfl rfl hdS_X10_within ⟨Nat.le_of_ble_eq_true rfl, Nat.le_of_ble_eq_true rfl⟩ [] rfl rfl rfl hl.1 (Nat.le_of_ble_eq_true rfl) dX10_note_22 ⟨Nat.le_of_ble_eq_true rfl, Nat.le_of_ble_eq_true rfl⟩) (fun r_5 u_5 H locs hp_5 G => ?_)
      have G : wd X (va_A (@HAppend.hAppend va_W va_W va_W _ (xW h0 nw sp xa la lb) (@HAppend.hAppend va_W va_W va_W _ (rcW X nw an v b g) ([((xa 5), .inl (X.2.1, 3, .inl fr))]))) sz) (va_A (@HAppend.hAppend va_W va_W va_W _ (xW h0 nw sp xa la lb) (@HAppend.hAppend va_W va_W va_W _ (rcW X nw an v b g) ([((xa 5), .inl (X.2.1, 3, .inl fr))]))) sz) s (@HAppend.hAppend va_W va_W va_W _ (xW h0 nw sp xa la lb) (@HAppend.hAppend va_W va_W va_W _ (rcW X nw an v b g) ([((xa 5), .inl (X.2.1, 3, .inl fr))]))) H locs := G
      rcases hp_5 with ⟨rfl, hw_5⟩ | ⟨rfl, hw_5⟩
      · refine lv_if_eq (tgt := 50) zx zb dX10_note_25 (by decide) (fun c_6 => absurd c_6 (by decide)) (fun c_6 => ?_)
        refine lv_iload zx zb dX10_note_28 (lv_at hl 4 rfl) ?_
        refine lv_iconst (v := 0) zx zb dX10_note_30 (by decide) ?_
        refine lv_bipush (v := 9) zx zb dX10_note_31 (by decide) ?_
        refine o_ri (cells' := 0) (slots' := 0) G rfl rfl (n_S (As := [.int x4, .int 0, .int 9]) (rest := []) S G (s_within l X x4 0 9 H.size) gX10_note_X10_within rfl rfl rfl hdS_X10_within ⟨Nat.le_of_ble_eq_true rfl, Nat.le_of_ble_eq_true rfl⟩ [] rfl rfl rfl hl.1 (Nat.le_of_ble_eq_true rfl) dX10_note_33 ⟨Nat.le_of_ble_eq_true rfl, Nat.le_of_ble_eq_true rfl⟩) (fun r_7 u_7 H locs hp_7 G => ?_)
        have G : wd X (va_A (@HAppend.hAppend va_W va_W va_W _ (xW h0 nw sp xa la lb) (@HAppend.hAppend va_W va_W va_W _ (rcW X nw an v b g) ([((xa 5), .inl (X.2.1, 3, .inl fr))]))) sz) (va_A (@HAppend.hAppend va_W va_W va_W _ (xW h0 nw sp xa la lb) (@HAppend.hAppend va_W va_W va_W _ (rcW X nw an v b g) ([((xa 5), .inl (X.2.1, 3, .inl fr))]))) sz) s (@HAppend.hAppend va_W va_W va_W _ (xW h0 nw sp xa la lb) (@HAppend.hAppend va_W va_W va_W _ (rcW X nw an v b g) ([((xa 5), .inl (X.2.1, 3, .inl fr))]))) H locs := G
        rcases hp_7 with ⟨rfl, hw_7⟩ | ⟨rfl, hw_7⟩
        · refine lv_if_eq (tgt := 50) zx zb dX10_note_36 (by decide) (fun c_8 => absurd c_8 (by decide)) (fun c_8 => ?_)
          refine lv_iload zx zb dX10_note_39 (lv_at hl 5 rfl) ?_
          refine lv_iconst (v := 0) zx zb dX10_note_41 (by decide) ?_
          refine lv_bipush (v := 15) zx zb dX10_note_42 (by decide) ?_
          refine o_ri (cells' := 0) (slots' := 0) G rfl rfl (n_S (As := [.int x5, .int 0, .int 15]) (rest := []) S G (s_within l X x5 0 15 H.size) gX10_note_X10_within rfl rfl rfl hdS_X10_within ⟨Nat.le_of_ble_eq_true rfl, Nat.le_of_ble_eq_true rfl⟩ [] rfl rfl rfl hl.1 (Nat.le_of_ble_eq_true rfl) dX10_note_44 ⟨Nat.le_of_ble_eq_true rfl, Nat.le_of_ble_eq_true rfl⟩) (fun r_9 u_9 H locs hp_9 G => ?_)
          have G : wd X (va_A (@HAppend.hAppend va_W va_W va_W _ (xW h0 nw sp xa la lb) (@HAppend.hAppend va_W va_W va_W _ (rcW X nw an v b g) ([((xa 5), .inl (X.2.1, 3, .inl fr))]))) sz) (va_A (@HAppend.hAppend va_W va_W va_W _ (xW h0 nw sp xa la lb) (@HAppend.hAppend va_W va_W va_W _ (rcW X nw an v b g) ([((xa 5), .inl (X.2.1, 3, .inl fr))]))) sz) s (@HAppend.hAppend va_W va_W va_W _ (xW h0 nw sp xa la lb) (@HAppend.hAppend va_W va_W va_W _ (rcW X nw an v b g) ([((xa 5), .inl (X.2.1, 3, .inl fr))]))) H locs := G
          rcases hp_9 with ⟨rfl, hw_9⟩ | ⟨rfl, hw_9⟩
          · refine lv_if_ne (tgt := 57) zx zb dX10_note_47 (by decide) (fun c_10 => ?_) (fun c_10 => absurd c_10 (by decide))
            refine lv_aload_n zx zb dX10_note_57 rfl (lv_at hl 0 rfl) ?_
            refine r_get (C := RX10) (T := TX10) (N := 14) (ci := 8) (v := .ref nw) S in_X10_note_X10 G 0 rfl rfl 0 (by decide) lk_X10_note_10 rfl dX10_note_58 ?_
            refine r_get (C := RX5) (T := TX5) (N := 8) (ci := 3) (v := .ref (an 11)) S in_X10_note_X5 G 1 rfl rfl 6 (by decide) lk_X10_note_212 rfl dX10_note_61 ?_
            refine lv_iload_n zx zb dX10_note_64 rfl (lv_at hl 1 rfl) ?_
            refine lv_iload_n zx zb dX10_note_65 rfl (lv_at hl 2 rfl) ?_
            refine lv_iload_n zx zb dX10_note_66 rfl (lv_at hl 3 rfl) ?_
            refine lv_iload zx zb dX10_note_67 (lv_at hl 4 rfl) ?_
            refine lv_iload zx zb dX10_note_69 (lv_at hl 5 rfl) ?_
            refine b_wi (cells' := 0) (slots' := 0) (wr := @HAppend.hAppend va_W va_W va_W _ (xW h0 nw sp xa la lb) (@HAppend.hAppend va_W va_W va_W _ ([(nw, .inr (3, [.int (v 0), .int (v 1), .int (nI (b 0)), .ref (an 0), .ref (an 7), .ref (an 9), .ref (an 11), .ref (an 13)])), ((an 0), .inl (X.2.2.2.2, 6, .inr (.inr (.inr (.inr (rowQ an)))))), ((an 1), .inr (6, [.int (v 10), .int (v 11), .int (v 12), .int (v 13), .int (v 14), .int (v 15), .int (v 16), .int (v 17)])), ((an 2), .inr (6, [.int (v 18), .int (v 19), .int (v 20), .int (v 21), .int (v 22), .int (v 23), .int (v 24), .int (v 25)])), ((an 3), .inr (6, [.int (v 26), .int (v 27), .int (v 28), .int (v 29), .int (v 30), .int (v 31), .int (v 32), .int (v 33)])), ((an 4), .inr (6, [.int (v 34), .int (v 35), .int (v 36), .int (v 37), .int (v 38), .int (v 39), .int (v 40), .int (v 41)])), ((an 5), .inr (6, [.int (v 42), .int (v 43), .int (v 44), .int (v 45), .int (v 46), .int (v 47), .int (v 48), .int (v 49)])), ((an 6), .inr (6, [.int (v 50), .int (v 51), .int (v 52), .int (v 53), .int (v 54), .int (v 55), .int (v 56), .int (v 57)])), ((an 7), .inr (2, [.ref (an 8), .int (nI (b 1))])), ((an 8), .inl (X.2.1, 248, .inl (g 0))), ((an 9), .inr (5, [.int 5, .int 0, .int 1, .ref (an 10), .int (nI (b 2))])), ((an 10), .inl (X.2.1, 25, .inl (g 1))), ((an 13), .inr (5, [.int 6, .int 0, .int 0, .ref (an 14), .int (nI (b 4))])), ((an 14), .inl (X.2.1, 30, .inl (g 3)))]) ([((xa 5), .inl (X.2.1, 3, .inl fr))]))) G rfl rfl [13, 14] [0, 1, 2, 3, 4, 5, 6, 7, 8, 9, 10, 11, 12, 15, 16, 17] rfl rfl rfl rfl (n_V (As := [.int (nI j_1), .int x2, .int x3, .int x4, .int x5]) (rest := []) (C := RX7) (T := TX7) (N := 5) (ci := 5) S G (s_append1 l X (an 11) (an 12) (b 3) (g 2) (nI j_1) x2 x3 x4 x5 hb3_b H.size) gX10_note_X7_append rfl rfl rfl hdV_X7_append ⟨Nat.le_of_ble_eq_true rfl, Nat.le_of_ble_eq_true rfl⟩ [13, 14] rfl rfl 13 rfl rfl rfl hl.1 (Nat.le_of_ble_eq_true rfl) dX10_note_71 ⟨Nat.le_of_ble_eq_true rfl, Nat.le_of_ble_eq_true rfl⟩) (fun r_11 u_11 H locs hp_11 G => ?_)
            obtain ⟨n_11a, f_11b⟩ := u_11
            obtain ⟨hI_n_11a, hq_11⟩ := hp_11
            obtain ⟨b_12, g_13, hI_b_12, hE_b_12_0, hE_b_12_1, hE_b_12_2, hE_b_12_3, hE_b_12_4, G⟩ : ∃ (b_12 : Nat → Nat) (g_13 : Nat → Nat → Int32), InR b_12 ∧ b_12 0 = b 0 ∧ b_12 1 = b 1 ∧ b_12 2 = b 2 ∧ b_12 3 = n_11a ∧ b_12 4 = b 4 ∧ wd X (va_A (@HAppend.hAppend va_W va_W va_W _ (xW h0 nw sp xa la lb) (@HAppend.hAppend va_W va_W va_W _ (rcW X nw an v b g) ([((xa 5), .inl (X.2.1, 3, .inl fr))]))) sz) (va_A (@HAppend.hAppend va_W va_W va_W _ (xW h0 nw sp xa la lb) (@HAppend.hAppend va_W va_W va_W _ (rcW X nw an v b g) ([((xa 5), .inl (X.2.1, 3, .inl fr))]))) sz) s (@HAppend.hAppend va_W va_W va_W _ (xW h0 nw sp xa la lb) (@HAppend.hAppend va_W va_W va_W _ (rcW X nw an v b_12 g_13) ([((xa 5), .inl (X.2.1, 3, .inl fr))]))) H locs := ⟨(upN b 3 n_11a), (upG g 2 f_11b), ⟨hb0_b, hb1_b, hb2_b, hI_n_11a, hb4_b⟩, rfl, rfl, rfl, rfl, rfl, wd_sub G [0, 1, 2, 3, 4, 5, 6, 7, 8, 9, 10, 11, 12, 16, 17, 13, 14, 15] rfl rfl⟩
            have hO_b_12 := hI_b_12
            obtain ⟨hb0_b_12, hb1_b_12, hb2_b_12, hb3_b_12, hb4_b_12⟩ := hO_b_12
            refine k_cutW (PP := fun Wx => ∀ (x_15 : Int32) (f_16 : Nat → Int32) (H : Heap) (locs : List Loc) (ls : Array Slot), wd X (va_A (@HAppend.hAppend va_W va_W va_W _ (xW h0 nw sp xa la lb) (@HAppend.hAppend va_W va_W va_W _ (rcW X nw an v b g) ([((xa 5), .inl (X.2.1, 3, .inl fr))]))) sz) (va_A (@HAppend.hAppend va_W va_W va_W _ (xW h0 nw sp xa la lb) (@HAppend.hAppend va_W va_W va_W _ (rcW X nw an v b g) ([((xa 5), .inl (X.2.1, 3, .inl fr))]))) sz) s (@HAppend.hAppend va_W va_W va_W _ (xW h0 nw sp xa la lb) (@HAppend.hAppend va_W va_W va_W _ (rcW X nw an v b_12 g_13) ([((xa 5), .inl (X.2.1, 3, .inl f_16))]))) H locs → lv_has ls 6 [(0, .ref h0), (1, .int (nI j_1)), (2, .int x2), (3, .int x3), (4, .int x4), (5, .int x5)] → Wx (F0 m 96 ls [.int x_15]) H locs) ?_ ?_
            · intro join_74
              refine lv_if_eq (tgt := 90) zx zb dX10_note_74 (by decide) (fun c_14 => ?_) (fun c_14 => ?_)
              · refine lv_aload_n zx zb dX10_note_90 rfl (lv_at hl 0 rfl) ?_
                refine lv_bipush (v := (-4)) zx zb dX10_note_91 (by decide) ?_
                refine b_wi (cells' := 0) (slots' := 0) (wr := rcW X nw an v b_12 g_13) G rfl rfl [0, 17] [1, 2, 3, 4, 5, 6, 7, 8, 9, 10, 11, 12, 13, 14, 15, 16] rfl rfl rfl rfl (n_V (As := [.int (-4)]) (rest := []) (C := RX10) (T := TX10) (N := 14) (ci := 8) S G (s_refuse l X h0 nw sp xa la lb fr (-4) H.size) gX10_note_X10_refuse rfl rfl rfl hdV_X10_refuse ⟨Nat.le_of_ble_eq_true rfl, Nat.le_of_ble_eq_true rfl⟩ [0, 17] rfl rfl 0 rfl rfl rfl hl.1 (Nat.le_of_ble_eq_true rfl) dX10_note_93 ⟨Nat.le_of_ble_eq_true rfl, Nat.le_of_ble_eq_true rfl⟩) (fun r_17 u_17 H locs hp_17 G => ?_)
                obtain ⟨f_17, rfl⟩ : ∃ z, z = u_17 := ⟨_, rfl⟩
                have hq_17 := hp_17
                have G : wd X (va_A (@HAppend.hAppend va_W va_W va_W _ (xW h0 nw sp xa la lb) (@HAppend.hAppend va_W va_W va_W _ (rcW X nw an v b g) ([((xa 5), .inl (X.2.1, 3, .inl fr))]))) sz) (va_A (@HAppend.hAppend va_W va_W va_W _ (xW h0 nw sp xa la lb) (@HAppend.hAppend va_W va_W va_W _ (rcW X nw an v b g) ([((xa 5), .inl (X.2.1, 3, .inl fr))]))) sz) s (@HAppend.hAppend va_W va_W va_W _ (rcW X nw an v b_12 g_13) (@HAppend.hAppend va_W va_W va_W _ (xW h0 nw sp xa la lb) ([((xa 5), .inl (X.2.1, 3, .inl f_17))]))) H locs := G
                have G : wd X (va_A (@HAppend.hAppend va_W va_W va_W _ (xW h0 nw sp xa la lb) (@HAppend.hAppend va_W va_W va_W _ (rcW X nw an v b g) ([((xa 5), .inl (X.2.1, 3, .inl fr))]))) sz) (va_A (@HAppend.hAppend va_W va_W va_W _ (xW h0 nw sp xa la lb) (@HAppend.hAppend va_W va_W va_W _ (rcW X nw an v b g) ([((xa 5), .inl (X.2.1, 3, .inl fr))]))) sz) s (@HAppend.hAppend va_W va_W va_W _ (xW h0 nw sp xa la lb) (@HAppend.hAppend va_W va_W va_W _ (rcW X nw an v b_12 g_13) ([((xa 5), .inl (X.2.1, 3, .inl f_17))]))) H locs := wd_sub G [16, 0, 1, 2, 3, 4, 5, 6, 7, 8, 9, 10, 11, 12, 13, 14, 15, 17] rfl rfl
                exact join_74 r_17 f_17 _ _ _  G hl
              · refine lv_aload_n zx zb dX10_note_77 rfl (lv_at hl 0 rfl) ?_
                refine r_get (C := RX10) (T := TX10) (N := 14) (ci := 8) (v := .ref nw) S in_X10_note_X10 G 0 rfl rfl 0 (by decide) lk_X10_note_10 rfl dX10_note_78 ?_
                refine r_get (C := RX5) (T := TX5) (N := 8) (ci := 3) (v := .ref (an 11)) S in_X10_note_X5 G 1 rfl rfl 6 (by decide) lk_X10_note_212 rfl dX10_note_81 ?_
                refine r_get (C := RX7) (T := TX7) (N := 5) (ci := 5) (v := .int (nI (b_12 3))) S in_X10_note_X7 G 13 rfl rfl 4 (by decide) lk_X10_note_194 rfl dX10_note_84 ?_
                refine lv_goto (tgt := 96) zx zb dX10_note_87 (by decide) ?_
                exact join_74 (nI (b_12 3)) fr _ _ _  G hl
            · intro x_15 f_16 H locs ls  G hl
              exact e_int S zr zlk (vp_nar_int _) G (v, b_12, g_13, f_16) [0, 1, 2, 3, 4, 5, 6, 7, 8, 9, 10, 11, 12, 13, 14, 15, 16, 17] rfl rfl (Or.inr rfl) (⟨hI_b_12, trivial⟩) dX10_note_96
          · refine lv_if_ne (tgt := 57) zx zb dX10_note_47 (by decide) (fun c_18 => absurd (by decide) c_18) (fun c_18 => ?_)
            refine lv_aload_n zx zb dX10_note_50 rfl (lv_at hl 0 rfl) ?_
            refine lv_bipush (v := (-2)) zx zb dX10_note_51 (by decide) ?_
            refine b_wi (cells' := 0) (slots' := 0) (wr := rcW X nw an v b g) G rfl rfl [0, 17] [1, 2, 3, 4, 5, 6, 7, 8, 9, 10, 11, 12, 13, 14, 15, 16] rfl rfl rfl rfl (n_V (As := [.int (-2)]) (rest := []) (C := RX10) (T := TX10) (N := 14) (ci := 8) S G (s_refuse l X h0 nw sp xa la lb fr (-2) H.size) gX10_note_X10_refuse rfl rfl rfl hdV_X10_refuse ⟨Nat.le_of_ble_eq_true rfl, Nat.le_of_ble_eq_true rfl⟩ [0, 17] rfl rfl 0 rfl rfl rfl hl.1 (Nat.le_of_ble_eq_true rfl) dX10_note_53 ⟨Nat.le_of_ble_eq_true rfl, Nat.le_of_ble_eq_true rfl⟩) (fun r_19 u_19 H locs hp_19 G => ?_)
            obtain ⟨f_19, rfl⟩ : ∃ z, z = u_19 := ⟨_, rfl⟩
            have hq_19 := hp_19
            have G : wd X (va_A (@HAppend.hAppend va_W va_W va_W _ (xW h0 nw sp xa la lb) (@HAppend.hAppend va_W va_W va_W _ (rcW X nw an v b g) ([((xa 5), .inl (X.2.1, 3, .inl fr))]))) sz) (va_A (@HAppend.hAppend va_W va_W va_W _ (xW h0 nw sp xa la lb) (@HAppend.hAppend va_W va_W va_W _ (rcW X nw an v b g) ([((xa 5), .inl (X.2.1, 3, .inl fr))]))) sz) s (@HAppend.hAppend va_W va_W va_W _ (rcW X nw an v b g) (@HAppend.hAppend va_W va_W va_W _ (xW h0 nw sp xa la lb) ([((xa 5), .inl (X.2.1, 3, .inl f_19))]))) H locs := G
            exact e_int S zr zlk (vp_nar_int _) G (v, b, g, f_19) [16, 0, 1, 2, 3, 4, 5, 6, 7, 8, 9, 10, 11, 12, 13, 14, 15, 17] rfl rfl (Or.inr rfl) (⟨hI_b, trivial⟩) dX10_note_56
        · refine lv_if_eq (tgt := 50) zx zb dX10_note_36 (by decide) (fun c_20 => ?_) (fun c_20 => absurd (by decide) c_20)
          refine lv_aload_n zx zb dX10_note_50 rfl (lv_at hl 0 rfl) ?_
          refine lv_bipush (v := (-2)) zx zb dX10_note_51 (by decide) ?_
          refine b_wi (cells' := 0) (slots' := 0) (wr := rcW X nw an v b g) G rfl rfl [0, 17] [1, 2, 3, 4, 5, 6, 7, 8, 9, 10, 11, 12, 13, 14, 15, 16] rfl rfl rfl rfl (n_V (As := [.int (-2)]) (rest := []) (C := RX10) (T := TX10) (N := 14) (ci := 8) S G (s_refuse l X h0 nw sp xa la lb fr (-2) H.size) gX10_note_X10_refuse rfl rfl rfl hdV_X10_refuse ⟨Nat.le_of_ble_eq_true rfl, Nat.le_of_ble_eq_true rfl⟩ [0, 17] rfl rfl 0 rfl rfl rfl hl.1 (Nat.le_of_ble_eq_true rfl) dX10_note_53 ⟨Nat.le_of_ble_eq_true rfl, Nat.le_of_ble_eq_true rfl⟩) (fun r_21 u_21 H locs hp_21 G => ?_)
          obtain ⟨f_21, rfl⟩ : ∃ z, z = u_21 := ⟨_, rfl⟩
          have hq_21 := hp_21
          have G : wd X (va_A (@HAppend.hAppend va_W va_W va_W _ (xW h0 nw sp xa la lb) (@HAppend.hAppend va_W va_W va_W _ (rcW X nw an v b g) ([((xa 5), .inl (X.2.1, 3, .inl fr))]))) sz) (va_A (@HAppend.hAppend va_W va_W va_W _ (xW h0 nw sp xa la lb) (@HAppend.hAppend va_W va_W va_W _ (rcW X nw an v b g) ([((xa 5), .inl (X.2.1, 3, .inl fr))]))) sz) s (@HAppend.hAppend va_W va_W va_W _ (rcW X nw an v b g) (@HAppend.hAppend va_W va_W va_W _ (xW h0 nw sp xa la lb) ([((xa 5), .inl (X.2.1, 3, .inl f_21))]))) H locs := G
          exact e_int S zr zlk (vp_nar_int _) G (v, b, g, f_21) [16, 0, 1, 2, 3, 4, 5, 6, 7, 8, 9, 10, 11, 12, 13, 14, 15, 17] rfl rfl (Or.inr rfl) (⟨hI_b, trivial⟩) dX10_note_56
      · refine lv_if_eq (tgt := 50) zx zb dX10_note_25 (by decide) (fun c_22 => ?_) (fun c_22 => absurd (by decide) c_22)
        refine lv_aload_n zx zb dX10_note_50 rfl (lv_at hl 0 rfl) ?_
        refine lv_bipush (v := (-2)) zx zb dX10_note_51 (by decide) ?_
        refine b_wi (cells' := 0) (slots' := 0) (wr := rcW X nw an v b g) G rfl rfl [0, 17] [1, 2, 3, 4, 5, 6, 7, 8, 9, 10, 11, 12, 13, 14, 15, 16] rfl rfl rfl rfl (n_V (As := [.int (-2)]) (rest := []) (C := RX10) (T := TX10) (N := 14) (ci := 8) S G (s_refuse l X h0 nw sp xa la lb fr (-2) H.size) gX10_note_X10_refuse rfl rfl rfl hdV_X10_refuse ⟨Nat.le_of_ble_eq_true rfl, Nat.le_of_ble_eq_true rfl⟩ [0, 17] rfl rfl 0 rfl rfl rfl hl.1 (Nat.le_of_ble_eq_true rfl) dX10_note_53 ⟨Nat.le_of_ble_eq_true rfl, Nat.le_of_ble_eq_true rfl⟩) (fun r_23 u_23 H locs hp_23 G => ?_)
        obtain ⟨f_23, rfl⟩ : ∃ z, z = u_23 := ⟨_, rfl⟩
        have hq_23 := hp_23
        have G : wd X (va_A (@HAppend.hAppend va_W va_W va_W _ (xW h0 nw sp xa la lb) (@HAppend.hAppend va_W va_W va_W _ (rcW X nw an v b g) ([((xa 5), .inl (X.2.1, 3, .inl fr))]))) sz) (va_A (@HAppend.hAppend va_W va_W va_W _ (xW h0 nw sp xa la lb) (@HAppend.hAppend va_W va_W va_W _ (rcW X nw an v b g) ([((xa 5), .inl (X.2.1, 3, .inl fr))]))) sz) s (@HAppend.hAppend va_W va_W va_W _ (rcW X nw an v b g) (@HAppend.hAppend va_W va_W va_W _ (xW h0 nw sp xa la lb) ([((xa 5), .inl (X.2.1, 3, .inl f_23))]))) H locs := G
        exact e_int S zr zlk (vp_nar_int _) G (v, b, g, f_23) [16, 0, 1, 2, 3, 4, 5, 6, 7, 8, 9, 10, 11, 12, 13, 14, 15, 17] rfl rfl (Or.inr rfl) (⟨hI_b, trivial⟩) dX10_note_56
    · refine lv_if_eq (tgt := 50) zx zb dX10_note_15 (by decide) (fun c_24 => ?_) (fun c_24 => absurd (by decide) c_24)
      refine lv_aload_n zx zb dX10_note_50 rfl (lv_at hl 0 rfl) ?_
      refine lv_bipush (v := (-2)) zx zb dX10_note_51 (by decide) ?_
      refine b_wi (cells' := 0) (slots' := 0) (wr := rcW X nw an v b g) G rfl rfl [0, 17] [1, 2, 3, 4, 5, 6, 7, 8, 9, 10, 11, 12, 13, 14, 15, 16] rfl rfl rfl rfl (n_V (As := [.int (-2)]) (rest := []) (C := RX10) (T := TX10) (N := 14) (ci := 8) S G (s_refuse l X h0 nw sp xa la lb fr (-2) H.size) gX10_note_X10_refuse rfl rfl rfl hdV_X10_refuse ⟨Nat.le_of_ble_eq_true rfl, Nat.le_of_ble_eq_true rfl⟩ [0, 17] rfl rfl 0 rfl rfl rfl hl.1 (Nat.le_of_ble_eq_true rfl) dX10_note_53 ⟨Nat.le_of_ble_eq_true rfl, Nat.le_of_ble_eq_true rfl⟩) (fun r_25 u_25 H locs hp_25 G => ?_)
      obtain ⟨f_25, rfl⟩ : ∃ z, z = u_25 := ⟨_, rfl⟩
      have hq_25 := hp_25
      have G : wd X (va_A (@HAppend.hAppend va_W va_W va_W _ (xW h0 nw sp xa la lb) (@HAppend.hAppend va_W va_W va_W _ (rcW X nw an v b g) ([((xa 5), .inl (X.2.1, 3, .inl fr))]))) sz) (va_A (@HAppend.hAppend va_W va_W va_W _ (xW h0 nw sp xa la lb) (@HAppend.hAppend va_W va_W va_W _ (rcW X nw an v b g) ([((xa 5), .inl (X.2.1, 3, .inl fr))]))) sz) s (@HAppend.hAppend va_W va_W va_W _ (rcW X nw an v b g) (@HAppend.hAppend va_W va_W va_W _ (xW h0 nw sp xa la lb) ([((xa 5), .inl (X.2.1, 3, .inl f_25))]))) H locs := G
      exact e_int S zr zlk (vp_nar_int _) G (v, b, g, f_25) [16, 0, 1, 2, 3, 4, 5, 6, 7, 8, 9, 10, 11, 12, 13, 14, 15, 17] rfl rfl (Or.inr rfl) (⟨hI_b, trivial⟩) dX10_note_56
  · refine lv_if_eq (tgt := 50) zx zb dX10_note_5 (by decide) (fun c_26 => ?_) (fun c_26 => absurd (by decide) c_26)
    refine lv_aload_n zx zb dX10_note_50 rfl (lv_at hl 0 rfl) ?_
    refine lv_bipush (v := (-2)) zx zb dX10_note_51 (by decide) ?_
    refine b_wi (cells' := 0) (slots' := 0) (wr := rcW X nw an v b g) G rfl rfl [0, 17] [1, 2, 3, 4, 5, 6, 7, 8, 9, 10, 11, 12, 13, 14, 15, 16] rfl rfl rfl rfl (n_V (As := [.int (-2)]) (rest := []) (C := RX10) (T := TX10) (N := 14) (ci := 8) S G (s_refuse l X h0 nw sp xa la lb fr (-2) H.size) gX10_note_X10_refuse rfl rfl rfl hdV_X10_refuse ⟨Nat.le_of_ble_eq_true rfl, Nat.le_of_ble_eq_true rfl⟩ [0, 17] rfl rfl 0 rfl rfl rfl hl.1 (Nat.le_of_ble_eq_true rfl) dX10_note_53 ⟨Nat.le_of_ble_eq_true rfl, Nat.le_of_ble_eq_true rfl⟩) (fun r_27 u_27 H locs hp_27 G => ?_)
    obtain ⟨f_27, rfl⟩ : ∃ z, z = u_27 := ⟨_, rfl⟩
    have hq_27 := hp_27
    have G : wd X (va_A (@HAppend.hAppend va_W va_W va_W _ (xW h0 nw sp xa la lb) (@HAppend.hAppend va_W va_W va_W _ (rcW X nw an v b g) ([((xa 5), .inl (X.2.1, 3, .inl fr))]))) sz) (va_A (@HAppend.hAppend va_W va_W va_W _ (xW h0 nw sp xa la lb) (@HAppend.hAppend va_W va_W va_W _ (rcW X nw an v b g) ([((xa 5), .inl (X.2.1, 3, .inl fr))]))) sz) s (@HAppend.hAppend va_W va_W va_W _ (rcW X nw an v b g) (@HAppend.hAppend va_W va_W va_W _ (xW h0 nw sp xa la lb) ([((xa 5), .inl (X.2.1, 3, .inl f_27))]))) H locs := G
    exact e_int S zr zlk (vp_nar_int _) G (v, b, g, f_27) [16, 0, 1, 2, 3, 4, 5, 6, 7, 8, 9, 10, 11, 12, 13, 14, 15, 17] rfl rfl (Or.inr rfl) (⟨hI_b, trivial⟩) dX10_note_56
theorem in_X10_mark_X10 : ∀ w ∈ wsX100, w ∈ wsX10_mark := by decide +kernel
theorem lk_X10_mark_10 : Cond.fieldLink RX10 10 "EggSpoons" "now" "LEggSpoons$Race;" ∈ wsX10_mark := by decide +kernel
theorem in_X10_mark_X5 : ∀ w ∈ wsX50, w ∈ wsX10_mark := by decide +kernel
theorem lk_X10_mark_215 : Cond.fieldLink RX10 215 "EggSpoons$Race" "markRows" "LEggSpoons$Rows;" ∈ wsX10_mark := by decide +kernel
theorem in_X10_mark_X7 : ∀ w ∈ wsX70, w ∈ wsX10_mark := by decide +kernel
theorem lk_X10_mark_194 : Cond.fieldLink RX10 194 "EggSpoons$Rows" "size" "I" ∈ wsX10_mark := by decide +kernel
set_option maxHeartbeats 4000000 in
set_option maxRecDepth 100000 in
/-- mark -/
theorem s_mark (l : Launch) (X : EX) (h0 : Nat) (nw : Nat) (sp : Nat) (xa : Nat → Nat) (la : Int64) (lb : Int64) (an : Nat → Nat) (v : Nat → Int32) (b : Nat → Nat) (g : Nat → Nat → Int32) (fr : Nat → Int32) (x1 : Int32) (x2 : Int32) (x3 : Int32) (hI_b : InR b) (sz : Nat) : Met l yX10_mark wsX10_mark ({ frames := 1, cells := 0, slots := 0, locals := 26 } : Room) (pE X [.ref h0, .int x1, .int x2, .int x3] (@HAppend.hAppend va_W va_W va_W _ (xW h0 nw sp xa la lb) (@HAppend.hAppend va_W va_W va_W _ (rcW X nw an v b g) ([((xa 5), .inl (X.2.1, 3, .inl fr))]))) sz) (qI (fun (r : Int32) (u : (Nat → Int32) × (Nat → Nat) × (Nat → Nat → Int32) × (Nat → Int32)) => InR u.2.1 ∧ (True)) X (fun (u : (Nat → Int32) × (Nat → Nat) × (Nat → Nat → Int32) × (Nat → Int32)) => @HAppend.hAppend va_W va_W va_W _ (xW h0 nw sp xa la lb) (@HAppend.hAppend va_W va_W va_W _ (rcW X nw an u.1 u.2.1 u.2.2.1) ([((xa 5), .inl (X.2.1, 3, .inl u.2.2.2))]))) (@HAppend.hAppend va_W va_W va_W _ (xW h0 nw sp xa la lb) (@HAppend.hAppend va_W va_W va_W _ (rcW X nw an v b g) ([((xa 5), .inl (X.2.1, 3, .inl fr))]))) sz) 0 0 (va_A (@HAppend.hAppend va_W va_W va_W _ (xW h0 nw sp xa la lb) (@HAppend.hAppend va_W va_W va_W _ (rcW X nw an v b g) ([((xa 5), .inl (X.2.1, 3, .inl fr))]))) sz) := by
  refine mk_met (B := (va_A (@HAppend.hAppend va_W va_W va_W _ (xW h0 nw sp xa la lb) (@HAppend.hAppend va_W va_W va_W _ (rcW X nw an v b g) ([((xa 5), .inl (X.2.1, 3, .inl fr))]))) sz)) (A := (va_A (@HAppend.hAppend va_W va_W va_W _ (xW h0 nw sp xa la lb) (@HAppend.hAppend va_W va_W va_W _ (rcW X nw an v b g) ([((xa 5), .inl (X.2.1, 3, .inl fr))]))) sz)) (cc := cX10_mark) (maxL := 4) (ret := (some .int)) (by decide) rfl (Nat.le_of_ble_eq_true rfl) k_w k_a (fun p e s m below meth c S zr zlk znm zsz G ls hl => ?_)
  have S : CallFix p m c cX10_mark 4 s _ wsX10_mark RX10 := S
  have zx := S.1
  have zb := S.2.1
  have hl : lv_has ls 4 [(0, .ref h0), (1, .int x1), (2, .int x2), (3, .int x3)] := hl
  have hO_b := hI_b
  obtain ⟨hb0_b, hb1_b, hb2_b, hb3_b, hb4_b⟩ := hO_b
  refine lv_aload_n zx zb dX10_mark_0 rfl (lv_at hl 0 rfl) ?_
  refine lv_iload_n zx zb dX10_mark_1 rfl (lv_at hl 1 rfl) ?_
  refine o_ri (cells' := 0) (slots' := 0) G rfl rfl (n_V (As := [.int x1]) (rest := []) (C := RX10) (T := TX10) (N := 14) (ci := 8) S G (s_there l X h0 nw sp xa la lb an v b g x1 hI_b s.heap.size) gX10_mark_X10_there rfl rfl rfl hdV_X10_there ⟨Nat.le_of_ble_eq_true rfl, Nat.le_of_ble_eq_true rfl⟩ [0, 1, 2, 3, 4, 5, 6, 7, 8, 9, 10, 11, 12, 13, 14, 15, 16] rfl rfl 0 rfl rfl rfl hl.1 (Nat.le_of_ble_eq_true rfl) dX10_mark_2 ⟨Nat.le_of_ble_eq_true rfl, Nat.le_of_ble_eq_true rfl⟩) (fun r_1 u_1 H locs hp_1 G => ?_)
  have G : wd X (va_A (@HAppend.hAppend va_W va_W va_W _ (xW h0 nw sp xa la lb) (@HAppend.hAppend va_W va_W va_W _ (rcW X nw an v b g) ([((xa 5), .inl (X.2.1, 3, .inl fr))]))) sz) (va_A (@HAppend.hAppend va_W va_W va_W _ (xW h0 nw sp xa la lb) (@HAppend.hAppend va_W va_W va_W _ (rcW X nw an v b g) ([((xa 5), .inl (X.2.1, 3, .inl fr))]))) sz) s (@HAppend.hAppend va_W va_W va_W _ (xW h0 nw sp xa la lb) (@HAppend.hAppend va_W va_W va_W _ (rcW X nw an v b g) ([((xa 5), .inl (X.2.1, 3, .inl fr))]))) H locs := G
  rcases hp_1 with ⟨rfl, hj_1⟩ | rfl
  · obtain ⟨j_1, hj_1, rfl⟩ := hj_1
    refine lv_if_eq (tgt := 28) zx zb dX10_mark_5 (by decide) (fun c_2 => absurd c_2 (by decide)) (fun c_2 => ?_)
    refine lv_iload_n zx zb dX10_mark_8 rfl (lv_at hl 2 rfl) ?_
    refine lv_iconst (v := 0) zx zb dX10_mark_9 (by decide) ?_
    refine lv_bipush (v := 99) zx zb dX10_mark_10 (by decide) ?_
    refine o_ri (cells' := 0) (slots' := 0) G rfl rfl (n_S (As := [.int x2, .int 0, .int 99]) (rest := []) S G (s_within l X x2 0 99 H.size) gX10_mark_X10_within rfl rfl rfl hdS_X10_within ⟨Nat.le_of_ble_eq_true rfl, Nat.le_of_ble_eq_true rfl⟩ [] rfl rfl rfl hl.1 (Nat.le_of_ble_eq_true rfl) dX10_mark_12 ⟨Nat.le_of_ble_eq_true rfl, Nat.le_of_ble_eq_true rfl⟩) (fun r_3 u_3 H locs hp_3 G => ?_)
    have G : wd X (va_A (@HAppend.hAppend va_W va_W va_W _ (xW h0 nw sp xa la lb) (@HAppend.hAppend va_W va_W va_W _ (rcW X nw an v b g) ([((xa 5), .inl (X.2.1, 3, .inl fr))]))) sz) (va_A (@HAppend.hAppend va_W va_W va_W _ (xW h0 nw sp xa la lb) (@HAppend.hAppend va_W va_W va_W _ (rcW X nw an v b g) ([((xa 5), .inl (X.2.1, 3, .inl fr))]))) sz) s (@HAppend.hAppend va_W va_W va_W _ (xW h0 nw sp xa la lb) (@HAppend.hAppend va_W va_W va_W _ (rcW X nw an v b g) ([((xa 5), .inl (X.2.1, 3, .inl fr))]))) H locs := G
    rcases hp_3 with ⟨rfl, hw_3⟩ | ⟨rfl, hw_3⟩
    · refine lv_if_eq (tgt := 28) zx zb dX10_mark_15 (by decide) (fun c_4 => absurd c_4 (by decide)) (fun c_4 => ?_)
      refine lv_iload_n zx zb dX10_mark_18 rfl (lv_at hl 3 rfl) ?_
      refine lv_iconst (v := 0) zx zb dX10_mark_19 (by decide) ?_
      refine lv_bipush (v := 15) zx zb dX10_mark_20 (by decide) ?_
      refine o_ri (cells' := 0) (slots' := 0) G rfl rfl (n_S (As := [.int x3, .int 0, .int 15]) (rest := []) S G (s_within l X x3 0 15 H.size) gX10_mark_X10_within rfl rfl rfl hdS_X10_within ⟨Nat.le_of_ble_eq_true rfl, Nat.le_of_ble_eq_true rfl⟩ [] rfl rfl rfl hl.1 (Nat.le_of_ble_eq_true rfl) dX10_mark_22 ⟨Nat.le_of_ble_eq_true rfl, Nat.le_of_ble_eq_true rfl⟩) (fun r_5 u_5 H locs hp_5 G => ?_)
      have G : wd X (va_A (@HAppend.hAppend va_W va_W va_W _ (xW h0 nw sp xa la lb) (@HAppend.hAppend va_W va_W va_W _ (rcW X nw an v b g) ([((xa 5), .inl (X.2.1, 3, .inl fr))]))) sz) (va_A (@HAppend.hAppend va_W va_W va_W _ (xW h0 nw sp xa la lb) (@HAppend.hAppend va_W va_W va_W _ (rcW X nw an v b g) ([((xa 5), .inl (X.2.1, 3, .inl fr))]))) sz) s (@HAppend.hAppend va_W va_W va_W _ (xW h0 nw sp xa la lb) (@HAppend.hAppend va_W va_W va_W _ (rcW X nw an v b g) ([((xa 5), .inl (X.2.1, 3, .inl fr))]))) H locs := G
      rcases hp_5 with ⟨rfl, hw_5⟩ | ⟨rfl, hw_5⟩
      · refine lv_if_ne (tgt := 35) zx zb dX10_mark_25 (by decide) (fun c_6 => ?_) (fun c_6 => absurd c_6 (by decide))
        refine lv_aload_n zx zb dX10_mark_35 rfl (lv_at hl 0 rfl) ?_
        refine r_get (C := RX10) (T := TX10) (N := 14) (ci := 8) (v := .ref nw) S in_X10_mark_X10 G 0 rfl rfl 0 (by decide) lk_X10_mark_10 rfl dX10_mark_36 ?_
        refine r_get (C := RX5) (T := TX5) (N := 8) (ci := 3) (v := .ref (an 13)) S in_X10_mark_X5 G 1 rfl rfl 7 (by decide) lk_X10_mark_215 rfl dX10_mark_39 ?_
        refine lv_iload_n zx zb dX10_mark_42 rfl (lv_at hl 1 rfl) ?_
        refine lv_iconst (v := 0) zx zb dX10_mark_43 (by decide) ?_
        refine lv_iload_n zx zb dX10_mark_44 rfl (lv_at hl 2 rfl) ?_
        refine lv_iconst (v := 0) zx zb dX10_mark_45 (by decide) ?_
        refine lv_iload_n zx zb dX10_mark_46 rfl (lv_at hl 3 rfl) ?_
        refine b_wi (cells' := 0) (slots' := 0) (wr := @HAppend.hAppend va_W va_W va_W _ (xW h0 nw sp xa la lb) (@HAppend.hAppend va_W va_W va_W _ ([(nw, .inr (3, [.int (v 0), .int (v 1), .int (nI (b 0)), .ref (an 0), .ref (an 7), .ref (an 9), .ref (an 11), .ref (an 13)])), ((an 0), .inl (X.2.2.2.2, 6, .inr (.inr (.inr (.inr (rowQ an)))))), ((an 1), .inr (6, [.int (v 10), .int (v 11), .int (v 12), .int (v 13), .int (v 14), .int (v 15), .int (v 16), .int (v 17)])), ((an 2), .inr (6, [.int (v 18), .int (v 19), .int (v 20), .int (v 21), .int (v 22), .int (v 23), .int (v 24), .int (v 25)])), ((an 3), .inr (6, [.int (v 26), .int (v 27), .int (v 28), .int (v 29), .int (v 30), .int (v 31), .int (v 32), .int (v 33)])), ((an 4), .inr (6, [.int (v 34), .int (v 35), .int (v 36), .int (v 37), .int (v 38), .int (v 39), .int (v 40), .int (v 41)])), ((an 5), .inr (6, [.int (v 42), .int (v 43), .int (v 44), .int (v 45), .int (v 46), .int (v 47), .int (v 48), .int (v 49)])), ((an 6), .inr (6, [.int (v 50), .int (v 51), .int (v 52), .int (v 53), .int (v 54), .int (v 55), .int (v 56), .int (v 57)])), ((an 7), .inr (2, [.ref (an 8), .int (nI (b 1))])), ((an 8), .inl (X.2.1, 248, .inl (g 0))), ((an 9), .inr (5, [.int 5, .int 0, .int 1, .ref (an 10), .int (nI (b 2))])), ((an 10), .inl (X.2.1, 25, .inl (g 1))), ((an 11), .inr (5, [.int 6, .int 1, .int 1, .ref (an 12), .int (nI (b 3))])), ((an 12), .inl (X.2.1, 30, .inl (g 2)))]) ([((xa 5), .inl (X.2.1, 3, .inl fr))]))) G rfl rfl [15, 16] [0, 1, 2, 3, 4, 5, 6, 7, 8, 9, 10, 11, 12, 13, 14, 17] rfl rfl rfl rfl (n_V (As := [.int (nI j_1), .int 0, .int x2, .int 0, .int x3]) (rest := []) (C := RX7) (T := TX7) (N := 5) (ci := 5) S G (s_append2 l X (an 13) (an 14) (b 4) (g 3) (nI j_1) 0 x2 0 x3 hb4_b H.size) gX10_mark_X7_append rfl rfl rfl hdV_X7_append ⟨Nat.le_of_ble_eq_true rfl, Nat.le_of_ble_eq_true rfl⟩ [15, 16] rfl rfl 15 rfl rfl rfl hl.1 (Nat.le_of_ble_eq_true rfl) dX10_mark_47 ⟨Nat.le_of_ble_eq_true rfl, Nat.le_of_ble_eq_true rfl⟩) (fun r_7 u_7 H locs hp_7 G => ?_)
        obtain ⟨n_7a, f_7b⟩ := u_7
        obtain ⟨hI_n_7a, hq_7⟩ := hp_7
        obtain ⟨b_8, g_9, hI_b_8, hE_b_8_0, hE_b_8_1, hE_b_8_2, hE_b_8_3, hE_b_8_4, G⟩ : ∃ (b_8 : Nat → Nat) (g_9 : Nat → Nat → Int32), InR b_8 ∧ b_8 0 = b 0 ∧ b_8 1 = b 1 ∧ b_8 2 = b 2 ∧ b_8 3 = b 3 ∧ b_8 4 = n_7a ∧ wd X (va_A (@HAppend.hAppend va_W va_W va_W _ (xW h0 nw sp xa la lb) (@HAppend.hAppend va_W va_W va_W _ (rcW X nw an v b g) ([((xa 5), .inl (X.2.1, 3, .inl fr))]))) sz) (va_A (@HAppend.hAppend va_W va_W va_W _ (xW h0 nw sp xa la lb) (@HAppend.hAppend va_W va_W va_W _ (rcW X nw an v b g) ([((xa 5), .inl (X.2.1, 3, .inl fr))]))) sz) s (@HAppend.hAppend va_W va_W va_W _ (xW h0 nw sp xa la lb) (@HAppend.hAppend va_W va_W va_W _ (rcW X nw an v b_8 g_9) ([((xa 5), .inl (X.2.1, 3, .inl fr))]))) H locs := ⟨(upN b 4 n_7a), (upG g 3 f_7b), ⟨hb0_b, hb1_b, hb2_b, hb3_b, hI_n_7a⟩, rfl, rfl, rfl, rfl, rfl, wd_sub G [0, 1, 2, 3, 4, 5, 6, 7, 8, 9, 10, 11, 12, 13, 14, 16, 17, 15] rfl rfl⟩
        have hO_b_8 := hI_b_8
        obtain ⟨hb0_b_8, hb1_b_8, hb2_b_8, hb3_b_8, hb4_b_8⟩ := hO_b_8
        refine k_cutW (PP := fun Wx => ∀ (x_11 : Int32) (f_12 : Nat → Int32) (H : Heap) (locs : List Loc) (ls : Array Slot), wd X (va_A (@HAppend.hAppend va_W va_W va_W _ (xW h0 nw sp xa la lb) (@HAppend.hAppend va_W va_W va_W _ (rcW X nw an v b g) ([((xa 5), .inl (X.2.1, 3, .inl fr))]))) sz) (va_A (@HAppend.hAppend va_W va_W va_W _ (xW h0 nw sp xa la lb) (@HAppend.hAppend va_W va_W va_W _ (rcW X nw an v b g) ([((xa 5), .inl (X.2.1, 3, .inl fr))]))) sz) s (@HAppend.hAppend va_W va_W va_W _ (xW h0 nw sp xa la lb) (@HAppend.hAppend va_W va_W va_W _ (rcW X nw an v b_8 g_9) ([((xa 5), .inl (X.2.1, 3, .inl f_12))]))) H locs → lv_has ls 4 [(0, .ref h0), (1, .int (nI j_1)), (2, .int x2), (3, .int x3)] → Wx (F0 m 72 ls [.int x_11]) H locs) ?_ ?_
        · intro join_50
          refine lv_if_eq (tgt := 66) zx zb dX10_mark_50 (by decide) (fun c_10 => ?_) (fun c_10 => ?_)
          · refine lv_aload_n zx zb dX10_mark_66 rfl (lv_at hl 0 rfl) ?_
            refine lv_bipush (v := (-4)) zx zb dX10_mark_67 (by decide) ?_
            refine b_wi (cells' := 0) (slots' := 0) (wr := rcW X nw an v b_8 g_9) G rfl rfl [0, 17] [1, 2, 3, 4, 5, 6, 7, 8, 9, 10, 11, 12, 13, 14, 15, 16] rfl rfl rfl rfl (n_V (As := [.int (-4)]) (rest := []) (C := RX10) (T := TX10) (N := 14) (ci := 8) S G (s_refuse l X h0 nw sp xa la lb fr (-4) H.size) gX10_mark_X10_refuse rfl rfl rfl hdV_X10_refuse ⟨Nat.le_of_ble_eq_true rfl, Nat.le_of_ble_eq_true rfl⟩ [0, 17] rfl rfl 0 rfl rfl rfl hl.1 (Nat.le_of_ble_eq_true rfl) dX10_mark_69 ⟨Nat.le_of_ble_eq_true rfl, Nat.le_of_ble_eq_true rfl⟩) (fun r_13 u_13 H locs hp_13 G => ?_)
            obtain ⟨f_13, rfl⟩ : ∃ z, z = u_13 := ⟨_, rfl⟩
            have hq_13 := hp_13
            have G : wd X (va_A (@HAppend.hAppend va_W va_W va_W _ (xW h0 nw sp xa la lb) (@HAppend.hAppend va_W va_W va_W _ (rcW X nw an v b g) ([((xa 5), .inl (X.2.1, 3, .inl fr))]))) sz) (va_A (@HAppend.hAppend va_W va_W va_W _ (xW h0 nw sp xa la lb) (@HAppend.hAppend va_W va_W va_W _ (rcW X nw an v b g) ([((xa 5), .inl (X.2.1, 3, .inl fr))]))) sz) s (@HAppend.hAppend va_W va_W va_W _ (rcW X nw an v b_8 g_9) (@HAppend.hAppend va_W va_W va_W _ (xW h0 nw sp xa la lb) ([((xa 5), .inl (X.2.1, 3, .inl f_13))]))) H locs := G
            have G : wd X (va_A (@HAppend.hAppend va_W va_W va_W _ (xW h0 nw sp xa la lb) (@HAppend.hAppend va_W va_W va_W _ (rcW X nw an v b g) ([((xa 5), .inl (X.2.1, 3, .inl fr))]))) sz) (va_A (@HAppend.hAppend va_W va_W va_W _ (xW h0 nw sp xa la lb) (@HAppend.hAppend va_W va_W va_W _ (rcW X nw an v b g) ([((xa 5), .inl (X.2.1, 3, .inl fr))]))) sz) s (@HAppend.hAppend va_W va_W va_W _ (xW h0 nw sp xa la lb) (@HAppend.hAppend va_W va_W va_W _ (rcW X nw an v b_8 g_9) ([((xa 5), .inl (X.2.1, 3, .inl f_13))]))) H locs := wd_sub G [16, 0, 1, 2, 3, 4, 5, 6, 7, 8, 9, 10, 11, 12, 13, 14, 15, 17] rfl rfl
            exact join_50 r_13 f_13 _ _ _  G hl
          · refine lv_aload_n zx zb dX10_mark_53 rfl (lv_at hl 0 rfl) ?_
            refine r_get (C := RX10) (T := TX10) (N := 14) (ci := 8) (v := .ref nw) S in_X10_mark_X10 G 0 rfl rfl 0 (by decide) lk_X10_mark_10 rfl dX10_mark_54 ?_
            refine r_get (C := RX5) (T := TX5) (N := 8) (ci := 3) (v := .ref (an 13)) S in_X10_mark_X5 G 1 rfl rfl 7 (by decide) lk_X10_mark_215 rfl dX10_mark_57 ?_
            refine r_get (C := RX7) (T := TX7) (N := 5) (ci := 5) (v := .int (nI (b_8 4))) S in_X10_mark_X7 G 15 rfl rfl 4 (by decide) lk_X10_mark_194 rfl dX10_mark_60 ?_
            refine lv_goto (tgt := 72) zx zb dX10_mark_63 (by decide) ?_
            exact join_50 (nI (b_8 4)) fr _ _ _  G hl
        · intro x_11 f_12 H locs ls  G hl
          exact e_int S zr zlk (vp_nar_int _) G (v, b_8, g_9, f_12) [0, 1, 2, 3, 4, 5, 6, 7, 8, 9, 10, 11, 12, 13, 14, 15, 16, 17] rfl rfl (Or.inr rfl) (⟨hI_b_8, trivial⟩) dX10_mark_72
      · refine lv_if_ne (tgt := 35) zx zb dX10_mark_25 (by decide) (fun c_14 => absurd (by decide) c_14) (fun c_14 => ?_)
        refine lv_aload_n zx zb dX10_mark_28 rfl (lv_at hl 0 rfl) ?_
        refine lv_bipush (v := (-2)) zx zb dX10_mark_29 (by decide) ?_
        refine b_wi (cells' := 0) (slots' := 0) (wr := rcW X nw an v b g) G rfl rfl [0, 17] [1, 2, 3, 4, 5, 6, 7, 8, 9, 10, 11, 12, 13, 14, 15, 16] rfl rfl rfl rfl (n_V (As := [.int (-2)]) (rest := []) (C := RX10) (T := TX10) (N := 14) (ci := 8) S G (s_refuse l X h0 nw sp xa la lb fr (-2) H.size) gX10_mark_X10_refuse rfl rfl rfl hdV_X10_refuse ⟨Nat.le_of_ble_eq_true rfl, Nat.le_of_ble_eq_true rfl⟩ [0, 17] rfl rfl 0 rfl rfl rfl hl.1 (Nat.le_of_ble_eq_true rfl) dX10_mark_31 ⟨Nat.le_of_ble_eq_true rfl, Nat.le_of_ble_eq_true rfl⟩) (fun r_15 u_15 H locs hp_15 G => ?_)
        obtain ⟨f_15, rfl⟩ : ∃ z, z = u_15 := ⟨_, rfl⟩
        have hq_15 := hp_15
        have G : wd X (va_A (@HAppend.hAppend va_W va_W va_W _ (xW h0 nw sp xa la lb) (@HAppend.hAppend va_W va_W va_W _ (rcW X nw an v b g) ([((xa 5), .inl (X.2.1, 3, .inl fr))]))) sz) (va_A (@HAppend.hAppend va_W va_W va_W _ (xW h0 nw sp xa la lb) (@HAppend.hAppend va_W va_W va_W _ (rcW X nw an v b g) ([((xa 5), .inl (X.2.1, 3, .inl fr))]))) sz) s (@HAppend.hAppend va_W va_W va_W _ (rcW X nw an v b g) (@HAppend.hAppend va_W va_W va_W _ (xW h0 nw sp xa la lb) ([((xa 5), .inl (X.2.1, 3, .inl f_15))]))) H locs := G
        exact e_int S zr zlk (vp_nar_int _) G (v, b, g, f_15) [16, 0, 1, 2, 3, 4, 5, 6, 7, 8, 9, 10, 11, 12, 13, 14, 15, 17] rfl rfl (Or.inr rfl) (⟨hI_b, trivial⟩) dX10_mark_34
    · refine lv_if_eq (tgt := 28) zx zb dX10_mark_15 (by decide) (fun c_16 => ?_) (fun c_16 => absurd (by decide) c_16)
      refine lv_aload_n zx zb dX10_mark_28 rfl (lv_at hl 0 rfl) ?_
      refine lv_bipush (v := (-2)) zx zb dX10_mark_29 (by decide) ?_
      refine b_wi (cells' := 0) (slots' := 0) (wr := rcW X nw an v b g) G rfl rfl [0, 17] [1, 2, 3, 4, 5, 6, 7, 8, 9, 10, 11, 12, 13, 14, 15, 16] rfl rfl rfl rfl (n_V (As := [.int (-2)]) (rest := []) (C := RX10) (T := TX10) (N := 14) (ci := 8) S G (s_refuse l X h0 nw sp xa la lb fr (-2) H.size) gX10_mark_X10_refuse rfl rfl rfl hdV_X10_refuse ⟨Nat.le_of_ble_eq_true rfl, Nat.le_of_ble_eq_true rfl⟩ [0, 17] rfl rfl 0 rfl rfl rfl hl.1 (Nat.le_of_ble_eq_true rfl) dX10_mark_31 ⟨Nat.le_of_ble_eq_true rfl, Nat.le_of_ble_eq_true rfl⟩) (fun r_17 u_17 H locs hp_17 G => ?_)
      obtain ⟨f_17, rfl⟩ : ∃ z, z = u_17 := ⟨_, rfl⟩
      have hq_17 := hp_17
      have G : wd X (va_A (@HAppend.hAppend va_W va_W va_W _ (xW h0 nw sp xa la lb) (@HAppend.hAppend va_W va_W va_W _ (rcW X nw an v b g) ([((xa 5), .inl (X.2.1, 3, .inl fr))]))) sz) (va_A (@HAppend.hAppend va_W va_W va_W _ (xW h0 nw sp xa la lb) (@HAppend.hAppend va_W va_W va_W _ (rcW X nw an v b g) ([((xa 5), .inl (X.2.1, 3, .inl fr))]))) sz) s (@HAppend.hAppend va_W va_W va_W _ (rcW X nw an v b g) (@HAppend.hAppend va_W va_W va_W _ (xW h0 nw sp xa la lb) ([((xa 5), .inl (X.2.1, 3, .inl f_17))]))) H locs := G
      exact e_int S zr zlk (vp_nar_int _) G (v, b, g, f_17) [16, 0, 1, 2, 3, 4, 5, 6, 7, 8, 9, 10, 11, 12, 13, 14, 15, 17] rfl rfl (Or.inr rfl) (⟨hI_b, trivial⟩) dX10_mark_34
  · refine lv_if_eq (tgt := 28) zx zb dX10_mark_5 (by decide) (fun c_18 => ?_) (fun c_18 => absurd (by decide) c_18)
    refine lv_aload_n zx zb dX10_mark_28 rfl (lv_at hl 0 rfl) ?_
    refine lv_bipush (v := (-2)) zx zb dX10_mark_29 (by decide) ?_
    refine b_wi (cells' := 0) (slots' := 0) (wr := rcW X nw an v b g) G rfl rfl [0, 17] [1, 2, 3, 4, 5, 6, 7, 8, 9, 10, 11, 12, 13, 14, 15, 16] rfl rfl rfl rfl (n_V (As := [.int (-2)]) (rest := []) (C := RX10) (T := TX10) (N := 14) (ci := 8) S G (s_refuse l X h0 nw sp xa la lb fr (-2) H.size) gX10_mark_X10_refuse rfl rfl rfl hdV_X10_refuse ⟨Nat.le_of_ble_eq_true rfl, Nat.le_of_ble_eq_true rfl⟩ [0, 17] rfl rfl 0 rfl rfl rfl hl.1 (Nat.le_of_ble_eq_true rfl) dX10_mark_31 ⟨Nat.le_of_ble_eq_true rfl, Nat.le_of_ble_eq_true rfl⟩) (fun r_19 u_19 H locs hp_19 G => ?_)
    obtain ⟨f_19, rfl⟩ : ∃ z, z = u_19 := ⟨_, rfl⟩
    have hq_19 := hp_19
    have G : wd X (va_A (@HAppend.hAppend va_W va_W va_W _ (xW h0 nw sp xa la lb) (@HAppend.hAppend va_W va_W va_W _ (rcW X nw an v b g) ([((xa 5), .inl (X.2.1, 3, .inl fr))]))) sz) (va_A (@HAppend.hAppend va_W va_W va_W _ (xW h0 nw sp xa la lb) (@HAppend.hAppend va_W va_W va_W _ (rcW X nw an v b g) ([((xa 5), .inl (X.2.1, 3, .inl fr))]))) sz) s (@HAppend.hAppend va_W va_W va_W _ (rcW X nw an v b g) (@HAppend.hAppend va_W va_W va_W _ (xW h0 nw sp xa la lb) ([((xa 5), .inl (X.2.1, 3, .inl f_19))]))) H locs := G
    exact e_int S zr zlk (vp_nar_int _) G (v, b, g, f_19) [16, 0, 1, 2, 3, 4, 5, 6, 7, 8, 9, 10, 11, 12, 13, 14, 15, 17] rfl rfl (Or.inr rfl) (⟨hI_b, trivial⟩) dX10_mark_34
theorem in_X10_forget_X10 : ∀ w ∈ wsX100, w ∈ wsX10_forget := by decide +kernel
theorem lk_X10_forget_10 : Cond.fieldLink RX10 10 "EggSpoons" "now" "LEggSpoons$Race;" ∈ wsX10_forget := by decide +kernel
theorem in_X10_forget_X5 : ∀ w ∈ wsX50, w ∈ wsX10_forget := by decide +kernel
theorem lk_X10_forget_215 : Cond.fieldLink RX10 215 "EggSpoons$Race" "markRows" "LEggSpoons$Rows;" ∈ wsX10_forget := by decide +kernel
theorem lk_X10_forget_212 : Cond.fieldLink RX10 212 "EggSpoons$Race" "noteRows" "LEggSpoons$Rows;" ∈ wsX10_forget := by decide +kernel
theorem lk_X10_forget_185 : Cond.fieldLink RX10 185 "EggSpoons$Race" "seenRows" "LEggSpoons$Rows;" ∈ wsX10_forget := by decide +kernel
theorem in_X10_forget_X7 : ∀ w ∈ wsX70, w ∈ wsX10_forget := by decide +kernel
theorem lk_X10_forget_194 : Cond.fieldLink RX10 194 "EggSpoons$Rows" "size" "I" ∈ wsX10_forget := by decide +kernel
set_option maxHeartbeats 4000000 in
set_option maxRecDepth 100000 in
/-- forget -/
theorem s_forget (l : Launch) (X : EX) (h0 : Nat) (nw : Nat) (sp : Nat) (xa : Nat → Nat) (la : Int64) (lb : Int64) (an : Nat → Nat) (v : Nat → Int32) (b : Nat → Nat) (g : Nat → Nat → Int32) (fr : Nat → Int32) (x1 : Int32) (hI_b : InR b) (sz : Nat) : Met l yX10_forget wsX10_forget ({ frames := 1, cells := 0, slots := 0, locals := 22 } : Room) (pE X [.ref h0, .int x1] (@HAppend.hAppend va_W va_W va_W _ (xW h0 nw sp xa la lb) (@HAppend.hAppend va_W va_W va_W _ (rcW X nw an v b g) ([((xa 5), .inl (X.2.1, 3, .inl fr))]))) sz) (qI (fun (r : Int32) (u : (Nat → Int32) × (Nat → Nat) × (Nat → Nat → Int32) × (Nat → Int32)) => InR u.2.1 ∧ (True)) X (fun (u : (Nat → Int32) × (Nat → Nat) × (Nat → Nat → Int32) × (Nat → Int32)) => @HAppend.hAppend va_W va_W va_W _ (xW h0 nw sp xa la lb) (@HAppend.hAppend va_W va_W va_W _ (rcW X nw an u.1 u.2.1 u.2.2.1) ([((xa 5), .inl (X.2.1, 3, .inl u.2.2.2))]))) (@HAppend.hAppend va_W va_W va_W _ (xW h0 nw sp xa la lb) (@HAppend.hAppend va_W va_W va_W _ (rcW X nw an v b g) ([((xa 5), .inl (X.2.1, 3, .inl fr))]))) sz) 0 0 (va_A (@HAppend.hAppend va_W va_W va_W _ (xW h0 nw sp xa la lb) (@HAppend.hAppend va_W va_W va_W _ (rcW X nw an v b g) ([((xa 5), .inl (X.2.1, 3, .inl fr))]))) sz) := by
  refine mk_met (B := (va_A (@HAppend.hAppend va_W va_W va_W _ (xW h0 nw sp xa la lb) (@HAppend.hAppend va_W va_W va_W _ (rcW X nw an v b g) ([((xa 5), .inl (X.2.1, 3, .inl fr))]))) sz)) (A := (va_A (@HAppend.hAppend va_W va_W va_W _ (xW h0 nw sp xa la lb) (@HAppend.hAppend va_W va_W va_W _ (rcW X nw an v b g) ([((xa 5), .inl (X.2.1, 3, .inl fr))]))) sz)) (cc := cX10_forget) (maxL := 4) (ret := (some .int)) (by decide) rfl (Nat.le_of_ble_eq_true rfl) k_w k_a (fun p e s m below meth c S zr zlk znm zsz G ls hl => ?_)
  have S : CallFix p m c cX10_forget 4 s _ wsX10_forget RX10 := S
  have zx := S.1
  have zb := S.2.1
  have hl : lv_has ls 4 [(0, .ref h0), (1, .int x1)] := hl
  have hO_b := hI_b
  obtain ⟨hb0_b, hb1_b, hb2_b, hb3_b, hb4_b⟩ := hO_b
  refine lv_iload_n zx zb dX10_forget_0 rfl (lv_at hl 1 rfl) ?_
  refine lv_iconst (v := 0) zx zb dX10_forget_1 (by decide) ?_
  refine lv_iconst (v := 2) zx zb dX10_forget_2 (by decide) ?_
  refine o_ri (cells' := 0) (slots' := 0) G rfl rfl (n_S (As := [.int x1, .int 0, .int 2]) (rest := []) S G (s_within l X x1 0 2 s.heap.size) gX10_forget_X10_within rfl rfl rfl hdS_X10_within ⟨Nat.le_of_ble_eq_true rfl, Nat.le_of_ble_eq_true rfl⟩ [] rfl rfl rfl hl.1 (Nat.le_of_ble_eq_true rfl) dX10_forget_3 ⟨Nat.le_of_ble_eq_true rfl, Nat.le_of_ble_eq_true rfl⟩) (fun r_1 u_1 H locs hp_1 G => ?_)
  have G : wd X (va_A (@HAppend.hAppend va_W va_W va_W _ (xW h0 nw sp xa la lb) (@HAppend.hAppend va_W va_W va_W _ (rcW X nw an v b g) ([((xa 5), .inl (X.2.1, 3, .inl fr))]))) sz) (va_A (@HAppend.hAppend va_W va_W va_W _ (xW h0 nw sp xa la lb) (@HAppend.hAppend va_W va_W va_W _ (rcW X nw an v b g) ([((xa 5), .inl (X.2.1, 3, .inl fr))]))) sz) s (@HAppend.hAppend va_W va_W va_W _ (xW h0 nw sp xa la lb) (@HAppend.hAppend va_W va_W va_W _ (rcW X nw an v b g) ([((xa 5), .inl (X.2.1, 3, .inl fr))]))) H locs := G
  rcases hp_1 with ⟨rfl, hw_1⟩ | ⟨rfl, hw_1⟩
  · refine lv_if_ne (tgt := 16) zx zb dX10_forget_6 (by decide) (fun c_2 => ?_) (fun c_2 => absurd c_2 (by decide))
    refine lv_iload_n zx zb dX10_forget_16 rfl (lv_at hl 1 rfl) ?_
    refine lv_if_ne (tgt := 30) zx zb dX10_forget_17 (by decide) (fun c_3 => ?_) (fun c_3 => ?_)
    · refine lv_iload_n zx zb dX10_forget_30 rfl (lv_at hl 1 rfl) ?_
      refine lv_iconst (v := 1) zx zb dX10_forget_31 (by decide) ?_
      refine lv_icmp_ne (tgt := 45) zx zb dX10_forget_32 (by decide) (fun c_4 => ?_) (fun c_4 => ?_)
      · refine lv_aload_n zx zb dX10_forget_45 rfl (lv_at hl 0 rfl) ?_
        refine r_get (C := RX10) (T := TX10) (N := 14) (ci := 8) (v := .ref nw) S in_X10_forget_X10 G 0 rfl rfl 0 (by decide) lk_X10_forget_10 rfl dX10_forget_46 ?_
        refine r_get (C := RX5) (T := TX5) (N := 8) (ci := 3) (v := .ref (an 13)) S in_X10_forget_X5 G 1 rfl rfl 7 (by decide) lk_X10_forget_215 rfl dX10_forget_49 ?_
        refine lv_astore_n (lv' := [(2, .ref (an 13)), (0, .ref h0), (1, .int x1)]) zx zb dX10_forget_52 rfl hl (by decide) rfl (fun ls hl => ?_)
        refine lv_aload_n zx zb dX10_forget_53 rfl (lv_at hl 0 rfl) ?_
        refine r_get (C := RX7) (T := TX7) (N := 5) (ci := 5) (v := .int (nI (b 4))) S in_X10_forget_X7 G 15 rfl rfl 4 (by decide) lk_X10_forget_194 rfl dX10_forget_54 ?_
        refine lv_istore_n (lv' := [(3, .int (nI (b 4))), (2, .ref (an 13)), (0, .ref h0), (1, .int x1)]) zx zb dX10_forget_57 rfl hl (by decide) rfl (fun ls hl => ?_)
        refine lv_aload_n zx zb dX10_forget_58 rfl (lv_at hl 1 rfl) ?_
        refine lv_iconst (v := 0) zx zb dX10_forget_59 (by decide) ?_
        refine r_put (C := RX7) (T := TX7) (N := 5) (ci := 5) (v := .int 0) S in_X10_forget_X7 tyX7_ok nmX7 G 15 rfl rfl 4 (by decide) lk_X10_forget_194 rfl (vp_nar_int _) rfl (Nat.le_of_ble_eq_true rfl) dX10_forget_60 (fun H locs G => ?_)
        obtain ⟨b_5, hI_b_5, ⟨hE_b_5_4, hE_b_5_0, hE_b_5_1, hE_b_5_2, hE_b_5_3⟩, G⟩ : ∃ b_5 : Nat → Nat, InR b_5 ∧ (b_5 4 = 0 ∧ b_5 0 = b 0 ∧ b_5 1 = b 1 ∧ b_5 2 = b 2 ∧ b_5 3 = b 3) ∧ wd X (va_A (@HAppend.hAppend va_W va_W va_W _ (xW h0 nw sp xa la lb) (@HAppend.hAppend va_W va_W va_W _ (rcW X nw an v b g) ([((xa 5), .inl (X.2.1, 3, .inl fr))]))) sz) (va_A (@HAppend.hAppend va_W va_W va_W _ (xW h0 nw sp xa la lb) (@HAppend.hAppend va_W va_W va_W _ (rcW X nw an v b g) ([((xa 5), .inl (X.2.1, 3, .inl fr))]))) sz) s (@HAppend.hAppend va_W va_W va_W _ (xW h0 nw sp xa la lb) (@HAppend.hAppend va_W va_W va_W _ (rcW X nw an v b_5 g) ([((xa 5), .inl (X.2.1, 3, .inl fr))]))) H locs := ⟨upN b 4 0, ⟨hI_b.1, hI_b.2.1, hI_b.2.2.1, hI_b.2.2.2.1, (by show 0 ≤ 6; omega)⟩, ⟨rfl, rfl, rfl, rfl, rfl⟩, G⟩
        have hO_b_5 := hI_b_5
        obtain ⟨hb0_b_5, hb1_b_5, hb2_b_5, hb3_b_5, hb4_b_5⟩ := hO_b_5
        refine lv_iload_n zx zb dX10_forget_63 rfl (lv_at hl 0 rfl) ?_
        exact e_int S zr zlk (vp_nar_int _) G (v, b_5, g, fr) [0, 1, 2, 3, 4, 5, 6, 7, 8, 9, 10, 11, 12, 13, 14, 15, 16, 17] rfl rfl (Or.inr rfl) (⟨hI_b_5, trivial⟩) dX10_forget_64
      · refine lv_aload_n zx zb dX10_forget_35 rfl (lv_at hl 0 rfl) ?_
        refine r_get (C := RX10) (T := TX10) (N := 14) (ci := 8) (v := .ref nw) S in_X10_forget_X10 G 0 rfl rfl 0 (by decide) lk_X10_forget_10 rfl dX10_forget_36 ?_
        refine r_get (C := RX5) (T := TX5) (N := 8) (ci := 3) (v := .ref (an 11)) S in_X10_forget_X5 G 1 rfl rfl 6 (by decide) lk_X10_forget_212 rfl dX10_forget_39 ?_
        refine lv_goto (tgt := 52) zx zb dX10_forget_42 (by decide) ?_
        refine lv_astore_n (lv' := [(2, .ref (an 11)), (0, .ref h0), (1, .int x1)]) zx zb dX10_forget_52 rfl hl (by decide) rfl (fun ls hl => ?_)
        refine lv_aload_n zx zb dX10_forget_53 rfl (lv_at hl 0 rfl) ?_
        refine r_get (C := RX7) (T := TX7) (N := 5) (ci := 5) (v := .int (nI (b 3))) S in_X10_forget_X7 G 13 rfl rfl 4 (by decide) lk_X10_forget_194 rfl dX10_forget_54 ?_
        refine lv_istore_n (lv' := [(3, .int (nI (b 3))), (2, .ref (an 11)), (0, .ref h0), (1, .int x1)]) zx zb dX10_forget_57 rfl hl (by decide) rfl (fun ls hl => ?_)
        refine lv_aload_n zx zb dX10_forget_58 rfl (lv_at hl 1 rfl) ?_
        refine lv_iconst (v := 0) zx zb dX10_forget_59 (by decide) ?_
        refine r_put (C := RX7) (T := TX7) (N := 5) (ci := 5) (v := .int 0) S in_X10_forget_X7 tyX7_ok nmX7 G 13 rfl rfl 4 (by decide) lk_X10_forget_194 rfl (vp_nar_int _) rfl (Nat.le_of_ble_eq_true rfl) dX10_forget_60 (fun H locs G => ?_)
        obtain ⟨b_6, hI_b_6, ⟨hE_b_6_3, hE_b_6_0, hE_b_6_1, hE_b_6_2, hE_b_6_4⟩, G⟩ : ∃ b_6 : Nat → Nat, InR b_6 ∧ (b_6 3 = 0 ∧ b_6 0 = b 0 ∧ b_6 1 = b 1 ∧ b_6 2 = b 2 ∧ b_6 4 = b 4) ∧ wd X (va_A (@HAppend.hAppend va_W va_W va_W _ (xW h0 nw sp xa la lb) (@HAppend.hAppend va_W va_W va_W _ (rcW X nw an v b g) ([((xa 5), .inl (X.2.1, 3, .inl fr))]))) sz) (va_A (@HAppend.hAppend va_W va_W va_W _ (xW h0 nw sp xa la lb) (@HAppend.hAppend va_W va_W va_W _ (rcW X nw an v b g) ([((xa 5), .inl (X.2.1, 3, .inl fr))]))) sz) s (@HAppend.hAppend va_W va_W va_W _ (xW h0 nw sp xa la lb) (@HAppend.hAppend va_W va_W va_W _ (rcW X nw an v b_6 g) ([((xa 5), .inl (X.2.1, 3, .inl fr))]))) H locs := ⟨upN b 3 0, ⟨hI_b.1, hI_b.2.1, hI_b.2.2.1, (by show 0 ≤ 6; omega), hI_b.2.2.2.2⟩, ⟨rfl, rfl, rfl, rfl, rfl⟩, G⟩
        have hO_b_6 := hI_b_6
        obtain ⟨hb0_b_6, hb1_b_6, hb2_b_6, hb3_b_6, hb4_b_6⟩ := hO_b_6
        refine lv_iload_n zx zb dX10_forget_63 rfl (lv_at hl 0 rfl) ?_
        exact e_int S zr zlk (vp_nar_int _) G (v, b_6, g, fr) [0, 1, 2, 3, 4, 5, 6, 7, 8, 9, 10, 11, 12, 13, 14, 15, 16, 17] rfl rfl (Or.inr rfl) (⟨hI_b_6, trivial⟩) dX10_forget_64
    · refine lv_aload_n zx zb dX10_forget_20 rfl (lv_at hl 0 rfl) ?_
      refine r_get (C := RX10) (T := TX10) (N := 14) (ci := 8) (v := .ref nw) S in_X10_forget_X10 G 0 rfl rfl 0 (by decide) lk_X10_forget_10 rfl dX10_forget_21 ?_
      refine r_get (C := RX5) (T := TX5) (N := 8) (ci := 3) (v := .ref (an 9)) S in_X10_forget_X5 G 1 rfl rfl 5 (by decide) lk_X10_forget_185 rfl dX10_forget_24 ?_
      refine lv_goto (tgt := 52) zx zb dX10_forget_27 (by decide) ?_
      refine lv_astore_n (lv' := [(2, .ref (an 9)), (0, .ref h0), (1, .int x1)]) zx zb dX10_forget_52 rfl hl (by decide) rfl (fun ls hl => ?_)
      refine lv_aload_n zx zb dX10_forget_53 rfl (lv_at hl 0 rfl) ?_
      refine r_get (C := RX7) (T := TX7) (N := 5) (ci := 5) (v := .int (nI (b 2))) S in_X10_forget_X7 G 11 rfl rfl 4 (by decide) lk_X10_forget_194 rfl dX10_forget_54 ?_
      refine lv_istore_n (lv' := [(3, .int (nI (b 2))), (2, .ref (an 9)), (0, .ref h0), (1, .int x1)]) zx zb dX10_forget_57 rfl hl (by decide) rfl (fun ls hl => ?_)
      refine lv_aload_n zx zb dX10_forget_58 rfl (lv_at hl 1 rfl) ?_
      refine lv_iconst (v := 0) zx zb dX10_forget_59 (by decide) ?_
      refine r_put (C := RX7) (T := TX7) (N := 5) (ci := 5) (v := .int 0) S in_X10_forget_X7 tyX7_ok nmX7 G 11 rfl rfl 4 (by decide) lk_X10_forget_194 rfl (vp_nar_int _) rfl (Nat.le_of_ble_eq_true rfl) dX10_forget_60 (fun H locs G => ?_)
      obtain ⟨b_7, hI_b_7, ⟨hE_b_7_2, hE_b_7_0, hE_b_7_1, hE_b_7_3, hE_b_7_4⟩, G⟩ : ∃ b_7 : Nat → Nat, InR b_7 ∧ (b_7 2 = 0 ∧ b_7 0 = b 0 ∧ b_7 1 = b 1 ∧ b_7 3 = b 3 ∧ b_7 4 = b 4) ∧ wd X (va_A (@HAppend.hAppend va_W va_W va_W _ (xW h0 nw sp xa la lb) (@HAppend.hAppend va_W va_W va_W _ (rcW X nw an v b g) ([((xa 5), .inl (X.2.1, 3, .inl fr))]))) sz) (va_A (@HAppend.hAppend va_W va_W va_W _ (xW h0 nw sp xa la lb) (@HAppend.hAppend va_W va_W va_W _ (rcW X nw an v b g) ([((xa 5), .inl (X.2.1, 3, .inl fr))]))) sz) s (@HAppend.hAppend va_W va_W va_W _ (xW h0 nw sp xa la lb) (@HAppend.hAppend va_W va_W va_W _ (rcW X nw an v b_7 g) ([((xa 5), .inl (X.2.1, 3, .inl fr))]))) H locs := ⟨upN b 2 0, ⟨hI_b.1, hI_b.2.1, (by show 0 ≤ 5; omega), hI_b.2.2.2.1, hI_b.2.2.2.2⟩, ⟨rfl, rfl, rfl, rfl, rfl⟩, G⟩
      have hO_b_7 := hI_b_7
      obtain ⟨hb0_b_7, hb1_b_7, hb2_b_7, hb3_b_7, hb4_b_7⟩ := hO_b_7
      refine lv_iload_n zx zb dX10_forget_63 rfl (lv_at hl 0 rfl) ?_
      exact e_int S zr zlk (vp_nar_int _) G (v, b_7, g, fr) [0, 1, 2, 3, 4, 5, 6, 7, 8, 9, 10, 11, 12, 13, 14, 15, 16, 17] rfl rfl (Or.inr rfl) (⟨hI_b_7, trivial⟩) dX10_forget_64
  · refine lv_if_ne (tgt := 16) zx zb dX10_forget_6 (by decide) (fun c_8 => absurd (by decide) c_8) (fun c_8 => ?_)
    refine lv_aload_n zx zb dX10_forget_9 rfl (lv_at hl 0 rfl) ?_
    refine lv_bipush (v := (-2)) zx zb dX10_forget_10 (by decide) ?_
    refine b_wi (cells' := 0) (slots' := 0) (wr := rcW X nw an v b g) G rfl rfl [0, 17] [1, 2, 3, 4, 5, 6, 7, 8, 9, 10, 11, 12, 13, 14, 15, 16] rfl rfl rfl rfl (n_V (As := [.int (-2)]) (rest := []) (C := RX10) (T := TX10) (N := 14) (ci := 8) S G (s_refuse l X h0 nw sp xa la lb fr (-2) H.size) gX10_forget_X10_refuse rfl rfl rfl hdV_X10_refuse ⟨Nat.le_of_ble_eq_true rfl, Nat.le_of_ble_eq_true rfl⟩ [0, 17] rfl rfl 0 rfl rfl rfl hl.1 (Nat.le_of_ble_eq_true rfl) dX10_forget_12 ⟨Nat.le_of_ble_eq_true rfl, Nat.le_of_ble_eq_true rfl⟩) (fun r_9 u_9 H locs hp_9 G => ?_)
    obtain ⟨f_9, rfl⟩ : ∃ z, z = u_9 := ⟨_, rfl⟩
    have hq_9 := hp_9
    have G : wd X (va_A (@HAppend.hAppend va_W va_W va_W _ (xW h0 nw sp xa la lb) (@HAppend.hAppend va_W va_W va_W _ (rcW X nw an v b g) ([((xa 5), .inl (X.2.1, 3, .inl fr))]))) sz) (va_A (@HAppend.hAppend va_W va_W va_W _ (xW h0 nw sp xa la lb) (@HAppend.hAppend va_W va_W va_W _ (rcW X nw an v b g) ([((xa 5), .inl (X.2.1, 3, .inl fr))]))) sz) s (@HAppend.hAppend va_W va_W va_W _ (rcW X nw an v b g) (@HAppend.hAppend va_W va_W va_W _ (xW h0 nw sp xa la lb) ([((xa 5), .inl (X.2.1, 3, .inl f_9))]))) H locs := G
    exact e_int S zr zlk (vp_nar_int _) G (v, b, g, f_9) [16, 0, 1, 2, 3, 4, 5, 6, 7, 8, 9, 10, 11, 12, 13, 14, 15, 17] rfl rfl (Or.inr rfl) (⟨hI_b, trivial⟩) dX10_forget_15
theorem in_X10_is_X10 : ∀ w ∈ wsX100, w ∈ wsX10_is := by decide +kernel
theorem lk_X10_is_10 : Cond.fieldLink RX10 10 "EggSpoons" "now" "LEggSpoons$Race;" ∈ wsX10_is := by decide +kernel
theorem hdV_X5_kindsThatFit : yX5_kindsThatFit.cls = RX5 ∧ yX5_kindsThatFit.cls ≠ "java/lang/invoke/MethodHandle" ∧ yX5_kindsThatFit.cls ≠ "java/lang/invoke/VarHandle" ∧ (parseMethodDescriptor yX5_kindsThatFit.desc).map (fun d => d.parameters.length) = some 1 := by decide +kernel
set_option maxHeartbeats 4000000 in
set_option maxRecDepth 100000 in
/-- is -/
theorem s_is (l : Launch) (X : EX) (h0 : Nat) (nw : Nat) (sp : Nat) (xa : Nat → Nat) (la : Int64) (lb : Int64) (an : Nat → Nat) (v : Nat → Int32) (b : Nat → Nat) (g : Nat → Nat → Int32) (fr : Nat → Int32) (x1 : Int32) (hI_b : InR b) (sz : Nat) : Met l yX10_is wsX10_is ({ frames := 3, cells := 0, slots := 0, locals := 75 } : Room) (pE X [.ref h0, .int x1] (@HAppend.hAppend va_W va_W va_W _ (xW h0 nw sp xa la lb) (@HAppend.hAppend va_W va_W va_W _ (rcW X nw an v b g) ([((xa 5), .inl (X.2.1, 3, .inl fr))]))) sz) (qI (fun (r : Int32) (u : (Nat → Int32)) => (True)) X (fun (u : (Nat → Int32)) => @HAppend.hAppend va_W va_W va_W _ (xW h0 nw sp xa la lb) (@HAppend.hAppend va_W va_W va_W _ (rcW X nw an v b g) ([((xa 5), .inl (X.2.1, 3, .inl u))]))) (@HAppend.hAppend va_W va_W va_W _ (xW h0 nw sp xa la lb) (@HAppend.hAppend va_W va_W va_W _ (rcW X nw an v b g) ([((xa 5), .inl (X.2.1, 3, .inl fr))]))) sz) 0 0 (va_A (@HAppend.hAppend va_W va_W va_W _ (xW h0 nw sp xa la lb) (@HAppend.hAppend va_W va_W va_W _ (rcW X nw an v b g) ([((xa 5), .inl (X.2.1, 3, .inl fr))]))) sz) := by
  refine mk_met (B := (va_A (@HAppend.hAppend va_W va_W va_W _ (xW h0 nw sp xa la lb) (@HAppend.hAppend va_W va_W va_W _ (rcW X nw an v b g) ([((xa 5), .inl (X.2.1, 3, .inl fr))]))) sz)) (A := (va_A (@HAppend.hAppend va_W va_W va_W _ (xW h0 nw sp xa la lb) (@HAppend.hAppend va_W va_W va_W _ (rcW X nw an v b g) ([((xa 5), .inl (X.2.1, 3, .inl fr))]))) sz)) (cc := cX10_is) (maxL := 2) (ret := (some .int)) (by decide) rfl (Nat.le_of_ble_eq_true rfl) k_w k_a (fun p e s m below meth c S zr zlk znm zsz G ls hl => ?_)
  have S : CallFix p m c cX10_is 2 s _ wsX10_is RX10 := S
  have zx := S.1
  have zb := S.2.1
  have hl : lv_has ls 2 [(0, .ref h0), (1, .int x1)] := hl
  have hO_b := hI_b
  obtain ⟨hb0_b, hb1_b, hb2_b, hb3_b, hb4_b⟩ := hO_b
  refine lv_aload_n zx zb dX10_is_0 rfl (lv_at hl 0 rfl) ?_
  refine lv_iload_n zx zb dX10_is_1 rfl (lv_at hl 1 rfl) ?_
  refine o_ri (cells' := 0) (slots' := 0) G rfl rfl (n_V (As := [.int x1]) (rest := []) (C := RX10) (T := TX10) (N := 14) (ci := 8) S G (s_there l X h0 nw sp xa la lb an v b g x1 hI_b s.heap.size) gX10_is_X10_there rfl rfl rfl hdV_X10_there ⟨Nat.le_of_ble_eq_true rfl, Nat.le_of_ble_eq_true rfl⟩ [0, 1, 2, 3, 4, 5, 6, 7, 8, 9, 10, 11, 12, 13, 14, 15, 16] rfl rfl 0 rfl rfl rfl hl.1 (Nat.le_of_ble_eq_true rfl) dX10_is_2 ⟨Nat.le_of_ble_eq_true rfl, Nat.le_of_ble_eq_true rfl⟩) (fun r_1 u_1 H locs hp_1 G => ?_)
  have G : wd X (va_A (@HAppend.hAppend va_W va_W va_W _ (xW h0 nw sp xa la lb) (@HAppend.hAppend va_W va_W va_W _ (rcW X nw an v b g) ([((xa 5), .inl (X.2.1, 3, .inl fr))]))) sz) (va_A (@HAppend.hAppend va_W va_W va_W _ (xW h0 nw sp xa la lb) (@HAppend.hAppend va_W va_W va_W _ (rcW X nw an v b g) ([((xa 5), .inl (X.2.1, 3, .inl fr))]))) sz) s (@HAppend.hAppend va_W va_W va_W _ (xW h0 nw sp xa la lb) (@HAppend.hAppend va_W va_W va_W _ (rcW X nw an v b g) ([((xa 5), .inl (X.2.1, 3, .inl fr))]))) H locs := G
  rcases hp_1 with ⟨rfl, hj_1⟩ | rfl
  · obtain ⟨j_1, hj_1, rfl⟩ := hj_1
    refine lv_if_eq (tgt := 19) zx zb dX10_is_5 (by decide) (fun c_2 => absurd c_2 (by decide)) (fun c_2 => ?_)
    refine lv_aload_n zx zb dX10_is_8 rfl (lv_at hl 0 rfl) ?_
    refine r_get (C := RX10) (T := TX10) (N := 14) (ci := 8) (v := .ref nw) S in_X10_is_X10 G 0 rfl rfl 0 (by decide) lk_X10_is_10 rfl dX10_is_9 ?_
    refine lv_iload_n zx zb dX10_is_12 rfl (lv_at hl 1 rfl) ?_
    refine o_ri (cells' := 0) (slots' := 0) G rfl rfl (n_V (As := [.int (nI j_1)]) (rest := []) (C := RX5) (T := TX5) (N := 8) (ci := 3) S G (s_kindsThatFit l X nw an v b g j_1 hI_b (by omega) H.size) gX10_is_X5_kindsThatFit rfl rfl rfl hdV_X5_kindsThatFit ⟨Nat.le_of_ble_eq_true rfl, Nat.le_of_ble_eq_true rfl⟩ [1, 2, 3, 4, 5, 6, 7, 8, 9, 10, 11, 12, 13, 14, 15, 16] rfl rfl 1 rfl rfl rfl hl.1 (Nat.le_of_ble_eq_true rfl) dX10_is_13 ⟨Nat.le_of_ble_eq_true rfl, Nat.le_of_ble_eq_true rfl⟩) (fun r_3 u_3 H locs hp_3 G => ?_)
    have G : wd X (va_A (@HAppend.hAppend va_W va_W va_W _ (xW h0 nw sp xa la lb) (@HAppend.hAppend va_W va_W va_W _ (rcW X nw an v b g) ([((xa 5), .inl (X.2.1, 3, .inl fr))]))) sz) (va_A (@HAppend.hAppend va_W va_W va_W _ (xW h0 nw sp xa la lb) (@HAppend.hAppend va_W va_W va_W _ (rcW X nw an v b g) ([((xa 5), .inl (X.2.1, 3, .inl fr))]))) sz) s (@HAppend.hAppend va_W va_W va_W _ (xW h0 nw sp xa la lb) (@HAppend.hAppend va_W va_W va_W _ (rcW X nw an v b g) ([((xa 5), .inl (X.2.1, 3, .inl fr))]))) H locs := G
    refine lv_goto (tgt := 25) zx zb dX10_is_16 (by decide) ?_
    exact e_int S zr zlk (vp_nar_int _) G (fr) [0, 1, 2, 3, 4, 5, 6, 7, 8, 9, 10, 11, 12, 13, 14, 15, 16, 17] rfl rfl (Or.inr rfl) (trivial) dX10_is_25
  · refine lv_if_eq (tgt := 19) zx zb dX10_is_5 (by decide) (fun c_4 => ?_) (fun c_4 => absurd (by decide) c_4)
    refine lv_aload_n zx zb dX10_is_19 rfl (lv_at hl 0 rfl) ?_
    refine lv_bipush (v := (-2)) zx zb dX10_is_20 (by decide) ?_
    refine b_wi (cells' := 0) (slots' := 0) (wr := rcW X nw an v b g) G rfl rfl [0, 17] [1, 2, 3, 4, 5, 6, 7, 8, 9, 10, 11, 12, 13, 14, 15, 16] rfl rfl rfl rfl (n_V (As := [.int (-2)]) (rest := []) (C := RX10) (T := TX10) (N := 14) (ci := 8) S G (s_refuse l X h0 nw sp xa la lb fr (-2) H.size) gX10_is_X10_refuse rfl rfl rfl hdV_X10_refuse ⟨Nat.le_of_ble_eq_true rfl, Nat.le_of_ble_eq_true rfl⟩ [0, 17] rfl rfl 0 rfl rfl rfl hl.1 (Nat.le_of_ble_eq_true rfl) dX10_is_22 ⟨Nat.le_of_ble_eq_true rfl, Nat.le_of_ble_eq_true rfl⟩) (fun r_5 u_5 H locs hp_5 G => ?_)
    obtain ⟨f_5, rfl⟩ : ∃ z, z = u_5 := ⟨_, rfl⟩
    have hq_5 := hp_5
    have G : wd X (va_A (@HAppend.hAppend va_W va_W va_W _ (xW h0 nw sp xa la lb) (@HAppend.hAppend va_W va_W va_W _ (rcW X nw an v b g) ([((xa 5), .inl (X.2.1, 3, .inl fr))]))) sz) (va_A (@HAppend.hAppend va_W va_W va_W _ (xW h0 nw sp xa la lb) (@HAppend.hAppend va_W va_W va_W _ (rcW X nw an v b g) ([((xa 5), .inl (X.2.1, 3, .inl fr))]))) sz) s (@HAppend.hAppend va_W va_W va_W _ (rcW X nw an v b g) (@HAppend.hAppend va_W va_W va_W _ (xW h0 nw sp xa la lb) ([((xa 5), .inl (X.2.1, 3, .inl f_5))]))) H locs := G
    exact e_int S zr zlk (vp_nar_int _) G (f_5) [16, 0, 1, 2, 3, 4, 5, 6, 7, 8, 9, 10, 11, 12, 13, 14, 15, 17] rfl rfl (Or.inr rfl) (trivial) dX10_is_25
theorem in_X10_kinds_X10 : ∀ w ∈ wsX100, w ∈ wsX10_kinds := by decide +kernel
theorem lk_X10_kinds_10 : Cond.fieldLink RX10 10 "EggSpoons" "now" "LEggSpoons$Race;" ∈ wsX10_kinds := by decide +kernel
theorem hdV_X5_eggsThatFit : yX5_eggsThatFit.cls = RX5 ∧ yX5_eggsThatFit.cls ≠ "java/lang/invoke/MethodHandle" ∧ yX5_eggsThatFit.cls ≠ "java/lang/invoke/VarHandle" ∧ (parseMethodDescriptor yX5_eggsThatFit.desc).map (fun d => d.parameters.length) = some 1 := by decide +kernel
set_option maxHeartbeats 4000000 in
set_option maxRecDepth 100000 in
/-- kinds -/
theorem s_kinds (l : Launch) (X : EX) (h0 : Nat) (nw : Nat) (sp : Nat) (xa : Nat → Nat) (la : Int64) (lb : Int64) (an : Nat → Nat) (v : Nat → Int32) (b : Nat → Nat) (g : Nat → Nat → Int32) (fr : Nat → Int32) (x1 : Int32) (hI_b : InR b) (sz : Nat) : Met l yX10_kinds wsX10_kinds ({ frames := 3, cells := 0, slots := 0, locals := 71 } : Room) (pE X [.ref h0, .int x1] (@HAppend.hAppend va_W va_W va_W _ (xW h0 nw sp xa la lb) (@HAppend.hAppend va_W va_W va_W _ (rcW X nw an v b g) ([((xa 5), .inl (X.2.1, 3, .inl fr))]))) sz) (qI (fun (r : Int32) (u : (Nat → Int32)) => (True)) X (fun (u : (Nat → Int32)) => @HAppend.hAppend va_W va_W va_W _ (xW h0 nw sp xa la lb) (@HAppend.hAppend va_W va_W va_W _ (rcW X nw an v b g) ([((xa 5), .inl (X.2.1, 3, .inl u))]))) (@HAppend.hAppend va_W va_W va_W _ (xW h0 nw sp xa la lb) (@HAppend.hAppend va_W va_W va_W _ (rcW X nw an v b g) ([((xa 5), .inl (X.2.1, 3, .inl fr))]))) sz) 0 0 (va_A (@HAppend.hAppend va_W va_W va_W _ (xW h0 nw sp xa la lb) (@HAppend.hAppend va_W va_W va_W _ (rcW X nw an v b g) ([((xa 5), .inl (X.2.1, 3, .inl fr))]))) sz) := by
  refine mk_met (B := (va_A (@HAppend.hAppend va_W va_W va_W _ (xW h0 nw sp xa la lb) (@HAppend.hAppend va_W va_W va_W _ (rcW X nw an v b g) ([((xa 5), .inl (X.2.1, 3, .inl fr))]))) sz)) (A := (va_A (@HAppend.hAppend va_W va_W va_W _ (xW h0 nw sp xa la lb) (@HAppend.hAppend va_W va_W va_W _ (rcW X nw an v b g) ([((xa 5), .inl (X.2.1, 3, .inl fr))]))) sz)) (cc := cX10_kinds) (maxL := 2) (ret := (some .int)) (by decide) rfl (Nat.le_of_ble_eq_true rfl) k_w k_a (fun p e s m below meth c S zr zlk znm zsz G ls hl => ?_)
  have S : CallFix p m c cX10_kinds 2 s _ wsX10_kinds RX10 := S
  have zx := S.1
  have zb := S.2.1
  have hl : lv_has ls 2 [(0, .ref h0), (1, .int x1)] := hl
  have hO_b := hI_b
  obtain ⟨hb0_b, hb1_b, hb2_b, hb3_b, hb4_b⟩ := hO_b
  refine lv_aload_n zx zb dX10_kinds_0 rfl (lv_at hl 0 rfl) ?_
  refine lv_iload_n zx zb dX10_kinds_1 rfl (lv_at hl 1 rfl) ?_
  refine o_ri (cells' := 0) (slots' := 0) G rfl rfl (n_V (As := [.int x1]) (rest := []) (C := RX10) (T := TX10) (N := 14) (ci := 8) S G (s_there l X h0 nw sp xa la lb an v b g x1 hI_b s.heap.size) gX10_kinds_X10_there rfl rfl rfl hdV_X10_there ⟨Nat.le_of_ble_eq_true rfl, Nat.le_of_ble_eq_true rfl⟩ [0, 1, 2, 3, 4, 5, 6, 7, 8, 9, 10, 11, 12, 13, 14, 15, 16] rfl rfl 0 rfl rfl rfl hl.1 (Nat.le_of_ble_eq_true rfl) dX10_kinds_2 ⟨Nat.le_of_ble_eq_true rfl, Nat.le_of_ble_eq_true rfl⟩) (fun r_1 u_1 H locs hp_1 G => ?_)
  have G : wd X (va_A (@HAppend.hAppend va_W va_W va_W _ (xW h0 nw sp xa la lb) (@HAppend.hAppend va_W va_W va_W _ (rcW X nw an v b g) ([((xa 5), .inl (X.2.1, 3, .inl fr))]))) sz) (va_A (@HAppend.hAppend va_W va_W va_W _ (xW h0 nw sp xa la lb) (@HAppend.hAppend va_W va_W va_W _ (rcW X nw an v b g) ([((xa 5), .inl (X.2.1, 3, .inl fr))]))) sz) s (@HAppend.hAppend va_W va_W va_W _ (xW h0 nw sp xa la lb) (@HAppend.hAppend va_W va_W va_W _ (rcW X nw an v b g) ([((xa 5), .inl (X.2.1, 3, .inl fr))]))) H locs := G
  rcases hp_1 with ⟨rfl, hj_1⟩ | rfl
  · obtain ⟨j_1, hj_1, rfl⟩ := hj_1
    refine lv_if_eq (tgt := 19) zx zb dX10_kinds_5 (by decide) (fun c_2 => absurd c_2 (by decide)) (fun c_2 => ?_)
    refine lv_aload_n zx zb dX10_kinds_8 rfl (lv_at hl 0 rfl) ?_
    refine r_get (C := RX10) (T := TX10) (N := 14) (ci := 8) (v := .ref nw) S in_X10_kinds_X10 G 0 rfl rfl 0 (by decide) lk_X10_kinds_10 rfl dX10_kinds_9 ?_
    refine lv_iload_n zx zb dX10_kinds_12 rfl (lv_at hl 1 rfl) ?_
    refine o_ri (cells' := 0) (slots' := 0) G rfl rfl (n_V (As := [.int (nI j_1)]) (rest := []) (C := RX5) (T := TX5) (N := 8) (ci := 3) S G (s_eggsThatFit l X nw an v b g j_1 hI_b (by omega) H.size) gX10_kinds_X5_eggsThatFit rfl rfl rfl hdV_X5_eggsThatFit ⟨Nat.le_of_ble_eq_true rfl, Nat.le_of_ble_eq_true rfl⟩ [1, 2, 3, 4, 5, 6, 7, 8, 9, 10, 11, 12, 13, 14, 15, 16] rfl rfl 1 rfl rfl rfl hl.1 (Nat.le_of_ble_eq_true rfl) dX10_kinds_13 ⟨Nat.le_of_ble_eq_true rfl, Nat.le_of_ble_eq_true rfl⟩) (fun r_3 u_3 H locs hp_3 G => ?_)
    have G : wd X (va_A (@HAppend.hAppend va_W va_W va_W _ (xW h0 nw sp xa la lb) (@HAppend.hAppend va_W va_W va_W _ (rcW X nw an v b g) ([((xa 5), .inl (X.2.1, 3, .inl fr))]))) sz) (va_A (@HAppend.hAppend va_W va_W va_W _ (xW h0 nw sp xa la lb) (@HAppend.hAppend va_W va_W va_W _ (rcW X nw an v b g) ([((xa 5), .inl (X.2.1, 3, .inl fr))]))) sz) s (@HAppend.hAppend va_W va_W va_W _ (xW h0 nw sp xa la lb) (@HAppend.hAppend va_W va_W va_W _ (rcW X nw an v b g) ([((xa 5), .inl (X.2.1, 3, .inl fr))]))) H locs := G
    refine lv_goto (tgt := 25) zx zb dX10_kinds_16 (by decide) ?_
    exact e_int S zr zlk (vp_nar_int _) G (fr) [0, 1, 2, 3, 4, 5, 6, 7, 8, 9, 10, 11, 12, 13, 14, 15, 16, 17] rfl rfl (Or.inr rfl) (trivial) dX10_kinds_25
  · refine lv_if_eq (tgt := 19) zx zb dX10_kinds_5 (by decide) (fun c_4 => ?_) (fun c_4 => absurd (by decide) c_4)
    refine lv_aload_n zx zb dX10_kinds_19 rfl (lv_at hl 0 rfl) ?_
    refine lv_bipush (v := (-2)) zx zb dX10_kinds_20 (by decide) ?_
    refine b_wi (cells' := 0) (slots' := 0) (wr := rcW X nw an v b g) G rfl rfl [0, 17] [1, 2, 3, 4, 5, 6, 7, 8, 9, 10, 11, 12, 13, 14, 15, 16] rfl rfl rfl rfl (n_V (As := [.int (-2)]) (rest := []) (C := RX10) (T := TX10) (N := 14) (ci := 8) S G (s_refuse l X h0 nw sp xa la lb fr (-2) H.size) gX10_kinds_X10_refuse rfl rfl rfl hdV_X10_refuse ⟨Nat.le_of_ble_eq_true rfl, Nat.le_of_ble_eq_true rfl⟩ [0, 17] rfl rfl 0 rfl rfl rfl hl.1 (Nat.le_of_ble_eq_true rfl) dX10_kinds_22 ⟨Nat.le_of_ble_eq_true rfl, Nat.le_of_ble_eq_true rfl⟩) (fun r_5 u_5 H locs hp_5 G => ?_)
    obtain ⟨f_5, rfl⟩ : ∃ z, z = u_5 := ⟨_, rfl⟩
    have hq_5 := hp_5
    have G : wd X (va_A (@HAppend.hAppend va_W va_W va_W _ (xW h0 nw sp xa la lb) (@HAppend.hAppend va_W va_W va_W _ (rcW X nw an v b g) ([((xa 5), .inl (X.2.1, 3, .inl fr))]))) sz) (va_A (@HAppend.hAppend va_W va_W va_W _ (xW h0 nw sp xa la lb) (@HAppend.hAppend va_W va_W va_W _ (rcW X nw an v b g) ([((xa 5), .inl (X.2.1, 3, .inl fr))]))) sz) s (@HAppend.hAppend va_W va_W va_W _ (rcW X nw an v b g) (@HAppend.hAppend va_W va_W va_W _ (xW h0 nw sp xa la lb) ([((xa 5), .inl (X.2.1, 3, .inl f_5))]))) H locs := G
    exact e_int S zr zlk (vp_nar_int _) G (f_5) [16, 0, 1, 2, 3, 4, 5, 6, 7, 8, 9, 10, 11, 12, 13, 14, 15, 17] rfl rfl (Or.inr rfl) (trivial) dX10_kinds_25
theorem in_X10_strong_X10 : ∀ w ∈ wsX100, w ∈ wsX10_strong := by decide +kernel
theorem lk_X10_strong_10 : Cond.fieldLink RX10 10 "EggSpoons" "now" "LEggSpoons$Race;" ∈ wsX10_strong := by decide +kernel
theorem hdV_X5_legsThatFit : yX5_legsThatFit.cls = RX5 ∧ yX5_legsThatFit.cls ≠ "java/lang/invoke/MethodHandle" ∧ yX5_legsThatFit.cls ≠ "java/lang/invoke/VarHandle" ∧ (parseMethodDescriptor yX5_legsThatFit.desc).map (fun d => d.parameters.length) = some 1 := by decide +kernel
theorem hdS_X10_hasBit : yX10_hasBit.cls ≠ "java/lang/invoke/MethodHandle" ∧ yX10_hasBit.cls ≠ "java/lang/invoke/VarHandle" ∧ (parseMethodDescriptor yX10_hasBit.desc).map (fun d => d.parameters.length) = some 2 := by decide +kernel
theorem hdS_J6_bitCount_0f7a4 : yJ6_bitCount_0f7a4.cls ≠ "java/lang/invoke/MethodHandle" ∧ yJ6_bitCount_0f7a4.cls ≠ "java/lang/invoke/VarHandle" ∧ (parseMethodDescriptor yJ6_bitCount_0f7a4.desc).map (fun d => d.parameters.length) = some 1 := by decide +kernel
set_option maxHeartbeats 4000000 in
set_option maxRecDepth 100000 in
/-- strong -/
theorem s_strong (l : Launch) (X : EX) (h0 : Nat) (nw : Nat) (sp : Nat) (xa : Nat → Nat) (la : Int64) (lb : Int64) (an : Nat → Nat) (v : Nat → Int32) (b : Nat → Nat) (g : Nat → Nat → Int32) (fr : Nat → Int32) (x1 : Int32) (x2 : Int32) (hI_b : InR b) (sz : Nat) : Met l yX10_strong wsX10_strong ({ frames := 3, cells := 0, slots := 0, locals := 75 } : Room) (pE X [.ref h0, .int x1, .int x2] (@HAppend.hAppend va_W va_W va_W _ (xW h0 nw sp xa la lb) (@HAppend.hAppend va_W va_W va_W _ (rcW X nw an v b g) ([((xa 5), .inl (X.2.1, 3, .inl fr))]))) sz) (qI (fun (r : Int32) (u : (Nat → Int32)) => (True)) X (fun (u : (Nat → Int32)) => @HAppend.hAppend va_W va_W va_W _ (xW h0 nw sp xa la lb) (@HAppend.hAppend va_W va_W va_W _ (rcW X nw an v b g) ([((xa 5), .inl (X.2.1, 3, .inl u))]))) (@HAppend.hAppend va_W va_W va_W _ (xW h0 nw sp xa la lb) (@HAppend.hAppend va_W va_W va_W _ (rcW X nw an v b g) ([((xa 5), .inl (X.2.1, 3, .inl fr))]))) sz) 0 0 (va_A (@HAppend.hAppend va_W va_W va_W _ (xW h0 nw sp xa la lb) (@HAppend.hAppend va_W va_W va_W _ (rcW X nw an v b g) ([((xa 5), .inl (X.2.1, 3, .inl fr))]))) sz) := by
  refine mk_met (B := (va_A (@HAppend.hAppend va_W va_W va_W _ (xW h0 nw sp xa la lb) (@HAppend.hAppend va_W va_W va_W _ (rcW X nw an v b g) ([((xa 5), .inl (X.2.1, 3, .inl fr))]))) sz)) (A := (va_A (@HAppend.hAppend va_W va_W va_W _ (xW h0 nw sp xa la lb) (@HAppend.hAppend va_W va_W va_W _ (rcW X nw an v b g) ([((xa 5), .inl (X.2.1, 3, .inl fr))]))) sz)) (cc := cX10_strong) (maxL := 6) (ret := (some .int)) (by decide) rfl (Nat.le_of_ble_eq_true rfl) k_w k_a (fun p e s m below meth c S zr zlk znm zsz G ls hl => ?_)
  have S : CallFix p m c cX10_strong 6 s _ wsX10_strong RX10 := S
  have zx := S.1
  have zb := S.2.1
  have hl : lv_has ls 6 [(0, .ref h0), (1, .int x1), (2, .int x2)] := hl
  have hO_b := hI_b
  obtain ⟨hb0_b, hb1_b, hb2_b, hb3_b, hb4_b⟩ := hO_b
  refine lv_aload_n zx zb dX10_strong_0 rfl (lv_at hl 0 rfl) ?_
  refine lv_iload_n zx zb dX10_strong_1 rfl (lv_at hl 1 rfl) ?_
  refine o_ri (cells' := 0) (slots' := 0) G rfl rfl (n_V (As := [.int x1]) (rest := []) (C := RX10) (T := TX10) (N := 14) (ci := 8) S G (s_there l X h0 nw sp xa la lb an v b g x1 hI_b s.heap.size) gX10_strong_X10_there rfl rfl rfl hdV_X10_there ⟨Nat.le_of_ble_eq_true rfl, Nat.le_of_ble_eq_true rfl⟩ [0, 1, 2, 3, 4, 5, 6, 7, 8, 9, 10, 11, 12, 13, 14, 15, 16] rfl rfl 0 rfl rfl rfl hl.1 (Nat.le_of_ble_eq_true rfl) dX10_strong_2 ⟨Nat.le_of_ble_eq_true rfl, Nat.le_of_ble_eq_true rfl⟩) (fun r_1 u_1 H locs hp_1 G => ?_)
  have G : wd X (va_A (@HAppend.hAppend va_W va_W va_W _ (xW h0 nw sp xa la lb) (@HAppend.hAppend va_W va_W va_W _ (rcW X nw an v b g) ([((xa 5), .inl (X.2.1, 3, .inl fr))]))) sz) (va_A (@HAppend.hAppend va_W va_W va_W _ (xW h0 nw sp xa la lb) (@HAppend.hAppend va_W va_W va_W _ (rcW X nw an v b g) ([((xa 5), .inl (X.2.1, 3, .inl fr))]))) sz) s (@HAppend.hAppend va_W va_W va_W _ (xW h0 nw sp xa la lb) (@HAppend.hAppend va_W va_W va_W _ (rcW X nw an v b g) ([((xa 5), .inl (X.2.1, 3, .inl fr))]))) H locs := G
  rcases hp_1 with ⟨rfl, hj_1⟩ | rfl
  · obtain ⟨j_1, hj_1, rfl⟩ := hj_1
    refine lv_if_eq (tgt := 17) zx zb dX10_strong_5 (by decide) (fun c_2 => absurd c_2 (by decide)) (fun c_2 => ?_)
    refine lv_iload_n zx zb dX10_strong_8 rfl (lv_at hl 2 rfl) ?_
    refine lv_iconst (v := 0) zx zb dX10_strong_9 (by decide) ?_
    refine lv_iconst (v := 2) zx zb dX10_strong_10 (by decide) ?_
    refine o_ri (cells' := 0) (slots' := 0) G rfl rfl (n_S (As := [.int x2, .int 0, .int 2]) (rest := []) S G (s_within l X x2 0 2 H.size) gX10_strong_X10_within rfl rfl rfl hdS_X10_within ⟨Nat.le_of_ble_eq_true rfl, Nat.le_of_ble_eq_true rfl⟩ [] rfl rfl rfl hl.1 (Nat.le_of_ble_eq_true rfl) dX10_strong_11 ⟨Nat.le_of_ble_eq_true rfl, Nat.le_of_ble_eq_true rfl⟩) (fun r_3 u_3 H locs hp_3 G => ?_)
    have G : wd X (va_A (@HAppend.hAppend va_W va_W va_W _ (xW h0 nw sp xa la lb) (@HAppend.hAppend va_W va_W va_W _ (rcW X nw an v b g) ([((xa 5), .inl (X.2.1, 3, .inl fr))]))) sz) (va_A (@HAppend.hAppend va_W va_W va_W _ (xW h0 nw sp xa la lb) (@HAppend.hAppend va_W va_W va_W _ (rcW X nw an v b g) ([((xa 5), .inl (X.2.1, 3, .inl fr))]))) sz) s (@HAppend.hAppend va_W va_W va_W _ (xW h0 nw sp xa la lb) (@HAppend.hAppend va_W va_W va_W _ (rcW X nw an v b g) ([((xa 5), .inl (X.2.1, 3, .inl fr))]))) H locs := G
    rcases hp_3 with ⟨rfl, hw_3⟩ | ⟨rfl, hw_3⟩
    · refine lv_if_ne (tgt := 24) zx zb dX10_strong_14 (by decide) (fun c_4 => ?_) (fun c_4 => absurd c_4 (by decide))
      refine lv_aload_n zx zb dX10_strong_24 rfl (lv_at hl 0 rfl) ?_
      refine r_get (C := RX10) (T := TX10) (N := 14) (ci := 8) (v := .ref nw) S in_X10_strong_X10 G 0 rfl rfl 0 (by decide) lk_X10_strong_10 rfl dX10_strong_25 ?_
      refine lv_iload_n zx zb dX10_strong_28 rfl (lv_at hl 1 rfl) ?_
      refine o_ri (cells' := 0) (slots' := 0) G rfl rfl (n_V (As := [.int (nI j_1)]) (rest := []) (C := RX5) (T := TX5) (N := 8) (ci := 3) S G (s_legsThatFit l X nw an v b g j_1 hI_b (by omega) H.size) gX10_strong_X5_legsThatFit rfl rfl rfl hdV_X5_legsThatFit ⟨Nat.le_of_ble_eq_true rfl, Nat.le_of_ble_eq_true rfl⟩ [1, 2, 3, 4, 5, 6, 7, 8, 9, 10, 11, 12, 13, 14, 15, 16] rfl rfl 1 rfl rfl rfl hl.1 (Nat.le_of_ble_eq_true rfl) dX10_strong_29 ⟨Nat.le_of_ble_eq_true rfl, Nat.le_of_ble_eq_true rfl⟩) (fun r_5 u_5 H locs hp_5 G => ?_)
      have G : wd X (va_A (@HAppend.hAppend va_W va_W va_W _ (xW h0 nw sp xa la lb) (@HAppend.hAppend va_W va_W va_W _ (rcW X nw an v b g) ([((xa 5), .inl (X.2.1, 3, .inl fr))]))) sz) (va_A (@HAppend.hAppend va_W va_W va_W _ (xW h0 nw sp xa la lb) (@HAppend.hAppend va_W va_W va_W _ (rcW X nw an v b g) ([((xa 5), .inl (X.2.1, 3, .inl fr))]))) sz) s (@HAppend.hAppend va_W va_W va_W _ (xW h0 nw sp xa la lb) (@HAppend.hAppend va_W va_W va_W _ (rcW X nw an v b g) ([((xa 5), .inl (X.2.1, 3, .inl fr))]))) H locs := G
      refine lv_istore_n (lv' := [(3, .int r_5), (0, .ref h0), (1, .int (nI j_1)), (2, .int x2)]) zx zb dX10_strong_32 rfl hl (by decide) rfl (fun ls hl => ?_)
      refine lv_iload_n zx zb dX10_strong_33 rfl (lv_at hl 3 rfl) ?_
      refine lv_if_ne (tgt := 42) zx zb dX10_strong_34 (by decide) (fun c_6 => ?_) (fun c_6 => ?_)
      · refine lv_iconst (v := (-1)) zx zb dX10_strong_42 (by decide) ?_
        refine lv_istore (lv' := [(4, .int (-1)), (3, .int r_5), (0, .ref h0), (1, .int (nI j_1)), (2, .int x2)]) zx zb dX10_strong_43 hl (by decide) rfl (fun ls hl => ?_)
        refine lv_iconst (v := 1) zx zb dX10_strong_45 (by decide) ?_
        refine lv_istore (lv' := [(5, .int 1), (4, .int (-1)), (3, .int r_5), (0, .ref h0), (1, .int (nI j_1)), (2, .int x2)]) zx zb dX10_strong_46 hl (by decide) rfl (fun ls hl => ?_)
        refine k_loop (P := ∀ (zm : Nat) (k48 : Nat) (x48_4 : Int32) (H : Heap) (locs : List Loc) (ls : Array Slot), 10 + 1 ≤ k48 + zm → (k48 ≤ 10) → wd X (va_A (@HAppend.hAppend va_W va_W va_W _ (xW h0 nw sp xa la lb) (@HAppend.hAppend va_W va_W va_W _ (rcW X nw an v b g) ([((xa 5), .inl (X.2.1, 3, .inl fr))]))) sz) (va_A (@HAppend.hAppend va_W va_W va_W _ (xW h0 nw sp xa la lb) (@HAppend.hAppend va_W va_W va_W _ (rcW X nw an v b g) ([((xa 5), .inl (X.2.1, 3, .inl fr))]))) sz) s (@HAppend.hAppend va_W va_W va_W _ (xW h0 nw sp xa la lb) (@HAppend.hAppend va_W va_W va_W _ (rcW X nw an v b g) ([((xa 5), .inl (X.2.1, 3, .inl fr))]))) H locs → lv_has ls 6 [(5, .int (nI k48)), (4, .int x48_4), (3, .int r_5), (0, .ref h0), (1, .int (nI j_1)), (2, .int x2)] → W p l e _ s m _ below meth c H locs _ _ _ (F0 m 48 ls [])) (fun loop => loop (10 + 1) 1 (-1) _ _ _ (by omega) (by omega) G hl) ?_
        intro zm
        induction zm with
        | zero => intro k48 x48_4 H locs ls zz q_hk_k48 _ _; exact absurd zz (by omega)
        | succ zm ih48 =>
          intro k48 x48_4 H locs ls zm_48 hk_k48 G hl
          refine lv_iload zx zb dX10_strong_48 (lv_at hl 0 rfl) ?_
          refine lv_bipush (v := 9) zx zb dX10_strong_50 (by decide) ?_
          refine lv_icmp_gt (tgt := 85) zx zb dX10_strong_52 (by decide) (fun c_7 => ?_) (fun c_7 => ?_)
          · have fc_7 := j_lt (a := 9) (b := k48) (by omega) (by omega) c_7
            refine lv_iload zx zb dX10_strong_85 (lv_at hl 1 rfl) ?_
            exact e_int S zr zlk (vp_nar_int _) G (fr) [0, 1, 2, 3, 4, 5, 6, 7, 8, 9, 10, 11, 12, 13, 14, 15, 16, 17] rfl rfl (Or.inr rfl) (trivial) dX10_strong_87
          · have fc_7 := j_nlt (a := 9) (b := k48) (by omega) (by omega) c_7
            refine lv_iload_n zx zb dX10_strong_55 rfl (lv_at hl 2 rfl) ?_
            refine lv_iload zx zb dX10_strong_56 (lv_at hl 0 rfl) ?_
            refine o_ri (cells' := 0) (slots' := 0) G rfl rfl (n_S (As := [.int r_5, .int (nI k48)]) (rest := []) S G (s_hasBit l X r_5 (nI k48) H.size) gX10_strong_X10_hasBit rfl rfl rfl hdS_X10_hasBit ⟨Nat.le_of_ble_eq_true rfl, Nat.le_of_ble_eq_true rfl⟩ [] rfl rfl rfl hl.1 (Nat.le_of_ble_eq_true rfl) dX10_strong_58 ⟨Nat.le_of_ble_eq_true rfl, Nat.le_of_ble_eq_true rfl⟩) (fun r_8 u_8 H locs hp_8 G => ?_)
            have G : wd X (va_A (@HAppend.hAppend va_W va_W va_W _ (xW h0 nw sp xa la lb) (@HAppend.hAppend va_W va_W va_W _ (rcW X nw an v b g) ([((xa 5), .inl (X.2.1, 3, .inl fr))]))) sz) (va_A (@HAppend.hAppend va_W va_W va_W _ (xW h0 nw sp xa la lb) (@HAppend.hAppend va_W va_W va_W _ (rcW X nw an v b g) ([((xa 5), .inl (X.2.1, 3, .inl fr))]))) sz) s (@HAppend.hAppend va_W va_W va_W _ (xW h0 nw sp xa la lb) (@HAppend.hAppend va_W va_W va_W _ (rcW X nw an v b g) ([((xa 5), .inl (X.2.1, 3, .inl fr))]))) H locs := G
            refine k_cutW (PP := fun Wx => ∀ (x_10 : Int32) (H : Heap) (locs : List Loc) (ls : Array Slot), wd X (va_A (@HAppend.hAppend va_W va_W va_W _ (xW h0 nw sp xa la lb) (@HAppend.hAppend va_W va_W va_W _ (rcW X nw an v b g) ([((xa 5), .inl (X.2.1, 3, .inl fr))]))) sz) (va_A (@HAppend.hAppend va_W va_W va_W _ (xW h0 nw sp xa la lb) (@HAppend.hAppend va_W va_W va_W _ (rcW X nw an v b g) ([((xa 5), .inl (X.2.1, 3, .inl fr))]))) sz) s (@HAppend.hAppend va_W va_W va_W _ (xW h0 nw sp xa la lb) (@HAppend.hAppend va_W va_W va_W _ (rcW X nw an v b g) ([((xa 5), .inl (X.2.1, 3, .inl fr))]))) H locs → lv_has ls 6 [(5, .int (nI k48)), (4, .int x_10), (3, .int r_5), (0, .ref h0), (1, .int (nI j_1)), (2, .int x2)] → Wx (F0 m 79 ls []) H locs) ?_ ?_
            · intro join_61
              refine lv_if_eq (tgt := 79) zx zb dX10_strong_61 (by decide) (fun c_9 => ?_) (fun c_9 => ?_)
              · exact join_61 x48_4 _ _ _  G hl
              · refine lv_iload_n zx zb dX10_strong_64 rfl (lv_at hl 5 rfl) ?_
                refine lv_iconst (v := 2) zx zb dX10_strong_65 (by decide) ?_
                refine lv_icmp_eq (tgt := 75) zx zb dX10_strong_66 (by decide) (fun c_11 => ?_) (fun c_11 => ?_)
                · refine lv_iload zx zb dX10_strong_75 (lv_at hl 0 rfl) ?_
                  refine lv_istore (lv' := [(4, .int (nI k48)), (5, .int (nI k48)), (3, .int r_5), (0, .ref h0), (1, .int (nI j_1)), (2, .int x2)]) zx zb dX10_strong_77 hl (by decide) rfl (fun ls hl => ?_)
                  have hl := lv_sub hl (l' := [(5, .int (nI k48)), (4, .int (nI k48)), (3, .int r_5), (0, .ref h0), (1, .int (nI j_1)), (2, .int x2)]) [1, 0, 2, 3, 4, 5] rfl
                  exact join_61 (nI k48) _ _ _  G hl
                · refine lv_iload zx zb dX10_strong_69 (lv_at hl 1 rfl) ?_
                  refine lv_iconst (v := (-1)) zx zb dX10_strong_71 (by decide) ?_
                  refine lv_icmp_ne (tgt := 79) zx zb dX10_strong_72 (by decide) (fun c_12 => ?_) (fun c_12 => ?_)
                  · exact join_61 x48_4 _ _ _  G hl
                  · refine lv_iload zx zb dX10_strong_75 (lv_at hl 0 rfl) ?_
                    refine lv_istore (lv' := [(4, .int (nI k48)), (5, .int (nI k48)), (3, .int r_5), (0, .ref h0), (1, .int (nI j_1)), (2, .int x2)]) zx zb dX10_strong_77 hl (by decide) rfl (fun ls hl => ?_)
                    have hl := lv_sub hl (l' := [(5, .int (nI k48)), (4, .int (nI k48)), (3, .int r_5), (0, .ref h0), (1, .int (nI j_1)), (2, .int x2)]) [1, 0, 2, 3, 4, 5] rfl
                    exact join_61 (nI k48) _ _ _  G hl
            · intro x_10 H locs ls  G hl
              refine lv_iinc (v := (nI (k48 + 1))) (lv' := [(5, .int (nI (k48 + 1))), (4, .int x_10), (3, .int r_5), (0, .ref h0), (1, .int (nI j_1)), (2, .int x2)]) zx zb dX10_strong_79 hl (k := 0) rfl (nI_add k48 1) (by decide) rfl (fun ls hl => ?_)
              refine lv_goto (tgt := 48) zx zb dX10_strong_82 (by decide) ?_
              exact ih48 (k48 + 1) x_10 _ _ _ (by omega) (by omega) G hl
      · refine lv_iload_n zx zb dX10_strong_37 rfl (lv_at hl 0 rfl) ?_
        refine o_ri (cells' := 0) (slots' := 0) G rfl rfl (n_S (As := [.int r_5]) (rest := []) S G (s_bitCount l X r_5 H.size) gX10_strong_J6_bitCount_0f7a4 rfl rfl rfl hdS_J6_bitCount_0f7a4 ⟨Nat.le_of_ble_eq_true rfl, Nat.le_of_ble_eq_true rfl⟩ [] rfl rfl rfl hl.1 (Nat.le_of_ble_eq_true rfl) dX10_strong_38 ⟨Nat.le_of_ble_eq_true rfl, Nat.le_of_ble_eq_true rfl⟩) (fun r_13 u_13 H locs hp_13 G => ?_)
        have G : wd X (va_A (@HAppend.hAppend va_W va_W va_W _ (xW h0 nw sp xa la lb) (@HAppend.hAppend va_W va_W va_W _ (rcW X nw an v b g) ([((xa 5), .inl (X.2.1, 3, .inl fr))]))) sz) (va_A (@HAppend.hAppend va_W va_W va_W _ (xW h0 nw sp xa la lb) (@HAppend.hAppend va_W va_W va_W _ (rcW X nw an v b g) ([((xa 5), .inl (X.2.1, 3, .inl fr))]))) sz) s (@HAppend.hAppend va_W va_W va_W _ (xW h0 nw sp xa la lb) (@HAppend.hAppend va_W va_W va_W _ (rcW X nw an v b g) ([((xa 5), .inl (X.2.1, 3, .inl fr))]))) H locs := G
        exact e_int S zr zlk (vp_nar_int _) G (fr) [0, 1, 2, 3, 4, 5, 6, 7, 8, 9, 10, 11, 12, 13, 14, 15, 16, 17] rfl rfl (Or.inr rfl) (trivial) dX10_strong_41
    · refine lv_if_ne (tgt := 24) zx zb dX10_strong_14 (by decide) (fun c_14 => absurd (by decide) c_14) (fun c_14 => ?_)
      refine lv_aload_n zx zb dX10_strong_17 rfl (lv_at hl 0 rfl) ?_
      refine lv_bipush (v := (-2)) zx zb dX10_strong_18 (by decide) ?_
      refine b_wi (cells' := 0) (slots' := 0) (wr := rcW X nw an v b g) G rfl rfl [0, 17] [1, 2, 3, 4, 5, 6, 7, 8, 9, 10, 11, 12, 13, 14, 15, 16] rfl rfl rfl rfl (n_V (As := [.int (-2)]) (rest := []) (C := RX10) (T := TX10) (N := 14) (ci := 8) S G (s_refuse l X h0 nw sp xa la lb fr (-2) H.size) gX10_strong_X10_refuse rfl rfl rfl hdV_X10_refuse ⟨Nat.le_of_ble_eq_true rfl, Nat.le_of_ble_eq_true rfl⟩ [0, 17] rfl rfl 0 rfl rfl rfl hl.1 (Nat.le_of_ble_eq_true rfl) dX10_strong_20 ⟨Nat.le_of_ble_eq_true rfl, Nat.le_of_ble_eq_true rfl⟩) (fun r_15 u_15 H locs hp_15 G => ?_)
      obtain ⟨f_15, rfl⟩ : ∃ z, z = u_15 := ⟨_, rfl⟩
      have hq_15 := hp_15
      have G : wd X (va_A (@HAppend.hAppend va_W va_W va_W _ (xW h0 nw sp xa la lb) (@HAppend.hAppend va_W va_W va_W _ (rcW X nw an v b g) ([((xa 5), .inl (X.2.1, 3, .inl fr))]))) sz) (va_A (@HAppend.hAppend va_W va_W va_W _ (xW h0 nw sp xa la lb) (@HAppend.hAppend va_W va_W va_W _ (rcW X nw an v b g) ([((xa 5), .inl (X.2.1, 3, .inl fr))]))) sz) s (@HAppend.hAppend va_W va_W va_W _ (rcW X nw an v b g) (@HAppend.hAppend va_W va_W va_W _ (xW h0 nw sp xa la lb) ([((xa 5), .inl (X.2.1, 3, .inl f_15))]))) H locs := G
      exact e_int S zr zlk (vp_nar_int _) G (f_15) [16, 0, 1, 2, 3, 4, 5, 6, 7, 8, 9, 10, 11, 12, 13, 14, 15, 17] rfl rfl (Or.inr rfl) (trivial) dX10_strong_23
  · refine lv_if_eq (tgt := 17) zx zb dX10_strong_5 (by decide) (fun c_16 => ?_) (fun c_16 => absurd (by decide) c_16)
    refine lv_aload_n zx zb dX10_strong_17 rfl (lv_at hl 0 rfl) ?_
    refine lv_bipush (v := (-2)) zx zb dX10_strong_18 (by decide) ?_
    refine b_wi (cells' := 0) (slots' := 0) (wr := rcW X nw an v b g) G rfl rfl [0, 17] [1, 2, 3, 4, 5, 6, 7, 8, 9, 10, 11, 12, 13, 14, 15, 16] rfl rfl rfl rfl (n_V (As := [.int (-2)]) (rest := []) (C := RX10) (T := TX10) (N := 14) (ci := 8) S G (s_refuse l X h0 nw sp xa la lb fr (-2) H.size) gX10_strong_X10_refuse rfl rfl rfl hdV_X10_refuse ⟨Nat.le_of_ble_eq_true rfl, Nat.le_of_ble_eq_true rfl⟩ [0, 17] rfl rfl 0 rfl rfl rfl hl.1 (Nat.le_of_ble_eq_true rfl) dX10_strong_20 ⟨Nat.le_of_ble_eq_true rfl, Nat.le_of_ble_eq_true rfl⟩) (fun r_17 u_17 H locs hp_17 G => ?_)
    obtain ⟨f_17, rfl⟩ : ∃ z, z = u_17 := ⟨_, rfl⟩
    have hq_17 := hp_17
    have G : wd X (va_A (@HAppend.hAppend va_W va_W va_W _ (xW h0 nw sp xa la lb) (@HAppend.hAppend va_W va_W va_W _ (rcW X nw an v b g) ([((xa 5), .inl (X.2.1, 3, .inl fr))]))) sz) (va_A (@HAppend.hAppend va_W va_W va_W _ (xW h0 nw sp xa la lb) (@HAppend.hAppend va_W va_W va_W _ (rcW X nw an v b g) ([((xa 5), .inl (X.2.1, 3, .inl fr))]))) sz) s (@HAppend.hAppend va_W va_W va_W _ (rcW X nw an v b g) (@HAppend.hAppend va_W va_W va_W _ (xW h0 nw sp xa la lb) ([((xa 5), .inl (X.2.1, 3, .inl f_17))]))) H locs := G
    exact e_int S zr zlk (vp_nar_int _) G (f_17) [16, 0, 1, 2, 3, 4, 5, 6, 7, 8, 9, 10, 11, 12, 13, 14, 15, 17] rfl rfl (Or.inr rfl) (trivial) dX10_strong_23
theorem in_X10_part_X10 : ∀ w ∈ wsX100, w ∈ wsX10_part := by decide +kernel
theorem lk_X10_part_42 : Cond.fieldLink RX10 42 "EggSpoons" "below" "J" ∈ wsX10_part := by decide +kernel
theorem lk_X10_part_38 : Cond.fieldLink RX10 38 "EggSpoons" "above" "J" ∈ wsX10_part := by decide +kernel
set_option maxHeartbeats 4000000 in
set_option maxRecDepth 100000 in
/-- part -/
theorem s_part (l : Launch) (X : EX) (h0 : Nat) (nw : Nat) (sp : Nat) (xa : Nat → Nat) (la : Int64) (lb : Int64) (fr : Nat → Int32) (x1 : Int32) (sz : Nat) : Met l yX10_part wsX10_part ({ frames := 1, cells := 0, slots := 0, locals := 22 } : Room) (pE X [.ref h0, .int x1] (@HAppend.hAppend va_W va_W va_W _ (xW h0 nw sp xa la lb) ([((xa 5), .inl (X.2.1, 3, .inl fr))])) sz) (qL (fun (r : Int64) (u : (Nat → Int32)) => (True)) X (fun (u : (Nat → Int32)) => @HAppend.hAppend va_W va_W va_W _ (xW h0 nw sp xa la lb) ([((xa 5), .inl (X.2.1, 3, .inl u))])) (@HAppend.hAppend va_W va_W va_W _ (xW h0 nw sp xa la lb) ([((xa 5), .inl (X.2.1, 3, .inl fr))])) sz) 0 0 (va_A (@HAppend.hAppend va_W va_W va_W _ (xW h0 nw sp xa la lb) ([((xa 5), .inl (X.2.1, 3, .inl fr))])) sz) := by
  refine mk_met (B := (va_A (@HAppend.hAppend va_W va_W va_W _ (xW h0 nw sp xa la lb) ([((xa 5), .inl (X.2.1, 3, .inl fr))])) sz)) (A := (va_A (@HAppend.hAppend va_W va_W va_W _ (xW h0 nw sp xa la lb) ([((xa 5), .inl (X.2.1, 3, .inl fr))])) sz)) (cc := cX10_part) (maxL := 2) (ret := (some .long)) (by decide) rfl (Nat.le_of_ble_eq_true rfl) k_w k_a (fun p e s m below meth c S zr zlk znm zsz G ls hl => ?_)
  have S : CallFix p m c cX10_part 2 s _ wsX10_part RX10 := S
  have zx := S.1
  have zb := S.2.1
  have hl : lv_has ls 2 [(0, .ref h0), (1, .int x1)] := hl
  refine lv_iload_n zx zb dX10_part_0 rfl (lv_at hl 1 rfl) ?_
  refine lv_iconst (v := 0) zx zb dX10_part_1 (by decide) ?_
  refine lv_iconst (v := 1) zx zb dX10_part_2 (by decide) ?_
  refine o_ri (cells' := 0) (slots' := 0) G rfl rfl (n_S (As := [.int x1, .int 0, .int 1]) (rest := []) S G (s_within l X x1 0 1 s.heap.size) gX10_part_X10_within rfl rfl rfl hdS_X10_within ⟨Nat.le_of_ble_eq_true rfl, Nat.le_of_ble_eq_true rfl⟩ [] rfl rfl rfl hl.1 (Nat.le_of_ble_eq_true rfl) dX10_part_3 ⟨Nat.le_of_ble_eq_true rfl, Nat.le_of_ble_eq_true rfl⟩) (fun r_1 u_1 H locs hp_1 G => ?_)
  have G : wd X (va_A (@HAppend.hAppend va_W va_W va_W _ (xW h0 nw sp xa la lb) ([((xa 5), .inl (X.2.1, 3, .inl fr))])) sz) (va_A (@HAppend.hAppend va_W va_W va_W _ (xW h0 nw sp xa la lb) ([((xa 5), .inl (X.2.1, 3, .inl fr))])) sz) s (@HAppend.hAppend va_W va_W va_W _ (xW h0 nw sp xa la lb) ([((xa 5), .inl (X.2.1, 3, .inl fr))])) H locs := G
  rcases hp_1 with ⟨rfl, hw_1⟩ | ⟨rfl, hw_1⟩
  · refine lv_if_ne (tgt := 17) zx zb dX10_part_6 (by decide) (fun c_2 => ?_) (fun c_2 => absurd c_2 (by decide))
    refine lv_iload_n zx zb dX10_part_17 rfl (lv_at hl 1 rfl) ?_
    refine k_cutW (PP := fun Wx => ∀ (x_4 : Int64) (H : Heap) (locs : List Loc) (ls : Array Slot), wd X (va_A (@HAppend.hAppend va_W va_W va_W _ (xW h0 nw sp xa la lb) ([((xa 5), .inl (X.2.1, 3, .inl fr))])) sz) (va_A (@HAppend.hAppend va_W va_W va_W _ (xW h0 nw sp xa la lb) ([((xa 5), .inl (X.2.1, 3, .inl fr))])) sz) s (@HAppend.hAppend va_W va_W va_W _ (xW h0 nw sp xa la lb) ([((xa 5), .inl (X.2.1, 3, .inl fr))])) H locs → lv_has ls 2 [(0, .ref h0), (1, .int x1)] → Wx (F0 m 32 ls [.long x_4]) H locs) ?_ ?_
    · intro join_18
      refine lv_if_ne (tgt := 28) zx zb dX10_part_18 (by decide) (fun c_3 => ?_) (fun c_3 => ?_)
      · refine lv_aload_n zx zb dX10_part_28 rfl (lv_at hl 0 rfl) ?_
        refine r_get (C := RX10) (T := TX10) (N := 14) (ci := 8) (v := .long lb) S in_X10_part_X10 G 0 rfl rfl 7 (by decide) lk_X10_part_42 rfl dX10_part_29 ?_
        exact join_18 lb _ _ _  G hl
      · refine lv_aload_n zx zb dX10_part_21 rfl (lv_at hl 0 rfl) ?_
        refine r_get (C := RX10) (T := TX10) (N := 14) (ci := 8) (v := .long la) S in_X10_part_X10 G 0 rfl rfl 6 (by decide) lk_X10_part_38 rfl dX10_part_22 ?_
        refine lv_goto (tgt := 32) zx zb dX10_part_25 (by decide) ?_
        exact join_18 la _ _ _  G hl
    · intro x_4 H locs ls  G hl
      exact e_long S zr zlk G (fr) [0, 1] rfl rfl (Or.inr rfl) (trivial) dX10_part_32
  · refine lv_if_ne (tgt := 17) zx zb dX10_part_6 (by decide) (fun c_5 => absurd (by decide) c_5) (fun c_5 => ?_)
    refine lv_aload_n zx zb dX10_part_9 rfl (lv_at hl 0 rfl) ?_
    refine lv_bipush (v := (-2)) zx zb dX10_part_10 (by decide) ?_
    refine b_wi (cells' := 0) (slots' := 0) (wr := []) G rfl rfl [0, 1] [] rfl rfl rfl rfl (n_V (As := [.int (-2)]) (rest := []) (C := RX10) (T := TX10) (N := 14) (ci := 8) S G (s_refuse l X h0 nw sp xa la lb fr (-2) H.size) gX10_part_X10_refuse rfl rfl rfl hdV_X10_refuse ⟨Nat.le_of_ble_eq_true rfl, Nat.le_of_ble_eq_true rfl⟩ [0, 1] rfl rfl 0 rfl rfl rfl hl.1 (Nat.le_of_ble_eq_true rfl) dX10_part_12 ⟨Nat.le_of_ble_eq_true rfl, Nat.le_of_ble_eq_true rfl⟩) (fun r_6 u_6 H locs hp_6 G => ?_)
    obtain ⟨f_6, rfl⟩ : ∃ z, z = u_6 := ⟨_, rfl⟩
    have hq_6 := hp_6
    have G : wd X (va_A (@HAppend.hAppend va_W va_W va_W _ (xW h0 nw sp xa la lb) ([((xa 5), .inl (X.2.1, 3, .inl fr))])) sz) (va_A (@HAppend.hAppend va_W va_W va_W _ (xW h0 nw sp xa la lb) ([((xa 5), .inl (X.2.1, 3, .inl fr))])) sz) s (@HAppend.hAppend va_W va_W va_W _ (xW h0 nw sp xa la lb) ([((xa 5), .inl (X.2.1, 3, .inl f_6))])) H locs := G
    refine lv_i2l (v := (Int32.toInt64 r_6)) zx zb dX10_part_15 rfl ?_
    exact e_long S zr zlk G (f_6) [0, 1] rfl rfl (Or.inr rfl) (trivial) dX10_part_16
theorem in_X10_status_X10 : ∀ w ∈ wsX100, w ∈ wsX10_status := by decide +kernel
theorem lk_X10_status_34 : Cond.fieldLink RX10 34 "EggSpoons" "refused" "[I" ∈ wsX10_status := by decide +kernel
set_option maxHeartbeats 4000000 in
set_option maxRecDepth 100000 in
/-- status -/
theorem s_status (l : Launch) (X : EX) (h0 : Nat) (nw : Nat) (sp : Nat) (xa : Nat → Nat) (la : Int64) (lb : Int64) (fr : Nat → Int32) (x1 : Int32) (sz : Nat) : Met l yX10_status wsX10_status ({ frames := 1, cells := 0, slots := 0, locals := 22 } : Room) (pE X [.ref h0, .int x1] (@HAppend.hAppend va_W va_W va_W _ (xW h0 nw sp xa la lb) ([((xa 5), .inl (X.2.1, 3, .inl fr))])) sz) (qI (fun (r : Int32) (u : (Nat → Int32)) => (True)) X (fun (u : (Nat → Int32)) => @HAppend.hAppend va_W va_W va_W _ (xW h0 nw sp xa la lb) ([((xa 5), .inl (X.2.1, 3, .inl u))])) (@HAppend.hAppend va_W va_W va_W _ (xW h0 nw sp xa la lb) ([((xa 5), .inl (X.2.1, 3, .inl fr))])) sz) 0 0 (va_A (@HAppend.hAppend va_W va_W va_W _ (xW h0 nw sp xa la lb) ([((xa 5), .inl (X.2.1, 3, .inl fr))])) sz) := by
  refine mk_met (B := (va_A (@HAppend.hAppend va_W va_W va_W _ (xW h0 nw sp xa la lb) ([((xa 5), .inl (X.2.1, 3, .inl fr))])) sz)) (A := (va_A (@HAppend.hAppend va_W va_W va_W _ (xW h0 nw sp xa la lb) ([((xa 5), .inl (X.2.1, 3, .inl fr))])) sz)) (cc := cX10_status) (maxL := 2) (ret := (some .int)) (by decide) rfl (Nat.le_of_ble_eq_true rfl) k_w k_a (fun p e s m below meth c S zr zlk znm zsz G ls hl => ?_)
  have S : CallFix p m c cX10_status 2 s _ wsX10_status RX10 := S
  have zx := S.1
  have zb := S.2.1
  have hl : lv_has ls 2 [(0, .ref h0), (1, .int x1)] := hl
  refine lv_iload_n zx zb dX10_status_0 rfl (lv_at hl 1 rfl) ?_
  refine lv_iconst (v := 0) zx zb dX10_status_1 (by decide) ?_
  refine lv_iconst (v := 2) zx zb dX10_status_2 (by decide) ?_
  refine o_ri (cells' := 0) (slots' := 0) G rfl rfl (n_S (As := [.int x1, .int 0, .int 2]) (rest := []) S G (s_within l X x1 0 2 s.heap.size) gX10_status_X10_within rfl rfl rfl hdS_X10_within ⟨Nat.le_of_ble_eq_true rfl, Nat.le_of_ble_eq_true rfl⟩ [] rfl rfl rfl hl.1 (Nat.le_of_ble_eq_true rfl) dX10_status_3 ⟨Nat.le_of_ble_eq_true rfl, Nat.le_of_ble_eq_true rfl⟩) (fun r_1 u_1 H locs hp_1 G => ?_)
  have G : wd X (va_A (@HAppend.hAppend va_W va_W va_W _ (xW h0 nw sp xa la lb) ([((xa 5), .inl (X.2.1, 3, .inl fr))])) sz) (va_A (@HAppend.hAppend va_W va_W va_W _ (xW h0 nw sp xa la lb) ([((xa 5), .inl (X.2.1, 3, .inl fr))])) sz) s (@HAppend.hAppend va_W va_W va_W _ (xW h0 nw sp xa la lb) ([((xa 5), .inl (X.2.1, 3, .inl fr))])) H locs := G
  rcases hp_1 with ⟨rfl, hw_1⟩ | ⟨rfl, hw_1⟩
  · refine lv_if_ne (tgt := 18) zx zb dX10_status_6 (by decide) (fun c_2 => ?_) (fun c_2 => absurd c_2 (by decide))
    refine lv_aload_n zx zb dX10_status_18 rfl (lv_at hl 0 rfl) ?_
    refine r_get (C := RX10) (T := TX10) (N := 14) (ci := 8) (v := .ref (xa 5)) S in_X10_status_X10 G 0 rfl rfl 5 (by decide) lk_X10_status_34 rfl dX10_status_19 ?_
    refine lv_iload_n zx zb dX10_status_22 rfl (lv_at hl 1 rfl) ?_
    refine r_iald S G 1 rfl (k_in02 hw_1) rfl dX10_status_23 ?_
    refine k_itE (fun y_3 => ?_)
    exact e_int S zr zlk (vp_nar_int _) G (fr) [0, 1] rfl rfl (Or.inr rfl) (trivial) dX10_status_24
  · refine lv_if_ne (tgt := 18) zx zb dX10_status_6 (by decide) (fun c_4 => absurd (by decide) c_4) (fun c_4 => ?_)
    refine lv_aload_n zx zb dX10_status_9 rfl (lv_at hl 0 rfl) ?_
    refine lv_bipush (v := (-2)) zx zb dX10_status_10 (by decide) ?_
    refine b_wi (cells' := 0) (slots' := 0) (wr := []) G rfl rfl [0, 1] [] rfl rfl rfl rfl (n_V (As := [.int (-2)]) (rest := []) (C := RX10) (T := TX10) (N := 14) (ci := 8) S G (s_refuse l X h0 nw sp xa la lb fr (-2) H.size) gX10_status_X10_refuse rfl rfl rfl hdV_X10_refuse ⟨Nat.le_of_ble_eq_true rfl, Nat.le_of_ble_eq_true rfl⟩ [0, 1] rfl rfl 0 rfl rfl rfl hl.1 (Nat.le_of_ble_eq_true rfl) dX10_status_12 ⟨Nat.le_of_ble_eq_true rfl, Nat.le_of_ble_eq_true rfl⟩) (fun r_5 u_5 H locs hp_5 G => ?_)
    obtain ⟨f_5, rfl⟩ : ∃ z, z = u_5 := ⟨_, rfl⟩
    have hq_5 := hp_5
    have G : wd X (va_A (@HAppend.hAppend va_W va_W va_W _ (xW h0 nw sp xa la lb) ([((xa 5), .inl (X.2.1, 3, .inl fr))])) sz) (va_A (@HAppend.hAppend va_W va_W va_W _ (xW h0 nw sp xa la lb) ([((xa 5), .inl (X.2.1, 3, .inl fr))])) sz) s (@HAppend.hAppend va_W va_W va_W _ (xW h0 nw sp xa la lb) ([((xa 5), .inl (X.2.1, 3, .inl f_5))])) H locs := G
    refine lv_pop zx zb dX10_status_15 rfl ?_
    refine lv_iconst (v := (-1)) zx zb dX10_status_16 (by decide) ?_
    exact e_int S zr zlk (vp_nar_int _) G (f_5) [0, 1] rfl rfl (Or.inr rfl) (trivial) dX10_status_17
theorem in_X10_ticks_X10 : ∀ w ∈ wsX100, w ∈ wsX10_ticks := by decide +kernel
theorem lk_X10_ticks_10 : Cond.fieldLink RX10 10 "EggSpoons" "now" "LEggSpoons$Race;" ∈ wsX10_ticks := by decide +kernel
theorem in_X10_ticks_X5 : ∀ w ∈ wsX50, w ∈ wsX10_ticks := by decide +kernel
theorem lk_X10_ticks_110 : Cond.fieldLink RX10 110 "EggSpoons$Race" "tick" "I" ∈ wsX10_ticks := by decide +kernel
theorem hdV_X5_goOn : yX5_goOn.cls = RX5 ∧ yX5_goOn.cls ≠ "java/lang/invoke/MethodHandle" ∧ yX5_goOn.cls ≠ "java/lang/invoke/VarHandle" ∧ (parseMethodDescriptor yX5_goOn.desc).map (fun d => d.parameters.length) = some 0 := by decide +kernel
theorem hdV_X5_homes : yX5_homes.cls = RX5 ∧ yX5_homes.cls ≠ "java/lang/invoke/MethodHandle" ∧ yX5_homes.cls ≠ "java/lang/invoke/VarHandle" ∧ (parseMethodDescriptor yX5_homes.desc).map (fun d => d.parameters.length) = some 0 := by decide +kernel
set_option maxHeartbeats 4000000 in
set_option maxRecDepth 100000 in
/-- ticks -/
theorem s_ticks (l : Launch) (X : EX) (h0 : Nat) (nw : Nat) (sp : Nat) (xa : Nat → Nat) (la : Int64) (lb : Int64) (an : Nat → Nat) (v : Nat → Int32) (b : Nat → Nat) (g : Nat → Nat → Int32) (fr : Nat → Int32) (x1 : Int32) (hI_b : InR b) (sz : Nat) : Met l yX10_ticks wsX10_ticks ({ frames := 3, cells := 0, slots := 0, locals := 105 } : Room) (pE X [.ref h0, .int x1] (@HAppend.hAppend va_W va_W va_W _ (xW h0 nw sp xa la lb) (@HAppend.hAppend va_W va_W va_W _ (rcW X nw an v b g) ([((xa 5), .inl (X.2.1, 3, .inl fr))]))) sz) (qI (fun (r : Int32) (u : (Nat → Int32) × (Nat → Nat) × (Nat → Nat → Int32) × (Nat → Int32)) => InR u.2.1 ∧ (True)) X (fun (u : (Nat → Int32) × (Nat → Nat) × (Nat → Nat → Int32) × (Nat → Int32)) => @HAppend.hAppend va_W va_W va_W _ (xW h0 nw sp xa la lb) (@HAppend.hAppend va_W va_W va_W _ (rcW X nw an u.1 u.2.1 u.2.2.1) ([((xa 5), .inl (X.2.1, 3, .inl u.2.2.2))]))) (@HAppend.hAppend va_W va_W va_W _ (xW h0 nw sp xa la lb) (@HAppend.hAppend va_W va_W va_W _ (rcW X nw an v b g) ([((xa 5), .inl (X.2.1, 3, .inl fr))]))) sz) 0 0 (va_A (@HAppend.hAppend va_W va_W va_W _ (xW h0 nw sp xa la lb) (@HAppend.hAppend va_W va_W va_W _ (rcW X nw an v b g) ([((xa 5), .inl (X.2.1, 3, .inl fr))]))) sz) := by
  refine mk_met (B := (va_A (@HAppend.hAppend va_W va_W va_W _ (xW h0 nw sp xa la lb) (@HAppend.hAppend va_W va_W va_W _ (rcW X nw an v b g) ([((xa 5), .inl (X.2.1, 3, .inl fr))]))) sz)) (A := (va_A (@HAppend.hAppend va_W va_W va_W _ (xW h0 nw sp xa la lb) (@HAppend.hAppend va_W va_W va_W _ (rcW X nw an v b g) ([((xa 5), .inl (X.2.1, 3, .inl fr))]))) sz)) (cc := cX10_ticks) (maxL := 3) (ret := (some .int)) (by decide) rfl (Nat.le_of_ble_eq_true rfl) k_w k_a (fun p e s m below meth c S zr zlk znm zsz G ls hl => ?_)
  have S : CallFix p m c cX10_ticks 3 s _ wsX10_ticks RX10 := S
  have zx := S.1
  have zb := S.2.1
  have hl : lv_has ls 3 [(0, .ref h0), (1, .int x1)] := hl
  have hO_b := hI_b
  obtain ⟨hb0_b, hb1_b, hb2_b, hb3_b, hb4_b⟩ := hO_b
  refine lv_iload_n zx zb dX10_ticks_0 rfl (lv_at hl 1 rfl) ?_
  refine lv_iconst (v := 1) zx zb dX10_ticks_1 (by decide) ?_
  refine lv_bipush (v := 60) zx zb dX10_ticks_2 (by decide) ?_
  refine o_ri (cells' := 0) (slots' := 0) G rfl rfl (n_S (As := [.int x1, .int 1, .int 60]) (rest := []) S G (s_within l X x1 1 60 s.heap.size) gX10_ticks_X10_within rfl rfl rfl hdS_X10_within ⟨Nat.le_of_ble_eq_true rfl, Nat.le_of_ble_eq_true rfl⟩ [] rfl rfl rfl hl.1 (Nat.le_of_ble_eq_true rfl) dX10_ticks_4 ⟨Nat.le_of_ble_eq_true rfl, Nat.le_of_ble_eq_true rfl⟩) (fun r_1 u_1 H locs hp_1 G => ?_)
  have G : wd X (va_A (@HAppend.hAppend va_W va_W va_W _ (xW h0 nw sp xa la lb) (@HAppend.hAppend va_W va_W va_W _ (rcW X nw an v b g) ([((xa 5), .inl (X.2.1, 3, .inl fr))]))) sz) (va_A (@HAppend.hAppend va_W va_W va_W _ (xW h0 nw sp xa la lb) (@HAppend.hAppend va_W va_W va_W _ (rcW X nw an v b g) ([((xa 5), .inl (X.2.1, 3, .inl fr))]))) sz) s (@HAppend.hAppend va_W va_W va_W _ (xW h0 nw sp xa la lb) (@HAppend.hAppend va_W va_W va_W _ (rcW X nw an v b g) ([((xa 5), .inl (X.2.1, 3, .inl fr))]))) H locs := G
  rcases hp_1 with ⟨rfl, hw_1⟩ | ⟨rfl, hw_1⟩
  · refine lv_if_ne (tgt := 17) zx zb dX10_ticks_7 (by decide) (fun c_2 => ?_) (fun c_2 => absurd c_2 (by decide))
    refine lv_aload_n zx zb dX10_ticks_17 rfl (lv_at hl 0 rfl) ?_
    refine r_get (C := RX10) (T := TX10) (N := 14) (ci := 8) (v := .ref nw) S in_X10_ticks_X10 G 0 rfl rfl 0 (by decide) lk_X10_ticks_10 rfl dX10_ticks_18 ?_
    refine r_get (C := RX5) (T := TX5) (N := 8) (ci := 3) (v := .int (v 1)) S in_X10_ticks_X5 G 1 rfl rfl 1 (by decide) lk_X10_ticks_110 rfl dX10_ticks_21 ?_
    refine lv_sipush (v := 9999) zx zb dX10_ticks_24 (by decide) ?_
    refine k_cutW (PP := fun Wx => ∀ (v_4 : Nat → Int32) (b_5 : Nat → Nat) (g_6 : Nat → Nat → Int32) (H : Heap) (locs : List Loc) (ls : Array Slot), InR b_5 → wd X (va_A (@HAppend.hAppend va_W va_W va_W _ (xW h0 nw sp xa la lb) (@HAppend.hAppend va_W va_W va_W _ (rcW X nw an v b g) ([((xa 5), .inl (X.2.1, 3, .inl fr))]))) sz) (va_A (@HAppend.hAppend va_W va_W va_W _ (xW h0 nw sp xa la lb) (@HAppend.hAppend va_W va_W va_W _ (rcW X nw an v b g) ([((xa 5), .inl (X.2.1, 3, .inl fr))]))) sz) s (@HAppend.hAppend va_W va_W va_W _ (xW h0 nw sp xa la lb) (@HAppend.hAppend va_W va_W va_W _ (rcW X nw an v_4 b_5 g_6) ([((xa 5), .inl (X.2.1, 3, .inl fr))]))) H locs → lv_has ls 3 [(0, .ref h0), (1, .int x1)] → Wx (F0 m 37 ls []) H locs) ?_ ?_
    · intro join_27
      refine lv_icmp_ge (tgt := 37) zx zb dX10_ticks_27 (by decide) (fun c_3 => ?_) (fun c_3 => ?_)
      · exact join_27 v b g _ _ _ hI_b G hl
      · refine lv_aload_n zx zb dX10_ticks_30 rfl (lv_at hl 0 rfl) ?_
        refine r_get (C := RX10) (T := TX10) (N := 14) (ci := 8) (v := .ref nw) S in_X10_ticks_X10 G 0 rfl rfl 0 (by decide) lk_X10_ticks_10 rfl dX10_ticks_31 ?_
        refine b_wv (cells' := 0) (slots' := 0) (wr := @HAppend.hAppend va_W va_W va_W _ (xW h0 nw sp xa la lb) ([((xa 5), .inl (X.2.1, 3, .inl fr))])) G rfl rfl [1, 2, 3, 4, 5, 6, 7, 8, 9, 10, 11, 12, 13, 14, 15, 16] [0, 17] rfl rfl rfl rfl (n_V (As := []) (rest := []) (C := RX5) (T := TX5) (N := 8) (ci := 3) S G (s_keep l X nw an v b g hI_b H.size) gX10_ticks_X5_keep rfl rfl rfl hdV_X5_keep ⟨Nat.le_of_ble_eq_true rfl, Nat.le_of_ble_eq_true rfl⟩ [1, 2, 3, 4, 5, 6, 7, 8, 9, 10, 11, 12, 13, 14, 15, 16] rfl rfl 1 rfl rfl rfl hl.1 (Nat.le_of_ble_eq_true rfl) dX10_ticks_34 ⟨Nat.le_of_ble_eq_true rfl, Nat.le_of_ble_eq_true rfl⟩) (fun u_7 H locs hp_7 G => ?_)
        obtain ⟨v_7a, b_7b, g_7c⟩ := u_7
        obtain ⟨hI_b_7b, hq_7⟩ := hp_7
        have hO_b_7b := hI_b_7b
        obtain ⟨hb0_b_7b, hb1_b_7b, hb2_b_7b, hb3_b_7b, hb4_b_7b⟩ := hO_b_7b
        have G : wd X (va_A (@HAppend.hAppend va_W va_W va_W _ (xW h0 nw sp xa la lb) (@HAppend.hAppend va_W va_W va_W _ (rcW X nw an v b g) ([((xa 5), .inl (X.2.1, 3, .inl fr))]))) sz) (va_A (@HAppend.hAppend va_W va_W va_W _ (xW h0 nw sp xa la lb) (@HAppend.hAppend va_W va_W va_W _ (rcW X nw an v b g) ([((xa 5), .inl (X.2.1, 3, .inl fr))]))) sz) s (@HAppend.hAppend va_W va_W va_W _ (xW h0 nw sp xa la lb) (@HAppend.hAppend va_W va_W va_W _ ([((xa 5), .inl (X.2.1, 3, .inl fr))]) (rcW X nw an v_7a b_7b g_7c))) H locs := G
        have G : wd X (va_A (@HAppend.hAppend va_W va_W va_W _ (xW h0 nw sp xa la lb) (@HAppend.hAppend va_W va_W va_W _ (rcW X nw an v b g) ([((xa 5), .inl (X.2.1, 3, .inl fr))]))) sz) (va_A (@HAppend.hAppend va_W va_W va_W _ (xW h0 nw sp xa la lb) (@HAppend.hAppend va_W va_W va_W _ (rcW X nw an v b g) ([((xa 5), .inl (X.2.1, 3, .inl fr))]))) sz) s (@HAppend.hAppend va_W va_W va_W _ (xW h0 nw sp xa la lb) (@HAppend.hAppend va_W va_W va_W _ (rcW X nw an v_7a b_7b g_7c) ([((xa 5), .inl (X.2.1, 3, .inl fr))]))) H locs := wd_sub G [0, 2, 3, 4, 5, 6, 7, 8, 9, 10, 11, 12, 13, 14, 15, 16, 17, 1] rfl rfl
        exact join_27 v_7a b_7b g_7c _ _ _ hI_b_7b G hl
    · intro v_4 b_5 g_6 H locs ls hI_b_5 G hl
      have hO_b_5 := hI_b_5
      obtain ⟨hb0_b_5, hb1_b_5, hb2_b_5, hb3_b_5, hb4_b_5⟩ := hO_b_5
      refine lv_iconst (v := 0) zx zb dX10_ticks_37 (by decide) ?_
      refine lv_istore_n (lv' := [(2, .int 0), (0, .ref h0), (1, .int x1)]) zx zb dX10_ticks_38 rfl hl (by decide) rfl (fun ls hl => ?_)
      refine k_loop (P := ∀ (zm : Nat) (k39 : Nat) (v39_1 : Nat → Int32) (b39_1 : Nat → Nat) (g39_1 : Nat → Nat → Int32) (H : Heap) (locs : List Loc) (ls : Array Slot), 61 + 1 ≤ k39 + zm → InR b39_1 → (k39 ≤ 61) → wd X (va_A (@HAppend.hAppend va_W va_W va_W _ (xW h0 nw sp xa la lb) (@HAppend.hAppend va_W va_W va_W _ (rcW X nw an v b g) ([((xa 5), .inl (X.2.1, 3, .inl fr))]))) sz) (va_A (@HAppend.hAppend va_W va_W va_W _ (xW h0 nw sp xa la lb) (@HAppend.hAppend va_W va_W va_W _ (rcW X nw an v b g) ([((xa 5), .inl (X.2.1, 3, .inl fr))]))) sz) s (@HAppend.hAppend va_W va_W va_W _ (xW h0 nw sp xa la lb) (@HAppend.hAppend va_W va_W va_W _ (rcW X nw an v39_1 b39_1 g39_1) ([((xa 5), .inl (X.2.1, 3, .inl fr))]))) H locs → lv_has ls 3 [(2, .int (nI k39)), (0, .ref h0), (1, .int x1)] → W p l e _ s m _ below meth c H locs _ _ _ (F0 m 39 ls [])) (fun loop => loop (61 + 1) 0 v_4 b_5 g_6 _ _ _ (by omega) hI_b_5 (by omega) G hl) ?_
      intro zm
      induction zm with
      | zero => intro k39 v39_1 b39_1 g39_1 H locs ls zz q_hI_b39_1 q_hk_k39 _ _; exact absurd zz (by omega)
      | succ zm ih39 =>
        intro k39 v39_1 b39_1 g39_1 H locs ls zm_39 hI_b39_1 hk_k39 G hl
        have hO_b39_1 := hI_b39_1
        obtain ⟨hb0_b39_1, hb1_b39_1, hb2_b39_1, hb3_b39_1, hb4_b39_1⟩ := hO_b39_1
        refine lv_iload_n zx zb dX10_ticks_39 rfl (lv_at hl 0 rfl) ?_
        refine lv_iload_n zx zb dX10_ticks_40 rfl (lv_at hl 2 rfl) ?_
        refine k_cutW (PP := fun Wx => ∀ (H : Heap) (locs : List Loc) (ls : Array Slot), wd X (va_A (@HAppend.hAppend va_W va_W va_W _ (xW h0 nw sp xa la lb) (@HAppend.hAppend va_W va_W va_W _ (rcW X nw an v b g) ([((xa 5), .inl (X.2.1, 3, .inl fr))]))) sz) (va_A (@HAppend.hAppend va_W va_W va_W _ (xW h0 nw sp xa la lb) (@HAppend.hAppend va_W va_W va_W _ (rcW X nw an v b g) ([((xa 5), .inl (X.2.1, 3, .inl fr))]))) sz) s (@HAppend.hAppend va_W va_W va_W _ (xW h0 nw sp xa la lb) (@HAppend.hAppend va_W va_W va_W _ (rcW X nw an v39_1 b39_1 g39_1) ([((xa 5), .inl (X.2.1, 3, .inl fr))]))) H locs → lv_has ls 3 [(2, .int (nI k39)), (0, .ref h0), (1, .int x1)] → Wx (F0 m 70 ls []) H locs) ?_ ?_
        · intro join_41
          refine lv_icmp_ge (tgt := 70) zx zb dX10_ticks_41 (by decide) (fun c_8 => ?_) (fun c_8 => ?_)
          · exact join_41  _ _ _  G hl
          · have fk_c_8 := k_lt60 (Int32.not_le.mp c_8) hw_1.2 (by omega)
            refine lv_aload_n zx zb dX10_ticks_44 rfl (lv_at hl 1 rfl) ?_
            refine r_get (C := RX10) (T := TX10) (N := 14) (ci := 8) (v := .ref nw) S in_X10_ticks_X10 G 0 rfl rfl 0 (by decide) lk_X10_ticks_10 rfl dX10_ticks_45 ?_
            refine r_get (C := RX5) (T := TX5) (N := 8) (ci := 3) (v := .int (v39_1 1)) S in_X10_ticks_X5 G 1 rfl rfl 1 (by decide) lk_X10_ticks_110 rfl dX10_ticks_48 ?_
            refine lv_sipush (v := 9999) zx zb dX10_ticks_51 (by decide) ?_
            refine lv_icmp_ge (tgt := 70) zx zb dX10_ticks_54 (by decide) (fun c_9 => ?_) (fun c_9 => ?_)
            · exact join_41  _ _ _  G hl
            · refine lv_aload_n zx zb dX10_ticks_57 rfl (lv_at hl 1 rfl) ?_
              refine r_get (C := RX10) (T := TX10) (N := 14) (ci := 8) (v := .ref nw) S in_X10_ticks_X10 G 0 rfl rfl 0 (by decide) lk_X10_ticks_10 rfl dX10_ticks_58 ?_
              refine b_wv (cells' := 0) (slots' := 0) (wr := @HAppend.hAppend va_W va_W va_W _ (xW h0 nw sp xa la lb) ([((xa 5), .inl (X.2.1, 3, .inl fr))])) G rfl rfl [1, 2, 3, 4, 5, 6, 7, 8, 9, 10, 11, 12, 13, 14, 15, 16] [0, 17] rfl rfl rfl rfl (n_V (As := []) (rest := []) (C := RX5) (T := TX5) (N := 8) (ci := 3) S G (s_goOn l X nw an v39_1 b39_1 g39_1 hI_b39_1 H.size) gX10_ticks_X5_goOn rfl rfl rfl hdV_X5_goOn ⟨Nat.le_of_ble_eq_true rfl, Nat.le_of_ble_eq_true rfl⟩ [1, 2, 3, 4, 5, 6, 7, 8, 9, 10, 11, 12, 13, 14, 15, 16] rfl rfl 1 rfl rfl rfl hl.1 (Nat.le_of_ble_eq_true rfl) dX10_ticks_61 ⟨Nat.le_of_ble_eq_true rfl, Nat.le_of_ble_eq_true rfl⟩) (fun u_10 H locs hp_10 G => ?_)
              obtain ⟨v_10a, b_10b, g_10c⟩ := u_10
              obtain ⟨hI_b_10b, hq_10⟩ := hp_10
              have hO_b_10b := hI_b_10b
              obtain ⟨hb0_b_10b, hb1_b_10b, hb2_b_10b, hb3_b_10b, hb4_b_10b⟩ := hO_b_10b
              have G : wd X (va_A (@HAppend.hAppend va_W va_W va_W _ (xW h0 nw sp xa la lb) (@HAppend.hAppend va_W va_W va_W _ (rcW X nw an v b g) ([((xa 5), .inl (X.2.1, 3, .inl fr))]))) sz) (va_A (@HAppend.hAppend va_W va_W va_W _ (xW h0 nw sp xa la lb) (@HAppend.hAppend va_W va_W va_W _ (rcW X nw an v b g) ([((xa 5), .inl (X.2.1, 3, .inl fr))]))) sz) s (@HAppend.hAppend va_W va_W va_W _ (xW h0 nw sp xa la lb) (@HAppend.hAppend va_W va_W va_W _ ([((xa 5), .inl (X.2.1, 3, .inl fr))]) (rcW X nw an v_10a b_10b g_10c))) H locs := G
              refine lv_iinc (v := (nI (k39 + 1))) (lv' := [(2, .int (nI (k39 + 1))), (0, .ref h0), (1, .int x1)]) zx zb dX10_ticks_64 hl (k := 0) rfl (nI_add k39 1) (by decide) rfl (fun ls hl => ?_)
              refine lv_goto (tgt := 39) zx zb dX10_ticks_67 (by decide) ?_
              have G : wd X (va_A (@HAppend.hAppend va_W va_W va_W _ (xW h0 nw sp xa la lb) (@HAppend.hAppend va_W va_W va_W _ (rcW X nw an v b g) ([((xa 5), .inl (X.2.1, 3, .inl fr))]))) sz) (va_A (@HAppend.hAppend va_W va_W va_W _ (xW h0 nw sp xa la lb) (@HAppend.hAppend va_W va_W va_W _ (rcW X nw an v b g) ([((xa 5), .inl (X.2.1, 3, .inl fr))]))) sz) s (@HAppend.hAppend va_W va_W va_W _ (xW h0 nw sp xa la lb) (@HAppend.hAppend va_W va_W va_W _ (rcW X nw an v_10a b_10b g_10c) ([((xa 5), .inl (X.2.1, 3, .inl fr))]))) H locs := wd_sub G [0, 2, 3, 4, 5, 6, 7, 8, 9, 10, 11, 12, 13, 14, 15, 16, 17, 1] rfl rfl
              exact ih39 (k39 + 1) v_10a b_10b g_10c _ _ _ (by omega) hI_b_10b (by omega) G hl
        · intro  H locs ls  G hl
          refine lv_aload_n zx zb dX10_ticks_70 rfl (lv_at hl 1 rfl) ?_
          refine r_get (C := RX10) (T := TX10) (N := 14) (ci := 8) (v := .ref nw) S in_X10_ticks_X10 G 0 rfl rfl 0 (by decide) lk_X10_ticks_10 rfl dX10_ticks_71 ?_
          refine o_ri (cells' := 0) (slots' := 0) G rfl rfl (n_V (As := []) (rest := []) (C := RX5) (T := TX5) (N := 8) (ci := 3) S G (s_homes l X nw an v39_1 b39_1 g39_1 hI_b39_1 H.size) gX10_ticks_X5_homes rfl rfl rfl hdV_X5_homes ⟨Nat.le_of_ble_eq_true rfl, Nat.le_of_ble_eq_true rfl⟩ [1, 2, 3, 4, 5, 6, 7, 8, 9, 10, 11, 12, 13, 14, 15, 16] rfl rfl 1 rfl rfl rfl hl.1 (Nat.le_of_ble_eq_true rfl) dX10_ticks_74 ⟨Nat.le_of_ble_eq_true rfl, Nat.le_of_ble_eq_true rfl⟩) (fun r_11 u_11 H locs hp_11 G => ?_)
          have G : wd X (va_A (@HAppend.hAppend va_W va_W va_W _ (xW h0 nw sp xa la lb) (@HAppend.hAppend va_W va_W va_W _ (rcW X nw an v b g) ([((xa 5), .inl (X.2.1, 3, .inl fr))]))) sz) (va_A (@HAppend.hAppend va_W va_W va_W _ (xW h0 nw sp xa la lb) (@HAppend.hAppend va_W va_W va_W _ (rcW X nw an v b g) ([((xa 5), .inl (X.2.1, 3, .inl fr))]))) sz) s (@HAppend.hAppend va_W va_W va_W _ (xW h0 nw sp xa la lb) (@HAppend.hAppend va_W va_W va_W _ (rcW X nw an v39_1 b39_1 g39_1) ([((xa 5), .inl (X.2.1, 3, .inl fr))]))) H locs := G
          exact e_int S zr zlk (vp_nar_int _) G (v39_1, b39_1, g39_1, fr) [0, 1, 2, 3, 4, 5, 6, 7, 8, 9, 10, 11, 12, 13, 14, 15, 16, 17] rfl rfl (Or.inr rfl) (⟨hI_b39_1, trivial⟩) dX10_ticks_77
  · refine lv_if_ne (tgt := 17) zx zb dX10_ticks_7 (by decide) (fun c_12 => absurd (by decide) c_12) (fun c_12 => ?_)
    refine lv_aload_n zx zb dX10_ticks_10 rfl (lv_at hl 0 rfl) ?_
    refine lv_bipush (v := (-2)) zx zb dX10_ticks_11 (by decide) ?_
    refine b_wi (cells' := 0) (slots' := 0) (wr := rcW X nw an v b g) G rfl rfl [0, 17] [1, 2, 3, 4, 5, 6, 7, 8, 9, 10, 11, 12, 13, 14, 15, 16] rfl rfl rfl rfl (n_V (As := [.int (-2)]) (rest := []) (C := RX10) (T := TX10) (N := 14) (ci := 8) S G (s_refuse l X h0 nw sp xa la lb fr (-2) H.size) gX10_ticks_X10_refuse rfl rfl rfl hdV_X10_refuse ⟨Nat.le_of_ble_eq_true rfl, Nat.le_of_ble_eq_true rfl⟩ [0, 17] rfl rfl 0 rfl rfl rfl hl.1 (Nat.le_of_ble_eq_true rfl) dX10_ticks_13 ⟨Nat.le_of_ble_eq_true rfl, Nat.le_of_ble_eq_true rfl⟩) (fun r_13 u_13 H locs hp_13 G => ?_)
    obtain ⟨f_13, rfl⟩ : ∃ z, z = u_13 := ⟨_, rfl⟩
    have hq_13 := hp_13
    have G : wd X (va_A (@HAppend.hAppend va_W va_W va_W _ (xW h0 nw sp xa la lb) (@HAppend.hAppend va_W va_W va_W _ (rcW X nw an v b g) ([((xa 5), .inl (X.2.1, 3, .inl fr))]))) sz) (va_A (@HAppend.hAppend va_W va_W va_W _ (xW h0 nw sp xa la lb) (@HAppend.hAppend va_W va_W va_W _ (rcW X nw an v b g) ([((xa 5), .inl (X.2.1, 3, .inl fr))]))) sz) s (@HAppend.hAppend va_W va_W va_W _ (rcW X nw an v b g) (@HAppend.hAppend va_W va_W va_W _ (xW h0 nw sp xa la lb) ([((xa 5), .inl (X.2.1, 3, .inl f_13))]))) H locs := G
    exact e_int S zr zlk (vp_nar_int _) G (v, b, g, f_13) [16, 0, 1, 2, 3, 4, 5, 6, 7, 8, 9, 10, 11, 12, 13, 14, 15, 17] rfl rfl (Or.inr rfl) (⟨hI_b, trivial⟩) dX10_ticks_16
