set_option maxRecDepth 20000 in
theorem ggX10_forget_X10_refuse : GoodIn wsX10_forget wsX10_refuse := goodIn_r _ [13, 14, 15, 16, 17, 18, 19, 20, 21, 22, 23, 24, 25, 26, 27, 28] rfl (by decide +kernel)
set_option maxRecDepth 20000 in
theorem gX10_forget_X10_refuse : GoodIn wsX10_forget (wsV RX10 83 RX10 yX10_refuse wsX10_refuse) := goodIn_app (goodIn_of _ (by decide +kernel)) ggX10_forget_X10_refuse
set_option maxRecDepth 20000 in
theorem ggX10_forget_X10_within : GoodIn wsX10_forget wsX10_within := goodIn_r _ [9] rfl (by decide +kernel)
set_option maxRecDepth 20000 in
theorem gX10_forget_X10_within : GoodIn wsX10_forget (va_wsS RX10 79 yX10_within wsX10_within) := goodIn_app (goodIn_of _ (by decide +kernel)) ggX10_forget_X10_within
set_option maxRecDepth 20000 in
theorem ggX10_is_X10_refuse : GoodIn wsX10_is wsX10_refuse := goodIn_r _ [29, 30, 31, 32, 33, 34, 35, 36, 37, 38, 39, 40, 41, 42, 43, 44] rfl (by decide +kernel)
set_option maxRecDepth 20000 in
theorem gX10_is_X10_refuse : GoodIn wsX10_is (wsV RX10 83 RX10 yX10_refuse wsX10_refuse) := goodIn_app (goodIn_of _ (by decide +kernel)) ggX10_is_X10_refuse
set_option maxRecDepth 20000 in
theorem ggX10_is_X10_there : GoodIn wsX10_is wsX10_there := goodIn_r _ [6, 1, 7, 31, 32, 33, 34, 35, 36, 37, 38, 39, 40, 41, 42, 43, 44, 45, 46, 47, 48, 49, 50, 51, 52] rfl (by decide +kernel)
set_option maxRecDepth 20000 in
theorem gX10_is_X10_there : GoodIn wsX10_is (wsV RX10 123 RX10 yX10_there wsX10_there) := goodIn_app (goodIn_of _ (by decide +kernel)) ggX10_is_X10_there
set_option maxRecDepth 20000 in
theorem ggX10_is_X5_kindsThatFit : GoodIn wsX10_is wsX5_kindsThatFit := goodIn_r _ [12, 13, 14, 15, 16, 17, 18, 19, 20, 21, 22, 23, 24, 25, 45, 46, 47, 48, 49, 50, 51, 52, 53, 54, 55, 56, 57] rfl (by decide +kernel)
set_option maxRecDepth 20000 in
theorem gX10_is_X5_kindsThatFit : GoodIn wsX10_is (wsV RX10 218 RX5 yX5_kindsThatFit wsX5_kindsThatFit) := goodIn_app (goodIn_of _ (by decide +kernel)) ggX10_is_X5_kindsThatFit
set_option maxRecDepth 20000 in
theorem ggX10_kinds_X10_refuse : GoodIn wsX10_kinds wsX10_refuse := goodIn_r _ [28, 29, 30, 31, 32, 33, 34, 35, 36, 37, 38, 39, 40, 41, 42, 43] rfl (by decide +kernel)
set_option maxRecDepth 20000 in
theorem gX10_kinds_X10_refuse : GoodIn wsX10_kinds (wsV RX10 83 RX10 yX10_refuse wsX10_refuse) := goodIn_app (goodIn_of _ (by decide +kernel)) ggX10_kinds_X10_refuse
set_option maxRecDepth 20000 in
theorem ggX10_kinds_X10_there : GoodIn wsX10_kinds wsX10_there := goodIn_r _ [6, 1, 7, 30, 31, 32, 33, 34, 35, 36, 37, 38, 39, 40, 41, 42, 43, 44, 45, 46, 47, 48, 49, 50, 51] rfl (by decide +kernel)
set_option maxRecDepth 20000 in
theorem gX10_kinds_X10_there : GoodIn wsX10_kinds (wsV RX10 123 RX10 yX10_there wsX10_there) := goodIn_app (goodIn_of _ (by decide +kernel)) ggX10_kinds_X10_there
set_option maxRecDepth 20000 in
theorem ggX10_kinds_X5_eggsThatFit : GoodIn wsX10_kinds wsX5_eggsThatFit := goodIn_r _ [12, 13, 14, 15, 16, 17, 18, 19, 20, 21, 22, 23, 24, 44, 45, 46, 47, 48, 49, 50, 51, 52, 53, 54, 55, 56] rfl (by decide +kernel)
set_option maxRecDepth 20000 in
theorem gX10_kinds_X5_eggsThatFit : GoodIn wsX10_kinds (wsV RX10 221 RX5 yX5_eggsThatFit wsX5_eggsThatFit) := goodIn_app (goodIn_of _ (by decide +kernel)) ggX10_kinds_X5_eggsThatFit
set_option maxRecDepth 20000 in
theorem ggX10_mark_X10_refuse : GoodIn wsX10_mark wsX10_refuse := goodIn_r _ [16, 17, 26, 27, 28, 29, 30, 31, 32, 33, 34, 35, 36, 37, 38, 39] rfl (by decide +kernel)
set_option maxRecDepth 20000 in
theorem gX10_mark_X10_refuse : GoodIn wsX10_mark (wsV RX10 83 RX10 yX10_refuse wsX10_refuse) := goodIn_app (goodIn_of _ (by decide +kernel)) ggX10_mark_X10_refuse
set_option maxRecDepth 20000 in
theorem ggX10_mark_X10_there : GoodIn wsX10_mark wsX10_there := goodIn_r _ [8, 1, 9, 26, 27, 28, 29, 30, 31, 32, 33, 34, 35, 36, 37, 38, 39, 40, 41, 42, 43, 44, 45, 46, 47] rfl (by decide +kernel)
set_option maxRecDepth 20000 in
theorem gX10_mark_X10_there : GoodIn wsX10_mark (wsV RX10 123 RX10 yX10_there wsX10_there) := goodIn_app (goodIn_of _ (by decide +kernel)) ggX10_mark_X10_there
set_option maxRecDepth 20000 in
theorem ggX10_mark_X10_within : GoodIn wsX10_mark wsX10_within := goodIn_r _ [12] rfl (by decide +kernel)
set_option maxRecDepth 20000 in
theorem gX10_mark_X10_within : GoodIn wsX10_mark (va_wsS RX10 79 yX10_within wsX10_within) := goodIn_app (goodIn_of _ (by decide +kernel)) ggX10_mark_X10_within
set_option maxRecDepth 20000 in
theorem ggX10_mark_X7_append : GoodIn wsX10_mark wsX7_append := goodIn_r _ [22, 23, 24, 25, 48, 49, 50, 51, 52] rfl (by decide +kernel)
set_option maxRecDepth 20000 in
theorem gX10_mark_X7_append : GoodIn wsX10_mark (wsV RX10 189 RX7 yX7_append wsX7_append) := goodIn_app (goodIn_of _ (by decide +kernel)) ggX10_mark_X7_append
set_option maxRecDepth 20000 in
theorem ggX10_part_X10_refuse : GoodIn wsX10_part wsX10_refuse := goodIn_r _ [10, 11, 12, 13, 14, 15, 16, 17, 18, 19, 20, 21, 22, 23, 24, 25] rfl (by decide +kernel)
set_option maxRecDepth 20000 in
theorem gX10_part_X10_refuse : GoodIn wsX10_part (wsV RX10 83 RX10 yX10_refuse wsX10_refuse) := goodIn_app (goodIn_of _ (by decide +kernel)) ggX10_part_X10_refuse
set_option maxRecDepth 20000 in
theorem ggX10_part_X10_within : GoodIn wsX10_part wsX10_within := goodIn_r _ [6] rfl (by decide +kernel)
set_option maxRecDepth 20000 in
theorem gX10_part_X10_within : GoodIn wsX10_part (va_wsS RX10 79 yX10_within wsX10_within) := goodIn_app (goodIn_of _ (by decide +kernel)) ggX10_part_X10_within
set_option maxRecDepth 20000 in
theorem ggX10_status_X10_refuse : GoodIn wsX10_status wsX10_refuse := goodIn_r _ [9, 1, 10, 11, 12, 13, 14, 15, 16, 17, 18, 19, 20, 21, 22, 23] rfl (by decide +kernel)
set_option maxRecDepth 20000 in
theorem gX10_status_X10_refuse : GoodIn wsX10_status (wsV RX10 83 RX10 yX10_refuse wsX10_refuse) := goodIn_app (goodIn_of _ (by decide +kernel)) ggX10_status_X10_refuse
set_option maxRecDepth 20000 in
theorem ggX10_status_X10_within : GoodIn wsX10_status wsX10_within := goodIn_r _ [5] rfl (by decide +kernel)
set_option maxRecDepth 20000 in
theorem gX10_status_X10_within : GoodIn wsX10_status (va_wsS RX10 79 yX10_within wsX10_within) := goodIn_app (goodIn_of _ (by decide +kernel)) ggX10_status_X10_within
set_option maxRecDepth 20000 in
theorem ggX10_strong_J6_bitCount_0f7a4 : GoodIn wsX10_strong wsJ6_bitCount_0f7a4 := goodIn_r _ [39, 40, 41, 42] rfl (by decide +kernel)
set_option maxRecDepth 20000 in
theorem gX10_strong_J6_bitCount_0f7a4 : GoodIn wsX10_strong (va_wsS RX10 200 yJ6_bitCount_0f7a4 wsJ6_bitCount_0f7a4) := goodIn_app (goodIn_of _ (by decide +kernel)) ggX10_strong_J6_bitCount_0f7a4
set_option maxRecDepth 20000 in
theorem ggX10_strong_X10_hasBit : GoodIn wsX10_strong wsX10_hasBit := goodIn_r _ [45] rfl (by decide +kernel)
set_option maxRecDepth 20000 in
theorem gX10_strong_X10_hasBit : GoodIn wsX10_strong (va_wsS RX10 205 yX10_hasBit wsX10_hasBit) := goodIn_app (goodIn_of _ (by decide +kernel)) ggX10_strong_X10_hasBit
set_option maxRecDepth 20000 in
theorem ggX10_strong_X10_refuse : GoodIn wsX10_strong wsX10_refuse := goodIn_r _ [14, 15, 46, 47, 48, 49, 50, 51, 52, 53, 54, 55, 56, 57, 58, 59] rfl (by decide +kernel)
set_option maxRecDepth 20000 in
theorem gX10_strong_X10_refuse : GoodIn wsX10_strong (wsV RX10 83 RX10 yX10_refuse wsX10_refuse) := goodIn_app (goodIn_of _ (by decide +kernel)) ggX10_strong_X10_refuse
set_option maxRecDepth 20000 in
theorem ggX10_strong_X10_there : GoodIn wsX10_strong wsX10_there := goodIn_r _ [6, 1, 7, 46, 47, 48, 49, 50, 51, 52, 53, 54, 55, 56, 57, 58, 59, 60, 61, 62, 63, 64, 65, 66, 67] rfl (by decide +kernel)
set_option maxRecDepth 20000 in
theorem gX10_strong_X10_there : GoodIn wsX10_strong (wsV RX10 123 RX10 yX10_there wsX10_there) := goodIn_app (goodIn_of _ (by decide +kernel)) ggX10_strong_X10_there
set_option maxRecDepth 20000 in
theorem ggX10_strong_X10_within : GoodIn wsX10_strong wsX10_within := goodIn_r _ [10] rfl (by decide +kernel)
set_option maxRecDepth 20000 in
theorem gX10_strong_X10_within : GoodIn wsX10_strong (va_wsS RX10 79 yX10_within wsX10_within) := goodIn_app (goodIn_of _ (by decide +kernel)) ggX10_strong_X10_within
set_option maxRecDepth 20000 in
theorem ggX10_strong_X5_legsThatFit : GoodIn wsX10_strong wsX5_legsThatFit := goodIn_r _ [20, 21, 22, 23, 24, 25, 26, 27, 28, 29, 30, 31, 32, 33, 34, 35, 60, 61, 62, 63, 64, 65, 66, 67, 68, 69, 70, 71, 72, 73, 74, 75, 76, 77, 78, 79, 80] rfl (by decide +kernel)
set_option maxRecDepth 20000 in
theorem gX10_strong_X5_legsThatFit : GoodIn wsX10_strong (wsV RX10 197 RX5 yX5_legsThatFit wsX5_legsThatFit) := goodIn_app (goodIn_of _ (by decide +kernel)) ggX10_strong_X5_legsThatFit
set_option maxRecDepth 20000 in
theorem ggX10_ticks_X10_refuse : GoodIn wsX10_ticks wsX10_refuse := goodIn_r _ [10, 11, 72, 73, 74, 75, 76, 77, 78, 79, 80, 81, 82, 83, 84, 85] rfl (by decide +kernel)
set_option maxRecDepth 20000 in
theorem gX10_ticks_X10_refuse : GoodIn wsX10_ticks (wsV RX10 83 RX10 yX10_refuse wsX10_refuse) := goodIn_app (goodIn_of _ (by decide +kernel)) ggX10_ticks_X10_refuse
set_option maxRecDepth 20000 in
theorem ggX10_ticks_X10_within : GoodIn wsX10_ticks wsX10_within := goodIn_r _ [6] rfl (by decide +kernel)
set_option maxRecDepth 20000 in
theorem gX10_ticks_X10_within : GoodIn wsX10_ticks (va_wsS RX10 79 yX10_within wsX10_within) := goodIn_app (goodIn_of _ (by decide +kernel)) ggX10_ticks_X10_within
set_option maxRecDepth 20000 in
theorem ggX10_ticks_X5_goOn : GoodIn wsX10_ticks wsX5_goOn := goodIn_r _ [39, 18, 40, 19, 41, 42, 43, 44, 45, 46, 47, 48, 49, 50, 51, 52, 53, 54, 55, 56, 57, 58, 59, 60, 61, 62, 63, 64, 65, 66, 86, 87, 88, 89, 90, 91, 92, 93, 96, 97, 98, 99, 100, 101, 102, 103] rfl (by decide +kernel)
set_option maxRecDepth 20000 in
theorem gX10_ticks_X5_goOn : GoodIn wsX10_ticks (wsV RX10 116 RX5 yX5_goOn wsX5_goOn) := goodIn_app (goodIn_of _ (by decide +kernel)) ggX10_ticks_X5_goOn
set_option maxRecDepth 20000 in
theorem ggX10_ticks_X5_homes : GoodIn wsX10_ticks wsX5_homes := goodIn_r _ [70, 40, 19, 71, 56, 57, 45, 58, 54, 86, 87, 88, 89, 90, 91, 92, 93, 96, 97, 98, 99, 100, 101, 102, 103] rfl (by decide +kernel)
set_option maxRecDepth 20000 in
theorem gX10_ticks_X5_homes : GoodIn wsX10_ticks (wsV RX10 119 RX5 yX5_homes wsX5_homes) := goodIn_app (goodIn_of _ (by decide +kernel)) ggX10_ticks_X5_homes
set_option maxRecDepth 20000 in
theorem ggX10_ticks_X5_keep : GoodIn wsX10_ticks wsX5_keep := goodIn_r _ [16, 17, 18, 19, 20, 21, 22, 23, 24, 25, 26, 27, 28, 29, 30, 31, 32, 33, 34, 35, 86, 87, 88, 89, 90, 91, 92, 93, 94, 95, 96, 97, 98, 99, 100, 101, 102, 103] rfl (by decide +kernel)
set_option maxRecDepth 20000 in
theorem gX10_ticks_X5_keep : GoodIn wsX10_ticks (wsV RX10 113 RX5 yX5_keep wsX5_keep) := goodIn_app (goodIn_of _ (by decide +kernel)) ggX10_ticks_X5_keep
set_option maxRecDepth 20000 in
theorem ggX5_copyFrom_X4_copyFrom : GoodIn wsX5_copyFrom wsX4_copyFrom := goodIn_r _ [31, 32, 33, 34, 35, 36, 37, 66, 67] rfl (by decide +kernel)
set_option maxRecDepth 20000 in
theorem gX5_copyFrom_X4_copyFrom : GoodIn wsX5_copyFrom (wsV RX5 66 RX4 yX4_copyFrom wsX4_copyFrom) := goodIn_app (goodIn_of _ (by decide +kernel)) ggX5_copyFrom_X4_copyFrom
set_option maxRecDepth 20000 in
theorem ggX5_copyFrom_X5_copyLine : GoodIn wsX5_copyFrom wsX5_copyLine := goodIn_r _ [9, 10, 11, 12, 13, 14, 15, 16, 17, 18, 19, 20, 21, 22, 23, 24, 25, 26, 50, 51, 52, 53, 54, 55, 56, 57, 58, 59, 60, 61, 62, 63, 64, 65] rfl (by decide +kernel)
set_option maxRecDepth 20000 in
theorem gX5_copyFrom_X5_copyLine : GoodIn wsX5_copyFrom (wsV RX5 62 RX5 yX5_copyLine wsX5_copyLine) := goodIn_app (goodIn_of _ (by decide +kernel)) ggX5_copyFrom_X5_copyLine
set_option maxRecDepth 20000 in
theorem ggX5_copyFrom_X7_copyFrom : GoodIn wsX5_copyFrom wsX7_copyFrom := goodIn_r _ [42, 43, 44, 45, 46, 47, 48, 49, 35, 36, 37, 68, 69, 70, 71, 72] rfl (by decide +kernel)
set_option maxRecDepth 20000 in
theorem gX5_copyFrom_X7_copyFrom : GoodIn wsX5_copyFrom (wsV RX5 69 RX7 yX7_copyFrom wsX7_copyFrom) := goodIn_app (goodIn_of _ (by decide +kernel)) ggX5_copyFrom_X7_copyFrom
set_option maxRecDepth 20000 in
theorem ggX5_copyLine_X8_copyFrom : GoodIn wsX5_copyLine wsX8_copyFrom := goodIn_r _ [9, 10, 11, 12, 13, 14, 15, 16, 17, 26, 27, 28, 29, 30, 31, 32, 33] rfl (by decide +kernel)
set_option maxRecDepth 20000 in
theorem gX5_copyLine_X8_copyFrom : GoodIn wsX5_copyLine (wsV RX5 58 RX8 yX8_copyFrom wsX8_copyFrom) := goodIn_app (goodIn_of _ (by decide +kernel)) ggX5_copyLine_X8_copyFrom
theorem dX10_forget_0 : decode cX10_forget 0 = .ok (.iload_n 1, 1) := by decide +kernel
theorem dX10_forget_1 : decode cX10_forget 1 = .ok (.iconst 0, 1) := by decide +kernel
theorem dX10_forget_10 : decode cX10_forget 10 = .ok (.bipush (-2), 2) := by decide +kernel
theorem dX10_forget_12 : decode cX10_forget 12 = .ok (.invokevirtual 83, 3) := by decide +kernel
theorem dX10_forget_15 : decode cX10_forget 15 = .ok (.ireturn, 1) := by decide +kernel
theorem dX10_forget_16 : decode cX10_forget 16 = .ok (.iload_n 1, 1) := by decide +kernel
theorem dX10_forget_17 : decode cX10_forget 17 = .ok (.ifCond .ne 13, 3) := by decide +kernel
theorem dX10_forget_2 : decode cX10_forget 2 = .ok (.iconst 2, 1) := by decide +kernel
theorem dX10_forget_20 : decode cX10_forget 20 = .ok (.aload_n 0, 1) := by decide +kernel
theorem dX10_forget_21 : decode cX10_forget 21 = .ok (.getfield 10, 3) := by decide +kernel
theorem dX10_forget_24 : decode cX10_forget 24 = .ok (.getfield 185, 3) := by decide +kernel
theorem dX10_forget_27 : decode cX10_forget 27 = .ok (.goto 25, 3) := by decide +kernel
theorem dX10_forget_3 : decode cX10_forget 3 = .ok (.invokestatic 79, 3) := by decide +kernel
theorem dX10_forget_30 : decode cX10_forget 30 = .ok (.iload_n 1, 1) := by decide +kernel
theorem dX10_forget_31 : decode cX10_forget 31 = .ok (.iconst 1, 1) := by decide +kernel
theorem dX10_forget_32 : decode cX10_forget 32 = .ok (.if_icmp .ne 13, 3) := by decide +kernel
theorem dX10_forget_35 : decode cX10_forget 35 = .ok (.aload_n 0, 1) := by decide +kernel
theorem dX10_forget_36 : decode cX10_forget 36 = .ok (.getfield 10, 3) := by decide +kernel
theorem dX10_forget_39 : decode cX10_forget 39 = .ok (.getfield 212, 3) := by decide +kernel
theorem dX10_forget_42 : decode cX10_forget 42 = .ok (.goto 10, 3) := by decide +kernel
theorem dX10_forget_45 : decode cX10_forget 45 = .ok (.aload_n 0, 1) := by decide +kernel
theorem dX10_forget_46 : decode cX10_forget 46 = .ok (.getfield 10, 3) := by decide +kernel
theorem dX10_forget_49 : decode cX10_forget 49 = .ok (.getfield 215, 3) := by decide +kernel
theorem dX10_forget_52 : decode cX10_forget 52 = .ok (.astore_n 2, 1) := by decide +kernel
theorem dX10_forget_53 : decode cX10_forget 53 = .ok (.aload_n 2, 1) := by decide +kernel
theorem dX10_forget_54 : decode cX10_forget 54 = .ok (.getfield 194, 3) := by decide +kernel
theorem dX10_forget_57 : decode cX10_forget 57 = .ok (.istore_n 3, 1) := by decide +kernel
theorem dX10_forget_58 : decode cX10_forget 58 = .ok (.aload_n 2, 1) := by decide +kernel
theorem dX10_forget_59 : decode cX10_forget 59 = .ok (.iconst 0, 1) := by decide +kernel
theorem dX10_forget_6 : decode cX10_forget 6 = .ok (.ifCond .ne 10, 3) := by decide +kernel
theorem dX10_forget_60 : decode cX10_forget 60 = .ok (.putfield 194, 3) := by decide +kernel
theorem dX10_forget_63 : decode cX10_forget 63 = .ok (.iload_n 3, 1) := by decide +kernel
theorem dX10_forget_64 : decode cX10_forget 64 = .ok (.ireturn, 1) := by decide +kernel
theorem dX10_forget_9 : decode cX10_forget 9 = .ok (.aload_n 0, 1) := by decide +kernel
theorem dX10_is_0 : decode cX10_is 0 = .ok (.aload_n 0, 1) := by decide +kernel
theorem dX10_is_1 : decode cX10_is 1 = .ok (.iload_n 1, 1) := by decide +kernel
theorem dX10_is_12 : decode cX10_is 12 = .ok (.iload_n 1, 1) := by decide +kernel
theorem dX10_is_13 : decode cX10_is 13 = .ok (.invokevirtual 218, 3) := by decide +kernel
theorem dX10_is_16 : decode cX10_is 16 = .ok (.goto 9, 3) := by decide +kernel
theorem dX10_is_19 : decode cX10_is 19 = .ok (.aload_n 0, 1) := by decide +kernel
theorem dX10_is_2 : decode cX10_is 2 = .ok (.invokevirtual 123, 3) := by decide +kernel
theorem dX10_is_20 : decode cX10_is 20 = .ok (.bipush (-2), 2) := by decide +kernel
theorem dX10_is_22 : decode cX10_is 22 = .ok (.invokevirtual 83, 3) := by decide +kernel
theorem dX10_is_25 : decode cX10_is 25 = .ok (.ireturn, 1) := by decide +kernel
theorem dX10_is_5 : decode cX10_is 5 = .ok (.ifCond .eq 14, 3) := by decide +kernel
theorem dX10_is_8 : decode cX10_is 8 = .ok (.aload_n 0, 1) := by decide +kernel
theorem dX10_is_9 : decode cX10_is 9 = .ok (.getfield 10, 3) := by decide +kernel
theorem dX10_kinds_0 : decode cX10_kinds 0 = .ok (.aload_n 0, 1) := by decide +kernel
theorem dX10_kinds_1 : decode cX10_kinds 1 = .ok (.iload_n 1, 1) := by decide +kernel
theorem dX10_kinds_12 : decode cX10_kinds 12 = .ok (.iload_n 1, 1) := by decide +kernel
theorem dX10_kinds_13 : decode cX10_kinds 13 = .ok (.invokevirtual 221, 3) := by decide +kernel
theorem dX10_kinds_16 : decode cX10_kinds 16 = .ok (.goto 9, 3) := by decide +kernel
theorem dX10_kinds_19 : decode cX10_kinds 19 = .ok (.aload_n 0, 1) := by decide +kernel
theorem dX10_kinds_2 : decode cX10_kinds 2 = .ok (.invokevirtual 123, 3) := by decide +kernel
theorem dX10_kinds_20 : decode cX10_kinds 20 = .ok (.bipush (-2), 2) := by decide +kernel
theorem dX10_kinds_22 : decode cX10_kinds 22 = .ok (.invokevirtual 83, 3) := by decide +kernel
theorem dX10_kinds_25 : decode cX10_kinds 25 = .ok (.ireturn, 1) := by decide +kernel
theorem dX10_kinds_5 : decode cX10_kinds 5 = .ok (.ifCond .eq 14, 3) := by decide +kernel
theorem dX10_kinds_8 : decode cX10_kinds 8 = .ok (.aload_n 0, 1) := by decide +kernel
theorem dX10_kinds_9 : decode cX10_kinds 9 = .ok (.getfield 10, 3) := by decide +kernel
theorem dX10_mark_0 : decode cX10_mark 0 = .ok (.aload_n 0, 1) := by decide +kernel
theorem dX10_mark_1 : decode cX10_mark 1 = .ok (.iload_n 1, 1) := by decide +kernel
theorem dX10_mark_10 : decode cX10_mark 10 = .ok (.bipush 99, 2) := by decide +kernel
theorem dX10_mark_12 : decode cX10_mark 12 = .ok (.invokestatic 79, 3) := by decide +kernel
theorem dX10_mark_15 : decode cX10_mark 15 = .ok (.ifCond .eq 13, 3) := by decide +kernel
theorem dX10_mark_18 : decode cX10_mark 18 = .ok (.iload_n 3, 1) := by decide +kernel
theorem dX10_mark_19 : decode cX10_mark 19 = .ok (.iconst 0, 1) := by decide +kernel
theorem dX10_mark_2 : decode cX10_mark 2 = .ok (.invokevirtual 123, 3) := by decide +kernel
theorem dX10_mark_20 : decode cX10_mark 20 = .ok (.bipush 15, 2) := by decide +kernel
theorem dX10_mark_22 : decode cX10_mark 22 = .ok (.invokestatic 79, 3) := by decide +kernel
theorem dX10_mark_25 : decode cX10_mark 25 = .ok (.ifCond .ne 10, 3) := by decide +kernel
theorem dX10_mark_28 : decode cX10_mark 28 = .ok (.aload_n 0, 1) := by decide +kernel
theorem dX10_mark_29 : decode cX10_mark 29 = .ok (.bipush (-2), 2) := by decide +kernel
theorem dX10_mark_31 : decode cX10_mark 31 = .ok (.invokevirtual 83, 3) := by decide +kernel
theorem dX10_mark_34 : decode cX10_mark 34 = .ok (.ireturn, 1) := by decide +kernel
theorem dX10_mark_35 : decode cX10_mark 35 = .ok (.aload_n 0, 1) := by decide +kernel
theorem dX10_mark_36 : decode cX10_mark 36 = .ok (.getfield 10, 3) := by decide +kernel
theorem dX10_mark_39 : decode cX10_mark 39 = .ok (.getfield 215, 3) := by decide +kernel
theorem dX10_mark_42 : decode cX10_mark 42 = .ok (.iload_n 1, 1) := by decide +kernel
theorem dX10_mark_43 : decode cX10_mark 43 = .ok (.iconst 0, 1) := by decide +kernel
theorem dX10_mark_44 : decode cX10_mark 44 = .ok (.iload_n 2, 1) := by decide +kernel
theorem dX10_mark_45 : decode cX10_mark 45 = .ok (.iconst 0, 1) := by decide +kernel
theorem dX10_mark_46 : decode cX10_mark 46 = .ok (.iload_n 3, 1) := by decide +kernel
theorem dX10_mark_47 : decode cX10_mark 47 = .ok (.invokevirtual 189, 3) := by decide +kernel
theorem dX10_mark_5 : decode cX10_mark 5 = .ok (.ifCond .eq 23, 3) := by decide +kernel
theorem dX10_mark_50 : decode cX10_mark 50 = .ok (.ifCond .eq 16, 3) := by decide +kernel
theorem dX10_mark_53 : decode cX10_mark 53 = .ok (.aload_n 0, 1) := by decide +kernel
theorem dX10_mark_54 : decode cX10_mark 54 = .ok (.getfield 10, 3) := by decide +kernel
theorem dX10_mark_57 : decode cX10_mark 57 = .ok (.getfield 215, 3) := by decide +kernel
theorem dX10_mark_60 : decode cX10_mark 60 = .ok (.getfield 194, 3) := by decide +kernel
theorem dX10_mark_63 : decode cX10_mark 63 = .ok (.goto 9, 3) := by decide +kernel
theorem dX10_mark_66 : decode cX10_mark 66 = .ok (.aload_n 0, 1) := by decide +kernel
theorem dX10_mark_67 : decode cX10_mark 67 = .ok (.bipush (-4), 2) := by decide +kernel
theorem dX10_mark_69 : decode cX10_mark 69 = .ok (.invokevirtual 83, 3) := by decide +kernel
theorem dX10_mark_72 : decode cX10_mark 72 = .ok (.ireturn, 1) := by decide +kernel
theorem dX10_mark_8 : decode cX10_mark 8 = .ok (.iload_n 2, 1) := by decide +kernel
theorem dX10_mark_9 : decode cX10_mark 9 = .ok (.iconst 0, 1) := by decide +kernel
theorem dX10_part_0 : decode cX10_part 0 = .ok (.iload_n 1, 1) := by decide +kernel
theorem dX10_part_1 : decode cX10_part 1 = .ok (.iconst 0, 1) := by decide +kernel
theorem dX10_part_10 : decode cX10_part 10 = .ok (.bipush (-2), 2) := by decide +kernel
theorem dX10_part_12 : decode cX10_part 12 = .ok (.invokevirtual 83, 3) := by decide +kernel
theorem dX10_part_15 : decode cX10_part 15 = .ok (.i2l, 1) := by decide +kernel
theorem dX10_part_16 : decode cX10_part 16 = .ok (.lreturn, 1) := by decide +kernel
theorem dX10_part_17 : decode cX10_part 17 = .ok (.iload_n 1, 1) := by decide +kernel
theorem dX10_part_18 : decode cX10_part 18 = .ok (.ifCond .ne 10, 3) := by decide +kernel
theorem dX10_part_2 : decode cX10_part 2 = .ok (.iconst 1, 1) := by decide +kernel
theorem dX10_part_21 : decode cX10_part 21 = .ok (.aload_n 0, 1) := by decide +kernel
theorem dX10_part_22 : decode cX10_part 22 = .ok (.getfield 38, 3) := by decide +kernel
theorem dX10_part_25 : decode cX10_part 25 = .ok (.goto 7, 3) := by decide +kernel
theorem dX10_part_28 : decode cX10_part 28 = .ok (.aload_n 0, 1) := by decide +kernel
theorem dX10_part_29 : decode cX10_part 29 = .ok (.getfield 42, 3) := by decide +kernel
theorem dX10_part_3 : decode cX10_part 3 = .ok (.invokestatic 79, 3) := by decide +kernel
theorem dX10_part_32 : decode cX10_part 32 = .ok (.lreturn, 1) := by decide +kernel
theorem dX10_part_6 : decode cX10_part 6 = .ok (.ifCond .ne 11, 3) := by decide +kernel
theorem dX10_part_9 : decode cX10_part 9 = .ok (.aload_n 0, 1) := by decide +kernel
theorem dX10_status_0 : decode cX10_status 0 = .ok (.iload_n 1, 1) := by decide +kernel
theorem dX10_status_1 : decode cX10_status 1 = .ok (.iconst 0, 1) := by decide +kernel
theorem dX10_status_10 : decode cX10_status 10 = .ok (.bipush (-2), 2) := by decide +kernel
theorem dX10_status_12 : decode cX10_status 12 = .ok (.invokevirtual 83, 3) := by decide +kernel
theorem dX10_status_15 : decode cX10_status 15 = .ok (.pop, 1) := by decide +kernel
theorem dX10_status_16 : decode cX10_status 16 = .ok (.iconst (-1), 1) := by decide +kernel
theorem dX10_status_17 : decode cX10_status 17 = .ok (.ireturn, 1) := by decide +kernel
theorem dX10_status_18 : decode cX10_status 18 = .ok (.aload_n 0, 1) := by decide +kernel
theorem dX10_status_19 : decode cX10_status 19 = .ok (.getfield 34, 3) := by decide +kernel
theorem dX10_status_2 : decode cX10_status 2 = .ok (.iconst 2, 1) := by decide +kernel
theorem dX10_status_22 : decode cX10_status 22 = .ok (.iload_n 1, 1) := by decide +kernel
theorem dX10_status_23 : decode cX10_status 23 = .ok (.iaload, 1) := by decide +kernel
theorem dX10_status_24 : decode cX10_status 24 = .ok (.ireturn, 1) := by decide +kernel
theorem dX10_status_3 : decode cX10_status 3 = .ok (.invokestatic 79, 3) := by decide +kernel
theorem dX10_status_6 : decode cX10_status 6 = .ok (.ifCond .ne 12, 3) := by decide +kernel
theorem dX10_status_9 : decode cX10_status 9 = .ok (.aload_n 0, 1) := by decide +kernel
theorem dX10_strong_0 : decode cX10_strong 0 = .ok (.aload_n 0, 1) := by decide +kernel
theorem dX10_strong_1 : decode cX10_strong 1 = .ok (.iload_n 1, 1) := by decide +kernel
theorem dX10_strong_10 : decode cX10_strong 10 = .ok (.iconst 2, 1) := by decide +kernel
theorem dX10_strong_11 : decode cX10_strong 11 = .ok (.invokestatic 79, 3) := by decide +kernel
theorem dX10_strong_14 : decode cX10_strong 14 = .ok (.ifCond .ne 10, 3) := by decide +kernel
theorem dX10_strong_17 : decode cX10_strong 17 = .ok (.aload_n 0, 1) := by decide +kernel
theorem dX10_strong_18 : decode cX10_strong 18 = .ok (.bipush (-2), 2) := by decide +kernel
theorem dX10_strong_2 : decode cX10_strong 2 = .ok (.invokevirtual 123, 3) := by decide +kernel
theorem dX10_strong_20 : decode cX10_strong 20 = .ok (.invokevirtual 83, 3) := by decide +kernel
theorem dX10_strong_23 : decode cX10_strong 23 = .ok (.ireturn, 1) := by decide +kernel
theorem dX10_strong_24 : decode cX10_strong 24 = .ok (.aload_n 0, 1) := by decide +kernel
theorem dX10_strong_25 : decode cX10_strong 25 = .ok (.getfield 10, 3) := by decide +kernel
theorem dX10_strong_28 : decode cX10_strong 28 = .ok (.iload_n 1, 1) := by decide +kernel
theorem dX10_strong_29 : decode cX10_strong 29 = .ok (.invokevirtual 197, 3) := by decide +kernel
theorem dX10_strong_32 : decode cX10_strong 32 = .ok (.istore_n 3, 1) := by decide +kernel
theorem dX10_strong_33 : decode cX10_strong 33 = .ok (.iload_n 2, 1) := by decide +kernel
theorem dX10_strong_34 : decode cX10_strong 34 = .ok (.ifCond .ne 8, 3) := by decide +kernel
theorem dX10_strong_37 : decode cX10_strong 37 = .ok (.iload_n 3, 1) := by decide +kernel
theorem dX10_strong_38 : decode cX10_strong 38 = .ok (.invokestatic 200, 3) := by decide +kernel
theorem dX10_strong_41 : decode cX10_strong 41 = .ok (.ireturn, 1) := by decide +kernel
theorem dX10_strong_42 : decode cX10_strong 42 = .ok (.iconst (-1), 1) := by decide +kernel
theorem dX10_strong_43 : decode cX10_strong 43 = .ok (.istore 4, 2) := by decide +kernel
theorem dX10_strong_45 : decode cX10_strong 45 = .ok (.iconst 1, 1) := by decide +kernel
theorem dX10_strong_46 : decode cX10_strong 46 = .ok (.istore 5, 2) := by decide +kernel
theorem dX10_strong_48 : decode cX10_strong 48 = .ok (.iload 5, 2) := by decide +kernel
theorem dX10_strong_5 : decode cX10_strong 5 = .ok (.ifCond .eq 12, 3) := by decide +kernel
theorem dX10_strong_50 : decode cX10_strong 50 = .ok (.bipush 9, 2) := by decide +kernel
theorem dX10_strong_52 : decode cX10_strong 52 = .ok (.if_icmp .gt 33, 3) := by decide +kernel
theorem dX10_strong_55 : decode cX10_strong 55 = .ok (.iload_n 3, 1) := by decide +kernel
theorem dX10_strong_56 : decode cX10_strong 56 = .ok (.iload 5, 2) := by decide +kernel
theorem dX10_strong_58 : decode cX10_strong 58 = .ok (.invokestatic 205, 3) := by decide +kernel
theorem dX10_strong_61 : decode cX10_strong 61 = .ok (.ifCond .eq 18, 3) := by decide +kernel
theorem dX10_strong_64 : decode cX10_strong 64 = .ok (.iload_n 2, 1) := by decide +kernel
theorem dX10_strong_65 : decode cX10_strong 65 = .ok (.iconst 2, 1) := by decide +kernel
theorem dX10_strong_66 : decode cX10_strong 66 = .ok (.if_icmp .eq 9, 3) := by decide +kernel
theorem dX10_strong_69 : decode cX10_strong 69 = .ok (.iload 4, 2) := by decide +kernel
theorem dX10_strong_71 : decode cX10_strong 71 = .ok (.iconst (-1), 1) := by decide +kernel
theorem dX10_strong_72 : decode cX10_strong 72 = .ok (.if_icmp .ne 7, 3) := by decide +kernel
theorem dX10_strong_75 : decode cX10_strong 75 = .ok (.iload 5, 2) := by decide +kernel
theorem dX10_strong_77 : decode cX10_strong 77 = .ok (.istore 4, 2) := by decide +kernel
theorem dX10_strong_79 : decode cX10_strong 79 = .ok (.iinc 5 1, 3) := by decide +kernel
theorem dX10_strong_8 : decode cX10_strong 8 = .ok (.iload_n 2, 1) := by decide +kernel
theorem dX10_strong_82 : decode cX10_strong 82 = .ok (.goto (-34), 3) := by decide +kernel
theorem dX10_strong_85 : decode cX10_strong 85 = .ok (.iload 4, 2) := by decide +kernel
theorem dX10_strong_87 : decode cX10_strong 87 = .ok (.ireturn, 1) := by decide +kernel
theorem dX10_strong_9 : decode cX10_strong 9 = .ok (.iconst 0, 1) := by decide +kernel
theorem dX10_ticks_0 : decode cX10_ticks 0 = .ok (.iload_n 1, 1) := by decide +kernel
theorem dX10_ticks_1 : decode cX10_ticks 1 = .ok (.iconst 1, 1) := by decide +kernel
theorem dX10_ticks_10 : decode cX10_ticks 10 = .ok (.aload_n 0, 1) := by decide +kernel
theorem dX10_ticks_11 : decode cX10_ticks 11 = .ok (.bipush (-2), 2) := by decide +kernel
theorem dX10_ticks_13 : decode cX10_ticks 13 = .ok (.invokevirtual 83, 3) := by decide +kernel
theorem dX10_ticks_16 : decode cX10_ticks 16 = .ok (.ireturn, 1) := by decide +kernel
theorem dX10_ticks_17 : decode cX10_ticks 17 = .ok (.aload_n 0, 1) := by decide +kernel
theorem dX10_ticks_18 : decode cX10_ticks 18 = .ok (.getfield 10, 3) := by decide +kernel
theorem dX10_ticks_2 : decode cX10_ticks 2 = .ok (.bipush 60, 2) := by decide +kernel
theorem dX10_ticks_21 : decode cX10_ticks 21 = .ok (.getfield 110, 3) := by decide +kernel
theorem dX10_ticks_24 : decode cX10_ticks 24 = .ok (.sipush 9999, 3) := by decide +kernel
theorem dX10_ticks_27 : decode cX10_ticks 27 = .ok (.if_icmp .ge 10, 3) := by decide +kernel
theorem dX10_ticks_30 : decode cX10_ticks 30 = .ok (.aload_n 0, 1) := by decide +kernel
theorem dX10_ticks_31 : decode cX10_ticks 31 = .ok (.getfield 10, 3) := by decide +kernel
theorem dX10_ticks_34 : decode cX10_ticks 34 = .ok (.invokevirtual 113, 3) := by decide +kernel
theorem dX10_ticks_37 : decode cX10_ticks 37 = .ok (.iconst 0, 1) := by decide +kernel
theorem dX10_ticks_38 : decode cX10_ticks 38 = .ok (.istore_n 2, 1) := by decide +kernel
theorem dX10_ticks_39 : decode cX10_ticks 39 = .ok (.iload_n 2, 1) := by decide +kernel
theorem dX10_ticks_4 : decode cX10_ticks 4 = .ok (.invokestatic 79, 3) := by decide +kernel
theorem dX10_ticks_40 : decode cX10_ticks 40 = .ok (.iload_n 1, 1) := by decide +kernel
theorem dX10_ticks_41 : decode cX10_ticks 41 = .ok (.if_icmp .ge 29, 3) := by decide +kernel
theorem dX10_ticks_44 : decode cX10_ticks 44 = .ok (.aload_n 0, 1) := by decide +kernel
theorem dX10_ticks_45 : decode cX10_ticks 45 = .ok (.getfield 10, 3) := by decide +kernel
theorem dX10_ticks_48 : decode cX10_ticks 48 = .ok (.getfield 110, 3) := by decide +kernel
theorem dX10_ticks_51 : decode cX10_ticks 51 = .ok (.sipush 9999, 3) := by decide +kernel
theorem dX10_ticks_54 : decode cX10_ticks 54 = .ok (.if_icmp .ge 16, 3) := by decide +kernel
theorem dX10_ticks_57 : decode cX10_ticks 57 = .ok (.aload_n 0, 1) := by decide +kernel
theorem dX10_ticks_58 : decode cX10_ticks 58 = .ok (.getfield 10, 3) := by decide +kernel
theorem dX10_ticks_61 : decode cX10_ticks 61 = .ok (.invokevirtual 116, 3) := by decide +kernel
theorem dX10_ticks_64 : decode cX10_ticks 64 = .ok (.iinc 2 1, 3) := by decide +kernel
theorem dX10_ticks_67 : decode cX10_ticks 67 = .ok (.goto (-28), 3) := by decide +kernel
theorem dX10_ticks_7 : decode cX10_ticks 7 = .ok (.ifCond .ne 10, 3) := by decide +kernel
theorem dX10_ticks_70 : decode cX10_ticks 70 = .ok (.aload_n 0, 1) := by decide +kernel
theorem dX10_ticks_71 : decode cX10_ticks 71 = .ok (.getfield 10, 3) := by decide +kernel
theorem dX10_ticks_74 : decode cX10_ticks 74 = .ok (.invokevirtual 119, 3) := by decide +kernel
theorem dX10_ticks_77 : decode cX10_ticks 77 = .ok (.ireturn, 1) := by decide +kernel
theorem dX4_copyFrom_0 : decode cX4_copyFrom 0 = .ok (.aload_n 0, 1) := by decide +kernel
theorem dX4_copyFrom_1 : decode cX4_copyFrom 1 = .ok (.aload_n 1, 1) := by decide +kernel
theorem dX4_copyFrom_12 : decode cX4_copyFrom 12 = .ok (.iconst 0, 1) := by decide +kernel
theorem dX4_copyFrom_13 : decode cX4_copyFrom 13 = .ok (.aload_n 0, 1) := by decide +kernel
theorem dX4_copyFrom_14 : decode cX4_copyFrom 14 = .ok (.getfield 11, 3) := by decide +kernel
theorem dX4_copyFrom_17 : decode cX4_copyFrom 17 = .ok (.iconst 0, 1) := by decide +kernel
theorem dX4_copyFrom_18 : decode cX4_copyFrom 18 = .ok (.aload_n 1, 1) := by decide +kernel
theorem dX4_copyFrom_19 : decode cX4_copyFrom 19 = .ok (.getfield 15, 3) := by decide +kernel
theorem dX4_copyFrom_2 : decode cX4_copyFrom 2 = .ok (.getfield 15, 3) := by decide +kernel
theorem dX4_copyFrom_22 : decode cX4_copyFrom 22 = .ok (.bipush 31, 2) := by decide +kernel
theorem dX4_copyFrom_24 : decode cX4_copyFrom 24 = .ok (.imul, 1) := by decide +kernel
theorem dX4_copyFrom_25 : decode cX4_copyFrom 25 = .ok (.invokestatic 19, 3) := by decide +kernel
theorem dX4_copyFrom_28 : decode cX4_copyFrom 28 = .ok (.return_, 1) := by decide +kernel
theorem dX4_copyFrom_5 : decode cX4_copyFrom 5 = .ok (.putfield 15, 3) := by decide +kernel
theorem dX4_copyFrom_8 : decode cX4_copyFrom 8 = .ok (.aload_n 1, 1) := by decide +kernel
theorem dX4_copyFrom_9 : decode cX4_copyFrom 9 = .ok (.getfield 11, 3) := by decide +kernel
theorem dX5_copyFrom_0 : decode cX5_copyFrom 0 = .ok (.aload_n 0, 1) := by decide +kernel
theorem dX5_copyFrom_1 : decode cX5_copyFrom 1 = .ok (.aload_n 1, 1) := by decide +kernel
theorem dX5_copyFrom_10 : decode cX5_copyFrom 10 = .ok (.getfield 30, 3) := by decide +kernel
theorem dX5_copyFrom_13 : decode cX5_copyFrom 13 = .ok (.invokevirtual 66, 3) := by decide +kernel
theorem dX5_copyFrom_16 : decode cX5_copyFrom 16 = .ok (.aload_n 0, 1) := by decide +kernel
theorem dX5_copyFrom_17 : decode cX5_copyFrom 17 = .ok (.getfield 39, 3) := by decide +kernel
theorem dX5_copyFrom_2 : decode cX5_copyFrom 2 = .ok (.invokevirtual 62, 3) := by decide +kernel
theorem dX5_copyFrom_20 : decode cX5_copyFrom 20 = .ok (.aload_n 1, 1) := by decide +kernel
theorem dX5_copyFrom_21 : decode cX5_copyFrom 21 = .ok (.getfield 39, 3) := by decide +kernel
theorem dX5_copyFrom_24 : decode cX5_copyFrom 24 = .ok (.invokevirtual 69, 3) := by decide +kernel
theorem dX5_copyFrom_27 : decode cX5_copyFrom 27 = .ok (.aload_n 0, 1) := by decide +kernel
theorem dX5_copyFrom_28 : decode cX5_copyFrom 28 = .ok (.getfield 43, 3) := by decide +kernel
theorem dX5_copyFrom_31 : decode cX5_copyFrom 31 = .ok (.aload_n 1, 1) := by decide +kernel
theorem dX5_copyFrom_32 : decode cX5_copyFrom 32 = .ok (.getfield 43, 3) := by decide +kernel
theorem dX5_copyFrom_35 : decode cX5_copyFrom 35 = .ok (.invokevirtual 69, 3) := by decide +kernel
theorem dX5_copyFrom_38 : decode cX5_copyFrom 38 = .ok (.aload_n 0, 1) := by decide +kernel
theorem dX5_copyFrom_39 : decode cX5_copyFrom 39 = .ok (.getfield 46, 3) := by decide +kernel
theorem dX5_copyFrom_42 : decode cX5_copyFrom 42 = .ok (.aload_n 1, 1) := by decide +kernel
theorem dX5_copyFrom_43 : decode cX5_copyFrom 43 = .ok (.getfield 46, 3) := by decide +kernel
theorem dX5_copyFrom_46 : decode cX5_copyFrom 46 = .ok (.invokevirtual 69, 3) := by decide +kernel
theorem dX5_copyFrom_49 : decode cX5_copyFrom 49 = .ok (.return_, 1) := by decide +kernel
theorem dX5_copyFrom_5 : decode cX5_copyFrom 5 = .ok (.aload_n 0, 1) := by decide +kernel
theorem dX5_copyFrom_6 : decode cX5_copyFrom 6 = .ok (.getfield 30, 3) := by decide +kernel
theorem dX5_copyFrom_9 : decode cX5_copyFrom 9 = .ok (.aload_n 1, 1) := by decide +kernel
theorem dX5_copyLine_0 : decode cX5_copyLine 0 = .ok (.aload_n 0, 1) := by decide +kernel
theorem dX5_copyLine_1 : decode cX5_copyLine 1 = .ok (.aload_n 1, 1) := by decide +kernel
theorem dX5_copyLine_10 : decode cX5_copyLine 10 = .ok (.getfield 15, 3) := by decide +kernel
theorem dX5_copyLine_13 : decode cX5_copyLine 13 = .ok (.putfield 15, 3) := by decide +kernel
theorem dX5_copyLine_16 : decode cX5_copyLine 16 = .ok (.aload_n 0, 1) := by decide +kernel
theorem dX5_copyLine_17 : decode cX5_copyLine 17 = .ok (.aload_n 1, 1) := by decide +kernel
theorem dX5_copyLine_18 : decode cX5_copyLine 18 = .ok (.getfield 18, 3) := by decide +kernel
theorem dX5_copyLine_2 : decode cX5_copyLine 2 = .ok (.getfield 9, 3) := by decide +kernel
theorem dX5_copyLine_21 : decode cX5_copyLine 21 = .ok (.putfield 18, 3) := by decide +kernel
theorem dX5_copyLine_24 : decode cX5_copyLine 24 = .ok (.iconst 0, 1) := by decide +kernel
theorem dX5_copyLine_25 : decode cX5_copyLine 25 = .ok (.istore_n 2, 1) := by decide +kernel
theorem dX5_copyLine_26 : decode cX5_copyLine 26 = .ok (.iload_n 2, 1) := by decide +kernel
theorem dX5_copyLine_27 : decode cX5_copyLine 27 = .ok (.bipush 6, 2) := by decide +kernel
theorem dX5_copyLine_29 : decode cX5_copyLine 29 = .ok (.if_icmp .ge 24, 3) := by decide +kernel
theorem dX5_copyLine_32 : decode cX5_copyLine 32 = .ok (.aload_n 0, 1) := by decide +kernel
theorem dX5_copyLine_33 : decode cX5_copyLine 33 = .ok (.getfield 23, 3) := by decide +kernel
theorem dX5_copyLine_36 : decode cX5_copyLine 36 = .ok (.iload_n 2, 1) := by decide +kernel
theorem dX5_copyLine_37 : decode cX5_copyLine 37 = .ok (.aaload, 1) := by decide +kernel
theorem dX5_copyLine_38 : decode cX5_copyLine 38 = .ok (.aload_n 1, 1) := by decide +kernel
theorem dX5_copyLine_39 : decode cX5_copyLine 39 = .ok (.getfield 23, 3) := by decide +kernel
theorem dX5_copyLine_42 : decode cX5_copyLine 42 = .ok (.iload_n 2, 1) := by decide +kernel
theorem dX5_copyLine_43 : decode cX5_copyLine 43 = .ok (.aaload, 1) := by decide +kernel
theorem dX5_copyLine_44 : decode cX5_copyLine 44 = .ok (.invokevirtual 58, 3) := by decide +kernel
theorem dX5_copyLine_47 : decode cX5_copyLine 47 = .ok (.iinc 2 1, 3) := by decide +kernel
theorem dX5_copyLine_5 : decode cX5_copyLine 5 = .ok (.putfield 9, 3) := by decide +kernel
theorem dX5_copyLine_50 : decode cX5_copyLine 50 = .ok (.goto (-24), 3) := by decide +kernel
theorem dX5_copyLine_53 : decode cX5_copyLine 53 = .ok (.return_, 1) := by decide +kernel
theorem dX5_copyLine_8 : decode cX5_copyLine 8 = .ok (.aload_n 0, 1) := by decide +kernel
theorem dX5_copyLine_9 : decode cX5_copyLine 9 = .ok (.aload_n 1, 1) := by decide +kernel
theorem dX7_copyFrom_0 : decode cX7_copyFrom 0 = .ok (.aload_n 0, 1) := by decide +kernel
theorem dX7_copyFrom_1 : decode cX7_copyFrom 1 = .ok (.aload_n 1, 1) := by decide +kernel
theorem dX7_copyFrom_12 : decode cX7_copyFrom 12 = .ok (.iconst 0, 1) := by decide +kernel
theorem dX7_copyFrom_13 : decode cX7_copyFrom 13 = .ok (.aload_n 0, 1) := by decide +kernel
theorem dX7_copyFrom_14 : decode cX7_copyFrom 14 = .ok (.getfield 23, 3) := by decide +kernel
theorem dX7_copyFrom_17 : decode cX7_copyFrom 17 = .ok (.iconst 0, 1) := by decide +kernel
theorem dX7_copyFrom_18 : decode cX7_copyFrom 18 = .ok (.aload_n 0, 1) := by decide +kernel
theorem dX7_copyFrom_19 : decode cX7_copyFrom 19 = .ok (.getfield 23, 3) := by decide +kernel
theorem dX7_copyFrom_2 : decode cX7_copyFrom 2 = .ok (.getfield 7, 3) := by decide +kernel
theorem dX7_copyFrom_22 : decode cX7_copyFrom 22 = .ok (.arraylength, 1) := by decide +kernel
theorem dX7_copyFrom_23 : decode cX7_copyFrom 23 = .ok (.aload_n 1, 1) := by decide +kernel
theorem dX7_copyFrom_24 : decode cX7_copyFrom 24 = .ok (.getfield 7, 3) := by decide +kernel
theorem dX7_copyFrom_27 : decode cX7_copyFrom 27 = .ok (.iconst 5, 1) := by decide +kernel
theorem dX7_copyFrom_28 : decode cX7_copyFrom 28 = .ok (.imul, 1) := by decide +kernel
theorem dX7_copyFrom_29 : decode cX7_copyFrom 29 = .ok (.invokestatic 27, 3) := by decide +kernel
theorem dX7_copyFrom_32 : decode cX7_copyFrom 32 = .ok (.invokestatic 33, 3) := by decide +kernel
theorem dX7_copyFrom_35 : decode cX7_copyFrom 35 = .ok (.return_, 1) := by decide +kernel
theorem dX7_copyFrom_5 : decode cX7_copyFrom 5 = .ok (.putfield 7, 3) := by decide +kernel
theorem dX7_copyFrom_8 : decode cX7_copyFrom 8 = .ok (.aload_n 1, 1) := by decide +kernel
theorem dX7_copyFrom_9 : decode cX7_copyFrom 9 = .ok (.getfield 23, 3) := by decide +kernel
theorem in_X10_mark_X10 : ∀ w ∈ wsX100, w ∈ wsX10_mark := by decide +kernel
theorem lk_X10_mark_10 : Cond.fieldLink RX10 10 "EggSpoons" "now" "LEggSpoons$Race;" ∈ wsX10_mark := by decide +kernel
theorem in_X10_mark_X5 : ∀ w ∈ wsX50, w ∈ wsX10_mark := by decide +kernel
theorem lk_X10_mark_215 : Cond.fieldLink RX10 215 "EggSpoons$Race" "markRows" "LEggSpoons$Rows;" ∈ wsX10_mark := by decide +kernel
theorem in_X10_mark_X7 : ∀ w ∈ wsX70, w ∈ wsX10_mark := by decide +kernel
theorem lk_X10_mark_194 : Cond.fieldLink RX10 194 "EggSpoons$Rows" "size" "I" ∈ wsX10_mark := by decide +kernel
set_option maxHeartbeats 4000000 in
set_option maxRecDepth 100000 in
/-- mark -/
theorem s_mark (l : Launch) (X : EX) (h0 : Nat) (nw : Nat) (sp : Nat) (xa : Nat → Nat) (la : Int64) (lb : Int64) (an : Nat → Nat) (sv : Nat → Int32) (dv : Nat → Int32) (n0 : Nat) (n1 : Nat) (n2 : Nat) (n3 : Nat) (n4 : Nat) (g0 : Nat → Int32) (gs : Nat → Int32) (gn : Nat → Int32) (gm : Nat → Int32) (fr : Nat → Int32) (x1 : Int32) (x2 : Int32) (x3 : Int32) (hI_n0 : n0 ≤ 6) (hI_n1 : n1 ≤ 8) (hI_n2 : n2 ≤ 5) (hI_n3 : n3 ≤ 6) (hI_n4 : n4 ≤ 6) (sz : Nat) : Met l yX10_mark wsX10_mark ({ frames := 1, cells := 0, slots := 0, locals := 26 } : Room) (pE X [.ref h0, .int x1, .int x2, .int x3] (@HAppend.hAppend va_W va_W va_W _ (xW h0 nw sp xa la lb) (@HAppend.hAppend va_W va_W va_W _ (rcV X nw an sv dv n0 n1 n2 n3 n4 g0 gs gn gm) ([((xa 5), .inl (X.2.1, 3, .inl fr))]))) sz) (qI (fun (r : Int32) (u : (Nat) × (Nat → Int32) × (Nat → Int32)) => u.1 ≤ 6 ∧ ((r, u.1) = appF (thP n0 x1 ∧ ((0 : Int32) ≤ x2 ∧ x2 ≤ 99) ∧ ((0 : Int32) ≤ x3 ∧ x3 ≤ 15)) 6 n4)) X (fun (u : (Nat) × (Nat → Int32) × (Nat → Int32)) => @HAppend.hAppend va_W va_W va_W _ (xW h0 nw sp xa la lb) (@HAppend.hAppend va_W va_W va_W _ (rcV X nw an sv dv n0 n1 n2 n3 u.1 g0 gs gn u.2.1) ([((xa 5), .inl (X.2.1, 3, .inl u.2.2))]))) (@HAppend.hAppend va_W va_W va_W _ (xW h0 nw sp xa la lb) (@HAppend.hAppend va_W va_W va_W _ (rcV X nw an sv dv n0 n1 n2 n3 n4 g0 gs gn gm) ([((xa 5), .inl (X.2.1, 3, .inl fr))]))) sz) 0 0 (va_A (@HAppend.hAppend va_W va_W va_W _ (xW h0 nw sp xa la lb) (@HAppend.hAppend va_W va_W va_W _ (rcV X nw an sv dv n0 n1 n2 n3 n4 g0 gs gn gm) ([((xa 5), .inl (X.2.1, 3, .inl fr))]))) sz) := by
  refine mk_met (B := (va_A (@HAppend.hAppend va_W va_W va_W _ (xW h0 nw sp xa la lb) (@HAppend.hAppend va_W va_W va_W _ (rcV X nw an sv dv n0 n1 n2 n3 n4 g0 gs gn gm) ([((xa 5), .inl (X.2.1, 3, .inl fr))]))) sz)) (A := (va_A (@HAppend.hAppend va_W va_W va_W _ (xW h0 nw sp xa la lb) (@HAppend.hAppend va_W va_W va_W _ (rcV X nw an sv dv n0 n1 n2 n3 n4 g0 gs gn gm) ([((xa 5), .inl (X.2.1, 3, .inl fr))]))) sz)) (cc := cX10_mark) (maxL := 4) (ret := (some .int)) (by decide) rfl (Nat.le_of_ble_eq_true rfl) k_w k_a (fun p e s m below meth c S zr zlk znm zsz G ls hl => ?_)
  have S : CallFix p m c cX10_mark 4 s _ wsX10_mark RX10 := S
  have zx := S.1
  have zb := S.2.1
  have hl : lv_has ls 4 [(0, .ref h0), (1, .int x1), (2, .int x2), (3, .int x3)] := hl
  refine lv_aload_n zx zb dX10_mark_0 rfl (lv_at hl 0 rfl) ?_
  refine lv_iload_n zx zb dX10_mark_1 rfl (lv_at hl 1 rfl) ?_
  refine o_ri (cells' := 0) (slots' := 0) G rfl rfl (n_V (As := [.int x1]) (rest := []) (C := RX10) (T := TX10) (N := 14) (ci := 8) S G (s_there l X h0 nw sp xa la lb an sv dv n0 n1 n2 n3 n4 g0 gs gn gm x1 hI_n0 hI_n1 hI_n2 hI_n3 hI_n4 s.heap.size) gX10_mark_X10_there rfl rfl rfl hdV_X10_there ⟨Nat.le_of_ble_eq_true rfl, Nat.le_of_ble_eq_true rfl⟩ [0, 1, 2, 3, 4, 5, 6, 7, 8, 9, 10, 11, 12, 13, 14, 15, 16] rfl rfl 0 rfl rfl rfl hl.1 (Nat.le_of_ble_eq_true rfl) dX10_mark_2 ⟨Nat.le_of_ble_eq_true rfl, Nat.le_of_ble_eq_true rfl⟩) (fun r_1 u_1 H locs hp_1 G => ?_)
  have G : wd X (va_A (@HAppend.hAppend va_W va_W va_W _ (xW h0 nw sp xa la lb) (@HAppend.hAppend va_W va_W va_W _ (rcV X nw an sv dv n0 n1 n2 n3 n4 g0 gs gn gm) ([((xa 5), .inl (X.2.1, 3, .inl fr))]))) sz) (va_A (@HAppend.hAppend va_W va_W va_W _ (xW h0 nw sp xa la lb) (@HAppend.hAppend va_W va_W va_W _ (rcV X nw an sv dv n0 n1 n2 n3 n4 g0 gs gn gm) ([((xa 5), .inl (X.2.1, 3, .inl fr))]))) sz) s (@HAppend.hAppend va_W va_W va_W _ (xW h0 nw sp xa la lb) (@HAppend.hAppend va_W va_W va_W _ (rcV X nw an sv dv n0 n1 n2 n3 n4 g0 gs gn gm) ([((xa 5), .inl (X.2.1, 3, .inl fr))]))) H locs := G
  rcases hp_1 with ⟨rfl, hj_1⟩ | ⟨rfl, hj_1⟩
  · obtain ⟨j_1, hj_1, rfl⟩ := hj_1
    refine lv_if_eq (tgt := 28) zx zb dX10_mark_5 (by decide) (fun c_2 => absurd c_2 (by decide)) (fun c_2 => ?_)
    refine lv_iload_n zx zb dX10_mark_8 rfl (lv_at hl 2 rfl) ?_
    refine lv_iconst (v := 0) zx zb dX10_mark_9 (by decide) ?_
    refine lv_bipush (v := 99) zx zb dX10_mark_10 (by decide) ?_
    refine o_ri (cells' := 0) (slots' := 0) G rfl rfl (n_S (As := [.int x2, .int 0, .int 99]) (rest := []) S G (s_within l X x2 0 99 H.size) gX10_mark_X10_within rfl rfl rfl hdS_X10_within ⟨Nat.le_of_ble_eq_true rfl, Nat.le_of_ble_eq_true rfl⟩ [] rfl rfl rfl hl.1 (Nat.le_of_ble_eq_true rfl) dX10_mark_12 ⟨Nat.le_of_ble_eq_true rfl, Nat.le_of_ble_eq_true rfl⟩) (fun r_3 u_3 H locs hp_3 G => ?_)
    have G : wd X (va_A (@HAppend.hAppend va_W va_W va_W _ (xW h0 nw sp xa la lb) (@HAppend.hAppend va_W va_W va_W _ (rcV X nw an sv dv n0 n1 n2 n3 n4 g0 gs gn gm) ([((xa 5), .inl (X.2.1, 3, .inl fr))]))) sz) (va_A (@HAppend.hAppend va_W va_W va_W _ (xW h0 nw sp xa la lb) (@HAppend.hAppend va_W va_W va_W _ (rcV X nw an sv dv n0 n1 n2 n3 n4 g0 gs gn gm) ([((xa 5), .inl (X.2.1, 3, .inl fr))]))) sz) s (@HAppend.hAppend va_W va_W va_W _ (xW h0 nw sp xa la lb) (@HAppend.hAppend va_W va_W va_W _ (rcV X nw an sv dv n0 n1 n2 n3 n4 g0 gs gn gm) ([((xa 5), .inl (X.2.1, 3, .inl fr))]))) H locs := G
    rcases hp_3 with ⟨rfl, hw_3⟩ | ⟨rfl, hw_3⟩
    · refine lv_if_eq (tgt := 28) zx zb dX10_mark_15 (by decide) (fun c_4 => absurd c_4 (by decide)) (fun c_4 => ?_)
      refine lv_iload_n zx zb dX10_mark_18 rfl (lv_at hl 3 rfl) ?_
      refine lv_iconst (v := 0) zx zb dX10_mark_19 (by decide) ?_
      refine lv_bipush (v := 15) zx zb dX10_mark_20 (by decide) ?_
      refine o_ri (cells' := 0) (slots' := 0) G rfl rfl (n_S (As := [.int x3, .int 0, .int 15]) (rest := []) S G (s_within l X x3 0 15 H.size) gX10_mark_X10_within rfl rfl rfl hdS_X10_within ⟨Nat.le_of_ble_eq_true rfl, Nat.le_of_ble_eq_true rfl⟩ [] rfl rfl rfl hl.1 (Nat.le_of_ble_eq_true rfl) dX10_mark_22 ⟨Nat.le_of_ble_eq_true rfl, Nat.le_of_ble_eq_true rfl⟩) (fun r_5 u_5 H locs hp_5 G => ?_)
      have G : wd X (va_A (@HAppend.hAppend va_W va_W va_W _ (xW h0 nw sp xa la lb) (@HAppend.hAppend va_W va_W va_W _ (rcV X nw an sv dv n0 n1 n2 n3 n4 g0 gs gn gm) ([((xa 5), .inl (X.2.1, 3, .inl fr))]))) sz) (va_A (@HAppend.hAppend va_W va_W va_W _ (xW h0 nw sp xa la lb) (@HAppend.hAppend va_W va_W va_W _ (rcV X nw an sv dv n0 n1 n2 n3 n4 g0 gs gn gm) ([((xa 5), .inl (X.2.1, 3, .inl fr))]))) sz) s (@HAppend.hAppend va_W va_W va_W _ (xW h0 nw sp xa la lb) (@HAppend.hAppend va_W va_W va_W _ (rcV X nw an sv dv n0 n1 n2 n3 n4 g0 gs gn gm) ([((xa 5), .inl (X.2.1, 3, .inl fr))]))) H locs := G
      rcases hp_5 with ⟨rfl, hw_5⟩ | ⟨rfl, hw_5⟩
      · refine lv_if_ne (tgt := 35) zx zb dX10_mark_25 (by decide) (fun c_6 => ?_) (fun c_6 => absurd c_6 (by decide))
        refine lv_aload_n zx zb dX10_mark_35 rfl (lv_at hl 0 rfl) ?_
        refine r_get (C := RX10) (T := TX10) (N := 14) (ci := 8) (v := .ref nw) S in_X10_mark_X10 G 0 rfl rfl 0 (by decide) lk_X10_mark_10 rfl dX10_mark_36 ?_
        refine r_get (C := RX5) (T := TX5) (N := 8) (ci := 3) (v := .ref (an 13)) S in_X10_mark_X5 G 1 rfl rfl 7 (by decide) lk_X10_mark_215 rfl dX10_mark_39 ?_
        refine lv_iload_n zx zb dX10_mark_42 rfl (lv_at hl 1 rfl) ?_
        refine lv_iconst (v := 0) zx zb dX10_mark_43 (by decide) ?_
        refine lv_iload_n zx zb dX10_mark_44 rfl (lv_at hl 2 rfl) ?_
        refine lv_iconst (v := 0) zx zb dX10_mark_45 (by decide) ?_
        refine lv_iload_n zx zb dX10_mark_46 rfl (lv_at hl 3 rfl) ?_
        refine b_wi (cells' := 0) (slots' := 0) (wr := @HAppend.hAppend va_W va_W va_W _ (xW h0 nw sp xa la lb) (@HAppend.hAppend va_W va_W va_W _ ([(nw, .inr (3, [.int (dv 0), .int (dv 1), .int (nI n0), .ref (an 0), .ref (an 7), .ref (an 9), .ref (an 11), .ref (an 13)])), ((an 0), .inl (X.2.2.2.2, 6, .inr (.inr (.inr (.inr (rowQ an)))))), ((an 1), .inr (6, [.int (sv 0), .int (sv 1), .int (sv 2), .int (dv 10), .int (dv 11), .int (dv 12), .int (dv 13), .int (dv 14)])), ((an 2), .inr (6, [.int (sv 3), .int (sv 4), .int (sv 5), .int (dv 15), .int (dv 16), .int (dv 17), .int (dv 18), .int (dv 19)])), ((an 3), .inr (6, [.int (sv 6), .int (sv 7), .int (sv 8), .int (dv 20), .int (dv 21), .int (dv 22), .int (dv 23), .int (dv 24)])), ((an 4), .inr (6, [.int (sv 9), .int (sv 10), .int (sv 11), .int (dv 25), .int (dv 26), .int (dv 27), .int (dv 28), .int (dv 29)])), ((an 5), .inr (6, [.int (sv 12), .int (sv 13), .int (sv 14), .int (dv 30), .int (dv 31), .int (dv 32), .int (dv 33), .int (dv 34)])), ((an 6), .inr (6, [.int (sv 15), .int (sv 16), .int (sv 17), .int (dv 35), .int (dv 36), .int (dv 37), .int (dv 38), .int (dv 39)])), ((an 7), .inr (2, [.ref (an 8), .int (nI n1)])), ((an 8), .inl (X.2.1, 248, .inl g0)), ((an 9), .inr (5, [.int 5, .int 0, .int 1, .ref (an 10), .int (nI n2)])), ((an 10), .inl (X.2.1, 25, .inl gs)), ((an 11), .inr (5, [.int 6, .int 1, .int 1, .ref (an 12), .int (nI n3)])), ((an 12), .inl (X.2.1, 30, .inl gn))]) ([((xa 5), .inl (X.2.1, 3, .inl fr))]))) G rfl rfl [15, 16] [0, 1, 2, 3, 4, 5, 6, 7, 8, 9, 10, 11, 12, 13, 14, 17] rfl rfl rfl rfl (n_V (As := [.int (nI j_1), .int 0, .int x2, .int 0, .int x3]) (rest := []) (C := RX7) (T := TX7) (N := 5) (ci := 5) S G (s_append2 l X (an 13) (an 14) n4 gm (nI j_1) 0 x2 0 x3 hI_n4 H.size) gX10_mark_X7_append rfl rfl rfl hdV_X7_append ⟨Nat.le_of_ble_eq_true rfl, Nat.le_of_ble_eq_true rfl⟩ [15, 16] rfl rfl 15 rfl rfl rfl hl.1 (Nat.le_of_ble_eq_true rfl) dX10_mark_47 ⟨Nat.le_of_ble_eq_true rfl, Nat.le_of_ble_eq_true rfl⟩) (fun r_7 u_7 H locs hp_7 G => ?_)
        obtain ⟨n_7a, f_7b⟩ := u_7
        try dsimp only at hp_7
        obtain ⟨hI_n_7a, hq_7⟩ := hp_7
        have G : wd X (va_A (@HAppend.hAppend va_W va_W va_W _ (xW h0 nw sp xa la lb) (@HAppend.hAppend va_W va_W va_W _ (rcV X nw an sv dv n0 n1 n2 n3 n4 g0 gs gn gm) ([((xa 5), .inl (X.2.1, 3, .inl fr))]))) sz) (va_A (@HAppend.hAppend va_W va_W va_W _ (xW h0 nw sp xa la lb) (@HAppend.hAppend va_W va_W va_W _ (rcV X nw an sv dv n0 n1 n2 n3 n4 g0 gs gn gm) ([((xa 5), .inl (X.2.1, 3, .inl fr))]))) sz) s (@HAppend.hAppend va_W va_W va_W _ (xW h0 nw sp xa la lb) (@HAppend.hAppend va_W va_W va_W _ (rcV X nw an sv dv n0 n1 n2 n3 n_7a g0 gs gn f_7b) ([((xa 5), .inl (X.2.1, 3, .inl fr))]))) H locs := wd_sub G [0, 1, 2, 3, 4, 5, 6, 7, 8, 9, 10, 11, 12, 13, 14, 16, 17, 15] rfl rfl
        rcases hq_7 with ⟨rfl, ha_7, hn_7⟩ | ⟨rfl, ha_7, hn_7⟩
        · refine lv_if_eq (tgt := 66) zx zb dX10_mark_50 (by decide) (fun c_8 => ?_) (fun c_8 => absurd (by decide) c_8)
          refine lv_aload_n zx zb dX10_mark_66 rfl (lv_at hl 0 rfl) ?_
          refine lv_bipush (v := (-4)) zx zb dX10_mark_67 (by decide) ?_
          refine b_wi (cells' := 0) (slots' := 0) (wr := rcV X nw an sv dv n0 n1 n2 n3 n_7a g0 gs gn f_7b) G rfl rfl [0, 17] [1, 2, 3, 4, 5, 6, 7, 8, 9, 10, 11, 12, 13, 14, 15, 16] rfl rfl rfl rfl (n_V (As := [.int (-4)]) (rest := []) (C := RX10) (T := TX10) (N := 14) (ci := 8) S G (s_refuse l X h0 nw sp xa la lb fr (-4) H.size) gX10_mark_X10_refuse rfl rfl rfl hdV_X10_refuse ⟨Nat.le_of_ble_eq_true rfl, Nat.le_of_ble_eq_true rfl⟩ [0, 17] rfl rfl 0 rfl rfl rfl hl.1 (Nat.le_of_ble_eq_true rfl) dX10_mark_69 ⟨Nat.le_of_ble_eq_true rfl, Nat.le_of_ble_eq_true rfl⟩) (fun r_9 u_9 H locs hp_9 G => ?_)
          obtain ⟨f_9, rfl⟩ : ∃ z, z = u_9 := ⟨_, rfl⟩
          have hq_9 := hp_9
          have G : wd X (va_A (@HAppend.hAppend va_W va_W va_W _ (xW h0 nw sp xa la lb) (@HAppend.hAppend va_W va_W va_W _ (rcV X nw an sv dv n0 n1 n2 n3 n4 g0 gs gn gm) ([((xa 5), .inl (X.2.1, 3, .inl fr))]))) sz) (va_A (@HAppend.hAppend va_W va_W va_W _ (xW h0 nw sp xa la lb) (@HAppend.hAppend va_W va_W va_W _ (rcV X nw an sv dv n0 n1 n2 n3 n4 g0 gs gn gm) ([((xa 5), .inl (X.2.1, 3, .inl fr))]))) sz) s (@HAppend.hAppend va_W va_W va_W _ (rcV X nw an sv dv n0 n1 n2 n3 n_7a g0 gs gn f_7b) (@HAppend.hAppend va_W va_W va_W _ (xW h0 nw sp xa la lb) ([((xa 5), .inl (X.2.1, 3, .inl f_9))]))) H locs := G
          have hzF : (r_9, n_7a) = appF (thP n0 (nI j_1) ∧ ((0 : Int32) ≤ x2 ∧ x2 ≤ 99) ∧ ((0 : Int32) ≤ x3 ∧ x3 ≤ 15)) 6 n4 := by rw [appF_f ⟨⟨_, hj_1, rfl⟩, hw_3, hw_5⟩ (by omega), hq_9, show n_7a = n4 from by omega]
          exact e_int S zr zlk (vp_nar_int _) G (n_7a, f_7b, f_9) [16, 0, 1, 2, 3, 4, 5, 6, 7, 8, 9, 10, 11, 12, 13, 14, 15, 17] rfl rfl (Or.inr rfl) (⟨hI_n_7a, hzF⟩) dX10_mark_72
        · refine lv_if_eq (tgt := 66) zx zb dX10_mark_50 (by decide) (fun c_10 => absurd c_10 (by decide)) (fun c_10 => ?_)
          refine lv_aload_n zx zb dX10_mark_53 rfl (lv_at hl 0 rfl) ?_
          refine r_get (C := RX10) (T := TX10) (N := 14) (ci := 8) (v := .ref nw) S in_X10_mark_X10 G 0 rfl rfl 0 (by decide) lk_X10_mark_10 rfl dX10_mark_54 ?_
          refine r_get (C := RX5) (T := TX5) (N := 8) (ci := 3) (v := .ref (an 13)) S in_X10_mark_X5 G 1 rfl rfl 7 (by decide) lk_X10_mark_215 rfl dX10_mark_57 ?_
          refine r_get (C := RX7) (T := TX7) (N := 5) (ci := 5) (v := .int (nI n_7a)) S in_X10_mark_X7 G 15 rfl rfl 4 (by decide) lk_X10_mark_194 rfl dX10_mark_60 ?_
          refine lv_goto (tgt := 72) zx zb dX10_mark_63 (by decide) ?_
          have hzF : ((nI n_7a), n_7a) = appF (thP n0 (nI j_1) ∧ ((0 : Int32) ≤ x2 ∧ x2 ≤ 99) ∧ ((0 : Int32) ≤ x3 ∧ x3 ≤ 15)) 6 n4 := by rw [appF_p ⟨⟨_, hj_1, rfl⟩, hw_3, hw_5⟩ (by omega), show n_7a = n4 + 1 from by omega]
          exact e_int S zr zlk (vp_nar_int _) G (n_7a, f_7b, fr) [0, 1, 2, 3, 4, 5, 6, 7, 8, 9, 10, 11, 12, 13, 14, 15, 16, 17] rfl rfl (Or.inr rfl) (⟨hI_n_7a, hzF⟩) dX10_mark_72
      · refine lv_if_ne (tgt := 35) zx zb dX10_mark_25 (by decide) (fun c_11 => absurd (by decide) c_11) (fun c_11 => ?_)
        refine lv_aload_n zx zb dX10_mark_28 rfl (lv_at hl 0 rfl) ?_
        refine lv_bipush (v := (-2)) zx zb dX10_mark_29 (by decide) ?_
        refine b_wi (cells' := 0) (slots' := 0) (wr := rcV X nw an sv dv n0 n1 n2 n3 n4 g0 gs gn gm) G rfl rfl [0, 17] [1, 2, 3, 4, 5, 6, 7, 8, 9, 10, 11, 12, 13, 14, 15, 16] rfl rfl rfl rfl (n_V (As := [.int (-2)]) (rest := []) (C := RX10) (T := TX10) (N := 14) (ci := 8) S G (s_refuse l X h0 nw sp xa la lb fr (-2) H.size) gX10_mark_X10_refuse rfl rfl rfl hdV_X10_refuse ⟨Nat.le_of_ble_eq_true rfl, Nat.le_of_ble_eq_true rfl⟩ [0, 17] rfl rfl 0 rfl rfl rfl hl.1 (Nat.le_of_ble_eq_true rfl) dX10_mark_31 ⟨Nat.le_of_ble_eq_true rfl, Nat.le_of_ble_eq_true rfl⟩) (fun r_12 u_12 H locs hp_12 G => ?_)
        obtain ⟨f_12, rfl⟩ : ∃ z, z = u_12 := ⟨_, rfl⟩
        have hq_12 := hp_12
        have G : wd X (va_A (@HAppend.hAppend va_W va_W va_W _ (xW h0 nw sp xa la lb) (@HAppend.hAppend va_W va_W va_W _ (rcV X nw an sv dv n0 n1 n2 n3 n4 g0 gs gn gm) ([((xa 5), .inl (X.2.1, 3, .inl fr))]))) sz) (va_A (@HAppend.hAppend va_W va_W va_W _ (xW h0 nw sp xa la lb) (@HAppend.hAppend va_W va_W va_W _ (rcV X nw an sv dv n0 n1 n2 n3 n4 g0 gs gn gm) ([((xa 5), .inl (X.2.1, 3, .inl fr))]))) sz) s (@HAppend.hAppend va_W va_W va_W _ (rcV X nw an sv dv n0 n1 n2 n3 n4 g0 gs gn gm) (@HAppend.hAppend va_W va_W va_W _ (xW h0 nw sp xa la lb) ([((xa 5), .inl (X.2.1, 3, .inl f_12))]))) H locs := G
        have hzF : (r_12, n4) = appF (thP n0 (nI j_1) ∧ ((0 : Int32) ≤ x2 ∧ x2 ≤ 99) ∧ ((0 : Int32) ≤ x3 ∧ x3 ≤ 15)) 6 n4 := by rw [appF_n (fun h => hw_5 h.2.2), hq_12]
        exact e_int S zr zlk (vp_nar_int _) G (n4, gm, f_12) [16, 0, 1, 2, 3, 4, 5, 6, 7, 8, 9, 10, 11, 12, 13, 14, 15, 17] rfl rfl (Or.inr rfl) (⟨hI_n4, hzF⟩) dX10_mark_34
    · refine lv_if_eq (tgt := 28) zx zb dX10_mark_15 (by decide) (fun c_13 => ?_) (fun c_13 => absurd (by decide) c_13)
      refine lv_aload_n zx zb dX10_mark_28 rfl (lv_at hl 0 rfl) ?_
      refine lv_bipush (v := (-2)) zx zb dX10_mark_29 (by decide) ?_
      refine b_wi (cells' := 0) (slots' := 0) (wr := rcV X nw an sv dv n0 n1 n2 n3 n4 g0 gs gn gm) G rfl rfl [0, 17] [1, 2, 3, 4, 5, 6, 7, 8, 9, 10, 11, 12, 13, 14, 15, 16] rfl rfl rfl rfl (n_V (As := [.int (-2)]) (rest := []) (C := RX10) (T := TX10) (N := 14) (ci := 8) S G (s_refuse l X h0 nw sp xa la lb fr (-2) H.size) gX10_mark_X10_refuse rfl rfl rfl hdV_X10_refuse ⟨Nat.le_of_ble_eq_true rfl, Nat.le_of_ble_eq_true rfl⟩ [0, 17] rfl rfl 0 rfl rfl rfl hl.1 (Nat.le_of_ble_eq_true rfl) dX10_mark_31 ⟨Nat.le_of_ble_eq_true rfl, Nat.le_of_ble_eq_true rfl⟩) (fun r_14 u_14 H locs hp_14 G => ?_)
      obtain ⟨f_14, rfl⟩ : ∃ z, z = u_14 := ⟨_, rfl⟩
      have hq_14 := hp_14
      have G : wd X (va_A (@HAppend.hAppend va_W va_W va_W _ (xW h0 nw sp xa la lb) (@HAppend.hAppend va_W va_W va_W _ (rcV X nw an sv dv n0 n1 n2 n3 n4 g0 gs gn gm) ([((xa 5), .inl (X.2.1, 3, .inl fr))]))) sz) (va_A (@HAppend.hAppend va_W va_W va_W _ (xW h0 nw sp xa la lb) (@HAppend.hAppend va_W va_W va_W _ (rcV X nw an sv dv n0 n1 n2 n3 n4 g0 gs gn gm) ([((xa 5), .inl (X.2.1, 3, .inl fr))]))) sz) s (@HAppend.hAppend va_W va_W va_W _ (rcV X nw an sv dv n0 n1 n2 n3 n4 g0 gs gn gm) (@HAppend.hAppend va_W va_W va_W _ (xW h0 nw sp xa la lb) ([((xa 5), .inl (X.2.1, 3, .inl f_14))]))) H locs := G
      have hzF : (r_14, n4) = appF (thP n0 (nI j_1) ∧ ((0 : Int32) ≤ x2 ∧ x2 ≤ 99) ∧ ((0 : Int32) ≤ x3 ∧ x3 ≤ 15)) 6 n4 := by rw [appF_n (fun h => hw_3 h.2.1), hq_14]
      exact e_int S zr zlk (vp_nar_int _) G (n4, gm, f_14) [16, 0, 1, 2, 3, 4, 5, 6, 7, 8, 9, 10, 11, 12, 13, 14, 15, 17] rfl rfl (Or.inr rfl) (⟨hI_n4, hzF⟩) dX10_mark_34
  · refine lv_if_eq (tgt := 28) zx zb dX10_mark_5 (by decide) (fun c_15 => ?_) (fun c_15 => absurd (by decide) c_15)
    refine lv_aload_n zx zb dX10_mark_28 rfl (lv_at hl 0 rfl) ?_
    refine lv_bipush (v := (-2)) zx zb dX10_mark_29 (by decide) ?_
    refine b_wi (cells' := 0) (slots' := 0) (wr := rcV X nw an sv dv n0 n1 n2 n3 n4 g0 gs gn gm) G rfl rfl [0, 17] [1, 2, 3, 4, 5, 6, 7, 8, 9, 10, 11, 12, 13, 14, 15, 16] rfl rfl rfl rfl (n_V (As := [.int (-2)]) (rest := []) (C := RX10) (T := TX10) (N := 14) (ci := 8) S G (s_refuse l X h0 nw sp xa la lb fr (-2) H.size) gX10_mark_X10_refuse rfl rfl rfl hdV_X10_refuse ⟨Nat.le_of_ble_eq_true rfl, Nat.le_of_ble_eq_true rfl⟩ [0, 17] rfl rfl 0 rfl rfl rfl hl.1 (Nat.le_of_ble_eq_true rfl) dX10_mark_31 ⟨Nat.le_of_ble_eq_true rfl, Nat.le_of_ble_eq_true rfl⟩) (fun r_16 u_16 H locs hp_16 G => ?_)
    obtain ⟨f_16, rfl⟩ : ∃ z, z = u_16 := ⟨_, rfl⟩
    have hq_16 := hp_16
    have G : wd X (va_A (@HAppend.hAppend va_W va_W va_W _ (xW h0 nw sp xa la lb) (@HAppend.hAppend va_W va_W va_W _ (rcV X nw an sv dv n0 n1 n2 n3 n4 g0 gs gn gm) ([((xa 5), .inl (X.2.1, 3, .inl fr))]))) sz) (va_A (@HAppend.hAppend va_W va_W va_W _ (xW h0 nw sp xa la lb) (@HAppend.hAppend va_W va_W va_W _ (rcV X nw an sv dv n0 n1 n2 n3 n4 g0 gs gn gm) ([((xa 5), .inl (X.2.1, 3, .inl fr))]))) sz) s (@HAppend.hAppend va_W va_W va_W _ (rcV X nw an sv dv n0 n1 n2 n3 n4 g0 gs gn gm) (@HAppend.hAppend va_W va_W va_W _ (xW h0 nw sp xa la lb) ([((xa 5), .inl (X.2.1, 3, .inl f_16))]))) H locs := G
    have hzF : (r_16, n4) = appF (thP n0 x1 ∧ ((0 : Int32) ≤ x2 ∧ x2 ≤ 99) ∧ ((0 : Int32) ≤ x3 ∧ x3 ≤ 15)) 6 n4 := by rw [appF_n (fun h => hj_1 h.1), hq_16]
    exact e_int S zr zlk (vp_nar_int _) G (n4, gm, f_16) [16, 0, 1, 2, 3, 4, 5, 6, 7, 8, 9, 10, 11, 12, 13, 14, 15, 17] rfl rfl (Or.inr rfl) (⟨hI_n4, hzF⟩) dX10_mark_34
theorem in_X10_forget_X10 : ∀ w ∈ wsX100, w ∈ wsX10_forget := by decide +kernel
theorem lk_X10_forget_10 : Cond.fieldLink RX10 10 "EggSpoons" "now" "LEggSpoons$Race;" ∈ wsX10_forget := by decide +kernel
theorem in_X10_forget_X5 : ∀ w ∈ wsX50, w ∈ wsX10_forget := by decide +kernel
theorem lk_X10_forget_215 : Cond.fieldLink RX10 215 "EggSpoons$Race" "markRows" "LEggSpoons$Rows;" ∈ wsX10_forget := by decide +kernel
theorem in_X10_forget_X7 : ∀ w ∈ wsX70, w ∈ wsX10_forget := by decide +kernel
theorem lk_X10_forget_194 : Cond.fieldLink RX10 194 "EggSpoons$Rows" "size" "I" ∈ wsX10_forget := by decide +kernel
theorem lk_X10_forget_212 : Cond.fieldLink RX10 212 "EggSpoons$Race" "noteRows" "LEggSpoons$Rows;" ∈ wsX10_forget := by decide +kernel
theorem lk_X10_forget_185 : Cond.fieldLink RX10 185 "EggSpoons$Race" "seenRows" "LEggSpoons$Rows;" ∈ wsX10_forget := by decide +kernel
set_option maxHeartbeats 4000000 in
set_option maxRecDepth 100000 in
/-- forget -/
theorem s_forget (l : Launch) (X : EX) (h0 : Nat) (nw : Nat) (sp : Nat) (xa : Nat → Nat) (la : Int64) (lb : Int64) (an : Nat → Nat) (sv : Nat → Int32) (dv : Nat → Int32) (n0 : Nat) (n1 : Nat) (n2 : Nat) (n3 : Nat) (n4 : Nat) (g0 : Nat → Int32) (gs : Nat → Int32) (gn : Nat → Int32) (gm : Nat → Int32) (fr : Nat → Int32) (x1 : Int32) (hI_n0 : n0 ≤ 6) (hI_n1 : n1 ≤ 8) (hI_n2 : n2 ≤ 5) (hI_n3 : n3 ≤ 6) (hI_n4 : n4 ≤ 6) (sz : Nat) : Met l yX10_forget wsX10_forget ({ frames := 1, cells := 0, slots := 0, locals := 22 } : Room) (pE X [.ref h0, .int x1] (@HAppend.hAppend va_W va_W va_W _ (xW h0 nw sp xa la lb) (@HAppend.hAppend va_W va_W va_W _ (rcV X nw an sv dv n0 n1 n2 n3 n4 g0 gs gn gm) ([((xa 5), .inl (X.2.1, 3, .inl fr))]))) sz) (qI (fun (r : Int32) (u : (Nat) × (Nat) × (Nat) × (Nat → Int32)) => u.1 ≤ 5 ∧ u.2.1 ≤ 6 ∧ u.2.2.1 ≤ 6 ∧ ((r, (u.1, u.2.1, u.2.2.1)) = forF x1 n2 n3 n4)) X (fun (u : (Nat) × (Nat) × (Nat) × (Nat → Int32)) => @HAppend.hAppend va_W va_W va_W _ (xW h0 nw sp xa la lb) (@HAppend.hAppend va_W va_W va_W _ (rcV X nw an sv dv n0 n1 u.1 u.2.1 u.2.2.1 g0 gs gn gm) ([((xa 5), .inl (X.2.1, 3, .inl u.2.2.2))]))) (@HAppend.hAppend va_W va_W va_W _ (xW h0 nw sp xa la lb) (@HAppend.hAppend va_W va_W va_W _ (rcV X nw an sv dv n0 n1 n2 n3 n4 g0 gs gn gm) ([((xa 5), .inl (X.2.1, 3, .inl fr))]))) sz) 0 0 (va_A (@HAppend.hAppend va_W va_W va_W _ (xW h0 nw sp xa la lb) (@HAppend.hAppend va_W va_W va_W _ (rcV X nw an sv dv n0 n1 n2 n3 n4 g0 gs gn gm) ([((xa 5), .inl (X.2.1, 3, .inl fr))]))) sz) := by
  refine mk_met (B := (va_A (@HAppend.hAppend va_W va_W va_W _ (xW h0 nw sp xa la lb) (@HAppend.hAppend va_W va_W va_W _ (rcV X nw an sv dv n0 n1 n2 n3 n4 g0 gs gn gm) ([((xa 5), .inl (X.2.1, 3, .inl fr))]))) sz)) (A := (va_A (@HAppend.hAppend va_W va_W va_W _ (xW h0 nw sp xa la lb) (@HAppend.hAppend va_W va_W va_W _ (rcV X nw an sv dv n0 n1 n2 n3 n4 g0 gs gn gm) ([((xa 5), .inl (X.2.1, 3, .inl fr))]))) sz)) (cc := cX10_forget) (maxL := 4) (ret := (some .int)) (by decide) rfl (Nat.le_of_ble_eq_true rfl) k_w k_a (fun p e s m below meth c S zr zlk znm zsz G ls hl => ?_)
  have S : CallFix p m c cX10_forget 4 s _ wsX10_forget RX10 := S
  have zx := S.1
  have zb := S.2.1
  have hl : lv_has ls 4 [(0, .ref h0), (1, .int x1)] := hl
  refine lv_iload_n zx zb dX10_forget_0 rfl (lv_at hl 1 rfl) ?_
  refine lv_iconst (v := 0) zx zb dX10_forget_1 (by decide) ?_
  refine lv_iconst (v := 2) zx zb dX10_forget_2 (by decide) ?_
  refine o_ri (cells' := 0) (slots' := 0) G rfl rfl (n_S (As := [.int x1, .int 0, .int 2]) (rest := []) S G (s_within l X x1 0 2 s.heap.size) gX10_forget_X10_within rfl rfl rfl hdS_X10_within ⟨Nat.le_of_ble_eq_true rfl, Nat.le_of_ble_eq_true rfl⟩ [] rfl rfl rfl hl.1 (Nat.le_of_ble_eq_true rfl) dX10_forget_3 ⟨Nat.le_of_ble_eq_true rfl, Nat.le_of_ble_eq_true rfl⟩) (fun r_1 u_1 H locs hp_1 G => ?_)
  have G : wd X (va_A (@HAppend.hAppend va_W va_W va_W _ (xW h0 nw sp xa la lb) (@HAppend.hAppend va_W va_W va_W _ (rcV X nw an sv dv n0 n1 n2 n3 n4 g0 gs gn gm) ([((xa 5), .inl (X.2.1, 3, .inl fr))]))) sz) (va_A (@HAppend.hAppend va_W va_W va_W _ (xW h0 nw sp xa la lb) (@HAppend.hAppend va_W va_W va_W _ (rcV X nw an sv dv n0 n1 n2 n3 n4 g0 gs gn gm) ([((xa 5), .inl (X.2.1, 3, .inl fr))]))) sz) s (@HAppend.hAppend va_W va_W va_W _ (xW h0 nw sp xa la lb) (@HAppend.hAppend va_W va_W va_W _ (rcV X nw an sv dv n0 n1 n2 n3 n4 g0 gs gn gm) ([((xa 5), .inl (X.2.1, 3, .inl fr))]))) H locs := G
  rcases hp_1 with ⟨rfl, hw_1⟩ | ⟨rfl, hw_1⟩
  · refine lv_if_ne (tgt := 16) zx zb dX10_forget_6 (by decide) (fun c_2 => ?_) (fun c_2 => absurd c_2 (by decide))
    refine lv_iload_n zx zb dX10_forget_16 rfl (lv_at hl 1 rfl) ?_
    refine lv_if_ne (tgt := 30) zx zb dX10_forget_17 (by decide) (fun c_3 => ?_) (fun c_3 => ?_)
    · refine lv_iload_n zx zb dX10_forget_30 rfl (lv_at hl 1 rfl) ?_
      refine lv_iconst (v := 1) zx zb dX10_forget_31 (by decide) ?_
      refine lv_icmp_ne (tgt := 45) zx zb dX10_forget_32 (by decide) (fun c_4 => ?_) (fun c_4 => ?_)
      · refine lv_aload_n zx zb dX10_forget_45 rfl (lv_at hl 0 rfl) ?_
        refine r_get (C := RX10) (T := TX10) (N := 14) (ci := 8) (v := .ref nw) S in_X10_forget_X10 G 0 rfl rfl 0 (by decide) lk_X10_forget_10 rfl dX10_forget_46 ?_
        refine r_get (C := RX5) (T := TX5) (N := 8) (ci := 3) (v := .ref (an 13)) S in_X10_forget_X5 G 1 rfl rfl 7 (by decide) lk_X10_forget_215 rfl dX10_forget_49 ?_
        refine lv_astore_n (lv' := [(2, .ref (an 13)), (0, .ref h0), (1, .int x1)]) zx zb dX10_forget_52 rfl hl (by decide) rfl (fun ls hl => ?_)
        refine lv_aload_n zx zb dX10_forget_53 rfl (lv_at hl 0 rfl) ?_
        refine r_get (C := RX7) (T := TX7) (N := 5) (ci := 5) (v := .int (nI n4)) S in_X10_forget_X7 G 15 rfl rfl 4 (by decide) lk_X10_forget_194 rfl dX10_forget_54 ?_
        refine lv_istore_n (lv' := [(3, .int (nI n4)), (2, .ref (an 13)), (0, .ref h0), (1, .int x1)]) zx zb dX10_forget_57 rfl hl (by decide) rfl (fun ls hl => ?_)
        refine lv_aload_n zx zb dX10_forget_58 rfl (lv_at hl 1 rfl) ?_
        refine lv_iconst (v := 0) zx zb dX10_forget_59 (by decide) ?_
        refine r_put (C := RX7) (T := TX7) (N := 5) (ci := 5) (v := .int 0) S in_X10_forget_X7 tyX7_ok nmX7 G 15 rfl rfl 4 (by decide) lk_X10_forget_194 rfl (vp_nar_int _) rfl (Nat.le_of_ble_eq_true rfl) dX10_forget_60 (fun H locs G => ?_)
        obtain ⟨n_5, hI_n_5, hE_n_5, G⟩ : ∃ n_5 : Nat, n_5 ≤ 6 ∧ n_5 = 0 ∧ wd X (va_A (@HAppend.hAppend va_W va_W va_W _ (xW h0 nw sp xa la lb) (@HAppend.hAppend va_W va_W va_W _ (rcV X nw an sv dv n0 n1 n2 n3 n4 g0 gs gn gm) ([((xa 5), .inl (X.2.1, 3, .inl fr))]))) sz) (va_A (@HAppend.hAppend va_W va_W va_W _ (xW h0 nw sp xa la lb) (@HAppend.hAppend va_W va_W va_W _ (rcV X nw an sv dv n0 n1 n2 n3 n4 g0 gs gn gm) ([((xa 5), .inl (X.2.1, 3, .inl fr))]))) sz) s (@HAppend.hAppend va_W va_W va_W _ (xW h0 nw sp xa la lb) (@HAppend.hAppend va_W va_W va_W _ (rcV X nw an sv dv n0 n1 n2 n3 n_5 g0 gs gn gm) ([((xa 5), .inl (X.2.1, 3, .inl fr))]))) H locs := ⟨0, by omega, rfl, G⟩
        refine lv_iload_n zx zb dX10_forget_63 rfl (lv_at hl 0 rfl) ?_
        have hzF : ((nI n4), (n2, n3, n_5)) = forF x1 n2 n3 n4 := by rw [forF_2 (k_is2 hw_1 c_3 c_4), hE_n_5]
        exact e_int S zr zlk (vp_nar_int _) G (n2, n3, n_5, fr) [0, 1, 2, 3, 4, 5, 6, 7, 8, 9, 10, 11, 12, 13, 14, 15, 16, 17] rfl rfl (Or.inr rfl) (⟨hI_n2, hI_n3, hI_n_5, hzF⟩) dX10_forget_64
      · refine lv_aload_n zx zb dX10_forget_35 rfl (lv_at hl 0 rfl) ?_
        refine r_get (C := RX10) (T := TX10) (N := 14) (ci := 8) (v := .ref nw) S in_X10_forget_X10 G 0 rfl rfl 0 (by decide) lk_X10_forget_10 rfl dX10_forget_36 ?_
        refine r_get (C := RX5) (T := TX5) (N := 8) (ci := 3) (v := .ref (an 11)) S in_X10_forget_X5 G 1 rfl rfl 6 (by decide) lk_X10_forget_212 rfl dX10_forget_39 ?_
        refine lv_goto (tgt := 52) zx zb dX10_forget_42 (by decide) ?_
        refine lv_astore_n (lv' := [(2, .ref (an 11)), (0, .ref h0), (1, .int x1)]) zx zb dX10_forget_52 rfl hl (by decide) rfl (fun ls hl => ?_)
        refine lv_aload_n zx zb dX10_forget_53 rfl (lv_at hl 0 rfl) ?_
        refine r_get (C := RX7) (T := TX7) (N := 5) (ci := 5) (v := .int (nI n3)) S in_X10_forget_X7 G 13 rfl rfl 4 (by decide) lk_X10_forget_194 rfl dX10_forget_54 ?_
        refine lv_istore_n (lv' := [(3, .int (nI n3)), (2, .ref (an 11)), (0, .ref h0), (1, .int x1)]) zx zb dX10_forget_57 rfl hl (by decide) rfl (fun ls hl => ?_)
        refine lv_aload_n zx zb dX10_forget_58 rfl (lv_at hl 1 rfl) ?_
        refine lv_iconst (v := 0) zx zb dX10_forget_59 (by decide) ?_
        refine r_put (C := RX7) (T := TX7) (N := 5) (ci := 5) (v := .int 0) S in_X10_forget_X7 tyX7_ok nmX7 G 13 rfl rfl 4 (by decide) lk_X10_forget_194 rfl (vp_nar_int _) rfl (Nat.le_of_ble_eq_true rfl) dX10_forget_60 (fun H locs G => ?_)
        obtain ⟨n_6, hI_n_6, hE_n_6, G⟩ : ∃ n_6 : Nat, n_6 ≤ 6 ∧ n_6 = 0 ∧ wd X (va_A (@HAppend.hAppend va_W va_W va_W _ (xW h0 nw sp xa la lb) (@HAppend.hAppend va_W va_W va_W _ (rcV X nw an sv dv n0 n1 n2 n3 n4 g0 gs gn gm) ([((xa 5), .inl (X.2.1, 3, .inl fr))]))) sz) (va_A (@HAppend.hAppend va_W va_W va_W _ (xW h0 nw sp xa la lb) (@HAppend.hAppend va_W va_W va_W _ (rcV X nw an sv dv n0 n1 n2 n3 n4 g0 gs gn gm) ([((xa 5), .inl (X.2.1, 3, .inl fr))]))) sz) s (@HAppend.hAppend va_W va_W va_W _ (xW h0 nw sp xa la lb) (@HAppend.hAppend va_W va_W va_W _ (rcV X nw an sv dv n0 n1 n2 n_6 n4 g0 gs gn gm) ([((xa 5), .inl (X.2.1, 3, .inl fr))]))) H locs := ⟨0, by omega, rfl, G⟩
        refine lv_iload_n zx zb dX10_forget_63 rfl (lv_at hl 0 rfl) ?_
        have hzF : ((nI n3), (n2, n_6, n4)) = forF x1 n2 n3 n4 := by rw [forF_1 c_4, hE_n_6]
        exact e_int S zr zlk (vp_nar_int _) G (n2, n_6, n4, fr) [0, 1, 2, 3, 4, 5, 6, 7, 8, 9, 10, 11, 12, 13, 14, 15, 16, 17] rfl rfl (Or.inr rfl) (⟨hI_n2, hI_n_6, hI_n4, hzF⟩) dX10_forget_64
    · refine lv_aload_n zx zb dX10_forget_20 rfl (lv_at hl 0 rfl) ?_
      refine r_get (C := RX10) (T := TX10) (N := 14) (ci := 8) (v := .ref nw) S in_X10_forget_X10 G 0 rfl rfl 0 (by decide) lk_X10_forget_10 rfl dX10_forget_21 ?_
      refine r_get (C := RX5) (T := TX5) (N := 8) (ci := 3) (v := .ref (an 9)) S in_X10_forget_X5 G 1 rfl rfl 5 (by decide) lk_X10_forget_185 rfl dX10_forget_24 ?_
      refine lv_goto (tgt := 52) zx zb dX10_forget_27 (by decide) ?_
      refine lv_astore_n (lv' := [(2, .ref (an 9)), (0, .ref h0), (1, .int x1)]) zx zb dX10_forget_52 rfl hl (by decide) rfl (fun ls hl => ?_)
      refine lv_aload_n zx zb dX10_forget_53 rfl (lv_at hl 0 rfl) ?_
      refine r_get (C := RX7) (T := TX7) (N := 5) (ci := 5) (v := .int (nI n2)) S in_X10_forget_X7 G 11 rfl rfl 4 (by decide) lk_X10_forget_194 rfl dX10_forget_54 ?_
      refine lv_istore_n (lv' := [(3, .int (nI n2)), (2, .ref (an 9)), (0, .ref h0), (1, .int x1)]) zx zb dX10_forget_57 rfl hl (by decide) rfl (fun ls hl => ?_)
      refine lv_aload_n zx zb dX10_forget_58 rfl (lv_at hl 1 rfl) ?_
      refine lv_iconst (v := 0) zx zb dX10_forget_59 (by decide) ?_
      refine r_put (C := RX7) (T := TX7) (N := 5) (ci := 5) (v := .int 0) S in_X10_forget_X7 tyX7_ok nmX7 G 11 rfl rfl 4 (by decide) lk_X10_forget_194 rfl (vp_nar_int _) rfl (Nat.le_of_ble_eq_true rfl) dX10_forget_60 (fun H locs G => ?_)
      obtain ⟨n_7, hI_n_7, hE_n_7, G⟩ : ∃ n_7 : Nat, n_7 ≤ 5 ∧ n_7 = 0 ∧ wd X (va_A (@HAppend.hAppend va_W va_W va_W _ (xW h0 nw sp xa la lb) (@HAppend.hAppend va_W va_W va_W _ (rcV X nw an sv dv n0 n1 n2 n3 n4 g0 gs gn gm) ([((xa 5), .inl (X.2.1, 3, .inl fr))]))) sz) (va_A (@HAppend.hAppend va_W va_W va_W _ (xW h0 nw sp xa la lb) (@HAppend.hAppend va_W va_W va_W _ (rcV X nw an sv dv n0 n1 n2 n3 n4 g0 gs gn gm) ([((xa 5), .inl (X.2.1, 3, .inl fr))]))) sz) s (@HAppend.hAppend va_W va_W va_W _ (xW h0 nw sp xa la lb) (@HAppend.hAppend va_W va_W va_W _ (rcV X nw an sv dv n0 n1 n_7 n3 n4 g0 gs gn gm) ([((xa 5), .inl (X.2.1, 3, .inl fr))]))) H locs := ⟨0, by omega, rfl, G⟩
      refine lv_iload_n zx zb dX10_forget_63 rfl (lv_at hl 0 rfl) ?_
      have hzF : ((nI n2), (n_7, n3, n4)) = forF x1 n2 n3 n4 := by rw [forF_0 c_3, hE_n_7]
      exact e_int S zr zlk (vp_nar_int _) G (n_7, n3, n4, fr) [0, 1, 2, 3, 4, 5, 6, 7, 8, 9, 10, 11, 12, 13, 14, 15, 16, 17] rfl rfl (Or.inr rfl) (⟨hI_n_7, hI_n3, hI_n4, hzF⟩) dX10_forget_64
  · refine lv_if_ne (tgt := 16) zx zb dX10_forget_6 (by decide) (fun c_8 => absurd (by decide) c_8) (fun c_8 => ?_)
    refine lv_aload_n zx zb dX10_forget_9 rfl (lv_at hl 0 rfl) ?_
    refine lv_bipush (v := (-2)) zx zb dX10_forget_10 (by decide) ?_
    refine b_wi (cells' := 0) (slots' := 0) (wr := rcV X nw an sv dv n0 n1 n2 n3 n4 g0 gs gn gm) G rfl rfl [0, 17] [1, 2, 3, 4, 5, 6, 7, 8, 9, 10, 11, 12, 13, 14, 15, 16] rfl rfl rfl rfl (n_V (As := [.int (-2)]) (rest := []) (C := RX10) (T := TX10) (N := 14) (ci := 8) S G (s_refuse l X h0 nw sp xa la lb fr (-2) H.size) gX10_forget_X10_refuse rfl rfl rfl hdV_X10_refuse ⟨Nat.le_of_ble_eq_true rfl, Nat.le_of_ble_eq_true rfl⟩ [0, 17] rfl rfl 0 rfl rfl rfl hl.1 (Nat.le_of_ble_eq_true rfl) dX10_forget_12 ⟨Nat.le_of_ble_eq_true rfl, Nat.le_of_ble_eq_true rfl⟩) (fun r_9 u_9 H locs hp_9 G => ?_)
    obtain ⟨f_9, rfl⟩ : ∃ z, z = u_9 := ⟨_, rfl⟩
    have hq_9 := hp_9
    have G : wd X (va_A (@HAppend.hAppend va_W va_W va_W _ (xW h0 nw sp xa la lb) (@HAppend.hAppend va_W va_W va_W _ (rcV X nw an sv dv n0 n1 n2 n3 n4 g0 gs gn gm) ([((xa 5), .inl (X.2.1, 3, .inl fr))]))) sz) (va_A (@HAppend.hAppend va_W va_W va_W _ (xW h0 nw sp xa la lb) (@HAppend.hAppend va_W va_W va_W _ (rcV X nw an sv dv n0 n1 n2 n3 n4 g0 gs gn gm) ([((xa 5), .inl (X.2.1, 3, .inl fr))]))) sz) s (@HAppend.hAppend va_W va_W va_W _ (rcV X nw an sv dv n0 n1 n2 n3 n4 g0 gs gn gm) (@HAppend.hAppend va_W va_W va_W _ (xW h0 nw sp xa la lb) ([((xa 5), .inl (X.2.1, 3, .inl f_9))]))) H locs := G
    have hzF : (r_9, (n2, n3, n4)) = forF x1 n2 n3 n4 := by rw [forF_n (fun h => hw_1 h), hq_9]
    exact e_int S zr zlk (vp_nar_int _) G (n2, n3, n4, f_9) [16, 0, 1, 2, 3, 4, 5, 6, 7, 8, 9, 10, 11, 12, 13, 14, 15, 17] rfl rfl (Or.inr rfl) (⟨hI_n2, hI_n3, hI_n4, hzF⟩) dX10_forget_15
theorem in_X10_is_X10 : ∀ w ∈ wsX100, w ∈ wsX10_is := by decide +kernel
theorem lk_X10_is_10 : Cond.fieldLink RX10 10 "EggSpoons" "now" "LEggSpoons$Race;" ∈ wsX10_is := by decide +kernel
theorem hdV_X5_kindsThatFit : yX5_kindsThatFit.cls = RX5 ∧ yX5_kindsThatFit.cls ≠ "java/lang/invoke/MethodHandle" ∧ yX5_kindsThatFit.cls ≠ "java/lang/invoke/VarHandle" ∧ (parseMethodDescriptor yX5_kindsThatFit.desc).map (fun d => d.parameters.length) = some 1 := by decide +kernel
set_option maxHeartbeats 4000000 in
set_option maxRecDepth 100000 in
/-- is -/
theorem s_is (l : Launch) (X : EX) (h0 : Nat) (nw : Nat) (sp : Nat) (xa : Nat → Nat) (la : Int64) (lb : Int64) (an : Nat → Nat) (sv : Nat → Int32) (dv : Nat → Int32) (n0 : Nat) (n1 : Nat) (n2 : Nat) (n3 : Nat) (n4 : Nat) (g0 : Nat → Int32) (gs : Nat → Int32) (gn : Nat → Int32) (gm : Nat → Int32) (fr : Nat → Int32) (x1 : Int32) (hI_n0 : n0 ≤ 6) (hI_n1 : n1 ≤ 8) (hI_n2 : n2 ≤ 5) (hI_n3 : n3 ≤ 6) (hI_n4 : n4 ≤ 6) (sz : Nat) : Met l yX10_is wsX10_is ({ frames := 3, cells := 0, slots := 0, locals := 75 } : Room) (pE X [.ref h0, .int x1] (@HAppend.hAppend va_W va_W va_W _ (xW h0 nw sp xa la lb) (@HAppend.hAppend va_W va_W va_W _ (rcV X nw an sv dv n0 n1 n2 n3 n4 g0 gs gn gm) ([((xa 5), .inl (X.2.1, 3, .inl fr))]))) sz) (qI (fun (r : Int32) (u : (Nat → Int32)) => (True)) X (fun (u : (Nat → Int32)) => @HAppend.hAppend va_W va_W va_W _ (xW h0 nw sp xa la lb) (@HAppend.hAppend va_W va_W va_W _ (rcV X nw an sv dv n0 n1 n2 n3 n4 g0 gs gn gm) ([((xa 5), .inl (X.2.1, 3, .inl u))]))) (@HAppend.hAppend va_W va_W va_W _ (xW h0 nw sp xa la lb) (@HAppend.hAppend va_W va_W va_W _ (rcV X nw an sv dv n0 n1 n2 n3 n4 g0 gs gn gm) ([((xa 5), .inl (X.2.1, 3, .inl fr))]))) sz) 0 0 (va_A (@HAppend.hAppend va_W va_W va_W _ (xW h0 nw sp xa la lb) (@HAppend.hAppend va_W va_W va_W _ (rcV X nw an sv dv n0 n1 n2 n3 n4 g0 gs gn gm) ([((xa 5), .inl (X.2.1, 3, .inl fr))]))) sz) := by
  refine mk_met (B := (va_A (@HAppend.hAppend va_W va_W va_W _ (xW h0 nw sp xa la lb) (@HAppend.hAppend va_W va_W va_W _ (rcV X nw an sv dv n0 n1 n2 n3 n4 g0 gs gn gm) ([((xa 5), .inl (X.2.1, 3, .inl fr))]))) sz)) (A := (va_A (@HAppend.hAppend va_W va_W va_W _ (xW h0 nw sp xa la lb) (@HAppend.hAppend va_W va_W va_W _ (rcV X nw an sv dv n0 n1 n2 n3 n4 g0 gs gn gm) ([((xa 5), .inl (X.2.1, 3, .inl fr))]))) sz)) (cc := cX10_is) (maxL := 2) (ret := (some .int)) (by decide) rfl (Nat.le_of_ble_eq_true rfl) k_w k_a (fun p e s m below meth c S zr zlk znm zsz G ls hl => ?_)
  have S : CallFix p m c cX10_is 2 s _ wsX10_is RX10 := S
  have zx := S.1
  have zb := S.2.1
  have hl : lv_has ls 2 [(0, .ref h0), (1, .int x1)] := hl
  refine lv_aload_n zx zb dX10_is_0 rfl (lv_at hl 0 rfl) ?_
  refine lv_iload_n zx zb dX10_is_1 rfl (lv_at hl 1 rfl) ?_
  refine o_ri (cells' := 0) (slots' := 0) G rfl rfl (n_V (As := [.int x1]) (rest := []) (C := RX10) (T := TX10) (N := 14) (ci := 8) S G (s_there l X h0 nw sp xa la lb an sv dv n0 n1 n2 n3 n4 g0 gs gn gm x1 hI_n0 hI_n1 hI_n2 hI_n3 hI_n4 s.heap.size) gX10_is_X10_there rfl rfl rfl hdV_X10_there ⟨Nat.le_of_ble_eq_true rfl, Nat.le_of_ble_eq_true rfl⟩ [0, 1, 2, 3, 4, 5, 6, 7, 8, 9, 10, 11, 12, 13, 14, 15, 16] rfl rfl 0 rfl rfl rfl hl.1 (Nat.le_of_ble_eq_true rfl) dX10_is_2 ⟨Nat.le_of_ble_eq_true rfl, Nat.le_of_ble_eq_true rfl⟩) (fun r_1 u_1 H locs hp_1 G => ?_)
  have G : wd X (va_A (@HAppend.hAppend va_W va_W va_W _ (xW h0 nw sp xa la lb) (@HAppend.hAppend va_W va_W va_W _ (rcV X nw an sv dv n0 n1 n2 n3 n4 g0 gs gn gm) ([((xa 5), .inl (X.2.1, 3, .inl fr))]))) sz) (va_A (@HAppend.hAppend va_W va_W va_W _ (xW h0 nw sp xa la lb) (@HAppend.hAppend va_W va_W va_W _ (rcV X nw an sv dv n0 n1 n2 n3 n4 g0 gs gn gm) ([((xa 5), .inl (X.2.1, 3, .inl fr))]))) sz) s (@HAppend.hAppend va_W va_W va_W _ (xW h0 nw sp xa la lb) (@HAppend.hAppend va_W va_W va_W _ (rcV X nw an sv dv n0 n1 n2 n3 n4 g0 gs gn gm) ([((xa 5), .inl (X.2.1, 3, .inl fr))]))) H locs := G
  rcases hp_1 with ⟨rfl, hj_1⟩ | ⟨rfl, hj_1⟩
  · obtain ⟨j_1, hj_1, rfl⟩ := hj_1
    refine lv_if_eq (tgt := 19) zx zb dX10_is_5 (by decide) (fun c_2 => absurd c_2 (by decide)) (fun c_2 => ?_)
    refine lv_aload_n zx zb dX10_is_8 rfl (lv_at hl 0 rfl) ?_
    refine r_get (C := RX10) (T := TX10) (N := 14) (ci := 8) (v := .ref nw) S in_X10_is_X10 G 0 rfl rfl 0 (by decide) lk_X10_is_10 rfl dX10_is_9 ?_
    refine lv_iload_n zx zb dX10_is_12 rfl (lv_at hl 1 rfl) ?_
    refine o_ri (cells' := 0) (slots' := 0) G rfl rfl (n_V (As := [.int (nI j_1)]) (rest := []) (C := RX5) (T := TX5) (N := 8) (ci := 3) S G (s_kindsThatFit l X nw an sv dv n0 n1 n2 n3 n4 g0 gs gn gm j_1 hI_n0 hI_n1 hI_n2 hI_n3 hI_n4 (by omega) H.size) gX10_is_X5_kindsThatFit rfl rfl rfl hdV_X5_kindsThatFit ⟨Nat.le_of_ble_eq_true rfl, Nat.le_of_ble_eq_true rfl⟩ [1, 2, 3, 4, 5, 6, 7, 8, 9, 10, 11, 12, 13, 14, 15, 16] rfl rfl 1 rfl rfl rfl hl.1 (Nat.le_of_ble_eq_true rfl) dX10_is_13 ⟨Nat.le_of_ble_eq_true rfl, Nat.le_of_ble_eq_true rfl⟩) (fun r_3 u_3 H locs hp_3 G => ?_)
    have G : wd X (va_A (@HAppend.hAppend va_W va_W va_W _ (xW h0 nw sp xa la lb) (@HAppend.hAppend va_W va_W va_W _ (rcV X nw an sv dv n0 n1 n2 n3 n4 g0 gs gn gm) ([((xa 5), .inl (X.2.1, 3, .inl fr))]))) sz) (va_A (@HAppend.hAppend va_W va_W va_W _ (xW h0 nw sp xa la lb) (@HAppend.hAppend va_W va_W va_W _ (rcV X nw an sv dv n0 n1 n2 n3 n4 g0 gs gn gm) ([((xa 5), .inl (X.2.1, 3, .inl fr))]))) sz) s (@HAppend.hAppend va_W va_W va_W _ (xW h0 nw sp xa la lb) (@HAppend.hAppend va_W va_W va_W _ (rcV X nw an sv dv n0 n1 n2 n3 n4 g0 gs gn gm) ([((xa 5), .inl (X.2.1, 3, .inl fr))]))) H locs := G
    refine lv_goto (tgt := 25) zx zb dX10_is_16 (by decide) ?_
    exact e_int S zr zlk (vp_nar_int _) G (fr) [0, 1, 2, 3, 4, 5, 6, 7, 8, 9, 10, 11, 12, 13, 14, 15, 16, 17] rfl rfl (Or.inr rfl) (trivial) dX10_is_25
  · refine lv_if_eq (tgt := 19) zx zb dX10_is_5 (by decide) (fun c_4 => ?_) (fun c_4 => absurd (by decide) c_4)
    refine lv_aload_n zx zb dX10_is_19 rfl (lv_at hl 0 rfl) ?_
    refine lv_bipush (v := (-2)) zx zb dX10_is_20 (by decide) ?_
    refine b_wi (cells' := 0) (slots' := 0) (wr := rcV X nw an sv dv n0 n1 n2 n3 n4 g0 gs gn gm) G rfl rfl [0, 17] [1, 2, 3, 4, 5, 6, 7, 8, 9, 10, 11, 12, 13, 14, 15, 16] rfl rfl rfl rfl (n_V (As := [.int (-2)]) (rest := []) (C := RX10) (T := TX10) (N := 14) (ci := 8) S G (s_refuse l X h0 nw sp xa la lb fr (-2) H.size) gX10_is_X10_refuse rfl rfl rfl hdV_X10_refuse ⟨Nat.le_of_ble_eq_true rfl, Nat.le_of_ble_eq_true rfl⟩ [0, 17] rfl rfl 0 rfl rfl rfl hl.1 (Nat.le_of_ble_eq_true rfl) dX10_is_22 ⟨Nat.le_of_ble_eq_true rfl, Nat.le_of_ble_eq_true rfl⟩) (fun r_5 u_5 H locs hp_5 G => ?_)
    obtain ⟨f_5, rfl⟩ : ∃ z, z = u_5 := ⟨_, rfl⟩
    have hq_5 := hp_5
    have G : wd X (va_A (@HAppend.hAppend va_W va_W va_W _ (xW h0 nw sp xa la lb) (@HAppend.hAppend va_W va_W va_W _ (rcV X nw an sv dv n0 n1 n2 n3 n4 g0 gs gn gm) ([((xa 5), .inl (X.2.1, 3, .inl fr))]))) sz) (va_A (@HAppend.hAppend va_W va_W va_W _ (xW h0 nw sp xa la lb) (@HAppend.hAppend va_W va_W va_W _ (rcV X nw an sv dv n0 n1 n2 n3 n4 g0 gs gn gm) ([((xa 5), .inl (X.2.1, 3, .inl fr))]))) sz) s (@HAppend.hAppend va_W va_W va_W _ (rcV X nw an sv dv n0 n1 n2 n3 n4 g0 gs gn gm) (@HAppend.hAppend va_W va_W va_W _ (xW h0 nw sp xa la lb) ([((xa 5), .inl (X.2.1, 3, .inl f_5))]))) H locs := G
    exact e_int S zr zlk (vp_nar_int _) G (f_5) [16, 0, 1, 2, 3, 4, 5, 6, 7, 8, 9, 10, 11, 12, 13, 14, 15, 17] rfl rfl (Or.inr rfl) (trivial) dX10_is_25
theorem in_X10_kinds_X10 : ∀ w ∈ wsX100, w ∈ wsX10_kinds := by decide +kernel
theorem lk_X10_kinds_10 : Cond.fieldLink RX10 10 "EggSpoons" "now" "LEggSpoons$Race;" ∈ wsX10_kinds := by decide +kernel
theorem hdV_X5_eggsThatFit : yX5_eggsThatFit.cls = RX5 ∧ yX5_eggsThatFit.cls ≠ "java/lang/invoke/MethodHandle" ∧ yX5_eggsThatFit.cls ≠ "java/lang/invoke/VarHandle" ∧ (parseMethodDescriptor yX5_eggsThatFit.desc).map (fun d => d.parameters.length) = some 1 := by decide +kernel
set_option maxHeartbeats 4000000 in
set_option maxRecDepth 100000 in
/-- kinds -/
theorem s_kinds (l : Launch) (X : EX) (h0 : Nat) (nw : Nat) (sp : Nat) (xa : Nat → Nat) (la : Int64) (lb : Int64) (an : Nat → Nat) (sv : Nat → Int32) (dv : Nat → Int32) (n0 : Nat) (n1 : Nat) (n2 : Nat) (n3 : Nat) (n4 : Nat) (g0 : Nat → Int32) (gs : Nat → Int32) (gn : Nat → Int32) (gm : Nat → Int32) (fr : Nat → Int32) (x1 : Int32) (hI_n0 : n0 ≤ 6) (hI_n1 : n1 ≤ 8) (hI_n2 : n2 ≤ 5) (hI_n3 : n3 ≤ 6) (hI_n4 : n4 ≤ 6) (sz : Nat) : Met l yX10_kinds wsX10_kinds ({ frames := 3, cells := 0, slots := 0, locals := 71 } : Room) (pE X [.ref h0, .int x1] (@HAppend.hAppend va_W va_W va_W _ (xW h0 nw sp xa la lb) (@HAppend.hAppend va_W va_W va_W _ (rcV X nw an sv dv n0 n1 n2 n3 n4 g0 gs gn gm) ([((xa 5), .inl (X.2.1, 3, .inl fr))]))) sz) (qI (fun (r : Int32) (u : (Nat → Int32)) => (True)) X (fun (u : (Nat → Int32)) => @HAppend.hAppend va_W va_W va_W _ (xW h0 nw sp xa la lb) (@HAppend.hAppend va_W va_W va_W _ (rcV X nw an sv dv n0 n1 n2 n3 n4 g0 gs gn gm) ([((xa 5), .inl (X.2.1, 3, .inl u))]))) (@HAppend.hAppend va_W va_W va_W _ (xW h0 nw sp xa la lb) (@HAppend.hAppend va_W va_W va_W _ (rcV X nw an sv dv n0 n1 n2 n3 n4 g0 gs gn gm) ([((xa 5), .inl (X.2.1, 3, .inl fr))]))) sz) 0 0 (va_A (@HAppend.hAppend va_W va_W va_W _ (xW h0 nw sp xa la lb) (@HAppend.hAppend va_W va_W va_W _ (rcV X nw an sv dv n0 n1 n2 n3 n4 g0 gs gn gm) ([((xa 5), .inl (X.2.1, 3, .inl fr))]))) sz) := by
  refine mk_met (B := (va_A (@HAppend.hAppend va_W va_W va_W _ (xW h0 nw sp xa la lb) (@HAppend.hAppend va_W va_W va_W _ (rcV X nw an sv dv n0 n1 n2 n3 n4 g0 gs gn gm) ([((xa 5), .inl (X.2.1, 3, .inl fr))]))) sz)) (A := (va_A (@HAppend.hAppend va_W va_W va_W _ (xW h0 nw sp xa la lb) (@HAppend.hAppend va_W va_W va_W _ (rcV X nw an sv dv n0 n1 n2 n3 n4 g0 gs gn gm) ([((xa 5), .inl (X.2.1, 3, .inl fr))]))) sz)) (cc := cX10_kinds) (maxL := 2) (ret := (some .int)) (by decide) rfl (Nat.le_of_ble_eq_true rfl) k_w k_a (fun p e s m below meth c S zr zlk znm zsz G ls hl => ?_)
  have S : CallFix p m c cX10_kinds 2 s _ wsX10_kinds RX10 := S
  have zx := S.1
  have zb := S.2.1
  have hl : lv_has ls 2 [(0, .ref h0), (1, .int x1)] := hl
  refine lv_aload_n zx zb dX10_kinds_0 rfl (lv_at hl 0 rfl) ?_
  refine lv_iload_n zx zb dX10_kinds_1 rfl (lv_at hl 1 rfl) ?_
  refine o_ri (cells' := 0) (slots' := 0) G rfl rfl (n_V (As := [.int x1]) (rest := []) (C := RX10) (T := TX10) (N := 14) (ci := 8) S G (s_there l X h0 nw sp xa la lb an sv dv n0 n1 n2 n3 n4 g0 gs gn gm x1 hI_n0 hI_n1 hI_n2 hI_n3 hI_n4 s.heap.size) gX10_kinds_X10_there rfl rfl rfl hdV_X10_there ⟨Nat.le_of_ble_eq_true rfl, Nat.le_of_ble_eq_true rfl⟩ [0, 1, 2, 3, 4, 5, 6, 7, 8, 9, 10, 11, 12, 13, 14, 15, 16] rfl rfl 0 rfl rfl rfl hl.1 (Nat.le_of_ble_eq_true rfl) dX10_kinds_2 ⟨Nat.le_of_ble_eq_true rfl, Nat.le_of_ble_eq_true rfl⟩) (fun r_1 u_1 H locs hp_1 G => ?_)
  have G : wd X (va_A (@HAppend.hAppend va_W va_W va_W _ (xW h0 nw sp xa la lb) (@HAppend.hAppend va_W va_W va_W _ (rcV X nw an sv dv n0 n1 n2 n3 n4 g0 gs gn gm) ([((xa 5), .inl (X.2.1, 3, .inl fr))]))) sz) (va_A (@HAppend.hAppend va_W va_W va_W _ (xW h0 nw sp xa la lb) (@HAppend.hAppend va_W va_W va_W _ (rcV X nw an sv dv n0 n1 n2 n3 n4 g0 gs gn gm) ([((xa 5), .inl (X.2.1, 3, .inl fr))]))) sz) s (@HAppend.hAppend va_W va_W va_W _ (xW h0 nw sp xa la lb) (@HAppend.hAppend va_W va_W va_W _ (rcV X nw an sv dv n0 n1 n2 n3 n4 g0 gs gn gm) ([((xa 5), .inl (X.2.1, 3, .inl fr))]))) H locs := G
  rcases hp_1 with ⟨rfl, hj_1⟩ | ⟨rfl, hj_1⟩
  · obtain ⟨j_1, hj_1, rfl⟩ := hj_1
    refine lv_if_eq (tgt := 19) zx zb dX10_kinds_5 (by decide) (fun c_2 => absurd c_2 (by decide)) (fun c_2 => ?_)
    refine lv_aload_n zx zb dX10_kinds_8 rfl (lv_at hl 0 rfl) ?_
    refine r_get (C := RX10) (T := TX10) (N := 14) (ci := 8) (v := .ref nw) S in_X10_kinds_X10 G 0 rfl rfl 0 (by decide) lk_X10_kinds_10 rfl dX10_kinds_9 ?_
    refine lv_iload_n zx zb dX10_kinds_12 rfl (lv_at hl 1 rfl) ?_
    refine o_ri (cells' := 0) (slots' := 0) G rfl rfl (n_V (As := [.int (nI j_1)]) (rest := []) (C := RX5) (T := TX5) (N := 8) (ci := 3) S G (s_eggsThatFit l X nw an sv dv n0 n1 n2 n3 n4 g0 gs gn gm j_1 hI_n0 hI_n1 hI_n2 hI_n3 hI_n4 (by omega) H.size) gX10_kinds_X5_eggsThatFit rfl rfl rfl hdV_X5_eggsThatFit ⟨Nat.le_of_ble_eq_true rfl, Nat.le_of_ble_eq_true rfl⟩ [1, 2, 3, 4, 5, 6, 7, 8, 9, 10, 11, 12, 13, 14, 15, 16] rfl rfl 1 rfl rfl rfl hl.1 (Nat.le_of_ble_eq_true rfl) dX10_kinds_13 ⟨Nat.le_of_ble_eq_true rfl, Nat.le_of_ble_eq_true rfl⟩) (fun r_3 u_3 H locs hp_3 G => ?_)
    have G : wd X (va_A (@HAppend.hAppend va_W va_W va_W _ (xW h0 nw sp xa la lb) (@HAppend.hAppend va_W va_W va_W _ (rcV X nw an sv dv n0 n1 n2 n3 n4 g0 gs gn gm) ([((xa 5), .inl (X.2.1, 3, .inl fr))]))) sz) (va_A (@HAppend.hAppend va_W va_W va_W _ (xW h0 nw sp xa la lb) (@HAppend.hAppend va_W va_W va_W _ (rcV X nw an sv dv n0 n1 n2 n3 n4 g0 gs gn gm) ([((xa 5), .inl (X.2.1, 3, .inl fr))]))) sz) s (@HAppend.hAppend va_W va_W va_W _ (xW h0 nw sp xa la lb) (@HAppend.hAppend va_W va_W va_W _ (rcV X nw an sv dv n0 n1 n2 n3 n4 g0 gs gn gm) ([((xa 5), .inl (X.2.1, 3, .inl fr))]))) H locs := G
    refine lv_goto (tgt := 25) zx zb dX10_kinds_16 (by decide) ?_
    exact e_int S zr zlk (vp_nar_int _) G (fr) [0, 1, 2, 3, 4, 5, 6, 7, 8, 9, 10, 11, 12, 13, 14, 15, 16, 17] rfl rfl (Or.inr rfl) (trivial) dX10_kinds_25
  · refine lv_if_eq (tgt := 19) zx zb dX10_kinds_5 (by decide) (fun c_4 => ?_) (fun c_4 => absurd (by decide) c_4)
    refine lv_aload_n zx zb dX10_kinds_19 rfl (lv_at hl 0 rfl) ?_
    refine lv_bipush (v := (-2)) zx zb dX10_kinds_20 (by decide) ?_
    refine b_wi (cells' := 0) (slots' := 0) (wr := rcV X nw an sv dv n0 n1 n2 n3 n4 g0 gs gn gm) G rfl rfl [0, 17] [1, 2, 3, 4, 5, 6, 7, 8, 9, 10, 11, 12, 13, 14, 15, 16] rfl rfl rfl rfl (n_V (As := [.int (-2)]) (rest := []) (C := RX10) (T := TX10) (N := 14) (ci := 8) S G (s_refuse l X h0 nw sp xa la lb fr (-2) H.size) gX10_kinds_X10_refuse rfl rfl rfl hdV_X10_refuse ⟨Nat.le_of_ble_eq_true rfl, Nat.le_of_ble_eq_true rfl⟩ [0, 17] rfl rfl 0 rfl rfl rfl hl.1 (Nat.le_of_ble_eq_true rfl) dX10_kinds_22 ⟨Nat.le_of_ble_eq_true rfl, Nat.le_of_ble_eq_true rfl⟩) (fun r_5 u_5 H locs hp_5 G => ?_)
    obtain ⟨f_5, rfl⟩ : ∃ z, z = u_5 := ⟨_, rfl⟩
    have hq_5 := hp_5
    have G : wd X (va_A (@HAppend.hAppend va_W va_W va_W _ (xW h0 nw sp xa la lb) (@HAppend.hAppend va_W va_W va_W _ (rcV X nw an sv dv n0 n1 n2 n3 n4 g0 gs gn gm) ([((xa 5), .inl (X.2.1, 3, .inl fr))]))) sz) (va_A (@HAppend.hAppend va_W va_W va_W _ (xW h0 nw sp xa la lb) (@HAppend.hAppend va_W va_W va_W _ (rcV X nw an sv dv n0 n1 n2 n3 n4 g0 gs gn gm) ([((xa 5), .inl (X.2.1, 3, .inl fr))]))) sz) s (@HAppend.hAppend va_W va_W va_W _ (rcV X nw an sv dv n0 n1 n2 n3 n4 g0 gs gn gm) (@HAppend.hAppend va_W va_W va_W _ (xW h0 nw sp xa la lb) ([((xa 5), .inl (X.2.1, 3, .inl f_5))]))) H locs := G
    exact e_int S zr zlk (vp_nar_int _) G (f_5) [16, 0, 1, 2, 3, 4, 5, 6, 7, 8, 9, 10, 11, 12, 13, 14, 15, 17] rfl rfl (Or.inr rfl) (trivial) dX10_kinds_25
theorem in_X10_strong_X10 : ∀ w ∈ wsX100, w ∈ wsX10_strong := by decide +kernel
theorem lk_X10_strong_10 : Cond.fieldLink RX10 10 "EggSpoons" "now" "LEggSpoons$Race;" ∈ wsX10_strong := by decide +kernel
theorem hdV_X5_legsThatFit : yX5_legsThatFit.cls = RX5 ∧ yX5_legsThatFit.cls ≠ "java/lang/invoke/MethodHandle" ∧ yX5_legsThatFit.cls ≠ "java/lang/invoke/VarHandle" ∧ (parseMethodDescriptor yX5_legsThatFit.desc).map (fun d => d.parameters.length) = some 1 := by decide +kernel
theorem hdS_X10_hasBit : yX10_hasBit.cls ≠ "java/lang/invoke/MethodHandle" ∧ yX10_hasBit.cls ≠ "java/lang/invoke/VarHandle" ∧ (parseMethodDescriptor yX10_hasBit.desc).map (fun d => d.parameters.length) = some 2 := by decide +kernel
theorem hdS_J6_bitCount_0f7a4 : yJ6_bitCount_0f7a4.cls ≠ "java/lang/invoke/MethodHandle" ∧ yJ6_bitCount_0f7a4.cls ≠ "java/lang/invoke/VarHandle" ∧ (parseMethodDescriptor yJ6_bitCount_0f7a4.desc).map (fun d => d.parameters.length) = some 1 := by decide +kernel
set_option maxHeartbeats 4000000 in
set_option maxRecDepth 100000 in
/-- strong -/
theorem s_strong (l : Launch) (X : EX) (h0 : Nat) (nw : Nat) (sp : Nat) (xa : Nat → Nat) (la : Int64) (lb : Int64) (an : Nat → Nat) (sv : Nat → Int32) (dv : Nat → Int32) (n0 : Nat) (n1 : Nat) (n2 : Nat) (n3 : Nat) (n4 : Nat) (g0 : Nat → Int32) (gs : Nat → Int32) (gn : Nat → Int32) (gm : Nat → Int32) (fr : Nat → Int32) (x1 : Int32) (x2 : Int32) (hI_n0 : n0 ≤ 6) (hI_n1 : n1 ≤ 8) (hI_n2 : n2 ≤ 5) (hI_n3 : n3 ≤ 6) (hI_n4 : n4 ≤ 6) (sz : Nat) : Met l yX10_strong wsX10_strong ({ frames := 3, cells := 0, slots := 0, locals := 75 } : Room) (pE X [.ref h0, .int x1, .int x2] (@HAppend.hAppend va_W va_W va_W _ (xW h0 nw sp xa la lb) (@HAppend.hAppend va_W va_W va_W _ (rcV X nw an sv dv n0 n1 n2 n3 n4 g0 gs gn gm) ([((xa 5), .inl (X.2.1, 3, .inl fr))]))) sz) (qI (fun (r : Int32) (u : (Nat → Int32)) => (True)) X (fun (u : (Nat → Int32)) => @HAppend.hAppend va_W va_W va_W _ (xW h0 nw sp xa la lb) (@HAppend.hAppend va_W va_W va_W _ (rcV X nw an sv dv n0 n1 n2 n3 n4 g0 gs gn gm) ([((xa 5), .inl (X.2.1, 3, .inl u))]))) (@HAppend.hAppend va_W va_W va_W _ (xW h0 nw sp xa la lb) (@HAppend.hAppend va_W va_W va_W _ (rcV X nw an sv dv n0 n1 n2 n3 n4 g0 gs gn gm) ([((xa 5), .inl (X.2.1, 3, .inl fr))]))) sz) 0 0 (va_A (@HAppend.hAppend va_W va_W va_W _ (xW h0 nw sp xa la lb) (@HAppend.hAppend va_W va_W va_W _ (rcV X nw an sv dv n0 n1 n2 n3 n4 g0 gs gn gm) ([((xa 5), .inl (X.2.1, 3, .inl fr))]))) sz) := by
  refine mk_met (B := (va_A (@HAppend.hAppend va_W va_W va_W _ (xW h0 nw sp xa la lb) (@HAppend.hAppend va_W va_W va_W _ (rcV X nw an sv dv n0 n1 n2 n3 n4 g0 gs gn gm) ([((xa 5), .inl (X.2.1, 3, .inl fr))]))) sz)) (A := (va_A (@HAppend.hAppend va_W va_W va_W _ (xW h0 nw sp xa la lb) (@HAppend.hAppend va_W va_W va_W _ (rcV X nw an sv dv n0 n1 n2 n3 n4 g0 gs gn gm) ([((xa 5), .inl (X.2.1, 3, .inl fr))]))) sz)) (cc := cX10_strong) (maxL := 6) (ret := (some .int)) (by decide) rfl (Nat.le_of_ble_eq_true rfl) k_w k_a (fun p e s m below meth c S zr zlk znm zsz G ls hl => ?_)
  have S : CallFix p m c cX10_strong 6 s _ wsX10_strong RX10 := S
  have zx := S.1
  have zb := S.2.1
  have hl : lv_has ls 6 [(0, .ref h0), (1, .int x1), (2, .int x2)] := hl
  refine lv_aload_n zx zb dX10_strong_0 rfl (lv_at hl 0 rfl) ?_
  refine lv_iload_n zx zb dX10_strong_1 rfl (lv_at hl 1 rfl) ?_
  refine o_ri (cells' := 0) (slots' := 0) G rfl rfl (n_V (As := [.int x1]) (rest := []) (C := RX10) (T := TX10) (N := 14) (ci := 8) S G (s_there l X h0 nw sp xa la lb an sv dv n0 n1 n2 n3 n4 g0 gs gn gm x1 hI_n0 hI_n1 hI_n2 hI_n3 hI_n4 s.heap.size) gX10_strong_X10_there rfl rfl rfl hdV_X10_there ⟨Nat.le_of_ble_eq_true rfl, Nat.le_of_ble_eq_true rfl⟩ [0, 1, 2, 3, 4, 5, 6, 7, 8, 9, 10, 11, 12, 13, 14, 15, 16] rfl rfl 0 rfl rfl rfl hl.1 (Nat.le_of_ble_eq_true rfl) dX10_strong_2 ⟨Nat.le_of_ble_eq_true rfl, Nat.le_of_ble_eq_true rfl⟩) (fun r_1 u_1 H locs hp_1 G => ?_)
  have G : wd X (va_A (@HAppend.hAppend va_W va_W va_W _ (xW h0 nw sp xa la lb) (@HAppend.hAppend va_W va_W va_W _ (rcV X nw an sv dv n0 n1 n2 n3 n4 g0 gs gn gm) ([((xa 5), .inl (X.2.1, 3, .inl fr))]))) sz) (va_A (@HAppend.hAppend va_W va_W va_W _ (xW h0 nw sp xa la lb) (@HAppend.hAppend va_W va_W va_W _ (rcV X nw an sv dv n0 n1 n2 n3 n4 g0 gs gn gm) ([((xa 5), .inl (X.2.1, 3, .inl fr))]))) sz) s (@HAppend.hAppend va_W va_W va_W _ (xW h0 nw sp xa la lb) (@HAppend.hAppend va_W va_W va_W _ (rcV X nw an sv dv n0 n1 n2 n3 n4 g0 gs gn gm) ([((xa 5), .inl (X.2.1, 3, .inl fr))]))) H locs := G
  rcases hp_1 with ⟨rfl, hj_1⟩ | ⟨rfl, hj_1⟩
  · obtain ⟨j_1, hj_1, rfl⟩ := hj_1
    refine lv_if_eq (tgt := 17) zx zb dX10_strong_5 (by decide) (fun c_2 => absurd c_2 (by decide)) (fun c_2 => ?_)
    refine lv_iload_n zx zb dX10_strong_8 rfl (lv_at hl 2 rfl) ?_
    refine lv_iconst (v := 0) zx zb dX10_strong_9 (by decide) ?_
    refine lv_iconst (v := 2) zx zb dX10_strong_10 (by decide) ?_
    refine o_ri (cells' := 0) (slots' := 0) G rfl rfl (n_S (As := [.int x2, .int 0, .int 2]) (rest := []) S G (s_within l X x2 0 2 H.size) gX10_strong_X10_within rfl rfl rfl hdS_X10_within ⟨Nat.le_of_ble_eq_true rfl, Nat.le_of_ble_eq_true rfl⟩ [] rfl rfl rfl hl.1 (Nat.le_of_ble_eq_true rfl) dX10_strong_11 ⟨Nat.le_of_ble_eq_true rfl, Nat.le_of_ble_eq_true rfl⟩) (fun r_3 u_3 H locs hp_3 G => ?_)
    have G : wd X (va_A (@HAppend.hAppend va_W va_W va_W _ (xW h0 nw sp xa la lb) (@HAppend.hAppend va_W va_W va_W _ (rcV X nw an sv dv n0 n1 n2 n3 n4 g0 gs gn gm) ([((xa 5), .inl (X.2.1, 3, .inl fr))]))) sz) (va_A (@HAppend.hAppend va_W va_W va_W _ (xW h0 nw sp xa la lb) (@HAppend.hAppend va_W va_W va_W _ (rcV X nw an sv dv n0 n1 n2 n3 n4 g0 gs gn gm) ([((xa 5), .inl (X.2.1, 3, .inl fr))]))) sz) s (@HAppend.hAppend va_W va_W va_W _ (xW h0 nw sp xa la lb) (@HAppend.hAppend va_W va_W va_W _ (rcV X nw an sv dv n0 n1 n2 n3 n4 g0 gs gn gm) ([((xa 5), .inl (X.2.1, 3, .inl fr))]))) H locs := G
    rcases hp_3 with ⟨rfl, hw_3⟩ | ⟨rfl, hw_3⟩
    · refine lv_if_ne (tgt := 24) zx zb dX10_strong_14 (by decide) (fun c_4 => ?_) (fun c_4 => absurd c_4 (by decide))
      refine lv_aload_n zx zb dX10_strong_24 rfl (lv_at hl 0 rfl) ?_
      refine r_get (C := RX10) (T := TX10) (N := 14) (ci := 8) (v := .ref nw) S in_X10_strong_X10 G 0 rfl rfl 0 (by decide) lk_X10_strong_10 rfl dX10_strong_25 ?_
      refine lv_iload_n zx zb dX10_strong_28 rfl (lv_at hl 1 rfl) ?_
      refine o_ri (cells' := 0) (slots' := 0) G rfl rfl (n_V (As := [.int (nI j_1)]) (rest := []) (C := RX5) (T := TX5) (N := 8) (ci := 3) S G (s_legsThatFit l X nw an sv dv n0 n1 n2 n3 n4 g0 gs gn gm j_1 hI_n0 hI_n1 hI_n2 hI_n3 hI_n4 (by omega) H.size) gX10_strong_X5_legsThatFit rfl rfl rfl hdV_X5_legsThatFit ⟨Nat.le_of_ble_eq_true rfl, Nat.le_of_ble_eq_true rfl⟩ [1, 2, 3, 4, 5, 6, 7, 8, 9, 10, 11, 12, 13, 14, 15, 16] rfl rfl 1 rfl rfl rfl hl.1 (Nat.le_of_ble_eq_true rfl) dX10_strong_29 ⟨Nat.le_of_ble_eq_true rfl, Nat.le_of_ble_eq_true rfl⟩) (fun r_5 u_5 H locs hp_5 G => ?_)
      have G : wd X (va_A (@HAppend.hAppend va_W va_W va_W _ (xW h0 nw sp xa la lb) (@HAppend.hAppend va_W va_W va_W _ (rcV X nw an sv dv n0 n1 n2 n3 n4 g0 gs gn gm) ([((xa 5), .inl (X.2.1, 3, .inl fr))]))) sz) (va_A (@HAppend.hAppend va_W va_W va_W _ (xW h0 nw sp xa la lb) (@HAppend.hAppend va_W va_W va_W _ (rcV X nw an sv dv n0 n1 n2 n3 n4 g0 gs gn gm) ([((xa 5), .inl (X.2.1, 3, .inl fr))]))) sz) s (@HAppend.hAppend va_W va_W va_W _ (xW h0 nw sp xa la lb) (@HAppend.hAppend va_W va_W va_W _ (rcV X nw an sv dv n0 n1 n2 n3 n4 g0 gs gn gm) ([((xa 5), .inl (X.2.1, 3, .inl fr))]))) H locs := G
      refine lv_istore_n (lv' := [(3, .int r_5), (0, .ref h0), (1, .int (nI j_1)), (2, .int x2)]) zx zb dX10_strong_32 rfl hl (by decide) rfl (fun ls hl => ?_)
      refine lv_iload_n zx zb dX10_strong_33 rfl (lv_at hl 3 rfl) ?_
      refine lv_if_ne (tgt := 42) zx zb dX10_strong_34 (by decide) (fun c_6 => ?_) (fun c_6 => ?_)
      · refine lv_iconst (v := (-1)) zx zb dX10_strong_42 (by decide) ?_
        refine lv_istore (lv' := [(4, .int (-1)), (3, .int r_5), (0, .ref h0), (1, .int (nI j_1)), (2, .int x2)]) zx zb dX10_strong_43 hl (by decide) rfl (fun ls hl => ?_)
        refine lv_iconst (v := 1) zx zb dX10_strong_45 (by decide) ?_
        refine lv_istore (lv' := [(5, .int 1), (4, .int (-1)), (3, .int r_5), (0, .ref h0), (1, .int (nI j_1)), (2, .int x2)]) zx zb dX10_strong_46 hl (by decide) rfl (fun ls hl => ?_)
        refine k_loop (P := ∀ (zm : Nat) (k48 : Nat) (x48_4 : Int32) (H : Heap) (locs : List Loc) (ls : Array Slot), 10 + 1 ≤ k48 + zm → (k48 ≤ 10) → wd X (va_A (@HAppend.hAppend va_W va_W va_W _ (xW h0 nw sp xa la lb) (@HAppend.hAppend va_W va_W va_W _ (rcV X nw an sv dv n0 n1 n2 n3 n4 g0 gs gn gm) ([((xa 5), .inl (X.2.1, 3, .inl fr))]))) sz) (va_A (@HAppend.hAppend va_W va_W va_W _ (xW h0 nw sp xa la lb) (@HAppend.hAppend va_W va_W va_W _ (rcV X nw an sv dv n0 n1 n2 n3 n4 g0 gs gn gm) ([((xa 5), .inl (X.2.1, 3, .inl fr))]))) sz) s (@HAppend.hAppend va_W va_W va_W _ (xW h0 nw sp xa la lb) (@HAppend.hAppend va_W va_W va_W _ (rcV X nw an sv dv n0 n1 n2 n3 n4 g0 gs gn gm) ([((xa 5), .inl (X.2.1, 3, .inl fr))]))) H locs → lv_has ls 6 [(5, .int (nI k48)), (4, .int x48_4), (3, .int r_5), (0, .ref h0), (1, .int (nI j_1)), (2, .int x2)] → W p l e _ s m _ below meth c H locs _ _ _ (F0 m 48 ls [])) (fun loop => loop (10 + 1) 1 (-1) _ _ _ (by omega) (by omega) G hl) ?_
        intro zm
        induction zm with
        | zero => intro k48 x48_4 H locs ls zz q_hk_k48 _ _; exact absurd zz (by omega)
        | succ zm ih48 =>
          intro k48 x48_4 H locs ls zm_48 hk_k48 G hl
          refine lv_iload zx zb dX10_strong_48 (lv_at hl 0 rfl) ?_
          refine lv_bipush (v := 9) zx zb dX10_strong_50 (by decide) ?_
          refine lv_icmp_gt (tgt := 85) zx zb dX10_strong_52 (by decide) (fun c_7 => ?_) (fun c_7 => ?_)
          · have fc_7 := j_lt (a := 9) (b := k48) (by omega) (by omega) c_7
            refine lv_iload zx zb dX10_strong_85 (lv_at hl 1 rfl) ?_
            exact e_int S zr zlk (vp_nar_int _) G (fr) [0, 1, 2, 3, 4, 5, 6, 7, 8, 9, 10, 11, 12, 13, 14, 15, 16, 17] rfl rfl (Or.inr rfl) (trivial) dX10_strong_87
          · have fc_7 := j_nlt (a := 9) (b := k48) (by omega) (by omega) c_7
            refine lv_iload_n zx zb dX10_strong_55 rfl (lv_at hl 2 rfl) ?_
            refine lv_iload zx zb dX10_strong_56 (lv_at hl 0 rfl) ?_
            refine o_ri (cells' := 0) (slots' := 0) G rfl rfl (n_S (As := [.int r_5, .int (nI k48)]) (rest := []) S G (s_hasBit l X r_5 (nI k48) H.size) gX10_strong_X10_hasBit rfl rfl rfl hdS_X10_hasBit ⟨Nat.le_of_ble_eq_true rfl, Nat.le_of_ble_eq_true rfl⟩ [] rfl rfl rfl hl.1 (Nat.le_of_ble_eq_true rfl) dX10_strong_58 ⟨Nat.le_of_ble_eq_true rfl, Nat.le_of_ble_eq_true rfl⟩) (fun r_8 u_8 H locs hp_8 G => ?_)
            have G : wd X (va_A (@HAppend.hAppend va_W va_W va_W _ (xW h0 nw sp xa la lb) (@HAppend.hAppend va_W va_W va_W _ (rcV X nw an sv dv n0 n1 n2 n3 n4 g0 gs gn gm) ([((xa 5), .inl (X.2.1, 3, .inl fr))]))) sz) (va_A (@HAppend.hAppend va_W va_W va_W _ (xW h0 nw sp xa la lb) (@HAppend.hAppend va_W va_W va_W _ (rcV X nw an sv dv n0 n1 n2 n3 n4 g0 gs gn gm) ([((xa 5), .inl (X.2.1, 3, .inl fr))]))) sz) s (@HAppend.hAppend va_W va_W va_W _ (xW h0 nw sp xa la lb) (@HAppend.hAppend va_W va_W va_W _ (rcV X nw an sv dv n0 n1 n2 n3 n4 g0 gs gn gm) ([((xa 5), .inl (X.2.1, 3, .inl fr))]))) H locs := G
            refine k_cutW (PP := fun Wx => ∀ (x_10 : Int32) (H : Heap) (locs : List Loc) (ls : Array Slot), wd X (va_A (@HAppend.hAppend va_W va_W va_W _ (xW h0 nw sp xa la lb) (@HAppend.hAppend va_W va_W va_W _ (rcV X nw an sv dv n0 n1 n2 n3 n4 g0 gs gn gm) ([((xa 5), .inl (X.2.1, 3, .inl fr))]))) sz) (va_A (@HAppend.hAppend va_W va_W va_W _ (xW h0 nw sp xa la lb) (@HAppend.hAppend va_W va_W va_W _ (rcV X nw an sv dv n0 n1 n2 n3 n4 g0 gs gn gm) ([((xa 5), .inl (X.2.1, 3, .inl fr))]))) sz) s (@HAppend.hAppend va_W va_W va_W _ (xW h0 nw sp xa la lb) (@HAppend.hAppend va_W va_W va_W _ (rcV X nw an sv dv n0 n1 n2 n3 n4 g0 gs gn gm) ([((xa 5), .inl (X.2.1, 3, .inl fr))]))) H locs → lv_has ls 6 [(5, .int (nI k48)), (4, .int x_10), (3, .int r_5), (0, .ref h0), (1, .int (nI j_1)), (2, .int x2)] → Wx (F0 m 79 ls []) H locs) ?_ ?_
            · intro join_61
              refine lv_if_eq (tgt := 79) zx zb dX10_strong_61 (by decide) (fun c_9 => ?_) (fun c_9 => ?_)
              · exact join_61 x48_4 _ _ _  G hl
              · refine lv_iload_n zx zb dX10_strong_64 rfl (lv_at hl 5 rfl) ?_
                refine lv_iconst (v := 2) zx zb dX10_strong_65 (by decide) ?_
                refine lv_icmp_eq (tgt := 75) zx zb dX10_strong_66 (by decide) (fun c_11 => ?_) (fun c_11 => ?_)
                · refine lv_iload zx zb dX10_strong_75 (lv_at hl 0 rfl) ?_
                  refine lv_istore (lv' := [(4, .int (nI k48)), (5, .int (nI k48)), (3, .int r_5), (0, .ref h0), (1, .int (nI j_1)), (2, .int x2)]) zx zb dX10_strong_77 hl (by decide) rfl (fun ls hl => ?_)
                  have hl := lv_sub hl (l' := [(5, .int (nI k48)), (4, .int (nI k48)), (3, .int r_5), (0, .ref h0), (1, .int (nI j_1)), (2, .int x2)]) [1, 0, 2, 3, 4, 5] rfl
                  exact join_61 (nI k48) _ _ _  G hl
                · refine lv_iload zx zb dX10_strong_69 (lv_at hl 1 rfl) ?_
                  refine lv_iconst (v := (-1)) zx zb dX10_strong_71 (by decide) ?_
                  refine lv_icmp_ne (tgt := 79) zx zb dX10_strong_72 (by decide) (fun c_12 => ?_) (fun c_12 => ?_)
                  · exact join_61 x48_4 _ _ _  G hl
                  · refine lv_iload zx zb dX10_strong_75 (lv_at hl 0 rfl) ?_
                    refine lv_istore (lv' := [(4, .int (nI k48)), (5, .int (nI k48)), (3, .int r_5), (0, .ref h0), (1, .int (nI j_1)), (2, .int x2)]) zx zb dX10_strong_77 hl (by decide) rfl (fun ls hl => ?_)
                    have hl := lv_sub hl (l' := [(5, .int (nI k48)), (4, .int (nI k48)), (3, .int r_5), (0, .ref h0), (1, .int (nI j_1)), (2, .int x2)]) [1, 0, 2, 3, 4, 5] rfl
                    exact join_61 (nI k48) _ _ _  G hl
            · intro x_10 H locs ls  G hl
              refine lv_iinc (v := (nI (k48 + 1))) (lv' := [(5, .int (nI (k48 + 1))), (4, .int x_10), (3, .int r_5), (0, .ref h0), (1, .int (nI j_1)), (2, .int x2)]) zx zb dX10_strong_79 hl (k := 0) rfl (nI_add k48 1) (by decide) rfl (fun ls hl => ?_)
              refine lv_goto (tgt := 48) zx zb dX10_strong_82 (by decide) ?_
              exact ih48 (k48 + 1) x_10 _ _ _ (by omega) (by omega) G hl
      · refine lv_iload_n zx zb dX10_strong_37 rfl (lv_at hl 0 rfl) ?_
        refine o_ri (cells' := 0) (slots' := 0) G rfl rfl (n_S (As := [.int r_5]) (rest := []) S G (s_bitCount l X r_5 H.size) gX10_strong_J6_bitCount_0f7a4 rfl rfl rfl hdS_J6_bitCount_0f7a4 ⟨Nat.le_of_ble_eq_true rfl, Nat.le_of_ble_eq_true rfl⟩ [] rfl rfl rfl hl.1 (Nat.le_of_ble_eq_true rfl) dX10_strong_38 ⟨Nat.le_of_ble_eq_true rfl, Nat.le_of_ble_eq_true rfl⟩) (fun r_13 u_13 H locs hp_13 G => ?_)
        have G : wd X (va_A (@HAppend.hAppend va_W va_W va_W _ (xW h0 nw sp xa la lb) (@HAppend.hAppend va_W va_W va_W _ (rcV X nw an sv dv n0 n1 n2 n3 n4 g0 gs gn gm) ([((xa 5), .inl (X.2.1, 3, .inl fr))]))) sz) (va_A (@HAppend.hAppend va_W va_W va_W _ (xW h0 nw sp xa la lb) (@HAppend.hAppend va_W va_W va_W _ (rcV X nw an sv dv n0 n1 n2 n3 n4 g0 gs gn gm) ([((xa 5), .inl (X.2.1, 3, .inl fr))]))) sz) s (@HAppend.hAppend va_W va_W va_W _ (xW h0 nw sp xa la lb) (@HAppend.hAppend va_W va_W va_W _ (rcV X nw an sv dv n0 n1 n2 n3 n4 g0 gs gn gm) ([((xa 5), .inl (X.2.1, 3, .inl fr))]))) H locs := G
        exact e_int S zr zlk (vp_nar_int _) G (fr) [0, 1, 2, 3, 4, 5, 6, 7, 8, 9, 10, 11, 12, 13, 14, 15, 16, 17] rfl rfl (Or.inr rfl) (trivial) dX10_strong_41
    · refine lv_if_ne (tgt := 24) zx zb dX10_strong_14 (by decide) (fun c_14 => absurd (by decide) c_14) (fun c_14 => ?_)
      refine lv_aload_n zx zb dX10_strong_17 rfl (lv_at hl 0 rfl) ?_
      refine lv_bipush (v := (-2)) zx zb dX10_strong_18 (by decide) ?_
      refine b_wi (cells' := 0) (slots' := 0) (wr := rcV X nw an sv dv n0 n1 n2 n3 n4 g0 gs gn gm) G rfl rfl [0, 17] [1, 2, 3, 4, 5, 6, 7, 8, 9, 10, 11, 12, 13, 14, 15, 16] rfl rfl rfl rfl (n_V (As := [.int (-2)]) (rest := []) (C := RX10) (T := TX10) (N := 14) (ci := 8) S G (s_refuse l X h0 nw sp xa la lb fr (-2) H.size) gX10_strong_X10_refuse rfl rfl rfl hdV_X10_refuse ⟨Nat.le_of_ble_eq_true rfl, Nat.le_of_ble_eq_true rfl⟩ [0, 17] rfl rfl 0 rfl rfl rfl hl.1 (Nat.le_of_ble_eq_true rfl) dX10_strong_20 ⟨Nat.le_of_ble_eq_true rfl, Nat.le_of_ble_eq_true rfl⟩) (fun r_15 u_15 H locs hp_15 G => ?_)
      obtain ⟨f_15, rfl⟩ : ∃ z, z = u_15 := ⟨_, rfl⟩
      have hq_15 := hp_15
      have G : wd X (va_A (@HAppend.hAppend va_W va_W va_W _ (xW h0 nw sp xa la lb) (@HAppend.hAppend va_W va_W va_W _ (rcV X nw an sv dv n0 n1 n2 n3 n4 g0 gs gn gm) ([((xa 5), .inl (X.2.1, 3, .inl fr))]))) sz) (va_A (@HAppend.hAppend va_W va_W va_W _ (xW h0 nw sp xa la lb) (@HAppend.hAppend va_W va_W va_W _ (rcV X nw an sv dv n0 n1 n2 n3 n4 g0 gs gn gm) ([((xa 5), .inl (X.2.1, 3, .inl fr))]))) sz) s (@HAppend.hAppend va_W va_W va_W _ (rcV X nw an sv dv n0 n1 n2 n3 n4 g0 gs gn gm) (@HAppend.hAppend va_W va_W va_W _ (xW h0 nw sp xa la lb) ([((xa 5), .inl (X.2.1, 3, .inl f_15))]))) H locs := G
      exact e_int S zr zlk (vp_nar_int _) G (f_15) [16, 0, 1, 2, 3, 4, 5, 6, 7, 8, 9, 10, 11, 12, 13, 14, 15, 17] rfl rfl (Or.inr rfl) (trivial) dX10_strong_23
  · refine lv_if_eq (tgt := 17) zx zb dX10_strong_5 (by decide) (fun c_16 => ?_) (fun c_16 => absurd (by decide) c_16)
    refine lv_aload_n zx zb dX10_strong_17 rfl (lv_at hl 0 rfl) ?_
    refine lv_bipush (v := (-2)) zx zb dX10_strong_18 (by decide) ?_
    refine b_wi (cells' := 0) (slots' := 0) (wr := rcV X nw an sv dv n0 n1 n2 n3 n4 g0 gs gn gm) G rfl rfl [0, 17] [1, 2, 3, 4, 5, 6, 7, 8, 9, 10, 11, 12, 13, 14, 15, 16] rfl rfl rfl rfl (n_V (As := [.int (-2)]) (rest := []) (C := RX10) (T := TX10) (N := 14) (ci := 8) S G (s_refuse l X h0 nw sp xa la lb fr (-2) H.size) gX10_strong_X10_refuse rfl rfl rfl hdV_X10_refuse ⟨Nat.le_of_ble_eq_true rfl, Nat.le_of_ble_eq_true rfl⟩ [0, 17] rfl rfl 0 rfl rfl rfl hl.1 (Nat.le_of_ble_eq_true rfl) dX10_strong_20 ⟨Nat.le_of_ble_eq_true rfl, Nat.le_of_ble_eq_true rfl⟩) (fun r_17 u_17 H locs hp_17 G => ?_)
    obtain ⟨f_17, rfl⟩ : ∃ z, z = u_17 := ⟨_, rfl⟩
    have hq_17 := hp_17
    have G : wd X (va_A (@HAppend.hAppend va_W va_W va_W _ (xW h0 nw sp xa la lb) (@HAppend.hAppend va_W va_W va_W _ (rcV X nw an sv dv n0 n1 n2 n3 n4 g0 gs gn gm) ([((xa 5), .inl (X.2.1, 3, .inl fr))]))) sz) (va_A (@HAppend.hAppend va_W va_W va_W _ (xW h0 nw sp xa la lb) (@HAppend.hAppend va_W va_W va_W _ (rcV X nw an sv dv n0 n1 n2 n3 n4 g0 gs gn gm) ([((xa 5), .inl (X.2.1, 3, .inl fr))]))) sz) s (@HAppend.hAppend va_W va_W va_W _ (rcV X nw an sv dv n0 n1 n2 n3 n4 g0 gs gn gm) (@HAppend.hAppend va_W va_W va_W _ (xW h0 nw sp xa la lb) ([((xa 5), .inl (X.2.1, 3, .inl f_17))]))) H locs := G
    exact e_int S zr zlk (vp_nar_int _) G (f_17) [16, 0, 1, 2, 3, 4, 5, 6, 7, 8, 9, 10, 11, 12, 13, 14, 15, 17] rfl rfl (Or.inr rfl) (trivial) dX10_strong_23
theorem in_X10_part_X10 : ∀ w ∈ wsX100, w ∈ wsX10_part := by decide +kernel
theorem lk_X10_part_42 : Cond.fieldLink RX10 42 "EggSpoons" "below" "J" ∈ wsX10_part := by decide +kernel
theorem lk_X10_part_38 : Cond.fieldLink RX10 38 "EggSpoons" "above" "J" ∈ wsX10_part := by decide +kernel
set_option maxHeartbeats 4000000 in
set_option maxRecDepth 100000 in
/-- part -/
theorem s_part (l : Launch) (X : EX) (h0 : Nat) (nw : Nat) (sp : Nat) (xa : Nat → Nat) (la : Int64) (lb : Int64) (fr : Nat → Int32) (x1 : Int32) (sz : Nat) : Met l yX10_part wsX10_part ({ frames := 1, cells := 0, slots := 0, locals := 22 } : Room) (pE X [.ref h0, .int x1] (@HAppend.hAppend va_W va_W va_W _ (xW h0 nw sp xa la lb) ([((xa 5), .inl (X.2.1, 3, .inl fr))])) sz) (qL (fun (r : Int64) (u : (Nat → Int32)) => (True)) X (fun (u : (Nat → Int32)) => @HAppend.hAppend va_W va_W va_W _ (xW h0 nw sp xa la lb) ([((xa 5), .inl (X.2.1, 3, .inl u))])) (@HAppend.hAppend va_W va_W va_W _ (xW h0 nw sp xa la lb) ([((xa 5), .inl (X.2.1, 3, .inl fr))])) sz) 0 0 (va_A (@HAppend.hAppend va_W va_W va_W _ (xW h0 nw sp xa la lb) ([((xa 5), .inl (X.2.1, 3, .inl fr))])) sz) := by
  refine mk_met (B := (va_A (@HAppend.hAppend va_W va_W va_W _ (xW h0 nw sp xa la lb) ([((xa 5), .inl (X.2.1, 3, .inl fr))])) sz)) (A := (va_A (@HAppend.hAppend va_W va_W va_W _ (xW h0 nw sp xa la lb) ([((xa 5), .inl (X.2.1, 3, .inl fr))])) sz)) (cc := cX10_part) (maxL := 2) (ret := (some .long)) (by decide) rfl (Nat.le_of_ble_eq_true rfl) k_w k_a (fun p e s m below meth c S zr zlk znm zsz G ls hl => ?_)
  have S : CallFix p m c cX10_part 2 s _ wsX10_part RX10 := S
  have zx := S.1
  have zb := S.2.1
  have hl : lv_has ls 2 [(0, .ref h0), (1, .int x1)] := hl
  refine lv_iload_n zx zb dX10_part_0 rfl (lv_at hl 1 rfl) ?_
  refine lv_iconst (v := 0) zx zb dX10_part_1 (by decide) ?_
  refine lv_iconst (v := 1) zx zb dX10_part_2 (by decide) ?_
  refine o_ri (cells' := 0) (slots' := 0) G rfl rfl (n_S (As := [.int x1, .int 0, .int 1]) (rest := []) S G (s_within l X x1 0 1 s.heap.size) gX10_part_X10_within rfl rfl rfl hdS_X10_within ⟨Nat.le_of_ble_eq_true rfl, Nat.le_of_ble_eq_true rfl⟩ [] rfl rfl rfl hl.1 (Nat.le_of_ble_eq_true rfl) dX10_part_3 ⟨Nat.le_of_ble_eq_true rfl, Nat.le_of_ble_eq_true rfl⟩) (fun r_1 u_1 H locs hp_1 G => ?_)
  have G : wd X (va_A (@HAppend.hAppend va_W va_W va_W _ (xW h0 nw sp xa la lb) ([((xa 5), .inl (X.2.1, 3, .inl fr))])) sz) (va_A (@HAppend.hAppend va_W va_W va_W _ (xW h0 nw sp xa la lb) ([((xa 5), .inl (X.2.1, 3, .inl fr))])) sz) s (@HAppend.hAppend va_W va_W va_W _ (xW h0 nw sp xa la lb) ([((xa 5), .inl (X.2.1, 3, .inl fr))])) H locs := G
  rcases hp_1 with ⟨rfl, hw_1⟩ | ⟨rfl, hw_1⟩
  · refine lv_if_ne (tgt := 17) zx zb dX10_part_6 (by decide) (fun c_2 => ?_) (fun c_2 => absurd c_2 (by decide))
    refine lv_iload_n zx zb dX10_part_17 rfl (lv_at hl 1 rfl) ?_
    refine k_cutW (PP := fun Wx => ∀ (x_4 : Int64) (H : Heap) (locs : List Loc) (ls : Array Slot), wd X (va_A (@HAppend.hAppend va_W va_W va_W _ (xW h0 nw sp xa la lb) ([((xa 5), .inl (X.2.1, 3, .inl fr))])) sz) (va_A (@HAppend.hAppend va_W va_W va_W _ (xW h0 nw sp xa la lb) ([((xa 5), .inl (X.2.1, 3, .inl fr))])) sz) s (@HAppend.hAppend va_W va_W va_W _ (xW h0 nw sp xa la lb) ([((xa 5), .inl (X.2.1, 3, .inl fr))])) H locs → lv_has ls 2 [(0, .ref h0), (1, .int x1)] → Wx (F0 m 32 ls [.long x_4]) H locs) ?_ ?_
    · intro join_18
      refine lv_if_ne (tgt := 28) zx zb dX10_part_18 (by decide) (fun c_3 => ?_) (fun c_3 => ?_)
      · refine lv_aload_n zx zb dX10_part_28 rfl (lv_at hl 0 rfl) ?_
        refine r_get (C := RX10) (T := TX10) (N := 14) (ci := 8) (v := .long lb) S in_X10_part_X10 G 0 rfl rfl 7 (by decide) lk_X10_part_42 rfl dX10_part_29 ?_
        exact join_18 lb _ _ _  G hl
      · refine lv_aload_n zx zb dX10_part_21 rfl (lv_at hl 0 rfl) ?_
        refine r_get (C := RX10) (T := TX10) (N := 14) (ci := 8) (v := .long la) S in_X10_part_X10 G 0 rfl rfl 6 (by decide) lk_X10_part_38 rfl dX10_part_22 ?_
        refine lv_goto (tgt := 32) zx zb dX10_part_25 (by decide) ?_
        exact join_18 la _ _ _  G hl
    · intro x_4 H locs ls  G hl
      exact e_long S zr zlk G (fr) [0, 1] rfl rfl (Or.inr rfl) (trivial) dX10_part_32
  · refine lv_if_ne (tgt := 17) zx zb dX10_part_6 (by decide) (fun c_5 => absurd (by decide) c_5) (fun c_5 => ?_)
    refine lv_aload_n zx zb dX10_part_9 rfl (lv_at hl 0 rfl) ?_
    refine lv_bipush (v := (-2)) zx zb dX10_part_10 (by decide) ?_
    refine b_wi (cells' := 0) (slots' := 0) (wr := []) G rfl rfl [0, 1] [] rfl rfl rfl rfl (n_V (As := [.int (-2)]) (rest := []) (C := RX10) (T := TX10) (N := 14) (ci := 8) S G (s_refuse l X h0 nw sp xa la lb fr (-2) H.size) gX10_part_X10_refuse rfl rfl rfl hdV_X10_refuse ⟨Nat.le_of_ble_eq_true rfl, Nat.le_of_ble_eq_true rfl⟩ [0, 1] rfl rfl 0 rfl rfl rfl hl.1 (Nat.le_of_ble_eq_true rfl) dX10_part_12 ⟨Nat.le_of_ble_eq_true rfl, Nat.le_of_ble_eq_true rfl⟩) (fun r_6 u_6 H locs hp_6 G => ?_)
    obtain ⟨f_6, rfl⟩ : ∃ z, z = u_6 := ⟨_, rfl⟩
    have hq_6 := hp_6
    have G : wd X (va_A (@HAppend.hAppend va_W va_W va_W _ (xW h0 nw sp xa la lb) ([((xa 5), .inl (X.2.1, 3, .inl fr))])) sz) (va_A (@HAppend.hAppend va_W va_W va_W _ (xW h0 nw sp xa la lb) ([((xa 5), .inl (X.2.1, 3, .inl fr))])) sz) s (@HAppend.hAppend va_W va_W va_W _ (xW h0 nw sp xa la lb) ([((xa 5), .inl (X.2.1, 3, .inl f_6))])) H locs := G
    refine lv_i2l (v := (Int32.toInt64 r_6)) zx zb dX10_part_15 rfl ?_
    exact e_long S zr zlk G (f_6) [0, 1] rfl rfl (Or.inr rfl) (trivial) dX10_part_16
theorem in_X10_status_X10 : ∀ w ∈ wsX100, w ∈ wsX10_status := by decide +kernel
theorem lk_X10_status_34 : Cond.fieldLink RX10 34 "EggSpoons" "refused" "[I" ∈ wsX10_status := by decide +kernel
set_option maxHeartbeats 4000000 in
set_option maxRecDepth 100000 in
/-- status -/
theorem s_status (l : Launch) (X : EX) (h0 : Nat) (nw : Nat) (sp : Nat) (xa : Nat → Nat) (la : Int64) (lb : Int64) (fr : Nat → Int32) (x1 : Int32) (sz : Nat) : Met l yX10_status wsX10_status ({ frames := 1, cells := 0, slots := 0, locals := 22 } : Room) (pE X [.ref h0, .int x1] (@HAppend.hAppend va_W va_W va_W _ (xW h0 nw sp xa la lb) ([((xa 5), .inl (X.2.1, 3, .inl fr))])) sz) (qI (fun (r : Int32) (u : (Nat → Int32)) => (True)) X (fun (u : (Nat → Int32)) => @HAppend.hAppend va_W va_W va_W _ (xW h0 nw sp xa la lb) ([((xa 5), .inl (X.2.1, 3, .inl u))])) (@HAppend.hAppend va_W va_W va_W _ (xW h0 nw sp xa la lb) ([((xa 5), .inl (X.2.1, 3, .inl fr))])) sz) 0 0 (va_A (@HAppend.hAppend va_W va_W va_W _ (xW h0 nw sp xa la lb) ([((xa 5), .inl (X.2.1, 3, .inl fr))])) sz) := by
  refine mk_met (B := (va_A (@HAppend.hAppend va_W va_W va_W _ (xW h0 nw sp xa la lb) ([((xa 5), .inl (X.2.1, 3, .inl fr))])) sz)) (A := (va_A (@HAppend.hAppend va_W va_W va_W _ (xW h0 nw sp xa la lb) ([((xa 5), .inl (X.2.1, 3, .inl fr))])) sz)) (cc := cX10_status) (maxL := 2) (ret := (some .int)) (by decide) rfl (Nat.le_of_ble_eq_true rfl) k_w k_a (fun p e s m below meth c S zr zlk znm zsz G ls hl => ?_)
  have S : CallFix p m c cX10_status 2 s _ wsX10_status RX10 := S
  have zx := S.1
  have zb := S.2.1
  have hl : lv_has ls 2 [(0, .ref h0), (1, .int x1)] := hl
  refine lv_iload_n zx zb dX10_status_0 rfl (lv_at hl 1 rfl) ?_
  refine lv_iconst (v := 0) zx zb dX10_status_1 (by decide) ?_
  refine lv_iconst (v := 2) zx zb dX10_status_2 (by decide) ?_
  refine o_ri (cells' := 0) (slots' := 0) G rfl rfl (n_S (As := [.int x1, .int 0, .int 2]) (rest := []) S G (s_within l X x1 0 2 s.heap.size) gX10_status_X10_within rfl rfl rfl hdS_X10_within ⟨Nat.le_of_ble_eq_true rfl, Nat.le_of_ble_eq_true rfl⟩ [] rfl rfl rfl hl.1 (Nat.le_of_ble_eq_true rfl) dX10_status_3 ⟨Nat.le_of_ble_eq_true rfl, Nat.le_of_ble_eq_true rfl⟩) (fun r_1 u_1 H locs hp_1 G => ?_)
  have G : wd X (va_A (@HAppend.hAppend va_W va_W va_W _ (xW h0 nw sp xa la lb) ([((xa 5), .inl (X.2.1, 3, .inl fr))])) sz) (va_A (@HAppend.hAppend va_W va_W va_W _ (xW h0 nw sp xa la lb) ([((xa 5), .inl (X.2.1, 3, .inl fr))])) sz) s (@HAppend.hAppend va_W va_W va_W _ (xW h0 nw sp xa la lb) ([((xa 5), .inl (X.2.1, 3, .inl fr))])) H locs := G
  rcases hp_1 with ⟨rfl, hw_1⟩ | ⟨rfl, hw_1⟩
  · refine lv_if_ne (tgt := 18) zx zb dX10_status_6 (by decide) (fun c_2 => ?_) (fun c_2 => absurd c_2 (by decide))
    refine lv_aload_n zx zb dX10_status_18 rfl (lv_at hl 0 rfl) ?_
    refine r_get (C := RX10) (T := TX10) (N := 14) (ci := 8) (v := .ref (xa 5)) S in_X10_status_X10 G 0 rfl rfl 5 (by decide) lk_X10_status_34 rfl dX10_status_19 ?_
    refine lv_iload_n zx zb dX10_status_22 rfl (lv_at hl 1 rfl) ?_
    refine r_iald S G 1 rfl (k_in02 hw_1) rfl dX10_status_23 ?_
    refine k_itE (fun y_3 => ?_)
    exact e_int S zr zlk (vp_nar_int _) G (fr) [0, 1] rfl rfl (Or.inr rfl) (trivial) dX10_status_24
  · refine lv_if_ne (tgt := 18) zx zb dX10_status_6 (by decide) (fun c_4 => absurd (by decide) c_4) (fun c_4 => ?_)
    refine lv_aload_n zx zb dX10_status_9 rfl (lv_at hl 0 rfl) ?_
    refine lv_bipush (v := (-2)) zx zb dX10_status_10 (by decide) ?_
    refine b_wi (cells' := 0) (slots' := 0) (wr := []) G rfl rfl [0, 1] [] rfl rfl rfl rfl (n_V (As := [.int (-2)]) (rest := []) (C := RX10) (T := TX10) (N := 14) (ci := 8) S G (s_refuse l X h0 nw sp xa la lb fr (-2) H.size) gX10_status_X10_refuse rfl rfl rfl hdV_X10_refuse ⟨Nat.le_of_ble_eq_true rfl, Nat.le_of_ble_eq_true rfl⟩ [0, 1] rfl rfl 0 rfl rfl rfl hl.1 (Nat.le_of_ble_eq_true rfl) dX10_status_12 ⟨Nat.le_of_ble_eq_true rfl, Nat.le_of_ble_eq_true rfl⟩) (fun r_5 u_5 H locs hp_5 G => ?_)
    obtain ⟨f_5, rfl⟩ : ∃ z, z = u_5 := ⟨_, rfl⟩
    have hq_5 := hp_5
    have G : wd X (va_A (@HAppend.hAppend va_W va_W va_W _ (xW h0 nw sp xa la lb) ([((xa 5), .inl (X.2.1, 3, .inl fr))])) sz) (va_A (@HAppend.hAppend va_W va_W va_W _ (xW h0 nw sp xa la lb) ([((xa 5), .inl (X.2.1, 3, .inl fr))])) sz) s (@HAppend.hAppend va_W va_W va_W _ (xW h0 nw sp xa la lb) ([((xa 5), .inl (X.2.1, 3, .inl f_5))])) H locs := G
    refine lv_pop zx zb dX10_status_15 rfl ?_
    refine lv_iconst (v := (-1)) zx zb dX10_status_16 (by decide) ?_
    exact e_int S zr zlk (vp_nar_int _) G (f_5) [0, 1] rfl rfl (Or.inr rfl) (trivial) dX10_status_17
theorem in_X10_ticks_X10 : ∀ w ∈ wsX100, w ∈ wsX10_ticks := by decide +kernel
theorem lk_X10_ticks_10 : Cond.fieldLink RX10 10 "EggSpoons" "now" "LEggSpoons$Race;" ∈ wsX10_ticks := by decide +kernel
theorem in_X10_ticks_X5 : ∀ w ∈ wsX50, w ∈ wsX10_ticks := by decide +kernel
theorem lk_X10_ticks_110 : Cond.fieldLink RX10 110 "EggSpoons$Race" "tick" "I" ∈ wsX10_ticks := by decide +kernel
theorem hdV_X5_goOn : yX5_goOn.cls = RX5 ∧ yX5_goOn.cls ≠ "java/lang/invoke/MethodHandle" ∧ yX5_goOn.cls ≠ "java/lang/invoke/VarHandle" ∧ (parseMethodDescriptor yX5_goOn.desc).map (fun d => d.parameters.length) = some 0 := by decide +kernel
theorem hdV_X5_homes : yX5_homes.cls = RX5 ∧ yX5_homes.cls ≠ "java/lang/invoke/MethodHandle" ∧ yX5_homes.cls ≠ "java/lang/invoke/VarHandle" ∧ (parseMethodDescriptor yX5_homes.desc).map (fun d => d.parameters.length) = some 0 := by decide +kernel
set_option maxHeartbeats 4000000 in
set_option maxRecDepth 100000 in
/-- ticks -/
theorem s_ticks (l : Launch) (X : EX) (h0 : Nat) (nw : Nat) (sp : Nat) (xa : Nat → Nat) (la : Int64) (lb : Int64) (an : Nat → Nat) (sv : Nat → Int32) (dv : Nat → Int32) (n0 : Nat) (n1 : Nat) (n2 : Nat) (n3 : Nat) (n4 : Nat) (g0 : Nat → Int32) (gs : Nat → Int32) (gn : Nat → Int32) (gm : Nat → Int32) (fr : Nat → Int32) (x1 : Int32) (hI_n0 : n0 ≤ 6) (hI_n1 : n1 ≤ 8) (hI_n2 : n2 ≤ 5) (hI_n3 : n3 ≤ 6) (hI_n4 : n4 ≤ 6) (sz : Nat) : Met l yX10_ticks wsX10_ticks ({ frames := 3, cells := 0, slots := 0, locals := 105 } : Room) (pE X [.ref h0, .int x1] (@HAppend.hAppend va_W va_W va_W _ (xW h0 nw sp xa la lb) (@HAppend.hAppend va_W va_W va_W _ (rcV X nw an sv dv n0 n1 n2 n3 n4 g0 gs gn gm) ([((xa 5), .inl (X.2.1, 3, .inl fr))]))) sz) (qI (fun (r : Int32) (u : (Nat → Int32) × (Nat) × (Nat → Int32) × (Nat → Int32)) => u.2.1 ≤ 8 ∧ (True)) X (fun (u : (Nat → Int32) × (Nat) × (Nat → Int32) × (Nat → Int32)) => @HAppend.hAppend va_W va_W va_W _ (xW h0 nw sp xa la lb) (@HAppend.hAppend va_W va_W va_W _ (rcV X nw an sv u.1 n0 u.2.1 n2 n3 n4 u.2.2.1 gs gn gm) ([((xa 5), .inl (X.2.1, 3, .inl u.2.2.2))]))) (@HAppend.hAppend va_W va_W va_W _ (xW h0 nw sp xa la lb) (@HAppend.hAppend va_W va_W va_W _ (rcV X nw an sv dv n0 n1 n2 n3 n4 g0 gs gn gm) ([((xa 5), .inl (X.2.1, 3, .inl fr))]))) sz) 0 0 (va_A (@HAppend.hAppend va_W va_W va_W _ (xW h0 nw sp xa la lb) (@HAppend.hAppend va_W va_W va_W _ (rcV X nw an sv dv n0 n1 n2 n3 n4 g0 gs gn gm) ([((xa 5), .inl (X.2.1, 3, .inl fr))]))) sz) := by
  refine mk_met (B := (va_A (@HAppend.hAppend va_W va_W va_W _ (xW h0 nw sp xa la lb) (@HAppend.hAppend va_W va_W va_W _ (rcV X nw an sv dv n0 n1 n2 n3 n4 g0 gs gn gm) ([((xa 5), .inl (X.2.1, 3, .inl fr))]))) sz)) (A := (va_A (@HAppend.hAppend va_W va_W va_W _ (xW h0 nw sp xa la lb) (@HAppend.hAppend va_W va_W va_W _ (rcV X nw an sv dv n0 n1 n2 n3 n4 g0 gs gn gm) ([((xa 5), .inl (X.2.1, 3, .inl fr))]))) sz)) (cc := cX10_ticks) (maxL := 3) (ret := (some .int)) (by decide) rfl (Nat.le_of_ble_eq_true rfl) k_w k_a (fun p e s m below meth c S zr zlk znm zsz G ls hl => ?_)
  have S : CallFix p m c cX10_ticks 3 s _ wsX10_ticks RX10 := S
  have zx := S.1
  have zb := S.2.1
  have hl : lv_has ls 3 [(0, .ref h0), (1, .int x1)] := hl
  refine lv_iload_n zx zb dX10_ticks_0 rfl (lv_at hl 1 rfl) ?_
  refine lv_iconst (v := 1) zx zb dX10_ticks_1 (by decide) ?_
  refine lv_bipush (v := 60) zx zb dX10_ticks_2 (by decide) ?_
  refine o_ri (cells' := 0) (slots' := 0) G rfl rfl (n_S (As := [.int x1, .int 1, .int 60]) (rest := []) S G (s_within l X x1 1 60 s.heap.size) gX10_ticks_X10_within rfl rfl rfl hdS_X10_within ⟨Nat.le_of_ble_eq_true rfl, Nat.le_of_ble_eq_true rfl⟩ [] rfl rfl rfl hl.1 (Nat.le_of_ble_eq_true rfl) dX10_ticks_4 ⟨Nat.le_of_ble_eq_true rfl, Nat.le_of_ble_eq_true rfl⟩) (fun r_1 u_1 H locs hp_1 G => ?_)
  have G : wd X (va_A (@HAppend.hAppend va_W va_W va_W _ (xW h0 nw sp xa la lb) (@HAppend.hAppend va_W va_W va_W _ (rcV X nw an sv dv n0 n1 n2 n3 n4 g0 gs gn gm) ([((xa 5), .inl (X.2.1, 3, .inl fr))]))) sz) (va_A (@HAppend.hAppend va_W va_W va_W _ (xW h0 nw sp xa la lb) (@HAppend.hAppend va_W va_W va_W _ (rcV X nw an sv dv n0 n1 n2 n3 n4 g0 gs gn gm) ([((xa 5), .inl (X.2.1, 3, .inl fr))]))) sz) s (@HAppend.hAppend va_W va_W va_W _ (xW h0 nw sp xa la lb) (@HAppend.hAppend va_W va_W va_W _ (rcV X nw an sv dv n0 n1 n2 n3 n4 g0 gs gn gm) ([((xa 5), .inl (X.2.1, 3, .inl fr))]))) H locs := G
  rcases hp_1 with ⟨rfl, hw_1⟩ | ⟨rfl, hw_1⟩
  · refine lv_if_ne (tgt := 17) zx zb dX10_ticks_7 (by decide) (fun c_2 => ?_) (fun c_2 => absurd c_2 (by decide))
    refine lv_aload_n zx zb dX10_ticks_17 rfl (lv_at hl 0 rfl) ?_
    refine r_get (C := RX10) (T := TX10) (N := 14) (ci := 8) (v := .ref nw) S in_X10_ticks_X10 G 0 rfl rfl 0 (by decide) lk_X10_ticks_10 rfl dX10_ticks_18 ?_
    refine r_get (C := RX5) (T := TX5) (N := 8) (ci := 3) (v := .int (dv 1)) S in_X10_ticks_X5 G 1 rfl rfl 1 (by decide) lk_X10_ticks_110 rfl dX10_ticks_21 ?_
    refine lv_sipush (v := 9999) zx zb dX10_ticks_24 (by decide) ?_
    refine k_cutW (PP := fun Wx => ∀ (n1_4 : Nat) (g0_5 : Nat → Int32) (H : Heap) (locs : List Loc) (ls : Array Slot), n1_4 ≤ 8 → wd X (va_A (@HAppend.hAppend va_W va_W va_W _ (xW h0 nw sp xa la lb) (@HAppend.hAppend va_W va_W va_W _ (rcV X nw an sv dv n0 n1 n2 n3 n4 g0 gs gn gm) ([((xa 5), .inl (X.2.1, 3, .inl fr))]))) sz) (va_A (@HAppend.hAppend va_W va_W va_W _ (xW h0 nw sp xa la lb) (@HAppend.hAppend va_W va_W va_W _ (rcV X nw an sv dv n0 n1 n2 n3 n4 g0 gs gn gm) ([((xa 5), .inl (X.2.1, 3, .inl fr))]))) sz) s (@HAppend.hAppend va_W va_W va_W _ (xW h0 nw sp xa la lb) (@HAppend.hAppend va_W va_W va_W _ (rcV X nw an sv dv n0 n1_4 n2 n3 n4 g0_5 gs gn gm) ([((xa 5), .inl (X.2.1, 3, .inl fr))]))) H locs → lv_has ls 3 [(0, .ref h0), (1, .int x1)] → Wx (F0 m 37 ls []) H locs) ?_ ?_
    · intro join_27
      refine lv_icmp_ge (tgt := 37) zx zb dX10_ticks_27 (by decide) (fun c_3 => ?_) (fun c_3 => ?_)
      · exact join_27 n1 g0 _ _ _ hI_n1 G hl
      · refine lv_aload_n zx zb dX10_ticks_30 rfl (lv_at hl 0 rfl) ?_
        refine r_get (C := RX10) (T := TX10) (N := 14) (ci := 8) (v := .ref nw) S in_X10_ticks_X10 G 0 rfl rfl 0 (by decide) lk_X10_ticks_10 rfl dX10_ticks_31 ?_
        refine b_wv (cells' := 0) (slots' := 0) (wr := @HAppend.hAppend va_W va_W va_W _ (xW h0 nw sp xa la lb) ([((xa 5), .inl (X.2.1, 3, .inl fr))])) G rfl rfl [1, 2, 3, 4, 5, 6, 7, 8, 9, 10, 11, 12, 13, 14, 15, 16] [0, 17] rfl rfl rfl rfl (n_V (As := []) (rest := []) (C := RX5) (T := TX5) (N := 8) (ci := 3) S G (s_keep l X nw an sv dv n0 n1 n2 n3 n4 g0 gs gn gm hI_n0 hI_n1 hI_n2 hI_n3 hI_n4 H.size) gX10_ticks_X5_keep rfl rfl rfl hdV_X5_keep ⟨Nat.le_of_ble_eq_true rfl, Nat.le_of_ble_eq_true rfl⟩ [1, 2, 3, 4, 5, 6, 7, 8, 9, 10, 11, 12, 13, 14, 15, 16] rfl rfl 1 rfl rfl rfl hl.1 (Nat.le_of_ble_eq_true rfl) dX10_ticks_34 ⟨Nat.le_of_ble_eq_true rfl, Nat.le_of_ble_eq_true rfl⟩) (fun u_6 H locs hp_6 G => ?_)
        obtain ⟨n1_6a, g0_6b⟩ := u_6
        try dsimp only at hp_6
        obtain ⟨hI_n1_6a, hq_6⟩ := hp_6
        have G : wd X (va_A (@HAppend.hAppend va_W va_W va_W _ (xW h0 nw sp xa la lb) (@HAppend.hAppend va_W va_W va_W _ (rcV X nw an sv dv n0 n1 n2 n3 n4 g0 gs gn gm) ([((xa 5), .inl (X.2.1, 3, .inl fr))]))) sz) (va_A (@HAppend.hAppend va_W va_W va_W _ (xW h0 nw sp xa la lb) (@HAppend.hAppend va_W va_W va_W _ (rcV X nw an sv dv n0 n1 n2 n3 n4 g0 gs gn gm) ([((xa 5), .inl (X.2.1, 3, .inl fr))]))) sz) s (@HAppend.hAppend va_W va_W va_W _ (xW h0 nw sp xa la lb) (@HAppend.hAppend va_W va_W va_W _ ([((xa 5), .inl (X.2.1, 3, .inl fr))]) (rcV X nw an sv dv n0 n1_6a n2 n3 n4 g0_6b gs gn gm))) H locs := G
        have G : wd X (va_A (@HAppend.hAppend va_W va_W va_W _ (xW h0 nw sp xa la lb) (@HAppend.hAppend va_W va_W va_W _ (rcV X nw an sv dv n0 n1 n2 n3 n4 g0 gs gn gm) ([((xa 5), .inl (X.2.1, 3, .inl fr))]))) sz) (va_A (@HAppend.hAppend va_W va_W va_W _ (xW h0 nw sp xa la lb) (@HAppend.hAppend va_W va_W va_W _ (rcV X nw an sv dv n0 n1 n2 n3 n4 g0 gs gn gm) ([((xa 5), .inl (X.2.1, 3, .inl fr))]))) sz) s (@HAppend.hAppend va_W va_W va_W _ (xW h0 nw sp xa la lb) (@HAppend.hAppend va_W va_W va_W _ (rcV X nw an sv dv n0 n1_6a n2 n3 n4 g0_6b gs gn gm) ([((xa 5), .inl (X.2.1, 3, .inl fr))]))) H locs := wd_sub G [0, 2, 3, 4, 5, 6, 7, 8, 9, 10, 11, 12, 13, 14, 15, 16, 17, 1] rfl rfl
        exact join_27 n1_6a g0_6b _ _ _ hI_n1_6a G hl
    · intro n1_4 g0_5 H locs ls hI_n1_4 G hl
      refine lv_iconst (v := 0) zx zb dX10_ticks_37 (by decide) ?_
      refine lv_istore_n (lv' := [(2, .int 0), (0, .ref h0), (1, .int x1)]) zx zb dX10_ticks_38 rfl hl (by decide) rfl (fun ls hl => ?_)
      refine k_loop (P := ∀ (zm : Nat) (k39 : Nat) (dv39_1 : Nat → Int32) (H : Heap) (locs : List Loc) (ls : Array Slot), 61 + 1 ≤ k39 + zm → (k39 ≤ 61) → wd X (va_A (@HAppend.hAppend va_W va_W va_W _ (xW h0 nw sp xa la lb) (@HAppend.hAppend va_W va_W va_W _ (rcV X nw an sv dv n0 n1 n2 n3 n4 g0 gs gn gm) ([((xa 5), .inl (X.2.1, 3, .inl fr))]))) sz) (va_A (@HAppend.hAppend va_W va_W va_W _ (xW h0 nw sp xa la lb) (@HAppend.hAppend va_W va_W va_W _ (rcV X nw an sv dv n0 n1 n2 n3 n4 g0 gs gn gm) ([((xa 5), .inl (X.2.1, 3, .inl fr))]))) sz) s (@HAppend.hAppend va_W va_W va_W _ (xW h0 nw sp xa la lb) (@HAppend.hAppend va_W va_W va_W _ (rcV X nw an sv dv39_1 n0 n1_4 n2 n3 n4 g0_5 gs gn gm) ([((xa 5), .inl (X.2.1, 3, .inl fr))]))) H locs → lv_has ls 3 [(2, .int (nI k39)), (0, .ref h0), (1, .int x1)] → W p l e _ s m _ below meth c H locs _ _ _ (F0 m 39 ls [])) (fun loop => loop (61 + 1) 0 dv _ _ _ (by omega) (by omega) G hl) ?_
      intro zm
      induction zm with
      | zero => intro k39 dv39_1 H locs ls zz q_hk_k39 _ _; exact absurd zz (by omega)
      | succ zm ih39 =>
        intro k39 dv39_1 H locs ls zm_39 hk_k39 G hl
        refine lv_iload_n zx zb dX10_ticks_39 rfl (lv_at hl 0 rfl) ?_
        refine lv_iload_n zx zb dX10_ticks_40 rfl (lv_at hl 2 rfl) ?_
        refine k_cutW (PP := fun Wx => ∀ (H : Heap) (locs : List Loc) (ls : Array Slot), wd X (va_A (@HAppend.hAppend va_W va_W va_W _ (xW h0 nw sp xa la lb) (@HAppend.hAppend va_W va_W va_W _ (rcV X nw an sv dv n0 n1 n2 n3 n4 g0 gs gn gm) ([((xa 5), .inl (X.2.1, 3, .inl fr))]))) sz) (va_A (@HAppend.hAppend va_W va_W va_W _ (xW h0 nw sp xa la lb) (@HAppend.hAppend va_W va_W va_W _ (rcV X nw an sv dv n0 n1 n2 n3 n4 g0 gs gn gm) ([((xa 5), .inl (X.2.1, 3, .inl fr))]))) sz) s (@HAppend.hAppend va_W va_W va_W _ (xW h0 nw sp xa la lb) (@HAppend.hAppend va_W va_W va_W _ (rcV X nw an sv dv39_1 n0 n1_4 n2 n3 n4 g0_5 gs gn gm) ([((xa 5), .inl (X.2.1, 3, .inl fr))]))) H locs → lv_has ls 3 [(2, .int (nI k39)), (0, .ref h0), (1, .int x1)] → Wx (F0 m 70 ls []) H locs) ?_ ?_
        · intro join_41
          refine lv_icmp_ge (tgt := 70) zx zb dX10_ticks_41 (by decide) (fun c_7 => ?_) (fun c_7 => ?_)
          · exact join_41  _ _ _  G hl
          · have fk_c_7 := k_lt60 (Int32.not_le.mp c_7) hw_1.2 (by omega)
            refine lv_aload_n zx zb dX10_ticks_44 rfl (lv_at hl 1 rfl) ?_
            refine r_get (C := RX10) (T := TX10) (N := 14) (ci := 8) (v := .ref nw) S in_X10_ticks_X10 G 0 rfl rfl 0 (by decide) lk_X10_ticks_10 rfl dX10_ticks_45 ?_
            refine r_get (C := RX5) (T := TX5) (N := 8) (ci := 3) (v := .int (dv39_1 1)) S in_X10_ticks_X5 G 1 rfl rfl 1 (by decide) lk_X10_ticks_110 rfl dX10_ticks_48 ?_
            refine lv_sipush (v := 9999) zx zb dX10_ticks_51 (by decide) ?_
            refine lv_icmp_ge (tgt := 70) zx zb dX10_ticks_54 (by decide) (fun c_8 => ?_) (fun c_8 => ?_)
            · exact join_41  _ _ _  G hl
            · refine lv_aload_n zx zb dX10_ticks_57 rfl (lv_at hl 1 rfl) ?_
              refine r_get (C := RX10) (T := TX10) (N := 14) (ci := 8) (v := .ref nw) S in_X10_ticks_X10 G 0 rfl rfl 0 (by decide) lk_X10_ticks_10 rfl dX10_ticks_58 ?_
              refine b_wv (cells' := 0) (slots' := 0) (wr := @HAppend.hAppend va_W va_W va_W _ (xW h0 nw sp xa la lb) ([((xa 5), .inl (X.2.1, 3, .inl fr))])) G rfl rfl [1, 2, 3, 4, 5, 6, 7, 8, 9, 10, 11, 12, 13, 14, 15, 16] [0, 17] rfl rfl rfl rfl (n_V (As := []) (rest := []) (C := RX5) (T := TX5) (N := 8) (ci := 3) S G (s_goOn l X nw an sv dv39_1 n0 n1_4 n2 n3 n4 g0_5 gs gn gm hI_n0 hI_n1_4 hI_n2 hI_n3 hI_n4 H.size) gX10_ticks_X5_goOn rfl rfl rfl hdV_X5_goOn ⟨Nat.le_of_ble_eq_true rfl, Nat.le_of_ble_eq_true rfl⟩ [1, 2, 3, 4, 5, 6, 7, 8, 9, 10, 11, 12, 13, 14, 15, 16] rfl rfl 1 rfl rfl rfl hl.1 (Nat.le_of_ble_eq_true rfl) dX10_ticks_61 ⟨Nat.le_of_ble_eq_true rfl, Nat.le_of_ble_eq_true rfl⟩) (fun u_9 H locs hp_9 G => ?_)
              obtain ⟨dv_9, rfl⟩ : ∃ z, z = u_9 := ⟨_, rfl⟩
              have hq_9 := hp_9
              have G : wd X (va_A (@HAppend.hAppend va_W va_W va_W _ (xW h0 nw sp xa la lb) (@HAppend.hAppend va_W va_W va_W _ (rcV X nw an sv dv n0 n1 n2 n3 n4 g0 gs gn gm) ([((xa 5), .inl (X.2.1, 3, .inl fr))]))) sz) (va_A (@HAppend.hAppend va_W va_W va_W _ (xW h0 nw sp xa la lb) (@HAppend.hAppend va_W va_W va_W _ (rcV X nw an sv dv n0 n1 n2 n3 n4 g0 gs gn gm) ([((xa 5), .inl (X.2.1, 3, .inl fr))]))) sz) s (@HAppend.hAppend va_W va_W va_W _ (xW h0 nw sp xa la lb) (@HAppend.hAppend va_W va_W va_W _ ([((xa 5), .inl (X.2.1, 3, .inl fr))]) (rcV X nw an sv dv_9 n0 n1_4 n2 n3 n4 g0_5 gs gn gm))) H locs := G
              refine lv_iinc (v := (nI (k39 + 1))) (lv' := [(2, .int (nI (k39 + 1))), (0, .ref h0), (1, .int x1)]) zx zb dX10_ticks_64 hl (k := 0) rfl (nI_add k39 1) (by decide) rfl (fun ls hl => ?_)
              refine lv_goto (tgt := 39) zx zb dX10_ticks_67 (by decide) ?_
              have G : wd X (va_A (@HAppend.hAppend va_W va_W va_W _ (xW h0 nw sp xa la lb) (@HAppend.hAppend va_W va_W va_W _ (rcV X nw an sv dv n0 n1 n2 n3 n4 g0 gs gn gm) ([((xa 5), .inl (X.2.1, 3, .inl fr))]))) sz) (va_A (@HAppend.hAppend va_W va_W va_W _ (xW h0 nw sp xa la lb) (@HAppend.hAppend va_W va_W va_W _ (rcV X nw an sv dv n0 n1 n2 n3 n4 g0 gs gn gm) ([((xa 5), .inl (X.2.1, 3, .inl fr))]))) sz) s (@HAppend.hAppend va_W va_W va_W _ (xW h0 nw sp xa la lb) (@HAppend.hAppend va_W va_W va_W _ (rcV X nw an sv dv_9 n0 n1_4 n2 n3 n4 g0_5 gs gn gm) ([((xa 5), .inl (X.2.1, 3, .inl fr))]))) H locs := wd_sub G [0, 2, 3, 4, 5, 6, 7, 8, 9, 10, 11, 12, 13, 14, 15, 16, 17, 1] rfl rfl
              exact ih39 (k39 + 1) dv_9 _ _ _ (by omega) (by omega) G hl
        · intro  H locs ls  G hl
          refine lv_aload_n zx zb dX10_ticks_70 rfl (lv_at hl 1 rfl) ?_
          refine r_get (C := RX10) (T := TX10) (N := 14) (ci := 8) (v := .ref nw) S in_X10_ticks_X10 G 0 rfl rfl 0 (by decide) lk_X10_ticks_10 rfl dX10_ticks_71 ?_
          refine o_ri (cells' := 0) (slots' := 0) G rfl rfl (n_V (As := []) (rest := []) (C := RX5) (T := TX5) (N := 8) (ci := 3) S G (s_homes l X nw an sv dv39_1 n0 n1_4 n2 n3 n4 g0_5 gs gn gm hI_n0 hI_n1_4 hI_n2 hI_n3 hI_n4 H.size) gX10_ticks_X5_homes rfl rfl rfl hdV_X5_homes ⟨Nat.le_of_ble_eq_true rfl, Nat.le_of_ble_eq_true rfl⟩ [1, 2, 3, 4, 5, 6, 7, 8, 9, 10, 11, 12, 13, 14, 15, 16] rfl rfl 1 rfl rfl rfl hl.1 (Nat.le_of_ble_eq_true rfl) dX10_ticks_74 ⟨Nat.le_of_ble_eq_true rfl, Nat.le_of_ble_eq_true rfl⟩) (fun r_10 u_10 H locs hp_10 G => ?_)
          have G : wd X (va_A (@HAppend.hAppend va_W va_W va_W _ (xW h0 nw sp xa la lb) (@HAppend.hAppend va_W va_W va_W _ (rcV X nw an sv dv n0 n1 n2 n3 n4 g0 gs gn gm) ([((xa 5), .inl (X.2.1, 3, .inl fr))]))) sz) (va_A (@HAppend.hAppend va_W va_W va_W _ (xW h0 nw sp xa la lb) (@HAppend.hAppend va_W va_W va_W _ (rcV X nw an sv dv n0 n1 n2 n3 n4 g0 gs gn gm) ([((xa 5), .inl (X.2.1, 3, .inl fr))]))) sz) s (@HAppend.hAppend va_W va_W va_W _ (xW h0 nw sp xa la lb) (@HAppend.hAppend va_W va_W va_W _ (rcV X nw an sv dv39_1 n0 n1_4 n2 n3 n4 g0_5 gs gn gm) ([((xa 5), .inl (X.2.1, 3, .inl fr))]))) H locs := G
          exact e_int S zr zlk (vp_nar_int _) G (dv39_1, n1_4, g0_5, fr) [0, 1, 2, 3, 4, 5, 6, 7, 8, 9, 10, 11, 12, 13, 14, 15, 16, 17] rfl rfl (Or.inr rfl) (⟨hI_n1_4, trivial⟩) dX10_ticks_77
  · refine lv_if_ne (tgt := 17) zx zb dX10_ticks_7 (by decide) (fun c_11 => absurd (by decide) c_11) (fun c_11 => ?_)
    refine lv_aload_n zx zb dX10_ticks_10 rfl (lv_at hl 0 rfl) ?_
    refine lv_bipush (v := (-2)) zx zb dX10_ticks_11 (by decide) ?_
    refine b_wi (cells' := 0) (slots' := 0) (wr := rcV X nw an sv dv n0 n1 n2 n3 n4 g0 gs gn gm) G rfl rfl [0, 17] [1, 2, 3, 4, 5, 6, 7, 8, 9, 10, 11, 12, 13, 14, 15, 16] rfl rfl rfl rfl (n_V (As := [.int (-2)]) (rest := []) (C := RX10) (T := TX10) (N := 14) (ci := 8) S G (s_refuse l X h0 nw sp xa la lb fr (-2) H.size) gX10_ticks_X10_refuse rfl rfl rfl hdV_X10_refuse ⟨Nat.le_of_ble_eq_true rfl, Nat.le_of_ble_eq_true rfl⟩ [0, 17] rfl rfl 0 rfl rfl rfl hl.1 (Nat.le_of_ble_eq_true rfl) dX10_ticks_13 ⟨Nat.le_of_ble_eq_true rfl, Nat.le_of_ble_eq_true rfl⟩) (fun r_12 u_12 H locs hp_12 G => ?_)
    obtain ⟨f_12, rfl⟩ : ∃ z, z = u_12 := ⟨_, rfl⟩
    have hq_12 := hp_12
    have G : wd X (va_A (@HAppend.hAppend va_W va_W va_W _ (xW h0 nw sp xa la lb) (@HAppend.hAppend va_W va_W va_W _ (rcV X nw an sv dv n0 n1 n2 n3 n4 g0 gs gn gm) ([((xa 5), .inl (X.2.1, 3, .inl fr))]))) sz) (va_A (@HAppend.hAppend va_W va_W va_W _ (xW h0 nw sp xa la lb) (@HAppend.hAppend va_W va_W va_W _ (rcV X nw an sv dv n0 n1 n2 n3 n4 g0 gs gn gm) ([((xa 5), .inl (X.2.1, 3, .inl fr))]))) sz) s (@HAppend.hAppend va_W va_W va_W _ (rcV X nw an sv dv n0 n1 n2 n3 n4 g0 gs gn gm) (@HAppend.hAppend va_W va_W va_W _ (xW h0 nw sp xa la lb) ([((xa 5), .inl (X.2.1, 3, .inl f_12))]))) H locs := G
    exact e_int S zr zlk (vp_nar_int _) G (dv, n1, g0, f_12) [16, 0, 1, 2, 3, 4, 5, 6, 7, 8, 9, 10, 11, 12, 13, 14, 15, 17] rfl rfl (Or.inr rfl) (⟨hI_n1, trivial⟩) dX10_ticks_16
theorem in_X4_copyFrom_X4 : ∀ w ∈ wsX40, w ∈ wsX4_copyFrom := by decide +kernel
theorem lk_X4_copyFrom_15 : Cond.fieldLink RX4 15 "EggSpoons$Past" "size" "I" ∈ wsX4_copyFrom := by decide +kernel
theorem lk_X4_copyFrom_11 : Cond.fieldLink RX4 11 "EggSpoons$Past" "cells" "[I" ∈ wsX4_copyFrom := by decide +kernel
theorem mm_X4_copyFrom_ml19 : Cond.methodLink RX4 19 arraycopyName ∈ wsX4_copyFrom := by decide +kernel
theorem mm_X4_copyFrom_cn : Cond.native arraycopyName ∈ wsX4_copyFrom := by decide +kernel
theorem mm_X4_copyFrom_cs : Cond.static arraycopyName ∈ wsX4_copyFrom := by decide +kernel
theorem mm_X4_copyFrom_ci : Cond.initialized "java/lang/System" ∈ wsX4_copyFrom := by decide +kernel
set_option maxHeartbeats 4000000 in
set_option maxRecDepth 100000 in
/-- Past.copyFrom -/
theorem s_pcopy (l : Launch) (X : EX) (h0 : Nat) (c0 : Nat) (k0 : Nat) (f0 : Nat → Int32) (h1 : Nat) (c1 : Nat) (k1 : Nat) (f1 : Nat → Int32) (hI_k0 : k0 ≤ 8) (hI_k1 : k1 ≤ 8) (sz : Nat) : Met l yX4_copyFrom wsX4_copyFrom ({ frames := 1, cells := 0, slots := 0, locals := 60 } : Room) (pE X [.ref h0, .ref h1] (@HAppend.hAppend va_W va_W va_W _ ([(h0, .inr (2, [.ref c0, .int (nI k0)])), (c0, .inl (X.2.1, 248, .inl f0))]) ([(h1, .inr (2, [.ref c1, .int (nI k1)])), (c1, .inl (X.2.1, 248, .inl f1))])) sz) (qV (fun (u : (Nat) × (Nat → Int32)) => u.1 ≤ 8 ∧ (True)) X (fun (u : (Nat) × (Nat → Int32)) => @HAppend.hAppend va_W va_W va_W _ ([(h0, .inr (2, [.ref c0, .int (nI u.1)])), (c0, .inl (X.2.1, 248, .inl u.2))]) ([(h1, .inr (2, [.ref c1, .int (nI k1)])), (c1, .inl (X.2.1, 248, .inl f1))])) (@HAppend.hAppend va_W va_W va_W _ ([(h0, .inr (2, [.ref c0, .int (nI k0)])), (c0, .inl (X.2.1, 248, .inl f0))]) ([(h1, .inr (2, [.ref c1, .int (nI k1)])), (c1, .inl (X.2.1, 248, .inl f1))])) sz) 0 0 (va_A (@HAppend.hAppend va_W va_W va_W _ ([(h0, .inr (2, [.ref c0, .int (nI k0)])), (c0, .inl (X.2.1, 248, .inl f0))]) ([(h1, .inr (2, [.ref c1, .int (nI k1)])), (c1, .inl (X.2.1, 248, .inl f1))])) sz) := by
  refine mk_met (B := (va_A (@HAppend.hAppend va_W va_W va_W _ ([(h0, .inr (2, [.ref c0, .int (nI k0)])), (c0, .inl (X.2.1, 248, .inl f0))]) ([(h1, .inr (2, [.ref c1, .int (nI k1)])), (c1, .inl (X.2.1, 248, .inl f1))])) sz)) (A := (va_A (@HAppend.hAppend va_W va_W va_W _ ([(h0, .inr (2, [.ref c0, .int (nI k0)])), (c0, .inl (X.2.1, 248, .inl f0))]) ([(h1, .inr (2, [.ref c1, .int (nI k1)])), (c1, .inl (X.2.1, 248, .inl f1))])) sz)) (cc := cX4_copyFrom) (maxL := 2) (ret := none) (by decide) rfl (Nat.le_of_ble_eq_true rfl) k_w k_a (fun p e s m below meth c S zr zlk znm zsz G ls hl => ?_)
  have S : CallFix p m c cX4_copyFrom 2 s _ wsX4_copyFrom RX4 := S
  have zx := S.1
  have zb := S.2.1
  have hl : lv_has ls 2 [(0, .ref h0), (1, .ref h1)] := hl
  refine lv_aload_n zx zb dX4_copyFrom_0 rfl (lv_at hl 0 rfl) ?_
  refine lv_aload_n zx zb dX4_copyFrom_1 rfl (lv_at hl 1 rfl) ?_
  refine r_get (C := RX4) (T := TX4) (N := 2) (ci := 2) (v := .int (nI k1)) S in_X4_copyFrom_X4 G 2 rfl rfl 1 (by decide) lk_X4_copyFrom_15 rfl dX4_copyFrom_2 ?_
  refine r_put (C := RX4) (T := TX4) (N := 2) (ci := 2) (v := .int (nI k1)) S in_X4_copyFrom_X4 tyX4_ok nmX4 G 0 rfl rfl 1 (by decide) lk_X4_copyFrom_15 rfl (vp_nar_int _) rfl (Nat.le_of_ble_eq_true rfl) dX4_copyFrom_5 (fun H locs G => ?_)
  obtain ⟨n_1, hI_n_1, hE_n_1, G⟩ : ∃ n_1 : Nat, n_1 ≤ 8 ∧ n_1 = k1 ∧ wd X (va_A (@HAppend.hAppend va_W va_W va_W _ ([(h0, .inr (2, [.ref c0, .int (nI k0)])), (c0, .inl (X.2.1, 248, .inl f0))]) ([(h1, .inr (2, [.ref c1, .int (nI k1)])), (c1, .inl (X.2.1, 248, .inl f1))])) sz) (va_A (@HAppend.hAppend va_W va_W va_W _ ([(h0, .inr (2, [.ref c0, .int (nI k0)])), (c0, .inl (X.2.1, 248, .inl f0))]) ([(h1, .inr (2, [.ref c1, .int (nI k1)])), (c1, .inl (X.2.1, 248, .inl f1))])) sz) s (@HAppend.hAppend va_W va_W va_W _ ([(h0, .inr (2, [.ref c0, .int (nI n_1)])), (c0, .inl (X.2.1, 248, .inl f0))]) ([(h1, .inr (2, [.ref c1, .int (nI k1)])), (c1, .inl (X.2.1, 248, .inl f1))])) H locs := ⟨k1, by omega, rfl, G⟩
  refine lv_aload_n zx zb dX4_copyFrom_8 rfl (lv_at hl 1 rfl) ?_
  refine r_get (C := RX4) (T := TX4) (N := 2) (ci := 2) (v := .ref c1) S in_X4_copyFrom_X4 G 2 rfl rfl 0 (by decide) lk_X4_copyFrom_11 rfl dX4_copyFrom_9 ?_
  refine lv_iconst (v := 0) zx zb dX4_copyFrom_12 (by decide) ?_
  refine lv_aload_n zx zb dX4_copyFrom_13 rfl (lv_at hl 0 rfl) ?_
  refine r_get (C := RX4) (T := TX4) (N := 2) (ci := 2) (v := .ref c0) S in_X4_copyFrom_X4 G 0 rfl rfl 0 (by decide) lk_X4_copyFrom_11 rfl dX4_copyFrom_14 ?_
  refine lv_iconst (v := 0) zx zb dX4_copyFrom_17 (by decide) ?_
  refine lv_aload_n zx zb dX4_copyFrom_18 rfl (lv_at hl 1 rfl) ?_
  refine r_get (C := RX4) (T := TX4) (N := 2) (ci := 2) (v := .int (nI k1)) S in_X4_copyFrom_X4 G 2 rfl rfl 1 (by decide) lk_X4_copyFrom_15 rfl dX4_copyFrom_19 ?_
  refine lv_bipush (v := 31) zx zb dX4_copyFrom_22 (by decide) ?_
  refine r_imul (v := (nI (k1 * 31))) S (pk_mul k1 31) dX4_copyFrom_24 ?_
  refine r_copyN (sp := 0) (dp := 0) (n := (k1 * 31)) S hl.1 G mm_X4_copyFrom_ml19 mm_X4_copyFrom_cn mm_X4_copyFrom_cs mm_X4_copyFrom_ci 3 1 rfl rfl (by omega) (by omega) (by omega) (by omega) (by omega) (Nat.le_of_ble_eq_true rfl) (Nat.le_of_ble_eq_true rfl) dX4_copyFrom_25 (fun cw H locs G => ?_)
  obtain ⟨f_2, G⟩ : ∃ f_2 : Nat → Int32, wd X (va_A (@HAppend.hAppend va_W va_W va_W _ ([(h0, .inr (2, [.ref c0, .int (nI k0)])), (c0, .inl (X.2.1, 248, .inl f0))]) ([(h1, .inr (2, [.ref c1, .int (nI k1)])), (c1, .inl (X.2.1, 248, .inl f1))])) sz) (va_A (@HAppend.hAppend va_W va_W va_W _ ([(h0, .inr (2, [.ref c0, .int (nI k0)])), (c0, .inl (X.2.1, 248, .inl f0))]) ([(h1, .inr (2, [.ref c1, .int (nI k1)])), (c1, .inl (X.2.1, 248, .inl f1))])) sz) s (@HAppend.hAppend va_W va_W va_W _ ([(h0, .inr (2, [.ref c0, .int (nI n_1)])), (c0, .inl (X.2.1, 248, .inl f_2))]) ([(h1, .inr (2, [.ref c1, .int (nI k1)])), (c1, .inl (X.2.1, 248, .inl f1))])) H locs := ⟨_, G⟩
  exact e_void S zr zlk G (n_1, f_2) [0, 1, 2, 3] rfl rfl (Or.inr rfl) (⟨hI_n_1, trivial⟩) dX4_copyFrom_28
theorem in_X7_copyFrom_X7 : ∀ w ∈ wsX70, w ∈ wsX7_copyFrom := by decide +kernel
theorem lk_X7_copyFrom_7 : Cond.fieldLink RX7 7 "EggSpoons$Rows" "size" "I" ∈ wsX7_copyFrom := by decide +kernel
theorem lk_X7_copyFrom_23 : Cond.fieldLink RX7 23 "EggSpoons$Rows" "cells" "[I" ∈ wsX7_copyFrom := by decide +kernel
theorem mm_X7_copyFrom_ml27 : Cond.methodLink RX7 27 Lib.Math.min.name ∈ wsX7_copyFrom := by decide +kernel
theorem mm_X7_copyFrom_msmin : Cond.static Lib.Math.min.name ∈ wsX7_copyFrom := by decide +kernel
theorem mm_X7_copyFrom_mi : Cond.initialized "java/lang/Math" ∈ wsX7_copyFrom := by decide +kernel
theorem mm_X7_copyFrom_mcmin : Cond.code Lib.Math.min.name Lib.Math.min.code 2 (some .int) ∈ wsX7_copyFrom := by decide +kernel
theorem mm_X7_copyFrom_ml33 : Cond.methodLink RX7 33 arraycopyName ∈ wsX7_copyFrom := by decide +kernel
theorem mm_X7_copyFrom_cn : Cond.native arraycopyName ∈ wsX7_copyFrom := by decide +kernel
theorem mm_X7_copyFrom_cs : Cond.static arraycopyName ∈ wsX7_copyFrom := by decide +kernel
theorem mm_X7_copyFrom_ci : Cond.initialized "java/lang/System" ∈ wsX7_copyFrom := by decide +kernel
set_option maxHeartbeats 4000000 in
set_option maxRecDepth 100000 in
/-- Rows.copyFrom -/
theorem s_wcopy0 (l : Launch) (X : EX) (h0 : Nat) (c0 : Nat) (k0 : Nat) (f0 : Nat → Int32) (h1 : Nat) (c1 : Nat) (k1 : Nat) (f1 : Nat → Int32) (hI_k0 : k0 ≤ 5) (hI_k1 : k1 ≤ 5) (sz : Nat) : Met l yX7_copyFrom wsX7_copyFrom ({ frames := 1, cells := 0, slots := 0, locals := 60 } : Room) (pE X [.ref h0, .ref h1] (@HAppend.hAppend va_W va_W va_W _ ([(h0, .inr (5, [.int 5, .int 0, .int 1, .ref c0, .int (nI k0)])), (c0, .inl (X.2.1, 25, .inl f0))]) ([(h1, .inr (5, [.int 5, .int 0, .int 1, .ref c1, .int (nI k1)])), (c1, .inl (X.2.1, 25, .inl f1))])) sz) (qV (fun (u : (Nat) × (Nat → Int32)) => u.1 ≤ 5 ∧ (u.1 = k1)) X (fun (u : (Nat) × (Nat → Int32)) => @HAppend.hAppend va_W va_W va_W _ ([(h0, .inr (5, [.int 5, .int 0, .int 1, .ref c0, .int (nI u.1)])), (c0, .inl (X.2.1, 25, .inl u.2))]) ([(h1, .inr (5, [.int 5, .int 0, .int 1, .ref c1, .int (nI k1)])), (c1, .inl (X.2.1, 25, .inl f1))])) (@HAppend.hAppend va_W va_W va_W _ ([(h0, .inr (5, [.int 5, .int 0, .int 1, .ref c0, .int (nI k0)])), (c0, .inl (X.2.1, 25, .inl f0))]) ([(h1, .inr (5, [.int 5, .int 0, .int 1, .ref c1, .int (nI k1)])), (c1, .inl (X.2.1, 25, .inl f1))])) sz) 0 0 (va_A (@HAppend.hAppend va_W va_W va_W _ ([(h0, .inr (5, [.int 5, .int 0, .int 1, .ref c0, .int (nI k0)])), (c0, .inl (X.2.1, 25, .inl f0))]) ([(h1, .inr (5, [.int 5, .int 0, .int 1, .ref c1, .int (nI k1)])), (c1, .inl (X.2.1, 25, .inl f1))])) sz) := by
  refine mk_met (B := (va_A (@HAppend.hAppend va_W va_W va_W _ ([(h0, .inr (5, [.int 5, .int 0, .int 1, .ref c0, .int (nI k0)])), (c0, .inl (X.2.1, 25, .inl f0))]) ([(h1, .inr (5, [.int 5, .int 0, .int 1, .ref c1, .int (nI k1)])), (c1, .inl (X.2.1, 25, .inl f1))])) sz)) (A := (va_A (@HAppend.hAppend va_W va_W va_W _ ([(h0, .inr (5, [.int 5, .int 0, .int 1, .ref c0, .int (nI k0)])), (c0, .inl (X.2.1, 25, .inl f0))]) ([(h1, .inr (5, [.int 5, .int 0, .int 1, .ref c1, .int (nI k1)])), (c1, .inl (X.2.1, 25, .inl f1))])) sz)) (cc := cX7_copyFrom) (maxL := 2) (ret := none) (by decide) rfl (Nat.le_of_ble_eq_true rfl) k_w k_a (fun p e s m below meth c S zr zlk znm zsz G ls hl => ?_)
  have S : CallFix p m c cX7_copyFrom 2 s _ wsX7_copyFrom RX7 := S
  have zx := S.1
  have zb := S.2.1
  have hl : lv_has ls 2 [(0, .ref h0), (1, .ref h1)] := hl
  refine lv_aload_n zx zb dX7_copyFrom_0 rfl (lv_at hl 0 rfl) ?_
  refine lv_aload_n zx zb dX7_copyFrom_1 rfl (lv_at hl 1 rfl) ?_
  refine r_get (C := RX7) (T := TX7) (N := 5) (ci := 5) (v := .int (nI k1)) S in_X7_copyFrom_X7 G 2 rfl rfl 4 (by decide) lk_X7_copyFrom_7 rfl dX7_copyFrom_2 ?_
  refine r_put (C := RX7) (T := TX7) (N := 5) (ci := 5) (v := .int (nI k1)) S in_X7_copyFrom_X7 tyX7_ok nmX7 G 0 rfl rfl 4 (by decide) lk_X7_copyFrom_7 rfl (vp_nar_int _) rfl (Nat.le_of_ble_eq_true rfl) dX7_copyFrom_5 (fun H locs G => ?_)
  obtain ⟨n_1, hI_n_1, hE_n_1, G⟩ : ∃ n_1 : Nat, n_1 ≤ 5 ∧ n_1 = k1 ∧ wd X (va_A (@HAppend.hAppend va_W va_W va_W _ ([(h0, .inr (5, [.int 5, .int 0, .int 1, .ref c0, .int (nI k0)])), (c0, .inl (X.2.1, 25, .inl f0))]) ([(h1, .inr (5, [.int 5, .int 0, .int 1, .ref c1, .int (nI k1)])), (c1, .inl (X.2.1, 25, .inl f1))])) sz) (va_A (@HAppend.hAppend va_W va_W va_W _ ([(h0, .inr (5, [.int 5, .int 0, .int 1, .ref c0, .int (nI k0)])), (c0, .inl (X.2.1, 25, .inl f0))]) ([(h1, .inr (5, [.int 5, .int 0, .int 1, .ref c1, .int (nI k1)])), (c1, .inl (X.2.1, 25, .inl f1))])) sz) s (@HAppend.hAppend va_W va_W va_W _ ([(h0, .inr (5, [.int 5, .int 0, .int 1, .ref c0, .int (nI n_1)])), (c0, .inl (X.2.1, 25, .inl f0))]) ([(h1, .inr (5, [.int 5, .int 0, .int 1, .ref c1, .int (nI k1)])), (c1, .inl (X.2.1, 25, .inl f1))])) H locs := ⟨k1, by omega, rfl, G⟩
  refine lv_aload_n zx zb dX7_copyFrom_8 rfl (lv_at hl 1 rfl) ?_
  refine r_get (C := RX7) (T := TX7) (N := 5) (ci := 5) (v := .ref c1) S in_X7_copyFrom_X7 G 2 rfl rfl 3 (by decide) lk_X7_copyFrom_23 rfl dX7_copyFrom_9 ?_
  refine lv_iconst (v := 0) zx zb dX7_copyFrom_12 (by decide) ?_
  refine lv_aload_n zx zb dX7_copyFrom_13 rfl (lv_at hl 0 rfl) ?_
  refine r_get (C := RX7) (T := TX7) (N := 5) (ci := 5) (v := .ref c0) S in_X7_copyFrom_X7 G 0 rfl rfl 3 (by decide) lk_X7_copyFrom_23 rfl dX7_copyFrom_14 ?_
  refine lv_iconst (v := 0) zx zb dX7_copyFrom_17 (by decide) ?_
  refine lv_aload_n zx zb dX7_copyFrom_18 rfl (lv_at hl 0 rfl) ?_
  refine r_get (C := RX7) (T := TX7) (N := 5) (ci := 5) (v := .ref c0) S in_X7_copyFrom_X7 G 0 rfl rfl 3 (by decide) lk_X7_copyFrom_23 rfl dX7_copyFrom_19 ?_
  refine r_alen (v := 25) S G 1 0 rfl rfl rfl dX7_copyFrom_22 ?_
  refine lv_aload_n zx zb dX7_copyFrom_23 rfl (lv_at hl 1 rfl) ?_
  refine r_get (C := RX7) (T := TX7) (N := 5) (ci := 5) (v := .int (nI k1)) S in_X7_copyFrom_X7 G 2 rfl rfl 4 (by decide) lk_X7_copyFrom_7 rfl dX7_copyFrom_24 ?_
  refine lv_iconst (v := 5) zx zb dX7_copyFrom_27 (by decide) ?_
  refine r_imul (v := (nI (k1 * 5))) S (pk_mul k1 5) dX7_copyFrom_28 ?_
  refine r_mmin (v := (nI (k1 * 5))) S hl.1 mm_X7_copyFrom_ml27 mm_X7_copyFrom_msmin mm_X7_copyFrom_mi mm_X7_copyFrom_mcmin (Nat.le_of_ble_eq_true rfl) (Nat.le_of_ble_eq_true rfl) (Nat.zero_le _) (Nat.zero_le _) (k_minN (c := 25) (by omega) (by decide)) dX7_copyFrom_29 ?_
  refine r_copyN (sp := 0) (dp := 0) (n := (k1 * 5)) S hl.1 G mm_X7_copyFrom_ml33 mm_X7_copyFrom_cn mm_X7_copyFrom_cs mm_X7_copyFrom_ci 3 1 rfl rfl (by omega) (by omega) (by omega) (by omega) (by omega) (Nat.le_of_ble_eq_true rfl) (Nat.le_of_ble_eq_true rfl) dX7_copyFrom_32 (fun cw H locs G => ?_)
  obtain ⟨f_2, G⟩ : ∃ f_2 : Nat → Int32, wd X (va_A (@HAppend.hAppend va_W va_W va_W _ ([(h0, .inr (5, [.int 5, .int 0, .int 1, .ref c0, .int (nI k0)])), (c0, .inl (X.2.1, 25, .inl f0))]) ([(h1, .inr (5, [.int 5, .int 0, .int 1, .ref c1, .int (nI k1)])), (c1, .inl (X.2.1, 25, .inl f1))])) sz) (va_A (@HAppend.hAppend va_W va_W va_W _ ([(h0, .inr (5, [.int 5, .int 0, .int 1, .ref c0, .int (nI k0)])), (c0, .inl (X.2.1, 25, .inl f0))]) ([(h1, .inr (5, [.int 5, .int 0, .int 1, .ref c1, .int (nI k1)])), (c1, .inl (X.2.1, 25, .inl f1))])) sz) s (@HAppend.hAppend va_W va_W va_W _ ([(h0, .inr (5, [.int 5, .int 0, .int 1, .ref c0, .int (nI n_1)])), (c0, .inl (X.2.1, 25, .inl f_2))]) ([(h1, .inr (5, [.int 5, .int 0, .int 1, .ref c1, .int (nI k1)])), (c1, .inl (X.2.1, 25, .inl f1))])) H locs := ⟨_, G⟩
  exact e_void S zr zlk G (n_1, f_2) [0, 1, 2, 3] rfl rfl (Or.inr rfl) (⟨hI_n_1, by first | omega | (dsimp only; omega)⟩) dX7_copyFrom_35
set_option maxHeartbeats 4000000 in
set_option maxRecDepth 100000 in
/-- Rows.copyFrom -/
theorem s_wcopy1 (l : Launch) (X : EX) (h0 : Nat) (c0 : Nat) (k0 : Nat) (f0 : Nat → Int32) (h1 : Nat) (c1 : Nat) (k1 : Nat) (f1 : Nat → Int32) (hI_k0 : k0 ≤ 6) (hI_k1 : k1 ≤ 6) (sz : Nat) : Met l yX7_copyFrom wsX7_copyFrom ({ frames := 1, cells := 0, slots := 0, locals := 60 } : Room) (pE X [.ref h0, .ref h1] (@HAppend.hAppend va_W va_W va_W _ ([(h0, .inr (5, [.int 6, .int 1, .int 1, .ref c0, .int (nI k0)])), (c0, .inl (X.2.1, 30, .inl f0))]) ([(h1, .inr (5, [.int 6, .int 1, .int 1, .ref c1, .int (nI k1)])), (c1, .inl (X.2.1, 30, .inl f1))])) sz) (qV (fun (u : (Nat) × (Nat → Int32)) => u.1 ≤ 6 ∧ (u.1 = k1)) X (fun (u : (Nat) × (Nat → Int32)) => @HAppend.hAppend va_W va_W va_W _ ([(h0, .inr (5, [.int 6, .int 1, .int 1, .ref c0, .int (nI u.1)])), (c0, .inl (X.2.1, 30, .inl u.2))]) ([(h1, .inr (5, [.int 6, .int 1, .int 1, .ref c1, .int (nI k1)])), (c1, .inl (X.2.1, 30, .inl f1))])) (@HAppend.hAppend va_W va_W va_W _ ([(h0, .inr (5, [.int 6, .int 1, .int 1, .ref c0, .int (nI k0)])), (c0, .inl (X.2.1, 30, .inl f0))]) ([(h1, .inr (5, [.int 6, .int 1, .int 1, .ref c1, .int (nI k1)])), (c1, .inl (X.2.1, 30, .inl f1))])) sz) 0 0 (va_A (@HAppend.hAppend va_W va_W va_W _ ([(h0, .inr (5, [.int 6, .int 1, .int 1, .ref c0, .int (nI k0)])), (c0, .inl (X.2.1, 30, .inl f0))]) ([(h1, .inr (5, [.int 6, .int 1, .int 1, .ref c1, .int (nI k1)])), (c1, .inl (X.2.1, 30, .inl f1))])) sz) := by
  refine mk_met (B := (va_A (@HAppend.hAppend va_W va_W va_W _ ([(h0, .inr (5, [.int 6, .int 1, .int 1, .ref c0, .int (nI k0)])), (c0, .inl (X.2.1, 30, .inl f0))]) ([(h1, .inr (5, [.int 6, .int 1, .int 1, .ref c1, .int (nI k1)])), (c1, .inl (X.2.1, 30, .inl f1))])) sz)) (A := (va_A (@HAppend.hAppend va_W va_W va_W _ ([(h0, .inr (5, [.int 6, .int 1, .int 1, .ref c0, .int (nI k0)])), (c0, .inl (X.2.1, 30, .inl f0))]) ([(h1, .inr (5, [.int 6, .int 1, .int 1, .ref c1, .int (nI k1)])), (c1, .inl (X.2.1, 30, .inl f1))])) sz)) (cc := cX7_copyFrom) (maxL := 2) (ret := none) (by decide) rfl (Nat.le_of_ble_eq_true rfl) k_w k_a (fun p e s m below meth c S zr zlk znm zsz G ls hl => ?_)
  have S : CallFix p m c cX7_copyFrom 2 s _ wsX7_copyFrom RX7 := S
  have zx := S.1
  have zb := S.2.1
  have hl : lv_has ls 2 [(0, .ref h0), (1, .ref h1)] := hl
  refine lv_aload_n zx zb dX7_copyFrom_0 rfl (lv_at hl 0 rfl) ?_
  refine lv_aload_n zx zb dX7_copyFrom_1 rfl (lv_at hl 1 rfl) ?_
  refine r_get (C := RX7) (T := TX7) (N := 5) (ci := 5) (v := .int (nI k1)) S in_X7_copyFrom_X7 G 2 rfl rfl 4 (by decide) lk_X7_copyFrom_7 rfl dX7_copyFrom_2 ?_
  refine r_put (C := RX7) (T := TX7) (N := 5) (ci := 5) (v := .int (nI k1)) S in_X7_copyFrom_X7 tyX7_ok nmX7 G 0 rfl rfl 4 (by decide) lk_X7_copyFrom_7 rfl (vp_nar_int _) rfl (Nat.le_of_ble_eq_true rfl) dX7_copyFrom_5 (fun H locs G => ?_)
  obtain ⟨n_1, hI_n_1, hE_n_1, G⟩ : ∃ n_1 : Nat, n_1 ≤ 6 ∧ n_1 = k1 ∧ wd X (va_A (@HAppend.hAppend va_W va_W va_W _ ([(h0, .inr (5, [.int 6, .int 1, .int 1, .ref c0, .int (nI k0)])), (c0, .inl (X.2.1, 30, .inl f0))]) ([(h1, .inr (5, [.int 6, .int 1, .int 1, .ref c1, .int (nI k1)])), (c1, .inl (X.2.1, 30, .inl f1))])) sz) (va_A (@HAppend.hAppend va_W va_W va_W _ ([(h0, .inr (5, [.int 6, .int 1, .int 1, .ref c0, .int (nI k0)])), (c0, .inl (X.2.1, 30, .inl f0))]) ([(h1, .inr (5, [.int 6, .int 1, .int 1, .ref c1, .int (nI k1)])), (c1, .inl (X.2.1, 30, .inl f1))])) sz) s (@HAppend.hAppend va_W va_W va_W _ ([(h0, .inr (5, [.int 6, .int 1, .int 1, .ref c0, .int (nI n_1)])), (c0, .inl (X.2.1, 30, .inl f0))]) ([(h1, .inr (5, [.int 6, .int 1, .int 1, .ref c1, .int (nI k1)])), (c1, .inl (X.2.1, 30, .inl f1))])) H locs := ⟨k1, by omega, rfl, G⟩
  refine lv_aload_n zx zb dX7_copyFrom_8 rfl (lv_at hl 1 rfl) ?_
  refine r_get (C := RX7) (T := TX7) (N := 5) (ci := 5) (v := .ref c1) S in_X7_copyFrom_X7 G 2 rfl rfl 3 (by decide) lk_X7_copyFrom_23 rfl dX7_copyFrom_9 ?_
  refine lv_iconst (v := 0) zx zb dX7_copyFrom_12 (by decide) ?_
  refine lv_aload_n zx zb dX7_copyFrom_13 rfl (lv_at hl 0 rfl) ?_
  refine r_get (C := RX7) (T := TX7) (N := 5) (ci := 5) (v := .ref c0) S in_X7_copyFrom_X7 G 0 rfl rfl 3 (by decide) lk_X7_copyFrom_23 rfl dX7_copyFrom_14 ?_
  refine lv_iconst (v := 0) zx zb dX7_copyFrom_17 (by decide) ?_
  refine lv_aload_n zx zb dX7_copyFrom_18 rfl (lv_at hl 0 rfl) ?_
  refine r_get (C := RX7) (T := TX7) (N := 5) (ci := 5) (v := .ref c0) S in_X7_copyFrom_X7 G 0 rfl rfl 3 (by decide) lk_X7_copyFrom_23 rfl dX7_copyFrom_19 ?_
  refine r_alen (v := 30) S G 1 0 rfl rfl rfl dX7_copyFrom_22 ?_
  refine lv_aload_n zx zb dX7_copyFrom_23 rfl (lv_at hl 1 rfl) ?_
  refine r_get (C := RX7) (T := TX7) (N := 5) (ci := 5) (v := .int (nI k1)) S in_X7_copyFrom_X7 G 2 rfl rfl 4 (by decide) lk_X7_copyFrom_7 rfl dX7_copyFrom_24 ?_
  refine lv_iconst (v := 5) zx zb dX7_copyFrom_27 (by decide) ?_
  refine r_imul (v := (nI (k1 * 5))) S (pk_mul k1 5) dX7_copyFrom_28 ?_
  refine r_mmin (v := (nI (k1 * 5))) S hl.1 mm_X7_copyFrom_ml27 mm_X7_copyFrom_msmin mm_X7_copyFrom_mi mm_X7_copyFrom_mcmin (Nat.le_of_ble_eq_true rfl) (Nat.le_of_ble_eq_true rfl) (Nat.zero_le _) (Nat.zero_le _) (k_minN (c := 30) (by omega) (by decide)) dX7_copyFrom_29 ?_
  refine r_copyN (sp := 0) (dp := 0) (n := (k1 * 5)) S hl.1 G mm_X7_copyFrom_ml33 mm_X7_copyFrom_cn mm_X7_copyFrom_cs mm_X7_copyFrom_ci 3 1 rfl rfl (by omega) (by omega) (by omega) (by omega) (by omega) (Nat.le_of_ble_eq_true rfl) (Nat.le_of_ble_eq_true rfl) dX7_copyFrom_32 (fun cw H locs G => ?_)
  obtain ⟨f_2, G⟩ : ∃ f_2 : Nat → Int32, wd X (va_A (@HAppend.hAppend va_W va_W va_W _ ([(h0, .inr (5, [.int 6, .int 1, .int 1, .ref c0, .int (nI k0)])), (c0, .inl (X.2.1, 30, .inl f0))]) ([(h1, .inr (5, [.int 6, .int 1, .int 1, .ref c1, .int (nI k1)])), (c1, .inl (X.2.1, 30, .inl f1))])) sz) (va_A (@HAppend.hAppend va_W va_W va_W _ ([(h0, .inr (5, [.int 6, .int 1, .int 1, .ref c0, .int (nI k0)])), (c0, .inl (X.2.1, 30, .inl f0))]) ([(h1, .inr (5, [.int 6, .int 1, .int 1, .ref c1, .int (nI k1)])), (c1, .inl (X.2.1, 30, .inl f1))])) sz) s (@HAppend.hAppend va_W va_W va_W _ ([(h0, .inr (5, [.int 6, .int 1, .int 1, .ref c0, .int (nI n_1)])), (c0, .inl (X.2.1, 30, .inl f_2))]) ([(h1, .inr (5, [.int 6, .int 1, .int 1, .ref c1, .int (nI k1)])), (c1, .inl (X.2.1, 30, .inl f1))])) H locs := ⟨_, G⟩
  exact e_void S zr zlk G (n_1, f_2) [0, 1, 2, 3] rfl rfl (Or.inr rfl) (⟨hI_n_1, by first | omega | (dsimp only; omega)⟩) dX7_copyFrom_35
set_option maxHeartbeats 4000000 in
set_option maxRecDepth 100000 in
/-- Rows.copyFrom -/
theorem s_wcopy2 (l : Launch) (X : EX) (h0 : Nat) (c0 : Nat) (k0 : Nat) (f0 : Nat → Int32) (h1 : Nat) (c1 : Nat) (k1 : Nat) (f1 : Nat → Int32) (hI_k0 : k0 ≤ 6) (hI_k1 : k1 ≤ 6) (sz : Nat) : Met l yX7_copyFrom wsX7_copyFrom ({ frames := 1, cells := 0, slots := 0, locals := 60 } : Room) (pE X [.ref h0, .ref h1] (@HAppend.hAppend va_W va_W va_W _ ([(h0, .inr (5, [.int 6, .int 0, .int 0, .ref c0, .int (nI k0)])), (c0, .inl (X.2.1, 30, .inl f0))]) ([(h1, .inr (5, [.int 6, .int 0, .int 0, .ref c1, .int (nI k1)])), (c1, .inl (X.2.1, 30, .inl f1))])) sz) (qV (fun (u : (Nat) × (Nat → Int32)) => u.1 ≤ 6 ∧ (u.1 = k1)) X (fun (u : (Nat) × (Nat → Int32)) => @HAppend.hAppend va_W va_W va_W _ ([(h0, .inr (5, [.int 6, .int 0, .int 0, .ref c0, .int (nI u.1)])), (c0, .inl (X.2.1, 30, .inl u.2))]) ([(h1, .inr (5, [.int 6, .int 0, .int 0, .ref c1, .int (nI k1)])), (c1, .inl (X.2.1, 30, .inl f1))])) (@HAppend.hAppend va_W va_W va_W _ ([(h0, .inr (5, [.int 6, .int 0, .int 0, .ref c0, .int (nI k0)])), (c0, .inl (X.2.1, 30, .inl f0))]) ([(h1, .inr (5, [.int 6, .int 0, .int 0, .ref c1, .int (nI k1)])), (c1, .inl (X.2.1, 30, .inl f1))])) sz) 0 0 (va_A (@HAppend.hAppend va_W va_W va_W _ ([(h0, .inr (5, [.int 6, .int 0, .int 0, .ref c0, .int (nI k0)])), (c0, .inl (X.2.1, 30, .inl f0))]) ([(h1, .inr (5, [.int 6, .int 0, .int 0, .ref c1, .int (nI k1)])), (c1, .inl (X.2.1, 30, .inl f1))])) sz) := by
  refine mk_met (B := (va_A (@HAppend.hAppend va_W va_W va_W _ ([(h0, .inr (5, [.int 6, .int 0, .int 0, .ref c0, .int (nI k0)])), (c0, .inl (X.2.1, 30, .inl f0))]) ([(h1, .inr (5, [.int 6, .int 0, .int 0, .ref c1, .int (nI k1)])), (c1, .inl (X.2.1, 30, .inl f1))])) sz)) (A := (va_A (@HAppend.hAppend va_W va_W va_W _ ([(h0, .inr (5, [.int 6, .int 0, .int 0, .ref c0, .int (nI k0)])), (c0, .inl (X.2.1, 30, .inl f0))]) ([(h1, .inr (5, [.int 6, .int 0, .int 0, .ref c1, .int (nI k1)])), (c1, .inl (X.2.1, 30, .inl f1))])) sz)) (cc := cX7_copyFrom) (maxL := 2) (ret := none) (by decide) rfl (Nat.le_of_ble_eq_true rfl) k_w k_a (fun p e s m below meth c S zr zlk znm zsz G ls hl => ?_)
  have S : CallFix p m c cX7_copyFrom 2 s _ wsX7_copyFrom RX7 := S
  have zx := S.1
  have zb := S.2.1
  have hl : lv_has ls 2 [(0, .ref h0), (1, .ref h1)] := hl
  refine lv_aload_n zx zb dX7_copyFrom_0 rfl (lv_at hl 0 rfl) ?_
  refine lv_aload_n zx zb dX7_copyFrom_1 rfl (lv_at hl 1 rfl) ?_
  refine r_get (C := RX7) (T := TX7) (N := 5) (ci := 5) (v := .int (nI k1)) S in_X7_copyFrom_X7 G 2 rfl rfl 4 (by decide) lk_X7_copyFrom_7 rfl dX7_copyFrom_2 ?_
  refine r_put (C := RX7) (T := TX7) (N := 5) (ci := 5) (v := .int (nI k1)) S in_X7_copyFrom_X7 tyX7_ok nmX7 G 0 rfl rfl 4 (by decide) lk_X7_copyFrom_7 rfl (vp_nar_int _) rfl (Nat.le_of_ble_eq_true rfl) dX7_copyFrom_5 (fun H locs G => ?_)
  obtain ⟨n_1, hI_n_1, hE_n_1, G⟩ : ∃ n_1 : Nat, n_1 ≤ 6 ∧ n_1 = k1 ∧ wd X (va_A (@HAppend.hAppend va_W va_W va_W _ ([(h0, .inr (5, [.int 6, .int 0, .int 0, .ref c0, .int (nI k0)])), (c0, .inl (X.2.1, 30, .inl f0))]) ([(h1, .inr (5, [.int 6, .int 0, .int 0, .ref c1, .int (nI k1)])), (c1, .inl (X.2.1, 30, .inl f1))])) sz) (va_A (@HAppend.hAppend va_W va_W va_W _ ([(h0, .inr (5, [.int 6, .int 0, .int 0, .ref c0, .int (nI k0)])), (c0, .inl (X.2.1, 30, .inl f0))]) ([(h1, .inr (5, [.int 6, .int 0, .int 0, .ref c1, .int (nI k1)])), (c1, .inl (X.2.1, 30, .inl f1))])) sz) s (@HAppend.hAppend va_W va_W va_W _ ([(h0, .inr (5, [.int 6, .int 0, .int 0, .ref c0, .int (nI n_1)])), (c0, .inl (X.2.1, 30, .inl f0))]) ([(h1, .inr (5, [.int 6, .int 0, .int 0, .ref c1, .int (nI k1)])), (c1, .inl (X.2.1, 30, .inl f1))])) H locs := ⟨k1, by omega, rfl, G⟩
  refine lv_aload_n zx zb dX7_copyFrom_8 rfl (lv_at hl 1 rfl) ?_
  refine r_get (C := RX7) (T := TX7) (N := 5) (ci := 5) (v := .ref c1) S in_X7_copyFrom_X7 G 2 rfl rfl 3 (by decide) lk_X7_copyFrom_23 rfl dX7_copyFrom_9 ?_
  refine lv_iconst (v := 0) zx zb dX7_copyFrom_12 (by decide) ?_
  refine lv_aload_n zx zb dX7_copyFrom_13 rfl (lv_at hl 0 rfl) ?_
  refine r_get (C := RX7) (T := TX7) (N := 5) (ci := 5) (v := .ref c0) S in_X7_copyFrom_X7 G 0 rfl rfl 3 (by decide) lk_X7_copyFrom_23 rfl dX7_copyFrom_14 ?_
  refine lv_iconst (v := 0) zx zb dX7_copyFrom_17 (by decide) ?_
  refine lv_aload_n zx zb dX7_copyFrom_18 rfl (lv_at hl 0 rfl) ?_
  refine r_get (C := RX7) (T := TX7) (N := 5) (ci := 5) (v := .ref c0) S in_X7_copyFrom_X7 G 0 rfl rfl 3 (by decide) lk_X7_copyFrom_23 rfl dX7_copyFrom_19 ?_
  refine r_alen (v := 30) S G 1 0 rfl rfl rfl dX7_copyFrom_22 ?_
  refine lv_aload_n zx zb dX7_copyFrom_23 rfl (lv_at hl 1 rfl) ?_
  refine r_get (C := RX7) (T := TX7) (N := 5) (ci := 5) (v := .int (nI k1)) S in_X7_copyFrom_X7 G 2 rfl rfl 4 (by decide) lk_X7_copyFrom_7 rfl dX7_copyFrom_24 ?_
  refine lv_iconst (v := 5) zx zb dX7_copyFrom_27 (by decide) ?_
  refine r_imul (v := (nI (k1 * 5))) S (pk_mul k1 5) dX7_copyFrom_28 ?_
  refine r_mmin (v := (nI (k1 * 5))) S hl.1 mm_X7_copyFrom_ml27 mm_X7_copyFrom_msmin mm_X7_copyFrom_mi mm_X7_copyFrom_mcmin (Nat.le_of_ble_eq_true rfl) (Nat.le_of_ble_eq_true rfl) (Nat.zero_le _) (Nat.zero_le _) (k_minN (c := 30) (by omega) (by decide)) dX7_copyFrom_29 ?_
  refine r_copyN (sp := 0) (dp := 0) (n := (k1 * 5)) S hl.1 G mm_X7_copyFrom_ml33 mm_X7_copyFrom_cn mm_X7_copyFrom_cs mm_X7_copyFrom_ci 3 1 rfl rfl (by omega) (by omega) (by omega) (by omega) (by omega) (Nat.le_of_ble_eq_true rfl) (Nat.le_of_ble_eq_true rfl) dX7_copyFrom_32 (fun cw H locs G => ?_)
  obtain ⟨f_2, G⟩ : ∃ f_2 : Nat → Int32, wd X (va_A (@HAppend.hAppend va_W va_W va_W _ ([(h0, .inr (5, [.int 6, .int 0, .int 0, .ref c0, .int (nI k0)])), (c0, .inl (X.2.1, 30, .inl f0))]) ([(h1, .inr (5, [.int 6, .int 0, .int 0, .ref c1, .int (nI k1)])), (c1, .inl (X.2.1, 30, .inl f1))])) sz) (va_A (@HAppend.hAppend va_W va_W va_W _ ([(h0, .inr (5, [.int 6, .int 0, .int 0, .ref c0, .int (nI k0)])), (c0, .inl (X.2.1, 30, .inl f0))]) ([(h1, .inr (5, [.int 6, .int 0, .int 0, .ref c1, .int (nI k1)])), (c1, .inl (X.2.1, 30, .inl f1))])) sz) s (@HAppend.hAppend va_W va_W va_W _ ([(h0, .inr (5, [.int 6, .int 0, .int 0, .ref c0, .int (nI n_1)])), (c0, .inl (X.2.1, 30, .inl f_2))]) ([(h1, .inr (5, [.int 6, .int 0, .int 0, .ref c1, .int (nI k1)])), (c1, .inl (X.2.1, 30, .inl f1))])) H locs := ⟨_, G⟩
  exact e_void S zr zlk G (n_1, f_2) [0, 1, 2, 3] rfl rfl (Or.inr rfl) (⟨hI_n_1, by first | omega | (dsimp only; omega)⟩) dX7_copyFrom_35
theorem in_X5_copyLine_X5 : ∀ w ∈ wsX50, w ∈ wsX5_copyLine := by decide +kernel
theorem lk_X5_copyLine_9 : Cond.fieldLink RX5 9 "EggSpoons$Race" "length" "I" ∈ wsX5_copyLine := by decide +kernel
theorem lk_X5_copyLine_15 : Cond.fieldLink RX5 15 "EggSpoons$Race" "tick" "I" ∈ wsX5_copyLine := by decide +kernel
theorem lk_X5_copyLine_18 : Cond.fieldLink RX5 18 "EggSpoons$Race" "runners" "I" ∈ wsX5_copyLine := by decide +kernel
theorem lk_X5_copyLine_23 : Cond.fieldLink RX5 23 "EggSpoons$Race" "row" "[LEggSpoons$Runner;" ∈ wsX5_copyLine := by decide +kernel
set_option maxHeartbeats 4000000 in
set_option maxRecDepth 100000 in
/-- copyLine -/
theorem s_copyLine (l : Launch) (X : EX) (h0 : Nat) (adp : Nat → Nat) (svp : Nat → Int32) (dvp : Nat → Int32) (n0p : Nat) (n1p : Nat) (n2p : Nat) (n3p : Nat) (n4p : Nat) (g0p : Nat → Int32) (gsp : Nat → Int32) (gnp : Nat → Int32) (gmp : Nat → Int32) (h1 : Nat) (adq : Nat → Nat) (svq : Nat → Int32) (dvq : Nat → Int32) (n0q : Nat) (n1q : Nat) (n2q : Nat) (n3q : Nat) (n4q : Nat) (g0q : Nat → Int32) (gsq : Nat → Int32) (gnq : Nat → Int32) (gmq : Nat → Int32) (hI_n0p : n0p ≤ 6) (hI_n1p : n1p ≤ 8) (hI_n2p : n2p ≤ 5) (hI_n3p : n3p ≤ 6) (hI_n4p : n4p ≤ 6) (hI_n0q : n0q ≤ 6) (hI_n1q : n1q ≤ 8) (hI_n2q : n2q ≤ 5) (hI_n3q : n3q ≤ 6) (hI_n4q : n4q ≤ 6) (sz : Nat) : Met l yX5_copyLine wsX5_copyLine ({ frames := 1, cells := 0, slots := 0, locals := 21 } : Room) (pE X [.ref h0, .ref h1] (@HAppend.hAppend va_W va_W va_W _ (rcV X h0 adp svp dvp n0p n1p n2p n3p n4p g0p gsp gnp gmp) (rcV X h1 adq svq dvq n0q n1q n2q n3q n4q g0q gsq gnq gmq)) sz) (qV (fun (u : (Nat → Int32) × (Nat → Int32) × (Nat)) => u.2.2 ≤ 6 ∧ (u.2.2 = n0q)) X (fun (u : (Nat → Int32) × (Nat → Int32) × (Nat)) => @HAppend.hAppend va_W va_W va_W _ (rcV X h0 adp u.1 u.2.1 u.2.2 n1p n2p n3p n4p g0p gsp gnp gmp) (rcV X h1 adq svq dvq n0q n1q n2q n3q n4q g0q gsq gnq gmq)) (@HAppend.hAppend va_W va_W va_W _ (rcV X h0 adp svp dvp n0p n1p n2p n3p n4p g0p gsp gnp gmp) (rcV X h1 adq svq dvq n0q n1q n2q n3q n4q g0q gsq gnq gmq)) sz) 0 0 (va_A (@HAppend.hAppend va_W va_W va_W _ (rcV X h0 adp svp dvp n0p n1p n2p n3p n4p g0p gsp gnp gmp) (rcV X h1 adq svq dvq n0q n1q n2q n3q n4q g0q gsq gnq gmq)) sz) := by
  refine mk_met (B := (va_A (@HAppend.hAppend va_W va_W va_W _ (rcV X h0 adp svp dvp n0p n1p n2p n3p n4p g0p gsp gnp gmp) (rcV X h1 adq svq dvq n0q n1q n2q n3q n4q g0q gsq gnq gmq)) sz)) (A := (va_A (@HAppend.hAppend va_W va_W va_W _ (rcV X h0 adp svp dvp n0p n1p n2p n3p n4p g0p gsp gnp gmp) (rcV X h1 adq svq dvq n0q n1q n2q n3q n4q g0q gsq gnq gmq)) sz)) (cc := cX5_copyLine) (maxL := 3) (ret := none) (by decide) rfl (Nat.le_of_ble_eq_true rfl) k_w k_a (fun p e s m below meth c S zr zlk znm zsz G ls hl => ?_)
  have S : CallFix p m c cX5_copyLine 3 s _ wsX5_copyLine RX5 := S
  have zx := S.1
  have zb := S.2.1
  have hl : lv_has ls 3 [(0, .ref h0), (1, .ref h1)] := hl
  refine lv_aload_n zx zb dX5_copyLine_0 rfl (lv_at hl 0 rfl) ?_
  refine lv_aload_n zx zb dX5_copyLine_1 rfl (lv_at hl 1 rfl) ?_
  refine r_get (C := RX5) (T := TX5) (N := 8) (ci := 3) (v := .int (dvq 0)) S in_X5_copyLine_X5 G 16 rfl rfl 0 (by decide) lk_X5_copyLine_9 rfl dX5_copyLine_2 ?_
  refine r_put (C := RX5) (T := TX5) (N := 8) (ci := 3) (v := .int (dvq 0)) S in_X5_copyLine_X5 tyX5_ok nmX5 G 0 rfl rfl 0 (by decide) lk_X5_copyLine_9 rfl (vp_nar_int _) rfl (Nat.le_of_ble_eq_true rfl) dX5_copyLine_5 (fun H locs G => ?_)
  obtain ⟨dv_1, G⟩ : ∃ dv_1 : Nat → Int32, wd X (va_A (@HAppend.hAppend va_W va_W va_W _ (rcV X h0 adp svp dvp n0p n1p n2p n3p n4p g0p gsp gnp gmp) (rcV X h1 adq svq dvq n0q n1q n2q n3q n4q g0q gsq gnq gmq)) sz) (va_A (@HAppend.hAppend va_W va_W va_W _ (rcV X h0 adp svp dvp n0p n1p n2p n3p n4p g0p gsp gnp gmp) (rcV X h1 adq svq dvq n0q n1q n2q n3q n4q g0q gsq gnq gmq)) sz) s (@HAppend.hAppend va_W va_W va_W _ (rcV X h0 adp svp dv_1 n0p n1p n2p n3p n4p g0p gsp gnp gmp) (rcV X h1 adq svq dvq n0q n1q n2q n3q n4q g0q gsq gnq gmq)) H locs := ⟨upd dvp 0 (dvq 0), G⟩
  refine lv_aload_n zx zb dX5_copyLine_8 rfl (lv_at hl 0 rfl) ?_
  refine lv_aload_n zx zb dX5_copyLine_9 rfl (lv_at hl 1 rfl) ?_
  refine r_get (C := RX5) (T := TX5) (N := 8) (ci := 3) (v := .int (dvq 1)) S in_X5_copyLine_X5 G 16 rfl rfl 1 (by decide) lk_X5_copyLine_15 rfl dX5_copyLine_10 ?_
  refine r_put (C := RX5) (T := TX5) (N := 8) (ci := 3) (v := .int (dvq 1)) S in_X5_copyLine_X5 tyX5_ok nmX5 G 0 rfl rfl 1 (by decide) lk_X5_copyLine_15 rfl (vp_nar_int _) rfl (Nat.le_of_ble_eq_true rfl) dX5_copyLine_13 (fun H locs G => ?_)
  obtain ⟨dv_2, G⟩ : ∃ dv_2 : Nat → Int32, wd X (va_A (@HAppend.hAppend va_W va_W va_W _ (rcV X h0 adp svp dvp n0p n1p n2p n3p n4p g0p gsp gnp gmp) (rcV X h1 adq svq dvq n0q n1q n2q n3q n4q g0q gsq gnq gmq)) sz) (va_A (@HAppend.hAppend va_W va_W va_W _ (rcV X h0 adp svp dvp n0p n1p n2p n3p n4p g0p gsp gnp gmp) (rcV X h1 adq svq dvq n0q n1q n2q n3q n4q g0q gsq gnq gmq)) sz) s (@HAppend.hAppend va_W va_W va_W _ (rcV X h0 adp svp dv_2 n0p n1p n2p n3p n4p g0p gsp gnp gmp) (rcV X h1 adq svq dvq n0q n1q n2q n3q n4q g0q gsq gnq gmq)) H locs := ⟨upd dv_1 1 (dvq 1), G⟩
  refine lv_aload_n zx zb dX5_copyLine_16 rfl (lv_at hl 0 rfl) ?_
  refine lv_aload_n zx zb dX5_copyLine_17 rfl (lv_at hl 1 rfl) ?_
  refine r_get (C := RX5) (T := TX5) (N := 8) (ci := 3) (v := .int (nI n0q)) S in_X5_copyLine_X5 G 16 rfl rfl 2 (by decide) lk_X5_copyLine_18 rfl dX5_copyLine_18 ?_
  refine r_put (C := RX5) (T := TX5) (N := 8) (ci := 3) (v := .int (nI n0q)) S in_X5_copyLine_X5 tyX5_ok nmX5 G 0 rfl rfl 2 (by decide) lk_X5_copyLine_18 rfl (vp_nar_int _) rfl (Nat.le_of_ble_eq_true rfl) dX5_copyLine_21 (fun H locs G => ?_)
  obtain ⟨n_3, hI_n_3, hE_n_3, G⟩ : ∃ n_3 : Nat, n_3 ≤ 6 ∧ n_3 = n0q ∧ wd X (va_A (@HAppend.hAppend va_W va_W va_W _ (rcV X h0 adp svp dvp n0p n1p n2p n3p n4p g0p gsp gnp gmp) (rcV X h1 adq svq dvq n0q n1q n2q n3q n4q g0q gsq gnq gmq)) sz) (va_A (@HAppend.hAppend va_W va_W va_W _ (rcV X h0 adp svp dvp n0p n1p n2p n3p n4p g0p gsp gnp gmp) (rcV X h1 adq svq dvq n0q n1q n2q n3q n4q g0q gsq gnq gmq)) sz) s (@HAppend.hAppend va_W va_W va_W _ (rcV X h0 adp svp dv_2 n_3 n1p n2p n3p n4p g0p gsp gnp gmp) (rcV X h1 adq svq dvq n0q n1q n2q n3q n4q g0q gsq gnq gmq)) H locs := ⟨n0q, by omega, rfl, G⟩
  refine lv_iconst (v := 0) zx zb dX5_copyLine_24 (by decide) ?_
  refine lv_istore_n (lv' := [(2, .int 0), (0, .ref h0), (1, .ref h1)]) zx zb dX5_copyLine_25 rfl hl (by decide) rfl (fun ls hl => ?_)
  refine k_loop (P := ∀ (zm : Nat) (k26 : Nat) (sv26_0 : Nat → Int32) (dv26_0 : Nat → Int32) (H : Heap) (locs : List Loc) (ls : Array Slot), 6 + 1 ≤ k26 + zm → (k26 ≤ 6) → wd X (va_A (@HAppend.hAppend va_W va_W va_W _ (rcV X h0 adp svp dvp n0p n1p n2p n3p n4p g0p gsp gnp gmp) (rcV X h1 adq svq dvq n0q n1q n2q n3q n4q g0q gsq gnq gmq)) sz) (va_A (@HAppend.hAppend va_W va_W va_W _ (rcV X h0 adp svp dvp n0p n1p n2p n3p n4p g0p gsp gnp gmp) (rcV X h1 adq svq dvq n0q n1q n2q n3q n4q g0q gsq gnq gmq)) sz) s (@HAppend.hAppend va_W va_W va_W _ (rcV X h0 adp sv26_0 dv26_0 n_3 n1p n2p n3p n4p g0p gsp gnp gmp) (rcV X h1 adq svq dvq n0q n1q n2q n3q n4q g0q gsq gnq gmq)) H locs → lv_has ls 3 [(2, .int (nI k26)), (0, .ref h0), (1, .ref h1)] → W p l e _ s m _ below meth c H locs _ _ _ (F0 m 26 ls [])) (fun loop => loop (6 + 1) 0 svp dv_2 _ _ _ (by omega) (by omega) G hl) ?_
  intro zm
  induction zm with
  | zero => intro k26 sv26_0 dv26_0 H locs ls zz q_hk_k26 _ _; exact absurd zz (by omega)
  | succ zm ih26 =>
    intro k26 sv26_0 dv26_0 H locs ls zm_26 hk_k26 G hl
    refine lv_iload_n zx zb dX5_copyLine_26 rfl (lv_at hl 0 rfl) ?_
    refine lv_bipush (v := 6) zx zb dX5_copyLine_27 (by decide) ?_
    refine lv_icmp_ge (tgt := 53) zx zb dX5_copyLine_29 (by decide) (fun c_4 => ?_) (fun c_4 => ?_)
    · have fc_4 := j_le (a := 6) (b := k26) (by omega) (by omega) c_4
      exact e_void S zr zlk G (sv26_0, dv26_0, n_3) [0, 1, 2, 3, 4, 5, 6, 7, 8, 9, 10, 11, 12, 13, 14, 15, 16, 17, 18, 19, 20, 21, 22, 23, 24, 25, 26, 27, 28, 29, 30, 31] rfl rfl (Or.inr rfl) (⟨hI_n_3, by first | omega | (dsimp only; omega)⟩) dX5_copyLine_53
    · have fc_4 := j_nle (a := 6) (b := k26) (by omega) (by omega) c_4
      refine lv_aload_n zx zb dX5_copyLine_32 rfl (lv_at hl 1 rfl) ?_
      refine r_get (C := RX5) (T := TX5) (N := 8) (ci := 3) (v := .ref (adp 0)) S in_X5_copyLine_X5 G 0 rfl rfl 3 (by decide) lk_X5_copyLine_23 rfl dX5_copyLine_33 ?_
      refine lv_iload_n zx zb dX5_copyLine_36 rfl (lv_at hl 0 rfl) ?_
      rcases k_6c (show k26 < 6 by omega) with rfl | rfl | rfl | rfl | rfl | rfl
      · refine k_it (v := 0) rfl ?_
        refine r_aald (C := RX8) (b := (adp 1)) S G 1 3 rfl rfl (k_vp (by decide)) rfl dX5_copyLine_37 ?_
        refine lv_aload_n zx zb dX5_copyLine_38 rfl (lv_at hl 2 rfl) ?_
        refine r_get (C := RX5) (T := TX5) (N := 8) (ci := 3) (v := .ref (adq 0)) S in_X5_copyLine_X5 G 16 rfl rfl 3 (by decide) lk_X5_copyLine_23 rfl dX5_copyLine_39 ?_
        refine lv_iload_n zx zb dX5_copyLine_42 rfl (lv_at hl 0 rfl) ?_
        refine r_aald (C := RX8) (b := (adq 1)) S G 17 3 rfl rfl (k_vp (by decide)) rfl dX5_copyLine_43 ?_
        refine b_wv (cells' := 0) (slots' := 0) (wr := @HAppend.hAppend va_W va_W va_W _ ([(h0, .inr (3, [.int (dv26_0 0), .int (dv26_0 1), .int (nI n_3), .ref (adp 0), .ref (adp 7), .ref (adp 9), .ref (adp 11), .ref (adp 13)])), ((adp 0), .inl (X.2.2.2.2, 6, .inr (.inr (.inr (.inr (rowQ adp)))))), ((adp 2), .inr (6, [.int (sv26_0 3), .int (sv26_0 4), .int (sv26_0 5), .int (dv26_0 15), .int (dv26_0 16), .int (dv26_0 17), .int (dv26_0 18), .int (dv26_0 19)])), ((adp 3), .inr (6, [.int (sv26_0 6), .int (sv26_0 7), .int (sv26_0 8), .int (dv26_0 20), .int (dv26_0 21), .int (dv26_0 22), .int (dv26_0 23), .int (dv26_0 24)])), ((adp 4), .inr (6, [.int (sv26_0 9), .int (sv26_0 10), .int (sv26_0 11), .int (dv26_0 25), .int (dv26_0 26), .int (dv26_0 27), .int (dv26_0 28), .int (dv26_0 29)])), ((adp 5), .inr (6, [.int (sv26_0 12), .int (sv26_0 13), .int (sv26_0 14), .int (dv26_0 30), .int (dv26_0 31), .int (dv26_0 32), .int (dv26_0 33), .int (dv26_0 34)])), ((adp 6), .inr (6, [.int (sv26_0 15), .int (sv26_0 16), .int (sv26_0 17), .int (dv26_0 35), .int (dv26_0 36), .int (dv26_0 37), .int (dv26_0 38), .int (dv26_0 39)])), ((adp 7), .inr (2, [.ref (adp 8), .int (nI n1p)])), ((adp 8), .inl (X.2.1, 248, .inl g0p)), ((adp 9), .inr (5, [.int 5, .int 0, .int 1, .ref (adp 10), .int (nI n2p)])), ((adp 10), .inl (X.2.1, 25, .inl gsp)), ((adp 11), .inr (5, [.int 6, .int 1, .int 1, .ref (adp 12), .int (nI n3p)])), ((adp 12), .inl (X.2.1, 30, .inl gnp)), ((adp 13), .inr (5, [.int 6, .int 0, .int 0, .ref (adp 14), .int (nI n4p)])), ((adp 14), .inl (X.2.1, 30, .inl gmp))]) ([(h1, .inr (3, [.int (dvq 0), .int (dvq 1), .int (nI n0q), .ref (adq 0), .ref (adq 7), .ref (adq 9), .ref (adq 11), .ref (adq 13)])), ((adq 0), .inl (X.2.2.2.2, 6, .inr (.inr (.inr (.inr (rowQ adq)))))), ((adq 2), .inr (6, [.int (svq 3), .int (svq 4), .int (svq 5), .int (dvq 15), .int (dvq 16), .int (dvq 17), .int (dvq 18), .int (dvq 19)])), ((adq 3), .inr (6, [.int (svq 6), .int (svq 7), .int (svq 8), .int (dvq 20), .int (dvq 21), .int (dvq 22), .int (dvq 23), .int (dvq 24)])), ((adq 4), .inr (6, [.int (svq 9), .int (svq 10), .int (svq 11), .int (dvq 25), .int (dvq 26), .int (dvq 27), .int (dvq 28), .int (dvq 29)])), ((adq 5), .inr (6, [.int (svq 12), .int (svq 13), .int (svq 14), .int (dvq 30), .int (dvq 31), .int (dvq 32), .int (dvq 33), .int (dvq 34)])), ((adq 6), .inr (6, [.int (svq 15), .int (svq 16), .int (svq 17), .int (dvq 35), .int (dvq 36), .int (dvq 37), .int (dvq 38), .int (dvq 39)])), ((adq 7), .inr (2, [.ref (adq 8), .int (nI n1q)])), ((adq 8), .inl (X.2.1, 248, .inl g0q)), ((adq 9), .inr (5, [.int 5, .int 0, .int 1, .ref (adq 10), .int (nI n2q)])), ((adq 10), .inl (X.2.1, 25, .inl gsq)), ((adq 11), .inr (5, [.int 6, .int 1, .int 1, .ref (adq 12), .int (nI n3q)])), ((adq 12), .inl (X.2.1, 30, .inl gnq)), ((adq 13), .inr (5, [.int 6, .int 0, .int 0, .ref (adq 14), .int (nI n4q)])), ((adq 14), .inl (X.2.1, 30, .inl gmq))])) G rfl rfl [2, 18] [0, 1, 3, 4, 5, 6, 7, 8, 9, 10, 11, 12, 13, 14, 15, 16, 17, 19, 20, 21, 22, 23, 24, 25, 26, 27, 28, 29, 30, 31] rfl rfl rfl rfl (n_V (As := [.ref (adq 1)]) (rest := []) (C := RX8) (T := TX8) (N := 8) (ci := 6) S G (s_rcopy l X (adp 1) (fun k => sv26_0 (0 + k)) (fun k => dv26_0 (10 + k)) (adq 1) (fun k => svq (0 + k)) (fun k => dvq (10 + k)) H.size) gX5_copyLine_X8_copyFrom rfl rfl rfl hdV_X8_copyFrom ⟨Nat.le_of_ble_eq_true rfl, Nat.le_of_ble_eq_true rfl⟩ [2, 18] rfl rfl 2 rfl rfl rfl hl.1 (Nat.le_of_ble_eq_true rfl) dX5_copyLine_44 ⟨Nat.le_of_ble_eq_true rfl, Nat.le_of_ble_eq_true rfl⟩) (fun u_5 H locs hp_5 G => ?_)
        obtain ⟨a_5a, d_5b⟩ := u_5
        have hq_5 := hp_5
        obtain ⟨sv_6, dv_7, G⟩ : ∃ (sv_6 : Nat → Int32) (dv_7 : Nat → Int32), wd X (va_A (@HAppend.hAppend va_W va_W va_W _ (rcV X h0 adp svp dvp n0p n1p n2p n3p n4p g0p gsp gnp gmp) (rcV X h1 adq svq dvq n0q n1q n2q n3q n4q g0q gsq gnq gmq)) sz) (va_A (@HAppend.hAppend va_W va_W va_W _ (rcV X h0 adp svp dvp n0p n1p n2p n3p n4p g0p gsp gnp gmp) (rcV X h1 adq svq dvq n0q n1q n2q n3q n4q g0q gsq gnq gmq)) sz) s (@HAppend.hAppend va_W va_W va_W _ (rcV X h0 adp sv_6 dv_7 n_3 n1p n2p n3p n4p g0p gsp gnp gmp) (rcV X h1 adq svq dvq n0q n1q n2q n3q n4q g0q gsq gnq gmq)) H locs := ⟨(ovr sv26_0 0 3 a_5a), (ovr dv26_0 10 5 d_5b), wd_sub G [0, 1, 30, 2, 3, 4, 5, 6, 7, 8, 9, 10, 11, 12, 13, 14, 15, 16, 31, 17, 18, 19, 20, 21, 22, 23, 24, 25, 26, 27, 28, 29] rfl rfl⟩
        refine lv_iinc (v := 1) (lv' := [(2, .int 1), (0, .ref h0), (1, .ref h1)]) zx zb dX5_copyLine_47 hl (k := 0) rfl (by decide) (by decide) rfl (fun ls hl => ?_)
        refine lv_goto (tgt := 26) zx zb dX5_copyLine_50 (by decide) ?_
        exact ih26 1 sv_6 dv_7 _ _ _ (by omega) (by omega) G hl
      · refine k_it (v := 1) rfl ?_
        refine r_aald (C := RX8) (b := (adp 2)) S G 1 3 rfl rfl (k_vp (by decide)) rfl dX5_copyLine_37 ?_
        refine lv_aload_n zx zb dX5_copyLine_38 rfl (lv_at hl 2 rfl) ?_
        refine r_get (C := RX5) (T := TX5) (N := 8) (ci := 3) (v := .ref (adq 0)) S in_X5_copyLine_X5 G 16 rfl rfl 3 (by decide) lk_X5_copyLine_23 rfl dX5_copyLine_39 ?_
        refine lv_iload_n zx zb dX5_copyLine_42 rfl (lv_at hl 0 rfl) ?_
        refine r_aald (C := RX8) (b := (adq 2)) S G 17 3 rfl rfl (k_vp (by decide)) rfl dX5_copyLine_43 ?_
        refine b_wv (cells' := 0) (slots' := 0) (wr := @HAppend.hAppend va_W va_W va_W _ ([(h0, .inr (3, [.int (dv26_0 0), .int (dv26_0 1), .int (nI n_3), .ref (adp 0), .ref (adp 7), .ref (adp 9), .ref (adp 11), .ref (adp 13)])), ((adp 0), .inl (X.2.2.2.2, 6, .inr (.inr (.inr (.inr (rowQ adp)))))), ((adp 1), .inr (6, [.int (sv26_0 0), .int (sv26_0 1), .int (sv26_0 2), .int (dv26_0 10), .int (dv26_0 11), .int (dv26_0 12), .int (dv26_0 13), .int (dv26_0 14)])), ((adp 3), .inr (6, [.int (sv26_0 6), .int (sv26_0 7), .int (sv26_0 8), .int (dv26_0 20), .int (dv26_0 21), .int (dv26_0 22), .int (dv26_0 23), .int (dv26_0 24)])), ((adp 4), .inr (6, [.int (sv26_0 9), .int (sv26_0 10), .int (sv26_0 11), .int (dv26_0 25), .int (dv26_0 26), .int (dv26_0 27), .int (dv26_0 28), .int (dv26_0 29)])), ((adp 5), .inr (6, [.int (sv26_0 12), .int (sv26_0 13), .int (sv26_0 14), .int (dv26_0 30), .int (dv26_0 31), .int (dv26_0 32), .int (dv26_0 33), .int (dv26_0 34)])), ((adp 6), .inr (6, [.int (sv26_0 15), .int (sv26_0 16), .int (sv26_0 17), .int (dv26_0 35), .int (dv26_0 36), .int (dv26_0 37), .int (dv26_0 38), .int (dv26_0 39)])), ((adp 7), .inr (2, [.ref (adp 8), .int (nI n1p)])), ((adp 8), .inl (X.2.1, 248, .inl g0p)), ((adp 9), .inr (5, [.int 5, .int 0, .int 1, .ref (adp 10), .int (nI n2p)])), ((adp 10), .inl (X.2.1, 25, .inl gsp)), ((adp 11), .inr (5, [.int 6, .int 1, .int 1, .ref (adp 12), .int (nI n3p)])), ((adp 12), .inl (X.2.1, 30, .inl gnp)), ((adp 13), .inr (5, [.int 6, .int 0, .int 0, .ref (adp 14), .int (nI n4p)])), ((adp 14), .inl (X.2.1, 30, .inl gmp))]) ([(h1, .inr (3, [.int (dvq 0), .int (dvq 1), .int (nI n0q), .ref (adq 0), .ref (adq 7), .ref (adq 9), .ref (adq 11), .ref (adq 13)])), ((adq 0), .inl (X.2.2.2.2, 6, .inr (.inr (.inr (.inr (rowQ adq)))))), ((adq 1), .inr (6, [.int (svq 0), .int (svq 1), .int (svq 2), .int (dvq 10), .int (dvq 11), .int (dvq 12), .int (dvq 13), .int (dvq 14)])), ((adq 3), .inr (6, [.int (svq 6), .int (svq 7), .int (svq 8), .int (dvq 20), .int (dvq 21), .int (dvq 22), .int (dvq 23), .int (dvq 24)])), ((adq 4), .inr (6, [.int (svq 9), .int (svq 10), .int (svq 11), .int (dvq 25), .int (dvq 26), .int (dvq 27), .int (dvq 28), .int (dvq 29)])), ((adq 5), .inr (6, [.int (svq 12), .int (svq 13), .int (svq 14), .int (dvq 30), .int (dvq 31), .int (dvq 32), .int (dvq 33), .int (dvq 34)])), ((adq 6), .inr (6, [.int (svq 15), .int (svq 16), .int (svq 17), .int (dvq 35), .int (dvq 36), .int (dvq 37), .int (dvq 38), .int (dvq 39)])), ((adq 7), .inr (2, [.ref (adq 8), .int (nI n1q)])), ((adq 8), .inl (X.2.1, 248, .inl g0q)), ((adq 9), .inr (5, [.int 5, .int 0, .int 1, .ref (adq 10), .int (nI n2q)])), ((adq 10), .inl (X.2.1, 25, .inl gsq)), ((adq 11), .inr (5, [.int 6, .int 1, .int 1, .ref (adq 12), .int (nI n3q)])), ((adq 12), .inl (X.2.1, 30, .inl gnq)), ((adq 13), .inr (5, [.int 6, .int 0, .int 0, .ref (adq 14), .int (nI n4q)])), ((adq 14), .inl (X.2.1, 30, .inl gmq))])) G rfl rfl [3, 19] [0, 1, 2, 4, 5, 6, 7, 8, 9, 10, 11, 12, 13, 14, 15, 16, 17, 18, 20, 21, 22, 23, 24, 25, 26, 27, 28, 29, 30, 31] rfl rfl rfl rfl (n_V (As := [.ref (adq 2)]) (rest := []) (C := RX8) (T := TX8) (N := 8) (ci := 6) S G (s_rcopy l X (adp 2) (fun k => sv26_0 (3 + k)) (fun k => dv26_0 (15 + k)) (adq 2) (fun k => svq (3 + k)) (fun k => dvq (15 + k)) H.size) gX5_copyLine_X8_copyFrom rfl rfl rfl hdV_X8_copyFrom ⟨Nat.le_of_ble_eq_true rfl, Nat.le_of_ble_eq_true rfl⟩ [3, 19] rfl rfl 3 rfl rfl rfl hl.1 (Nat.le_of_ble_eq_true rfl) dX5_copyLine_44 ⟨Nat.le_of_ble_eq_true rfl, Nat.le_of_ble_eq_true rfl⟩) (fun u_8 H locs hp_8 G => ?_)
        obtain ⟨a_8a, d_8b⟩ := u_8
        have hq_8 := hp_8
        obtain ⟨sv_9, dv_10, G⟩ : ∃ (sv_9 : Nat → Int32) (dv_10 : Nat → Int32), wd X (va_A (@HAppend.hAppend va_W va_W va_W _ (rcV X h0 adp svp dvp n0p n1p n2p n3p n4p g0p gsp gnp gmp) (rcV X h1 adq svq dvq n0q n1q n2q n3q n4q g0q gsq gnq gmq)) sz) (va_A (@HAppend.hAppend va_W va_W va_W _ (rcV X h0 adp svp dvp n0p n1p n2p n3p n4p g0p gsp gnp gmp) (rcV X h1 adq svq dvq n0q n1q n2q n3q n4q g0q gsq gnq gmq)) sz) s (@HAppend.hAppend va_W va_W va_W _ (rcV X h0 adp sv_9 dv_10 n_3 n1p n2p n3p n4p g0p gsp gnp gmp) (rcV X h1 adq svq dvq n0q n1q n2q n3q n4q g0q gsq gnq gmq)) H locs := ⟨(ovr sv26_0 3 3 a_8a), (ovr dv26_0 15 5 d_8b), wd_sub G [0, 1, 2, 30, 3, 4, 5, 6, 7, 8, 9, 10, 11, 12, 13, 14, 15, 16, 17, 31, 18, 19, 20, 21, 22, 23, 24, 25, 26, 27, 28, 29] rfl rfl⟩
        refine lv_iinc (v := 2) (lv' := [(2, .int 2), (0, .ref h0), (1, .ref h1)]) zx zb dX5_copyLine_47 hl (k := 0) rfl (by decide) (by decide) rfl (fun ls hl => ?_)
        refine lv_goto (tgt := 26) zx zb dX5_copyLine_50 (by decide) ?_
        exact ih26 2 sv_9 dv_10 _ _ _ (by omega) (by omega) G hl
      · refine k_it (v := 2) rfl ?_
        refine r_aald (C := RX8) (b := (adp 3)) S G 1 3 rfl rfl (k_vp (by decide)) rfl dX5_copyLine_37 ?_
        refine lv_aload_n zx zb dX5_copyLine_38 rfl (lv_at hl 2 rfl) ?_
        refine r_get (C := RX5) (T := TX5) (N := 8) (ci := 3) (v := .ref (adq 0)) S in_X5_copyLine_X5 G 16 rfl rfl 3 (by decide) lk_X5_copyLine_23 rfl dX5_copyLine_39 ?_
        refine lv_iload_n zx zb dX5_copyLine_42 rfl (lv_at hl 0 rfl) ?_
        refine r_aald (C := RX8) (b := (adq 3)) S G 17 3 rfl rfl (k_vp (by decide)) rfl dX5_copyLine_43 ?_
        refine b_wv (cells' := 0) (slots' := 0) (wr := @HAppend.hAppend va_W va_W va_W _ ([(h0, .inr (3, [.int (dv26_0 0), .int (dv26_0 1), .int (nI n_3), .ref (adp 0), .ref (adp 7), .ref (adp 9), .ref (adp 11), .ref (adp 13)])), ((adp 0), .inl (X.2.2.2.2, 6, .inr (.inr (.inr (.inr (rowQ adp)))))), ((adp 1), .inr (6, [.int (sv26_0 0), .int (sv26_0 1), .int (sv26_0 2), .int (dv26_0 10), .int (dv26_0 11), .int (dv26_0 12), .int (dv26_0 13), .int (dv26_0 14)])), ((adp 2), .inr (6, [.int (sv26_0 3), .int (sv26_0 4), .int (sv26_0 5), .int (dv26_0 15), .int (dv26_0 16), .int (dv26_0 17), .int (dv26_0 18), .int (dv26_0 19)])), ((adp 4), .inr (6, [.int (sv26_0 9), .int (sv26_0 10), .int (sv26_0 11), .int (dv26_0 25), .int (dv26_0 26), .int (dv26_0 27), .int (dv26_0 28), .int (dv26_0 29)])), ((adp 5), .inr (6, [.int (sv26_0 12), .int (sv26_0 13), .int (sv26_0 14), .int (dv26_0 30), .int (dv26_0 31), .int (dv26_0 32), .int (dv26_0 33), .int (dv26_0 34)])), ((adp 6), .inr (6, [.int (sv26_0 15), .int (sv26_0 16), .int (sv26_0 17), .int (dv26_0 35), .int (dv26_0 36), .int (dv26_0 37), .int (dv26_0 38), .int (dv26_0 39)])), ((adp 7), .inr (2, [.ref (adp 8), .int (nI n1p)])), ((adp 8), .inl (X.2.1, 248, .inl g0p)), ((adp 9), .inr (5, [.int 5, .int 0, .int 1, .ref (adp 10), .int (nI n2p)])), ((adp 10), .inl (X.2.1, 25, .inl gsp)), ((adp 11), .inr (5, [.int 6, .int 1, .int 1, .ref (adp 12), .int (nI n3p)])), ((adp 12), .inl (X.2.1, 30, .inl gnp)), ((adp 13), .inr (5, [.int 6, .int 0, .int 0, .ref (adp 14), .int (nI n4p)])), ((adp 14), .inl (X.2.1, 30, .inl gmp))]) ([(h1, .inr (3, [.int (dvq 0), .int (dvq 1), .int (nI n0q), .ref (adq 0), .ref (adq 7), .ref (adq 9), .ref (adq 11), .ref (adq 13)])), ((adq 0), .inl (X.2.2.2.2, 6, .inr (.inr (.inr (.inr (rowQ adq)))))), ((adq 1), .inr (6, [.int (svq 0), .int (svq 1), .int (svq 2), .int (dvq 10), .int (dvq 11), .int (dvq 12), .int (dvq 13), .int (dvq 14)])), ((adq 2), .inr (6, [.int (svq 3), .int (svq 4), .int (svq 5), .int (dvq 15), .int (dvq 16), .int (dvq 17), .int (dvq 18), .int (dvq 19)])), ((adq 4), .inr (6, [.int (svq 9), .int (svq 10), .int (svq 11), .int (dvq 25), .int (dvq 26), .int (dvq 27), .int (dvq 28), .int (dvq 29)])), ((adq 5), .inr (6, [.int (svq 12), .int (svq 13), .int (svq 14), .int (dvq 30), .int (dvq 31), .int (dvq 32), .int (dvq 33), .int (dvq 34)])), ((adq 6), .inr (6, [.int (svq 15), .int (svq 16), .int (svq 17), .int (dvq 35), .int (dvq 36), .int (dvq 37), .int (dvq 38), .int (dvq 39)])), ((adq 7), .inr (2, [.ref (adq 8), .int (nI n1q)])), ((adq 8), .inl (X.2.1, 248, .inl g0q)), ((adq 9), .inr (5, [.int 5, .int 0, .int 1, .ref (adq 10), .int (nI n2q)])), ((adq 10), .inl (X.2.1, 25, .inl gsq)), ((adq 11), .inr (5, [.int 6, .int 1, .int 1, .ref (adq 12), .int (nI n3q)])), ((adq 12), .inl (X.2.1, 30, .inl gnq)), ((adq 13), .inr (5, [.int 6, .int 0, .int 0, .ref (adq 14), .int (nI n4q)])), ((adq 14), .inl (X.2.1, 30, .inl gmq))])) G rfl rfl [4, 20] [0, 1, 2, 3, 5, 6, 7, 8, 9, 10, 11, 12, 13, 14, 15, 16, 17, 18, 19, 21, 22, 23, 24, 25, 26, 27, 28, 29, 30, 31] rfl rfl rfl rfl (n_V (As := [.ref (adq 3)]) (rest := []) (C := RX8) (T := TX8) (N := 8) (ci := 6) S G (s_rcopy l X (adp 3) (fun k => sv26_0 (6 + k)) (fun k => dv26_0 (20 + k)) (adq 3) (fun k => svq (6 + k)) (fun k => dvq (20 + k)) H.size) gX5_copyLine_X8_copyFrom rfl rfl rfl hdV_X8_copyFrom ⟨Nat.le_of_ble_eq_true rfl, Nat.le_of_ble_eq_true rfl⟩ [4, 20] rfl rfl 4 rfl rfl rfl hl.1 (Nat.le_of_ble_eq_true rfl) dX5_copyLine_44 ⟨Nat.le_of_ble_eq_true rfl, Nat.le_of_ble_eq_true rfl⟩) (fun u_11 H locs hp_11 G => ?_)
        obtain ⟨a_11a, d_11b⟩ := u_11
        have hq_11 := hp_11
        obtain ⟨sv_12, dv_13, G⟩ : ∃ (sv_12 : Nat → Int32) (dv_13 : Nat → Int32), wd X (va_A (@HAppend.hAppend va_W va_W va_W _ (rcV X h0 adp svp dvp n0p n1p n2p n3p n4p g0p gsp gnp gmp) (rcV X h1 adq svq dvq n0q n1q n2q n3q n4q g0q gsq gnq gmq)) sz) (va_A (@HAppend.hAppend va_W va_W va_W _ (rcV X h0 adp svp dvp n0p n1p n2p n3p n4p g0p gsp gnp gmp) (rcV X h1 adq svq dvq n0q n1q n2q n3q n4q g0q gsq gnq gmq)) sz) s (@HAppend.hAppend va_W va_W va_W _ (rcV X h0 adp sv_12 dv_13 n_3 n1p n2p n3p n4p g0p gsp gnp gmp) (rcV X h1 adq svq dvq n0q n1q n2q n3q n4q g0q gsq gnq gmq)) H locs := ⟨(ovr sv26_0 6 3 a_11a), (ovr dv26_0 20 5 d_11b), wd_sub G [0, 1, 2, 3, 30, 4, 5, 6, 7, 8, 9, 10, 11, 12, 13, 14, 15, 16, 17, 18, 31, 19, 20, 21, 22, 23, 24, 25, 26, 27, 28, 29] rfl rfl⟩
        refine lv_iinc (v := 3) (lv' := [(2, .int 3), (0, .ref h0), (1, .ref h1)]) zx zb dX5_copyLine_47 hl (k := 0) rfl (by decide) (by decide) rfl (fun ls hl => ?_)
        refine lv_goto (tgt := 26) zx zb dX5_copyLine_50 (by decide) ?_
        exact ih26 3 sv_12 dv_13 _ _ _ (by omega) (by omega) G hl
      · refine k_it (v := 3) rfl ?_
        refine r_aald (C := RX8) (b := (adp 4)) S G 1 3 rfl rfl (k_vp (by decide)) rfl dX5_copyLine_37 ?_
        refine lv_aload_n zx zb dX5_copyLine_38 rfl (lv_at hl 2 rfl) ?_
        refine r_get (C := RX5) (T := TX5) (N := 8) (ci := 3) (v := .ref (adq 0)) S in_X5_copyLine_X5 G 16 rfl rfl 3 (by decide) lk_X5_copyLine_23 rfl dX5_copyLine_39 ?_
        refine lv_iload_n zx zb dX5_copyLine_42 rfl (lv_at hl 0 rfl) ?_
        refine r_aald (C := RX8) (b := (adq 4)) S G 17 3 rfl rfl (k_vp (by decide)) rfl dX5_copyLine_43 ?_
        refine b_wv (cells' := 0) (slots' := 0) (wr := @HAppend.hAppend va_W va_W va_W _ ([(h0, .inr (3, [.int (dv26_0 0), .int (dv26_0 1), .int (nI n_3), .ref (adp 0), .ref (adp 7), .ref (adp 9), .ref (adp 11), .ref (adp 13)])), ((adp 0), .inl (X.2.2.2.2, 6, .inr (.inr (.inr (.inr (rowQ adp)))))), ((adp 1), .inr (6, [.int (sv26_0 0), .int (sv26_0 1), .int (sv26_0 2), .int (dv26_0 10), .int (dv26_0 11), .int (dv26_0 12), .int (dv26_0 13), .int (dv26_0 14)])), ((adp 2), .inr (6, [.int (sv26_0 3), .int (sv26_0 4), .int (sv26_0 5), .int (dv26_0 15), .int (dv26_0 16), .int (dv26_0 17), .int (dv26_0 18), .int (dv26_0 19)])), ((adp 3), .inr (6, [.int (sv26_0 6), .int (sv26_0 7), .int (sv26_0 8), .int (dv26_0 20), .int (dv26_0 21), .int (dv26_0 22), .int (dv26_0 23), .int (dv26_0 24)])), ((adp 5), .inr (6, [.int (sv26_0 12), .int (sv26_0 13), .int (sv26_0 14), .int (dv26_0 30), .int (dv26_0 31), .int (dv26_0 32), .int (dv26_0 33), .int (dv26_0 34)])), ((adp 6), .inr (6, [.int (sv26_0 15), .int (sv26_0 16), .int (sv26_0 17), .int (dv26_0 35), .int (dv26_0 36), .int (dv26_0 37), .int (dv26_0 38), .int (dv26_0 39)])), ((adp 7), .inr (2, [.ref (adp 8), .int (nI n1p)])), ((adp 8), .inl (X.2.1, 248, .inl g0p)), ((adp 9), .inr (5, [.int 5, .int 0, .int 1, .ref (adp 10), .int (nI n2p)])), ((adp 10), .inl (X.2.1, 25, .inl gsp)), ((adp 11), .inr (5, [.int 6, .int 1, .int 1, .ref (adp 12), .int (nI n3p)])), ((adp 12), .inl (X.2.1, 30, .inl gnp)), ((adp 13), .inr (5, [.int 6, .int 0, .int 0, .ref (adp 14), .int (nI n4p)])), ((adp 14), .inl (X.2.1, 30, .inl gmp))]) ([(h1, .inr (3, [.int (dvq 0), .int (dvq 1), .int (nI n0q), .ref (adq 0), .ref (adq 7), .ref (adq 9), .ref (adq 11), .ref (adq 13)])), ((adq 0), .inl (X.2.2.2.2, 6, .inr (.inr (.inr (.inr (rowQ adq)))))), ((adq 1), .inr (6, [.int (svq 0), .int (svq 1), .int (svq 2), .int (dvq 10), .int (dvq 11), .int (dvq 12), .int (dvq 13), .int (dvq 14)])), ((adq 2), .inr (6, [.int (svq 3), .int (svq 4), .int (svq 5), .int (dvq 15), .int (dvq 16), .int (dvq 17), .int (dvq 18), .int (dvq 19)])), ((adq 3), .inr (6, [.int (svq 6), .int (svq 7), .int (svq 8), .int (dvq 20), .int (dvq 21), .int (dvq 22), .int (dvq 23), .int (dvq 24)])), ((adq 5), .inr (6, [.int (svq 12), .int (svq 13), .int (svq 14), .int (dvq 30), .int (dvq 31), .int (dvq 32), .int (dvq 33), .int (dvq 34)])), ((adq 6), .inr (6, [.int (svq 15), .int (svq 16), .int (svq 17), .int (dvq 35), .int (dvq 36), .int (dvq 37), .int (dvq 38), .int (dvq 39)])), ((adq 7), .inr (2, [.ref (adq 8), .int (nI n1q)])), ((adq 8), .inl (X.2.1, 248, .inl g0q)), ((adq 9), .inr (5, [.int 5, .int 0, .int 1, .ref (adq 10), .int (nI n2q)])), ((adq 10), .inl (X.2.1, 25, .inl gsq)), ((adq 11), .inr (5, [.int 6, .int 1, .int 1, .ref (adq 12), .int (nI n3q)])), ((adq 12), .inl (X.2.1, 30, .inl gnq)), ((adq 13), .inr (5, [.int 6, .int 0, .int 0, .ref (adq 14), .int (nI n4q)])), ((adq 14), .inl (X.2.1, 30, .inl gmq))])) G rfl rfl [5, 21] [0, 1, 2, 3, 4, 6, 7, 8, 9, 10, 11, 12, 13, 14, 15, 16, 17, 18, 19, 20, 22, 23, 24, 25, 26, 27, 28, 29, 30, 31] rfl rfl rfl rfl (n_V (As := [.ref (adq 4)]) (rest := []) (C := RX8) (T := TX8) (N := 8) (ci := 6) S G (s_rcopy l X (adp 4) (fun k => sv26_0 (9 + k)) (fun k => dv26_0 (25 + k)) (adq 4) (fun k => svq (9 + k)) (fun k => dvq (25 + k)) H.size) gX5_copyLine_X8_copyFrom rfl rfl rfl hdV_X8_copyFrom ⟨Nat.le_of_ble_eq_true rfl, Nat.le_of_ble_eq_true rfl⟩ [5, 21] rfl rfl 5 rfl rfl rfl hl.1 (Nat.le_of_ble_eq_true rfl) dX5_copyLine_44 ⟨Nat.le_of_ble_eq_true rfl, Nat.le_of_ble_eq_true rfl⟩) (fun u_14 H locs hp_14 G => ?_)
        obtain ⟨a_14a, d_14b⟩ := u_14
        have hq_14 := hp_14
        obtain ⟨sv_15, dv_16, G⟩ : ∃ (sv_15 : Nat → Int32) (dv_16 : Nat → Int32), wd X (va_A (@HAppend.hAppend va_W va_W va_W _ (rcV X h0 adp svp dvp n0p n1p n2p n3p n4p g0p gsp gnp gmp) (rcV X h1 adq svq dvq n0q n1q n2q n3q n4q g0q gsq gnq gmq)) sz) (va_A (@HAppend.hAppend va_W va_W va_W _ (rcV X h0 adp svp dvp n0p n1p n2p n3p n4p g0p gsp gnp gmp) (rcV X h1 adq svq dvq n0q n1q n2q n3q n4q g0q gsq gnq gmq)) sz) s (@HAppend.hAppend va_W va_W va_W _ (rcV X h0 adp sv_15 dv_16 n_3 n1p n2p n3p n4p g0p gsp gnp gmp) (rcV X h1 adq svq dvq n0q n1q n2q n3q n4q g0q gsq gnq gmq)) H locs := ⟨(ovr sv26_0 9 3 a_14a), (ovr dv26_0 25 5 d_14b), wd_sub G [0, 1, 2, 3, 4, 30, 5, 6, 7, 8, 9, 10, 11, 12, 13, 14, 15, 16, 17, 18, 19, 31, 20, 21, 22, 23, 24, 25, 26, 27, 28, 29] rfl rfl⟩
        refine lv_iinc (v := 4) (lv' := [(2, .int 4), (0, .ref h0), (1, .ref h1)]) zx zb dX5_copyLine_47 hl (k := 0) rfl (by decide) (by decide) rfl (fun ls hl => ?_)
        refine lv_goto (tgt := 26) zx zb dX5_copyLine_50 (by decide) ?_
        exact ih26 4 sv_15 dv_16 _ _ _ (by omega) (by omega) G hl
      · refine k_it (v := 4) rfl ?_
        refine r_aald (C := RX8) (b := (adp 5)) S G 1 3 rfl rfl (k_vp (by decide)) rfl dX5_copyLine_37 ?_
        refine lv_aload_n zx zb dX5_copyLine_38 rfl (lv_at hl 2 rfl) ?_
        refine r_get (C := RX5) (T := TX5) (N := 8) (ci := 3) (v := .ref (adq 0)) S in_X5_copyLine_X5 G 16 rfl rfl 3 (by decide) lk_X5_copyLine_23 rfl dX5_copyLine_39 ?_
        refine lv_iload_n zx zb dX5_copyLine_42 rfl (lv_at hl 0 rfl) ?_
        refine r_aald (C := RX8) (b := (adq 5)) S G 17 3 rfl rfl (k_vp (by decide)) rfl dX5_copyLine_43 ?_
        refine b_wv (cells' := 0) (slots' := 0) (wr := @HAppend.hAppend va_W va_W va_W _ ([(h0, .inr (3, [.int (dv26_0 0), .int (dv26_0 1), .int (nI n_3), .ref (adp 0), .ref (adp 7), .ref (adp 9), .ref (adp 11), .ref (adp 13)])), ((adp 0), .inl (X.2.2.2.2, 6, .inr (.inr (.inr (.inr (rowQ adp)))))), ((adp 1), .inr (6, [.int (sv26_0 0), .int (sv26_0 1), .int (sv26_0 2), .int (dv26_0 10), .int (dv26_0 11), .int (dv26_0 12), .int (dv26_0 13), .int (dv26_0 14)])), ((adp 2), .inr (6, [.int (sv26_0 3), .int (sv26_0 4), .int (sv26_0 5), .int (dv26_0 15), .int (dv26_0 16), .int (dv26_0 17), .int (dv26_0 18), .int (dv26_0 19)])), ((adp 3), .inr (6, [.int (sv26_0 6), .int (sv26_0 7), .int (sv26_0 8), .int (dv26_0 20), .int (dv26_0 21), .int (dv26_0 22), .int (dv26_0 23), .int (dv26_0 24)])), ((adp 4), .inr (6, [.int (sv26_0 9), .int (sv26_0 10), .int (sv26_0 11), .int (dv26_0 25), .int (dv26_0 26), .int (dv26_0 27), .int (dv26_0 28), .int (dv26_0 29)])), ((adp 6), .inr (6, [.int (sv26_0 15), .int (sv26_0 16), .int (sv26_0 17), .int (dv26_0 35), .int (dv26_0 36), .int (dv26_0 37), .int (dv26_0 38), .int (dv26_0 39)])), ((adp 7), .inr (2, [.ref (adp 8), .int (nI n1p)])), ((adp 8), .inl (X.2.1, 248, .inl g0p)), ((adp 9), .inr (5, [.int 5, .int 0, .int 1, .ref (adp 10), .int (nI n2p)])), ((adp 10), .inl (X.2.1, 25, .inl gsp)), ((adp 11), .inr (5, [.int 6, .int 1, .int 1, .ref (adp 12), .int (nI n3p)])), ((adp 12), .inl (X.2.1, 30, .inl gnp)), ((adp 13), .inr (5, [.int 6, .int 0, .int 0, .ref (adp 14), .int (nI n4p)])), ((adp 14), .inl (X.2.1, 30, .inl gmp))]) ([(h1, .inr (3, [.int (dvq 0), .int (dvq 1), .int (nI n0q), .ref (adq 0), .ref (adq 7), .ref (adq 9), .ref (adq 11), .ref (adq 13)])), ((adq 0), .inl (X.2.2.2.2, 6, .inr (.inr (.inr (.inr (rowQ adq)))))), ((adq 1), .inr (6, [.int (svq 0), .int (svq 1), .int (svq 2), .int (dvq 10), .int (dvq 11), .int (dvq 12), .int (dvq 13), .int (dvq 14)])), ((adq 2), .inr (6, [.int (svq 3), .int (svq 4), .int (svq 5), .int (dvq 15), .int (dvq 16), .int (dvq 17), .int (dvq 18), .int (dvq 19)])), ((adq 3), .inr (6, [.int (svq 6), .int (svq 7), .int (svq 8), .int (dvq 20), .int (dvq 21), .int (dvq 22), .int (dvq 23), .int (dvq 24)])), ((adq 4), .inr (6, [.int (svq 9), .int (svq 10), .int (svq 11), .int (dvq 25), .int (dvq 26), .int (dvq 27), .int (dvq 28), .int (dvq 29)])), ((adq 6), .inr (6, [.int (svq 15), .int (svq 16), .int (svq 17), .int (dvq 35), .int (dvq 36), .int (dvq 37), .int (dvq 38), .int (dvq 39)])), ((adq 7), .inr (2, [.ref (adq 8), .int (nI n1q)])), ((adq 8), .inl (X.2.1, 248, .inl g0q)), ((adq 9), .inr (5, [.int 5, .int 0, .int 1, .ref (adq 10), .int (nI n2q)])), ((adq 10), .inl (X.2.1, 25, .inl gsq)), ((adq 11), .inr (5, [.int 6, .int 1, .int 1, .ref (adq 12), .int (nI n3q)])), ((adq 12), .inl (X.2.1, 30, .inl gnq)), ((adq 13), .inr (5, [.int 6, .int 0, .int 0, .ref (adq 14), .int (nI n4q)])), ((adq 14), .inl (X.2.1, 30, .inl gmq))])) G rfl rfl [6, 22] [0, 1, 2, 3, 4, 5, 7, 8, 9, 10, 11, 12, 13, 14, 15, 16, 17, 18, 19, 20, 21, 23, 24, 25, 26, 27, 28, 29, 30, 31] rfl rfl rfl rfl (n_V (As := [.ref (adq 5)]) (rest := []) (C := RX8) (T := TX8) (N := 8) (ci := 6) S G (s_rcopy l X (adp 5) (fun k => sv26_0 (12 + k)) (fun k => dv26_0 (30 + k)) (adq 5) (fun k => svq (12 + k)) (fun k => dvq (30 + k)) H.size) gX5_copyLine_X8_copyFrom rfl rfl rfl hdV_X8_copyFrom ⟨Nat.le_of_ble_eq_true rfl, Nat.le_of_ble_eq_true rfl⟩ [6, 22] rfl rfl 6 rfl rfl rfl hl.1 (Nat.le_of_ble_eq_true rfl) dX5_copyLine_44 ⟨Nat.le_of_ble_eq_true rfl, Nat.le_of_ble_eq_true rfl⟩) (fun u_17 H locs hp_17 G => ?_)
        obtain ⟨a_17a, d_17b⟩ := u_17
        have hq_17 := hp_17
        obtain ⟨sv_18, dv_19, G⟩ : ∃ (sv_18 : Nat → Int32) (dv_19 : Nat → Int32), wd X (va_A (@HAppend.hAppend va_W va_W va_W _ (rcV X h0 adp svp dvp n0p n1p n2p n3p n4p g0p gsp gnp gmp) (rcV X h1 adq svq dvq n0q n1q n2q n3q n4q g0q gsq gnq gmq)) sz) (va_A (@HAppend.hAppend va_W va_W va_W _ (rcV X h0 adp svp dvp n0p n1p n2p n3p n4p g0p gsp gnp gmp) (rcV X h1 adq svq dvq n0q n1q n2q n3q n4q g0q gsq gnq gmq)) sz) s (@HAppend.hAppend va_W va_W va_W _ (rcV X h0 adp sv_18 dv_19 n_3 n1p n2p n3p n4p g0p gsp gnp gmp) (rcV X h1 adq svq dvq n0q n1q n2q n3q n4q g0q gsq gnq gmq)) H locs := ⟨(ovr sv26_0 12 3 a_17a), (ovr dv26_0 30 5 d_17b), wd_sub G [0, 1, 2, 3, 4, 5, 30, 6, 7, 8, 9, 10, 11, 12, 13, 14, 15, 16, 17, 18, 19, 20, 31, 21, 22, 23, 24, 25, 26, 27, 28, 29] rfl rfl⟩
        refine lv_iinc (v := 5) (lv' := [(2, .int 5), (0, .ref h0), (1, .ref h1)]) zx zb dX5_copyLine_47 hl (k := 0) rfl (by decide) (by decide) rfl (fun ls hl => ?_)
        refine lv_goto (tgt := 26) zx zb dX5_copyLine_50 (by decide) ?_
        exact ih26 5 sv_18 dv_19 _ _ _ (by omega) (by omega) G hl
      · refine k_it (v := 5) rfl ?_
        refine r_aald (C := RX8) (b := (adp 6)) S G 1 3 rfl rfl (k_vp (by decide)) rfl dX5_copyLine_37 ?_
        refine lv_aload_n zx zb dX5_copyLine_38 rfl (lv_at hl 2 rfl) ?_
        refine r_get (C := RX5) (T := TX5) (N := 8) (ci := 3) (v := .ref (adq 0)) S in_X5_copyLine_X5 G 16 rfl rfl 3 (by decide) lk_X5_copyLine_23 rfl dX5_copyLine_39 ?_
        refine lv_iload_n zx zb dX5_copyLine_42 rfl (lv_at hl 0 rfl) ?_
        refine r_aald (C := RX8) (b := (adq 6)) S G 17 3 rfl rfl (k_vp (by decide)) rfl dX5_copyLine_43 ?_
        refine b_wv (cells' := 0) (slots' := 0) (wr := @HAppend.hAppend va_W va_W va_W _ ([(h0, .inr (3, [.int (dv26_0 0), .int (dv26_0 1), .int (nI n_3), .ref (adp 0), .ref (adp 7), .ref (adp 9), .ref (adp 11), .ref (adp 13)])), ((adp 0), .inl (X.2.2.2.2, 6, .inr (.inr (.inr (.inr (rowQ adp)))))), ((adp 1), .inr (6, [.int (sv26_0 0), .int (sv26_0 1), .int (sv26_0 2), .int (dv26_0 10), .int (dv26_0 11), .int (dv26_0 12), .int (dv26_0 13), .int (dv26_0 14)])), ((adp 2), .inr (6, [.int (sv26_0 3), .int (sv26_0 4), .int (sv26_0 5), .int (dv26_0 15), .int (dv26_0 16), .int (dv26_0 17), .int (dv26_0 18), .int (dv26_0 19)])), ((adp 3), .inr (6, [.int (sv26_0 6), .int (sv26_0 7), .int (sv26_0 8), .int (dv26_0 20), .int (dv26_0 21), .int (dv26_0 22), .int (dv26_0 23), .int (dv26_0 24)])), ((adp 4), .inr (6, [.int (sv26_0 9), .int (sv26_0 10), .int (sv26_0 11), .int (dv26_0 25), .int (dv26_0 26), .int (dv26_0 27), .int (dv26_0 28), .int (dv26_0 29)])), ((adp 5), .inr (6, [.int (sv26_0 12), .int (sv26_0 13), .int (sv26_0 14), .int (dv26_0 30), .int (dv26_0 31), .int (dv26_0 32), .int (dv26_0 33), .int (dv26_0 34)])), ((adp 7), .inr (2, [.ref (adp 8), .int (nI n1p)])), ((adp 8), .inl (X.2.1, 248, .inl g0p)), ((adp 9), .inr (5, [.int 5, .int 0, .int 1, .ref (adp 10), .int (nI n2p)])), ((adp 10), .inl (X.2.1, 25, .inl gsp)), ((adp 11), .inr (5, [.int 6, .int 1, .int 1, .ref (adp 12), .int (nI n3p)])), ((adp 12), .inl (X.2.1, 30, .inl gnp)), ((adp 13), .inr (5, [.int 6, .int 0, .int 0, .ref (adp 14), .int (nI n4p)])), ((adp 14), .inl (X.2.1, 30, .inl gmp))]) ([(h1, .inr (3, [.int (dvq 0), .int (dvq 1), .int (nI n0q), .ref (adq 0), .ref (adq 7), .ref (adq 9), .ref (adq 11), .ref (adq 13)])), ((adq 0), .inl (X.2.2.2.2, 6, .inr (.inr (.inr (.inr (rowQ adq)))))), ((adq 1), .inr (6, [.int (svq 0), .int (svq 1), .int (svq 2), .int (dvq 10), .int (dvq 11), .int (dvq 12), .int (dvq 13), .int (dvq 14)])), ((adq 2), .inr (6, [.int (svq 3), .int (svq 4), .int (svq 5), .int (dvq 15), .int (dvq 16), .int (dvq 17), .int (dvq 18), .int (dvq 19)])), ((adq 3), .inr (6, [.int (svq 6), .int (svq 7), .int (svq 8), .int (dvq 20), .int (dvq 21), .int (dvq 22), .int (dvq 23), .int (dvq 24)])), ((adq 4), .inr (6, [.int (svq 9), .int (svq 10), .int (svq 11), .int (dvq 25), .int (dvq 26), .int (dvq 27), .int (dvq 28), .int (dvq 29)])), ((adq 5), .inr (6, [.int (svq 12), .int (svq 13), .int (svq 14), .int (dvq 30), .int (dvq 31), .int (dvq 32), .int (dvq 33), .int (dvq 34)])), ((adq 7), .inr (2, [.ref (adq 8), .int (nI n1q)])), ((adq 8), .inl (X.2.1, 248, .inl g0q)), ((adq 9), .inr (5, [.int 5, .int 0, .int 1, .ref (adq 10), .int (nI n2q)])), ((adq 10), .inl (X.2.1, 25, .inl gsq)), ((adq 11), .inr (5, [.int 6, .int 1, .int 1, .ref (adq 12), .int (nI n3q)])), ((adq 12), .inl (X.2.1, 30, .inl gnq)), ((adq 13), .inr (5, [.int 6, .int 0, .int 0, .ref (adq 14), .int (nI n4q)])), ((adq 14), .inl (X.2.1, 30, .inl gmq))])) G rfl rfl [7, 23] [0, 1, 2, 3, 4, 5, 6, 8, 9, 10, 11, 12, 13, 14, 15, 16, 17, 18, 19, 20, 21, 22, 24, 25, 26, 27, 28, 29, 30, 31] rfl rfl rfl rfl (n_V (As := [.ref (adq 6)]) (rest := []) (C := RX8) (T := TX8) (N := 8) (ci := 6) S G (s_rcopy l X (adp 6) (fun k => sv26_0 (15 + k)) (fun k => dv26_0 (35 + k)) (adq 6) (fun k => svq (15 + k)) (fun k => dvq (35 + k)) H.size) gX5_copyLine_X8_copyFrom rfl rfl rfl hdV_X8_copyFrom ⟨Nat.le_of_ble_eq_true rfl, Nat.le_of_ble_eq_true rfl⟩ [7, 23] rfl rfl 7 rfl rfl rfl hl.1 (Nat.le_of_ble_eq_true rfl) dX5_copyLine_44 ⟨Nat.le_of_ble_eq_true rfl, Nat.le_of_ble_eq_true rfl⟩) (fun u_20 H locs hp_20 G => ?_)
        obtain ⟨a_20a, d_20b⟩ := u_20
        have hq_20 := hp_20
        obtain ⟨sv_21, dv_22, G⟩ : ∃ (sv_21 : Nat → Int32) (dv_22 : Nat → Int32), wd X (va_A (@HAppend.hAppend va_W va_W va_W _ (rcV X h0 adp svp dvp n0p n1p n2p n3p n4p g0p gsp gnp gmp) (rcV X h1 adq svq dvq n0q n1q n2q n3q n4q g0q gsq gnq gmq)) sz) (va_A (@HAppend.hAppend va_W va_W va_W _ (rcV X h0 adp svp dvp n0p n1p n2p n3p n4p g0p gsp gnp gmp) (rcV X h1 adq svq dvq n0q n1q n2q n3q n4q g0q gsq gnq gmq)) sz) s (@HAppend.hAppend va_W va_W va_W _ (rcV X h0 adp sv_21 dv_22 n_3 n1p n2p n3p n4p g0p gsp gnp gmp) (rcV X h1 adq svq dvq n0q n1q n2q n3q n4q g0q gsq gnq gmq)) H locs := ⟨(ovr sv26_0 15 3 a_20a), (ovr dv26_0 35 5 d_20b), wd_sub G [0, 1, 2, 3, 4, 5, 6, 30, 7, 8, 9, 10, 11, 12, 13, 14, 15, 16, 17, 18, 19, 20, 21, 31, 22, 23, 24, 25, 26, 27, 28, 29] rfl rfl⟩
        refine lv_iinc (v := 6) (lv' := [(2, .int 6), (0, .ref h0), (1, .ref h1)]) zx zb dX5_copyLine_47 hl (k := 0) rfl (by decide) (by decide) rfl (fun ls hl => ?_)
        refine lv_goto (tgt := 26) zx zb dX5_copyLine_50 (by decide) ?_
        exact ih26 6 sv_21 dv_22 _ _ _ (by omega) (by omega) G hl
theorem hdV_X5_copyLine : yX5_copyLine.cls = RX5 ∧ yX5_copyLine.cls ≠ "java/lang/invoke/MethodHandle" ∧ yX5_copyLine.cls ≠ "java/lang/invoke/VarHandle" ∧ (parseMethodDescriptor yX5_copyLine.desc).map (fun d => d.parameters.length) = some 1 := by decide +kernel
theorem in_X5_copyFrom_X5 : ∀ w ∈ wsX50, w ∈ wsX5_copyFrom := by decide +kernel
theorem lk_X5_copyFrom_30 : Cond.fieldLink RX5 30 "EggSpoons$Race" "past" "LEggSpoons$Past;" ∈ wsX5_copyFrom := by decide +kernel
theorem hdV_X4_copyFrom : yX4_copyFrom.cls = RX4 ∧ yX4_copyFrom.cls ≠ "java/lang/invoke/MethodHandle" ∧ yX4_copyFrom.cls ≠ "java/lang/invoke/VarHandle" ∧ (parseMethodDescriptor yX4_copyFrom.desc).map (fun d => d.parameters.length) = some 1 := by decide +kernel
theorem lk_X5_copyFrom_39 : Cond.fieldLink RX5 39 "EggSpoons$Race" "seenRows" "LEggSpoons$Rows;" ∈ wsX5_copyFrom := by decide +kernel
theorem hdV_X7_copyFrom : yX7_copyFrom.cls = RX7 ∧ yX7_copyFrom.cls ≠ "java/lang/invoke/MethodHandle" ∧ yX7_copyFrom.cls ≠ "java/lang/invoke/VarHandle" ∧ (parseMethodDescriptor yX7_copyFrom.desc).map (fun d => d.parameters.length) = some 1 := by decide +kernel
theorem lk_X5_copyFrom_43 : Cond.fieldLink RX5 43 "EggSpoons$Race" "noteRows" "LEggSpoons$Rows;" ∈ wsX5_copyFrom := by decide +kernel
theorem lk_X5_copyFrom_46 : Cond.fieldLink RX5 46 "EggSpoons$Race" "markRows" "LEggSpoons$Rows;" ∈ wsX5_copyFrom := by decide +kernel
set_option maxHeartbeats 4000000 in
set_option maxRecDepth 100000 in
/-- Race.copyFrom -/
theorem s_copyFrom (l : Launch) (X : EX) (h0 : Nat) (adp : Nat → Nat) (svp : Nat → Int32) (dvp : Nat → Int32) (n0p : Nat) (n1p : Nat) (n2p : Nat) (n3p : Nat) (n4p : Nat) (g0p : Nat → Int32) (gsp : Nat → Int32) (gnp : Nat → Int32) (gmp : Nat → Int32) (h1 : Nat) (adq : Nat → Nat) (svq : Nat → Int32) (dvq : Nat → Int32) (n0q : Nat) (n1q : Nat) (n2q : Nat) (n3q : Nat) (n4q : Nat) (g0q : Nat → Int32) (gsq : Nat → Int32) (gnq : Nat → Int32) (gmq : Nat → Int32) (hI_n0p : n0p ≤ 6) (hI_n1p : n1p ≤ 8) (hI_n2p : n2p ≤ 5) (hI_n3p : n3p ≤ 6) (hI_n4p : n4p ≤ 6) (hI_n0q : n0q ≤ 6) (hI_n1q : n1q ≤ 8) (hI_n2q : n2q ≤ 5) (hI_n3q : n3q ≤ 6) (hI_n4q : n4q ≤ 6) (sz : Nat) : Met l yX5_copyFrom wsX5_copyFrom ({ frames := 2, cells := 0, slots := 0, locals := 81 } : Room) (pE X [.ref h0, .ref h1] (@HAppend.hAppend va_W va_W va_W _ (rcV X h0 adp svp dvp n0p n1p n2p n3p n4p g0p gsp gnp gmp) (rcV X h1 adq svq dvq n0q n1q n2q n3q n4q g0q gsq gnq gmq)) sz) (qV (fun (u : (Nat → Int32) × (Nat → Int32) × (Nat) × (Nat) × (Nat) × (Nat) × (Nat) × (Nat → Int32) × (Nat → Int32) × (Nat → Int32) × (Nat → Int32)) => u.2.2.1 ≤ 6 ∧ u.2.2.2.1 ≤ 8 ∧ u.2.2.2.2.1 ≤ 5 ∧ u.2.2.2.2.2.1 ≤ 6 ∧ u.2.2.2.2.2.2.1 ≤ 6 ∧ (u.2.2.1 = n0q ∧ u.2.2.2.2.1 = n2q ∧ u.2.2.2.2.2.1 = n3q ∧ u.2.2.2.2.2.2.1 = n4q)) X (fun (u : (Nat → Int32) × (Nat → Int32) × (Nat) × (Nat) × (Nat) × (Nat) × (Nat) × (Nat → Int32) × (Nat → Int32) × (Nat → Int32) × (Nat → Int32)) => @HAppend.hAppend va_W va_W va_W _ (rcV X h0 adp u.1 u.2.1 u.2.2.1 u.2.2.2.1 u.2.2.2.2.1 u.2.2.2.2.2.1 u.2.2.2.2.2.2.1 u.2.2.2.2.2.2.2.1 u.2.2.2.2.2.2.2.2.1 u.2.2.2.2.2.2.2.2.2.1 u.2.2.2.2.2.2.2.2.2.2) (rcV X h1 adq svq dvq n0q n1q n2q n3q n4q g0q gsq gnq gmq)) (@HAppend.hAppend va_W va_W va_W _ (rcV X h0 adp svp dvp n0p n1p n2p n3p n4p g0p gsp gnp gmp) (rcV X h1 adq svq dvq n0q n1q n2q n3q n4q g0q gsq gnq gmq)) sz) 0 0 (va_A (@HAppend.hAppend va_W va_W va_W _ (rcV X h0 adp svp dvp n0p n1p n2p n3p n4p g0p gsp gnp gmp) (rcV X h1 adq svq dvq n0q n1q n2q n3q n4q g0q gsq gnq gmq)) sz) := by
  refine mk_met (B := (va_A (@HAppend.hAppend va_W va_W va_W _ (rcV X h0 adp svp dvp n0p n1p n2p n3p n4p g0p gsp gnp gmp) (rcV X h1 adq svq dvq n0q n1q n2q n3q n4q g0q gsq gnq gmq)) sz)) (A := (va_A (@HAppend.hAppend va_W va_W va_W _ (rcV X h0 adp svp dvp n0p n1p n2p n3p n4p g0p gsp gnp gmp) (rcV X h1 adq svq dvq n0q n1q n2q n3q n4q g0q gsq gnq gmq)) sz)) (cc := cX5_copyFrom) (maxL := 2) (ret := none) (by decide) rfl (Nat.le_of_ble_eq_true rfl) k_w k_a (fun p e s m below meth c S zr zlk znm zsz G ls hl => ?_)
  have S : CallFix p m c cX5_copyFrom 2 s _ wsX5_copyFrom RX5 := S
  have zx := S.1
  have zb := S.2.1
  have hl : lv_has ls 2 [(0, .ref h0), (1, .ref h1)] := hl
  refine lv_aload_n zx zb dX5_copyFrom_0 rfl (lv_at hl 0 rfl) ?_
  refine lv_aload_n zx zb dX5_copyFrom_1 rfl (lv_at hl 1 rfl) ?_
  refine b_wv (cells' := 0) (slots' := 0) (wr := []) G rfl rfl [0, 1, 2, 3, 4, 5, 6, 7, 8, 9, 10, 11, 12, 13, 14, 15, 16, 17, 18, 19, 20, 21, 22, 23, 24, 25, 26, 27, 28, 29, 30, 31] [] rfl rfl rfl rfl (n_V (As := [.ref h1]) (rest := []) (C := RX5) (T := TX5) (N := 8) (ci := 3) S G (s_copyLine l X h0 adp svp dvp n0p n1p n2p n3p n4p g0p gsp gnp gmp h1 adq svq dvq n0q n1q n2q n3q n4q g0q gsq gnq gmq hI_n0p hI_n1p hI_n2p hI_n3p hI_n4p hI_n0q hI_n1q hI_n2q hI_n3q hI_n4q s.heap.size) gX5_copyFrom_X5_copyLine rfl rfl rfl hdV_X5_copyLine ⟨Nat.le_of_ble_eq_true rfl, Nat.le_of_ble_eq_true rfl⟩ [0, 1, 2, 3, 4, 5, 6, 7, 8, 9, 10, 11, 12, 13, 14, 15, 16, 17, 18, 19, 20, 21, 22, 23, 24, 25, 26, 27, 28, 29, 30, 31] rfl rfl 0 rfl rfl rfl hl.1 (Nat.le_of_ble_eq_true rfl) dX5_copyFrom_2 ⟨Nat.le_of_ble_eq_true rfl, Nat.le_of_ble_eq_true rfl⟩) (fun u_1 H locs hp_1 G => ?_)
  obtain ⟨sv_1a, dv_1b, n0_1c⟩ := u_1
  try dsimp only at hp_1
  obtain ⟨hI_n0_1c, hq_1⟩ := hp_1
  have G : wd X (va_A (@HAppend.hAppend va_W va_W va_W _ (rcV X h0 adp svp dvp n0p n1p n2p n3p n4p g0p gsp gnp gmp) (rcV X h1 adq svq dvq n0q n1q n2q n3q n4q g0q gsq gnq gmq)) sz) (va_A (@HAppend.hAppend va_W va_W va_W _ (rcV X h0 adp svp dvp n0p n1p n2p n3p n4p g0p gsp gnp gmp) (rcV X h1 adq svq dvq n0q n1q n2q n3q n4q g0q gsq gnq gmq)) sz) s (@HAppend.hAppend va_W va_W va_W _ (rcV X h0 adp sv_1a dv_1b n0_1c n1p n2p n3p n4p g0p gsp gnp gmp) (rcV X h1 adq svq dvq n0q n1q n2q n3q n4q g0q gsq gnq gmq)) H locs := G
  refine lv_aload_n zx zb dX5_copyFrom_5 rfl (lv_at hl 0 rfl) ?_
  refine r_get (C := RX5) (T := TX5) (N := 8) (ci := 3) (v := .ref (adp 7)) S in_X5_copyFrom_X5 G 0 rfl rfl 4 (by decide) lk_X5_copyFrom_30 rfl dX5_copyFrom_6 ?_
  refine lv_aload_n zx zb dX5_copyFrom_9 rfl (lv_at hl 1 rfl) ?_
  refine r_get (C := RX5) (T := TX5) (N := 8) (ci := 3) (v := .ref (adq 7)) S in_X5_copyFrom_X5 G 16 rfl rfl 4 (by decide) lk_X5_copyFrom_30 rfl dX5_copyFrom_10 ?_
  refine b_wv (cells' := 0) (slots' := 0) (wr := @HAppend.hAppend va_W va_W va_W _ ([(h0, .inr (3, [.int (dv_1b 0), .int (dv_1b 1), .int (nI n0_1c), .ref (adp 0), .ref (adp 7), .ref (adp 9), .ref (adp 11), .ref (adp 13)])), ((adp 0), .inl (X.2.2.2.2, 6, .inr (.inr (.inr (.inr (rowQ adp)))))), ((adp 1), .inr (6, [.int (sv_1a 0), .int (sv_1a 1), .int (sv_1a 2), .int (dv_1b 10), .int (dv_1b 11), .int (dv_1b 12), .int (dv_1b 13), .int (dv_1b 14)])), ((adp 2), .inr (6, [.int (sv_1a 3), .int (sv_1a 4), .int (sv_1a 5), .int (dv_1b 15), .int (dv_1b 16), .int (dv_1b 17), .int (dv_1b 18), .int (dv_1b 19)])), ((adp 3), .inr (6, [.int (sv_1a 6), .int (sv_1a 7), .int (sv_1a 8), .int (dv_1b 20), .int (dv_1b 21), .int (dv_1b 22), .int (dv_1b 23), .int (dv_1b 24)])), ((adp 4), .inr (6, [.int (sv_1a 9), .int (sv_1a 10), .int (sv_1a 11), .int (dv_1b 25), .int (dv_1b 26), .int (dv_1b 27), .int (dv_1b 28), .int (dv_1b 29)])), ((adp 5), .inr (6, [.int (sv_1a 12), .int (sv_1a 13), .int (sv_1a 14), .int (dv_1b 30), .int (dv_1b 31), .int (dv_1b 32), .int (dv_1b 33), .int (dv_1b 34)])), ((adp 6), .inr (6, [.int (sv_1a 15), .int (sv_1a 16), .int (sv_1a 17), .int (dv_1b 35), .int (dv_1b 36), .int (dv_1b 37), .int (dv_1b 38), .int (dv_1b 39)])), ((adp 9), .inr (5, [.int 5, .int 0, .int 1, .ref (adp 10), .int (nI n2p)])), ((adp 10), .inl (X.2.1, 25, .inl gsp)), ((adp 11), .inr (5, [.int 6, .int 1, .int 1, .ref (adp 12), .int (nI n3p)])), ((adp 12), .inl (X.2.1, 30, .inl gnp)), ((adp 13), .inr (5, [.int 6, .int 0, .int 0, .ref (adp 14), .int (nI n4p)])), ((adp 14), .inl (X.2.1, 30, .inl gmp))]) ([(h1, .inr (3, [.int (dvq 0), .int (dvq 1), .int (nI n0q), .ref (adq 0), .ref (adq 7), .ref (adq 9), .ref (adq 11), .ref (adq 13)])), ((adq 0), .inl (X.2.2.2.2, 6, .inr (.inr (.inr (.inr (rowQ adq)))))), ((adq 1), .inr (6, [.int (svq 0), .int (svq 1), .int (svq 2), .int (dvq 10), .int (dvq 11), .int (dvq 12), .int (dvq 13), .int (dvq 14)])), ((adq 2), .inr (6, [.int (svq 3), .int (svq 4), .int (svq 5), .int (dvq 15), .int (dvq 16), .int (dvq 17), .int (dvq 18), .int (dvq 19)])), ((adq 3), .inr (6, [.int (svq 6), .int (svq 7), .int (svq 8), .int (dvq 20), .int (dvq 21), .int (dvq 22), .int (dvq 23), .int (dvq 24)])), ((adq 4), .inr (6, [.int (svq 9), .int (svq 10), .int (svq 11), .int (dvq 25), .int (dvq 26), .int (dvq 27), .int (dvq 28), .int (dvq 29)])), ((adq 5), .inr (6, [.int (svq 12), .int (svq 13), .int (svq 14), .int (dvq 30), .int (dvq 31), .int (dvq 32), .int (dvq 33), .int (dvq 34)])), ((adq 6), .inr (6, [.int (svq 15), .int (svq 16), .int (svq 17), .int (dvq 35), .int (dvq 36), .int (dvq 37), .int (dvq 38), .int (dvq 39)])), ((adq 9), .inr (5, [.int 5, .int 0, .int 1, .ref (adq 10), .int (nI n2q)])), ((adq 10), .inl (X.2.1, 25, .inl gsq)), ((adq 11), .inr (5, [.int 6, .int 1, .int 1, .ref (adq 12), .int (nI n3q)])), ((adq 12), .inl (X.2.1, 30, .inl gnq)), ((adq 13), .inr (5, [.int 6, .int 0, .int 0, .ref (adq 14), .int (nI n4q)])), ((adq 14), .inl (X.2.1, 30, .inl gmq))])) G rfl rfl [8, 9, 24, 25] [0, 1, 2, 3, 4, 5, 6, 7, 10, 11, 12, 13, 14, 15, 16, 17, 18, 19, 20, 21, 22, 23, 26, 27, 28, 29, 30, 31] rfl rfl rfl rfl (n_V (As := [.ref (adq 7)]) (rest := []) (C := RX4) (T := TX4) (N := 2) (ci := 2) S G (s_pcopy l X (adp 7) (adp 8) n1p g0p (adq 7) (adq 8) n1q g0q hI_n1p hI_n1q H.size) gX5_copyFrom_X4_copyFrom rfl rfl rfl hdV_X4_copyFrom ⟨Nat.le_of_ble_eq_true rfl, Nat.le_of_ble_eq_true rfl⟩ [8, 9, 24, 25] rfl rfl 8 rfl rfl rfl hl.1 (Nat.le_of_ble_eq_true rfl) dX5_copyFrom_13 ⟨Nat.le_of_ble_eq_true rfl, Nat.le_of_ble_eq_true rfl⟩) (fun u_2 H locs hp_2 G => ?_)
  obtain ⟨n_2a, f_2b⟩ := u_2
  try dsimp only at hp_2
  obtain ⟨hI_n_2a, hq_2⟩ := hp_2
  have G : wd X (va_A (@HAppend.hAppend va_W va_W va_W _ (rcV X h0 adp svp dvp n0p n1p n2p n3p n4p g0p gsp gnp gmp) (rcV X h1 adq svq dvq n0q n1q n2q n3q n4q g0q gsq gnq gmq)) sz) (va_A (@HAppend.hAppend va_W va_W va_W _ (rcV X h0 adp svp dvp n0p n1p n2p n3p n4p g0p gsp gnp gmp) (rcV X h1 adq svq dvq n0q n1q n2q n3q n4q g0q gsq gnq gmq)) sz) s (@HAppend.hAppend va_W va_W va_W _ (rcV X h0 adp sv_1a dv_1b n0_1c n_2a n2p n3p n4p f_2b gsp gnp gmp) (rcV X h1 adq svq dvq n0q n1q n2q n3q n4q g0q gsq gnq gmq)) H locs := wd_sub G [0, 1, 2, 3, 4, 5, 6, 7, 28, 29, 8, 9, 10, 11, 12, 13, 14, 15, 16, 17, 18, 19, 20, 21, 30, 31, 22, 23, 24, 25, 26, 27] rfl rfl
  refine lv_aload_n zx zb dX5_copyFrom_16 rfl (lv_at hl 0 rfl) ?_
  refine r_get (C := RX5) (T := TX5) (N := 8) (ci := 3) (v := .ref (adp 9)) S in_X5_copyFrom_X5 G 0 rfl rfl 5 (by decide) lk_X5_copyFrom_39 rfl dX5_copyFrom_17 ?_
  refine lv_aload_n zx zb dX5_copyFrom_20 rfl (lv_at hl 1 rfl) ?_
  refine r_get (C := RX5) (T := TX5) (N := 8) (ci := 3) (v := .ref (adq 9)) S in_X5_copyFrom_X5 G 16 rfl rfl 5 (by decide) lk_X5_copyFrom_39 rfl dX5_copyFrom_21 ?_
  refine b_wv (cells' := 0) (slots' := 0) (wr := @HAppend.hAppend va_W va_W va_W _ ([(h0, .inr (3, [.int (dv_1b 0), .int (dv_1b 1), .int (nI n0_1c), .ref (adp 0), .ref (adp 7), .ref (adp 9), .ref (adp 11), .ref (adp 13)])), ((adp 0), .inl (X.2.2.2.2, 6, .inr (.inr (.inr (.inr (rowQ adp)))))), ((adp 1), .inr (6, [.int (sv_1a 0), .int (sv_1a 1), .int (sv_1a 2), .int (dv_1b 10), .int (dv_1b 11), .int (dv_1b 12), .int (dv_1b 13), .int (dv_1b 14)])), ((adp 2), .inr (6, [.int (sv_1a 3), .int (sv_1a 4), .int (sv_1a 5), .int (dv_1b 15), .int (dv_1b 16), .int (dv_1b 17), .int (dv_1b 18), .int (dv_1b 19)])), ((adp 3), .inr (6, [.int (sv_1a 6), .int (sv_1a 7), .int (sv_1a 8), .int (dv_1b 20), .int (dv_1b 21), .int (dv_1b 22), .int (dv_1b 23), .int (dv_1b 24)])), ((adp 4), .inr (6, [.int (sv_1a 9), .int (sv_1a 10), .int (sv_1a 11), .int (dv_1b 25), .int (dv_1b 26), .int (dv_1b 27), .int (dv_1b 28), .int (dv_1b 29)])), ((adp 5), .inr (6, [.int (sv_1a 12), .int (sv_1a 13), .int (sv_1a 14), .int (dv_1b 30), .int (dv_1b 31), .int (dv_1b 32), .int (dv_1b 33), .int (dv_1b 34)])), ((adp 6), .inr (6, [.int (sv_1a 15), .int (sv_1a 16), .int (sv_1a 17), .int (dv_1b 35), .int (dv_1b 36), .int (dv_1b 37), .int (dv_1b 38), .int (dv_1b 39)])), ((adp 7), .inr (2, [.ref (adp 8), .int (nI n_2a)])), ((adp 8), .inl (X.2.1, 248, .inl f_2b)), ((adp 11), .inr (5, [.int 6, .int 1, .int 1, .ref (adp 12), .int (nI n3p)])), ((adp 12), .inl (X.2.1, 30, .inl gnp)), ((adp 13), .inr (5, [.int 6, .int 0, .int 0, .ref (adp 14), .int (nI n4p)])), ((adp 14), .inl (X.2.1, 30, .inl gmp))]) ([(h1, .inr (3, [.int (dvq 0), .int (dvq 1), .int (nI n0q), .ref (adq 0), .ref (adq 7), .ref (adq 9), .ref (adq 11), .ref (adq 13)])), ((adq 0), .inl (X.2.2.2.2, 6, .inr (.inr (.inr (.inr (rowQ adq)))))), ((adq 1), .inr (6, [.int (svq 0), .int (svq 1), .int (svq 2), .int (dvq 10), .int (dvq 11), .int (dvq 12), .int (dvq 13), .int (dvq 14)])), ((adq 2), .inr (6, [.int (svq 3), .int (svq 4), .int (svq 5), .int (dvq 15), .int (dvq 16), .int (dvq 17), .int (dvq 18), .int (dvq 19)])), ((adq 3), .inr (6, [.int (svq 6), .int (svq 7), .int (svq 8), .int (dvq 20), .int (dvq 21), .int (dvq 22), .int (dvq 23), .int (dvq 24)])), ((adq 4), .inr (6, [.int (svq 9), .int (svq 10), .int (svq 11), .int (dvq 25), .int (dvq 26), .int (dvq 27), .int (dvq 28), .int (dvq 29)])), ((adq 5), .inr (6, [.int (svq 12), .int (svq 13), .int (svq 14), .int (dvq 30), .int (dvq 31), .int (dvq 32), .int (dvq 33), .int (dvq 34)])), ((adq 6), .inr (6, [.int (svq 15), .int (svq 16), .int (svq 17), .int (dvq 35), .int (dvq 36), .int (dvq 37), .int (dvq 38), .int (dvq 39)])), ((adq 7), .inr (2, [.ref (adq 8), .int (nI n1q)])), ((adq 8), .inl (X.2.1, 248, .inl g0q)), ((adq 11), .inr (5, [.int 6, .int 1, .int 1, .ref (adq 12), .int (nI n3q)])), ((adq 12), .inl (X.2.1, 30, .inl gnq)), ((adq 13), .inr (5, [.int 6, .int 0, .int 0, .ref (adq 14), .int (nI n4q)])), ((adq 14), .inl (X.2.1, 30, .inl gmq))])) G rfl rfl [10, 11, 26, 27] [0, 1, 2, 3, 4, 5, 6, 7, 8, 9, 12, 13, 14, 15, 16, 17, 18, 19, 20, 21, 22, 23, 24, 25, 28, 29, 30, 31] rfl rfl rfl rfl (n_V (As := [.ref (adq 9)]) (rest := []) (C := RX7) (T := TX7) (N := 5) (ci := 5) S G (s_wcopy0 l X (adp 9) (adp 10) n2p gsp (adq 9) (adq 10) n2q gsq hI_n2p hI_n2q H.size) gX5_copyFrom_X7_copyFrom rfl rfl rfl hdV_X7_copyFrom ⟨Nat.le_of_ble_eq_true rfl, Nat.le_of_ble_eq_true rfl⟩ [10, 11, 26, 27] rfl rfl 10 rfl rfl rfl hl.1 (Nat.le_of_ble_eq_true rfl) dX5_copyFrom_24 ⟨Nat.le_of_ble_eq_true rfl, Nat.le_of_ble_eq_true rfl⟩) (fun u_3 H locs hp_3 G => ?_)
  obtain ⟨n_3a, f_3b⟩ := u_3
  try dsimp only at hp_3
  obtain ⟨hI_n_3a, hq_3⟩ := hp_3
  have G : wd X (va_A (@HAppend.hAppend va_W va_W va_W _ (rcV X h0 adp svp dvp n0p n1p n2p n3p n4p g0p gsp gnp gmp) (rcV X h1 adq svq dvq n0q n1q n2q n3q n4q g0q gsq gnq gmq)) sz) (va_A (@HAppend.hAppend va_W va_W va_W _ (rcV X h0 adp svp dvp n0p n1p n2p n3p n4p g0p gsp gnp gmp) (rcV X h1 adq svq dvq n0q n1q n2q n3q n4q g0q gsq gnq gmq)) sz) s (@HAppend.hAppend va_W va_W va_W _ (rcV X h0 adp sv_1a dv_1b n0_1c n_2a n_3a n3p n4p f_2b f_3b gnp gmp) (rcV X h1 adq svq dvq n0q n1q n2q n3q n4q g0q gsq gnq gmq)) H locs := wd_sub G [0, 1, 2, 3, 4, 5, 6, 7, 8, 9, 28, 29, 10, 11, 12, 13, 14, 15, 16, 17, 18, 19, 20, 21, 22, 23, 30, 31, 24, 25, 26, 27] rfl rfl
  refine lv_aload_n zx zb dX5_copyFrom_27 rfl (lv_at hl 0 rfl) ?_
  refine r_get (C := RX5) (T := TX5) (N := 8) (ci := 3) (v := .ref (adp 11)) S in_X5_copyFrom_X5 G 0 rfl rfl 6 (by decide) lk_X5_copyFrom_43 rfl dX5_copyFrom_28 ?_
  refine lv_aload_n zx zb dX5_copyFrom_31 rfl (lv_at hl 1 rfl) ?_
  refine r_get (C := RX5) (T := TX5) (N := 8) (ci := 3) (v := .ref (adq 11)) S in_X5_copyFrom_X5 G 16 rfl rfl 6 (by decide) lk_X5_copyFrom_43 rfl dX5_copyFrom_32 ?_
  refine b_wv (cells' := 0) (slots' := 0) (wr := @HAppend.hAppend va_W va_W va_W _ ([(h0, .inr (3, [.int (dv_1b 0), .int (dv_1b 1), .int (nI n0_1c), .ref (adp 0), .ref (adp 7), .ref (adp 9), .ref (adp 11), .ref (adp 13)])), ((adp 0), .inl (X.2.2.2.2, 6, .inr (.inr (.inr (.inr (rowQ adp)))))), ((adp 1), .inr (6, [.int (sv_1a 0), .int (sv_1a 1), .int (sv_1a 2), .int (dv_1b 10), .int (dv_1b 11), .int (dv_1b 12), .int (dv_1b 13), .int (dv_1b 14)])), ((adp 2), .inr (6, [.int (sv_1a 3), .int (sv_1a 4), .int (sv_1a 5), .int (dv_1b 15), .int (dv_1b 16), .int (dv_1b 17), .int (dv_1b 18), .int (dv_1b 19)])), ((adp 3), .inr (6, [.int (sv_1a 6), .int (sv_1a 7), .int (sv_1a 8), .int (dv_1b 20), .int (dv_1b 21), .int (dv_1b 22), .int (dv_1b 23), .int (dv_1b 24)])), ((adp 4), .inr (6, [.int (sv_1a 9), .int (sv_1a 10), .int (sv_1a 11), .int (dv_1b 25), .int (dv_1b 26), .int (dv_1b 27), .int (dv_1b 28), .int (dv_1b 29)])), ((adp 5), .inr (6, [.int (sv_1a 12), .int (sv_1a 13), .int (sv_1a 14), .int (dv_1b 30), .int (dv_1b 31), .int (dv_1b 32), .int (dv_1b 33), .int (dv_1b 34)])), ((adp 6), .inr (6, [.int (sv_1a 15), .int (sv_1a 16), .int (sv_1a 17), .int (dv_1b 35), .int (dv_1b 36), .int (dv_1b 37), .int (dv_1b 38), .int (dv_1b 39)])), ((adp 7), .inr (2, [.ref (adp 8), .int (nI n_2a)])), ((adp 8), .inl (X.2.1, 248, .inl f_2b)), ((adp 9), .inr (5, [.int 5, .int 0, .int 1, .ref (adp 10), .int (nI n_3a)])), ((adp 10), .inl (X.2.1, 25, .inl f_3b)), ((adp 13), .inr (5, [.int 6, .int 0, .int 0, .ref (adp 14), .int (nI n4p)])), ((adp 14), .inl (X.2.1, 30, .inl gmp))]) ([(h1, .inr (3, [.int (dvq 0), .int (dvq 1), .int (nI n0q), .ref (adq 0), .ref (adq 7), .ref (adq 9), .ref (adq 11), .ref (adq 13)])), ((adq 0), .inl (X.2.2.2.2, 6, .inr (.inr (.inr (.inr (rowQ adq)))))), ((adq 1), .inr (6, [.int (svq 0), .int (svq 1), .int (svq 2), .int (dvq 10), .int (dvq 11), .int (dvq 12), .int (dvq 13), .int (dvq 14)])), ((adq 2), .inr (6, [.int (svq 3), .int (svq 4), .int (svq 5), .int (dvq 15), .int (dvq 16), .int (dvq 17), .int (dvq 18), .int (dvq 19)])), ((adq 3), .inr (6, [.int (svq 6), .int (svq 7), .int (svq 8), .int (dvq 20), .int (dvq 21), .int (dvq 22), .int (dvq 23), .int (dvq 24)])), ((adq 4), .inr (6, [.int (svq 9), .int (svq 10), .int (svq 11), .int (dvq 25), .int (dvq 26), .int (dvq 27), .int (dvq 28), .int (dvq 29)])), ((adq 5), .inr (6, [.int (svq 12), .int (svq 13), .int (svq 14), .int (dvq 30), .int (dvq 31), .int (dvq 32), .int (dvq 33), .int (dvq 34)])), ((adq 6), .inr (6, [.int (svq 15), .int (svq 16), .int (svq 17), .int (dvq 35), .int (dvq 36), .int (dvq 37), .int (dvq 38), .int (dvq 39)])), ((adq 7), .inr (2, [.ref (adq 8), .int (nI n1q)])), ((adq 8), .inl (X.2.1, 248, .inl g0q)), ((adq 9), .inr (5, [.int 5, .int 0, .int 1, .ref (adq 10), .int (nI n2q)])), ((adq 10), .inl (X.2.1, 25, .inl gsq)), ((adq 13), .inr (5, [.int 6, .int 0, .int 0, .ref (adq 14), .int (nI n4q)])), ((adq 14), .inl (X.2.1, 30, .inl gmq))])) G rfl rfl [12, 13, 28, 29] [0, 1, 2, 3, 4, 5, 6, 7, 8, 9, 10, 11, 14, 15, 16, 17, 18, 19, 20, 21, 22, 23, 24, 25, 26, 27, 30, 31] rfl rfl rfl rfl (n_V (As := [.ref (adq 11)]) (rest := []) (C := RX7) (T := TX7) (N := 5) (ci := 5) S G (s_wcopy1 l X (adp 11) (adp 12) n3p gnp (adq 11) (adq 12) n3q gnq hI_n3p hI_n3q H.size) gX5_copyFrom_X7_copyFrom rfl rfl rfl hdV_X7_copyFrom ⟨Nat.le_of_ble_eq_true rfl, Nat.le_of_ble_eq_true rfl⟩ [12, 13, 28, 29] rfl rfl 12 rfl rfl rfl hl.1 (Nat.le_of_ble_eq_true rfl) dX5_copyFrom_35 ⟨Nat.le_of_ble_eq_true rfl, Nat.le_of_ble_eq_true rfl⟩) (fun u_4 H locs hp_4 G => ?_)
  obtain ⟨n_4a, f_4b⟩ := u_4
  try dsimp only at hp_4
  obtain ⟨hI_n_4a, hq_4⟩ := hp_4
  have G : wd X (va_A (@HAppend.hAppend va_W va_W va_W _ (rcV X h0 adp svp dvp n0p n1p n2p n3p n4p g0p gsp gnp gmp) (rcV X h1 adq svq dvq n0q n1q n2q n3q n4q g0q gsq gnq gmq)) sz) (va_A (@HAppend.hAppend va_W va_W va_W _ (rcV X h0 adp svp dvp n0p n1p n2p n3p n4p g0p gsp gnp gmp) (rcV X h1 adq svq dvq n0q n1q n2q n3q n4q g0q gsq gnq gmq)) sz) s (@HAppend.hAppend va_W va_W va_W _ (rcV X h0 adp sv_1a dv_1b n0_1c n_2a n_3a n_4a n4p f_2b f_3b f_4b gmp) (rcV X h1 adq svq dvq n0q n1q n2q n3q n4q g0q gsq gnq gmq)) H locs := wd_sub G [0, 1, 2, 3, 4, 5, 6, 7, 8, 9, 10, 11, 28, 29, 12, 13, 14, 15, 16, 17, 18, 19, 20, 21, 22, 23, 24, 25, 30, 31, 26, 27] rfl rfl
  refine lv_aload_n zx zb dX5_copyFrom_38 rfl (lv_at hl 0 rfl) ?_
  refine r_get (C := RX5) (T := TX5) (N := 8) (ci := 3) (v := .ref (adp 13)) S in_X5_copyFrom_X5 G 0 rfl rfl 7 (by decide) lk_X5_copyFrom_46 rfl dX5_copyFrom_39 ?_
  refine lv_aload_n zx zb dX5_copyFrom_42 rfl (lv_at hl 1 rfl) ?_
  refine r_get (C := RX5) (T := TX5) (N := 8) (ci := 3) (v := .ref (adq 13)) S in_X5_copyFrom_X5 G 16 rfl rfl 7 (by decide) lk_X5_copyFrom_46 rfl dX5_copyFrom_43 ?_
  refine b_wv (cells' := 0) (slots' := 0) (wr := @HAppend.hAppend va_W va_W va_W _ ([(h0, .inr (3, [.int (dv_1b 0), .int (dv_1b 1), .int (nI n0_1c), .ref (adp 0), .ref (adp 7), .ref (adp 9), .ref (adp 11), .ref (adp 13)])), ((adp 0), .inl (X.2.2.2.2, 6, .inr (.inr (.inr (.inr (rowQ adp)))))), ((adp 1), .inr (6, [.int (sv_1a 0), .int (sv_1a 1), .int (sv_1a 2), .int (dv_1b 10), .int (dv_1b 11), .int (dv_1b 12), .int (dv_1b 13), .int (dv_1b 14)])), ((adp 2), .inr (6, [.int (sv_1a 3), .int (sv_1a 4), .int (sv_1a 5), .int (dv_1b 15), .int (dv_1b 16), .int (dv_1b 17), .int (dv_1b 18), .int (dv_1b 19)])), ((adp 3), .inr (6, [.int (sv_1a 6), .int (sv_1a 7), .int (sv_1a 8), .int (dv_1b 20), .int (dv_1b 21), .int (dv_1b 22), .int (dv_1b 23), .int (dv_1b 24)])), ((adp 4), .inr (6, [.int (sv_1a 9), .int (sv_1a 10), .int (sv_1a 11), .int (dv_1b 25), .int (dv_1b 26), .int (dv_1b 27), .int (dv_1b 28), .int (dv_1b 29)])), ((adp 5), .inr (6, [.int (sv_1a 12), .int (sv_1a 13), .int (sv_1a 14), .int (dv_1b 30), .int (dv_1b 31), .int (dv_1b 32), .int (dv_1b 33), .int (dv_1b 34)])), ((adp 6), .inr (6, [.int (sv_1a 15), .int (sv_1a 16), .int (sv_1a 17), .int (dv_1b 35), .int (dv_1b 36), .int (dv_1b 37), .int (dv_1b 38), .int (dv_1b 39)])), ((adp 7), .inr (2, [.ref (adp 8), .int (nI n_2a)])), ((adp 8), .inl (X.2.1, 248, .inl f_2b)), ((adp 9), .inr (5, [.int 5, .int 0, .int 1, .ref (adp 10), .int (nI n_3a)])), ((adp 10), .inl (X.2.1, 25, .inl f_3b)), ((adp 11), .inr (5, [.int 6, .int 1, .int 1, .ref (adp 12), .int (nI n_4a)])), ((adp 12), .inl (X.2.1, 30, .inl f_4b))]) ([(h1, .inr (3, [.int (dvq 0), .int (dvq 1), .int (nI n0q), .ref (adq 0), .ref (adq 7), .ref (adq 9), .ref (adq 11), .ref (adq 13)])), ((adq 0), .inl (X.2.2.2.2, 6, .inr (.inr (.inr (.inr (rowQ adq)))))), ((adq 1), .inr (6, [.int (svq 0), .int (svq 1), .int (svq 2), .int (dvq 10), .int (dvq 11), .int (dvq 12), .int (dvq 13), .int (dvq 14)])), ((adq 2), .inr (6, [.int (svq 3), .int (svq 4), .int (svq 5), .int (dvq 15), .int (dvq 16), .int (dvq 17), .int (dvq 18), .int (dvq 19)])), ((adq 3), .inr (6, [.int (svq 6), .int (svq 7), .int (svq 8), .int (dvq 20), .int (dvq 21), .int (dvq 22), .int (dvq 23), .int (dvq 24)])), ((adq 4), .inr (6, [.int (svq 9), .int (svq 10), .int (svq 11), .int (dvq 25), .int (dvq 26), .int (dvq 27), .int (dvq 28), .int (dvq 29)])), ((adq 5), .inr (6, [.int (svq 12), .int (svq 13), .int (svq 14), .int (dvq 30), .int (dvq 31), .int (dvq 32), .int (dvq 33), .int (dvq 34)])), ((adq 6), .inr (6, [.int (svq 15), .int (svq 16), .int (svq 17), .int (dvq 35), .int (dvq 36), .int (dvq 37), .int (dvq 38), .int (dvq 39)])), ((adq 7), .inr (2, [.ref (adq 8), .int (nI n1q)])), ((adq 8), .inl (X.2.1, 248, .inl g0q)), ((adq 9), .inr (5, [.int 5, .int 0, .int 1, .ref (adq 10), .int (nI n2q)])), ((adq 10), .inl (X.2.1, 25, .inl gsq)), ((adq 11), .inr (5, [.int 6, .int 1, .int 1, .ref (adq 12), .int (nI n3q)])), ((adq 12), .inl (X.2.1, 30, .inl gnq))])) G rfl rfl [14, 15, 30, 31] [0, 1, 2, 3, 4, 5, 6, 7, 8, 9, 10, 11, 12, 13, 16, 17, 18, 19, 20, 21, 22, 23, 24, 25, 26, 27, 28, 29] rfl rfl rfl rfl (n_V (As := [.ref (adq 13)]) (rest := []) (C := RX7) (T := TX7) (N := 5) (ci := 5) S G (s_wcopy2 l X (adp 13) (adp 14) n4p gmp (adq 13) (adq 14) n4q gmq hI_n4p hI_n4q H.size) gX5_copyFrom_X7_copyFrom rfl rfl rfl hdV_X7_copyFrom ⟨Nat.le_of_ble_eq_true rfl, Nat.le_of_ble_eq_true rfl⟩ [14, 15, 30, 31] rfl rfl 14 rfl rfl rfl hl.1 (Nat.le_of_ble_eq_true rfl) dX5_copyFrom_46 ⟨Nat.le_of_ble_eq_true rfl, Nat.le_of_ble_eq_true rfl⟩) (fun u_5 H locs hp_5 G => ?_)
  obtain ⟨n_5a, f_5b⟩ := u_5
  try dsimp only at hp_5
  obtain ⟨hI_n_5a, hq_5⟩ := hp_5
  have G : wd X (va_A (@HAppend.hAppend va_W va_W va_W _ (rcV X h0 adp svp dvp n0p n1p n2p n3p n4p g0p gsp gnp gmp) (rcV X h1 adq svq dvq n0q n1q n2q n3q n4q g0q gsq gnq gmq)) sz) (va_A (@HAppend.hAppend va_W va_W va_W _ (rcV X h0 adp svp dvp n0p n1p n2p n3p n4p g0p gsp gnp gmp) (rcV X h1 adq svq dvq n0q n1q n2q n3q n4q g0q gsq gnq gmq)) sz) s (@HAppend.hAppend va_W va_W va_W _ (rcV X h0 adp sv_1a dv_1b n0_1c n_2a n_3a n_4a n_5a f_2b f_3b f_4b f_5b) (rcV X h1 adq svq dvq n0q n1q n2q n3q n4q g0q gsq gnq gmq)) H locs := wd_sub G [0, 1, 2, 3, 4, 5, 6, 7, 8, 9, 10, 11, 12, 13, 28, 29, 14, 15, 16, 17, 18, 19, 20, 21, 22, 23, 24, 25, 26, 27, 30, 31] rfl rfl
  exact e_void S zr zlk G (sv_1a, dv_1b, n0_1c, n_2a, n_3a, n_4a, n_5a, f_2b, f_3b, f_4b, f_5b) [0, 1, 2, 3, 4, 5, 6, 7, 8, 9, 10, 11, 12, 13, 14, 15, 16, 17, 18, 19, 20, 21, 22, 23, 24, 25, 26, 27, 28, 29, 30, 31] rfl rfl (Or.inr rfl) (⟨hI_n0_1c, hI_n_2a, hI_n_3a, hI_n_4a, hI_n_5a, ⟨by first | omega | (dsimp only; omega), by first | omega | (dsimp only; omega), by first | omega | (dsimp only; omega), by first | omega | (dsimp only; omega)⟩⟩) dX5_copyFrom_49
