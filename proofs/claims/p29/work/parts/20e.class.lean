set_option maxRecDepth 20000 in
theorem ggX10_forget_X10_refuse : GoodIn wsX10_forget wsX10_refuse := goodIn_r _ [13, 14, 15, 16, 17, 18, 19, 20, 21, 22, 23, 24, 25, 26, 27, 28] rfl (by decide +kernel)
set_option maxRecDepth 20000 in
theorem gX10_forget_X10_refuse : GoodIn wsX10_forget (wsV RX10 83 RX10 yX10_refuse wsX10_refuse) := goodIn_app (goodIn_of _ (by decide +kernel)) ggX10_forget_X10_refuse
set_option maxRecDepth 20000 in
theorem ggX10_forget_X10_within : GoodIn wsX10_forget wsX10_within := goodIn_r _ [9] rfl (by decide +kernel)
set_option maxRecDepth 20000 in
theorem gX10_forget_X10_within : GoodIn wsX10_forget (va_wsS RX10 79 yX10_within wsX10_within) := goodIn_app (goodIn_of _ (by decide +kernel)) ggX10_forget_X10_within
set_option maxRecDepth 20000 in
theorem ggX10_homeTurning_X10_homeBehind : GoodIn wsX10_homeTurning wsX10_homeBehind := goodIn_r _ [14, 5, 7, 15, 8, 9, 16, 17, 18, 19, 20, 21, 22, 23, 24, 25, 26, 27, 28, 29, 30, 31, 32, 33, 34, 35, 36, 37, 38, 39, 40, 41, 42, 43, 44, 45, 46, 47, 48, 49, 50, 51, 52, 53, 54, 55, 56, 57, 58, 59, 60, 61, 62, 71, 72, 73, 74, 75, 76, 77, 78, 63, 64, 65, 66, 67, 68, 69, 70] rfl (by decide +kernel)
set_option maxRecDepth 20000 in
theorem gX10_homeTurning_X10_homeBehind : GoodIn wsX10_homeTurning (wsV RX10 156 RX10 yX10_homeBehind wsX10_homeBehind) := goodIn_app (goodIn_of _ (by decide +kernel)) ggX10_homeTurning_X10_homeBehind
set_option maxRecDepth 20000 in
theorem ggX10_homeTurning_X8_ticksToHome : GoodIn wsX10_homeTurning wsX8_ticksToHome := goodIn_r _ [32, 33, 34, 35, 19, 36, 28, 37, 38, 39, 40, 27, 21, 22, 24, 23, 26, 25, 41, 42, 43, 44, 45, 46, 47, 48, 63, 64, 65, 66, 67, 68, 69, 70] rfl (by decide +kernel)
set_option maxRecDepth 20000 in
theorem gX10_homeTurning_X8_ticksToHome : GoodIn wsX10_homeTurning (wsV RX10 165 RX8 yX8_ticksToHome wsX8_ticksToHome) := goodIn_app (goodIn_of _ (by decide +kernel)) ggX10_homeTurning_X8_ticksToHome
set_option maxRecDepth 20000 in
theorem ggX10_part_X10_refuse : GoodIn wsX10_part wsX10_refuse := goodIn_r _ [10, 11, 12, 13, 14, 15, 16, 17, 18, 19, 20, 21, 22, 23, 24, 25] rfl (by decide +kernel)
set_option maxRecDepth 20000 in
theorem gX10_part_X10_refuse : GoodIn wsX10_part (wsV RX10 83 RX10 yX10_refuse wsX10_refuse) := goodIn_app (goodIn_of _ (by decide +kernel)) ggX10_part_X10_refuse
set_option maxRecDepth 20000 in
theorem ggX10_part_X10_within : GoodIn wsX10_part wsX10_within := goodIn_r _ [6] rfl (by decide +kernel)
set_option maxRecDepth 20000 in
theorem gX10_part_X10_within : GoodIn wsX10_part (va_wsS RX10 79 yX10_within wsX10_within) := goodIn_app (goodIn_of _ (by decide +kernel)) ggX10_part_X10_within
set_option maxRecDepth 20000 in
theorem ggX10_status_X10_refuse : GoodIn wsX10_status wsX10_refuse := goodIn_r _ [9, 1, 10, 11, 12, 13, 14, 15, 16, 17, 18, 19, 20, 21, 22, 23] rfl (by decide +kernel)
set_option maxRecDepth 20000 in
theorem gX10_status_X10_refuse : GoodIn wsX10_status (wsV RX10 83 RX10 yX10_refuse wsX10_refuse) := goodIn_app (goodIn_of _ (by decide +kernel)) ggX10_status_X10_refuse
set_option maxRecDepth 20000 in
theorem ggX10_status_X10_within : GoodIn wsX10_status wsX10_within := goodIn_r _ [5] rfl (by decide +kernel)
set_option maxRecDepth 20000 in
theorem gX10_status_X10_within : GoodIn wsX10_status (va_wsS RX10 79 yX10_within wsX10_within) := goodIn_app (goodIn_of _ (by decide +kernel)) ggX10_status_X10_within
set_option maxRecDepth 20000 in
theorem ggX10_ticks_X10_refuse : GoodIn wsX10_ticks wsX10_refuse := goodIn_r _ [10, 11, 72, 73, 74, 75, 76, 77, 78, 79, 80, 81, 82, 83, 84, 85] rfl (by decide +kernel)
set_option maxRecDepth 20000 in
theorem gX10_ticks_X10_refuse : GoodIn wsX10_ticks (wsV RX10 83 RX10 yX10_refuse wsX10_refuse) := goodIn_app (goodIn_of _ (by decide +kernel)) ggX10_ticks_X10_refuse
set_option maxRecDepth 20000 in
theorem ggX10_ticks_X10_within : GoodIn wsX10_ticks wsX10_within := goodIn_r _ [6] rfl (by decide +kernel)
set_option maxRecDepth 20000 in
theorem gX10_ticks_X10_within : GoodIn wsX10_ticks (va_wsS RX10 79 yX10_within wsX10_within) := goodIn_app (goodIn_of _ (by decide +kernel)) ggX10_ticks_X10_within
set_option maxRecDepth 20000 in
theorem ggX10_ticks_X5_goOn : GoodIn wsX10_ticks wsX5_goOn := goodIn_r _ [39, 18, 40, 19, 41, 42, 43, 44, 45, 46, 47, 48, 49, 50, 51, 52, 53, 54, 55, 56, 57, 58, 59, 60, 61, 62, 63, 64, 65, 66, 86, 87, 88, 89, 90, 91, 92, 93, 96, 97, 98, 99, 100, 101, 102, 103] rfl (by decide +kernel)
set_option maxRecDepth 20000 in
theorem gX10_ticks_X5_goOn : GoodIn wsX10_ticks (wsV RX10 116 RX5 yX5_goOn wsX5_goOn) := goodIn_app (goodIn_of _ (by decide +kernel)) ggX10_ticks_X5_goOn
set_option maxRecDepth 20000 in
theorem ggX10_ticks_X5_homes : GoodIn wsX10_ticks wsX5_homes := goodIn_r _ [70, 40, 19, 71, 56, 57, 45, 58, 54, 86, 87, 88, 89, 90, 91, 92, 93, 96, 97, 98, 99, 100, 101, 102, 103] rfl (by decide +kernel)
set_option maxRecDepth 20000 in
theorem gX10_ticks_X5_homes : GoodIn wsX10_ticks (wsV RX10 119 RX5 yX5_homes wsX5_homes) := goodIn_app (goodIn_of _ (by decide +kernel)) ggX10_ticks_X5_homes
set_option maxRecDepth 20000 in
theorem ggX10_ticks_X5_keep : GoodIn wsX10_ticks wsX5_keep := goodIn_r _ [16, 17, 18, 19, 20, 21, 22, 23, 24, 25, 26, 27, 28, 29, 30, 31, 32, 33, 34, 35, 86, 87, 88, 89, 90, 91, 92, 93, 94, 95, 96, 97, 98, 99, 100, 101, 102, 103] rfl (by decide +kernel)
set_option maxRecDepth 20000 in
theorem gX10_ticks_X5_keep : GoodIn wsX10_ticks (wsV RX10 113 RX5 yX5_keep wsX5_keep) := goodIn_app (goodIn_of _ (by decide +kernel)) ggX10_ticks_X5_keep
set_option maxRecDepth 20000 in
theorem ggX10_turn_X10_homeTurning : GoodIn wsX10_turn wsX10_homeTurning := goodIn_r _ [26, 27, 28, 29, 30, 31, 32, 1, 33, 34, 35, 36, 37, 6, 38, 2, 39, 40, 41, 20, 42, 43, 44, 45, 46, 47, 48, 49, 22, 50, 51, 52, 53, 54, 18, 19, 21, 55, 56, 57, 58, 59, 60, 61, 62, 63, 64, 65, 66, 67, 68, 69, 70, 71, 72, 73, 74, 75, 76, 77, 78, 79, 80, 89, 90, 91, 92, 93, 94, 95, 96, 81, 82, 83, 84, 85, 86, 87, 88] rfl (by decide +kernel)
set_option maxRecDepth 20000 in
theorem gX10_turn_X10_homeTurning : GoodIn wsX10_turn (wsV RX10 168 RX10 yX10_homeTurning wsX10_homeTurning) := goodIn_app (goodIn_of _ (by decide +kernel)) ggX10_turn_X10_homeTurning
set_option maxRecDepth 20000 in
theorem ggX10_turn_X10_refuse : GoodIn wsX10_turn wsX10_refuse := goodIn_r _ [15, 16, 67, 68, 69, 70, 71, 72, 73, 74, 75, 76, 77, 78, 79, 80] rfl (by decide +kernel)
set_option maxRecDepth 20000 in
theorem gX10_turn_X10_refuse : GoodIn wsX10_turn (wsV RX10 83 RX10 yX10_refuse wsX10_refuse) := goodIn_app (goodIn_of _ (by decide +kernel)) ggX10_turn_X10_refuse
set_option maxRecDepth 20000 in
theorem ggX10_turn_X10_there : GoodIn wsX10_turn wsX10_there := goodIn_r _ [7, 1, 8, 67, 68, 69, 70, 71, 72, 73, 74, 75, 76, 77, 78, 79, 80, 81, 82, 83, 84, 85, 86, 87, 88] rfl (by decide +kernel)
set_option maxRecDepth 20000 in
theorem gX10_turn_X10_there : GoodIn wsX10_turn (wsV RX10 123 RX10 yX10_there wsX10_there) := goodIn_app (goodIn_of _ (by decide +kernel)) ggX10_turn_X10_there
set_option maxRecDepth 20000 in
theorem ggX10_turn_X10_within : GoodIn wsX10_turn wsX10_within := goodIn_r _ [11] rfl (by decide +kernel)
set_option maxRecDepth 20000 in
theorem gX10_turn_X10_within : GoodIn wsX10_turn (va_wsS RX10 79 yX10_within wsX10_within) := goodIn_app (goodIn_of _ (by decide +kernel)) ggX10_turn_X10_within
set_option maxRecDepth 20000 in
theorem ggX10_turn_X8_isHome : GoodIn wsX10_turn wsX8_isHome := goodIn_r _ [21, 22, 89, 90, 91, 92, 93, 94, 95, 96] rfl (by decide +kernel)
set_option maxRecDepth 20000 in
theorem gX10_turn_X8_isHome : GoodIn wsX10_turn (wsV RX10 133 RX8 yX8_isHome wsX8_isHome) := goodIn_app (goodIn_of _ (by decide +kernel)) ggX10_turn_X8_isHome
set_option maxRecDepth 20000 in
theorem ggX5_copyLine_X8_copyFrom : GoodIn wsX5_copyLine wsX8_copyFrom := goodIn_r _ [9, 10, 11, 12, 13, 14, 15, 16, 17, 26, 27, 28, 29, 30, 31, 32, 33] rfl (by decide +kernel)
set_option maxRecDepth 20000 in
theorem gX5_copyLine_X8_copyFrom : GoodIn wsX5_copyLine (wsV RX5 58 RX8 yX8_copyFrom wsX8_copyFrom) := goodIn_app (goodIn_of _ (by decide +kernel)) ggX5_copyLine_X8_copyFrom
theorem dX10_forget_0 : decode cX10_forget 0 = .ok (.iload_n 1, 1) := by decide +kernel
theorem dX10_forget_1 : decode cX10_forget 1 = .ok (.iconst 0, 1) := by decide +kernel
theorem dX10_forget_10 : decode cX10_forget 10 = .ok (.bipush (-2), 2) := by decide +kernel
theorem dX10_forget_12 : decode cX10_forget 12 = .ok (.invokevirtual 83, 3) := by decide +kernel
theorem dX10_forget_15 : decode cX10_forget 15 = .ok (.ireturn, 1) := by decide +kernel
theorem dX10_forget_16 : decode cX10_forget 16 = .ok (.iload_n 1, 1) := by decide +kernel
theorem dX10_forget_17 : decode cX10_forget 17 = .ok (.ifCond .ne 13, 3) := by decide +kernel
theorem dX10_forget_2 : decode cX10_forget 2 = .ok (.iconst 2, 1) := by decide +kernel
theorem dX10_forget_20 : decode cX10_forget 20 = .ok (.aload_n 0, 1) := by decide +kernel
theorem dX10_forget_21 : decode cX10_forget 21 = .ok (.getfield 10, 3) := by decide +kernel
theorem dX10_forget_24 : decode cX10_forget 24 = .ok (.getfield 185, 3) := by decide +kernel
theorem dX10_forget_27 : decode cX10_forget 27 = .ok (.goto 25, 3) := by decide +kernel
theorem dX10_forget_3 : decode cX10_forget 3 = .ok (.invokestatic 79, 3) := by decide +kernel
theorem dX10_forget_30 : decode cX10_forget 30 = .ok (.iload_n 1, 1) := by decide +kernel
theorem dX10_forget_31 : decode cX10_forget 31 = .ok (.iconst 1, 1) := by decide +kernel
theorem dX10_forget_32 : decode cX10_forget 32 = .ok (.if_icmp .ne 13, 3) := by decide +kernel
theorem dX10_forget_35 : decode cX10_forget 35 = .ok (.aload_n 0, 1) := by decide +kernel
theorem dX10_forget_36 : decode cX10_forget 36 = .ok (.getfield 10, 3) := by decide +kernel
theorem dX10_forget_39 : decode cX10_forget 39 = .ok (.getfield 212, 3) := by decide +kernel
theorem dX10_forget_42 : decode cX10_forget 42 = .ok (.goto 10, 3) := by decide +kernel
theorem dX10_forget_45 : decode cX10_forget 45 = .ok (.aload_n 0, 1) := by decide +kernel
theorem dX10_forget_46 : decode cX10_forget 46 = .ok (.getfield 10, 3) := by decide +kernel
theorem dX10_forget_49 : decode cX10_forget 49 = .ok (.getfield 215, 3) := by decide +kernel
theorem dX10_forget_52 : decode cX10_forget 52 = .ok (.astore_n 2, 1) := by decide +kernel
theorem dX10_forget_53 : decode cX10_forget 53 = .ok (.aload_n 2, 1) := by decide +kernel
theorem dX10_forget_54 : decode cX10_forget 54 = .ok (.getfield 194, 3) := by decide +kernel
theorem dX10_forget_57 : decode cX10_forget 57 = .ok (.istore_n 3, 1) := by decide +kernel
theorem dX10_forget_58 : decode cX10_forget 58 = .ok (.aload_n 2, 1) := by decide +kernel
theorem dX10_forget_59 : decode cX10_forget 59 = .ok (.iconst 0, 1) := by decide +kernel
theorem dX10_forget_6 : decode cX10_forget 6 = .ok (.ifCond .ne 10, 3) := by decide +kernel
theorem dX10_forget_60 : decode cX10_forget 60 = .ok (.putfield 194, 3) := by decide +kernel
theorem dX10_forget_63 : decode cX10_forget 63 = .ok (.iload_n 3, 1) := by decide +kernel
theorem dX10_forget_64 : decode cX10_forget 64 = .ok (.ireturn, 1) := by decide +kernel
theorem dX10_forget_9 : decode cX10_forget 9 = .ok (.aload_n 0, 1) := by decide +kernel
theorem dX10_homeTurning_0 : decode cX10_homeTurning 0 = .ok (.aload_n 0, 1) := by decide +kernel
theorem dX10_homeTurning_1 : decode cX10_homeTurning 1 = .ok (.iload_n 1, 1) := by decide +kernel
theorem dX10_homeTurning_11 : decode cX10_homeTurning 11 = .ok (.istore 5, 2) := by decide +kernel
theorem dX10_homeTurning_13 : decode cX10_homeTurning 13 = .ok (.iload 5, 2) := by decide +kernel
theorem dX10_homeTurning_15 : decode cX10_homeTurning 15 = .ok (.iconst (-1), 1) := by decide +kernel
theorem dX10_homeTurning_16 : decode cX10_homeTurning 16 = .ok (.if_icmp .ne 9, 3) := by decide +kernel
theorem dX10_homeTurning_19 : decode cX10_homeTurning 19 = .ok (.iload_n 3, 1) := by decide +kernel
theorem dX10_homeTurning_2 : decode cX10_homeTurning 2 = .ok (.iload_n 3, 1) := by decide +kernel
theorem dX10_homeTurning_20 : decode cX10_homeTurning 20 = .ok (.iload 4, 2) := by decide +kernel
theorem dX10_homeTurning_22 : decode cX10_homeTurning 22 = .ok (.if_icmp .lt 6, 3) := by decide +kernel
theorem dX10_homeTurning_25 : decode cX10_homeTurning 25 = .ok (.iload 5, 2) := by decide +kernel
theorem dX10_homeTurning_27 : decode cX10_homeTurning 27 = .ok (.ireturn, 1) := by decide +kernel
theorem dX10_homeTurning_28 : decode cX10_homeTurning 28 = .ok (.aload_n 0, 1) := by decide +kernel
theorem dX10_homeTurning_29 : decode cX10_homeTurning 29 = .ok (.getfield 48, 3) := by decide +kernel
theorem dX10_homeTurning_3 : decode cX10_homeTurning 3 = .ok (.iload 4, 2) := by decide +kernel
theorem dX10_homeTurning_32 : decode cX10_homeTurning 32 = .ok (.iload_n 2, 1) := by decide +kernel
theorem dX10_homeTurning_33 : decode cX10_homeTurning 33 = .ok (.putfield 130, 3) := by decide +kernel
theorem dX10_homeTurning_36 : decode cX10_homeTurning 36 = .ok (.aload_n 0, 1) := by decide +kernel
theorem dX10_homeTurning_37 : decode cX10_homeTurning 37 = .ok (.getfield 48, 3) := by decide +kernel
theorem dX10_homeTurning_40 : decode cX10_homeTurning 40 = .ok (.aload_n 0, 1) := by decide +kernel
theorem dX10_homeTurning_41 : decode cX10_homeTurning 41 = .ok (.getfield 10, 3) := by decide +kernel
theorem dX10_homeTurning_44 : decode cX10_homeTurning 44 = .ok (.getfield 110, 3) := by decide +kernel
theorem dX10_homeTurning_47 : decode cX10_homeTurning 47 = .ok (.iload_n 3, 1) := by decide +kernel
theorem dX10_homeTurning_48 : decode cX10_homeTurning 48 = .ok (.iadd, 1) := by decide +kernel
theorem dX10_homeTurning_49 : decode cX10_homeTurning 49 = .ok (.aload_n 0, 1) := by decide +kernel
theorem dX10_homeTurning_5 : decode cX10_homeTurning 5 = .ok (.invokestatic 300, 3) := by decide +kernel
theorem dX10_homeTurning_50 : decode cX10_homeTurning 50 = .ok (.getfield 10, 3) := by decide +kernel
theorem dX10_homeTurning_53 : decode cX10_homeTurning 53 = .ok (.getfield 140, 3) := by decide +kernel
theorem dX10_homeTurning_56 : decode cX10_homeTurning 56 = .ok (.iload 4, 2) := by decide +kernel
theorem dX10_homeTurning_58 : decode cX10_homeTurning 58 = .ok (.iload_n 3, 1) := by decide +kernel
theorem dX10_homeTurning_59 : decode cX10_homeTurning 59 = .ok (.isub, 1) := by decide +kernel
theorem dX10_homeTurning_60 : decode cX10_homeTurning 60 = .ok (.invokevirtual 165, 3) := by decide +kernel
theorem dX10_homeTurning_63 : decode cX10_homeTurning 63 = .ok (.istore 6, 2) := by decide +kernel
theorem dX10_homeTurning_65 : decode cX10_homeTurning 65 = .ok (.iload 6, 2) := by decide +kernel
theorem dX10_homeTurning_67 : decode cX10_homeTurning 67 = .ok (.iconst (-1), 1) := by decide +kernel
theorem dX10_homeTurning_68 : decode cX10_homeTurning 68 = .ok (.if_icmp .ne 7, 3) := by decide +kernel
theorem dX10_homeTurning_71 : decode cX10_homeTurning 71 = .ok (.iconst (-1), 1) := by decide +kernel
theorem dX10_homeTurning_72 : decode cX10_homeTurning 72 = .ok (.goto 7, 3) := by decide +kernel
theorem dX10_homeTurning_75 : decode cX10_homeTurning 75 = .ok (.iload_n 3, 1) := by decide +kernel
theorem dX10_homeTurning_76 : decode cX10_homeTurning 76 = .ok (.iload 6, 2) := by decide +kernel
theorem dX10_homeTurning_78 : decode cX10_homeTurning 78 = .ok (.iadd, 1) := by decide +kernel
theorem dX10_homeTurning_79 : decode cX10_homeTurning 79 = .ok (.ireturn, 1) := by decide +kernel
theorem dX10_homeTurning_8 : decode cX10_homeTurning 8 = .ok (.invokevirtual 156, 3) := by decide +kernel
theorem dX10_part_0 : decode cX10_part 0 = .ok (.iload_n 1, 1) := by decide +kernel
theorem dX10_part_1 : decode cX10_part 1 = .ok (.iconst 0, 1) := by decide +kernel
theorem dX10_part_10 : decode cX10_part 10 = .ok (.bipush (-2), 2) := by decide +kernel
theorem dX10_part_12 : decode cX10_part 12 = .ok (.invokevirtual 83, 3) := by decide +kernel
theorem dX10_part_15 : decode cX10_part 15 = .ok (.i2l, 1) := by decide +kernel
theorem dX10_part_16 : decode cX10_part 16 = .ok (.lreturn, 1) := by decide +kernel
theorem dX10_part_17 : decode cX10_part 17 = .ok (.iload_n 1, 1) := by decide +kernel
theorem dX10_part_18 : decode cX10_part 18 = .ok (.ifCond .ne 10, 3) := by decide +kernel
theorem dX10_part_2 : decode cX10_part 2 = .ok (.iconst 1, 1) := by decide +kernel
theorem dX10_part_21 : decode cX10_part 21 = .ok (.aload_n 0, 1) := by decide +kernel
theorem dX10_part_22 : decode cX10_part 22 = .ok (.getfield 38, 3) := by decide +kernel
theorem dX10_part_25 : decode cX10_part 25 = .ok (.goto 7, 3) := by decide +kernel
theorem dX10_part_28 : decode cX10_part 28 = .ok (.aload_n 0, 1) := by decide +kernel
theorem dX10_part_29 : decode cX10_part 29 = .ok (.getfield 42, 3) := by decide +kernel
theorem dX10_part_3 : decode cX10_part 3 = .ok (.invokestatic 79, 3) := by decide +kernel
theorem dX10_part_32 : decode cX10_part 32 = .ok (.lreturn, 1) := by decide +kernel
theorem dX10_part_6 : decode cX10_part 6 = .ok (.ifCond .ne 11, 3) := by decide +kernel
theorem dX10_part_9 : decode cX10_part 9 = .ok (.aload_n 0, 1) := by decide +kernel
theorem dX10_status_0 : decode cX10_status 0 = .ok (.iload_n 1, 1) := by decide +kernel
theorem dX10_status_1 : decode cX10_status 1 = .ok (.iconst 0, 1) := by decide +kernel
theorem dX10_status_10 : decode cX10_status 10 = .ok (.bipush (-2), 2) := by decide +kernel
theorem dX10_status_12 : decode cX10_status 12 = .ok (.invokevirtual 83, 3) := by decide +kernel
theorem dX10_status_15 : decode cX10_status 15 = .ok (.pop, 1) := by decide +kernel
theorem dX10_status_16 : decode cX10_status 16 = .ok (.iconst (-1), 1) := by decide +kernel
theorem dX10_status_17 : decode cX10_status 17 = .ok (.ireturn, 1) := by decide +kernel
theorem dX10_status_18 : decode cX10_status 18 = .ok (.aload_n 0, 1) := by decide +kernel
theorem dX10_status_19 : decode cX10_status 19 = .ok (.getfield 34, 3) := by decide +kernel
theorem dX10_status_2 : decode cX10_status 2 = .ok (.iconst 2, 1) := by decide +kernel
theorem dX10_status_22 : decode cX10_status 22 = .ok (.iload_n 1, 1) := by decide +kernel
theorem dX10_status_23 : decode cX10_status 23 = .ok (.iaload, 1) := by decide +kernel
theorem dX10_status_24 : decode cX10_status 24 = .ok (.ireturn, 1) := by decide +kernel
theorem dX10_status_3 : decode cX10_status 3 = .ok (.invokestatic 79, 3) := by decide +kernel
theorem dX10_status_6 : decode cX10_status 6 = .ok (.ifCond .ne 12, 3) := by decide +kernel
theorem dX10_status_9 : decode cX10_status 9 = .ok (.aload_n 0, 1) := by decide +kernel
theorem dX10_ticks_0 : decode cX10_ticks 0 = .ok (.iload_n 1, 1) := by decide +kernel
theorem dX10_ticks_1 : decode cX10_ticks 1 = .ok (.iconst 1, 1) := by decide +kernel
theorem dX10_ticks_10 : decode cX10_ticks 10 = .ok (.aload_n 0, 1) := by decide +kernel
theorem dX10_ticks_11 : decode cX10_ticks 11 = .ok (.bipush (-2), 2) := by decide +kernel
theorem dX10_ticks_13 : decode cX10_ticks 13 = .ok (.invokevirtual 83, 3) := by decide +kernel
theorem dX10_ticks_16 : decode cX10_ticks 16 = .ok (.ireturn, 1) := by decide +kernel
theorem dX10_ticks_17 : decode cX10_ticks 17 = .ok (.aload_n 0, 1) := by decide +kernel
theorem dX10_ticks_18 : decode cX10_ticks 18 = .ok (.getfield 10, 3) := by decide +kernel
theorem dX10_ticks_2 : decode cX10_ticks 2 = .ok (.bipush 60, 2) := by decide +kernel
theorem dX10_ticks_21 : decode cX10_ticks 21 = .ok (.getfield 110, 3) := by decide +kernel
theorem dX10_ticks_24 : decode cX10_ticks 24 = .ok (.sipush 9999, 3) := by decide +kernel
theorem dX10_ticks_27 : decode cX10_ticks 27 = .ok (.if_icmp .ge 10, 3) := by decide +kernel
theorem dX10_ticks_30 : decode cX10_ticks 30 = .ok (.aload_n 0, 1) := by decide +kernel
theorem dX10_ticks_31 : decode cX10_ticks 31 = .ok (.getfield 10, 3) := by decide +kernel
theorem dX10_ticks_34 : decode cX10_ticks 34 = .ok (.invokevirtual 113, 3) := by decide +kernel
theorem dX10_ticks_37 : decode cX10_ticks 37 = .ok (.iconst 0, 1) := by decide +kernel
theorem dX10_ticks_38 : decode cX10_ticks 38 = .ok (.istore_n 2, 1) := by decide +kernel
theorem dX10_ticks_39 : decode cX10_ticks 39 = .ok (.iload_n 2, 1) := by decide +kernel
theorem dX10_ticks_4 : decode cX10_ticks 4 = .ok (.invokestatic 79, 3) := by decide +kernel
theorem dX10_ticks_40 : decode cX10_ticks 40 = .ok (.iload_n 1, 1) := by decide +kernel
theorem dX10_ticks_41 : decode cX10_ticks 41 = .ok (.if_icmp .ge 29, 3) := by decide +kernel
theorem dX10_ticks_44 : decode cX10_ticks 44 = .ok (.aload_n 0, 1) := by decide +kernel
theorem dX10_ticks_45 : decode cX10_ticks 45 = .ok (.getfield 10, 3) := by decide +kernel
theorem dX10_ticks_48 : decode cX10_ticks 48 = .ok (.getfield 110, 3) := by decide +kernel
theorem dX10_ticks_51 : decode cX10_ticks 51 = .ok (.sipush 9999, 3) := by decide +kernel
theorem dX10_ticks_54 : decode cX10_ticks 54 = .ok (.if_icmp .ge 16, 3) := by decide +kernel
theorem dX10_ticks_57 : decode cX10_ticks 57 = .ok (.aload_n 0, 1) := by decide +kernel
theorem dX10_ticks_58 : decode cX10_ticks 58 = .ok (.getfield 10, 3) := by decide +kernel
theorem dX10_ticks_61 : decode cX10_ticks 61 = .ok (.invokevirtual 116, 3) := by decide +kernel
theorem dX10_ticks_64 : decode cX10_ticks 64 = .ok (.iinc 2 1, 3) := by decide +kernel
theorem dX10_ticks_67 : decode cX10_ticks 67 = .ok (.goto (-28), 3) := by decide +kernel
theorem dX10_ticks_7 : decode cX10_ticks 7 = .ok (.ifCond .ne 10, 3) := by decide +kernel
theorem dX10_ticks_70 : decode cX10_ticks 70 = .ok (.aload_n 0, 1) := by decide +kernel
theorem dX10_ticks_71 : decode cX10_ticks 71 = .ok (.getfield 10, 3) := by decide +kernel
theorem dX10_ticks_74 : decode cX10_ticks 74 = .ok (.invokevirtual 119, 3) := by decide +kernel
theorem dX10_ticks_77 : decode cX10_ticks 77 = .ok (.ireturn, 1) := by decide +kernel
theorem dX10_turn_0 : decode cX10_turn 0 = .ok (.aload_n 0, 1) := by decide +kernel
theorem dX10_turn_1 : decode cX10_turn 1 = .ok (.iload_n 1, 1) := by decide +kernel
theorem dX10_turn_10 : decode cX10_turn 10 = .ok (.bipush 9, 2) := by decide +kernel
theorem dX10_turn_100 : decode cX10_turn 100 = .ok (.isub, 1) := by decide +kernel
theorem dX10_turn_101 : decode cX10_turn 101 = .ok (.istore 6, 2) := by decide +kernel
theorem dX10_turn_103 : decode cX10_turn 103 = .ok (.iinc 7 1, 3) := by decide +kernel
theorem dX10_turn_106 : decode cX10_turn 106 = .ok (.goto (-42), 3) := by decide +kernel
theorem dX10_turn_109 : decode cX10_turn 109 = .ok (.iload_n 3, 1) := by decide +kernel
theorem dX10_turn_110 : decode cX10_turn 110 = .ok (.ifCond .ne 8, 3) := by decide +kernel
theorem dX10_turn_113 : decode cX10_turn 113 = .ok (.iload 4, 2) := by decide +kernel
theorem dX10_turn_115 : decode cX10_turn 115 = .ok (.goto 5, 3) := by decide +kernel
theorem dX10_turn_118 : decode cX10_turn 118 = .ok (.iload 5, 2) := by decide +kernel
theorem dX10_turn_12 : decode cX10_turn 12 = .ok (.invokestatic 79, 3) := by decide +kernel
theorem dX10_turn_120 : decode cX10_turn 120 = .ok (.ireturn, 1) := by decide +kernel
theorem dX10_turn_15 : decode cX10_turn 15 = .ok (.ifCond .eq 12, 3) := by decide +kernel
theorem dX10_turn_18 : decode cX10_turn 18 = .ok (.iload_n 3, 1) := by decide +kernel
theorem dX10_turn_19 : decode cX10_turn 19 = .ok (.iconst 0, 1) := by decide +kernel
theorem dX10_turn_2 : decode cX10_turn 2 = .ok (.invokevirtual 123, 3) := by decide +kernel
theorem dX10_turn_20 : decode cX10_turn 20 = .ok (.iconst 1, 1) := by decide +kernel
theorem dX10_turn_21 : decode cX10_turn 21 = .ok (.invokestatic 79, 3) := by decide +kernel
theorem dX10_turn_24 : decode cX10_turn 24 = .ok (.ifCond .ne 10, 3) := by decide +kernel
theorem dX10_turn_27 : decode cX10_turn 27 = .ok (.aload_n 0, 1) := by decide +kernel
theorem dX10_turn_28 : decode cX10_turn 28 = .ok (.bipush (-2), 2) := by decide +kernel
theorem dX10_turn_30 : decode cX10_turn 30 = .ok (.invokevirtual 83, 3) := by decide +kernel
theorem dX10_turn_33 : decode cX10_turn 33 = .ok (.ireturn, 1) := by decide +kernel
theorem dX10_turn_34 : decode cX10_turn 34 = .ok (.aload_n 0, 1) := by decide +kernel
theorem dX10_turn_35 : decode cX10_turn 35 = .ok (.getfield 10, 3) := by decide +kernel
theorem dX10_turn_38 : decode cX10_turn 38 = .ok (.getfield 126, 3) := by decide +kernel
theorem dX10_turn_41 : decode cX10_turn 41 = .ok (.iload_n 1, 1) := by decide +kernel
theorem dX10_turn_42 : decode cX10_turn 42 = .ok (.aaload, 1) := by decide +kernel
theorem dX10_turn_43 : decode cX10_turn 43 = .ok (.invokevirtual 133, 3) := by decide +kernel
theorem dX10_turn_46 : decode cX10_turn 46 = .ok (.ifCond .eq 5, 3) := by decide +kernel
theorem dX10_turn_49 : decode cX10_turn 49 = .ok (.iconst (-1), 1) := by decide +kernel
theorem dX10_turn_5 : decode cX10_turn 5 = .ok (.ifCond .eq 22, 3) := by decide +kernel
theorem dX10_turn_50 : decode cX10_turn 50 = .ok (.ireturn, 1) := by decide +kernel
theorem dX10_turn_51 : decode cX10_turn 51 = .ok (.iconst (-1), 1) := by decide +kernel
theorem dX10_turn_52 : decode cX10_turn 52 = .ok (.istore 4, 2) := by decide +kernel
theorem dX10_turn_54 : decode cX10_turn 54 = .ok (.iconst (-1), 1) := by decide +kernel
theorem dX10_turn_55 : decode cX10_turn 55 = .ok (.istore 5, 2) := by decide +kernel
theorem dX10_turn_57 : decode cX10_turn 57 = .ok (.bipush 60, 2) := by decide +kernel
theorem dX10_turn_59 : decode cX10_turn 59 = .ok (.istore 6, 2) := by decide +kernel
theorem dX10_turn_61 : decode cX10_turn 61 = .ok (.iconst 0, 1) := by decide +kernel
theorem dX10_turn_62 : decode cX10_turn 62 = .ok (.istore 7, 2) := by decide +kernel
theorem dX10_turn_64 : decode cX10_turn 64 = .ok (.iload 7, 2) := by decide +kernel
theorem dX10_turn_66 : decode cX10_turn 66 = .ok (.bipush 30, 2) := by decide +kernel
theorem dX10_turn_68 : decode cX10_turn 68 = .ok (.if_icmp .gt 41, 3) := by decide +kernel
theorem dX10_turn_71 : decode cX10_turn 71 = .ok (.aload_n 0, 1) := by decide +kernel
theorem dX10_turn_72 : decode cX10_turn 72 = .ok (.iload_n 1, 1) := by decide +kernel
theorem dX10_turn_73 : decode cX10_turn 73 = .ok (.iload_n 2, 1) := by decide +kernel
theorem dX10_turn_74 : decode cX10_turn 74 = .ok (.iload 7, 2) := by decide +kernel
theorem dX10_turn_76 : decode cX10_turn 76 = .ok (.iload 6, 2) := by decide +kernel
theorem dX10_turn_78 : decode cX10_turn 78 = .ok (.invokevirtual 168, 3) := by decide +kernel
theorem dX10_turn_8 : decode cX10_turn 8 = .ok (.iload_n 2, 1) := by decide +kernel
theorem dX10_turn_81 : decode cX10_turn 81 = .ok (.istore 8, 2) := by decide +kernel
theorem dX10_turn_83 : decode cX10_turn 83 = .ok (.iload 8, 2) := by decide +kernel
theorem dX10_turn_85 : decode cX10_turn 85 = .ok (.iconst (-1), 1) := by decide +kernel
theorem dX10_turn_86 : decode cX10_turn 86 = .ok (.if_icmp .eq 17, 3) := by decide +kernel
theorem dX10_turn_89 : decode cX10_turn 89 = .ok (.iload 7, 2) := by decide +kernel
theorem dX10_turn_9 : decode cX10_turn 9 = .ok (.iconst 0, 1) := by decide +kernel
theorem dX10_turn_91 : decode cX10_turn 91 = .ok (.istore 4, 2) := by decide +kernel
theorem dX10_turn_93 : decode cX10_turn 93 = .ok (.iload 8, 2) := by decide +kernel
theorem dX10_turn_95 : decode cX10_turn 95 = .ok (.istore 5, 2) := by decide +kernel
theorem dX10_turn_97 : decode cX10_turn 97 = .ok (.iload 8, 2) := by decide +kernel
theorem dX10_turn_99 : decode cX10_turn 99 = .ok (.iconst 1, 1) := by decide +kernel
theorem dX4_copyFrom_0 : decode cX4_copyFrom 0 = .ok (.aload_n 0, 1) := by decide +kernel
theorem dX4_copyFrom_1 : decode cX4_copyFrom 1 = .ok (.aload_n 1, 1) := by decide +kernel
theorem dX4_copyFrom_12 : decode cX4_copyFrom 12 = .ok (.iconst 0, 1) := by decide +kernel
theorem dX4_copyFrom_13 : decode cX4_copyFrom 13 = .ok (.aload_n 0, 1) := by decide +kernel
theorem dX4_copyFrom_14 : decode cX4_copyFrom 14 = .ok (.getfield 11, 3) := by decide +kernel
theorem dX4_copyFrom_17 : decode cX4_copyFrom 17 = .ok (.iconst 0, 1) := by decide +kernel
theorem dX4_copyFrom_18 : decode cX4_copyFrom 18 = .ok (.aload_n 1, 1) := by decide +kernel
theorem dX4_copyFrom_19 : decode cX4_copyFrom 19 = .ok (.getfield 15, 3) := by decide +kernel
theorem dX4_copyFrom_2 : decode cX4_copyFrom 2 = .ok (.getfield 15, 3) := by decide +kernel
theorem dX4_copyFrom_22 : decode cX4_copyFrom 22 = .ok (.bipush 31, 2) := by decide +kernel
theorem dX4_copyFrom_24 : decode cX4_copyFrom 24 = .ok (.imul, 1) := by decide +kernel
theorem dX4_copyFrom_25 : decode cX4_copyFrom 25 = .ok (.invokestatic 19, 3) := by decide +kernel
theorem dX4_copyFrom_28 : decode cX4_copyFrom 28 = .ok (.return_, 1) := by decide +kernel
theorem dX4_copyFrom_5 : decode cX4_copyFrom 5 = .ok (.putfield 15, 3) := by decide +kernel
theorem dX4_copyFrom_8 : decode cX4_copyFrom 8 = .ok (.aload_n 1, 1) := by decide +kernel
theorem dX4_copyFrom_9 : decode cX4_copyFrom 9 = .ok (.getfield 11, 3) := by decide +kernel
theorem dX5_copyLine_0 : decode cX5_copyLine 0 = .ok (.aload_n 0, 1) := by decide +kernel
theorem dX5_copyLine_1 : decode cX5_copyLine 1 = .ok (.aload_n 1, 1) := by decide +kernel
theorem dX5_copyLine_10 : decode cX5_copyLine 10 = .ok (.getfield 15, 3) := by decide +kernel
theorem dX5_copyLine_13 : decode cX5_copyLine 13 = .ok (.putfield 15, 3) := by decide +kernel
theorem dX5_copyLine_16 : decode cX5_copyLine 16 = .ok (.aload_n 0, 1) := by decide +kernel
theorem dX5_copyLine_17 : decode cX5_copyLine 17 = .ok (.aload_n 1, 1) := by decide +kernel
theorem dX5_copyLine_18 : decode cX5_copyLine 18 = .ok (.getfield 18, 3) := by decide +kernel
theorem dX5_copyLine_2 : decode cX5_copyLine 2 = .ok (.getfield 9, 3) := by decide +kernel
theorem dX5_copyLine_21 : decode cX5_copyLine 21 = .ok (.putfield 18, 3) := by decide +kernel
theorem dX5_copyLine_24 : decode cX5_copyLine 24 = .ok (.iconst 0, 1) := by decide +kernel
theorem dX5_copyLine_25 : decode cX5_copyLine 25 = .ok (.istore_n 2, 1) := by decide +kernel
theorem dX5_copyLine_26 : decode cX5_copyLine 26 = .ok (.iload_n 2, 1) := by decide +kernel
theorem dX5_copyLine_27 : decode cX5_copyLine 27 = .ok (.bipush 6, 2) := by decide +kernel
theorem dX5_copyLine_29 : decode cX5_copyLine 29 = .ok (.if_icmp .ge 24, 3) := by decide +kernel
theorem dX5_copyLine_32 : decode cX5_copyLine 32 = .ok (.aload_n 0, 1) := by decide +kernel
theorem dX5_copyLine_33 : decode cX5_copyLine 33 = .ok (.getfield 23, 3) := by decide +kernel
theorem dX5_copyLine_36 : decode cX5_copyLine 36 = .ok (.iload_n 2, 1) := by decide +kernel
theorem dX5_copyLine_37 : decode cX5_copyLine 37 = .ok (.aaload, 1) := by decide +kernel
theorem dX5_copyLine_38 : decode cX5_copyLine 38 = .ok (.aload_n 1, 1) := by decide +kernel
theorem dX5_copyLine_39 : decode cX5_copyLine 39 = .ok (.getfield 23, 3) := by decide +kernel
theorem dX5_copyLine_42 : decode cX5_copyLine 42 = .ok (.iload_n 2, 1) := by decide +kernel
theorem dX5_copyLine_43 : decode cX5_copyLine 43 = .ok (.aaload, 1) := by decide +kernel
theorem dX5_copyLine_44 : decode cX5_copyLine 44 = .ok (.invokevirtual 58, 3) := by decide +kernel
theorem dX5_copyLine_47 : decode cX5_copyLine 47 = .ok (.iinc 2 1, 3) := by decide +kernel
theorem dX5_copyLine_5 : decode cX5_copyLine 5 = .ok (.putfield 9, 3) := by decide +kernel
theorem dX5_copyLine_50 : decode cX5_copyLine 50 = .ok (.goto (-24), 3) := by decide +kernel
theorem dX5_copyLine_53 : decode cX5_copyLine 53 = .ok (.return_, 1) := by decide +kernel
theorem dX5_copyLine_8 : decode cX5_copyLine 8 = .ok (.aload_n 0, 1) := by decide +kernel
theorem dX5_copyLine_9 : decode cX5_copyLine 9 = .ok (.aload_n 1, 1) := by decide +kernel
theorem mm_X10_homeTurning_ml300 : Cond.methodLink RX10 300 Lib.Math.min.name ∈ wsX10_homeTurning := by decide +kernel
theorem mm_X10_homeTurning_msmin : Cond.static Lib.Math.min.name ∈ wsX10_homeTurning := by decide +kernel
theorem mm_X10_homeTurning_mi : Cond.initialized "java/lang/Math" ∈ wsX10_homeTurning := by decide +kernel
theorem mm_X10_homeTurning_mcmin : Cond.code Lib.Math.min.name Lib.Math.min.code 2 (some .int) ∈ wsX10_homeTurning := by decide +kernel
theorem in_X10_homeTurning_X10 : ∀ w ∈ wsX100, w ∈ wsX10_homeTurning := by decide +kernel
theorem lk_X10_homeTurning_48 : Cond.fieldLink RX10 48 "EggSpoons" "ghost" "LEggSpoons$Runner;" ∈ wsX10_homeTurning := by decide +kernel
theorem in_X10_homeTurning_X8 : ∀ w ∈ wsX80, w ∈ wsX10_homeTurning := by decide +kernel
theorem lk_X10_homeTurning_130 : Cond.fieldLink RX10 130 "EggSpoons$Runner" "speed" "I" ∈ wsX10_homeTurning := by decide +kernel
theorem lk_X10_homeTurning_10 : Cond.fieldLink RX10 10 "EggSpoons" "now" "LEggSpoons$Race;" ∈ wsX10_homeTurning := by decide +kernel
theorem in_X10_homeTurning_X5 : ∀ w ∈ wsX50, w ∈ wsX10_homeTurning := by decide +kernel
theorem lk_X10_homeTurning_110 : Cond.fieldLink RX10 110 "EggSpoons$Race" "tick" "I" ∈ wsX10_homeTurning := by decide +kernel
theorem lk_X10_homeTurning_140 : Cond.fieldLink RX10 140 "EggSpoons$Race" "length" "I" ∈ wsX10_homeTurning := by decide +kernel
set_option maxHeartbeats 4000000 in
set_option maxRecDepth 100000 in
/-- homeTurning -/
theorem s_homeTurning (l : Launch) (X : EX) (h0 : Nat) (nw : Nat) (sp : Nat) (xa : Nat → Nat) (la : Int64) (lb : Int64) (an : Nat → Nat) (sv : Nat → Int32) (dv : Nat → Int32) (n0 : Nat) (n1 : Nat) (n2 : Nat) (n3 : Nat) (n4 : Nat) (g0 : Nat → Int32) (gs : Nat → Int32) (gn : Nat → Int32) (gm : Nat → Int32) (ag : Nat → Int32) (dg : Nat → Int32) (i : Nat) (x2 : Int32) (k : Nat) (x4 : Int32) (hI_n0 : n0 ≤ 6) (hI_n1 : n1 ≤ 8) (hI_n2 : n2 ≤ 5) (hI_n3 : n3 ≤ 6) (hI_n4 : n4 ≤ 6) (hi6 : i < 6) (hk3 : k ≤ 30) (hl6 : x4 ≤ 60) (sz : Nat) : Met l yX10_homeTurning wsX10_homeTurning ({ frames := 4, cells := 0, slots := 0, locals := 95 } : Room) (pE X [.ref h0, .int (nI i), .int x2, .int (nI k), .int x4] (@HAppend.hAppend va_W va_W va_W _ (xW h0 nw sp xa la lb) (@HAppend.hAppend va_W va_W va_W _ (rcV X nw an sv dv n0 n1 n2 n3 n4 g0 gs gn gm) (rnV (xa 8) ag dg))) sz) (qI (fun (r : Int32) (u : (Nat → Int32) × (Nat → Int32)) => ((-1 : Int32) ≤ r ∧ r ≤ 60)) X (fun (u : (Nat → Int32) × (Nat → Int32)) => @HAppend.hAppend va_W va_W va_W _ (xW h0 nw sp xa la lb) (@HAppend.hAppend va_W va_W va_W _ (rcV X nw an sv dv n0 n1 n2 n3 n4 g0 gs gn gm) (rnV (xa 8) u.1 u.2))) (@HAppend.hAppend va_W va_W va_W _ (xW h0 nw sp xa la lb) (@HAppend.hAppend va_W va_W va_W _ (rcV X nw an sv dv n0 n1 n2 n3 n4 g0 gs gn gm) (rnV (xa 8) ag dg))) sz) 0 0 (va_A (@HAppend.hAppend va_W va_W va_W _ (xW h0 nw sp xa la lb) (@HAppend.hAppend va_W va_W va_W _ (rcV X nw an sv dv n0 n1 n2 n3 n4 g0 gs gn gm) (rnV (xa 8) ag dg))) sz) := by
  refine mk_met (B := (va_A (@HAppend.hAppend va_W va_W va_W _ (xW h0 nw sp xa la lb) (@HAppend.hAppend va_W va_W va_W _ (rcV X nw an sv dv n0 n1 n2 n3 n4 g0 gs gn gm) (rnV (xa 8) ag dg))) sz)) (A := (va_A (@HAppend.hAppend va_W va_W va_W _ (xW h0 nw sp xa la lb) (@HAppend.hAppend va_W va_W va_W _ (rcV X nw an sv dv n0 n1 n2 n3 n4 g0 gs gn gm) (rnV (xa 8) ag dg))) sz)) (cc := cX10_homeTurning) (maxL := 7) (ret := (some .int)) (by decide) rfl (Nat.le_of_ble_eq_true rfl) k_w k_a (fun p e s m below meth c S zr zlk znm zsz G ls hl => ?_)
  have S : CallFix p m c cX10_homeTurning 7 s _ wsX10_homeTurning RX10 := S
  have zx := S.1
  have zb := S.2.1
  have hl : lv_has ls 7 [(0, .ref h0), (1, .int (nI i)), (2, .int x2), (3, .int (nI k)), (4, .int x4)] := hl
  refine lv_aload_n zx zb dX10_homeTurning_0 rfl (lv_at hl 0 rfl) ?_
  refine lv_iload_n zx zb dX10_homeTurning_1 rfl (lv_at hl 1 rfl) ?_
  refine lv_iload_n zx zb dX10_homeTurning_2 rfl (lv_at hl 3 rfl) ?_
  refine lv_iload zx zb dX10_homeTurning_3 (lv_at hl 4 rfl) ?_
  refine r_mminP S hl.1 mm_X10_homeTurning_ml300 mm_X10_homeTurning_msmin mm_X10_homeTurning_mi mm_X10_homeTurning_mcmin (Nat.le_of_ble_eq_true rfl) (Nat.le_of_ble_eq_true rfl) (Nat.zero_le _) (Nat.zero_le _) dX10_homeTurning_5 (by first | decide | assumption) (fun y_1 h_y_1 => ?_)
  refine b_wi (cells' := 0) (slots' := 0) (wr := []) G rfl rfl [0, 1, 2, 3, 4, 5, 6, 7, 8, 9, 10, 11, 12, 13, 14, 15, 16, 17] [] rfl rfl rfl rfl (n_V (As := [.int (nI i), .int y_1]) (rest := []) (C := RX10) (T := TX10) (N := 14) (ci := 8) S G (s_homeBehind l X h0 nw sp xa la lb an sv dv n0 n1 n2 n3 n4 g0 gs gn gm ag dg i y_1 hI_n0 hI_n1 hI_n2 hI_n3 hI_n4 (by omega) (by first | decide | assumption | exact k_60a (by assumption)) s.heap.size) gX10_homeTurning_X10_homeBehind rfl rfl rfl hdV_X10_homeBehind ⟨Nat.le_of_ble_eq_true rfl, Nat.le_of_ble_eq_true rfl⟩ [0, 1, 2, 3, 4, 5, 6, 7, 8, 9, 10, 11, 12, 13, 14, 15, 16, 17] rfl rfl 0 rfl rfl rfl hl.1 (Nat.le_of_ble_eq_true rfl) dX10_homeTurning_8 ⟨Nat.le_of_ble_eq_true rfl, Nat.le_of_ble_eq_true rfl⟩) (fun r_2 u_2 H locs hp_2 G => ?_)
  obtain ⟨a_2a, d_2b⟩ := u_2
  have hq_2 := hp_2
  have G : wd X (va_A (@HAppend.hAppend va_W va_W va_W _ (xW h0 nw sp xa la lb) (@HAppend.hAppend va_W va_W va_W _ (rcV X nw an sv dv n0 n1 n2 n3 n4 g0 gs gn gm) (rnV (xa 8) ag dg))) sz) (va_A (@HAppend.hAppend va_W va_W va_W _ (xW h0 nw sp xa la lb) (@HAppend.hAppend va_W va_W va_W _ (rcV X nw an sv dv n0 n1 n2 n3 n4 g0 gs gn gm) (rnV (xa 8) ag dg))) sz) s (@HAppend.hAppend va_W va_W va_W _ (xW h0 nw sp xa la lb) (@HAppend.hAppend va_W va_W va_W _ (rcV X nw an sv dv n0 n1 n2 n3 n4 g0 gs gn gm) (rnV (xa 8) a_2a d_2b))) H locs := G
  refine lv_istore (lv' := [(5, .int r_2), (0, .ref h0), (1, .int (nI i)), (2, .int x2), (3, .int (nI k)), (4, .int x4)]) zx zb dX10_homeTurning_11 hl (by decide) rfl (fun ls hl => ?_)
  refine lv_iload zx zb dX10_homeTurning_13 (lv_at hl 0 rfl) ?_
  refine lv_iconst (v := (-1)) zx zb dX10_homeTurning_15 (by decide) ?_
  refine lv_icmp_ne (tgt := 25) zx zb dX10_homeTurning_16 (by decide) (fun c_3 => ?_) (fun c_3 => ?_)
  · refine lv_iload zx zb dX10_homeTurning_25 (lv_at hl 0 rfl) ?_
    exact e_int S zr zlk (vp_nar_int _) G (a_2a, d_2b) [0, 1, 2, 3, 4, 5, 6, 7, 8, 9, 10, 11, 12, 13, 14, 15, 16, 17] rfl rfl (Or.inr rfl) (by first | assumption | decide | exact k_tu hk3 hl6 (by assumption) (by assumption) (by assumption)) dX10_homeTurning_27
  · refine lv_iload_n zx zb dX10_homeTurning_19 rfl (lv_at hl 4 rfl) ?_
    refine lv_iload zx zb dX10_homeTurning_20 (lv_at hl 5 rfl) ?_
    refine lv_icmp_lt (tgt := 28) zx zb dX10_homeTurning_22 (by decide) (fun c_4 => ?_) (fun c_4 => ?_)
    · refine lv_aload_n zx zb dX10_homeTurning_28 rfl (lv_at hl 1 rfl) ?_
      refine r_get (C := RX10) (T := TX10) (N := 14) (ci := 8) (v := .ref (xa 8)) S in_X10_homeTurning_X10 G 0 rfl rfl 8 (by decide) lk_X10_homeTurning_48 rfl dX10_homeTurning_29 ?_
      refine lv_iload_n zx zb dX10_homeTurning_32 rfl (lv_at hl 3 rfl) ?_
      refine r_put (C := RX8) (T := TX8) (N := 8) (ci := 6) (v := .int x2) S in_X10_homeTurning_X8 tyX8_ok nmX8 G 17 rfl rfl 3 (by decide) lk_X10_homeTurning_130 rfl (vp_nar_int _) rfl (Nat.le_of_ble_eq_true rfl) dX10_homeTurning_33 (fun H locs G => ?_)
      obtain ⟨d_5, G⟩ : ∃ d_5 : Nat → Int32, wd X (va_A (@HAppend.hAppend va_W va_W va_W _ (xW h0 nw sp xa la lb) (@HAppend.hAppend va_W va_W va_W _ (rcV X nw an sv dv n0 n1 n2 n3 n4 g0 gs gn gm) (rnV (xa 8) ag dg))) sz) (va_A (@HAppend.hAppend va_W va_W va_W _ (xW h0 nw sp xa la lb) (@HAppend.hAppend va_W va_W va_W _ (rcV X nw an sv dv n0 n1 n2 n3 n4 g0 gs gn gm) (rnV (xa 8) ag dg))) sz) s (@HAppend.hAppend va_W va_W va_W _ (xW h0 nw sp xa la lb) (@HAppend.hAppend va_W va_W va_W _ (rcV X nw an sv dv n0 n1 n2 n3 n4 g0 gs gn gm) (rnV (xa 8) a_2a d_5))) H locs := ⟨upd d_2b 0 x2, G⟩
      refine lv_aload_n zx zb dX10_homeTurning_36 rfl (lv_at hl 1 rfl) ?_
      refine r_get (C := RX10) (T := TX10) (N := 14) (ci := 8) (v := .ref (xa 8)) S in_X10_homeTurning_X10 G 0 rfl rfl 8 (by decide) lk_X10_homeTurning_48 rfl dX10_homeTurning_37 ?_
      refine lv_aload_n zx zb dX10_homeTurning_40 rfl (lv_at hl 1 rfl) ?_
      refine r_get (C := RX10) (T := TX10) (N := 14) (ci := 8) (v := .ref nw) S in_X10_homeTurning_X10 G 0 rfl rfl 0 (by decide) lk_X10_homeTurning_10 rfl dX10_homeTurning_41 ?_
      refine r_get (C := RX5) (T := TX5) (N := 8) (ci := 3) (v := .int (dv 1)) S in_X10_homeTurning_X5 G 1 rfl rfl 1 (by decide) lk_X10_homeTurning_110 rfl dX10_homeTurning_44 ?_
      refine lv_iload_n zx zb dX10_homeTurning_47 rfl (lv_at hl 4 rfl) ?_
      refine r_iadd (v := ((dv 1) + (nI k))) S rfl dX10_homeTurning_48 ?_
      refine lv_aload_n zx zb dX10_homeTurning_49 rfl (lv_at hl 1 rfl) ?_
      refine r_get (C := RX10) (T := TX10) (N := 14) (ci := 8) (v := .ref nw) S in_X10_homeTurning_X10 G 0 rfl rfl 0 (by decide) lk_X10_homeTurning_10 rfl dX10_homeTurning_50 ?_
      refine r_get (C := RX5) (T := TX5) (N := 8) (ci := 3) (v := .int (dv 0)) S in_X10_homeTurning_X5 G 1 rfl rfl 0 (by decide) lk_X10_homeTurning_140 rfl dX10_homeTurning_53 ?_
      refine lv_iload zx zb dX10_homeTurning_56 (lv_at hl 5 rfl) ?_
      refine lv_iload_n zx zb dX10_homeTurning_58 rfl (lv_at hl 4 rfl) ?_
      refine r_isub (v := (x4 - (nI k))) S rfl dX10_homeTurning_59 ?_
      refine b_wi (cells' := 0) (slots' := 0) (wr := @HAppend.hAppend va_W va_W va_W _ (xW h0 nw sp xa la lb) (rcV X nw an sv dv n0 n1 n2 n3 n4 g0 gs gn gm)) G rfl rfl [17] [0, 1, 2, 3, 4, 5, 6, 7, 8, 9, 10, 11, 12, 13, 14, 15, 16] rfl rfl rfl rfl (n_V (As := [.int ((dv 1) + (nI k)), .int (dv 0), .int (x4 - (nI k))]) (rest := []) (C := RX8) (T := TX8) (N := 8) (ci := 6) S G (s_ticksToHome l X (xa 8) a_2a d_5 ((dv 1) + (nI k)) (dv 0) (x4 - (nI k)) (by first | decide | assumption | exact k_60a (by assumption) | exact k_s60 hk3 hl6 (by assumption)) H.size) gX10_homeTurning_X8_ticksToHome rfl rfl rfl hdV_X8_ticksToHome ⟨Nat.le_of_ble_eq_true rfl, Nat.le_of_ble_eq_true rfl⟩ [17] rfl rfl 17 rfl rfl rfl hl.1 (Nat.le_of_ble_eq_true rfl) dX10_homeTurning_60 ⟨Nat.le_of_ble_eq_true rfl, Nat.le_of_ble_eq_true rfl⟩) (fun r_6 u_6 H locs hp_6 G => ?_)
      obtain ⟨d_6, rfl⟩ : ∃ z, z = u_6 := ⟨_, rfl⟩
      have hq_6 := hp_6
      obtain ⟨hq_6, hs_6⟩ := hq_6
      have G : wd X (va_A (@HAppend.hAppend va_W va_W va_W _ (xW h0 nw sp xa la lb) (@HAppend.hAppend va_W va_W va_W _ (rcV X nw an sv dv n0 n1 n2 n3 n4 g0 gs gn gm) (rnV (xa 8) ag dg))) sz) (va_A (@HAppend.hAppend va_W va_W va_W _ (xW h0 nw sp xa la lb) (@HAppend.hAppend va_W va_W va_W _ (rcV X nw an sv dv n0 n1 n2 n3 n4 g0 gs gn gm) (rnV (xa 8) ag dg))) sz) s (@HAppend.hAppend va_W va_W va_W _ (xW h0 nw sp xa la lb) (@HAppend.hAppend va_W va_W va_W _ (rcV X nw an sv dv n0 n1 n2 n3 n4 g0 gs gn gm) (rnV (xa 8) a_2a d_6))) H locs := G
      refine lv_istore (lv' := [(6, .int r_6), (5, .int r_2), (0, .ref h0), (1, .int (nI i)), (2, .int x2), (3, .int (nI k)), (4, .int x4)]) zx zb dX10_homeTurning_63 hl (by decide) rfl (fun ls hl => ?_)
      refine lv_iload zx zb dX10_homeTurning_65 (lv_at hl 0 rfl) ?_
      refine lv_iconst (v := (-1)) zx zb dX10_homeTurning_67 (by decide) ?_
      refine lv_icmp_ne (tgt := 75) zx zb dX10_homeTurning_68 (by decide) (fun c_7 => ?_) (fun c_7 => ?_)
      · refine lv_iload_n zx zb dX10_homeTurning_75 rfl (lv_at hl 5 rfl) ?_
        refine lv_iload zx zb dX10_homeTurning_76 (lv_at hl 0 rfl) ?_
        refine r_iadd (v := ((nI k) + r_6)) S rfl dX10_homeTurning_78 ?_
        exact e_int S zr zlk (vp_nar_int _) G (a_2a, d_6) [0, 1, 2, 3, 4, 5, 6, 7, 8, 9, 10, 11, 12, 13, 14, 15, 16, 17] rfl rfl (Or.inr rfl) (by first | assumption | decide | exact k_tu hk3 hl6 (by assumption) (by assumption) (by assumption)) dX10_homeTurning_79
      · refine lv_iconst (v := (-1)) zx zb dX10_homeTurning_71 (by decide) ?_
        refine lv_goto (tgt := 79) zx zb dX10_homeTurning_72 (by decide) ?_
        exact e_int S zr zlk (vp_nar_int _) G (a_2a, d_6) [0, 1, 2, 3, 4, 5, 6, 7, 8, 9, 10, 11, 12, 13, 14, 15, 16, 17] rfl rfl (Or.inr rfl) (by first | assumption | decide | exact k_tu hk3 hl6 (by assumption) (by assumption) (by assumption)) dX10_homeTurning_79
    · refine lv_iload zx zb dX10_homeTurning_25 (lv_at hl 0 rfl) ?_
      exact e_int S zr zlk (vp_nar_int _) G (a_2a, d_2b) [0, 1, 2, 3, 4, 5, 6, 7, 8, 9, 10, 11, 12, 13, 14, 15, 16, 17] rfl rfl (Or.inr rfl) (by first | assumption | decide | exact k_tu hk3 hl6 (by assumption) (by assumption) (by assumption)) dX10_homeTurning_27
theorem in_X10_turn_X10 : ∀ w ∈ wsX100, w ∈ wsX10_turn := by decide +kernel
theorem lk_X10_turn_10 : Cond.fieldLink RX10 10 "EggSpoons" "now" "LEggSpoons$Race;" ∈ wsX10_turn := by decide +kernel
theorem in_X10_turn_X5 : ∀ w ∈ wsX50, w ∈ wsX10_turn := by decide +kernel
theorem lk_X10_turn_126 : Cond.fieldLink RX10 126 "EggSpoons$Race" "row" "[LEggSpoons$Runner;" ∈ wsX10_turn := by decide +kernel
theorem hdV_X10_homeTurning : yX10_homeTurning.cls = RX10 ∧ yX10_homeTurning.cls ≠ "java/lang/invoke/MethodHandle" ∧ yX10_homeTurning.cls ≠ "java/lang/invoke/VarHandle" ∧ (parseMethodDescriptor yX10_homeTurning.desc).map (fun d => d.parameters.length) = some 4 := by decide +kernel
set_option maxHeartbeats 4000000 in
set_option maxRecDepth 100000 in
/-- turn -/
theorem s_turn (l : Launch) (X : EX) (h0 : Nat) (nw : Nat) (sp : Nat) (xa : Nat → Nat) (la : Int64) (lb : Int64) (an : Nat → Nat) (sv : Nat → Int32) (dv : Nat → Int32) (n0 : Nat) (n1 : Nat) (n2 : Nat) (n3 : Nat) (n4 : Nat) (g0 : Nat → Int32) (gs : Nat → Int32) (gn : Nat → Int32) (gm : Nat → Int32) (ag : Nat → Int32) (dg : Nat → Int32) (fr : Nat → Int32) (x1 : Int32) (x2 : Int32) (x3 : Int32) (hI_n0 : n0 ≤ 6) (hI_n1 : n1 ≤ 8) (hI_n2 : n2 ≤ 5) (hI_n3 : n3 ≤ 6) (hI_n4 : n4 ≤ 6) (sz : Nat) : Met l yX10_turn wsX10_turn ({ frames := 5, cells := 0, slots := 0, locals := 121 } : Room) (pE X [.ref h0, .int x1, .int x2, .int x3] (@HAppend.hAppend va_W va_W va_W _ (xW h0 nw sp xa la lb) (@HAppend.hAppend va_W va_W va_W _ (rcV X nw an sv dv n0 n1 n2 n3 n4 g0 gs gn gm) (@HAppend.hAppend va_W va_W va_W _ (rnV (xa 8) ag dg) ([((xa 5), .inl (X.2.1, 3, .inl fr))])))) sz) (qI (fun (r : Int32) (u : (Nat → Int32) × (Nat → Int32) × (Nat → Int32)) => (True)) X (fun (u : (Nat → Int32) × (Nat → Int32) × (Nat → Int32)) => @HAppend.hAppend va_W va_W va_W _ (xW h0 nw sp xa la lb) (@HAppend.hAppend va_W va_W va_W _ (rcV X nw an sv dv n0 n1 n2 n3 n4 g0 gs gn gm) (@HAppend.hAppend va_W va_W va_W _ (rnV (xa 8) u.1 u.2.1) ([((xa 5), .inl (X.2.1, 3, .inl u.2.2))])))) (@HAppend.hAppend va_W va_W va_W _ (xW h0 nw sp xa la lb) (@HAppend.hAppend va_W va_W va_W _ (rcV X nw an sv dv n0 n1 n2 n3 n4 g0 gs gn gm) (@HAppend.hAppend va_W va_W va_W _ (rnV (xa 8) ag dg) ([((xa 5), .inl (X.2.1, 3, .inl fr))])))) sz) 0 0 (va_A (@HAppend.hAppend va_W va_W va_W _ (xW h0 nw sp xa la lb) (@HAppend.hAppend va_W va_W va_W _ (rcV X nw an sv dv n0 n1 n2 n3 n4 g0 gs gn gm) (@HAppend.hAppend va_W va_W va_W _ (rnV (xa 8) ag dg) ([((xa 5), .inl (X.2.1, 3, .inl fr))])))) sz) := by
  refine mk_met (B := (va_A (@HAppend.hAppend va_W va_W va_W _ (xW h0 nw sp xa la lb) (@HAppend.hAppend va_W va_W va_W _ (rcV X nw an sv dv n0 n1 n2 n3 n4 g0 gs gn gm) (@HAppend.hAppend va_W va_W va_W _ (rnV (xa 8) ag dg) ([((xa 5), .inl (X.2.1, 3, .inl fr))])))) sz)) (A := (va_A (@HAppend.hAppend va_W va_W va_W _ (xW h0 nw sp xa la lb) (@HAppend.hAppend va_W va_W va_W _ (rcV X nw an sv dv n0 n1 n2 n3 n4 g0 gs gn gm) (@HAppend.hAppend va_W va_W va_W _ (rnV (xa 8) ag dg) ([((xa 5), .inl (X.2.1, 3, .inl fr))])))) sz)) (cc := cX10_turn) (maxL := 9) (ret := (some .int)) (by decide) rfl (Nat.le_of_ble_eq_true rfl) k_w k_a (fun p e s m below meth c S zr zlk znm zsz G ls hl => ?_)
  have S : CallFix p m c cX10_turn 9 s _ wsX10_turn RX10 := S
  have zx := S.1
  have zb := S.2.1
  have hl : lv_has ls 9 [(0, .ref h0), (1, .int x1), (2, .int x2), (3, .int x3)] := hl
  refine lv_aload_n zx zb dX10_turn_0 rfl (lv_at hl 0 rfl) ?_
  refine lv_iload_n zx zb dX10_turn_1 rfl (lv_at hl 1 rfl) ?_
  refine o_ri (cells' := 0) (slots' := 0) G rfl rfl (n_V (As := [.int x1]) (rest := []) (C := RX10) (T := TX10) (N := 14) (ci := 8) S G (s_there l X h0 nw sp xa la lb an sv dv n0 n1 n2 n3 n4 g0 gs gn gm x1 hI_n0 hI_n1 hI_n2 hI_n3 hI_n4 s.heap.size) gX10_turn_X10_there rfl rfl rfl hdV_X10_there ⟨Nat.le_of_ble_eq_true rfl, Nat.le_of_ble_eq_true rfl⟩ [0, 1, 2, 3, 4, 5, 6, 7, 8, 9, 10, 11, 12, 13, 14, 15, 16] rfl rfl 0 rfl rfl rfl hl.1 (Nat.le_of_ble_eq_true rfl) dX10_turn_2 ⟨Nat.le_of_ble_eq_true rfl, Nat.le_of_ble_eq_true rfl⟩) (fun r_1 u_1 H locs hp_1 G => ?_)
  have G : wd X (va_A (@HAppend.hAppend va_W va_W va_W _ (xW h0 nw sp xa la lb) (@HAppend.hAppend va_W va_W va_W _ (rcV X nw an sv dv n0 n1 n2 n3 n4 g0 gs gn gm) (@HAppend.hAppend va_W va_W va_W _ (rnV (xa 8) ag dg) ([((xa 5), .inl (X.2.1, 3, .inl fr))])))) sz) (va_A (@HAppend.hAppend va_W va_W va_W _ (xW h0 nw sp xa la lb) (@HAppend.hAppend va_W va_W va_W _ (rcV X nw an sv dv n0 n1 n2 n3 n4 g0 gs gn gm) (@HAppend.hAppend va_W va_W va_W _ (rnV (xa 8) ag dg) ([((xa 5), .inl (X.2.1, 3, .inl fr))])))) sz) s (@HAppend.hAppend va_W va_W va_W _ (xW h0 nw sp xa la lb) (@HAppend.hAppend va_W va_W va_W _ (rcV X nw an sv dv n0 n1 n2 n3 n4 g0 gs gn gm) (@HAppend.hAppend va_W va_W va_W _ (rnV (xa 8) ag dg) ([((xa 5), .inl (X.2.1, 3, .inl fr))])))) H locs := G
  rcases hp_1 with ⟨rfl, hj_1⟩ | ⟨rfl, hj_1⟩
  · obtain ⟨j_1, hj_1, rfl⟩ := hj_1
    refine lv_if_eq (tgt := 27) zx zb dX10_turn_5 (by decide) (fun c_2 => absurd c_2 (by decide)) (fun c_2 => ?_)
    refine lv_iload_n zx zb dX10_turn_8 rfl (lv_at hl 2 rfl) ?_
    refine lv_iconst (v := 0) zx zb dX10_turn_9 (by decide) ?_
    refine lv_bipush (v := 9) zx zb dX10_turn_10 (by decide) ?_
    refine o_ri (cells' := 0) (slots' := 0) G rfl rfl (n_S (As := [.int x2, .int 0, .int 9]) (rest := []) S G (s_within l X x2 0 9 H.size) gX10_turn_X10_within rfl rfl rfl hdS_X10_within ⟨Nat.le_of_ble_eq_true rfl, Nat.le_of_ble_eq_true rfl⟩ [] rfl rfl rfl hl.1 (Nat.le_of_ble_eq_true rfl) dX10_turn_12 ⟨Nat.le_of_ble_eq_true rfl, Nat.le_of_ble_eq_true rfl⟩) (fun r_3 u_3 H locs hp_3 G => ?_)
    have G : wd X (va_A (@HAppend.hAppend va_W va_W va_W _ (xW h0 nw sp xa la lb) (@HAppend.hAppend va_W va_W va_W _ (rcV X nw an sv dv n0 n1 n2 n3 n4 g0 gs gn gm) (@HAppend.hAppend va_W va_W va_W _ (rnV (xa 8) ag dg) ([((xa 5), .inl (X.2.1, 3, .inl fr))])))) sz) (va_A (@HAppend.hAppend va_W va_W va_W _ (xW h0 nw sp xa la lb) (@HAppend.hAppend va_W va_W va_W _ (rcV X nw an sv dv n0 n1 n2 n3 n4 g0 gs gn gm) (@HAppend.hAppend va_W va_W va_W _ (rnV (xa 8) ag dg) ([((xa 5), .inl (X.2.1, 3, .inl fr))])))) sz) s (@HAppend.hAppend va_W va_W va_W _ (xW h0 nw sp xa la lb) (@HAppend.hAppend va_W va_W va_W _ (rcV X nw an sv dv n0 n1 n2 n3 n4 g0 gs gn gm) (@HAppend.hAppend va_W va_W va_W _ (rnV (xa 8) ag dg) ([((xa 5), .inl (X.2.1, 3, .inl fr))])))) H locs := G
    rcases hp_3 with ⟨rfl, hw_3⟩ | ⟨rfl, hw_3⟩
    · refine lv_if_eq (tgt := 27) zx zb dX10_turn_15 (by decide) (fun c_4 => absurd c_4 (by decide)) (fun c_4 => ?_)
      refine lv_iload_n zx zb dX10_turn_18 rfl (lv_at hl 3 rfl) ?_
      refine lv_iconst (v := 0) zx zb dX10_turn_19 (by decide) ?_
      refine lv_iconst (v := 1) zx zb dX10_turn_20 (by decide) ?_
      refine o_ri (cells' := 0) (slots' := 0) G rfl rfl (n_S (As := [.int x3, .int 0, .int 1]) (rest := []) S G (s_within l X x3 0 1 H.size) gX10_turn_X10_within rfl rfl rfl hdS_X10_within ⟨Nat.le_of_ble_eq_true rfl, Nat.le_of_ble_eq_true rfl⟩ [] rfl rfl rfl hl.1 (Nat.le_of_ble_eq_true rfl) dX10_turn_21 ⟨Nat.le_of_ble_eq_true rfl, Nat.le_of_ble_eq_true rfl⟩) (fun r_5 u_5 H locs hp_5 G => ?_)
      have G : wd X (va_A (@HAppend.hAppend va_W va_W va_W _ (xW h0 nw sp xa la lb) (@HAppend.hAppend va_W va_W va_W _ (rcV X nw an sv dv n0 n1 n2 n3 n4 g0 gs gn gm) (@HAppend.hAppend va_W va_W va_W _ (rnV (xa 8) ag dg) ([((xa 5), .inl (X.2.1, 3, .inl fr))])))) sz) (va_A (@HAppend.hAppend va_W va_W va_W _ (xW h0 nw sp xa la lb) (@HAppend.hAppend va_W va_W va_W _ (rcV X nw an sv dv n0 n1 n2 n3 n4 g0 gs gn gm) (@HAppend.hAppend va_W va_W va_W _ (rnV (xa 8) ag dg) ([((xa 5), .inl (X.2.1, 3, .inl fr))])))) sz) s (@HAppend.hAppend va_W va_W va_W _ (xW h0 nw sp xa la lb) (@HAppend.hAppend va_W va_W va_W _ (rcV X nw an sv dv n0 n1 n2 n3 n4 g0 gs gn gm) (@HAppend.hAppend va_W va_W va_W _ (rnV (xa 8) ag dg) ([((xa 5), .inl (X.2.1, 3, .inl fr))])))) H locs := G
      rcases hp_5 with ⟨rfl, hw_5⟩ | ⟨rfl, hw_5⟩
      · refine lv_if_ne (tgt := 34) zx zb dX10_turn_24 (by decide) (fun c_6 => ?_) (fun c_6 => absurd c_6 (by decide))
        refine lv_aload_n zx zb dX10_turn_34 rfl (lv_at hl 0 rfl) ?_
        refine r_get (C := RX10) (T := TX10) (N := 14) (ci := 8) (v := .ref nw) S in_X10_turn_X10 G 0 rfl rfl 0 (by decide) lk_X10_turn_10 rfl dX10_turn_35 ?_
        refine r_get (C := RX5) (T := TX5) (N := 8) (ci := 3) (v := .ref (an 0)) S in_X10_turn_X5 G 1 rfl rfl 3 (by decide) lk_X10_turn_126 rfl dX10_turn_38 ?_
        refine lv_iload_n zx zb dX10_turn_41 rfl (lv_at hl 1 rfl) ?_
        rcases k_6c (show j_1 < 6 by omega) with rfl | rfl | rfl | rfl | rfl | rfl
        · refine k_it (v := 0) rfl ?_
          refine r_aald (C := RX8) (b := (an 1)) S G 2 3 rfl rfl (k_vp (by decide)) rfl dX10_turn_42 ?_
          refine o_ri (cells' := 0) (slots' := 0) G rfl rfl (n_V (As := []) (rest := []) (C := RX8) (T := TX8) (N := 8) (ci := 6) S G (s_isHome l X (an 1) (fun k => sv (0 + k)) (fun k => dv (10 + k)) H.size) gX10_turn_X8_isHome rfl rfl rfl hdV_X8_isHome ⟨Nat.le_of_ble_eq_true rfl, Nat.le_of_ble_eq_true rfl⟩ [3] rfl rfl 3 rfl rfl rfl hl.1 (Nat.le_of_ble_eq_true rfl) dX10_turn_43 ⟨Nat.le_of_ble_eq_true rfl, Nat.le_of_ble_eq_true rfl⟩) (fun r_7 u_7 H locs hp_7 G => ?_)
          have G : wd X (va_A (@HAppend.hAppend va_W va_W va_W _ (xW h0 nw sp xa la lb) (@HAppend.hAppend va_W va_W va_W _ (rcV X nw an sv dv n0 n1 n2 n3 n4 g0 gs gn gm) (@HAppend.hAppend va_W va_W va_W _ (rnV (xa 8) ag dg) ([((xa 5), .inl (X.2.1, 3, .inl fr))])))) sz) (va_A (@HAppend.hAppend va_W va_W va_W _ (xW h0 nw sp xa la lb) (@HAppend.hAppend va_W va_W va_W _ (rcV X nw an sv dv n0 n1 n2 n3 n4 g0 gs gn gm) (@HAppend.hAppend va_W va_W va_W _ (rnV (xa 8) ag dg) ([((xa 5), .inl (X.2.1, 3, .inl fr))])))) sz) s (@HAppend.hAppend va_W va_W va_W _ (xW h0 nw sp xa la lb) (@HAppend.hAppend va_W va_W va_W _ (rcV X nw an sv dv n0 n1 n2 n3 n4 g0 gs gn gm) (@HAppend.hAppend va_W va_W va_W _ (rnV (xa 8) ag dg) ([((xa 5), .inl (X.2.1, 3, .inl fr))])))) H locs := G
          refine lv_if_eq (tgt := 51) zx zb dX10_turn_46 (by decide) (fun c_8 => ?_) (fun c_8 => ?_)
          · refine lv_iconst (v := (-1)) zx zb dX10_turn_51 (by decide) ?_
            refine lv_istore (lv' := [(4, .int (-1)), (0, .ref h0), (1, .int 0), (2, .int x2), (3, .int x3)]) zx zb dX10_turn_52 hl (by decide) rfl (fun ls hl => ?_)
            refine lv_iconst (v := (-1)) zx zb dX10_turn_54 (by decide) ?_
            refine lv_istore (lv' := [(5, .int (-1)), (4, .int (-1)), (0, .ref h0), (1, .int 0), (2, .int x2), (3, .int x3)]) zx zb dX10_turn_55 hl (by decide) rfl (fun ls hl => ?_)
            refine lv_bipush (v := 60) zx zb dX10_turn_57 (by decide) ?_
            refine lv_istore (lv' := [(6, .int 60), (5, .int (-1)), (4, .int (-1)), (0, .ref h0), (1, .int 0), (2, .int x2), (3, .int x3)]) zx zb dX10_turn_59 hl (by decide) rfl (fun ls hl => ?_)
            refine lv_iconst (v := 0) zx zb dX10_turn_61 (by decide) ?_
            refine lv_istore (lv' := [(7, .int 0), (6, .int 60), (5, .int (-1)), (4, .int (-1)), (0, .ref h0), (1, .int 0), (2, .int x2), (3, .int x3)]) zx zb dX10_turn_62 hl (by decide) rfl (fun ls hl => ?_)
            refine k_loop (P := ∀ (zm : Nat) (k64 : Nat) (x64_6 : Int32) (x64_5 : Int32) (x64_4 : Int32) (a64_2 : Nat → Int32) (d64_2 : Nat → Int32) (H : Heap) (locs : List Loc) (ls : Array Slot), 31 + 1 ≤ k64 + zm → (k64 ≤ 31) → (x64_6 ≤ 60) → wd X (va_A (@HAppend.hAppend va_W va_W va_W _ (xW h0 nw sp xa la lb) (@HAppend.hAppend va_W va_W va_W _ (rcV X nw an sv dv n0 n1 n2 n3 n4 g0 gs gn gm) (@HAppend.hAppend va_W va_W va_W _ (rnV (xa 8) ag dg) ([((xa 5), .inl (X.2.1, 3, .inl fr))])))) sz) (va_A (@HAppend.hAppend va_W va_W va_W _ (xW h0 nw sp xa la lb) (@HAppend.hAppend va_W va_W va_W _ (rcV X nw an sv dv n0 n1 n2 n3 n4 g0 gs gn gm) (@HAppend.hAppend va_W va_W va_W _ (rnV (xa 8) ag dg) ([((xa 5), .inl (X.2.1, 3, .inl fr))])))) sz) s (@HAppend.hAppend va_W va_W va_W _ (xW h0 nw sp xa la lb) (@HAppend.hAppend va_W va_W va_W _ (rcV X nw an sv dv n0 n1 n2 n3 n4 g0 gs gn gm) (@HAppend.hAppend va_W va_W va_W _ (rnV (xa 8) a64_2 d64_2) ([((xa 5), .inl (X.2.1, 3, .inl fr))])))) H locs → lv_has ls 9 [(7, .int (nI k64)), (6, .int x64_6), (5, .int x64_5), (4, .int x64_4), (0, .ref h0), (1, .int 0), (2, .int x2), (3, .int x3)] → W p l e _ s m _ below meth c H locs _ _ _ (F0 m 64 ls [])) (fun loop => loop (31 + 1) 0 60 (-1) (-1) ag dg _ _ _ (by omega) (by omega) (by first | assumption | decide | exact k_m60 (by assumption)) G hl) ?_
            intro zm
            induction zm with
            | zero => intro k64 x64_6 x64_5 x64_4 a64_2 d64_2 H locs ls zz q_hk_k64 q_hk_x64_6 _ _; exact absurd zz (by omega)
            | succ zm ih64 =>
              intro k64 x64_6 x64_5 x64_4 a64_2 d64_2 H locs ls zm_64 hk_k64 hk_x64_6 G hl
              refine lv_iload zx zb dX10_turn_64 (lv_at hl 0 rfl) ?_
              refine lv_bipush (v := 30) zx zb dX10_turn_66 (by decide) ?_
              refine lv_icmp_gt (tgt := 109) zx zb dX10_turn_68 (by decide) (fun c_9 => ?_) (fun c_9 => ?_)
              · have fc_9 := j_lt (a := 30) (b := k64) (by omega) (by omega) c_9
                refine lv_iload_n zx zb dX10_turn_109 rfl (lv_at hl 7 rfl) ?_
                refine k_cutW (PP := fun Wx => ∀ (x_11 : Int32) (H : Heap) (locs : List Loc) (ls : Array Slot), wd X (va_A (@HAppend.hAppend va_W va_W va_W _ (xW h0 nw sp xa la lb) (@HAppend.hAppend va_W va_W va_W _ (rcV X nw an sv dv n0 n1 n2 n3 n4 g0 gs gn gm) (@HAppend.hAppend va_W va_W va_W _ (rnV (xa 8) ag dg) ([((xa 5), .inl (X.2.1, 3, .inl fr))])))) sz) (va_A (@HAppend.hAppend va_W va_W va_W _ (xW h0 nw sp xa la lb) (@HAppend.hAppend va_W va_W va_W _ (rcV X nw an sv dv n0 n1 n2 n3 n4 g0 gs gn gm) (@HAppend.hAppend va_W va_W va_W _ (rnV (xa 8) ag dg) ([((xa 5), .inl (X.2.1, 3, .inl fr))])))) sz) s (@HAppend.hAppend va_W va_W va_W _ (xW h0 nw sp xa la lb) (@HAppend.hAppend va_W va_W va_W _ (rcV X nw an sv dv n0 n1 n2 n3 n4 g0 gs gn gm) (@HAppend.hAppend va_W va_W va_W _ (rnV (xa 8) a64_2 d64_2) ([((xa 5), .inl (X.2.1, 3, .inl fr))])))) H locs → lv_has ls 9 [(7, .int (nI k64)), (6, .int x64_6), (5, .int x64_5), (4, .int x64_4), (0, .ref h0), (1, .int 0), (2, .int x2), (3, .int x3)] → Wx (F0 m 120 ls [.int x_11]) H locs) ?_ ?_
                · intro join_110
                  refine lv_if_ne (tgt := 118) zx zb dX10_turn_110 (by decide) (fun c_10 => ?_) (fun c_10 => ?_)
                  · refine lv_iload zx zb dX10_turn_118 (lv_at hl 2 rfl) ?_
                    exact join_110 x64_5 _ _ _  G hl
                  · refine lv_iload zx zb dX10_turn_113 (lv_at hl 3 rfl) ?_
                    refine lv_goto (tgt := 120) zx zb dX10_turn_115 (by decide) ?_
                    exact join_110 x64_4 _ _ _  G hl
                · intro x_11 H locs ls  G hl
                  exact e_int S zr zlk (vp_nar_int _) G (a64_2, d64_2, fr) [0, 1, 2, 3, 4, 5, 6, 7, 8, 9, 10, 11, 12, 13, 14, 15, 16, 17, 18] rfl rfl (Or.inr rfl) (trivial) dX10_turn_120
              · have fc_9 := j_nlt (a := 30) (b := k64) (by omega) (by omega) c_9
                refine lv_aload_n zx zb dX10_turn_71 rfl (lv_at hl 4 rfl) ?_
                refine lv_iload_n zx zb dX10_turn_72 rfl (lv_at hl 5 rfl) ?_
                refine lv_iload_n zx zb dX10_turn_73 rfl (lv_at hl 6 rfl) ?_
                refine lv_iload zx zb dX10_turn_74 (lv_at hl 0 rfl) ?_
                refine lv_iload zx zb dX10_turn_76 (lv_at hl 1 rfl) ?_
                refine b_wi (cells' := 0) (slots' := 0) (wr := [((xa 5), .inl (X.2.1, 3, .inl fr))]) G rfl rfl [0, 1, 2, 3, 4, 5, 6, 7, 8, 9, 10, 11, 12, 13, 14, 15, 16, 17] [18] rfl rfl rfl rfl (n_V (As := [.int 0, .int x2, .int (nI k64), .int x64_6]) (rest := []) (C := RX10) (T := TX10) (N := 14) (ci := 8) S G (s_homeTurning l X h0 nw sp xa la lb an sv dv n0 n1 n2 n3 n4 g0 gs gn gm a64_2 d64_2 0 x2 k64 x64_6 hI_n0 hI_n1 hI_n2 hI_n3 hI_n4 (by omega) (by omega) (by first | decide | assumption | exact k_60a (by assumption)) H.size) gX10_turn_X10_homeTurning rfl rfl rfl hdV_X10_homeTurning ⟨Nat.le_of_ble_eq_true rfl, Nat.le_of_ble_eq_true rfl⟩ [0, 1, 2, 3, 4, 5, 6, 7, 8, 9, 10, 11, 12, 13, 14, 15, 16, 17] rfl rfl 0 rfl rfl rfl hl.1 (Nat.le_of_ble_eq_true rfl) dX10_turn_78 ⟨Nat.le_of_ble_eq_true rfl, Nat.le_of_ble_eq_true rfl⟩) (fun r_12 u_12 H locs hp_12 G => ?_)
                obtain ⟨a_12a, d_12b⟩ := u_12
                have hq_12 := hp_12
                have G : wd X (va_A (@HAppend.hAppend va_W va_W va_W _ (xW h0 nw sp xa la lb) (@HAppend.hAppend va_W va_W va_W _ (rcV X nw an sv dv n0 n1 n2 n3 n4 g0 gs gn gm) (@HAppend.hAppend va_W va_W va_W _ (rnV (xa 8) ag dg) ([((xa 5), .inl (X.2.1, 3, .inl fr))])))) sz) (va_A (@HAppend.hAppend va_W va_W va_W _ (xW h0 nw sp xa la lb) (@HAppend.hAppend va_W va_W va_W _ (rcV X nw an sv dv n0 n1 n2 n3 n4 g0 gs gn gm) (@HAppend.hAppend va_W va_W va_W _ (rnV (xa 8) ag dg) ([((xa 5), .inl (X.2.1, 3, .inl fr))])))) sz) s (@HAppend.hAppend va_W va_W va_W _ ([((xa 5), .inl (X.2.1, 3, .inl fr))]) (@HAppend.hAppend va_W va_W va_W _ (xW h0 nw sp xa la lb) (@HAppend.hAppend va_W va_W va_W _ (rcV X nw an sv dv n0 n1 n2 n3 n4 g0 gs gn gm) (rnV (xa 8) a_12a d_12b)))) H locs := G
                refine lv_istore (lv' := [(8, .int r_12), (7, .int (nI k64)), (6, .int x64_6), (5, .int x64_5), (4, .int x64_4), (0, .ref h0), (1, .int 0), (2, .int x2), (3, .int x3)]) zx zb dX10_turn_81 hl (by decide) rfl (fun ls hl => ?_)
                refine lv_iload zx zb dX10_turn_83 (lv_at hl 0 rfl) ?_
                refine lv_iconst (v := (-1)) zx zb dX10_turn_85 (by decide) ?_
                refine k_cutW (PP := fun Wx => ∀ (x_14 : Int32) (x_15 : Int32) (x_16 : Int32) (H : Heap) (locs : List Loc) (ls : Array Slot), (x_14 ≤ 60) → wd X (va_A (@HAppend.hAppend va_W va_W va_W _ (xW h0 nw sp xa la lb) (@HAppend.hAppend va_W va_W va_W _ (rcV X nw an sv dv n0 n1 n2 n3 n4 g0 gs gn gm) (@HAppend.hAppend va_W va_W va_W _ (rnV (xa 8) ag dg) ([((xa 5), .inl (X.2.1, 3, .inl fr))])))) sz) (va_A (@HAppend.hAppend va_W va_W va_W _ (xW h0 nw sp xa la lb) (@HAppend.hAppend va_W va_W va_W _ (rcV X nw an sv dv n0 n1 n2 n3 n4 g0 gs gn gm) (@HAppend.hAppend va_W va_W va_W _ (rnV (xa 8) ag dg) ([((xa 5), .inl (X.2.1, 3, .inl fr))])))) sz) s (@HAppend.hAppend va_W va_W va_W _ ([((xa 5), .inl (X.2.1, 3, .inl fr))]) (@HAppend.hAppend va_W va_W va_W _ (xW h0 nw sp xa la lb) (@HAppend.hAppend va_W va_W va_W _ (rcV X nw an sv dv n0 n1 n2 n3 n4 g0 gs gn gm) (rnV (xa 8) a_12a d_12b)))) H locs → lv_has ls 9 [(8, .int r_12), (7, .int (nI k64)), (6, .int x_14), (5, .int x_15), (4, .int x_16), (0, .ref h0), (1, .int 0), (2, .int x2), (3, .int x3)] → Wx (F0 m 103 ls []) H locs) ?_ ?_
                · intro join_86
                  refine lv_icmp_eq (tgt := 103) zx zb dX10_turn_86 (by decide) (fun c_13 => ?_) (fun c_13 => ?_)
                  · exact join_86 x64_6 x64_5 x64_4 _ _ _ (by first | assumption | decide | exact k_m60 (by assumption)) G hl
                  · refine lv_iload zx zb dX10_turn_89 (lv_at hl 1 rfl) ?_
                    refine lv_istore (lv' := [(4, .int (nI k64)), (8, .int r_12), (7, .int (nI k64)), (6, .int x64_6), (5, .int x64_5), (0, .ref h0), (1, .int 0), (2, .int x2), (3, .int x3)]) zx zb dX10_turn_91 hl (by decide) rfl (fun ls hl => ?_)
                    refine lv_iload zx zb dX10_turn_93 (lv_at hl 1 rfl) ?_
                    refine lv_istore (lv' := [(5, .int r_12), (4, .int (nI k64)), (8, .int r_12), (7, .int (nI k64)), (6, .int x64_6), (0, .ref h0), (1, .int 0), (2, .int x2), (3, .int x3)]) zx zb dX10_turn_95 hl (by decide) rfl (fun ls hl => ?_)
                    refine lv_iload zx zb dX10_turn_97 (lv_at hl 2 rfl) ?_
                    refine lv_iconst (v := 1) zx zb dX10_turn_99 (by decide) ?_
                    refine r_isub (v := (r_12 - 1)) S rfl dX10_turn_100 ?_
                    refine lv_istore (lv' := [(6, .int (r_12 - 1)), (5, .int r_12), (4, .int (nI k64)), (8, .int r_12), (7, .int (nI k64)), (0, .ref h0), (1, .int 0), (2, .int x2), (3, .int x3)]) zx zb dX10_turn_101 hl (by decide) rfl (fun ls hl => ?_)
                    have hl := lv_sub hl (l' := [(8, .int r_12), (7, .int (nI k64)), (6, .int (r_12 - 1)), (5, .int r_12), (4, .int (nI k64)), (0, .ref h0), (1, .int 0), (2, .int x2), (3, .int x3)]) [3, 4, 0, 1, 2, 5, 6, 7, 8] rfl
                    exact join_86 (r_12 - 1) r_12 (nI k64) _ _ _ (by first | assumption | decide | exact k_m60 (by assumption)) G hl
                · intro x_14 x_15 x_16 H locs ls hk_x_14 G hl
                  refine lv_iinc (v := (nI (k64 + 1))) (lv' := [(7, .int (nI (k64 + 1))), (8, .int r_12), (6, .int x_14), (5, .int x_15), (4, .int x_16), (0, .ref h0), (1, .int 0), (2, .int x2), (3, .int x3)]) zx zb dX10_turn_103 hl (k := 1) rfl (nI_add k64 1) (by decide) rfl (fun ls hl => ?_)
                  refine lv_goto (tgt := 64) zx zb dX10_turn_106 (by decide) ?_
                  have G : wd X (va_A (@HAppend.hAppend va_W va_W va_W _ (xW h0 nw sp xa la lb) (@HAppend.hAppend va_W va_W va_W _ (rcV X nw an sv dv n0 n1 n2 n3 n4 g0 gs gn gm) (@HAppend.hAppend va_W va_W va_W _ (rnV (xa 8) ag dg) ([((xa 5), .inl (X.2.1, 3, .inl fr))])))) sz) (va_A (@HAppend.hAppend va_W va_W va_W _ (xW h0 nw sp xa la lb) (@HAppend.hAppend va_W va_W va_W _ (rcV X nw an sv dv n0 n1 n2 n3 n4 g0 gs gn gm) (@HAppend.hAppend va_W va_W va_W _ (rnV (xa 8) ag dg) ([((xa 5), .inl (X.2.1, 3, .inl fr))])))) sz) s (@HAppend.hAppend va_W va_W va_W _ (xW h0 nw sp xa la lb) (@HAppend.hAppend va_W va_W va_W _ (rcV X nw an sv dv n0 n1 n2 n3 n4 g0 gs gn gm) (@HAppend.hAppend va_W va_W va_W _ (rnV (xa 8) a_12a d_12b) ([((xa 5), .inl (X.2.1, 3, .inl fr))])))) H locs := wd_sub G [1, 2, 3, 4, 5, 6, 7, 8, 9, 10, 11, 12, 13, 14, 15, 16, 17, 18, 0] rfl rfl
                  have hl := lv_sub hl (l' := [(7, .int (nI (k64 + 1))), (6, .int x_14), (5, .int x_15), (4, .int x_16), (0, .ref h0), (1, .int 0), (2, .int x2), (3, .int x3)]) [0, 2, 3, 4, 5, 6, 7, 8] rfl
                  exact ih64 (k64 + 1) x_14 x_15 x_16 a_12a d_12b _ _ _ (by omega) (by omega) (by first | assumption | decide | exact k_m60 (by assumption)) G hl
          · refine lv_iconst (v := (-1)) zx zb dX10_turn_49 (by decide) ?_
            exact e_int S zr zlk (vp_nar_int _) G (ag, dg, fr) [0, 1, 2, 3, 4, 5, 6, 7, 8, 9, 10, 11, 12, 13, 14, 15, 16, 17, 18] rfl rfl (Or.inr rfl) (trivial) dX10_turn_50
        · refine k_it (v := 1) rfl ?_
          refine r_aald (C := RX8) (b := (an 2)) S G 2 3 rfl rfl (k_vp (by decide)) rfl dX10_turn_42 ?_
          refine o_ri (cells' := 0) (slots' := 0) G rfl rfl (n_V (As := []) (rest := []) (C := RX8) (T := TX8) (N := 8) (ci := 6) S G (s_isHome l X (an 2) (fun k => sv (3 + k)) (fun k => dv (15 + k)) H.size) gX10_turn_X8_isHome rfl rfl rfl hdV_X8_isHome ⟨Nat.le_of_ble_eq_true rfl, Nat.le_of_ble_eq_true rfl⟩ [4] rfl rfl 4 rfl rfl rfl hl.1 (Nat.le_of_ble_eq_true rfl) dX10_turn_43 ⟨Nat.le_of_ble_eq_true rfl, Nat.le_of_ble_eq_true rfl⟩) (fun r_17 u_17 H locs hp_17 G => ?_)
          have G : wd X (va_A (@HAppend.hAppend va_W va_W va_W _ (xW h0 nw sp xa la lb) (@HAppend.hAppend va_W va_W va_W _ (rcV X nw an sv dv n0 n1 n2 n3 n4 g0 gs gn gm) (@HAppend.hAppend va_W va_W va_W _ (rnV (xa 8) ag dg) ([((xa 5), .inl (X.2.1, 3, .inl fr))])))) sz) (va_A (@HAppend.hAppend va_W va_W va_W _ (xW h0 nw sp xa la lb) (@HAppend.hAppend va_W va_W va_W _ (rcV X nw an sv dv n0 n1 n2 n3 n4 g0 gs gn gm) (@HAppend.hAppend va_W va_W va_W _ (rnV (xa 8) ag dg) ([((xa 5), .inl (X.2.1, 3, .inl fr))])))) sz) s (@HAppend.hAppend va_W va_W va_W _ (xW h0 nw sp xa la lb) (@HAppend.hAppend va_W va_W va_W _ (rcV X nw an sv dv n0 n1 n2 n3 n4 g0 gs gn gm) (@HAppend.hAppend va_W va_W va_W _ (rnV (xa 8) ag dg) ([((xa 5), .inl (X.2.1, 3, .inl fr))])))) H locs := G
          refine lv_if_eq (tgt := 51) zx zb dX10_turn_46 (by decide) (fun c_18 => ?_) (fun c_18 => ?_)
          · refine lv_iconst (v := (-1)) zx zb dX10_turn_51 (by decide) ?_
            refine lv_istore (lv' := [(4, .int (-1)), (0, .ref h0), (1, .int 1), (2, .int x2), (3, .int x3)]) zx zb dX10_turn_52 hl (by decide) rfl (fun ls hl => ?_)
            refine lv_iconst (v := (-1)) zx zb dX10_turn_54 (by decide) ?_
            refine lv_istore (lv' := [(5, .int (-1)), (4, .int (-1)), (0, .ref h0), (1, .int 1), (2, .int x2), (3, .int x3)]) zx zb dX10_turn_55 hl (by decide) rfl (fun ls hl => ?_)
            refine lv_bipush (v := 60) zx zb dX10_turn_57 (by decide) ?_
            refine lv_istore (lv' := [(6, .int 60), (5, .int (-1)), (4, .int (-1)), (0, .ref h0), (1, .int 1), (2, .int x2), (3, .int x3)]) zx zb dX10_turn_59 hl (by decide) rfl (fun ls hl => ?_)
            refine lv_iconst (v := 0) zx zb dX10_turn_61 (by decide) ?_
            refine lv_istore (lv' := [(7, .int 0), (6, .int 60), (5, .int (-1)), (4, .int (-1)), (0, .ref h0), (1, .int 1), (2, .int x2), (3, .int x3)]) zx zb dX10_turn_62 hl (by decide) rfl (fun ls hl => ?_)
            refine k_loop (P := ∀ (zm : Nat) (k64 : Nat) (x64_6 : Int32) (x64_5 : Int32) (x64_4 : Int32) (a64_2 : Nat → Int32) (d64_2 : Nat → Int32) (H : Heap) (locs : List Loc) (ls : Array Slot), 31 + 1 ≤ k64 + zm → (k64 ≤ 31) → (x64_6 ≤ 60) → wd X (va_A (@HAppend.hAppend va_W va_W va_W _ (xW h0 nw sp xa la lb) (@HAppend.hAppend va_W va_W va_W _ (rcV X nw an sv dv n0 n1 n2 n3 n4 g0 gs gn gm) (@HAppend.hAppend va_W va_W va_W _ (rnV (xa 8) ag dg) ([((xa 5), .inl (X.2.1, 3, .inl fr))])))) sz) (va_A (@HAppend.hAppend va_W va_W va_W _ (xW h0 nw sp xa la lb) (@HAppend.hAppend va_W va_W va_W _ (rcV X nw an sv dv n0 n1 n2 n3 n4 g0 gs gn gm) (@HAppend.hAppend va_W va_W va_W _ (rnV (xa 8) ag dg) ([((xa 5), .inl (X.2.1, 3, .inl fr))])))) sz) s (@HAppend.hAppend va_W va_W va_W _ (xW h0 nw sp xa la lb) (@HAppend.hAppend va_W va_W va_W _ (rcV X nw an sv dv n0 n1 n2 n3 n4 g0 gs gn gm) (@HAppend.hAppend va_W va_W va_W _ (rnV (xa 8) a64_2 d64_2) ([((xa 5), .inl (X.2.1, 3, .inl fr))])))) H locs → lv_has ls 9 [(7, .int (nI k64)), (6, .int x64_6), (5, .int x64_5), (4, .int x64_4), (0, .ref h0), (1, .int 1), (2, .int x2), (3, .int x3)] → W p l e _ s m _ below meth c H locs _ _ _ (F0 m 64 ls [])) (fun loop => loop (31 + 1) 0 60 (-1) (-1) ag dg _ _ _ (by omega) (by omega) (by first | assumption | decide | exact k_m60 (by assumption)) G hl) ?_
            intro zm
            induction zm with
            | zero => intro k64 x64_6 x64_5 x64_4 a64_2 d64_2 H locs ls zz q_hk_k64 q_hk_x64_6 _ _; exact absurd zz (by omega)
            | succ zm ih64 =>
              intro k64 x64_6 x64_5 x64_4 a64_2 d64_2 H locs ls zm_64 hk_k64 hk_x64_6 G hl
              refine lv_iload zx zb dX10_turn_64 (lv_at hl 0 rfl) ?_
              refine lv_bipush (v := 30) zx zb dX10_turn_66 (by decide) ?_
              refine lv_icmp_gt (tgt := 109) zx zb dX10_turn_68 (by decide) (fun c_19 => ?_) (fun c_19 => ?_)
              · have fc_19 := j_lt (a := 30) (b := k64) (by omega) (by omega) c_19
                refine lv_iload_n zx zb dX10_turn_109 rfl (lv_at hl 7 rfl) ?_
                refine k_cutW (PP := fun Wx => ∀ (x_21 : Int32) (H : Heap) (locs : List Loc) (ls : Array Slot), wd X (va_A (@HAppend.hAppend va_W va_W va_W _ (xW h0 nw sp xa la lb) (@HAppend.hAppend va_W va_W va_W _ (rcV X nw an sv dv n0 n1 n2 n3 n4 g0 gs gn gm) (@HAppend.hAppend va_W va_W va_W _ (rnV (xa 8) ag dg) ([((xa 5), .inl (X.2.1, 3, .inl fr))])))) sz) (va_A (@HAppend.hAppend va_W va_W va_W _ (xW h0 nw sp xa la lb) (@HAppend.hAppend va_W va_W va_W _ (rcV X nw an sv dv n0 n1 n2 n3 n4 g0 gs gn gm) (@HAppend.hAppend va_W va_W va_W _ (rnV (xa 8) ag dg) ([((xa 5), .inl (X.2.1, 3, .inl fr))])))) sz) s (@HAppend.hAppend va_W va_W va_W _ (xW h0 nw sp xa la lb) (@HAppend.hAppend va_W va_W va_W _ (rcV X nw an sv dv n0 n1 n2 n3 n4 g0 gs gn gm) (@HAppend.hAppend va_W va_W va_W _ (rnV (xa 8) a64_2 d64_2) ([((xa 5), .inl (X.2.1, 3, .inl fr))])))) H locs → lv_has ls 9 [(7, .int (nI k64)), (6, .int x64_6), (5, .int x64_5), (4, .int x64_4), (0, .ref h0), (1, .int 1), (2, .int x2), (3, .int x3)] → Wx (F0 m 120 ls [.int x_21]) H locs) ?_ ?_
                · intro join_110
                  refine lv_if_ne (tgt := 118) zx zb dX10_turn_110 (by decide) (fun c_20 => ?_) (fun c_20 => ?_)
                  · refine lv_iload zx zb dX10_turn_118 (lv_at hl 2 rfl) ?_
                    exact join_110 x64_5 _ _ _  G hl
                  · refine lv_iload zx zb dX10_turn_113 (lv_at hl 3 rfl) ?_
                    refine lv_goto (tgt := 120) zx zb dX10_turn_115 (by decide) ?_
                    exact join_110 x64_4 _ _ _  G hl
                · intro x_21 H locs ls  G hl
                  exact e_int S zr zlk (vp_nar_int _) G (a64_2, d64_2, fr) [0, 1, 2, 3, 4, 5, 6, 7, 8, 9, 10, 11, 12, 13, 14, 15, 16, 17, 18] rfl rfl (Or.inr rfl) (trivial) dX10_turn_120
              · have fc_19 := j_nlt (a := 30) (b := k64) (by omega) (by omega) c_19
                refine lv_aload_n zx zb dX10_turn_71 rfl (lv_at hl 4 rfl) ?_
                refine lv_iload_n zx zb dX10_turn_72 rfl (lv_at hl 5 rfl) ?_
                refine lv_iload_n zx zb dX10_turn_73 rfl (lv_at hl 6 rfl) ?_
                refine lv_iload zx zb dX10_turn_74 (lv_at hl 0 rfl) ?_
                refine lv_iload zx zb dX10_turn_76 (lv_at hl 1 rfl) ?_
                refine b_wi (cells' := 0) (slots' := 0) (wr := [((xa 5), .inl (X.2.1, 3, .inl fr))]) G rfl rfl [0, 1, 2, 3, 4, 5, 6, 7, 8, 9, 10, 11, 12, 13, 14, 15, 16, 17] [18] rfl rfl rfl rfl (n_V (As := [.int 1, .int x2, .int (nI k64), .int x64_6]) (rest := []) (C := RX10) (T := TX10) (N := 14) (ci := 8) S G (s_homeTurning l X h0 nw sp xa la lb an sv dv n0 n1 n2 n3 n4 g0 gs gn gm a64_2 d64_2 1 x2 k64 x64_6 hI_n0 hI_n1 hI_n2 hI_n3 hI_n4 (by omega) (by omega) (by first | decide | assumption | exact k_60a (by assumption)) H.size) gX10_turn_X10_homeTurning rfl rfl rfl hdV_X10_homeTurning ⟨Nat.le_of_ble_eq_true rfl, Nat.le_of_ble_eq_true rfl⟩ [0, 1, 2, 3, 4, 5, 6, 7, 8, 9, 10, 11, 12, 13, 14, 15, 16, 17] rfl rfl 0 rfl rfl rfl hl.1 (Nat.le_of_ble_eq_true rfl) dX10_turn_78 ⟨Nat.le_of_ble_eq_true rfl, Nat.le_of_ble_eq_true rfl⟩) (fun r_22 u_22 H locs hp_22 G => ?_)
                obtain ⟨a_22a, d_22b⟩ := u_22
                have hq_22 := hp_22
                have G : wd X (va_A (@HAppend.hAppend va_W va_W va_W _ (xW h0 nw sp xa la lb) (@HAppend.hAppend va_W va_W va_W _ (rcV X nw an sv dv n0 n1 n2 n3 n4 g0 gs gn gm) (@HAppend.hAppend va_W va_W va_W _ (rnV (xa 8) ag dg) ([((xa 5), .inl (X.2.1, 3, .inl fr))])))) sz) (va_A (@HAppend.hAppend va_W va_W va_W _ (xW h0 nw sp xa la lb) (@HAppend.hAppend va_W va_W va_W _ (rcV X nw an sv dv n0 n1 n2 n3 n4 g0 gs gn gm) (@HAppend.hAppend va_W va_W va_W _ (rnV (xa 8) ag dg) ([((xa 5), .inl (X.2.1, 3, .inl fr))])))) sz) s (@HAppend.hAppend va_W va_W va_W _ ([((xa 5), .inl (X.2.1, 3, .inl fr))]) (@HAppend.hAppend va_W va_W va_W _ (xW h0 nw sp xa la lb) (@HAppend.hAppend va_W va_W va_W _ (rcV X nw an sv dv n0 n1 n2 n3 n4 g0 gs gn gm) (rnV (xa 8) a_22a d_22b)))) H locs := G
                refine lv_istore (lv' := [(8, .int r_22), (7, .int (nI k64)), (6, .int x64_6), (5, .int x64_5), (4, .int x64_4), (0, .ref h0), (1, .int 1), (2, .int x2), (3, .int x3)]) zx zb dX10_turn_81 hl (by decide) rfl (fun ls hl => ?_)
                refine lv_iload zx zb dX10_turn_83 (lv_at hl 0 rfl) ?_
                refine lv_iconst (v := (-1)) zx zb dX10_turn_85 (by decide) ?_
                refine k_cutW (PP := fun Wx => ∀ (x_24 : Int32) (x_25 : Int32) (x_26 : Int32) (H : Heap) (locs : List Loc) (ls : Array Slot), (x_24 ≤ 60) → wd X (va_A (@HAppend.hAppend va_W va_W va_W _ (xW h0 nw sp xa la lb) (@HAppend.hAppend va_W va_W va_W _ (rcV X nw an sv dv n0 n1 n2 n3 n4 g0 gs gn gm) (@HAppend.hAppend va_W va_W va_W _ (rnV (xa 8) ag dg) ([((xa 5), .inl (X.2.1, 3, .inl fr))])))) sz) (va_A (@HAppend.hAppend va_W va_W va_W _ (xW h0 nw sp xa la lb) (@HAppend.hAppend va_W va_W va_W _ (rcV X nw an sv dv n0 n1 n2 n3 n4 g0 gs gn gm) (@HAppend.hAppend va_W va_W va_W _ (rnV (xa 8) ag dg) ([((xa 5), .inl (X.2.1, 3, .inl fr))])))) sz) s (@HAppend.hAppend va_W va_W va_W _ ([((xa 5), .inl (X.2.1, 3, .inl fr))]) (@HAppend.hAppend va_W va_W va_W _ (xW h0 nw sp xa la lb) (@HAppend.hAppend va_W va_W va_W _ (rcV X nw an sv dv n0 n1 n2 n3 n4 g0 gs gn gm) (rnV (xa 8) a_22a d_22b)))) H locs → lv_has ls 9 [(8, .int r_22), (7, .int (nI k64)), (6, .int x_24), (5, .int x_25), (4, .int x_26), (0, .ref h0), (1, .int 1), (2, .int x2), (3, .int x3)] → Wx (F0 m 103 ls []) H locs) ?_ ?_
                · intro join_86
                  refine lv_icmp_eq (tgt := 103) zx zb dX10_turn_86 (by decide) (fun c_23 => ?_) (fun c_23 => ?_)
                  · exact join_86 x64_6 x64_5 x64_4 _ _ _ (by first | assumption | decide | exact k_m60 (by assumption)) G hl
                  · refine lv_iload zx zb dX10_turn_89 (lv_at hl 1 rfl) ?_
                    refine lv_istore (lv' := [(4, .int (nI k64)), (8, .int r_22), (7, .int (nI k64)), (6, .int x64_6), (5, .int x64_5), (0, .ref h0), (1, .int 1), (2, .int x2), (3, .int x3)]) zx zb dX10_turn_91 hl (by decide) rfl (fun ls hl => ?_)
                    refine lv_iload zx zb dX10_turn_93 (lv_at hl 1 rfl) ?_
                    refine lv_istore (lv' := [(5, .int r_22), (4, .int (nI k64)), (8, .int r_22), (7, .int (nI k64)), (6, .int x64_6), (0, .ref h0), (1, .int 1), (2, .int x2), (3, .int x3)]) zx zb dX10_turn_95 hl (by decide) rfl (fun ls hl => ?_)
                    refine lv_iload zx zb dX10_turn_97 (lv_at hl 2 rfl) ?_
                    refine lv_iconst (v := 1) zx zb dX10_turn_99 (by decide) ?_
                    refine r_isub (v := (r_22 - 1)) S rfl dX10_turn_100 ?_
                    refine lv_istore (lv' := [(6, .int (r_22 - 1)), (5, .int r_22), (4, .int (nI k64)), (8, .int r_22), (7, .int (nI k64)), (0, .ref h0), (1, .int 1), (2, .int x2), (3, .int x3)]) zx zb dX10_turn_101 hl (by decide) rfl (fun ls hl => ?_)
                    have hl := lv_sub hl (l' := [(8, .int r_22), (7, .int (nI k64)), (6, .int (r_22 - 1)), (5, .int r_22), (4, .int (nI k64)), (0, .ref h0), (1, .int 1), (2, .int x2), (3, .int x3)]) [3, 4, 0, 1, 2, 5, 6, 7, 8] rfl
                    exact join_86 (r_22 - 1) r_22 (nI k64) _ _ _ (by first | assumption | decide | exact k_m60 (by assumption)) G hl
                · intro x_24 x_25 x_26 H locs ls hk_x_24 G hl
                  refine lv_iinc (v := (nI (k64 + 1))) (lv' := [(7, .int (nI (k64 + 1))), (8, .int r_22), (6, .int x_24), (5, .int x_25), (4, .int x_26), (0, .ref h0), (1, .int 1), (2, .int x2), (3, .int x3)]) zx zb dX10_turn_103 hl (k := 1) rfl (nI_add k64 1) (by decide) rfl (fun ls hl => ?_)
                  refine lv_goto (tgt := 64) zx zb dX10_turn_106 (by decide) ?_
                  have G : wd X (va_A (@HAppend.hAppend va_W va_W va_W _ (xW h0 nw sp xa la lb) (@HAppend.hAppend va_W va_W va_W _ (rcV X nw an sv dv n0 n1 n2 n3 n4 g0 gs gn gm) (@HAppend.hAppend va_W va_W va_W _ (rnV (xa 8) ag dg) ([((xa 5), .inl (X.2.1, 3, .inl fr))])))) sz) (va_A (@HAppend.hAppend va_W va_W va_W _ (xW h0 nw sp xa la lb) (@HAppend.hAppend va_W va_W va_W _ (rcV X nw an sv dv n0 n1 n2 n3 n4 g0 gs gn gm) (@HAppend.hAppend va_W va_W va_W _ (rnV (xa 8) ag dg) ([((xa 5), .inl (X.2.1, 3, .inl fr))])))) sz) s (@HAppend.hAppend va_W va_W va_W _ (xW h0 nw sp xa la lb) (@HAppend.hAppend va_W va_W va_W _ (rcV X nw an sv dv n0 n1 n2 n3 n4 g0 gs gn gm) (@HAppend.hAppend va_W va_W va_W _ (rnV (xa 8) a_22a d_22b) ([((xa 5), .inl (X.2.1, 3, .inl fr))])))) H locs := wd_sub G [1, 2, 3, 4, 5, 6, 7, 8, 9, 10, 11, 12, 13, 14, 15, 16, 17, 18, 0] rfl rfl
                  have hl := lv_sub hl (l' := [(7, .int (nI (k64 + 1))), (6, .int x_24), (5, .int x_25), (4, .int x_26), (0, .ref h0), (1, .int 1), (2, .int x2), (3, .int x3)]) [0, 2, 3, 4, 5, 6, 7, 8] rfl
                  exact ih64 (k64 + 1) x_24 x_25 x_26 a_22a d_22b _ _ _ (by omega) (by omega) (by first | assumption | decide | exact k_m60 (by assumption)) G hl
          · refine lv_iconst (v := (-1)) zx zb dX10_turn_49 (by decide) ?_
            exact e_int S zr zlk (vp_nar_int _) G (ag, dg, fr) [0, 1, 2, 3, 4, 5, 6, 7, 8, 9, 10, 11, 12, 13, 14, 15, 16, 17, 18] rfl rfl (Or.inr rfl) (trivial) dX10_turn_50
        · refine k_it (v := 2) rfl ?_
          refine r_aald (C := RX8) (b := (an 3)) S G 2 3 rfl rfl (k_vp (by decide)) rfl dX10_turn_42 ?_
          refine o_ri (cells' := 0) (slots' := 0) G rfl rfl (n_V (As := []) (rest := []) (C := RX8) (T := TX8) (N := 8) (ci := 6) S G (s_isHome l X (an 3) (fun k => sv (6 + k)) (fun k => dv (20 + k)) H.size) gX10_turn_X8_isHome rfl rfl rfl hdV_X8_isHome ⟨Nat.le_of_ble_eq_true rfl, Nat.le_of_ble_eq_true rfl⟩ [5] rfl rfl 5 rfl rfl rfl hl.1 (Nat.le_of_ble_eq_true rfl) dX10_turn_43 ⟨Nat.le_of_ble_eq_true rfl, Nat.le_of_ble_eq_true rfl⟩) (fun r_27 u_27 H locs hp_27 G => ?_)
          have G : wd X (va_A (@HAppend.hAppend va_W va_W va_W _ (xW h0 nw sp xa la lb) (@HAppend.hAppend va_W va_W va_W _ (rcV X nw an sv dv n0 n1 n2 n3 n4 g0 gs gn gm) (@HAppend.hAppend va_W va_W va_W _ (rnV (xa 8) ag dg) ([((xa 5), .inl (X.2.1, 3, .inl fr))])))) sz) (va_A (@HAppend.hAppend va_W va_W va_W _ (xW h0 nw sp xa la lb) (@HAppend.hAppend va_W va_W va_W _ (rcV X nw an sv dv n0 n1 n2 n3 n4 g0 gs gn gm) (@HAppend.hAppend va_W va_W va_W _ (rnV (xa 8) ag dg) ([((xa 5), .inl (X.2.1, 3, .inl fr))])))) sz) s (@HAppend.hAppend va_W va_W va_W _ (xW h0 nw sp xa la lb) (@HAppend.hAppend va_W va_W va_W _ (rcV X nw an sv dv n0 n1 n2 n3 n4 g0 gs gn gm) (@HAppend.hAppend va_W va_W va_W _ (rnV (xa 8) ag dg) ([((xa 5), .inl (X.2.1, 3, .inl fr))])))) H locs := G
          refine lv_if_eq (tgt := 51) zx zb dX10_turn_46 (by decide) (fun c_28 => ?_) (fun c_28 => ?_)
          · refine lv_iconst (v := (-1)) zx zb dX10_turn_51 (by decide) ?_
            refine lv_istore (lv' := [(4, .int (-1)), (0, .ref h0), (1, .int 2), (2, .int x2), (3, .int x3)]) zx zb dX10_turn_52 hl (by decide) rfl (fun ls hl => ?_)
            refine lv_iconst (v := (-1)) zx zb dX10_turn_54 (by decide) ?_
            refine lv_istore (lv' := [(5, .int (-1)), (4, .int (-1)), (0, .ref h0), (1, .int 2), (2, .int x2), (3, .int x3)]) zx zb dX10_turn_55 hl (by decide) rfl (fun ls hl => ?_)
            refine lv_bipush (v := 60) zx zb dX10_turn_57 (by decide) ?_
            refine lv_istore (lv' := [(6, .int 60), (5, .int (-1)), (4, .int (-1)), (0, .ref h0), (1, .int 2), (2, .int x2), (3, .int x3)]) zx zb dX10_turn_59 hl (by decide) rfl (fun ls hl => ?_)
            refine lv_iconst (v := 0) zx zb dX10_turn_61 (by decide) ?_
            refine lv_istore (lv' := [(7, .int 0), (6, .int 60), (5, .int (-1)), (4, .int (-1)), (0, .ref h0), (1, .int 2), (2, .int x2), (3, .int x3)]) zx zb dX10_turn_62 hl (by decide) rfl (fun ls hl => ?_)
            refine k_loop (P := ∀ (zm : Nat) (k64 : Nat) (x64_6 : Int32) (x64_5 : Int32) (x64_4 : Int32) (a64_2 : Nat → Int32) (d64_2 : Nat → Int32) (H : Heap) (locs : List Loc) (ls : Array Slot), 31 + 1 ≤ k64 + zm → (k64 ≤ 31) → (x64_6 ≤ 60) → wd X (va_A (@HAppend.hAppend va_W va_W va_W _ (xW h0 nw sp xa la lb) (@HAppend.hAppend va_W va_W va_W _ (rcV X nw an sv dv n0 n1 n2 n3 n4 g0 gs gn gm) (@HAppend.hAppend va_W va_W va_W _ (rnV (xa 8) ag dg) ([((xa 5), .inl (X.2.1, 3, .inl fr))])))) sz) (va_A (@HAppend.hAppend va_W va_W va_W _ (xW h0 nw sp xa la lb) (@HAppend.hAppend va_W va_W va_W _ (rcV X nw an sv dv n0 n1 n2 n3 n4 g0 gs gn gm) (@HAppend.hAppend va_W va_W va_W _ (rnV (xa 8) ag dg) ([((xa 5), .inl (X.2.1, 3, .inl fr))])))) sz) s (@HAppend.hAppend va_W va_W va_W _ (xW h0 nw sp xa la lb) (@HAppend.hAppend va_W va_W va_W _ (rcV X nw an sv dv n0 n1 n2 n3 n4 g0 gs gn gm) (@HAppend.hAppend va_W va_W va_W _ (rnV (xa 8) a64_2 d64_2) ([((xa 5), .inl (X.2.1, 3, .inl fr))])))) H locs → lv_has ls 9 [(7, .int (nI k64)), (6, .int x64_6), (5, .int x64_5), (4, .int x64_4), (0, .ref h0), (1, .int 2), (2, .int x2), (3, .int x3)] → W p l e _ s m _ below meth c H locs _ _ _ (F0 m 64 ls [])) (fun loop => loop (31 + 1) 0 60 (-1) (-1) ag dg _ _ _ (by omega) (by omega) (by first | assumption | decide | exact k_m60 (by assumption)) G hl) ?_
            intro zm
            induction zm with
            | zero => intro k64 x64_6 x64_5 x64_4 a64_2 d64_2 H locs ls zz q_hk_k64 q_hk_x64_6 _ _; exact absurd zz (by omega)
            | succ zm ih64 =>
              intro k64 x64_6 x64_5 x64_4 a64_2 d64_2 H locs ls zm_64 hk_k64 hk_x64_6 G hl
              refine lv_iload zx zb dX10_turn_64 (lv_at hl 0 rfl) ?_
              refine lv_bipush (v := 30) zx zb dX10_turn_66 (by decide) ?_
              refine lv_icmp_gt (tgt := 109) zx zb dX10_turn_68 (by decide) (fun c_29 => ?_) (fun c_29 => ?_)
              · have fc_29 := j_lt (a := 30) (b := k64) (by omega) (by omega) c_29
                refine lv_iload_n zx zb dX10_turn_109 rfl (lv_at hl 7 rfl) ?_
                refine k_cutW (PP := fun Wx => ∀ (x_31 : Int32) (H : Heap) (locs : List Loc) (ls : Array Slot), wd X (va_A (@HAppend.hAppend va_W va_W va_W _ (xW h0 nw sp xa la lb) (@HAppend.hAppend va_W va_W va_W _ (rcV X nw an sv dv n0 n1 n2 n3 n4 g0 gs gn gm) (@HAppend.hAppend va_W va_W va_W _ (rnV (xa 8) ag dg) ([((xa 5), .inl (X.2.1, 3, .inl fr))])))) sz) (va_A (@HAppend.hAppend va_W va_W va_W _ (xW h0 nw sp xa la lb) (@HAppend.hAppend va_W va_W va_W _ (rcV X nw an sv dv n0 n1 n2 n3 n4 g0 gs gn gm) (@HAppend.hAppend va_W va_W va_W _ (rnV (xa 8) ag dg) ([((xa 5), .inl (X.2.1, 3, .inl fr))])))) sz) s (@HAppend.hAppend va_W va_W va_W _ (xW h0 nw sp xa la lb) (@HAppend.hAppend va_W va_W va_W _ (rcV X nw an sv dv n0 n1 n2 n3 n4 g0 gs gn gm) (@HAppend.hAppend va_W va_W va_W _ (rnV (xa 8) a64_2 d64_2) ([((xa 5), .inl (X.2.1, 3, .inl fr))])))) H locs → lv_has ls 9 [(7, .int (nI k64)), (6, .int x64_6), (5, .int x64_5), (4, .int x64_4), (0, .ref h0), (1, .int 2), (2, .int x2), (3, .int x3)] → Wx (F0 m 120 ls [.int x_31]) H locs) ?_ ?_
                · intro join_110
                  refine lv_if_ne (tgt := 118) zx zb dX10_turn_110 (by decide) (fun c_30 => ?_) (fun c_30 => ?_)
                  · refine lv_iload zx zb dX10_turn_118 (lv_at hl 2 rfl) ?_
                    exact join_110 x64_5 _ _ _  G hl
                  · refine lv_iload zx zb dX10_turn_113 (lv_at hl 3 rfl) ?_
                    refine lv_goto (tgt := 120) zx zb dX10_turn_115 (by decide) ?_
                    exact join_110 x64_4 _ _ _  G hl
                · intro x_31 H locs ls  G hl
                  exact e_int S zr zlk (vp_nar_int _) G (a64_2, d64_2, fr) [0, 1, 2, 3, 4, 5, 6, 7, 8, 9, 10, 11, 12, 13, 14, 15, 16, 17, 18] rfl rfl (Or.inr rfl) (trivial) dX10_turn_120
              · have fc_29 := j_nlt (a := 30) (b := k64) (by omega) (by omega) c_29
                refine lv_aload_n zx zb dX10_turn_71 rfl (lv_at hl 4 rfl) ?_
                refine lv_iload_n zx zb dX10_turn_72 rfl (lv_at hl 5 rfl) ?_
                refine lv_iload_n zx zb dX10_turn_73 rfl (lv_at hl 6 rfl) ?_
                refine lv_iload zx zb dX10_turn_74 (lv_at hl 0 rfl) ?_
                refine lv_iload zx zb dX10_turn_76 (lv_at hl 1 rfl) ?_
                refine b_wi (cells' := 0) (slots' := 0) (wr := [((xa 5), .inl (X.2.1, 3, .inl fr))]) G rfl rfl [0, 1, 2, 3, 4, 5, 6, 7, 8, 9, 10, 11, 12, 13, 14, 15, 16, 17] [18] rfl rfl rfl rfl (n_V (As := [.int 2, .int x2, .int (nI k64), .int x64_6]) (rest := []) (C := RX10) (T := TX10) (N := 14) (ci := 8) S G (s_homeTurning l X h0 nw sp xa la lb an sv dv n0 n1 n2 n3 n4 g0 gs gn gm a64_2 d64_2 2 x2 k64 x64_6 hI_n0 hI_n1 hI_n2 hI_n3 hI_n4 (by omega) (by omega) (by first | decide | assumption | exact k_60a (by assumption)) H.size) gX10_turn_X10_homeTurning rfl rfl rfl hdV_X10_homeTurning ⟨Nat.le_of_ble_eq_true rfl, Nat.le_of_ble_eq_true rfl⟩ [0, 1, 2, 3, 4, 5, 6, 7, 8, 9, 10, 11, 12, 13, 14, 15, 16, 17] rfl rfl 0 rfl rfl rfl hl.1 (Nat.le_of_ble_eq_true rfl) dX10_turn_78 ⟨Nat.le_of_ble_eq_true rfl, Nat.le_of_ble_eq_true rfl⟩) (fun r_32 u_32 H locs hp_32 G => ?_)
                obtain ⟨a_32a, d_32b⟩ := u_32
                have hq_32 := hp_32
                have G : wd X (va_A (@HAppend.hAppend va_W va_W va_W _ (xW h0 nw sp xa la lb) (@HAppend.hAppend va_W va_W va_W _ (rcV X nw an sv dv n0 n1 n2 n3 n4 g0 gs gn gm) (@HAppend.hAppend va_W va_W va_W _ (rnV (xa 8) ag dg) ([((xa 5), .inl (X.2.1, 3, .inl fr))])))) sz) (va_A (@HAppend.hAppend va_W va_W va_W _ (xW h0 nw sp xa la lb) (@HAppend.hAppend va_W va_W va_W _ (rcV X nw an sv dv n0 n1 n2 n3 n4 g0 gs gn gm) (@HAppend.hAppend va_W va_W va_W _ (rnV (xa 8) ag dg) ([((xa 5), .inl (X.2.1, 3, .inl fr))])))) sz) s (@HAppend.hAppend va_W va_W va_W _ ([((xa 5), .inl (X.2.1, 3, .inl fr))]) (@HAppend.hAppend va_W va_W va_W _ (xW h0 nw sp xa la lb) (@HAppend.hAppend va_W va_W va_W _ (rcV X nw an sv dv n0 n1 n2 n3 n4 g0 gs gn gm) (rnV (xa 8) a_32a d_32b)))) H locs := G
                refine lv_istore (lv' := [(8, .int r_32), (7, .int (nI k64)), (6, .int x64_6), (5, .int x64_5), (4, .int x64_4), (0, .ref h0), (1, .int 2), (2, .int x2), (3, .int x3)]) zx zb dX10_turn_81 hl (by decide) rfl (fun ls hl => ?_)
                refine lv_iload zx zb dX10_turn_83 (lv_at hl 0 rfl) ?_
                refine lv_iconst (v := (-1)) zx zb dX10_turn_85 (by decide) ?_
                refine k_cutW (PP := fun Wx => ∀ (x_34 : Int32) (x_35 : Int32) (x_36 : Int32) (H : Heap) (locs : List Loc) (ls : Array Slot), (x_34 ≤ 60) → wd X (va_A (@HAppend.hAppend va_W va_W va_W _ (xW h0 nw sp xa la lb) (@HAppend.hAppend va_W va_W va_W _ (rcV X nw an sv dv n0 n1 n2 n3 n4 g0 gs gn gm) (@HAppend.hAppend va_W va_W va_W _ (rnV (xa 8) ag dg) ([((xa 5), .inl (X.2.1, 3, .inl fr))])))) sz) (va_A (@HAppend.hAppend va_W va_W va_W _ (xW h0 nw sp xa la lb) (@HAppend.hAppend va_W va_W va_W _ (rcV X nw an sv dv n0 n1 n2 n3 n4 g0 gs gn gm) (@HAppend.hAppend va_W va_W va_W _ (rnV (xa 8) ag dg) ([((xa 5), .inl (X.2.1, 3, .inl fr))])))) sz) s (@HAppend.hAppend va_W va_W va_W _ ([((xa 5), .inl (X.2.1, 3, .inl fr))]) (@HAppend.hAppend va_W va_W va_W _ (xW h0 nw sp xa la lb) (@HAppend.hAppend va_W va_W va_W _ (rcV X nw an sv dv n0 n1 n2 n3 n4 g0 gs gn gm) (rnV (xa 8) a_32a d_32b)))) H locs → lv_has ls 9 [(8, .int r_32), (7, .int (nI k64)), (6, .int x_34), (5, .int x_35), (4, .int x_36), (0, .ref h0), (1, .int 2), (2, .int x2), (3, .int x3)] → Wx (F0 m 103 ls []) H locs) ?_ ?_
                · intro join_86
                  refine lv_icmp_eq (tgt := 103) zx zb dX10_turn_86 (by decide) (fun c_33 => ?_) (fun c_33 => ?_)
                  · exact join_86 x64_6 x64_5 x64_4 _ _ _ (by first | assumption | decide | exact k_m60 (by assumption)) G hl
                  · refine lv_iload zx zb dX10_turn_89 (lv_at hl 1 rfl) ?_
                    refine lv_istore (lv' := [(4, .int (nI k64)), (8, .int r_32), (7, .int (nI k64)), (6, .int x64_6), (5, .int x64_5), (0, .ref h0), (1, .int 2), (2, .int x2), (3, .int x3)]) zx zb dX10_turn_91 hl (by decide) rfl (fun ls hl => ?_)
                    refine lv_iload zx zb dX10_turn_93 (lv_at hl 1 rfl) ?_
                    refine lv_istore (lv' := [(5, .int r_32), (4, .int (nI k64)), (8, .int r_32), (7, .int (nI k64)), (6, .int x64_6), (0, .ref h0), (1, .int 2), (2, .int x2), (3, .int x3)]) zx zb dX10_turn_95 hl (by decide) rfl (fun ls hl => ?_)
                    refine lv_iload zx zb dX10_turn_97 (lv_at hl 2 rfl) ?_
                    refine lv_iconst (v := 1) zx zb dX10_turn_99 (by decide) ?_
                    refine r_isub (v := (r_32 - 1)) S rfl dX10_turn_100 ?_
                    refine lv_istore (lv' := [(6, .int (r_32 - 1)), (5, .int r_32), (4, .int (nI k64)), (8, .int r_32), (7, .int (nI k64)), (0, .ref h0), (1, .int 2), (2, .int x2), (3, .int x3)]) zx zb dX10_turn_101 hl (by decide) rfl (fun ls hl => ?_)
                    have hl := lv_sub hl (l' := [(8, .int r_32), (7, .int (nI k64)), (6, .int (r_32 - 1)), (5, .int r_32), (4, .int (nI k64)), (0, .ref h0), (1, .int 2), (2, .int x2), (3, .int x3)]) [3, 4, 0, 1, 2, 5, 6, 7, 8] rfl
                    exact join_86 (r_32 - 1) r_32 (nI k64) _ _ _ (by first | assumption | decide | exact k_m60 (by assumption)) G hl
                · intro x_34 x_35 x_36 H locs ls hk_x_34 G hl
                  refine lv_iinc (v := (nI (k64 + 1))) (lv' := [(7, .int (nI (k64 + 1))), (8, .int r_32), (6, .int x_34), (5, .int x_35), (4, .int x_36), (0, .ref h0), (1, .int 2), (2, .int x2), (3, .int x3)]) zx zb dX10_turn_103 hl (k := 1) rfl (nI_add k64 1) (by decide) rfl (fun ls hl => ?_)
                  refine lv_goto (tgt := 64) zx zb dX10_turn_106 (by decide) ?_
                  have G : wd X (va_A (@HAppend.hAppend va_W va_W va_W _ (xW h0 nw sp xa la lb) (@HAppend.hAppend va_W va_W va_W _ (rcV X nw an sv dv n0 n1 n2 n3 n4 g0 gs gn gm) (@HAppend.hAppend va_W va_W va_W _ (rnV (xa 8) ag dg) ([((xa 5), .inl (X.2.1, 3, .inl fr))])))) sz) (va_A (@HAppend.hAppend va_W va_W va_W _ (xW h0 nw sp xa la lb) (@HAppend.hAppend va_W va_W va_W _ (rcV X nw an sv dv n0 n1 n2 n3 n4 g0 gs gn gm) (@HAppend.hAppend va_W va_W va_W _ (rnV (xa 8) ag dg) ([((xa 5), .inl (X.2.1, 3, .inl fr))])))) sz) s (@HAppend.hAppend va_W va_W va_W _ (xW h0 nw sp xa la lb) (@HAppend.hAppend va_W va_W va_W _ (rcV X nw an sv dv n0 n1 n2 n3 n4 g0 gs gn gm) (@HAppend.hAppend va_W va_W va_W _ (rnV (xa 8) a_32a d_32b) ([((xa 5), .inl (X.2.1, 3, .inl fr))])))) H locs := wd_sub G [1, 2, 3, 4, 5, 6, 7, 8, 9, 10, 11, 12, 13, 14, 15, 16, 17, 18, 0] rfl rfl
                  have hl := lv_sub hl (l' := [(7, .int (nI (k64 + 1))), (6, .int x_34), (5, .int x_35), (4, .int x_36), (0, .ref h0), (1, .int 2), (2, .int x2), (3, .int x3)]) [0, 2, 3, 4, 5, 6, 7, 8] rfl
                  exact ih64 (k64 + 1) x_34 x_35 x_36 a_32a d_32b _ _ _ (by omega) (by omega) (by first | assumption | decide | exact k_m60 (by assumption)) G hl
          · refine lv_iconst (v := (-1)) zx zb dX10_turn_49 (by decide) ?_
            exact e_int S zr zlk (vp_nar_int _) G (ag, dg, fr) [0, 1, 2, 3, 4, 5, 6, 7, 8, 9, 10, 11, 12, 13, 14, 15, 16, 17, 18] rfl rfl (Or.inr rfl) (trivial) dX10_turn_50
        · refine k_it (v := 3) rfl ?_
          refine r_aald (C := RX8) (b := (an 4)) S G 2 3 rfl rfl (k_vp (by decide)) rfl dX10_turn_42 ?_
          refine o_ri (cells' := 0) (slots' := 0) G rfl rfl (n_V (As := []) (rest := []) (C := RX8) (T := TX8) (N := 8) (ci := 6) S G (s_isHome l X (an 4) (fun k => sv (9 + k)) (fun k => dv (25 + k)) H.size) gX10_turn_X8_isHome rfl rfl rfl hdV_X8_isHome ⟨Nat.le_of_ble_eq_true rfl, Nat.le_of_ble_eq_true rfl⟩ [6] rfl rfl 6 rfl rfl rfl hl.1 (Nat.le_of_ble_eq_true rfl) dX10_turn_43 ⟨Nat.le_of_ble_eq_true rfl, Nat.le_of_ble_eq_true rfl⟩) (fun r_37 u_37 H locs hp_37 G => ?_)
          have G : wd X (va_A (@HAppend.hAppend va_W va_W va_W _ (xW h0 nw sp xa la lb) (@HAppend.hAppend va_W va_W va_W _ (rcV X nw an sv dv n0 n1 n2 n3 n4 g0 gs gn gm) (@HAppend.hAppend va_W va_W va_W _ (rnV (xa 8) ag dg) ([((xa 5), .inl (X.2.1, 3, .inl fr))])))) sz) (va_A (@HAppend.hAppend va_W va_W va_W _ (xW h0 nw sp xa la lb) (@HAppend.hAppend va_W va_W va_W _ (rcV X nw an sv dv n0 n1 n2 n3 n4 g0 gs gn gm) (@HAppend.hAppend va_W va_W va_W _ (rnV (xa 8) ag dg) ([((xa 5), .inl (X.2.1, 3, .inl fr))])))) sz) s (@HAppend.hAppend va_W va_W va_W _ (xW h0 nw sp xa la lb) (@HAppend.hAppend va_W va_W va_W _ (rcV X nw an sv dv n0 n1 n2 n3 n4 g0 gs gn gm) (@HAppend.hAppend va_W va_W va_W _ (rnV (xa 8) ag dg) ([((xa 5), .inl (X.2.1, 3, .inl fr))])))) H locs := G
          refine lv_if_eq (tgt := 51) zx zb dX10_turn_46 (by decide) (fun c_38 => ?_) (fun c_38 => ?_)
          · refine lv_iconst (v := (-1)) zx zb dX10_turn_51 (by decide) ?_
            refine lv_istore (lv' := [(4, .int (-1)), (0, .ref h0), (1, .int 3), (2, .int x2), (3, .int x3)]) zx zb dX10_turn_52 hl (by decide) rfl (fun ls hl => ?_)
            refine lv_iconst (v := (-1)) zx zb dX10_turn_54 (by decide) ?_
            refine lv_istore (lv' := [(5, .int (-1)), (4, .int (-1)), (0, .ref h0), (1, .int 3), (2, .int x2), (3, .int x3)]) zx zb dX10_turn_55 hl (by decide) rfl (fun ls hl => ?_)
            refine lv_bipush (v := 60) zx zb dX10_turn_57 (by decide) ?_
            refine lv_istore (lv' := [(6, .int 60), (5, .int (-1)), (4, .int (-1)), (0, .ref h0), (1, .int 3), (2, .int x2), (3, .int x3)]) zx zb dX10_turn_59 hl (by decide) rfl (fun ls hl => ?_)
            refine lv_iconst (v := 0) zx zb dX10_turn_61 (by decide) ?_
            refine lv_istore (lv' := [(7, .int 0), (6, .int 60), (5, .int (-1)), (4, .int (-1)), (0, .ref h0), (1, .int 3), (2, .int x2), (3, .int x3)]) zx zb dX10_turn_62 hl (by decide) rfl (fun ls hl => ?_)
            refine k_loop (P := ∀ (zm : Nat) (k64 : Nat) (x64_6 : Int32) (x64_5 : Int32) (x64_4 : Int32) (a64_2 : Nat → Int32) (d64_2 : Nat → Int32) (H : Heap) (locs : List Loc) (ls : Array Slot), 31 + 1 ≤ k64 + zm → (k64 ≤ 31) → (x64_6 ≤ 60) → wd X (va_A (@HAppend.hAppend va_W va_W va_W _ (xW h0 nw sp xa la lb) (@HAppend.hAppend va_W va_W va_W _ (rcV X nw an sv dv n0 n1 n2 n3 n4 g0 gs gn gm) (@HAppend.hAppend va_W va_W va_W _ (rnV (xa 8) ag dg) ([((xa 5), .inl (X.2.1, 3, .inl fr))])))) sz) (va_A (@HAppend.hAppend va_W va_W va_W _ (xW h0 nw sp xa la lb) (@HAppend.hAppend va_W va_W va_W _ (rcV X nw an sv dv n0 n1 n2 n3 n4 g0 gs gn gm) (@HAppend.hAppend va_W va_W va_W _ (rnV (xa 8) ag dg) ([((xa 5), .inl (X.2.1, 3, .inl fr))])))) sz) s (@HAppend.hAppend va_W va_W va_W _ (xW h0 nw sp xa la lb) (@HAppend.hAppend va_W va_W va_W _ (rcV X nw an sv dv n0 n1 n2 n3 n4 g0 gs gn gm) (@HAppend.hAppend va_W va_W va_W _ (rnV (xa 8) a64_2 d64_2) ([((xa 5), .inl (X.2.1, 3, .inl fr))])))) H locs → lv_has ls 9 [(7, .int (nI k64)), (6, .int x64_6), (5, .int x64_5), (4, .int x64_4), (0, .ref h0), (1, .int 3), (2, .int x2), (3, .int x3)] → W p l e _ s m _ below meth c H locs _ _ _ (F0 m 64 ls [])) (fun loop => loop (31 + 1) 0 60 (-1) (-1) ag dg _ _ _ (by omega) (by omega) (by first | assumption | decide | exact k_m60 (by assumption)) G hl) ?_
            intro zm
            induction zm with
            | zero => intro k64 x64_6 x64_5 x64_4 a64_2 d64_2 H locs ls zz q_hk_k64 q_hk_x64_6 _ _; exact absurd zz (by omega)
            | succ zm ih64 =>
              intro k64 x64_6 x64_5 x64_4 a64_2 d64_2 H locs ls zm_64 hk_k64 hk_x64_6 G hl
              refine lv_iload zx zb dX10_turn_64 (lv_at hl 0 rfl) ?_
              refine lv_bipush (v := 30) zx zb dX10_turn_66 (by decide) ?_
              refine lv_icmp_gt (tgt := 109) zx zb dX10_turn_68 (by decide) (fun c_39 => ?_) (fun c_39 => ?_)
              · have fc_39 := j_lt (a := 30) (b := k64) (by omega) (by omega) c_39
                refine lv_iload_n zx zb dX10_turn_109 rfl (lv_at hl 7 rfl) ?_
                refine k_cutW (PP := fun Wx => ∀ (x_41 : Int32) (H : Heap) (locs : List Loc) (ls : Array Slot), wd X (va_A (@HAppend.hAppend va_W va_W va_W _ (xW h0 nw sp xa la lb) (@HAppend.hAppend va_W va_W va_W _ (rcV X nw an sv dv n0 n1 n2 n3 n4 g0 gs gn gm) (@HAppend.hAppend va_W va_W va_W _ (rnV (xa 8) ag dg) ([((xa 5), .inl (X.2.1, 3, .inl fr))])))) sz) (va_A (@HAppend.hAppend va_W va_W va_W _ (xW h0 nw sp xa la lb) (@HAppend.hAppend va_W va_W va_W _ (rcV X nw an sv dv n0 n1 n2 n3 n4 g0 gs gn gm) (@HAppend.hAppend va_W va_W va_W _ (rnV (xa 8) ag dg) ([((xa 5), .inl (X.2.1, 3, .inl fr))])))) sz) s (@HAppend.hAppend va_W va_W va_W _ (xW h0 nw sp xa la lb) (@HAppend.hAppend va_W va_W va_W _ (rcV X nw an sv dv n0 n1 n2 n3 n4 g0 gs gn gm) (@HAppend.hAppend va_W va_W va_W _ (rnV (xa 8) a64_2 d64_2) ([((xa 5), .inl (X.2.1, 3, .inl fr))])))) H locs → lv_has ls 9 [(7, .int (nI k64)), (6, .int x64_6), (5, .int x64_5), (4, .int x64_4), (0, .ref h0), (1, .int 3), (2, .int x2), (3, .int x3)] → Wx (F0 m 120 ls [.int x_41]) H locs) ?_ ?_
                · intro join_110
                  refine lv_if_ne (tgt := 118) zx zb dX10_turn_110 (by decide) (fun c_40 => ?_) (fun c_40 => ?_)
                  · refine lv_iload zx zb dX10_turn_118 (lv_at hl 2 rfl) ?_
                    exact join_110 x64_5 _ _ _  G hl
                  · refine lv_iload zx zb dX10_turn_113 (lv_at hl 3 rfl) ?_
                    refine lv_goto (tgt := 120) zx zb dX10_turn_115 (by decide) ?_
                    exact join_110 x64_4 _ _ _  G hl
                · intro x_41 H locs ls  G hl
                  exact e_int S zr zlk (vp_nar_int _) G (a64_2, d64_2, fr) [0, 1, 2, 3, 4, 5, 6, 7, 8, 9, 10, 11, 12, 13, 14, 15, 16, 17, 18] rfl rfl (Or.inr rfl) (trivial) dX10_turn_120
              · have fc_39 := j_nlt (a := 30) (b := k64) (by omega) (by omega) c_39
                refine lv_aload_n zx zb dX10_turn_71 rfl (lv_at hl 4 rfl) ?_
                refine lv_iload_n zx zb dX10_turn_72 rfl (lv_at hl 5 rfl) ?_
                refine lv_iload_n zx zb dX10_turn_73 rfl (lv_at hl 6 rfl) ?_
                refine lv_iload zx zb dX10_turn_74 (lv_at hl 0 rfl) ?_
                refine lv_iload zx zb dX10_turn_76 (lv_at hl 1 rfl) ?_
                refine b_wi (cells' := 0) (slots' := 0) (wr := [((xa 5), .inl (X.2.1, 3, .inl fr))]) G rfl rfl [0, 1, 2, 3, 4, 5, 6, 7, 8, 9, 10, 11, 12, 13, 14, 15, 16, 17] [18] rfl rfl rfl rfl (n_V (As := [.int 3, .int x2, .int (nI k64), .int x64_6]) (rest := []) (C := RX10) (T := TX10) (N := 14) (ci := 8) S G (s_homeTurning l X h0 nw sp xa la lb an sv dv n0 n1 n2 n3 n4 g0 gs gn gm a64_2 d64_2 3 x2 k64 x64_6 hI_n0 hI_n1 hI_n2 hI_n3 hI_n4 (by omega) (by omega) (by first | decide | assumption | exact k_60a (by assumption)) H.size) gX10_turn_X10_homeTurning rfl rfl rfl hdV_X10_homeTurning ⟨Nat.le_of_ble_eq_true rfl, Nat.le_of_ble_eq_true rfl⟩ [0, 1, 2, 3, 4, 5, 6, 7, 8, 9, 10, 11, 12, 13, 14, 15, 16, 17] rfl rfl 0 rfl rfl rfl hl.1 (Nat.le_of_ble_eq_true rfl) dX10_turn_78 ⟨Nat.le_of_ble_eq_true rfl, Nat.le_of_ble_eq_true rfl⟩) (fun r_42 u_42 H locs hp_42 G => ?_)
                obtain ⟨a_42a, d_42b⟩ := u_42
                have hq_42 := hp_42
                have G : wd X (va_A (@HAppend.hAppend va_W va_W va_W _ (xW h0 nw sp xa la lb) (@HAppend.hAppend va_W va_W va_W _ (rcV X nw an sv dv n0 n1 n2 n3 n4 g0 gs gn gm) (@HAppend.hAppend va_W va_W va_W _ (rnV (xa 8) ag dg) ([((xa 5), .inl (X.2.1, 3, .inl fr))])))) sz) (va_A (@HAppend.hAppend va_W va_W va_W _ (xW h0 nw sp xa la lb) (@HAppend.hAppend va_W va_W va_W _ (rcV X nw an sv dv n0 n1 n2 n3 n4 g0 gs gn gm) (@HAppend.hAppend va_W va_W va_W _ (rnV (xa 8) ag dg) ([((xa 5), .inl (X.2.1, 3, .inl fr))])))) sz) s (@HAppend.hAppend va_W va_W va_W _ ([((xa 5), .inl (X.2.1, 3, .inl fr))]) (@HAppend.hAppend va_W va_W va_W _ (xW h0 nw sp xa la lb) (@HAppend.hAppend va_W va_W va_W _ (rcV X nw an sv dv n0 n1 n2 n3 n4 g0 gs gn gm) (rnV (xa 8) a_42a d_42b)))) H locs := G
                refine lv_istore (lv' := [(8, .int r_42), (7, .int (nI k64)), (6, .int x64_6), (5, .int x64_5), (4, .int x64_4), (0, .ref h0), (1, .int 3), (2, .int x2), (3, .int x3)]) zx zb dX10_turn_81 hl (by decide) rfl (fun ls hl => ?_)
                refine lv_iload zx zb dX10_turn_83 (lv_at hl 0 rfl) ?_
                refine lv_iconst (v := (-1)) zx zb dX10_turn_85 (by decide) ?_
                refine k_cutW (PP := fun Wx => ∀ (x_44 : Int32) (x_45 : Int32) (x_46 : Int32) (H : Heap) (locs : List Loc) (ls : Array Slot), (x_44 ≤ 60) → wd X (va_A (@HAppend.hAppend va_W va_W va_W _ (xW h0 nw sp xa la lb) (@HAppend.hAppend va_W va_W va_W _ (rcV X nw an sv dv n0 n1 n2 n3 n4 g0 gs gn gm) (@HAppend.hAppend va_W va_W va_W _ (rnV (xa 8) ag dg) ([((xa 5), .inl (X.2.1, 3, .inl fr))])))) sz) (va_A (@HAppend.hAppend va_W va_W va_W _ (xW h0 nw sp xa la lb) (@HAppend.hAppend va_W va_W va_W _ (rcV X nw an sv dv n0 n1 n2 n3 n4 g0 gs gn gm) (@HAppend.hAppend va_W va_W va_W _ (rnV (xa 8) ag dg) ([((xa 5), .inl (X.2.1, 3, .inl fr))])))) sz) s (@HAppend.hAppend va_W va_W va_W _ ([((xa 5), .inl (X.2.1, 3, .inl fr))]) (@HAppend.hAppend va_W va_W va_W _ (xW h0 nw sp xa la lb) (@HAppend.hAppend va_W va_W va_W _ (rcV X nw an sv dv n0 n1 n2 n3 n4 g0 gs gn gm) (rnV (xa 8) a_42a d_42b)))) H locs → lv_has ls 9 [(8, .int r_42), (7, .int (nI k64)), (6, .int x_44), (5, .int x_45), (4, .int x_46), (0, .ref h0), (1, .int 3), (2, .int x2), (3, .int x3)] → Wx (F0 m 103 ls []) H locs) ?_ ?_
                · intro join_86
                  refine lv_icmp_eq (tgt := 103) zx zb dX10_turn_86 (by decide) (fun c_43 => ?_) (fun c_43 => ?_)
                  · exact join_86 x64_6 x64_5 x64_4 _ _ _ (by first | assumption | decide | exact k_m60 (by assumption)) G hl
                  · refine lv_iload zx zb dX10_turn_89 (lv_at hl 1 rfl) ?_
                    refine lv_istore (lv' := [(4, .int (nI k64)), (8, .int r_42), (7, .int (nI k64)), (6, .int x64_6), (5, .int x64_5), (0, .ref h0), (1, .int 3), (2, .int x2), (3, .int x3)]) zx zb dX10_turn_91 hl (by decide) rfl (fun ls hl => ?_)
                    refine lv_iload zx zb dX10_turn_93 (lv_at hl 1 rfl) ?_
                    refine lv_istore (lv' := [(5, .int r_42), (4, .int (nI k64)), (8, .int r_42), (7, .int (nI k64)), (6, .int x64_6), (0, .ref h0), (1, .int 3), (2, .int x2), (3, .int x3)]) zx zb dX10_turn_95 hl (by decide) rfl (fun ls hl => ?_)
                    refine lv_iload zx zb dX10_turn_97 (lv_at hl 2 rfl) ?_
                    refine lv_iconst (v := 1) zx zb dX10_turn_99 (by decide) ?_
                    refine r_isub (v := (r_42 - 1)) S rfl dX10_turn_100 ?_
                    refine lv_istore (lv' := [(6, .int (r_42 - 1)), (5, .int r_42), (4, .int (nI k64)), (8, .int r_42), (7, .int (nI k64)), (0, .ref h0), (1, .int 3), (2, .int x2), (3, .int x3)]) zx zb dX10_turn_101 hl (by decide) rfl (fun ls hl => ?_)
                    have hl := lv_sub hl (l' := [(8, .int r_42), (7, .int (nI k64)), (6, .int (r_42 - 1)), (5, .int r_42), (4, .int (nI k64)), (0, .ref h0), (1, .int 3), (2, .int x2), (3, .int x3)]) [3, 4, 0, 1, 2, 5, 6, 7, 8] rfl
                    exact join_86 (r_42 - 1) r_42 (nI k64) _ _ _ (by first | assumption | decide | exact k_m60 (by assumption)) G hl
                · intro x_44 x_45 x_46 H locs ls hk_x_44 G hl
                  refine lv_iinc (v := (nI (k64 + 1))) (lv' := [(7, .int (nI (k64 + 1))), (8, .int r_42), (6, .int x_44), (5, .int x_45), (4, .int x_46), (0, .ref h0), (1, .int 3), (2, .int x2), (3, .int x3)]) zx zb dX10_turn_103 hl (k := 1) rfl (nI_add k64 1) (by decide) rfl (fun ls hl => ?_)
                  refine lv_goto (tgt := 64) zx zb dX10_turn_106 (by decide) ?_
                  have G : wd X (va_A (@HAppend.hAppend va_W va_W va_W _ (xW h0 nw sp xa la lb) (@HAppend.hAppend va_W va_W va_W _ (rcV X nw an sv dv n0 n1 n2 n3 n4 g0 gs gn gm) (@HAppend.hAppend va_W va_W va_W _ (rnV (xa 8) ag dg) ([((xa 5), .inl (X.2.1, 3, .inl fr))])))) sz) (va_A (@HAppend.hAppend va_W va_W va_W _ (xW h0 nw sp xa la lb) (@HAppend.hAppend va_W va_W va_W _ (rcV X nw an sv dv n0 n1 n2 n3 n4 g0 gs gn gm) (@HAppend.hAppend va_W va_W va_W _ (rnV (xa 8) ag dg) ([((xa 5), .inl (X.2.1, 3, .inl fr))])))) sz) s (@HAppend.hAppend va_W va_W va_W _ (xW h0 nw sp xa la lb) (@HAppend.hAppend va_W va_W va_W _ (rcV X nw an sv dv n0 n1 n2 n3 n4 g0 gs gn gm) (@HAppend.hAppend va_W va_W va_W _ (rnV (xa 8) a_42a d_42b) ([((xa 5), .inl (X.2.1, 3, .inl fr))])))) H locs := wd_sub G [1, 2, 3, 4, 5, 6, 7, 8, 9, 10, 11, 12, 13, 14, 15, 16, 17, 18, 0] rfl rfl
                  have hl := lv_sub hl (l' := [(7, .int (nI (k64 + 1))), (6, .int x_44), (5, .int x_45), (4, .int x_46), (0, .ref h0), (1, .int 3), (2, .int x2), (3, .int x3)]) [0, 2, 3, 4, 5, 6, 7, 8] rfl
                  exact ih64 (k64 + 1) x_44 x_45 x_46 a_42a d_42b _ _ _ (by omega) (by omega) (by first | assumption | decide | exact k_m60 (by assumption)) G hl
          · refine lv_iconst (v := (-1)) zx zb dX10_turn_49 (by decide) ?_
            exact e_int S zr zlk (vp_nar_int _) G (ag, dg, fr) [0, 1, 2, 3, 4, 5, 6, 7, 8, 9, 10, 11, 12, 13, 14, 15, 16, 17, 18] rfl rfl (Or.inr rfl) (trivial) dX10_turn_50
        · refine k_it (v := 4) rfl ?_
          refine r_aald (C := RX8) (b := (an 5)) S G 2 3 rfl rfl (k_vp (by decide)) rfl dX10_turn_42 ?_
          refine o_ri (cells' := 0) (slots' := 0) G rfl rfl (n_V (As := []) (rest := []) (C := RX8) (T := TX8) (N := 8) (ci := 6) S G (s_isHome l X (an 5) (fun k => sv (12 + k)) (fun k => dv (30 + k)) H.size) gX10_turn_X8_isHome rfl rfl rfl hdV_X8_isHome ⟨Nat.le_of_ble_eq_true rfl, Nat.le_of_ble_eq_true rfl⟩ [7] rfl rfl 7 rfl rfl rfl hl.1 (Nat.le_of_ble_eq_true rfl) dX10_turn_43 ⟨Nat.le_of_ble_eq_true rfl, Nat.le_of_ble_eq_true rfl⟩) (fun r_47 u_47 H locs hp_47 G => ?_)
          have G : wd X (va_A (@HAppend.hAppend va_W va_W va_W _ (xW h0 nw sp xa la lb) (@HAppend.hAppend va_W va_W va_W _ (rcV X nw an sv dv n0 n1 n2 n3 n4 g0 gs gn gm) (@HAppend.hAppend va_W va_W va_W _ (rnV (xa 8) ag dg) ([((xa 5), .inl (X.2.1, 3, .inl fr))])))) sz) (va_A (@HAppend.hAppend va_W va_W va_W _ (xW h0 nw sp xa la lb) (@HAppend.hAppend va_W va_W va_W _ (rcV X nw an sv dv n0 n1 n2 n3 n4 g0 gs gn gm) (@HAppend.hAppend va_W va_W va_W _ (rnV (xa 8) ag dg) ([((xa 5), .inl (X.2.1, 3, .inl fr))])))) sz) s (@HAppend.hAppend va_W va_W va_W _ (xW h0 nw sp xa la lb) (@HAppend.hAppend va_W va_W va_W _ (rcV X nw an sv dv n0 n1 n2 n3 n4 g0 gs gn gm) (@HAppend.hAppend va_W va_W va_W _ (rnV (xa 8) ag dg) ([((xa 5), .inl (X.2.1, 3, .inl fr))])))) H locs := G
          refine lv_if_eq (tgt := 51) zx zb dX10_turn_46 (by decide) (fun c_48 => ?_) (fun c_48 => ?_)
          · refine lv_iconst (v := (-1)) zx zb dX10_turn_51 (by decide) ?_
            refine lv_istore (lv' := [(4, .int (-1)), (0, .ref h0), (1, .int 4), (2, .int x2), (3, .int x3)]) zx zb dX10_turn_52 hl (by decide) rfl (fun ls hl => ?_)
            refine lv_iconst (v := (-1)) zx zb dX10_turn_54 (by decide) ?_
            refine lv_istore (lv' := [(5, .int (-1)), (4, .int (-1)), (0, .ref h0), (1, .int 4), (2, .int x2), (3, .int x3)]) zx zb dX10_turn_55 hl (by decide) rfl (fun ls hl => ?_)
            refine lv_bipush (v := 60) zx zb dX10_turn_57 (by decide) ?_
            refine lv_istore (lv' := [(6, .int 60), (5, .int (-1)), (4, .int (-1)), (0, .ref h0), (1, .int 4), (2, .int x2), (3, .int x3)]) zx zb dX10_turn_59 hl (by decide) rfl (fun ls hl => ?_)
            refine lv_iconst (v := 0) zx zb dX10_turn_61 (by decide) ?_
            refine lv_istore (lv' := [(7, .int 0), (6, .int 60), (5, .int (-1)), (4, .int (-1)), (0, .ref h0), (1, .int 4), (2, .int x2), (3, .int x3)]) zx zb dX10_turn_62 hl (by decide) rfl (fun ls hl => ?_)
            refine k_loop (P := ∀ (zm : Nat) (k64 : Nat) (x64_6 : Int32) (x64_5 : Int32) (x64_4 : Int32) (a64_2 : Nat → Int32) (d64_2 : Nat → Int32) (H : Heap) (locs : List Loc) (ls : Array Slot), 31 + 1 ≤ k64 + zm → (k64 ≤ 31) → (x64_6 ≤ 60) → wd X (va_A (@HAppend.hAppend va_W va_W va_W _ (xW h0 nw sp xa la lb) (@HAppend.hAppend va_W va_W va_W _ (rcV X nw an sv dv n0 n1 n2 n3 n4 g0 gs gn gm) (@HAppend.hAppend va_W va_W va_W _ (rnV (xa 8) ag dg) ([((xa 5), .inl (X.2.1, 3, .inl fr))])))) sz) (va_A (@HAppend.hAppend va_W va_W va_W _ (xW h0 nw sp xa la lb) (@HAppend.hAppend va_W va_W va_W _ (rcV X nw an sv dv n0 n1 n2 n3 n4 g0 gs gn gm) (@HAppend.hAppend va_W va_W va_W _ (rnV (xa 8) ag dg) ([((xa 5), .inl (X.2.1, 3, .inl fr))])))) sz) s (@HAppend.hAppend va_W va_W va_W _ (xW h0 nw sp xa la lb) (@HAppend.hAppend va_W va_W va_W _ (rcV X nw an sv dv n0 n1 n2 n3 n4 g0 gs gn gm) (@HAppend.hAppend va_W va_W va_W _ (rnV (xa 8) a64_2 d64_2) ([((xa 5), .inl (X.2.1, 3, .inl fr))])))) H locs → lv_has ls 9 [(7, .int (nI k64)), (6, .int x64_6), (5, .int x64_5), (4, .int x64_4), (0, .ref h0), (1, .int 4), (2, .int x2), (3, .int x3)] → W p l e _ s m _ below meth c H locs _ _ _ (F0 m 64 ls [])) (fun loop => loop (31 + 1) 0 60 (-1) (-1) ag dg _ _ _ (by omega) (by omega) (by first | assumption | decide | exact k_m60 (by assumption)) G hl) ?_
            intro zm
            induction zm with
            | zero => intro k64 x64_6 x64_5 x64_4 a64_2 d64_2 H locs ls zz q_hk_k64 q_hk_x64_6 _ _; exact absurd zz (by omega)
            | succ zm ih64 =>
              intro k64 x64_6 x64_5 x64_4 a64_2 d64_2 H locs ls zm_64 hk_k64 hk_x64_6 G hl
              refine lv_iload zx zb dX10_turn_64 (lv_at hl 0 rfl) ?_
              refine lv_bipush (v := 30) zx zb dX10_turn_66 (by decide) ?_
              refine lv_icmp_gt (tgt := 109) zx zb dX10_turn_68 (by decide) (fun c_49 => ?_) (fun c_49 => ?_)
              · have fc_49 := j_lt (a := 30) (b := k64) (by omega) (by omega) c_49
                refine lv_iload_n zx zb dX10_turn_109 rfl (lv_at hl 7 rfl) ?_
                refine k_cutW (PP := fun Wx => ∀ (x_51 : Int32) (H : Heap) (locs : List Loc) (ls : Array Slot), wd X (va_A (@HAppend.hAppend va_W va_W va_W _ (xW h0 nw sp xa la lb) (@HAppend.hAppend va_W va_W va_W _ (rcV X nw an sv dv n0 n1 n2 n3 n4 g0 gs gn gm) (@HAppend.hAppend va_W va_W va_W _ (rnV (xa 8) ag dg) ([((xa 5), .inl (X.2.1, 3, .inl fr))])))) sz) (va_A (@HAppend.hAppend va_W va_W va_W _ (xW h0 nw sp xa la lb) (@HAppend.hAppend va_W va_W va_W _ (rcV X nw an sv dv n0 n1 n2 n3 n4 g0 gs gn gm) (@HAppend.hAppend va_W va_W va_W _ (rnV (xa 8) ag dg) ([((xa 5), .inl (X.2.1, 3, .inl fr))])))) sz) s (@HAppend.hAppend va_W va_W va_W _ (xW h0 nw sp xa la lb) (@HAppend.hAppend va_W va_W va_W _ (rcV X nw an sv dv n0 n1 n2 n3 n4 g0 gs gn gm) (@HAppend.hAppend va_W va_W va_W _ (rnV (xa 8) a64_2 d64_2) ([((xa 5), .inl (X.2.1, 3, .inl fr))])))) H locs → lv_has ls 9 [(7, .int (nI k64)), (6, .int x64_6), (5, .int x64_5), (4, .int x64_4), (0, .ref h0), (1, .int 4), (2, .int x2), (3, .int x3)] → Wx (F0 m 120 ls [.int x_51]) H locs) ?_ ?_
                · intro join_110
                  refine lv_if_ne (tgt := 118) zx zb dX10_turn_110 (by decide) (fun c_50 => ?_) (fun c_50 => ?_)
                  · refine lv_iload zx zb dX10_turn_118 (lv_at hl 2 rfl) ?_
                    exact join_110 x64_5 _ _ _  G hl
                  · refine lv_iload zx zb dX10_turn_113 (lv_at hl 3 rfl) ?_
                    refine lv_goto (tgt := 120) zx zb dX10_turn_115 (by decide) ?_
                    exact join_110 x64_4 _ _ _  G hl
                · intro x_51 H locs ls  G hl
                  exact e_int S zr zlk (vp_nar_int _) G (a64_2, d64_2, fr) [0, 1, 2, 3, 4, 5, 6, 7, 8, 9, 10, 11, 12, 13, 14, 15, 16, 17, 18] rfl rfl (Or.inr rfl) (trivial) dX10_turn_120
              · have fc_49 := j_nlt (a := 30) (b := k64) (by omega) (by omega) c_49
                refine lv_aload_n zx zb dX10_turn_71 rfl (lv_at hl 4 rfl) ?_
                refine lv_iload_n zx zb dX10_turn_72 rfl (lv_at hl 5 rfl) ?_
                refine lv_iload_n zx zb dX10_turn_73 rfl (lv_at hl 6 rfl) ?_
                refine lv_iload zx zb dX10_turn_74 (lv_at hl 0 rfl) ?_
                refine lv_iload zx zb dX10_turn_76 (lv_at hl 1 rfl) ?_
                refine b_wi (cells' := 0) (slots' := 0) (wr := [((xa 5), .inl (X.2.1, 3, .inl fr))]) G rfl rfl [0, 1, 2, 3, 4, 5, 6, 7, 8, 9, 10, 11, 12, 13, 14, 15, 16, 17] [18] rfl rfl rfl rfl (n_V (As := [.int 4, .int x2, .int (nI k64), .int x64_6]) (rest := []) (C := RX10) (T := TX10) (N := 14) (ci := 8) S G (s_homeTurning l X h0 nw sp xa la lb an sv dv n0 n1 n2 n3 n4 g0 gs gn gm a64_2 d64_2 4 x2 k64 x64_6 hI_n0 hI_n1 hI_n2 hI_n3 hI_n4 (by omega) (by omega) (by first | decide | assumption | exact k_60a (by assumption)) H.size) gX10_turn_X10_homeTurning rfl rfl rfl hdV_X10_homeTurning ⟨Nat.le_of_ble_eq_true rfl, Nat.le_of_ble_eq_true rfl⟩ [0, 1, 2, 3, 4, 5, 6, 7, 8, 9, 10, 11, 12, 13, 14, 15, 16, 17] rfl rfl 0 rfl rfl rfl hl.1 (Nat.le_of_ble_eq_true rfl) dX10_turn_78 ⟨Nat.le_of_ble_eq_true rfl, Nat.le_of_ble_eq_true rfl⟩) (fun r_52 u_52 H locs hp_52 G => ?_)
                obtain ⟨a_52a, d_52b⟩ := u_52
                have hq_52 := hp_52
                have G : wd X (va_A (@HAppend.hAppend va_W va_W va_W _ (xW h0 nw sp xa la lb) (@HAppend.hAppend va_W va_W va_W _ (rcV X nw an sv dv n0 n1 n2 n3 n4 g0 gs gn gm) (@HAppend.hAppend va_W va_W va_W _ (rnV (xa 8) ag dg) ([((xa 5), .inl (X.2.1, 3, .inl fr))])))) sz) (va_A (@HAppend.hAppend va_W va_W va_W _ (xW h0 nw sp xa la lb) (@HAppend.hAppend va_W va_W va_W _ (rcV X nw an sv dv n0 n1 n2 n3 n4 g0 gs gn gm) (@HAppend.hAppend va_W va_W va_W _ (rnV (xa 8) ag dg) ([((xa 5), .inl (X.2.1, 3, .inl fr))])))) sz) s (@HAppend.hAppend va_W va_W va_W _ ([((xa 5), .inl (X.2.1, 3, .inl fr))]) (@HAppend.hAppend va_W va_W va_W _ (xW h0 nw sp xa la lb) (@HAppend.hAppend va_W va_W va_W _ (rcV X nw an sv dv n0 n1 n2 n3 n4 g0 gs gn gm) (rnV (xa 8) a_52a d_52b)))) H locs := G
                refine lv_istore (lv' := [(8, .int r_52), (7, .int (nI k64)), (6, .int x64_6), (5, .int x64_5), (4, .int x64_4), (0, .ref h0), (1, .int 4), (2, .int x2), (3, .int x3)]) zx zb dX10_turn_81 hl (by decide) rfl (fun ls hl => ?_)
                refine lv_iload zx zb dX10_turn_83 (lv_at hl 0 rfl) ?_
                refine lv_iconst (v := (-1)) zx zb dX10_turn_85 (by decide) ?_
                refine k_cutW (PP := fun Wx => ∀ (x_54 : Int32) (x_55 : Int32) (x_56 : Int32) (H : Heap) (locs : List Loc) (ls : Array Slot), (x_54 ≤ 60) → wd X (va_A (@HAppend.hAppend va_W va_W va_W _ (xW h0 nw sp xa la lb) (@HAppend.hAppend va_W va_W va_W _ (rcV X nw an sv dv n0 n1 n2 n3 n4 g0 gs gn gm) (@HAppend.hAppend va_W va_W va_W _ (rnV (xa 8) ag dg) ([((xa 5), .inl (X.2.1, 3, .inl fr))])))) sz) (va_A (@HAppend.hAppend va_W va_W va_W _ (xW h0 nw sp xa la lb) (@HAppend.hAppend va_W va_W va_W _ (rcV X nw an sv dv n0 n1 n2 n3 n4 g0 gs gn gm) (@HAppend.hAppend va_W va_W va_W _ (rnV (xa 8) ag dg) ([((xa 5), .inl (X.2.1, 3, .inl fr))])))) sz) s (@HAppend.hAppend va_W va_W va_W _ ([((xa 5), .inl (X.2.1, 3, .inl fr))]) (@HAppend.hAppend va_W va_W va_W _ (xW h0 nw sp xa la lb) (@HAppend.hAppend va_W va_W va_W _ (rcV X nw an sv dv n0 n1 n2 n3 n4 g0 gs gn gm) (rnV (xa 8) a_52a d_52b)))) H locs → lv_has ls 9 [(8, .int r_52), (7, .int (nI k64)), (6, .int x_54), (5, .int x_55), (4, .int x_56), (0, .ref h0), (1, .int 4), (2, .int x2), (3, .int x3)] → Wx (F0 m 103 ls []) H locs) ?_ ?_
                · intro join_86
                  refine lv_icmp_eq (tgt := 103) zx zb dX10_turn_86 (by decide) (fun c_53 => ?_) (fun c_53 => ?_)
                  · exact join_86 x64_6 x64_5 x64_4 _ _ _ (by first | assumption | decide | exact k_m60 (by assumption)) G hl
                  · refine lv_iload zx zb dX10_turn_89 (lv_at hl 1 rfl) ?_
                    refine lv_istore (lv' := [(4, .int (nI k64)), (8, .int r_52), (7, .int (nI k64)), (6, .int x64_6), (5, .int x64_5), (0, .ref h0), (1, .int 4), (2, .int x2), (3, .int x3)]) zx zb dX10_turn_91 hl (by decide) rfl (fun ls hl => ?_)
                    refine lv_iload zx zb dX10_turn_93 (lv_at hl 1 rfl) ?_
                    refine lv_istore (lv' := [(5, .int r_52), (4, .int (nI k64)), (8, .int r_52), (7, .int (nI k64)), (6, .int x64_6), (0, .ref h0), (1, .int 4), (2, .int x2), (3, .int x3)]) zx zb dX10_turn_95 hl (by decide) rfl (fun ls hl => ?_)
                    refine lv_iload zx zb dX10_turn_97 (lv_at hl 2 rfl) ?_
                    refine lv_iconst (v := 1) zx zb dX10_turn_99 (by decide) ?_
                    refine r_isub (v := (r_52 - 1)) S rfl dX10_turn_100 ?_
                    refine lv_istore (lv' := [(6, .int (r_52 - 1)), (5, .int r_52), (4, .int (nI k64)), (8, .int r_52), (7, .int (nI k64)), (0, .ref h0), (1, .int 4), (2, .int x2), (3, .int x3)]) zx zb dX10_turn_101 hl (by decide) rfl (fun ls hl => ?_)
                    have hl := lv_sub hl (l' := [(8, .int r_52), (7, .int (nI k64)), (6, .int (r_52 - 1)), (5, .int r_52), (4, .int (nI k64)), (0, .ref h0), (1, .int 4), (2, .int x2), (3, .int x3)]) [3, 4, 0, 1, 2, 5, 6, 7, 8] rfl
                    exact join_86 (r_52 - 1) r_52 (nI k64) _ _ _ (by first | assumption | decide | exact k_m60 (by assumption)) G hl
                · intro x_54 x_55 x_56 H locs ls hk_x_54 G hl
                  refine lv_iinc (v := (nI (k64 + 1))) (lv' := [(7, .int (nI (k64 + 1))), (8, .int r_52), (6, .int x_54), (5, .int x_55), (4, .int x_56), (0, .ref h0), (1, .int 4), (2, .int x2), (3, .int x3)]) zx zb dX10_turn_103 hl (k := 1) rfl (nI_add k64 1) (by decide) rfl (fun ls hl => ?_)
                  refine lv_goto (tgt := 64) zx zb dX10_turn_106 (by decide) ?_
                  have G : wd X (va_A (@HAppend.hAppend va_W va_W va_W _ (xW h0 nw sp xa la lb) (@HAppend.hAppend va_W va_W va_W _ (rcV X nw an sv dv n0 n1 n2 n3 n4 g0 gs gn gm) (@HAppend.hAppend va_W va_W va_W _ (rnV (xa 8) ag dg) ([((xa 5), .inl (X.2.1, 3, .inl fr))])))) sz) (va_A (@HAppend.hAppend va_W va_W va_W _ (xW h0 nw sp xa la lb) (@HAppend.hAppend va_W va_W va_W _ (rcV X nw an sv dv n0 n1 n2 n3 n4 g0 gs gn gm) (@HAppend.hAppend va_W va_W va_W _ (rnV (xa 8) ag dg) ([((xa 5), .inl (X.2.1, 3, .inl fr))])))) sz) s (@HAppend.hAppend va_W va_W va_W _ (xW h0 nw sp xa la lb) (@HAppend.hAppend va_W va_W va_W _ (rcV X nw an sv dv n0 n1 n2 n3 n4 g0 gs gn gm) (@HAppend.hAppend va_W va_W va_W _ (rnV (xa 8) a_52a d_52b) ([((xa 5), .inl (X.2.1, 3, .inl fr))])))) H locs := wd_sub G [1, 2, 3, 4, 5, 6, 7, 8, 9, 10, 11, 12, 13, 14, 15, 16, 17, 18, 0] rfl rfl
                  have hl := lv_sub hl (l' := [(7, .int (nI (k64 + 1))), (6, .int x_54), (5, .int x_55), (4, .int x_56), (0, .ref h0), (1, .int 4), (2, .int x2), (3, .int x3)]) [0, 2, 3, 4, 5, 6, 7, 8] rfl
                  exact ih64 (k64 + 1) x_54 x_55 x_56 a_52a d_52b _ _ _ (by omega) (by omega) (by first | assumption | decide | exact k_m60 (by assumption)) G hl
          · refine lv_iconst (v := (-1)) zx zb dX10_turn_49 (by decide) ?_
            exact e_int S zr zlk (vp_nar_int _) G (ag, dg, fr) [0, 1, 2, 3, 4, 5, 6, 7, 8, 9, 10, 11, 12, 13, 14, 15, 16, 17, 18] rfl rfl (Or.inr rfl) (trivial) dX10_turn_50
        · refine k_it (v := 5) rfl ?_
          refine r_aald (C := RX8) (b := (an 6)) S G 2 3 rfl rfl (k_vp (by decide)) rfl dX10_turn_42 ?_
          refine o_ri (cells' := 0) (slots' := 0) G rfl rfl (n_V (As := []) (rest := []) (C := RX8) (T := TX8) (N := 8) (ci := 6) S G (s_isHome l X (an 6) (fun k => sv (15 + k)) (fun k => dv (35 + k)) H.size) gX10_turn_X8_isHome rfl rfl rfl hdV_X8_isHome ⟨Nat.le_of_ble_eq_true rfl, Nat.le_of_ble_eq_true rfl⟩ [8] rfl rfl 8 rfl rfl rfl hl.1 (Nat.le_of_ble_eq_true rfl) dX10_turn_43 ⟨Nat.le_of_ble_eq_true rfl, Nat.le_of_ble_eq_true rfl⟩) (fun r_57 u_57 H locs hp_57 G => ?_)
          have G : wd X (va_A (@HAppend.hAppend va_W va_W va_W _ (xW h0 nw sp xa la lb) (@HAppend.hAppend va_W va_W va_W _ (rcV X nw an sv dv n0 n1 n2 n3 n4 g0 gs gn gm) (@HAppend.hAppend va_W va_W va_W _ (rnV (xa 8) ag dg) ([((xa 5), .inl (X.2.1, 3, .inl fr))])))) sz) (va_A (@HAppend.hAppend va_W va_W va_W _ (xW h0 nw sp xa la lb) (@HAppend.hAppend va_W va_W va_W _ (rcV X nw an sv dv n0 n1 n2 n3 n4 g0 gs gn gm) (@HAppend.hAppend va_W va_W va_W _ (rnV (xa 8) ag dg) ([((xa 5), .inl (X.2.1, 3, .inl fr))])))) sz) s (@HAppend.hAppend va_W va_W va_W _ (xW h0 nw sp xa la lb) (@HAppend.hAppend va_W va_W va_W _ (rcV X nw an sv dv n0 n1 n2 n3 n4 g0 gs gn gm) (@HAppend.hAppend va_W va_W va_W _ (rnV (xa 8) ag dg) ([((xa 5), .inl (X.2.1, 3, .inl fr))])))) H locs := G
          refine lv_if_eq (tgt := 51) zx zb dX10_turn_46 (by decide) (fun c_58 => ?_) (fun c_58 => ?_)
          · refine lv_iconst (v := (-1)) zx zb dX10_turn_51 (by decide) ?_
            refine lv_istore (lv' := [(4, .int (-1)), (0, .ref h0), (1, .int 5), (2, .int x2), (3, .int x3)]) zx zb dX10_turn_52 hl (by decide) rfl (fun ls hl => ?_)
            refine lv_iconst (v := (-1)) zx zb dX10_turn_54 (by decide) ?_
            refine lv_istore (lv' := [(5, .int (-1)), (4, .int (-1)), (0, .ref h0), (1, .int 5), (2, .int x2), (3, .int x3)]) zx zb dX10_turn_55 hl (by decide) rfl (fun ls hl => ?_)
            refine lv_bipush (v := 60) zx zb dX10_turn_57 (by decide) ?_
            refine lv_istore (lv' := [(6, .int 60), (5, .int (-1)), (4, .int (-1)), (0, .ref h0), (1, .int 5), (2, .int x2), (3, .int x3)]) zx zb dX10_turn_59 hl (by decide) rfl (fun ls hl => ?_)
            refine lv_iconst (v := 0) zx zb dX10_turn_61 (by decide) ?_
            refine lv_istore (lv' := [(7, .int 0), (6, .int 60), (5, .int (-1)), (4, .int (-1)), (0, .ref h0), (1, .int 5), (2, .int x2), (3, .int x3)]) zx zb dX10_turn_62 hl (by decide) rfl (fun ls hl => ?_)
            refine k_loop (P := ∀ (zm : Nat) (k64 : Nat) (x64_6 : Int32) (x64_5 : Int32) (x64_4 : Int32) (a64_2 : Nat → Int32) (d64_2 : Nat → Int32) (H : Heap) (locs : List Loc) (ls : Array Slot), 31 + 1 ≤ k64 + zm → (k64 ≤ 31) → (x64_6 ≤ 60) → wd X (va_A (@HAppend.hAppend va_W va_W va_W _ (xW h0 nw sp xa la lb) (@HAppend.hAppend va_W va_W va_W _ (rcV X nw an sv dv n0 n1 n2 n3 n4 g0 gs gn gm) (@HAppend.hAppend va_W va_W va_W _ (rnV (xa 8) ag dg) ([((xa 5), .inl (X.2.1, 3, .inl fr))])))) sz) (va_A (@HAppend.hAppend va_W va_W va_W _ (xW h0 nw sp xa la lb) (@HAppend.hAppend va_W va_W va_W _ (rcV X nw an sv dv n0 n1 n2 n3 n4 g0 gs gn gm) (@HAppend.hAppend va_W va_W va_W _ (rnV (xa 8) ag dg) ([((xa 5), .inl (X.2.1, 3, .inl fr))])))) sz) s (@HAppend.hAppend va_W va_W va_W _ (xW h0 nw sp xa la lb) (@HAppend.hAppend va_W va_W va_W _ (rcV X nw an sv dv n0 n1 n2 n3 n4 g0 gs gn gm) (@HAppend.hAppend va_W va_W va_W _ (rnV (xa 8) a64_2 d64_2) ([((xa 5), .inl (X.2.1, 3, .inl fr))])))) H locs → lv_has ls 9 [(7, .int (nI k64)), (6, .int x64_6), (5, .int x64_5), (4, .int x64_4), (0, .ref h0), (1, .int 5), (2, .int x2), (3, .int x3)] → W p l e _ s m _ below meth c H locs _ _ _ (F0 m 64 ls [])) (fun loop => loop (31 + 1) 0 60 (-1) (-1) ag dg _ _ _ (by omega) (by omega) (by first | assumption | decide | exact k_m60 (by assumption)) G hl) ?_
            intro zm
            induction zm with
            | zero => intro k64 x64_6 x64_5 x64_4 a64_2 d64_2 H locs ls zz q_hk_k64 q_hk_x64_6 _ _; exact absurd zz (by omega)
            | succ zm ih64 =>
              intro k64 x64_6 x64_5 x64_4 a64_2 d64_2 H locs ls zm_64 hk_k64 hk_x64_6 G hl
              refine lv_iload zx zb dX10_turn_64 (lv_at hl 0 rfl) ?_
              refine lv_bipush (v := 30) zx zb dX10_turn_66 (by decide) ?_
              refine lv_icmp_gt (tgt := 109) zx zb dX10_turn_68 (by decide) (fun c_59 => ?_) (fun c_59 => ?_)
              · have fc_59 := j_lt (a := 30) (b := k64) (by omega) (by omega) c_59
                refine lv_iload_n zx zb dX10_turn_109 rfl (lv_at hl 7 rfl) ?_
                refine k_cutW (PP := fun Wx => ∀ (x_61 : Int32) (H : Heap) (locs : List Loc) (ls : Array Slot), wd X (va_A (@HAppend.hAppend va_W va_W va_W _ (xW h0 nw sp xa la lb) (@HAppend.hAppend va_W va_W va_W _ (rcV X nw an sv dv n0 n1 n2 n3 n4 g0 gs gn gm) (@HAppend.hAppend va_W va_W va_W _ (rnV (xa 8) ag dg) ([((xa 5), .inl (X.2.1, 3, .inl fr))])))) sz) (va_A (@HAppend.hAppend va_W va_W va_W _ (xW h0 nw sp xa la lb) (@HAppend.hAppend va_W va_W va_W _ (rcV X nw an sv dv n0 n1 n2 n3 n4 g0 gs gn gm) (@HAppend.hAppend va_W va_W va_W _ (rnV (xa 8) ag dg) ([((xa 5), .inl (X.2.1, 3, .inl fr))])))) sz) s (@HAppend.hAppend va_W va_W va_W _ (xW h0 nw sp xa la lb) (@HAppend.hAppend va_W va_W va_W _ (rcV X nw an sv dv n0 n1 n2 n3 n4 g0 gs gn gm) (@HAppend.hAppend va_W va_W va_W _ (rnV (xa 8) a64_2 d64_2) ([((xa 5), .inl (X.2.1, 3, .inl fr))])))) H locs → lv_has ls 9 [(7, .int (nI k64)), (6, .int x64_6), (5, .int x64_5), (4, .int x64_4), (0, .ref h0), (1, .int 5), (2, .int x2), (3, .int x3)] → Wx (F0 m 120 ls [.int x_61]) H locs) ?_ ?_
                · intro join_110
                  refine lv_if_ne (tgt := 118) zx zb dX10_turn_110 (by decide) (fun c_60 => ?_) (fun c_60 => ?_)
                  · refine lv_iload zx zb dX10_turn_118 (lv_at hl 2 rfl) ?_
                    exact join_110 x64_5 _ _ _  G hl
                  · refine lv_iload zx zb dX10_turn_113 (lv_at hl 3 rfl) ?_
                    refine lv_goto (tgt := 120) zx zb dX10_turn_115 (by decide) ?_
                    exact join_110 x64_4 _ _ _  G hl
                · intro x_61 H locs ls  G hl
                  exact e_int S zr zlk (vp_nar_int _) G (a64_2, d64_2, fr) [0, 1, 2, 3, 4, 5, 6, 7, 8, 9, 10, 11, 12, 13, 14, 15, 16, 17, 18] rfl rfl (Or.inr rfl) (trivial) dX10_turn_120
              · have fc_59 := j_nlt (a := 30) (b := k64) (by omega) (by omega) c_59
                refine lv_aload_n zx zb dX10_turn_71 rfl (lv_at hl 4 rfl) ?_
                refine lv_iload_n zx zb dX10_turn_72 rfl (lv_at hl 5 rfl) ?_
                refine lv_iload_n zx zb dX10_turn_73 rfl (lv_at hl 6 rfl) ?_
                refine lv_iload zx zb dX10_turn_74 (lv_at hl 0 rfl) ?_
                refine lv_iload zx zb dX10_turn_76 (lv_at hl 1 rfl) ?_
                refine b_wi (cells' := 0) (slots' := 0) (wr := [((xa 5), .inl (X.2.1, 3, .inl fr))]) G rfl rfl [0, 1, 2, 3, 4, 5, 6, 7, 8, 9, 10, 11, 12, 13, 14, 15, 16, 17] [18] rfl rfl rfl rfl (n_V (As := [.int 5, .int x2, .int (nI k64), .int x64_6]) (rest := []) (C := RX10) (T := TX10) (N := 14) (ci := 8) S G (s_homeTurning l X h0 nw sp xa la lb an sv dv n0 n1 n2 n3 n4 g0 gs gn gm a64_2 d64_2 5 x2 k64 x64_6 hI_n0 hI_n1 hI_n2 hI_n3 hI_n4 (by omega) (by omega) (by first | decide | assumption | exact k_60a (by assumption)) H.size) gX10_turn_X10_homeTurning rfl rfl rfl hdV_X10_homeTurning ⟨Nat.le_of_ble_eq_true rfl, Nat.le_of_ble_eq_true rfl⟩ [0, 1, 2, 3, 4, 5, 6, 7, 8, 9, 10, 11, 12, 13, 14, 15, 16, 17] rfl rfl 0 rfl rfl rfl hl.1 (Nat.le_of_ble_eq_true rfl) dX10_turn_78 ⟨Nat.le_of_ble_eq_true rfl, Nat.le_of_ble_eq_true rfl⟩) (fun r_62 u_62 H locs hp_62 G => ?_)
                obtain ⟨a_62a, d_62b⟩ := u_62
                have hq_62 := hp_62
                have G : wd X (va_A (@HAppend.hAppend va_W va_W va_W _ (xW h0 nw sp xa la lb) (@HAppend.hAppend va_W va_W va_W _ (rcV X nw an sv dv n0 n1 n2 n3 n4 g0 gs gn gm) (@HAppend.hAppend va_W va_W va_W _ (rnV (xa 8) ag dg) ([((xa 5), .inl (X.2.1, 3, .inl fr))])))) sz) (va_A (@HAppend.hAppend va_W va_W va_W _ (xW h0 nw sp xa la lb) (@HAppend.hAppend va_W va_W va_W _ (rcV X nw an sv dv n0 n1 n2 n3 n4 g0 gs gn gm) (@HAppend.hAppend va_W va_W va_W _ (rnV (xa 8) ag dg) ([((xa 5), .inl (X.2.1, 3, .inl fr))])))) sz) s (@HAppend.hAppend va_W va_W va_W _ ([((xa 5), .inl (X.2.1, 3, .inl fr))]) (@HAppend.hAppend va_W va_W va_W _ (xW h0 nw sp xa la lb) (@HAppend.hAppend va_W va_W va_W _ (rcV X nw an sv dv n0 n1 n2 n3 n4 g0 gs gn gm) (rnV (xa 8) a_62a d_62b)))) H locs := G
                refine lv_istore (lv' := [(8, .int r_62), (7, .int (nI k64)), (6, .int x64_6), (5, .int x64_5), (4, .int x64_4), (0, .ref h0), (1, .int 5), (2, .int x2), (3, .int x3)]) zx zb dX10_turn_81 hl (by decide) rfl (fun ls hl => ?_)
                refine lv_iload zx zb dX10_turn_83 (lv_at hl 0 rfl) ?_
                refine lv_iconst (v := (-1)) zx zb dX10_turn_85 (by decide) ?_
                refine k_cutW (PP := fun Wx => ∀ (x_64 : Int32) (x_65 : Int32) (x_66 : Int32) (H : Heap) (locs : List Loc) (ls : Array Slot), (x_64 ≤ 60) → wd X (va_A (@HAppend.hAppend va_W va_W va_W _ (xW h0 nw sp xa la lb) (@HAppend.hAppend va_W va_W va_W _ (rcV X nw an sv dv n0 n1 n2 n3 n4 g0 gs gn gm) (@HAppend.hAppend va_W va_W va_W _ (rnV (xa 8) ag dg) ([((xa 5), .inl (X.2.1, 3, .inl fr))])))) sz) (va_A (@HAppend.hAppend va_W va_W va_W _ (xW h0 nw sp xa la lb) (@HAppend.hAppend va_W va_W va_W _ (rcV X nw an sv dv n0 n1 n2 n3 n4 g0 gs gn gm) (@HAppend.hAppend va_W va_W va_W _ (rnV (xa 8) ag dg) ([((xa 5), .inl (X.2.1, 3, .inl fr))])))) sz) s (@HAppend.hAppend va_W va_W va_W _ ([((xa 5), .inl (X.2.1, 3, .inl fr))]) (@HAppend.hAppend va_W va_W va_W _ (xW h0 nw sp xa la lb) (@HAppend.hAppend va_W va_W va_W _ (rcV X nw an sv dv n0 n1 n2 n3 n4 g0 gs gn gm) (rnV (xa 8) a_62a d_62b)))) H locs → lv_has ls 9 [(8, .int r_62), (7, .int (nI k64)), (6, .int x_64), (5, .int x_65), (4, .int x_66), (0, .ref h0), (1, .int 5), (2, .int x2), (3, .int x3)] → Wx (F0 m 103 ls []) H locs) ?_ ?_
                · intro join_86
                  refine lv_icmp_eq (tgt := 103) zx zb dX10_turn_86 (by decide) (fun c_63 => ?_) (fun c_63 => ?_)
                  · exact join_86 x64_6 x64_5 x64_4 _ _ _ (by first | assumption | decide | exact k_m60 (by assumption)) G hl
                  · refine lv_iload zx zb dX10_turn_89 (lv_at hl 1 rfl) ?_
                    refine lv_istore (lv' := [(4, .int (nI k64)), (8, .int r_62), (7, .int (nI k64)), (6, .int x64_6), (5, .int x64_5), (0, .ref h0), (1, .int 5), (2, .int x2), (3, .int x3)]) zx zb dX10_turn_91 hl (by decide) rfl (fun ls hl => ?_)
                    refine lv_iload zx zb dX10_turn_93 (lv_at hl 1 rfl) ?_
                    refine lv_istore (lv' := [(5, .int r_62), (4, .int (nI k64)), (8, .int r_62), (7, .int (nI k64)), (6, .int x64_6), (0, .ref h0), (1, .int 5), (2, .int x2), (3, .int x3)]) zx zb dX10_turn_95 hl (by decide) rfl (fun ls hl => ?_)
                    refine lv_iload zx zb dX10_turn_97 (lv_at hl 2 rfl) ?_
                    refine lv_iconst (v := 1) zx zb dX10_turn_99 (by decide) ?_
                    refine r_isub (v := (r_62 - 1)) S rfl dX10_turn_100 ?_
                    refine lv_istore (lv' := [(6, .int (r_62 - 1)), (5, .int r_62), (4, .int (nI k64)), (8, .int r_62), (7, .int (nI k64)), (0, .ref h0), (1, .int 5), (2, .int x2), (3, .int x3)]) zx zb dX10_turn_101 hl (by decide) rfl (fun ls hl => ?_)
                    have hl := lv_sub hl (l' := [(8, .int r_62), (7, .int (nI k64)), (6, .int (r_62 - 1)), (5, .int r_62), (4, .int (nI k64)), (0, .ref h0), (1, .int 5), (2, .int x2), (3, .int x3)]) [3, 4, 0, 1, 2, 5, 6, 7, 8] rfl
                    exact join_86 (r_62 - 1) r_62 (nI k64) _ _ _ (by first | assumption | decide | exact k_m60 (by assumption)) G hl
                · intro x_64 x_65 x_66 H locs ls hk_x_64 G hl
                  refine lv_iinc (v := (nI (k64 + 1))) (lv' := [(7, .int (nI (k64 + 1))), (8, .int r_62), (6, .int x_64), (5, .int x_65), (4, .int x_66), (0, .ref h0), (1, .int 5), (2, .int x2), (3, .int x3)]) zx zb dX10_turn_103 hl (k := 1) rfl (nI_add k64 1) (by decide) rfl (fun ls hl => ?_)
                  refine lv_goto (tgt := 64) zx zb dX10_turn_106 (by decide) ?_
                  have G : wd X (va_A (@HAppend.hAppend va_W va_W va_W _ (xW h0 nw sp xa la lb) (@HAppend.hAppend va_W va_W va_W _ (rcV X nw an sv dv n0 n1 n2 n3 n4 g0 gs gn gm) (@HAppend.hAppend va_W va_W va_W _ (rnV (xa 8) ag dg) ([((xa 5), .inl (X.2.1, 3, .inl fr))])))) sz) (va_A (@HAppend.hAppend va_W va_W va_W _ (xW h0 nw sp xa la lb) (@HAppend.hAppend va_W va_W va_W _ (rcV X nw an sv dv n0 n1 n2 n3 n4 g0 gs gn gm) (@HAppend.hAppend va_W va_W va_W _ (rnV (xa 8) ag dg) ([((xa 5), .inl (X.2.1, 3, .inl fr))])))) sz) s (@HAppend.hAppend va_W va_W va_W _ (xW h0 nw sp xa la lb) (@HAppend.hAppend va_W va_W va_W _ (rcV X nw an sv dv n0 n1 n2 n3 n4 g0 gs gn gm) (@HAppend.hAppend va_W va_W va_W _ (rnV (xa 8) a_62a d_62b) ([((xa 5), .inl (X.2.1, 3, .inl fr))])))) H locs := wd_sub G [1, 2, 3, 4, 5, 6, 7, 8, 9, 10, 11, 12, 13, 14, 15, 16, 17, 18, 0] rfl rfl
                  have hl := lv_sub hl (l' := [(7, .int (nI (k64 + 1))), (6, .int x_64), (5, .int x_65), (4, .int x_66), (0, .ref h0), (1, .int 5), (2, .int x2), (3, .int x3)]) [0, 2, 3, 4, 5, 6, 7, 8] rfl
                  exact ih64 (k64 + 1) x_64 x_65 x_66 a_62a d_62b _ _ _ (by omega) (by omega) (by first | assumption | decide | exact k_m60 (by assumption)) G hl
          · refine lv_iconst (v := (-1)) zx zb dX10_turn_49 (by decide) ?_
            exact e_int S zr zlk (vp_nar_int _) G (ag, dg, fr) [0, 1, 2, 3, 4, 5, 6, 7, 8, 9, 10, 11, 12, 13, 14, 15, 16, 17, 18] rfl rfl (Or.inr rfl) (trivial) dX10_turn_50
      · refine lv_if_ne (tgt := 34) zx zb dX10_turn_24 (by decide) (fun c_67 => absurd (by decide) c_67) (fun c_67 => ?_)
        refine lv_aload_n zx zb dX10_turn_27 rfl (lv_at hl 0 rfl) ?_
        refine lv_bipush (v := (-2)) zx zb dX10_turn_28 (by decide) ?_
        refine b_wi (cells' := 0) (slots' := 0) (wr := @HAppend.hAppend va_W va_W va_W _ (rcV X nw an sv dv n0 n1 n2 n3 n4 g0 gs gn gm) (rnV (xa 8) ag dg)) G rfl rfl [0, 18] [1, 2, 3, 4, 5, 6, 7, 8, 9, 10, 11, 12, 13, 14, 15, 16, 17] rfl rfl rfl rfl (n_V (As := [.int (-2)]) (rest := []) (C := RX10) (T := TX10) (N := 14) (ci := 8) S G (s_refuse l X h0 nw sp xa la lb fr (-2) H.size) gX10_turn_X10_refuse rfl rfl rfl hdV_X10_refuse ⟨Nat.le_of_ble_eq_true rfl, Nat.le_of_ble_eq_true rfl⟩ [0, 18] rfl rfl 0 rfl rfl rfl hl.1 (Nat.le_of_ble_eq_true rfl) dX10_turn_30 ⟨Nat.le_of_ble_eq_true rfl, Nat.le_of_ble_eq_true rfl⟩) (fun r_68 u_68 H locs hp_68 G => ?_)
        obtain ⟨f_68, rfl⟩ : ∃ z, z = u_68 := ⟨_, rfl⟩
        have hq_68 := hp_68
        have G : wd X (va_A (@HAppend.hAppend va_W va_W va_W _ (xW h0 nw sp xa la lb) (@HAppend.hAppend va_W va_W va_W _ (rcV X nw an sv dv n0 n1 n2 n3 n4 g0 gs gn gm) (@HAppend.hAppend va_W va_W va_W _ (rnV (xa 8) ag dg) ([((xa 5), .inl (X.2.1, 3, .inl fr))])))) sz) (va_A (@HAppend.hAppend va_W va_W va_W _ (xW h0 nw sp xa la lb) (@HAppend.hAppend va_W va_W va_W _ (rcV X nw an sv dv n0 n1 n2 n3 n4 g0 gs gn gm) (@HAppend.hAppend va_W va_W va_W _ (rnV (xa 8) ag dg) ([((xa 5), .inl (X.2.1, 3, .inl fr))])))) sz) s (@HAppend.hAppend va_W va_W va_W _ (rcV X nw an sv dv n0 n1 n2 n3 n4 g0 gs gn gm) (@HAppend.hAppend va_W va_W va_W _ (rnV (xa 8) ag dg) (@HAppend.hAppend va_W va_W va_W _ (xW h0 nw sp xa la lb) ([((xa 5), .inl (X.2.1, 3, .inl f_68))])))) H locs := G
        exact e_int S zr zlk (vp_nar_int _) G (ag, dg, f_68) [17, 0, 1, 2, 3, 4, 5, 6, 7, 8, 9, 10, 11, 12, 13, 14, 15, 16, 18] rfl rfl (Or.inr rfl) (trivial) dX10_turn_33
    · refine lv_if_eq (tgt := 27) zx zb dX10_turn_15 (by decide) (fun c_69 => ?_) (fun c_69 => absurd (by decide) c_69)
      refine lv_aload_n zx zb dX10_turn_27 rfl (lv_at hl 0 rfl) ?_
      refine lv_bipush (v := (-2)) zx zb dX10_turn_28 (by decide) ?_
      refine b_wi (cells' := 0) (slots' := 0) (wr := @HAppend.hAppend va_W va_W va_W _ (rcV X nw an sv dv n0 n1 n2 n3 n4 g0 gs gn gm) (rnV (xa 8) ag dg)) G rfl rfl [0, 18] [1, 2, 3, 4, 5, 6, 7, 8, 9, 10, 11, 12, 13, 14, 15, 16, 17] rfl rfl rfl rfl (n_V (As := [.int (-2)]) (rest := []) (C := RX10) (T := TX10) (N := 14) (ci := 8) S G (s_refuse l X h0 nw sp xa la lb fr (-2) H.size) gX10_turn_X10_refuse rfl rfl rfl hdV_X10_refuse ⟨Nat.le_of_ble_eq_true rfl, Nat.le_of_ble_eq_true rfl⟩ [0, 18] rfl rfl 0 rfl rfl rfl hl.1 (Nat.le_of_ble_eq_true rfl) dX10_turn_30 ⟨Nat.le_of_ble_eq_true rfl, Nat.le_of_ble_eq_true rfl⟩) (fun r_70 u_70 H locs hp_70 G => ?_)
      obtain ⟨f_70, rfl⟩ : ∃ z, z = u_70 := ⟨_, rfl⟩
      have hq_70 := hp_70
      have G : wd X (va_A (@HAppend.hAppend va_W va_W va_W _ (xW h0 nw sp xa la lb) (@HAppend.hAppend va_W va_W va_W _ (rcV X nw an sv dv n0 n1 n2 n3 n4 g0 gs gn gm) (@HAppend.hAppend va_W va_W va_W _ (rnV (xa 8) ag dg) ([((xa 5), .inl (X.2.1, 3, .inl fr))])))) sz) (va_A (@HAppend.hAppend va_W va_W va_W _ (xW h0 nw sp xa la lb) (@HAppend.hAppend va_W va_W va_W _ (rcV X nw an sv dv n0 n1 n2 n3 n4 g0 gs gn gm) (@HAppend.hAppend va_W va_W va_W _ (rnV (xa 8) ag dg) ([((xa 5), .inl (X.2.1, 3, .inl fr))])))) sz) s (@HAppend.hAppend va_W va_W va_W _ (rcV X nw an sv dv n0 n1 n2 n3 n4 g0 gs gn gm) (@HAppend.hAppend va_W va_W va_W _ (rnV (xa 8) ag dg) (@HAppend.hAppend va_W va_W va_W _ (xW h0 nw sp xa la lb) ([((xa 5), .inl (X.2.1, 3, .inl f_70))])))) H locs := G
      exact e_int S zr zlk (vp_nar_int _) G (ag, dg, f_70) [17, 0, 1, 2, 3, 4, 5, 6, 7, 8, 9, 10, 11, 12, 13, 14, 15, 16, 18] rfl rfl (Or.inr rfl) (trivial) dX10_turn_33
  · refine lv_if_eq (tgt := 27) zx zb dX10_turn_5 (by decide) (fun c_71 => ?_) (fun c_71 => absurd (by decide) c_71)
    refine lv_aload_n zx zb dX10_turn_27 rfl (lv_at hl 0 rfl) ?_
    refine lv_bipush (v := (-2)) zx zb dX10_turn_28 (by decide) ?_
    refine b_wi (cells' := 0) (slots' := 0) (wr := @HAppend.hAppend va_W va_W va_W _ (rcV X nw an sv dv n0 n1 n2 n3 n4 g0 gs gn gm) (rnV (xa 8) ag dg)) G rfl rfl [0, 18] [1, 2, 3, 4, 5, 6, 7, 8, 9, 10, 11, 12, 13, 14, 15, 16, 17] rfl rfl rfl rfl (n_V (As := [.int (-2)]) (rest := []) (C := RX10) (T := TX10) (N := 14) (ci := 8) S G (s_refuse l X h0 nw sp xa la lb fr (-2) H.size) gX10_turn_X10_refuse rfl rfl rfl hdV_X10_refuse ⟨Nat.le_of_ble_eq_true rfl, Nat.le_of_ble_eq_true rfl⟩ [0, 18] rfl rfl 0 rfl rfl rfl hl.1 (Nat.le_of_ble_eq_true rfl) dX10_turn_30 ⟨Nat.le_of_ble_eq_true rfl, Nat.le_of_ble_eq_true rfl⟩) (fun r_72 u_72 H locs hp_72 G => ?_)
    obtain ⟨f_72, rfl⟩ : ∃ z, z = u_72 := ⟨_, rfl⟩
    have hq_72 := hp_72
    have G : wd X (va_A (@HAppend.hAppend va_W va_W va_W _ (xW h0 nw sp xa la lb) (@HAppend.hAppend va_W va_W va_W _ (rcV X nw an sv dv n0 n1 n2 n3 n4 g0 gs gn gm) (@HAppend.hAppend va_W va_W va_W _ (rnV (xa 8) ag dg) ([((xa 5), .inl (X.2.1, 3, .inl fr))])))) sz) (va_A (@HAppend.hAppend va_W va_W va_W _ (xW h0 nw sp xa la lb) (@HAppend.hAppend va_W va_W va_W _ (rcV X nw an sv dv n0 n1 n2 n3 n4 g0 gs gn gm) (@HAppend.hAppend va_W va_W va_W _ (rnV (xa 8) ag dg) ([((xa 5), .inl (X.2.1, 3, .inl fr))])))) sz) s (@HAppend.hAppend va_W va_W va_W _ (rcV X nw an sv dv n0 n1 n2 n3 n4 g0 gs gn gm) (@HAppend.hAppend va_W va_W va_W _ (rnV (xa 8) ag dg) (@HAppend.hAppend va_W va_W va_W _ (xW h0 nw sp xa la lb) ([((xa 5), .inl (X.2.1, 3, .inl f_72))])))) H locs := G
    exact e_int S zr zlk (vp_nar_int _) G (ag, dg, f_72) [17, 0, 1, 2, 3, 4, 5, 6, 7, 8, 9, 10, 11, 12, 13, 14, 15, 16, 18] rfl rfl (Or.inr rfl) (trivial) dX10_turn_33
theorem in_X9_restart_X9 : ∀ w ∈ wsX90, w ∈ wsX9_restart := by decide +kernel
theorem lk_X9_restart_9 : Cond.fieldLink RX9 9 "EggSpoons$Tally" "counts" "[I" ∈ wsX9_restart := by decide +kernel
theorem lk_X9_restart_15 : Cond.fieldLink RX9 15 "EggSpoons$Tally" "most" "I" ∈ wsX9_restart := by decide +kernel
theorem in_X9_see_X9 : ∀ w ∈ wsX90, w ∈ wsX9_see := by decide +kernel
theorem lk_X9_see_9 : Cond.fieldLink RX9 9 "EggSpoons$Tally" "counts" "[I" ∈ wsX9_see := by decide +kernel
theorem lk_X9_see_15 : Cond.fieldLink RX9 15 "EggSpoons$Tally" "most" "I" ∈ wsX9_see := by decide +kernel
theorem mm_X9_see_ml19 : Cond.methodLink RX9 19 Lib.Math.max.name ∈ wsX9_see := by decide +kernel
theorem mm_X9_see_msmax : Cond.static Lib.Math.max.name ∈ wsX9_see := by decide +kernel
theorem mm_X9_see_mi : Cond.initialized "java/lang/Math" ∈ wsX9_see := by decide +kernel
theorem mm_X9_see_mcmax : Cond.code Lib.Math.max.name Lib.Math.max.code 2 (some .int) ∈ wsX9_see := by decide +kernel
theorem mm_J6_bitCount_0f7a4_c265 : Cond.constant RJ6 265 (1431655765) ∈ wsJ6_bitCount_0f7a4 := by decide +kernel
theorem mm_J6_bitCount_0f7a4_c266 : Cond.constant RJ6 266 (858993459) ∈ wsJ6_bitCount_0f7a4 := by decide +kernel
theorem mm_J6_bitCount_0f7a4_c267 : Cond.constant RJ6 267 (252645135) ∈ wsJ6_bitCount_0f7a4 := by decide +kernel
theorem in_X10_farBy_X8 : ∀ w ∈ wsX80, w ∈ wsX10_farBy := by decide +kernel
theorem lk_X10_farBy_320 : Cond.fieldLink RX10 320 "EggSpoons$Runner" "kind" "I" ∈ wsX10_farBy := by decide +kernel
theorem lk_X10_farBy_328 : Cond.fieldLink RX10 328 "EggSpoons$Runner" "legs" "I" ∈ wsX10_farBy := by decide +kernel
theorem in_X10_seen_X10 : ∀ w ∈ wsX100, w ∈ wsX10_seen := by decide +kernel
theorem lk_X10_seen_10 : Cond.fieldLink RX10 10 "EggSpoons" "now" "LEggSpoons$Race;" ∈ wsX10_seen := by decide +kernel
theorem in_X10_seen_X5 : ∀ w ∈ wsX50, w ∈ wsX10_seen := by decide +kernel
theorem lk_X10_seen_185 : Cond.fieldLink RX10 185 "EggSpoons$Race" "seenRows" "LEggSpoons$Rows;" ∈ wsX10_seen := by decide +kernel
theorem hdV_X7_append : yX7_append.cls = RX7 ∧ yX7_append.cls ≠ "java/lang/invoke/MethodHandle" ∧ yX7_append.cls ≠ "java/lang/invoke/VarHandle" ∧ (parseMethodDescriptor yX7_append.desc).map (fun d => d.parameters.length) = some 5 := by decide +kernel
theorem in_X10_seen_X7 : ∀ w ∈ wsX70, w ∈ wsX10_seen := by decide +kernel
theorem lk_X10_seen_194 : Cond.fieldLink RX10 194 "EggSpoons$Rows" "size" "I" ∈ wsX10_seen := by decide +kernel
theorem in_X10_note_X10 : ∀ w ∈ wsX100, w ∈ wsX10_note := by decide +kernel
theorem lk_X10_note_10 : Cond.fieldLink RX10 10 "EggSpoons" "now" "LEggSpoons$Race;" ∈ wsX10_note := by decide +kernel
theorem in_X10_note_X5 : ∀ w ∈ wsX50, w ∈ wsX10_note := by decide +kernel
theorem lk_X10_note_212 : Cond.fieldLink RX10 212 "EggSpoons$Race" "noteRows" "LEggSpoons$Rows;" ∈ wsX10_note := by decide +kernel
theorem in_X10_note_X7 : ∀ w ∈ wsX70, w ∈ wsX10_note := by decide +kernel
theorem lk_X10_note_194 : Cond.fieldLink RX10 194 "EggSpoons$Rows" "size" "I" ∈ wsX10_note := by decide +kernel
theorem in_X10_mark_X10 : ∀ w ∈ wsX100, w ∈ wsX10_mark := by decide +kernel
theorem lk_X10_mark_10 : Cond.fieldLink RX10 10 "EggSpoons" "now" "LEggSpoons$Race;" ∈ wsX10_mark := by decide +kernel
theorem in_X10_mark_X5 : ∀ w ∈ wsX50, w ∈ wsX10_mark := by decide +kernel
theorem lk_X10_mark_215 : Cond.fieldLink RX10 215 "EggSpoons$Race" "markRows" "LEggSpoons$Rows;" ∈ wsX10_mark := by decide +kernel
theorem in_X10_mark_X7 : ∀ w ∈ wsX70, w ∈ wsX10_mark := by decide +kernel
theorem lk_X10_mark_194 : Cond.fieldLink RX10 194 "EggSpoons$Rows" "size" "I" ∈ wsX10_mark := by decide +kernel
theorem in_X10_forget_X10 : ∀ w ∈ wsX100, w ∈ wsX10_forget := by decide +kernel
theorem lk_X10_forget_10 : Cond.fieldLink RX10 10 "EggSpoons" "now" "LEggSpoons$Race;" ∈ wsX10_forget := by decide +kernel
theorem in_X10_forget_X5 : ∀ w ∈ wsX50, w ∈ wsX10_forget := by decide +kernel
theorem lk_X10_forget_215 : Cond.fieldLink RX10 215 "EggSpoons$Race" "markRows" "LEggSpoons$Rows;" ∈ wsX10_forget := by decide +kernel
theorem in_X10_forget_X7 : ∀ w ∈ wsX70, w ∈ wsX10_forget := by decide +kernel
theorem lk_X10_forget_194 : Cond.fieldLink RX10 194 "EggSpoons$Rows" "size" "I" ∈ wsX10_forget := by decide +kernel
theorem lk_X10_forget_212 : Cond.fieldLink RX10 212 "EggSpoons$Race" "noteRows" "LEggSpoons$Rows;" ∈ wsX10_forget := by decide +kernel
theorem lk_X10_forget_185 : Cond.fieldLink RX10 185 "EggSpoons$Race" "seenRows" "LEggSpoons$Rows;" ∈ wsX10_forget := by decide +kernel
set_option maxHeartbeats 4000000 in
set_option maxRecDepth 100000 in
/-- forget -/
theorem s_forget (l : Launch) (X : EX) (h0 : Nat) (nw : Nat) (sp : Nat) (xa : Nat → Nat) (la : Int64) (lb : Int64) (an : Nat → Nat) (sv : Nat → Int32) (dv : Nat → Int32) (n0 : Nat) (n1 : Nat) (n2 : Nat) (n3 : Nat) (n4 : Nat) (g0 : Nat → Int32) (gs : Nat → Int32) (gn : Nat → Int32) (gm : Nat → Int32) (fr : Nat → Int32) (x1 : Int32) (hI_n0 : n0 ≤ 6) (hI_n1 : n1 ≤ 8) (hI_n2 : n2 ≤ 5) (hI_n3 : n3 ≤ 6) (hI_n4 : n4 ≤ 6) (sz : Nat) : Met l yX10_forget wsX10_forget ({ frames := 1, cells := 0, slots := 0, locals := 22 } : Room) (pE X [.ref h0, .int x1] (@HAppend.hAppend va_W va_W va_W _ (xW h0 nw sp xa la lb) (@HAppend.hAppend va_W va_W va_W _ (rcV X nw an sv dv n0 n1 n2 n3 n4 g0 gs gn gm) ([((xa 5), .inl (X.2.1, 3, .inl fr))]))) sz) (qI (fun (r : Int32) (u : (Nat) × (Nat) × (Nat) × (Nat → Int32)) => u.1 ≤ 5 ∧ u.2.1 ≤ 6 ∧ u.2.2.1 ≤ 6 ∧ ((r, (u.1, u.2.1, u.2.2.1)) = forF x1 n2 n3 n4)) X (fun (u : (Nat) × (Nat) × (Nat) × (Nat → Int32)) => @HAppend.hAppend va_W va_W va_W _ (xW h0 nw sp xa la lb) (@HAppend.hAppend va_W va_W va_W _ (rcV X nw an sv dv n0 n1 u.1 u.2.1 u.2.2.1 g0 gs gn gm) ([((xa 5), .inl (X.2.1, 3, .inl u.2.2.2))]))) (@HAppend.hAppend va_W va_W va_W _ (xW h0 nw sp xa la lb) (@HAppend.hAppend va_W va_W va_W _ (rcV X nw an sv dv n0 n1 n2 n3 n4 g0 gs gn gm) ([((xa 5), .inl (X.2.1, 3, .inl fr))]))) sz) 0 0 (va_A (@HAppend.hAppend va_W va_W va_W _ (xW h0 nw sp xa la lb) (@HAppend.hAppend va_W va_W va_W _ (rcV X nw an sv dv n0 n1 n2 n3 n4 g0 gs gn gm) ([((xa 5), .inl (X.2.1, 3, .inl fr))]))) sz) := by
  refine mk_met (B := (va_A (@HAppend.hAppend va_W va_W va_W _ (xW h0 nw sp xa la lb) (@HAppend.hAppend va_W va_W va_W _ (rcV X nw an sv dv n0 n1 n2 n3 n4 g0 gs gn gm) ([((xa 5), .inl (X.2.1, 3, .inl fr))]))) sz)) (A := (va_A (@HAppend.hAppend va_W va_W va_W _ (xW h0 nw sp xa la lb) (@HAppend.hAppend va_W va_W va_W _ (rcV X nw an sv dv n0 n1 n2 n3 n4 g0 gs gn gm) ([((xa 5), .inl (X.2.1, 3, .inl fr))]))) sz)) (cc := cX10_forget) (maxL := 4) (ret := (some .int)) (by decide) rfl (Nat.le_of_ble_eq_true rfl) k_w k_a (fun p e s m below meth c S zr zlk znm zsz G ls hl => ?_)
  have S : CallFix p m c cX10_forget 4 s _ wsX10_forget RX10 := S
  have zx := S.1
  have zb := S.2.1
  have hl : lv_has ls 4 [(0, .ref h0), (1, .int x1)] := hl
  refine lv_iload_n zx zb dX10_forget_0 rfl (lv_at hl 1 rfl) ?_
  refine lv_iconst (v := 0) zx zb dX10_forget_1 (by decide) ?_
  refine lv_iconst (v := 2) zx zb dX10_forget_2 (by decide) ?_
  refine o_ri (cells' := 0) (slots' := 0) G rfl rfl (n_S (As := [.int x1, .int 0, .int 2]) (rest := []) S G (s_within l X x1 0 2 s.heap.size) gX10_forget_X10_within rfl rfl rfl hdS_X10_within ⟨Nat.le_of_ble_eq_true rfl, Nat.le_of_ble_eq_true rfl⟩ [] rfl rfl rfl hl.1 (Nat.le_of_ble_eq_true rfl) dX10_forget_3 ⟨Nat.le_of_ble_eq_true rfl, Nat.le_of_ble_eq_true rfl⟩) (fun r_1 u_1 H locs hp_1 G => ?_)
  have G : wd X (va_A (@HAppend.hAppend va_W va_W va_W _ (xW h0 nw sp xa la lb) (@HAppend.hAppend va_W va_W va_W _ (rcV X nw an sv dv n0 n1 n2 n3 n4 g0 gs gn gm) ([((xa 5), .inl (X.2.1, 3, .inl fr))]))) sz) (va_A (@HAppend.hAppend va_W va_W va_W _ (xW h0 nw sp xa la lb) (@HAppend.hAppend va_W va_W va_W _ (rcV X nw an sv dv n0 n1 n2 n3 n4 g0 gs gn gm) ([((xa 5), .inl (X.2.1, 3, .inl fr))]))) sz) s (@HAppend.hAppend va_W va_W va_W _ (xW h0 nw sp xa la lb) (@HAppend.hAppend va_W va_W va_W _ (rcV X nw an sv dv n0 n1 n2 n3 n4 g0 gs gn gm) ([((xa 5), .inl (X.2.1, 3, .inl fr))]))) H locs := G
  rcases hp_1 with ⟨rfl, hw_1⟩ | ⟨rfl, hw_1⟩
  · refine lv_if_ne (tgt := 16) zx zb dX10_forget_6 (by decide) (fun c_2 => ?_) (fun c_2 => absurd c_2 (by decide))
    refine lv_iload_n zx zb dX10_forget_16 rfl (lv_at hl 1 rfl) ?_
    refine lv_if_ne (tgt := 30) zx zb dX10_forget_17 (by decide) (fun c_3 => ?_) (fun c_3 => ?_)
    · refine lv_iload_n zx zb dX10_forget_30 rfl (lv_at hl 1 rfl) ?_
      refine lv_iconst (v := 1) zx zb dX10_forget_31 (by decide) ?_
      refine lv_icmp_ne (tgt := 45) zx zb dX10_forget_32 (by decide) (fun c_4 => ?_) (fun c_4 => ?_)
      · refine lv_aload_n zx zb dX10_forget_45 rfl (lv_at hl 0 rfl) ?_
        refine r_get (C := RX10) (T := TX10) (N := 14) (ci := 8) (v := .ref nw) S in_X10_forget_X10 G 0 rfl rfl 0 (by decide) lk_X10_forget_10 rfl dX10_forget_46 ?_
        refine r_get (C := RX5) (T := TX5) (N := 8) (ci := 3) (v := .ref (an 13)) S in_X10_forget_X5 G 1 rfl rfl 7 (by decide) lk_X10_forget_215 rfl dX10_forget_49 ?_
        refine lv_astore_n (lv' := [(2, .ref (an 13)), (0, .ref h0), (1, .int x1)]) zx zb dX10_forget_52 rfl hl (by decide) rfl (fun ls hl => ?_)
        refine lv_aload_n zx zb dX10_forget_53 rfl (lv_at hl 0 rfl) ?_
        refine r_get (C := RX7) (T := TX7) (N := 5) (ci := 5) (v := .int (nI n4)) S in_X10_forget_X7 G 15 rfl rfl 4 (by decide) lk_X10_forget_194 rfl dX10_forget_54 ?_
        refine lv_istore_n (lv' := [(3, .int (nI n4)), (2, .ref (an 13)), (0, .ref h0), (1, .int x1)]) zx zb dX10_forget_57 rfl hl (by decide) rfl (fun ls hl => ?_)
        refine lv_aload_n zx zb dX10_forget_58 rfl (lv_at hl 1 rfl) ?_
        refine lv_iconst (v := 0) zx zb dX10_forget_59 (by decide) ?_
        refine r_put (C := RX7) (T := TX7) (N := 5) (ci := 5) (v := .int 0) S in_X10_forget_X7 tyX7_ok nmX7 G 15 rfl rfl 4 (by decide) lk_X10_forget_194 rfl (vp_nar_int _) rfl (Nat.le_of_ble_eq_true rfl) dX10_forget_60 (fun H locs G => ?_)
        obtain ⟨n_5, hI_n_5, hE_n_5, G⟩ : ∃ n_5 : Nat, n_5 ≤ 6 ∧ n_5 = 0 ∧ wd X (va_A (@HAppend.hAppend va_W va_W va_W _ (xW h0 nw sp xa la lb) (@HAppend.hAppend va_W va_W va_W _ (rcV X nw an sv dv n0 n1 n2 n3 n4 g0 gs gn gm) ([((xa 5), .inl (X.2.1, 3, .inl fr))]))) sz) (va_A (@HAppend.hAppend va_W va_W va_W _ (xW h0 nw sp xa la lb) (@HAppend.hAppend va_W va_W va_W _ (rcV X nw an sv dv n0 n1 n2 n3 n4 g0 gs gn gm) ([((xa 5), .inl (X.2.1, 3, .inl fr))]))) sz) s (@HAppend.hAppend va_W va_W va_W _ (xW h0 nw sp xa la lb) (@HAppend.hAppend va_W va_W va_W _ (rcV X nw an sv dv n0 n1 n2 n3 n_5 g0 gs gn gm) ([((xa 5), .inl (X.2.1, 3, .inl fr))]))) H locs := ⟨0, by omega, rfl, G⟩
        refine lv_iload_n zx zb dX10_forget_63 rfl (lv_at hl 0 rfl) ?_
        have hzF : ((nI n4), (n2, n3, n_5)) = forF x1 n2 n3 n4 := by rw [forF_2 (k_is2 hw_1 c_3 c_4), hE_n_5]
        exact e_int S zr zlk (vp_nar_int _) G (n2, n3, n_5, fr) [0, 1, 2, 3, 4, 5, 6, 7, 8, 9, 10, 11, 12, 13, 14, 15, 16, 17] rfl rfl (Or.inr rfl) (⟨hI_n2, hI_n3, hI_n_5, hzF⟩) dX10_forget_64
      · refine lv_aload_n zx zb dX10_forget_35 rfl (lv_at hl 0 rfl) ?_
        refine r_get (C := RX10) (T := TX10) (N := 14) (ci := 8) (v := .ref nw) S in_X10_forget_X10 G 0 rfl rfl 0 (by decide) lk_X10_forget_10 rfl dX10_forget_36 ?_
        refine r_get (C := RX5) (T := TX5) (N := 8) (ci := 3) (v := .ref (an 11)) S in_X10_forget_X5 G 1 rfl rfl 6 (by decide) lk_X10_forget_212 rfl dX10_forget_39 ?_
        refine lv_goto (tgt := 52) zx zb dX10_forget_42 (by decide) ?_
        refine lv_astore_n (lv' := [(2, .ref (an 11)), (0, .ref h0), (1, .int x1)]) zx zb dX10_forget_52 rfl hl (by decide) rfl (fun ls hl => ?_)
        refine lv_aload_n zx zb dX10_forget_53 rfl (lv_at hl 0 rfl) ?_
        refine r_get (C := RX7) (T := TX7) (N := 5) (ci := 5) (v := .int (nI n3)) S in_X10_forget_X7 G 13 rfl rfl 4 (by decide) lk_X10_forget_194 rfl dX10_forget_54 ?_
        refine lv_istore_n (lv' := [(3, .int (nI n3)), (2, .ref (an 11)), (0, .ref h0), (1, .int x1)]) zx zb dX10_forget_57 rfl hl (by decide) rfl (fun ls hl => ?_)
        refine lv_aload_n zx zb dX10_forget_58 rfl (lv_at hl 1 rfl) ?_
        refine lv_iconst (v := 0) zx zb dX10_forget_59 (by decide) ?_
        refine r_put (C := RX7) (T := TX7) (N := 5) (ci := 5) (v := .int 0) S in_X10_forget_X7 tyX7_ok nmX7 G 13 rfl rfl 4 (by decide) lk_X10_forget_194 rfl (vp_nar_int _) rfl (Nat.le_of_ble_eq_true rfl) dX10_forget_60 (fun H locs G => ?_)
        obtain ⟨n_6, hI_n_6, hE_n_6, G⟩ : ∃ n_6 : Nat, n_6 ≤ 6 ∧ n_6 = 0 ∧ wd X (va_A (@HAppend.hAppend va_W va_W va_W _ (xW h0 nw sp xa la lb) (@HAppend.hAppend va_W va_W va_W _ (rcV X nw an sv dv n0 n1 n2 n3 n4 g0 gs gn gm) ([((xa 5), .inl (X.2.1, 3, .inl fr))]))) sz) (va_A (@HAppend.hAppend va_W va_W va_W _ (xW h0 nw sp xa la lb) (@HAppend.hAppend va_W va_W va_W _ (rcV X nw an sv dv n0 n1 n2 n3 n4 g0 gs gn gm) ([((xa 5), .inl (X.2.1, 3, .inl fr))]))) sz) s (@HAppend.hAppend va_W va_W va_W _ (xW h0 nw sp xa la lb) (@HAppend.hAppend va_W va_W va_W _ (rcV X nw an sv dv n0 n1 n2 n_6 n4 g0 gs gn gm) ([((xa 5), .inl (X.2.1, 3, .inl fr))]))) H locs := ⟨0, by omega, rfl, G⟩
        refine lv_iload_n zx zb dX10_forget_63 rfl (lv_at hl 0 rfl) ?_
        have hzF : ((nI n3), (n2, n_6, n4)) = forF x1 n2 n3 n4 := by rw [forF_1 c_4, hE_n_6]
        exact e_int S zr zlk (vp_nar_int _) G (n2, n_6, n4, fr) [0, 1, 2, 3, 4, 5, 6, 7, 8, 9, 10, 11, 12, 13, 14, 15, 16, 17] rfl rfl (Or.inr rfl) (⟨hI_n2, hI_n_6, hI_n4, hzF⟩) dX10_forget_64
    · refine lv_aload_n zx zb dX10_forget_20 rfl (lv_at hl 0 rfl) ?_
      refine r_get (C := RX10) (T := TX10) (N := 14) (ci := 8) (v := .ref nw) S in_X10_forget_X10 G 0 rfl rfl 0 (by decide) lk_X10_forget_10 rfl dX10_forget_21 ?_
      refine r_get (C := RX5) (T := TX5) (N := 8) (ci := 3) (v := .ref (an 9)) S in_X10_forget_X5 G 1 rfl rfl 5 (by decide) lk_X10_forget_185 rfl dX10_forget_24 ?_
      refine lv_goto (tgt := 52) zx zb dX10_forget_27 (by decide) ?_
      refine lv_astore_n (lv' := [(2, .ref (an 9)), (0, .ref h0), (1, .int x1)]) zx zb dX10_forget_52 rfl hl (by decide) rfl (fun ls hl => ?_)
      refine lv_aload_n zx zb dX10_forget_53 rfl (lv_at hl 0 rfl) ?_
      refine r_get (C := RX7) (T := TX7) (N := 5) (ci := 5) (v := .int (nI n2)) S in_X10_forget_X7 G 11 rfl rfl 4 (by decide) lk_X10_forget_194 rfl dX10_forget_54 ?_
      refine lv_istore_n (lv' := [(3, .int (nI n2)), (2, .ref (an 9)), (0, .ref h0), (1, .int x1)]) zx zb dX10_forget_57 rfl hl (by decide) rfl (fun ls hl => ?_)
      refine lv_aload_n zx zb dX10_forget_58 rfl (lv_at hl 1 rfl) ?_
      refine lv_iconst (v := 0) zx zb dX10_forget_59 (by decide) ?_
      refine r_put (C := RX7) (T := TX7) (N := 5) (ci := 5) (v := .int 0) S in_X10_forget_X7 tyX7_ok nmX7 G 11 rfl rfl 4 (by decide) lk_X10_forget_194 rfl (vp_nar_int _) rfl (Nat.le_of_ble_eq_true rfl) dX10_forget_60 (fun H locs G => ?_)
      obtain ⟨n_7, hI_n_7, hE_n_7, G⟩ : ∃ n_7 : Nat, n_7 ≤ 5 ∧ n_7 = 0 ∧ wd X (va_A (@HAppend.hAppend va_W va_W va_W _ (xW h0 nw sp xa la lb) (@HAppend.hAppend va_W va_W va_W _ (rcV X nw an sv dv n0 n1 n2 n3 n4 g0 gs gn gm) ([((xa 5), .inl (X.2.1, 3, .inl fr))]))) sz) (va_A (@HAppend.hAppend va_W va_W va_W _ (xW h0 nw sp xa la lb) (@HAppend.hAppend va_W va_W va_W _ (rcV X nw an sv dv n0 n1 n2 n3 n4 g0 gs gn gm) ([((xa 5), .inl (X.2.1, 3, .inl fr))]))) sz) s (@HAppend.hAppend va_W va_W va_W _ (xW h0 nw sp xa la lb) (@HAppend.hAppend va_W va_W va_W _ (rcV X nw an sv dv n0 n1 n_7 n3 n4 g0 gs gn gm) ([((xa 5), .inl (X.2.1, 3, .inl fr))]))) H locs := ⟨0, by omega, rfl, G⟩
      refine lv_iload_n zx zb dX10_forget_63 rfl (lv_at hl 0 rfl) ?_
      have hzF : ((nI n2), (n_7, n3, n4)) = forF x1 n2 n3 n4 := by rw [forF_0 c_3, hE_n_7]
      exact e_int S zr zlk (vp_nar_int _) G (n_7, n3, n4, fr) [0, 1, 2, 3, 4, 5, 6, 7, 8, 9, 10, 11, 12, 13, 14, 15, 16, 17] rfl rfl (Or.inr rfl) (⟨hI_n_7, hI_n3, hI_n4, hzF⟩) dX10_forget_64
  · refine lv_if_ne (tgt := 16) zx zb dX10_forget_6 (by decide) (fun c_8 => absurd (by decide) c_8) (fun c_8 => ?_)
    refine lv_aload_n zx zb dX10_forget_9 rfl (lv_at hl 0 rfl) ?_
    refine lv_bipush (v := (-2)) zx zb dX10_forget_10 (by decide) ?_
    refine b_wi (cells' := 0) (slots' := 0) (wr := rcV X nw an sv dv n0 n1 n2 n3 n4 g0 gs gn gm) G rfl rfl [0, 17] [1, 2, 3, 4, 5, 6, 7, 8, 9, 10, 11, 12, 13, 14, 15, 16] rfl rfl rfl rfl (n_V (As := [.int (-2)]) (rest := []) (C := RX10) (T := TX10) (N := 14) (ci := 8) S G (s_refuse l X h0 nw sp xa la lb fr (-2) H.size) gX10_forget_X10_refuse rfl rfl rfl hdV_X10_refuse ⟨Nat.le_of_ble_eq_true rfl, Nat.le_of_ble_eq_true rfl⟩ [0, 17] rfl rfl 0 rfl rfl rfl hl.1 (Nat.le_of_ble_eq_true rfl) dX10_forget_12 ⟨Nat.le_of_ble_eq_true rfl, Nat.le_of_ble_eq_true rfl⟩) (fun r_9 u_9 H locs hp_9 G => ?_)
    obtain ⟨f_9, rfl⟩ : ∃ z, z = u_9 := ⟨_, rfl⟩
    have hq_9 := hp_9
    have G : wd X (va_A (@HAppend.hAppend va_W va_W va_W _ (xW h0 nw sp xa la lb) (@HAppend.hAppend va_W va_W va_W _ (rcV X nw an sv dv n0 n1 n2 n3 n4 g0 gs gn gm) ([((xa 5), .inl (X.2.1, 3, .inl fr))]))) sz) (va_A (@HAppend.hAppend va_W va_W va_W _ (xW h0 nw sp xa la lb) (@HAppend.hAppend va_W va_W va_W _ (rcV X nw an sv dv n0 n1 n2 n3 n4 g0 gs gn gm) ([((xa 5), .inl (X.2.1, 3, .inl fr))]))) sz) s (@HAppend.hAppend va_W va_W va_W _ (rcV X nw an sv dv n0 n1 n2 n3 n4 g0 gs gn gm) (@HAppend.hAppend va_W va_W va_W _ (xW h0 nw sp xa la lb) ([((xa 5), .inl (X.2.1, 3, .inl f_9))]))) H locs := G
    have hzF : (r_9, (n2, n3, n4)) = forF x1 n2 n3 n4 := by rw [forF_n (fun h => hw_1 h), hq_9]
    exact e_int S zr zlk (vp_nar_int _) G (n2, n3, n4, f_9) [16, 0, 1, 2, 3, 4, 5, 6, 7, 8, 9, 10, 11, 12, 13, 14, 15, 17] rfl rfl (Or.inr rfl) (⟨hI_n2, hI_n3, hI_n4, hzF⟩) dX10_forget_15
theorem in_X10_is_X10 : ∀ w ∈ wsX100, w ∈ wsX10_is := by decide +kernel
theorem lk_X10_is_10 : Cond.fieldLink RX10 10 "EggSpoons" "now" "LEggSpoons$Race;" ∈ wsX10_is := by decide +kernel
theorem hdV_X5_kindsThatFit : yX5_kindsThatFit.cls = RX5 ∧ yX5_kindsThatFit.cls ≠ "java/lang/invoke/MethodHandle" ∧ yX5_kindsThatFit.cls ≠ "java/lang/invoke/VarHandle" ∧ (parseMethodDescriptor yX5_kindsThatFit.desc).map (fun d => d.parameters.length) = some 1 := by decide +kernel
theorem in_X10_kinds_X10 : ∀ w ∈ wsX100, w ∈ wsX10_kinds := by decide +kernel
theorem lk_X10_kinds_10 : Cond.fieldLink RX10 10 "EggSpoons" "now" "LEggSpoons$Race;" ∈ wsX10_kinds := by decide +kernel
theorem hdV_X5_eggsThatFit : yX5_eggsThatFit.cls = RX5 ∧ yX5_eggsThatFit.cls ≠ "java/lang/invoke/MethodHandle" ∧ yX5_eggsThatFit.cls ≠ "java/lang/invoke/VarHandle" ∧ (parseMethodDescriptor yX5_eggsThatFit.desc).map (fun d => d.parameters.length) = some 1 := by decide +kernel
theorem in_X10_strong_X10 : ∀ w ∈ wsX100, w ∈ wsX10_strong := by decide +kernel
theorem lk_X10_strong_10 : Cond.fieldLink RX10 10 "EggSpoons" "now" "LEggSpoons$Race;" ∈ wsX10_strong := by decide +kernel
theorem hdV_X5_legsThatFit : yX5_legsThatFit.cls = RX5 ∧ yX5_legsThatFit.cls ≠ "java/lang/invoke/MethodHandle" ∧ yX5_legsThatFit.cls ≠ "java/lang/invoke/VarHandle" ∧ (parseMethodDescriptor yX5_legsThatFit.desc).map (fun d => d.parameters.length) = some 1 := by decide +kernel
theorem hdS_X10_hasBit : yX10_hasBit.cls ≠ "java/lang/invoke/MethodHandle" ∧ yX10_hasBit.cls ≠ "java/lang/invoke/VarHandle" ∧ (parseMethodDescriptor yX10_hasBit.desc).map (fun d => d.parameters.length) = some 2 := by decide +kernel
theorem hdS_J6_bitCount_0f7a4 : yJ6_bitCount_0f7a4.cls ≠ "java/lang/invoke/MethodHandle" ∧ yJ6_bitCount_0f7a4.cls ≠ "java/lang/invoke/VarHandle" ∧ (parseMethodDescriptor yJ6_bitCount_0f7a4.desc).map (fun d => d.parameters.length) = some 1 := by decide +kernel
theorem in_X10_part_X10 : ∀ w ∈ wsX100, w ∈ wsX10_part := by decide +kernel
theorem lk_X10_part_42 : Cond.fieldLink RX10 42 "EggSpoons" "below" "J" ∈ wsX10_part := by decide +kernel
theorem lk_X10_part_38 : Cond.fieldLink RX10 38 "EggSpoons" "above" "J" ∈ wsX10_part := by decide +kernel
set_option maxHeartbeats 4000000 in
set_option maxRecDepth 100000 in
/-- part -/
theorem s_part (l : Launch) (X : EX) (h0 : Nat) (nw : Nat) (sp : Nat) (xa : Nat → Nat) (la : Int64) (lb : Int64) (fr : Nat → Int32) (x1 : Int32) (sz : Nat) : Met l yX10_part wsX10_part ({ frames := 1, cells := 0, slots := 0, locals := 22 } : Room) (pE X [.ref h0, .int x1] (@HAppend.hAppend va_W va_W va_W _ (xW h0 nw sp xa la lb) ([((xa 5), .inl (X.2.1, 3, .inl fr))])) sz) (qL (fun (r : Int64) (u : (Nat → Int32)) => (True)) X (fun (u : (Nat → Int32)) => @HAppend.hAppend va_W va_W va_W _ (xW h0 nw sp xa la lb) ([((xa 5), .inl (X.2.1, 3, .inl u))])) (@HAppend.hAppend va_W va_W va_W _ (xW h0 nw sp xa la lb) ([((xa 5), .inl (X.2.1, 3, .inl fr))])) sz) 0 0 (va_A (@HAppend.hAppend va_W va_W va_W _ (xW h0 nw sp xa la lb) ([((xa 5), .inl (X.2.1, 3, .inl fr))])) sz) := by
  refine mk_met (B := (va_A (@HAppend.hAppend va_W va_W va_W _ (xW h0 nw sp xa la lb) ([((xa 5), .inl (X.2.1, 3, .inl fr))])) sz)) (A := (va_A (@HAppend.hAppend va_W va_W va_W _ (xW h0 nw sp xa la lb) ([((xa 5), .inl (X.2.1, 3, .inl fr))])) sz)) (cc := cX10_part) (maxL := 2) (ret := (some .long)) (by decide) rfl (Nat.le_of_ble_eq_true rfl) k_w k_a (fun p e s m below meth c S zr zlk znm zsz G ls hl => ?_)
  have S : CallFix p m c cX10_part 2 s _ wsX10_part RX10 := S
  have zx := S.1
  have zb := S.2.1
  have hl : lv_has ls 2 [(0, .ref h0), (1, .int x1)] := hl
  refine lv_iload_n zx zb dX10_part_0 rfl (lv_at hl 1 rfl) ?_
  refine lv_iconst (v := 0) zx zb dX10_part_1 (by decide) ?_
  refine lv_iconst (v := 1) zx zb dX10_part_2 (by decide) ?_
  refine o_ri (cells' := 0) (slots' := 0) G rfl rfl (n_S (As := [.int x1, .int 0, .int 1]) (rest := []) S G (s_within l X x1 0 1 s.heap.size) gX10_part_X10_within rfl rfl rfl hdS_X10_within ⟨Nat.le_of_ble_eq_true rfl, Nat.le_of_ble_eq_true rfl⟩ [] rfl rfl rfl hl.1 (Nat.le_of_ble_eq_true rfl) dX10_part_3 ⟨Nat.le_of_ble_eq_true rfl, Nat.le_of_ble_eq_true rfl⟩) (fun r_1 u_1 H locs hp_1 G => ?_)
  have G : wd X (va_A (@HAppend.hAppend va_W va_W va_W _ (xW h0 nw sp xa la lb) ([((xa 5), .inl (X.2.1, 3, .inl fr))])) sz) (va_A (@HAppend.hAppend va_W va_W va_W _ (xW h0 nw sp xa la lb) ([((xa 5), .inl (X.2.1, 3, .inl fr))])) sz) s (@HAppend.hAppend va_W va_W va_W _ (xW h0 nw sp xa la lb) ([((xa 5), .inl (X.2.1, 3, .inl fr))])) H locs := G
  rcases hp_1 with ⟨rfl, hw_1⟩ | ⟨rfl, hw_1⟩
  · refine lv_if_ne (tgt := 17) zx zb dX10_part_6 (by decide) (fun c_2 => ?_) (fun c_2 => absurd c_2 (by decide))
    refine lv_iload_n zx zb dX10_part_17 rfl (lv_at hl 1 rfl) ?_
    refine k_cutW (PP := fun Wx => ∀ (x_4 : Int64) (H : Heap) (locs : List Loc) (ls : Array Slot), wd X (va_A (@HAppend.hAppend va_W va_W va_W _ (xW h0 nw sp xa la lb) ([((xa 5), .inl (X.2.1, 3, .inl fr))])) sz) (va_A (@HAppend.hAppend va_W va_W va_W _ (xW h0 nw sp xa la lb) ([((xa 5), .inl (X.2.1, 3, .inl fr))])) sz) s (@HAppend.hAppend va_W va_W va_W _ (xW h0 nw sp xa la lb) ([((xa 5), .inl (X.2.1, 3, .inl fr))])) H locs → lv_has ls 2 [(0, .ref h0), (1, .int x1)] → Wx (F0 m 32 ls [.long x_4]) H locs) ?_ ?_
    · intro join_18
      refine lv_if_ne (tgt := 28) zx zb dX10_part_18 (by decide) (fun c_3 => ?_) (fun c_3 => ?_)
      · refine lv_aload_n zx zb dX10_part_28 rfl (lv_at hl 0 rfl) ?_
        refine r_get (C := RX10) (T := TX10) (N := 14) (ci := 8) (v := .long lb) S in_X10_part_X10 G 0 rfl rfl 7 (by decide) lk_X10_part_42 rfl dX10_part_29 ?_
        exact join_18 lb _ _ _  G hl
      · refine lv_aload_n zx zb dX10_part_21 rfl (lv_at hl 0 rfl) ?_
        refine r_get (C := RX10) (T := TX10) (N := 14) (ci := 8) (v := .long la) S in_X10_part_X10 G 0 rfl rfl 6 (by decide) lk_X10_part_38 rfl dX10_part_22 ?_
        refine lv_goto (tgt := 32) zx zb dX10_part_25 (by decide) ?_
        exact join_18 la _ _ _  G hl
    · intro x_4 H locs ls  G hl
      exact e_long S zr zlk G (fr) [0, 1] rfl rfl (Or.inr rfl) (trivial) dX10_part_32
  · refine lv_if_ne (tgt := 17) zx zb dX10_part_6 (by decide) (fun c_5 => absurd (by decide) c_5) (fun c_5 => ?_)
    refine lv_aload_n zx zb dX10_part_9 rfl (lv_at hl 0 rfl) ?_
    refine lv_bipush (v := (-2)) zx zb dX10_part_10 (by decide) ?_
    refine b_wi (cells' := 0) (slots' := 0) (wr := []) G rfl rfl [0, 1] [] rfl rfl rfl rfl (n_V (As := [.int (-2)]) (rest := []) (C := RX10) (T := TX10) (N := 14) (ci := 8) S G (s_refuse l X h0 nw sp xa la lb fr (-2) H.size) gX10_part_X10_refuse rfl rfl rfl hdV_X10_refuse ⟨Nat.le_of_ble_eq_true rfl, Nat.le_of_ble_eq_true rfl⟩ [0, 1] rfl rfl 0 rfl rfl rfl hl.1 (Nat.le_of_ble_eq_true rfl) dX10_part_12 ⟨Nat.le_of_ble_eq_true rfl, Nat.le_of_ble_eq_true rfl⟩) (fun r_6 u_6 H locs hp_6 G => ?_)
    obtain ⟨f_6, rfl⟩ : ∃ z, z = u_6 := ⟨_, rfl⟩
    have hq_6 := hp_6
    have G : wd X (va_A (@HAppend.hAppend va_W va_W va_W _ (xW h0 nw sp xa la lb) ([((xa 5), .inl (X.2.1, 3, .inl fr))])) sz) (va_A (@HAppend.hAppend va_W va_W va_W _ (xW h0 nw sp xa la lb) ([((xa 5), .inl (X.2.1, 3, .inl fr))])) sz) s (@HAppend.hAppend va_W va_W va_W _ (xW h0 nw sp xa la lb) ([((xa 5), .inl (X.2.1, 3, .inl f_6))])) H locs := G
    refine lv_i2l (v := (Int32.toInt64 r_6)) zx zb dX10_part_15 rfl ?_
    exact e_long S zr zlk G (f_6) [0, 1] rfl rfl (Or.inr rfl) (trivial) dX10_part_16
theorem in_X10_status_X10 : ∀ w ∈ wsX100, w ∈ wsX10_status := by decide +kernel
theorem lk_X10_status_34 : Cond.fieldLink RX10 34 "EggSpoons" "refused" "[I" ∈ wsX10_status := by decide +kernel
set_option maxHeartbeats 4000000 in
set_option maxRecDepth 100000 in
/-- status -/
theorem s_status (l : Launch) (X : EX) (h0 : Nat) (nw : Nat) (sp : Nat) (xa : Nat → Nat) (la : Int64) (lb : Int64) (fr : Nat → Int32) (x1 : Int32) (sz : Nat) : Met l yX10_status wsX10_status ({ frames := 1, cells := 0, slots := 0, locals := 22 } : Room) (pE X [.ref h0, .int x1] (@HAppend.hAppend va_W va_W va_W _ (xW h0 nw sp xa la lb) ([((xa 5), .inl (X.2.1, 3, .inl fr))])) sz) (qI (fun (r : Int32) (u : (Nat → Int32)) => (True)) X (fun (u : (Nat → Int32)) => @HAppend.hAppend va_W va_W va_W _ (xW h0 nw sp xa la lb) ([((xa 5), .inl (X.2.1, 3, .inl u))])) (@HAppend.hAppend va_W va_W va_W _ (xW h0 nw sp xa la lb) ([((xa 5), .inl (X.2.1, 3, .inl fr))])) sz) 0 0 (va_A (@HAppend.hAppend va_W va_W va_W _ (xW h0 nw sp xa la lb) ([((xa 5), .inl (X.2.1, 3, .inl fr))])) sz) := by
  refine mk_met (B := (va_A (@HAppend.hAppend va_W va_W va_W _ (xW h0 nw sp xa la lb) ([((xa 5), .inl (X.2.1, 3, .inl fr))])) sz)) (A := (va_A (@HAppend.hAppend va_W va_W va_W _ (xW h0 nw sp xa la lb) ([((xa 5), .inl (X.2.1, 3, .inl fr))])) sz)) (cc := cX10_status) (maxL := 2) (ret := (some .int)) (by decide) rfl (Nat.le_of_ble_eq_true rfl) k_w k_a (fun p e s m below meth c S zr zlk znm zsz G ls hl => ?_)
  have S : CallFix p m c cX10_status 2 s _ wsX10_status RX10 := S
  have zx := S.1
  have zb := S.2.1
  have hl : lv_has ls 2 [(0, .ref h0), (1, .int x1)] := hl
  refine lv_iload_n zx zb dX10_status_0 rfl (lv_at hl 1 rfl) ?_
  refine lv_iconst (v := 0) zx zb dX10_status_1 (by decide) ?_
  refine lv_iconst (v := 2) zx zb dX10_status_2 (by decide) ?_
  refine o_ri (cells' := 0) (slots' := 0) G rfl rfl (n_S (As := [.int x1, .int 0, .int 2]) (rest := []) S G (s_within l X x1 0 2 s.heap.size) gX10_status_X10_within rfl rfl rfl hdS_X10_within ⟨Nat.le_of_ble_eq_true rfl, Nat.le_of_ble_eq_true rfl⟩ [] rfl rfl rfl hl.1 (Nat.le_of_ble_eq_true rfl) dX10_status_3 ⟨Nat.le_of_ble_eq_true rfl, Nat.le_of_ble_eq_true rfl⟩) (fun r_1 u_1 H locs hp_1 G => ?_)
  have G : wd X (va_A (@HAppend.hAppend va_W va_W va_W _ (xW h0 nw sp xa la lb) ([((xa 5), .inl (X.2.1, 3, .inl fr))])) sz) (va_A (@HAppend.hAppend va_W va_W va_W _ (xW h0 nw sp xa la lb) ([((xa 5), .inl (X.2.1, 3, .inl fr))])) sz) s (@HAppend.hAppend va_W va_W va_W _ (xW h0 nw sp xa la lb) ([((xa 5), .inl (X.2.1, 3, .inl fr))])) H locs := G
  rcases hp_1 with ⟨rfl, hw_1⟩ | ⟨rfl, hw_1⟩
  · refine lv_if_ne (tgt := 18) zx zb dX10_status_6 (by decide) (fun c_2 => ?_) (fun c_2 => absurd c_2 (by decide))
    refine lv_aload_n zx zb dX10_status_18 rfl (lv_at hl 0 rfl) ?_
    refine r_get (C := RX10) (T := TX10) (N := 14) (ci := 8) (v := .ref (xa 5)) S in_X10_status_X10 G 0 rfl rfl 5 (by decide) lk_X10_status_34 rfl dX10_status_19 ?_
    refine lv_iload_n zx zb dX10_status_22 rfl (lv_at hl 1 rfl) ?_
    refine r_iald S G 1 rfl (k_in02 hw_1) rfl dX10_status_23 ?_
    refine k_itE (fun y_3 => ?_)
    exact e_int S zr zlk (vp_nar_int _) G (fr) [0, 1] rfl rfl (Or.inr rfl) (trivial) dX10_status_24
  · refine lv_if_ne (tgt := 18) zx zb dX10_status_6 (by decide) (fun c_4 => absurd (by decide) c_4) (fun c_4 => ?_)
    refine lv_aload_n zx zb dX10_status_9 rfl (lv_at hl 0 rfl) ?_
    refine lv_bipush (v := (-2)) zx zb dX10_status_10 (by decide) ?_
    refine b_wi (cells' := 0) (slots' := 0) (wr := []) G rfl rfl [0, 1] [] rfl rfl rfl rfl (n_V (As := [.int (-2)]) (rest := []) (C := RX10) (T := TX10) (N := 14) (ci := 8) S G (s_refuse l X h0 nw sp xa la lb fr (-2) H.size) gX10_status_X10_refuse rfl rfl rfl hdV_X10_refuse ⟨Nat.le_of_ble_eq_true rfl, Nat.le_of_ble_eq_true rfl⟩ [0, 1] rfl rfl 0 rfl rfl rfl hl.1 (Nat.le_of_ble_eq_true rfl) dX10_status_12 ⟨Nat.le_of_ble_eq_true rfl, Nat.le_of_ble_eq_true rfl⟩) (fun r_5 u_5 H locs hp_5 G => ?_)
    obtain ⟨f_5, rfl⟩ : ∃ z, z = u_5 := ⟨_, rfl⟩
    have hq_5 := hp_5
    have G : wd X (va_A (@HAppend.hAppend va_W va_W va_W _ (xW h0 nw sp xa la lb) ([((xa 5), .inl (X.2.1, 3, .inl fr))])) sz) (va_A (@HAppend.hAppend va_W va_W va_W _ (xW h0 nw sp xa la lb) ([((xa 5), .inl (X.2.1, 3, .inl fr))])) sz) s (@HAppend.hAppend va_W va_W va_W _ (xW h0 nw sp xa la lb) ([((xa 5), .inl (X.2.1, 3, .inl f_5))])) H locs := G
    refine lv_pop zx zb dX10_status_15 rfl ?_
    refine lv_iconst (v := (-1)) zx zb dX10_status_16 (by decide) ?_
    exact e_int S zr zlk (vp_nar_int _) G (f_5) [0, 1] rfl rfl (Or.inr rfl) (trivial) dX10_status_17
theorem in_X10_ticks_X10 : ∀ w ∈ wsX100, w ∈ wsX10_ticks := by decide +kernel
theorem lk_X10_ticks_10 : Cond.fieldLink RX10 10 "EggSpoons" "now" "LEggSpoons$Race;" ∈ wsX10_ticks := by decide +kernel
theorem in_X10_ticks_X5 : ∀ w ∈ wsX50, w ∈ wsX10_ticks := by decide +kernel
theorem lk_X10_ticks_110 : Cond.fieldLink RX10 110 "EggSpoons$Race" "tick" "I" ∈ wsX10_ticks := by decide +kernel
theorem hdV_X5_goOn : yX5_goOn.cls = RX5 ∧ yX5_goOn.cls ≠ "java/lang/invoke/MethodHandle" ∧ yX5_goOn.cls ≠ "java/lang/invoke/VarHandle" ∧ (parseMethodDescriptor yX5_goOn.desc).map (fun d => d.parameters.length) = some 0 := by decide +kernel
theorem hdV_X5_homes : yX5_homes.cls = RX5 ∧ yX5_homes.cls ≠ "java/lang/invoke/MethodHandle" ∧ yX5_homes.cls ≠ "java/lang/invoke/VarHandle" ∧ (parseMethodDescriptor yX5_homes.desc).map (fun d => d.parameters.length) = some 0 := by decide +kernel
set_option maxHeartbeats 4000000 in
set_option maxRecDepth 100000 in
/-- ticks -/
theorem s_ticks (l : Launch) (X : EX) (h0 : Nat) (nw : Nat) (sp : Nat) (xa : Nat → Nat) (la : Int64) (lb : Int64) (an : Nat → Nat) (sv : Nat → Int32) (dv : Nat → Int32) (n0 : Nat) (n1 : Nat) (n2 : Nat) (n3 : Nat) (n4 : Nat) (g0 : Nat → Int32) (gs : Nat → Int32) (gn : Nat → Int32) (gm : Nat → Int32) (fr : Nat → Int32) (x1 : Int32) (hI_n0 : n0 ≤ 6) (hI_n1 : n1 ≤ 8) (hI_n2 : n2 ≤ 5) (hI_n3 : n3 ≤ 6) (hI_n4 : n4 ≤ 6) (sz : Nat) : Met l yX10_ticks wsX10_ticks ({ frames := 3, cells := 0, slots := 0, locals := 105 } : Room) (pE X [.ref h0, .int x1] (@HAppend.hAppend va_W va_W va_W _ (xW h0 nw sp xa la lb) (@HAppend.hAppend va_W va_W va_W _ (rcV X nw an sv dv n0 n1 n2 n3 n4 g0 gs gn gm) ([((xa 5), .inl (X.2.1, 3, .inl fr))]))) sz) (qI (fun (r : Int32) (u : (Nat → Int32) × (Nat) × (Nat → Int32) × (Nat → Int32)) => u.2.1 ≤ 8 ∧ (True)) X (fun (u : (Nat → Int32) × (Nat) × (Nat → Int32) × (Nat → Int32)) => @HAppend.hAppend va_W va_W va_W _ (xW h0 nw sp xa la lb) (@HAppend.hAppend va_W va_W va_W _ (rcV X nw an sv u.1 n0 u.2.1 n2 n3 n4 u.2.2.1 gs gn gm) ([((xa 5), .inl (X.2.1, 3, .inl u.2.2.2))]))) (@HAppend.hAppend va_W va_W va_W _ (xW h0 nw sp xa la lb) (@HAppend.hAppend va_W va_W va_W _ (rcV X nw an sv dv n0 n1 n2 n3 n4 g0 gs gn gm) ([((xa 5), .inl (X.2.1, 3, .inl fr))]))) sz) 0 0 (va_A (@HAppend.hAppend va_W va_W va_W _ (xW h0 nw sp xa la lb) (@HAppend.hAppend va_W va_W va_W _ (rcV X nw an sv dv n0 n1 n2 n3 n4 g0 gs gn gm) ([((xa 5), .inl (X.2.1, 3, .inl fr))]))) sz) := by
  refine mk_met (B := (va_A (@HAppend.hAppend va_W va_W va_W _ (xW h0 nw sp xa la lb) (@HAppend.hAppend va_W va_W va_W _ (rcV X nw an sv dv n0 n1 n2 n3 n4 g0 gs gn gm) ([((xa 5), .inl (X.2.1, 3, .inl fr))]))) sz)) (A := (va_A (@HAppend.hAppend va_W va_W va_W _ (xW h0 nw sp xa la lb) (@HAppend.hAppend va_W va_W va_W _ (rcV X nw an sv dv n0 n1 n2 n3 n4 g0 gs gn gm) ([((xa 5), .inl (X.2.1, 3, .inl fr))]))) sz)) (cc := cX10_ticks) (maxL := 3) (ret := (some .int)) (by decide) rfl (Nat.le_of_ble_eq_true rfl) k_w k_a (fun p e s m below meth c S zr zlk znm zsz G ls hl => ?_)
  have S : CallFix p m c cX10_ticks 3 s _ wsX10_ticks RX10 := S
  have zx := S.1
  have zb := S.2.1
  have hl : lv_has ls 3 [(0, .ref h0), (1, .int x1)] := hl
  refine lv_iload_n zx zb dX10_ticks_0 rfl (lv_at hl 1 rfl) ?_
  refine lv_iconst (v := 1) zx zb dX10_ticks_1 (by decide) ?_
  refine lv_bipush (v := 60) zx zb dX10_ticks_2 (by decide) ?_
  refine o_ri (cells' := 0) (slots' := 0) G rfl rfl (n_S (As := [.int x1, .int 1, .int 60]) (rest := []) S G (s_within l X x1 1 60 s.heap.size) gX10_ticks_X10_within rfl rfl rfl hdS_X10_within ⟨Nat.le_of_ble_eq_true rfl, Nat.le_of_ble_eq_true rfl⟩ [] rfl rfl rfl hl.1 (Nat.le_of_ble_eq_true rfl) dX10_ticks_4 ⟨Nat.le_of_ble_eq_true rfl, Nat.le_of_ble_eq_true rfl⟩) (fun r_1 u_1 H locs hp_1 G => ?_)
  have G : wd X (va_A (@HAppend.hAppend va_W va_W va_W _ (xW h0 nw sp xa la lb) (@HAppend.hAppend va_W va_W va_W _ (rcV X nw an sv dv n0 n1 n2 n3 n4 g0 gs gn gm) ([((xa 5), .inl (X.2.1, 3, .inl fr))]))) sz) (va_A (@HAppend.hAppend va_W va_W va_W _ (xW h0 nw sp xa la lb) (@HAppend.hAppend va_W va_W va_W _ (rcV X nw an sv dv n0 n1 n2 n3 n4 g0 gs gn gm) ([((xa 5), .inl (X.2.1, 3, .inl fr))]))) sz) s (@HAppend.hAppend va_W va_W va_W _ (xW h0 nw sp xa la lb) (@HAppend.hAppend va_W va_W va_W _ (rcV X nw an sv dv n0 n1 n2 n3 n4 g0 gs gn gm) ([((xa 5), .inl (X.2.1, 3, .inl fr))]))) H locs := G
  rcases hp_1 with ⟨rfl, hw_1⟩ | ⟨rfl, hw_1⟩
  · refine lv_if_ne (tgt := 17) zx zb dX10_ticks_7 (by decide) (fun c_2 => ?_) (fun c_2 => absurd c_2 (by decide))
    refine lv_aload_n zx zb dX10_ticks_17 rfl (lv_at hl 0 rfl) ?_
    refine r_get (C := RX10) (T := TX10) (N := 14) (ci := 8) (v := .ref nw) S in_X10_ticks_X10 G 0 rfl rfl 0 (by decide) lk_X10_ticks_10 rfl dX10_ticks_18 ?_
    refine r_get (C := RX5) (T := TX5) (N := 8) (ci := 3) (v := .int (dv 1)) S in_X10_ticks_X5 G 1 rfl rfl 1 (by decide) lk_X10_ticks_110 rfl dX10_ticks_21 ?_
    refine lv_sipush (v := 9999) zx zb dX10_ticks_24 (by decide) ?_
    refine k_cutW (PP := fun Wx => ∀ (n1_4 : Nat) (g0_5 : Nat → Int32) (H : Heap) (locs : List Loc) (ls : Array Slot), n1_4 ≤ 8 → wd X (va_A (@HAppend.hAppend va_W va_W va_W _ (xW h0 nw sp xa la lb) (@HAppend.hAppend va_W va_W va_W _ (rcV X nw an sv dv n0 n1 n2 n3 n4 g0 gs gn gm) ([((xa 5), .inl (X.2.1, 3, .inl fr))]))) sz) (va_A (@HAppend.hAppend va_W va_W va_W _ (xW h0 nw sp xa la lb) (@HAppend.hAppend va_W va_W va_W _ (rcV X nw an sv dv n0 n1 n2 n3 n4 g0 gs gn gm) ([((xa 5), .inl (X.2.1, 3, .inl fr))]))) sz) s (@HAppend.hAppend va_W va_W va_W _ (xW h0 nw sp xa la lb) (@HAppend.hAppend va_W va_W va_W _ (rcV X nw an sv dv n0 n1_4 n2 n3 n4 g0_5 gs gn gm) ([((xa 5), .inl (X.2.1, 3, .inl fr))]))) H locs → lv_has ls 3 [(0, .ref h0), (1, .int x1)] → Wx (F0 m 37 ls []) H locs) ?_ ?_
    · intro join_27
      refine lv_icmp_ge (tgt := 37) zx zb dX10_ticks_27 (by decide) (fun c_3 => ?_) (fun c_3 => ?_)
      · exact join_27 n1 g0 _ _ _ hI_n1 G hl
      · refine lv_aload_n zx zb dX10_ticks_30 rfl (lv_at hl 0 rfl) ?_
        refine r_get (C := RX10) (T := TX10) (N := 14) (ci := 8) (v := .ref nw) S in_X10_ticks_X10 G 0 rfl rfl 0 (by decide) lk_X10_ticks_10 rfl dX10_ticks_31 ?_
        refine b_wv (cells' := 0) (slots' := 0) (wr := @HAppend.hAppend va_W va_W va_W _ (xW h0 nw sp xa la lb) ([((xa 5), .inl (X.2.1, 3, .inl fr))])) G rfl rfl [1, 2, 3, 4, 5, 6, 7, 8, 9, 10, 11, 12, 13, 14, 15, 16] [0, 17] rfl rfl rfl rfl (n_V (As := []) (rest := []) (C := RX5) (T := TX5) (N := 8) (ci := 3) S G (s_keep l X nw an sv dv n0 n1 n2 n3 n4 g0 gs gn gm hI_n0 hI_n1 hI_n2 hI_n3 hI_n4 H.size) gX10_ticks_X5_keep rfl rfl rfl hdV_X5_keep ⟨Nat.le_of_ble_eq_true rfl, Nat.le_of_ble_eq_true rfl⟩ [1, 2, 3, 4, 5, 6, 7, 8, 9, 10, 11, 12, 13, 14, 15, 16] rfl rfl 1 rfl rfl rfl hl.1 (Nat.le_of_ble_eq_true rfl) dX10_ticks_34 ⟨Nat.le_of_ble_eq_true rfl, Nat.le_of_ble_eq_true rfl⟩) (fun u_6 H locs hp_6 G => ?_)
        obtain ⟨n1_6a, g0_6b⟩ := u_6
        try dsimp only at hp_6
        obtain ⟨hI_n1_6a, hq_6⟩ := hp_6
        have G : wd X (va_A (@HAppend.hAppend va_W va_W va_W _ (xW h0 nw sp xa la lb) (@HAppend.hAppend va_W va_W va_W _ (rcV X nw an sv dv n0 n1 n2 n3 n4 g0 gs gn gm) ([((xa 5), .inl (X.2.1, 3, .inl fr))]))) sz) (va_A (@HAppend.hAppend va_W va_W va_W _ (xW h0 nw sp xa la lb) (@HAppend.hAppend va_W va_W va_W _ (rcV X nw an sv dv n0 n1 n2 n3 n4 g0 gs gn gm) ([((xa 5), .inl (X.2.1, 3, .inl fr))]))) sz) s (@HAppend.hAppend va_W va_W va_W _ (xW h0 nw sp xa la lb) (@HAppend.hAppend va_W va_W va_W _ ([((xa 5), .inl (X.2.1, 3, .inl fr))]) (rcV X nw an sv dv n0 n1_6a n2 n3 n4 g0_6b gs gn gm))) H locs := G
        have G : wd X (va_A (@HAppend.hAppend va_W va_W va_W _ (xW h0 nw sp xa la lb) (@HAppend.hAppend va_W va_W va_W _ (rcV X nw an sv dv n0 n1 n2 n3 n4 g0 gs gn gm) ([((xa 5), .inl (X.2.1, 3, .inl fr))]))) sz) (va_A (@HAppend.hAppend va_W va_W va_W _ (xW h0 nw sp xa la lb) (@HAppend.hAppend va_W va_W va_W _ (rcV X nw an sv dv n0 n1 n2 n3 n4 g0 gs gn gm) ([((xa 5), .inl (X.2.1, 3, .inl fr))]))) sz) s (@HAppend.hAppend va_W va_W va_W _ (xW h0 nw sp xa la lb) (@HAppend.hAppend va_W va_W va_W _ (rcV X nw an sv dv n0 n1_6a n2 n3 n4 g0_6b gs gn gm) ([((xa 5), .inl (X.2.1, 3, .inl fr))]))) H locs := wd_sub G [0, 2, 3, 4, 5, 6, 7, 8, 9, 10, 11, 12, 13, 14, 15, 16, 17, 1] rfl rfl
        exact join_27 n1_6a g0_6b _ _ _ hI_n1_6a G hl
    · intro n1_4 g0_5 H locs ls hI_n1_4 G hl
      refine lv_iconst (v := 0) zx zb dX10_ticks_37 (by decide) ?_
      refine lv_istore_n (lv' := [(2, .int 0), (0, .ref h0), (1, .int x1)]) zx zb dX10_ticks_38 rfl hl (by decide) rfl (fun ls hl => ?_)
      refine k_loop (P := ∀ (zm : Nat) (k39 : Nat) (dv39_1 : Nat → Int32) (H : Heap) (locs : List Loc) (ls : Array Slot), 61 + 1 ≤ k39 + zm → (k39 ≤ 61) → wd X (va_A (@HAppend.hAppend va_W va_W va_W _ (xW h0 nw sp xa la lb) (@HAppend.hAppend va_W va_W va_W _ (rcV X nw an sv dv n0 n1 n2 n3 n4 g0 gs gn gm) ([((xa 5), .inl (X.2.1, 3, .inl fr))]))) sz) (va_A (@HAppend.hAppend va_W va_W va_W _ (xW h0 nw sp xa la lb) (@HAppend.hAppend va_W va_W va_W _ (rcV X nw an sv dv n0 n1 n2 n3 n4 g0 gs gn gm) ([((xa 5), .inl (X.2.1, 3, .inl fr))]))) sz) s (@HAppend.hAppend va_W va_W va_W _ (xW h0 nw sp xa la lb) (@HAppend.hAppend va_W va_W va_W _ (rcV X nw an sv dv39_1 n0 n1_4 n2 n3 n4 g0_5 gs gn gm) ([((xa 5), .inl (X.2.1, 3, .inl fr))]))) H locs → lv_has ls 3 [(2, .int (nI k39)), (0, .ref h0), (1, .int x1)] → W p l e _ s m _ below meth c H locs _ _ _ (F0 m 39 ls [])) (fun loop => loop (61 + 1) 0 dv _ _ _ (by omega) (by omega) G hl) ?_
      intro zm
      induction zm with
      | zero => intro k39 dv39_1 H locs ls zz q_hk_k39 _ _; exact absurd zz (by omega)
      | succ zm ih39 =>
        intro k39 dv39_1 H locs ls zm_39 hk_k39 G hl
        refine lv_iload_n zx zb dX10_ticks_39 rfl (lv_at hl 0 rfl) ?_
        refine lv_iload_n zx zb dX10_ticks_40 rfl (lv_at hl 2 rfl) ?_
        refine k_cutW (PP := fun Wx => ∀ (H : Heap) (locs : List Loc) (ls : Array Slot), wd X (va_A (@HAppend.hAppend va_W va_W va_W _ (xW h0 nw sp xa la lb) (@HAppend.hAppend va_W va_W va_W _ (rcV X nw an sv dv n0 n1 n2 n3 n4 g0 gs gn gm) ([((xa 5), .inl (X.2.1, 3, .inl fr))]))) sz) (va_A (@HAppend.hAppend va_W va_W va_W _ (xW h0 nw sp xa la lb) (@HAppend.hAppend va_W va_W va_W _ (rcV X nw an sv dv n0 n1 n2 n3 n4 g0 gs gn gm) ([((xa 5), .inl (X.2.1, 3, .inl fr))]))) sz) s (@HAppend.hAppend va_W va_W va_W _ (xW h0 nw sp xa la lb) (@HAppend.hAppend va_W va_W va_W _ (rcV X nw an sv dv39_1 n0 n1_4 n2 n3 n4 g0_5 gs gn gm) ([((xa 5), .inl (X.2.1, 3, .inl fr))]))) H locs → lv_has ls 3 [(2, .int (nI k39)), (0, .ref h0), (1, .int x1)] → Wx (F0 m 70 ls []) H locs) ?_ ?_
        · intro join_41
          refine lv_icmp_ge (tgt := 70) zx zb dX10_ticks_41 (by decide) (fun c_7 => ?_) (fun c_7 => ?_)
          · exact join_41  _ _ _  G hl
          · have fk_c_7 := k_lt60 (Int32.not_le.mp c_7) hw_1.2 (by omega)
            refine lv_aload_n zx zb dX10_ticks_44 rfl (lv_at hl 1 rfl) ?_
            refine r_get (C := RX10) (T := TX10) (N := 14) (ci := 8) (v := .ref nw) S in_X10_ticks_X10 G 0 rfl rfl 0 (by decide) lk_X10_ticks_10 rfl dX10_ticks_45 ?_
            refine r_get (C := RX5) (T := TX5) (N := 8) (ci := 3) (v := .int (dv39_1 1)) S in_X10_ticks_X5 G 1 rfl rfl 1 (by decide) lk_X10_ticks_110 rfl dX10_ticks_48 ?_
            refine lv_sipush (v := 9999) zx zb dX10_ticks_51 (by decide) ?_
            refine lv_icmp_ge (tgt := 70) zx zb dX10_ticks_54 (by decide) (fun c_8 => ?_) (fun c_8 => ?_)
            · exact join_41  _ _ _  G hl
            · refine lv_aload_n zx zb dX10_ticks_57 rfl (lv_at hl 1 rfl) ?_
              refine r_get (C := RX10) (T := TX10) (N := 14) (ci := 8) (v := .ref nw) S in_X10_ticks_X10 G 0 rfl rfl 0 (by decide) lk_X10_ticks_10 rfl dX10_ticks_58 ?_
              refine b_wv (cells' := 0) (slots' := 0) (wr := @HAppend.hAppend va_W va_W va_W _ (xW h0 nw sp xa la lb) ([((xa 5), .inl (X.2.1, 3, .inl fr))])) G rfl rfl [1, 2, 3, 4, 5, 6, 7, 8, 9, 10, 11, 12, 13, 14, 15, 16] [0, 17] rfl rfl rfl rfl (n_V (As := []) (rest := []) (C := RX5) (T := TX5) (N := 8) (ci := 3) S G (s_goOn l X nw an sv dv39_1 n0 n1_4 n2 n3 n4 g0_5 gs gn gm hI_n0 hI_n1_4 hI_n2 hI_n3 hI_n4 H.size) gX10_ticks_X5_goOn rfl rfl rfl hdV_X5_goOn ⟨Nat.le_of_ble_eq_true rfl, Nat.le_of_ble_eq_true rfl⟩ [1, 2, 3, 4, 5, 6, 7, 8, 9, 10, 11, 12, 13, 14, 15, 16] rfl rfl 1 rfl rfl rfl hl.1 (Nat.le_of_ble_eq_true rfl) dX10_ticks_61 ⟨Nat.le_of_ble_eq_true rfl, Nat.le_of_ble_eq_true rfl⟩) (fun u_9 H locs hp_9 G => ?_)
              obtain ⟨dv_9, rfl⟩ : ∃ z, z = u_9 := ⟨_, rfl⟩
              have hq_9 := hp_9
              have G : wd X (va_A (@HAppend.hAppend va_W va_W va_W _ (xW h0 nw sp xa la lb) (@HAppend.hAppend va_W va_W va_W _ (rcV X nw an sv dv n0 n1 n2 n3 n4 g0 gs gn gm) ([((xa 5), .inl (X.2.1, 3, .inl fr))]))) sz) (va_A (@HAppend.hAppend va_W va_W va_W _ (xW h0 nw sp xa la lb) (@HAppend.hAppend va_W va_W va_W _ (rcV X nw an sv dv n0 n1 n2 n3 n4 g0 gs gn gm) ([((xa 5), .inl (X.2.1, 3, .inl fr))]))) sz) s (@HAppend.hAppend va_W va_W va_W _ (xW h0 nw sp xa la lb) (@HAppend.hAppend va_W va_W va_W _ ([((xa 5), .inl (X.2.1, 3, .inl fr))]) (rcV X nw an sv dv_9 n0 n1_4 n2 n3 n4 g0_5 gs gn gm))) H locs := G
              refine lv_iinc (v := (nI (k39 + 1))) (lv' := [(2, .int (nI (k39 + 1))), (0, .ref h0), (1, .int x1)]) zx zb dX10_ticks_64 hl (k := 0) rfl (nI_add k39 1) (by decide) rfl (fun ls hl => ?_)
              refine lv_goto (tgt := 39) zx zb dX10_ticks_67 (by decide) ?_
              have G : wd X (va_A (@HAppend.hAppend va_W va_W va_W _ (xW h0 nw sp xa la lb) (@HAppend.hAppend va_W va_W va_W _ (rcV X nw an sv dv n0 n1 n2 n3 n4 g0 gs gn gm) ([((xa 5), .inl (X.2.1, 3, .inl fr))]))) sz) (va_A (@HAppend.hAppend va_W va_W va_W _ (xW h0 nw sp xa la lb) (@HAppend.hAppend va_W va_W va_W _ (rcV X nw an sv dv n0 n1 n2 n3 n4 g0 gs gn gm) ([((xa 5), .inl (X.2.1, 3, .inl fr))]))) sz) s (@HAppend.hAppend va_W va_W va_W _ (xW h0 nw sp xa la lb) (@HAppend.hAppend va_W va_W va_W _ (rcV X nw an sv dv_9 n0 n1_4 n2 n3 n4 g0_5 gs gn gm) ([((xa 5), .inl (X.2.1, 3, .inl fr))]))) H locs := wd_sub G [0, 2, 3, 4, 5, 6, 7, 8, 9, 10, 11, 12, 13, 14, 15, 16, 17, 1] rfl rfl
              exact ih39 (k39 + 1) dv_9 _ _ _ (by omega) (by omega) G hl
        · intro  H locs ls  G hl
          refine lv_aload_n zx zb dX10_ticks_70 rfl (lv_at hl 1 rfl) ?_
          refine r_get (C := RX10) (T := TX10) (N := 14) (ci := 8) (v := .ref nw) S in_X10_ticks_X10 G 0 rfl rfl 0 (by decide) lk_X10_ticks_10 rfl dX10_ticks_71 ?_
          refine o_ri (cells' := 0) (slots' := 0) G rfl rfl (n_V (As := []) (rest := []) (C := RX5) (T := TX5) (N := 8) (ci := 3) S G (s_homes l X nw an sv dv39_1 n0 n1_4 n2 n3 n4 g0_5 gs gn gm hI_n0 hI_n1_4 hI_n2 hI_n3 hI_n4 H.size) gX10_ticks_X5_homes rfl rfl rfl hdV_X5_homes ⟨Nat.le_of_ble_eq_true rfl, Nat.le_of_ble_eq_true rfl⟩ [1, 2, 3, 4, 5, 6, 7, 8, 9, 10, 11, 12, 13, 14, 15, 16] rfl rfl 1 rfl rfl rfl hl.1 (Nat.le_of_ble_eq_true rfl) dX10_ticks_74 ⟨Nat.le_of_ble_eq_true rfl, Nat.le_of_ble_eq_true rfl⟩) (fun r_10 u_10 H locs hp_10 G => ?_)
          have G : wd X (va_A (@HAppend.hAppend va_W va_W va_W _ (xW h0 nw sp xa la lb) (@HAppend.hAppend va_W va_W va_W _ (rcV X nw an sv dv n0 n1 n2 n3 n4 g0 gs gn gm) ([((xa 5), .inl (X.2.1, 3, .inl fr))]))) sz) (va_A (@HAppend.hAppend va_W va_W va_W _ (xW h0 nw sp xa la lb) (@HAppend.hAppend va_W va_W va_W _ (rcV X nw an sv dv n0 n1 n2 n3 n4 g0 gs gn gm) ([((xa 5), .inl (X.2.1, 3, .inl fr))]))) sz) s (@HAppend.hAppend va_W va_W va_W _ (xW h0 nw sp xa la lb) (@HAppend.hAppend va_W va_W va_W _ (rcV X nw an sv dv39_1 n0 n1_4 n2 n3 n4 g0_5 gs gn gm) ([((xa 5), .inl (X.2.1, 3, .inl fr))]))) H locs := G
          exact e_int S zr zlk (vp_nar_int _) G (dv39_1, n1_4, g0_5, fr) [0, 1, 2, 3, 4, 5, 6, 7, 8, 9, 10, 11, 12, 13, 14, 15, 16, 17] rfl rfl (Or.inr rfl) (⟨hI_n1_4, trivial⟩) dX10_ticks_77
  · refine lv_if_ne (tgt := 17) zx zb dX10_ticks_7 (by decide) (fun c_11 => absurd (by decide) c_11) (fun c_11 => ?_)
    refine lv_aload_n zx zb dX10_ticks_10 rfl (lv_at hl 0 rfl) ?_
    refine lv_bipush (v := (-2)) zx zb dX10_ticks_11 (by decide) ?_
    refine b_wi (cells' := 0) (slots' := 0) (wr := rcV X nw an sv dv n0 n1 n2 n3 n4 g0 gs gn gm) G rfl rfl [0, 17] [1, 2, 3, 4, 5, 6, 7, 8, 9, 10, 11, 12, 13, 14, 15, 16] rfl rfl rfl rfl (n_V (As := [.int (-2)]) (rest := []) (C := RX10) (T := TX10) (N := 14) (ci := 8) S G (s_refuse l X h0 nw sp xa la lb fr (-2) H.size) gX10_ticks_X10_refuse rfl rfl rfl hdV_X10_refuse ⟨Nat.le_of_ble_eq_true rfl, Nat.le_of_ble_eq_true rfl⟩ [0, 17] rfl rfl 0 rfl rfl rfl hl.1 (Nat.le_of_ble_eq_true rfl) dX10_ticks_13 ⟨Nat.le_of_ble_eq_true rfl, Nat.le_of_ble_eq_true rfl⟩) (fun r_12 u_12 H locs hp_12 G => ?_)
    obtain ⟨f_12, rfl⟩ : ∃ z, z = u_12 := ⟨_, rfl⟩
    have hq_12 := hp_12
    have G : wd X (va_A (@HAppend.hAppend va_W va_W va_W _ (xW h0 nw sp xa la lb) (@HAppend.hAppend va_W va_W va_W _ (rcV X nw an sv dv n0 n1 n2 n3 n4 g0 gs gn gm) ([((xa 5), .inl (X.2.1, 3, .inl fr))]))) sz) (va_A (@HAppend.hAppend va_W va_W va_W _ (xW h0 nw sp xa la lb) (@HAppend.hAppend va_W va_W va_W _ (rcV X nw an sv dv n0 n1 n2 n3 n4 g0 gs gn gm) ([((xa 5), .inl (X.2.1, 3, .inl fr))]))) sz) s (@HAppend.hAppend va_W va_W va_W _ (rcV X nw an sv dv n0 n1 n2 n3 n4 g0 gs gn gm) (@HAppend.hAppend va_W va_W va_W _ (xW h0 nw sp xa la lb) ([((xa 5), .inl (X.2.1, 3, .inl f_12))]))) H locs := G
    exact e_int S zr zlk (vp_nar_int _) G (dv, n1, g0, f_12) [16, 0, 1, 2, 3, 4, 5, 6, 7, 8, 9, 10, 11, 12, 13, 14, 15, 17] rfl rfl (Or.inr rfl) (⟨hI_n1, trivial⟩) dX10_ticks_16
theorem in_X4_copyFrom_X4 : ∀ w ∈ wsX40, w ∈ wsX4_copyFrom := by decide +kernel
theorem lk_X4_copyFrom_15 : Cond.fieldLink RX4 15 "EggSpoons$Past" "size" "I" ∈ wsX4_copyFrom := by decide +kernel
theorem lk_X4_copyFrom_11 : Cond.fieldLink RX4 11 "EggSpoons$Past" "cells" "[I" ∈ wsX4_copyFrom := by decide +kernel
theorem mm_X4_copyFrom_ml19 : Cond.methodLink RX4 19 arraycopyName ∈ wsX4_copyFrom := by decide +kernel
theorem mm_X4_copyFrom_cn : Cond.native arraycopyName ∈ wsX4_copyFrom := by decide +kernel
theorem mm_X4_copyFrom_cs : Cond.static arraycopyName ∈ wsX4_copyFrom := by decide +kernel
theorem mm_X4_copyFrom_ci : Cond.initialized "java/lang/System" ∈ wsX4_copyFrom := by decide +kernel
set_option maxHeartbeats 4000000 in
set_option maxRecDepth 100000 in
/-- Past.copyFrom -/
theorem s_pcopy (l : Launch) (X : EX) (h0 : Nat) (c0 : Nat) (k0 : Nat) (f0 : Nat → Int32) (h1 : Nat) (c1 : Nat) (k1 : Nat) (f1 : Nat → Int32) (hI_k0 : k0 ≤ 8) (hI_k1 : k1 ≤ 8) (sz : Nat) : Met l yX4_copyFrom wsX4_copyFrom ({ frames := 1, cells := 0, slots := 0, locals := 60 } : Room) (pE X [.ref h0, .ref h1] (@HAppend.hAppend va_W va_W va_W _ ([(h0, .inr (2, [.ref c0, .int (nI k0)])), (c0, .inl (X.2.1, 248, .inl f0))]) ([(h1, .inr (2, [.ref c1, .int (nI k1)])), (c1, .inl (X.2.1, 248, .inl f1))])) sz) (qV (fun (u : (Nat) × (Nat → Int32)) => u.1 ≤ 8 ∧ (True)) X (fun (u : (Nat) × (Nat → Int32)) => @HAppend.hAppend va_W va_W va_W _ ([(h0, .inr (2, [.ref c0, .int (nI u.1)])), (c0, .inl (X.2.1, 248, .inl u.2))]) ([(h1, .inr (2, [.ref c1, .int (nI k1)])), (c1, .inl (X.2.1, 248, .inl f1))])) (@HAppend.hAppend va_W va_W va_W _ ([(h0, .inr (2, [.ref c0, .int (nI k0)])), (c0, .inl (X.2.1, 248, .inl f0))]) ([(h1, .inr (2, [.ref c1, .int (nI k1)])), (c1, .inl (X.2.1, 248, .inl f1))])) sz) 0 0 (va_A (@HAppend.hAppend va_W va_W va_W _ ([(h0, .inr (2, [.ref c0, .int (nI k0)])), (c0, .inl (X.2.1, 248, .inl f0))]) ([(h1, .inr (2, [.ref c1, .int (nI k1)])), (c1, .inl (X.2.1, 248, .inl f1))])) sz) := by
  refine mk_met (B := (va_A (@HAppend.hAppend va_W va_W va_W _ ([(h0, .inr (2, [.ref c0, .int (nI k0)])), (c0, .inl (X.2.1, 248, .inl f0))]) ([(h1, .inr (2, [.ref c1, .int (nI k1)])), (c1, .inl (X.2.1, 248, .inl f1))])) sz)) (A := (va_A (@HAppend.hAppend va_W va_W va_W _ ([(h0, .inr (2, [.ref c0, .int (nI k0)])), (c0, .inl (X.2.1, 248, .inl f0))]) ([(h1, .inr (2, [.ref c1, .int (nI k1)])), (c1, .inl (X.2.1, 248, .inl f1))])) sz)) (cc := cX4_copyFrom) (maxL := 2) (ret := none) (by decide) rfl (Nat.le_of_ble_eq_true rfl) k_w k_a (fun p e s m below meth c S zr zlk znm zsz G ls hl => ?_)
  have S : CallFix p m c cX4_copyFrom 2 s _ wsX4_copyFrom RX4 := S
  have zx := S.1
  have zb := S.2.1
  have hl : lv_has ls 2 [(0, .ref h0), (1, .ref h1)] := hl
  refine lv_aload_n zx zb dX4_copyFrom_0 rfl (lv_at hl 0 rfl) ?_
  refine lv_aload_n zx zb dX4_copyFrom_1 rfl (lv_at hl 1 rfl) ?_
  refine r_get (C := RX4) (T := TX4) (N := 2) (ci := 2) (v := .int (nI k1)) S in_X4_copyFrom_X4 G 2 rfl rfl 1 (by decide) lk_X4_copyFrom_15 rfl dX4_copyFrom_2 ?_
  refine r_put (C := RX4) (T := TX4) (N := 2) (ci := 2) (v := .int (nI k1)) S in_X4_copyFrom_X4 tyX4_ok nmX4 G 0 rfl rfl 1 (by decide) lk_X4_copyFrom_15 rfl (vp_nar_int _) rfl (Nat.le_of_ble_eq_true rfl) dX4_copyFrom_5 (fun H locs G => ?_)
  obtain ⟨n_1, hI_n_1, hE_n_1, G⟩ : ∃ n_1 : Nat, n_1 ≤ 8 ∧ n_1 = k1 ∧ wd X (va_A (@HAppend.hAppend va_W va_W va_W _ ([(h0, .inr (2, [.ref c0, .int (nI k0)])), (c0, .inl (X.2.1, 248, .inl f0))]) ([(h1, .inr (2, [.ref c1, .int (nI k1)])), (c1, .inl (X.2.1, 248, .inl f1))])) sz) (va_A (@HAppend.hAppend va_W va_W va_W _ ([(h0, .inr (2, [.ref c0, .int (nI k0)])), (c0, .inl (X.2.1, 248, .inl f0))]) ([(h1, .inr (2, [.ref c1, .int (nI k1)])), (c1, .inl (X.2.1, 248, .inl f1))])) sz) s (@HAppend.hAppend va_W va_W va_W _ ([(h0, .inr (2, [.ref c0, .int (nI n_1)])), (c0, .inl (X.2.1, 248, .inl f0))]) ([(h1, .inr (2, [.ref c1, .int (nI k1)])), (c1, .inl (X.2.1, 248, .inl f1))])) H locs := ⟨k1, by omega, rfl, G⟩
  refine lv_aload_n zx zb dX4_copyFrom_8 rfl (lv_at hl 1 rfl) ?_
  refine r_get (C := RX4) (T := TX4) (N := 2) (ci := 2) (v := .ref c1) S in_X4_copyFrom_X4 G 2 rfl rfl 0 (by decide) lk_X4_copyFrom_11 rfl dX4_copyFrom_9 ?_
  refine lv_iconst (v := 0) zx zb dX4_copyFrom_12 (by decide) ?_
  refine lv_aload_n zx zb dX4_copyFrom_13 rfl (lv_at hl 0 rfl) ?_
  refine r_get (C := RX4) (T := TX4) (N := 2) (ci := 2) (v := .ref c0) S in_X4_copyFrom_X4 G 0 rfl rfl 0 (by decide) lk_X4_copyFrom_11 rfl dX4_copyFrom_14 ?_
  refine lv_iconst (v := 0) zx zb dX4_copyFrom_17 (by decide) ?_
  refine lv_aload_n zx zb dX4_copyFrom_18 rfl (lv_at hl 1 rfl) ?_
  refine r_get (C := RX4) (T := TX4) (N := 2) (ci := 2) (v := .int (nI k1)) S in_X4_copyFrom_X4 G 2 rfl rfl 1 (by decide) lk_X4_copyFrom_15 rfl dX4_copyFrom_19 ?_
  refine lv_bipush (v := 31) zx zb dX4_copyFrom_22 (by decide) ?_
  refine r_imul (v := (nI (k1 * 31))) S (pk_mul k1 31) dX4_copyFrom_24 ?_
  refine r_copyN (sp := 0) (dp := 0) (n := (k1 * 31)) S hl.1 G mm_X4_copyFrom_ml19 mm_X4_copyFrom_cn mm_X4_copyFrom_cs mm_X4_copyFrom_ci 3 1 rfl rfl (by omega) (by omega) (by omega) (by omega) (by omega) (Nat.le_of_ble_eq_true rfl) (Nat.le_of_ble_eq_true rfl) dX4_copyFrom_25 (fun cw H locs G => ?_)
  obtain ⟨f_2, G⟩ : ∃ f_2 : Nat → Int32, wd X (va_A (@HAppend.hAppend va_W va_W va_W _ ([(h0, .inr (2, [.ref c0, .int (nI k0)])), (c0, .inl (X.2.1, 248, .inl f0))]) ([(h1, .inr (2, [.ref c1, .int (nI k1)])), (c1, .inl (X.2.1, 248, .inl f1))])) sz) (va_A (@HAppend.hAppend va_W va_W va_W _ ([(h0, .inr (2, [.ref c0, .int (nI k0)])), (c0, .inl (X.2.1, 248, .inl f0))]) ([(h1, .inr (2, [.ref c1, .int (nI k1)])), (c1, .inl (X.2.1, 248, .inl f1))])) sz) s (@HAppend.hAppend va_W va_W va_W _ ([(h0, .inr (2, [.ref c0, .int (nI n_1)])), (c0, .inl (X.2.1, 248, .inl f_2))]) ([(h1, .inr (2, [.ref c1, .int (nI k1)])), (c1, .inl (X.2.1, 248, .inl f1))])) H locs := ⟨_, G⟩
  exact e_void S zr zlk G (n_1, f_2) [0, 1, 2, 3] rfl rfl (Or.inr rfl) (⟨hI_n_1, trivial⟩) dX4_copyFrom_28
theorem in_X7_copyFrom_X7 : ∀ w ∈ wsX70, w ∈ wsX7_copyFrom := by decide +kernel
theorem lk_X7_copyFrom_7 : Cond.fieldLink RX7 7 "EggSpoons$Rows" "size" "I" ∈ wsX7_copyFrom := by decide +kernel
theorem lk_X7_copyFrom_23 : Cond.fieldLink RX7 23 "EggSpoons$Rows" "cells" "[I" ∈ wsX7_copyFrom := by decide +kernel
theorem mm_X7_copyFrom_ml27 : Cond.methodLink RX7 27 Lib.Math.min.name ∈ wsX7_copyFrom := by decide +kernel
theorem mm_X7_copyFrom_msmin : Cond.static Lib.Math.min.name ∈ wsX7_copyFrom := by decide +kernel
theorem mm_X7_copyFrom_mi : Cond.initialized "java/lang/Math" ∈ wsX7_copyFrom := by decide +kernel
theorem mm_X7_copyFrom_mcmin : Cond.code Lib.Math.min.name Lib.Math.min.code 2 (some .int) ∈ wsX7_copyFrom := by decide +kernel
theorem mm_X7_copyFrom_ml33 : Cond.methodLink RX7 33 arraycopyName ∈ wsX7_copyFrom := by decide +kernel
theorem mm_X7_copyFrom_cn : Cond.native arraycopyName ∈ wsX7_copyFrom := by decide +kernel
theorem mm_X7_copyFrom_cs : Cond.static arraycopyName ∈ wsX7_copyFrom := by decide +kernel
theorem mm_X7_copyFrom_ci : Cond.initialized "java/lang/System" ∈ wsX7_copyFrom := by decide +kernel
theorem in_X5_copyLine_X5 : ∀ w ∈ wsX50, w ∈ wsX5_copyLine := by decide +kernel
theorem lk_X5_copyLine_9 : Cond.fieldLink RX5 9 "EggSpoons$Race" "length" "I" ∈ wsX5_copyLine := by decide +kernel
theorem lk_X5_copyLine_15 : Cond.fieldLink RX5 15 "EggSpoons$Race" "tick" "I" ∈ wsX5_copyLine := by decide +kernel
theorem lk_X5_copyLine_18 : Cond.fieldLink RX5 18 "EggSpoons$Race" "runners" "I" ∈ wsX5_copyLine := by decide +kernel
theorem lk_X5_copyLine_23 : Cond.fieldLink RX5 23 "EggSpoons$Race" "row" "[LEggSpoons$Runner;" ∈ wsX5_copyLine := by decide +kernel
set_option maxHeartbeats 4000000 in
set_option maxRecDepth 100000 in
/-- copyLine -/
theorem s_copyLine (l : Launch) (X : EX) (h0 : Nat) (adp : Nat → Nat) (svp : Nat → Int32) (dvp : Nat → Int32) (n0p : Nat) (n1p : Nat) (n2p : Nat) (n3p : Nat) (n4p : Nat) (g0p : Nat → Int32) (gsp : Nat → Int32) (gnp : Nat → Int32) (gmp : Nat → Int32) (h1 : Nat) (adq : Nat → Nat) (svq : Nat → Int32) (dvq : Nat → Int32) (n0q : Nat) (n1q : Nat) (n2q : Nat) (n3q : Nat) (n4q : Nat) (g0q : Nat → Int32) (gsq : Nat → Int32) (gnq : Nat → Int32) (gmq : Nat → Int32) (hI_n0p : n0p ≤ 6) (hI_n1p : n1p ≤ 8) (hI_n2p : n2p ≤ 5) (hI_n3p : n3p ≤ 6) (hI_n4p : n4p ≤ 6) (hI_n0q : n0q ≤ 6) (hI_n1q : n1q ≤ 8) (hI_n2q : n2q ≤ 5) (hI_n3q : n3q ≤ 6) (hI_n4q : n4q ≤ 6) (sz : Nat) : Met l yX5_copyLine wsX5_copyLine ({ frames := 1, cells := 0, slots := 0, locals := 21 } : Room) (pE X [.ref h0, .ref h1] (@HAppend.hAppend va_W va_W va_W _ (rcV X h0 adp svp dvp n0p n1p n2p n3p n4p g0p gsp gnp gmp) (rcV X h1 adq svq dvq n0q n1q n2q n3q n4q g0q gsq gnq gmq)) sz) (qV (fun (u : (Nat → Int32) × (Nat → Int32) × (Nat)) => u.2.2 ≤ 6 ∧ (u.2.2 = n0q)) X (fun (u : (Nat → Int32) × (Nat → Int32) × (Nat)) => @HAppend.hAppend va_W va_W va_W _ (rcV X h0 adp u.1 u.2.1 u.2.2 n1p n2p n3p n4p g0p gsp gnp gmp) (rcV X h1 adq svq dvq n0q n1q n2q n3q n4q g0q gsq gnq gmq)) (@HAppend.hAppend va_W va_W va_W _ (rcV X h0 adp svp dvp n0p n1p n2p n3p n4p g0p gsp gnp gmp) (rcV X h1 adq svq dvq n0q n1q n2q n3q n4q g0q gsq gnq gmq)) sz) 0 0 (va_A (@HAppend.hAppend va_W va_W va_W _ (rcV X h0 adp svp dvp n0p n1p n2p n3p n4p g0p gsp gnp gmp) (rcV X h1 adq svq dvq n0q n1q n2q n3q n4q g0q gsq gnq gmq)) sz) := by
  refine mk_met (B := (va_A (@HAppend.hAppend va_W va_W va_W _ (rcV X h0 adp svp dvp n0p n1p n2p n3p n4p g0p gsp gnp gmp) (rcV X h1 adq svq dvq n0q n1q n2q n3q n4q g0q gsq gnq gmq)) sz)) (A := (va_A (@HAppend.hAppend va_W va_W va_W _ (rcV X h0 adp svp dvp n0p n1p n2p n3p n4p g0p gsp gnp gmp) (rcV X h1 adq svq dvq n0q n1q n2q n3q n4q g0q gsq gnq gmq)) sz)) (cc := cX5_copyLine) (maxL := 3) (ret := none) (by decide) rfl (Nat.le_of_ble_eq_true rfl) k_w k_a (fun p e s m below meth c S zr zlk znm zsz G ls hl => ?_)
  have S : CallFix p m c cX5_copyLine 3 s _ wsX5_copyLine RX5 := S
  have zx := S.1
  have zb := S.2.1
  have hl : lv_has ls 3 [(0, .ref h0), (1, .ref h1)] := hl
  refine lv_aload_n zx zb dX5_copyLine_0 rfl (lv_at hl 0 rfl) ?_
  refine lv_aload_n zx zb dX5_copyLine_1 rfl (lv_at hl 1 rfl) ?_
  refine r_get (C := RX5) (T := TX5) (N := 8) (ci := 3) (v := .int (dvq 0)) S in_X5_copyLine_X5 G 16 rfl rfl 0 (by decide) lk_X5_copyLine_9 rfl dX5_copyLine_2 ?_
  refine r_put (C := RX5) (T := TX5) (N := 8) (ci := 3) (v := .int (dvq 0)) S in_X5_copyLine_X5 tyX5_ok nmX5 G 0 rfl rfl 0 (by decide) lk_X5_copyLine_9 rfl (vp_nar_int _) rfl (Nat.le_of_ble_eq_true rfl) dX5_copyLine_5 (fun H locs G => ?_)
  obtain ⟨dv_1, G⟩ : ∃ dv_1 : Nat → Int32, wd X (va_A (@HAppend.hAppend va_W va_W va_W _ (rcV X h0 adp svp dvp n0p n1p n2p n3p n4p g0p gsp gnp gmp) (rcV X h1 adq svq dvq n0q n1q n2q n3q n4q g0q gsq gnq gmq)) sz) (va_A (@HAppend.hAppend va_W va_W va_W _ (rcV X h0 adp svp dvp n0p n1p n2p n3p n4p g0p gsp gnp gmp) (rcV X h1 adq svq dvq n0q n1q n2q n3q n4q g0q gsq gnq gmq)) sz) s (@HAppend.hAppend va_W va_W va_W _ (rcV X h0 adp svp dv_1 n0p n1p n2p n3p n4p g0p gsp gnp gmp) (rcV X h1 adq svq dvq n0q n1q n2q n3q n4q g0q gsq gnq gmq)) H locs := ⟨upd dvp 0 (dvq 0), G⟩
  refine lv_aload_n zx zb dX5_copyLine_8 rfl (lv_at hl 0 rfl) ?_
  refine lv_aload_n zx zb dX5_copyLine_9 rfl (lv_at hl 1 rfl) ?_
  refine r_get (C := RX5) (T := TX5) (N := 8) (ci := 3) (v := .int (dvq 1)) S in_X5_copyLine_X5 G 16 rfl rfl 1 (by decide) lk_X5_copyLine_15 rfl dX5_copyLine_10 ?_
  refine r_put (C := RX5) (T := TX5) (N := 8) (ci := 3) (v := .int (dvq 1)) S in_X5_copyLine_X5 tyX5_ok nmX5 G 0 rfl rfl 1 (by decide) lk_X5_copyLine_15 rfl (vp_nar_int _) rfl (Nat.le_of_ble_eq_true rfl) dX5_copyLine_13 (fun H locs G => ?_)
  obtain ⟨dv_2, G⟩ : ∃ dv_2 : Nat → Int32, wd X (va_A (@HAppend.hAppend va_W va_W va_W _ (rcV X h0 adp svp dvp n0p n1p n2p n3p n4p g0p gsp gnp gmp) (rcV X h1 adq svq dvq n0q n1q n2q n3q n4q g0q gsq gnq gmq)) sz) (va_A (@HAppend.hAppend va_W va_W va_W _ (rcV X h0 adp svp dvp n0p n1p n2p n3p n4p g0p gsp gnp gmp) (rcV X h1 adq svq dvq n0q n1q n2q n3q n4q g0q gsq gnq gmq)) sz) s (@HAppend.hAppend va_W va_W va_W _ (rcV X h0 adp svp dv_2 n0p n1p n2p n3p n4p g0p gsp gnp gmp) (rcV X h1 adq svq dvq n0q n1q n2q n3q n4q g0q gsq gnq gmq)) H locs := ⟨upd dv_1 1 (dvq 1), G⟩
  refine lv_aload_n zx zb dX5_copyLine_16 rfl (lv_at hl 0 rfl) ?_
  refine lv_aload_n zx zb dX5_copyLine_17 rfl (lv_at hl 1 rfl) ?_
  refine r_get (C := RX5) (T := TX5) (N := 8) (ci := 3) (v := .int (nI n0q)) S in_X5_copyLine_X5 G 16 rfl rfl 2 (by decide) lk_X5_copyLine_18 rfl dX5_copyLine_18 ?_
  refine r_put (C := RX5) (T := TX5) (N := 8) (ci := 3) (v := .int (nI n0q)) S in_X5_copyLine_X5 tyX5_ok nmX5 G 0 rfl rfl 2 (by decide) lk_X5_copyLine_18 rfl (vp_nar_int _) rfl (Nat.le_of_ble_eq_true rfl) dX5_copyLine_21 (fun H locs G => ?_)
  obtain ⟨n_3, hI_n_3, hE_n_3, G⟩ : ∃ n_3 : Nat, n_3 ≤ 6 ∧ n_3 = n0q ∧ wd X (va_A (@HAppend.hAppend va_W va_W va_W _ (rcV X h0 adp svp dvp n0p n1p n2p n3p n4p g0p gsp gnp gmp) (rcV X h1 adq svq dvq n0q n1q n2q n3q n4q g0q gsq gnq gmq)) sz) (va_A (@HAppend.hAppend va_W va_W va_W _ (rcV X h0 adp svp dvp n0p n1p n2p n3p n4p g0p gsp gnp gmp) (rcV X h1 adq svq dvq n0q n1q n2q n3q n4q g0q gsq gnq gmq)) sz) s (@HAppend.hAppend va_W va_W va_W _ (rcV X h0 adp svp dv_2 n_3 n1p n2p n3p n4p g0p gsp gnp gmp) (rcV X h1 adq svq dvq n0q n1q n2q n3q n4q g0q gsq gnq gmq)) H locs := ⟨n0q, by omega, rfl, G⟩
  refine lv_iconst (v := 0) zx zb dX5_copyLine_24 (by decide) ?_
  refine lv_istore_n (lv' := [(2, .int 0), (0, .ref h0), (1, .ref h1)]) zx zb dX5_copyLine_25 rfl hl (by decide) rfl (fun ls hl => ?_)
  refine k_loop (P := ∀ (zm : Nat) (k26 : Nat) (sv26_0 : Nat → Int32) (dv26_0 : Nat → Int32) (H : Heap) (locs : List Loc) (ls : Array Slot), 6 + 1 ≤ k26 + zm → (k26 ≤ 6) → wd X (va_A (@HAppend.hAppend va_W va_W va_W _ (rcV X h0 adp svp dvp n0p n1p n2p n3p n4p g0p gsp gnp gmp) (rcV X h1 adq svq dvq n0q n1q n2q n3q n4q g0q gsq gnq gmq)) sz) (va_A (@HAppend.hAppend va_W va_W va_W _ (rcV X h0 adp svp dvp n0p n1p n2p n3p n4p g0p gsp gnp gmp) (rcV X h1 adq svq dvq n0q n1q n2q n3q n4q g0q gsq gnq gmq)) sz) s (@HAppend.hAppend va_W va_W va_W _ (rcV X h0 adp sv26_0 dv26_0 n_3 n1p n2p n3p n4p g0p gsp gnp gmp) (rcV X h1 adq svq dvq n0q n1q n2q n3q n4q g0q gsq gnq gmq)) H locs → lv_has ls 3 [(2, .int (nI k26)), (0, .ref h0), (1, .ref h1)] → W p l e _ s m _ below meth c H locs _ _ _ (F0 m 26 ls [])) (fun loop => loop (6 + 1) 0 svp dv_2 _ _ _ (by omega) (by omega) G hl) ?_
  intro zm
  induction zm with
  | zero => intro k26 sv26_0 dv26_0 H locs ls zz q_hk_k26 _ _; exact absurd zz (by omega)
  | succ zm ih26 =>
    intro k26 sv26_0 dv26_0 H locs ls zm_26 hk_k26 G hl
    refine lv_iload_n zx zb dX5_copyLine_26 rfl (lv_at hl 0 rfl) ?_
    refine lv_bipush (v := 6) zx zb dX5_copyLine_27 (by decide) ?_
    refine lv_icmp_ge (tgt := 53) zx zb dX5_copyLine_29 (by decide) (fun c_4 => ?_) (fun c_4 => ?_)
    · have fc_4 := j_le (a := 6) (b := k26) (by omega) (by omega) c_4
      exact e_void S zr zlk G (sv26_0, dv26_0, n_3) [0, 1, 2, 3, 4, 5, 6, 7, 8, 9, 10, 11, 12, 13, 14, 15, 16, 17, 18, 19, 20, 21, 22, 23, 24, 25, 26, 27, 28, 29, 30, 31] rfl rfl (Or.inr rfl) (⟨hI_n_3, by first | omega | (dsimp only; omega)⟩) dX5_copyLine_53
    · have fc_4 := j_nle (a := 6) (b := k26) (by omega) (by omega) c_4
      refine lv_aload_n zx zb dX5_copyLine_32 rfl (lv_at hl 1 rfl) ?_
      refine r_get (C := RX5) (T := TX5) (N := 8) (ci := 3) (v := .ref (adp 0)) S in_X5_copyLine_X5 G 0 rfl rfl 3 (by decide) lk_X5_copyLine_23 rfl dX5_copyLine_33 ?_
      refine lv_iload_n zx zb dX5_copyLine_36 rfl (lv_at hl 0 rfl) ?_
      rcases k_6c (show k26 < 6 by omega) with rfl | rfl | rfl | rfl | rfl | rfl
      · refine k_it (v := 0) rfl ?_
        refine r_aald (C := RX8) (b := (adp 1)) S G 1 3 rfl rfl (k_vp (by decide)) rfl dX5_copyLine_37 ?_
        refine lv_aload_n zx zb dX5_copyLine_38 rfl (lv_at hl 2 rfl) ?_
        refine r_get (C := RX5) (T := TX5) (N := 8) (ci := 3) (v := .ref (adq 0)) S in_X5_copyLine_X5 G 16 rfl rfl 3 (by decide) lk_X5_copyLine_23 rfl dX5_copyLine_39 ?_
        refine lv_iload_n zx zb dX5_copyLine_42 rfl (lv_at hl 0 rfl) ?_
        refine r_aald (C := RX8) (b := (adq 1)) S G 17 3 rfl rfl (k_vp (by decide)) rfl dX5_copyLine_43 ?_
        refine b_wv (cells' := 0) (slots' := 0) (wr := @HAppend.hAppend va_W va_W va_W _ ([(h0, .inr (3, [.int (dv26_0 0), .int (dv26_0 1), .int (nI n_3), .ref (adp 0), .ref (adp 7), .ref (adp 9), .ref (adp 11), .ref (adp 13)])), ((adp 0), .inl (X.2.2.2.2, 6, .inr (.inr (.inr (.inr (rowQ adp)))))), ((adp 2), .inr (6, [.int (sv26_0 3), .int (sv26_0 4), .int (sv26_0 5), .int (dv26_0 15), .int (dv26_0 16), .int (dv26_0 17), .int (dv26_0 18), .int (dv26_0 19)])), ((adp 3), .inr (6, [.int (sv26_0 6), .int (sv26_0 7), .int (sv26_0 8), .int (dv26_0 20), .int (dv26_0 21), .int (dv26_0 22), .int (dv26_0 23), .int (dv26_0 24)])), ((adp 4), .inr (6, [.int (sv26_0 9), .int (sv26_0 10), .int (sv26_0 11), .int (dv26_0 25), .int (dv26_0 26), .int (dv26_0 27), .int (dv26_0 28), .int (dv26_0 29)])), ((adp 5), .inr (6, [.int (sv26_0 12), .int (sv26_0 13), .int (sv26_0 14), .int (dv26_0 30), .int (dv26_0 31), .int (dv26_0 32), .int (dv26_0 33), .int (dv26_0 34)])), ((adp 6), .inr (6, [.int (sv26_0 15), .int (sv26_0 16), .int (sv26_0 17), .int (dv26_0 35), .int (dv26_0 36), .int (dv26_0 37), .int (dv26_0 38), .int (dv26_0 39)])), ((adp 7), .inr (2, [.ref (adp 8), .int (nI n1p)])), ((adp 8), .inl (X.2.1, 248, .inl g0p)), ((adp 9), .inr (5, [.int 5, .int 0, .int 1, .ref (adp 10), .int (nI n2p)])), ((adp 10), .inl (X.2.1, 25, .inl gsp)), ((adp 11), .inr (5, [.int 6, .int 1, .int 1, .ref (adp 12), .int (nI n3p)])), ((adp 12), .inl (X.2.1, 30, .inl gnp)), ((adp 13), .inr (5, [.int 6, .int 0, .int 0, .ref (adp 14), .int (nI n4p)])), ((adp 14), .inl (X.2.1, 30, .inl gmp))]) ([(h1, .inr (3, [.int (dvq 0), .int (dvq 1), .int (nI n0q), .ref (adq 0), .ref (adq 7), .ref (adq 9), .ref (adq 11), .ref (adq 13)])), ((adq 0), .inl (X.2.2.2.2, 6, .inr (.inr (.inr (.inr (rowQ adq)))))), ((adq 2), .inr (6, [.int (svq 3), .int (svq 4), .int (svq 5), .int (dvq 15), .int (dvq 16), .int (dvq 17), .int (dvq 18), .int (dvq 19)])), ((adq 3), .inr (6, [.int (svq 6), .int (svq 7), .int (svq 8), .int (dvq 20), .int (dvq 21), .int (dvq 22), .int (dvq 23), .int (dvq 24)])), ((adq 4), .inr (6, [.int (svq 9), .int (svq 10), .int (svq 11), .int (dvq 25), .int (dvq 26), .int (dvq 27), .int (dvq 28), .int (dvq 29)])), ((adq 5), .inr (6, [.int (svq 12), .int (svq 13), .int (svq 14), .int (dvq 30), .int (dvq 31), .int (dvq 32), .int (dvq 33), .int (dvq 34)])), ((adq 6), .inr (6, [.int (svq 15), .int (svq 16), .int (svq 17), .int (dvq 35), .int (dvq 36), .int (dvq 37), .int (dvq 38), .int (dvq 39)])), ((adq 7), .inr (2, [.ref (adq 8), .int (nI n1q)])), ((adq 8), .inl (X.2.1, 248, .inl g0q)), ((adq 9), .inr (5, [.int 5, .int 0, .int 1, .ref (adq 10), .int (nI n2q)])), ((adq 10), .inl (X.2.1, 25, .inl gsq)), ((adq 11), .inr (5, [.int 6, .int 1, .int 1, .ref (adq 12), .int (nI n3q)])), ((adq 12), .inl (X.2.1, 30, .inl gnq)), ((adq 13), .inr (5, [.int 6, .int 0, .int 0, .ref (adq 14), .int (nI n4q)])), ((adq 14), .inl (X.2.1, 30, .inl gmq))])) G rfl rfl [2, 18] [0, 1, 3, 4, 5, 6, 7, 8, 9, 10, 11, 12, 13, 14, 15, 16, 17, 19, 20, 21, 22, 23, 24, 25, 26, 27, 28, 29, 30, 31] rfl rfl rfl rfl (n_V (As := [.ref (adq 1)]) (rest := []) (C := RX8) (T := TX8) (N := 8) (ci := 6) S G (s_rcopy l X (adp 1) (fun k => sv26_0 (0 + k)) (fun k => dv26_0 (10 + k)) (adq 1) (fun k => svq (0 + k)) (fun k => dvq (10 + k)) H.size) gX5_copyLine_X8_copyFrom rfl rfl rfl hdV_X8_copyFrom ⟨Nat.le_of_ble_eq_true rfl, Nat.le_of_ble_eq_true rfl⟩ [2, 18] rfl rfl 2 rfl rfl rfl hl.1 (Nat.le_of_ble_eq_true rfl) dX5_copyLine_44 ⟨Nat.le_of_ble_eq_true rfl, Nat.le_of_ble_eq_true rfl⟩) (fun u_5 H locs hp_5 G => ?_)
        obtain ⟨a_5a, d_5b⟩ := u_5
        have hq_5 := hp_5
        obtain ⟨sv_6, dv_7, G⟩ : ∃ (sv_6 : Nat → Int32) (dv_7 : Nat → Int32), wd X (va_A (@HAppend.hAppend va_W va_W va_W _ (rcV X h0 adp svp dvp n0p n1p n2p n3p n4p g0p gsp gnp gmp) (rcV X h1 adq svq dvq n0q n1q n2q n3q n4q g0q gsq gnq gmq)) sz) (va_A (@HAppend.hAppend va_W va_W va_W _ (rcV X h0 adp svp dvp n0p n1p n2p n3p n4p g0p gsp gnp gmp) (rcV X h1 adq svq dvq n0q n1q n2q n3q n4q g0q gsq gnq gmq)) sz) s (@HAppend.hAppend va_W va_W va_W _ (rcV X h0 adp sv_6 dv_7 n_3 n1p n2p n3p n4p g0p gsp gnp gmp) (rcV X h1 adq svq dvq n0q n1q n2q n3q n4q g0q gsq gnq gmq)) H locs := ⟨(ovr sv26_0 0 3 a_5a), (ovr dv26_0 10 5 d_5b), wd_sub G [0, 1, 30, 2, 3, 4, 5, 6, 7, 8, 9, 10, 11, 12, 13, 14, 15, 16, 31, 17, 18, 19, 20, 21, 22, 23, 24, 25, 26, 27, 28, 29] rfl rfl⟩
        refine lv_iinc (v := 1) (lv' := [(2, .int 1), (0, .ref h0), (1, .ref h1)]) zx zb dX5_copyLine_47 hl (k := 0) rfl (by decide) (by decide) rfl (fun ls hl => ?_)
        refine lv_goto (tgt := 26) zx zb dX5_copyLine_50 (by decide) ?_
        exact ih26 1 sv_6 dv_7 _ _ _ (by omega) (by omega) G hl
      · refine k_it (v := 1) rfl ?_
        refine r_aald (C := RX8) (b := (adp 2)) S G 1 3 rfl rfl (k_vp (by decide)) rfl dX5_copyLine_37 ?_
        refine lv_aload_n zx zb dX5_copyLine_38 rfl (lv_at hl 2 rfl) ?_
        refine r_get (C := RX5) (T := TX5) (N := 8) (ci := 3) (v := .ref (adq 0)) S in_X5_copyLine_X5 G 16 rfl rfl 3 (by decide) lk_X5_copyLine_23 rfl dX5_copyLine_39 ?_
        refine lv_iload_n zx zb dX5_copyLine_42 rfl (lv_at hl 0 rfl) ?_
        refine r_aald (C := RX8) (b := (adq 2)) S G 17 3 rfl rfl (k_vp (by decide)) rfl dX5_copyLine_43 ?_
        refine b_wv (cells' := 0) (slots' := 0) (wr := @HAppend.hAppend va_W va_W va_W _ ([(h0, .inr (3, [.int (dv26_0 0), .int (dv26_0 1), .int (nI n_3), .ref (adp 0), .ref (adp 7), .ref (adp 9), .ref (adp 11), .ref (adp 13)])), ((adp 0), .inl (X.2.2.2.2, 6, .inr (.inr (.inr (.inr (rowQ adp)))))), ((adp 1), .inr (6, [.int (sv26_0 0), .int (sv26_0 1), .int (sv26_0 2), .int (dv26_0 10), .int (dv26_0 11), .int (dv26_0 12), .int (dv26_0 13), .int (dv26_0 14)])), ((adp 3), .inr (6, [.int (sv26_0 6), .int (sv26_0 7), .int (sv26_0 8), .int (dv26_0 20), .int (dv26_0 21), .int (dv26_0 22), .int (dv26_0 23), .int (dv26_0 24)])), ((adp 4), .inr (6, [.int (sv26_0 9), .int (sv26_0 10), .int (sv26_0 11), .int (dv26_0 25), .int (dv26_0 26), .int (dv26_0 27), .int (dv26_0 28), .int (dv26_0 29)])), ((adp 5), .inr (6, [.int (sv26_0 12), .int (sv26_0 13), .int (sv26_0 14), .int (dv26_0 30), .int (dv26_0 31), .int (dv26_0 32), .int (dv26_0 33), .int (dv26_0 34)])), ((adp 6), .inr (6, [.int (sv26_0 15), .int (sv26_0 16), .int (sv26_0 17), .int (dv26_0 35), .int (dv26_0 36), .int (dv26_0 37), .int (dv26_0 38), .int (dv26_0 39)])), ((adp 7), .inr (2, [.ref (adp 8), .int (nI n1p)])), ((adp 8), .inl (X.2.1, 248, .inl g0p)), ((adp 9), .inr (5, [.int 5, .int 0, .int 1, .ref (adp 10), .int (nI n2p)])), ((adp 10), .inl (X.2.1, 25, .inl gsp)), ((adp 11), .inr (5, [.int 6, .int 1, .int 1, .ref (adp 12), .int (nI n3p)])), ((adp 12), .inl (X.2.1, 30, .inl gnp)), ((adp 13), .inr (5, [.int 6, .int 0, .int 0, .ref (adp 14), .int (nI n4p)])), ((adp 14), .inl (X.2.1, 30, .inl gmp))]) ([(h1, .inr (3, [.int (dvq 0), .int (dvq 1), .int (nI n0q), .ref (adq 0), .ref (adq 7), .ref (adq 9), .ref (adq 11), .ref (adq 13)])), ((adq 0), .inl (X.2.2.2.2, 6, .inr (.inr (.inr (.inr (rowQ adq)))))), ((adq 1), .inr (6, [.int (svq 0), .int (svq 1), .int (svq 2), .int (dvq 10), .int (dvq 11), .int (dvq 12), .int (dvq 13), .int (dvq 14)])), ((adq 3), .inr (6, [.int (svq 6), .int (svq 7), .int (svq 8), .int (dvq 20), .int (dvq 21), .int (dvq 22), .int (dvq 23), .int (dvq 24)])), ((adq 4), .inr (6, [.int (svq 9), .int (svq 10), .int (svq 11), .int (dvq 25), .int (dvq 26), .int (dvq 27), .int (dvq 28), .int (dvq 29)])), ((adq 5), .inr (6, [.int (svq 12), .int (svq 13), .int (svq 14), .int (dvq 30), .int (dvq 31), .int (dvq 32), .int (dvq 33), .int (dvq 34)])), ((adq 6), .inr (6, [.int (svq 15), .int (svq 16), .int (svq 17), .int (dvq 35), .int (dvq 36), .int (dvq 37), .int (dvq 38), .int (dvq 39)])), ((adq 7), .inr (2, [.ref (adq 8), .int (nI n1q)])), ((adq 8), .inl (X.2.1, 248, .inl g0q)), ((adq 9), .inr (5, [.int 5, .int 0, .int 1, .ref (adq 10), .int (nI n2q)])), ((adq 10), .inl (X.2.1, 25, .inl gsq)), ((adq 11), .inr (5, [.int 6, .int 1, .int 1, .ref (adq 12), .int (nI n3q)])), ((adq 12), .inl (X.2.1, 30, .inl gnq)), ((adq 13), .inr (5, [.int 6, .int 0, .int 0, .ref (adq 14), .int (nI n4q)])), ((adq 14), .inl (X.2.1, 30, .inl gmq))])) G rfl rfl [3, 19] [0, 1, 2, 4, 5, 6, 7, 8, 9, 10, 11, 12, 13, 14, 15, 16, 17, 18, 20, 21, 22, 23, 24, 25, 26, 27, 28, 29, 30, 31] rfl rfl rfl rfl (n_V (As := [.ref (adq 2)]) (rest := []) (C := RX8) (T := TX8) (N := 8) (ci := 6) S G (s_rcopy l X (adp 2) (fun k => sv26_0 (3 + k)) (fun k => dv26_0 (15 + k)) (adq 2) (fun k => svq (3 + k)) (fun k => dvq (15 + k)) H.size) gX5_copyLine_X8_copyFrom rfl rfl rfl hdV_X8_copyFrom ⟨Nat.le_of_ble_eq_true rfl, Nat.le_of_ble_eq_true rfl⟩ [3, 19] rfl rfl 3 rfl rfl rfl hl.1 (Nat.le_of_ble_eq_true rfl) dX5_copyLine_44 ⟨Nat.le_of_ble_eq_true rfl, Nat.le_of_ble_eq_true rfl⟩) (fun u_8 H locs hp_8 G => ?_)
        obtain ⟨a_8a, d_8b⟩ := u_8
        have hq_8 := hp_8
        obtain ⟨sv_9, dv_10, G⟩ : ∃ (sv_9 : Nat → Int32) (dv_10 : Nat → Int32), wd X (va_A (@HAppend.hAppend va_W va_W va_W _ (rcV X h0 adp svp dvp n0p n1p n2p n3p n4p g0p gsp gnp gmp) (rcV X h1 adq svq dvq n0q n1q n2q n3q n4q g0q gsq gnq gmq)) sz) (va_A (@HAppend.hAppend va_W va_W va_W _ (rcV X h0 adp svp dvp n0p n1p n2p n3p n4p g0p gsp gnp gmp) (rcV X h1 adq svq dvq n0q n1q n2q n3q n4q g0q gsq gnq gmq)) sz) s (@HAppend.hAppend va_W va_W va_W _ (rcV X h0 adp sv_9 dv_10 n_3 n1p n2p n3p n4p g0p gsp gnp gmp) (rcV X h1 adq svq dvq n0q n1q n2q n3q n4q g0q gsq gnq gmq)) H locs := ⟨(ovr sv26_0 3 3 a_8a), (ovr dv26_0 15 5 d_8b), wd_sub G [0, 1, 2, 30, 3, 4, 5, 6, 7, 8, 9, 10, 11, 12, 13, 14, 15, 16, 17, 31, 18, 19, 20, 21, 22, 23, 24, 25, 26, 27, 28, 29] rfl rfl⟩
        refine lv_iinc (v := 2) (lv' := [(2, .int 2), (0, .ref h0), (1, .ref h1)]) zx zb dX5_copyLine_47 hl (k := 0) rfl (by decide) (by decide) rfl (fun ls hl => ?_)
        refine lv_goto (tgt := 26) zx zb dX5_copyLine_50 (by decide) ?_
        exact ih26 2 sv_9 dv_10 _ _ _ (by omega) (by omega) G hl
      · refine k_it (v := 2) rfl ?_
        refine r_aald (C := RX8) (b := (adp 3)) S G 1 3 rfl rfl (k_vp (by decide)) rfl dX5_copyLine_37 ?_
        refine lv_aload_n zx zb dX5_copyLine_38 rfl (lv_at hl 2 rfl) ?_
        refine r_get (C := RX5) (T := TX5) (N := 8) (ci := 3) (v := .ref (adq 0)) S in_X5_copyLine_X5 G 16 rfl rfl 3 (by decide) lk_X5_copyLine_23 rfl dX5_copyLine_39 ?_
        refine lv_iload_n zx zb dX5_copyLine_42 rfl (lv_at hl 0 rfl) ?_
        refine r_aald (C := RX8) (b := (adq 3)) S G 17 3 rfl rfl (k_vp (by decide)) rfl dX5_copyLine_43 ?_
        refine b_wv (cells' := 0) (slots' := 0) (wr := @HAppend.hAppend va_W va_W va_W _ ([(h0, .inr (3, [.int (dv26_0 0), .int (dv26_0 1), .int (nI n_3), .ref (adp 0), .ref (adp 7), .ref (adp 9), .ref (adp 11), .ref (adp 13)])), ((adp 0), .inl (X.2.2.2.2, 6, .inr (.inr (.inr (.inr (rowQ adp)))))), ((adp 1), .inr (6, [.int (sv26_0 0), .int (sv26_0 1), .int (sv26_0 2), .int (dv26_0 10), .int (dv26_0 11), .int (dv26_0 12), .int (dv26_0 13), .int (dv26_0 14)])), ((adp 2), .inr (6, [.int (sv26_0 3), .int (sv26_0 4), .int (sv26_0 5), .int (dv26_0 15), .int (dv26_0 16), .int (dv26_0 17), .int (dv26_0 18), .int (dv26_0 19)])), ((adp 4), .inr (6, [.int (sv26_0 9), .int (sv26_0 10), .int (sv26_0 11), .int (dv26_0 25), .int (dv26_0 26), .int (dv26_0 27), .int (dv26_0 28), .int (dv26_0 29)])), ((adp 5), .inr (6, [.int (sv26_0 12), .int (sv26_0 13), .int (sv26_0 14), .int (dv26_0 30), .int (dv26_0 31), .int (dv26_0 32), .int (dv26_0 33), .int (dv26_0 34)])), ((adp 6), .inr (6, [.int (sv26_0 15), .int (sv26_0 16), .int (sv26_0 17), .int (dv26_0 35), .int (dv26_0 36), .int (dv26_0 37), .int (dv26_0 38), .int (dv26_0 39)])), ((adp 7), .inr (2, [.ref (adp 8), .int (nI n1p)])), ((adp 8), .inl (X.2.1, 248, .inl g0p)), ((adp 9), .inr (5, [.int 5, .int 0, .int 1, .ref (adp 10), .int (nI n2p)])), ((adp 10), .inl (X.2.1, 25, .inl gsp)), ((adp 11), .inr (5, [.int 6, .int 1, .int 1, .ref (adp 12), .int (nI n3p)])), ((adp 12), .inl (X.2.1, 30, .inl gnp)), ((adp 13), .inr (5, [.int 6, .int 0, .int 0, .ref (adp 14), .int (nI n4p)])), ((adp 14), .inl (X.2.1, 30, .inl gmp))]) ([(h1, .inr (3, [.int (dvq 0), .int (dvq 1), .int (nI n0q), .ref (adq 0), .ref (adq 7), .ref (adq 9), .ref (adq 11), .ref (adq 13)])), ((adq 0), .inl (X.2.2.2.2, 6, .inr (.inr (.inr (.inr (rowQ adq)))))), ((adq 1), .inr (6, [.int (svq 0), .int (svq 1), .int (svq 2), .int (dvq 10), .int (dvq 11), .int (dvq 12), .int (dvq 13), .int (dvq 14)])), ((adq 2), .inr (6, [.int (svq 3), .int (svq 4), .int (svq 5), .int (dvq 15), .int (dvq 16), .int (dvq 17), .int (dvq 18), .int (dvq 19)])), ((adq 4), .inr (6, [.int (svq 9), .int (svq 10), .int (svq 11), .int (dvq 25), .int (dvq 26), .int (dvq 27), .int (dvq 28), .int (dvq 29)])), ((adq 5), .inr (6, [.int (svq 12), .int (svq 13), .int (svq 14), .int (dvq 30), .int (dvq 31), .int (dvq 32), .int (dvq 33), .int (dvq 34)])), ((adq 6), .inr (6, [.int (svq 15), .int (svq 16), .int (svq 17), .int (dvq 35), .int (dvq 36), .int (dvq 37), .int (dvq 38), .int (dvq 39)])), ((adq 7), .inr (2, [.ref (adq 8), .int (nI n1q)])), ((adq 8), .inl (X.2.1, 248, .inl g0q)), ((adq 9), .inr (5, [.int 5, .int 0, .int 1, .ref (adq 10), .int (nI n2q)])), ((adq 10), .inl (X.2.1, 25, .inl gsq)), ((adq 11), .inr (5, [.int 6, .int 1, .int 1, .ref (adq 12), .int (nI n3q)])), ((adq 12), .inl (X.2.1, 30, .inl gnq)), ((adq 13), .inr (5, [.int 6, .int 0, .int 0, .ref (adq 14), .int (nI n4q)])), ((adq 14), .inl (X.2.1, 30, .inl gmq))])) G rfl rfl [4, 20] [0, 1, 2, 3, 5, 6, 7, 8, 9, 10, 11, 12, 13, 14, 15, 16, 17, 18, 19, 21, 22, 23, 24, 25, 26, 27, 28, 29, 30, 31] rfl rfl rfl rfl (n_V (As := [.ref (adq 3)]) (rest := []) (C := RX8) (T := TX8) (N := 8) (ci := 6) S G (s_rcopy l X (adp 3) (fun k => sv26_0 (6 + k)) (fun k => dv26_0 (20 + k)) (adq 3) (fun k => svq (6 + k)) (fun k => dvq (20 + k)) H.size) gX5_copyLine_X8_copyFrom rfl rfl rfl hdV_X8_copyFrom ⟨Nat.le_of_ble_eq_true rfl, Nat.le_of_ble_eq_true rfl⟩ [4, 20] rfl rfl 4 rfl rfl rfl hl.1 (Nat.le_of_ble_eq_true rfl) dX5_copyLine_44 ⟨Nat.le_of_ble_eq_true rfl, Nat.le_of_ble_eq_true rfl⟩) (fun u_11 H locs hp_11 G => ?_)
        obtain ⟨a_11a, d_11b⟩ := u_11
        have hq_11 := hp_11
        obtain ⟨sv_12, dv_13, G⟩ : ∃ (sv_12 : Nat → Int32) (dv_13 : Nat → Int32), wd X (va_A (@HAppend.hAppend va_W va_W va_W _ (rcV X h0 adp svp dvp n0p n1p n2p n3p n4p g0p gsp gnp gmp) (rcV X h1 adq svq dvq n0q n1q n2q n3q n4q g0q gsq gnq gmq)) sz) (va_A (@HAppend.hAppend va_W va_W va_W _ (rcV X h0 adp svp dvp n0p n1p n2p n3p n4p g0p gsp gnp gmp) (rcV X h1 adq svq dvq n0q n1q n2q n3q n4q g0q gsq gnq gmq)) sz) s (@HAppend.hAppend va_W va_W va_W _ (rcV X h0 adp sv_12 dv_13 n_3 n1p n2p n3p n4p g0p gsp gnp gmp) (rcV X h1 adq svq dvq n0q n1q n2q n3q n4q g0q gsq gnq gmq)) H locs := ⟨(ovr sv26_0 6 3 a_11a), (ovr dv26_0 20 5 d_11b), wd_sub G [0, 1, 2, 3, 30, 4, 5, 6, 7, 8, 9, 10, 11, 12, 13, 14, 15, 16, 17, 18, 31, 19, 20, 21, 22, 23, 24, 25, 26, 27, 28, 29] rfl rfl⟩
        refine lv_iinc (v := 3) (lv' := [(2, .int 3), (0, .ref h0), (1, .ref h1)]) zx zb dX5_copyLine_47 hl (k := 0) rfl (by decide) (by decide) rfl (fun ls hl => ?_)
        refine lv_goto (tgt := 26) zx zb dX5_copyLine_50 (by decide) ?_
        exact ih26 3 sv_12 dv_13 _ _ _ (by omega) (by omega) G hl
      · refine k_it (v := 3) rfl ?_
        refine r_aald (C := RX8) (b := (adp 4)) S G 1 3 rfl rfl (k_vp (by decide)) rfl dX5_copyLine_37 ?_
        refine lv_aload_n zx zb dX5_copyLine_38 rfl (lv_at hl 2 rfl) ?_
        refine r_get (C := RX5) (T := TX5) (N := 8) (ci := 3) (v := .ref (adq 0)) S in_X5_copyLine_X5 G 16 rfl rfl 3 (by decide) lk_X5_copyLine_23 rfl dX5_copyLine_39 ?_
        refine lv_iload_n zx zb dX5_copyLine_42 rfl (lv_at hl 0 rfl) ?_
        refine r_aald (C := RX8) (b := (adq 4)) S G 17 3 rfl rfl (k_vp (by decide)) rfl dX5_copyLine_43 ?_
        refine b_wv (cells' := 0) (slots' := 0) (wr := @HAppend.hAppend va_W va_W va_W _ ([(h0, .inr (3, [.int (dv26_0 0), .int (dv26_0 1), .int (nI n_3), .ref (adp 0), .ref (adp 7), .ref (adp 9), .ref (adp 11), .ref (adp 13)])), ((adp 0), .inl (X.2.2.2.2, 6, .inr (.inr (.inr (.inr (rowQ adp)))))), ((adp 1), .inr (6, [.int (sv26_0 0), .int (sv26_0 1), .int (sv26_0 2), .int (dv26_0 10), .int (dv26_0 11), .int (dv26_0 12), .int (dv26_0 13), .int (dv26_0 14)])), ((adp 2), .inr (6, [.int (sv26_0 3), .int (sv26_0 4), .int (sv26_0 5), .int (dv26_0 15), .int (dv26_0 16), .int (dv26_0 17), .int (dv26_0 18), .int (dv26_0 19)])), ((adp 3), .inr (6, [.int (sv26_0 6), .int (sv26_0 7), .int (sv26_0 8), .int (dv26_0 20), .int (dv26_0 21), .int (dv26_0 22), .int (dv26_0 23), .int (dv26_0 24)])), ((adp 5), .inr (6, [.int (sv26_0 12), .int (sv26_0 13), .int (sv26_0 14), .int (dv26_0 30), .int (dv26_0 31), .int (dv26_0 32), .int (dv26_0 33), .int (dv26_0 34)])), ((adp 6), .inr (6, [.int (sv26_0 15), .int (sv26_0 16), .int (sv26_0 17), .int (dv26_0 35), .int (dv26_0 36), .int (dv26_0 37), .int (dv26_0 38), .int (dv26_0 39)])), ((adp 7), .inr (2, [.ref (adp 8), .int (nI n1p)])), ((adp 8), .inl (X.2.1, 248, .inl g0p)), ((adp 9), .inr (5, [.int 5, .int 0, .int 1, .ref (adp 10), .int (nI n2p)])), ((adp 10), .inl (X.2.1, 25, .inl gsp)), ((adp 11), .inr (5, [.int 6, .int 1, .int 1, .ref (adp 12), .int (nI n3p)])), ((adp 12), .inl (X.2.1, 30, .inl gnp)), ((adp 13), .inr (5, [.int 6, .int 0, .int 0, .ref (adp 14), .int (nI n4p)])), ((adp 14), .inl (X.2.1, 30, .inl gmp))]) ([(h1, .inr (3, [.int (dvq 0), .int (dvq 1), .int (nI n0q), .ref (adq 0), .ref (adq 7), .ref (adq 9), .ref (adq 11), .ref (adq 13)])), ((adq 0), .inl (X.2.2.2.2, 6, .inr (.inr (.inr (.inr (rowQ adq)))))), ((adq 1), .inr (6, [.int (svq 0), .int (svq 1), .int (svq 2), .int (dvq 10), .int (dvq 11), .int (dvq 12), .int (dvq 13), .int (dvq 14)])), ((adq 2), .inr (6, [.int (svq 3), .int (svq 4), .int (svq 5), .int (dvq 15), .int (dvq 16), .int (dvq 17), .int (dvq 18), .int (dvq 19)])), ((adq 3), .inr (6, [.int (svq 6), .int (svq 7), .int (svq 8), .int (dvq 20), .int (dvq 21), .int (dvq 22), .int (dvq 23), .int (dvq 24)])), ((adq 5), .inr (6, [.int (svq 12), .int (svq 13), .int (svq 14), .int (dvq 30), .int (dvq 31), .int (dvq 32), .int (dvq 33), .int (dvq 34)])), ((adq 6), .inr (6, [.int (svq 15), .int (svq 16), .int (svq 17), .int (dvq 35), .int (dvq 36), .int (dvq 37), .int (dvq 38), .int (dvq 39)])), ((adq 7), .inr (2, [.ref (adq 8), .int (nI n1q)])), ((adq 8), .inl (X.2.1, 248, .inl g0q)), ((adq 9), .inr (5, [.int 5, .int 0, .int 1, .ref (adq 10), .int (nI n2q)])), ((adq 10), .inl (X.2.1, 25, .inl gsq)), ((adq 11), .inr (5, [.int 6, .int 1, .int 1, .ref (adq 12), .int (nI n3q)])), ((adq 12), .inl (X.2.1, 30, .inl gnq)), ((adq 13), .inr (5, [.int 6, .int 0, .int 0, .ref (adq 14), .int (nI n4q)])), ((adq 14), .inl (X.2.1, 30, .inl gmq))])) G rfl rfl [5, 21] [0, 1, 2, 3, 4, 6, 7, 8, 9, 10, 11, 12, 13, 14, 15, 16, 17, 18, 19, 20, 22, 23, 24, 25, 26, 27, 28, 29, 30, 31] rfl rfl rfl rfl (n_V (As := [.ref (adq 4)]) (rest := []) (C := RX8) (T := TX8) (N := 8) (ci := 6) S G (s_rcopy l X (adp 4) (fun k => sv26_0 (9 + k)) (fun k => dv26_0 (25 + k)) (adq 4) (fun k => svq (9 + k)) (fun k => dvq (25 + k)) H.size) gX5_copyLine_X8_copyFrom rfl rfl rfl hdV_X8_copyFrom ⟨Nat.le_of_ble_eq_true rfl, Nat.le_of_ble_eq_true rfl⟩ [5, 21] rfl rfl 5 rfl rfl rfl hl.1 (Nat.le_of_ble_eq_true rfl) dX5_copyLine_44 ⟨Nat.le_of_ble_eq_true rfl, Nat.le_of_ble_eq_true rfl⟩) (fun u_14 H locs hp_14 G => ?_)
        obtain ⟨a_14a, d_14b⟩ := u_14
        have hq_14 := hp_14
        obtain ⟨sv_15, dv_16, G⟩ : ∃ (sv_15 : Nat → Int32) (dv_16 : Nat → Int32), wd X (va_A (@HAppend.hAppend va_W va_W va_W _ (rcV X h0 adp svp dvp n0p n1p n2p n3p n4p g0p gsp gnp gmp) (rcV X h1 adq svq dvq n0q n1q n2q n3q n4q g0q gsq gnq gmq)) sz) (va_A (@HAppend.hAppend va_W va_W va_W _ (rcV X h0 adp svp dvp n0p n1p n2p n3p n4p g0p gsp gnp gmp) (rcV X h1 adq svq dvq n0q n1q n2q n3q n4q g0q gsq gnq gmq)) sz) s (@HAppend.hAppend va_W va_W va_W _ (rcV X h0 adp sv_15 dv_16 n_3 n1p n2p n3p n4p g0p gsp gnp gmp) (rcV X h1 adq svq dvq n0q n1q n2q n3q n4q g0q gsq gnq gmq)) H locs := ⟨(ovr sv26_0 9 3 a_14a), (ovr dv26_0 25 5 d_14b), wd_sub G [0, 1, 2, 3, 4, 30, 5, 6, 7, 8, 9, 10, 11, 12, 13, 14, 15, 16, 17, 18, 19, 31, 20, 21, 22, 23, 24, 25, 26, 27, 28, 29] rfl rfl⟩
        refine lv_iinc (v := 4) (lv' := [(2, .int 4), (0, .ref h0), (1, .ref h1)]) zx zb dX5_copyLine_47 hl (k := 0) rfl (by decide) (by decide) rfl (fun ls hl => ?_)
        refine lv_goto (tgt := 26) zx zb dX5_copyLine_50 (by decide) ?_
        exact ih26 4 sv_15 dv_16 _ _ _ (by omega) (by omega) G hl
      · refine k_it (v := 4) rfl ?_
        refine r_aald (C := RX8) (b := (adp 5)) S G 1 3 rfl rfl (k_vp (by decide)) rfl dX5_copyLine_37 ?_
        refine lv_aload_n zx zb dX5_copyLine_38 rfl (lv_at hl 2 rfl) ?_
        refine r_get (C := RX5) (T := TX5) (N := 8) (ci := 3) (v := .ref (adq 0)) S in_X5_copyLine_X5 G 16 rfl rfl 3 (by decide) lk_X5_copyLine_23 rfl dX5_copyLine_39 ?_
        refine lv_iload_n zx zb dX5_copyLine_42 rfl (lv_at hl 0 rfl) ?_
        refine r_aald (C := RX8) (b := (adq 5)) S G 17 3 rfl rfl (k_vp (by decide)) rfl dX5_copyLine_43 ?_
        refine b_wv (cells' := 0) (slots' := 0) (wr := @HAppend.hAppend va_W va_W va_W _ ([(h0, .inr (3, [.int (dv26_0 0), .int (dv26_0 1), .int (nI n_3), .ref (adp 0), .ref (adp 7), .ref (adp 9), .ref (adp 11), .ref (adp 13)])), ((adp 0), .inl (X.2.2.2.2, 6, .inr (.inr (.inr (.inr (rowQ adp)))))), ((adp 1), .inr (6, [.int (sv26_0 0), .int (sv26_0 1), .int (sv26_0 2), .int (dv26_0 10), .int (dv26_0 11), .int (dv26_0 12), .int (dv26_0 13), .int (dv26_0 14)])), ((adp 2), .inr (6, [.int (sv26_0 3), .int (sv26_0 4), .int (sv26_0 5), .int (dv26_0 15), .int (dv26_0 16), .int (dv26_0 17), .int (dv26_0 18), .int (dv26_0 19)])), ((adp 3), .inr (6, [.int (sv26_0 6), .int (sv26_0 7), .int (sv26_0 8), .int (dv26_0 20), .int (dv26_0 21), .int (dv26_0 22), .int (dv26_0 23), .int (dv26_0 24)])), ((adp 4), .inr (6, [.int (sv26_0 9), .int (sv26_0 10), .int (sv26_0 11), .int (dv26_0 25), .int (dv26_0 26), .int (dv26_0 27), .int (dv26_0 28), .int (dv26_0 29)])), ((adp 6), .inr (6, [.int (sv26_0 15), .int (sv26_0 16), .int (sv26_0 17), .int (dv26_0 35), .int (dv26_0 36), .int (dv26_0 37), .int (dv26_0 38), .int (dv26_0 39)])), ((adp 7), .inr (2, [.ref (adp 8), .int (nI n1p)])), ((adp 8), .inl (X.2.1, 248, .inl g0p)), ((adp 9), .inr (5, [.int 5, .int 0, .int 1, .ref (adp 10), .int (nI n2p)])), ((adp 10), .inl (X.2.1, 25, .inl gsp)), ((adp 11), .inr (5, [.int 6, .int 1, .int 1, .ref (adp 12), .int (nI n3p)])), ((adp 12), .inl (X.2.1, 30, .inl gnp)), ((adp 13), .inr (5, [.int 6, .int 0, .int 0, .ref (adp 14), .int (nI n4p)])), ((adp 14), .inl (X.2.1, 30, .inl gmp))]) ([(h1, .inr (3, [.int (dvq 0), .int (dvq 1), .int (nI n0q), .ref (adq 0), .ref (adq 7), .ref (adq 9), .ref (adq 11), .ref (adq 13)])), ((adq 0), .inl (X.2.2.2.2, 6, .inr (.inr (.inr (.inr (rowQ adq)))))), ((adq 1), .inr (6, [.int (svq 0), .int (svq 1), .int (svq 2), .int (dvq 10), .int (dvq 11), .int (dvq 12), .int (dvq 13), .int (dvq 14)])), ((adq 2), .inr (6, [.int (svq 3), .int (svq 4), .int (svq 5), .int (dvq 15), .int (dvq 16), .int (dvq 17), .int (dvq 18), .int (dvq 19)])), ((adq 3), .inr (6, [.int (svq 6), .int (svq 7), .int (svq 8), .int (dvq 20), .int (dvq 21), .int (dvq 22), .int (dvq 23), .int (dvq 24)])), ((adq 4), .inr (6, [.int (svq 9), .int (svq 10), .int (svq 11), .int (dvq 25), .int (dvq 26), .int (dvq 27), .int (dvq 28), .int (dvq 29)])), ((adq 6), .inr (6, [.int (svq 15), .int (svq 16), .int (svq 17), .int (dvq 35), .int (dvq 36), .int (dvq 37), .int (dvq 38), .int (dvq 39)])), ((adq 7), .inr (2, [.ref (adq 8), .int (nI n1q)])), ((adq 8), .inl (X.2.1, 248, .inl g0q)), ((adq 9), .inr (5, [.int 5, .int 0, .int 1, .ref (adq 10), .int (nI n2q)])), ((adq 10), .inl (X.2.1, 25, .inl gsq)), ((adq 11), .inr (5, [.int 6, .int 1, .int 1, .ref (adq 12), .int (nI n3q)])), ((adq 12), .inl (X.2.1, 30, .inl gnq)), ((adq 13), .inr (5, [.int 6, .int 0, .int 0, .ref (adq 14), .int (nI n4q)])), ((adq 14), .inl (X.2.1, 30, .inl gmq))])) G rfl rfl [6, 22] [0, 1, 2, 3, 4, 5, 7, 8, 9, 10, 11, 12, 13, 14, 15, 16, 17, 18, 19, 20, 21, 23, 24, 25, 26, 27, 28, 29, 30, 31] rfl rfl rfl rfl (n_V (As := [.ref (adq 5)]) (rest := []) (C := RX8) (T := TX8) (N := 8) (ci := 6) S G (s_rcopy l X (adp 5) (fun k => sv26_0 (12 + k)) (fun k => dv26_0 (30 + k)) (adq 5) (fun k => svq (12 + k)) (fun k => dvq (30 + k)) H.size) gX5_copyLine_X8_copyFrom rfl rfl rfl hdV_X8_copyFrom ⟨Nat.le_of_ble_eq_true rfl, Nat.le_of_ble_eq_true rfl⟩ [6, 22] rfl rfl 6 rfl rfl rfl hl.1 (Nat.le_of_ble_eq_true rfl) dX5_copyLine_44 ⟨Nat.le_of_ble_eq_true rfl, Nat.le_of_ble_eq_true rfl⟩) (fun u_17 H locs hp_17 G => ?_)
        obtain ⟨a_17a, d_17b⟩ := u_17
        have hq_17 := hp_17
        obtain ⟨sv_18, dv_19, G⟩ : ∃ (sv_18 : Nat → Int32) (dv_19 : Nat → Int32), wd X (va_A (@HAppend.hAppend va_W va_W va_W _ (rcV X h0 adp svp dvp n0p n1p n2p n3p n4p g0p gsp gnp gmp) (rcV X h1 adq svq dvq n0q n1q n2q n3q n4q g0q gsq gnq gmq)) sz) (va_A (@HAppend.hAppend va_W va_W va_W _ (rcV X h0 adp svp dvp n0p n1p n2p n3p n4p g0p gsp gnp gmp) (rcV X h1 adq svq dvq n0q n1q n2q n3q n4q g0q gsq gnq gmq)) sz) s (@HAppend.hAppend va_W va_W va_W _ (rcV X h0 adp sv_18 dv_19 n_3 n1p n2p n3p n4p g0p gsp gnp gmp) (rcV X h1 adq svq dvq n0q n1q n2q n3q n4q g0q gsq gnq gmq)) H locs := ⟨(ovr sv26_0 12 3 a_17a), (ovr dv26_0 30 5 d_17b), wd_sub G [0, 1, 2, 3, 4, 5, 30, 6, 7, 8, 9, 10, 11, 12, 13, 14, 15, 16, 17, 18, 19, 20, 31, 21, 22, 23, 24, 25, 26, 27, 28, 29] rfl rfl⟩
        refine lv_iinc (v := 5) (lv' := [(2, .int 5), (0, .ref h0), (1, .ref h1)]) zx zb dX5_copyLine_47 hl (k := 0) rfl (by decide) (by decide) rfl (fun ls hl => ?_)
        refine lv_goto (tgt := 26) zx zb dX5_copyLine_50 (by decide) ?_
        exact ih26 5 sv_18 dv_19 _ _ _ (by omega) (by omega) G hl
      · refine k_it (v := 5) rfl ?_
        refine r_aald (C := RX8) (b := (adp 6)) S G 1 3 rfl rfl (k_vp (by decide)) rfl dX5_copyLine_37 ?_
        refine lv_aload_n zx zb dX5_copyLine_38 rfl (lv_at hl 2 rfl) ?_
        refine r_get (C := RX5) (T := TX5) (N := 8) (ci := 3) (v := .ref (adq 0)) S in_X5_copyLine_X5 G 16 rfl rfl 3 (by decide) lk_X5_copyLine_23 rfl dX5_copyLine_39 ?_
        refine lv_iload_n zx zb dX5_copyLine_42 rfl (lv_at hl 0 rfl) ?_
        refine r_aald (C := RX8) (b := (adq 6)) S G 17 3 rfl rfl (k_vp (by decide)) rfl dX5_copyLine_43 ?_
        refine b_wv (cells' := 0) (slots' := 0) (wr := @HAppend.hAppend va_W va_W va_W _ ([(h0, .inr (3, [.int (dv26_0 0), .int (dv26_0 1), .int (nI n_3), .ref (adp 0), .ref (adp 7), .ref (adp 9), .ref (adp 11), .ref (adp 13)])), ((adp 0), .inl (X.2.2.2.2, 6, .inr (.inr (.inr (.inr (rowQ adp)))))), ((adp 1), .inr (6, [.int (sv26_0 0), .int (sv26_0 1), .int (sv26_0 2), .int (dv26_0 10), .int (dv26_0 11), .int (dv26_0 12), .int (dv26_0 13), .int (dv26_0 14)])), ((adp 2), .inr (6, [.int (sv26_0 3), .int (sv26_0 4), .int (sv26_0 5), .int (dv26_0 15), .int (dv26_0 16), .int (dv26_0 17), .int (dv26_0 18), .int (dv26_0 19)])), ((adp 3), .inr (6, [.int (sv26_0 6), .int (sv26_0 7), .int (sv26_0 8), .int (dv26_0 20), .int (dv26_0 21), .int (dv26_0 22), .int (dv26_0 23), .int (dv26_0 24)])), ((adp 4), .inr (6, [.int (sv26_0 9), .int (sv26_0 10), .int (sv26_0 11), .int (dv26_0 25), .int (dv26_0 26), .int (dv26_0 27), .int (dv26_0 28), .int (dv26_0 29)])), ((adp 5), .inr (6, [.int (sv26_0 12), .int (sv26_0 13), .int (sv26_0 14), .int (dv26_0 30), .int (dv26_0 31), .int (dv26_0 32), .int (dv26_0 33), .int (dv26_0 34)])), ((adp 7), .inr (2, [.ref (adp 8), .int (nI n1p)])), ((adp 8), .inl (X.2.1, 248, .inl g0p)), ((adp 9), .inr (5, [.int 5, .int 0, .int 1, .ref (adp 10), .int (nI n2p)])), ((adp 10), .inl (X.2.1, 25, .inl gsp)), ((adp 11), .inr (5, [.int 6, .int 1, .int 1, .ref (adp 12), .int (nI n3p)])), ((adp 12), .inl (X.2.1, 30, .inl gnp)), ((adp 13), .inr (5, [.int 6, .int 0, .int 0, .ref (adp 14), .int (nI n4p)])), ((adp 14), .inl (X.2.1, 30, .inl gmp))]) ([(h1, .inr (3, [.int (dvq 0), .int (dvq 1), .int (nI n0q), .ref (adq 0), .ref (adq 7), .ref (adq 9), .ref (adq 11), .ref (adq 13)])), ((adq 0), .inl (X.2.2.2.2, 6, .inr (.inr (.inr (.inr (rowQ adq)))))), ((adq 1), .inr (6, [.int (svq 0), .int (svq 1), .int (svq 2), .int (dvq 10), .int (dvq 11), .int (dvq 12), .int (dvq 13), .int (dvq 14)])), ((adq 2), .inr (6, [.int (svq 3), .int (svq 4), .int (svq 5), .int (dvq 15), .int (dvq 16), .int (dvq 17), .int (dvq 18), .int (dvq 19)])), ((adq 3), .inr (6, [.int (svq 6), .int (svq 7), .int (svq 8), .int (dvq 20), .int (dvq 21), .int (dvq 22), .int (dvq 23), .int (dvq 24)])), ((adq 4), .inr (6, [.int (svq 9), .int (svq 10), .int (svq 11), .int (dvq 25), .int (dvq 26), .int (dvq 27), .int (dvq 28), .int (dvq 29)])), ((adq 5), .inr (6, [.int (svq 12), .int (svq 13), .int (svq 14), .int (dvq 30), .int (dvq 31), .int (dvq 32), .int (dvq 33), .int (dvq 34)])), ((adq 7), .inr (2, [.ref (adq 8), .int (nI n1q)])), ((adq 8), .inl (X.2.1, 248, .inl g0q)), ((adq 9), .inr (5, [.int 5, .int 0, .int 1, .ref (adq 10), .int (nI n2q)])), ((adq 10), .inl (X.2.1, 25, .inl gsq)), ((adq 11), .inr (5, [.int 6, .int 1, .int 1, .ref (adq 12), .int (nI n3q)])), ((adq 12), .inl (X.2.1, 30, .inl gnq)), ((adq 13), .inr (5, [.int 6, .int 0, .int 0, .ref (adq 14), .int (nI n4q)])), ((adq 14), .inl (X.2.1, 30, .inl gmq))])) G rfl rfl [7, 23] [0, 1, 2, 3, 4, 5, 6, 8, 9, 10, 11, 12, 13, 14, 15, 16, 17, 18, 19, 20, 21, 22, 24, 25, 26, 27, 28, 29, 30, 31] rfl rfl rfl rfl (n_V (As := [.ref (adq 6)]) (rest := []) (C := RX8) (T := TX8) (N := 8) (ci := 6) S G (s_rcopy l X (adp 6) (fun k => sv26_0 (15 + k)) (fun k => dv26_0 (35 + k)) (adq 6) (fun k => svq (15 + k)) (fun k => dvq (35 + k)) H.size) gX5_copyLine_X8_copyFrom rfl rfl rfl hdV_X8_copyFrom ⟨Nat.le_of_ble_eq_true rfl, Nat.le_of_ble_eq_true rfl⟩ [7, 23] rfl rfl 7 rfl rfl rfl hl.1 (Nat.le_of_ble_eq_true rfl) dX5_copyLine_44 ⟨Nat.le_of_ble_eq_true rfl, Nat.le_of_ble_eq_true rfl⟩) (fun u_20 H locs hp_20 G => ?_)
        obtain ⟨a_20a, d_20b⟩ := u_20
        have hq_20 := hp_20
        obtain ⟨sv_21, dv_22, G⟩ : ∃ (sv_21 : Nat → Int32) (dv_22 : Nat → Int32), wd X (va_A (@HAppend.hAppend va_W va_W va_W _ (rcV X h0 adp svp dvp n0p n1p n2p n3p n4p g0p gsp gnp gmp) (rcV X h1 adq svq dvq n0q n1q n2q n3q n4q g0q gsq gnq gmq)) sz) (va_A (@HAppend.hAppend va_W va_W va_W _ (rcV X h0 adp svp dvp n0p n1p n2p n3p n4p g0p gsp gnp gmp) (rcV X h1 adq svq dvq n0q n1q n2q n3q n4q g0q gsq gnq gmq)) sz) s (@HAppend.hAppend va_W va_W va_W _ (rcV X h0 adp sv_21 dv_22 n_3 n1p n2p n3p n4p g0p gsp gnp gmp) (rcV X h1 adq svq dvq n0q n1q n2q n3q n4q g0q gsq gnq gmq)) H locs := ⟨(ovr sv26_0 15 3 a_20a), (ovr dv26_0 35 5 d_20b), wd_sub G [0, 1, 2, 3, 4, 5, 6, 30, 7, 8, 9, 10, 11, 12, 13, 14, 15, 16, 17, 18, 19, 20, 21, 31, 22, 23, 24, 25, 26, 27, 28, 29] rfl rfl⟩
        refine lv_iinc (v := 6) (lv' := [(2, .int 6), (0, .ref h0), (1, .ref h1)]) zx zb dX5_copyLine_47 hl (k := 0) rfl (by decide) (by decide) rfl (fun ls hl => ?_)
        refine lv_goto (tgt := 26) zx zb dX5_copyLine_50 (by decide) ?_
        exact ih26 6 sv_21 dv_22 _ _ _ (by omega) (by omega) G hl
