set_option maxRecDepth 20000 in
theorem ggX10_homeBehind_X8_copyFrom : GoodIn wsX10_homeBehind wsX8_copyFrom := goodIn_r _ [10, 11, 12, 13, 14, 15, 16, 17, 18, 61, 62, 63, 64, 65, 66, 67, 68] rfl (by decide +kernel)
set_option maxRecDepth 20000 in
theorem gX10_homeBehind_X8_copyFrom : GoodIn wsX10_homeBehind (wsV RX10 148 RX8 yX8_copyFrom wsX8_copyFrom) := goodIn_app (goodIn_of _ (by decide +kernel)) ggX10_homeBehind_X8_copyFrom
set_option maxRecDepth 20000 in
theorem ggX10_homeBehind_X8_ticksToHome : GoodIn wsX10_homeBehind wsX8_ticksToHome := goodIn_r _ [22, 23, 24, 25, 9, 26, 18, 27, 28, 29, 30, 17, 11, 12, 14, 13, 16, 15, 31, 32, 33, 34, 35, 36, 37, 38, 61, 62, 63, 64, 65, 66, 67, 68] rfl (by decide +kernel)
set_option maxRecDepth 20000 in
theorem gX10_homeBehind_X8_ticksToHome : GoodIn wsX10_homeBehind (wsV RX10 165 RX8 yX8_ticksToHome wsX8_ticksToHome) := goodIn_app (goodIn_of _ (by decide +kernel)) ggX10_homeBehind_X8_ticksToHome
set_option maxRecDepth 20000 in
theorem ggX10_of_X10_refuse : GoodIn wsX10_of wsX10_refuse := goodIn_r _ [16, 17, 39, 40, 41, 42, 43, 44, 45, 46, 47, 48, 49, 50, 51, 52] rfl (by decide +kernel)
set_option maxRecDepth 20000 in
theorem gX10_of_X10_refuse : GoodIn wsX10_of (wsV RX10 83 RX10 yX10_refuse wsX10_refuse) := goodIn_app (goodIn_of _ (by decide +kernel)) ggX10_of_X10_refuse
set_option maxRecDepth 20000 in
theorem ggX10_of_X10_there : GoodIn wsX10_of wsX10_there := goodIn_r _ [8, 1, 9, 39, 40, 41, 42, 43, 44, 45, 46, 47, 48, 49, 50, 51, 52, 53, 54, 55, 56, 57, 58, 59, 60] rfl (by decide +kernel)
set_option maxRecDepth 20000 in
theorem gX10_of_X10_there : GoodIn wsX10_of (wsV RX10 123 RX10 yX10_there wsX10_there) := goodIn_app (goodIn_of _ (by decide +kernel)) ggX10_of_X10_there
set_option maxRecDepth 20000 in
theorem ggX10_of_X10_within : GoodIn wsX10_of wsX10_within := goodIn_r _ [12] rfl (by decide +kernel)
set_option maxRecDepth 20000 in
theorem gX10_of_X10_within : GoodIn wsX10_of (va_wsS RX10 79 yX10_within wsX10_within) := goodIn_app (goodIn_of _ (by decide +kernel)) ggX10_of_X10_within
set_option maxRecDepth 20000 in
theorem ggX10_of_X8_fact : GoodIn wsX10_of wsX8_fact := goodIn_r _ [22, 23, 24, 25, 26, 27, 28, 29, 30, 31, 32, 33, 34, 35, 36, 37, 38, 61, 62, 63, 64, 65, 66, 67, 68] rfl (by decide +kernel)
set_option maxRecDepth 20000 in
theorem gX10_of_X8_fact : GoodIn wsX10_of (wsV RX10 144 RX8 yX8_fact wsX8_fact) := goodIn_app (goodIn_of _ (by decide +kernel)) ggX10_of_X8_fact
set_option maxRecDepth 20000 in
theorem ggX10_start_X10_refuse : GoodIn wsX10_start wsX10_refuse := goodIn_r _ [17, 18, 49, 50, 51, 52, 53, 54, 55, 56, 57, 58, 59, 60, 61, 62] rfl (by decide +kernel)
set_option maxRecDepth 20000 in
theorem gX10_start_X10_refuse : GoodIn wsX10_start (wsV RX10 83 RX10 yX10_refuse wsX10_refuse) := goodIn_app (goodIn_of _ (by decide +kernel)) ggX10_start_X10_refuse
set_option maxRecDepth 20000 in
theorem ggX10_start_X10_there : GoodIn wsX10_start wsX10_there := goodIn_r _ [9, 1, 10, 49, 50, 51, 52, 53, 54, 55, 56, 57, 58, 59, 60, 61, 62, 63, 64, 65, 66, 67, 68, 69, 70] rfl (by decide +kernel)
set_option maxRecDepth 20000 in
theorem gX10_start_X10_there : GoodIn wsX10_start (wsV RX10 123 RX10 yX10_there wsX10_there) := goodIn_app (goodIn_of _ (by decide +kernel)) ggX10_start_X10_there
set_option maxRecDepth 20000 in
theorem ggX10_start_X10_within : GoodIn wsX10_start wsX10_within := goodIn_r _ [13] rfl (by decide +kernel)
set_option maxRecDepth 20000 in
theorem gX10_start_X10_within : GoodIn wsX10_start (va_wsS RX10 79 yX10_within wsX10_within) := goodIn_app (goodIn_of _ (by decide +kernel)) ggX10_start_X10_within
set_option maxRecDepth 20000 in
theorem ggX10_start_X5_keep : GoodIn wsX10_start wsX5_keep := goodIn_r _ [29, 30, 31, 32, 33, 34, 35, 36, 37, 38, 39, 40, 41, 42, 43, 44, 45, 46, 47, 48, 63, 64, 65, 66, 67, 68, 69, 70, 79, 80, 71, 72, 73, 74, 75, 76, 77, 78] rfl (by decide +kernel)
set_option maxRecDepth 20000 in
theorem gX10_start_X5_keep : GoodIn wsX10_start (wsV RX10 113 RX5 yX5_keep wsX5_keep) := goodIn_app (goodIn_of _ (by decide +kernel)) ggX10_start_X5_keep
set_option maxRecDepth 20000 in
theorem ggX10_start_X8_isHome : GoodIn wsX10_start wsX8_isHome := goodIn_r _ [23, 24, 71, 72, 73, 74, 75, 76, 77, 78] rfl (by decide +kernel)
set_option maxRecDepth 20000 in
theorem gX10_start_X8_isHome : GoodIn wsX10_start (wsV RX10 133 RX8 yX8_isHome wsX8_isHome) := goodIn_app (goodIn_of _ (by decide +kernel)) ggX10_start_X8_isHome
set_option maxRecDepth 20000 in
theorem ggX10_undo_X10_refuse : GoodIn wsX10_undo wsX10_refuse := goodIn_r _ [27, 28, 29, 30, 31, 32, 33, 34, 35, 36, 37, 38, 39, 40, 41, 42] rfl (by decide +kernel)
set_option maxRecDepth 20000 in
theorem gX10_undo_X10_refuse : GoodIn wsX10_undo (wsV RX10 83 RX10 yX10_refuse wsX10_refuse) := goodIn_app (goodIn_of _ (by decide +kernel)) ggX10_undo_X10_refuse
set_option maxRecDepth 20000 in
theorem ggX10_undo_X5_takeBack : GoodIn wsX10_undo wsX5_takeBack := goodIn_r _ [7, 8, 9, 10, 11, 12, 13, 14, 15, 16, 17, 18, 19, 20, 21, 22, 43, 44, 45, 46, 47, 48, 49, 50, 51, 52, 53, 54, 55, 56, 57, 58, 59, 60] rfl (by decide +kernel)
set_option maxRecDepth 20000 in
theorem gX10_undo_X5_takeBack : GoodIn wsX10_undo (wsV RX10 141 RX5 yX5_takeBack wsX5_takeBack) := goodIn_app (goodIn_of _ (by decide +kernel)) ggX10_undo_X5_takeBack
set_option maxRecDepth 20000 in
theorem ggX10_where_X10_refuse : GoodIn wsX10_where wsX10_refuse := goodIn_r _ [18, 19, 53, 54, 55, 56, 57, 58, 59, 60, 61, 62, 63, 64, 65, 66] rfl (by decide +kernel)
set_option maxRecDepth 20000 in
theorem gX10_where_X10_refuse : GoodIn wsX10_where (wsV RX10 83 RX10 yX10_refuse wsX10_refuse) := goodIn_app (goodIn_of _ (by decide +kernel)) ggX10_where_X10_refuse
set_option maxRecDepth 20000 in
theorem ggX10_where_X10_there : GoodIn wsX10_where wsX10_there := goodIn_r _ [10, 2, 11, 53, 54, 55, 56, 57, 58, 59, 60, 61, 62, 63, 64, 65, 66, 67, 68, 69, 70, 71, 72, 73, 74] rfl (by decide +kernel)
set_option maxRecDepth 20000 in
theorem gX10_where_X10_there : GoodIn wsX10_where (wsV RX10 123 RX10 yX10_there wsX10_there) := goodIn_app (goodIn_of _ (by decide +kernel)) ggX10_where_X10_there
set_option maxRecDepth 20000 in
theorem ggX10_where_X10_within : GoodIn wsX10_where wsX10_within := goodIn_r _ [14] rfl (by decide +kernel)
set_option maxRecDepth 20000 in
theorem gX10_where_X10_within : GoodIn wsX10_where (va_wsS RX10 79 yX10_within wsX10_within) := goodIn_app (goodIn_of _ (by decide +kernel)) ggX10_where_X10_within
set_option maxRecDepth 20000 in
theorem ggX10_where_X8_copyFrom : GoodIn wsX10_where wsX8_copyFrom := goodIn_r _ [24, 25, 26, 27, 28, 29, 30, 31, 32, 75, 76, 77, 78, 79, 80, 81, 82] rfl (by decide +kernel)
set_option maxRecDepth 20000 in
theorem gX10_where_X8_copyFrom : GoodIn wsX10_where (wsV RX10 148 RX8 yX8_copyFrom wsX8_copyFrom) := goodIn_app (goodIn_of _ (by decide +kernel)) ggX10_where_X8_copyFrom
set_option maxRecDepth 20000 in
theorem ggX10_where_X8_placeBehind : GoodIn wsX10_where wsX8_placeBehind := goodIn_r _ [36, 29, 37, 38, 39, 23, 40, 31, 25, 26, 28, 27, 30, 32, 41, 42, 43, 44, 45, 46, 47, 48, 49, 50, 51, 52, 75, 76, 77, 78, 79, 80, 81, 82] rfl (by decide +kernel)
set_option maxRecDepth 20000 in
theorem gX10_where_X8_placeBehind : GoodIn wsX10_where (wsV RX10 152 RX8 yX8_placeBehind wsX8_placeBehind) := goodIn_app (goodIn_of _ (by decide +kernel)) ggX10_where_X8_placeBehind
theorem dX10_homeBehind_0 : decode cX10_homeBehind 0 = .ok (.aload_n 0, 1) := by decide +kernel
theorem dX10_homeBehind_1 : decode cX10_homeBehind 1 = .ok (.getfield 48, 3) := by decide +kernel
theorem dX10_homeBehind_11 : decode cX10_homeBehind 11 = .ok (.iload_n 1, 1) := by decide +kernel
theorem dX10_homeBehind_12 : decode cX10_homeBehind 12 = .ok (.aaload, 1) := by decide +kernel
theorem dX10_homeBehind_13 : decode cX10_homeBehind 13 = .ok (.invokevirtual 148, 3) := by decide +kernel
theorem dX10_homeBehind_16 : decode cX10_homeBehind 16 = .ok (.aload_n 0, 1) := by decide +kernel
theorem dX10_homeBehind_17 : decode cX10_homeBehind 17 = .ok (.getfield 48, 3) := by decide +kernel
theorem dX10_homeBehind_20 : decode cX10_homeBehind 20 = .ok (.aload_n 0, 1) := by decide +kernel
theorem dX10_homeBehind_21 : decode cX10_homeBehind 21 = .ok (.getfield 10, 3) := by decide +kernel
theorem dX10_homeBehind_24 : decode cX10_homeBehind 24 = .ok (.getfield 110, 3) := by decide +kernel
theorem dX10_homeBehind_27 : decode cX10_homeBehind 27 = .ok (.aload_n 0, 1) := by decide +kernel
theorem dX10_homeBehind_28 : decode cX10_homeBehind 28 = .ok (.getfield 10, 3) := by decide +kernel
theorem dX10_homeBehind_31 : decode cX10_homeBehind 31 = .ok (.getfield 140, 3) := by decide +kernel
theorem dX10_homeBehind_34 : decode cX10_homeBehind 34 = .ok (.iload_n 2, 1) := by decide +kernel
theorem dX10_homeBehind_35 : decode cX10_homeBehind 35 = .ok (.invokevirtual 165, 3) := by decide +kernel
theorem dX10_homeBehind_38 : decode cX10_homeBehind 38 = .ok (.ireturn, 1) := by decide +kernel
theorem dX10_homeBehind_4 : decode cX10_homeBehind 4 = .ok (.aload_n 0, 1) := by decide +kernel
theorem dX10_homeBehind_5 : decode cX10_homeBehind 5 = .ok (.getfield 10, 3) := by decide +kernel
theorem dX10_homeBehind_8 : decode cX10_homeBehind 8 = .ok (.getfield 126, 3) := by decide +kernel
theorem dX10_of_0 : decode cX10_of 0 = .ok (.aload_n 0, 1) := by decide +kernel
theorem dX10_of_1 : decode cX10_of 1 = .ok (.iload_n 1, 1) := by decide +kernel
theorem dX10_of_10 : decode cX10_of 10 = .ok (.bipush 9, 2) := by decide +kernel
theorem dX10_of_12 : decode cX10_of 12 = .ok (.invokestatic 79, 3) := by decide +kernel
theorem dX10_of_15 : decode cX10_of 15 = .ok (.ifCond .ne 10, 3) := by decide +kernel
theorem dX10_of_18 : decode cX10_of 18 = .ok (.aload_n 0, 1) := by decide +kernel
theorem dX10_of_19 : decode cX10_of 19 = .ok (.bipush (-2), 2) := by decide +kernel
theorem dX10_of_2 : decode cX10_of 2 = .ok (.invokevirtual 123, 3) := by decide +kernel
theorem dX10_of_21 : decode cX10_of 21 = .ok (.invokevirtual 83, 3) := by decide +kernel
theorem dX10_of_24 : decode cX10_of 24 = .ok (.ireturn, 1) := by decide +kernel
theorem dX10_of_25 : decode cX10_of 25 = .ok (.aload_n 0, 1) := by decide +kernel
theorem dX10_of_26 : decode cX10_of 26 = .ok (.getfield 10, 3) := by decide +kernel
theorem dX10_of_29 : decode cX10_of 29 = .ok (.getfield 126, 3) := by decide +kernel
theorem dX10_of_32 : decode cX10_of 32 = .ok (.iload_n 1, 1) := by decide +kernel
theorem dX10_of_33 : decode cX10_of 33 = .ok (.aaload, 1) := by decide +kernel
theorem dX10_of_34 : decode cX10_of 34 = .ok (.iload_n 2, 1) := by decide +kernel
theorem dX10_of_35 : decode cX10_of 35 = .ok (.aload_n 0, 1) := by decide +kernel
theorem dX10_of_36 : decode cX10_of 36 = .ok (.getfield 10, 3) := by decide +kernel
theorem dX10_of_39 : decode cX10_of 39 = .ok (.getfield 110, 3) := by decide +kernel
theorem dX10_of_42 : decode cX10_of 42 = .ok (.iconst 1, 1) := by decide +kernel
theorem dX10_of_43 : decode cX10_of 43 = .ok (.iadd, 1) := by decide +kernel
theorem dX10_of_44 : decode cX10_of 44 = .ok (.invokevirtual 144, 3) := by decide +kernel
theorem dX10_of_47 : decode cX10_of 47 = .ok (.ireturn, 1) := by decide +kernel
theorem dX10_of_5 : decode cX10_of 5 = .ok (.ifCond .eq 13, 3) := by decide +kernel
theorem dX10_of_8 : decode cX10_of 8 = .ok (.iload_n 2, 1) := by decide +kernel
theorem dX10_of_9 : decode cX10_of 9 = .ok (.iconst 0, 1) := by decide +kernel
theorem dX10_start_0 : decode cX10_start 0 = .ok (.aload_n 0, 1) := by decide +kernel
theorem dX10_start_1 : decode cX10_start 1 = .ok (.iload_n 1, 1) := by decide +kernel
theorem dX10_start_10 : decode cX10_start 10 = .ok (.bipush 30, 2) := by decide +kernel
theorem dX10_start_12 : decode cX10_start 12 = .ok (.invokestatic 79, 3) := by decide +kernel
theorem dX10_start_15 : decode cX10_start 15 = .ok (.ifCond .ne 10, 3) := by decide +kernel
theorem dX10_start_18 : decode cX10_start 18 = .ok (.aload_n 0, 1) := by decide +kernel
theorem dX10_start_19 : decode cX10_start 19 = .ok (.bipush (-2), 2) := by decide +kernel
theorem dX10_start_2 : decode cX10_start 2 = .ok (.invokevirtual 123, 3) := by decide +kernel
theorem dX10_start_21 : decode cX10_start 21 = .ok (.invokevirtual 83, 3) := by decide +kernel
theorem dX10_start_24 : decode cX10_start 24 = .ok (.ireturn, 1) := by decide +kernel
theorem dX10_start_25 : decode cX10_start 25 = .ok (.aload_n 0, 1) := by decide +kernel
theorem dX10_start_26 : decode cX10_start 26 = .ok (.getfield 10, 3) := by decide +kernel
theorem dX10_start_29 : decode cX10_start 29 = .ok (.getfield 126, 3) := by decide +kernel
theorem dX10_start_32 : decode cX10_start 32 = .ok (.iload_n 1, 1) := by decide +kernel
theorem dX10_start_33 : decode cX10_start 33 = .ok (.aaload, 1) := by decide +kernel
theorem dX10_start_34 : decode cX10_start 34 = .ok (.astore_n 3, 1) := by decide +kernel
theorem dX10_start_35 : decode cX10_start 35 = .ok (.aload_n 3, 1) := by decide +kernel
theorem dX10_start_36 : decode cX10_start 36 = .ok (.invokevirtual 133, 3) := by decide +kernel
theorem dX10_start_39 : decode cX10_start 39 = .ok (.ifCond .ne 19, 3) := by decide +kernel
theorem dX10_start_42 : decode cX10_start 42 = .ok (.aload_n 3, 1) := by decide +kernel
theorem dX10_start_43 : decode cX10_start 43 = .ok (.getfield 137, 3) := by decide +kernel
theorem dX10_start_46 : decode cX10_start 46 = .ok (.iload_n 2, 1) := by decide +kernel
theorem dX10_start_47 : decode cX10_start 47 = .ok (.iadd, 1) := by decide +kernel
theorem dX10_start_48 : decode cX10_start 48 = .ok (.aload_n 0, 1) := by decide +kernel
theorem dX10_start_49 : decode cX10_start 49 = .ok (.getfield 10, 3) := by decide +kernel
theorem dX10_start_5 : decode cX10_start 5 = .ok (.ifCond .eq 13, 3) := by decide +kernel
theorem dX10_start_52 : decode cX10_start 52 = .ok (.getfield 140, 3) := by decide +kernel
theorem dX10_start_55 : decode cX10_start 55 = .ok (.if_icmp .lt 10, 3) := by decide +kernel
theorem dX10_start_58 : decode cX10_start 58 = .ok (.aload_n 0, 1) := by decide +kernel
theorem dX10_start_59 : decode cX10_start 59 = .ok (.bipush (-3), 2) := by decide +kernel
theorem dX10_start_61 : decode cX10_start 61 = .ok (.invokevirtual 83, 3) := by decide +kernel
theorem dX10_start_64 : decode cX10_start 64 = .ok (.ireturn, 1) := by decide +kernel
theorem dX10_start_65 : decode cX10_start 65 = .ok (.aload_n 0, 1) := by decide +kernel
theorem dX10_start_66 : decode cX10_start 66 = .ok (.getfield 10, 3) := by decide +kernel
theorem dX10_start_69 : decode cX10_start 69 = .ok (.invokevirtual 113, 3) := by decide +kernel
theorem dX10_start_72 : decode cX10_start 72 = .ok (.aload_n 3, 1) := by decide +kernel
theorem dX10_start_73 : decode cX10_start 73 = .ok (.dup, 1) := by decide +kernel
theorem dX10_start_74 : decode cX10_start 74 = .ok (.getfield 137, 3) := by decide +kernel
theorem dX10_start_77 : decode cX10_start 77 = .ok (.iload_n 2, 1) := by decide +kernel
theorem dX10_start_78 : decode cX10_start 78 = .ok (.iadd, 1) := by decide +kernel
theorem dX10_start_79 : decode cX10_start 79 = .ok (.putfield 137, 3) := by decide +kernel
theorem dX10_start_8 : decode cX10_start 8 = .ok (.iload_n 2, 1) := by decide +kernel
theorem dX10_start_82 : decode cX10_start 82 = .ok (.aload_n 3, 1) := by decide +kernel
theorem dX10_start_83 : decode cX10_start 83 = .ok (.getfield 137, 3) := by decide +kernel
theorem dX10_start_86 : decode cX10_start 86 = .ok (.ireturn, 1) := by decide +kernel
theorem dX10_start_9 : decode cX10_start 9 = .ok (.iconst 1, 1) := by decide +kernel
theorem dX10_undo_0 : decode cX10_undo 0 = .ok (.aload_n 0, 1) := by decide +kernel
theorem dX10_undo_1 : decode cX10_undo 1 = .ok (.getfield 10, 3) := by decide +kernel
theorem dX10_undo_10 : decode cX10_undo 10 = .ok (.aload_n 0, 1) := by decide +kernel
theorem dX10_undo_11 : decode cX10_undo 11 = .ok (.getfield 10, 3) := by decide +kernel
theorem dX10_undo_14 : decode cX10_undo 14 = .ok (.getfield 110, 3) := by decide +kernel
theorem dX10_undo_17 : decode cX10_undo 17 = .ok (.goto 9, 3) := by decide +kernel
theorem dX10_undo_20 : decode cX10_undo 20 = .ok (.aload_n 0, 1) := by decide +kernel
theorem dX10_undo_21 : decode cX10_undo 21 = .ok (.bipush (-3), 2) := by decide +kernel
theorem dX10_undo_23 : decode cX10_undo 23 = .ok (.invokevirtual 83, 3) := by decide +kernel
theorem dX10_undo_26 : decode cX10_undo 26 = .ok (.ireturn, 1) := by decide +kernel
theorem dX10_undo_4 : decode cX10_undo 4 = .ok (.invokevirtual 141, 3) := by decide +kernel
theorem dX10_undo_7 : decode cX10_undo 7 = .ok (.ifCond .eq 13, 3) := by decide +kernel
theorem dX10_where_0 : decode cX10_where 0 = .ok (.aload_n 0, 1) := by decide +kernel
theorem dX10_where_1 : decode cX10_where 1 = .ok (.iload_n 1, 1) := by decide +kernel
theorem dX10_where_10 : decode cX10_where 10 = .ok (.bipush 60, 2) := by decide +kernel
theorem dX10_where_12 : decode cX10_where 12 = .ok (.invokestatic 79, 3) := by decide +kernel
theorem dX10_where_15 : decode cX10_where 15 = .ok (.ifCond .ne 10, 3) := by decide +kernel
theorem dX10_where_18 : decode cX10_where 18 = .ok (.aload_n 0, 1) := by decide +kernel
theorem dX10_where_19 : decode cX10_where 19 = .ok (.bipush (-2), 2) := by decide +kernel
theorem dX10_where_2 : decode cX10_where 2 = .ok (.invokevirtual 123, 3) := by decide +kernel
theorem dX10_where_21 : decode cX10_where 21 = .ok (.invokevirtual 83, 3) := by decide +kernel
theorem dX10_where_24 : decode cX10_where 24 = .ok (.ireturn, 1) := by decide +kernel
theorem dX10_where_25 : decode cX10_where 25 = .ok (.aload_n 0, 1) := by decide +kernel
theorem dX10_where_26 : decode cX10_where 26 = .ok (.getfield 48, 3) := by decide +kernel
theorem dX10_where_29 : decode cX10_where 29 = .ok (.aload_n 0, 1) := by decide +kernel
theorem dX10_where_30 : decode cX10_where 30 = .ok (.getfield 10, 3) := by decide +kernel
theorem dX10_where_33 : decode cX10_where 33 = .ok (.getfield 126, 3) := by decide +kernel
theorem dX10_where_36 : decode cX10_where 36 = .ok (.iload_n 1, 1) := by decide +kernel
theorem dX10_where_37 : decode cX10_where 37 = .ok (.aaload, 1) := by decide +kernel
theorem dX10_where_38 : decode cX10_where 38 = .ok (.invokevirtual 148, 3) := by decide +kernel
theorem dX10_where_41 : decode cX10_where 41 = .ok (.aload_n 0, 1) := by decide +kernel
theorem dX10_where_42 : decode cX10_where 42 = .ok (.getfield 48, 3) := by decide +kernel
theorem dX10_where_45 : decode cX10_where 45 = .ok (.aload_n 0, 1) := by decide +kernel
theorem dX10_where_46 : decode cX10_where 46 = .ok (.getfield 10, 3) := by decide +kernel
theorem dX10_where_49 : decode cX10_where 49 = .ok (.getfield 110, 3) := by decide +kernel
theorem dX10_where_5 : decode cX10_where 5 = .ok (.ifCond .eq 13, 3) := by decide +kernel
theorem dX10_where_52 : decode cX10_where 52 = .ok (.aload_n 0, 1) := by decide +kernel
theorem dX10_where_53 : decode cX10_where 53 = .ok (.getfield 10, 3) := by decide +kernel
theorem dX10_where_56 : decode cX10_where 56 = .ok (.getfield 140, 3) := by decide +kernel
theorem dX10_where_59 : decode cX10_where 59 = .ok (.iload_n 2, 1) := by decide +kernel
theorem dX10_where_60 : decode cX10_where 60 = .ok (.invokevirtual 152, 3) := by decide +kernel
theorem dX10_where_63 : decode cX10_where 63 = .ok (.ireturn, 1) := by decide +kernel
theorem dX10_where_8 : decode cX10_where 8 = .ok (.iload_n 2, 1) := by decide +kernel
theorem dX10_where_9 : decode cX10_where 9 = .ok (.iconst 0, 1) := by decide +kernel
theorem in_X10_start_X10 : ∀ w ∈ wsX100, w ∈ wsX10_start := by decide +kernel
theorem lk_X10_start_10 : Cond.fieldLink RX10 10 "EggSpoons" "now" "LEggSpoons$Race;" ∈ wsX10_start := by decide +kernel
theorem in_X10_start_X5 : ∀ w ∈ wsX50, w ∈ wsX10_start := by decide +kernel
theorem lk_X10_start_126 : Cond.fieldLink RX10 126 "EggSpoons$Race" "row" "[LEggSpoons$Runner;" ∈ wsX10_start := by decide +kernel
theorem in_X10_start_X8 : ∀ w ∈ wsX80, w ∈ wsX10_start := by decide +kernel
theorem lk_X10_start_137 : Cond.fieldLink RX10 137 "EggSpoons$Runner" "place" "I" ∈ wsX10_start := by decide +kernel
theorem lk_X10_start_140 : Cond.fieldLink RX10 140 "EggSpoons$Race" "length" "I" ∈ wsX10_start := by decide +kernel
set_option maxHeartbeats 4000000 in
set_option maxRecDepth 100000 in
/-- start -/
theorem s_start (l : Launch) (X : EX) (h0 : Nat) (nw : Nat) (sp : Nat) (xa : Nat → Nat) (la : Int64) (lb : Int64) (an : Nat → Nat) (sv : Nat → Int32) (dv : Nat → Int32) (n0 : Nat) (n1 : Nat) (n2 : Nat) (n3 : Nat) (n4 : Nat) (g0 : Nat → Int32) (gs : Nat → Int32) (gn : Nat → Int32) (gm : Nat → Int32) (fr : Nat → Int32) (x1 : Int32) (x2 : Int32) (hI_n0 : n0 ≤ 6) (hI_n1 : n1 ≤ 8) (hI_n2 : n2 ≤ 5) (hI_n3 : n3 ≤ 6) (hI_n4 : n4 ≤ 6) (sz : Nat) : Met l yX10_start wsX10_start ({ frames := 3, cells := 0, slots := 0, locals := 105 } : Room) (pE X [.ref h0, .int x1, .int x2] (@HAppend.hAppend va_W va_W va_W _ (xW h0 nw sp xa la lb) (@HAppend.hAppend va_W va_W va_W _ (rcV X nw an sv dv n0 n1 n2 n3 n4 g0 gs gn gm) ([((xa 5), .inl (X.2.1, 3, .inl fr))]))) sz) (qI (fun (r : Int32) (u : (Nat → Int32) × (Nat) × (Nat → Int32) × (Nat → Int32)) => u.2.1 ≤ 8 ∧ (True)) X (fun (u : (Nat → Int32) × (Nat) × (Nat → Int32) × (Nat → Int32)) => @HAppend.hAppend va_W va_W va_W _ (xW h0 nw sp xa la lb) (@HAppend.hAppend va_W va_W va_W _ (rcV X nw an sv u.1 n0 u.2.1 n2 n3 n4 u.2.2.1 gs gn gm) ([((xa 5), .inl (X.2.1, 3, .inl u.2.2.2))]))) (@HAppend.hAppend va_W va_W va_W _ (xW h0 nw sp xa la lb) (@HAppend.hAppend va_W va_W va_W _ (rcV X nw an sv dv n0 n1 n2 n3 n4 g0 gs gn gm) ([((xa 5), .inl (X.2.1, 3, .inl fr))]))) sz) 0 0 (va_A (@HAppend.hAppend va_W va_W va_W _ (xW h0 nw sp xa la lb) (@HAppend.hAppend va_W va_W va_W _ (rcV X nw an sv dv n0 n1 n2 n3 n4 g0 gs gn gm) ([((xa 5), .inl (X.2.1, 3, .inl fr))]))) sz) := by
  refine mk_met (B := (va_A (@HAppend.hAppend va_W va_W va_W _ (xW h0 nw sp xa la lb) (@HAppend.hAppend va_W va_W va_W _ (rcV X nw an sv dv n0 n1 n2 n3 n4 g0 gs gn gm) ([((xa 5), .inl (X.2.1, 3, .inl fr))]))) sz)) (A := (va_A (@HAppend.hAppend va_W va_W va_W _ (xW h0 nw sp xa la lb) (@HAppend.hAppend va_W va_W va_W _ (rcV X nw an sv dv n0 n1 n2 n3 n4 g0 gs gn gm) ([((xa 5), .inl (X.2.1, 3, .inl fr))]))) sz)) (cc := cX10_start) (maxL := 4) (ret := (some .int)) (by decide) rfl (Nat.le_of_ble_eq_true rfl) k_w k_a (fun p e s m below meth c S zr zlk znm zsz G ls hl => ?_)
  have S : CallFix p m c cX10_start 4 s _ wsX10_start RX10 := S
  have zx := S.1
  have zb := S.2.1
  have hl : lv_has ls 4 [(0, .ref h0), (1, .int x1), (2, .int x2)] := hl
  refine lv_aload_n zx zb dX10_start_0 rfl (lv_at hl 0 rfl) ?_
  refine lv_iload_n zx zb dX10_start_1 rfl (lv_at hl 1 rfl) ?_
  refine o_ri (cells' := 0) (slots' := 0) G rfl rfl (n_V (As := [.int x1]) (rest := []) (C := RX10) (T := TX10) (N := 14) (ci := 8) S G (s_there l X h0 nw sp xa la lb an sv dv n0 n1 n2 n3 n4 g0 gs gn gm x1 hI_n0 hI_n1 hI_n2 hI_n3 hI_n4 s.heap.size) gX10_start_X10_there rfl rfl rfl hdV_X10_there ⟨Nat.le_of_ble_eq_true rfl, Nat.le_of_ble_eq_true rfl⟩ [0, 1, 2, 3, 4, 5, 6, 7, 8, 9, 10, 11, 12, 13, 14, 15, 16] rfl rfl 0 rfl rfl rfl hl.1 (Nat.le_of_ble_eq_true rfl) dX10_start_2 ⟨Nat.le_of_ble_eq_true rfl, Nat.le_of_ble_eq_true rfl⟩) (fun r_1 u_1 H locs hp_1 G => ?_)
  have G : wd X (va_A (@HAppend.hAppend va_W va_W va_W _ (xW h0 nw sp xa la lb) (@HAppend.hAppend va_W va_W va_W _ (rcV X nw an sv dv n0 n1 n2 n3 n4 g0 gs gn gm) ([((xa 5), .inl (X.2.1, 3, .inl fr))]))) sz) (va_A (@HAppend.hAppend va_W va_W va_W _ (xW h0 nw sp xa la lb) (@HAppend.hAppend va_W va_W va_W _ (rcV X nw an sv dv n0 n1 n2 n3 n4 g0 gs gn gm) ([((xa 5), .inl (X.2.1, 3, .inl fr))]))) sz) s (@HAppend.hAppend va_W va_W va_W _ (xW h0 nw sp xa la lb) (@HAppend.hAppend va_W va_W va_W _ (rcV X nw an sv dv n0 n1 n2 n3 n4 g0 gs gn gm) ([((xa 5), .inl (X.2.1, 3, .inl fr))]))) H locs := G
  rcases hp_1 with ⟨rfl, hj_1⟩ | ⟨rfl, hj_1⟩
  · obtain ⟨j_1, hj_1, rfl⟩ := hj_1
    refine lv_if_eq (tgt := 18) zx zb dX10_start_5 (by decide) (fun c_2 => absurd c_2 (by decide)) (fun c_2 => ?_)
    refine lv_iload_n zx zb dX10_start_8 rfl (lv_at hl 2 rfl) ?_
    refine lv_iconst (v := 1) zx zb dX10_start_9 (by decide) ?_
    refine lv_bipush (v := 30) zx zb dX10_start_10 (by decide) ?_
    refine o_ri (cells' := 0) (slots' := 0) G rfl rfl (n_S (As := [.int x2, .int 1, .int 30]) (rest := []) S G (s_within l X x2 1 30 H.size) gX10_start_X10_within rfl rfl rfl hdS_X10_within ⟨Nat.le_of_ble_eq_true rfl, Nat.le_of_ble_eq_true rfl⟩ [] rfl rfl rfl hl.1 (Nat.le_of_ble_eq_true rfl) dX10_start_12 ⟨Nat.le_of_ble_eq_true rfl, Nat.le_of_ble_eq_true rfl⟩) (fun r_3 u_3 H locs hp_3 G => ?_)
    have G : wd X (va_A (@HAppend.hAppend va_W va_W va_W _ (xW h0 nw sp xa la lb) (@HAppend.hAppend va_W va_W va_W _ (rcV X nw an sv dv n0 n1 n2 n3 n4 g0 gs gn gm) ([((xa 5), .inl (X.2.1, 3, .inl fr))]))) sz) (va_A (@HAppend.hAppend va_W va_W va_W _ (xW h0 nw sp xa la lb) (@HAppend.hAppend va_W va_W va_W _ (rcV X nw an sv dv n0 n1 n2 n3 n4 g0 gs gn gm) ([((xa 5), .inl (X.2.1, 3, .inl fr))]))) sz) s (@HAppend.hAppend va_W va_W va_W _ (xW h0 nw sp xa la lb) (@HAppend.hAppend va_W va_W va_W _ (rcV X nw an sv dv n0 n1 n2 n3 n4 g0 gs gn gm) ([((xa 5), .inl (X.2.1, 3, .inl fr))]))) H locs := G
    rcases hp_3 with ⟨rfl, hw_3⟩ | ⟨rfl, hw_3⟩
    · refine lv_if_ne (tgt := 25) zx zb dX10_start_15 (by decide) (fun c_4 => ?_) (fun c_4 => absurd c_4 (by decide))
      refine lv_aload_n zx zb dX10_start_25 rfl (lv_at hl 0 rfl) ?_
      refine r_get (C := RX10) (T := TX10) (N := 14) (ci := 8) (v := .ref nw) S in_X10_start_X10 G 0 rfl rfl 0 (by decide) lk_X10_start_10 rfl dX10_start_26 ?_
      refine r_get (C := RX5) (T := TX5) (N := 8) (ci := 3) (v := .ref (an 0)) S in_X10_start_X5 G 1 rfl rfl 3 (by decide) lk_X10_start_126 rfl dX10_start_29 ?_
      refine lv_iload_n zx zb dX10_start_32 rfl (lv_at hl 1 rfl) ?_
      rcases k_6c (show j_1 < 6 by omega) with rfl | rfl | rfl | rfl | rfl | rfl
      · refine k_it (v := 0) rfl ?_
        refine r_aald (C := RX8) (b := (an 1)) S G 2 3 rfl rfl (k_vp (by decide)) rfl dX10_start_33 ?_
        refine lv_astore_n (lv' := [(3, .ref (an 1)), (0, .ref h0), (1, .int 0), (2, .int x2)]) zx zb dX10_start_34 rfl hl (by decide) rfl (fun ls hl => ?_)
        refine lv_aload_n zx zb dX10_start_35 rfl (lv_at hl 0 rfl) ?_
        refine o_ri (cells' := 0) (slots' := 0) G rfl rfl (n_V (As := []) (rest := []) (C := RX8) (T := TX8) (N := 8) (ci := 6) S G (s_isHome l X (an 1) (fun k => sv (0 + k)) (fun k => dv (10 + k)) H.size) gX10_start_X8_isHome rfl rfl rfl hdV_X8_isHome ⟨Nat.le_of_ble_eq_true rfl, Nat.le_of_ble_eq_true rfl⟩ [3] rfl rfl 3 rfl rfl rfl hl.1 (Nat.le_of_ble_eq_true rfl) dX10_start_36 ⟨Nat.le_of_ble_eq_true rfl, Nat.le_of_ble_eq_true rfl⟩) (fun r_5 u_5 H locs hp_5 G => ?_)
        have G : wd X (va_A (@HAppend.hAppend va_W va_W va_W _ (xW h0 nw sp xa la lb) (@HAppend.hAppend va_W va_W va_W _ (rcV X nw an sv dv n0 n1 n2 n3 n4 g0 gs gn gm) ([((xa 5), .inl (X.2.1, 3, .inl fr))]))) sz) (va_A (@HAppend.hAppend va_W va_W va_W _ (xW h0 nw sp xa la lb) (@HAppend.hAppend va_W va_W va_W _ (rcV X nw an sv dv n0 n1 n2 n3 n4 g0 gs gn gm) ([((xa 5), .inl (X.2.1, 3, .inl fr))]))) sz) s (@HAppend.hAppend va_W va_W va_W _ (xW h0 nw sp xa la lb) (@HAppend.hAppend va_W va_W va_W _ (rcV X nw an sv dv n0 n1 n2 n3 n4 g0 gs gn gm) ([((xa 5), .inl (X.2.1, 3, .inl fr))]))) H locs := G
        refine lv_if_ne (tgt := 58) zx zb dX10_start_39 (by decide) (fun c_6 => ?_) (fun c_6 => ?_)
        · refine lv_aload_n zx zb dX10_start_58 rfl (lv_at hl 1 rfl) ?_
          refine lv_bipush (v := (-3)) zx zb dX10_start_59 (by decide) ?_
          refine b_wi (cells' := 0) (slots' := 0) (wr := rcV X nw an sv dv n0 n1 n2 n3 n4 g0 gs gn gm) G rfl rfl [0, 17] [1, 2, 3, 4, 5, 6, 7, 8, 9, 10, 11, 12, 13, 14, 15, 16] rfl rfl rfl rfl (n_V (As := [.int (-3)]) (rest := []) (C := RX10) (T := TX10) (N := 14) (ci := 8) S G (s_refuse l X h0 nw sp xa la lb fr (-3) H.size) gX10_start_X10_refuse rfl rfl rfl hdV_X10_refuse ⟨Nat.le_of_ble_eq_true rfl, Nat.le_of_ble_eq_true rfl⟩ [0, 17] rfl rfl 0 rfl rfl rfl hl.1 (Nat.le_of_ble_eq_true rfl) dX10_start_61 ⟨Nat.le_of_ble_eq_true rfl, Nat.le_of_ble_eq_true rfl⟩) (fun r_7 u_7 H locs hp_7 G => ?_)
          obtain ⟨f_7, rfl⟩ : ∃ z, z = u_7 := ⟨_, rfl⟩
          have hq_7 := hp_7
          have G : wd X (va_A (@HAppend.hAppend va_W va_W va_W _ (xW h0 nw sp xa la lb) (@HAppend.hAppend va_W va_W va_W _ (rcV X nw an sv dv n0 n1 n2 n3 n4 g0 gs gn gm) ([((xa 5), .inl (X.2.1, 3, .inl fr))]))) sz) (va_A (@HAppend.hAppend va_W va_W va_W _ (xW h0 nw sp xa la lb) (@HAppend.hAppend va_W va_W va_W _ (rcV X nw an sv dv n0 n1 n2 n3 n4 g0 gs gn gm) ([((xa 5), .inl (X.2.1, 3, .inl fr))]))) sz) s (@HAppend.hAppend va_W va_W va_W _ (rcV X nw an sv dv n0 n1 n2 n3 n4 g0 gs gn gm) (@HAppend.hAppend va_W va_W va_W _ (xW h0 nw sp xa la lb) ([((xa 5), .inl (X.2.1, 3, .inl f_7))]))) H locs := G
          exact e_int S zr zlk (vp_nar_int _) G (dv, n1, g0, f_7) [16, 0, 1, 2, 3, 4, 5, 6, 7, 8, 9, 10, 11, 12, 13, 14, 15, 17] rfl rfl (Or.inr rfl) (⟨hI_n1, trivial⟩) dX10_start_64
        · refine lv_aload_n zx zb dX10_start_42 rfl (lv_at hl 0 rfl) ?_
          refine r_get (C := RX8) (T := TX8) (N := 8) (ci := 6) (v := .int (dv 11)) S in_X10_start_X8 G 3 rfl rfl 4 (by decide) lk_X10_start_137 rfl dX10_start_43 ?_
          refine lv_iload_n zx zb dX10_start_46 rfl (lv_at hl 3 rfl) ?_
          refine r_iadd (v := ((dv 11) + x2)) S rfl dX10_start_47 ?_
          refine lv_aload_n zx zb dX10_start_48 rfl (lv_at hl 1 rfl) ?_
          refine r_get (C := RX10) (T := TX10) (N := 14) (ci := 8) (v := .ref nw) S in_X10_start_X10 G 0 rfl rfl 0 (by decide) lk_X10_start_10 rfl dX10_start_49 ?_
          refine r_get (C := RX5) (T := TX5) (N := 8) (ci := 3) (v := .int (dv 0)) S in_X10_start_X5 G 1 rfl rfl 0 (by decide) lk_X10_start_140 rfl dX10_start_52 ?_
          refine lv_icmp_lt (tgt := 65) zx zb dX10_start_55 (by decide) (fun c_8 => ?_) (fun c_8 => ?_)
          · refine lv_aload_n zx zb dX10_start_65 rfl (lv_at hl 1 rfl) ?_
            refine r_get (C := RX10) (T := TX10) (N := 14) (ci := 8) (v := .ref nw) S in_X10_start_X10 G 0 rfl rfl 0 (by decide) lk_X10_start_10 rfl dX10_start_66 ?_
            refine b_wv (cells' := 0) (slots' := 0) (wr := @HAppend.hAppend va_W va_W va_W _ (xW h0 nw sp xa la lb) ([((xa 5), .inl (X.2.1, 3, .inl fr))])) G rfl rfl [1, 2, 3, 4, 5, 6, 7, 8, 9, 10, 11, 12, 13, 14, 15, 16] [0, 17] rfl rfl rfl rfl (n_V (As := []) (rest := []) (C := RX5) (T := TX5) (N := 8) (ci := 3) S G (s_keep l X nw an sv dv n0 n1 n2 n3 n4 g0 gs gn gm hI_n0 hI_n1 hI_n2 hI_n3 hI_n4 H.size) gX10_start_X5_keep rfl rfl rfl hdV_X5_keep ⟨Nat.le_of_ble_eq_true rfl, Nat.le_of_ble_eq_true rfl⟩ [1, 2, 3, 4, 5, 6, 7, 8, 9, 10, 11, 12, 13, 14, 15, 16] rfl rfl 1 rfl rfl rfl hl.1 (Nat.le_of_ble_eq_true rfl) dX10_start_69 ⟨Nat.le_of_ble_eq_true rfl, Nat.le_of_ble_eq_true rfl⟩) (fun u_9 H locs hp_9 G => ?_)
            obtain ⟨n1_9a, g0_9b⟩ := u_9
            try dsimp only at hp_9
            obtain ⟨hI_n1_9a, hq_9⟩ := hp_9
            have G : wd X (va_A (@HAppend.hAppend va_W va_W va_W _ (xW h0 nw sp xa la lb) (@HAppend.hAppend va_W va_W va_W _ (rcV X nw an sv dv n0 n1 n2 n3 n4 g0 gs gn gm) ([((xa 5), .inl (X.2.1, 3, .inl fr))]))) sz) (va_A (@HAppend.hAppend va_W va_W va_W _ (xW h0 nw sp xa la lb) (@HAppend.hAppend va_W va_W va_W _ (rcV X nw an sv dv n0 n1 n2 n3 n4 g0 gs gn gm) ([((xa 5), .inl (X.2.1, 3, .inl fr))]))) sz) s (@HAppend.hAppend va_W va_W va_W _ (xW h0 nw sp xa la lb) (@HAppend.hAppend va_W va_W va_W _ ([((xa 5), .inl (X.2.1, 3, .inl fr))]) (rcV X nw an sv dv n0 n1_9a n2 n3 n4 g0_9b gs gn gm))) H locs := G
            refine lv_aload_n zx zb dX10_start_72 rfl (lv_at hl 0 rfl) ?_
            refine lv_dup zx zb dX10_start_73 rfl ?_
            refine r_get (C := RX8) (T := TX8) (N := 8) (ci := 6) (v := .int (dv 11)) S in_X10_start_X8 G 4 rfl rfl 4 (by decide) lk_X10_start_137 rfl dX10_start_74 ?_
            refine lv_iload_n zx zb dX10_start_77 rfl (lv_at hl 3 rfl) ?_
            refine r_iadd (v := ((dv 11) + x2)) S rfl dX10_start_78 ?_
            refine r_put (C := RX8) (T := TX8) (N := 8) (ci := 6) (v := .int ((dv 11) + x2)) S in_X10_start_X8 tyX8_ok nmX8 G 4 rfl rfl 4 (by decide) lk_X10_start_137 rfl (vp_nar_int _) rfl (Nat.le_of_ble_eq_true rfl) dX10_start_79 (fun H locs G => ?_)
            obtain ⟨dv_10, G⟩ : ∃ dv_10 : Nat → Int32, wd X (va_A (@HAppend.hAppend va_W va_W va_W _ (xW h0 nw sp xa la lb) (@HAppend.hAppend va_W va_W va_W _ (rcV X nw an sv dv n0 n1 n2 n3 n4 g0 gs gn gm) ([((xa 5), .inl (X.2.1, 3, .inl fr))]))) sz) (va_A (@HAppend.hAppend va_W va_W va_W _ (xW h0 nw sp xa la lb) (@HAppend.hAppend va_W va_W va_W _ (rcV X nw an sv dv n0 n1 n2 n3 n4 g0 gs gn gm) ([((xa 5), .inl (X.2.1, 3, .inl fr))]))) sz) s (@HAppend.hAppend va_W va_W va_W _ (xW h0 nw sp xa la lb) (@HAppend.hAppend va_W va_W va_W _ ([((xa 5), .inl (X.2.1, 3, .inl fr))]) (rcV X nw an sv dv_10 n0 n1_9a n2 n3 n4 g0_9b gs gn gm))) H locs := ⟨upd dv 11 ((dv 11) + x2), G⟩
            refine lv_aload_n zx zb dX10_start_82 rfl (lv_at hl 0 rfl) ?_
            refine r_get (C := RX8) (T := TX8) (N := 8) (ci := 6) (v := .int (dv_10 11)) S in_X10_start_X8 G 4 rfl rfl 4 (by decide) lk_X10_start_137 rfl dX10_start_83 ?_
            exact e_int S zr zlk (vp_nar_int _) G (dv_10, n1_9a, g0_9b, fr) [0, 2, 3, 4, 5, 6, 7, 8, 9, 10, 11, 12, 13, 14, 15, 16, 17, 1] rfl rfl (Or.inr rfl) (⟨hI_n1_9a, trivial⟩) dX10_start_86
          · refine lv_aload_n zx zb dX10_start_58 rfl (lv_at hl 1 rfl) ?_
            refine lv_bipush (v := (-3)) zx zb dX10_start_59 (by decide) ?_
            refine b_wi (cells' := 0) (slots' := 0) (wr := rcV X nw an sv dv n0 n1 n2 n3 n4 g0 gs gn gm) G rfl rfl [0, 17] [1, 2, 3, 4, 5, 6, 7, 8, 9, 10, 11, 12, 13, 14, 15, 16] rfl rfl rfl rfl (n_V (As := [.int (-3)]) (rest := []) (C := RX10) (T := TX10) (N := 14) (ci := 8) S G (s_refuse l X h0 nw sp xa la lb fr (-3) H.size) gX10_start_X10_refuse rfl rfl rfl hdV_X10_refuse ⟨Nat.le_of_ble_eq_true rfl, Nat.le_of_ble_eq_true rfl⟩ [0, 17] rfl rfl 0 rfl rfl rfl hl.1 (Nat.le_of_ble_eq_true rfl) dX10_start_61 ⟨Nat.le_of_ble_eq_true rfl, Nat.le_of_ble_eq_true rfl⟩) (fun r_11 u_11 H locs hp_11 G => ?_)
            obtain ⟨f_11, rfl⟩ : ∃ z, z = u_11 := ⟨_, rfl⟩
            have hq_11 := hp_11
            have G : wd X (va_A (@HAppend.hAppend va_W va_W va_W _ (xW h0 nw sp xa la lb) (@HAppend.hAppend va_W va_W va_W _ (rcV X nw an sv dv n0 n1 n2 n3 n4 g0 gs gn gm) ([((xa 5), .inl (X.2.1, 3, .inl fr))]))) sz) (va_A (@HAppend.hAppend va_W va_W va_W _ (xW h0 nw sp xa la lb) (@HAppend.hAppend va_W va_W va_W _ (rcV X nw an sv dv n0 n1 n2 n3 n4 g0 gs gn gm) ([((xa 5), .inl (X.2.1, 3, .inl fr))]))) sz) s (@HAppend.hAppend va_W va_W va_W _ (rcV X nw an sv dv n0 n1 n2 n3 n4 g0 gs gn gm) (@HAppend.hAppend va_W va_W va_W _ (xW h0 nw sp xa la lb) ([((xa 5), .inl (X.2.1, 3, .inl f_11))]))) H locs := G
            exact e_int S zr zlk (vp_nar_int _) G (dv, n1, g0, f_11) [16, 0, 1, 2, 3, 4, 5, 6, 7, 8, 9, 10, 11, 12, 13, 14, 15, 17] rfl rfl (Or.inr rfl) (⟨hI_n1, trivial⟩) dX10_start_64
      · refine k_it (v := 1) rfl ?_
        refine r_aald (C := RX8) (b := (an 2)) S G 2 3 rfl rfl (k_vp (by decide)) rfl dX10_start_33 ?_
        refine lv_astore_n (lv' := [(3, .ref (an 2)), (0, .ref h0), (1, .int 1), (2, .int x2)]) zx zb dX10_start_34 rfl hl (by decide) rfl (fun ls hl => ?_)
        refine lv_aload_n zx zb dX10_start_35 rfl (lv_at hl 0 rfl) ?_
        refine o_ri (cells' := 0) (slots' := 0) G rfl rfl (n_V (As := []) (rest := []) (C := RX8) (T := TX8) (N := 8) (ci := 6) S G (s_isHome l X (an 2) (fun k => sv (3 + k)) (fun k => dv (15 + k)) H.size) gX10_start_X8_isHome rfl rfl rfl hdV_X8_isHome ⟨Nat.le_of_ble_eq_true rfl, Nat.le_of_ble_eq_true rfl⟩ [4] rfl rfl 4 rfl rfl rfl hl.1 (Nat.le_of_ble_eq_true rfl) dX10_start_36 ⟨Nat.le_of_ble_eq_true rfl, Nat.le_of_ble_eq_true rfl⟩) (fun r_12 u_12 H locs hp_12 G => ?_)
        have G : wd X (va_A (@HAppend.hAppend va_W va_W va_W _ (xW h0 nw sp xa la lb) (@HAppend.hAppend va_W va_W va_W _ (rcV X nw an sv dv n0 n1 n2 n3 n4 g0 gs gn gm) ([((xa 5), .inl (X.2.1, 3, .inl fr))]))) sz) (va_A (@HAppend.hAppend va_W va_W va_W _ (xW h0 nw sp xa la lb) (@HAppend.hAppend va_W va_W va_W _ (rcV X nw an sv dv n0 n1 n2 n3 n4 g0 gs gn gm) ([((xa 5), .inl (X.2.1, 3, .inl fr))]))) sz) s (@HAppend.hAppend va_W va_W va_W _ (xW h0 nw sp xa la lb) (@HAppend.hAppend va_W va_W va_W _ (rcV X nw an sv dv n0 n1 n2 n3 n4 g0 gs gn gm) ([((xa 5), .inl (X.2.1, 3, .inl fr))]))) H locs := G
        refine lv_if_ne (tgt := 58) zx zb dX10_start_39 (by decide) (fun c_13 => ?_) (fun c_13 => ?_)
        · refine lv_aload_n zx zb dX10_start_58 rfl (lv_at hl 1 rfl) ?_
          refine lv_bipush (v := (-3)) zx zb dX10_start_59 (by decide) ?_
          refine b_wi (cells' := 0) (slots' := 0) (wr := rcV X nw an sv dv n0 n1 n2 n3 n4 g0 gs gn gm) G rfl rfl [0, 17] [1, 2, 3, 4, 5, 6, 7, 8, 9, 10, 11, 12, 13, 14, 15, 16] rfl rfl rfl rfl (n_V (As := [.int (-3)]) (rest := []) (C := RX10) (T := TX10) (N := 14) (ci := 8) S G (s_refuse l X h0 nw sp xa la lb fr (-3) H.size) gX10_start_X10_refuse rfl rfl rfl hdV_X10_refuse ⟨Nat.le_of_ble_eq_true rfl, Nat.le_of_ble_eq_true rfl⟩ [0, 17] rfl rfl 0 rfl rfl rfl hl.1 (Nat.le_of_ble_eq_true rfl) dX10_start_61 ⟨Nat.le_of_ble_eq_true rfl, Nat.le_of_ble_eq_true rfl⟩) (fun r_14 u_14 H locs hp_14 G => ?_)
          obtain ⟨f_14, rfl⟩ : ∃ z, z = u_14 := ⟨_, rfl⟩
          have hq_14 := hp_14
          have G : wd X (va_A (@HAppend.hAppend va_W va_W va_W _ (xW h0 nw sp xa la lb) (@HAppend.hAppend va_W va_W va_W _ (rcV X nw an sv dv n0 n1 n2 n3 n4 g0 gs gn gm) ([((xa 5), .inl (X.2.1, 3, .inl fr))]))) sz) (va_A (@HAppend.hAppend va_W va_W va_W _ (xW h0 nw sp xa la lb) (@HAppend.hAppend va_W va_W va_W _ (rcV X nw an sv dv n0 n1 n2 n3 n4 g0 gs gn gm) ([((xa 5), .inl (X.2.1, 3, .inl fr))]))) sz) s (@HAppend.hAppend va_W va_W va_W _ (rcV X nw an sv dv n0 n1 n2 n3 n4 g0 gs gn gm) (@HAppend.hAppend va_W va_W va_W _ (xW h0 nw sp xa la lb) ([((xa 5), .inl (X.2.1, 3, .inl f_14))]))) H locs := G
          exact e_int S zr zlk (vp_nar_int _) G (dv, n1, g0, f_14) [16, 0, 1, 2, 3, 4, 5, 6, 7, 8, 9, 10, 11, 12, 13, 14, 15, 17] rfl rfl (Or.inr rfl) (⟨hI_n1, trivial⟩) dX10_start_64
        · refine lv_aload_n zx zb dX10_start_42 rfl (lv_at hl 0 rfl) ?_
          refine r_get (C := RX8) (T := TX8) (N := 8) (ci := 6) (v := .int (dv 16)) S in_X10_start_X8 G 4 rfl rfl 4 (by decide) lk_X10_start_137 rfl dX10_start_43 ?_
          refine lv_iload_n zx zb dX10_start_46 rfl (lv_at hl 3 rfl) ?_
          refine r_iadd (v := ((dv 16) + x2)) S rfl dX10_start_47 ?_
          refine lv_aload_n zx zb dX10_start_48 rfl (lv_at hl 1 rfl) ?_
          refine r_get (C := RX10) (T := TX10) (N := 14) (ci := 8) (v := .ref nw) S in_X10_start_X10 G 0 rfl rfl 0 (by decide) lk_X10_start_10 rfl dX10_start_49 ?_
          refine r_get (C := RX5) (T := TX5) (N := 8) (ci := 3) (v := .int (dv 0)) S in_X10_start_X5 G 1 rfl rfl 0 (by decide) lk_X10_start_140 rfl dX10_start_52 ?_
          refine lv_icmp_lt (tgt := 65) zx zb dX10_start_55 (by decide) (fun c_15 => ?_) (fun c_15 => ?_)
          · refine lv_aload_n zx zb dX10_start_65 rfl (lv_at hl 1 rfl) ?_
            refine r_get (C := RX10) (T := TX10) (N := 14) (ci := 8) (v := .ref nw) S in_X10_start_X10 G 0 rfl rfl 0 (by decide) lk_X10_start_10 rfl dX10_start_66 ?_
            refine b_wv (cells' := 0) (slots' := 0) (wr := @HAppend.hAppend va_W va_W va_W _ (xW h0 nw sp xa la lb) ([((xa 5), .inl (X.2.1, 3, .inl fr))])) G rfl rfl [1, 2, 3, 4, 5, 6, 7, 8, 9, 10, 11, 12, 13, 14, 15, 16] [0, 17] rfl rfl rfl rfl (n_V (As := []) (rest := []) (C := RX5) (T := TX5) (N := 8) (ci := 3) S G (s_keep l X nw an sv dv n0 n1 n2 n3 n4 g0 gs gn gm hI_n0 hI_n1 hI_n2 hI_n3 hI_n4 H.size) gX10_start_X5_keep rfl rfl rfl hdV_X5_keep ⟨Nat.le_of_ble_eq_true rfl, Nat.le_of_ble_eq_true rfl⟩ [1, 2, 3, 4, 5, 6, 7, 8, 9, 10, 11, 12, 13, 14, 15, 16] rfl rfl 1 rfl rfl rfl hl.1 (Nat.le_of_ble_eq_true rfl) dX10_start_69 ⟨Nat.le_of_ble_eq_true rfl, Nat.le_of_ble_eq_true rfl⟩) (fun u_16 H locs hp_16 G => ?_)
            obtain ⟨n1_16a, g0_16b⟩ := u_16
            try dsimp only at hp_16
            obtain ⟨hI_n1_16a, hq_16⟩ := hp_16
            have G : wd X (va_A (@HAppend.hAppend va_W va_W va_W _ (xW h0 nw sp xa la lb) (@HAppend.hAppend va_W va_W va_W _ (rcV X nw an sv dv n0 n1 n2 n3 n4 g0 gs gn gm) ([((xa 5), .inl (X.2.1, 3, .inl fr))]))) sz) (va_A (@HAppend.hAppend va_W va_W va_W _ (xW h0 nw sp xa la lb) (@HAppend.hAppend va_W va_W va_W _ (rcV X nw an sv dv n0 n1 n2 n3 n4 g0 gs gn gm) ([((xa 5), .inl (X.2.1, 3, .inl fr))]))) sz) s (@HAppend.hAppend va_W va_W va_W _ (xW h0 nw sp xa la lb) (@HAppend.hAppend va_W va_W va_W _ ([((xa 5), .inl (X.2.1, 3, .inl fr))]) (rcV X nw an sv dv n0 n1_16a n2 n3 n4 g0_16b gs gn gm))) H locs := G
            refine lv_aload_n zx zb dX10_start_72 rfl (lv_at hl 0 rfl) ?_
            refine lv_dup zx zb dX10_start_73 rfl ?_
            refine r_get (C := RX8) (T := TX8) (N := 8) (ci := 6) (v := .int (dv 16)) S in_X10_start_X8 G 5 rfl rfl 4 (by decide) lk_X10_start_137 rfl dX10_start_74 ?_
            refine lv_iload_n zx zb dX10_start_77 rfl (lv_at hl 3 rfl) ?_
            refine r_iadd (v := ((dv 16) + x2)) S rfl dX10_start_78 ?_
            refine r_put (C := RX8) (T := TX8) (N := 8) (ci := 6) (v := .int ((dv 16) + x2)) S in_X10_start_X8 tyX8_ok nmX8 G 5 rfl rfl 4 (by decide) lk_X10_start_137 rfl (vp_nar_int _) rfl (Nat.le_of_ble_eq_true rfl) dX10_start_79 (fun H locs G => ?_)
            obtain ⟨dv_17, G⟩ : ∃ dv_17 : Nat → Int32, wd X (va_A (@HAppend.hAppend va_W va_W va_W _ (xW h0 nw sp xa la lb) (@HAppend.hAppend va_W va_W va_W _ (rcV X nw an sv dv n0 n1 n2 n3 n4 g0 gs gn gm) ([((xa 5), .inl (X.2.1, 3, .inl fr))]))) sz) (va_A (@HAppend.hAppend va_W va_W va_W _ (xW h0 nw sp xa la lb) (@HAppend.hAppend va_W va_W va_W _ (rcV X nw an sv dv n0 n1 n2 n3 n4 g0 gs gn gm) ([((xa 5), .inl (X.2.1, 3, .inl fr))]))) sz) s (@HAppend.hAppend va_W va_W va_W _ (xW h0 nw sp xa la lb) (@HAppend.hAppend va_W va_W va_W _ ([((xa 5), .inl (X.2.1, 3, .inl fr))]) (rcV X nw an sv dv_17 n0 n1_16a n2 n3 n4 g0_16b gs gn gm))) H locs := ⟨upd dv 16 ((dv 16) + x2), G⟩
            refine lv_aload_n zx zb dX10_start_82 rfl (lv_at hl 0 rfl) ?_
            refine r_get (C := RX8) (T := TX8) (N := 8) (ci := 6) (v := .int (dv_17 16)) S in_X10_start_X8 G 5 rfl rfl 4 (by decide) lk_X10_start_137 rfl dX10_start_83 ?_
            exact e_int S zr zlk (vp_nar_int _) G (dv_17, n1_16a, g0_16b, fr) [0, 2, 3, 4, 5, 6, 7, 8, 9, 10, 11, 12, 13, 14, 15, 16, 17, 1] rfl rfl (Or.inr rfl) (⟨hI_n1_16a, trivial⟩) dX10_start_86
          · refine lv_aload_n zx zb dX10_start_58 rfl (lv_at hl 1 rfl) ?_
            refine lv_bipush (v := (-3)) zx zb dX10_start_59 (by decide) ?_
            refine b_wi (cells' := 0) (slots' := 0) (wr := rcV X nw an sv dv n0 n1 n2 n3 n4 g0 gs gn gm) G rfl rfl [0, 17] [1, 2, 3, 4, 5, 6, 7, 8, 9, 10, 11, 12, 13, 14, 15, 16] rfl rfl rfl rfl (n_V (As := [.int (-3)]) (rest := []) (C := RX10) (T := TX10) (N := 14) (ci := 8) S G (s_refuse l X h0 nw sp xa la lb fr (-3) H.size) gX10_start_X10_refuse rfl rfl rfl hdV_X10_refuse ⟨Nat.le_of_ble_eq_true rfl, Nat.le_of_ble_eq_true rfl⟩ [0, 17] rfl rfl 0 rfl rfl rfl hl.1 (Nat.le_of_ble_eq_true rfl) dX10_start_61 ⟨Nat.le_of_ble_eq_true rfl, Nat.le_of_ble_eq_true rfl⟩) (fun r_18 u_18 H locs hp_18 G => ?_)
            obtain ⟨f_18, rfl⟩ : ∃ z, z = u_18 := ⟨_, rfl⟩
            have hq_18 := hp_18
            have G : wd X (va_A (@HAppend.hAppend va_W va_W va_W _ (xW h0 nw sp xa la lb) (@HAppend.hAppend va_W va_W va_W _ (rcV X nw an sv dv n0 n1 n2 n3 n4 g0 gs gn gm) ([((xa 5), .inl (X.2.1, 3, .inl fr))]))) sz) (va_A (@HAppend.hAppend va_W va_W va_W _ (xW h0 nw sp xa la lb) (@HAppend.hAppend va_W va_W va_W _ (rcV X nw an sv dv n0 n1 n2 n3 n4 g0 gs gn gm) ([((xa 5), .inl (X.2.1, 3, .inl fr))]))) sz) s (@HAppend.hAppend va_W va_W va_W _ (rcV X nw an sv dv n0 n1 n2 n3 n4 g0 gs gn gm) (@HAppend.hAppend va_W va_W va_W _ (xW h0 nw sp xa la lb) ([((xa 5), .inl (X.2.1, 3, .inl f_18))]))) H locs := G
            exact e_int S zr zlk (vp_nar_int _) G (dv, n1, g0, f_18) [16, 0, 1, 2, 3, 4, 5, 6, 7, 8, 9, 10, 11, 12, 13, 14, 15, 17] rfl rfl (Or.inr rfl) (⟨hI_n1, trivial⟩) dX10_start_64
      · refine k_it (v := 2) rfl ?_
        refine r_aald (C := RX8) (b := (an 3)) S G 2 3 rfl rfl (k_vp (by decide)) rfl dX10_start_33 ?_
        refine lv_astore_n (lv' := [(3, .ref (an 3)), (0, .ref h0), (1, .int 2), (2, .int x2)]) zx zb dX10_start_34 rfl hl (by decide) rfl (fun ls hl => ?_)
        refine lv_aload_n zx zb dX10_start_35 rfl (lv_at hl 0 rfl) ?_
        refine o_ri (cells' := 0) (slots' := 0) G rfl rfl (n_V (As := []) (rest := []) (C := RX8) (T := TX8) (N := 8) (ci := 6) S G (s_isHome l X (an 3) (fun k => sv (6 + k)) (fun k => dv (20 + k)) H.size) gX10_start_X8_isHome rfl rfl rfl hdV_X8_isHome ⟨Nat.le_of_ble_eq_true rfl, Nat.le_of_ble_eq_true rfl⟩ [5] rfl rfl 5 rfl rfl rfl hl.1 (Nat.le_of_ble_eq_true rfl) dX10_start_36 ⟨Nat.le_of_ble_eq_true rfl, Nat.le_of_ble_eq_true rfl⟩) (fun r_19 u_19 H locs hp_19 G => ?_)
        have G : wd X (va_A (@HAppend.hAppend va_W va_W va_W _ (xW h0 nw sp xa la lb) (@HAppend.hAppend va_W va_W va_W _ (rcV X nw an sv dv n0 n1 n2 n3 n4 g0 gs gn gm) ([((xa 5), .inl (X.2.1, 3, .inl fr))]))) sz) (va_A (@HAppend.hAppend va_W va_W va_W _ (xW h0 nw sp xa la lb) (@HAppend.hAppend va_W va_W va_W _ (rcV X nw an sv dv n0 n1 n2 n3 n4 g0 gs gn gm) ([((xa 5), .inl (X.2.1, 3, .inl fr))]))) sz) s (@HAppend.hAppend va_W va_W va_W _ (xW h0 nw sp xa la lb) (@HAppend.hAppend va_W va_W va_W _ (rcV X nw an sv dv n0 n1 n2 n3 n4 g0 gs gn gm) ([((xa 5), .inl (X.2.1, 3, .inl fr))]))) H locs := G
        refine lv_if_ne (tgt := 58) zx zb dX10_start_39 (by decide) (fun c_20 => ?_) (fun c_20 => ?_)
        · refine lv_aload_n zx zb dX10_start_58 rfl (lv_at hl 1 rfl) ?_
          refine lv_bipush (v := (-3)) zx zb dX10_start_59 (by decide) ?_
          refine b_wi (cells' := 0) (slots' := 0) (wr := rcV X nw an sv dv n0 n1 n2 n3 n4 g0 gs gn gm) G rfl rfl [0, 17] [1, 2, 3, 4, 5, 6, 7, 8, 9, 10, 11, 12, 13, 14, 15, 16] rfl rfl rfl rfl (n_V (As := [.int (-3)]) (rest := []) (C := RX10) (T := TX10) (N := 14) (ci := 8) S G (s_refuse l X h0 nw sp xa la lb fr (-3) H.size) gX10_start_X10_refuse rfl rfl rfl hdV_X10_refuse ⟨Nat.le_of_ble_eq_true rfl, Nat.le_of_ble_eq_true rfl⟩ [0, 17] rfl rfl 0 rfl rfl rfl hl.1 (Nat.le_of_ble_eq_true rfl) dX10_start_61 ⟨Nat.le_of_ble_eq_true rfl, Nat.le_of_ble_eq_true rfl⟩) (fun r_21 u_21 H locs hp_21 G => ?_)
          obtain ⟨f_21, rfl⟩ : ∃ z, z = u_21 := ⟨_, rfl⟩
          have hq_21 := hp_21
          have G : wd X (va_A (@HAppend.hAppend va_W va_W va_W _ (xW h0 nw sp xa la lb) (@HAppend.hAppend va_W va_W va_W _ (rcV X nw an sv dv n0 n1 n2 n3 n4 g0 gs gn gm) ([((xa 5), .inl (X.2.1, 3, .inl fr))]))) sz) (va_A (@HAppend.hAppend va_W va_W va_W _ (xW h0 nw sp xa la lb) (@HAppend.hAppend va_W va_W va_W _ (rcV X nw an sv dv n0 n1 n2 n3 n4 g0 gs gn gm) ([((xa 5), .inl (X.2.1, 3, .inl fr))]))) sz) s (@HAppend.hAppend va_W va_W va_W _ (rcV X nw an sv dv n0 n1 n2 n3 n4 g0 gs gn gm) (@HAppend.hAppend va_W va_W va_W _ (xW h0 nw sp xa la lb) ([((xa 5), .inl (X.2.1, 3, .inl f_21))]))) H locs := G
          exact e_int S zr zlk (vp_nar_int _) G (dv, n1, g0, f_21) [16, 0, 1, 2, 3, 4, 5, 6, 7, 8, 9, 10, 11, 12, 13, 14, 15, 17] rfl rfl (Or.inr rfl) (⟨hI_n1, trivial⟩) dX10_start_64
        · refine lv_aload_n zx zb dX10_start_42 rfl (lv_at hl 0 rfl) ?_
          refine r_get (C := RX8) (T := TX8) (N := 8) (ci := 6) (v := .int (dv 21)) S in_X10_start_X8 G 5 rfl rfl 4 (by decide) lk_X10_start_137 rfl dX10_start_43 ?_
          refine lv_iload_n zx zb dX10_start_46 rfl (lv_at hl 3 rfl) ?_
          refine r_iadd (v := ((dv 21) + x2)) S rfl dX10_start_47 ?_
          refine lv_aload_n zx zb dX10_start_48 rfl (lv_at hl 1 rfl) ?_
          refine r_get (C := RX10) (T := TX10) (N := 14) (ci := 8) (v := .ref nw) S in_X10_start_X10 G 0 rfl rfl 0 (by decide) lk_X10_start_10 rfl dX10_start_49 ?_
          refine r_get (C := RX5) (T := TX5) (N := 8) (ci := 3) (v := .int (dv 0)) S in_X10_start_X5 G 1 rfl rfl 0 (by decide) lk_X10_start_140 rfl dX10_start_52 ?_
          refine lv_icmp_lt (tgt := 65) zx zb dX10_start_55 (by decide) (fun c_22 => ?_) (fun c_22 => ?_)
          · refine lv_aload_n zx zb dX10_start_65 rfl (lv_at hl 1 rfl) ?_
            refine r_get (C := RX10) (T := TX10) (N := 14) (ci := 8) (v := .ref nw) S in_X10_start_X10 G 0 rfl rfl 0 (by decide) lk_X10_start_10 rfl dX10_start_66 ?_
            refine b_wv (cells' := 0) (slots' := 0) (wr := @HAppend.hAppend va_W va_W va_W _ (xW h0 nw sp xa la lb) ([((xa 5), .inl (X.2.1, 3, .inl fr))])) G rfl rfl [1, 2, 3, 4, 5, 6, 7, 8, 9, 10, 11, 12, 13, 14, 15, 16] [0, 17] rfl rfl rfl rfl (n_V (As := []) (rest := []) (C := RX5) (T := TX5) (N := 8) (ci := 3) S G (s_keep l X nw an sv dv n0 n1 n2 n3 n4 g0 gs gn gm hI_n0 hI_n1 hI_n2 hI_n3 hI_n4 H.size) gX10_start_X5_keep rfl rfl rfl hdV_X5_keep ⟨Nat.le_of_ble_eq_true rfl, Nat.le_of_ble_eq_true rfl⟩ [1, 2, 3, 4, 5, 6, 7, 8, 9, 10, 11, 12, 13, 14, 15, 16] rfl rfl 1 rfl rfl rfl hl.1 (Nat.le_of_ble_eq_true rfl) dX10_start_69 ⟨Nat.le_of_ble_eq_true rfl, Nat.le_of_ble_eq_true rfl⟩) (fun u_23 H locs hp_23 G => ?_)
            obtain ⟨n1_23a, g0_23b⟩ := u_23
            try dsimp only at hp_23
            obtain ⟨hI_n1_23a, hq_23⟩ := hp_23
            have G : wd X (va_A (@HAppend.hAppend va_W va_W va_W _ (xW h0 nw sp xa la lb) (@HAppend.hAppend va_W va_W va_W _ (rcV X nw an sv dv n0 n1 n2 n3 n4 g0 gs gn gm) ([((xa 5), .inl (X.2.1, 3, .inl fr))]))) sz) (va_A (@HAppend.hAppend va_W va_W va_W _ (xW h0 nw sp xa la lb) (@HAppend.hAppend va_W va_W va_W _ (rcV X nw an sv dv n0 n1 n2 n3 n4 g0 gs gn gm) ([((xa 5), .inl (X.2.1, 3, .inl fr))]))) sz) s (@HAppend.hAppend va_W va_W va_W _ (xW h0 nw sp xa la lb) (@HAppend.hAppend va_W va_W va_W _ ([((xa 5), .inl (X.2.1, 3, .inl fr))]) (rcV X nw an sv dv n0 n1_23a n2 n3 n4 g0_23b gs gn gm))) H locs := G
            refine lv_aload_n zx zb dX10_start_72 rfl (lv_at hl 0 rfl) ?_
            refine lv_dup zx zb dX10_start_73 rfl ?_
            refine r_get (C := RX8) (T := TX8) (N := 8) (ci := 6) (v := .int (dv 21)) S in_X10_start_X8 G 6 rfl rfl 4 (by decide) lk_X10_start_137 rfl dX10_start_74 ?_
            refine lv_iload_n zx zb dX10_start_77 rfl (lv_at hl 3 rfl) ?_
            refine r_iadd (v := ((dv 21) + x2)) S rfl dX10_start_78 ?_
            refine r_put (C := RX8) (T := TX8) (N := 8) (ci := 6) (v := .int ((dv 21) + x2)) S in_X10_start_X8 tyX8_ok nmX8 G 6 rfl rfl 4 (by decide) lk_X10_start_137 rfl (vp_nar_int _) rfl (Nat.le_of_ble_eq_true rfl) dX10_start_79 (fun H locs G => ?_)
            obtain ⟨dv_24, G⟩ : ∃ dv_24 : Nat → Int32, wd X (va_A (@HAppend.hAppend va_W va_W va_W _ (xW h0 nw sp xa la lb) (@HAppend.hAppend va_W va_W va_W _ (rcV X nw an sv dv n0 n1 n2 n3 n4 g0 gs gn gm) ([((xa 5), .inl (X.2.1, 3, .inl fr))]))) sz) (va_A (@HAppend.hAppend va_W va_W va_W _ (xW h0 nw sp xa la lb) (@HAppend.hAppend va_W va_W va_W _ (rcV X nw an sv dv n0 n1 n2 n3 n4 g0 gs gn gm) ([((xa 5), .inl (X.2.1, 3, .inl fr))]))) sz) s (@HAppend.hAppend va_W va_W va_W _ (xW h0 nw sp xa la lb) (@HAppend.hAppend va_W va_W va_W _ ([((xa 5), .inl (X.2.1, 3, .inl fr))]) (rcV X nw an sv dv_24 n0 n1_23a n2 n3 n4 g0_23b gs gn gm))) H locs := ⟨upd dv 21 ((dv 21) + x2), G⟩
            refine lv_aload_n zx zb dX10_start_82 rfl (lv_at hl 0 rfl) ?_
            refine r_get (C := RX8) (T := TX8) (N := 8) (ci := 6) (v := .int (dv_24 21)) S in_X10_start_X8 G 6 rfl rfl 4 (by decide) lk_X10_start_137 rfl dX10_start_83 ?_
            exact e_int S zr zlk (vp_nar_int _) G (dv_24, n1_23a, g0_23b, fr) [0, 2, 3, 4, 5, 6, 7, 8, 9, 10, 11, 12, 13, 14, 15, 16, 17, 1] rfl rfl (Or.inr rfl) (⟨hI_n1_23a, trivial⟩) dX10_start_86
          · refine lv_aload_n zx zb dX10_start_58 rfl (lv_at hl 1 rfl) ?_
            refine lv_bipush (v := (-3)) zx zb dX10_start_59 (by decide) ?_
            refine b_wi (cells' := 0) (slots' := 0) (wr := rcV X nw an sv dv n0 n1 n2 n3 n4 g0 gs gn gm) G rfl rfl [0, 17] [1, 2, 3, 4, 5, 6, 7, 8, 9, 10, 11, 12, 13, 14, 15, 16] rfl rfl rfl rfl (n_V (As := [.int (-3)]) (rest := []) (C := RX10) (T := TX10) (N := 14) (ci := 8) S G (s_refuse l X h0 nw sp xa la lb fr (-3) H.size) gX10_start_X10_refuse rfl rfl rfl hdV_X10_refuse ⟨Nat.le_of_ble_eq_true rfl, Nat.le_of_ble_eq_true rfl⟩ [0, 17] rfl rfl 0 rfl rfl rfl hl.1 (Nat.le_of_ble_eq_true rfl) dX10_start_61 ⟨Nat.le_of_ble_eq_true rfl, Nat.le_of_ble_eq_true rfl⟩) (fun r_25 u_25 H locs hp_25 G => ?_)
            obtain ⟨f_25, rfl⟩ : ∃ z, z = u_25 := ⟨_, rfl⟩
            have hq_25 := hp_25
            have G : wd X (va_A (@HAppend.hAppend va_W va_W va_W _ (xW h0 nw sp xa la lb) (@HAppend.hAppend va_W va_W va_W _ (rcV X nw an sv dv n0 n1 n2 n3 n4 g0 gs gn gm) ([((xa 5), .inl (X.2.1, 3, .inl fr))]))) sz) (va_A (@HAppend.hAppend va_W va_W va_W _ (xW h0 nw sp xa la lb) (@HAppend.hAppend va_W va_W va_W _ (rcV X nw an sv dv n0 n1 n2 n3 n4 g0 gs gn gm) ([((xa 5), .inl (X.2.1, 3, .inl fr))]))) sz) s (@HAppend.hAppend va_W va_W va_W _ (rcV X nw an sv dv n0 n1 n2 n3 n4 g0 gs gn gm) (@HAppend.hAppend va_W va_W va_W _ (xW h0 nw sp xa la lb) ([((xa 5), .inl (X.2.1, 3, .inl f_25))]))) H locs := G
            exact e_int S zr zlk (vp_nar_int _) G (dv, n1, g0, f_25) [16, 0, 1, 2, 3, 4, 5, 6, 7, 8, 9, 10, 11, 12, 13, 14, 15, 17] rfl rfl (Or.inr rfl) (⟨hI_n1, trivial⟩) dX10_start_64
      · refine k_it (v := 3) rfl ?_
        refine r_aald (C := RX8) (b := (an 4)) S G 2 3 rfl rfl (k_vp (by decide)) rfl dX10_start_33 ?_
        refine lv_astore_n (lv' := [(3, .ref (an 4)), (0, .ref h0), (1, .int 3), (2, .int x2)]) zx zb dX10_start_34 rfl hl (by decide) rfl (fun ls hl => ?_)
        refine lv_aload_n zx zb dX10_start_35 rfl (lv_at hl 0 rfl) ?_
        refine o_ri (cells' := 0) (slots' := 0) G rfl rfl (n_V (As := []) (rest := []) (C := RX8) (T := TX8) (N := 8) (ci := 6) S G (s_isHome l X (an 4) (fun k => sv (9 + k)) (fun k => dv (25 + k)) H.size) gX10_start_X8_isHome rfl rfl rfl hdV_X8_isHome ⟨Nat.le_of_ble_eq_true rfl, Nat.le_of_ble_eq_true rfl⟩ [6] rfl rfl 6 rfl rfl rfl hl.1 (Nat.le_of_ble_eq_true rfl) dX10_start_36 ⟨Nat.le_of_ble_eq_true rfl, Nat.le_of_ble_eq_true rfl⟩) (fun r_26 u_26 H locs hp_26 G => ?_)
        have G : wd X (va_A (@HAppend.hAppend va_W va_W va_W _ (xW h0 nw sp xa la lb) (@HAppend.hAppend va_W va_W va_W _ (rcV X nw an sv dv n0 n1 n2 n3 n4 g0 gs gn gm) ([((xa 5), .inl (X.2.1, 3, .inl fr))]))) sz) (va_A (@HAppend.hAppend va_W va_W va_W _ (xW h0 nw sp xa la lb) (@HAppend.hAppend va_W va_W va_W _ (rcV X nw an sv dv n0 n1 n2 n3 n4 g0 gs gn gm) ([((xa 5), .inl (X.2.1, 3, .inl fr))]))) sz) s (@HAppend.hAppend va_W va_W va_W _ (xW h0 nw sp xa la lb) (@HAppend.hAppend va_W va_W va_W _ (rcV X nw an sv dv n0 n1 n2 n3 n4 g0 gs gn gm) ([((xa 5), .inl (X.2.1, 3, .inl fr))]))) H locs := G
        refine lv_if_ne (tgt := 58) zx zb dX10_start_39 (by decide) (fun c_27 => ?_) (fun c_27 => ?_)
        · refine lv_aload_n zx zb dX10_start_58 rfl (lv_at hl 1 rfl) ?_
          refine lv_bipush (v := (-3)) zx zb dX10_start_59 (by decide) ?_
          refine b_wi (cells' := 0) (slots' := 0) (wr := rcV X nw an sv dv n0 n1 n2 n3 n4 g0 gs gn gm) G rfl rfl [0, 17] [1, 2, 3, 4, 5, 6, 7, 8, 9, 10, 11, 12, 13, 14, 15, 16] rfl rfl rfl rfl (n_V (As := [.int (-3)]) (rest := []) (C := RX10) (T := TX10) (N := 14) (ci := 8) S G (s_refuse l X h0 nw sp xa la lb fr (-3) H.size) gX10_start_X10_refuse rfl rfl rfl hdV_X10_refuse ⟨Nat.le_of_ble_eq_true rfl, Nat.le_of_ble_eq_true rfl⟩ [0, 17] rfl rfl 0 rfl rfl rfl hl.1 (Nat.le_of_ble_eq_true rfl) dX10_start_61 ⟨Nat.le_of_ble_eq_true rfl, Nat.le_of_ble_eq_true rfl⟩) (fun r_28 u_28 H locs hp_28 G => ?_)
          obtain ⟨f_28, rfl⟩ : ∃ z, z = u_28 := ⟨_, rfl⟩
          have hq_28 := hp_28
          have G : wd X (va_A (@HAppend.hAppend va_W va_W va_W _ (xW h0 nw sp xa la lb) (@HAppend.hAppend va_W va_W va_W _ (rcV X nw an sv dv n0 n1 n2 n3 n4 g0 gs gn gm) ([((xa 5), .inl (X.2.1, 3, .inl fr))]))) sz) (va_A (@HAppend.hAppend va_W va_W va_W _ (xW h0 nw sp xa la lb) (@HAppend.hAppend va_W va_W va_W _ (rcV X nw an sv dv n0 n1 n2 n3 n4 g0 gs gn gm) ([((xa 5), .inl (X.2.1, 3, .inl fr))]))) sz) s (@HAppend.hAppend va_W va_W va_W _ (rcV X nw an sv dv n0 n1 n2 n3 n4 g0 gs gn gm) (@HAppend.hAppend va_W va_W va_W _ (xW h0 nw sp xa la lb) ([((xa 5), .inl (X.2.1, 3, .inl f_28))]))) H locs := G
          exact e_int S zr zlk (vp_nar_int _) G (dv, n1, g0, f_28) [16, 0, 1, 2, 3, 4, 5, 6, 7, 8, 9, 10, 11, 12, 13, 14, 15, 17] rfl rfl (Or.inr rfl) (⟨hI_n1, trivial⟩) dX10_start_64
        · refine lv_aload_n zx zb dX10_start_42 rfl (lv_at hl 0 rfl) ?_
          refine r_get (C := RX8) (T := TX8) (N := 8) (ci := 6) (v := .int (dv 26)) S in_X10_start_X8 G 6 rfl rfl 4 (by decide) lk_X10_start_137 rfl dX10_start_43 ?_
          refine lv_iload_n zx zb dX10_start_46 rfl (lv_at hl 3 rfl) ?_
          refine r_iadd (v := ((dv 26) + x2)) S rfl dX10_start_47 ?_
          refine lv_aload_n zx zb dX10_start_48 rfl (lv_at hl 1 rfl) ?_
          refine r_get (C := RX10) (T := TX10) (N := 14) (ci := 8) (v := .ref nw) S in_X10_start_X10 G 0 rfl rfl 0 (by decide) lk_X10_start_10 rfl dX10_start_49 ?_
          refine r_get (C := RX5) (T := TX5) (N := 8) (ci := 3) (v := .int (dv 0)) S in_X10_start_X5 G 1 rfl rfl 0 (by decide) lk_X10_start_140 rfl dX10_start_52 ?_
          refine lv_icmp_lt (tgt := 65) zx zb dX10_start_55 (by decide) (fun c_29 => ?_) (fun c_29 => ?_)
          · refine lv_aload_n zx zb dX10_start_65 rfl (lv_at hl 1 rfl) ?_
            refine r_get (C := RX10) (T := TX10) (N := 14) (ci := 8) (v := .ref nw) S in_X10_start_X10 G 0 rfl rfl 0 (by decide) lk_X10_start_10 rfl dX10_start_66 ?_
            refine b_wv (cells' := 0) (slots' := 0) (wr := @HAppend.hAppend va_W va_W va_W _ (xW h0 nw sp xa la lb) ([((xa 5), .inl (X.2.1, 3, .inl fr))])) G rfl rfl [1, 2, 3, 4, 5, 6, 7, 8, 9, 10, 11, 12, 13, 14, 15, 16] [0, 17] rfl rfl rfl rfl (n_V (As := []) (rest := []) (C := RX5) (T := TX5) (N := 8) (ci := 3) S G (s_keep l X nw an sv dv n0 n1 n2 n3 n4 g0 gs gn gm hI_n0 hI_n1 hI_n2 hI_n3 hI_n4 H.size) gX10_start_X5_keep rfl rfl rfl hdV_X5_keep ⟨Nat.le_of_ble_eq_true rfl, Nat.le_of_ble_eq_true rfl⟩ [1, 2, 3, 4, 5, 6, 7, 8, 9, 10, 11, 12, 13, 14, 15, 16] rfl rfl 1 rfl rfl rfl hl.1 (Nat.le_of_ble_eq_true rfl) dX10_start_69 ⟨Nat.le_of_ble_eq_true rfl, Nat.le_of_ble_eq_true rfl⟩) (fun u_30 H locs hp_30 G => ?_)
            obtain ⟨n1_30a, g0_30b⟩ := u_30
            try dsimp only at hp_30
            obtain ⟨hI_n1_30a, hq_30⟩ := hp_30
            have G : wd X (va_A (@HAppend.hAppend va_W va_W va_W _ (xW h0 nw sp xa la lb) (@HAppend.hAppend va_W va_W va_W _ (rcV X nw an sv dv n0 n1 n2 n3 n4 g0 gs gn gm) ([((xa 5), .inl (X.2.1, 3, .inl fr))]))) sz) (va_A (@HAppend.hAppend va_W va_W va_W _ (xW h0 nw sp xa la lb) (@HAppend.hAppend va_W va_W va_W _ (rcV X nw an sv dv n0 n1 n2 n3 n4 g0 gs gn gm) ([((xa 5), .inl (X.2.1, 3, .inl fr))]))) sz) s (@HAppend.hAppend va_W va_W va_W _ (xW h0 nw sp xa la lb) (@HAppend.hAppend va_W va_W va_W _ ([((xa 5), .inl (X.2.1, 3, .inl fr))]) (rcV X nw an sv dv n0 n1_30a n2 n3 n4 g0_30b gs gn gm))) H locs := G
            refine lv_aload_n zx zb dX10_start_72 rfl (lv_at hl 0 rfl) ?_
            refine lv_dup zx zb dX10_start_73 rfl ?_
            refine r_get (C := RX8) (T := TX8) (N := 8) (ci := 6) (v := .int (dv 26)) S in_X10_start_X8 G 7 rfl rfl 4 (by decide) lk_X10_start_137 rfl dX10_start_74 ?_
            refine lv_iload_n zx zb dX10_start_77 rfl (lv_at hl 3 rfl) ?_
            refine r_iadd (v := ((dv 26) + x2)) S rfl dX10_start_78 ?_
            refine r_put (C := RX8) (T := TX8) (N := 8) (ci := 6) (v := .int ((dv 26) + x2)) S in_X10_start_X8 tyX8_ok nmX8 G 7 rfl rfl 4 (by decide) lk_X10_start_137 rfl (vp_nar_int _) rfl (Nat.le_of_ble_eq_true rfl) dX10_start_79 (fun H locs G => ?_)
            obtain ⟨dv_31, G⟩ : ∃ dv_31 : Nat → Int32, wd X (va_A (@HAppend.hAppend va_W va_W va_W _ (xW h0 nw sp xa la lb) (@HAppend.hAppend va_W va_W va_W _ (rcV X nw an sv dv n0 n1 n2 n3 n4 g0 gs gn gm) ([((xa 5), .inl (X.2.1, 3, .inl fr))]))) sz) (va_A (@HAppend.hAppend va_W va_W va_W _ (xW h0 nw sp xa la lb) (@HAppend.hAppend va_W va_W va_W _ (rcV X nw an sv dv n0 n1 n2 n3 n4 g0 gs gn gm) ([((xa 5), .inl (X.2.1, 3, .inl fr))]))) sz) s (@HAppend.hAppend va_W va_W va_W _ (xW h0 nw sp xa la lb) (@HAppend.hAppend va_W va_W va_W _ ([((xa 5), .inl (X.2.1, 3, .inl fr))]) (rcV X nw an sv dv_31 n0 n1_30a n2 n3 n4 g0_30b gs gn gm))) H locs := ⟨upd dv 26 ((dv 26) + x2), G⟩
            refine lv_aload_n zx zb dX10_start_82 rfl (lv_at hl 0 rfl) ?_
            refine r_get (C := RX8) (T := TX8) (N := 8) (ci := 6) (v := .int (dv_31 26)) S in_X10_start_X8 G 7 rfl rfl 4 (by decide) lk_X10_start_137 rfl dX10_start_83 ?_
            exact e_int S zr zlk (vp_nar_int _) G (dv_31, n1_30a, g0_30b, fr) [0, 2, 3, 4, 5, 6, 7, 8, 9, 10, 11, 12, 13, 14, 15, 16, 17, 1] rfl rfl (Or.inr rfl) (⟨hI_n1_30a, trivial⟩) dX10_start_86
          · refine lv_aload_n zx zb dX10_start_58 rfl (lv_at hl 1 rfl) ?_
            refine lv_bipush (v := (-3)) zx zb dX10_start_59 (by decide) ?_
            refine b_wi (cells' := 0) (slots' := 0) (wr := rcV X nw an sv dv n0 n1 n2 n3 n4 g0 gs gn gm) G rfl rfl [0, 17] [1, 2, 3, 4, 5, 6, 7, 8, 9, 10, 11, 12, 13, 14, 15, 16] rfl rfl rfl rfl (n_V (As := [.int (-3)]) (rest := []) (C := RX10) (T := TX10) (N := 14) (ci := 8) S G (s_refuse l X h0 nw sp xa la lb fr (-3) H.size) gX10_start_X10_refuse rfl rfl rfl hdV_X10_refuse ⟨Nat.le_of_ble_eq_true rfl, Nat.le_of_ble_eq_true rfl⟩ [0, 17] rfl rfl 0 rfl rfl rfl hl.1 (Nat.le_of_ble_eq_true rfl) dX10_start_61 ⟨Nat.le_of_ble_eq_true rfl, Nat.le_of_ble_eq_true rfl⟩) (fun r_32 u_32 H locs hp_32 G => ?_)
            obtain ⟨f_32, rfl⟩ : ∃ z, z = u_32 := ⟨_, rfl⟩
            have hq_32 := hp_32
            have G : wd X (va_A (@HAppend.hAppend va_W va_W va_W _ (xW h0 nw sp xa la lb) (@HAppend.hAppend va_W va_W va_W _ (rcV X nw an sv dv n0 n1 n2 n3 n4 g0 gs gn gm) ([((xa 5), .inl (X.2.1, 3, .inl fr))]))) sz) (va_A (@HAppend.hAppend va_W va_W va_W _ (xW h0 nw sp xa la lb) (@HAppend.hAppend va_W va_W va_W _ (rcV X nw an sv dv n0 n1 n2 n3 n4 g0 gs gn gm) ([((xa 5), .inl (X.2.1, 3, .inl fr))]))) sz) s (@HAppend.hAppend va_W va_W va_W _ (rcV X nw an sv dv n0 n1 n2 n3 n4 g0 gs gn gm) (@HAppend.hAppend va_W va_W va_W _ (xW h0 nw sp xa la lb) ([((xa 5), .inl (X.2.1, 3, .inl f_32))]))) H locs := G
            exact e_int S zr zlk (vp_nar_int _) G (dv, n1, g0, f_32) [16, 0, 1, 2, 3, 4, 5, 6, 7, 8, 9, 10, 11, 12, 13, 14, 15, 17] rfl rfl (Or.inr rfl) (⟨hI_n1, trivial⟩) dX10_start_64
      · refine k_it (v := 4) rfl ?_
        refine r_aald (C := RX8) (b := (an 5)) S G 2 3 rfl rfl (k_vp (by decide)) rfl dX10_start_33 ?_
        refine lv_astore_n (lv' := [(3, .ref (an 5)), (0, .ref h0), (1, .int 4), (2, .int x2)]) zx zb dX10_start_34 rfl hl (by decide) rfl (fun ls hl => ?_)
        refine lv_aload_n zx zb dX10_start_35 rfl (lv_at hl 0 rfl) ?_
        refine o_ri (cells' := 0) (slots' := 0) G rfl rfl (n_V (As := []) (rest := []) (C := RX8) (T := TX8) (N := 8) (ci := 6) S G (s_isHome l X (an 5) (fun k => sv (12 + k)) (fun k => dv (30 + k)) H.size) gX10_start_X8_isHome rfl rfl rfl hdV_X8_isHome ⟨Nat.le_of_ble_eq_true rfl, Nat.le_of_ble_eq_true rfl⟩ [7] rfl rfl 7 rfl rfl rfl hl.1 (Nat.le_of_ble_eq_true rfl) dX10_start_36 ⟨Nat.le_of_ble_eq_true rfl, Nat.le_of_ble_eq_true rfl⟩) (fun r_33 u_33 H locs hp_33 G => ?_)
        have G : wd X (va_A (@HAppend.hAppend va_W va_W va_W _ (xW h0 nw sp xa la lb) (@HAppend.hAppend va_W va_W va_W _ (rcV X nw an sv dv n0 n1 n2 n3 n4 g0 gs gn gm) ([((xa 5), .inl (X.2.1, 3, .inl fr))]))) sz) (va_A (@HAppend.hAppend va_W va_W va_W _ (xW h0 nw sp xa la lb) (@HAppend.hAppend va_W va_W va_W _ (rcV X nw an sv dv n0 n1 n2 n3 n4 g0 gs gn gm) ([((xa 5), .inl (X.2.1, 3, .inl fr))]))) sz) s (@HAppend.hAppend va_W va_W va_W _ (xW h0 nw sp xa la lb) (@HAppend.hAppend va_W va_W va_W _ (rcV X nw an sv dv n0 n1 n2 n3 n4 g0 gs gn gm) ([((xa 5), .inl (X.2.1, 3, .inl fr))]))) H locs := G
        refine lv_if_ne (tgt := 58) zx zb dX10_start_39 (by decide) (fun c_34 => ?_) (fun c_34 => ?_)
        · refine lv_aload_n zx zb dX10_start_58 rfl (lv_at hl 1 rfl) ?_
          refine lv_bipush (v := (-3)) zx zb dX10_start_59 (by decide) ?_
          refine b_wi (cells' := 0) (slots' := 0) (wr := rcV X nw an sv dv n0 n1 n2 n3 n4 g0 gs gn gm) G rfl rfl [0, 17] [1, 2, 3, 4, 5, 6, 7, 8, 9, 10, 11, 12, 13, 14, 15, 16] rfl rfl rfl rfl (n_V (As := [.int (-3)]) (rest := []) (C := RX10) (T := TX10) (N := 14) (ci := 8) S G (s_refuse l X h0 nw sp xa la lb fr (-3) H.size) gX10_start_X10_refuse rfl rfl rfl hdV_X10_refuse ⟨Nat.le_of_ble_eq_true rfl, Nat.le_of_ble_eq_true rfl⟩ [0, 17] rfl rfl 0 rfl rfl rfl hl.1 (Nat.le_of_ble_eq_true rfl) dX10_start_61 ⟨Nat.le_of_ble_eq_true rfl, Nat.le_of_ble_eq_true rfl⟩) (fun r_35 u_35 H locs hp_35 G => ?_)
          obtain ⟨f_35, rfl⟩ : ∃ z, z = u_35 := ⟨_, rfl⟩
          have hq_35 := hp_35
          have G : wd X (va_A (@HAppend.hAppend va_W va_W va_W _ (xW h0 nw sp xa la lb) (@HAppend.hAppend va_W va_W va_W _ (rcV X nw an sv dv n0 n1 n2 n3 n4 g0 gs gn gm) ([((xa 5), .inl (X.2.1, 3, .inl fr))]))) sz) (va_A (@HAppend.hAppend va_W va_W va_W _ (xW h0 nw sp xa la lb) (@HAppend.hAppend va_W va_W va_W _ (rcV X nw an sv dv n0 n1 n2 n3 n4 g0 gs gn gm) ([((xa 5), .inl (X.2.1, 3, .inl fr))]))) sz) s (@HAppend.hAppend va_W va_W va_W _ (rcV X nw an sv dv n0 n1 n2 n3 n4 g0 gs gn gm) (@HAppend.hAppend va_W va_W va_W _ (xW h0 nw sp xa la lb) ([((xa 5), .inl (X.2.1, 3, .inl f_35))]))) H locs := G
          exact e_int S zr zlk (vp_nar_int _) G (dv, n1, g0, f_35) [16, 0, 1, 2, 3, 4, 5, 6, 7, 8, 9, 10, 11, 12, 13, 14, 15, 17] rfl rfl (Or.inr rfl) (⟨hI_n1, trivial⟩) dX10_start_64
        · refine lv_aload_n zx zb dX10_start_42 rfl (lv_at hl 0 rfl) ?_
          refine r_get (C := RX8) (T := TX8) (N := 8) (ci := 6) (v := .int (dv 31)) S in_X10_start_X8 G 7 rfl rfl 4 (by decide) lk_X10_start_137 rfl dX10_start_43 ?_
          refine lv_iload_n zx zb dX10_start_46 rfl (lv_at hl 3 rfl) ?_
          refine r_iadd (v := ((dv 31) + x2)) S rfl dX10_start_47 ?_
          refine lv_aload_n zx zb dX10_start_48 rfl (lv_at hl 1 rfl) ?_
          refine r_get (C := RX10) (T := TX10) (N := 14) (ci := 8) (v := .ref nw) S in_X10_start_X10 G 0 rfl rfl 0 (by decide) lk_X10_start_10 rfl dX10_start_49 ?_
          refine r_get (C := RX5) (T := TX5) (N := 8) (ci := 3) (v := .int (dv 0)) S in_X10_start_X5 G 1 rfl rfl 0 (by decide) lk_X10_start_140 rfl dX10_start_52 ?_
          refine lv_icmp_lt (tgt := 65) zx zb dX10_start_55 (by decide) (fun c_36 => ?_) (fun c_36 => ?_)
          · refine lv_aload_n zx zb dX10_start_65 rfl (lv_at hl 1 rfl) ?_
            refine r_get (C := RX10) (T := TX10) (N := 14) (ci := 8) (v := .ref nw) S in_X10_start_X10 G 0 rfl rfl 0 (by decide) lk_X10_start_10 rfl dX10_start_66 ?_
            refine b_wv (cells' := 0) (slots' := 0) (wr := @HAppend.hAppend va_W va_W va_W _ (xW h0 nw sp xa la lb) ([((xa 5), .inl (X.2.1, 3, .inl fr))])) G rfl rfl [1, 2, 3, 4, 5, 6, 7, 8, 9, 10, 11, 12, 13, 14, 15, 16] [0, 17] rfl rfl rfl rfl (n_V (As := []) (rest := []) (C := RX5) (T := TX5) (N := 8) (ci := 3) S G (s_keep l X nw an sv dv n0 n1 n2 n3 n4 g0 gs gn gm hI_n0 hI_n1 hI_n2 hI_n3 hI_n4 H.size) gX10_start_X5_keep rfl rfl rfl hdV_X5_keep ⟨Nat.le_of_ble_eq_true rfl, Nat.le_of_ble_eq_true rfl⟩ [1, 2, 3, 4, 5, 6, 7, 8, 9, 10, 11, 12, 13, 14, 15, 16] rfl rfl 1 rfl rfl rfl hl.1 (Nat.le_of_ble_eq_true rfl) dX10_start_69 ⟨Nat.le_of_ble_eq_true rfl, Nat.le_of_ble_eq_true rfl⟩) (fun u_37 H locs hp_37 G => ?_)
            obtain ⟨n1_37a, g0_37b⟩ := u_37
            try dsimp only at hp_37
            obtain ⟨hI_n1_37a, hq_37⟩ := hp_37
            have G : wd X (va_A (@HAppend.hAppend va_W va_W va_W _ (xW h0 nw sp xa la lb) (@HAppend.hAppend va_W va_W va_W _ (rcV X nw an sv dv n0 n1 n2 n3 n4 g0 gs gn gm) ([((xa 5), .inl (X.2.1, 3, .inl fr))]))) sz) (va_A (@HAppend.hAppend va_W va_W va_W _ (xW h0 nw sp xa la lb) (@HAppend.hAppend va_W va_W va_W _ (rcV X nw an sv dv n0 n1 n2 n3 n4 g0 gs gn gm) ([((xa 5), .inl (X.2.1, 3, .inl fr))]))) sz) s (@HAppend.hAppend va_W va_W va_W _ (xW h0 nw sp xa la lb) (@HAppend.hAppend va_W va_W va_W _ ([((xa 5), .inl (X.2.1, 3, .inl fr))]) (rcV X nw an sv dv n0 n1_37a n2 n3 n4 g0_37b gs gn gm))) H locs := G
            refine lv_aload_n zx zb dX10_start_72 rfl (lv_at hl 0 rfl) ?_
            refine lv_dup zx zb dX10_start_73 rfl ?_
            refine r_get (C := RX8) (T := TX8) (N := 8) (ci := 6) (v := .int (dv 31)) S in_X10_start_X8 G 8 rfl rfl 4 (by decide) lk_X10_start_137 rfl dX10_start_74 ?_
            refine lv_iload_n zx zb dX10_start_77 rfl (lv_at hl 3 rfl) ?_
            refine r_iadd (v := ((dv 31) + x2)) S rfl dX10_start_78 ?_
            refine r_put (C := RX8) (T := TX8) (N := 8) (ci := 6) (v := .int ((dv 31) + x2)) S in_X10_start_X8 tyX8_ok nmX8 G 8 rfl rfl 4 (by decide) lk_X10_start_137 rfl (vp_nar_int _) rfl (Nat.le_of_ble_eq_true rfl) dX10_start_79 (fun H locs G => ?_)
            obtain ⟨dv_38, G⟩ : ∃ dv_38 : Nat → Int32, wd X (va_A (@HAppend.hAppend va_W va_W va_W _ (xW h0 nw sp xa la lb) (@HAppend.hAppend va_W va_W va_W _ (rcV X nw an sv dv n0 n1 n2 n3 n4 g0 gs gn gm) ([((xa 5), .inl (X.2.1, 3, .inl fr))]))) sz) (va_A (@HAppend.hAppend va_W va_W va_W _ (xW h0 nw sp xa la lb) (@HAppend.hAppend va_W va_W va_W _ (rcV X nw an sv dv n0 n1 n2 n3 n4 g0 gs gn gm) ([((xa 5), .inl (X.2.1, 3, .inl fr))]))) sz) s (@HAppend.hAppend va_W va_W va_W _ (xW h0 nw sp xa la lb) (@HAppend.hAppend va_W va_W va_W _ ([((xa 5), .inl (X.2.1, 3, .inl fr))]) (rcV X nw an sv dv_38 n0 n1_37a n2 n3 n4 g0_37b gs gn gm))) H locs := ⟨upd dv 31 ((dv 31) + x2), G⟩
            refine lv_aload_n zx zb dX10_start_82 rfl (lv_at hl 0 rfl) ?_
            refine r_get (C := RX8) (T := TX8) (N := 8) (ci := 6) (v := .int (dv_38 31)) S in_X10_start_X8 G 8 rfl rfl 4 (by decide) lk_X10_start_137 rfl dX10_start_83 ?_
            exact e_int S zr zlk (vp_nar_int _) G (dv_38, n1_37a, g0_37b, fr) [0, 2, 3, 4, 5, 6, 7, 8, 9, 10, 11, 12, 13, 14, 15, 16, 17, 1] rfl rfl (Or.inr rfl) (⟨hI_n1_37a, trivial⟩) dX10_start_86
          · refine lv_aload_n zx zb dX10_start_58 rfl (lv_at hl 1 rfl) ?_
            refine lv_bipush (v := (-3)) zx zb dX10_start_59 (by decide) ?_
            refine b_wi (cells' := 0) (slots' := 0) (wr := rcV X nw an sv dv n0 n1 n2 n3 n4 g0 gs gn gm) G rfl rfl [0, 17] [1, 2, 3, 4, 5, 6, 7, 8, 9, 10, 11, 12, 13, 14, 15, 16] rfl rfl rfl rfl (n_V (As := [.int (-3)]) (rest := []) (C := RX10) (T := TX10) (N := 14) (ci := 8) S G (s_refuse l X h0 nw sp xa la lb fr (-3) H.size) gX10_start_X10_refuse rfl rfl rfl hdV_X10_refuse ⟨Nat.le_of_ble_eq_true rfl, Nat.le_of_ble_eq_true rfl⟩ [0, 17] rfl rfl 0 rfl rfl rfl hl.1 (Nat.le_of_ble_eq_true rfl) dX10_start_61 ⟨Nat.le_of_ble_eq_true rfl, Nat.le_of_ble_eq_true rfl⟩) (fun r_39 u_39 H locs hp_39 G => ?_)
            obtain ⟨f_39, rfl⟩ : ∃ z, z = u_39 := ⟨_, rfl⟩
            have hq_39 := hp_39
            have G : wd X (va_A (@HAppend.hAppend va_W va_W va_W _ (xW h0 nw sp xa la lb) (@HAppend.hAppend va_W va_W va_W _ (rcV X nw an sv dv n0 n1 n2 n3 n4 g0 gs gn gm) ([((xa 5), .inl (X.2.1, 3, .inl fr))]))) sz) (va_A (@HAppend.hAppend va_W va_W va_W _ (xW h0 nw sp xa la lb) (@HAppend.hAppend va_W va_W va_W _ (rcV X nw an sv dv n0 n1 n2 n3 n4 g0 gs gn gm) ([((xa 5), .inl (X.2.1, 3, .inl fr))]))) sz) s (@HAppend.hAppend va_W va_W va_W _ (rcV X nw an sv dv n0 n1 n2 n3 n4 g0 gs gn gm) (@HAppend.hAppend va_W va_W va_W _ (xW h0 nw sp xa la lb) ([((xa 5), .inl (X.2.1, 3, .inl f_39))]))) H locs := G
            exact e_int S zr zlk (vp_nar_int _) G (dv, n1, g0, f_39) [16, 0, 1, 2, 3, 4, 5, 6, 7, 8, 9, 10, 11, 12, 13, 14, 15, 17] rfl rfl (Or.inr rfl) (⟨hI_n1, trivial⟩) dX10_start_64
      · refine k_it (v := 5) rfl ?_
        refine r_aald (C := RX8) (b := (an 6)) S G 2 3 rfl rfl (k_vp (by decide)) rfl dX10_start_33 ?_
        refine lv_astore_n (lv' := [(3, .ref (an 6)), (0, .ref h0), (1, .int 5), (2, .int x2)]) zx zb dX10_start_34 rfl hl (by decide) rfl (fun ls hl => ?_)
        refine lv_aload_n zx zb dX10_start_35 rfl (lv_at hl 0 rfl) ?_
        refine o_ri (cells' := 0) (slots' := 0) G rfl rfl (n_V (As := []) (rest := []) (C := RX8) (T := TX8) (N := 8) (ci := 6) S G (s_isHome l X (an 6) (fun k => sv (15 + k)) (fun k => dv (35 + k)) H.size) gX10_start_X8_isHome rfl rfl rfl hdV_X8_isHome ⟨Nat.le_of_ble_eq_true rfl, Nat.le_of_ble_eq_true rfl⟩ [8] rfl rfl 8 rfl rfl rfl hl.1 (Nat.le_of_ble_eq_true rfl) dX10_start_36 ⟨Nat.le_of_ble_eq_true rfl, Nat.le_of_ble_eq_true rfl⟩) (fun r_40 u_40 H locs hp_40 G => ?_)
        have G : wd X (va_A (@HAppend.hAppend va_W va_W va_W _ (xW h0 nw sp xa la lb) (@HAppend.hAppend va_W va_W va_W _ (rcV X nw an sv dv n0 n1 n2 n3 n4 g0 gs gn gm) ([((xa 5), .inl (X.2.1, 3, .inl fr))]))) sz) (va_A (@HAppend.hAppend va_W va_W va_W _ (xW h0 nw sp xa la lb) (@HAppend.hAppend va_W va_W va_W _ (rcV X nw an sv dv n0 n1 n2 n3 n4 g0 gs gn gm) ([((xa 5), .inl (X.2.1, 3, .inl fr))]))) sz) s (@HAppend.hAppend va_W va_W va_W _ (xW h0 nw sp xa la lb) (@HAppend.hAppend va_W va_W va_W _ (rcV X nw an sv dv n0 n1 n2 n3 n4 g0 gs gn gm) ([((xa 5), .inl (X.2.1, 3, .inl fr))]))) H locs := G
        refine lv_if_ne (tgt := 58) zx zb dX10_start_39 (by decide) (fun c_41 => ?_) (fun c_41 => ?_)
        · refine lv_aload_n zx zb dX10_start_58 rfl (lv_at hl 1 rfl) ?_
          refine lv_bipush (v := (-3)) zx zb dX10_start_59 (by decide) ?_
          refine b_wi (cells' := 0) (slots' := 0) (wr := rcV X nw an sv dv n0 n1 n2 n3 n4 g0 gs gn gm) G rfl rfl [0, 17] [1, 2, 3, 4, 5, 6, 7, 8, 9, 10, 11, 12, 13, 14, 15, 16] rfl rfl rfl rfl (n_V (As := [.int (-3)]) (rest := []) (C := RX10) (T := TX10) (N := 14) (ci := 8) S G (s_refuse l X h0 nw sp xa la lb fr (-3) H.size) gX10_start_X10_refuse rfl rfl rfl hdV_X10_refuse ⟨Nat.le_of_ble_eq_true rfl, Nat.le_of_ble_eq_true rfl⟩ [0, 17] rfl rfl 0 rfl rfl rfl hl.1 (Nat.le_of_ble_eq_true rfl) dX10_start_61 ⟨Nat.le_of_ble_eq_true rfl, Nat.le_of_ble_eq_true rfl⟩) (fun r_42 u_42 H locs hp_42 G => ?_)
          obtain ⟨f_42, rfl⟩ : ∃ z, z = u_42 := ⟨_, rfl⟩
          have hq_42 := hp_42
          have G : wd X (va_A (@HAppend.hAppend va_W va_W va_W _ (xW h0 nw sp xa la lb) (@HAppend.hAppend va_W va_W va_W _ (rcV X nw an sv dv n0 n1 n2 n3 n4 g0 gs gn gm) ([((xa 5), .inl (X.2.1, 3, .inl fr))]))) sz) (va_A (@HAppend.hAppend va_W va_W va_W _ (xW h0 nw sp xa la lb) (@HAppend.hAppend va_W va_W va_W _ (rcV X nw an sv dv n0 n1 n2 n3 n4 g0 gs gn gm) ([((xa 5), .inl (X.2.1, 3, .inl fr))]))) sz) s (@HAppend.hAppend va_W va_W va_W _ (rcV X nw an sv dv n0 n1 n2 n3 n4 g0 gs gn gm) (@HAppend.hAppend va_W va_W va_W _ (xW h0 nw sp xa la lb) ([((xa 5), .inl (X.2.1, 3, .inl f_42))]))) H locs := G
          exact e_int S zr zlk (vp_nar_int _) G (dv, n1, g0, f_42) [16, 0, 1, 2, 3, 4, 5, 6, 7, 8, 9, 10, 11, 12, 13, 14, 15, 17] rfl rfl (Or.inr rfl) (⟨hI_n1, trivial⟩) dX10_start_64
        · refine lv_aload_n zx zb dX10_start_42 rfl (lv_at hl 0 rfl) ?_
          refine r_get (C := RX8) (T := TX8) (N := 8) (ci := 6) (v := .int (dv 36)) S in_X10_start_X8 G 8 rfl rfl 4 (by decide) lk_X10_start_137 rfl dX10_start_43 ?_
          refine lv_iload_n zx zb dX10_start_46 rfl (lv_at hl 3 rfl) ?_
          refine r_iadd (v := ((dv 36) + x2)) S rfl dX10_start_47 ?_
          refine lv_aload_n zx zb dX10_start_48 rfl (lv_at hl 1 rfl) ?_
          refine r_get (C := RX10) (T := TX10) (N := 14) (ci := 8) (v := .ref nw) S in_X10_start_X10 G 0 rfl rfl 0 (by decide) lk_X10_start_10 rfl dX10_start_49 ?_
          refine r_get (C := RX5) (T := TX5) (N := 8) (ci := 3) (v := .int (dv 0)) S in_X10_start_X5 G 1 rfl rfl 0 (by decide) lk_X10_start_140 rfl dX10_start_52 ?_
          refine lv_icmp_lt (tgt := 65) zx zb dX10_start_55 (by decide) (fun c_43 => ?_) (fun c_43 => ?_)
          · refine lv_aload_n zx zb dX10_start_65 rfl (lv_at hl 1 rfl) ?_
            refine r_get (C := RX10) (T := TX10) (N := 14) (ci := 8) (v := .ref nw) S in_X10_start_X10 G 0 rfl rfl 0 (by decide) lk_X10_start_10 rfl dX10_start_66 ?_
            refine b_wv (cells' := 0) (slots' := 0) (wr := @HAppend.hAppend va_W va_W va_W _ (xW h0 nw sp xa la lb) ([((xa 5), .inl (X.2.1, 3, .inl fr))])) G rfl rfl [1, 2, 3, 4, 5, 6, 7, 8, 9, 10, 11, 12, 13, 14, 15, 16] [0, 17] rfl rfl rfl rfl (n_V (As := []) (rest := []) (C := RX5) (T := TX5) (N := 8) (ci := 3) S G (s_keep l X nw an sv dv n0 n1 n2 n3 n4 g0 gs gn gm hI_n0 hI_n1 hI_n2 hI_n3 hI_n4 H.size) gX10_start_X5_keep rfl rfl rfl hdV_X5_keep ⟨Nat.le_of_ble_eq_true rfl, Nat.le_of_ble_eq_true rfl⟩ [1, 2, 3, 4, 5, 6, 7, 8, 9, 10, 11, 12, 13, 14, 15, 16] rfl rfl 1 rfl rfl rfl hl.1 (Nat.le_of_ble_eq_true rfl) dX10_start_69 ⟨Nat.le_of_ble_eq_true rfl, Nat.le_of_ble_eq_true rfl⟩) (fun u_44 H locs hp_44 G => ?_)
            obtain ⟨n1_44a, g0_44b⟩ := u_44
            try dsimp only at hp_44
            obtain ⟨hI_n1_44a, hq_44⟩ := hp_44
            have G : wd X (va_A (@HAppend.hAppend va_W va_W va_W _ (xW h0 nw sp xa la lb) (@HAppend.hAppend va_W va_W va_W _ (rcV X nw an sv dv n0 n1 n2 n3 n4 g0 gs gn gm) ([((xa 5), .inl (X.2.1, 3, .inl fr))]))) sz) (va_A (@HAppend.hAppend va_W va_W va_W _ (xW h0 nw sp xa la lb) (@HAppend.hAppend va_W va_W va_W _ (rcV X nw an sv dv n0 n1 n2 n3 n4 g0 gs gn gm) ([((xa 5), .inl (X.2.1, 3, .inl fr))]))) sz) s (@HAppend.hAppend va_W va_W va_W _ (xW h0 nw sp xa la lb) (@HAppend.hAppend va_W va_W va_W _ ([((xa 5), .inl (X.2.1, 3, .inl fr))]) (rcV X nw an sv dv n0 n1_44a n2 n3 n4 g0_44b gs gn gm))) H locs := G
            refine lv_aload_n zx zb dX10_start_72 rfl (lv_at hl 0 rfl) ?_
            refine lv_dup zx zb dX10_start_73 rfl ?_
            refine r_get (C := RX8) (T := TX8) (N := 8) (ci := 6) (v := .int (dv 36)) S in_X10_start_X8 G 9 rfl rfl 4 (by decide) lk_X10_start_137 rfl dX10_start_74 ?_
            refine lv_iload_n zx zb dX10_start_77 rfl (lv_at hl 3 rfl) ?_
            refine r_iadd (v := ((dv 36) + x2)) S rfl dX10_start_78 ?_
            refine r_put (C := RX8) (T := TX8) (N := 8) (ci := 6) (v := .int ((dv 36) + x2)) S in_X10_start_X8 tyX8_ok nmX8 G 9 rfl rfl 4 (by decide) lk_X10_start_137 rfl (vp_nar_int _) rfl (Nat.le_of_ble_eq_true rfl) dX10_start_79 (fun H locs G => ?_)
            obtain ⟨dv_45, G⟩ : ∃ dv_45 : Nat → Int32, wd X (va_A (@HAppend.hAppend va_W va_W va_W _ (xW h0 nw sp xa la lb) (@HAppend.hAppend va_W va_W va_W _ (rcV X nw an sv dv n0 n1 n2 n3 n4 g0 gs gn gm) ([((xa 5), .inl (X.2.1, 3, .inl fr))]))) sz) (va_A (@HAppend.hAppend va_W va_W va_W _ (xW h0 nw sp xa la lb) (@HAppend.hAppend va_W va_W va_W _ (rcV X nw an sv dv n0 n1 n2 n3 n4 g0 gs gn gm) ([((xa 5), .inl (X.2.1, 3, .inl fr))]))) sz) s (@HAppend.hAppend va_W va_W va_W _ (xW h0 nw sp xa la lb) (@HAppend.hAppend va_W va_W va_W _ ([((xa 5), .inl (X.2.1, 3, .inl fr))]) (rcV X nw an sv dv_45 n0 n1_44a n2 n3 n4 g0_44b gs gn gm))) H locs := ⟨upd dv 36 ((dv 36) + x2), G⟩
            refine lv_aload_n zx zb dX10_start_82 rfl (lv_at hl 0 rfl) ?_
            refine r_get (C := RX8) (T := TX8) (N := 8) (ci := 6) (v := .int (dv_45 36)) S in_X10_start_X8 G 9 rfl rfl 4 (by decide) lk_X10_start_137 rfl dX10_start_83 ?_
            exact e_int S zr zlk (vp_nar_int _) G (dv_45, n1_44a, g0_44b, fr) [0, 2, 3, 4, 5, 6, 7, 8, 9, 10, 11, 12, 13, 14, 15, 16, 17, 1] rfl rfl (Or.inr rfl) (⟨hI_n1_44a, trivial⟩) dX10_start_86
          · refine lv_aload_n zx zb dX10_start_58 rfl (lv_at hl 1 rfl) ?_
            refine lv_bipush (v := (-3)) zx zb dX10_start_59 (by decide) ?_
            refine b_wi (cells' := 0) (slots' := 0) (wr := rcV X nw an sv dv n0 n1 n2 n3 n4 g0 gs gn gm) G rfl rfl [0, 17] [1, 2, 3, 4, 5, 6, 7, 8, 9, 10, 11, 12, 13, 14, 15, 16] rfl rfl rfl rfl (n_V (As := [.int (-3)]) (rest := []) (C := RX10) (T := TX10) (N := 14) (ci := 8) S G (s_refuse l X h0 nw sp xa la lb fr (-3) H.size) gX10_start_X10_refuse rfl rfl rfl hdV_X10_refuse ⟨Nat.le_of_ble_eq_true rfl, Nat.le_of_ble_eq_true rfl⟩ [0, 17] rfl rfl 0 rfl rfl rfl hl.1 (Nat.le_of_ble_eq_true rfl) dX10_start_61 ⟨Nat.le_of_ble_eq_true rfl, Nat.le_of_ble_eq_true rfl⟩) (fun r_46 u_46 H locs hp_46 G => ?_)
            obtain ⟨f_46, rfl⟩ : ∃ z, z = u_46 := ⟨_, rfl⟩
            have hq_46 := hp_46
            have G : wd X (va_A (@HAppend.hAppend va_W va_W va_W _ (xW h0 nw sp xa la lb) (@HAppend.hAppend va_W va_W va_W _ (rcV X nw an sv dv n0 n1 n2 n3 n4 g0 gs gn gm) ([((xa 5), .inl (X.2.1, 3, .inl fr))]))) sz) (va_A (@HAppend.hAppend va_W va_W va_W _ (xW h0 nw sp xa la lb) (@HAppend.hAppend va_W va_W va_W _ (rcV X nw an sv dv n0 n1 n2 n3 n4 g0 gs gn gm) ([((xa 5), .inl (X.2.1, 3, .inl fr))]))) sz) s (@HAppend.hAppend va_W va_W va_W _ (rcV X nw an sv dv n0 n1 n2 n3 n4 g0 gs gn gm) (@HAppend.hAppend va_W va_W va_W _ (xW h0 nw sp xa la lb) ([((xa 5), .inl (X.2.1, 3, .inl f_46))]))) H locs := G
            exact e_int S zr zlk (vp_nar_int _) G (dv, n1, g0, f_46) [16, 0, 1, 2, 3, 4, 5, 6, 7, 8, 9, 10, 11, 12, 13, 14, 15, 17] rfl rfl (Or.inr rfl) (⟨hI_n1, trivial⟩) dX10_start_64
    · refine lv_if_ne (tgt := 25) zx zb dX10_start_15 (by decide) (fun c_47 => absurd (by decide) c_47) (fun c_47 => ?_)
      refine lv_aload_n zx zb dX10_start_18 rfl (lv_at hl 0 rfl) ?_
      refine lv_bipush (v := (-2)) zx zb dX10_start_19 (by decide) ?_
      refine b_wi (cells' := 0) (slots' := 0) (wr := rcV X nw an sv dv n0 n1 n2 n3 n4 g0 gs gn gm) G rfl rfl [0, 17] [1, 2, 3, 4, 5, 6, 7, 8, 9, 10, 11, 12, 13, 14, 15, 16] rfl rfl rfl rfl (n_V (As := [.int (-2)]) (rest := []) (C := RX10) (T := TX10) (N := 14) (ci := 8) S G (s_refuse l X h0 nw sp xa la lb fr (-2) H.size) gX10_start_X10_refuse rfl rfl rfl hdV_X10_refuse ⟨Nat.le_of_ble_eq_true rfl, Nat.le_of_ble_eq_true rfl⟩ [0, 17] rfl rfl 0 rfl rfl rfl hl.1 (Nat.le_of_ble_eq_true rfl) dX10_start_21 ⟨Nat.le_of_ble_eq_true rfl, Nat.le_of_ble_eq_true rfl⟩) (fun r_48 u_48 H locs hp_48 G => ?_)
      obtain ⟨f_48, rfl⟩ : ∃ z, z = u_48 := ⟨_, rfl⟩
      have hq_48 := hp_48
      have G : wd X (va_A (@HAppend.hAppend va_W va_W va_W _ (xW h0 nw sp xa la lb) (@HAppend.hAppend va_W va_W va_W _ (rcV X nw an sv dv n0 n1 n2 n3 n4 g0 gs gn gm) ([((xa 5), .inl (X.2.1, 3, .inl fr))]))) sz) (va_A (@HAppend.hAppend va_W va_W va_W _ (xW h0 nw sp xa la lb) (@HAppend.hAppend va_W va_W va_W _ (rcV X nw an sv dv n0 n1 n2 n3 n4 g0 gs gn gm) ([((xa 5), .inl (X.2.1, 3, .inl fr))]))) sz) s (@HAppend.hAppend va_W va_W va_W _ (rcV X nw an sv dv n0 n1 n2 n3 n4 g0 gs gn gm) (@HAppend.hAppend va_W va_W va_W _ (xW h0 nw sp xa la lb) ([((xa 5), .inl (X.2.1, 3, .inl f_48))]))) H locs := G
      exact e_int S zr zlk (vp_nar_int _) G (dv, n1, g0, f_48) [16, 0, 1, 2, 3, 4, 5, 6, 7, 8, 9, 10, 11, 12, 13, 14, 15, 17] rfl rfl (Or.inr rfl) (⟨hI_n1, trivial⟩) dX10_start_24
  · refine lv_if_eq (tgt := 18) zx zb dX10_start_5 (by decide) (fun c_49 => ?_) (fun c_49 => absurd (by decide) c_49)
    refine lv_aload_n zx zb dX10_start_18 rfl (lv_at hl 0 rfl) ?_
    refine lv_bipush (v := (-2)) zx zb dX10_start_19 (by decide) ?_
    refine b_wi (cells' := 0) (slots' := 0) (wr := rcV X nw an sv dv n0 n1 n2 n3 n4 g0 gs gn gm) G rfl rfl [0, 17] [1, 2, 3, 4, 5, 6, 7, 8, 9, 10, 11, 12, 13, 14, 15, 16] rfl rfl rfl rfl (n_V (As := [.int (-2)]) (rest := []) (C := RX10) (T := TX10) (N := 14) (ci := 8) S G (s_refuse l X h0 nw sp xa la lb fr (-2) H.size) gX10_start_X10_refuse rfl rfl rfl hdV_X10_refuse ⟨Nat.le_of_ble_eq_true rfl, Nat.le_of_ble_eq_true rfl⟩ [0, 17] rfl rfl 0 rfl rfl rfl hl.1 (Nat.le_of_ble_eq_true rfl) dX10_start_21 ⟨Nat.le_of_ble_eq_true rfl, Nat.le_of_ble_eq_true rfl⟩) (fun r_50 u_50 H locs hp_50 G => ?_)
    obtain ⟨f_50, rfl⟩ : ∃ z, z = u_50 := ⟨_, rfl⟩
    have hq_50 := hp_50
    have G : wd X (va_A (@HAppend.hAppend va_W va_W va_W _ (xW h0 nw sp xa la lb) (@HAppend.hAppend va_W va_W va_W _ (rcV X nw an sv dv n0 n1 n2 n3 n4 g0 gs gn gm) ([((xa 5), .inl (X.2.1, 3, .inl fr))]))) sz) (va_A (@HAppend.hAppend va_W va_W va_W _ (xW h0 nw sp xa la lb) (@HAppend.hAppend va_W va_W va_W _ (rcV X nw an sv dv n0 n1 n2 n3 n4 g0 gs gn gm) ([((xa 5), .inl (X.2.1, 3, .inl fr))]))) sz) s (@HAppend.hAppend va_W va_W va_W _ (rcV X nw an sv dv n0 n1 n2 n3 n4 g0 gs gn gm) (@HAppend.hAppend va_W va_W va_W _ (xW h0 nw sp xa la lb) ([((xa 5), .inl (X.2.1, 3, .inl f_50))]))) H locs := G
    exact e_int S zr zlk (vp_nar_int _) G (dv, n1, g0, f_50) [16, 0, 1, 2, 3, 4, 5, 6, 7, 8, 9, 10, 11, 12, 13, 14, 15, 17] rfl rfl (Or.inr rfl) (⟨hI_n1, trivial⟩) dX10_start_24
theorem in_X10_undo_X10 : ∀ w ∈ wsX100, w ∈ wsX10_undo := by decide +kernel
theorem lk_X10_undo_10 : Cond.fieldLink RX10 10 "EggSpoons" "now" "LEggSpoons$Race;" ∈ wsX10_undo := by decide +kernel
theorem hdV_X5_takeBack : yX5_takeBack.cls = RX5 ∧ yX5_takeBack.cls ≠ "java/lang/invoke/MethodHandle" ∧ yX5_takeBack.cls ≠ "java/lang/invoke/VarHandle" ∧ (parseMethodDescriptor yX5_takeBack.desc).map (fun d => d.parameters.length) = some 0 := by decide +kernel
theorem in_X10_undo_X5 : ∀ w ∈ wsX50, w ∈ wsX10_undo := by decide +kernel
theorem lk_X10_undo_110 : Cond.fieldLink RX10 110 "EggSpoons$Race" "tick" "I" ∈ wsX10_undo := by decide +kernel
set_option maxHeartbeats 4000000 in
set_option maxRecDepth 100000 in
/-- undo -/
theorem s_undo (l : Launch) (X : EX) (h0 : Nat) (nw : Nat) (sp : Nat) (xa : Nat → Nat) (la : Int64) (lb : Int64) (an : Nat → Nat) (sv : Nat → Int32) (dv : Nat → Int32) (n0 : Nat) (n1 : Nat) (n2 : Nat) (n3 : Nat) (n4 : Nat) (g0 : Nat → Int32) (gs : Nat → Int32) (gn : Nat → Int32) (gm : Nat → Int32) (fr : Nat → Int32) (hI_n0 : n0 ≤ 6) (hI_n1 : n1 ≤ 8) (hI_n2 : n2 ≤ 5) (hI_n3 : n3 ≤ 6) (hI_n4 : n4 ≤ 6) (sz : Nat) : Met l yX10_undo wsX10_undo ({ frames := 2, cells := 0, slots := 0, locals := 45 } : Room) (pE X [.ref h0] (@HAppend.hAppend va_W va_W va_W _ (xW h0 nw sp xa la lb) (@HAppend.hAppend va_W va_W va_W _ (rcV X nw an sv dv n0 n1 n2 n3 n4 g0 gs gn gm) ([((xa 5), .inl (X.2.1, 3, .inl fr))]))) sz) (qI (fun (r : Int32) (u : (Nat → Int32) × (Nat) × (Nat → Int32)) => u.2.1 ≤ 8 ∧ (True)) X (fun (u : (Nat → Int32) × (Nat) × (Nat → Int32)) => @HAppend.hAppend va_W va_W va_W _ (xW h0 nw sp xa la lb) (@HAppend.hAppend va_W va_W va_W _ (rcV X nw an sv u.1 n0 u.2.1 n2 n3 n4 g0 gs gn gm) ([((xa 5), .inl (X.2.1, 3, .inl u.2.2))]))) (@HAppend.hAppend va_W va_W va_W _ (xW h0 nw sp xa la lb) (@HAppend.hAppend va_W va_W va_W _ (rcV X nw an sv dv n0 n1 n2 n3 n4 g0 gs gn gm) ([((xa 5), .inl (X.2.1, 3, .inl fr))]))) sz) 0 0 (va_A (@HAppend.hAppend va_W va_W va_W _ (xW h0 nw sp xa la lb) (@HAppend.hAppend va_W va_W va_W _ (rcV X nw an sv dv n0 n1 n2 n3 n4 g0 gs gn gm) ([((xa 5), .inl (X.2.1, 3, .inl fr))]))) sz) := by
  refine mk_met (B := (va_A (@HAppend.hAppend va_W va_W va_W _ (xW h0 nw sp xa la lb) (@HAppend.hAppend va_W va_W va_W _ (rcV X nw an sv dv n0 n1 n2 n3 n4 g0 gs gn gm) ([((xa 5), .inl (X.2.1, 3, .inl fr))]))) sz)) (A := (va_A (@HAppend.hAppend va_W va_W va_W _ (xW h0 nw sp xa la lb) (@HAppend.hAppend va_W va_W va_W _ (rcV X nw an sv dv n0 n1 n2 n3 n4 g0 gs gn gm) ([((xa 5), .inl (X.2.1, 3, .inl fr))]))) sz)) (cc := cX10_undo) (maxL := 1) (ret := (some .int)) (by decide) rfl (Nat.le_of_ble_eq_true rfl) k_w k_a (fun p e s m below meth c S zr zlk znm zsz G ls hl => ?_)
  have S : CallFix p m c cX10_undo 1 s _ wsX10_undo RX10 := S
  have zx := S.1
  have zb := S.2.1
  have hl : lv_has ls 1 [(0, .ref h0)] := hl
  refine lv_aload_n zx zb dX10_undo_0 rfl (lv_at hl 0 rfl) ?_
  refine r_get (C := RX10) (T := TX10) (N := 14) (ci := 8) (v := .ref nw) S in_X10_undo_X10 G 0 rfl rfl 0 (by decide) lk_X10_undo_10 rfl dX10_undo_1 ?_
  refine b_wi (cells' := 0) (slots' := 0) (wr := @HAppend.hAppend va_W va_W va_W _ (xW h0 nw sp xa la lb) ([((xa 5), .inl (X.2.1, 3, .inl fr))])) G rfl rfl [1, 2, 3, 4, 5, 6, 7, 8, 9, 10, 11, 12, 13, 14, 15, 16] [0, 17] rfl rfl rfl rfl (n_V (As := []) (rest := []) (C := RX5) (T := TX5) (N := 8) (ci := 3) S G (s_takeBack l X nw an sv dv n0 n1 n2 n3 n4 g0 gs gn gm hI_n0 hI_n1 hI_n2 hI_n3 hI_n4 s.heap.size) gX10_undo_X5_takeBack rfl rfl rfl hdV_X5_takeBack ⟨Nat.le_of_ble_eq_true rfl, Nat.le_of_ble_eq_true rfl⟩ [1, 2, 3, 4, 5, 6, 7, 8, 9, 10, 11, 12, 13, 14, 15, 16] rfl rfl 1 rfl rfl rfl hl.1 (Nat.le_of_ble_eq_true rfl) dX10_undo_4 ⟨Nat.le_of_ble_eq_true rfl, Nat.le_of_ble_eq_true rfl⟩) (fun r_1 u_1 H locs hp_1 G => ?_)
  obtain ⟨dv_1a, n1_1b⟩ := u_1
  try dsimp only at hp_1
  obtain ⟨hI_n1_1b, hq_1⟩ := hp_1
  have G : wd X (va_A (@HAppend.hAppend va_W va_W va_W _ (xW h0 nw sp xa la lb) (@HAppend.hAppend va_W va_W va_W _ (rcV X nw an sv dv n0 n1 n2 n3 n4 g0 gs gn gm) ([((xa 5), .inl (X.2.1, 3, .inl fr))]))) sz) (va_A (@HAppend.hAppend va_W va_W va_W _ (xW h0 nw sp xa la lb) (@HAppend.hAppend va_W va_W va_W _ (rcV X nw an sv dv n0 n1 n2 n3 n4 g0 gs gn gm) ([((xa 5), .inl (X.2.1, 3, .inl fr))]))) sz) s (@HAppend.hAppend va_W va_W va_W _ (xW h0 nw sp xa la lb) (@HAppend.hAppend va_W va_W va_W _ ([((xa 5), .inl (X.2.1, 3, .inl fr))]) (rcV X nw an sv dv_1a n0 n1_1b n2 n3 n4 g0 gs gn gm))) H locs := G
  refine k_cutW (PP := fun Wx => ∀ (x_3 : Int32) (f_4 : Nat → Int32) (H : Heap) (locs : List Loc) (ls : Array Slot), wd X (va_A (@HAppend.hAppend va_W va_W va_W _ (xW h0 nw sp xa la lb) (@HAppend.hAppend va_W va_W va_W _ (rcV X nw an sv dv n0 n1 n2 n3 n4 g0 gs gn gm) ([((xa 5), .inl (X.2.1, 3, .inl fr))]))) sz) (va_A (@HAppend.hAppend va_W va_W va_W _ (xW h0 nw sp xa la lb) (@HAppend.hAppend va_W va_W va_W _ (rcV X nw an sv dv n0 n1 n2 n3 n4 g0 gs gn gm) ([((xa 5), .inl (X.2.1, 3, .inl fr))]))) sz) s (@HAppend.hAppend va_W va_W va_W _ (xW h0 nw sp xa la lb) (@HAppend.hAppend va_W va_W va_W _ ([((xa 5), .inl (X.2.1, 3, .inl f_4))]) (rcV X nw an sv dv_1a n0 n1_1b n2 n3 n4 g0 gs gn gm))) H locs → lv_has ls 1 [(0, .ref h0)] → Wx (F0 m 26 ls [.int x_3]) H locs) ?_ ?_
  · intro join_7
    refine lv_if_eq (tgt := 20) zx zb dX10_undo_7 (by decide) (fun c_2 => ?_) (fun c_2 => ?_)
    · refine lv_aload_n zx zb dX10_undo_20 rfl (lv_at hl 0 rfl) ?_
      refine lv_bipush (v := (-3)) zx zb dX10_undo_21 (by decide) ?_
      refine b_wi (cells' := 0) (slots' := 0) (wr := rcV X nw an sv dv_1a n0 n1_1b n2 n3 n4 g0 gs gn gm) G rfl rfl [0, 1] [2, 3, 4, 5, 6, 7, 8, 9, 10, 11, 12, 13, 14, 15, 16, 17] rfl rfl rfl rfl (n_V (As := [.int (-3)]) (rest := []) (C := RX10) (T := TX10) (N := 14) (ci := 8) S G (s_refuse l X h0 nw sp xa la lb fr (-3) H.size) gX10_undo_X10_refuse rfl rfl rfl hdV_X10_refuse ⟨Nat.le_of_ble_eq_true rfl, Nat.le_of_ble_eq_true rfl⟩ [0, 1] rfl rfl 0 rfl rfl rfl hl.1 (Nat.le_of_ble_eq_true rfl) dX10_undo_23 ⟨Nat.le_of_ble_eq_true rfl, Nat.le_of_ble_eq_true rfl⟩) (fun r_5 u_5 H locs hp_5 G => ?_)
      obtain ⟨f_5, rfl⟩ : ∃ z, z = u_5 := ⟨_, rfl⟩
      have hq_5 := hp_5
      have G : wd X (va_A (@HAppend.hAppend va_W va_W va_W _ (xW h0 nw sp xa la lb) (@HAppend.hAppend va_W va_W va_W _ (rcV X nw an sv dv n0 n1 n2 n3 n4 g0 gs gn gm) ([((xa 5), .inl (X.2.1, 3, .inl fr))]))) sz) (va_A (@HAppend.hAppend va_W va_W va_W _ (xW h0 nw sp xa la lb) (@HAppend.hAppend va_W va_W va_W _ (rcV X nw an sv dv n0 n1 n2 n3 n4 g0 gs gn gm) ([((xa 5), .inl (X.2.1, 3, .inl fr))]))) sz) s (@HAppend.hAppend va_W va_W va_W _ (rcV X nw an sv dv_1a n0 n1_1b n2 n3 n4 g0 gs gn gm) (@HAppend.hAppend va_W va_W va_W _ (xW h0 nw sp xa la lb) ([((xa 5), .inl (X.2.1, 3, .inl f_5))]))) H locs := G
      have G : wd X (va_A (@HAppend.hAppend va_W va_W va_W _ (xW h0 nw sp xa la lb) (@HAppend.hAppend va_W va_W va_W _ (rcV X nw an sv dv n0 n1 n2 n3 n4 g0 gs gn gm) ([((xa 5), .inl (X.2.1, 3, .inl fr))]))) sz) (va_A (@HAppend.hAppend va_W va_W va_W _ (xW h0 nw sp xa la lb) (@HAppend.hAppend va_W va_W va_W _ (rcV X nw an sv dv n0 n1 n2 n3 n4 g0 gs gn gm) ([((xa 5), .inl (X.2.1, 3, .inl fr))]))) sz) s (@HAppend.hAppend va_W va_W va_W _ (xW h0 nw sp xa la lb) (@HAppend.hAppend va_W va_W va_W _ ([((xa 5), .inl (X.2.1, 3, .inl f_5))]) (rcV X nw an sv dv_1a n0 n1_1b n2 n3 n4 g0 gs gn gm))) H locs := wd_sub G [16, 17, 0, 1, 2, 3, 4, 5, 6, 7, 8, 9, 10, 11, 12, 13, 14, 15] rfl rfl
      exact join_7 r_5 f_5 _ _ _  G hl
    · refine lv_aload_n zx zb dX10_undo_10 rfl (lv_at hl 0 rfl) ?_
      refine r_get (C := RX10) (T := TX10) (N := 14) (ci := 8) (v := .ref nw) S in_X10_undo_X10 G 0 rfl rfl 0 (by decide) lk_X10_undo_10 rfl dX10_undo_11 ?_
      refine r_get (C := RX5) (T := TX5) (N := 8) (ci := 3) (v := .int (dv_1a 1)) S in_X10_undo_X5 G 2 rfl rfl 1 (by decide) lk_X10_undo_110 rfl dX10_undo_14 ?_
      refine lv_goto (tgt := 26) zx zb dX10_undo_17 (by decide) ?_
      exact join_7 (dv_1a 1) fr _ _ _  G hl
  · intro x_3 f_4 H locs ls  G hl
    exact e_int S zr zlk (vp_nar_int _) G (dv_1a, n1_1b, f_4) [0, 2, 3, 4, 5, 6, 7, 8, 9, 10, 11, 12, 13, 14, 15, 16, 17, 1] rfl rfl (Or.inr rfl) (⟨hI_n1_1b, trivial⟩) dX10_undo_26
theorem in_X10_of_X10 : ∀ w ∈ wsX100, w ∈ wsX10_of := by decide +kernel
theorem lk_X10_of_10 : Cond.fieldLink RX10 10 "EggSpoons" "now" "LEggSpoons$Race;" ∈ wsX10_of := by decide +kernel
theorem in_X10_of_X5 : ∀ w ∈ wsX50, w ∈ wsX10_of := by decide +kernel
theorem lk_X10_of_126 : Cond.fieldLink RX10 126 "EggSpoons$Race" "row" "[LEggSpoons$Runner;" ∈ wsX10_of := by decide +kernel
theorem lk_X10_of_110 : Cond.fieldLink RX10 110 "EggSpoons$Race" "tick" "I" ∈ wsX10_of := by decide +kernel
theorem hdV_X8_fact : yX8_fact.cls = RX8 ∧ yX8_fact.cls ≠ "java/lang/invoke/MethodHandle" ∧ yX8_fact.cls ≠ "java/lang/invoke/VarHandle" ∧ (parseMethodDescriptor yX8_fact.desc).map (fun d => d.parameters.length) = some 2 := by decide +kernel
set_option maxHeartbeats 4000000 in
set_option maxRecDepth 100000 in
/-- of -/
theorem s_of (l : Launch) (X : EX) (h0 : Nat) (nw : Nat) (sp : Nat) (xa : Nat → Nat) (la : Int64) (lb : Int64) (an : Nat → Nat) (sv : Nat → Int32) (dv : Nat → Int32) (n0 : Nat) (n1 : Nat) (n2 : Nat) (n3 : Nat) (n4 : Nat) (g0 : Nat → Int32) (gs : Nat → Int32) (gn : Nat → Int32) (gm : Nat → Int32) (fr : Nat → Int32) (x1 : Int32) (x2 : Int32) (hI_n0 : n0 ≤ 6) (hI_n1 : n1 ≤ 8) (hI_n2 : n2 ≤ 5) (hI_n3 : n3 ≤ 6) (hI_n4 : n4 ≤ 6) (sz : Nat) : Met l yX10_of wsX10_of ({ frames := 2, cells := 0, slots := 0, locals := 48 } : Room) (pE X [.ref h0, .int x1, .int x2] (@HAppend.hAppend va_W va_W va_W _ (xW h0 nw sp xa la lb) (@HAppend.hAppend va_W va_W va_W _ (rcV X nw an sv dv n0 n1 n2 n3 n4 g0 gs gn gm) ([((xa 5), .inl (X.2.1, 3, .inl fr))]))) sz) (qI (fun (r : Int32) (u : (Nat → Int32)) => (True)) X (fun (u : (Nat → Int32)) => @HAppend.hAppend va_W va_W va_W _ (xW h0 nw sp xa la lb) (@HAppend.hAppend va_W va_W va_W _ (rcV X nw an sv dv n0 n1 n2 n3 n4 g0 gs gn gm) ([((xa 5), .inl (X.2.1, 3, .inl u))]))) (@HAppend.hAppend va_W va_W va_W _ (xW h0 nw sp xa la lb) (@HAppend.hAppend va_W va_W va_W _ (rcV X nw an sv dv n0 n1 n2 n3 n4 g0 gs gn gm) ([((xa 5), .inl (X.2.1, 3, .inl fr))]))) sz) 0 0 (va_A (@HAppend.hAppend va_W va_W va_W _ (xW h0 nw sp xa la lb) (@HAppend.hAppend va_W va_W va_W _ (rcV X nw an sv dv n0 n1 n2 n3 n4 g0 gs gn gm) ([((xa 5), .inl (X.2.1, 3, .inl fr))]))) sz) := by
  refine mk_met (B := (va_A (@HAppend.hAppend va_W va_W va_W _ (xW h0 nw sp xa la lb) (@HAppend.hAppend va_W va_W va_W _ (rcV X nw an sv dv n0 n1 n2 n3 n4 g0 gs gn gm) ([((xa 5), .inl (X.2.1, 3, .inl fr))]))) sz)) (A := (va_A (@HAppend.hAppend va_W va_W va_W _ (xW h0 nw sp xa la lb) (@HAppend.hAppend va_W va_W va_W _ (rcV X nw an sv dv n0 n1 n2 n3 n4 g0 gs gn gm) ([((xa 5), .inl (X.2.1, 3, .inl fr))]))) sz)) (cc := cX10_of) (maxL := 3) (ret := (some .int)) (by decide) rfl (Nat.le_of_ble_eq_true rfl) k_w k_a (fun p e s m below meth c S zr zlk znm zsz G ls hl => ?_)
  have S : CallFix p m c cX10_of 3 s _ wsX10_of RX10 := S
  have zx := S.1
  have zb := S.2.1
  have hl : lv_has ls 3 [(0, .ref h0), (1, .int x1), (2, .int x2)] := hl
  refine lv_aload_n zx zb dX10_of_0 rfl (lv_at hl 0 rfl) ?_
  refine lv_iload_n zx zb dX10_of_1 rfl (lv_at hl 1 rfl) ?_
  refine o_ri (cells' := 0) (slots' := 0) G rfl rfl (n_V (As := [.int x1]) (rest := []) (C := RX10) (T := TX10) (N := 14) (ci := 8) S G (s_there l X h0 nw sp xa la lb an sv dv n0 n1 n2 n3 n4 g0 gs gn gm x1 hI_n0 hI_n1 hI_n2 hI_n3 hI_n4 s.heap.size) gX10_of_X10_there rfl rfl rfl hdV_X10_there ⟨Nat.le_of_ble_eq_true rfl, Nat.le_of_ble_eq_true rfl⟩ [0, 1, 2, 3, 4, 5, 6, 7, 8, 9, 10, 11, 12, 13, 14, 15, 16] rfl rfl 0 rfl rfl rfl hl.1 (Nat.le_of_ble_eq_true rfl) dX10_of_2 ⟨Nat.le_of_ble_eq_true rfl, Nat.le_of_ble_eq_true rfl⟩) (fun r_1 u_1 H locs hp_1 G => ?_)
  have G : wd X (va_A (@HAppend.hAppend va_W va_W va_W _ (xW h0 nw sp xa la lb) (@HAppend.hAppend va_W va_W va_W _ (rcV X nw an sv dv n0 n1 n2 n3 n4 g0 gs gn gm) ([((xa 5), .inl (X.2.1, 3, .inl fr))]))) sz) (va_A (@HAppend.hAppend va_W va_W va_W _ (xW h0 nw sp xa la lb) (@HAppend.hAppend va_W va_W va_W _ (rcV X nw an sv dv n0 n1 n2 n3 n4 g0 gs gn gm) ([((xa 5), .inl (X.2.1, 3, .inl fr))]))) sz) s (@HAppend.hAppend va_W va_W va_W _ (xW h0 nw sp xa la lb) (@HAppend.hAppend va_W va_W va_W _ (rcV X nw an sv dv n0 n1 n2 n3 n4 g0 gs gn gm) ([((xa 5), .inl (X.2.1, 3, .inl fr))]))) H locs := G
  rcases hp_1 with ⟨rfl, hj_1⟩ | ⟨rfl, hj_1⟩
  · obtain ⟨j_1, hj_1, rfl⟩ := hj_1
    refine lv_if_eq (tgt := 18) zx zb dX10_of_5 (by decide) (fun c_2 => absurd c_2 (by decide)) (fun c_2 => ?_)
    refine lv_iload_n zx zb dX10_of_8 rfl (lv_at hl 2 rfl) ?_
    refine lv_iconst (v := 0) zx zb dX10_of_9 (by decide) ?_
    refine lv_bipush (v := 9) zx zb dX10_of_10 (by decide) ?_
    refine o_ri (cells' := 0) (slots' := 0) G rfl rfl (n_S (As := [.int x2, .int 0, .int 9]) (rest := []) S G (s_within l X x2 0 9 H.size) gX10_of_X10_within rfl rfl rfl hdS_X10_within ⟨Nat.le_of_ble_eq_true rfl, Nat.le_of_ble_eq_true rfl⟩ [] rfl rfl rfl hl.1 (Nat.le_of_ble_eq_true rfl) dX10_of_12 ⟨Nat.le_of_ble_eq_true rfl, Nat.le_of_ble_eq_true rfl⟩) (fun r_3 u_3 H locs hp_3 G => ?_)
    have G : wd X (va_A (@HAppend.hAppend va_W va_W va_W _ (xW h0 nw sp xa la lb) (@HAppend.hAppend va_W va_W va_W _ (rcV X nw an sv dv n0 n1 n2 n3 n4 g0 gs gn gm) ([((xa 5), .inl (X.2.1, 3, .inl fr))]))) sz) (va_A (@HAppend.hAppend va_W va_W va_W _ (xW h0 nw sp xa la lb) (@HAppend.hAppend va_W va_W va_W _ (rcV X nw an sv dv n0 n1 n2 n3 n4 g0 gs gn gm) ([((xa 5), .inl (X.2.1, 3, .inl fr))]))) sz) s (@HAppend.hAppend va_W va_W va_W _ (xW h0 nw sp xa la lb) (@HAppend.hAppend va_W va_W va_W _ (rcV X nw an sv dv n0 n1 n2 n3 n4 g0 gs gn gm) ([((xa 5), .inl (X.2.1, 3, .inl fr))]))) H locs := G
    rcases hp_3 with ⟨rfl, hw_3⟩ | ⟨rfl, hw_3⟩
    · refine lv_if_ne (tgt := 25) zx zb dX10_of_15 (by decide) (fun c_4 => ?_) (fun c_4 => absurd c_4 (by decide))
      refine lv_aload_n zx zb dX10_of_25 rfl (lv_at hl 0 rfl) ?_
      refine r_get (C := RX10) (T := TX10) (N := 14) (ci := 8) (v := .ref nw) S in_X10_of_X10 G 0 rfl rfl 0 (by decide) lk_X10_of_10 rfl dX10_of_26 ?_
      refine r_get (C := RX5) (T := TX5) (N := 8) (ci := 3) (v := .ref (an 0)) S in_X10_of_X5 G 1 rfl rfl 3 (by decide) lk_X10_of_126 rfl dX10_of_29 ?_
      refine lv_iload_n zx zb dX10_of_32 rfl (lv_at hl 1 rfl) ?_
      rcases k_6c (show j_1 < 6 by omega) with rfl | rfl | rfl | rfl | rfl | rfl
      · refine k_it (v := 0) rfl ?_
        refine r_aald (C := RX8) (b := (an 1)) S G 2 3 rfl rfl (k_vp (by decide)) rfl dX10_of_33 ?_
        refine lv_iload_n zx zb dX10_of_34 rfl (lv_at hl 2 rfl) ?_
        refine lv_aload_n zx zb dX10_of_35 rfl (lv_at hl 0 rfl) ?_
        refine r_get (C := RX10) (T := TX10) (N := 14) (ci := 8) (v := .ref nw) S in_X10_of_X10 G 0 rfl rfl 0 (by decide) lk_X10_of_10 rfl dX10_of_36 ?_
        refine r_get (C := RX5) (T := TX5) (N := 8) (ci := 3) (v := .int (dv 1)) S in_X10_of_X5 G 1 rfl rfl 1 (by decide) lk_X10_of_110 rfl dX10_of_39 ?_
        refine lv_iconst (v := 1) zx zb dX10_of_42 (by decide) ?_
        refine r_iadd (v := ((dv 1) + 1)) S rfl dX10_of_43 ?_
        refine o_ri (cells' := 0) (slots' := 0) G rfl rfl (n_V (As := [.int x2, .int ((dv 1) + 1)]) (rest := []) (C := RX8) (T := TX8) (N := 8) (ci := 6) S G (s_fact l X (an 1) (fun k => sv (0 + k)) (fun k => dv (10 + k)) x2 ((dv 1) + 1) H.size) gX10_of_X8_fact rfl rfl rfl hdV_X8_fact ⟨Nat.le_of_ble_eq_true rfl, Nat.le_of_ble_eq_true rfl⟩ [3] rfl rfl 3 rfl rfl rfl hl.1 (Nat.le_of_ble_eq_true rfl) dX10_of_44 ⟨Nat.le_of_ble_eq_true rfl, Nat.le_of_ble_eq_true rfl⟩) (fun r_5 u_5 H locs hp_5 G => ?_)
        have G : wd X (va_A (@HAppend.hAppend va_W va_W va_W _ (xW h0 nw sp xa la lb) (@HAppend.hAppend va_W va_W va_W _ (rcV X nw an sv dv n0 n1 n2 n3 n4 g0 gs gn gm) ([((xa 5), .inl (X.2.1, 3, .inl fr))]))) sz) (va_A (@HAppend.hAppend va_W va_W va_W _ (xW h0 nw sp xa la lb) (@HAppend.hAppend va_W va_W va_W _ (rcV X nw an sv dv n0 n1 n2 n3 n4 g0 gs gn gm) ([((xa 5), .inl (X.2.1, 3, .inl fr))]))) sz) s (@HAppend.hAppend va_W va_W va_W _ (xW h0 nw sp xa la lb) (@HAppend.hAppend va_W va_W va_W _ (rcV X nw an sv dv n0 n1 n2 n3 n4 g0 gs gn gm) ([((xa 5), .inl (X.2.1, 3, .inl fr))]))) H locs := G
        exact e_int S zr zlk (vp_nar_int _) G (fr) [0, 1, 2, 3, 4, 5, 6, 7, 8, 9, 10, 11, 12, 13, 14, 15, 16, 17] rfl rfl (Or.inr rfl) (trivial) dX10_of_47
      · refine k_it (v := 1) rfl ?_
        refine r_aald (C := RX8) (b := (an 2)) S G 2 3 rfl rfl (k_vp (by decide)) rfl dX10_of_33 ?_
        refine lv_iload_n zx zb dX10_of_34 rfl (lv_at hl 2 rfl) ?_
        refine lv_aload_n zx zb dX10_of_35 rfl (lv_at hl 0 rfl) ?_
        refine r_get (C := RX10) (T := TX10) (N := 14) (ci := 8) (v := .ref nw) S in_X10_of_X10 G 0 rfl rfl 0 (by decide) lk_X10_of_10 rfl dX10_of_36 ?_
        refine r_get (C := RX5) (T := TX5) (N := 8) (ci := 3) (v := .int (dv 1)) S in_X10_of_X5 G 1 rfl rfl 1 (by decide) lk_X10_of_110 rfl dX10_of_39 ?_
        refine lv_iconst (v := 1) zx zb dX10_of_42 (by decide) ?_
        refine r_iadd (v := ((dv 1) + 1)) S rfl dX10_of_43 ?_
        refine o_ri (cells' := 0) (slots' := 0) G rfl rfl (n_V (As := [.int x2, .int ((dv 1) + 1)]) (rest := []) (C := RX8) (T := TX8) (N := 8) (ci := 6) S G (s_fact l X (an 2) (fun k => sv (3 + k)) (fun k => dv (15 + k)) x2 ((dv 1) + 1) H.size) gX10_of_X8_fact rfl rfl rfl hdV_X8_fact ⟨Nat.le_of_ble_eq_true rfl, Nat.le_of_ble_eq_true rfl⟩ [4] rfl rfl 4 rfl rfl rfl hl.1 (Nat.le_of_ble_eq_true rfl) dX10_of_44 ⟨Nat.le_of_ble_eq_true rfl, Nat.le_of_ble_eq_true rfl⟩) (fun r_6 u_6 H locs hp_6 G => ?_)
        have G : wd X (va_A (@HAppend.hAppend va_W va_W va_W _ (xW h0 nw sp xa la lb) (@HAppend.hAppend va_W va_W va_W _ (rcV X nw an sv dv n0 n1 n2 n3 n4 g0 gs gn gm) ([((xa 5), .inl (X.2.1, 3, .inl fr))]))) sz) (va_A (@HAppend.hAppend va_W va_W va_W _ (xW h0 nw sp xa la lb) (@HAppend.hAppend va_W va_W va_W _ (rcV X nw an sv dv n0 n1 n2 n3 n4 g0 gs gn gm) ([((xa 5), .inl (X.2.1, 3, .inl fr))]))) sz) s (@HAppend.hAppend va_W va_W va_W _ (xW h0 nw sp xa la lb) (@HAppend.hAppend va_W va_W va_W _ (rcV X nw an sv dv n0 n1 n2 n3 n4 g0 gs gn gm) ([((xa 5), .inl (X.2.1, 3, .inl fr))]))) H locs := G
        exact e_int S zr zlk (vp_nar_int _) G (fr) [0, 1, 2, 3, 4, 5, 6, 7, 8, 9, 10, 11, 12, 13, 14, 15, 16, 17] rfl rfl (Or.inr rfl) (trivial) dX10_of_47
      · refine k_it (v := 2) rfl ?_
        refine r_aald (C := RX8) (b := (an 3)) S G 2 3 rfl rfl (k_vp (by decide)) rfl dX10_of_33 ?_
        refine lv_iload_n zx zb dX10_of_34 rfl (lv_at hl 2 rfl) ?_
        refine lv_aload_n zx zb dX10_of_35 rfl (lv_at hl 0 rfl) ?_
        refine r_get (C := RX10) (T := TX10) (N := 14) (ci := 8) (v := .ref nw) S in_X10_of_X10 G 0 rfl rfl 0 (by decide) lk_X10_of_10 rfl dX10_of_36 ?_
        refine r_get (C := RX5) (T := TX5) (N := 8) (ci := 3) (v := .int (dv 1)) S in_X10_of_X5 G 1 rfl rfl 1 (by decide) lk_X10_of_110 rfl dX10_of_39 ?_
        refine lv_iconst (v := 1) zx zb dX10_of_42 (by decide) ?_
        refine r_iadd (v := ((dv 1) + 1)) S rfl dX10_of_43 ?_
        refine o_ri (cells' := 0) (slots' := 0) G rfl rfl (n_V (As := [.int x2, .int ((dv 1) + 1)]) (rest := []) (C := RX8) (T := TX8) (N := 8) (ci := 6) S G (s_fact l X (an 3) (fun k => sv (6 + k)) (fun k => dv (20 + k)) x2 ((dv 1) + 1) H.size) gX10_of_X8_fact rfl rfl rfl hdV_X8_fact ⟨Nat.le_of_ble_eq_true rfl, Nat.le_of_ble_eq_true rfl⟩ [5] rfl rfl 5 rfl rfl rfl hl.1 (Nat.le_of_ble_eq_true rfl) dX10_of_44 ⟨Nat.le_of_ble_eq_true rfl, Nat.le_of_ble_eq_true rfl⟩) (fun r_7 u_7 H locs hp_7 G => ?_)
        have G : wd X (va_A (@HAppend.hAppend va_W va_W va_W _ (xW h0 nw sp xa la lb) (@HAppend.hAppend va_W va_W va_W _ (rcV X nw an sv dv n0 n1 n2 n3 n4 g0 gs gn gm) ([((xa 5), .inl (X.2.1, 3, .inl fr))]))) sz) (va_A (@HAppend.hAppend va_W va_W va_W _ (xW h0 nw sp xa la lb) (@HAppend.hAppend va_W va_W va_W _ (rcV X nw an sv dv n0 n1 n2 n3 n4 g0 gs gn gm) ([((xa 5), .inl (X.2.1, 3, .inl fr))]))) sz) s (@HAppend.hAppend va_W va_W va_W _ (xW h0 nw sp xa la lb) (@HAppend.hAppend va_W va_W va_W _ (rcV X nw an sv dv n0 n1 n2 n3 n4 g0 gs gn gm) ([((xa 5), .inl (X.2.1, 3, .inl fr))]))) H locs := G
        exact e_int S zr zlk (vp_nar_int _) G (fr) [0, 1, 2, 3, 4, 5, 6, 7, 8, 9, 10, 11, 12, 13, 14, 15, 16, 17] rfl rfl (Or.inr rfl) (trivial) dX10_of_47
      · refine k_it (v := 3) rfl ?_
        refine r_aald (C := RX8) (b := (an 4)) S G 2 3 rfl rfl (k_vp (by decide)) rfl dX10_of_33 ?_
        refine lv_iload_n zx zb dX10_of_34 rfl (lv_at hl 2 rfl) ?_
        refine lv_aload_n zx zb dX10_of_35 rfl (lv_at hl 0 rfl) ?_
        refine r_get (C := RX10) (T := TX10) (N := 14) (ci := 8) (v := .ref nw) S in_X10_of_X10 G 0 rfl rfl 0 (by decide) lk_X10_of_10 rfl dX10_of_36 ?_
        refine r_get (C := RX5) (T := TX5) (N := 8) (ci := 3) (v := .int (dv 1)) S in_X10_of_X5 G 1 rfl rfl 1 (by decide) lk_X10_of_110 rfl dX10_of_39 ?_
        refine lv_iconst (v := 1) zx zb dX10_of_42 (by decide) ?_
        refine r_iadd (v := ((dv 1) + 1)) S rfl dX10_of_43 ?_
        refine o_ri (cells' := 0) (slots' := 0) G rfl rfl (n_V (As := [.int x2, .int ((dv 1) + 1)]) (rest := []) (C := RX8) (T := TX8) (N := 8) (ci := 6) S G (s_fact l X (an 4) (fun k => sv (9 + k)) (fun k => dv (25 + k)) x2 ((dv 1) + 1) H.size) gX10_of_X8_fact rfl rfl rfl hdV_X8_fact ⟨Nat.le_of_ble_eq_true rfl, Nat.le_of_ble_eq_true rfl⟩ [6] rfl rfl 6 rfl rfl rfl hl.1 (Nat.le_of_ble_eq_true rfl) dX10_of_44 ⟨Nat.le_of_ble_eq_true rfl, Nat.le_of_ble_eq_true rfl⟩) (fun r_8 u_8 H locs hp_8 G => ?_)
        have G : wd X (va_A (@HAppend.hAppend va_W va_W va_W _ (xW h0 nw sp xa la lb) (@HAppend.hAppend va_W va_W va_W _ (rcV X nw an sv dv n0 n1 n2 n3 n4 g0 gs gn gm) ([((xa 5), .inl (X.2.1, 3, .inl fr))]))) sz) (va_A (@HAppend.hAppend va_W va_W va_W _ (xW h0 nw sp xa la lb) (@HAppend.hAppend va_W va_W va_W _ (rcV X nw an sv dv n0 n1 n2 n3 n4 g0 gs gn gm) ([((xa 5), .inl (X.2.1, 3, .inl fr))]))) sz) s (@HAppend.hAppend va_W va_W va_W _ (xW h0 nw sp xa la lb) (@HAppend.hAppend va_W va_W va_W _ (rcV X nw an sv dv n0 n1 n2 n3 n4 g0 gs gn gm) ([((xa 5), .inl (X.2.1, 3, .inl fr))]))) H locs := G
        exact e_int S zr zlk (vp_nar_int _) G (fr) [0, 1, 2, 3, 4, 5, 6, 7, 8, 9, 10, 11, 12, 13, 14, 15, 16, 17] rfl rfl (Or.inr rfl) (trivial) dX10_of_47
      · refine k_it (v := 4) rfl ?_
        refine r_aald (C := RX8) (b := (an 5)) S G 2 3 rfl rfl (k_vp (by decide)) rfl dX10_of_33 ?_
        refine lv_iload_n zx zb dX10_of_34 rfl (lv_at hl 2 rfl) ?_
        refine lv_aload_n zx zb dX10_of_35 rfl (lv_at hl 0 rfl) ?_
        refine r_get (C := RX10) (T := TX10) (N := 14) (ci := 8) (v := .ref nw) S in_X10_of_X10 G 0 rfl rfl 0 (by decide) lk_X10_of_10 rfl dX10_of_36 ?_
        refine r_get (C := RX5) (T := TX5) (N := 8) (ci := 3) (v := .int (dv 1)) S in_X10_of_X5 G 1 rfl rfl 1 (by decide) lk_X10_of_110 rfl dX10_of_39 ?_
        refine lv_iconst (v := 1) zx zb dX10_of_42 (by decide) ?_
        refine r_iadd (v := ((dv 1) + 1)) S rfl dX10_of_43 ?_
        refine o_ri (cells' := 0) (slots' := 0) G rfl rfl (n_V (As := [.int x2, .int ((dv 1) + 1)]) (rest := []) (C := RX8) (T := TX8) (N := 8) (ci := 6) S G (s_fact l X (an 5) (fun k => sv (12 + k)) (fun k => dv (30 + k)) x2 ((dv 1) + 1) H.size) gX10_of_X8_fact rfl rfl rfl hdV_X8_fact ⟨Nat.le_of_ble_eq_true rfl, Nat.le_of_ble_eq_true rfl⟩ [7] rfl rfl 7 rfl rfl rfl hl.1 (Nat.le_of_ble_eq_true rfl) dX10_of_44 ⟨Nat.le_of_ble_eq_true rfl, Nat.le_of_ble_eq_true rfl⟩) (fun r_9 u_9 H locs hp_9 G => ?_)
        have G : wd X (va_A (@HAppend.hAppend va_W va_W va_W _ (xW h0 nw sp xa la lb) (@HAppend.hAppend va_W va_W va_W _ (rcV X nw an sv dv n0 n1 n2 n3 n4 g0 gs gn gm) ([((xa 5), .inl (X.2.1, 3, .inl fr))]))) sz) (va_A (@HAppend.hAppend va_W va_W va_W _ (xW h0 nw sp xa la lb) (@HAppend.hAppend va_W va_W va_W _ (rcV X nw an sv dv n0 n1 n2 n3 n4 g0 gs gn gm) ([((xa 5), .inl (X.2.1, 3, .inl fr))]))) sz) s (@HAppend.hAppend va_W va_W va_W _ (xW h0 nw sp xa la lb) (@HAppend.hAppend va_W va_W va_W _ (rcV X nw an sv dv n0 n1 n2 n3 n4 g0 gs gn gm) ([((xa 5), .inl (X.2.1, 3, .inl fr))]))) H locs := G
        exact e_int S zr zlk (vp_nar_int _) G (fr) [0, 1, 2, 3, 4, 5, 6, 7, 8, 9, 10, 11, 12, 13, 14, 15, 16, 17] rfl rfl (Or.inr rfl) (trivial) dX10_of_47
      · refine k_it (v := 5) rfl ?_
        refine r_aald (C := RX8) (b := (an 6)) S G 2 3 rfl rfl (k_vp (by decide)) rfl dX10_of_33 ?_
        refine lv_iload_n zx zb dX10_of_34 rfl (lv_at hl 2 rfl) ?_
        refine lv_aload_n zx zb dX10_of_35 rfl (lv_at hl 0 rfl) ?_
        refine r_get (C := RX10) (T := TX10) (N := 14) (ci := 8) (v := .ref nw) S in_X10_of_X10 G 0 rfl rfl 0 (by decide) lk_X10_of_10 rfl dX10_of_36 ?_
        refine r_get (C := RX5) (T := TX5) (N := 8) (ci := 3) (v := .int (dv 1)) S in_X10_of_X5 G 1 rfl rfl 1 (by decide) lk_X10_of_110 rfl dX10_of_39 ?_
        refine lv_iconst (v := 1) zx zb dX10_of_42 (by decide) ?_
        refine r_iadd (v := ((dv 1) + 1)) S rfl dX10_of_43 ?_
        refine o_ri (cells' := 0) (slots' := 0) G rfl rfl (n_V (As := [.int x2, .int ((dv 1) + 1)]) (rest := []) (C := RX8) (T := TX8) (N := 8) (ci := 6) S G (s_fact l X (an 6) (fun k => sv (15 + k)) (fun k => dv (35 + k)) x2 ((dv 1) + 1) H.size) gX10_of_X8_fact rfl rfl rfl hdV_X8_fact ⟨Nat.le_of_ble_eq_true rfl, Nat.le_of_ble_eq_true rfl⟩ [8] rfl rfl 8 rfl rfl rfl hl.1 (Nat.le_of_ble_eq_true rfl) dX10_of_44 ⟨Nat.le_of_ble_eq_true rfl, Nat.le_of_ble_eq_true rfl⟩) (fun r_10 u_10 H locs hp_10 G => ?_)
        have G : wd X (va_A (@HAppend.hAppend va_W va_W va_W _ (xW h0 nw sp xa la lb) (@HAppend.hAppend va_W va_W va_W _ (rcV X nw an sv dv n0 n1 n2 n3 n4 g0 gs gn gm) ([((xa 5), .inl (X.2.1, 3, .inl fr))]))) sz) (va_A (@HAppend.hAppend va_W va_W va_W _ (xW h0 nw sp xa la lb) (@HAppend.hAppend va_W va_W va_W _ (rcV X nw an sv dv n0 n1 n2 n3 n4 g0 gs gn gm) ([((xa 5), .inl (X.2.1, 3, .inl fr))]))) sz) s (@HAppend.hAppend va_W va_W va_W _ (xW h0 nw sp xa la lb) (@HAppend.hAppend va_W va_W va_W _ (rcV X nw an sv dv n0 n1 n2 n3 n4 g0 gs gn gm) ([((xa 5), .inl (X.2.1, 3, .inl fr))]))) H locs := G
        exact e_int S zr zlk (vp_nar_int _) G (fr) [0, 1, 2, 3, 4, 5, 6, 7, 8, 9, 10, 11, 12, 13, 14, 15, 16, 17] rfl rfl (Or.inr rfl) (trivial) dX10_of_47
    · refine lv_if_ne (tgt := 25) zx zb dX10_of_15 (by decide) (fun c_11 => absurd (by decide) c_11) (fun c_11 => ?_)
      refine lv_aload_n zx zb dX10_of_18 rfl (lv_at hl 0 rfl) ?_
      refine lv_bipush (v := (-2)) zx zb dX10_of_19 (by decide) ?_
      refine b_wi (cells' := 0) (slots' := 0) (wr := rcV X nw an sv dv n0 n1 n2 n3 n4 g0 gs gn gm) G rfl rfl [0, 17] [1, 2, 3, 4, 5, 6, 7, 8, 9, 10, 11, 12, 13, 14, 15, 16] rfl rfl rfl rfl (n_V (As := [.int (-2)]) (rest := []) (C := RX10) (T := TX10) (N := 14) (ci := 8) S G (s_refuse l X h0 nw sp xa la lb fr (-2) H.size) gX10_of_X10_refuse rfl rfl rfl hdV_X10_refuse ⟨Nat.le_of_ble_eq_true rfl, Nat.le_of_ble_eq_true rfl⟩ [0, 17] rfl rfl 0 rfl rfl rfl hl.1 (Nat.le_of_ble_eq_true rfl) dX10_of_21 ⟨Nat.le_of_ble_eq_true rfl, Nat.le_of_ble_eq_true rfl⟩) (fun r_12 u_12 H locs hp_12 G => ?_)
      obtain ⟨f_12, rfl⟩ : ∃ z, z = u_12 := ⟨_, rfl⟩
      have hq_12 := hp_12
      have G : wd X (va_A (@HAppend.hAppend va_W va_W va_W _ (xW h0 nw sp xa la lb) (@HAppend.hAppend va_W va_W va_W _ (rcV X nw an sv dv n0 n1 n2 n3 n4 g0 gs gn gm) ([((xa 5), .inl (X.2.1, 3, .inl fr))]))) sz) (va_A (@HAppend.hAppend va_W va_W va_W _ (xW h0 nw sp xa la lb) (@HAppend.hAppend va_W va_W va_W _ (rcV X nw an sv dv n0 n1 n2 n3 n4 g0 gs gn gm) ([((xa 5), .inl (X.2.1, 3, .inl fr))]))) sz) s (@HAppend.hAppend va_W va_W va_W _ (rcV X nw an sv dv n0 n1 n2 n3 n4 g0 gs gn gm) (@HAppend.hAppend va_W va_W va_W _ (xW h0 nw sp xa la lb) ([((xa 5), .inl (X.2.1, 3, .inl f_12))]))) H locs := G
      exact e_int S zr zlk (vp_nar_int _) G (f_12) [16, 0, 1, 2, 3, 4, 5, 6, 7, 8, 9, 10, 11, 12, 13, 14, 15, 17] rfl rfl (Or.inr rfl) (trivial) dX10_of_24
  · refine lv_if_eq (tgt := 18) zx zb dX10_of_5 (by decide) (fun c_13 => ?_) (fun c_13 => absurd (by decide) c_13)
    refine lv_aload_n zx zb dX10_of_18 rfl (lv_at hl 0 rfl) ?_
    refine lv_bipush (v := (-2)) zx zb dX10_of_19 (by decide) ?_
    refine b_wi (cells' := 0) (slots' := 0) (wr := rcV X nw an sv dv n0 n1 n2 n3 n4 g0 gs gn gm) G rfl rfl [0, 17] [1, 2, 3, 4, 5, 6, 7, 8, 9, 10, 11, 12, 13, 14, 15, 16] rfl rfl rfl rfl (n_V (As := [.int (-2)]) (rest := []) (C := RX10) (T := TX10) (N := 14) (ci := 8) S G (s_refuse l X h0 nw sp xa la lb fr (-2) H.size) gX10_of_X10_refuse rfl rfl rfl hdV_X10_refuse ⟨Nat.le_of_ble_eq_true rfl, Nat.le_of_ble_eq_true rfl⟩ [0, 17] rfl rfl 0 rfl rfl rfl hl.1 (Nat.le_of_ble_eq_true rfl) dX10_of_21 ⟨Nat.le_of_ble_eq_true rfl, Nat.le_of_ble_eq_true rfl⟩) (fun r_14 u_14 H locs hp_14 G => ?_)
    obtain ⟨f_14, rfl⟩ : ∃ z, z = u_14 := ⟨_, rfl⟩
    have hq_14 := hp_14
    have G : wd X (va_A (@HAppend.hAppend va_W va_W va_W _ (xW h0 nw sp xa la lb) (@HAppend.hAppend va_W va_W va_W _ (rcV X nw an sv dv n0 n1 n2 n3 n4 g0 gs gn gm) ([((xa 5), .inl (X.2.1, 3, .inl fr))]))) sz) (va_A (@HAppend.hAppend va_W va_W va_W _ (xW h0 nw sp xa la lb) (@HAppend.hAppend va_W va_W va_W _ (rcV X nw an sv dv n0 n1 n2 n3 n4 g0 gs gn gm) ([((xa 5), .inl (X.2.1, 3, .inl fr))]))) sz) s (@HAppend.hAppend va_W va_W va_W _ (rcV X nw an sv dv n0 n1 n2 n3 n4 g0 gs gn gm) (@HAppend.hAppend va_W va_W va_W _ (xW h0 nw sp xa la lb) ([((xa 5), .inl (X.2.1, 3, .inl f_14))]))) H locs := G
    exact e_int S zr zlk (vp_nar_int _) G (f_14) [16, 0, 1, 2, 3, 4, 5, 6, 7, 8, 9, 10, 11, 12, 13, 14, 15, 17] rfl rfl (Or.inr rfl) (trivial) dX10_of_24
theorem in_X10_where_X10 : ∀ w ∈ wsX100, w ∈ wsX10_where := by decide +kernel
theorem lk_X10_where_48 : Cond.fieldLink RX10 48 "EggSpoons" "ghost" "LEggSpoons$Runner;" ∈ wsX10_where := by decide +kernel
theorem lk_X10_where_10 : Cond.fieldLink RX10 10 "EggSpoons" "now" "LEggSpoons$Race;" ∈ wsX10_where := by decide +kernel
theorem in_X10_where_X5 : ∀ w ∈ wsX50, w ∈ wsX10_where := by decide +kernel
theorem lk_X10_where_126 : Cond.fieldLink RX10 126 "EggSpoons$Race" "row" "[LEggSpoons$Runner;" ∈ wsX10_where := by decide +kernel
theorem hdV_X8_copyFrom : yX8_copyFrom.cls = RX8 ∧ yX8_copyFrom.cls ≠ "java/lang/invoke/MethodHandle" ∧ yX8_copyFrom.cls ≠ "java/lang/invoke/VarHandle" ∧ (parseMethodDescriptor yX8_copyFrom.desc).map (fun d => d.parameters.length) = some 1 := by decide +kernel
theorem lk_X10_where_110 : Cond.fieldLink RX10 110 "EggSpoons$Race" "tick" "I" ∈ wsX10_where := by decide +kernel
theorem lk_X10_where_140 : Cond.fieldLink RX10 140 "EggSpoons$Race" "length" "I" ∈ wsX10_where := by decide +kernel
theorem hdV_X8_placeBehind : yX8_placeBehind.cls = RX8 ∧ yX8_placeBehind.cls ≠ "java/lang/invoke/MethodHandle" ∧ yX8_placeBehind.cls ≠ "java/lang/invoke/VarHandle" ∧ (parseMethodDescriptor yX8_placeBehind.desc).map (fun d => d.parameters.length) = some 3 := by decide +kernel
set_option maxHeartbeats 4000000 in
set_option maxRecDepth 100000 in
/-- where -/
theorem s_where (l : Launch) (X : EX) (h0 : Nat) (nw : Nat) (sp : Nat) (xa : Nat → Nat) (la : Int64) (lb : Int64) (an : Nat → Nat) (sv : Nat → Int32) (dv : Nat → Int32) (n0 : Nat) (n1 : Nat) (n2 : Nat) (n3 : Nat) (n4 : Nat) (g0 : Nat → Int32) (gs : Nat → Int32) (gn : Nat → Int32) (gm : Nat → Int32) (ag : Nat → Int32) (dg : Nat → Int32) (fr : Nat → Int32) (x1 : Int32) (x2 : Int32) (hI_n0 : n0 ≤ 6) (hI_n1 : n1 ≤ 8) (hI_n2 : n2 ≤ 5) (hI_n3 : n3 ≤ 6) (hI_n4 : n4 ≤ 6) (sz : Nat) : Met l yX10_where wsX10_where ({ frames := 3, cells := 0, slots := 0, locals := 73 } : Room) (pE X [.ref h0, .int x1, .int x2] (@HAppend.hAppend va_W va_W va_W _ (xW h0 nw sp xa la lb) (@HAppend.hAppend va_W va_W va_W _ (rcV X nw an sv dv n0 n1 n2 n3 n4 g0 gs gn gm) (@HAppend.hAppend va_W va_W va_W _ (rnV (xa 8) ag dg) ([((xa 5), .inl (X.2.1, 3, .inl fr))])))) sz) (qI (fun (r : Int32) (u : (Nat → Int32) × (Nat → Int32) × (Nat → Int32)) => (True)) X (fun (u : (Nat → Int32) × (Nat → Int32) × (Nat → Int32)) => @HAppend.hAppend va_W va_W va_W _ (xW h0 nw sp xa la lb) (@HAppend.hAppend va_W va_W va_W _ (rcV X nw an sv dv n0 n1 n2 n3 n4 g0 gs gn gm) (@HAppend.hAppend va_W va_W va_W _ (rnV (xa 8) u.1 u.2.1) ([((xa 5), .inl (X.2.1, 3, .inl u.2.2))])))) (@HAppend.hAppend va_W va_W va_W _ (xW h0 nw sp xa la lb) (@HAppend.hAppend va_W va_W va_W _ (rcV X nw an sv dv n0 n1 n2 n3 n4 g0 gs gn gm) (@HAppend.hAppend va_W va_W va_W _ (rnV (xa 8) ag dg) ([((xa 5), .inl (X.2.1, 3, .inl fr))])))) sz) 0 0 (va_A (@HAppend.hAppend va_W va_W va_W _ (xW h0 nw sp xa la lb) (@HAppend.hAppend va_W va_W va_W _ (rcV X nw an sv dv n0 n1 n2 n3 n4 g0 gs gn gm) (@HAppend.hAppend va_W va_W va_W _ (rnV (xa 8) ag dg) ([((xa 5), .inl (X.2.1, 3, .inl fr))])))) sz) := by
  refine mk_met (B := (va_A (@HAppend.hAppend va_W va_W va_W _ (xW h0 nw sp xa la lb) (@HAppend.hAppend va_W va_W va_W _ (rcV X nw an sv dv n0 n1 n2 n3 n4 g0 gs gn gm) (@HAppend.hAppend va_W va_W va_W _ (rnV (xa 8) ag dg) ([((xa 5), .inl (X.2.1, 3, .inl fr))])))) sz)) (A := (va_A (@HAppend.hAppend va_W va_W va_W _ (xW h0 nw sp xa la lb) (@HAppend.hAppend va_W va_W va_W _ (rcV X nw an sv dv n0 n1 n2 n3 n4 g0 gs gn gm) (@HAppend.hAppend va_W va_W va_W _ (rnV (xa 8) ag dg) ([((xa 5), .inl (X.2.1, 3, .inl fr))])))) sz)) (cc := cX10_where) (maxL := 3) (ret := (some .int)) (by decide) rfl (Nat.le_of_ble_eq_true rfl) k_w k_a (fun p e s m below meth c S zr zlk znm zsz G ls hl => ?_)
  have S : CallFix p m c cX10_where 3 s _ wsX10_where RX10 := S
  have zx := S.1
  have zb := S.2.1
  have hl : lv_has ls 3 [(0, .ref h0), (1, .int x1), (2, .int x2)] := hl
  refine lv_aload_n zx zb dX10_where_0 rfl (lv_at hl 0 rfl) ?_
  refine lv_iload_n zx zb dX10_where_1 rfl (lv_at hl 1 rfl) ?_
  refine o_ri (cells' := 0) (slots' := 0) G rfl rfl (n_V (As := [.int x1]) (rest := []) (C := RX10) (T := TX10) (N := 14) (ci := 8) S G (s_there l X h0 nw sp xa la lb an sv dv n0 n1 n2 n3 n4 g0 gs gn gm x1 hI_n0 hI_n1 hI_n2 hI_n3 hI_n4 s.heap.size) gX10_where_X10_there rfl rfl rfl hdV_X10_there ⟨Nat.le_of_ble_eq_true rfl, Nat.le_of_ble_eq_true rfl⟩ [0, 1, 2, 3, 4, 5, 6, 7, 8, 9, 10, 11, 12, 13, 14, 15, 16] rfl rfl 0 rfl rfl rfl hl.1 (Nat.le_of_ble_eq_true rfl) dX10_where_2 ⟨Nat.le_of_ble_eq_true rfl, Nat.le_of_ble_eq_true rfl⟩) (fun r_1 u_1 H locs hp_1 G => ?_)
  have G : wd X (va_A (@HAppend.hAppend va_W va_W va_W _ (xW h0 nw sp xa la lb) (@HAppend.hAppend va_W va_W va_W _ (rcV X nw an sv dv n0 n1 n2 n3 n4 g0 gs gn gm) (@HAppend.hAppend va_W va_W va_W _ (rnV (xa 8) ag dg) ([((xa 5), .inl (X.2.1, 3, .inl fr))])))) sz) (va_A (@HAppend.hAppend va_W va_W va_W _ (xW h0 nw sp xa la lb) (@HAppend.hAppend va_W va_W va_W _ (rcV X nw an sv dv n0 n1 n2 n3 n4 g0 gs gn gm) (@HAppend.hAppend va_W va_W va_W _ (rnV (xa 8) ag dg) ([((xa 5), .inl (X.2.1, 3, .inl fr))])))) sz) s (@HAppend.hAppend va_W va_W va_W _ (xW h0 nw sp xa la lb) (@HAppend.hAppend va_W va_W va_W _ (rcV X nw an sv dv n0 n1 n2 n3 n4 g0 gs gn gm) (@HAppend.hAppend va_W va_W va_W _ (rnV (xa 8) ag dg) ([((xa 5), .inl (X.2.1, 3, .inl fr))])))) H locs := G
  rcases hp_1 with ⟨rfl, hj_1⟩ | ⟨rfl, hj_1⟩
  · obtain ⟨j_1, hj_1, rfl⟩ := hj_1
    refine lv_if_eq (tgt := 18) zx zb dX10_where_5 (by decide) (fun c_2 => absurd c_2 (by decide)) (fun c_2 => ?_)
    refine lv_iload_n zx zb dX10_where_8 rfl (lv_at hl 2 rfl) ?_
    refine lv_iconst (v := 0) zx zb dX10_where_9 (by decide) ?_
    refine lv_bipush (v := 60) zx zb dX10_where_10 (by decide) ?_
    refine o_ri (cells' := 0) (slots' := 0) G rfl rfl (n_S (As := [.int x2, .int 0, .int 60]) (rest := []) S G (s_within l X x2 0 60 H.size) gX10_where_X10_within rfl rfl rfl hdS_X10_within ⟨Nat.le_of_ble_eq_true rfl, Nat.le_of_ble_eq_true rfl⟩ [] rfl rfl rfl hl.1 (Nat.le_of_ble_eq_true rfl) dX10_where_12 ⟨Nat.le_of_ble_eq_true rfl, Nat.le_of_ble_eq_true rfl⟩) (fun r_3 u_3 H locs hp_3 G => ?_)
    have G : wd X (va_A (@HAppend.hAppend va_W va_W va_W _ (xW h0 nw sp xa la lb) (@HAppend.hAppend va_W va_W va_W _ (rcV X nw an sv dv n0 n1 n2 n3 n4 g0 gs gn gm) (@HAppend.hAppend va_W va_W va_W _ (rnV (xa 8) ag dg) ([((xa 5), .inl (X.2.1, 3, .inl fr))])))) sz) (va_A (@HAppend.hAppend va_W va_W va_W _ (xW h0 nw sp xa la lb) (@HAppend.hAppend va_W va_W va_W _ (rcV X nw an sv dv n0 n1 n2 n3 n4 g0 gs gn gm) (@HAppend.hAppend va_W va_W va_W _ (rnV (xa 8) ag dg) ([((xa 5), .inl (X.2.1, 3, .inl fr))])))) sz) s (@HAppend.hAppend va_W va_W va_W _ (xW h0 nw sp xa la lb) (@HAppend.hAppend va_W va_W va_W _ (rcV X nw an sv dv n0 n1 n2 n3 n4 g0 gs gn gm) (@HAppend.hAppend va_W va_W va_W _ (rnV (xa 8) ag dg) ([((xa 5), .inl (X.2.1, 3, .inl fr))])))) H locs := G
    rcases hp_3 with ⟨rfl, hw_3⟩ | ⟨rfl, hw_3⟩
    · refine lv_if_ne (tgt := 25) zx zb dX10_where_15 (by decide) (fun c_4 => ?_) (fun c_4 => absurd c_4 (by decide))
      refine lv_aload_n zx zb dX10_where_25 rfl (lv_at hl 0 rfl) ?_
      refine r_get (C := RX10) (T := TX10) (N := 14) (ci := 8) (v := .ref (xa 8)) S in_X10_where_X10 G 0 rfl rfl 8 (by decide) lk_X10_where_48 rfl dX10_where_26 ?_
      refine lv_aload_n zx zb dX10_where_29 rfl (lv_at hl 0 rfl) ?_
      refine r_get (C := RX10) (T := TX10) (N := 14) (ci := 8) (v := .ref nw) S in_X10_where_X10 G 0 rfl rfl 0 (by decide) lk_X10_where_10 rfl dX10_where_30 ?_
      refine r_get (C := RX5) (T := TX5) (N := 8) (ci := 3) (v := .ref (an 0)) S in_X10_where_X5 G 1 rfl rfl 3 (by decide) lk_X10_where_126 rfl dX10_where_33 ?_
      refine lv_iload_n zx zb dX10_where_36 rfl (lv_at hl 1 rfl) ?_
      rcases k_6c (show j_1 < 6 by omega) with rfl | rfl | rfl | rfl | rfl | rfl
      · refine k_it (v := 0) rfl ?_
        refine r_aald (C := RX8) (b := (an 1)) S G 2 3 rfl rfl (k_vp (by decide)) rfl dX10_where_37 ?_
        refine b_wv (cells' := 0) (slots' := 0) (wr := @HAppend.hAppend va_W va_W va_W _ (xW h0 nw sp xa la lb) (@HAppend.hAppend va_W va_W va_W _ ([(nw, .inr (3, [.int (dv 0), .int (dv 1), .int (nI n0), .ref (an 0), .ref (an 7), .ref (an 9), .ref (an 11), .ref (an 13)])), ((an 0), .inl (X.2.2.2.2, 6, .inr (.inr (.inr (.inr (rowQ an)))))), ((an 2), .inr (6, [.int (sv 3), .int (sv 4), .int (sv 5), .int (dv 15), .int (dv 16), .int (dv 17), .int (dv 18), .int (dv 19)])), ((an 3), .inr (6, [.int (sv 6), .int (sv 7), .int (sv 8), .int (dv 20), .int (dv 21), .int (dv 22), .int (dv 23), .int (dv 24)])), ((an 4), .inr (6, [.int (sv 9), .int (sv 10), .int (sv 11), .int (dv 25), .int (dv 26), .int (dv 27), .int (dv 28), .int (dv 29)])), ((an 5), .inr (6, [.int (sv 12), .int (sv 13), .int (sv 14), .int (dv 30), .int (dv 31), .int (dv 32), .int (dv 33), .int (dv 34)])), ((an 6), .inr (6, [.int (sv 15), .int (sv 16), .int (sv 17), .int (dv 35), .int (dv 36), .int (dv 37), .int (dv 38), .int (dv 39)])), ((an 7), .inr (2, [.ref (an 8), .int (nI n1)])), ((an 8), .inl (X.2.1, 248, .inl g0)), ((an 9), .inr (5, [.int 5, .int 0, .int 1, .ref (an 10), .int (nI n2)])), ((an 10), .inl (X.2.1, 25, .inl gs)), ((an 11), .inr (5, [.int 6, .int 1, .int 1, .ref (an 12), .int (nI n3)])), ((an 12), .inl (X.2.1, 30, .inl gn)), ((an 13), .inr (5, [.int 6, .int 0, .int 0, .ref (an 14), .int (nI n4)])), ((an 14), .inl (X.2.1, 30, .inl gm))]) ([((xa 5), .inl (X.2.1, 3, .inl fr))]))) G rfl rfl [17, 3] [0, 1, 2, 4, 5, 6, 7, 8, 9, 10, 11, 12, 13, 14, 15, 16, 18] rfl rfl rfl rfl (n_V (As := [.ref (an 1)]) (rest := []) (C := RX8) (T := TX8) (N := 8) (ci := 6) S G (s_rcopy l X (xa 8) ag dg (an 1) (fun k => sv (0 + k)) (fun k => dv (10 + k)) H.size) gX10_where_X8_copyFrom rfl rfl rfl hdV_X8_copyFrom ⟨Nat.le_of_ble_eq_true rfl, Nat.le_of_ble_eq_true rfl⟩ [17, 3] rfl rfl 17 rfl rfl rfl hl.1 (Nat.le_of_ble_eq_true rfl) dX10_where_38 ⟨Nat.le_of_ble_eq_true rfl, Nat.le_of_ble_eq_true rfl⟩) (fun u_5 H locs hp_5 G => ?_)
        obtain ⟨a_5a, d_5b⟩ := u_5
        have hq_5 := hp_5
        have G : wd X (va_A (@HAppend.hAppend va_W va_W va_W _ (xW h0 nw sp xa la lb) (@HAppend.hAppend va_W va_W va_W _ (rcV X nw an sv dv n0 n1 n2 n3 n4 g0 gs gn gm) (@HAppend.hAppend va_W va_W va_W _ (rnV (xa 8) ag dg) ([((xa 5), .inl (X.2.1, 3, .inl fr))])))) sz) (va_A (@HAppend.hAppend va_W va_W va_W _ (xW h0 nw sp xa la lb) (@HAppend.hAppend va_W va_W va_W _ (rcV X nw an sv dv n0 n1 n2 n3 n4 g0 gs gn gm) (@HAppend.hAppend va_W va_W va_W _ (rnV (xa 8) ag dg) ([((xa 5), .inl (X.2.1, 3, .inl fr))])))) sz) s (@HAppend.hAppend va_W va_W va_W _ (xW h0 nw sp xa la lb) (@HAppend.hAppend va_W va_W va_W _ (rcV X nw an sv dv n0 n1 n2 n3 n4 g0 gs gn gm) (@HAppend.hAppend va_W va_W va_W _ ([((xa 5), .inl (X.2.1, 3, .inl fr))]) (rnV (xa 8) a_5a d_5b)))) H locs := wd_sub G [0, 1, 2, 18, 3, 4, 5, 6, 7, 8, 9, 10, 11, 12, 13, 14, 15, 16, 17] rfl rfl
        refine lv_aload_n zx zb dX10_where_41 rfl (lv_at hl 0 rfl) ?_
        refine r_get (C := RX10) (T := TX10) (N := 14) (ci := 8) (v := .ref (xa 8)) S in_X10_where_X10 G 0 rfl rfl 8 (by decide) lk_X10_where_48 rfl dX10_where_42 ?_
        refine lv_aload_n zx zb dX10_where_45 rfl (lv_at hl 0 rfl) ?_
        refine r_get (C := RX10) (T := TX10) (N := 14) (ci := 8) (v := .ref nw) S in_X10_where_X10 G 0 rfl rfl 0 (by decide) lk_X10_where_10 rfl dX10_where_46 ?_
        refine r_get (C := RX5) (T := TX5) (N := 8) (ci := 3) (v := .int (dv 1)) S in_X10_where_X5 G 1 rfl rfl 1 (by decide) lk_X10_where_110 rfl dX10_where_49 ?_
        refine lv_aload_n zx zb dX10_where_52 rfl (lv_at hl 0 rfl) ?_
        refine r_get (C := RX10) (T := TX10) (N := 14) (ci := 8) (v := .ref nw) S in_X10_where_X10 G 0 rfl rfl 0 (by decide) lk_X10_where_10 rfl dX10_where_53 ?_
        refine r_get (C := RX5) (T := TX5) (N := 8) (ci := 3) (v := .int (dv 0)) S in_X10_where_X5 G 1 rfl rfl 0 (by decide) lk_X10_where_140 rfl dX10_where_56 ?_
        refine lv_iload_n zx zb dX10_where_59 rfl (lv_at hl 2 rfl) ?_
        refine b_wi (cells' := 0) (slots' := 0) (wr := @HAppend.hAppend va_W va_W va_W _ (xW h0 nw sp xa la lb) (@HAppend.hAppend va_W va_W va_W _ (rcV X nw an sv dv n0 n1 n2 n3 n4 g0 gs gn gm) ([((xa 5), .inl (X.2.1, 3, .inl fr))]))) G rfl rfl [18] [0, 1, 2, 3, 4, 5, 6, 7, 8, 9, 10, 11, 12, 13, 14, 15, 16, 17] rfl rfl rfl rfl (n_V (As := [.int (dv 1), .int (dv 0), .int x2]) (rest := []) (C := RX8) (T := TX8) (N := 8) (ci := 6) S G (s_placeBehind l X (xa 8) a_5a d_5b (dv 1) (dv 0) x2 (by first | decide | assumption | exact hw_3.2) H.size) gX10_where_X8_placeBehind rfl rfl rfl hdV_X8_placeBehind ⟨Nat.le_of_ble_eq_true rfl, Nat.le_of_ble_eq_true rfl⟩ [18] rfl rfl 18 rfl rfl rfl hl.1 (Nat.le_of_ble_eq_true rfl) dX10_where_60 ⟨Nat.le_of_ble_eq_true rfl, Nat.le_of_ble_eq_true rfl⟩) (fun r_6 u_6 H locs hp_6 G => ?_)
        obtain ⟨d_6, rfl⟩ : ∃ z, z = u_6 := ⟨_, rfl⟩
        have hq_6 := hp_6
        have G : wd X (va_A (@HAppend.hAppend va_W va_W va_W _ (xW h0 nw sp xa la lb) (@HAppend.hAppend va_W va_W va_W _ (rcV X nw an sv dv n0 n1 n2 n3 n4 g0 gs gn gm) (@HAppend.hAppend va_W va_W va_W _ (rnV (xa 8) ag dg) ([((xa 5), .inl (X.2.1, 3, .inl fr))])))) sz) (va_A (@HAppend.hAppend va_W va_W va_W _ (xW h0 nw sp xa la lb) (@HAppend.hAppend va_W va_W va_W _ (rcV X nw an sv dv n0 n1 n2 n3 n4 g0 gs gn gm) (@HAppend.hAppend va_W va_W va_W _ (rnV (xa 8) ag dg) ([((xa 5), .inl (X.2.1, 3, .inl fr))])))) sz) s (@HAppend.hAppend va_W va_W va_W _ (xW h0 nw sp xa la lb) (@HAppend.hAppend va_W va_W va_W _ (rcV X nw an sv dv n0 n1 n2 n3 n4 g0 gs gn gm) (@HAppend.hAppend va_W va_W va_W _ ([((xa 5), .inl (X.2.1, 3, .inl fr))]) (rnV (xa 8) a_5a d_6)))) H locs := G
        exact e_int S zr zlk (vp_nar_int _) G (a_5a, d_6, fr) [0, 1, 2, 3, 4, 5, 6, 7, 8, 9, 10, 11, 12, 13, 14, 15, 16, 18, 17] rfl rfl (Or.inr rfl) (trivial) dX10_where_63
      · refine k_it (v := 1) rfl ?_
        refine r_aald (C := RX8) (b := (an 2)) S G 2 3 rfl rfl (k_vp (by decide)) rfl dX10_where_37 ?_
        refine b_wv (cells' := 0) (slots' := 0) (wr := @HAppend.hAppend va_W va_W va_W _ (xW h0 nw sp xa la lb) (@HAppend.hAppend va_W va_W va_W _ ([(nw, .inr (3, [.int (dv 0), .int (dv 1), .int (nI n0), .ref (an 0), .ref (an 7), .ref (an 9), .ref (an 11), .ref (an 13)])), ((an 0), .inl (X.2.2.2.2, 6, .inr (.inr (.inr (.inr (rowQ an)))))), ((an 1), .inr (6, [.int (sv 0), .int (sv 1), .int (sv 2), .int (dv 10), .int (dv 11), .int (dv 12), .int (dv 13), .int (dv 14)])), ((an 3), .inr (6, [.int (sv 6), .int (sv 7), .int (sv 8), .int (dv 20), .int (dv 21), .int (dv 22), .int (dv 23), .int (dv 24)])), ((an 4), .inr (6, [.int (sv 9), .int (sv 10), .int (sv 11), .int (dv 25), .int (dv 26), .int (dv 27), .int (dv 28), .int (dv 29)])), ((an 5), .inr (6, [.int (sv 12), .int (sv 13), .int (sv 14), .int (dv 30), .int (dv 31), .int (dv 32), .int (dv 33), .int (dv 34)])), ((an 6), .inr (6, [.int (sv 15), .int (sv 16), .int (sv 17), .int (dv 35), .int (dv 36), .int (dv 37), .int (dv 38), .int (dv 39)])), ((an 7), .inr (2, [.ref (an 8), .int (nI n1)])), ((an 8), .inl (X.2.1, 248, .inl g0)), ((an 9), .inr (5, [.int 5, .int 0, .int 1, .ref (an 10), .int (nI n2)])), ((an 10), .inl (X.2.1, 25, .inl gs)), ((an 11), .inr (5, [.int 6, .int 1, .int 1, .ref (an 12), .int (nI n3)])), ((an 12), .inl (X.2.1, 30, .inl gn)), ((an 13), .inr (5, [.int 6, .int 0, .int 0, .ref (an 14), .int (nI n4)])), ((an 14), .inl (X.2.1, 30, .inl gm))]) ([((xa 5), .inl (X.2.1, 3, .inl fr))]))) G rfl rfl [17, 4] [0, 1, 2, 3, 5, 6, 7, 8, 9, 10, 11, 12, 13, 14, 15, 16, 18] rfl rfl rfl rfl (n_V (As := [.ref (an 2)]) (rest := []) (C := RX8) (T := TX8) (N := 8) (ci := 6) S G (s_rcopy l X (xa 8) ag dg (an 2) (fun k => sv (3 + k)) (fun k => dv (15 + k)) H.size) gX10_where_X8_copyFrom rfl rfl rfl hdV_X8_copyFrom ⟨Nat.le_of_ble_eq_true rfl, Nat.le_of_ble_eq_true rfl⟩ [17, 4] rfl rfl 17 rfl rfl rfl hl.1 (Nat.le_of_ble_eq_true rfl) dX10_where_38 ⟨Nat.le_of_ble_eq_true rfl, Nat.le_of_ble_eq_true rfl⟩) (fun u_7 H locs hp_7 G => ?_)
        obtain ⟨a_7a, d_7b⟩ := u_7
        have hq_7 := hp_7
        have G : wd X (va_A (@HAppend.hAppend va_W va_W va_W _ (xW h0 nw sp xa la lb) (@HAppend.hAppend va_W va_W va_W _ (rcV X nw an sv dv n0 n1 n2 n3 n4 g0 gs gn gm) (@HAppend.hAppend va_W va_W va_W _ (rnV (xa 8) ag dg) ([((xa 5), .inl (X.2.1, 3, .inl fr))])))) sz) (va_A (@HAppend.hAppend va_W va_W va_W _ (xW h0 nw sp xa la lb) (@HAppend.hAppend va_W va_W va_W _ (rcV X nw an sv dv n0 n1 n2 n3 n4 g0 gs gn gm) (@HAppend.hAppend va_W va_W va_W _ (rnV (xa 8) ag dg) ([((xa 5), .inl (X.2.1, 3, .inl fr))])))) sz) s (@HAppend.hAppend va_W va_W va_W _ (xW h0 nw sp xa la lb) (@HAppend.hAppend va_W va_W va_W _ (rcV X nw an sv dv n0 n1 n2 n3 n4 g0 gs gn gm) (@HAppend.hAppend va_W va_W va_W _ ([((xa 5), .inl (X.2.1, 3, .inl fr))]) (rnV (xa 8) a_7a d_7b)))) H locs := wd_sub G [0, 1, 2, 3, 18, 4, 5, 6, 7, 8, 9, 10, 11, 12, 13, 14, 15, 16, 17] rfl rfl
        refine lv_aload_n zx zb dX10_where_41 rfl (lv_at hl 0 rfl) ?_
        refine r_get (C := RX10) (T := TX10) (N := 14) (ci := 8) (v := .ref (xa 8)) S in_X10_where_X10 G 0 rfl rfl 8 (by decide) lk_X10_where_48 rfl dX10_where_42 ?_
        refine lv_aload_n zx zb dX10_where_45 rfl (lv_at hl 0 rfl) ?_
        refine r_get (C := RX10) (T := TX10) (N := 14) (ci := 8) (v := .ref nw) S in_X10_where_X10 G 0 rfl rfl 0 (by decide) lk_X10_where_10 rfl dX10_where_46 ?_
        refine r_get (C := RX5) (T := TX5) (N := 8) (ci := 3) (v := .int (dv 1)) S in_X10_where_X5 G 1 rfl rfl 1 (by decide) lk_X10_where_110 rfl dX10_where_49 ?_
        refine lv_aload_n zx zb dX10_where_52 rfl (lv_at hl 0 rfl) ?_
        refine r_get (C := RX10) (T := TX10) (N := 14) (ci := 8) (v := .ref nw) S in_X10_where_X10 G 0 rfl rfl 0 (by decide) lk_X10_where_10 rfl dX10_where_53 ?_
        refine r_get (C := RX5) (T := TX5) (N := 8) (ci := 3) (v := .int (dv 0)) S in_X10_where_X5 G 1 rfl rfl 0 (by decide) lk_X10_where_140 rfl dX10_where_56 ?_
        refine lv_iload_n zx zb dX10_where_59 rfl (lv_at hl 2 rfl) ?_
        refine b_wi (cells' := 0) (slots' := 0) (wr := @HAppend.hAppend va_W va_W va_W _ (xW h0 nw sp xa la lb) (@HAppend.hAppend va_W va_W va_W _ (rcV X nw an sv dv n0 n1 n2 n3 n4 g0 gs gn gm) ([((xa 5), .inl (X.2.1, 3, .inl fr))]))) G rfl rfl [18] [0, 1, 2, 3, 4, 5, 6, 7, 8, 9, 10, 11, 12, 13, 14, 15, 16, 17] rfl rfl rfl rfl (n_V (As := [.int (dv 1), .int (dv 0), .int x2]) (rest := []) (C := RX8) (T := TX8) (N := 8) (ci := 6) S G (s_placeBehind l X (xa 8) a_7a d_7b (dv 1) (dv 0) x2 (by first | decide | assumption | exact hw_3.2) H.size) gX10_where_X8_placeBehind rfl rfl rfl hdV_X8_placeBehind ⟨Nat.le_of_ble_eq_true rfl, Nat.le_of_ble_eq_true rfl⟩ [18] rfl rfl 18 rfl rfl rfl hl.1 (Nat.le_of_ble_eq_true rfl) dX10_where_60 ⟨Nat.le_of_ble_eq_true rfl, Nat.le_of_ble_eq_true rfl⟩) (fun r_8 u_8 H locs hp_8 G => ?_)
        obtain ⟨d_8, rfl⟩ : ∃ z, z = u_8 := ⟨_, rfl⟩
        have hq_8 := hp_8
        have G : wd X (va_A (@HAppend.hAppend va_W va_W va_W _ (xW h0 nw sp xa la lb) (@HAppend.hAppend va_W va_W va_W _ (rcV X nw an sv dv n0 n1 n2 n3 n4 g0 gs gn gm) (@HAppend.hAppend va_W va_W va_W _ (rnV (xa 8) ag dg) ([((xa 5), .inl (X.2.1, 3, .inl fr))])))) sz) (va_A (@HAppend.hAppend va_W va_W va_W _ (xW h0 nw sp xa la lb) (@HAppend.hAppend va_W va_W va_W _ (rcV X nw an sv dv n0 n1 n2 n3 n4 g0 gs gn gm) (@HAppend.hAppend va_W va_W va_W _ (rnV (xa 8) ag dg) ([((xa 5), .inl (X.2.1, 3, .inl fr))])))) sz) s (@HAppend.hAppend va_W va_W va_W _ (xW h0 nw sp xa la lb) (@HAppend.hAppend va_W va_W va_W _ (rcV X nw an sv dv n0 n1 n2 n3 n4 g0 gs gn gm) (@HAppend.hAppend va_W va_W va_W _ ([((xa 5), .inl (X.2.1, 3, .inl fr))]) (rnV (xa 8) a_7a d_8)))) H locs := G
        exact e_int S zr zlk (vp_nar_int _) G (a_7a, d_8, fr) [0, 1, 2, 3, 4, 5, 6, 7, 8, 9, 10, 11, 12, 13, 14, 15, 16, 18, 17] rfl rfl (Or.inr rfl) (trivial) dX10_where_63
      · refine k_it (v := 2) rfl ?_
        refine r_aald (C := RX8) (b := (an 3)) S G 2 3 rfl rfl (k_vp (by decide)) rfl dX10_where_37 ?_
        refine b_wv (cells' := 0) (slots' := 0) (wr := @HAppend.hAppend va_W va_W va_W _ (xW h0 nw sp xa la lb) (@HAppend.hAppend va_W va_W va_W _ ([(nw, .inr (3, [.int (dv 0), .int (dv 1), .int (nI n0), .ref (an 0), .ref (an 7), .ref (an 9), .ref (an 11), .ref (an 13)])), ((an 0), .inl (X.2.2.2.2, 6, .inr (.inr (.inr (.inr (rowQ an)))))), ((an 1), .inr (6, [.int (sv 0), .int (sv 1), .int (sv 2), .int (dv 10), .int (dv 11), .int (dv 12), .int (dv 13), .int (dv 14)])), ((an 2), .inr (6, [.int (sv 3), .int (sv 4), .int (sv 5), .int (dv 15), .int (dv 16), .int (dv 17), .int (dv 18), .int (dv 19)])), ((an 4), .inr (6, [.int (sv 9), .int (sv 10), .int (sv 11), .int (dv 25), .int (dv 26), .int (dv 27), .int (dv 28), .int (dv 29)])), ((an 5), .inr (6, [.int (sv 12), .int (sv 13), .int (sv 14), .int (dv 30), .int (dv 31), .int (dv 32), .int (dv 33), .int (dv 34)])), ((an 6), .inr (6, [.int (sv 15), .int (sv 16), .int (sv 17), .int (dv 35), .int (dv 36), .int (dv 37), .int (dv 38), .int (dv 39)])), ((an 7), .inr (2, [.ref (an 8), .int (nI n1)])), ((an 8), .inl (X.2.1, 248, .inl g0)), ((an 9), .inr (5, [.int 5, .int 0, .int 1, .ref (an 10), .int (nI n2)])), ((an 10), .inl (X.2.1, 25, .inl gs)), ((an 11), .inr (5, [.int 6, .int 1, .int 1, .ref (an 12), .int (nI n3)])), ((an 12), .inl (X.2.1, 30, .inl gn)), ((an 13), .inr (5, [.int 6, .int 0, .int 0, .ref (an 14), .int (nI n4)])), ((an 14), .inl (X.2.1, 30, .inl gm))]) ([((xa 5), .inl (X.2.1, 3, .inl fr))]))) G rfl rfl [17, 5] [0, 1, 2, 3, 4, 6, 7, 8, 9, 10, 11, 12, 13, 14, 15, 16, 18] rfl rfl rfl rfl (n_V (As := [.ref (an 3)]) (rest := []) (C := RX8) (T := TX8) (N := 8) (ci := 6) S G (s_rcopy l X (xa 8) ag dg (an 3) (fun k => sv (6 + k)) (fun k => dv (20 + k)) H.size) gX10_where_X8_copyFrom rfl rfl rfl hdV_X8_copyFrom ⟨Nat.le_of_ble_eq_true rfl, Nat.le_of_ble_eq_true rfl⟩ [17, 5] rfl rfl 17 rfl rfl rfl hl.1 (Nat.le_of_ble_eq_true rfl) dX10_where_38 ⟨Nat.le_of_ble_eq_true rfl, Nat.le_of_ble_eq_true rfl⟩) (fun u_9 H locs hp_9 G => ?_)
        obtain ⟨a_9a, d_9b⟩ := u_9
        have hq_9 := hp_9
        have G : wd X (va_A (@HAppend.hAppend va_W va_W va_W _ (xW h0 nw sp xa la lb) (@HAppend.hAppend va_W va_W va_W _ (rcV X nw an sv dv n0 n1 n2 n3 n4 g0 gs gn gm) (@HAppend.hAppend va_W va_W va_W _ (rnV (xa 8) ag dg) ([((xa 5), .inl (X.2.1, 3, .inl fr))])))) sz) (va_A (@HAppend.hAppend va_W va_W va_W _ (xW h0 nw sp xa la lb) (@HAppend.hAppend va_W va_W va_W _ (rcV X nw an sv dv n0 n1 n2 n3 n4 g0 gs gn gm) (@HAppend.hAppend va_W va_W va_W _ (rnV (xa 8) ag dg) ([((xa 5), .inl (X.2.1, 3, .inl fr))])))) sz) s (@HAppend.hAppend va_W va_W va_W _ (xW h0 nw sp xa la lb) (@HAppend.hAppend va_W va_W va_W _ (rcV X nw an sv dv n0 n1 n2 n3 n4 g0 gs gn gm) (@HAppend.hAppend va_W va_W va_W _ ([((xa 5), .inl (X.2.1, 3, .inl fr))]) (rnV (xa 8) a_9a d_9b)))) H locs := wd_sub G [0, 1, 2, 3, 4, 18, 5, 6, 7, 8, 9, 10, 11, 12, 13, 14, 15, 16, 17] rfl rfl
        refine lv_aload_n zx zb dX10_where_41 rfl (lv_at hl 0 rfl) ?_
        refine r_get (C := RX10) (T := TX10) (N := 14) (ci := 8) (v := .ref (xa 8)) S in_X10_where_X10 G 0 rfl rfl 8 (by decide) lk_X10_where_48 rfl dX10_where_42 ?_
        refine lv_aload_n zx zb dX10_where_45 rfl (lv_at hl 0 rfl) ?_
        refine r_get (C := RX10) (T := TX10) (N := 14) (ci := 8) (v := .ref nw) S in_X10_where_X10 G 0 rfl rfl 0 (by decide) lk_X10_where_10 rfl dX10_where_46 ?_
        refine r_get (C := RX5) (T := TX5) (N := 8) (ci := 3) (v := .int (dv 1)) S in_X10_where_X5 G 1 rfl rfl 1 (by decide) lk_X10_where_110 rfl dX10_where_49 ?_
        refine lv_aload_n zx zb dX10_where_52 rfl (lv_at hl 0 rfl) ?_
        refine r_get (C := RX10) (T := TX10) (N := 14) (ci := 8) (v := .ref nw) S in_X10_where_X10 G 0 rfl rfl 0 (by decide) lk_X10_where_10 rfl dX10_where_53 ?_
        refine r_get (C := RX5) (T := TX5) (N := 8) (ci := 3) (v := .int (dv 0)) S in_X10_where_X5 G 1 rfl rfl 0 (by decide) lk_X10_where_140 rfl dX10_where_56 ?_
        refine lv_iload_n zx zb dX10_where_59 rfl (lv_at hl 2 rfl) ?_
        refine b_wi (cells' := 0) (slots' := 0) (wr := @HAppend.hAppend va_W va_W va_W _ (xW h0 nw sp xa la lb) (@HAppend.hAppend va_W va_W va_W _ (rcV X nw an sv dv n0 n1 n2 n3 n4 g0 gs gn gm) ([((xa 5), .inl (X.2.1, 3, .inl fr))]))) G rfl rfl [18] [0, 1, 2, 3, 4, 5, 6, 7, 8, 9, 10, 11, 12, 13, 14, 15, 16, 17] rfl rfl rfl rfl (n_V (As := [.int (dv 1), .int (dv 0), .int x2]) (rest := []) (C := RX8) (T := TX8) (N := 8) (ci := 6) S G (s_placeBehind l X (xa 8) a_9a d_9b (dv 1) (dv 0) x2 (by first | decide | assumption | exact hw_3.2) H.size) gX10_where_X8_placeBehind rfl rfl rfl hdV_X8_placeBehind ⟨Nat.le_of_ble_eq_true rfl, Nat.le_of_ble_eq_true rfl⟩ [18] rfl rfl 18 rfl rfl rfl hl.1 (Nat.le_of_ble_eq_true rfl) dX10_where_60 ⟨Nat.le_of_ble_eq_true rfl, Nat.le_of_ble_eq_true rfl⟩) (fun r_10 u_10 H locs hp_10 G => ?_)
        obtain ⟨d_10, rfl⟩ : ∃ z, z = u_10 := ⟨_, rfl⟩
        have hq_10 := hp_10
        have G : wd X (va_A (@HAppend.hAppend va_W va_W va_W _ (xW h0 nw sp xa la lb) (@HAppend.hAppend va_W va_W va_W _ (rcV X nw an sv dv n0 n1 n2 n3 n4 g0 gs gn gm) (@HAppend.hAppend va_W va_W va_W _ (rnV (xa 8) ag dg) ([((xa 5), .inl (X.2.1, 3, .inl fr))])))) sz) (va_A (@HAppend.hAppend va_W va_W va_W _ (xW h0 nw sp xa la lb) (@HAppend.hAppend va_W va_W va_W _ (rcV X nw an sv dv n0 n1 n2 n3 n4 g0 gs gn gm) (@HAppend.hAppend va_W va_W va_W _ (rnV (xa 8) ag dg) ([((xa 5), .inl (X.2.1, 3, .inl fr))])))) sz) s (@HAppend.hAppend va_W va_W va_W _ (xW h0 nw sp xa la lb) (@HAppend.hAppend va_W va_W va_W _ (rcV X nw an sv dv n0 n1 n2 n3 n4 g0 gs gn gm) (@HAppend.hAppend va_W va_W va_W _ ([((xa 5), .inl (X.2.1, 3, .inl fr))]) (rnV (xa 8) a_9a d_10)))) H locs := G
        exact e_int S zr zlk (vp_nar_int _) G (a_9a, d_10, fr) [0, 1, 2, 3, 4, 5, 6, 7, 8, 9, 10, 11, 12, 13, 14, 15, 16, 18, 17] rfl rfl (Or.inr rfl) (trivial) dX10_where_63
      · refine k_it (v := 3) rfl ?_
        refine r_aald (C := RX8) (b := (an 4)) S G 2 3 rfl rfl (k_vp (by decide)) rfl dX10_where_37 ?_
        refine b_wv (cells' := 0) (slots' := 0) (wr := @HAppend.hAppend va_W va_W va_W _ (xW h0 nw sp xa la lb) (@HAppend.hAppend va_W va_W va_W _ ([(nw, .inr (3, [.int (dv 0), .int (dv 1), .int (nI n0), .ref (an 0), .ref (an 7), .ref (an 9), .ref (an 11), .ref (an 13)])), ((an 0), .inl (X.2.2.2.2, 6, .inr (.inr (.inr (.inr (rowQ an)))))), ((an 1), .inr (6, [.int (sv 0), .int (sv 1), .int (sv 2), .int (dv 10), .int (dv 11), .int (dv 12), .int (dv 13), .int (dv 14)])), ((an 2), .inr (6, [.int (sv 3), .int (sv 4), .int (sv 5), .int (dv 15), .int (dv 16), .int (dv 17), .int (dv 18), .int (dv 19)])), ((an 3), .inr (6, [.int (sv 6), .int (sv 7), .int (sv 8), .int (dv 20), .int (dv 21), .int (dv 22), .int (dv 23), .int (dv 24)])), ((an 5), .inr (6, [.int (sv 12), .int (sv 13), .int (sv 14), .int (dv 30), .int (dv 31), .int (dv 32), .int (dv 33), .int (dv 34)])), ((an 6), .inr (6, [.int (sv 15), .int (sv 16), .int (sv 17), .int (dv 35), .int (dv 36), .int (dv 37), .int (dv 38), .int (dv 39)])), ((an 7), .inr (2, [.ref (an 8), .int (nI n1)])), ((an 8), .inl (X.2.1, 248, .inl g0)), ((an 9), .inr (5, [.int 5, .int 0, .int 1, .ref (an 10), .int (nI n2)])), ((an 10), .inl (X.2.1, 25, .inl gs)), ((an 11), .inr (5, [.int 6, .int 1, .int 1, .ref (an 12), .int (nI n3)])), ((an 12), .inl (X.2.1, 30, .inl gn)), ((an 13), .inr (5, [.int 6, .int 0, .int 0, .ref (an 14), .int (nI n4)])), ((an 14), .inl (X.2.1, 30, .inl gm))]) ([((xa 5), .inl (X.2.1, 3, .inl fr))]))) G rfl rfl [17, 6] [0, 1, 2, 3, 4, 5, 7, 8, 9, 10, 11, 12, 13, 14, 15, 16, 18] rfl rfl rfl rfl (n_V (As := [.ref (an 4)]) (rest := []) (C := RX8) (T := TX8) (N := 8) (ci := 6) S G (s_rcopy l X (xa 8) ag dg (an 4) (fun k => sv (9 + k)) (fun k => dv (25 + k)) H.size) gX10_where_X8_copyFrom rfl rfl rfl hdV_X8_copyFrom ⟨Nat.le_of_ble_eq_true rfl, Nat.le_of_ble_eq_true rfl⟩ [17, 6] rfl rfl 17 rfl rfl rfl hl.1 (Nat.le_of_ble_eq_true rfl) dX10_where_38 ⟨Nat.le_of_ble_eq_true rfl, Nat.le_of_ble_eq_true rfl⟩) (fun u_11 H locs hp_11 G => ?_)
        obtain ⟨a_11a, d_11b⟩ := u_11
        have hq_11 := hp_11
        have G : wd X (va_A (@HAppend.hAppend va_W va_W va_W _ (xW h0 nw sp xa la lb) (@HAppend.hAppend va_W va_W va_W _ (rcV X nw an sv dv n0 n1 n2 n3 n4 g0 gs gn gm) (@HAppend.hAppend va_W va_W va_W _ (rnV (xa 8) ag dg) ([((xa 5), .inl (X.2.1, 3, .inl fr))])))) sz) (va_A (@HAppend.hAppend va_W va_W va_W _ (xW h0 nw sp xa la lb) (@HAppend.hAppend va_W va_W va_W _ (rcV X nw an sv dv n0 n1 n2 n3 n4 g0 gs gn gm) (@HAppend.hAppend va_W va_W va_W _ (rnV (xa 8) ag dg) ([((xa 5), .inl (X.2.1, 3, .inl fr))])))) sz) s (@HAppend.hAppend va_W va_W va_W _ (xW h0 nw sp xa la lb) (@HAppend.hAppend va_W va_W va_W _ (rcV X nw an sv dv n0 n1 n2 n3 n4 g0 gs gn gm) (@HAppend.hAppend va_W va_W va_W _ ([((xa 5), .inl (X.2.1, 3, .inl fr))]) (rnV (xa 8) a_11a d_11b)))) H locs := wd_sub G [0, 1, 2, 3, 4, 5, 18, 6, 7, 8, 9, 10, 11, 12, 13, 14, 15, 16, 17] rfl rfl
        refine lv_aload_n zx zb dX10_where_41 rfl (lv_at hl 0 rfl) ?_
        refine r_get (C := RX10) (T := TX10) (N := 14) (ci := 8) (v := .ref (xa 8)) S in_X10_where_X10 G 0 rfl rfl 8 (by decide) lk_X10_where_48 rfl dX10_where_42 ?_
        refine lv_aload_n zx zb dX10_where_45 rfl (lv_at hl 0 rfl) ?_
        refine r_get (C := RX10) (T := TX10) (N := 14) (ci := 8) (v := .ref nw) S in_X10_where_X10 G 0 rfl rfl 0 (by decide) lk_X10_where_10 rfl dX10_where_46 ?_
        refine r_get (C := RX5) (T := TX5) (N := 8) (ci := 3) (v := .int (dv 1)) S in_X10_where_X5 G 1 rfl rfl 1 (by decide) lk_X10_where_110 rfl dX10_where_49 ?_
        refine lv_aload_n zx zb dX10_where_52 rfl (lv_at hl 0 rfl) ?_
        refine r_get (C := RX10) (T := TX10) (N := 14) (ci := 8) (v := .ref nw) S in_X10_where_X10 G 0 rfl rfl 0 (by decide) lk_X10_where_10 rfl dX10_where_53 ?_
        refine r_get (C := RX5) (T := TX5) (N := 8) (ci := 3) (v := .int (dv 0)) S in_X10_where_X5 G 1 rfl rfl 0 (by decide) lk_X10_where_140 rfl dX10_where_56 ?_
        refine lv_iload_n zx zb dX10_where_59 rfl (lv_at hl 2 rfl) ?_
        refine b_wi (cells' := 0) (slots' := 0) (wr := @HAppend.hAppend va_W va_W va_W _ (xW h0 nw sp xa la lb) (@HAppend.hAppend va_W va_W va_W _ (rcV X nw an sv dv n0 n1 n2 n3 n4 g0 gs gn gm) ([((xa 5), .inl (X.2.1, 3, .inl fr))]))) G rfl rfl [18] [0, 1, 2, 3, 4, 5, 6, 7, 8, 9, 10, 11, 12, 13, 14, 15, 16, 17] rfl rfl rfl rfl (n_V (As := [.int (dv 1), .int (dv 0), .int x2]) (rest := []) (C := RX8) (T := TX8) (N := 8) (ci := 6) S G (s_placeBehind l X (xa 8) a_11a d_11b (dv 1) (dv 0) x2 (by first | decide | assumption | exact hw_3.2) H.size) gX10_where_X8_placeBehind rfl rfl rfl hdV_X8_placeBehind ⟨Nat.le_of_ble_eq_true rfl, Nat.le_of_ble_eq_true rfl⟩ [18] rfl rfl 18 rfl rfl rfl hl.1 (Nat.le_of_ble_eq_true rfl) dX10_where_60 ⟨Nat.le_of_ble_eq_true rfl, Nat.le_of_ble_eq_true rfl⟩) (fun r_12 u_12 H locs hp_12 G => ?_)
        obtain ⟨d_12, rfl⟩ : ∃ z, z = u_12 := ⟨_, rfl⟩
        have hq_12 := hp_12
        have G : wd X (va_A (@HAppend.hAppend va_W va_W va_W _ (xW h0 nw sp xa la lb) (@HAppend.hAppend va_W va_W va_W _ (rcV X nw an sv dv n0 n1 n2 n3 n4 g0 gs gn gm) (@HAppend.hAppend va_W va_W va_W _ (rnV (xa 8) ag dg) ([((xa 5), .inl (X.2.1, 3, .inl fr))])))) sz) (va_A (@HAppend.hAppend va_W va_W va_W _ (xW h0 nw sp xa la lb) (@HAppend.hAppend va_W va_W va_W _ (rcV X nw an sv dv n0 n1 n2 n3 n4 g0 gs gn gm) (@HAppend.hAppend va_W va_W va_W _ (rnV (xa 8) ag dg) ([((xa 5), .inl (X.2.1, 3, .inl fr))])))) sz) s (@HAppend.hAppend va_W va_W va_W _ (xW h0 nw sp xa la lb) (@HAppend.hAppend va_W va_W va_W _ (rcV X nw an sv dv n0 n1 n2 n3 n4 g0 gs gn gm) (@HAppend.hAppend va_W va_W va_W _ ([((xa 5), .inl (X.2.1, 3, .inl fr))]) (rnV (xa 8) a_11a d_12)))) H locs := G
        exact e_int S zr zlk (vp_nar_int _) G (a_11a, d_12, fr) [0, 1, 2, 3, 4, 5, 6, 7, 8, 9, 10, 11, 12, 13, 14, 15, 16, 18, 17] rfl rfl (Or.inr rfl) (trivial) dX10_where_63
      · refine k_it (v := 4) rfl ?_
        refine r_aald (C := RX8) (b := (an 5)) S G 2 3 rfl rfl (k_vp (by decide)) rfl dX10_where_37 ?_
        refine b_wv (cells' := 0) (slots' := 0) (wr := @HAppend.hAppend va_W va_W va_W _ (xW h0 nw sp xa la lb) (@HAppend.hAppend va_W va_W va_W _ ([(nw, .inr (3, [.int (dv 0), .int (dv 1), .int (nI n0), .ref (an 0), .ref (an 7), .ref (an 9), .ref (an 11), .ref (an 13)])), ((an 0), .inl (X.2.2.2.2, 6, .inr (.inr (.inr (.inr (rowQ an)))))), ((an 1), .inr (6, [.int (sv 0), .int (sv 1), .int (sv 2), .int (dv 10), .int (dv 11), .int (dv 12), .int (dv 13), .int (dv 14)])), ((an 2), .inr (6, [.int (sv 3), .int (sv 4), .int (sv 5), .int (dv 15), .int (dv 16), .int (dv 17), .int (dv 18), .int (dv 19)])), ((an 3), .inr (6, [.int (sv 6), .int (sv 7), .int (sv 8), .int (dv 20), .int (dv 21), .int (dv 22), .int (dv 23), .int (dv 24)])), ((an 4), .inr (6, [.int (sv 9), .int (sv 10), .int (sv 11), .int (dv 25), .int (dv 26), .int (dv 27), .int (dv 28), .int (dv 29)])), ((an 6), .inr (6, [.int (sv 15), .int (sv 16), .int (sv 17), .int (dv 35), .int (dv 36), .int (dv 37), .int (dv 38), .int (dv 39)])), ((an 7), .inr (2, [.ref (an 8), .int (nI n1)])), ((an 8), .inl (X.2.1, 248, .inl g0)), ((an 9), .inr (5, [.int 5, .int 0, .int 1, .ref (an 10), .int (nI n2)])), ((an 10), .inl (X.2.1, 25, .inl gs)), ((an 11), .inr (5, [.int 6, .int 1, .int 1, .ref (an 12), .int (nI n3)])), ((an 12), .inl (X.2.1, 30, .inl gn)), ((an 13), .inr (5, [.int 6, .int 0, .int 0, .ref (an 14), .int (nI n4)])), ((an 14), .inl (X.2.1, 30, .inl gm))]) ([((xa 5), .inl (X.2.1, 3, .inl fr))]))) G rfl rfl [17, 7] [0, 1, 2, 3, 4, 5, 6, 8, 9, 10, 11, 12, 13, 14, 15, 16, 18] rfl rfl rfl rfl (n_V (As := [.ref (an 5)]) (rest := []) (C := RX8) (T := TX8) (N := 8) (ci := 6) S G (s_rcopy l X (xa 8) ag dg (an 5) (fun k => sv (12 + k)) (fun k => dv (30 + k)) H.size) gX10_where_X8_copyFrom rfl rfl rfl hdV_X8_copyFrom ⟨Nat.le_of_ble_eq_true rfl, Nat.le_of_ble_eq_true rfl⟩ [17, 7] rfl rfl 17 rfl rfl rfl hl.1 (Nat.le_of_ble_eq_true rfl) dX10_where_38 ⟨Nat.le_of_ble_eq_true rfl, Nat.le_of_ble_eq_true rfl⟩) (fun u_13 H locs hp_13 G => ?_)
        obtain ⟨a_13a, d_13b⟩ := u_13
        have hq_13 := hp_13
        have G : wd X (va_A (@HAppend.hAppend va_W va_W va_W _ (xW h0 nw sp xa la lb) (@HAppend.hAppend va_W va_W va_W _ (rcV X nw an sv dv n0 n1 n2 n3 n4 g0 gs gn gm) (@HAppend.hAppend va_W va_W va_W _ (rnV (xa 8) ag dg) ([((xa 5), .inl (X.2.1, 3, .inl fr))])))) sz) (va_A (@HAppend.hAppend va_W va_W va_W _ (xW h0 nw sp xa la lb) (@HAppend.hAppend va_W va_W va_W _ (rcV X nw an sv dv n0 n1 n2 n3 n4 g0 gs gn gm) (@HAppend.hAppend va_W va_W va_W _ (rnV (xa 8) ag dg) ([((xa 5), .inl (X.2.1, 3, .inl fr))])))) sz) s (@HAppend.hAppend va_W va_W va_W _ (xW h0 nw sp xa la lb) (@HAppend.hAppend va_W va_W va_W _ (rcV X nw an sv dv n0 n1 n2 n3 n4 g0 gs gn gm) (@HAppend.hAppend va_W va_W va_W _ ([((xa 5), .inl (X.2.1, 3, .inl fr))]) (rnV (xa 8) a_13a d_13b)))) H locs := wd_sub G [0, 1, 2, 3, 4, 5, 6, 18, 7, 8, 9, 10, 11, 12, 13, 14, 15, 16, 17] rfl rfl
        refine lv_aload_n zx zb dX10_where_41 rfl (lv_at hl 0 rfl) ?_
        refine r_get (C := RX10) (T := TX10) (N := 14) (ci := 8) (v := .ref (xa 8)) S in_X10_where_X10 G 0 rfl rfl 8 (by decide) lk_X10_where_48 rfl dX10_where_42 ?_
        refine lv_aload_n zx zb dX10_where_45 rfl (lv_at hl 0 rfl) ?_
        refine r_get (C := RX10) (T := TX10) (N := 14) (ci := 8) (v := .ref nw) S in_X10_where_X10 G 0 rfl rfl 0 (by decide) lk_X10_where_10 rfl dX10_where_46 ?_
        refine r_get (C := RX5) (T := TX5) (N := 8) (ci := 3) (v := .int (dv 1)) S in_X10_where_X5 G 1 rfl rfl 1 (by decide) lk_X10_where_110 rfl dX10_where_49 ?_
        refine lv_aload_n zx zb dX10_where_52 rfl (lv_at hl 0 rfl) ?_
        refine r_get (C := RX10) (T := TX10) (N := 14) (ci := 8) (v := .ref nw) S in_X10_where_X10 G 0 rfl rfl 0 (by decide) lk_X10_where_10 rfl dX10_where_53 ?_
        refine r_get (C := RX5) (T := TX5) (N := 8) (ci := 3) (v := .int (dv 0)) S in_X10_where_X5 G 1 rfl rfl 0 (by decide) lk_X10_where_140 rfl dX10_where_56 ?_
        refine lv_iload_n zx zb dX10_where_59 rfl (lv_at hl 2 rfl) ?_
        refine b_wi (cells' := 0) (slots' := 0) (wr := @HAppend.hAppend va_W va_W va_W _ (xW h0 nw sp xa la lb) (@HAppend.hAppend va_W va_W va_W _ (rcV X nw an sv dv n0 n1 n2 n3 n4 g0 gs gn gm) ([((xa 5), .inl (X.2.1, 3, .inl fr))]))) G rfl rfl [18] [0, 1, 2, 3, 4, 5, 6, 7, 8, 9, 10, 11, 12, 13, 14, 15, 16, 17] rfl rfl rfl rfl (n_V (As := [.int (dv 1), .int (dv 0), .int x2]) (rest := []) (C := RX8) (T := TX8) (N := 8) (ci := 6) S G (s_placeBehind l X (xa 8) a_13a d_13b (dv 1) (dv 0) x2 (by first | decide | assumption | exact hw_3.2) H.size) gX10_where_X8_placeBehind rfl rfl rfl hdV_X8_placeBehind ⟨Nat.le_of_ble_eq_true rfl, Nat.le_of_ble_eq_true rfl⟩ [18] rfl rfl 18 rfl rfl rfl hl.1 (Nat.le_of_ble_eq_true rfl) dX10_where_60 ⟨Nat.le_of_ble_eq_true rfl, Nat.le_of_ble_eq_true rfl⟩) (fun r_14 u_14 H locs hp_14 G => ?_)
        obtain ⟨d_14, rfl⟩ : ∃ z, z = u_14 := ⟨_, rfl⟩
        have hq_14 := hp_14
        have G : wd X (va_A (@HAppend.hAppend va_W va_W va_W _ (xW h0 nw sp xa la lb) (@HAppend.hAppend va_W va_W va_W _ (rcV X nw an sv dv n0 n1 n2 n3 n4 g0 gs gn gm) (@HAppend.hAppend va_W va_W va_W _ (rnV (xa 8) ag dg) ([((xa 5), .inl (X.2.1, 3, .inl fr))])))) sz) (va_A (@HAppend.hAppend va_W va_W va_W _ (xW h0 nw sp xa la lb) (@HAppend.hAppend va_W va_W va_W _ (rcV X nw an sv dv n0 n1 n2 n3 n4 g0 gs gn gm) (@HAppend.hAppend va_W va_W va_W _ (rnV (xa 8) ag dg) ([((xa 5), .inl (X.2.1, 3, .inl fr))])))) sz) s (@HAppend.hAppend va_W va_W va_W _ (xW h0 nw sp xa la lb) (@HAppend.hAppend va_W va_W va_W _ (rcV X nw an sv dv n0 n1 n2 n3 n4 g0 gs gn gm) (@HAppend.hAppend va_W va_W va_W _ ([((xa 5), .inl (X.2.1, 3, .inl fr))]) (rnV (xa 8) a_13a d_14)))) H locs := G
        exact e_int S zr zlk (vp_nar_int _) G (a_13a, d_14, fr) [0, 1, 2, 3, 4, 5, 6, 7, 8, 9, 10, 11, 12, 13, 14, 15, 16, 18, 17] rfl rfl (Or.inr rfl) (trivial) dX10_where_63
      · refine k_it (v := 5) rfl ?_
        refine r_aald (C := RX8) (b := (an 6)) S G 2 3 rfl rfl (k_vp (by decide)) rfl dX10_where_37 ?_
        refine b_wv (cells' := 0) (slots' := 0) (wr := @HAppend.hAppend va_W va_W va_W _ (xW h0 nw sp xa la lb) (@HAppend.hAppend va_W va_W va_W _ ([(nw, .inr (3, [.int (dv 0), .int (dv 1), .int (nI n0), .ref (an 0), .ref (an 7), .ref (an 9), .ref (an 11), .ref (an 13)])), ((an 0), .inl (X.2.2.2.2, 6, .inr (.inr (.inr (.inr (rowQ an)))))), ((an 1), .inr (6, [.int (sv 0), .int (sv 1), .int (sv 2), .int (dv 10), .int (dv 11), .int (dv 12), .int (dv 13), .int (dv 14)])), ((an 2), .inr (6, [.int (sv 3), .int (sv 4), .int (sv 5), .int (dv 15), .int (dv 16), .int (dv 17), .int (dv 18), .int (dv 19)])), ((an 3), .inr (6, [.int (sv 6), .int (sv 7), .int (sv 8), .int (dv 20), .int (dv 21), .int (dv 22), .int (dv 23), .int (dv 24)])), ((an 4), .inr (6, [.int (sv 9), .int (sv 10), .int (sv 11), .int (dv 25), .int (dv 26), .int (dv 27), .int (dv 28), .int (dv 29)])), ((an 5), .inr (6, [.int (sv 12), .int (sv 13), .int (sv 14), .int (dv 30), .int (dv 31), .int (dv 32), .int (dv 33), .int (dv 34)])), ((an 7), .inr (2, [.ref (an 8), .int (nI n1)])), ((an 8), .inl (X.2.1, 248, .inl g0)), ((an 9), .inr (5, [.int 5, .int 0, .int 1, .ref (an 10), .int (nI n2)])), ((an 10), .inl (X.2.1, 25, .inl gs)), ((an 11), .inr (5, [.int 6, .int 1, .int 1, .ref (an 12), .int (nI n3)])), ((an 12), .inl (X.2.1, 30, .inl gn)), ((an 13), .inr (5, [.int 6, .int 0, .int 0, .ref (an 14), .int (nI n4)])), ((an 14), .inl (X.2.1, 30, .inl gm))]) ([((xa 5), .inl (X.2.1, 3, .inl fr))]))) G rfl rfl [17, 8] [0, 1, 2, 3, 4, 5, 6, 7, 9, 10, 11, 12, 13, 14, 15, 16, 18] rfl rfl rfl rfl (n_V (As := [.ref (an 6)]) (rest := []) (C := RX8) (T := TX8) (N := 8) (ci := 6) S G (s_rcopy l X (xa 8) ag dg (an 6) (fun k => sv (15 + k)) (fun k => dv (35 + k)) H.size) gX10_where_X8_copyFrom rfl rfl rfl hdV_X8_copyFrom ⟨Nat.le_of_ble_eq_true rfl, Nat.le_of_ble_eq_true rfl⟩ [17, 8] rfl rfl 17 rfl rfl rfl hl.1 (Nat.le_of_ble_eq_true rfl) dX10_where_38 ⟨Nat.le_of_ble_eq_true rfl, Nat.le_of_ble_eq_true rfl⟩) (fun u_15 H locs hp_15 G => ?_)
        obtain ⟨a_15a, d_15b⟩ := u_15
        have hq_15 := hp_15
        have G : wd X (va_A (@HAppend.hAppend va_W va_W va_W _ (xW h0 nw sp xa la lb) (@HAppend.hAppend va_W va_W va_W _ (rcV X nw an sv dv n0 n1 n2 n3 n4 g0 gs gn gm) (@HAppend.hAppend va_W va_W va_W _ (rnV (xa 8) ag dg) ([((xa 5), .inl (X.2.1, 3, .inl fr))])))) sz) (va_A (@HAppend.hAppend va_W va_W va_W _ (xW h0 nw sp xa la lb) (@HAppend.hAppend va_W va_W va_W _ (rcV X nw an sv dv n0 n1 n2 n3 n4 g0 gs gn gm) (@HAppend.hAppend va_W va_W va_W _ (rnV (xa 8) ag dg) ([((xa 5), .inl (X.2.1, 3, .inl fr))])))) sz) s (@HAppend.hAppend va_W va_W va_W _ (xW h0 nw sp xa la lb) (@HAppend.hAppend va_W va_W va_W _ (rcV X nw an sv dv n0 n1 n2 n3 n4 g0 gs gn gm) (@HAppend.hAppend va_W va_W va_W _ ([((xa 5), .inl (X.2.1, 3, .inl fr))]) (rnV (xa 8) a_15a d_15b)))) H locs := wd_sub G [0, 1, 2, 3, 4, 5, 6, 7, 18, 8, 9, 10, 11, 12, 13, 14, 15, 16, 17] rfl rfl
        refine lv_aload_n zx zb dX10_where_41 rfl (lv_at hl 0 rfl) ?_
        refine r_get (C := RX10) (T := TX10) (N := 14) (ci := 8) (v := .ref (xa 8)) S in_X10_where_X10 G 0 rfl rfl 8 (by decide) lk_X10_where_48 rfl dX10_where_42 ?_
        refine lv_aload_n zx zb dX10_where_45 rfl (lv_at hl 0 rfl) ?_
        refine r_get (C := RX10) (T := TX10) (N := 14) (ci := 8) (v := .ref nw) S in_X10_where_X10 G 0 rfl rfl 0 (by decide) lk_X10_where_10 rfl dX10_where_46 ?_
        refine r_get (C := RX5) (T := TX5) (N := 8) (ci := 3) (v := .int (dv 1)) S in_X10_where_X5 G 1 rfl rfl 1 (by decide) lk_X10_where_110 rfl dX10_where_49 ?_
        refine lv_aload_n zx zb dX10_where_52 rfl (lv_at hl 0 rfl) ?_
        refine r_get (C := RX10) (T := TX10) (N := 14) (ci := 8) (v := .ref nw) S in_X10_where_X10 G 0 rfl rfl 0 (by decide) lk_X10_where_10 rfl dX10_where_53 ?_
        refine r_get (C := RX5) (T := TX5) (N := 8) (ci := 3) (v := .int (dv 0)) S in_X10_where_X5 G 1 rfl rfl 0 (by decide) lk_X10_where_140 rfl dX10_where_56 ?_
        refine lv_iload_n zx zb dX10_where_59 rfl (lv_at hl 2 rfl) ?_
        refine b_wi (cells' := 0) (slots' := 0) (wr := @HAppend.hAppend va_W va_W va_W _ (xW h0 nw sp xa la lb) (@HAppend.hAppend va_W va_W va_W _ (rcV X nw an sv dv n0 n1 n2 n3 n4 g0 gs gn gm) ([((xa 5), .inl (X.2.1, 3, .inl fr))]))) G rfl rfl [18] [0, 1, 2, 3, 4, 5, 6, 7, 8, 9, 10, 11, 12, 13, 14, 15, 16, 17] rfl rfl rfl rfl (n_V (As := [.int (dv 1), .int (dv 0), .int x2]) (rest := []) (C := RX8) (T := TX8) (N := 8) (ci := 6) S G (s_placeBehind l X (xa 8) a_15a d_15b (dv 1) (dv 0) x2 (by first | decide | assumption | exact hw_3.2) H.size) gX10_where_X8_placeBehind rfl rfl rfl hdV_X8_placeBehind ⟨Nat.le_of_ble_eq_true rfl, Nat.le_of_ble_eq_true rfl⟩ [18] rfl rfl 18 rfl rfl rfl hl.1 (Nat.le_of_ble_eq_true rfl) dX10_where_60 ⟨Nat.le_of_ble_eq_true rfl, Nat.le_of_ble_eq_true rfl⟩) (fun r_16 u_16 H locs hp_16 G => ?_)
        obtain ⟨d_16, rfl⟩ : ∃ z, z = u_16 := ⟨_, rfl⟩
        have hq_16 := hp_16
        have G : wd X (va_A (@HAppend.hAppend va_W va_W va_W _ (xW h0 nw sp xa la lb) (@HAppend.hAppend va_W va_W va_W _ (rcV X nw an sv dv n0 n1 n2 n3 n4 g0 gs gn gm) (@HAppend.hAppend va_W va_W va_W _ (rnV (xa 8) ag dg) ([((xa 5), .inl (X.2.1, 3, .inl fr))])))) sz) (va_A (@HAppend.hAppend va_W va_W va_W _ (xW h0 nw sp xa la lb) (@HAppend.hAppend va_W va_W va_W _ (rcV X nw an sv dv n0 n1 n2 n3 n4 g0 gs gn gm) (@HAppend.hAppend va_W va_W va_W _ (rnV (xa 8) ag dg) ([((xa 5), .inl (X.2.1, 3, .inl fr))])))) sz) s (@HAppend.hAppend va_W va_W va_W _ (xW h0 nw sp xa la lb) (@HAppend.hAppend va_W va_W va_W _ (rcV X nw an sv dv n0 n1 n2 n3 n4 g0 gs gn gm) (@HAppend.hAppend va_W va_W va_W _ ([((xa 5), .inl (X.2.1, 3, .inl fr))]) (rnV (xa 8) a_15a d_16)))) H locs := G
        exact e_int S zr zlk (vp_nar_int _) G (a_15a, d_16, fr) [0, 1, 2, 3, 4, 5, 6, 7, 8, 9, 10, 11, 12, 13, 14, 15, 16, 18, 17] rfl rfl (Or.inr rfl) (trivial) dX10_where_63
    · refine lv_if_ne (tgt := 25) zx zb dX10_where_15 (by decide) (fun c_17 => absurd (by decide) c_17) (fun c_17 => ?_)
      refine lv_aload_n zx zb dX10_where_18 rfl (lv_at hl 0 rfl) ?_
      refine lv_bipush (v := (-2)) zx zb dX10_where_19 (by decide) ?_
      refine b_wi (cells' := 0) (slots' := 0) (wr := @HAppend.hAppend va_W va_W va_W _ (rcV X nw an sv dv n0 n1 n2 n3 n4 g0 gs gn gm) (rnV (xa 8) ag dg)) G rfl rfl [0, 18] [1, 2, 3, 4, 5, 6, 7, 8, 9, 10, 11, 12, 13, 14, 15, 16, 17] rfl rfl rfl rfl (n_V (As := [.int (-2)]) (rest := []) (C := RX10) (T := TX10) (N := 14) (ci := 8) S G (s_refuse l X h0 nw sp xa la lb fr (-2) H.size) gX10_where_X10_refuse rfl rfl rfl hdV_X10_refuse ⟨Nat.le_of_ble_eq_true rfl, Nat.le_of_ble_eq_true rfl⟩ [0, 18] rfl rfl 0 rfl rfl rfl hl.1 (Nat.le_of_ble_eq_true rfl) dX10_where_21 ⟨Nat.le_of_ble_eq_true rfl, Nat.le_of_ble_eq_true rfl⟩) (fun r_18 u_18 H locs hp_18 G => ?_)
      obtain ⟨f_18, rfl⟩ : ∃ z, z = u_18 := ⟨_, rfl⟩
      have hq_18 := hp_18
      have G : wd X (va_A (@HAppend.hAppend va_W va_W va_W _ (xW h0 nw sp xa la lb) (@HAppend.hAppend va_W va_W va_W _ (rcV X nw an sv dv n0 n1 n2 n3 n4 g0 gs gn gm) (@HAppend.hAppend va_W va_W va_W _ (rnV (xa 8) ag dg) ([((xa 5), .inl (X.2.1, 3, .inl fr))])))) sz) (va_A (@HAppend.hAppend va_W va_W va_W _ (xW h0 nw sp xa la lb) (@HAppend.hAppend va_W va_W va_W _ (rcV X nw an sv dv n0 n1 n2 n3 n4 g0 gs gn gm) (@HAppend.hAppend va_W va_W va_W _ (rnV (xa 8) ag dg) ([((xa 5), .inl (X.2.1, 3, .inl fr))])))) sz) s (@HAppend.hAppend va_W va_W va_W _ (rcV X nw an sv dv n0 n1 n2 n3 n4 g0 gs gn gm) (@HAppend.hAppend va_W va_W va_W _ (rnV (xa 8) ag dg) (@HAppend.hAppend va_W va_W va_W _ (xW h0 nw sp xa la lb) ([((xa 5), .inl (X.2.1, 3, .inl f_18))])))) H locs := G
      exact e_int S zr zlk (vp_nar_int _) G (ag, dg, f_18) [17, 0, 1, 2, 3, 4, 5, 6, 7, 8, 9, 10, 11, 12, 13, 14, 15, 16, 18] rfl rfl (Or.inr rfl) (trivial) dX10_where_24
  · refine lv_if_eq (tgt := 18) zx zb dX10_where_5 (by decide) (fun c_19 => ?_) (fun c_19 => absurd (by decide) c_19)
    refine lv_aload_n zx zb dX10_where_18 rfl (lv_at hl 0 rfl) ?_
    refine lv_bipush (v := (-2)) zx zb dX10_where_19 (by decide) ?_
    refine b_wi (cells' := 0) (slots' := 0) (wr := @HAppend.hAppend va_W va_W va_W _ (rcV X nw an sv dv n0 n1 n2 n3 n4 g0 gs gn gm) (rnV (xa 8) ag dg)) G rfl rfl [0, 18] [1, 2, 3, 4, 5, 6, 7, 8, 9, 10, 11, 12, 13, 14, 15, 16, 17] rfl rfl rfl rfl (n_V (As := [.int (-2)]) (rest := []) (C := RX10) (T := TX10) (N := 14) (ci := 8) S G (s_refuse l X h0 nw sp xa la lb fr (-2) H.size) gX10_where_X10_refuse rfl rfl rfl hdV_X10_refuse ⟨Nat.le_of_ble_eq_true rfl, Nat.le_of_ble_eq_true rfl⟩ [0, 18] rfl rfl 0 rfl rfl rfl hl.1 (Nat.le_of_ble_eq_true rfl) dX10_where_21 ⟨Nat.le_of_ble_eq_true rfl, Nat.le_of_ble_eq_true rfl⟩) (fun r_20 u_20 H locs hp_20 G => ?_)
    obtain ⟨f_20, rfl⟩ : ∃ z, z = u_20 := ⟨_, rfl⟩
    have hq_20 := hp_20
    have G : wd X (va_A (@HAppend.hAppend va_W va_W va_W _ (xW h0 nw sp xa la lb) (@HAppend.hAppend va_W va_W va_W _ (rcV X nw an sv dv n0 n1 n2 n3 n4 g0 gs gn gm) (@HAppend.hAppend va_W va_W va_W _ (rnV (xa 8) ag dg) ([((xa 5), .inl (X.2.1, 3, .inl fr))])))) sz) (va_A (@HAppend.hAppend va_W va_W va_W _ (xW h0 nw sp xa la lb) (@HAppend.hAppend va_W va_W va_W _ (rcV X nw an sv dv n0 n1 n2 n3 n4 g0 gs gn gm) (@HAppend.hAppend va_W va_W va_W _ (rnV (xa 8) ag dg) ([((xa 5), .inl (X.2.1, 3, .inl fr))])))) sz) s (@HAppend.hAppend va_W va_W va_W _ (rcV X nw an sv dv n0 n1 n2 n3 n4 g0 gs gn gm) (@HAppend.hAppend va_W va_W va_W _ (rnV (xa 8) ag dg) (@HAppend.hAppend va_W va_W va_W _ (xW h0 nw sp xa la lb) ([((xa 5), .inl (X.2.1, 3, .inl f_20))])))) H locs := G
    exact e_int S zr zlk (vp_nar_int _) G (ag, dg, f_20) [17, 0, 1, 2, 3, 4, 5, 6, 7, 8, 9, 10, 11, 12, 13, 14, 15, 16, 18] rfl rfl (Or.inr rfl) (trivial) dX10_where_24
theorem in_X10_homeBehind_X10 : ∀ w ∈ wsX100, w ∈ wsX10_homeBehind := by decide +kernel
theorem lk_X10_homeBehind_48 : Cond.fieldLink RX10 48 "EggSpoons" "ghost" "LEggSpoons$Runner;" ∈ wsX10_homeBehind := by decide +kernel
theorem lk_X10_homeBehind_10 : Cond.fieldLink RX10 10 "EggSpoons" "now" "LEggSpoons$Race;" ∈ wsX10_homeBehind := by decide +kernel
theorem in_X10_homeBehind_X5 : ∀ w ∈ wsX50, w ∈ wsX10_homeBehind := by decide +kernel
theorem lk_X10_homeBehind_126 : Cond.fieldLink RX10 126 "EggSpoons$Race" "row" "[LEggSpoons$Runner;" ∈ wsX10_homeBehind := by decide +kernel
theorem lk_X10_homeBehind_110 : Cond.fieldLink RX10 110 "EggSpoons$Race" "tick" "I" ∈ wsX10_homeBehind := by decide +kernel
theorem lk_X10_homeBehind_140 : Cond.fieldLink RX10 140 "EggSpoons$Race" "length" "I" ∈ wsX10_homeBehind := by decide +kernel
theorem hdV_X8_ticksToHome : yX8_ticksToHome.cls = RX8 ∧ yX8_ticksToHome.cls ≠ "java/lang/invoke/MethodHandle" ∧ yX8_ticksToHome.cls ≠ "java/lang/invoke/VarHandle" ∧ (parseMethodDescriptor yX8_ticksToHome.desc).map (fun d => d.parameters.length) = some 3 := by decide +kernel
set_option maxHeartbeats 4000000 in
set_option maxRecDepth 100000 in
/-- homeBehind -/
theorem s_homeBehind (l : Launch) (X : EX) (h0 : Nat) (nw : Nat) (sp : Nat) (xa : Nat → Nat) (la : Int64) (lb : Int64) (an : Nat → Nat) (sv : Nat → Int32) (dv : Nat → Int32) (n0 : Nat) (n1 : Nat) (n2 : Nat) (n3 : Nat) (n4 : Nat) (g0 : Nat → Int32) (gs : Nat → Int32) (gn : Nat → Int32) (gm : Nat → Int32) (ag : Nat → Int32) (dg : Nat → Int32) (i : Nat) (x3 : Int32) (hI_n0 : n0 ≤ 6) (hI_n1 : n1 ≤ 8) (hI_n2 : n2 ≤ 5) (hI_n3 : n3 ≤ 6) (hI_n4 : n4 ≤ 6) (hi6 : i < 6) (hl6 : x3 ≤ 60) (sz : Nat) : Met l yX10_homeBehind wsX10_homeBehind ({ frames := 3, cells := 0, slots := 0, locals := 73 } : Room) (pE X [.ref h0, .int (nI i), .int x3] (@HAppend.hAppend va_W va_W va_W _ (xW h0 nw sp xa la lb) (@HAppend.hAppend va_W va_W va_W _ (rcV X nw an sv dv n0 n1 n2 n3 n4 g0 gs gn gm) (rnV (xa 8) ag dg))) sz) (qI (fun (r : Int32) (u : (Nat → Int32) × (Nat → Int32)) => ((-1 : Int32) ≤ r ∧ r ≤ 60)) X (fun (u : (Nat → Int32) × (Nat → Int32)) => @HAppend.hAppend va_W va_W va_W _ (xW h0 nw sp xa la lb) (@HAppend.hAppend va_W va_W va_W _ (rcV X nw an sv dv n0 n1 n2 n3 n4 g0 gs gn gm) (rnV (xa 8) u.1 u.2))) (@HAppend.hAppend va_W va_W va_W _ (xW h0 nw sp xa la lb) (@HAppend.hAppend va_W va_W va_W _ (rcV X nw an sv dv n0 n1 n2 n3 n4 g0 gs gn gm) (rnV (xa 8) ag dg))) sz) 0 0 (va_A (@HAppend.hAppend va_W va_W va_W _ (xW h0 nw sp xa la lb) (@HAppend.hAppend va_W va_W va_W _ (rcV X nw an sv dv n0 n1 n2 n3 n4 g0 gs gn gm) (rnV (xa 8) ag dg))) sz) := by
  refine mk_met (B := (va_A (@HAppend.hAppend va_W va_W va_W _ (xW h0 nw sp xa la lb) (@HAppend.hAppend va_W va_W va_W _ (rcV X nw an sv dv n0 n1 n2 n3 n4 g0 gs gn gm) (rnV (xa 8) ag dg))) sz)) (A := (va_A (@HAppend.hAppend va_W va_W va_W _ (xW h0 nw sp xa la lb) (@HAppend.hAppend va_W va_W va_W _ (rcV X nw an sv dv n0 n1 n2 n3 n4 g0 gs gn gm) (rnV (xa 8) ag dg))) sz)) (cc := cX10_homeBehind) (maxL := 3) (ret := (some .int)) (by decide) rfl (Nat.le_of_ble_eq_true rfl) k_w k_a (fun p e s m below meth c S zr zlk znm zsz G ls hl => ?_)
  have S : CallFix p m c cX10_homeBehind 3 s _ wsX10_homeBehind RX10 := S
  have zx := S.1
  have zb := S.2.1
  have hl : lv_has ls 3 [(0, .ref h0), (1, .int (nI i)), (2, .int x3)] := hl
  refine lv_aload_n zx zb dX10_homeBehind_0 rfl (lv_at hl 0 rfl) ?_
  refine r_get (C := RX10) (T := TX10) (N := 14) (ci := 8) (v := .ref (xa 8)) S in_X10_homeBehind_X10 G 0 rfl rfl 8 (by decide) lk_X10_homeBehind_48 rfl dX10_homeBehind_1 ?_
  refine lv_aload_n zx zb dX10_homeBehind_4 rfl (lv_at hl 0 rfl) ?_
  refine r_get (C := RX10) (T := TX10) (N := 14) (ci := 8) (v := .ref nw) S in_X10_homeBehind_X10 G 0 rfl rfl 0 (by decide) lk_X10_homeBehind_10 rfl dX10_homeBehind_5 ?_
  refine r_get (C := RX5) (T := TX5) (N := 8) (ci := 3) (v := .ref (an 0)) S in_X10_homeBehind_X5 G 1 rfl rfl 3 (by decide) lk_X10_homeBehind_126 rfl dX10_homeBehind_8 ?_
  refine lv_iload_n zx zb dX10_homeBehind_11 rfl (lv_at hl 1 rfl) ?_
  rcases k_6c (show i < 6 by omega) with rfl | rfl | rfl | rfl | rfl | rfl
  · refine k_it (v := 0) rfl ?_
    refine r_aald (C := RX8) (b := (an 1)) S G 2 3 rfl rfl (k_vp (by decide)) rfl dX10_homeBehind_12 ?_
    refine b_wv (cells' := 0) (slots' := 0) (wr := @HAppend.hAppend va_W va_W va_W _ (xW h0 nw sp xa la lb) ([(nw, .inr (3, [.int (dv 0), .int (dv 1), .int (nI n0), .ref (an 0), .ref (an 7), .ref (an 9), .ref (an 11), .ref (an 13)])), ((an 0), .inl (X.2.2.2.2, 6, .inr (.inr (.inr (.inr (rowQ an)))))), ((an 2), .inr (6, [.int (sv 3), .int (sv 4), .int (sv 5), .int (dv 15), .int (dv 16), .int (dv 17), .int (dv 18), .int (dv 19)])), ((an 3), .inr (6, [.int (sv 6), .int (sv 7), .int (sv 8), .int (dv 20), .int (dv 21), .int (dv 22), .int (dv 23), .int (dv 24)])), ((an 4), .inr (6, [.int (sv 9), .int (sv 10), .int (sv 11), .int (dv 25), .int (dv 26), .int (dv 27), .int (dv 28), .int (dv 29)])), ((an 5), .inr (6, [.int (sv 12), .int (sv 13), .int (sv 14), .int (dv 30), .int (dv 31), .int (dv 32), .int (dv 33), .int (dv 34)])), ((an 6), .inr (6, [.int (sv 15), .int (sv 16), .int (sv 17), .int (dv 35), .int (dv 36), .int (dv 37), .int (dv 38), .int (dv 39)])), ((an 7), .inr (2, [.ref (an 8), .int (nI n1)])), ((an 8), .inl (X.2.1, 248, .inl g0)), ((an 9), .inr (5, [.int 5, .int 0, .int 1, .ref (an 10), .int (nI n2)])), ((an 10), .inl (X.2.1, 25, .inl gs)), ((an 11), .inr (5, [.int 6, .int 1, .int 1, .ref (an 12), .int (nI n3)])), ((an 12), .inl (X.2.1, 30, .inl gn)), ((an 13), .inr (5, [.int 6, .int 0, .int 0, .ref (an 14), .int (nI n4)])), ((an 14), .inl (X.2.1, 30, .inl gm))])) G rfl rfl [17, 3] [0, 1, 2, 4, 5, 6, 7, 8, 9, 10, 11, 12, 13, 14, 15, 16] rfl rfl rfl rfl (n_V (As := [.ref (an 1)]) (rest := []) (C := RX8) (T := TX8) (N := 8) (ci := 6) S G (s_rcopy l X (xa 8) ag dg (an 1) (fun k => sv (0 + k)) (fun k => dv (10 + k)) s.heap.size) gX10_homeBehind_X8_copyFrom rfl rfl rfl hdV_X8_copyFrom ⟨Nat.le_of_ble_eq_true rfl, Nat.le_of_ble_eq_true rfl⟩ [17, 3] rfl rfl 17 rfl rfl rfl hl.1 (Nat.le_of_ble_eq_true rfl) dX10_homeBehind_13 ⟨Nat.le_of_ble_eq_true rfl, Nat.le_of_ble_eq_true rfl⟩) (fun u_1 H locs hp_1 G => ?_)
    obtain ⟨a_1a, d_1b⟩ := u_1
    have hq_1 := hp_1
    have G : wd X (va_A (@HAppend.hAppend va_W va_W va_W _ (xW h0 nw sp xa la lb) (@HAppend.hAppend va_W va_W va_W _ (rcV X nw an sv dv n0 n1 n2 n3 n4 g0 gs gn gm) (rnV (xa 8) ag dg))) sz) (va_A (@HAppend.hAppend va_W va_W va_W _ (xW h0 nw sp xa la lb) (@HAppend.hAppend va_W va_W va_W _ (rcV X nw an sv dv n0 n1 n2 n3 n4 g0 gs gn gm) (rnV (xa 8) ag dg))) sz) s (@HAppend.hAppend va_W va_W va_W _ (xW h0 nw sp xa la lb) (@HAppend.hAppend va_W va_W va_W _ (rcV X nw an sv dv n0 n1 n2 n3 n4 g0 gs gn gm) (rnV (xa 8) a_1a d_1b))) H locs := wd_sub G [0, 1, 2, 17, 3, 4, 5, 6, 7, 8, 9, 10, 11, 12, 13, 14, 15, 16] rfl rfl
    refine lv_aload_n zx zb dX10_homeBehind_16 rfl (lv_at hl 0 rfl) ?_
    refine r_get (C := RX10) (T := TX10) (N := 14) (ci := 8) (v := .ref (xa 8)) S in_X10_homeBehind_X10 G 0 rfl rfl 8 (by decide) lk_X10_homeBehind_48 rfl dX10_homeBehind_17 ?_
    refine lv_aload_n zx zb dX10_homeBehind_20 rfl (lv_at hl 0 rfl) ?_
    refine r_get (C := RX10) (T := TX10) (N := 14) (ci := 8) (v := .ref nw) S in_X10_homeBehind_X10 G 0 rfl rfl 0 (by decide) lk_X10_homeBehind_10 rfl dX10_homeBehind_21 ?_
    refine r_get (C := RX5) (T := TX5) (N := 8) (ci := 3) (v := .int (dv 1)) S in_X10_homeBehind_X5 G 1 rfl rfl 1 (by decide) lk_X10_homeBehind_110 rfl dX10_homeBehind_24 ?_
    refine lv_aload_n zx zb dX10_homeBehind_27 rfl (lv_at hl 0 rfl) ?_
    refine r_get (C := RX10) (T := TX10) (N := 14) (ci := 8) (v := .ref nw) S in_X10_homeBehind_X10 G 0 rfl rfl 0 (by decide) lk_X10_homeBehind_10 rfl dX10_homeBehind_28 ?_
    refine r_get (C := RX5) (T := TX5) (N := 8) (ci := 3) (v := .int (dv 0)) S in_X10_homeBehind_X5 G 1 rfl rfl 0 (by decide) lk_X10_homeBehind_140 rfl dX10_homeBehind_31 ?_
    refine lv_iload_n zx zb dX10_homeBehind_34 rfl (lv_at hl 2 rfl) ?_
    refine b_wi (cells' := 0) (slots' := 0) (wr := @HAppend.hAppend va_W va_W va_W _ (xW h0 nw sp xa la lb) (rcV X nw an sv dv n0 n1 n2 n3 n4 g0 gs gn gm)) G rfl rfl [17] [0, 1, 2, 3, 4, 5, 6, 7, 8, 9, 10, 11, 12, 13, 14, 15, 16] rfl rfl rfl rfl (n_V (As := [.int (dv 1), .int (dv 0), .int x3]) (rest := []) (C := RX8) (T := TX8) (N := 8) (ci := 6) S G (s_ticksToHome l X (xa 8) a_1a d_1b (dv 1) (dv 0) x3 (by first | decide | assumption | exact trivial) H.size) gX10_homeBehind_X8_ticksToHome rfl rfl rfl hdV_X8_ticksToHome ⟨Nat.le_of_ble_eq_true rfl, Nat.le_of_ble_eq_true rfl⟩ [17] rfl rfl 17 rfl rfl rfl hl.1 (Nat.le_of_ble_eq_true rfl) dX10_homeBehind_35 ⟨Nat.le_of_ble_eq_true rfl, Nat.le_of_ble_eq_true rfl⟩) (fun r_2 u_2 H locs hp_2 G => ?_)
    obtain ⟨d_2, rfl⟩ : ∃ z, z = u_2 := ⟨_, rfl⟩
    have hq_2 := hp_2
    obtain ⟨hq_2, hs_2⟩ := hq_2
    have G : wd X (va_A (@HAppend.hAppend va_W va_W va_W _ (xW h0 nw sp xa la lb) (@HAppend.hAppend va_W va_W va_W _ (rcV X nw an sv dv n0 n1 n2 n3 n4 g0 gs gn gm) (rnV (xa 8) ag dg))) sz) (va_A (@HAppend.hAppend va_W va_W va_W _ (xW h0 nw sp xa la lb) (@HAppend.hAppend va_W va_W va_W _ (rcV X nw an sv dv n0 n1 n2 n3 n4 g0 gs gn gm) (rnV (xa 8) ag dg))) sz) s (@HAppend.hAppend va_W va_W va_W _ (xW h0 nw sp xa la lb) (@HAppend.hAppend va_W va_W va_W _ (rcV X nw an sv dv n0 n1 n2 n3 n4 g0 gs gn gm) (rnV (xa 8) a_1a d_2))) H locs := G
    exact e_int S zr zlk (vp_nar_int _) G (a_1a, d_2) [0, 1, 2, 3, 4, 5, 6, 7, 8, 9, 10, 11, 12, 13, 14, 15, 16, 17] rfl rfl (Or.inr rfl) (hq_2) dX10_homeBehind_38
  · refine k_it (v := 1) rfl ?_
    refine r_aald (C := RX8) (b := (an 2)) S G 2 3 rfl rfl (k_vp (by decide)) rfl dX10_homeBehind_12 ?_
    refine b_wv (cells' := 0) (slots' := 0) (wr := @HAppend.hAppend va_W va_W va_W _ (xW h0 nw sp xa la lb) ([(nw, .inr (3, [.int (dv 0), .int (dv 1), .int (nI n0), .ref (an 0), .ref (an 7), .ref (an 9), .ref (an 11), .ref (an 13)])), ((an 0), .inl (X.2.2.2.2, 6, .inr (.inr (.inr (.inr (rowQ an)))))), ((an 1), .inr (6, [.int (sv 0), .int (sv 1), .int (sv 2), .int (dv 10), .int (dv 11), .int (dv 12), .int (dv 13), .int (dv 14)])), ((an 3), .inr (6, [.int (sv 6), .int (sv 7), .int (sv 8), .int (dv 20), .int (dv 21), .int (dv 22), .int (dv 23), .int (dv 24)])), ((an 4), .inr (6, [.int (sv 9), .int (sv 10), .int (sv 11), .int (dv 25), .int (dv 26), .int (dv 27), .int (dv 28), .int (dv 29)])), ((an 5), .inr (6, [.int (sv 12), .int (sv 13), .int (sv 14), .int (dv 30), .int (dv 31), .int (dv 32), .int (dv 33), .int (dv 34)])), ((an 6), .inr (6, [.int (sv 15), .int (sv 16), .int (sv 17), .int (dv 35), .int (dv 36), .int (dv 37), .int (dv 38), .int (dv 39)])), ((an 7), .inr (2, [.ref (an 8), .int (nI n1)])), ((an 8), .inl (X.2.1, 248, .inl g0)), ((an 9), .inr (5, [.int 5, .int 0, .int 1, .ref (an 10), .int (nI n2)])), ((an 10), .inl (X.2.1, 25, .inl gs)), ((an 11), .inr (5, [.int 6, .int 1, .int 1, .ref (an 12), .int (nI n3)])), ((an 12), .inl (X.2.1, 30, .inl gn)), ((an 13), .inr (5, [.int 6, .int 0, .int 0, .ref (an 14), .int (nI n4)])), ((an 14), .inl (X.2.1, 30, .inl gm))])) G rfl rfl [17, 4] [0, 1, 2, 3, 5, 6, 7, 8, 9, 10, 11, 12, 13, 14, 15, 16] rfl rfl rfl rfl (n_V (As := [.ref (an 2)]) (rest := []) (C := RX8) (T := TX8) (N := 8) (ci := 6) S G (s_rcopy l X (xa 8) ag dg (an 2) (fun k => sv (3 + k)) (fun k => dv (15 + k)) s.heap.size) gX10_homeBehind_X8_copyFrom rfl rfl rfl hdV_X8_copyFrom ⟨Nat.le_of_ble_eq_true rfl, Nat.le_of_ble_eq_true rfl⟩ [17, 4] rfl rfl 17 rfl rfl rfl hl.1 (Nat.le_of_ble_eq_true rfl) dX10_homeBehind_13 ⟨Nat.le_of_ble_eq_true rfl, Nat.le_of_ble_eq_true rfl⟩) (fun u_3 H locs hp_3 G => ?_)
    obtain ⟨a_3a, d_3b⟩ := u_3
    have hq_3 := hp_3
    have G : wd X (va_A (@HAppend.hAppend va_W va_W va_W _ (xW h0 nw sp xa la lb) (@HAppend.hAppend va_W va_W va_W _ (rcV X nw an sv dv n0 n1 n2 n3 n4 g0 gs gn gm) (rnV (xa 8) ag dg))) sz) (va_A (@HAppend.hAppend va_W va_W va_W _ (xW h0 nw sp xa la lb) (@HAppend.hAppend va_W va_W va_W _ (rcV X nw an sv dv n0 n1 n2 n3 n4 g0 gs gn gm) (rnV (xa 8) ag dg))) sz) s (@HAppend.hAppend va_W va_W va_W _ (xW h0 nw sp xa la lb) (@HAppend.hAppend va_W va_W va_W _ (rcV X nw an sv dv n0 n1 n2 n3 n4 g0 gs gn gm) (rnV (xa 8) a_3a d_3b))) H locs := wd_sub G [0, 1, 2, 3, 17, 4, 5, 6, 7, 8, 9, 10, 11, 12, 13, 14, 15, 16] rfl rfl
    refine lv_aload_n zx zb dX10_homeBehind_16 rfl (lv_at hl 0 rfl) ?_
    refine r_get (C := RX10) (T := TX10) (N := 14) (ci := 8) (v := .ref (xa 8)) S in_X10_homeBehind_X10 G 0 rfl rfl 8 (by decide) lk_X10_homeBehind_48 rfl dX10_homeBehind_17 ?_
    refine lv_aload_n zx zb dX10_homeBehind_20 rfl (lv_at hl 0 rfl) ?_
    refine r_get (C := RX10) (T := TX10) (N := 14) (ci := 8) (v := .ref nw) S in_X10_homeBehind_X10 G 0 rfl rfl 0 (by decide) lk_X10_homeBehind_10 rfl dX10_homeBehind_21 ?_
    refine r_get (C := RX5) (T := TX5) (N := 8) (ci := 3) (v := .int (dv 1)) S in_X10_homeBehind_X5 G 1 rfl rfl 1 (by decide) lk_X10_homeBehind_110 rfl dX10_homeBehind_24 ?_
    refine lv_aload_n zx zb dX10_homeBehind_27 rfl (lv_at hl 0 rfl) ?_
    refine r_get (C := RX10) (T := TX10) (N := 14) (ci := 8) (v := .ref nw) S in_X10_homeBehind_X10 G 0 rfl rfl 0 (by decide) lk_X10_homeBehind_10 rfl dX10_homeBehind_28 ?_
    refine r_get (C := RX5) (T := TX5) (N := 8) (ci := 3) (v := .int (dv 0)) S in_X10_homeBehind_X5 G 1 rfl rfl 0 (by decide) lk_X10_homeBehind_140 rfl dX10_homeBehind_31 ?_
    refine lv_iload_n zx zb dX10_homeBehind_34 rfl (lv_at hl 2 rfl) ?_
    refine b_wi (cells' := 0) (slots' := 0) (wr := @HAppend.hAppend va_W va_W va_W _ (xW h0 nw sp xa la lb) (rcV X nw an sv dv n0 n1 n2 n3 n4 g0 gs gn gm)) G rfl rfl [17] [0, 1, 2, 3, 4, 5, 6, 7, 8, 9, 10, 11, 12, 13, 14, 15, 16] rfl rfl rfl rfl (n_V (As := [.int (dv 1), .int (dv 0), .int x3]) (rest := []) (C := RX8) (T := TX8) (N := 8) (ci := 6) S G (s_ticksToHome l X (xa 8) a_3a d_3b (dv 1) (dv 0) x3 (by first | decide | assumption | exact trivial) H.size) gX10_homeBehind_X8_ticksToHome rfl rfl rfl hdV_X8_ticksToHome ⟨Nat.le_of_ble_eq_true rfl, Nat.le_of_ble_eq_true rfl⟩ [17] rfl rfl 17 rfl rfl rfl hl.1 (Nat.le_of_ble_eq_true rfl) dX10_homeBehind_35 ⟨Nat.le_of_ble_eq_true rfl, Nat.le_of_ble_eq_true rfl⟩) (fun r_4 u_4 H locs hp_4 G => ?_)
    obtain ⟨d_4, rfl⟩ : ∃ z, z = u_4 := ⟨_, rfl⟩
    have hq_4 := hp_4
    obtain ⟨hq_4, hs_4⟩ := hq_4
    have G : wd X (va_A (@HAppend.hAppend va_W va_W va_W _ (xW h0 nw sp xa la lb) (@HAppend.hAppend va_W va_W va_W _ (rcV X nw an sv dv n0 n1 n2 n3 n4 g0 gs gn gm) (rnV (xa 8) ag dg))) sz) (va_A (@HAppend.hAppend va_W va_W va_W _ (xW h0 nw sp xa la lb) (@HAppend.hAppend va_W va_W va_W _ (rcV X nw an sv dv n0 n1 n2 n3 n4 g0 gs gn gm) (rnV (xa 8) ag dg))) sz) s (@HAppend.hAppend va_W va_W va_W _ (xW h0 nw sp xa la lb) (@HAppend.hAppend va_W va_W va_W _ (rcV X nw an sv dv n0 n1 n2 n3 n4 g0 gs gn gm) (rnV (xa 8) a_3a d_4))) H locs := G
    exact e_int S zr zlk (vp_nar_int _) G (a_3a, d_4) [0, 1, 2, 3, 4, 5, 6, 7, 8, 9, 10, 11, 12, 13, 14, 15, 16, 17] rfl rfl (Or.inr rfl) (hq_4) dX10_homeBehind_38
  · refine k_it (v := 2) rfl ?_
    refine r_aald (C := RX8) (b := (an 3)) S G 2 3 rfl rfl (k_vp (by decide)) rfl dX10_homeBehind_12 ?_
    refine b_wv (cells' := 0) (slots' := 0) (wr := @HAppend.hAppend va_W va_W va_W _ (xW h0 nw sp xa la lb) ([(nw, .inr (3, [.int (dv 0), .int (dv 1), .int (nI n0), .ref (an 0), .ref (an 7), .ref (an 9), .ref (an 11), .ref (an 13)])), ((an 0), .inl (X.2.2.2.2, 6, .inr (.inr (.inr (.inr (rowQ an)))))), ((an 1), .inr (6, [.int (sv 0), .int (sv 1), .int (sv 2), .int (dv 10), .int (dv 11), .int (dv 12), .int (dv 13), .int (dv 14)])), ((an 2), .inr (6, [.int (sv 3), .int (sv 4), .int (sv 5), .int (dv 15), .int (dv 16), .int (dv 17), .int (dv 18), .int (dv 19)])), ((an 4), .inr (6, [.int (sv 9), .int (sv 10), .int (sv 11), .int (dv 25), .int (dv 26), .int (dv 27), .int (dv 28), .int (dv 29)])), ((an 5), .inr (6, [.int (sv 12), .int (sv 13), .int (sv 14), .int (dv 30), .int (dv 31), .int (dv 32), .int (dv 33), .int (dv 34)])), ((an 6), .inr (6, [.int (sv 15), .int (sv 16), .int (sv 17), .int (dv 35), .int (dv 36), .int (dv 37), .int (dv 38), .int (dv 39)])), ((an 7), .inr (2, [.ref (an 8), .int (nI n1)])), ((an 8), .inl (X.2.1, 248, .inl g0)), ((an 9), .inr (5, [.int 5, .int 0, .int 1, .ref (an 10), .int (nI n2)])), ((an 10), .inl (X.2.1, 25, .inl gs)), ((an 11), .inr (5, [.int 6, .int 1, .int 1, .ref (an 12), .int (nI n3)])), ((an 12), .inl (X.2.1, 30, .inl gn)), ((an 13), .inr (5, [.int 6, .int 0, .int 0, .ref (an 14), .int (nI n4)])), ((an 14), .inl (X.2.1, 30, .inl gm))])) G rfl rfl [17, 5] [0, 1, 2, 3, 4, 6, 7, 8, 9, 10, 11, 12, 13, 14, 15, 16] rfl rfl rfl rfl (n_V (As := [.ref (an 3)]) (rest := []) (C := RX8) (T := TX8) (N := 8) (ci := 6) S G (s_rcopy l X (xa 8) ag dg (an 3) (fun k => sv (6 + k)) (fun k => dv (20 + k)) s.heap.size) gX10_homeBehind_X8_copyFrom rfl rfl rfl hdV_X8_copyFrom ⟨Nat.le_of_ble_eq_true rfl, Nat.le_of_ble_eq_true rfl⟩ [17, 5] rfl rfl 17 rfl rfl rfl hl.1 (Nat.le_of_ble_eq_true rfl) dX10_homeBehind_13 ⟨Nat.le_of_ble_eq_true rfl, Nat.le_of_ble_eq_true rfl⟩) (fun u_5 H locs hp_5 G => ?_)
    obtain ⟨a_5a, d_5b⟩ := u_5
    have hq_5 := hp_5
    have G : wd X (va_A (@HAppend.hAppend va_W va_W va_W _ (xW h0 nw sp xa la lb) (@HAppend.hAppend va_W va_W va_W _ (rcV X nw an sv dv n0 n1 n2 n3 n4 g0 gs gn gm) (rnV (xa 8) ag dg))) sz) (va_A (@HAppend.hAppend va_W va_W va_W _ (xW h0 nw sp xa la lb) (@HAppend.hAppend va_W va_W va_W _ (rcV X nw an sv dv n0 n1 n2 n3 n4 g0 gs gn gm) (rnV (xa 8) ag dg))) sz) s (@HAppend.hAppend va_W va_W va_W _ (xW h0 nw sp xa la lb) (@HAppend.hAppend va_W va_W va_W _ (rcV X nw an sv dv n0 n1 n2 n3 n4 g0 gs gn gm) (rnV (xa 8) a_5a d_5b))) H locs := wd_sub G [0, 1, 2, 3, 4, 17, 5, 6, 7, 8, 9, 10, 11, 12, 13, 14, 15, 16] rfl rfl
    refine lv_aload_n zx zb dX10_homeBehind_16 rfl (lv_at hl 0 rfl) ?_
    refine r_get (C := RX10) (T := TX10) (N := 14) (ci := 8) (v := .ref (xa 8)) S in_X10_homeBehind_X10 G 0 rfl rfl 8 (by decide) lk_X10_homeBehind_48 rfl dX10_homeBehind_17 ?_
    refine lv_aload_n zx zb dX10_homeBehind_20 rfl (lv_at hl 0 rfl) ?_
    refine r_get (C := RX10) (T := TX10) (N := 14) (ci := 8) (v := .ref nw) S in_X10_homeBehind_X10 G 0 rfl rfl 0 (by decide) lk_X10_homeBehind_10 rfl dX10_homeBehind_21 ?_
    refine r_get (C := RX5) (T := TX5) (N := 8) (ci := 3) (v := .int (dv 1)) S in_X10_homeBehind_X5 G 1 rfl rfl 1 (by decide) lk_X10_homeBehind_110 rfl dX10_homeBehind_24 ?_
    refine lv_aload_n zx zb dX10_homeBehind_27 rfl (lv_at hl 0 rfl) ?_
    refine r_get (C := RX10) (T := TX10) (N := 14) (ci := 8) (v := .ref nw) S in_X10_homeBehind_X10 G 0 rfl rfl 0 (by decide) lk_X10_homeBehind_10 rfl dX10_homeBehind_28 ?_
    refine r_get (C := RX5) (T := TX5) (N := 8) (ci := 3) (v := .int (dv 0)) S in_X10_homeBehind_X5 G 1 rfl rfl 0 (by decide) lk_X10_homeBehind_140 rfl dX10_homeBehind_31 ?_
    refine lv_iload_n zx zb dX10_homeBehind_34 rfl (lv_at hl 2 rfl) ?_
    refine b_wi (cells' := 0) (slots' := 0) (wr := @HAppend.hAppend va_W va_W va_W _ (xW h0 nw sp xa la lb) (rcV X nw an sv dv n0 n1 n2 n3 n4 g0 gs gn gm)) G rfl rfl [17] [0, 1, 2, 3, 4, 5, 6, 7, 8, 9, 10, 11, 12, 13, 14, 15, 16] rfl rfl rfl rfl (n_V (As := [.int (dv 1), .int (dv 0), .int x3]) (rest := []) (C := RX8) (T := TX8) (N := 8) (ci := 6) S G (s_ticksToHome l X (xa 8) a_5a d_5b (dv 1) (dv 0) x3 (by first | decide | assumption | exact trivial) H.size) gX10_homeBehind_X8_ticksToHome rfl rfl rfl hdV_X8_ticksToHome ⟨Nat.le_of_ble_eq_true rfl, Nat.le_of_ble_eq_true rfl⟩ [17] rfl rfl 17 rfl rfl rfl hl.1 (Nat.le_of_ble_eq_true rfl) dX10_homeBehind_35 ⟨Nat.le_of_ble_eq_true rfl, Nat.le_of_ble_eq_true rfl⟩) (fun r_6 u_6 H locs hp_6 G => ?_)
    obtain ⟨d_6, rfl⟩ : ∃ z, z = u_6 := ⟨_, rfl⟩
    have hq_6 := hp_6
    obtain ⟨hq_6, hs_6⟩ := hq_6
    have G : wd X (va_A (@HAppend.hAppend va_W va_W va_W _ (xW h0 nw sp xa la lb) (@HAppend.hAppend va_W va_W va_W _ (rcV X nw an sv dv n0 n1 n2 n3 n4 g0 gs gn gm) (rnV (xa 8) ag dg))) sz) (va_A (@HAppend.hAppend va_W va_W va_W _ (xW h0 nw sp xa la lb) (@HAppend.hAppend va_W va_W va_W _ (rcV X nw an sv dv n0 n1 n2 n3 n4 g0 gs gn gm) (rnV (xa 8) ag dg))) sz) s (@HAppend.hAppend va_W va_W va_W _ (xW h0 nw sp xa la lb) (@HAppend.hAppend va_W va_W va_W _ (rcV X nw an sv dv n0 n1 n2 n3 n4 g0 gs gn gm) (rnV (xa 8) a_5a d_6))) H locs := G
    exact e_int S zr zlk (vp_nar_int _) G (a_5a, d_6) [0, 1, 2, 3, 4, 5, 6, 7, 8, 9, 10, 11, 12, 13, 14, 15, 16, 17] rfl rfl (Or.inr rfl) (hq_6) dX10_homeBehind_38
  · refine k_it (v := 3) rfl ?_
    refine r_aald (C := RX8) (b := (an 4)) S G 2 3 rfl rfl (k_vp (by decide)) rfl dX10_homeBehind_12 ?_
    refine b_wv (cells' := 0) (slots' := 0) (wr := @HAppend.hAppend va_W va_W va_W _ (xW h0 nw sp xa la lb) ([(nw, .inr (3, [.int (dv 0), .int (dv 1), .int (nI n0), .ref (an 0), .ref (an 7), .ref (an 9), .ref (an 11), .ref (an 13)])), ((an 0), .inl (X.2.2.2.2, 6, .inr (.inr (.inr (.inr (rowQ an)))))), ((an 1), .inr (6, [.int (sv 0), .int (sv 1), .int (sv 2), .int (dv 10), .int (dv 11), .int (dv 12), .int (dv 13), .int (dv 14)])), ((an 2), .inr (6, [.int (sv 3), .int (sv 4), .int (sv 5), .int (dv 15), .int (dv 16), .int (dv 17), .int (dv 18), .int (dv 19)])), ((an 3), .inr (6, [.int (sv 6), .int (sv 7), .int (sv 8), .int (dv 20), .int (dv 21), .int (dv 22), .int (dv 23), .int (dv 24)])), ((an 5), .inr (6, [.int (sv 12), .int (sv 13), .int (sv 14), .int (dv 30), .int (dv 31), .int (dv 32), .int (dv 33), .int (dv 34)])), ((an 6), .inr (6, [.int (sv 15), .int (sv 16), .int (sv 17), .int (dv 35), .int (dv 36), .int (dv 37), .int (dv 38), .int (dv 39)])), ((an 7), .inr (2, [.ref (an 8), .int (nI n1)])), ((an 8), .inl (X.2.1, 248, .inl g0)), ((an 9), .inr (5, [.int 5, .int 0, .int 1, .ref (an 10), .int (nI n2)])), ((an 10), .inl (X.2.1, 25, .inl gs)), ((an 11), .inr (5, [.int 6, .int 1, .int 1, .ref (an 12), .int (nI n3)])), ((an 12), .inl (X.2.1, 30, .inl gn)), ((an 13), .inr (5, [.int 6, .int 0, .int 0, .ref (an 14), .int (nI n4)])), ((an 14), .inl (X.2.1, 30, .inl gm))])) G rfl rfl [17, 6] [0, 1, 2, 3, 4, 5, 7, 8, 9, 10, 11, 12, 13, 14, 15, 16] rfl rfl rfl rfl (n_V (As := [.ref (an 4)]) (rest := []) (C := RX8) (T := TX8) (N := 8) (ci := 6) S G (s_rcopy l X (xa 8) ag dg (an 4) (fun k => sv (9 + k)) (fun k => dv (25 + k)) s.heap.size) gX10_homeBehind_X8_copyFrom rfl rfl rfl hdV_X8_copyFrom ⟨Nat.le_of_ble_eq_true rfl, Nat.le_of_ble_eq_true rfl⟩ [17, 6] rfl rfl 17 rfl rfl rfl hl.1 (Nat.le_of_ble_eq_true rfl) dX10_homeBehind_13 ⟨Nat.le_of_ble_eq_true rfl, Nat.le_of_ble_eq_true rfl⟩) (fun u_7 H locs hp_7 G => ?_)
    obtain ⟨a_7a, d_7b⟩ := u_7
    have hq_7 := hp_7
    have G : wd X (va_A (@HAppend.hAppend va_W va_W va_W _ (xW h0 nw sp xa la lb) (@HAppend.hAppend va_W va_W va_W _ (rcV X nw an sv dv n0 n1 n2 n3 n4 g0 gs gn gm) (rnV (xa 8) ag dg))) sz) (va_A (@HAppend.hAppend va_W va_W va_W _ (xW h0 nw sp xa la lb) (@HAppend.hAppend va_W va_W va_W _ (rcV X nw an sv dv n0 n1 n2 n3 n4 g0 gs gn gm) (rnV (xa 8) ag dg))) sz) s (@HAppend.hAppend va_W va_W va_W _ (xW h0 nw sp xa la lb) (@HAppend.hAppend va_W va_W va_W _ (rcV X nw an sv dv n0 n1 n2 n3 n4 g0 gs gn gm) (rnV (xa 8) a_7a d_7b))) H locs := wd_sub G [0, 1, 2, 3, 4, 5, 17, 6, 7, 8, 9, 10, 11, 12, 13, 14, 15, 16] rfl rfl
    refine lv_aload_n zx zb dX10_homeBehind_16 rfl (lv_at hl 0 rfl) ?_
    refine r_get (C := RX10) (T := TX10) (N := 14) (ci := 8) (v := .ref (xa 8)) S in_X10_homeBehind_X10 G 0 rfl rfl 8 (by decide) lk_X10_homeBehind_48 rfl dX10_homeBehind_17 ?_
    refine lv_aload_n zx zb dX10_homeBehind_20 rfl (lv_at hl 0 rfl) ?_
    refine r_get (C := RX10) (T := TX10) (N := 14) (ci := 8) (v := .ref nw) S in_X10_homeBehind_X10 G 0 rfl rfl 0 (by decide) lk_X10_homeBehind_10 rfl dX10_homeBehind_21 ?_
    refine r_get (C := RX5) (T := TX5) (N := 8) (ci := 3) (v := .int (dv 1)) S in_X10_homeBehind_X5 G 1 rfl rfl 1 (by decide) lk_X10_homeBehind_110 rfl dX10_homeBehind_24 ?_
    refine lv_aload_n zx zb dX10_homeBehind_27 rfl (lv_at hl 0 rfl) ?_
    refine r_get (C := RX10) (T := TX10) (N := 14) (ci := 8) (v := .ref nw) S in_X10_homeBehind_X10 G 0 rfl rfl 0 (by decide) lk_X10_homeBehind_10 rfl dX10_homeBehind_28 ?_
    refine r_get (C := RX5) (T := TX5) (N := 8) (ci := 3) (v := .int (dv 0)) S in_X10_homeBehind_X5 G 1 rfl rfl 0 (by decide) lk_X10_homeBehind_140 rfl dX10_homeBehind_31 ?_
    refine lv_iload_n zx zb dX10_homeBehind_34 rfl (lv_at hl 2 rfl) ?_
    refine b_wi (cells' := 0) (slots' := 0) (wr := @HAppend.hAppend va_W va_W va_W _ (xW h0 nw sp xa la lb) (rcV X nw an sv dv n0 n1 n2 n3 n4 g0 gs gn gm)) G rfl rfl [17] [0, 1, 2, 3, 4, 5, 6, 7, 8, 9, 10, 11, 12, 13, 14, 15, 16] rfl rfl rfl rfl (n_V (As := [.int (dv 1), .int (dv 0), .int x3]) (rest := []) (C := RX8) (T := TX8) (N := 8) (ci := 6) S G (s_ticksToHome l X (xa 8) a_7a d_7b (dv 1) (dv 0) x3 (by first | decide | assumption | exact trivial) H.size) gX10_homeBehind_X8_ticksToHome rfl rfl rfl hdV_X8_ticksToHome ⟨Nat.le_of_ble_eq_true rfl, Nat.le_of_ble_eq_true rfl⟩ [17] rfl rfl 17 rfl rfl rfl hl.1 (Nat.le_of_ble_eq_true rfl) dX10_homeBehind_35 ⟨Nat.le_of_ble_eq_true rfl, Nat.le_of_ble_eq_true rfl⟩) (fun r_8 u_8 H locs hp_8 G => ?_)
    obtain ⟨d_8, rfl⟩ : ∃ z, z = u_8 := ⟨_, rfl⟩
    have hq_8 := hp_8
    obtain ⟨hq_8, hs_8⟩ := hq_8
    have G : wd X (va_A (@HAppend.hAppend va_W va_W va_W _ (xW h0 nw sp xa la lb) (@HAppend.hAppend va_W va_W va_W _ (rcV X nw an sv dv n0 n1 n2 n3 n4 g0 gs gn gm) (rnV (xa 8) ag dg))) sz) (va_A (@HAppend.hAppend va_W va_W va_W _ (xW h0 nw sp xa la lb) (@HAppend.hAppend va_W va_W va_W _ (rcV X nw an sv dv n0 n1 n2 n3 n4 g0 gs gn gm) (rnV (xa 8) ag dg))) sz) s (@HAppend.hAppend va_W va_W va_W _ (xW h0 nw sp xa la lb) (@HAppend.hAppend va_W va_W va_W _ (rcV X nw an sv dv n0 n1 n2 n3 n4 g0 gs gn gm) (rnV (xa 8) a_7a d_8))) H locs := G
    exact e_int S zr zlk (vp_nar_int _) G (a_7a, d_8) [0, 1, 2, 3, 4, 5, 6, 7, 8, 9, 10, 11, 12, 13, 14, 15, 16, 17] rfl rfl (Or.inr rfl) (hq_8) dX10_homeBehind_38
  · refine k_it (v := 4) rfl ?_
    refine r_aald (C := RX8) (b := (an 5)) S G 2 3 rfl rfl (k_vp (by decide)) rfl dX10_homeBehind_12 ?_
    refine b_wv (cells' := 0) (slots' := 0) (wr := @HAppend.hAppend va_W va_W va_W _ (xW h0 nw sp xa la lb) ([(nw, .inr (3, [.int (dv 0), .int (dv 1), .int (nI n0), .ref (an 0), .ref (an 7), .ref (an 9), .ref (an 11), .ref (an 13)])), ((an 0), .inl (X.2.2.2.2, 6, .inr (.inr (.inr (.inr (rowQ an)))))), ((an 1), .inr (6, [.int (sv 0), .int (sv 1), .int (sv 2), .int (dv 10), .int (dv 11), .int (dv 12), .int (dv 13), .int (dv 14)])), ((an 2), .inr (6, [.int (sv 3), .int (sv 4), .int (sv 5), .int (dv 15), .int (dv 16), .int (dv 17), .int (dv 18), .int (dv 19)])), ((an 3), .inr (6, [.int (sv 6), .int (sv 7), .int (sv 8), .int (dv 20), .int (dv 21), .int (dv 22), .int (dv 23), .int (dv 24)])), ((an 4), .inr (6, [.int (sv 9), .int (sv 10), .int (sv 11), .int (dv 25), .int (dv 26), .int (dv 27), .int (dv 28), .int (dv 29)])), ((an 6), .inr (6, [.int (sv 15), .int (sv 16), .int (sv 17), .int (dv 35), .int (dv 36), .int (dv 37), .int (dv 38), .int (dv 39)])), ((an 7), .inr (2, [.ref (an 8), .int (nI n1)])), ((an 8), .inl (X.2.1, 248, .inl g0)), ((an 9), .inr (5, [.int 5, .int 0, .int 1, .ref (an 10), .int (nI n2)])), ((an 10), .inl (X.2.1, 25, .inl gs)), ((an 11), .inr (5, [.int 6, .int 1, .int 1, .ref (an 12), .int (nI n3)])), ((an 12), .inl (X.2.1, 30, .inl gn)), ((an 13), .inr (5, [.int 6, .int 0, .int 0, .ref (an 14), .int (nI n4)])), ((an 14), .inl (X.2.1, 30, .inl gm))])) G rfl rfl [17, 7] [0, 1, 2, 3, 4, 5, 6, 8, 9, 10, 11, 12, 13, 14, 15, 16] rfl rfl rfl rfl (n_V (As := [.ref (an 5)]) (rest := []) (C := RX8) (T := TX8) (N := 8) (ci := 6) S G (s_rcopy l X (xa 8) ag dg (an 5) (fun k => sv (12 + k)) (fun k => dv (30 + k)) s.heap.size) gX10_homeBehind_X8_copyFrom rfl rfl rfl hdV_X8_copyFrom ⟨Nat.le_of_ble_eq_true rfl, Nat.le_of_ble_eq_true rfl⟩ [17, 7] rfl rfl 17 rfl rfl rfl hl.1 (Nat.le_of_ble_eq_true rfl) dX10_homeBehind_13 ⟨Nat.le_of_ble_eq_true rfl, Nat.le_of_ble_eq_true rfl⟩) (fun u_9 H locs hp_9 G => ?_)
    obtain ⟨a_9a, d_9b⟩ := u_9
    have hq_9 := hp_9
    have G : wd X (va_A (@HAppend.hAppend va_W va_W va_W _ (xW h0 nw sp xa la lb) (@HAppend.hAppend va_W va_W va_W _ (rcV X nw an sv dv n0 n1 n2 n3 n4 g0 gs gn gm) (rnV (xa 8) ag dg))) sz) (va_A (@HAppend.hAppend va_W va_W va_W _ (xW h0 nw sp xa la lb) (@HAppend.hAppend va_W va_W va_W _ (rcV X nw an sv dv n0 n1 n2 n3 n4 g0 gs gn gm) (rnV (xa 8) ag dg))) sz) s (@HAppend.hAppend va_W va_W va_W _ (xW h0 nw sp xa la lb) (@HAppend.hAppend va_W va_W va_W _ (rcV X nw an sv dv n0 n1 n2 n3 n4 g0 gs gn gm) (rnV (xa 8) a_9a d_9b))) H locs := wd_sub G [0, 1, 2, 3, 4, 5, 6, 17, 7, 8, 9, 10, 11, 12, 13, 14, 15, 16] rfl rfl
    refine lv_aload_n zx zb dX10_homeBehind_16 rfl (lv_at hl 0 rfl) ?_
    refine r_get (C := RX10) (T := TX10) (N := 14) (ci := 8) (v := .ref (xa 8)) S in_X10_homeBehind_X10 G 0 rfl rfl 8 (by decide) lk_X10_homeBehind_48 rfl dX10_homeBehind_17 ?_
    refine lv_aload_n zx zb dX10_homeBehind_20 rfl (lv_at hl 0 rfl) ?_
    refine r_get (C := RX10) (T := TX10) (N := 14) (ci := 8) (v := .ref nw) S in_X10_homeBehind_X10 G 0 rfl rfl 0 (by decide) lk_X10_homeBehind_10 rfl dX10_homeBehind_21 ?_
    refine r_get (C := RX5) (T := TX5) (N := 8) (ci := 3) (v := .int (dv 1)) S in_X10_homeBehind_X5 G 1 rfl rfl 1 (by decide) lk_X10_homeBehind_110 rfl dX10_homeBehind_24 ?_
    refine lv_aload_n zx zb dX10_homeBehind_27 rfl (lv_at hl 0 rfl) ?_
    refine r_get (C := RX10) (T := TX10) (N := 14) (ci := 8) (v := .ref nw) S in_X10_homeBehind_X10 G 0 rfl rfl 0 (by decide) lk_X10_homeBehind_10 rfl dX10_homeBehind_28 ?_
    refine r_get (C := RX5) (T := TX5) (N := 8) (ci := 3) (v := .int (dv 0)) S in_X10_homeBehind_X5 G 1 rfl rfl 0 (by decide) lk_X10_homeBehind_140 rfl dX10_homeBehind_31 ?_
    refine lv_iload_n zx zb dX10_homeBehind_34 rfl (lv_at hl 2 rfl) ?_
    refine b_wi (cells' := 0) (slots' := 0) (wr := @HAppend.hAppend va_W va_W va_W _ (xW h0 nw sp xa la lb) (rcV X nw an sv dv n0 n1 n2 n3 n4 g0 gs gn gm)) G rfl rfl [17] [0, 1, 2, 3, 4, 5, 6, 7, 8, 9, 10, 11, 12, 13, 14, 15, 16] rfl rfl rfl rfl (n_V (As := [.int (dv 1), .int (dv 0), .int x3]) (rest := []) (C := RX8) (T := TX8) (N := 8) (ci := 6) S G (s_ticksToHome l X (xa 8) a_9a d_9b (dv 1) (dv 0) x3 (by first | decide | assumption | exact trivial) H.size) gX10_homeBehind_X8_ticksToHome rfl rfl rfl hdV_X8_ticksToHome ⟨Nat.le_of_ble_eq_true rfl, Nat.le_of_ble_eq_true rfl⟩ [17] rfl rfl 17 rfl rfl rfl hl.1 (Nat.le_of_ble_eq_true rfl) dX10_homeBehind_35 ⟨Nat.le_of_ble_eq_true rfl, Nat.le_of_ble_eq_true rfl⟩) (fun r_10 u_10 H locs hp_10 G => ?_)
    obtain ⟨d_10, rfl⟩ : ∃ z, z = u_10 := ⟨_, rfl⟩
    have hq_10 := hp_10
    obtain ⟨hq_10, hs_10⟩ := hq_10
    have G : wd X (va_A (@HAppend.hAppend va_W va_W va_W _ (xW h0 nw sp xa la lb) (@HAppend.hAppend va_W va_W va_W _ (rcV X nw an sv dv n0 n1 n2 n3 n4 g0 gs gn gm) (rnV (xa 8) ag dg))) sz) (va_A (@HAppend.hAppend va_W va_W va_W _ (xW h0 nw sp xa la lb) (@HAppend.hAppend va_W va_W va_W _ (rcV X nw an sv dv n0 n1 n2 n3 n4 g0 gs gn gm) (rnV (xa 8) ag dg))) sz) s (@HAppend.hAppend va_W va_W va_W _ (xW h0 nw sp xa la lb) (@HAppend.hAppend va_W va_W va_W _ (rcV X nw an sv dv n0 n1 n2 n3 n4 g0 gs gn gm) (rnV (xa 8) a_9a d_10))) H locs := G
    exact e_int S zr zlk (vp_nar_int _) G (a_9a, d_10) [0, 1, 2, 3, 4, 5, 6, 7, 8, 9, 10, 11, 12, 13, 14, 15, 16, 17] rfl rfl (Or.inr rfl) (hq_10) dX10_homeBehind_38
  · refine k_it (v := 5) rfl ?_
    refine r_aald (C := RX8) (b := (an 6)) S G 2 3 rfl rfl (k_vp (by decide)) rfl dX10_homeBehind_12 ?_
    refine b_wv (cells' := 0) (slots' := 0) (wr := @HAppend.hAppend va_W va_W va_W _ (xW h0 nw sp xa la lb) ([(nw, .inr (3, [.int (dv 0), .int (dv 1), .int (nI n0), .ref (an 0), .ref (an 7), .ref (an 9), .ref (an 11), .ref (an 13)])), ((an 0), .inl (X.2.2.2.2, 6, .inr (.inr (.inr (.inr (rowQ an)))))), ((an 1), .inr (6, [.int (sv 0), .int (sv 1), .int (sv 2), .int (dv 10), .int (dv 11), .int (dv 12), .int (dv 13), .int (dv 14)])), ((an 2), .inr (6, [.int (sv 3), .int (sv 4), .int (sv 5), .int (dv 15), .int (dv 16), .int (dv 17), .int (dv 18), .int (dv 19)])), ((an 3), .inr (6, [.int (sv 6), .int (sv 7), .int (sv 8), .int (dv 20), .int (dv 21), .int (dv 22), .int (dv 23), .int (dv 24)])), ((an 4), .inr (6, [.int (sv 9), .int (sv 10), .int (sv 11), .int (dv 25), .int (dv 26), .int (dv 27), .int (dv 28), .int (dv 29)])), ((an 5), .inr (6, [.int (sv 12), .int (sv 13), .int (sv 14), .int (dv 30), .int (dv 31), .int (dv 32), .int (dv 33), .int (dv 34)])), ((an 7), .inr (2, [.ref (an 8), .int (nI n1)])), ((an 8), .inl (X.2.1, 248, .inl g0)), ((an 9), .inr (5, [.int 5, .int 0, .int 1, .ref (an 10), .int (nI n2)])), ((an 10), .inl (X.2.1, 25, .inl gs)), ((an 11), .inr (5, [.int 6, .int 1, .int 1, .ref (an 12), .int (nI n3)])), ((an 12), .inl (X.2.1, 30, .inl gn)), ((an 13), .inr (5, [.int 6, .int 0, .int 0, .ref (an 14), .int (nI n4)])), ((an 14), .inl (X.2.1, 30, .inl gm))])) G rfl rfl [17, 8] [0, 1, 2, 3, 4, 5, 6, 7, 9, 10, 11, 12, 13, 14, 15, 16] rfl rfl rfl rfl (n_V (As := [.ref (an 6)]) (rest := []) (C := RX8) (T := TX8) (N := 8) (ci := 6) S G (s_rcopy l X (xa 8) ag dg (an 6) (fun k => sv (15 + k)) (fun k => dv (35 + k)) s.heap.size) gX10_homeBehind_X8_copyFrom rfl rfl rfl hdV_X8_copyFrom ⟨Nat.le_of_ble_eq_true rfl, Nat.le_of_ble_eq_true rfl⟩ [17, 8] rfl rfl 17 rfl rfl rfl hl.1 (Nat.le_of_ble_eq_true rfl) dX10_homeBehind_13 ⟨Nat.le_of_ble_eq_true rfl, Nat.le_of_ble_eq_true rfl⟩) (fun u_11 H locs hp_11 G => ?_)
    obtain ⟨a_11a, d_11b⟩ := u_11
    have hq_11 := hp_11
    have G : wd X (va_A (@HAppend.hAppend va_W va_W va_W _ (xW h0 nw sp xa la lb) (@HAppend.hAppend va_W va_W va_W _ (rcV X nw an sv dv n0 n1 n2 n3 n4 g0 gs gn gm) (rnV (xa 8) ag dg))) sz) (va_A (@HAppend.hAppend va_W va_W va_W _ (xW h0 nw sp xa la lb) (@HAppend.hAppend va_W va_W va_W _ (rcV X nw an sv dv n0 n1 n2 n3 n4 g0 gs gn gm) (rnV (xa 8) ag dg))) sz) s (@HAppend.hAppend va_W va_W va_W _ (xW h0 nw sp xa la lb) (@HAppend.hAppend va_W va_W va_W _ (rcV X nw an sv dv n0 n1 n2 n3 n4 g0 gs gn gm) (rnV (xa 8) a_11a d_11b))) H locs := wd_sub G [0, 1, 2, 3, 4, 5, 6, 7, 17, 8, 9, 10, 11, 12, 13, 14, 15, 16] rfl rfl
    refine lv_aload_n zx zb dX10_homeBehind_16 rfl (lv_at hl 0 rfl) ?_
    refine r_get (C := RX10) (T := TX10) (N := 14) (ci := 8) (v := .ref (xa 8)) S in_X10_homeBehind_X10 G 0 rfl rfl 8 (by decide) lk_X10_homeBehind_48 rfl dX10_homeBehind_17 ?_
    refine lv_aload_n zx zb dX10_homeBehind_20 rfl (lv_at hl 0 rfl) ?_
    refine r_get (C := RX10) (T := TX10) (N := 14) (ci := 8) (v := .ref nw) S in_X10_homeBehind_X10 G 0 rfl rfl 0 (by decide) lk_X10_homeBehind_10 rfl dX10_homeBehind_21 ?_
    refine r_get (C := RX5) (T := TX5) (N := 8) (ci := 3) (v := .int (dv 1)) S in_X10_homeBehind_X5 G 1 rfl rfl 1 (by decide) lk_X10_homeBehind_110 rfl dX10_homeBehind_24 ?_
    refine lv_aload_n zx zb dX10_homeBehind_27 rfl (lv_at hl 0 rfl) ?_
    refine r_get (C := RX10) (T := TX10) (N := 14) (ci := 8) (v := .ref nw) S in_X10_homeBehind_X10 G 0 rfl rfl 0 (by decide) lk_X10_homeBehind_10 rfl dX10_homeBehind_28 ?_
    refine r_get (C := RX5) (T := TX5) (N := 8) (ci := 3) (v := .int (dv 0)) S in_X10_homeBehind_X5 G 1 rfl rfl 0 (by decide) lk_X10_homeBehind_140 rfl dX10_homeBehind_31 ?_
    refine lv_iload_n zx zb dX10_homeBehind_34 rfl (lv_at hl 2 rfl) ?_
    refine b_wi (cells' := 0) (slots' := 0) (wr := @HAppend.hAppend va_W va_W va_W _ (xW h0 nw sp xa la lb) (rcV X nw an sv dv n0 n1 n2 n3 n4 g0 gs gn gm)) G rfl rfl [17] [0, 1, 2, 3, 4, 5, 6, 7, 8, 9, 10, 11, 12, 13, 14, 15, 16] rfl rfl rfl rfl (n_V (As := [.int (dv 1), .int (dv 0), .int x3]) (rest := []) (C := RX8) (T := TX8) (N := 8) (ci := 6) S G (s_ticksToHome l X (xa 8) a_11a d_11b (dv 1) (dv 0) x3 (by first | decide | assumption | exact trivial) H.size) gX10_homeBehind_X8_ticksToHome rfl rfl rfl hdV_X8_ticksToHome ⟨Nat.le_of_ble_eq_true rfl, Nat.le_of_ble_eq_true rfl⟩ [17] rfl rfl 17 rfl rfl rfl hl.1 (Nat.le_of_ble_eq_true rfl) dX10_homeBehind_35 ⟨Nat.le_of_ble_eq_true rfl, Nat.le_of_ble_eq_true rfl⟩) (fun r_12 u_12 H locs hp_12 G => ?_)
    obtain ⟨d_12, rfl⟩ : ∃ z, z = u_12 := ⟨_, rfl⟩
    have hq_12 := hp_12
    obtain ⟨hq_12, hs_12⟩ := hq_12
    have G : wd X (va_A (@HAppend.hAppend va_W va_W va_W _ (xW h0 nw sp xa la lb) (@HAppend.hAppend va_W va_W va_W _ (rcV X nw an sv dv n0 n1 n2 n3 n4 g0 gs gn gm) (rnV (xa 8) ag dg))) sz) (va_A (@HAppend.hAppend va_W va_W va_W _ (xW h0 nw sp xa la lb) (@HAppend.hAppend va_W va_W va_W _ (rcV X nw an sv dv n0 n1 n2 n3 n4 g0 gs gn gm) (rnV (xa 8) ag dg))) sz) s (@HAppend.hAppend va_W va_W va_W _ (xW h0 nw sp xa la lb) (@HAppend.hAppend va_W va_W va_W _ (rcV X nw an sv dv n0 n1 n2 n3 n4 g0 gs gn gm) (rnV (xa 8) a_11a d_12))) H locs := G
    exact e_int S zr zlk (vp_nar_int _) G (a_11a, d_12) [0, 1, 2, 3, 4, 5, 6, 7, 8, 9, 10, 11, 12, 13, 14, 15, 16, 17] rfl rfl (Or.inr rfl) (hq_12) dX10_homeBehind_38
