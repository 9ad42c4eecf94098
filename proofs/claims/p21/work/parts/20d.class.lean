set_option maxRecDepth 20000 in
theorem ggX10_areTwo_X10_there : GoodIn wsX10_areTwo wsX10_there := goodIn_r _ [5, 6, 7, 8, 9, 10, 11, 12, 13, 14, 15, 16, 17, 18, 19, 20, 21, 22, 23, 24, 25, 26, 27, 28, 29] rfl (by decide +kernel)
set_option maxRecDepth 20000 in
theorem gX10_areTwo_X10_there : GoodIn wsX10_areTwo (wsV RX10 123 RX10 yX10_there wsX10_there) := goodIn_app (goodIn_of _ (by decide +kernel)) ggX10_areTwo_X10_there
set_option maxRecDepth 20000 in
theorem ggX10_first_X10_homeBehind : GoodIn wsX10_first wsX10_homeBehind := goodIn_r _ [14, 15, 1, 3, 16, 17, 18, 19, 20, 7, 21, 22, 23, 24, 25, 26, 27, 28, 9, 29, 30, 31, 32, 33, 5, 6, 8, 34, 35, 36, 37, 38, 39, 40, 41, 42, 43, 44, 45, 46, 47, 48, 49, 50, 51, 52, 53, 54, 55, 56, 57, 58, 59, 60, 61, 62, 63, 64, 65, 66, 67, 68, 69, 70, 71, 72, 73, 74, 75] rfl (by decide +kernel)
set_option maxRecDepth 20000 in
theorem gX10_first_X10_homeBehind : GoodIn wsX10_first (wsV RX10 156 RX10 yX10_homeBehind wsX10_homeBehind) := goodIn_app (goodIn_of _ (by decide +kernel)) ggX10_first_X10_homeBehind
set_option maxRecDepth 20000 in
theorem ggX10_first_X8_isHome : GoodIn wsX10_first wsX8_isHome := goodIn_r _ [8, 9, 68, 69, 70, 71, 72, 73, 74, 75] rfl (by decide +kernel)
set_option maxRecDepth 20000 in
theorem gX10_first_X8_isHome : GoodIn wsX10_first (wsV RX10 133 RX8 yX8_isHome wsX8_isHome) := goodIn_app (goodIn_of _ (by decide +kernel)) ggX10_first_X8_isHome
set_option maxRecDepth 20000 in
theorem ggX10_homeBehind_X8_copyFrom : GoodIn wsX10_homeBehind wsX8_copyFrom := goodIn_r _ [10, 11, 12, 13, 14, 15, 16, 17, 18, 61, 62, 63, 64, 65, 66, 67, 68] rfl (by decide +kernel)
set_option maxRecDepth 20000 in
theorem gX10_homeBehind_X8_copyFrom : GoodIn wsX10_homeBehind (wsV RX10 148 RX8 yX8_copyFrom wsX8_copyFrom) := goodIn_app (goodIn_of _ (by decide +kernel)) ggX10_homeBehind_X8_copyFrom
set_option maxRecDepth 20000 in
theorem ggX10_homeBehind_X8_ticksToHome : GoodIn wsX10_homeBehind wsX8_ticksToHome := goodIn_r _ [22, 23, 24, 25, 9, 26, 18, 27, 28, 29, 30, 17, 11, 12, 14, 13, 16, 15, 31, 32, 33, 34, 35, 36, 37, 38, 61, 62, 63, 64, 65, 66, 67, 68] rfl (by decide +kernel)
set_option maxRecDepth 20000 in
theorem gX10_homeBehind_X8_ticksToHome : GoodIn wsX10_homeBehind (wsV RX10 165 RX8 yX8_ticksToHome wsX8_ticksToHome) := goodIn_app (goodIn_of _ (by decide +kernel)) ggX10_homeBehind_X8_ticksToHome
set_option maxRecDepth 20000 in
theorem ggX10_home_X10_homeBehind : GoodIn wsX10_home wsX10_homeBehind := goodIn_r _ [11, 12, 6, 13, 14, 15, 16, 17, 18, 19, 20, 21, 22, 23, 24, 25, 26, 27, 28, 29, 30, 31, 32, 33, 34, 35, 36, 37, 38, 39, 40, 41, 42, 43, 44, 45, 46, 47, 48, 54, 55, 56, 57, 58, 59, 60, 61, 62, 63, 64, 65, 66, 67, 68, 69, 70, 71, 72, 73, 74, 75, 76, 77, 78, 79, 80, 81, 82, 83] rfl (by decide +kernel)
set_option maxRecDepth 20000 in
theorem gX10_home_X10_homeBehind : GoodIn wsX10_home (wsV RX10 156 RX10 yX10_homeBehind wsX10_homeBehind) := goodIn_app (goodIn_of _ (by decide +kernel)) ggX10_home_X10_homeBehind
set_option maxRecDepth 20000 in
theorem ggX10_home_X10_refuse : GoodIn wsX10_home wsX10_refuse := goodIn_r _ [52, 53, 54, 55, 56, 57, 58, 59, 60, 61, 62, 63, 64, 65, 66, 67] rfl (by decide +kernel)
set_option maxRecDepth 20000 in
theorem gX10_home_X10_refuse : GoodIn wsX10_home (wsV RX10 83 RX10 yX10_refuse wsX10_refuse) := goodIn_app (goodIn_of _ (by decide +kernel)) ggX10_home_X10_refuse
set_option maxRecDepth 20000 in
theorem ggX10_home_X10_there : GoodIn wsX10_home wsX10_there := goodIn_r _ [5, 6, 7, 54, 55, 56, 57, 58, 59, 60, 61, 62, 63, 64, 65, 66, 67, 68, 69, 70, 71, 72, 73, 74, 75] rfl (by decide +kernel)
set_option maxRecDepth 20000 in
theorem gX10_home_X10_there : GoodIn wsX10_home (wsV RX10 123 RX10 yX10_there wsX10_there) := goodIn_app (goodIn_of _ (by decide +kernel)) ggX10_home_X10_there
set_option maxRecDepth 20000 in
theorem ggX10_rankAll_X10_homeBehind : GoodIn wsX10_rankAll wsX10_homeBehind := goodIn_r _ [10, 11, 1, 3, 12, 13, 14, 15, 16, 17, 18, 19, 20, 21, 22, 23, 24, 25, 26, 27, 28, 29, 30, 31, 32, 33, 34, 35, 36, 37, 38, 39, 40, 41, 42, 43, 44, 45, 46, 48, 49, 50, 51, 52, 53, 54, 55, 56, 57, 58, 59, 60, 61, 62, 63, 64, 65, 66, 67, 68, 69, 70, 71, 72, 73, 74, 75, 76, 77] rfl (by decide +kernel)
set_option maxRecDepth 20000 in
theorem gX10_rankAll_X10_homeBehind : GoodIn wsX10_rankAll (wsV RX10 156 RX10 yX10_homeBehind wsX10_homeBehind) := goodIn_app (goodIn_of _ (by decide +kernel)) ggX10_rankAll_X10_homeBehind
set_option maxRecDepth 20000 in
theorem ggX10_rankAll_X8_isHome : GoodIn wsX10_rankAll wsX8_isHome := goodIn_r _ [34, 26, 70, 71, 72, 73, 74, 75, 76, 77] rfl (by decide +kernel)
set_option maxRecDepth 20000 in
theorem gX10_rankAll_X8_isHome : GoodIn wsX10_rankAll (wsV RX10 133 RX8 yX8_isHome wsX8_isHome) := goodIn_app (goodIn_of _ (by decide +kernel)) ggX10_rankAll_X8_isHome
set_option maxRecDepth 20000 in
theorem ggX10_where_X10_refuse : GoodIn wsX10_where wsX10_refuse := goodIn_r _ [18, 19, 53, 54, 55, 56, 57, 58, 59, 60, 61, 62, 63, 64, 65, 66] rfl (by decide +kernel)
set_option maxRecDepth 20000 in
theorem gX10_where_X10_refuse : GoodIn wsX10_where (wsV RX10 83 RX10 yX10_refuse wsX10_refuse) := goodIn_app (goodIn_of _ (by decide +kernel)) ggX10_where_X10_refuse
set_option maxRecDepth 20000 in
theorem ggX10_where_X10_there : GoodIn wsX10_where wsX10_there := goodIn_r _ [10, 2, 11, 53, 54, 55, 56, 57, 58, 59, 60, 61, 62, 63, 64, 65, 66, 67, 68, 69, 70, 71, 72, 73, 74] rfl (by decide +kernel)
set_option maxRecDepth 20000 in
theorem gX10_where_X10_there : GoodIn wsX10_where (wsV RX10 123 RX10 yX10_there wsX10_there) := goodIn_app (goodIn_of _ (by decide +kernel)) ggX10_where_X10_there
set_option maxRecDepth 20000 in
theorem ggX10_where_X10_within : GoodIn wsX10_where wsX10_within := goodIn_r _ [14] rfl (by decide +kernel)
set_option maxRecDepth 20000 in
theorem gX10_where_X10_within : GoodIn wsX10_where (va_wsS RX10 79 yX10_within wsX10_within) := goodIn_app (goodIn_of _ (by decide +kernel)) ggX10_where_X10_within
set_option maxRecDepth 20000 in
theorem ggX10_where_X8_copyFrom : GoodIn wsX10_where wsX8_copyFrom := goodIn_r _ [24, 25, 26, 27, 28, 29, 30, 31, 32, 75, 76, 77, 78, 79, 80, 81, 82] rfl (by decide +kernel)
set_option maxRecDepth 20000 in
theorem gX10_where_X8_copyFrom : GoodIn wsX10_where (wsV RX10 148 RX8 yX8_copyFrom wsX8_copyFrom) := goodIn_app (goodIn_of _ (by decide +kernel)) ggX10_where_X8_copyFrom
set_option maxRecDepth 20000 in
theorem ggX10_where_X8_placeBehind : GoodIn wsX10_where wsX8_placeBehind := goodIn_r _ [36, 29, 37, 38, 39, 23, 40, 31, 25, 26, 28, 27, 30, 32, 41, 42, 43, 44, 45, 46, 47, 48, 49, 50, 51, 52, 75, 76, 77, 78, 79, 80, 81, 82] rfl (by decide +kernel)
set_option maxRecDepth 20000 in
theorem gX10_where_X8_placeBehind : GoodIn wsX10_where (wsV RX10 152 RX8 yX8_placeBehind wsX8_placeBehind) := goodIn_app (goodIn_of _ (by decide +kernel)) ggX10_where_X8_placeBehind
theorem dX10_areTwo_0 : decode cX10_areTwo 0 = .ok (.aload_n 0, 1) := by decide +kernel
theorem dX10_areTwo_1 : decode cX10_areTwo 1 = .ok (.iload_n 1, 1) := by decide +kernel
theorem dX10_areTwo_10 : decode cX10_areTwo 10 = .ok (.invokevirtual 123, 3) := by decide +kernel
theorem dX10_areTwo_13 : decode cX10_areTwo 13 = .ok (.ifCond .eq 12, 3) := by decide +kernel
theorem dX10_areTwo_16 : decode cX10_areTwo 16 = .ok (.iload_n 1, 1) := by decide +kernel
theorem dX10_areTwo_17 : decode cX10_areTwo 17 = .ok (.iload_n 2, 1) := by decide +kernel
theorem dX10_areTwo_18 : decode cX10_areTwo 18 = .ok (.if_icmp .eq 7, 3) := by decide +kernel
theorem dX10_areTwo_2 : decode cX10_areTwo 2 = .ok (.invokevirtual 123, 3) := by decide +kernel
theorem dX10_areTwo_21 : decode cX10_areTwo 21 = .ok (.iconst 1, 1) := by decide +kernel
theorem dX10_areTwo_22 : decode cX10_areTwo 22 = .ok (.goto 4, 3) := by decide +kernel
theorem dX10_areTwo_25 : decode cX10_areTwo 25 = .ok (.iconst 0, 1) := by decide +kernel
theorem dX10_areTwo_26 : decode cX10_areTwo 26 = .ok (.ireturn, 1) := by decide +kernel
theorem dX10_areTwo_5 : decode cX10_areTwo 5 = .ok (.ifCond .eq 20, 3) := by decide +kernel
theorem dX10_areTwo_8 : decode cX10_areTwo 8 = .ok (.aload_n 0, 1) := by decide +kernel
theorem dX10_areTwo_9 : decode cX10_areTwo 9 = .ok (.iload_n 2, 1) := by decide +kernel
theorem dX10_first_0 : decode cX10_first 0 = .ok (.iconst (-1), 1) := by decide +kernel
theorem dX10_first_1 : decode cX10_first 1 = .ok (.istore_n 1, 1) := by decide +kernel
theorem dX10_first_12 : decode cX10_first 12 = .ok (.getfield 87, 3) := by decide +kernel
theorem dX10_first_15 : decode cX10_first 15 = .ok (.if_icmp .ge 49, 3) := by decide +kernel
theorem dX10_first_18 : decode cX10_first 18 = .ok (.aload_n 0, 1) := by decide +kernel
theorem dX10_first_19 : decode cX10_first 19 = .ok (.getfield 10, 3) := by decide +kernel
theorem dX10_first_2 : decode cX10_first 2 = .ok (.bipush 60, 2) := by decide +kernel
theorem dX10_first_22 : decode cX10_first 22 = .ok (.getfield 126, 3) := by decide +kernel
theorem dX10_first_25 : decode cX10_first 25 = .ok (.iload_n 3, 1) := by decide +kernel
theorem dX10_first_26 : decode cX10_first 26 = .ok (.aaload, 1) := by decide +kernel
theorem dX10_first_27 : decode cX10_first 27 = .ok (.invokevirtual 133, 3) := by decide +kernel
theorem dX10_first_30 : decode cX10_first 30 = .ok (.ifCond .eq 7, 3) := by decide +kernel
theorem dX10_first_33 : decode cX10_first 33 = .ok (.iconst (-1), 1) := by decide +kernel
theorem dX10_first_34 : decode cX10_first 34 = .ok (.goto 9, 3) := by decide +kernel
theorem dX10_first_37 : decode cX10_first 37 = .ok (.aload_n 0, 1) := by decide +kernel
theorem dX10_first_38 : decode cX10_first 38 = .ok (.iload_n 3, 1) := by decide +kernel
theorem dX10_first_39 : decode cX10_first 39 = .ok (.iload_n 2, 1) := by decide +kernel
theorem dX10_first_4 : decode cX10_first 4 = .ok (.istore_n 2, 1) := by decide +kernel
theorem dX10_first_40 : decode cX10_first 40 = .ok (.invokevirtual 156, 3) := by decide +kernel
theorem dX10_first_43 : decode cX10_first 43 = .ok (.istore 4, 2) := by decide +kernel
theorem dX10_first_45 : decode cX10_first 45 = .ok (.iload 4, 2) := by decide +kernel
theorem dX10_first_47 : decode cX10_first 47 = .ok (.iconst (-1), 1) := by decide +kernel
theorem dX10_first_48 : decode cX10_first 48 = .ok (.if_icmp .eq 10, 3) := by decide +kernel
theorem dX10_first_5 : decode cX10_first 5 = .ok (.iconst 0, 1) := by decide +kernel
theorem dX10_first_51 : decode cX10_first 51 = .ok (.iload_n 3, 1) := by decide +kernel
theorem dX10_first_52 : decode cX10_first 52 = .ok (.istore_n 1, 1) := by decide +kernel
theorem dX10_first_53 : decode cX10_first 53 = .ok (.iload 4, 2) := by decide +kernel
theorem dX10_first_55 : decode cX10_first 55 = .ok (.iconst 1, 1) := by decide +kernel
theorem dX10_first_56 : decode cX10_first 56 = .ok (.isub, 1) := by decide +kernel
theorem dX10_first_57 : decode cX10_first 57 = .ok (.istore_n 2, 1) := by decide +kernel
theorem dX10_first_58 : decode cX10_first 58 = .ok (.iinc 3 1, 3) := by decide +kernel
theorem dX10_first_6 : decode cX10_first 6 = .ok (.istore_n 3, 1) := by decide +kernel
theorem dX10_first_61 : decode cX10_first 61 = .ok (.goto (-54), 3) := by decide +kernel
theorem dX10_first_64 : decode cX10_first 64 = .ok (.iload_n 1, 1) := by decide +kernel
theorem dX10_first_65 : decode cX10_first 65 = .ok (.ireturn, 1) := by decide +kernel
theorem dX10_first_7 : decode cX10_first 7 = .ok (.iload_n 3, 1) := by decide +kernel
theorem dX10_first_8 : decode cX10_first 8 = .ok (.aload_n 0, 1) := by decide +kernel
theorem dX10_first_9 : decode cX10_first 9 = .ok (.getfield 10, 3) := by decide +kernel
theorem dX10_homeBehind_0 : decode cX10_homeBehind 0 = .ok (.aload_n 0, 1) := by decide +kernel
theorem dX10_homeBehind_1 : decode cX10_homeBehind 1 = .ok (.getfield 48, 3) := by decide +kernel
theorem dX10_homeBehind_11 : decode cX10_homeBehind 11 = .ok (.iload_n 1, 1) := by decide +kernel
theorem dX10_homeBehind_12 : decode cX10_homeBehind 12 = .ok (.aaload, 1) := by decide +kernel
theorem dX10_homeBehind_13 : decode cX10_homeBehind 13 = .ok (.invokevirtual 148, 3) := by decide +kernel
theorem dX10_homeBehind_16 : decode cX10_homeBehind 16 = .ok (.aload_n 0, 1) := by decide +kernel
theorem dX10_homeBehind_17 : decode cX10_homeBehind 17 = .ok (.getfield 48, 3) := by decide +kernel
theorem dX10_homeBehind_20 : decode cX10_homeBehind 20 = .ok (.aload_n 0, 1) := by decide +kernel
theorem dX10_homeBehind_21 : decode cX10_homeBehind 21 = .ok (.getfield 10, 3) := by decide +kernel
theorem dX10_homeBehind_24 : decode cX10_homeBehind 24 = .ok (.getfield 110, 3) := by decide +kernel
theorem dX10_homeBehind_27 : decode cX10_homeBehind 27 = .ok (.aload_n 0, 1) := by decide +kernel
theorem dX10_homeBehind_28 : decode cX10_homeBehind 28 = .ok (.getfield 10, 3) := by decide +kernel
theorem dX10_homeBehind_31 : decode cX10_homeBehind 31 = .ok (.getfield 140, 3) := by decide +kernel
theorem dX10_homeBehind_34 : decode cX10_homeBehind 34 = .ok (.iload_n 2, 1) := by decide +kernel
theorem dX10_homeBehind_35 : decode cX10_homeBehind 35 = .ok (.invokevirtual 165, 3) := by decide +kernel
theorem dX10_homeBehind_38 : decode cX10_homeBehind 38 = .ok (.ireturn, 1) := by decide +kernel
theorem dX10_homeBehind_4 : decode cX10_homeBehind 4 = .ok (.aload_n 0, 1) := by decide +kernel
theorem dX10_homeBehind_5 : decode cX10_homeBehind 5 = .ok (.getfield 10, 3) := by decide +kernel
theorem dX10_homeBehind_8 : decode cX10_homeBehind 8 = .ok (.getfield 126, 3) := by decide +kernel
theorem dX10_home_0 : decode cX10_home 0 = .ok (.aload_n 0, 1) := by decide +kernel
theorem dX10_home_1 : decode cX10_home 1 = .ok (.iload_n 1, 1) := by decide +kernel
theorem dX10_home_10 : decode cX10_home 10 = .ok (.bipush 60, 2) := by decide +kernel
theorem dX10_home_12 : decode cX10_home 12 = .ok (.invokevirtual 156, 3) := by decide +kernel
theorem dX10_home_15 : decode cX10_home 15 = .ok (.goto 9, 3) := by decide +kernel
theorem dX10_home_18 : decode cX10_home 18 = .ok (.aload_n 0, 1) := by decide +kernel
theorem dX10_home_19 : decode cX10_home 19 = .ok (.bipush (-2), 2) := by decide +kernel
theorem dX10_home_2 : decode cX10_home 2 = .ok (.invokevirtual 123, 3) := by decide +kernel
theorem dX10_home_21 : decode cX10_home 21 = .ok (.invokevirtual 83, 3) := by decide +kernel
theorem dX10_home_24 : decode cX10_home 24 = .ok (.ireturn, 1) := by decide +kernel
theorem dX10_home_5 : decode cX10_home 5 = .ok (.ifCond .eq 13, 3) := by decide +kernel
theorem dX10_home_8 : decode cX10_home 8 = .ok (.aload_n 0, 1) := by decide +kernel
theorem dX10_home_9 : decode cX10_home 9 = .ok (.iload_n 1, 1) := by decide +kernel
theorem dX10_rankAll_0 : decode cX10_rankAll 0 = .ok (.iconst 0, 1) := by decide +kernel
theorem dX10_rankAll_1 : decode cX10_rankAll 1 = .ok (.istore_n 1, 1) := by decide +kernel
theorem dX10_rankAll_10 : decode cX10_rankAll 10 = .ok (.if_icmp .ge 66, 3) := by decide +kernel
theorem dX10_rankAll_13 : decode cX10_rankAll 13 = .ok (.aload_n 0, 1) := by decide +kernel
theorem dX10_rankAll_14 : decode cX10_rankAll 14 = .ok (.getfield 10, 3) := by decide +kernel
theorem dX10_rankAll_17 : decode cX10_rankAll 17 = .ok (.getfield 126, 3) := by decide +kernel
theorem dX10_rankAll_2 : decode cX10_rankAll 2 = .ok (.iload_n 1, 1) := by decide +kernel
theorem dX10_rankAll_20 : decode cX10_rankAll 20 = .ok (.iload_n 1, 1) := by decide +kernel
theorem dX10_rankAll_21 : decode cX10_rankAll 21 = .ok (.aaload, 1) := by decide +kernel
theorem dX10_rankAll_22 : decode cX10_rankAll 22 = .ok (.astore_n 2, 1) := by decide +kernel
theorem dX10_rankAll_23 : decode cX10_rankAll 23 = .ok (.aload_n 0, 1) := by decide +kernel
theorem dX10_rankAll_24 : decode cX10_rankAll 24 = .ok (.iload_n 1, 1) := by decide +kernel
theorem dX10_rankAll_25 : decode cX10_rankAll 25 = .ok (.bipush 60, 2) := by decide +kernel
theorem dX10_rankAll_27 : decode cX10_rankAll 27 = .ok (.invokevirtual 156, 3) := by decide +kernel
theorem dX10_rankAll_3 : decode cX10_rankAll 3 = .ok (.aload_n 0, 1) := by decide +kernel
theorem dX10_rankAll_30 : decode cX10_rankAll 30 = .ok (.istore_n 3, 1) := by decide +kernel
theorem dX10_rankAll_31 : decode cX10_rankAll 31 = .ok (.iload_n 3, 1) := by decide +kernel
theorem dX10_rankAll_32 : decode cX10_rankAll 32 = .ok (.iconst (-1), 1) := by decide +kernel
theorem dX10_rankAll_33 : decode cX10_rankAll 33 = .ok (.if_icmp .ne 8, 3) := by decide +kernel
theorem dX10_rankAll_36 : decode cX10_rankAll 36 = .ok (.bipush 61, 2) := by decide +kernel
theorem dX10_rankAll_38 : decode cX10_rankAll 38 = .ok (.goto 4, 3) := by decide +kernel
theorem dX10_rankAll_4 : decode cX10_rankAll 4 = .ok (.getfield 10, 3) := by decide +kernel
theorem dX10_rankAll_41 : decode cX10_rankAll 41 = .ok (.iload_n 3, 1) := by decide +kernel
theorem dX10_rankAll_42 : decode cX10_rankAll 42 = .ok (.istore 4, 2) := by decide +kernel
theorem dX10_rankAll_44 : decode cX10_rankAll 44 = .ok (.aload_n 0, 1) := by decide +kernel
theorem dX10_rankAll_45 : decode cX10_rankAll 45 = .ok (.getfield 76, 3) := by decide +kernel
theorem dX10_rankAll_48 : decode cX10_rankAll 48 = .ok (.iload_n 1, 1) := by decide +kernel
theorem dX10_rankAll_49 : decode cX10_rankAll 49 = .ok (.aload_n 2, 1) := by decide +kernel
theorem dX10_rankAll_50 : decode cX10_rankAll 50 = .ok (.invokevirtual 133, 3) := by decide +kernel
theorem dX10_rankAll_53 : decode cX10_rankAll 53 = .ok (.ifCond .eq 10, 3) := by decide +kernel
theorem dX10_rankAll_56 : decode cX10_rankAll 56 = .ok (.aload_n 2, 1) := by decide +kernel
theorem dX10_rankAll_57 : decode cX10_rankAll 57 = .ok (.getfield 303, 3) := by decide +kernel
theorem dX10_rankAll_60 : decode cX10_rankAll 60 = .ok (.goto 9, 3) := by decide +kernel
theorem dX10_rankAll_63 : decode cX10_rankAll 63 = .ok (.sipush 9999, 3) := by decide +kernel
theorem dX10_rankAll_66 : decode cX10_rankAll 66 = .ok (.iload 4, 2) := by decide +kernel
theorem dX10_rankAll_68 : decode cX10_rankAll 68 = .ok (.iadd, 1) := by decide +kernel
theorem dX10_rankAll_69 : decode cX10_rankAll 69 = .ok (.iastore, 1) := by decide +kernel
theorem dX10_rankAll_7 : decode cX10_rankAll 7 = .ok (.getfield 87, 3) := by decide +kernel
theorem dX10_rankAll_70 : decode cX10_rankAll 70 = .ok (.iinc 1 1, 3) := by decide +kernel
theorem dX10_rankAll_73 : decode cX10_rankAll 73 = .ok (.goto (-71), 3) := by decide +kernel
theorem dX10_rankAll_76 : decode cX10_rankAll 76 = .ok (.return_, 1) := by decide +kernel
theorem dX10_where_0 : decode cX10_where 0 = .ok (.aload_n 0, 1) := by decide +kernel
theorem dX10_where_1 : decode cX10_where 1 = .ok (.iload_n 1, 1) := by decide +kernel
theorem dX10_where_10 : decode cX10_where 10 = .ok (.bipush 60, 2) := by decide +kernel
theorem dX10_where_12 : decode cX10_where 12 = .ok (.invokestatic 79, 3) := by decide +kernel
theorem dX10_where_15 : decode cX10_where 15 = .ok (.ifCond .ne 10, 3) := by decide +kernel
theorem dX10_where_18 : decode cX10_where 18 = .ok (.aload_n 0, 1) := by decide +kernel
theorem dX10_where_19 : decode cX10_where 19 = .ok (.bipush (-2), 2) := by decide +kernel
theorem dX10_where_2 : decode cX10_where 2 = .ok (.invokevirtual 123, 3) := by decide +kernel
theorem dX10_where_21 : decode cX10_where 21 = .ok (.invokevirtual 83, 3) := by decide +kernel
theorem dX10_where_24 : decode cX10_where 24 = .ok (.ireturn, 1) := by decide +kernel
theorem dX10_where_25 : decode cX10_where 25 = .ok (.aload_n 0, 1) := by decide +kernel
theorem dX10_where_26 : decode cX10_where 26 = .ok (.getfield 48, 3) := by decide +kernel
theorem dX10_where_29 : decode cX10_where 29 = .ok (.aload_n 0, 1) := by decide +kernel
theorem dX10_where_30 : decode cX10_where 30 = .ok (.getfield 10, 3) := by decide +kernel
theorem dX10_where_33 : decode cX10_where 33 = .ok (.getfield 126, 3) := by decide +kernel
theorem dX10_where_36 : decode cX10_where 36 = .ok (.iload_n 1, 1) := by decide +kernel
theorem dX10_where_37 : decode cX10_where 37 = .ok (.aaload, 1) := by decide +kernel
theorem dX10_where_38 : decode cX10_where 38 = .ok (.invokevirtual 148, 3) := by decide +kernel
theorem dX10_where_41 : decode cX10_where 41 = .ok (.aload_n 0, 1) := by decide +kernel
theorem dX10_where_42 : decode cX10_where 42 = .ok (.getfield 48, 3) := by decide +kernel
theorem dX10_where_45 : decode cX10_where 45 = .ok (.aload_n 0, 1) := by decide +kernel
theorem dX10_where_46 : decode cX10_where 46 = .ok (.getfield 10, 3) := by decide +kernel
theorem dX10_where_49 : decode cX10_where 49 = .ok (.getfield 110, 3) := by decide +kernel
theorem dX10_where_5 : decode cX10_where 5 = .ok (.ifCond .eq 13, 3) := by decide +kernel
theorem dX10_where_52 : decode cX10_where 52 = .ok (.aload_n 0, 1) := by decide +kernel
theorem dX10_where_53 : decode cX10_where 53 = .ok (.getfield 10, 3) := by decide +kernel
theorem dX10_where_56 : decode cX10_where 56 = .ok (.getfield 140, 3) := by decide +kernel
theorem dX10_where_59 : decode cX10_where 59 = .ok (.iload_n 2, 1) := by decide +kernel
theorem dX10_where_60 : decode cX10_where 60 = .ok (.invokevirtual 152, 3) := by decide +kernel
theorem dX10_where_63 : decode cX10_where 63 = .ok (.ireturn, 1) := by decide +kernel
theorem dX10_where_8 : decode cX10_where 8 = .ok (.iload_n 2, 1) := by decide +kernel
theorem dX10_where_9 : decode cX10_where 9 = .ok (.iconst 0, 1) := by decide +kernel
theorem in_X10_where_X10 : ∀ w ∈ wsX100, w ∈ wsX10_where := by decide +kernel
theorem lk_X10_where_48 : Cond.fieldLink RX10 48 "EggSpoons" "ghost" "LEggSpoons$Runner;" ∈ wsX10_where := by decide +kernel
theorem lk_X10_where_10 : Cond.fieldLink RX10 10 "EggSpoons" "now" "LEggSpoons$Race;" ∈ wsX10_where := by decide +kernel
theorem in_X10_where_X5 : ∀ w ∈ wsX50, w ∈ wsX10_where := by decide +kernel
theorem lk_X10_where_126 : Cond.fieldLink RX10 126 "EggSpoons$Race" "row" "[LEggSpoons$Runner;" ∈ wsX10_where := by decide +kernel
theorem hdV_X8_copyFrom : yX8_copyFrom.cls = RX8 ∧ yX8_copyFrom.cls ≠ "java/lang/invoke/MethodHandle" ∧ yX8_copyFrom.cls ≠ "java/lang/invoke/VarHandle" ∧ (parseMethodDescriptor yX8_copyFrom.desc).map (fun d => d.parameters.length) = some 1 := by decide +kernel
theorem lk_X10_where_110 : Cond.fieldLink RX10 110 "EggSpoons$Race" "tick" "I" ∈ wsX10_where := by decide +kernel
theorem lk_X10_where_140 : Cond.fieldLink RX10 140 "EggSpoons$Race" "length" "I" ∈ wsX10_where := by decide +kernel
theorem hdV_X8_placeBehind : yX8_placeBehind.cls = RX8 ∧ yX8_placeBehind.cls ≠ "java/lang/invoke/MethodHandle" ∧ yX8_placeBehind.cls ≠ "java/lang/invoke/VarHandle" ∧ (parseMethodDescriptor yX8_placeBehind.desc).map (fun d => d.parameters.length) = some 3 := by decide +kernel
set_option maxHeartbeats 4000000 in
set_option maxRecDepth 100000 in
/-- where -/
theorem s_where (l : Launch) (X : EX) (h0 : Nat) (nw : Nat) (sp : Nat) (xa : Nat → Nat) (la : Int64) (lb : Int64) (an : Nat → Nat) (sv : Nat → Int32) (dv : Nat → Int32) (n0 : Nat) (n1 : Nat) (n2 : Nat) (n3 : Nat) (n4 : Nat) (g0 : Nat → Int32) (gs : Nat → Int32) (gn : Nat → Int32) (gm : Nat → Int32) (ag : Nat → Int32) (dg : Nat → Int32) (fr : Nat → Int32) (x1 : Int32) (x2 : Int32) (hI_n0 : n0 ≤ 6) (hI_n1 : n1 ≤ 8) (hI_n2 : n2 ≤ 5) (hI_n3 : n3 ≤ 6) (hI_n4 : n4 ≤ 6) (sz : Nat) : Met l yX10_where wsX10_where ({ frames := 3, cells := 0, slots := 0, locals := 73 } : Room) (pE X [.ref h0, .int x1, .int x2] (@HAppend.hAppend va_W va_W va_W _ (xW h0 nw sp xa la lb) (@HAppend.hAppend va_W va_W va_W _ (rcV X nw an sv dv n0 n1 n2 n3 n4 g0 gs gn gm) (@HAppend.hAppend va_W va_W va_W _ (rnV (xa 8) ag dg) ([((xa 5), .inl (X.2.1, 3, .inl fr))])))) sz) (qI (fun (r : Int32) (u : (Nat → Int32) × (Nat → Int32) × (Nat → Int32)) => (True)) X (fun (u : (Nat → Int32) × (Nat → Int32) × (Nat → Int32)) => @HAppend.hAppend va_W va_W va_W _ (xW h0 nw sp xa la lb) (@HAppend.hAppend va_W va_W va_W _ (rcV X nw an sv dv n0 n1 n2 n3 n4 g0 gs gn gm) (@HAppend.hAppend va_W va_W va_W _ (rnV (xa 8) u.1 u.2.1) ([((xa 5), .inl (X.2.1, 3, .inl u.2.2))])))) (@HAppend.hAppend va_W va_W va_W _ (xW h0 nw sp xa la lb) (@HAppend.hAppend va_W va_W va_W _ (rcV X nw an sv dv n0 n1 n2 n3 n4 g0 gs gn gm) (@HAppend.hAppend va_W va_W va_W _ (rnV (xa 8) ag dg) ([((xa 5), .inl (X.2.1, 3, .inl fr))])))) sz) 0 0 (va_A (@HAppend.hAppend va_W va_W va_W _ (xW h0 nw sp xa la lb) (@HAppend.hAppend va_W va_W va_W _ (rcV X nw an sv dv n0 n1 n2 n3 n4 g0 gs gn gm) (@HAppend.hAppend va_W va_W va_W _ (rnV (xa 8) ag dg) ([((xa 5), .inl (X.2.1, 3, .inl fr))])))) sz) := by
  refine mk_met (B := (va_A (@HAppend.hAppend va_W va_W va_W _ (xW h0 nw sp xa la lb) (@HAppend.hAppend va_W va_W va_W _ (rcV X nw an sv dv n0 n1 n2 n3 n4 g0 gs gn gm) (@HAppend.hAppend va_W va_W va_W _ (rnV (xa 8) ag dg) ([((xa 5), .inl (X.2.1, 3, .inl fr))])))) sz)) (A := (va_A (@HAppend.hAppend va_W va_W va_W _ (xW h0 nw sp xa la lb) (@HAppend.hAppend va_W va_W va_W _ (rcV X nw an sv dv n0 n1 n2 n3 n4 g0 gs gn gm) (@HAppend.hAppend va_W va_W va_W _ (rnV (xa 8) ag dg) ([((xa 5), .inl (X.2.1, 3, .inl fr))])))) sz)) (cc := cX10_where) (maxL := 3) (ret := (some .int)) (by decide) rfl (Nat.le_of_ble_eq_true rfl) k_w k_a (fun p e s m below meth c S zr zlk znm zsz G ls hl => ?_)
  have S : CallFix p m c cX10_where 3 s _ wsX10_where RX10 := S
  have zx := S.1
  have zb := S.2.1
  have hl : lv_has ls 3 [(0, .ref h0), (1, .int x1), (2, .int x2)] := hl
  refine lv_aload_n zx zb dX10_where_0 rfl (lv_at hl 0 rfl) ?_
  refine lv_iload_n zx zb dX10_where_1 rfl (lv_at hl 1 rfl) ?_
  refine o_ri (cells' := 0) (slots' := 0) G rfl rfl (n_V (As := [.int x1]) (rest := []) (C := RX10) (T := TX10) (N := 14) (ci := 8) S G (s_there l X h0 nw sp xa la lb an sv dv n0 n1 n2 n3 n4 g0 gs gn gm x1 hI_n0 hI_n1 hI_n2 hI_n3 hI_n4 s.heap.size) gX10_where_X10_there rfl rfl rfl hdV_X10_there ⟨Nat.le_of_ble_eq_true rfl, Nat.le_of_ble_eq_true rfl⟩ [0, 1, 2, 3, 4, 5, 6, 7, 8, 9, 10, 11, 12, 13, 14, 15, 16] rfl rfl 0 rfl rfl rfl hl.1 (Nat.le_of_ble_eq_true rfl) dX10_where_2 ⟨Nat.le_of_ble_eq_true rfl, Nat.le_of_ble_eq_true rfl⟩) (fun r_1 u_1 H locs hp_1 G => ?_)
  have G : wd X (va_A (@HAppend.hAppend va_W va_W va_W _ (xW h0 nw sp xa la lb) (@HAppend.hAppend va_W va_W va_W _ (rcV X nw an sv dv n0 n1 n2 n3 n4 g0 gs gn gm) (@HAppend.hAppend va_W va_W va_W _ (rnV (xa 8) ag dg) ([((xa 5), .inl (X.2.1, 3, .inl fr))])))) sz) (va_A (@HAppend.hAppend va_W va_W va_W _ (xW h0 nw sp xa la lb) (@HAppend.hAppend va_W va_W va_W _ (rcV X nw an sv dv n0 n1 n2 n3 n4 g0 gs gn gm) (@HAppend.hAppend va_W va_W va_W _ (rnV (xa 8) ag dg) ([((xa 5), .inl (X.2.1, 3, .inl fr))])))) sz) s (@HAppend.hAppend va_W va_W va_W _ (xW h0 nw sp xa la lb) (@HAppend.hAppend va_W va_W va_W _ (rcV X nw an sv dv n0 n1 n2 n3 n4 g0 gs gn gm) (@HAppend.hAppend va_W va_W va_W _ (rnV (xa 8) ag dg) ([((xa 5), .inl (X.2.1, 3, .inl fr))])))) H locs := G
  rcases hp_1 with ⟨rfl, hj_1⟩ | ⟨rfl, hj_1⟩
  · obtain ⟨j_1, hj_1, rfl⟩ := hj_1
    refine lv_if_eq (tgt := 18) zx zb dX10_where_5 (by decide) (fun c_2 => absurd c_2 (by decide)) (fun c_2 => ?_)
    refine lv_iload_n zx zb dX10_where_8 rfl (lv_at hl 2 rfl) ?_
    refine lv_iconst (v := 0) zx zb dX10_where_9 (by decide) ?_
    refine lv_bipush (v := 60) zx zb dX10_where_10 (by decide) ?_
    refine o_ri (cells' := 0) (slots' := 0) G rfl rfl (n_S (As := [.int x2, .int 0, .int 60]) (rest := []) S G (s_within l X x2 0 60 H.size) gX10_where_X10_within rfl rfl rfl hdS_X10_within ⟨Nat.le_of_ble_eq_true rfl, Nat.le_of_ble_eq_true rfl⟩ [] rfl rfl rfl hl.1 (Nat.le_of_ble_eq_true rfl) dX10_where_12 ⟨Nat.le_of_ble_eq_true rfl, Nat.le_of_ble_eq_true rfl⟩) (fun r_3 u_3 H locs hp_3 G => ?_)
    have G : wd X (va_A (@HAppend.hAppend va_W va_W va_W _ (xW h0 nw sp xa la lb) (@HAppend.hAppend va_W va_W va_W _ (rcV X nw an sv dv n0 n1 n2 n3 n4 g0 gs gn gm) (@HAppend.hAppend va_W va_W va_W _ (rnV (xa 8) ag dg) ([((xa 5), .inl (X.2.1, 3, .inl fr))])))) sz) (va_A (@HAppend.hAppend va_W va_W va_W _ (xW h0 nw sp xa la lb) (@HAppend.hAppend va_W va_W va_W _ (rcV X nw an sv dv n0 n1 n2 n3 n4 g0 gs gn gm) (@HAppend.hAppend va_W va_W va_W _ (rnV (xa 8) ag dg) ([((xa 5), .inl (X.2.1, 3, .inl fr))])))) sz) s (@HAppend.hAppend va_W va_W va_W _ (xW h0 nw sp xa la lb) (@HAppend.hAppend va_W va_W va_W _ (rcV X nw an sv dv n0 n1 n2 n3 n4 g0 gs gn gm) (@HAppend.hAppend va_W va_W va_W _ (rnV (xa 8) ag dg) ([((xa 5), .inl (X.2.1, 3, .inl fr))])))) H locs := G
    rcases hp_3 with ⟨rfl, hw_3⟩ | ⟨rfl, hw_3⟩
    · refine lv_if_ne (tgt := 25) zx zb dX10_where_15 (by decide) (fun c_4 => ?_) (fun c_4 => absurd c_4 (by decide))
      refine lv_aload_n zx zb dX10_where_25 rfl (lv_at hl 0 rfl) ?_
      refine r_get (C := RX10) (T := TX10) (N := 14) (ci := 8) (v := .ref (xa 8)) S in_X10_where_X10 G 0 rfl rfl 8 (by decide) lk_X10_where_48 rfl dX10_where_26 ?_
      refine lv_aload_n zx zb dX10_where_29 rfl (lv_at hl 0 rfl) ?_
      refine r_get (C := RX10) (T := TX10) (N := 14) (ci := 8) (v := .ref nw) S in_X10_where_X10 G 0 rfl rfl 0 (by decide) lk_X10_where_10 rfl dX10_where_30 ?_
      refine r_get (C := RX5) (T := TX5) (N := 8) (ci := 3) (v := .ref (an 0)) S in_X10_where_X5 G 1 rfl rfl 3 (by decide) lk_X10_where_126 rfl dX10_where_33 ?_
      refine lv_iload_n zx zb dX10_where_36 rfl (lv_at hl 1 rfl) ?_
      rcases k_6c (show j_1 < 6 by omega) with rfl | rfl | rfl | rfl | rfl | rfl
      · refine k_it (v := 0) rfl ?_
        refine r_aald (C := RX8) (b := (an 1)) S G 2 3 rfl rfl (k_vp (by decide)) rfl dX10_where_37 ?_
        refine b_wv (cells' := 0) (slots' := 0) (wr := @HAppend.hAppend va_W va_W va_W _ (xW h0 nw sp xa la lb) (@HAppend.hAppend va_W va_W va_W _ ([(nw, .inr (3, [.int (dv 0), .int (dv 1), .int (nI n0), .ref (an 0), .ref (an 7), .ref (an 9), .ref (an 11), .ref (an 13)])), ((an 0), .inl (X.2.2.2.2, 6, .inr (.inr (.inr (.inr (rowQ an)))))), ((an 2), .inr (6, [.int (sv 3), .int (sv 4), .int (sv 5), .int (dv 15), .int (dv 16), .int (dv 17), .int (dv 18), .int (dv 19)])), ((an 3), .inr (6, [.int (sv 6), .int (sv 7), .int (sv 8), .int (dv 20), .int (dv 21), .int (dv 22), .int (dv 23), .int (dv 24)])), ((an 4), .inr (6, [.int (sv 9), .int (sv 10), .int (sv 11), .int (dv 25), .int (dv 26), .int (dv 27), .int (dv 28), .int (dv 29)])), ((an 5), .inr (6, [.int (sv 12), .int (sv 13), .int (sv 14), .int (dv 30), .int (dv 31), .int (dv 32), .int (dv 33), .int (dv 34)])), ((an 6), .inr (6, [.int (sv 15), .int (sv 16), .int (sv 17), .int (dv 35), .int (dv 36), .int (dv 37), .int (dv 38), .int (dv 39)])), ((an 7), .inr (2, [.ref (an 8), .int (nI n1)])), ((an 8), .inl (X.2.1, 248, .inl g0)), ((an 9), .inr (5, [.int 5, .int 0, .int 1, .ref (an 10), .int (nI n2)])), ((an 10), .inl (X.2.1, 25, .inl gs)), ((an 11), .inr (5, [.int 6, .int 1, .int 1, .ref (an 12), .int (nI n3)])), ((an 12), .inl (X.2.1, 30, .inl gn)), ((an 13), .inr (5, [.int 6, .int 0, .int 0, .ref (an 14), .int (nI n4)])), ((an 14), .inl (X.2.1, 30, .inl gm))]) ([((xa 5), .inl (X.2.1, 3, .inl fr))]))) G rfl rfl [17, 3] [0, 1, 2, 4, 5, 6, 7, 8, 9, 10, 11, 12, 13, 14, 15, 16, 18] rfl rfl rfl rfl (n_V (As := [.ref (an 1)]) (rest := []) (C := RX8) (T := TX8) (N := 8) (ci := 6) S G (s_rcopy l X (xa 8) ag dg (an 1) (fun k => sv (0 + k)) (fun k => dv (10 + k)) H.size) gX10_where_X8_copyFrom rfl rfl rfl hdV_X8_copyFrom ⟨Nat.le_of_ble_eq_true rfl, Nat.le_of_ble_eq_true rfl⟩ [17, 3] rfl rfl 17 rfl rfl rfl hl.1 (Nat.le_of_ble_eq_true rfl) dX10_where_38 ⟨Nat.le_of_ble_eq_true rfl, Nat.le_of_ble_eq_true rfl⟩) (fun u_5 H locs hp_5 G => ?_)
        obtain ⟨a_5a, d_5b⟩ := u_5
        have hq_5 := hp_5
        have G : wd X (va_A (@HAppend.hAppend va_W va_W va_W _ (xW h0 nw sp xa la lb) (@HAppend.hAppend va_W va_W va_W _ (rcV X nw an sv dv n0 n1 n2 n3 n4 g0 gs gn gm) (@HAppend.hAppend va_W va_W va_W _ (rnV (xa 8) ag dg) ([((xa 5), .inl (X.2.1, 3, .inl fr))])))) sz) (va_A (@HAppend.hAppend va_W va_W va_W _ (xW h0 nw sp xa la lb) (@HAppend.hAppend va_W va_W va_W _ (rcV X nw an sv dv n0 n1 n2 n3 n4 g0 gs gn gm) (@HAppend.hAppend va_W va_W va_W _ (rnV (xa 8) ag dg) ([((xa 5), .inl (X.2.1, 3, .inl fr))])))) sz) s (@HAppend.hAppend va_W va_W va_W _ (xW h0 nw sp xa la lb) (@HAppend.hAppend va_W va_W va_W _ (rcV X nw an sv dv n0 n1 n2 n3 n4 g0 gs gn gm) (@HAppend.hAppend va_W va_W va_W _ ([((xa 5), .inl (X.2.1, 3, .inl fr))]) (rnV (xa 8) a_5a d_5b)))) H locs := wd_sub G [0, 1, 2, 18, 3, 4, 5, 6, 7, 8, 9, 10, 11, 12, 13, 14, 15, 16, 17] rfl rfl
        refine lv_aload_n zx zb dX10_where_41 rfl (lv_at hl 0 rfl) ?_
        refine r_get (C := RX10) (T := TX10) (N := 14) (ci := 8) (v := .ref (xa 8)) S in_X10_where_X10 G 0 rfl rfl 8 (by decide) lk_X10_where_48 rfl dX10_where_42 ?_
        refine lv_aload_n zx zb dX10_where_45 rfl (lv_at hl 0 rfl) ?_
        refine r_get (C := RX10) (T := TX10) (N := 14) (ci := 8) (v := .ref nw) S in_X10_where_X10 G 0 rfl rfl 0 (by decide) lk_X10_where_10 rfl dX10_where_46 ?_
        refine r_get (C := RX5) (T := TX5) (N := 8) (ci := 3) (v := .int (dv 1)) S in_X10_where_X5 G 1 rfl rfl 1 (by decide) lk_X10_where_110 rfl dX10_where_49 ?_
        refine lv_aload_n zx zb dX10_where_52 rfl (lv_at hl 0 rfl) ?_
        refine r_get (C := RX10) (T := TX10) (N := 14) (ci := 8) (v := .ref nw) S in_X10_where_X10 G 0 rfl rfl 0 (by decide) lk_X10_where_10 rfl dX10_where_53 ?_
        refine r_get (C := RX5) (T := TX5) (N := 8) (ci := 3) (v := .int (dv 0)) S in_X10_where_X5 G 1 rfl rfl 0 (by decide) lk_X10_where_140 rfl dX10_where_56 ?_
        refine lv_iload_n zx zb dX10_where_59 rfl (lv_at hl 2 rfl) ?_
        refine b_wi (cells' := 0) (slots' := 0) (wr := @HAppend.hAppend va_W va_W va_W _ (xW h0 nw sp xa la lb) (@HAppend.hAppend va_W va_W va_W _ (rcV X nw an sv dv n0 n1 n2 n3 n4 g0 gs gn gm) ([((xa 5), .inl (X.2.1, 3, .inl fr))]))) G rfl rfl [18] [0, 1, 2, 3, 4, 5, 6, 7, 8, 9, 10, 11, 12, 13, 14, 15, 16, 17] rfl rfl rfl rfl (n_V (As := [.int (dv 1), .int (dv 0), .int x2]) (rest := []) (C := RX8) (T := TX8) (N := 8) (ci := 6) S G (s_placeBehind l X (xa 8) a_5a d_5b (dv 1) (dv 0) x2 (by first | decide | assumption | exact hw_3.2) H.size) gX10_where_X8_placeBehind rfl rfl rfl hdV_X8_placeBehind ⟨Nat.le_of_ble_eq_true rfl, Nat.le_of_ble_eq_true rfl⟩ [18] rfl rfl 18 rfl rfl rfl hl.1 (Nat.le_of_ble_eq_true rfl) dX10_where_60 ⟨Nat.le_of_ble_eq_true rfl, Nat.le_of_ble_eq_true rfl⟩) (fun r_6 u_6 H locs hp_6 G => ?_)
        obtain ⟨d_6, rfl⟩ : ∃ z, z = u_6 := ⟨_, rfl⟩
        have hq_6 := hp_6
        have G : wd X (va_A (@HAppend.hAppend va_W va_W va_W _ (xW h0 nw sp xa la lb) (@HAppend.hAppend va_W va_W va_W _ (rcV X nw an sv dv n0 n1 n2 n3 n4 g0 gs gn gm) (@HAppend.hAppend va_W va_W va_W _ (rnV (xa 8) ag dg) ([((xa 5), .inl (X.2.1, 3, .inl fr))])))) sz) (va_A (@HAppend.hAppend va_W va_W va_W _ (xW h0 nw sp xa la lb) (@HAppend.hAppend va_W va_W va_W _ (rcV X nw an sv dv n0 n1 n2 n3 n4 g0 gs gn gm) (@HAppend.hAppend va_W va_W va_W _ (rnV (xa 8) ag dg) ([((xa 5), .inl (X.2.1, 3, .inl fr))])))) sz) s (@HAppend.hAppend va_W va_W va_W _ (xW h0 nw sp xa la lb) (@HAppend.hAppend va_W va_W va_W _ (rcV X nw an sv dv n0 n1 n2 n3 n4 g0 gs gn gm) (@HAppend.hAppend va_W va_W va_W _ ([((xa 5), .inl (X.2.1, 3, .inl fr))]) (rnV (xa 8) a_5a d_6)))) H locs := G
        exact e_int S zr zlk (vp_nar_int _) G (a_5a, d_6, fr) [0, 1, 2, 3, 4, 5, 6, 7, 8, 9, 10, 11, 12, 13, 14, 15, 16, 18, 17] rfl rfl (Or.inr rfl) (trivial) dX10_where_63
      · refine k_it (v := 1) rfl ?_
        refine r_aald (C := RX8) (b := (an 2)) S G 2 3 rfl rfl (k_vp (by decide)) rfl dX10_where_37 ?_
        refine b_wv (cells' := 0) (slots' := 0) (wr := @HAppend.hAppend va_W va_W va_W _ (xW h0 nw sp xa la lb) (@HAppend.hAppend va_W va_W va_W _ ([(nw, .inr (3, [.int (dv 0), .int (dv 1), .int (nI n0), .ref (an 0), .ref (an 7), .ref (an 9), .ref (an 11), .ref (an 13)])), ((an 0), .inl (X.2.2.2.2, 6, .inr (.inr (.inr (.inr (rowQ an)))))), ((an 1), .inr (6, [.int (sv 0), .int (sv 1), .int (sv 2), .int (dv 10), .int (dv 11), .int (dv 12), .int (dv 13), .int (dv 14)])), ((an 3), .inr (6, [.int (sv 6), .int (sv 7), .int (sv 8), .int (dv 20), .int (dv 21), .int (dv 22), .int (dv 23), .int (dv 24)])), ((an 4), .inr (6, [.int (sv 9), .int (sv 10), .int (sv 11), .int (dv 25), .int (dv 26), .int (dv 27), .int (dv 28), .int (dv 29)])), ((an 5), .inr (6, [.int (sv 12), .int (sv 13), .int (sv 14), .int (dv 30), .int (dv 31), .int (dv 32), .int (dv 33), .int (dv 34)])), ((an 6), .inr (6, [.int (sv 15), .int (sv 16), .int (sv 17), .int (dv 35), .int (dv 36), .int (dv 37), .int (dv 38), .int (dv 39)])), ((an 7), .inr (2, [.ref (an 8), .int (nI n1)])), ((an 8), .inl (X.2.1, 248, .inl g0)), ((an 9), .inr (5, [.int 5, .int 0, .int 1, .ref (an 10), .int (nI n2)])), ((an 10), .inl (X.2.1, 25, .inl gs)), ((an 11), .inr (5, [.int 6, .int 1, .int 1, .ref (an 12), .int (nI n3)])), ((an 12), .inl (X.2.1, 30, .inl gn)), ((an 13), .inr (5, [.int 6, .int 0, .int 0, .ref (an 14), .int (nI n4)])), ((an 14), .inl (X.2.1, 30, .inl gm))]) ([((xa 5), .inl (X.2.1, 3, .inl fr))]))) G rfl rfl [17, 4] [0, 1, 2, 3, 5, 6, 7, 8, 9, 10, 11, 12, 13, 14, 15, 16, 18] rfl rfl rfl rfl (n_V (As := [.ref (an 2)]) (rest := []) (C := RX8) (T := TX8) (N := 8) (ci := 6) S G (s_rcopy l X (xa 8) ag dg (an 2) (fun k => sv (3 + k)) (fun k => dv (15 + k)) H.size) gX10_where_X8_copyFrom rfl rfl rfl hdV_X8_copyFrom ⟨Nat.le_of_ble_eq_true rfl, Nat.le_of_ble_eq_true rfl⟩ [17, 4] rfl rfl 17 rfl rfl rfl hl.1 (Nat.le_of_ble_eq_true rfl) dX10_where_38 ⟨Nat.le_of_ble_eq_true rfl, Nat.le_of_ble_eq_true rfl⟩) (fun u_7 H locs hp_7 G => ?_)
        obtain ⟨a_7a, d_7b⟩ := u_7
        have hq_7 := hp_7
        have G : wd X (va_A (@HAppend.hAppend va_W va_W va_W _ (xW h0 nw sp xa la lb) (@HAppend.hAppend va_W va_W va_W _ (rcV X nw an sv dv n0 n1 n2 n3 n4 g0 gs gn gm) (@HAppend.hAppend va_W va_W va_W _ (rnV (xa 8) ag dg) ([((xa 5), .inl (X.2.1, 3, .inl fr))])))) sz) (va_A (@HAppend.hAppend va_W va_W va_W _ (xW h0 nw sp xa la lb) (@HAppend.hAppend va_W va_W va_W _ (rcV X nw an sv dv n0 n1 n2 n3 n4 g0 gs gn gm) (@HAppend.hAppend va_W va_W va_W _ (rnV (xa 8) ag dg) ([((xa 5), .inl (X.2.1, 3, .inl fr))])))) sz) s (@HAppend.hAppend va_W va_W va_W _ (xW h0 nw sp xa la lb) (@HAppend.hAppend va_W va_W va_W _ (rcV X nw an sv dv n0 n1 n2 n3 n4 g0 gs gn gm) (@HAppend.hAppend va_W va_W va_W _ ([((xa 5), .inl (X.2.1, 3, .inl fr))]) (rnV (xa 8) a_7a d_7b)))) H locs := wd_sub G [0, 1, 2, 3, 18, 4, 5, 6, 7, 8, 9, 10, 11, 12, 13, 14, 15, 16, 17] rfl rfl
        refine lv_aload_n zx zb dX10_where_41 rfl (lv_at hl 0 rfl) ?_
        refine r_get (C := RX10) (T := TX10) (N := 14) (ci := 8) (v := .ref (xa 8)) S in_X10_where_X10 G 0 rfl rfl 8 (by decide) lk_X10_where_48 rfl dX10_where_42 ?_
        refine lv_aload_n zx zb dX10_where_45 rfl (lv_at hl 0 rfl) ?_
        refine r_get (C := RX10) (T := TX10) (N := 14) (ci := 8) (v := .ref nw) S in_X10_where_X10 G 0 rfl rfl 0 (by decide) lk_X10_where_10 rfl dX10_where_46 ?_
        refine r_get (C := RX5) (T := TX5) (N := 8) (ci := 3) (v := .int (dv 1)) S in_X10_where_X5 G 1 rfl rfl 1 (by decide) lk_X10_where_110 rfl dX10_where_49 ?_
        refine lv_aload_n zx zb dX10_where_52 rfl (lv_at hl 0 rfl) ?_
        refine r_get (C := RX10) (T := TX10) (N := 14) (ci := 8) (v := .ref nw) S in_X10_where_X10 G 0 rfl rfl 0 (by decide) lk_X10_where_10 rfl dX10_where_53 ?_
        refine r_get (C := RX5) (T := TX5) (N := 8) (ci := 3) (v := .int (dv 0)) S in_X10_where_X5 G 1 rfl rfl 0 (by decide) lk_X10_where_140 rfl dX10_where_56 ?_
        refine lv_iload_n zx zb dX10_where_59 rfl (lv_at hl 2 rfl) ?_
        refine b_wi (cells' := 0) (slots' := 0) (wr := @HAppend.hAppend va_W va_W va_W _ (xW h0 nw sp xa la lb) (@HAppend.hAppend va_W va_W va_W _ (rcV X nw an sv dv n0 n1 n2 n3 n4 g0 gs gn gm) ([((xa 5), .inl (X.2.1, 3, .inl fr))]))) G rfl rfl [18] [0, 1, 2, 3, 4, 5, 6, 7, 8, 9, 10, 11, 12, 13, 14, 15, 16, 17] rfl rfl rfl rfl (n_V (As := [.int (dv 1), .int (dv 0), .int x2]) (rest := []) (C := RX8) (T := TX8) (N := 8) (ci := 6) S G (s_placeBehind l X (xa 8) a_7a d_7b (dv 1) (dv 0) x2 (by first | decide | assumption | exact hw_3.2) H.size) gX10_where_X8_placeBehind rfl rfl rfl hdV_X8_placeBehind ⟨Nat.le_of_ble_eq_true rfl, Nat.le_of_ble_eq_true rfl⟩ [18] rfl rfl 18 rfl rfl rfl hl.1 (Nat.le_of_ble_eq_true rfl) dX10_where_60 ⟨Nat.le_of_ble_eq_true rfl, Nat.le_of_ble_eq_true rfl⟩) (fun r_8 u_8 H locs hp_8 G => ?_)
        obtain ⟨d_8, rfl⟩ : ∃ z, z = u_8 := ⟨_, rfl⟩
        have hq_8 := hp_8
        have G : wd X (va_A (@HAppend.hAppend va_W va_W va_W _ (xW h0 nw sp xa la lb) (@HAppend.hAppend va_W va_W va_W _ (rcV X nw an sv dv n0 n1 n2 n3 n4 g0 gs gn gm) (@HAppend.hAppend va_W va_W va_W _ (rnV (xa 8) ag dg) ([((xa 5), .inl (X.2.1, 3, .inl fr))])))) sz) (va_A (@HAppend.hAppend va_W va_W va_W _ (xW h0 nw sp xa la lb) (@HAppend.hAppend va_W va_W va_W _ (rcV X nw an sv dv n0 n1 n2 n3 n4 g0 gs gn gm) (@HAppend.hAppend va_W va_W va_W _ (rnV (xa 8) ag dg) ([((xa 5), .inl (X.2.1, 3, .inl fr))])))) sz) s (@HAppend.hAppend va_W va_W va_W _ (xW h0 nw sp xa la lb) (@HAppend.hAppend va_W va_W va_W _ (rcV X nw an sv dv n0 n1 n2 n3 n4 g0 gs gn gm) (@HAppend.hAppend va_W va_W va_W _ ([((xa 5), .inl (X.2.1, 3, .inl fr))]) (rnV (xa 8) a_7a d_8)))) H locs := G
        exact e_int S zr zlk (vp_nar_int _) G (a_7a, d_8, fr) [0, 1, 2, 3, 4, 5, 6, 7, 8, 9, 10, 11, 12, 13, 14, 15, 16, 18, 17] rfl rfl (Or.inr rfl) (trivial) dX10_where_63
      · refine k_it (v := 2) rfl ?_
        refine r_aald (C := RX8) (b := (an 3)) S G 2 3 rfl rfl (k_vp (by decide)) rfl dX10_where_37 ?_
        refine b_wv (cells' := 0) (slots' := 0) (wr := @HAppend.hAppend va_W va_W va_W _ (xW h0 nw sp xa la lb) (@HAppend.hAppend va_W va_W va_W _ ([(nw, .inr (3, [.int (dv 0), .int (dv 1), .int (nI n0), .ref (an 0), .ref (an 7), .ref (an 9), .ref (an 11), .ref (an 13)])), ((an 0), .inl (X.2.2.2.2, 6, .inr (.inr (.inr (.inr (rowQ an)))))), ((an 1), .inr (6, [.int (sv 0), .int (sv 1), .int (sv 2), .int (dv 10), .int (dv 11), .int (dv 12), .int (dv 13), .int (dv 14)])), ((an 2), .inr (6, [.int (sv 3), .int (sv 4), .int (sv 5), .int (dv 15), .int (dv 16), .int (dv 17), .int (dv 18), .int (dv 19)])), ((an 4), .inr (6, [.int (sv 9), .int (sv 10), .int (sv 11), .int (dv 25), .int (dv 26), .int (dv 27), .int (dv 28), .int (dv 29)])), ((an 5), .inr (6, [.int (sv 12), .int (sv 13), .int (sv 14), .int (dv 30), .int (dv 31), .int (dv 32), .int (dv 33), .int (dv 34)])), ((an 6), .inr (6, [.int (sv 15), .int (sv 16), .int (sv 17), .int (dv 35), .int (dv 36), .int (dv 37), .int (dv 38), .int (dv 39)])), ((an 7), .inr (2, [.ref (an 8), .int (nI n1)])), ((an 8), .inl (X.2.1, 248, .inl g0)), ((an 9), .inr (5, [.int 5, .int 0, .int 1, .ref (an 10), .int (nI n2)])), ((an 10), .inl (X.2.1, 25, .inl gs)), ((an 11), .inr (5, [.int 6, .int 1, .int 1, .ref (an 12), .int (nI n3)])), ((an 12), .inl (X.2.1, 30, .inl gn)), ((an 13), .inr (5, [.int 6, .int 0, .int 0, .ref (an 14), .int (nI n4)])), ((an 14), .inl (X.2.1, 30, .inl gm))]) ([((xa 5), .inl (X.2.1, 3, .inl fr))]))) G rfl rfl [17, 5] [0, 1, 2, 3, 4, 6, 7, 8, 9, 10, 11, 12, 13, 14, 15, 16, 18] rfl rfl rfl rfl (n_V (As := [.ref (an 3)]) (rest := []) (C := RX8) (T := TX8) (N := 8) (ci := 6) S G (s_rcopy l X (xa 8) ag dg (an 3) (fun k => sv (6 + k)) (fun k => dv (20 + k)) H.size) gX10_where_X8_copyFrom rfl rfl rfl hdV_X8_copyFrom ⟨Nat.le_of_ble_eq_true rfl, Nat.le_of_ble_eq_true rfl⟩ [17, 5] rfl rfl 17 rfl rfl rfl hl.1 (Nat.le_of_ble_eq_true rfl) dX10_where_38 ⟨Nat.le_of_ble_eq_true rfl, Nat.le_of_ble_eq_true rfl⟩) (fun u_9 H locs hp_9 G => ?_)
        obtain ⟨a_9a, d_9b⟩ := u_9
        have hq_9 := hp_9
        have G : wd X (va_A (@HAppend.hAppend va_W va_W va_W _ (xW h0 nw sp xa la lb) (@HAppend.hAppend va_W va_W va_W _ (rcV X nw an sv dv n0 n1 n2 n3 n4 g0 gs gn gm) (@HAppend.hAppend va_W va_W va_W _ (rnV (xa 8) ag dg) ([((xa 5), .inl (X.2.1, 3, .inl fr))])))) sz) (va_A (@HAppend.hAppend va_W va_W va_W _ (xW h0 nw sp xa la lb) (@HAppend.hAppend va_W va_W va_W _ (rcV X nw an sv dv n0 n1 n2 n3 n4 g0 gs gn gm) (@HAppend.hAppend va_W va_W va_W _ (rnV (xa 8) ag dg) ([((xa 5), .inl (X.2.1, 3, .inl fr))])))) sz) s (@HAppend.hAppend va_W va_W va_W _ (xW h0 nw sp xa la lb) (@HAppend.hAppend va_W va_W va_W _ (rcV X nw an sv dv n0 n1 n2 n3 n4 g0 gs gn gm) (@HAppend.hAppend va_W va_W va_W _ ([((xa 5), .inl (X.2.1, 3, .inl fr))]) (rnV (xa 8) a_9a d_9b)))) H locs := wd_sub G [0, 1, 2, 3, 4, 18, 5, 6, 7, 8, 9, 10, 11, 12, 13, 14, 15, 16, 17] rfl rfl
        refine lv_aload_n zx zb dX10_where_41 rfl (lv_at hl 0 rfl) ?_
        refine r_get (C := RX10) (T := TX10) (N := 14) (ci := 8) (v := .ref (xa 8)) S in_X10_where_X10 G 0 rfl rfl 8 (by decide) lk_X10_where_48 rfl dX10_where_42 ?_
        refine lv_aload_n zx zb dX10_where_45 rfl (lv_at hl 0 rfl) ?_
        refine r_get (C := RX10) (T := TX10) (N := 14) (ci := 8) (v := .ref nw) S in_X10_where_X10 G 0 rfl rfl 0 (by decide) lk_X10_where_10 rfl dX10_where_46 ?_
        refine r_get (C := RX5) (T := TX5) (N := 8) (ci := 3) (v := .int (dv 1)) S in_X10_where_X5 G 1 rfl rfl 1 (by decide) lk_X10_where_110 rfl dX10_where_49 ?_
        refine lv_aload_n zx zb dX10_where_52 rfl (lv_at hl 0 rfl) ?_
        refine r_get (C := RX10) (T := TX10) (N := 14) (ci := 8) (v := .ref nw) S in_X10_where_X10 G 0 rfl rfl 0 (by decide) lk_X10_where_10 rfl dX10_where_53 ?_
        refine r_get (C := RX5) (T := TX5) (N := 8) (ci := 3) (v := .int (dv 0)) S in_X10_where_X5 G 1 rfl rfl 0 (by decide) lk_X10_where_140 rfl dX10_where_56 ?_
        refine lv_iload_n zx zb dX10_where_59 rfl (lv_at hl 2 rfl) ?_
        refine b_wi (cells' := 0) (slots' := 0) (wr := @HAppend.hAppend va_W va_W va_W _ (xW h0 nw sp xa la lb) (@HAppend.hAppend va_W va_W va_W _ (rcV X nw an sv dv n0 n1 n2 n3 n4 g0 gs gn gm) ([((xa 5), .inl (X.2.1, 3, .inl fr))]))) G rfl rfl [18] [0, 1, 2, 3, 4, 5, 6, 7, 8, 9, 10, 11, 12, 13, 14, 15, 16, 17] rfl rfl rfl rfl (n_V (As := [.int (dv 1), .int (dv 0), .int x2]) (rest := []) (C := RX8) (T := TX8) (N := 8) (ci := 6) S G (s_placeBehind l X (xa 8) a_9a d_9b (dv 1) (dv 0) x2 (by first | decide | assumption | exact hw_3.2) H.size) gX10_where_X8_placeBehind rfl rfl rfl hdV_X8_placeBehind ⟨Nat.le_of_ble_eq_true rfl, Nat.le_of_ble_eq_true rfl⟩ [18] rfl rfl 18 rfl rfl rfl hl.1 (Nat.le_of_ble_eq_true rfl) dX10_where_60 ⟨Nat.le_of_ble_eq_true rfl, Nat.le_of_ble_eq_true rfl⟩) (fun r_10 u_10 H locs hp_10 G => ?_)
        obtain ⟨d_10, rfl⟩ : ∃ z, z = u_10 := ⟨_, rfl⟩
        have hq_10 := hp_10
        have G : wd X (va_A (@HAppend.hAppend va_W va_W va_W _ (xW h0 nw sp xa la lb) (@HAppend.hAppend va_W va_W va_W _ (rcV X nw an sv dv n0 n1 n2 n3 n4 g0 gs gn gm) (@HAppend.hAppend va_W va_W va_W _ (rnV (xa 8) ag dg) ([((xa 5), .inl (X.2.1, 3, .inl fr))])))) sz) (va_A (@HAppend.hAppend va_W va_W va_W _ (xW h0 nw sp xa la lb) (@HAppend.hAppend va_W va_W va_W _ (rcV X nw an sv dv n0 n1 n2 n3 n4 g0 gs gn gm) (@HAppend.hAppend va_W va_W va_W _ (rnV (xa 8) ag dg) ([((xa 5), .inl (X.2.1, 3, .inl fr))])))) sz) s (@HAppend.hAppend va_W va_W va_W _ (xW h0 nw sp xa la lb) (@HAppend.hAppend va_W va_W va_W _ (rcV X nw an sv dv n0 n1 n2 n3 n4 g0 gs gn gm) (@HAppend.hAppend va_W va_W va_W _ ([((xa 5), .inl (X.2.1, 3, .inl fr))]) (rnV (xa 8) a_9a d_10)))) H locs := G
        exact e_int S zr zlk (vp_nar_int _) G (a_9a, d_10, fr) [0, 1, 2, 3, 4, 5, 6, 7, 8, 9, 10, 11, 12, 13, 14, 15, 16, 18, 17] rfl rfl (Or.inr rfl) (trivial) dX10_where_63
      · refine k_it (v := 3) rfl ?_
        refine r_aald (C := RX8) (b := (an 4)) S G 2 3 rfl rfl (k_vp (by decide)) rfl dX10_where_37 ?_
        refine b_wv (cells' := 0) (slots' := 0) (wr := @HAppend.hAppend va_W va_W va_W _ (xW h0 nw sp xa la lb) (@HAppend.hAppend va_W va_W va_W _ ([(nw, .inr (3, [.int (dv 0), .int (dv 1), .int (nI n0), .ref (an 0), .ref (an 7), .ref (an 9), .ref (an 11), .ref (an 13)])), ((an 0), .inl (X.2.2.2.2, 6, .inr (.inr (.inr (.inr (rowQ an)))))), ((an 1), .inr (6, [.int (sv 0), .int (sv 1), .int (sv 2), .int (dv 10), .int (dv 11), .int (dv 12), .int (dv 13), .int (dv 14)])), ((an 2), .inr (6, [.int (sv 3), .int (sv 4), .int (sv 5), .int (dv 15), .int (dv 16), .int (dv 17), .int (dv 18), .int (dv 19)])), ((an 3), .inr (6, [.int (sv 6), .int (sv 7), .int (sv 8), .int (dv 20), .int (dv 21), .int (dv 22), .int (dv 23), .int (dv 24)])), ((an 5), .inr (6, [.int (sv 12), .int (sv 13), .int (sv 14), .int (dv 30), .int (dv 31), .int (dv 32), .int (dv 33), .int (dv 34)])), ((an 6), .inr (6, [.int (sv 15), .int (sv 16), .int (sv 17), .int (dv 35), .int (dv 36), .int (dv 37), .int (dv 38), .int (dv 39)])), ((an 7), .inr (2, [.ref (an 8), .int (nI n1)])), ((an 8), .inl (X.2.1, 248, .inl g0)), ((an 9), .inr (5, [.int 5, .int 0, .int 1, .ref (an 10), .int (nI n2)])), ((an 10), .inl (X.2.1, 25, .inl gs)), ((an 11), .inr (5, [.int 6, .int 1, .int 1, .ref (an 12), .int (nI n3)])), ((an 12), .inl (X.2.1, 30, .inl gn)), ((an 13), .inr (5, [.int 6, .int 0, .int 0, .ref (an 14), .int (nI n4)])), ((an 14), .inl (X.2.1, 30, .inl gm))]) ([((xa 5), .inl (X.2.1, 3, .inl fr))]))) G rfl rfl [17, 6] [0, 1, 2, 3, 4, 5, 7, 8, 9, 10, 11, 12, 13, 14, 15, 16, 18] rfl rfl rfl rfl (n_V (As := [.ref (an 4)]) (rest := []) (C := RX8) (T := TX8) (N := 8) (ci := 6) S G (s_rcopy l X (xa 8) ag dg (an 4) (fun k => sv (9 + k)) (fun k => dv (25 + k)) H.size) gX10_where_X8_copyFrom rfl rfl rfl hdV_X8_copyFrom ⟨Nat.le_of_ble_eq_true rfl, Nat.le_of_ble_eq_true rfl⟩ [17, 6] rfl rfl 17 rfl rfl rfl hl.1 (Nat.le_of_ble_eq_true rfl) dX10_where_38 ⟨Nat.le_of_ble_eq_true rfl, Nat.le_of_ble_eq_true rfl⟩) (fun u_11 H locs hp_11 G => ?_)
        obtain ⟨a_11a, d_11b⟩ := u_11
        have hq_11 := hp_11
        have G : wd X (va_A (@HAppend.hAppend va_W va_W va_W _ (xW h0 nw sp xa la lb) (@HAppend.hAppend va_W va_W va_W _ (rcV X nw an sv dv n0 n1 n2 n3 n4 g0 gs gn gm) (@HAppend.hAppend va_W va_W va_W _ (rnV (xa 8) ag dg) ([((xa 5), .inl (X.2.1, 3, .inl fr))])))) sz) (va_A (@HAppend.hAppend va_W va_W va_W _ (xW h0 nw sp xa la lb) (@HAppend.hAppend va_W va_W va_W _ (rcV X nw an sv dv n0 n1 n2 n3 n4 g0 gs gn gm) (@HAppend.hAppend va_W va_W va_W _ (rnV (xa 8) ag dg) ([((xa 5), .inl (X.2.1, 3, .inl fr))])))) sz) s (@HAppend.hAppend va_W va_W va_W _ (xW h0 nw sp xa la lb) (@HAppend.hAppend va_W va_W va_W _ (rcV X nw an sv dv n0 n1 n2 n3 n4 g0 gs gn gm) (@HAppend.hAppend va_W va_W va_W _ ([((xa 5), .inl (X.2.1, 3, .inl fr))]) (rnV (xa 8) a_11a d_11b)))) H locs := wd_sub G [0, 1, 2, 3, 4, 5, 18, 6, 7, 8, 9, 10, 11, 12, 13, 14, 15, 16, 17] rfl rfl
        refine lv_aload_n zx zb dX10_where_41 rfl (lv_at hl 0 rfl) ?_
        refine r_get (C := RX10) (T := TX10) (N := 14) (ci := 8) (v := .ref (xa 8)) S in_X10_where_X10 G 0 rfl rfl 8 (by decide) lk_X10_where_48 rfl dX10_where_42 ?_
        refine lv_aload_n zx zb dX10_where_45 rfl (lv_at hl 0 rfl) ?_
        refine r_get (C := RX10) (T := TX10) (N := 14) (ci := 8) (v := .ref nw) S in_X10_where_X10 G 0 rfl rfl 0 (by decide) lk_X10_where_10 rfl dX10_where_46 ?_
        refine r_get (C := RX5) (T := TX5) (N := 8) (ci := 3) (v := .int (dv 1)) S in_X10_where_X5 G 1 rfl rfl 1 (by decide) lk_X10_where_110 rfl dX10_where_49 ?_
        refine lv_aload_n zx zb dX10_where_52 rfl (lv_at hl 0 rfl) ?_
        refine r_get (C := RX10) (T := TX10) (N := 14) (ci := 8) (v := .ref nw) S in_X10_where_X10 G 0 rfl rfl 0 (by decide) lk_X10_where_10 rfl dX10_where_53 ?_
        refine r_get (C := RX5) (T := TX5) (N := 8) (ci := 3) (v := .int (dv 0)) S in_X10_where_X5 G 1 rfl rfl 0 (by decide) lk_X10_where_140 rfl dX10_where_56 ?_
        refine lv_iload_n zx zb dX10_where_59 rfl (lv_at hl 2 rfl) ?_
        refine b_wi (cells' := 0) (slots' := 0) (wr := @HAppend.hAppend va_W va_W va_W _ (xW h0 nw sp xa la lb) (@HAppend.hAppend va_W va_W va_W _ (rcV X nw an sv dv n0 n1 n2 n3 n4 g0 gs gn gm) ([((xa 5), .inl (X.2.1, 3, .inl fr))]))) G rfl rfl [18] [0, 1, 2, 3, 4, 5, 6, 7, 8, 9, 10, 11, 12, 13, 14, 15, 16, 17] rfl rfl rfl rfl (n_V (As := [.int (dv 1), .int (dv 0), .int x2]) (rest := []) (C := RX8) (T := TX8) (N := 8) (ci := 6) S G (s_placeBehind l X (xa 8) a_11a d_11b (dv 1) (dv 0) x2 (by first | decide | assumption | exact hw_3.2) H.size) gX10_where_X8_placeBehind rfl rfl rfl hdV_X8_placeBehind ⟨Nat.le_of_ble_eq_true rfl, Nat.le_of_ble_eq_true rfl⟩ [18] rfl rfl 18 rfl rfl rfl hl.1 (Nat.le_of_ble_eq_true rfl) dX10_where_60 ⟨Nat.le_of_ble_eq_true rfl, Nat.le_of_ble_eq_true rfl⟩) (fun r_12 u_12 H locs hp_12 G => ?_)
        obtain ⟨d_12, rfl⟩ : ∃ z, z = u_12 := ⟨_, rfl⟩
        have hq_12 := hp_12
        have G : wd X (va_A (@HAppend.hAppend va_W va_W va_W _ (xW h0 nw sp xa la lb) (@HAppend.hAppend va_W va_W va_W _ (rcV X nw an sv dv n0 n1 n2 n3 n4 g0 gs gn gm) (@HAppend.hAppend va_W va_W va_W _ (rnV (xa 8) ag dg) ([((xa 5), .inl (X.2.1, 3, .inl fr))])))) sz) (va_A (@HAppend.hAppend va_W va_W va_W _ (xW h0 nw sp xa la lb) (@HAppend.hAppend va_W va_W va_W _ (rcV X nw an sv dv n0 n1 n2 n3 n4 g0 gs gn gm) (@HAppend.hAppend va_W va_W va_W _ (rnV (xa 8) ag dg) ([((xa 5), .inl (X.2.1, 3, .inl fr))])))) sz) s (@HAppend.hAppend va_W va_W va_W _ (xW h0 nw sp xa la lb) (@HAppend.hAppend va_W va_W va_W _ (rcV X nw an sv dv n0 n1 n2 n3 n4 g0 gs gn gm) (@HAppend.hAppend va_W va_W va_W _ ([((xa 5), .inl (X.2.1, 3, .inl fr))]) (rnV (xa 8) a_11a d_12)))) H locs := G
        exact e_int S zr zlk (vp_nar_int _) G (a_11a, d_12, fr) [0, 1, 2, 3, 4, 5, 6, 7, 8, 9, 10, 11, 12, 13, 14, 15, 16, 18, 17] rfl rfl (Or.inr rfl) (trivial) dX10_where_63
      · refine k_it (v := 4) rfl ?_
        refine r_aald (C := RX8) (b := (an 5)) S G 2 3 rfl rfl (k_vp (by decide)) rfl dX10_where_37 ?_
        refine b_wv (cells' := 0) (slots' := 0) (wr := @HAppend.hAppend va_W va_W va_W _ (xW h0 nw sp xa la lb) (@HAppend.hAppend va_W va_W va_W _ ([(nw, .inr (3, [.int (dv 0), .int (dv 1), .int (nI n0), .ref (an 0), .ref (an 7), .ref (an 9), .ref (an 11), .ref (an 13)])), ((an 0), .inl (X.2.2.2.2, 6, .inr (.inr (.inr (.inr (rowQ an)))))), ((an 1), .inr (6, [.int (sv 0), .int (sv 1), .int (sv 2), .int (dv 10), .int (dv 11), .int (dv 12), .int (dv 13), .int (dv 14)])), ((an 2), .inr (6, [.int (sv 3), .int (sv 4), .int (sv 5), .int (dv 15), .int (dv 16), .int (dv 17), .int (dv 18), .int (dv 19)])), ((an 3), .inr (6, [.int (sv 6), .int (sv 7), .int (sv 8), .int (dv 20), .int (dv 21), .int (dv 22), .int (dv 23), .int (dv 24)])), ((an 4), .inr (6, [.int (sv 9), .int (sv 10), .int (sv 11), .int (dv 25), .int (dv 26), .int (dv 27), .int (dv 28), .int (dv 29)])), ((an 6), .inr (6, [.int (sv 15), .int (sv 16), .int (sv 17), .int (dv 35), .int (dv 36), .int (dv 37), .int (dv 38), .int (dv 39)])), ((an 7), .inr (2, [.ref (an 8), .int (nI n1)])), ((an 8), .inl (X.2.1, 248, .inl g0)), ((an 9), .inr (5, [.int 5, .int 0, .int 1, .ref (an 10), .int (nI n2)])), ((an 10), .inl (X.2.1, 25, .inl gs)), ((an 11), .inr (5, [.int 6, .int 1, .int 1, .ref (an 12), .int (nI n3)])), ((an 12), .inl (X.2.1, 30, .inl gn)), ((an 13), .inr (5, [.int 6, .int 0, .int 0, .ref (an 14), .int (nI n4)])), ((an 14), .inl (X.2.1, 30, .inl gm))]) ([((xa 5), .inl (X.2.1, 3, .inl fr))]))) G rfl rfl [17, 7] [0, 1, 2, 3, 4, 5, 6, 8, 9, 10, 11, 12, 13, 14, 15, 16, 18] rfl rfl rfl rfl (n_V (As := [.ref (an 5)]) (rest := []) (C := RX8) (T := TX8) (N := 8) (ci := 6) S G (s_rcopy l X (xa 8) ag dg (an 5) (fun k => sv (12 + k)) (fun k => dv (30 + k)) H.size) gX10_where_X8_copyFrom rfl rfl rfl hdV_X8_copyFrom ⟨Nat.le_of_ble_eq_true rfl, Nat.le_of_ble_eq_true rfl⟩ [17, 7] rfl rfl 17 rfl rfl rfl hl.1 (Nat.le_of_ble_eq_true rfl) dX10_where_38 ⟨Nat.le_of_ble_eq_true rfl, Nat.le_of_ble_eq_true rfl⟩) (fun u_13 H locs hp_13 G => ?_)
        obtain ⟨a_13a, d_13b⟩ := u_13
        have hq_13 := hp_13
        have G : wd X (va_A (@HAppend.hAppend va_W va_W va_W _ (xW h0 nw sp xa la lb) (@HAppend.hAppend va_W va_W va_W _ (rcV X nw an sv dv n0 n1 n2 n3 n4 g0 gs gn gm) (@HAppend.hAppend va_W va_W va_W _ (rnV (xa 8) ag dg) ([((xa 5), .inl (X.2.1, 3, .inl fr))])))) sz) (va_A (@HAppend.hAppend va_W va_W va_W _ (xW h0 nw sp xa la lb) (@HAppend.hAppend va_W va_W va_W _ (rcV X nw an sv dv n0 n1 n2 n3 n4 g0 gs gn gm) (@HAppend.hAppend va_W va_W va_W _ (rnV (xa 8) ag dg) ([((xa 5), .inl (X.2.1, 3, .inl fr))])))) sz) s (@HAppend.hAppend va_W va_W va_W _ (xW h0 nw sp xa la lb) (@HAppend.hAppend va_W va_W va_W _ (rcV X nw an sv dv n0 n1 n2 n3 n4 g0 gs gn gm) (@HAppend.hAppend va_W va_W va_W _ ([((xa 5), .inl (X.2.1, 3, .inl fr))]) (rnV (xa 8) a_13a d_13b)))) H locs := wd_sub G [0, 1, 2, 3, 4, 5, 6, 18, 7, 8, 9, 10, 11, 12, 13, 14, 15, 16, 17] rfl rfl
        refine lv_aload_n zx zb dX10_where_41 rfl (lv_at hl 0 rfl) ?_
        refine r_get (C := RX10) (T := TX10) (N := 14) (ci := 8) (v := .ref (xa 8)) S in_X10_where_X10 G 0 rfl rfl 8 (by decide) lk_X10_where_48 rfl dX10_where_42 ?_
        refine lv_aload_n zx zb dX10_where_45 rfl (lv_at hl 0 rfl) ?_
        refine r_get (C := RX10) (T := TX10) (N := 14) (ci := 8) (v := .ref nw) S in_X10_where_X10 G 0 rfl rfl 0 (by decide) lk_X10_where_10 rfl dX10_where_46 ?_
        refine r_get (C := RX5) (T := TX5) (N := 8) (ci := 3) (v := .int (dv 1)) S in_X10_where_X5 G 1 rfl rfl 1 (by decide) lk_X10_where_110 rfl dX10_where_49 ?_
        refine lv_aload_n zx zb dX10_where_52 rfl (lv_at hl 0 rfl) ?_
        refine r_get (C := RX10) (T := TX10) (N := 14) (ci := 8) (v := .ref nw) S in_X10_where_X10 G 0 rfl rfl 0 (by decide) lk_X10_where_10 rfl dX10_where_53 ?_
        refine r_get (C := RX5) (T := TX5) (N := 8) (ci := 3) (v := .int (dv 0)) S in_X10_where_X5 G 1 rfl rfl 0 (by decide) lk_X10_where_140 rfl dX10_where_56 ?_
        refine lv_iload_n zx zb dX10_where_59 rfl (lv_at hl 2 rfl) ?_
        refine b_wi (cells' := 0) (slots' := 0) (wr := @HAppend.hAppend va_W va_W va_W _ (xW h0 nw sp xa la lb) (@HAppend.hAppend va_W va_W va_W _ (rcV X nw an sv dv n0 n1 n2 n3 n4 g0 gs gn gm) ([((xa 5), .inl (X.2.1, 3, .inl fr))]))) G rfl rfl [18] [0, 1, 2, 3, 4, 5, 6, 7, 8, 9, 10, 11, 12, 13, 14, 15, 16, 17] rfl rfl rfl rfl (n_V (As := [.int (dv 1), .int (dv 0), .int x2]) (rest := []) (C := RX8) (T := TX8) (N := 8) (ci := 6) S G (s_placeBehind l X (xa 8) a_13a d_13b (dv 1) (dv 0) x2 (by first | decide | assumption | exact hw_3.2) H.size) gX10_where_X8_placeBehind rfl rfl rfl hdV_X8_placeBehind ⟨Nat.le_of_ble_eq_true rfl, Nat.le_of_ble_eq_true rfl⟩ [18] rfl rfl 18 rfl rfl rfl hl.1 (Nat.le_of_ble_eq_true rfl) dX10_where_60 ⟨Nat.le_of_ble_eq_true rfl, Nat.le_of_ble_eq_true rfl⟩) (fun r_14 u_14 H locs hp_14 G => ?_)
        obtain ⟨d_14, rfl⟩ : ∃ z, z = u_14 := ⟨_, rfl⟩
        have hq_14 := hp_14
        have G : wd X (va_A (@HAppend.hAppend va_W va_W va_W _ (xW h0 nw sp xa la lb) (@HAppend.hAppend va_W va_W va_W _ (rcV X nw an sv dv n0 n1 n2 n3 n4 g0 gs gn gm) (@HAppend.hAppend va_W va_W va_W _ (rnV (xa 8) ag dg) ([((xa 5), .inl (X.2.1, 3, .inl fr))])))) sz) (va_A (@HAppend.hAppend va_W va_W va_W _ (xW h0 nw sp xa la lb) (@HAppend.hAppend va_W va_W va_W _ (rcV X nw an sv dv n0 n1 n2 n3 n4 g0 gs gn gm) (@HAppend.hAppend va_W va_W va_W _ (rnV (xa 8) ag dg) ([((xa 5), .inl (X.2.1, 3, .inl fr))])))) sz) s (@HAppend.hAppend va_W va_W va_W _ (xW h0 nw sp xa la lb) (@HAppend.hAppend va_W va_W va_W _ (rcV X nw an sv dv n0 n1 n2 n3 n4 g0 gs gn gm) (@HAppend.hAppend va_W va_W va_W _ ([((xa 5), .inl (X.2.1, 3, .inl fr))]) (rnV (xa 8) a_13a d_14)))) H locs := G
        exact e_int S zr zlk (vp_nar_int _) G (a_13a, d_14, fr) [0, 1, 2, 3, 4, 5, 6, 7, 8, 9, 10, 11, 12, 13, 14, 15, 16, 18, 17] rfl rfl (Or.inr rfl) (trivial) dX10_where_63
      · refine k_it (v := 5) rfl ?_
        refine r_aald (C := RX8) (b := (an 6)) S G 2 3 rfl rfl (k_vp (by decide)) rfl dX10_where_37 ?_
        refine b_wv (cells' := 0) (slots' := 0) (wr := @HAppend.hAppend va_W va_W va_W _ (xW h0 nw sp xa la lb) (@HAppend.hAppend va_W va_W va_W _ ([(nw, .inr (3, [.int (dv 0), .int (dv 1), .int (nI n0), .ref (an 0), .ref (an 7), .ref (an 9), .ref (an 11), .ref (an 13)])), ((an 0), .inl (X.2.2.2.2, 6, .inr (.inr (.inr (.inr (rowQ an)))))), ((an 1), .inr (6, [.int (sv 0), .int (sv 1), .int (sv 2), .int (dv 10), .int (dv 11), .int (dv 12), .int (dv 13), .int (dv 14)])), ((an 2), .inr (6, [.int (sv 3), .int (sv 4), .int (sv 5), .int (dv 15), .int (dv 16), .int (dv 17), .int (dv 18), .int (dv 19)])), ((an 3), .inr (6, [.int (sv 6), .int (sv 7), .int (sv 8), .int (dv 20), .int (dv 21), .int (dv 22), .int (dv 23), .int (dv 24)])), ((an 4), .inr (6, [.int (sv 9), .int (sv 10), .int (sv 11), .int (dv 25), .int (dv 26), .int (dv 27), .int (dv 28), .int (dv 29)])), ((an 5), .inr (6, [.int (sv 12), .int (sv 13), .int (sv 14), .int (dv 30), .int (dv 31), .int (dv 32), .int (dv 33), .int (dv 34)])), ((an 7), .inr (2, [.ref (an 8), .int (nI n1)])), ((an 8), .inl (X.2.1, 248, .inl g0)), ((an 9), .inr (5, [.int 5, .int 0, .int 1, .ref (an 10), .int (nI n2)])), ((an 10), .inl (X.2.1, 25, .inl gs)), ((an 11), .inr (5, [.int 6, .int 1, .int 1, .ref (an 12), .int (nI n3)])), ((an 12), .inl (X.2.1, 30, .inl gn)), ((an 13), .inr (5, [.int 6, .int 0, .int 0, .ref (an 14), .int (nI n4)])), ((an 14), .inl (X.2.1, 30, .inl gm))]) ([((xa 5), .inl (X.2.1, 3, .inl fr))]))) G rfl rfl [17, 8] [0, 1, 2, 3, 4, 5, 6, 7, 9, 10, 11, 12, 13, 14, 15, 16, 18] rfl rfl rfl rfl (n_V (As := [.ref (an 6)]) (rest := []) (C := RX8) (T := TX8) (N := 8) (ci := 6) S G (s_rcopy l X (xa 8) ag dg (an 6) (fun k => sv (15 + k)) (fun k => dv (35 + k)) H.size) gX10_where_X8_copyFrom rfl rfl rfl hdV_X8_copyFrom ⟨Nat.le_of_ble_eq_true rfl, Nat.le_of_ble_eq_true rfl⟩ [17, 8] rfl rfl 17 rfl rfl rfl hl.1 (Nat.le_of_ble_eq_true rfl) dX10_where_38 ⟨Nat.le_of_ble_eq_true rfl, Nat.le_of_ble_eq_true rfl⟩) (fun u_15 H locs hp_15 G => ?_)
        obtain ⟨a_15a, d_15b⟩ := u_15
        have hq_15 := hp_15
        have G : wd X (va_A (@HAppend.hAppend va_W va_W va_W _ (xW h0 nw sp xa la lb) (@HAppend.hAppend va_W va_W va_W _ (rcV X nw an sv dv n0 n1 n2 n3 n4 g0 gs gn gm) (@HAppend.hAppend va_W va_W va_W _ (rnV (xa 8) ag dg) ([((xa 5), .inl (X.2.1, 3, .inl fr))])))) sz) (va_A (@HAppend.hAppend va_W va_W va_W _ (xW h0 nw sp xa la lb) (@HAppend.hAppend va_W va_W va_W _ (rcV X nw an sv dv n0 n1 n2 n3 n4 g0 gs gn gm) (@HAppend.hAppend va_W va_W va_W _ (rnV (xa 8) ag dg) ([((xa 5), .inl (X.2.1, 3, .inl fr))])))) sz) s (@HAppend.hAppend va_W va_W va_W _ (xW h0 nw sp xa la lb) (@HAppend.hAppend va_W va_W va_W _ (rcV X nw an sv dv n0 n1 n2 n3 n4 g0 gs gn gm) (@HAppend.hAppend va_W va_W va_W _ ([((xa 5), .inl (X.2.1, 3, .inl fr))]) (rnV (xa 8) a_15a d_15b)))) H locs := wd_sub G [0, 1, 2, 3, 4, 5, 6, 7, 18, 8, 9, 10, 11, 12, 13, 14, 15, 16, 17] rfl rfl
        refine lv_aload_n zx zb dX10_where_41 rfl (lv_at hl 0 rfl) ?_
        refine r_get (C := RX10) (T := TX10) (N := 14) (ci := 8) (v := .ref (xa 8)) S in_X10_where_X10 G 0 rfl rfl 8 (by decide) lk_X10_where_48 rfl dX10_where_42 ?_
        refine lv_aload_n zx zb dX10_where_45 rfl (lv_at hl 0 rfl) ?_
        refine r_get (C := RX10) (T := TX10) (N := 14) (ci := 8) (v := .ref nw) S in_X10_where_X10 G 0 rfl rfl 0 (by decide) lk_X10_where_10 rfl dX10_where_46 ?_
        refine r_get (C := RX5) (T := TX5) (N := 8) (ci := 3) (v := .int (dv 1)) S in_X10_where_X5 G 1 rfl rfl 1 (by decide) lk_X10_where_110 rfl dX10_where_49 ?_
        refine lv_aload_n zx zb dX10_where_52 rfl (lv_at hl 0 rfl) ?_
        refine r_get (C := RX10) (T := TX10) (N := 14) (ci := 8) (v := .ref nw) S in_X10_where_X10 G 0 rfl rfl 0 (by decide) lk_X10_where_10 rfl dX10_where_53 ?_
        refine r_get (C := RX5) (T := TX5) (N := 8) (ci := 3) (v := .int (dv 0)) S in_X10_where_X5 G 1 rfl rfl 0 (by decide) lk_X10_where_140 rfl dX10_where_56 ?_
        refine lv_iload_n zx zb dX10_where_59 rfl (lv_at hl 2 rfl) ?_
        refine b_wi (cells' := 0) (slots' := 0) (wr := @HAppend.hAppend va_W va_W va_W _ (xW h0 nw sp xa la lb) (@HAppend.hAppend va_W va_W va_W _ (rcV X nw an sv dv n0 n1 n2 n3 n4 g0 gs gn gm) ([((xa 5), .inl (X.2.1, 3, .inl fr))]))) G rfl rfl [18] [0, 1, 2, 3, 4, 5, 6, 7, 8, 9, 10, 11, 12, 13, 14, 15, 16, 17] rfl rfl rfl rfl (n_V (As := [.int (dv 1), .int (dv 0), .int x2]) (rest := []) (C := RX8) (T := TX8) (N := 8) (ci := 6) S G (s_placeBehind l X (xa 8) a_15a d_15b (dv 1) (dv 0) x2 (by first | decide | assumption | exact hw_3.2) H.size) gX10_where_X8_placeBehind rfl rfl rfl hdV_X8_placeBehind ⟨Nat.le_of_ble_eq_true rfl, Nat.le_of_ble_eq_true rfl⟩ [18] rfl rfl 18 rfl rfl rfl hl.1 (Nat.le_of_ble_eq_true rfl) dX10_where_60 ⟨Nat.le_of_ble_eq_true rfl, Nat.le_of_ble_eq_true rfl⟩) (fun r_16 u_16 H locs hp_16 G => ?_)
        obtain ⟨d_16, rfl⟩ : ∃ z, z = u_16 := ⟨_, rfl⟩
        have hq_16 := hp_16
        have G : wd X (va_A (@HAppend.hAppend va_W va_W va_W _ (xW h0 nw sp xa la lb) (@HAppend.hAppend va_W va_W va_W _ (rcV X nw an sv dv n0 n1 n2 n3 n4 g0 gs gn gm) (@HAppend.hAppend va_W va_W va_W _ (rnV (xa 8) ag dg) ([((xa 5), .inl (X.2.1, 3, .inl fr))])))) sz) (va_A (@HAppend.hAppend va_W va_W va_W _ (xW h0 nw sp xa la lb) (@HAppend.hAppend va_W va_W va_W _ (rcV X nw an sv dv n0 n1 n2 n3 n4 g0 gs gn gm) (@HAppend.hAppend va_W va_W va_W _ (rnV (xa 8) ag dg) ([((xa 5), .inl (X.2.1, 3, .inl fr))])))) sz) s (@HAppend.hAppend va_W va_W va_W _ (xW h0 nw sp xa la lb) (@HAppend.hAppend va_W va_W va_W _ (rcV X nw an sv dv n0 n1 n2 n3 n4 g0 gs gn gm) (@HAppend.hAppend va_W va_W va_W _ ([((xa 5), .inl (X.2.1, 3, .inl fr))]) (rnV (xa 8) a_15a d_16)))) H locs := G
        exact e_int S zr zlk (vp_nar_int _) G (a_15a, d_16, fr) [0, 1, 2, 3, 4, 5, 6, 7, 8, 9, 10, 11, 12, 13, 14, 15, 16, 18, 17] rfl rfl (Or.inr rfl) (trivial) dX10_where_63
    · refine lv_if_ne (tgt := 25) zx zb dX10_where_15 (by decide) (fun c_17 => absurd (by decide) c_17) (fun c_17 => ?_)
      refine lv_aload_n zx zb dX10_where_18 rfl (lv_at hl 0 rfl) ?_
      refine lv_bipush (v := (-2)) zx zb dX10_where_19 (by decide) ?_
      refine b_wi (cells' := 0) (slots' := 0) (wr := @HAppend.hAppend va_W va_W va_W _ (rcV X nw an sv dv n0 n1 n2 n3 n4 g0 gs gn gm) (rnV (xa 8) ag dg)) G rfl rfl [0, 18] [1, 2, 3, 4, 5, 6, 7, 8, 9, 10, 11, 12, 13, 14, 15, 16, 17] rfl rfl rfl rfl (n_V (As := [.int (-2)]) (rest := []) (C := RX10) (T := TX10) (N := 14) (ci := 8) S G (s_refuse l X h0 nw sp xa la lb fr (-2) H.size) gX10_where_X10_refuse rfl rfl rfl hdV_X10_refuse ⟨Nat.le_of_ble_eq_true rfl, Nat.le_of_ble_eq_true rfl⟩ [0, 18] rfl rfl 0 rfl rfl rfl hl.1 (Nat.le_of_ble_eq_true rfl) dX10_where_21 ⟨Nat.le_of_ble_eq_true rfl, Nat.le_of_ble_eq_true rfl⟩) (fun r_18 u_18 H locs hp_18 G => ?_)
      obtain ⟨f_18, rfl⟩ : ∃ z, z = u_18 := ⟨_, rfl⟩
      have hq_18 := hp_18
      have G : wd X (va_A (@HAppend.hAppend va_W va_W va_W _ (xW h0 nw sp xa la lb) (@HAppend.hAppend va_W va_W va_W _ (rcV X nw an sv dv n0 n1 n2 n3 n4 g0 gs gn gm) (@HAppend.hAppend va_W va_W va_W _ (rnV (xa 8) ag dg) ([((xa 5), .inl (X.2.1, 3, .inl fr))])))) sz) (va_A (@HAppend.hAppend va_W va_W va_W _ (xW h0 nw sp xa la lb) (@HAppend.hAppend va_W va_W va_W _ (rcV X nw an sv dv n0 n1 n2 n3 n4 g0 gs gn gm) (@HAppend.hAppend va_W va_W va_W _ (rnV (xa 8) ag dg) ([((xa 5), .inl (X.2.1, 3, .inl fr))])))) sz) s (@HAppend.hAppend va_W va_W va_W _ (rcV X nw an sv dv n0 n1 n2 n3 n4 g0 gs gn gm) (@HAppend.hAppend va_W va_W va_W _ (rnV (xa 8) ag dg) (@HAppend.hAppend va_W va_W va_W _ (xW h0 nw sp xa la lb) ([((xa 5), .inl (X.2.1, 3, .inl f_18))])))) H locs := G
      exact e_int S zr zlk (vp_nar_int _) G (ag, dg, f_18) [17, 0, 1, 2, 3, 4, 5, 6, 7, 8, 9, 10, 11, 12, 13, 14, 15, 16, 18] rfl rfl (Or.inr rfl) (trivial) dX10_where_24
  · refine lv_if_eq (tgt := 18) zx zb dX10_where_5 (by decide) (fun c_19 => ?_) (fun c_19 => absurd (by decide) c_19)
    refine lv_aload_n zx zb dX10_where_18 rfl (lv_at hl 0 rfl) ?_
    refine lv_bipush (v := (-2)) zx zb dX10_where_19 (by decide) ?_
    refine b_wi (cells' := 0) (slots' := 0) (wr := @HAppend.hAppend va_W va_W va_W _ (rcV X nw an sv dv n0 n1 n2 n3 n4 g0 gs gn gm) (rnV (xa 8) ag dg)) G rfl rfl [0, 18] [1, 2, 3, 4, 5, 6, 7, 8, 9, 10, 11, 12, 13, 14, 15, 16, 17] rfl rfl rfl rfl (n_V (As := [.int (-2)]) (rest := []) (C := RX10) (T := TX10) (N := 14) (ci := 8) S G (s_refuse l X h0 nw sp xa la lb fr (-2) H.size) gX10_where_X10_refuse rfl rfl rfl hdV_X10_refuse ⟨Nat.le_of_ble_eq_true rfl, Nat.le_of_ble_eq_true rfl⟩ [0, 18] rfl rfl 0 rfl rfl rfl hl.1 (Nat.le_of_ble_eq_true rfl) dX10_where_21 ⟨Nat.le_of_ble_eq_true rfl, Nat.le_of_ble_eq_true rfl⟩) (fun r_20 u_20 H locs hp_20 G => ?_)
    obtain ⟨f_20, rfl⟩ : ∃ z, z = u_20 := ⟨_, rfl⟩
    have hq_20 := hp_20
    have G : wd X (va_A (@HAppend.hAppend va_W va_W va_W _ (xW h0 nw sp xa la lb) (@HAppend.hAppend va_W va_W va_W _ (rcV X nw an sv dv n0 n1 n2 n3 n4 g0 gs gn gm) (@HAppend.hAppend va_W va_W va_W _ (rnV (xa 8) ag dg) ([((xa 5), .inl (X.2.1, 3, .inl fr))])))) sz) (va_A (@HAppend.hAppend va_W va_W va_W _ (xW h0 nw sp xa la lb) (@HAppend.hAppend va_W va_W va_W _ (rcV X nw an sv dv n0 n1 n2 n3 n4 g0 gs gn gm) (@HAppend.hAppend va_W va_W va_W _ (rnV (xa 8) ag dg) ([((xa 5), .inl (X.2.1, 3, .inl fr))])))) sz) s (@HAppend.hAppend va_W va_W va_W _ (rcV X nw an sv dv n0 n1 n2 n3 n4 g0 gs gn gm) (@HAppend.hAppend va_W va_W va_W _ (rnV (xa 8) ag dg) (@HAppend.hAppend va_W va_W va_W _ (xW h0 nw sp xa la lb) ([((xa 5), .inl (X.2.1, 3, .inl f_20))])))) H locs := G
    exact e_int S zr zlk (vp_nar_int _) G (ag, dg, f_20) [17, 0, 1, 2, 3, 4, 5, 6, 7, 8, 9, 10, 11, 12, 13, 14, 15, 16, 18] rfl rfl (Or.inr rfl) (trivial) dX10_where_24
theorem in_X10_homeBehind_X10 : ∀ w ∈ wsX100, w ∈ wsX10_homeBehind := by decide +kernel
theorem lk_X10_homeBehind_48 : Cond.fieldLink RX10 48 "EggSpoons" "ghost" "LEggSpoons$Runner;" ∈ wsX10_homeBehind := by decide +kernel
theorem lk_X10_homeBehind_10 : Cond.fieldLink RX10 10 "EggSpoons" "now" "LEggSpoons$Race;" ∈ wsX10_homeBehind := by decide +kernel
theorem in_X10_homeBehind_X5 : ∀ w ∈ wsX50, w ∈ wsX10_homeBehind := by decide +kernel
theorem lk_X10_homeBehind_126 : Cond.fieldLink RX10 126 "EggSpoons$Race" "row" "[LEggSpoons$Runner;" ∈ wsX10_homeBehind := by decide +kernel
theorem lk_X10_homeBehind_110 : Cond.fieldLink RX10 110 "EggSpoons$Race" "tick" "I" ∈ wsX10_homeBehind := by decide +kernel
theorem lk_X10_homeBehind_140 : Cond.fieldLink RX10 140 "EggSpoons$Race" "length" "I" ∈ wsX10_homeBehind := by decide +kernel
theorem hdV_X8_ticksToHome : yX8_ticksToHome.cls = RX8 ∧ yX8_ticksToHome.cls ≠ "java/lang/invoke/MethodHandle" ∧ yX8_ticksToHome.cls ≠ "java/lang/invoke/VarHandle" ∧ (parseMethodDescriptor yX8_ticksToHome.desc).map (fun d => d.parameters.length) = some 3 := by decide +kernel
set_option maxHeartbeats 4000000 in
set_option maxRecDepth 100000 in
/-- homeBehind -/
theorem s_homeBehind (l : Launch) (X : EX) (h0 : Nat) (nw : Nat) (sp : Nat) (xa : Nat → Nat) (la : Int64) (lb : Int64) (an : Nat → Nat) (sv : Nat → Int32) (dv : Nat → Int32) (n0 : Nat) (n1 : Nat) (n2 : Nat) (n3 : Nat) (n4 : Nat) (g0 : Nat → Int32) (gs : Nat → Int32) (gn : Nat → Int32) (gm : Nat → Int32) (ag : Nat → Int32) (dg : Nat → Int32) (i : Nat) (x3 : Int32) (hI_n0 : n0 ≤ 6) (hI_n1 : n1 ≤ 8) (hI_n2 : n2 ≤ 5) (hI_n3 : n3 ≤ 6) (hI_n4 : n4 ≤ 6) (hi6 : i < 6) (hl6 : x3 ≤ 60) (sz : Nat) : Met l yX10_homeBehind wsX10_homeBehind ({ frames := 3, cells := 0, slots := 0, locals := 73 } : Room) (pE X [.ref h0, .int (nI i), .int x3] (@HAppend.hAppend va_W va_W va_W _ (xW h0 nw sp xa la lb) (@HAppend.hAppend va_W va_W va_W _ (rcV X nw an sv dv n0 n1 n2 n3 n4 g0 gs gn gm) (rnV (xa 8) ag dg))) sz) (qI (fun (r : Int32) (u : (Nat → Int32) × (Nat → Int32)) => ((-1 : Int32) ≤ r ∧ r ≤ 60)) X (fun (u : (Nat → Int32) × (Nat → Int32)) => @HAppend.hAppend va_W va_W va_W _ (xW h0 nw sp xa la lb) (@HAppend.hAppend va_W va_W va_W _ (rcV X nw an sv dv n0 n1 n2 n3 n4 g0 gs gn gm) (rnV (xa 8) u.1 u.2))) (@HAppend.hAppend va_W va_W va_W _ (xW h0 nw sp xa la lb) (@HAppend.hAppend va_W va_W va_W _ (rcV X nw an sv dv n0 n1 n2 n3 n4 g0 gs gn gm) (rnV (xa 8) ag dg))) sz) 0 0 (va_A (@HAppend.hAppend va_W va_W va_W _ (xW h0 nw sp xa la lb) (@HAppend.hAppend va_W va_W va_W _ (rcV X nw an sv dv n0 n1 n2 n3 n4 g0 gs gn gm) (rnV (xa 8) ag dg))) sz) := by
  refine mk_met (B := (va_A (@HAppend.hAppend va_W va_W va_W _ (xW h0 nw sp xa la lb) (@HAppend.hAppend va_W va_W va_W _ (rcV X nw an sv dv n0 n1 n2 n3 n4 g0 gs gn gm) (rnV (xa 8) ag dg))) sz)) (A := (va_A (@HAppend.hAppend va_W va_W va_W _ (xW h0 nw sp xa la lb) (@HAppend.hAppend va_W va_W va_W _ (rcV X nw an sv dv n0 n1 n2 n3 n4 g0 gs gn gm) (rnV (xa 8) ag dg))) sz)) (cc := cX10_homeBehind) (maxL := 3) (ret := (some .int)) (by decide) rfl (Nat.le_of_ble_eq_true rfl) k_w k_a (fun p e s m below meth c S zr zlk znm zsz G ls hl => ?_)
  have S : CallFix p m c cX10_homeBehind 3 s _ wsX10_homeBehind RX10 := S
  have zx := S.1
  have zb := S.2.1
  have hl : lv_has ls 3 [(0, .ref h0), (1, .int (nI i)), (2, .int x3)] := hl
  refine lv_aload_n zx zb dX10_homeBehind_0 rfl (lv_at hl 0 rfl) ?_
  refine r_get (C := RX10) (T := TX10) (N := 14) (ci := 8) (v := .ref (xa 8)) S in_X10_homeBehind_X10 G 0 rfl rfl 8 (by decide) lk_X10_homeBehind_48 rfl dX10_homeBehind_1 ?_
  refine lv_aload_n zx zb dX10_homeBehind_4 rfl (lv_at hl 0 rfl) ?_
  refine r_get (C := RX10) (T := TX10) (N := 14) (ci := 8) (v := .ref nw) S in_X10_homeBehind_X10 G 0 rfl rfl 0 (by decide) lk_X10_homeBehind_10 rfl dX10_homeBehind_5 ?_
  refine r_get (C := RX5) (T := TX5) (N := 8) (ci := 3) (v := .ref (an 0)) S in_X10_homeBehind_X5 G 1 rfl rfl 3 (by decide) lk_X10_homeBehind_126 rfl dX10_homeBehind_8 ?_
  refine lv_iload_n zx zb dX10_homeBehind_11 rfl (lv_at hl 1 rfl) ?_
  rcases k_6c (show i < 6 by omega) with rfl | rfl | rfl | rfl | rfl | rfl
  · refine k_it (v := 0) rfl ?_
    refine r_aald (C := RX8) (b := (an 1)) S G 2 3 rfl rfl (k_vp (by decide)) rfl dX10_homeBehind_12 ?_
    refine b_wv (cells' := 0) (slots' := 0) (wr := @HAppend.hAppend va_W va_W va_W _ (xW h0 nw sp xa la lb) ([(nw, .inr (3, [.int (dv 0), .int (dv 1), .int (nI n0), .ref (an 0), .ref (an 7), .ref (an 9), .ref (an 11), .ref (an 13)])), ((an 0), .inl (X.2.2.2.2, 6, .inr (.inr (.inr (.inr (rowQ an)))))), ((an 2), .inr (6, [.int (sv 3), .int (sv 4), .int (sv 5), .int (dv 15), .int (dv 16), .int (dv 17), .int (dv 18), .int (dv 19)])), ((an 3), .inr (6, [.int (sv 6), .int (sv 7), .int (sv 8), .int (dv 20), .int (dv 21), .int (dv 22), .int (dv 23), .int (dv 24)])), ((an 4), .inr (6, [.int (sv 9), .int (sv 10), .int (sv 11), .int (dv 25), .int (dv 26), .int (dv 27), .int (dv 28), .int (dv 29)])), ((an 5), .inr (6, [.int (sv 12), .int (sv 13), .int (sv 14), .int (dv 30), .int (dv 31), .int (dv 32), .int (dv 33), .int (dv 34)])), ((an 6), .inr (6, [.int (sv 15), .int (sv 16), .int (sv 17), .int (dv 35), .int (dv 36), .int (dv 37), .int (dv 38), .int (dv 39)])), ((an 7), .inr (2, [.ref (an 8), .int (nI n1)])), ((an 8), .inl (X.2.1, 248, .inl g0)), ((an 9), .inr (5, [.int 5, .int 0, .int 1, .ref (an 10), .int (nI n2)])), ((an 10), .inl (X.2.1, 25, .inl gs)), ((an 11), .inr (5, [.int 6, .int 1, .int 1, .ref (an 12), .int (nI n3)])), ((an 12), .inl (X.2.1, 30, .inl gn)), ((an 13), .inr (5, [.int 6, .int 0, .int 0, .ref (an 14), .int (nI n4)])), ((an 14), .inl (X.2.1, 30, .inl gm))])) G rfl rfl [17, 3] [0, 1, 2, 4, 5, 6, 7, 8, 9, 10, 11, 12, 13, 14, 15, 16] rfl rfl rfl rfl (n_V (As := [.ref (an 1)]) (rest := []) (C := RX8) (T := TX8) (N := 8) (ci := 6) S G (s_rcopy l X (xa 8) ag dg (an 1) (fun k => sv (0 + k)) (fun k => dv (10 + k)) s.heap.size) gX10_homeBehind_X8_copyFrom rfl rfl rfl hdV_X8_copyFrom ⟨Nat.le_of_ble_eq_true rfl, Nat.le_of_ble_eq_true rfl⟩ [17, 3] rfl rfl 17 rfl rfl rfl hl.1 (Nat.le_of_ble_eq_true rfl) dX10_homeBehind_13 ⟨Nat.le_of_ble_eq_true rfl, Nat.le_of_ble_eq_true rfl⟩) (fun u_1 H locs hp_1 G => ?_)
    obtain ⟨a_1a, d_1b⟩ := u_1
    have hq_1 := hp_1
    have G : wd X (va_A (@HAppend.hAppend va_W va_W va_W _ (xW h0 nw sp xa la lb) (@HAppend.hAppend va_W va_W va_W _ (rcV X nw an sv dv n0 n1 n2 n3 n4 g0 gs gn gm) (rnV (xa 8) ag dg))) sz) (va_A (@HAppend.hAppend va_W va_W va_W _ (xW h0 nw sp xa la lb) (@HAppend.hAppend va_W va_W va_W _ (rcV X nw an sv dv n0 n1 n2 n3 n4 g0 gs gn gm) (rnV (xa 8) ag dg))) sz) s (@HAppend.hAppend va_W va_W va_W _ (xW h0 nw sp xa la lb) (@HAppend.hAppend va_W va_W va_W _ (rcV X nw an sv dv n0 n1 n2 n3 n4 g0 gs gn gm) (rnV (xa 8) a_1a d_1b))) H locs := wd_sub G [0, 1, 2, 17, 3, 4, 5, 6, 7, 8, 9, 10, 11, 12, 13, 14, 15, 16] rfl rfl
    refine lv_aload_n zx zb dX10_homeBehind_16 rfl (lv_at hl 0 rfl) ?_
    refine r_get (C := RX10) (T := TX10) (N := 14) (ci := 8) (v := .ref (xa 8)) S in_X10_homeBehind_X10 G 0 rfl rfl 8 (by decide) lk_X10_homeBehind_48 rfl dX10_homeBehind_17 ?_
    refine lv_aload_n zx zb dX10_homeBehind_20 rfl (lv_at hl 0 rfl) ?_
    refine r_get (C := RX10) (T := TX10) (N := 14) (ci := 8) (v := .ref nw) S in_X10_homeBehind_X10 G 0 rfl rfl 0 (by decide) lk_X10_homeBehind_10 rfl dX10_homeBehind_21 ?_
    refine r_get (C := RX5) (T := TX5) (N := 8) (ci := 3) (v := .int (dv 1)) S in_X10_homeBehind_X5 G 1 rfl rfl 1 (by decide) lk_X10_homeBehind_110 rfl dX10_homeBehind_24 ?_
    refine lv_aload_n zx zb dX10_homeBehind_27 rfl (lv_at hl 0 rfl) ?_
    refine r_get (C := RX10) (T := TX10) (N := 14) (ci := 8) (v := .ref nw) S in_X10_homeBehind_X10 G 0 rfl rfl 0 (by decide) lk_X10_homeBehind_10 rfl dX10_homeBehind_28 ?_
    refine r_get (C := RX5) (T := TX5) (N := 8) (ci := 3) (v := .int (dv 0)) S in_X10_homeBehind_X5 G 1 rfl rfl 0 (by decide) lk_X10_homeBehind_140 rfl dX10_homeBehind_31 ?_
    refine lv_iload_n zx zb dX10_homeBehind_34 rfl (lv_at hl 2 rfl) ?_
    refine b_wi (cells' := 0) (slots' := 0) (wr := @HAppend.hAppend va_W va_W va_W _ (xW h0 nw sp xa la lb) (rcV X nw an sv dv n0 n1 n2 n3 n4 g0 gs gn gm)) G rfl rfl [17] [0, 1, 2, 3, 4, 5, 6, 7, 8, 9, 10, 11, 12, 13, 14, 15, 16] rfl rfl rfl rfl (n_V (As := [.int (dv 1), .int (dv 0), .int x3]) (rest := []) (C := RX8) (T := TX8) (N := 8) (ci := 6) S G (s_ticksToHome l X (xa 8) a_1a d_1b (dv 1) (dv 0) x3 (by first | decide | assumption | exact trivial) H.size) gX10_homeBehind_X8_ticksToHome rfl rfl rfl hdV_X8_ticksToHome ⟨Nat.le_of_ble_eq_true rfl, Nat.le_of_ble_eq_true rfl⟩ [17] rfl rfl 17 rfl rfl rfl hl.1 (Nat.le_of_ble_eq_true rfl) dX10_homeBehind_35 ⟨Nat.le_of_ble_eq_true rfl, Nat.le_of_ble_eq_true rfl⟩) (fun r_2 u_2 H locs hp_2 G => ?_)
    obtain ⟨d_2, rfl⟩ : ∃ z, z = u_2 := ⟨_, rfl⟩
    have hq_2 := hp_2
    obtain ⟨hq_2, hs_2⟩ := hq_2
    have G : wd X (va_A (@HAppend.hAppend va_W va_W va_W _ (xW h0 nw sp xa la lb) (@HAppend.hAppend va_W va_W va_W _ (rcV X nw an sv dv n0 n1 n2 n3 n4 g0 gs gn gm) (rnV (xa 8) ag dg))) sz) (va_A (@HAppend.hAppend va_W va_W va_W _ (xW h0 nw sp xa la lb) (@HAppend.hAppend va_W va_W va_W _ (rcV X nw an sv dv n0 n1 n2 n3 n4 g0 gs gn gm) (rnV (xa 8) ag dg))) sz) s (@HAppend.hAppend va_W va_W va_W _ (xW h0 nw sp xa la lb) (@HAppend.hAppend va_W va_W va_W _ (rcV X nw an sv dv n0 n1 n2 n3 n4 g0 gs gn gm) (rnV (xa 8) a_1a d_2))) H locs := G
    exact e_int S zr zlk (vp_nar_int _) G (a_1a, d_2) [0, 1, 2, 3, 4, 5, 6, 7, 8, 9, 10, 11, 12, 13, 14, 15, 16, 17] rfl rfl (Or.inr rfl) (hq_2) dX10_homeBehind_38
  · refine k_it (v := 1) rfl ?_
    refine r_aald (C := RX8) (b := (an 2)) S G 2 3 rfl rfl (k_vp (by decide)) rfl dX10_homeBehind_12 ?_
    refine b_wv (cells' := 0) (slots' := 0) (wr := @HAppend.hAppend va_W va_W va_W _ (xW h0 nw sp xa la lb) ([(nw, .inr (3, [.int (dv 0), .int (dv 1), .int (nI n0), .ref (an 0), .ref (an 7), .ref (an 9), .ref (an 11), .ref (an 13)])), ((an 0), .inl (X.2.2.2.2, 6, .inr (.inr (.inr (.inr (rowQ an)))))), ((an 1), .inr (6, [.int (sv 0), .int (sv 1), .int (sv 2), .int (dv 10), .int (dv 11), .int (dv 12), .int (dv 13), .int (dv 14)])), ((an 3), .inr (6, [.int (sv 6), .int (sv 7), .int (sv 8), .int (dv 20), .int (dv 21), .int (dv 22), .int (dv 23), .int (dv 24)])), ((an 4), .inr (6, [.int (sv 9), .int (sv 10), .int (sv 11), .int (dv 25), .int (dv 26), .int (dv 27), .int (dv 28), .int (dv 29)])), ((an 5), .inr (6, [.int (sv 12), .int (sv 13), .int (sv 14), .int (dv 30), .int (dv 31), .int (dv 32), .int (dv 33), .int (dv 34)])), ((an 6), .inr (6, [.int (sv 15), .int (sv 16), .int (sv 17), .int (dv 35), .int (dv 36), .int (dv 37), .int (dv 38), .int (dv 39)])), ((an 7), .inr (2, [.ref (an 8), .int (nI n1)])), ((an 8), .inl (X.2.1, 248, .inl g0)), ((an 9), .inr (5, [.int 5, .int 0, .int 1, .ref (an 10), .int (nI n2)])), ((an 10), .inl (X.2.1, 25, .inl gs)), ((an 11), .inr (5, [.int 6, .int 1, .int 1, .ref (an 12), .int (nI n3)])), ((an 12), .inl (X.2.1, 30, .inl gn)), ((an 13), .inr (5, [.int 6, .int 0, .int 0, .ref (an 14), .int (nI n4)])), ((an 14), .inl (X.2.1, 30, .inl gm))])) G rfl rfl [17, 4] [0, 1, 2, 3, 5, 6, 7, 8, 9, 10, 11, 12, 13, 14, 15, 16] rfl rfl rfl rfl (n_V (As := [.ref (an 2)]) (rest := []) (C := RX8) (T := TX8) (N := 8) (ci := 6) S G (s_rcopy l X (xa 8) ag dg (an 2) (fun k => sv (3 + k)) (fun k => dv (15 + k)) s.heap.size) gX10_homeBehind_X8_copyFrom rfl rfl rfl hdV_X8_copyFrom ⟨Nat.le_of_ble_eq_true rfl, Nat.le_of_ble_eq_true rfl⟩ [17, 4] rfl rfl 17 rfl rfl rfl hl.1 (Nat.le_of_ble_eq_true rfl) dX10_homeBehind_13 ⟨Nat.le_of_ble_eq_true rfl, Nat.le_of_ble_eq_true rfl⟩) (fun u_3 H locs hp_3 G => ?_)
    obtain ⟨a_3a, d_3b⟩ := u_3
    have hq_3 := hp_3
    have G : wd X (va_A (@HAppend.hAppend va_W va_W va_W _ (xW h0 nw sp xa la lb) (@HAppend.hAppend va_W va_W va_W _ (rcV X nw an sv dv n0 n1 n2 n3 n4 g0 gs gn gm) (rnV (xa 8) ag dg))) sz) (va_A (@HAppend.hAppend va_W va_W va_W _ (xW h0 nw sp xa la lb) (@HAppend.hAppend va_W va_W va_W _ (rcV X nw an sv dv n0 n1 n2 n3 n4 g0 gs gn gm) (rnV (xa 8) ag dg))) sz) s (@HAppend.hAppend va_W va_W va_W _ (xW h0 nw sp xa la lb) (@HAppend.hAppend va_W va_W va_W _ (rcV X nw an sv dv n0 n1 n2 n3 n4 g0 gs gn gm) (rnV (xa 8) a_3a d_3b))) H locs := wd_sub G [0, 1, 2, 3, 17, 4, 5, 6, 7, 8, 9, 10, 11, 12, 13, 14, 15, 16] rfl rfl
    refine lv_aload_n zx zb dX10_homeBehind_16 rfl (lv_at hl 0 rfl) ?_
    refine r_get (C := RX10) (T := TX10) (N := 14) (ci := 8) (v := .ref (xa 8)) S in_X10_homeBehind_X10 G 0 rfl rfl 8 (by decide) lk_X10_homeBehind_48 rfl dX10_homeBehind_17 ?_
    refine lv_aload_n zx zb dX10_homeBehind_20 rfl (lv_at hl 0 rfl) ?_
    refine r_get (C := RX10) (T := TX10) (N := 14) (ci := 8) (v := .ref nw) S in_X10_homeBehind_X10 G 0 rfl rfl 0 (by decide) lk_X10_homeBehind_10 rfl dX10_homeBehind_21 ?_
    refine r_get (C := RX5) (T := TX5) (N := 8) (ci := 3) (v := .int (dv 1)) S in_X10_homeBehind_X5 G 1 rfl rfl 1 (by decide) lk_X10_homeBehind_110 rfl dX10_homeBehind_24 ?_
    refine lv_aload_n zx zb dX10_homeBehind_27 rfl (lv_at hl 0 rfl) ?_
    refine r_get (C := RX10) (T := TX10) (N := 14) (ci := 8) (v := .ref nw) S in_X10_homeBehind_X10 G 0 rfl rfl 0 (by decide) lk_X10_homeBehind_10 rfl dX10_homeBehind_28 ?_
    refine r_get (C := RX5) (T := TX5) (N := 8) (ci := 3) (v := .int (dv 0)) S in_X10_homeBehind_X5 G 1 rfl rfl 0 (by decide) lk_X10_homeBehind_140 rfl dX10_homeBehind_31 ?_
    refine lv_iload_n zx zb dX10_homeBehind_34 rfl (lv_at hl 2 rfl) ?_
    refine b_wi (cells' := 0) (slots' := 0) (wr := @HAppend.hAppend va_W va_W va_W _ (xW h0 nw sp xa la lb) (rcV X nw an sv dv n0 n1 n2 n3 n4 g0 gs gn gm)) G rfl rfl [17] [0, 1, 2, 3, 4, 5, 6, 7, 8, 9, 10, 11, 12, 13, 14, 15, 16] rfl rfl rfl rfl (n_V (As := [.int (dv 1), .int (dv 0), .int x3]) (rest := []) (C := RX8) (T := TX8) (N := 8) (ci := 6) S G (s_ticksToHome l X (xa 8) a_3a d_3b (dv 1) (dv 0) x3 (by first | decide | assumption | exact trivial) H.size) gX10_homeBehind_X8_ticksToHome rfl rfl rfl hdV_X8_ticksToHome ⟨Nat.le_of_ble_eq_true rfl, Nat.le_of_ble_eq_true rfl⟩ [17] rfl rfl 17 rfl rfl rfl hl.1 (Nat.le_of_ble_eq_true rfl) dX10_homeBehind_35 ⟨Nat.le_of_ble_eq_true rfl, Nat.le_of_ble_eq_true rfl⟩) (fun r_4 u_4 H locs hp_4 G => ?_)
    obtain ⟨d_4, rfl⟩ : ∃ z, z = u_4 := ⟨_, rfl⟩
    have hq_4 := hp_4
    obtain ⟨hq_4, hs_4⟩ := hq_4
    have G : wd X (va_A (@HAppend.hAppend va_W va_W va_W _ (xW h0 nw sp xa la lb) (@HAppend.hAppend va_W va_W va_W _ (rcV X nw an sv dv n0 n1 n2 n3 n4 g0 gs gn gm) (rnV (xa 8) ag dg))) sz) (va_A (@HAppend.hAppend va_W va_W va_W _ (xW h0 nw sp xa la lb) (@HAppend.hAppend va_W va_W va_W _ (rcV X nw an sv dv n0 n1 n2 n3 n4 g0 gs gn gm) (rnV (xa 8) ag dg))) sz) s (@HAppend.hAppend va_W va_W va_W _ (xW h0 nw sp xa la lb) (@HAppend.hAppend va_W va_W va_W _ (rcV X nw an sv dv n0 n1 n2 n3 n4 g0 gs gn gm) (rnV (xa 8) a_3a d_4))) H locs := G
    exact e_int S zr zlk (vp_nar_int _) G (a_3a, d_4) [0, 1, 2, 3, 4, 5, 6, 7, 8, 9, 10, 11, 12, 13, 14, 15, 16, 17] rfl rfl (Or.inr rfl) (hq_4) dX10_homeBehind_38
  · refine k_it (v := 2) rfl ?_
    refine r_aald (C := RX8) (b := (an 3)) S G 2 3 rfl rfl (k_vp (by decide)) rfl dX10_homeBehind_12 ?_
    refine b_wv (cells' := 0) (slots' := 0) (wr := @HAppend.hAppend va_W va_W va_W _ (xW h0 nw sp xa la lb) ([(nw, .inr (3, [.int (dv 0), .int (dv 1), .int (nI n0), .ref (an 0), .ref (an 7), .ref (an 9), .ref (an 11), .ref (an 13)])), ((an 0), .inl (X.2.2.2.2, 6, .inr (.inr (.inr (.inr (rowQ an)))))), ((an 1), .inr (6, [.int (sv 0), .int (sv 1), .int (sv 2), .int (dv 10), .int (dv 11), .int (dv 12), .int (dv 13), .int (dv 14)])), ((an 2), .inr (6, [.int (sv 3), .int (sv 4), .int (sv 5), .int (dv 15), .int (dv 16), .int (dv 17), .int (dv 18), .int (dv 19)])), ((an 4), .inr (6, [.int (sv 9), .int (sv 10), .int (sv 11), .int (dv 25), .int (dv 26), .int (dv 27), .int (dv 28), .int (dv 29)])), ((an 5), .inr (6, [.int (sv 12), .int (sv 13), .int (sv 14), .int (dv 30), .int (dv 31), .int (dv 32), .int (dv 33), .int (dv 34)])), ((an 6), .inr (6, [.int (sv 15), .int (sv 16), .int (sv 17), .int (dv 35), .int (dv 36), .int (dv 37), .int (dv 38), .int (dv 39)])), ((an 7), .inr (2, [.ref (an 8), .int (nI n1)])), ((an 8), .inl (X.2.1, 248, .inl g0)), ((an 9), .inr (5, [.int 5, .int 0, .int 1, .ref (an 10), .int (nI n2)])), ((an 10), .inl (X.2.1, 25, .inl gs)), ((an 11), .inr (5, [.int 6, .int 1, .int 1, .ref (an 12), .int (nI n3)])), ((an 12), .inl (X.2.1, 30, .inl gn)), ((an 13), .inr (5, [.int 6, .int 0, .int 0, .ref (an 14), .int (nI n4)])), ((an 14), .inl (X.2.1, 30, .inl gm))])) G rfl rfl [17, 5] [0, 1, 2, 3, 4, 6, 7, 8, 9, 10, 11, 12, 13, 14, 15, 16] rfl rfl rfl rfl (n_V (As := [.ref (an 3)]) (rest := []) (C := RX8) (T := TX8) (N := 8) (ci := 6) S G (s_rcopy l X (xa 8) ag dg (an 3) (fun k => sv (6 + k)) (fun k => dv (20 + k)) s.heap.size) gX10_homeBehind_X8_copyFrom rfl rfl rfl hdV_X8_copyFrom ⟨Nat.le_of_ble_eq_true rfl, Nat.le_of_ble_eq_true rfl⟩ [17, 5] rfl rfl 17 rfl rfl rfl hl.1 (Nat.le_of_ble_eq_true rfl) dX10_homeBehind_13 ⟨Nat.le_of_ble_eq_true rfl, Nat.le_of_ble_eq_true rfl⟩) (fun u_5 H locs hp_5 G => ?_)
    obtain ⟨a_5a, d_5b⟩ := u_5
    have hq_5 := hp_5
    have G : wd X (va_A (@HAppend.hAppend va_W va_W va_W _ (xW h0 nw sp xa la lb) (@HAppend.hAppend va_W va_W va_W _ (rcV X nw an sv dv n0 n1 n2 n3 n4 g0 gs gn gm) (rnV (xa 8) ag dg))) sz) (va_A (@HAppend.hAppend va_W va_W va_W _ (xW h0 nw sp xa la lb) (@HAppend.hAppend va_W va_W va_W _ (rcV X nw an sv dv n0 n1 n2 n3 n4 g0 gs gn gm) (rnV (xa 8) ag dg))) sz) s (@HAppend.hAppend va_W va_W va_W _ (xW h0 nw sp xa la lb) (@HAppend.hAppend va_W va_W va_W _ (rcV X nw an sv dv n0 n1 n2 n3 n4 g0 gs gn gm) (rnV (xa 8) a_5a d_5b))) H locs := wd_sub G [0, 1, 2, 3, 4, 17, 5, 6, 7, 8, 9, 10, 11, 12, 13, 14, 15, 16] rfl rfl
    refine lv_aload_n zx zb dX10_homeBehind_16 rfl (lv_at hl 0 rfl) ?_
    refine r_get (C := RX10) (T := TX10) (N := 14) (ci := 8) (v := .ref (xa 8)) S in_X10_homeBehind_X10 G 0 rfl rfl 8 (by decide) lk_X10_homeBehind_48 rfl dX10_homeBehind_17 ?_
    refine lv_aload_n zx zb dX10_homeBehind_20 rfl (lv_at hl 0 rfl) ?_
    refine r_get (C := RX10) (T := TX10) (N := 14) (ci := 8) (v := .ref nw) S in_X10_homeBehind_X10 G 0 rfl rfl 0 (by decide) lk_X10_homeBehind_10 rfl dX10_homeBehind_21 ?_
    refine r_get (C := RX5) (T := TX5) (N := 8) (ci := 3) (v := .int (dv 1)) S in_X10_homeBehind_X5 G 1 rfl rfl 1 (by decide) lk_X10_homeBehind_110 rfl dX10_homeBehind_24 ?_
    refine lv_aload_n zx zb dX10_homeBehind_27 rfl (lv_at hl 0 rfl) ?_
    refine r_get (C := RX10) (T := TX10) (N := 14) (ci := 8) (v := .ref nw) S in_X10_homeBehind_X10 G 0 rfl rfl 0 (by decide) lk_X10_homeBehind_10 rfl dX10_homeBehind_28 ?_
    refine r_get (C := RX5) (T := TX5) (N := 8) (ci := 3) (v := .int (dv 0)) S in_X10_homeBehind_X5 G 1 rfl rfl 0 (by decide) lk_X10_homeBehind_140 rfl dX10_homeBehind_31 ?_
    refine lv_iload_n zx zb dX10_homeBehind_34 rfl (lv_at hl 2 rfl) ?_
    refine b_wi (cells' := 0) (slots' := 0) (wr := @HAppend.hAppend va_W va_W va_W _ (xW h0 nw sp xa la lb) (rcV X nw an sv dv n0 n1 n2 n3 n4 g0 gs gn gm)) G rfl rfl [17] [0, 1, 2, 3, 4, 5, 6, 7, 8, 9, 10, 11, 12, 13, 14, 15, 16] rfl rfl rfl rfl (n_V (As := [.int (dv 1), .int (dv 0), .int x3]) (rest := []) (C := RX8) (T := TX8) (N := 8) (ci := 6) S G (s_ticksToHome l X (xa 8) a_5a d_5b (dv 1) (dv 0) x3 (by first | decide | assumption | exact trivial) H.size) gX10_homeBehind_X8_ticksToHome rfl rfl rfl hdV_X8_ticksToHome ⟨Nat.le_of_ble_eq_true rfl, Nat.le_of_ble_eq_true rfl⟩ [17] rfl rfl 17 rfl rfl rfl hl.1 (Nat.le_of_ble_eq_true rfl) dX10_homeBehind_35 ⟨Nat.le_of_ble_eq_true rfl, Nat.le_of_ble_eq_true rfl⟩) (fun r_6 u_6 H locs hp_6 G => ?_)
    obtain ⟨d_6, rfl⟩ : ∃ z, z = u_6 := ⟨_, rfl⟩
    have hq_6 := hp_6
    obtain ⟨hq_6, hs_6⟩ := hq_6
    have G : wd X (va_A (@HAppend.hAppend va_W va_W va_W _ (xW h0 nw sp xa la lb) (@HAppend.hAppend va_W va_W va_W _ (rcV X nw an sv dv n0 n1 n2 n3 n4 g0 gs gn gm) (rnV (xa 8) ag dg))) sz) (va_A (@HAppend.hAppend va_W va_W va_W _ (xW h0 nw sp xa la lb) (@HAppend.hAppend va_W va_W va_W _ (rcV X nw an sv dv n0 n1 n2 n3 n4 g0 gs gn gm) (rnV (xa 8) ag dg))) sz) s (@HAppend.hAppend va_W va_W va_W _ (xW h0 nw sp xa la lb) (@HAppend.hAppend va_W va_W va_W _ (rcV X nw an sv dv n0 n1 n2 n3 n4 g0 gs gn gm) (rnV (xa 8) a_5a d_6))) H locs := G
    exact e_int S zr zlk (vp_nar_int _) G (a_5a, d_6) [0, 1, 2, 3, 4, 5, 6, 7, 8, 9, 10, 11, 12, 13, 14, 15, 16, 17] rfl rfl (Or.inr rfl) (hq_6) dX10_homeBehind_38
  · refine k_it (v := 3) rfl ?_
    refine r_aald (C := RX8) (b := (an 4)) S G 2 3 rfl rfl (k_vp (by decide)) rfl dX10_homeBehind_12 ?_
    refine b_wv (cells' := 0) (slots' := 0) (wr := @HAppend.hAppend va_W va_W va_W _ (xW h0 nw sp xa la lb) ([(nw, .inr (3, [.int (dv 0), .int (dv 1), .int (nI n0), .ref (an 0), .ref (an 7), .ref (an 9), .ref (an 11), .ref (an 13)])), ((an 0), .inl (X.2.2.2.2, 6, .inr (.inr (.inr (.inr (rowQ an)))))), ((an 1), .inr (6, [.int (sv 0), .int (sv 1), .int (sv 2), .int (dv 10), .int (dv 11), .int (dv 12), .int (dv 13), .int (dv 14)])), ((an 2), .inr (6, [.int (sv 3), .int (sv 4), .int (sv 5), .int (dv 15), .int (dv 16), .int (dv 17), .int (dv 18), .int (dv 19)])), ((an 3), .inr (6, [.int (sv 6), .int (sv 7), .int (sv 8), .int (dv 20), .int (dv 21), .int (dv 22), .int (dv 23), .int (dv 24)])), ((an 5), .inr (6, [.int (sv 12), .int (sv 13), .int (sv 14), .int (dv 30), .int (dv 31), .int (dv 32), .int (dv 33), .int (dv 34)])), ((an 6), .inr (6, [.int (sv 15), .int (sv 16), .int (sv 17), .int (dv 35), .int (dv 36), .int (dv 37), .int (dv 38), .int (dv 39)])), ((an 7), .inr (2, [.ref (an 8), .int (nI n1)])), ((an 8), .inl (X.2.1, 248, .inl g0)), ((an 9), .inr (5, [.int 5, .int 0, .int 1, .ref (an 10), .int (nI n2)])), ((an 10), .inl (X.2.1, 25, .inl gs)), ((an 11), .inr (5, [.int 6, .int 1, .int 1, .ref (an 12), .int (nI n3)])), ((an 12), .inl (X.2.1, 30, .inl gn)), ((an 13), .inr (5, [.int 6, .int 0, .int 0, .ref (an 14), .int (nI n4)])), ((an 14), .inl (X.2.1, 30, .inl gm))])) G rfl rfl [17, 6] [0, 1, 2, 3, 4, 5, 7, 8, 9, 10, 11, 12, 13, 14, 15, 16] rfl rfl rfl rfl (n_V (As := [.ref (an 4)]) (rest := []) (C := RX8) (T := TX8) (N := 8) (ci := 6) S G (s_rcopy l X (xa 8) ag dg (an 4) (fun k => sv (9 + k)) (fun k => dv (25 + k)) s.heap.size) gX10_homeBehind_X8_copyFrom rfl rfl rfl hdV_X8_copyFrom ⟨Nat.le_of_ble_eq_true rfl, Nat.le_of_ble_eq_true rfl⟩ [17, 6] rfl rfl 17 rfl rfl rfl hl.1 (Nat.le_of_ble_eq_true rfl) dX10_homeBehind_13 ⟨Nat.le_of_ble_eq_true rfl, Nat.le_of_ble_eq_true rfl⟩) (fun u_7 H locs hp_7 G => ?_)
    obtain ⟨a_7a, d_7b⟩ := u_7
    have hq_7 := hp_7
    have G : wd X (va_A (@HAppend.hAppend va_W va_W va_W _ (xW h0 nw sp xa la lb) (@HAppend.hAppend va_W va_W va_W _ (rcV X nw an sv dv n0 n1 n2 n3 n4 g0 gs gn gm) (rnV (xa 8) ag dg))) sz) (va_A (@HAppend.hAppend va_W va_W va_W _ (xW h0 nw sp xa la lb) (@HAppend.hAppend va_W va_W va_W _ (rcV X nw an sv dv n0 n1 n2 n3 n4 g0 gs gn gm) (rnV (xa 8) ag dg))) sz) s (@HAppend.hAppend va_W va_W va_W _ (xW h0 nw sp xa la lb) (@HAppend.hAppend va_W va_W va_W _ (rcV X nw an sv dv n0 n1 n2 n3 n4 g0 gs gn gm) (rnV (xa 8) a_7a d_7b))) H locs := wd_sub G [0, 1, 2, 3, 4, 5, 17, 6, 7, 8, 9, 10, 11, 12, 13, 14, 15, 16] rfl rfl
    refine lv_aload_n zx zb dX10_homeBehind_16 rfl (lv_at hl 0 rfl) ?_
    refine r_get (C := RX10) (T := TX10) (N := 14) (ci := 8) (v := .ref (xa 8)) S in_X10_homeBehind_X10 G 0 rfl rfl 8 (by decide) lk_X10_homeBehind_48 rfl dX10_homeBehind_17 ?_
    refine lv_aload_n zx zb dX10_homeBehind_20 rfl (lv_at hl 0 rfl) ?_
    refine r_get (C := RX10) (T := TX10) (N := 14) (ci := 8) (v := .ref nw) S in_X10_homeBehind_X10 G 0 rfl rfl 0 (by decide) lk_X10_homeBehind_10 rfl dX10_homeBehind_21 ?_
    refine r_get (C := RX5) (T := TX5) (N := 8) (ci := 3) (v := .int (dv 1)) S in_X10_homeBehind_X5 G 1 rfl rfl 1 (by decide) lk_X10_homeBehind_110 rfl dX10_homeBehind_24 ?_
    refine lv_aload_n zx zb dX10_homeBehind_27 rfl (lv_at hl 0 rfl) ?_
    refine r_get (C := RX10) (T := TX10) (N := 14) (ci := 8) (v := .ref nw) S in_X10_homeBehind_X10 G 0 rfl rfl 0 (by decide) lk_X10_homeBehind_10 rfl dX10_homeBehind_28 ?_
    refine r_get (C := RX5) (T := TX5) (N := 8) (ci := 3) (v := .int (dv 0)) S in_X10_homeBehind_X5 G 1 rfl rfl 0 (by decide) lk_X10_homeBehind_140 rfl dX10_homeBehind_31 ?_
    refine lv_iload_n zx zb dX10_homeBehind_34 rfl (lv_at hl 2 rfl) ?_
    refine b_wi (cells' := 0) (slots' := 0) (wr := @HAppend.hAppend va_W va_W va_W _ (xW h0 nw sp xa la lb) (rcV X nw an sv dv n0 n1 n2 n3 n4 g0 gs gn gm)) G rfl rfl [17] [0, 1, 2, 3, 4, 5, 6, 7, 8, 9, 10, 11, 12, 13, 14, 15, 16] rfl rfl rfl rfl (n_V (As := [.int (dv 1), .int (dv 0), .int x3]) (rest := []) (C := RX8) (T := TX8) (N := 8) (ci := 6) S G (s_ticksToHome l X (xa 8) a_7a d_7b (dv 1) (dv 0) x3 (by first | decide | assumption | exact trivial) H.size) gX10_homeBehind_X8_ticksToHome rfl rfl rfl hdV_X8_ticksToHome ⟨Nat.le_of_ble_eq_true rfl, Nat.le_of_ble_eq_true rfl⟩ [17] rfl rfl 17 rfl rfl rfl hl.1 (Nat.le_of_ble_eq_true rfl) dX10_homeBehind_35 ⟨Nat.le_of_ble_eq_true rfl, Nat.le_of_ble_eq_true rfl⟩) (fun r_8 u_8 H locs hp_8 G => ?_)
    obtain ⟨d_8, rfl⟩ : ∃ z, z = u_8 := ⟨_, rfl⟩
    have hq_8 := hp_8
    obtain ⟨hq_8, hs_8⟩ := hq_8
    have G : wd X (va_A (@HAppend.hAppend va_W va_W va_W _ (xW h0 nw sp xa la lb) (@HAppend.hAppend va_W va_W va_W _ (rcV X nw an sv dv n0 n1 n2 n3 n4 g0 gs gn gm) (rnV (xa 8) ag dg))) sz) (va_A (@HAppend.hAppend va_W va_W va_W _ (xW h0 nw sp xa la lb) (@HAppend.hAppend va_W va_W va_W _ (rcV X nw an sv dv n0 n1 n2 n3 n4 g0 gs gn gm) (rnV (xa 8) ag dg))) sz) s (@HAppend.hAppend va_W va_W va_W _ (xW h0 nw sp xa la lb) (@HAppend.hAppend va_W va_W va_W _ (rcV X nw an sv dv n0 n1 n2 n3 n4 g0 gs gn gm) (rnV (xa 8) a_7a d_8))) H locs := G
    exact e_int S zr zlk (vp_nar_int _) G (a_7a, d_8) [0, 1, 2, 3, 4, 5, 6, 7, 8, 9, 10, 11, 12, 13, 14, 15, 16, 17] rfl rfl (Or.inr rfl) (hq_8) dX10_homeBehind_38
  · refine k_it (v := 4) rfl ?_
    refine r_aald (C := RX8) (b := (an 5)) S G 2 3 rfl rfl (k_vp (by decide)) rfl dX10_homeBehind_12 ?_
    refine b_wv (cells' := 0) (slots' := 0) (wr := @HAppend.hAppend va_W va_W va_W _ (xW h0 nw sp xa la lb) ([(nw, .inr (3, [.int (dv 0), .int (dv 1), .int (nI n0), .ref (an 0), .ref (an 7), .ref (an 9), .ref (an 11), .ref (an 13)])), ((an 0), .inl (X.2.2.2.2, 6, .inr (.inr (.inr (.inr (rowQ an)))))), ((an 1), .inr (6, [.int (sv 0), .int (sv 1), .int (sv 2), .int (dv 10), .int (dv 11), .int (dv 12), .int (dv 13), .int (dv 14)])), ((an 2), .inr (6, [.int (sv 3), .int (sv 4), .int (sv 5), .int (dv 15), .int (dv 16), .int (dv 17), .int (dv 18), .int (dv 19)])), ((an 3), .inr (6, [.int (sv 6), .int (sv 7), .int (sv 8), .int (dv 20), .int (dv 21), .int (dv 22), .int (dv 23), .int (dv 24)])), ((an 4), .inr (6, [.int (sv 9), .int (sv 10), .int (sv 11), .int (dv 25), .int (dv 26), .int (dv 27), .int (dv 28), .int (dv 29)])), ((an 6), .inr (6, [.int (sv 15), .int (sv 16), .int (sv 17), .int (dv 35), .int (dv 36), .int (dv 37), .int (dv 38), .int (dv 39)])), ((an 7), .inr (2, [.ref (an 8), .int (nI n1)])), ((an 8), .inl (X.2.1, 248, .inl g0)), ((an 9), .inr (5, [.int 5, .int 0, .int 1, .ref (an 10), .int (nI n2)])), ((an 10), .inl (X.2.1, 25, .inl gs)), ((an 11), .inr (5, [.int 6, .int 1, .int 1, .ref (an 12), .int (nI n3)])), ((an 12), .inl (X.2.1, 30, .inl gn)), ((an 13), .inr (5, [.int 6, .int 0, .int 0, .ref (an 14), .int (nI n4)])), ((an 14), .inl (X.2.1, 30, .inl gm))])) G rfl rfl [17, 7] [0, 1, 2, 3, 4, 5, 6, 8, 9, 10, 11, 12, 13, 14, 15, 16] rfl rfl rfl rfl (n_V (As := [.ref (an 5)]) (rest := []) (C := RX8) (T := TX8) (N := 8) (ci := 6) S G (s_rcopy l X (xa 8) ag dg (an 5) (fun k => sv (12 + k)) (fun k => dv (30 + k)) s.heap.size) gX10_homeBehind_X8_copyFrom rfl rfl rfl hdV_X8_copyFrom ⟨Nat.le_of_ble_eq_true rfl, Nat.le_of_ble_eq_true rfl⟩ [17, 7] rfl rfl 17 rfl rfl rfl hl.1 (Nat.le_of_ble_eq_true rfl) dX10_homeBehind_13 ⟨Nat.le_of_ble_eq_true rfl, Nat.le_of_ble_eq_true rfl⟩) (fun u_9 H locs hp_9 G => ?_)
    obtain ⟨a_9a, d_9b⟩ := u_9
    have hq_9 := hp_9
    have G : wd X (va_A (@HAppend.hAppend va_W va_W va_W _ (xW h0 nw sp xa la lb) (@HAppend.hAppend va_W va_W va_W _ (rcV X nw an sv dv n0 n1 n2 n3 n4 g0 gs gn gm) (rnV (xa 8) ag dg))) sz) (va_A (@HAppend.hAppend va_W va_W va_W _ (xW h0 nw sp xa la lb) (@HAppend.hAppend va_W va_W va_W _ (rcV X nw an sv dv n0 n1 n2 n3 n4 g0 gs gn gm) (rnV (xa 8) ag dg))) sz) s (@HAppend.hAppend va_W va_W va_W _ (xW h0 nw sp xa la lb) (@HAppend.hAppend va_W va_W va_W _ (rcV X nw an sv dv n0 n1 n2 n3 n4 g0 gs gn gm) (rnV (xa 8) a_9a d_9b))) H locs := wd_sub G [0, 1, 2, 3, 4, 5, 6, 17, 7, 8, 9, 10, 11, 12, 13, 14, 15, 16] rfl rfl
    refine lv_aload_n zx zb dX10_homeBehind_16 rfl (lv_at hl 0 rfl) ?_
    refine r_get (C := RX10) (T := TX10) (N := 14) (ci := 8) (v := .ref (xa 8)) S in_X10_homeBehind_X10 G 0 rfl rfl 8 (by decide) lk_X10_homeBehind_48 rfl dX10_homeBehind_17 ?_
    refine lv_aload_n zx zb dX10_homeBehind_20 rfl (lv_at hl 0 rfl) ?_
    refine r_get (C := RX10) (T := TX10) (N := 14) (ci := 8) (v := .ref nw) S in_X10_homeBehind_X10 G 0 rfl rfl 0 (by decide) lk_X10_homeBehind_10 rfl dX10_homeBehind_21 ?_
    refine r_get (C := RX5) (T := TX5) (N := 8) (ci := 3) (v := .int (dv 1)) S in_X10_homeBehind_X5 G 1 rfl rfl 1 (by decide) lk_X10_homeBehind_110 rfl dX10_homeBehind_24 ?_
    refine lv_aload_n zx zb dX10_homeBehind_27 rfl (lv_at hl 0 rfl) ?_
    refine r_get (C := RX10) (T := TX10) (N := 14) (ci := 8) (v := .ref nw) S in_X10_homeBehind_X10 G 0 rfl rfl 0 (by decide) lk_X10_homeBehind_10 rfl dX10_homeBehind_28 ?_
    refine r_get (C := RX5) (T := TX5) (N := 8) (ci := 3) (v := .int (dv 0)) S in_X10_homeBehind_X5 G 1 rfl rfl 0 (by decide) lk_X10_homeBehind_140 rfl dX10_homeBehind_31 ?_
    refine lv_iload_n zx zb dX10_homeBehind_34 rfl (lv_at hl 2 rfl) ?_
    refine b_wi (cells' := 0) (slots' := 0) (wr := @HAppend.hAppend va_W va_W va_W _ (xW h0 nw sp xa la lb) (rcV X nw an sv dv n0 n1 n2 n3 n4 g0 gs gn gm)) G rfl rfl [17] [0, 1, 2, 3, 4, 5, 6, 7, 8, 9, 10, 11, 12, 13, 14, 15, 16] rfl rfl rfl rfl (n_V (As := [.int (dv 1), .int (dv 0), .int x3]) (rest := []) (C := RX8) (T := TX8) (N := 8) (ci := 6) S G (s_ticksToHome l X (xa 8) a_9a d_9b (dv 1) (dv 0) x3 (by first | decide | assumption | exact trivial) H.size) gX10_homeBehind_X8_ticksToHome rfl rfl rfl hdV_X8_ticksToHome ⟨Nat.le_of_ble_eq_true rfl, Nat.le_of_ble_eq_true rfl⟩ [17] rfl rfl 17 rfl rfl rfl hl.1 (Nat.le_of_ble_eq_true rfl) dX10_homeBehind_35 ⟨Nat.le_of_ble_eq_true rfl, Nat.le_of_ble_eq_true rfl⟩) (fun r_10 u_10 H locs hp_10 G => ?_)
    obtain ⟨d_10, rfl⟩ : ∃ z, z = u_10 := ⟨_, rfl⟩
    have hq_10 := hp_10
    obtain ⟨hq_10, hs_10⟩ := hq_10
    have G : wd X (va_A (@HAppend.hAppend va_W va_W va_W _ (xW h0 nw sp xa la lb) (@HAppend.hAppend va_W va_W va_W _ (rcV X nw an sv dv n0 n1 n2 n3 n4 g0 gs gn gm) (rnV (xa 8) ag dg))) sz) (va_A (@HAppend.hAppend va_W va_W va_W _ (xW h0 nw sp xa la lb) (@HAppend.hAppend va_W va_W va_W _ (rcV X nw an sv dv n0 n1 n2 n3 n4 g0 gs gn gm) (rnV (xa 8) ag dg))) sz) s (@HAppend.hAppend va_W va_W va_W _ (xW h0 nw sp xa la lb) (@HAppend.hAppend va_W va_W va_W _ (rcV X nw an sv dv n0 n1 n2 n3 n4 g0 gs gn gm) (rnV (xa 8) a_9a d_10))) H locs := G
    exact e_int S zr zlk (vp_nar_int _) G (a_9a, d_10) [0, 1, 2, 3, 4, 5, 6, 7, 8, 9, 10, 11, 12, 13, 14, 15, 16, 17] rfl rfl (Or.inr rfl) (hq_10) dX10_homeBehind_38
  · refine k_it (v := 5) rfl ?_
    refine r_aald (C := RX8) (b := (an 6)) S G 2 3 rfl rfl (k_vp (by decide)) rfl dX10_homeBehind_12 ?_
    refine b_wv (cells' := 0) (slots' := 0) (wr := @HAppend.hAppend va_W va_W va_W _ (xW h0 nw sp xa la lb) ([(nw, .inr (3, [.int (dv 0), .int (dv 1), .int (nI n0), .ref (an 0), .ref (an 7), .ref (an 9), .ref (an 11), .ref (an 13)])), ((an 0), .inl (X.2.2.2.2, 6, .inr (.inr (.inr (.inr (rowQ an)))))), ((an 1), .inr (6, [.int (sv 0), .int (sv 1), .int (sv 2), .int (dv 10), .int (dv 11), .int (dv 12), .int (dv 13), .int (dv 14)])), ((an 2), .inr (6, [.int (sv 3), .int (sv 4), .int (sv 5), .int (dv 15), .int (dv 16), .int (dv 17), .int (dv 18), .int (dv 19)])), ((an 3), .inr (6, [.int (sv 6), .int (sv 7), .int (sv 8), .int (dv 20), .int (dv 21), .int (dv 22), .int (dv 23), .int (dv 24)])), ((an 4), .inr (6, [.int (sv 9), .int (sv 10), .int (sv 11), .int (dv 25), .int (dv 26), .int (dv 27), .int (dv 28), .int (dv 29)])), ((an 5), .inr (6, [.int (sv 12), .int (sv 13), .int (sv 14), .int (dv 30), .int (dv 31), .int (dv 32), .int (dv 33), .int (dv 34)])), ((an 7), .inr (2, [.ref (an 8), .int (nI n1)])), ((an 8), .inl (X.2.1, 248, .inl g0)), ((an 9), .inr (5, [.int 5, .int 0, .int 1, .ref (an 10), .int (nI n2)])), ((an 10), .inl (X.2.1, 25, .inl gs)), ((an 11), .inr (5, [.int 6, .int 1, .int 1, .ref (an 12), .int (nI n3)])), ((an 12), .inl (X.2.1, 30, .inl gn)), ((an 13), .inr (5, [.int 6, .int 0, .int 0, .ref (an 14), .int (nI n4)])), ((an 14), .inl (X.2.1, 30, .inl gm))])) G rfl rfl [17, 8] [0, 1, 2, 3, 4, 5, 6, 7, 9, 10, 11, 12, 13, 14, 15, 16] rfl rfl rfl rfl (n_V (As := [.ref (an 6)]) (rest := []) (C := RX8) (T := TX8) (N := 8) (ci := 6) S G (s_rcopy l X (xa 8) ag dg (an 6) (fun k => sv (15 + k)) (fun k => dv (35 + k)) s.heap.size) gX10_homeBehind_X8_copyFrom rfl rfl rfl hdV_X8_copyFrom ⟨Nat.le_of_ble_eq_true rfl, Nat.le_of_ble_eq_true rfl⟩ [17, 8] rfl rfl 17 rfl rfl rfl hl.1 (Nat.le_of_ble_eq_true rfl) dX10_homeBehind_13 ⟨Nat.le_of_ble_eq_true rfl, Nat.le_of_ble_eq_true rfl⟩) (fun u_11 H locs hp_11 G => ?_)
    obtain ⟨a_11a, d_11b⟩ := u_11
    have hq_11 := hp_11
    have G : wd X (va_A (@HAppend.hAppend va_W va_W va_W _ (xW h0 nw sp xa la lb) (@HAppend.hAppend va_W va_W va_W _ (rcV X nw an sv dv n0 n1 n2 n3 n4 g0 gs gn gm) (rnV (xa 8) ag dg))) sz) (va_A (@HAppend.hAppend va_W va_W va_W _ (xW h0 nw sp xa la lb) (@HAppend.hAppend va_W va_W va_W _ (rcV X nw an sv dv n0 n1 n2 n3 n4 g0 gs gn gm) (rnV (xa 8) ag dg))) sz) s (@HAppend.hAppend va_W va_W va_W _ (xW h0 nw sp xa la lb) (@HAppend.hAppend va_W va_W va_W _ (rcV X nw an sv dv n0 n1 n2 n3 n4 g0 gs gn gm) (rnV (xa 8) a_11a d_11b))) H locs := wd_sub G [0, 1, 2, 3, 4, 5, 6, 7, 17, 8, 9, 10, 11, 12, 13, 14, 15, 16] rfl rfl
    refine lv_aload_n zx zb dX10_homeBehind_16 rfl (lv_at hl 0 rfl) ?_
    refine r_get (C := RX10) (T := TX10) (N := 14) (ci := 8) (v := .ref (xa 8)) S in_X10_homeBehind_X10 G 0 rfl rfl 8 (by decide) lk_X10_homeBehind_48 rfl dX10_homeBehind_17 ?_
    refine lv_aload_n zx zb dX10_homeBehind_20 rfl (lv_at hl 0 rfl) ?_
    refine r_get (C := RX10) (T := TX10) (N := 14) (ci := 8) (v := .ref nw) S in_X10_homeBehind_X10 G 0 rfl rfl 0 (by decide) lk_X10_homeBehind_10 rfl dX10_homeBehind_21 ?_
    refine r_get (C := RX5) (T := TX5) (N := 8) (ci := 3) (v := .int (dv 1)) S in_X10_homeBehind_X5 G 1 rfl rfl 1 (by decide) lk_X10_homeBehind_110 rfl dX10_homeBehind_24 ?_
    refine lv_aload_n zx zb dX10_homeBehind_27 rfl (lv_at hl 0 rfl) ?_
    refine r_get (C := RX10) (T := TX10) (N := 14) (ci := 8) (v := .ref nw) S in_X10_homeBehind_X10 G 0 rfl rfl 0 (by decide) lk_X10_homeBehind_10 rfl dX10_homeBehind_28 ?_
    refine r_get (C := RX5) (T := TX5) (N := 8) (ci := 3) (v := .int (dv 0)) S in_X10_homeBehind_X5 G 1 rfl rfl 0 (by decide) lk_X10_homeBehind_140 rfl dX10_homeBehind_31 ?_
    refine lv_iload_n zx zb dX10_homeBehind_34 rfl (lv_at hl 2 rfl) ?_
    refine b_wi (cells' := 0) (slots' := 0) (wr := @HAppend.hAppend va_W va_W va_W _ (xW h0 nw sp xa la lb) (rcV X nw an sv dv n0 n1 n2 n3 n4 g0 gs gn gm)) G rfl rfl [17] [0, 1, 2, 3, 4, 5, 6, 7, 8, 9, 10, 11, 12, 13, 14, 15, 16] rfl rfl rfl rfl (n_V (As := [.int (dv 1), .int (dv 0), .int x3]) (rest := []) (C := RX8) (T := TX8) (N := 8) (ci := 6) S G (s_ticksToHome l X (xa 8) a_11a d_11b (dv 1) (dv 0) x3 (by first | decide | assumption | exact trivial) H.size) gX10_homeBehind_X8_ticksToHome rfl rfl rfl hdV_X8_ticksToHome ⟨Nat.le_of_ble_eq_true rfl, Nat.le_of_ble_eq_true rfl⟩ [17] rfl rfl 17 rfl rfl rfl hl.1 (Nat.le_of_ble_eq_true rfl) dX10_homeBehind_35 ⟨Nat.le_of_ble_eq_true rfl, Nat.le_of_ble_eq_true rfl⟩) (fun r_12 u_12 H locs hp_12 G => ?_)
    obtain ⟨d_12, rfl⟩ : ∃ z, z = u_12 := ⟨_, rfl⟩
    have hq_12 := hp_12
    obtain ⟨hq_12, hs_12⟩ := hq_12
    have G : wd X (va_A (@HAppend.hAppend va_W va_W va_W _ (xW h0 nw sp xa la lb) (@HAppend.hAppend va_W va_W va_W _ (rcV X nw an sv dv n0 n1 n2 n3 n4 g0 gs gn gm) (rnV (xa 8) ag dg))) sz) (va_A (@HAppend.hAppend va_W va_W va_W _ (xW h0 nw sp xa la lb) (@HAppend.hAppend va_W va_W va_W _ (rcV X nw an sv dv n0 n1 n2 n3 n4 g0 gs gn gm) (rnV (xa 8) ag dg))) sz) s (@HAppend.hAppend va_W va_W va_W _ (xW h0 nw sp xa la lb) (@HAppend.hAppend va_W va_W va_W _ (rcV X nw an sv dv n0 n1 n2 n3 n4 g0 gs gn gm) (rnV (xa 8) a_11a d_12))) H locs := G
    exact e_int S zr zlk (vp_nar_int _) G (a_11a, d_12) [0, 1, 2, 3, 4, 5, 6, 7, 8, 9, 10, 11, 12, 13, 14, 15, 16, 17] rfl rfl (Or.inr rfl) (hq_12) dX10_homeBehind_38
theorem hdV_X10_homeBehind : yX10_homeBehind.cls = RX10 ∧ yX10_homeBehind.cls ≠ "java/lang/invoke/MethodHandle" ∧ yX10_homeBehind.cls ≠ "java/lang/invoke/VarHandle" ∧ (parseMethodDescriptor yX10_homeBehind.desc).map (fun d => d.parameters.length) = some 2 := by decide +kernel
set_option maxHeartbeats 4000000 in
set_option maxRecDepth 100000 in
/-- home -/
theorem s_home (l : Launch) (X : EX) (h0 : Nat) (nw : Nat) (sp : Nat) (xa : Nat → Nat) (la : Int64) (lb : Int64) (an : Nat → Nat) (sv : Nat → Int32) (dv : Nat → Int32) (n0 : Nat) (n1 : Nat) (n2 : Nat) (n3 : Nat) (n4 : Nat) (g0 : Nat → Int32) (gs : Nat → Int32) (gn : Nat → Int32) (gm : Nat → Int32) (ag : Nat → Int32) (dg : Nat → Int32) (fr : Nat → Int32) (x1 : Int32) (hI_n0 : n0 ≤ 6) (hI_n1 : n1 ≤ 8) (hI_n2 : n2 ≤ 5) (hI_n3 : n3 ≤ 6) (hI_n4 : n4 ≤ 6) (sz : Nat) : Met l yX10_home wsX10_home ({ frames := 4, cells := 0, slots := 0, locals := 95 } : Room) (pE X [.ref h0, .int x1] (@HAppend.hAppend va_W va_W va_W _ (xW h0 nw sp xa la lb) (@HAppend.hAppend va_W va_W va_W _ (rcV X nw an sv dv n0 n1 n2 n3 n4 g0 gs gn gm) (@HAppend.hAppend va_W va_W va_W _ (rnV (xa 8) ag dg) ([((xa 5), .inl (X.2.1, 3, .inl fr))])))) sz) (qI (fun (r : Int32) (u : (Nat → Int32) × (Nat → Int32) × (Nat → Int32)) => (True)) X (fun (u : (Nat → Int32) × (Nat → Int32) × (Nat → Int32)) => @HAppend.hAppend va_W va_W va_W _ (xW h0 nw sp xa la lb) (@HAppend.hAppend va_W va_W va_W _ (rcV X nw an sv dv n0 n1 n2 n3 n4 g0 gs gn gm) (@HAppend.hAppend va_W va_W va_W _ (rnV (xa 8) u.1 u.2.1) ([((xa 5), .inl (X.2.1, 3, .inl u.2.2))])))) (@HAppend.hAppend va_W va_W va_W _ (xW h0 nw sp xa la lb) (@HAppend.hAppend va_W va_W va_W _ (rcV X nw an sv dv n0 n1 n2 n3 n4 g0 gs gn gm) (@HAppend.hAppend va_W va_W va_W _ (rnV (xa 8) ag dg) ([((xa 5), .inl (X.2.1, 3, .inl fr))])))) sz) 0 0 (va_A (@HAppend.hAppend va_W va_W va_W _ (xW h0 nw sp xa la lb) (@HAppend.hAppend va_W va_W va_W _ (rcV X nw an sv dv n0 n1 n2 n3 n4 g0 gs gn gm) (@HAppend.hAppend va_W va_W va_W _ (rnV (xa 8) ag dg) ([((xa 5), .inl (X.2.1, 3, .inl fr))])))) sz) := by
  refine mk_met (B := (va_A (@HAppend.hAppend va_W va_W va_W _ (xW h0 nw sp xa la lb) (@HAppend.hAppend va_W va_W va_W _ (rcV X nw an sv dv n0 n1 n2 n3 n4 g0 gs gn gm) (@HAppend.hAppend va_W va_W va_W _ (rnV (xa 8) ag dg) ([((xa 5), .inl (X.2.1, 3, .inl fr))])))) sz)) (A := (va_A (@HAppend.hAppend va_W va_W va_W _ (xW h0 nw sp xa la lb) (@HAppend.hAppend va_W va_W va_W _ (rcV X nw an sv dv n0 n1 n2 n3 n4 g0 gs gn gm) (@HAppend.hAppend va_W va_W va_W _ (rnV (xa 8) ag dg) ([((xa 5), .inl (X.2.1, 3, .inl fr))])))) sz)) (cc := cX10_home) (maxL := 2) (ret := (some .int)) (by decide) rfl (Nat.le_of_ble_eq_true rfl) k_w k_a (fun p e s m below meth c S zr zlk znm zsz G ls hl => ?_)
  have S : CallFix p m c cX10_home 2 s _ wsX10_home RX10 := S
  have zx := S.1
  have zb := S.2.1
  have hl : lv_has ls 2 [(0, .ref h0), (1, .int x1)] := hl
  refine lv_aload_n zx zb dX10_home_0 rfl (lv_at hl 0 rfl) ?_
  refine lv_iload_n zx zb dX10_home_1 rfl (lv_at hl 1 rfl) ?_
  refine o_ri (cells' := 0) (slots' := 0) G rfl rfl (n_V (As := [.int x1]) (rest := []) (C := RX10) (T := TX10) (N := 14) (ci := 8) S G (s_there l X h0 nw sp xa la lb an sv dv n0 n1 n2 n3 n4 g0 gs gn gm x1 hI_n0 hI_n1 hI_n2 hI_n3 hI_n4 s.heap.size) gX10_home_X10_there rfl rfl rfl hdV_X10_there ⟨Nat.le_of_ble_eq_true rfl, Nat.le_of_ble_eq_true rfl⟩ [0, 1, 2, 3, 4, 5, 6, 7, 8, 9, 10, 11, 12, 13, 14, 15, 16] rfl rfl 0 rfl rfl rfl hl.1 (Nat.le_of_ble_eq_true rfl) dX10_home_2 ⟨Nat.le_of_ble_eq_true rfl, Nat.le_of_ble_eq_true rfl⟩) (fun r_1 u_1 H locs hp_1 G => ?_)
  have G : wd X (va_A (@HAppend.hAppend va_W va_W va_W _ (xW h0 nw sp xa la lb) (@HAppend.hAppend va_W va_W va_W _ (rcV X nw an sv dv n0 n1 n2 n3 n4 g0 gs gn gm) (@HAppend.hAppend va_W va_W va_W _ (rnV (xa 8) ag dg) ([((xa 5), .inl (X.2.1, 3, .inl fr))])))) sz) (va_A (@HAppend.hAppend va_W va_W va_W _ (xW h0 nw sp xa la lb) (@HAppend.hAppend va_W va_W va_W _ (rcV X nw an sv dv n0 n1 n2 n3 n4 g0 gs gn gm) (@HAppend.hAppend va_W va_W va_W _ (rnV (xa 8) ag dg) ([((xa 5), .inl (X.2.1, 3, .inl fr))])))) sz) s (@HAppend.hAppend va_W va_W va_W _ (xW h0 nw sp xa la lb) (@HAppend.hAppend va_W va_W va_W _ (rcV X nw an sv dv n0 n1 n2 n3 n4 g0 gs gn gm) (@HAppend.hAppend va_W va_W va_W _ (rnV (xa 8) ag dg) ([((xa 5), .inl (X.2.1, 3, .inl fr))])))) H locs := G
  rcases hp_1 with ⟨rfl, hj_1⟩ | ⟨rfl, hj_1⟩
  · obtain ⟨j_1, hj_1, rfl⟩ := hj_1
    refine lv_if_eq (tgt := 18) zx zb dX10_home_5 (by decide) (fun c_2 => absurd c_2 (by decide)) (fun c_2 => ?_)
    refine lv_aload_n zx zb dX10_home_8 rfl (lv_at hl 0 rfl) ?_
    refine lv_iload_n zx zb dX10_home_9 rfl (lv_at hl 1 rfl) ?_
    refine lv_bipush (v := 60) zx zb dX10_home_10 (by decide) ?_
    refine b_wi (cells' := 0) (slots' := 0) (wr := [((xa 5), .inl (X.2.1, 3, .inl fr))]) G rfl rfl [0, 1, 2, 3, 4, 5, 6, 7, 8, 9, 10, 11, 12, 13, 14, 15, 16, 17] [18] rfl rfl rfl rfl (n_V (As := [.int (nI j_1), .int 60]) (rest := []) (C := RX10) (T := TX10) (N := 14) (ci := 8) S G (s_homeBehind l X h0 nw sp xa la lb an sv dv n0 n1 n2 n3 n4 g0 gs gn gm ag dg j_1 60 hI_n0 hI_n1 hI_n2 hI_n3 hI_n4 (by omega) (by first | decide | assumption | exact k_60a (by assumption)) H.size) gX10_home_X10_homeBehind rfl rfl rfl hdV_X10_homeBehind ⟨Nat.le_of_ble_eq_true rfl, Nat.le_of_ble_eq_true rfl⟩ [0, 1, 2, 3, 4, 5, 6, 7, 8, 9, 10, 11, 12, 13, 14, 15, 16, 17] rfl rfl 0 rfl rfl rfl hl.1 (Nat.le_of_ble_eq_true rfl) dX10_home_12 ⟨Nat.le_of_ble_eq_true rfl, Nat.le_of_ble_eq_true rfl⟩) (fun r_3 u_3 H locs hp_3 G => ?_)
    obtain ⟨a_3a, d_3b⟩ := u_3
    have hq_3 := hp_3
    have G : wd X (va_A (@HAppend.hAppend va_W va_W va_W _ (xW h0 nw sp xa la lb) (@HAppend.hAppend va_W va_W va_W _ (rcV X nw an sv dv n0 n1 n2 n3 n4 g0 gs gn gm) (@HAppend.hAppend va_W va_W va_W _ (rnV (xa 8) ag dg) ([((xa 5), .inl (X.2.1, 3, .inl fr))])))) sz) (va_A (@HAppend.hAppend va_W va_W va_W _ (xW h0 nw sp xa la lb) (@HAppend.hAppend va_W va_W va_W _ (rcV X nw an sv dv n0 n1 n2 n3 n4 g0 gs gn gm) (@HAppend.hAppend va_W va_W va_W _ (rnV (xa 8) ag dg) ([((xa 5), .inl (X.2.1, 3, .inl fr))])))) sz) s (@HAppend.hAppend va_W va_W va_W _ ([((xa 5), .inl (X.2.1, 3, .inl fr))]) (@HAppend.hAppend va_W va_W va_W _ (xW h0 nw sp xa la lb) (@HAppend.hAppend va_W va_W va_W _ (rcV X nw an sv dv n0 n1 n2 n3 n4 g0 gs gn gm) (rnV (xa 8) a_3a d_3b)))) H locs := G
    refine lv_goto (tgt := 24) zx zb dX10_home_15 (by decide) ?_
    exact e_int S zr zlk (vp_nar_int _) G (a_3a, d_3b, fr) [1, 2, 3, 4, 5, 6, 7, 8, 9, 10, 11, 12, 13, 14, 15, 16, 17, 18, 0] rfl rfl (Or.inr rfl) (trivial) dX10_home_24
  · refine lv_if_eq (tgt := 18) zx zb dX10_home_5 (by decide) (fun c_4 => ?_) (fun c_4 => absurd (by decide) c_4)
    refine lv_aload_n zx zb dX10_home_18 rfl (lv_at hl 0 rfl) ?_
    refine lv_bipush (v := (-2)) zx zb dX10_home_19 (by decide) ?_
    refine b_wi (cells' := 0) (slots' := 0) (wr := @HAppend.hAppend va_W va_W va_W _ (rcV X nw an sv dv n0 n1 n2 n3 n4 g0 gs gn gm) (rnV (xa 8) ag dg)) G rfl rfl [0, 18] [1, 2, 3, 4, 5, 6, 7, 8, 9, 10, 11, 12, 13, 14, 15, 16, 17] rfl rfl rfl rfl (n_V (As := [.int (-2)]) (rest := []) (C := RX10) (T := TX10) (N := 14) (ci := 8) S G (s_refuse l X h0 nw sp xa la lb fr (-2) H.size) gX10_home_X10_refuse rfl rfl rfl hdV_X10_refuse ⟨Nat.le_of_ble_eq_true rfl, Nat.le_of_ble_eq_true rfl⟩ [0, 18] rfl rfl 0 rfl rfl rfl hl.1 (Nat.le_of_ble_eq_true rfl) dX10_home_21 ⟨Nat.le_of_ble_eq_true rfl, Nat.le_of_ble_eq_true rfl⟩) (fun r_5 u_5 H locs hp_5 G => ?_)
    obtain ⟨f_5, rfl⟩ : ∃ z, z = u_5 := ⟨_, rfl⟩
    have hq_5 := hp_5
    have G : wd X (va_A (@HAppend.hAppend va_W va_W va_W _ (xW h0 nw sp xa la lb) (@HAppend.hAppend va_W va_W va_W _ (rcV X nw an sv dv n0 n1 n2 n3 n4 g0 gs gn gm) (@HAppend.hAppend va_W va_W va_W _ (rnV (xa 8) ag dg) ([((xa 5), .inl (X.2.1, 3, .inl fr))])))) sz) (va_A (@HAppend.hAppend va_W va_W va_W _ (xW h0 nw sp xa la lb) (@HAppend.hAppend va_W va_W va_W _ (rcV X nw an sv dv n0 n1 n2 n3 n4 g0 gs gn gm) (@HAppend.hAppend va_W va_W va_W _ (rnV (xa 8) ag dg) ([((xa 5), .inl (X.2.1, 3, .inl fr))])))) sz) s (@HAppend.hAppend va_W va_W va_W _ (rcV X nw an sv dv n0 n1 n2 n3 n4 g0 gs gn gm) (@HAppend.hAppend va_W va_W va_W _ (rnV (xa 8) ag dg) (@HAppend.hAppend va_W va_W va_W _ (xW h0 nw sp xa la lb) ([((xa 5), .inl (X.2.1, 3, .inl f_5))])))) H locs := G
    exact e_int S zr zlk (vp_nar_int _) G (ag, dg, f_5) [17, 0, 1, 2, 3, 4, 5, 6, 7, 8, 9, 10, 11, 12, 13, 14, 15, 16, 18] rfl rfl (Or.inr rfl) (trivial) dX10_home_24
theorem in_X10_first_X10 : ∀ w ∈ wsX100, w ∈ wsX10_first := by decide +kernel
theorem lk_X10_first_10 : Cond.fieldLink RX10 10 "EggSpoons" "now" "LEggSpoons$Race;" ∈ wsX10_first := by decide +kernel
theorem in_X10_first_X5 : ∀ w ∈ wsX50, w ∈ wsX10_first := by decide +kernel
theorem lk_X10_first_87 : Cond.fieldLink RX10 87 "EggSpoons$Race" "runners" "I" ∈ wsX10_first := by decide +kernel
theorem lk_X10_first_126 : Cond.fieldLink RX10 126 "EggSpoons$Race" "row" "[LEggSpoons$Runner;" ∈ wsX10_first := by decide +kernel
set_option maxHeartbeats 4000000 in
set_option maxRecDepth 100000 in
/-- first -/
theorem s_first (l : Launch) (X : EX) (h0 : Nat) (nw : Nat) (sp : Nat) (xa : Nat → Nat) (la : Int64) (lb : Int64) (an : Nat → Nat) (sv : Nat → Int32) (dv : Nat → Int32) (n0 : Nat) (n1 : Nat) (n2 : Nat) (n3 : Nat) (n4 : Nat) (g0 : Nat → Int32) (gs : Nat → Int32) (gn : Nat → Int32) (gm : Nat → Int32) (ag : Nat → Int32) (dg : Nat → Int32) (hI_n0 : n0 ≤ 6) (hI_n1 : n1 ≤ 8) (hI_n2 : n2 ≤ 5) (hI_n3 : n3 ≤ 6) (hI_n4 : n4 ≤ 6) (sz : Nat) : Met l yX10_first wsX10_first ({ frames := 4, cells := 0, slots := 0, locals := 95 } : Room) (pE X [.ref h0] (@HAppend.hAppend va_W va_W va_W _ (xW h0 nw sp xa la lb) (@HAppend.hAppend va_W va_W va_W _ (rcV X nw an sv dv n0 n1 n2 n3 n4 g0 gs gn gm) (rnV (xa 8) ag dg))) sz) (qI (fun (r : Int32) (u : (Nat → Int32) × (Nat → Int32)) => (True)) X (fun (u : (Nat → Int32) × (Nat → Int32)) => @HAppend.hAppend va_W va_W va_W _ (xW h0 nw sp xa la lb) (@HAppend.hAppend va_W va_W va_W _ (rcV X nw an sv dv n0 n1 n2 n3 n4 g0 gs gn gm) (rnV (xa 8) u.1 u.2))) (@HAppend.hAppend va_W va_W va_W _ (xW h0 nw sp xa la lb) (@HAppend.hAppend va_W va_W va_W _ (rcV X nw an sv dv n0 n1 n2 n3 n4 g0 gs gn gm) (rnV (xa 8) ag dg))) sz) 0 0 (va_A (@HAppend.hAppend va_W va_W va_W _ (xW h0 nw sp xa la lb) (@HAppend.hAppend va_W va_W va_W _ (rcV X nw an sv dv n0 n1 n2 n3 n4 g0 gs gn gm) (rnV (xa 8) ag dg))) sz) := by
  refine mk_met (B := (va_A (@HAppend.hAppend va_W va_W va_W _ (xW h0 nw sp xa la lb) (@HAppend.hAppend va_W va_W va_W _ (rcV X nw an sv dv n0 n1 n2 n3 n4 g0 gs gn gm) (rnV (xa 8) ag dg))) sz)) (A := (va_A (@HAppend.hAppend va_W va_W va_W _ (xW h0 nw sp xa la lb) (@HAppend.hAppend va_W va_W va_W _ (rcV X nw an sv dv n0 n1 n2 n3 n4 g0 gs gn gm) (rnV (xa 8) ag dg))) sz)) (cc := cX10_first) (maxL := 5) (ret := (some .int)) (by decide) rfl (Nat.le_of_ble_eq_true rfl) k_w k_a (fun p e s m below meth c S zr zlk znm zsz G ls hl => ?_)
  have S : CallFix p m c cX10_first 5 s _ wsX10_first RX10 := S
  have zx := S.1
  have zb := S.2.1
  have hl : lv_has ls 5 [(0, .ref h0)] := hl
  refine lv_iconst (v := (-1)) zx zb dX10_first_0 (by decide) ?_
  refine lv_istore_n (lv' := [(1, .int (-1)), (0, .ref h0)]) zx zb dX10_first_1 rfl hl (by decide) rfl (fun ls hl => ?_)
  refine lv_bipush (v := 60) zx zb dX10_first_2 (by decide) ?_
  refine lv_istore_n (lv' := [(2, .int 60), (1, .int (-1)), (0, .ref h0)]) zx zb dX10_first_4 rfl hl (by decide) rfl (fun ls hl => ?_)
  refine lv_iconst (v := 0) zx zb dX10_first_5 (by decide) ?_
  refine lv_istore_n (lv' := [(3, .int 0), (2, .int 60), (1, .int (-1)), (0, .ref h0)]) zx zb dX10_first_6 rfl hl (by decide) rfl (fun ls hl => ?_)
  refine k_loop (P := ∀ (zm : Nat) (k7 : Nat) (x7_2 : Int32) (x7_1 : Int32) (a7_2 : Nat → Int32) (d7_2 : Nat → Int32) (H : Heap) (locs : List Loc) (ls : Array Slot), 6 + 1 ≤ k7 + zm → (k7 ≤ 6) → (x7_2 ≤ 60) → wd X (va_A (@HAppend.hAppend va_W va_W va_W _ (xW h0 nw sp xa la lb) (@HAppend.hAppend va_W va_W va_W _ (rcV X nw an sv dv n0 n1 n2 n3 n4 g0 gs gn gm) (rnV (xa 8) ag dg))) sz) (va_A (@HAppend.hAppend va_W va_W va_W _ (xW h0 nw sp xa la lb) (@HAppend.hAppend va_W va_W va_W _ (rcV X nw an sv dv n0 n1 n2 n3 n4 g0 gs gn gm) (rnV (xa 8) ag dg))) sz) s (@HAppend.hAppend va_W va_W va_W _ (xW h0 nw sp xa la lb) (@HAppend.hAppend va_W va_W va_W _ (rcV X nw an sv dv n0 n1 n2 n3 n4 g0 gs gn gm) (rnV (xa 8) a7_2 d7_2))) H locs → lv_has ls 5 [(3, .int (nI k7)), (2, .int x7_2), (1, .int x7_1), (0, .ref h0)] → W p l e _ s m _ below meth c H locs _ _ _ (F0 m 7 ls [])) (fun loop => loop (6 + 1) 0 60 (-1) ag dg _ _ _ (by omega) (by omega) (by first | assumption | decide | exact k_m60 (by assumption)) G hl) ?_
  intro zm
  induction zm with
  | zero => intro k7 x7_2 x7_1 a7_2 d7_2 H locs ls zz q_hk_k7 q_hk_x7_2 _ _; exact absurd zz (by omega)
  | succ zm ih7 =>
    intro k7 x7_2 x7_1 a7_2 d7_2 H locs ls zm_7 hk_k7 hk_x7_2 G hl
    refine lv_iload_n zx zb dX10_first_7 rfl (lv_at hl 0 rfl) ?_
    refine lv_aload_n zx zb dX10_first_8 rfl (lv_at hl 3 rfl) ?_
    refine r_get (C := RX10) (T := TX10) (N := 14) (ci := 8) (v := .ref nw) S in_X10_first_X10 G 0 rfl rfl 0 (by decide) lk_X10_first_10 rfl dX10_first_9 ?_
    refine r_get (C := RX5) (T := TX5) (N := 8) (ci := 3) (v := .int (nI n0)) S in_X10_first_X5 G 1 rfl rfl 2 (by decide) lk_X10_first_87 rfl dX10_first_12 ?_
    refine lv_icmp_ge (tgt := 64) zx zb dX10_first_15 (by decide) (fun c_1 => ?_) (fun c_1 => ?_)
    · have fc_1 := j_le (a := n0) (b := k7) (by omega) (by omega) c_1
      refine lv_iload_n zx zb dX10_first_64 rfl (lv_at hl 2 rfl) ?_
      exact e_int S zr zlk (vp_nar_int _) G (a7_2, d7_2) [0, 1, 2, 3, 4, 5, 6, 7, 8, 9, 10, 11, 12, 13, 14, 15, 16, 17] rfl rfl (Or.inr rfl) (trivial) dX10_first_65
    · have fc_1 := j_nle (a := n0) (b := k7) (by omega) (by omega) c_1
      refine lv_aload_n zx zb dX10_first_18 rfl (lv_at hl 3 rfl) ?_
      refine r_get (C := RX10) (T := TX10) (N := 14) (ci := 8) (v := .ref nw) S in_X10_first_X10 G 0 rfl rfl 0 (by decide) lk_X10_first_10 rfl dX10_first_19 ?_
      refine r_get (C := RX5) (T := TX5) (N := 8) (ci := 3) (v := .ref (an 0)) S in_X10_first_X5 G 1 rfl rfl 3 (by decide) lk_X10_first_126 rfl dX10_first_22 ?_
      refine lv_iload_n zx zb dX10_first_25 rfl (lv_at hl 0 rfl) ?_
      rcases k_6c (show k7 < 6 by omega) with rfl | rfl | rfl | rfl | rfl | rfl
      · refine k_it (v := 0) rfl ?_
        refine r_aald (C := RX8) (b := (an 1)) S G 2 3 rfl rfl (k_vp (by decide)) rfl dX10_first_26 ?_
        refine o_ri (cells' := 0) (slots' := 0) G rfl rfl (n_V (As := []) (rest := []) (C := RX8) (T := TX8) (N := 8) (ci := 6) S G (s_isHome l X (an 1) (fun k => sv (0 + k)) (fun k => dv (10 + k)) H.size) gX10_first_X8_isHome rfl rfl rfl hdV_X8_isHome ⟨Nat.le_of_ble_eq_true rfl, Nat.le_of_ble_eq_true rfl⟩ [3] rfl rfl 3 rfl rfl rfl hl.1 (Nat.le_of_ble_eq_true rfl) dX10_first_27 ⟨Nat.le_of_ble_eq_true rfl, Nat.le_of_ble_eq_true rfl⟩) (fun r_2 u_2 H locs hp_2 G => ?_)
        have G : wd X (va_A (@HAppend.hAppend va_W va_W va_W _ (xW h0 nw sp xa la lb) (@HAppend.hAppend va_W va_W va_W _ (rcV X nw an sv dv n0 n1 n2 n3 n4 g0 gs gn gm) (rnV (xa 8) ag dg))) sz) (va_A (@HAppend.hAppend va_W va_W va_W _ (xW h0 nw sp xa la lb) (@HAppend.hAppend va_W va_W va_W _ (rcV X nw an sv dv n0 n1 n2 n3 n4 g0 gs gn gm) (rnV (xa 8) ag dg))) sz) s (@HAppend.hAppend va_W va_W va_W _ (xW h0 nw sp xa la lb) (@HAppend.hAppend va_W va_W va_W _ (rcV X nw an sv dv n0 n1 n2 n3 n4 g0 gs gn gm) (rnV (xa 8) a7_2 d7_2))) H locs := G
        refine k_cutW (PP := fun Wx => ∀ (x_4 : Int32) (a_5 : Nat → Int32) (d_6 : Nat → Int32) (H : Heap) (locs : List Loc) (ls : Array Slot), ((-1 : Int32) ≤ x_4 ∧ x_4 ≤ 60) → wd X (va_A (@HAppend.hAppend va_W va_W va_W _ (xW h0 nw sp xa la lb) (@HAppend.hAppend va_W va_W va_W _ (rcV X nw an sv dv n0 n1 n2 n3 n4 g0 gs gn gm) (rnV (xa 8) ag dg))) sz) (va_A (@HAppend.hAppend va_W va_W va_W _ (xW h0 nw sp xa la lb) (@HAppend.hAppend va_W va_W va_W _ (rcV X nw an sv dv n0 n1 n2 n3 n4 g0 gs gn gm) (rnV (xa 8) ag dg))) sz) s (@HAppend.hAppend va_W va_W va_W _ (xW h0 nw sp xa la lb) (@HAppend.hAppend va_W va_W va_W _ (rcV X nw an sv dv n0 n1 n2 n3 n4 g0 gs gn gm) (rnV (xa 8) a_5 d_6))) H locs → lv_has ls 5 [(3, .int 0), (2, .int x7_2), (1, .int x7_1), (0, .ref h0)] → Wx (F0 m 43 ls [.int x_4]) H locs) ?_ ?_
        · intro join_30
          refine lv_if_eq (tgt := 37) zx zb dX10_first_30 (by decide) (fun c_3 => ?_) (fun c_3 => ?_)
          · refine lv_aload_n zx zb dX10_first_37 rfl (lv_at hl 3 rfl) ?_
            refine lv_iload_n zx zb dX10_first_38 rfl (lv_at hl 0 rfl) ?_
            refine lv_iload_n zx zb dX10_first_39 rfl (lv_at hl 1 rfl) ?_
            refine b_wi (cells' := 0) (slots' := 0) (wr := []) G rfl rfl [0, 1, 2, 3, 4, 5, 6, 7, 8, 9, 10, 11, 12, 13, 14, 15, 16, 17] [] rfl rfl rfl rfl (n_V (As := [.int 0, .int x7_2]) (rest := []) (C := RX10) (T := TX10) (N := 14) (ci := 8) S G (s_homeBehind l X h0 nw sp xa la lb an sv dv n0 n1 n2 n3 n4 g0 gs gn gm a7_2 d7_2 0 x7_2 hI_n0 hI_n1 hI_n2 hI_n3 hI_n4 (by omega) (by first | decide | assumption | exact k_60a (by assumption)) H.size) gX10_first_X10_homeBehind rfl rfl rfl hdV_X10_homeBehind ⟨Nat.le_of_ble_eq_true rfl, Nat.le_of_ble_eq_true rfl⟩ [0, 1, 2, 3, 4, 5, 6, 7, 8, 9, 10, 11, 12, 13, 14, 15, 16, 17] rfl rfl 0 rfl rfl rfl hl.1 (Nat.le_of_ble_eq_true rfl) dX10_first_40 ⟨Nat.le_of_ble_eq_true rfl, Nat.le_of_ble_eq_true rfl⟩) (fun r_7 u_7 H locs hp_7 G => ?_)
            obtain ⟨a_7a, d_7b⟩ := u_7
            have hq_7 := hp_7
            have G : wd X (va_A (@HAppend.hAppend va_W va_W va_W _ (xW h0 nw sp xa la lb) (@HAppend.hAppend va_W va_W va_W _ (rcV X nw an sv dv n0 n1 n2 n3 n4 g0 gs gn gm) (rnV (xa 8) ag dg))) sz) (va_A (@HAppend.hAppend va_W va_W va_W _ (xW h0 nw sp xa la lb) (@HAppend.hAppend va_W va_W va_W _ (rcV X nw an sv dv n0 n1 n2 n3 n4 g0 gs gn gm) (rnV (xa 8) ag dg))) sz) s (@HAppend.hAppend va_W va_W va_W _ (xW h0 nw sp xa la lb) (@HAppend.hAppend va_W va_W va_W _ (rcV X nw an sv dv n0 n1 n2 n3 n4 g0 gs gn gm) (rnV (xa 8) a_7a d_7b))) H locs := G
            exact join_30 r_7 a_7a d_7b _ _ _ (by first | assumption | decide | exact k_m60 (by assumption)) G hl
          · refine lv_iconst (v := (-1)) zx zb dX10_first_33 (by decide) ?_
            refine lv_goto (tgt := 43) zx zb dX10_first_34 (by decide) ?_
            exact join_30 (-1) a7_2 d7_2 _ _ _ (by first | assumption | decide | exact k_m60 (by assumption)) G hl
        · intro x_4 a_5 d_6 H locs ls hk_x_4 G hl
          refine lv_istore (lv' := [(4, .int x_4), (3, .int 0), (2, .int x7_2), (1, .int x7_1), (0, .ref h0)]) zx zb dX10_first_43 hl (by decide) rfl (fun ls hl => ?_)
          refine lv_iload zx zb dX10_first_45 (lv_at hl 0 rfl) ?_
          refine lv_iconst (v := (-1)) zx zb dX10_first_47 (by decide) ?_
          refine k_cutW (PP := fun Wx => ∀ (x_9 : Int32) (x_10 : Int32) (H : Heap) (locs : List Loc) (ls : Array Slot), (x_9 ≤ 60) → wd X (va_A (@HAppend.hAppend va_W va_W va_W _ (xW h0 nw sp xa la lb) (@HAppend.hAppend va_W va_W va_W _ (rcV X nw an sv dv n0 n1 n2 n3 n4 g0 gs gn gm) (rnV (xa 8) ag dg))) sz) (va_A (@HAppend.hAppend va_W va_W va_W _ (xW h0 nw sp xa la lb) (@HAppend.hAppend va_W va_W va_W _ (rcV X nw an sv dv n0 n1 n2 n3 n4 g0 gs gn gm) (rnV (xa 8) ag dg))) sz) s (@HAppend.hAppend va_W va_W va_W _ (xW h0 nw sp xa la lb) (@HAppend.hAppend va_W va_W va_W _ (rcV X nw an sv dv n0 n1 n2 n3 n4 g0 gs gn gm) (rnV (xa 8) a_5 d_6))) H locs → lv_has ls 5 [(4, .int x_4), (3, .int 0), (2, .int x_9), (1, .int x_10), (0, .ref h0)] → Wx (F0 m 58 ls []) H locs) ?_ ?_
          · intro join_48
            refine lv_icmp_eq (tgt := 58) zx zb dX10_first_48 (by decide) (fun c_8 => ?_) (fun c_8 => ?_)
            · exact join_48 x7_2 x7_1 _ _ _ (by first | assumption | decide | exact k_m60 (by assumption)) G hl
            · refine lv_iload_n zx zb dX10_first_51 rfl (lv_at hl 1 rfl) ?_
              refine lv_istore_n (lv' := [(1, .int 0), (4, .int x_4), (3, .int 0), (2, .int x7_2), (0, .ref h0)]) zx zb dX10_first_52 rfl hl (by decide) rfl (fun ls hl => ?_)
              refine lv_iload zx zb dX10_first_53 (lv_at hl 1 rfl) ?_
              refine lv_iconst (v := 1) zx zb dX10_first_55 (by decide) ?_
              refine r_isub (v := (x_4 - 1)) S rfl dX10_first_56 ?_
              refine lv_istore_n (lv' := [(2, .int (x_4 - 1)), (1, .int 0), (4, .int x_4), (3, .int 0), (0, .ref h0)]) zx zb dX10_first_57 rfl hl (by decide) rfl (fun ls hl => ?_)
              have hl := lv_sub hl (l' := [(4, .int x_4), (3, .int 0), (2, .int (x_4 - 1)), (1, .int 0), (0, .ref h0)]) [2, 3, 0, 1, 4] rfl
              exact join_48 (x_4 - 1) 0 _ _ _ (by first | assumption | decide | exact k_m60 (by assumption)) G hl
          · intro x_9 x_10 H locs ls hk_x_9 G hl
            refine lv_iinc (v := 1) (lv' := [(3, .int 1), (4, .int x_4), (2, .int x_9), (1, .int x_10), (0, .ref h0)]) zx zb dX10_first_58 hl (k := 1) rfl (by decide) (by decide) rfl (fun ls hl => ?_)
            refine lv_goto (tgt := 7) zx zb dX10_first_61 (by decide) ?_
            have hl := lv_sub hl (l' := [(3, .int 1), (2, .int x_9), (1, .int x_10), (0, .ref h0)]) [0, 2, 3, 4] rfl
            exact ih7 1 x_9 x_10 a_5 d_6 _ _ _ (by omega) (by omega) (by first | assumption | decide | exact k_m60 (by assumption)) G hl
      · refine k_it (v := 1) rfl ?_
        refine r_aald (C := RX8) (b := (an 2)) S G 2 3 rfl rfl (k_vp (by decide)) rfl dX10_first_26 ?_
        refine o_ri (cells' := 0) (slots' := 0) G rfl rfl (n_V (As := []) (rest := []) (C := RX8) (T := TX8) (N := 8) (ci := 6) S G (s_isHome l X (an 2) (fun k => sv (3 + k)) (fun k => dv (15 + k)) H.size) gX10_first_X8_isHome rfl rfl rfl hdV_X8_isHome ⟨Nat.le_of_ble_eq_true rfl, Nat.le_of_ble_eq_true rfl⟩ [4] rfl rfl 4 rfl rfl rfl hl.1 (Nat.le_of_ble_eq_true rfl) dX10_first_27 ⟨Nat.le_of_ble_eq_true rfl, Nat.le_of_ble_eq_true rfl⟩) (fun r_11 u_11 H locs hp_11 G => ?_)
        have G : wd X (va_A (@HAppend.hAppend va_W va_W va_W _ (xW h0 nw sp xa la lb) (@HAppend.hAppend va_W va_W va_W _ (rcV X nw an sv dv n0 n1 n2 n3 n4 g0 gs gn gm) (rnV (xa 8) ag dg))) sz) (va_A (@HAppend.hAppend va_W va_W va_W _ (xW h0 nw sp xa la lb) (@HAppend.hAppend va_W va_W va_W _ (rcV X nw an sv dv n0 n1 n2 n3 n4 g0 gs gn gm) (rnV (xa 8) ag dg))) sz) s (@HAppend.hAppend va_W va_W va_W _ (xW h0 nw sp xa la lb) (@HAppend.hAppend va_W va_W va_W _ (rcV X nw an sv dv n0 n1 n2 n3 n4 g0 gs gn gm) (rnV (xa 8) a7_2 d7_2))) H locs := G
        refine k_cutW (PP := fun Wx => ∀ (x_13 : Int32) (a_14 : Nat → Int32) (d_15 : Nat → Int32) (H : Heap) (locs : List Loc) (ls : Array Slot), ((-1 : Int32) ≤ x_13 ∧ x_13 ≤ 60) → wd X (va_A (@HAppend.hAppend va_W va_W va_W _ (xW h0 nw sp xa la lb) (@HAppend.hAppend va_W va_W va_W _ (rcV X nw an sv dv n0 n1 n2 n3 n4 g0 gs gn gm) (rnV (xa 8) ag dg))) sz) (va_A (@HAppend.hAppend va_W va_W va_W _ (xW h0 nw sp xa la lb) (@HAppend.hAppend va_W va_W va_W _ (rcV X nw an sv dv n0 n1 n2 n3 n4 g0 gs gn gm) (rnV (xa 8) ag dg))) sz) s (@HAppend.hAppend va_W va_W va_W _ (xW h0 nw sp xa la lb) (@HAppend.hAppend va_W va_W va_W _ (rcV X nw an sv dv n0 n1 n2 n3 n4 g0 gs gn gm) (rnV (xa 8) a_14 d_15))) H locs → lv_has ls 5 [(3, .int 1), (2, .int x7_2), (1, .int x7_1), (0, .ref h0)] → Wx (F0 m 43 ls [.int x_13]) H locs) ?_ ?_
        · intro join_30
          refine lv_if_eq (tgt := 37) zx zb dX10_first_30 (by decide) (fun c_12 => ?_) (fun c_12 => ?_)
          · refine lv_aload_n zx zb dX10_first_37 rfl (lv_at hl 3 rfl) ?_
            refine lv_iload_n zx zb dX10_first_38 rfl (lv_at hl 0 rfl) ?_
            refine lv_iload_n zx zb dX10_first_39 rfl (lv_at hl 1 rfl) ?_
            refine b_wi (cells' := 0) (slots' := 0) (wr := []) G rfl rfl [0, 1, 2, 3, 4, 5, 6, 7, 8, 9, 10, 11, 12, 13, 14, 15, 16, 17] [] rfl rfl rfl rfl (n_V (As := [.int 1, .int x7_2]) (rest := []) (C := RX10) (T := TX10) (N := 14) (ci := 8) S G (s_homeBehind l X h0 nw sp xa la lb an sv dv n0 n1 n2 n3 n4 g0 gs gn gm a7_2 d7_2 1 x7_2 hI_n0 hI_n1 hI_n2 hI_n3 hI_n4 (by omega) (by first | decide | assumption | exact k_60a (by assumption)) H.size) gX10_first_X10_homeBehind rfl rfl rfl hdV_X10_homeBehind ⟨Nat.le_of_ble_eq_true rfl, Nat.le_of_ble_eq_true rfl⟩ [0, 1, 2, 3, 4, 5, 6, 7, 8, 9, 10, 11, 12, 13, 14, 15, 16, 17] rfl rfl 0 rfl rfl rfl hl.1 (Nat.le_of_ble_eq_true rfl) dX10_first_40 ⟨Nat.le_of_ble_eq_true rfl, Nat.le_of_ble_eq_true rfl⟩) (fun r_16 u_16 H locs hp_16 G => ?_)
            obtain ⟨a_16a, d_16b⟩ := u_16
            have hq_16 := hp_16
            have G : wd X (va_A (@HAppend.hAppend va_W va_W va_W _ (xW h0 nw sp xa la lb) (@HAppend.hAppend va_W va_W va_W _ (rcV X nw an sv dv n0 n1 n2 n3 n4 g0 gs gn gm) (rnV (xa 8) ag dg))) sz) (va_A (@HAppend.hAppend va_W va_W va_W _ (xW h0 nw sp xa la lb) (@HAppend.hAppend va_W va_W va_W _ (rcV X nw an sv dv n0 n1 n2 n3 n4 g0 gs gn gm) (rnV (xa 8) ag dg))) sz) s (@HAppend.hAppend va_W va_W va_W _ (xW h0 nw sp xa la lb) (@HAppend.hAppend va_W va_W va_W _ (rcV X nw an sv dv n0 n1 n2 n3 n4 g0 gs gn gm) (rnV (xa 8) a_16a d_16b))) H locs := G
            exact join_30 r_16 a_16a d_16b _ _ _ (by first | assumption | decide | exact k_m60 (by assumption)) G hl
          · refine lv_iconst (v := (-1)) zx zb dX10_first_33 (by decide) ?_
            refine lv_goto (tgt := 43) zx zb dX10_first_34 (by decide) ?_
            exact join_30 (-1) a7_2 d7_2 _ _ _ (by first | assumption | decide | exact k_m60 (by assumption)) G hl
        · intro x_13 a_14 d_15 H locs ls hk_x_13 G hl
          refine lv_istore (lv' := [(4, .int x_13), (3, .int 1), (2, .int x7_2), (1, .int x7_1), (0, .ref h0)]) zx zb dX10_first_43 hl (by decide) rfl (fun ls hl => ?_)
          refine lv_iload zx zb dX10_first_45 (lv_at hl 0 rfl) ?_
          refine lv_iconst (v := (-1)) zx zb dX10_first_47 (by decide) ?_
          refine k_cutW (PP := fun Wx => ∀ (x_18 : Int32) (x_19 : Int32) (H : Heap) (locs : List Loc) (ls : Array Slot), (x_18 ≤ 60) → wd X (va_A (@HAppend.hAppend va_W va_W va_W _ (xW h0 nw sp xa la lb) (@HAppend.hAppend va_W va_W va_W _ (rcV X nw an sv dv n0 n1 n2 n3 n4 g0 gs gn gm) (rnV (xa 8) ag dg))) sz) (va_A (@HAppend.hAppend va_W va_W va_W _ (xW h0 nw sp xa la lb) (@HAppend.hAppend va_W va_W va_W _ (rcV X nw an sv dv n0 n1 n2 n3 n4 g0 gs gn gm) (rnV (xa 8) ag dg))) sz) s (@HAppend.hAppend va_W va_W va_W _ (xW h0 nw sp xa la lb) (@HAppend.hAppend va_W va_W va_W _ (rcV X nw an sv dv n0 n1 n2 n3 n4 g0 gs gn gm) (rnV (xa 8) a_14 d_15))) H locs → lv_has ls 5 [(4, .int x_13), (3, .int 1), (2, .int x_18), (1, .int x_19), (0, .ref h0)] → Wx (F0 m 58 ls []) H locs) ?_ ?_
          · intro join_48
            refine lv_icmp_eq (tgt := 58) zx zb dX10_first_48 (by decide) (fun c_17 => ?_) (fun c_17 => ?_)
            · exact join_48 x7_2 x7_1 _ _ _ (by first | assumption | decide | exact k_m60 (by assumption)) G hl
            · refine lv_iload_n zx zb dX10_first_51 rfl (lv_at hl 1 rfl) ?_
              refine lv_istore_n (lv' := [(1, .int 1), (4, .int x_13), (3, .int 1), (2, .int x7_2), (0, .ref h0)]) zx zb dX10_first_52 rfl hl (by decide) rfl (fun ls hl => ?_)
              refine lv_iload zx zb dX10_first_53 (lv_at hl 1 rfl) ?_
              refine lv_iconst (v := 1) zx zb dX10_first_55 (by decide) ?_
              refine r_isub (v := (x_13 - 1)) S rfl dX10_first_56 ?_
              refine lv_istore_n (lv' := [(2, .int (x_13 - 1)), (1, .int 1), (4, .int x_13), (3, .int 1), (0, .ref h0)]) zx zb dX10_first_57 rfl hl (by decide) rfl (fun ls hl => ?_)
              have hl := lv_sub hl (l' := [(4, .int x_13), (3, .int 1), (2, .int (x_13 - 1)), (1, .int 1), (0, .ref h0)]) [2, 3, 0, 1, 4] rfl
              exact join_48 (x_13 - 1) 1 _ _ _ (by first | assumption | decide | exact k_m60 (by assumption)) G hl
          · intro x_18 x_19 H locs ls hk_x_18 G hl
            refine lv_iinc (v := 2) (lv' := [(3, .int 2), (4, .int x_13), (2, .int x_18), (1, .int x_19), (0, .ref h0)]) zx zb dX10_first_58 hl (k := 1) rfl (by decide) (by decide) rfl (fun ls hl => ?_)
            refine lv_goto (tgt := 7) zx zb dX10_first_61 (by decide) ?_
            have hl := lv_sub hl (l' := [(3, .int 2), (2, .int x_18), (1, .int x_19), (0, .ref h0)]) [0, 2, 3, 4] rfl
            exact ih7 2 x_18 x_19 a_14 d_15 _ _ _ (by omega) (by omega) (by first | assumption | decide | exact k_m60 (by assumption)) G hl
      · refine k_it (v := 2) rfl ?_
        refine r_aald (C := RX8) (b := (an 3)) S G 2 3 rfl rfl (k_vp (by decide)) rfl dX10_first_26 ?_
        refine o_ri (cells' := 0) (slots' := 0) G rfl rfl (n_V (As := []) (rest := []) (C := RX8) (T := TX8) (N := 8) (ci := 6) S G (s_isHome l X (an 3) (fun k => sv (6 + k)) (fun k => dv (20 + k)) H.size) gX10_first_X8_isHome rfl rfl rfl hdV_X8_isHome ⟨Nat.le_of_ble_eq_true rfl, Nat.le_of_ble_eq_true rfl⟩ [5] rfl rfl 5 rfl rfl rfl hl.1 (Nat.le_of_ble_eq_true rfl) dX10_first_27 ⟨Nat.le_of_ble_eq_true rfl, Nat.le_of_ble_eq_true rfl⟩) (fun r_20 u_20 H locs hp_20 G => ?_)
        have G : wd X (va_A (@HAppend.hAppend va_W va_W va_W _ (xW h0 nw sp xa la lb) (@HAppend.hAppend va_W va_W va_W _ (rcV X nw an sv dv n0 n1 n2 n3 n4 g0 gs gn gm) (rnV (xa 8) ag dg))) sz) (va_A (@HAppend.hAppend va_W va_W va_W _ (xW h0 nw sp xa la lb) (@HAppend.hAppend va_W va_W va_W _ (rcV X nw an sv dv n0 n1 n2 n3 n4 g0 gs gn gm) (rnV (xa 8) ag dg))) sz) s (@HAppend.hAppend va_W va_W va_W _ (xW h0 nw sp xa la lb) (@HAppend.hAppend va_W va_W va_W _ (rcV X nw an sv dv n0 n1 n2 n3 n4 g0 gs gn gm) (rnV (xa 8) a7_2 d7_2))) H locs := G
        refine k_cutW (PP := fun Wx => ∀ (x_22 : Int32) (a_23 : Nat → Int32) (d_24 : Nat → Int32) (H : Heap) (locs : List Loc) (ls : Array Slot), ((-1 : Int32) ≤ x_22 ∧ x_22 ≤ 60) → wd X (va_A (@HAppend.hAppend va_W va_W va_W _ (xW h0 nw sp xa la lb) (@HAppend.hAppend va_W va_W va_W _ (rcV X nw an sv dv n0 n1 n2 n3 n4 g0 gs gn gm) (rnV (xa 8) ag dg))) sz) (va_A (@HAppend.hAppend va_W va_W va_W _ (xW h0 nw sp xa la lb) (@HAppend.hAppend va_W va_W va_W _ (rcV X nw an sv dv n0 n1 n2 n3 n4 g0 gs gn gm) (rnV (xa 8) ag dg))) sz) s (@HAppend.hAppend va_W va_W va_W _ (xW h0 nw sp xa la lb) (@HAppend.hAppend va_W va_W va_W _ (rcV X nw an sv dv n0 n1 n2 n3 n4 g0 gs gn gm) (rnV (xa 8) a_23 d_24))) H locs → lv_has ls 5 [(3, .int 2), (2, .int x7_2), (1, .int x7_1), (0, .ref h0)] → Wx (F0 m 43 ls [.int x_22]) H locs) ?_ ?_
        · intro join_30
          refine lv_if_eq (tgt := 37) zx zb dX10_first_30 (by decide) (fun c_21 => ?_) (fun c_21 => ?_)
          · refine lv_aload_n zx zb dX10_first_37 rfl (lv_at hl 3 rfl) ?_
            refine lv_iload_n zx zb dX10_first_38 rfl (lv_at hl 0 rfl) ?_
            refine lv_iload_n zx zb dX10_first_39 rfl (lv_at hl 1 rfl) ?_
            refine b_wi (cells' := 0) (slots' := 0) (wr := []) G rfl rfl [0, 1, 2, 3, 4, 5, 6, 7, 8, 9, 10, 11, 12, 13, 14, 15, 16, 17] [] rfl rfl rfl rfl (n_V (As := [.int 2, .int x7_2]) (rest := []) (C := RX10) (T := TX10) (N := 14) (ci := 8) S G (s_homeBehind l X h0 nw sp xa la lb an sv dv n0 n1 n2 n3 n4 g0 gs gn gm a7_2 d7_2 2 x7_2 hI_n0 hI_n1 hI_n2 hI_n3 hI_n4 (by omega) (by first | decide | assumption | exact k_60a (by assumption)) H.size) gX10_first_X10_homeBehind rfl rfl rfl hdV_X10_homeBehind ⟨Nat.le_of_ble_eq_true rfl, Nat.le_of_ble_eq_true rfl⟩ [0, 1, 2, 3, 4, 5, 6, 7, 8, 9, 10, 11, 12, 13, 14, 15, 16, 17] rfl rfl 0 rfl rfl rfl hl.1 (Nat.le_of_ble_eq_true rfl) dX10_first_40 ⟨Nat.le_of_ble_eq_true rfl, Nat.le_of_ble_eq_true rfl⟩) (fun r_25 u_25 H locs hp_25 G => ?_)
            obtain ⟨a_25a, d_25b⟩ := u_25
            have hq_25 := hp_25
            have G : wd X (va_A (@HAppend.hAppend va_W va_W va_W _ (xW h0 nw sp xa la lb) (@HAppend.hAppend va_W va_W va_W _ (rcV X nw an sv dv n0 n1 n2 n3 n4 g0 gs gn gm) (rnV (xa 8) ag dg))) sz) (va_A (@HAppend.hAppend va_W va_W va_W _ (xW h0 nw sp xa la lb) (@HAppend.hAppend va_W va_W va_W _ (rcV X nw an sv dv n0 n1 n2 n3 n4 g0 gs gn gm) (rnV (xa 8) ag dg))) sz) s (@HAppend.hAppend va_W va_W va_W _ (xW h0 nw sp xa la lb) (@HAppend.hAppend va_W va_W va_W _ (rcV X nw an sv dv n0 n1 n2 n3 n4 g0 gs gn gm) (rnV (xa 8) a_25a d_25b))) H locs := G
            exact join_30 r_25 a_25a d_25b _ _ _ (by first | assumption | decide | exact k_m60 (by assumption)) G hl
          · refine lv_iconst (v := (-1)) zx zb dX10_first_33 (by decide) ?_
            refine lv_goto (tgt := 43) zx zb dX10_first_34 (by decide) ?_
            exact join_30 (-1) a7_2 d7_2 _ _ _ (by first | assumption | decide | exact k_m60 (by assumption)) G hl
        · intro x_22 a_23 d_24 H locs ls hk_x_22 G hl
          refine lv_istore (lv' := [(4, .int x_22), (3, .int 2), (2, .int x7_2), (1, .int x7_1), (0, .ref h0)]) zx zb dX10_first_43 hl (by decide) rfl (fun ls hl => ?_)
          refine lv_iload zx zb dX10_first_45 (lv_at hl 0 rfl) ?_
          refine lv_iconst (v := (-1)) zx zb dX10_first_47 (by decide) ?_
          refine k_cutW (PP := fun Wx => ∀ (x_27 : Int32) (x_28 : Int32) (H : Heap) (locs : List Loc) (ls : Array Slot), (x_27 ≤ 60) → wd X (va_A (@HAppend.hAppend va_W va_W va_W _ (xW h0 nw sp xa la lb) (@HAppend.hAppend va_W va_W va_W _ (rcV X nw an sv dv n0 n1 n2 n3 n4 g0 gs gn gm) (rnV (xa 8) ag dg))) sz) (va_A (@HAppend.hAppend va_W va_W va_W _ (xW h0 nw sp xa la lb) (@HAppend.hAppend va_W va_W va_W _ (rcV X nw an sv dv n0 n1 n2 n3 n4 g0 gs gn gm) (rnV (xa 8) ag dg))) sz) s (@HAppend.hAppend va_W va_W va_W _ (xW h0 nw sp xa la lb) (@HAppend.hAppend va_W va_W va_W _ (rcV X nw an sv dv n0 n1 n2 n3 n4 g0 gs gn gm) (rnV (xa 8) a_23 d_24))) H locs → lv_has ls 5 [(4, .int x_22), (3, .int 2), (2, .int x_27), (1, .int x_28), (0, .ref h0)] → Wx (F0 m 58 ls []) H locs) ?_ ?_
          · intro join_48
            refine lv_icmp_eq (tgt := 58) zx zb dX10_first_48 (by decide) (fun c_26 => ?_) (fun c_26 => ?_)
            · exact join_48 x7_2 x7_1 _ _ _ (by first | assumption | decide | exact k_m60 (by assumption)) G hl
            · refine lv_iload_n zx zb dX10_first_51 rfl (lv_at hl 1 rfl) ?_
              refine lv_istore_n (lv' := [(1, .int 2), (4, .int x_22), (3, .int 2), (2, .int x7_2), (0, .ref h0)]) zx zb dX10_first_52 rfl hl (by decide) rfl (fun ls hl => ?_)
              refine lv_iload zx zb dX10_first_53 (lv_at hl 1 rfl) ?_
              refine lv_iconst (v := 1) zx zb dX10_first_55 (by decide) ?_
              refine r_isub (v := (x_22 - 1)) S rfl dX10_first_56 ?_
              refine lv_istore_n (lv' := [(2, .int (x_22 - 1)), (1, .int 2), (4, .int x_22), (3, .int 2), (0, .ref h0)]) zx zb dX10_first_57 rfl hl (by decide) rfl (fun ls hl => ?_)
              have hl := lv_sub hl (l' := [(4, .int x_22), (3, .int 2), (2, .int (x_22 - 1)), (1, .int 2), (0, .ref h0)]) [2, 3, 0, 1, 4] rfl
              exact join_48 (x_22 - 1) 2 _ _ _ (by first | assumption | decide | exact k_m60 (by assumption)) G hl
          · intro x_27 x_28 H locs ls hk_x_27 G hl
            refine lv_iinc (v := 3) (lv' := [(3, .int 3), (4, .int x_22), (2, .int x_27), (1, .int x_28), (0, .ref h0)]) zx zb dX10_first_58 hl (k := 1) rfl (by decide) (by decide) rfl (fun ls hl => ?_)
            refine lv_goto (tgt := 7) zx zb dX10_first_61 (by decide) ?_
            have hl := lv_sub hl (l' := [(3, .int 3), (2, .int x_27), (1, .int x_28), (0, .ref h0)]) [0, 2, 3, 4] rfl
            exact ih7 3 x_27 x_28 a_23 d_24 _ _ _ (by omega) (by omega) (by first | assumption | decide | exact k_m60 (by assumption)) G hl
      · refine k_it (v := 3) rfl ?_
        refine r_aald (C := RX8) (b := (an 4)) S G 2 3 rfl rfl (k_vp (by decide)) rfl dX10_first_26 ?_
        refine o_ri (cells' := 0) (slots' := 0) G rfl rfl (n_V (As := []) (rest := []) (C := RX8) (T := TX8) (N := 8) (ci := 6) S G (s_isHome l X (an 4) (fun k => sv (9 + k)) (fun k => dv (25 + k)) H.size) gX10_first_X8_isHome rfl rfl rfl hdV_X8_isHome ⟨Nat.le_of_ble_eq_true rfl, Nat.le_of_ble_eq_true rfl⟩ [6] rfl rfl 6 rfl rfl rfl hl.1 (Nat.le_of_ble_eq_true rfl) dX10_first_27 ⟨Nat.le_of_ble_eq_true rfl, Nat.le_of_ble_eq_true rfl⟩) (fun r_29 u_29 H locs hp_29 G => ?_)
        have G : wd X (va_A (@HAppend.hAppend va_W va_W va_W _ (xW h0 nw sp xa la lb) (@HAppend.hAppend va_W va_W va_W _ (rcV X nw an sv dv n0 n1 n2 n3 n4 g0 gs gn gm) (rnV (xa 8) ag dg))) sz) (va_A (@HAppend.hAppend va_W va_W va_W _ (xW h0 nw sp xa la lb) (@HAppend.hAppend va_W va_W va_W _ (rcV X nw an sv dv n0 n1 n2 n3 n4 g0 gs gn gm) (rnV (xa 8) ag dg))) sz) s (@HAppend.hAppend va_W va_W va_W _ (xW h0 nw sp xa la lb) (@HAppend.hAppend va_W va_W va_W _ (rcV X nw an sv dv n0 n1 n2 n3 n4 g0 gs gn gm) (rnV (xa 8) a7_2 d7_2))) H locs := G
        refine k_cutW (PP := fun Wx => ∀ (x_31 : Int32) (a_32 : Nat → Int32) (d_33 : Nat → Int32) (H : Heap) (locs : List Loc) (ls : Array Slot), ((-1 : Int32) ≤ x_31 ∧ x_31 ≤ 60) → wd X (va_A (@HAppend.hAppend va_W va_W va_W _ (xW h0 nw sp xa la lb) (@HAppend.hAppend va_W va_W va_W _ (rcV X nw an sv dv n0 n1 n2 n3 n4 g0 gs gn gm) (rnV (xa 8) ag dg))) sz) (va_A (@HAppend.hAppend va_W va_W va_W _ (xW h0 nw sp xa la lb) (@HAppend.hAppend va_W va_W va_W _ (rcV X nw an sv dv n0 n1 n2 n3 n4 g0 gs gn gm) (rnV (xa 8) ag dg))) sz) s (@HAppend.hAppend va_W va_W va_W _ (xW h0 nw sp xa la lb) (@HAppend.hAppend va_W va_W va_W _ (rcV X nw an sv dv n0 n1 n2 n3 n4 g0 gs gn gm) (rnV (xa 8) a_32 d_33))) H locs → lv_has ls 5 [(3, .int 3), (2, .int x7_2), (1, .int x7_1), (0, .ref h0)] → Wx (F0 m 43 ls [.int x_31]) H locs) ?_ ?_
        · intro join_30
          refine lv_if_eq (tgt := 37) zx zb dX10_first_30 (by decide) (fun c_30 => ?_) (fun c_30 => ?_)
          · refine lv_aload_n zx zb dX10_first_37 rfl (lv_at hl 3 rfl) ?_
            refine lv_iload_n zx zb dX10_first_38 rfl (lv_at hl 0 rfl) ?_
            refine lv_iload_n zx zb dX10_first_39 rfl (lv_at hl 1 rfl) ?_
            refine b_wi (cells' := 0) (slots' := 0) (wr := []) G rfl rfl [0, 1, 2, 3, 4, 5, 6, 7, 8, 9, 10, 11, 12, 13, 14, 15, 16, 17] [] rfl rfl rfl rfl (n_V (As := [.int 3, .int x7_2]) (rest := []) (C := RX10) (T := TX10) (N := 14) (ci := 8) S G (s_homeBehind l X h0 nw sp xa la lb an sv dv n0 n1 n2 n3 n4 g0 gs gn gm a7_2 d7_2 3 x7_2 hI_n0 hI_n1 hI_n2 hI_n3 hI_n4 (by omega) (by first | decide | assumption | exact k_60a (by assumption)) H.size) gX10_first_X10_homeBehind rfl rfl rfl hdV_X10_homeBehind ⟨Nat.le_of_ble_eq_true rfl, Nat.le_of_ble_eq_true rfl⟩ [0, 1, 2, 3, 4, 5, 6, 7, 8, 9, 10, 11, 12, 13, 14, 15, 16, 17] rfl rfl 0 rfl rfl rfl hl.1 (Nat.le_of_ble_eq_true rfl) dX10_first_40 ⟨Nat.le_of_ble_eq_true rfl, Nat.le_of_ble_eq_true rfl⟩) (fun r_34 u_34 H locs hp_34 G => ?_)
            obtain ⟨a_34a, d_34b⟩ := u_34
            have hq_34 := hp_34
            have G : wd X (va_A (@HAppend.hAppend va_W va_W va_W _ (xW h0 nw sp xa la lb) (@HAppend.hAppend va_W va_W va_W _ (rcV X nw an sv dv n0 n1 n2 n3 n4 g0 gs gn gm) (rnV (xa 8) ag dg))) sz) (va_A (@HAppend.hAppend va_W va_W va_W _ (xW h0 nw sp xa la lb) (@HAppend.hAppend va_W va_W va_W _ (rcV X nw an sv dv n0 n1 n2 n3 n4 g0 gs gn gm) (rnV (xa 8) ag dg))) sz) s (@HAppend.hAppend va_W va_W va_W _ (xW h0 nw sp xa la lb) (@HAppend.hAppend va_W va_W va_W _ (rcV X nw an sv dv n0 n1 n2 n3 n4 g0 gs gn gm) (rnV (xa 8) a_34a d_34b))) H locs := G
            exact join_30 r_34 a_34a d_34b _ _ _ (by first | assumption | decide | exact k_m60 (by assumption)) G hl
          · refine lv_iconst (v := (-1)) zx zb dX10_first_33 (by decide) ?_
            refine lv_goto (tgt := 43) zx zb dX10_first_34 (by decide) ?_
            exact join_30 (-1) a7_2 d7_2 _ _ _ (by first | assumption | decide | exact k_m60 (by assumption)) G hl
        · intro x_31 a_32 d_33 H locs ls hk_x_31 G hl
          refine lv_istore (lv' := [(4, .int x_31), (3, .int 3), (2, .int x7_2), (1, .int x7_1), (0, .ref h0)]) zx zb dX10_first_43 hl (by decide) rfl (fun ls hl => ?_)
          refine lv_iload zx zb dX10_first_45 (lv_at hl 0 rfl) ?_
          refine lv_iconst (v := (-1)) zx zb dX10_first_47 (by decide) ?_
          refine k_cutW (PP := fun Wx => ∀ (x_36 : Int32) (x_37 : Int32) (H : Heap) (locs : List Loc) (ls : Array Slot), (x_36 ≤ 60) → wd X (va_A (@HAppend.hAppend va_W va_W va_W _ (xW h0 nw sp xa la lb) (@HAppend.hAppend va_W va_W va_W _ (rcV X nw an sv dv n0 n1 n2 n3 n4 g0 gs gn gm) (rnV (xa 8) ag dg))) sz) (va_A (@HAppend.hAppend va_W va_W va_W _ (xW h0 nw sp xa la lb) (@HAppend.hAppend va_W va_W va_W _ (rcV X nw an sv dv n0 n1 n2 n3 n4 g0 gs gn gm) (rnV (xa 8) ag dg))) sz) s (@HAppend.hAppend va_W va_W va_W _ (xW h0 nw sp xa la lb) (@HAppend.hAppend va_W va_W va_W _ (rcV X nw an sv dv n0 n1 n2 n3 n4 g0 gs gn gm) (rnV (xa 8) a_32 d_33))) H locs → lv_has ls 5 [(4, .int x_31), (3, .int 3), (2, .int x_36), (1, .int x_37), (0, .ref h0)] → Wx (F0 m 58 ls []) H locs) ?_ ?_
          · intro join_48
            refine lv_icmp_eq (tgt := 58) zx zb dX10_first_48 (by decide) (fun c_35 => ?_) (fun c_35 => ?_)
            · exact join_48 x7_2 x7_1 _ _ _ (by first | assumption | decide | exact k_m60 (by assumption)) G hl
            · refine lv_iload_n zx zb dX10_first_51 rfl (lv_at hl 1 rfl) ?_
              refine lv_istore_n (lv' := [(1, .int 3), (4, .int x_31), (3, .int 3), (2, .int x7_2), (0, .ref h0)]) zx zb dX10_first_52 rfl hl (by decide) rfl (fun ls hl => ?_)
              refine lv_iload zx zb dX10_first_53 (lv_at hl 1 rfl) ?_
              refine lv_iconst (v := 1) zx zb dX10_first_55 (by decide) ?_
              refine r_isub (v := (x_31 - 1)) S rfl dX10_first_56 ?_
              refine lv_istore_n (lv' := [(2, .int (x_31 - 1)), (1, .int 3), (4, .int x_31), (3, .int 3), (0, .ref h0)]) zx zb dX10_first_57 rfl hl (by decide) rfl (fun ls hl => ?_)
              have hl := lv_sub hl (l' := [(4, .int x_31), (3, .int 3), (2, .int (x_31 - 1)), (1, .int 3), (0, .ref h0)]) [2, 3, 0, 1, 4] rfl
              exact join_48 (x_31 - 1) 3 _ _ _ (by first | assumption | decide | exact k_m60 (by assumption)) G hl
          · intro x_36 x_37 H locs ls hk_x_36 G hl
            refine lv_iinc (v := 4) (lv' := [(3, .int 4), (4, .int x_31), (2, .int x_36), (1, .int x_37), (0, .ref h0)]) zx zb dX10_first_58 hl (k := 1) rfl (by decide) (by decide) rfl (fun ls hl => ?_)
            refine lv_goto (tgt := 7) zx zb dX10_first_61 (by decide) ?_
            have hl := lv_sub hl (l' := [(3, .int 4), (2, .int x_36), (1, .int x_37), (0, .ref h0)]) [0, 2, 3, 4] rfl
            exact ih7 4 x_36 x_37 a_32 d_33 _ _ _ (by omega) (by omega) (by first | assumption | decide | exact k_m60 (by assumption)) G hl
      · refine k_it (v := 4) rfl ?_
        refine r_aald (C := RX8) (b := (an 5)) S G 2 3 rfl rfl (k_vp (by decide)) rfl dX10_first_26 ?_
        refine o_ri (cells' := 0) (slots' := 0) G rfl rfl (n_V (As := []) (rest := []) (C := RX8) (T := TX8) (N := 8) (ci := 6) S G (s_isHome l X (an 5) (fun k => sv (12 + k)) (fun k => dv (30 + k)) H.size) gX10_first_X8_isHome rfl rfl rfl hdV_X8_isHome ⟨Nat.le_of_ble_eq_true rfl, Nat.le_of_ble_eq_true rfl⟩ [7] rfl rfl 7 rfl rfl rfl hl.1 (Nat.le_of_ble_eq_true rfl) dX10_first_27 ⟨Nat.le_of_ble_eq_true rfl, Nat.le_of_ble_eq_true rfl⟩) (fun r_38 u_38 H locs hp_38 G => ?_)
        have G : wd X (va_A (@HAppend.hAppend va_W va_W va_W _ (xW h0 nw sp xa la lb) (@HAppend.hAppend va_W va_W va_W _ (rcV X nw an sv dv n0 n1 n2 n3 n4 g0 gs gn gm) (rnV (xa 8) ag dg))) sz) (va_A (@HAppend.hAppend va_W va_W va_W _ (xW h0 nw sp xa la lb) (@HAppend.hAppend va_W va_W va_W _ (rcV X nw an sv dv n0 n1 n2 n3 n4 g0 gs gn gm) (rnV (xa 8) ag dg))) sz) s (@HAppend.hAppend va_W va_W va_W _ (xW h0 nw sp xa la lb) (@HAppend.hAppend va_W va_W va_W _ (rcV X nw an sv dv n0 n1 n2 n3 n4 g0 gs gn gm) (rnV (xa 8) a7_2 d7_2))) H locs := G
        refine k_cutW (PP := fun Wx => ∀ (x_40 : Int32) (a_41 : Nat → Int32) (d_42 : Nat → Int32) (H : Heap) (locs : List Loc) (ls : Array Slot), ((-1 : Int32) ≤ x_40 ∧ x_40 ≤ 60) → wd X (va_A (@HAppend.hAppend va_W va_W va_W _ (xW h0 nw sp xa la lb) (@HAppend.hAppend va_W va_W va_W _ (rcV X nw an sv dv n0 n1 n2 n3 n4 g0 gs gn gm) (rnV (xa 8) ag dg))) sz) (va_A (@HAppend.hAppend va_W va_W va_W _ (xW h0 nw sp xa la lb) (@HAppend.hAppend va_W va_W va_W _ (rcV X nw an sv dv n0 n1 n2 n3 n4 g0 gs gn gm) (rnV (xa 8) ag dg))) sz) s (@HAppend.hAppend va_W va_W va_W _ (xW h0 nw sp xa la lb) (@HAppend.hAppend va_W va_W va_W _ (rcV X nw an sv dv n0 n1 n2 n3 n4 g0 gs gn gm) (rnV (xa 8) a_41 d_42))) H locs → lv_has ls 5 [(3, .int 4), (2, .int x7_2), (1, .int x7_1), (0, .ref h0)] → Wx (F0 m 43 ls [.int x_40]) H locs) ?_ ?_
        · intro join_30
          refine lv_if_eq (tgt := 37) zx zb dX10_first_30 (by decide) (fun c_39 => ?_) (fun c_39 => ?_)
          · refine lv_aload_n zx zb dX10_first_37 rfl (lv_at hl 3 rfl) ?_
            refine lv_iload_n zx zb dX10_first_38 rfl (lv_at hl 0 rfl) ?_
            refine lv_iload_n zx zb dX10_first_39 rfl (lv_at hl 1 rfl) ?_
            refine b_wi (cells' := 0) (slots' := 0) (wr := []) G rfl rfl [0, 1, 2, 3, 4, 5, 6, 7, 8, 9, 10, 11, 12, 13, 14, 15, 16, 17] [] rfl rfl rfl rfl (n_V (As := [.int 4, .int x7_2]) (rest := []) (C := RX10) (T := TX10) (N := 14) (ci := 8) S G (s_homeBehind l X h0 nw sp xa la lb an sv dv n0 n1 n2 n3 n4 g0 gs gn gm a7_2 d7_2 4 x7_2 hI_n0 hI_n1 hI_n2 hI_n3 hI_n4 (by omega) (by first | decide | assumption | exact k_60a (by assumption)) H.size) gX10_first_X10_homeBehind rfl rfl rfl hdV_X10_homeBehind ⟨Nat.le_of_ble_eq_true rfl, Nat.le_of_ble_eq_true rfl⟩ [0, 1, 2, 3, 4, 5, 6, 7, 8, 9, 10, 11, 12, 13, 14, 15, 16, 17] rfl rfl 0 rfl rfl rfl hl.1 (Nat.le_of_ble_eq_true rfl) dX10_first_40 ⟨Nat.le_of_ble_eq_true rfl, Nat.le_of_ble_eq_true rfl⟩) (fun r_43 u_43 H locs hp_43 G => ?_)
            obtain ⟨a_43a, d_43b⟩ := u_43
            have hq_43 := hp_43
            have G : wd X (va_A (@HAppend.hAppend va_W va_W va_W _ (xW h0 nw sp xa la lb) (@HAppend.hAppend va_W va_W va_W _ (rcV X nw an sv dv n0 n1 n2 n3 n4 g0 gs gn gm) (rnV (xa 8) ag dg))) sz) (va_A (@HAppend.hAppend va_W va_W va_W _ (xW h0 nw sp xa la lb) (@HAppend.hAppend va_W va_W va_W _ (rcV X nw an sv dv n0 n1 n2 n3 n4 g0 gs gn gm) (rnV (xa 8) ag dg))) sz) s (@HAppend.hAppend va_W va_W va_W _ (xW h0 nw sp xa la lb) (@HAppend.hAppend va_W va_W va_W _ (rcV X nw an sv dv n0 n1 n2 n3 n4 g0 gs gn gm) (rnV (xa 8) a_43a d_43b))) H locs := G
            exact join_30 r_43 a_43a d_43b _ _ _ (by first | assumption | decide | exact k_m60 (by assumption)) G hl
          · refine lv_iconst (v := (-1)) zx zb dX10_first_33 (by decide) ?_
            refine lv_goto (tgt := 43) zx zb dX10_first_34 (by decide) ?_
            exact join_30 (-1) a7_2 d7_2 _ _ _ (by first | assumption | decide | exact k_m60 (by assumption)) G hl
        · intro x_40 a_41 d_42 H locs ls hk_x_40 G hl
          refine lv_istore (lv' := [(4, .int x_40), (3, .int 4), (2, .int x7_2), (1, .int x7_1), (0, .ref h0)]) zx zb dX10_first_43 hl (by decide) rfl (fun ls hl => ?_)
          refine lv_iload zx zb dX10_first_45 (lv_at hl 0 rfl) ?_
          refine lv_iconst (v := (-1)) zx zb dX10_first_47 (by decide) ?_
          refine k_cutW (PP := fun Wx => ∀ (x_45 : Int32) (x_46 : Int32) (H : Heap) (locs : List Loc) (ls : Array Slot), (x_45 ≤ 60) → wd X (va_A (@HAppend.hAppend va_W va_W va_W _ (xW h0 nw sp xa la lb) (@HAppend.hAppend va_W va_W va_W _ (rcV X nw an sv dv n0 n1 n2 n3 n4 g0 gs gn gm) (rnV (xa 8) ag dg))) sz) (va_A (@HAppend.hAppend va_W va_W va_W _ (xW h0 nw sp xa la lb) (@HAppend.hAppend va_W va_W va_W _ (rcV X nw an sv dv n0 n1 n2 n3 n4 g0 gs gn gm) (rnV (xa 8) ag dg))) sz) s (@HAppend.hAppend va_W va_W va_W _ (xW h0 nw sp xa la lb) (@HAppend.hAppend va_W va_W va_W _ (rcV X nw an sv dv n0 n1 n2 n3 n4 g0 gs gn gm) (rnV (xa 8) a_41 d_42))) H locs → lv_has ls 5 [(4, .int x_40), (3, .int 4), (2, .int x_45), (1, .int x_46), (0, .ref h0)] → Wx (F0 m 58 ls []) H locs) ?_ ?_
          · intro join_48
            refine lv_icmp_eq (tgt := 58) zx zb dX10_first_48 (by decide) (fun c_44 => ?_) (fun c_44 => ?_)
            · exact join_48 x7_2 x7_1 _ _ _ (by first | assumption | decide | exact k_m60 (by assumption)) G hl
            · refine lv_iload_n zx zb dX10_first_51 rfl (lv_at hl 1 rfl) ?_
              refine lv_istore_n (lv' := [(1, .int 4), (4, .int x_40), (3, .int 4), (2, .int x7_2), (0, .ref h0)]) zx zb dX10_first_52 rfl hl (by decide) rfl (fun ls hl => ?_)
              refine lv_iload zx zb dX10_first_53 (lv_at hl 1 rfl) ?_
              refine lv_iconst (v := 1) zx zb dX10_first_55 (by decide) ?_
              refine r_isub (v := (x_40 - 1)) S rfl dX10_first_56 ?_
              refine lv_istore_n (lv' := [(2, .int (x_40 - 1)), (1, .int 4), (4, .int x_40), (3, .int 4), (0, .ref h0)]) zx zb dX10_first_57 rfl hl (by decide) rfl (fun ls hl => ?_)
              have hl := lv_sub hl (l' := [(4, .int x_40), (3, .int 4), (2, .int (x_40 - 1)), (1, .int 4), (0, .ref h0)]) [2, 3, 0, 1, 4] rfl
              exact join_48 (x_40 - 1) 4 _ _ _ (by first | assumption | decide | exact k_m60 (by assumption)) G hl
          · intro x_45 x_46 H locs ls hk_x_45 G hl
            refine lv_iinc (v := 5) (lv' := [(3, .int 5), (4, .int x_40), (2, .int x_45), (1, .int x_46), (0, .ref h0)]) zx zb dX10_first_58 hl (k := 1) rfl (by decide) (by decide) rfl (fun ls hl => ?_)
            refine lv_goto (tgt := 7) zx zb dX10_first_61 (by decide) ?_
            have hl := lv_sub hl (l' := [(3, .int 5), (2, .int x_45), (1, .int x_46), (0, .ref h0)]) [0, 2, 3, 4] rfl
            exact ih7 5 x_45 x_46 a_41 d_42 _ _ _ (by omega) (by omega) (by first | assumption | decide | exact k_m60 (by assumption)) G hl
      · refine k_it (v := 5) rfl ?_
        refine r_aald (C := RX8) (b := (an 6)) S G 2 3 rfl rfl (k_vp (by decide)) rfl dX10_first_26 ?_
        refine o_ri (cells' := 0) (slots' := 0) G rfl rfl (n_V (As := []) (rest := []) (C := RX8) (T := TX8) (N := 8) (ci := 6) S G (s_isHome l X (an 6) (fun k => sv (15 + k)) (fun k => dv (35 + k)) H.size) gX10_first_X8_isHome rfl rfl rfl hdV_X8_isHome ⟨Nat.le_of_ble_eq_true rfl, Nat.le_of_ble_eq_true rfl⟩ [8] rfl rfl 8 rfl rfl rfl hl.1 (Nat.le_of_ble_eq_true rfl) dX10_first_27 ⟨Nat.le_of_ble_eq_true rfl, Nat.le_of_ble_eq_true rfl⟩) (fun r_47 u_47 H locs hp_47 G => ?_)
        have G : wd X (va_A (@HAppend.hAppend va_W va_W va_W _ (xW h0 nw sp xa la lb) (@HAppend.hAppend va_W va_W va_W _ (rcV X nw an sv dv n0 n1 n2 n3 n4 g0 gs gn gm) (rnV (xa 8) ag dg))) sz) (va_A (@HAppend.hAppend va_W va_W va_W _ (xW h0 nw sp xa la lb) (@HAppend.hAppend va_W va_W va_W _ (rcV X nw an sv dv n0 n1 n2 n3 n4 g0 gs gn gm) (rnV (xa 8) ag dg))) sz) s (@HAppend.hAppend va_W va_W va_W _ (xW h0 nw sp xa la lb) (@HAppend.hAppend va_W va_W va_W _ (rcV X nw an sv dv n0 n1 n2 n3 n4 g0 gs gn gm) (rnV (xa 8) a7_2 d7_2))) H locs := G
        refine k_cutW (PP := fun Wx => ∀ (x_49 : Int32) (a_50 : Nat → Int32) (d_51 : Nat → Int32) (H : Heap) (locs : List Loc) (ls : Array Slot), ((-1 : Int32) ≤ x_49 ∧ x_49 ≤ 60) → wd X (va_A (@HAppend.hAppend va_W va_W va_W _ (xW h0 nw sp xa la lb) (@HAppend.hAppend va_W va_W va_W _ (rcV X nw an sv dv n0 n1 n2 n3 n4 g0 gs gn gm) (rnV (xa 8) ag dg))) sz) (va_A (@HAppend.hAppend va_W va_W va_W _ (xW h0 nw sp xa la lb) (@HAppend.hAppend va_W va_W va_W _ (rcV X nw an sv dv n0 n1 n2 n3 n4 g0 gs gn gm) (rnV (xa 8) ag dg))) sz) s (@HAppend.hAppend va_W va_W va_W _ (xW h0 nw sp xa la lb) (@HAppend.hAppend va_W va_W va_W _ (rcV X nw an sv dv n0 n1 n2 n3 n4 g0 gs gn gm) (rnV (xa 8) a_50 d_51))) H locs → lv_has ls 5 [(3, .int 5), (2, .int x7_2), (1, .int x7_1), (0, .ref h0)] → Wx (F0 m 43 ls [.int x_49]) H locs) ?_ ?_
        · intro join_30
          refine lv_if_eq (tgt := 37) zx zb dX10_first_30 (by decide) (fun c_48 => ?_) (fun c_48 => ?_)
          · refine lv_aload_n zx zb dX10_first_37 rfl (lv_at hl 3 rfl) ?_
            refine lv_iload_n zx zb dX10_first_38 rfl (lv_at hl 0 rfl) ?_
            refine lv_iload_n zx zb dX10_first_39 rfl (lv_at hl 1 rfl) ?_
            refine b_wi (cells' := 0) (slots' := 0) (wr := []) G rfl rfl [0, 1, 2, 3, 4, 5, 6, 7, 8, 9, 10, 11, 12, 13, 14, 15, 16, 17] [] rfl rfl rfl rfl (n_V (As := [.int 5, .int x7_2]) (rest := []) (C := RX10) (T := TX10) (N := 14) (ci := 8) S G (s_homeBehind l X h0 nw sp xa la lb an sv dv n0 n1 n2 n3 n4 g0 gs gn gm a7_2 d7_2 5 x7_2 hI_n0 hI_n1 hI_n2 hI_n3 hI_n4 (by omega) (by first | decide | assumption | exact k_60a (by assumption)) H.size) gX10_first_X10_homeBehind rfl rfl rfl hdV_X10_homeBehind ⟨Nat.le_of_ble_eq_true rfl, Nat.le_of_ble_eq_true rfl⟩ [0, 1, 2, 3, 4, 5, 6, 7, 8, 9, 10, 11, 12, 13, 14, 15, 16, 17] rfl rfl 0 rfl rfl rfl hl.1 (Nat.le_of_ble_eq_true rfl) dX10_first_40 ⟨Nat.le_of_ble_eq_true rfl, Nat.le_of_ble_eq_true rfl⟩) (fun r_52 u_52 H locs hp_52 G => ?_)
            obtain ⟨a_52a, d_52b⟩ := u_52
            have hq_52 := hp_52
            have G : wd X (va_A (@HAppend.hAppend va_W va_W va_W _ (xW h0 nw sp xa la lb) (@HAppend.hAppend va_W va_W va_W _ (rcV X nw an sv dv n0 n1 n2 n3 n4 g0 gs gn gm) (rnV (xa 8) ag dg))) sz) (va_A (@HAppend.hAppend va_W va_W va_W _ (xW h0 nw sp xa la lb) (@HAppend.hAppend va_W va_W va_W _ (rcV X nw an sv dv n0 n1 n2 n3 n4 g0 gs gn gm) (rnV (xa 8) ag dg))) sz) s (@HAppend.hAppend va_W va_W va_W _ (xW h0 nw sp xa la lb) (@HAppend.hAppend va_W va_W va_W _ (rcV X nw an sv dv n0 n1 n2 n3 n4 g0 gs gn gm) (rnV (xa 8) a_52a d_52b))) H locs := G
            exact join_30 r_52 a_52a d_52b _ _ _ (by first | assumption | decide | exact k_m60 (by assumption)) G hl
          · refine lv_iconst (v := (-1)) zx zb dX10_first_33 (by decide) ?_
            refine lv_goto (tgt := 43) zx zb dX10_first_34 (by decide) ?_
            exact join_30 (-1) a7_2 d7_2 _ _ _ (by first | assumption | decide | exact k_m60 (by assumption)) G hl
        · intro x_49 a_50 d_51 H locs ls hk_x_49 G hl
          refine lv_istore (lv' := [(4, .int x_49), (3, .int 5), (2, .int x7_2), (1, .int x7_1), (0, .ref h0)]) zx zb dX10_first_43 hl (by decide) rfl (fun ls hl => ?_)
          refine lv_iload zx zb dX10_first_45 (lv_at hl 0 rfl) ?_
          refine lv_iconst (v := (-1)) zx zb dX10_first_47 (by decide) ?_
          refine k_cutW (PP := fun Wx => ∀ (x_54 : Int32) (x_55 : Int32) (H : Heap) (locs : List Loc) (ls : Array Slot), (x_54 ≤ 60) → wd X (va_A (@HAppend.hAppend va_W va_W va_W _ (xW h0 nw sp xa la lb) (@HAppend.hAppend va_W va_W va_W _ (rcV X nw an sv dv n0 n1 n2 n3 n4 g0 gs gn gm) (rnV (xa 8) ag dg))) sz) (va_A (@HAppend.hAppend va_W va_W va_W _ (xW h0 nw sp xa la lb) (@HAppend.hAppend va_W va_W va_W _ (rcV X nw an sv dv n0 n1 n2 n3 n4 g0 gs gn gm) (rnV (xa 8) ag dg))) sz) s (@HAppend.hAppend va_W va_W va_W _ (xW h0 nw sp xa la lb) (@HAppend.hAppend va_W va_W va_W _ (rcV X nw an sv dv n0 n1 n2 n3 n4 g0 gs gn gm) (rnV (xa 8) a_50 d_51))) H locs → lv_has ls 5 [(4, .int x_49), (3, .int 5), (2, .int x_54), (1, .int x_55), (0, .ref h0)] → Wx (F0 m 58 ls []) H locs) ?_ ?_
          · intro join_48
            refine lv_icmp_eq (tgt := 58) zx zb dX10_first_48 (by decide) (fun c_53 => ?_) (fun c_53 => ?_)
            · exact join_48 x7_2 x7_1 _ _ _ (by first | assumption | decide | exact k_m60 (by assumption)) G hl
            · refine lv_iload_n zx zb dX10_first_51 rfl (lv_at hl 1 rfl) ?_
              refine lv_istore_n (lv' := [(1, .int 5), (4, .int x_49), (3, .int 5), (2, .int x7_2), (0, .ref h0)]) zx zb dX10_first_52 rfl hl (by decide) rfl (fun ls hl => ?_)
              refine lv_iload zx zb dX10_first_53 (lv_at hl 1 rfl) ?_
              refine lv_iconst (v := 1) zx zb dX10_first_55 (by decide) ?_
              refine r_isub (v := (x_49 - 1)) S rfl dX10_first_56 ?_
              refine lv_istore_n (lv' := [(2, .int (x_49 - 1)), (1, .int 5), (4, .int x_49), (3, .int 5), (0, .ref h0)]) zx zb dX10_first_57 rfl hl (by decide) rfl (fun ls hl => ?_)
              have hl := lv_sub hl (l' := [(4, .int x_49), (3, .int 5), (2, .int (x_49 - 1)), (1, .int 5), (0, .ref h0)]) [2, 3, 0, 1, 4] rfl
              exact join_48 (x_49 - 1) 5 _ _ _ (by first | assumption | decide | exact k_m60 (by assumption)) G hl
          · intro x_54 x_55 H locs ls hk_x_54 G hl
            refine lv_iinc (v := 6) (lv' := [(3, .int 6), (4, .int x_49), (2, .int x_54), (1, .int x_55), (0, .ref h0)]) zx zb dX10_first_58 hl (k := 1) rfl (by decide) (by decide) rfl (fun ls hl => ?_)
            refine lv_goto (tgt := 7) zx zb dX10_first_61 (by decide) ?_
            have hl := lv_sub hl (l' := [(3, .int 6), (2, .int x_54), (1, .int x_55), (0, .ref h0)]) [0, 2, 3, 4] rfl
            exact ih7 6 x_54 x_55 a_50 d_51 _ _ _ (by omega) (by omega) (by first | assumption | decide | exact k_m60 (by assumption)) G hl
set_option maxHeartbeats 4000000 in
set_option maxRecDepth 100000 in
/-- areTwo -/
theorem s_areTwo (l : Launch) (X : EX) (h0 : Nat) (nw : Nat) (sp : Nat) (xa : Nat → Nat) (la : Int64) (lb : Int64) (an : Nat → Nat) (sv : Nat → Int32) (dv : Nat → Int32) (n0 : Nat) (n1 : Nat) (n2 : Nat) (n3 : Nat) (n4 : Nat) (g0 : Nat → Int32) (gs : Nat → Int32) (gn : Nat → Int32) (gm : Nat → Int32) (i : Int32) (j : Int32) (hI_n0 : n0 ≤ 6) (hI_n1 : n1 ≤ 8) (hI_n2 : n2 ≤ 5) (hI_n3 : n3 ≤ 6) (hI_n4 : n4 ≤ 6) (sz : Nat) : Met l yX10_areTwo wsX10_areTwo ({ frames := 1, cells := 0, slots := 0, locals := 21 } : Room) (pE X [.ref h0, .int i, .int j] (@HAppend.hAppend va_W va_W va_W _ (xW h0 nw sp xa la lb) (rcV X nw an sv dv n0 n1 n2 n3 n4 g0 gs gn gm)) sz) (qI (fun (r : Int32) (u : Unit) => (r = 1 ∧ (∃ a : Nat, a < n0 ∧ i = nI a) ∧ ∃ a : Nat, a < n0 ∧ j = nI a) ∨ r = 0) X (fun (u : Unit) => []) [] sz) 0 0 (va_A [] sz) := by
  refine mk_met (B := (fun _ => True)) (A := (va_A [] sz)) (cc := cX10_areTwo) (maxL := 3) (ret := (some .boolean)) (by decide) rfl (Nat.le_of_ble_eq_true rfl) k_ro k_a (fun p e s m below meth c S zr zlk znm zsz G ls hl => ?_)
  have S : CallFix p m c cX10_areTwo 3 s _ wsX10_areTwo RX10 := S
  have zx := S.1
  have zb := S.2.1
  have hl : lv_has ls 3 [(0, .ref h0), (1, .int i), (2, .int j)] := hl
  refine lv_aload_n zx zb dX10_areTwo_0 rfl (lv_at hl 0 rfl) ?_
  refine lv_iload_n zx zb dX10_areTwo_1 rfl (lv_at hl 1 rfl) ?_
  refine o_ri (cells' := 0) (slots' := 0) G rfl rfl (n_V (As := [.int i]) (rest := []) (C := RX10) (T := TX10) (N := 14) (ci := 8) S G (s_there l X h0 nw sp xa la lb an sv dv n0 n1 n2 n3 n4 g0 gs gn gm i hI_n0 hI_n1 hI_n2 hI_n3 hI_n4 s.heap.size) gX10_areTwo_X10_there rfl rfl rfl hdV_X10_there ⟨Nat.le_of_ble_eq_true rfl, Nat.le_of_ble_eq_true rfl⟩ [0, 1, 2, 3, 4, 5, 6, 7, 8, 9, 10, 11, 12, 13, 14, 15, 16] rfl rfl 0 rfl rfl rfl hl.1 (Nat.le_of_ble_eq_true rfl) dX10_areTwo_2 ⟨Nat.le_of_ble_eq_true rfl, Nat.le_of_ble_eq_true rfl⟩) (fun r_1 u_1 H locs hp_1 G => ?_)
  have G : wd X (fun _ => True) (va_A [] sz) s (@HAppend.hAppend va_W va_W va_W _ (xW h0 nw sp xa la lb) (rcV X nw an sv dv n0 n1 n2 n3 n4 g0 gs gn gm)) H locs := G
  rcases hp_1 with ⟨rfl, hj_1⟩ | ⟨rfl, hj_1⟩
  · obtain ⟨j_1, hj_1, rfl⟩ := hj_1
    refine lv_if_eq (tgt := 25) zx zb dX10_areTwo_5 (by decide) (fun c_2 => absurd c_2 (by decide)) (fun c_2 => ?_)
    refine lv_aload_n zx zb dX10_areTwo_8 rfl (lv_at hl 0 rfl) ?_
    refine lv_iload_n zx zb dX10_areTwo_9 rfl (lv_at hl 2 rfl) ?_
    refine o_ri (cells' := 0) (slots' := 0) G rfl rfl (n_V (As := [.int j]) (rest := []) (C := RX10) (T := TX10) (N := 14) (ci := 8) S G (s_there l X h0 nw sp xa la lb an sv dv n0 n1 n2 n3 n4 g0 gs gn gm j hI_n0 hI_n1 hI_n2 hI_n3 hI_n4 H.size) gX10_areTwo_X10_there rfl rfl rfl hdV_X10_there ⟨Nat.le_of_ble_eq_true rfl, Nat.le_of_ble_eq_true rfl⟩ [0, 1, 2, 3, 4, 5, 6, 7, 8, 9, 10, 11, 12, 13, 14, 15, 16] rfl rfl 0 rfl rfl rfl hl.1 (Nat.le_of_ble_eq_true rfl) dX10_areTwo_10 ⟨Nat.le_of_ble_eq_true rfl, Nat.le_of_ble_eq_true rfl⟩) (fun r_3 u_3 H locs hp_3 G => ?_)
    have G : wd X (fun _ => True) (va_A [] sz) s (@HAppend.hAppend va_W va_W va_W _ (xW h0 nw sp xa la lb) (rcV X nw an sv dv n0 n1 n2 n3 n4 g0 gs gn gm)) H locs := G
    rcases hp_3 with ⟨rfl, hj_3⟩ | ⟨rfl, hj_3⟩
    · obtain ⟨j_3, hj_3, rfl⟩ := hj_3
      refine lv_if_eq (tgt := 25) zx zb dX10_areTwo_13 (by decide) (fun c_4 => absurd c_4 (by decide)) (fun c_4 => ?_)
      refine lv_iload_n zx zb dX10_areTwo_16 rfl (lv_at hl 1 rfl) ?_
      refine lv_iload_n zx zb dX10_areTwo_17 rfl (lv_at hl 2 rfl) ?_
      refine lv_icmp_eq (tgt := 25) zx zb dX10_areTwo_18 (by decide) (fun c_5 => ?_) (fun c_5 => ?_)
      · have fc_5 := j_eq (a := j_1) (b := j_3) (by omega) (by omega) c_5
        refine lv_iconst (v := 0) zx zb dX10_areTwo_25 (by decide) ?_
        exact e_int S zr zlk (by decide) G () [] rfl rfl (Or.inl rfl) (Or.inr rfl) dX10_areTwo_26
      · have fc_5 := j_ne (a := j_1) (b := j_3) c_5
        refine lv_iconst (v := 1) zx zb dX10_areTwo_21 (by decide) ?_
        refine lv_goto (tgt := 26) zx zb dX10_areTwo_22 (by decide) ?_
        exact e_int S zr zlk (by decide) G () [] rfl rfl (Or.inl rfl) (Or.inl ⟨rfl, ⟨_, hj_1, rfl⟩, ⟨_, hj_3, rfl⟩⟩) dX10_areTwo_26
    · refine lv_if_eq (tgt := 25) zx zb dX10_areTwo_13 (by decide) (fun c_6 => ?_) (fun c_6 => absurd (by decide) c_6)
      refine lv_iconst (v := 0) zx zb dX10_areTwo_25 (by decide) ?_
      exact e_int S zr zlk (by decide) G () [] rfl rfl (Or.inl rfl) (Or.inr rfl) dX10_areTwo_26
  · refine lv_if_eq (tgt := 25) zx zb dX10_areTwo_5 (by decide) (fun c_7 => ?_) (fun c_7 => absurd (by decide) c_7)
    refine lv_iconst (v := 0) zx zb dX10_areTwo_25 (by decide) ?_
    exact e_int S zr zlk (by decide) G () [] rfl rfl (Or.inl rfl) (Or.inr rfl) dX10_areTwo_26
theorem in_X10_rankAll_X10 : ∀ w ∈ wsX100, w ∈ wsX10_rankAll := by decide +kernel
theorem lk_X10_rankAll_10 : Cond.fieldLink RX10 10 "EggSpoons" "now" "LEggSpoons$Race;" ∈ wsX10_rankAll := by decide +kernel
theorem in_X10_rankAll_X5 : ∀ w ∈ wsX50, w ∈ wsX10_rankAll := by decide +kernel
theorem lk_X10_rankAll_87 : Cond.fieldLink RX10 87 "EggSpoons$Race" "runners" "I" ∈ wsX10_rankAll := by decide +kernel
theorem lk_X10_rankAll_126 : Cond.fieldLink RX10 126 "EggSpoons$Race" "row" "[LEggSpoons$Runner;" ∈ wsX10_rankAll := by decide +kernel
theorem lk_X10_rankAll_76 : Cond.fieldLink RX10 76 "EggSpoons" "ranks" "[I" ∈ wsX10_rankAll := by decide +kernel
theorem in_X10_rankAll_X8 : ∀ w ∈ wsX80, w ∈ wsX10_rankAll := by decide +kernel
theorem lk_X10_rankAll_303 : Cond.fieldLink RX10 303 "EggSpoons$Runner" "homeAt" "I" ∈ wsX10_rankAll := by decide +kernel
set_option maxHeartbeats 4000000 in
set_option maxRecDepth 100000 in
/-- rankAll -/
theorem s_rankAll (l : Launch) (X : EX) (h0 : Nat) (nw : Nat) (sp : Nat) (xa : Nat → Nat) (la : Int64) (lb : Int64) (an : Nat → Nat) (sv : Nat → Int32) (dv : Nat → Int32) (n0 : Nat) (n1 : Nat) (n2 : Nat) (n3 : Nat) (n4 : Nat) (g0 : Nat → Int32) (gs : Nat → Int32) (gn : Nat → Int32) (gm : Nat → Int32) (ag : Nat → Int32) (dg : Nat → Int32) (fk : Nat → Int32) (hI_n0 : n0 ≤ 6) (hI_n1 : n1 ≤ 8) (hI_n2 : n2 ≤ 5) (hI_n3 : n3 ≤ 6) (hI_n4 : n4 ≤ 6) (sz : Nat) : Met l yX10_rankAll wsX10_rankAll ({ frames := 4, cells := 0, slots := 0, locals := 95 } : Room) (pE X [.ref h0] (@HAppend.hAppend va_W va_W va_W _ (xW h0 nw sp xa la lb) (@HAppend.hAppend va_W va_W va_W _ (rcV X nw an sv dv n0 n1 n2 n3 n4 g0 gs gn gm) (@HAppend.hAppend va_W va_W va_W _ (rnV (xa 8) ag dg) ([((xa 13), .inl (X.2.1, 6, .inl fk))])))) sz) (qV (fun (u : (Nat → Int32) × (Nat → Int32) × (Nat → Int32)) => (True)) X (fun (u : (Nat → Int32) × (Nat → Int32) × (Nat → Int32)) => @HAppend.hAppend va_W va_W va_W _ (xW h0 nw sp xa la lb) (@HAppend.hAppend va_W va_W va_W _ (rcV X nw an sv dv n0 n1 n2 n3 n4 g0 gs gn gm) (@HAppend.hAppend va_W va_W va_W _ (rnV (xa 8) u.1 u.2.1) ([((xa 13), .inl (X.2.1, 6, .inl u.2.2))])))) (@HAppend.hAppend va_W va_W va_W _ (xW h0 nw sp xa la lb) (@HAppend.hAppend va_W va_W va_W _ (rcV X nw an sv dv n0 n1 n2 n3 n4 g0 gs gn gm) (@HAppend.hAppend va_W va_W va_W _ (rnV (xa 8) ag dg) ([((xa 13), .inl (X.2.1, 6, .inl fk))])))) sz) 0 0 (va_A (@HAppend.hAppend va_W va_W va_W _ (xW h0 nw sp xa la lb) (@HAppend.hAppend va_W va_W va_W _ (rcV X nw an sv dv n0 n1 n2 n3 n4 g0 gs gn gm) (@HAppend.hAppend va_W va_W va_W _ (rnV (xa 8) ag dg) ([((xa 13), .inl (X.2.1, 6, .inl fk))])))) sz) := by
  refine mk_met (B := (va_A (@HAppend.hAppend va_W va_W va_W _ (xW h0 nw sp xa la lb) (@HAppend.hAppend va_W va_W va_W _ (rcV X nw an sv dv n0 n1 n2 n3 n4 g0 gs gn gm) (@HAppend.hAppend va_W va_W va_W _ (rnV (xa 8) ag dg) ([((xa 13), .inl (X.2.1, 6, .inl fk))])))) sz)) (A := (va_A (@HAppend.hAppend va_W va_W va_W _ (xW h0 nw sp xa la lb) (@HAppend.hAppend va_W va_W va_W _ (rcV X nw an sv dv n0 n1 n2 n3 n4 g0 gs gn gm) (@HAppend.hAppend va_W va_W va_W _ (rnV (xa 8) ag dg) ([((xa 13), .inl (X.2.1, 6, .inl fk))])))) sz)) (cc := cX10_rankAll) (maxL := 5) (ret := none) (by decide) rfl (Nat.le_of_ble_eq_true rfl) k_w k_a (fun p e s m below meth c S zr zlk znm zsz G ls hl => ?_)
  have S : CallFix p m c cX10_rankAll 5 s _ wsX10_rankAll RX10 := S
  have zx := S.1
  have zb := S.2.1
  have hl : lv_has ls 5 [(0, .ref h0)] := hl
  refine lv_iconst (v := 0) zx zb dX10_rankAll_0 (by decide) ?_
  refine lv_istore_n (lv' := [(1, .int 0), (0, .ref h0)]) zx zb dX10_rankAll_1 rfl hl (by decide) rfl (fun ls hl => ?_)
  refine k_loop (P := ∀ (zm : Nat) (k2 : Nat) (a2_2 : Nat → Int32) (d2_2 : Nat → Int32) (f2_3 : Nat → Int32) (H : Heap) (locs : List Loc) (ls : Array Slot), 6 + 1 ≤ k2 + zm → (k2 ≤ 6) → wd X (va_A (@HAppend.hAppend va_W va_W va_W _ (xW h0 nw sp xa la lb) (@HAppend.hAppend va_W va_W va_W _ (rcV X nw an sv dv n0 n1 n2 n3 n4 g0 gs gn gm) (@HAppend.hAppend va_W va_W va_W _ (rnV (xa 8) ag dg) ([((xa 13), .inl (X.2.1, 6, .inl fk))])))) sz) (va_A (@HAppend.hAppend va_W va_W va_W _ (xW h0 nw sp xa la lb) (@HAppend.hAppend va_W va_W va_W _ (rcV X nw an sv dv n0 n1 n2 n3 n4 g0 gs gn gm) (@HAppend.hAppend va_W va_W va_W _ (rnV (xa 8) ag dg) ([((xa 13), .inl (X.2.1, 6, .inl fk))])))) sz) s (@HAppend.hAppend va_W va_W va_W _ (xW h0 nw sp xa la lb) (@HAppend.hAppend va_W va_W va_W _ (rcV X nw an sv dv n0 n1 n2 n3 n4 g0 gs gn gm) (@HAppend.hAppend va_W va_W va_W _ (rnV (xa 8) a2_2 d2_2) ([((xa 13), .inl (X.2.1, 6, .inl f2_3))])))) H locs → lv_has ls 5 [(1, .int (nI k2)), (0, .ref h0)] → W p l e _ s m _ below meth c H locs _ _ _ (F0 m 2 ls [])) (fun loop => loop (6 + 1) 0 ag dg fk _ _ _ (by omega) (by omega) G hl) ?_
  intro zm
  induction zm with
  | zero => intro k2 a2_2 d2_2 f2_3 H locs ls zz q_hk_k2 _ _; exact absurd zz (by omega)
  | succ zm ih2 =>
    intro k2 a2_2 d2_2 f2_3 H locs ls zm_2 hk_k2 G hl
    refine lv_iload_n zx zb dX10_rankAll_2 rfl (lv_at hl 0 rfl) ?_
    refine lv_aload_n zx zb dX10_rankAll_3 rfl (lv_at hl 1 rfl) ?_
    refine r_get (C := RX10) (T := TX10) (N := 14) (ci := 8) (v := .ref nw) S in_X10_rankAll_X10 G 0 rfl rfl 0 (by decide) lk_X10_rankAll_10 rfl dX10_rankAll_4 ?_
    refine r_get (C := RX5) (T := TX5) (N := 8) (ci := 3) (v := .int (nI n0)) S in_X10_rankAll_X5 G 1 rfl rfl 2 (by decide) lk_X10_rankAll_87 rfl dX10_rankAll_7 ?_
    refine lv_icmp_ge (tgt := 76) zx zb dX10_rankAll_10 (by decide) (fun c_1 => ?_) (fun c_1 => ?_)
    · have fc_1 := j_le (a := n0) (b := k2) (by omega) (by omega) c_1
      exact e_void S zr zlk G (a2_2, d2_2, f2_3) [0, 1, 2, 3, 4, 5, 6, 7, 8, 9, 10, 11, 12, 13, 14, 15, 16, 17, 18] rfl rfl (Or.inr rfl) (trivial) dX10_rankAll_76
    · have fc_1 := j_nle (a := n0) (b := k2) (by omega) (by omega) c_1
      refine lv_aload_n zx zb dX10_rankAll_13 rfl (lv_at hl 1 rfl) ?_
      refine r_get (C := RX10) (T := TX10) (N := 14) (ci := 8) (v := .ref nw) S in_X10_rankAll_X10 G 0 rfl rfl 0 (by decide) lk_X10_rankAll_10 rfl dX10_rankAll_14 ?_
      refine r_get (C := RX5) (T := TX5) (N := 8) (ci := 3) (v := .ref (an 0)) S in_X10_rankAll_X5 G 1 rfl rfl 3 (by decide) lk_X10_rankAll_126 rfl dX10_rankAll_17 ?_
      refine lv_iload_n zx zb dX10_rankAll_20 rfl (lv_at hl 0 rfl) ?_
      rcases k_6c (show k2 < 6 by omega) with rfl | rfl | rfl | rfl | rfl | rfl
      · refine k_it (v := 0) rfl ?_
        refine r_aald (C := RX8) (b := (an 1)) S G 2 3 rfl rfl (k_vp (by decide)) rfl dX10_rankAll_21 ?_
        refine lv_astore_n (lv' := [(2, .ref (an 1)), (1, .int 0), (0, .ref h0)]) zx zb dX10_rankAll_22 rfl hl (by decide) rfl (fun ls hl => ?_)
        refine lv_aload_n zx zb dX10_rankAll_23 rfl (lv_at hl 2 rfl) ?_
        refine lv_iload_n zx zb dX10_rankAll_24 rfl (lv_at hl 1 rfl) ?_
        refine lv_bipush (v := 60) zx zb dX10_rankAll_25 (by decide) ?_
        refine b_wi (cells' := 0) (slots' := 0) (wr := [((xa 13), .inl (X.2.1, 6, .inl f2_3))]) G rfl rfl [0, 1, 2, 3, 4, 5, 6, 7, 8, 9, 10, 11, 12, 13, 14, 15, 16, 17] [18] rfl rfl rfl rfl (n_V (As := [.int 0, .int 60]) (rest := []) (C := RX10) (T := TX10) (N := 14) (ci := 8) S G (s_homeBehind l X h0 nw sp xa la lb an sv dv n0 n1 n2 n3 n4 g0 gs gn gm a2_2 d2_2 0 60 hI_n0 hI_n1 hI_n2 hI_n3 hI_n4 (by omega) (by first | decide | assumption | exact k_60a (by assumption)) H.size) gX10_rankAll_X10_homeBehind rfl rfl rfl hdV_X10_homeBehind ⟨Nat.le_of_ble_eq_true rfl, Nat.le_of_ble_eq_true rfl⟩ [0, 1, 2, 3, 4, 5, 6, 7, 8, 9, 10, 11, 12, 13, 14, 15, 16, 17] rfl rfl 0 rfl rfl rfl hl.1 (Nat.le_of_ble_eq_true rfl) dX10_rankAll_27 ⟨Nat.le_of_ble_eq_true rfl, Nat.le_of_ble_eq_true rfl⟩) (fun r_2 u_2 H locs hp_2 G => ?_)
        obtain ⟨a_2a, d_2b⟩ := u_2
        have hq_2 := hp_2
        have G : wd X (va_A (@HAppend.hAppend va_W va_W va_W _ (xW h0 nw sp xa la lb) (@HAppend.hAppend va_W va_W va_W _ (rcV X nw an sv dv n0 n1 n2 n3 n4 g0 gs gn gm) (@HAppend.hAppend va_W va_W va_W _ (rnV (xa 8) ag dg) ([((xa 13), .inl (X.2.1, 6, .inl fk))])))) sz) (va_A (@HAppend.hAppend va_W va_W va_W _ (xW h0 nw sp xa la lb) (@HAppend.hAppend va_W va_W va_W _ (rcV X nw an sv dv n0 n1 n2 n3 n4 g0 gs gn gm) (@HAppend.hAppend va_W va_W va_W _ (rnV (xa 8) ag dg) ([((xa 13), .inl (X.2.1, 6, .inl fk))])))) sz) s (@HAppend.hAppend va_W va_W va_W _ ([((xa 13), .inl (X.2.1, 6, .inl f2_3))]) (@HAppend.hAppend va_W va_W va_W _ (xW h0 nw sp xa la lb) (@HAppend.hAppend va_W va_W va_W _ (rcV X nw an sv dv n0 n1 n2 n3 n4 g0 gs gn gm) (rnV (xa 8) a_2a d_2b)))) H locs := G
        refine lv_istore_n (lv' := [(3, .int r_2), (2, .ref (an 1)), (1, .int 0), (0, .ref h0)]) zx zb dX10_rankAll_30 rfl hl (by decide) rfl (fun ls hl => ?_)
        refine lv_iload_n zx zb dX10_rankAll_31 rfl (lv_at hl 0 rfl) ?_
        refine lv_iconst (v := (-1)) zx zb dX10_rankAll_32 (by decide) ?_
        refine k_cutW (PP := fun Wx => ∀ (x_4 : Int32) (H : Heap) (locs : List Loc) (ls : Array Slot), wd X (va_A (@HAppend.hAppend va_W va_W va_W _ (xW h0 nw sp xa la lb) (@HAppend.hAppend va_W va_W va_W _ (rcV X nw an sv dv n0 n1 n2 n3 n4 g0 gs gn gm) (@HAppend.hAppend va_W va_W va_W _ (rnV (xa 8) ag dg) ([((xa 13), .inl (X.2.1, 6, .inl fk))])))) sz) (va_A (@HAppend.hAppend va_W va_W va_W _ (xW h0 nw sp xa la lb) (@HAppend.hAppend va_W va_W va_W _ (rcV X nw an sv dv n0 n1 n2 n3 n4 g0 gs gn gm) (@HAppend.hAppend va_W va_W va_W _ (rnV (xa 8) ag dg) ([((xa 13), .inl (X.2.1, 6, .inl fk))])))) sz) s (@HAppend.hAppend va_W va_W va_W _ ([((xa 13), .inl (X.2.1, 6, .inl f2_3))]) (@HAppend.hAppend va_W va_W va_W _ (xW h0 nw sp xa la lb) (@HAppend.hAppend va_W va_W va_W _ (rcV X nw an sv dv n0 n1 n2 n3 n4 g0 gs gn gm) (rnV (xa 8) a_2a d_2b)))) H locs → lv_has ls 5 [(3, .int r_2), (2, .ref (an 1)), (1, .int 0), (0, .ref h0)] → Wx (F0 m 42 ls [.int x_4]) H locs) ?_ ?_
        · intro join_33
          refine lv_icmp_ne (tgt := 41) zx zb dX10_rankAll_33 (by decide) (fun c_3 => ?_) (fun c_3 => ?_)
          · refine lv_iload_n zx zb dX10_rankAll_41 rfl (lv_at hl 0 rfl) ?_
            exact join_33 r_2 _ _ _  G hl
          · refine lv_bipush (v := 61) zx zb dX10_rankAll_36 (by decide) ?_
            refine lv_goto (tgt := 42) zx zb dX10_rankAll_38 (by decide) ?_
            exact join_33 61 _ _ _  G hl
        · intro x_4 H locs ls  G hl
          refine lv_istore (lv' := [(4, .int x_4), (3, .int r_2), (2, .ref (an 1)), (1, .int 0), (0, .ref h0)]) zx zb dX10_rankAll_42 hl (by decide) rfl (fun ls hl => ?_)
          refine lv_aload_n zx zb dX10_rankAll_44 rfl (lv_at hl 4 rfl) ?_
          refine r_get (C := RX10) (T := TX10) (N := 14) (ci := 8) (v := .ref (xa 13)) S in_X10_rankAll_X10 G 1 rfl rfl 13 (by decide) lk_X10_rankAll_76 rfl dX10_rankAll_45 ?_
          refine lv_iload_n zx zb dX10_rankAll_48 rfl (lv_at hl 3 rfl) ?_
          refine lv_aload_n zx zb dX10_rankAll_49 rfl (lv_at hl 2 rfl) ?_
          refine o_ri (cells' := 0) (slots' := 0) G rfl rfl (n_V (As := []) (rest := [.int 0, .ref (xa 13)]) (C := RX8) (T := TX8) (N := 8) (ci := 6) S G (s_isHome l X (an 1) (fun k => sv (0 + k)) (fun k => dv (10 + k)) H.size) gX10_rankAll_X8_isHome rfl rfl rfl hdV_X8_isHome ⟨Nat.le_of_ble_eq_true rfl, Nat.le_of_ble_eq_true rfl⟩ [4] rfl rfl 4 rfl rfl rfl hl.1 (Nat.le_of_ble_eq_true rfl) dX10_rankAll_50 ⟨Nat.le_of_ble_eq_true rfl, Nat.le_of_ble_eq_true rfl⟩) (fun r_5 u_5 H locs hp_5 G => ?_)
          have G : wd X (va_A (@HAppend.hAppend va_W va_W va_W _ (xW h0 nw sp xa la lb) (@HAppend.hAppend va_W va_W va_W _ (rcV X nw an sv dv n0 n1 n2 n3 n4 g0 gs gn gm) (@HAppend.hAppend va_W va_W va_W _ (rnV (xa 8) ag dg) ([((xa 13), .inl (X.2.1, 6, .inl fk))])))) sz) (va_A (@HAppend.hAppend va_W va_W va_W _ (xW h0 nw sp xa la lb) (@HAppend.hAppend va_W va_W va_W _ (rcV X nw an sv dv n0 n1 n2 n3 n4 g0 gs gn gm) (@HAppend.hAppend va_W va_W va_W _ (rnV (xa 8) ag dg) ([((xa 13), .inl (X.2.1, 6, .inl fk))])))) sz) s (@HAppend.hAppend va_W va_W va_W _ ([((xa 13), .inl (X.2.1, 6, .inl f2_3))]) (@HAppend.hAppend va_W va_W va_W _ (xW h0 nw sp xa la lb) (@HAppend.hAppend va_W va_W va_W _ (rcV X nw an sv dv n0 n1 n2 n3 n4 g0 gs gn gm) (rnV (xa 8) a_2a d_2b)))) H locs := G
          refine k_cutW (PP := fun Wx => ∀ (x_7 : Int32) (H : Heap) (locs : List Loc) (ls : Array Slot), wd X (va_A (@HAppend.hAppend va_W va_W va_W _ (xW h0 nw sp xa la lb) (@HAppend.hAppend va_W va_W va_W _ (rcV X nw an sv dv n0 n1 n2 n3 n4 g0 gs gn gm) (@HAppend.hAppend va_W va_W va_W _ (rnV (xa 8) ag dg) ([((xa 13), .inl (X.2.1, 6, .inl fk))])))) sz) (va_A (@HAppend.hAppend va_W va_W va_W _ (xW h0 nw sp xa la lb) (@HAppend.hAppend va_W va_W va_W _ (rcV X nw an sv dv n0 n1 n2 n3 n4 g0 gs gn gm) (@HAppend.hAppend va_W va_W va_W _ (rnV (xa 8) ag dg) ([((xa 13), .inl (X.2.1, 6, .inl fk))])))) sz) s (@HAppend.hAppend va_W va_W va_W _ ([((xa 13), .inl (X.2.1, 6, .inl f2_3))]) (@HAppend.hAppend va_W va_W va_W _ (xW h0 nw sp xa la lb) (@HAppend.hAppend va_W va_W va_W _ (rcV X nw an sv dv n0 n1 n2 n3 n4 g0 gs gn gm) (rnV (xa 8) a_2a d_2b)))) H locs → lv_has ls 5 [(4, .int x_4), (3, .int r_2), (2, .ref (an 1)), (1, .int 0), (0, .ref h0)] → Wx (F0 m 69 ls [.int x_7, .int 0, .ref (xa 13)]) H locs) ?_ ?_
          · intro join_53
            refine lv_if_eq (tgt := 63) zx zb dX10_rankAll_53 (by decide) (fun c_6 => ?_) (fun c_6 => ?_)
            · refine lv_sipush (v := 9999) zx zb dX10_rankAll_63 (by decide) ?_
              refine lv_iload zx zb dX10_rankAll_66 (lv_at hl 0 rfl) ?_
              refine r_iadd (v := (9999 + x_4)) S rfl dX10_rankAll_68 ?_
              exact join_53 (9999 + x_4) _ _ _  G hl
            · refine lv_aload_n zx zb dX10_rankAll_56 rfl (lv_at hl 2 rfl) ?_
              refine r_get (C := RX8) (T := TX8) (N := 8) (ci := 6) (v := .int (dv 14)) S in_X10_rankAll_X8 G 4 rfl rfl 7 (by decide) lk_X10_rankAll_303 rfl dX10_rankAll_57 ?_
              refine lv_goto (tgt := 69) zx zb dX10_rankAll_60 (by decide) ?_
              exact join_53 (dv 14) _ _ _  G hl
          · intro x_7 H locs ls  G hl
            refine r_iast S G 0 rfl (k_vp (by decide)) dX10_rankAll_69 (fun H locs G => ?_)
            obtain ⟨f_8, G⟩ : ∃ f_8 : Nat → Int32, wd X (va_A (@HAppend.hAppend va_W va_W va_W _ (xW h0 nw sp xa la lb) (@HAppend.hAppend va_W va_W va_W _ (rcV X nw an sv dv n0 n1 n2 n3 n4 g0 gs gn gm) (@HAppend.hAppend va_W va_W va_W _ (rnV (xa 8) ag dg) ([((xa 13), .inl (X.2.1, 6, .inl fk))])))) sz) (va_A (@HAppend.hAppend va_W va_W va_W _ (xW h0 nw sp xa la lb) (@HAppend.hAppend va_W va_W va_W _ (rcV X nw an sv dv n0 n1 n2 n3 n4 g0 gs gn gm) (@HAppend.hAppend va_W va_W va_W _ (rnV (xa 8) ag dg) ([((xa 13), .inl (X.2.1, 6, .inl fk))])))) sz) s (@HAppend.hAppend va_W va_W va_W _ ([((xa 13), .inl (X.2.1, 6, .inl f_8))]) (@HAppend.hAppend va_W va_W va_W _ (xW h0 nw sp xa la lb) (@HAppend.hAppend va_W va_W va_W _ (rcV X nw an sv dv n0 n1 n2 n3 n4 g0 gs gn gm) (rnV (xa 8) a_2a d_2b)))) H locs := ⟨_, G⟩
            refine lv_iinc (v := 1) (lv' := [(1, .int 1), (4, .int x_4), (3, .int r_2), (2, .ref (an 1)), (0, .ref h0)]) zx zb dX10_rankAll_70 hl (k := 3) rfl (by decide) (by decide) rfl (fun ls hl => ?_)
            refine lv_goto (tgt := 2) zx zb dX10_rankAll_73 (by decide) ?_
            have G : wd X (va_A (@HAppend.hAppend va_W va_W va_W _ (xW h0 nw sp xa la lb) (@HAppend.hAppend va_W va_W va_W _ (rcV X nw an sv dv n0 n1 n2 n3 n4 g0 gs gn gm) (@HAppend.hAppend va_W va_W va_W _ (rnV (xa 8) ag dg) ([((xa 13), .inl (X.2.1, 6, .inl fk))])))) sz) (va_A (@HAppend.hAppend va_W va_W va_W _ (xW h0 nw sp xa la lb) (@HAppend.hAppend va_W va_W va_W _ (rcV X nw an sv dv n0 n1 n2 n3 n4 g0 gs gn gm) (@HAppend.hAppend va_W va_W va_W _ (rnV (xa 8) ag dg) ([((xa 13), .inl (X.2.1, 6, .inl fk))])))) sz) s (@HAppend.hAppend va_W va_W va_W _ (xW h0 nw sp xa la lb) (@HAppend.hAppend va_W va_W va_W _ (rcV X nw an sv dv n0 n1 n2 n3 n4 g0 gs gn gm) (@HAppend.hAppend va_W va_W va_W _ (rnV (xa 8) a_2a d_2b) ([((xa 13), .inl (X.2.1, 6, .inl f_8))])))) H locs := wd_sub G [1, 2, 3, 4, 5, 6, 7, 8, 9, 10, 11, 12, 13, 14, 15, 16, 17, 18, 0] rfl rfl
            have hl := lv_sub hl (l' := [(1, .int 1), (0, .ref h0)]) [0, 4] rfl
            exact ih2 1 a_2a d_2b f_8 _ _ _ (by omega) (by omega) G hl
      · refine k_it (v := 1) rfl ?_
        refine r_aald (C := RX8) (b := (an 2)) S G 2 3 rfl rfl (k_vp (by decide)) rfl dX10_rankAll_21 ?_
        refine lv_astore_n (lv' := [(2, .ref (an 2)), (1, .int 1), (0, .ref h0)]) zx zb dX10_rankAll_22 rfl hl (by decide) rfl (fun ls hl => ?_)
        refine lv_aload_n zx zb dX10_rankAll_23 rfl (lv_at hl 2 rfl) ?_
        refine lv_iload_n zx zb dX10_rankAll_24 rfl (lv_at hl 1 rfl) ?_
        refine lv_bipush (v := 60) zx zb dX10_rankAll_25 (by decide) ?_
        refine b_wi (cells' := 0) (slots' := 0) (wr := [((xa 13), .inl (X.2.1, 6, .inl f2_3))]) G rfl rfl [0, 1, 2, 3, 4, 5, 6, 7, 8, 9, 10, 11, 12, 13, 14, 15, 16, 17] [18] rfl rfl rfl rfl (n_V (As := [.int 1, .int 60]) (rest := []) (C := RX10) (T := TX10) (N := 14) (ci := 8) S G (s_homeBehind l X h0 nw sp xa la lb an sv dv n0 n1 n2 n3 n4 g0 gs gn gm a2_2 d2_2 1 60 hI_n0 hI_n1 hI_n2 hI_n3 hI_n4 (by omega) (by first | decide | assumption | exact k_60a (by assumption)) H.size) gX10_rankAll_X10_homeBehind rfl rfl rfl hdV_X10_homeBehind ⟨Nat.le_of_ble_eq_true rfl, Nat.le_of_ble_eq_true rfl⟩ [0, 1, 2, 3, 4, 5, 6, 7, 8, 9, 10, 11, 12, 13, 14, 15, 16, 17] rfl rfl 0 rfl rfl rfl hl.1 (Nat.le_of_ble_eq_true rfl) dX10_rankAll_27 ⟨Nat.le_of_ble_eq_true rfl, Nat.le_of_ble_eq_true rfl⟩) (fun r_9 u_9 H locs hp_9 G => ?_)
        obtain ⟨a_9a, d_9b⟩ := u_9
        have hq_9 := hp_9
        have G : wd X (va_A (@HAppend.hAppend va_W va_W va_W _ (xW h0 nw sp xa la lb) (@HAppend.hAppend va_W va_W va_W _ (rcV X nw an sv dv n0 n1 n2 n3 n4 g0 gs gn gm) (@HAppend.hAppend va_W va_W va_W _ (rnV (xa 8) ag dg) ([((xa 13), .inl (X.2.1, 6, .inl fk))])))) sz) (va_A (@HAppend.hAppend va_W va_W va_W _ (xW h0 nw sp xa la lb) (@HAppend.hAppend va_W va_W va_W _ (rcV X nw an sv dv n0 n1 n2 n3 n4 g0 gs gn gm) (@HAppend.hAppend va_W va_W va_W _ (rnV (xa 8) ag dg) ([((xa 13), .inl (X.2.1, 6, .inl fk))])))) sz) s (@HAppend.hAppend va_W va_W va_W _ ([((xa 13), .inl (X.2.1, 6, .inl f2_3))]) (@HAppend.hAppend va_W va_W va_W _ (xW h0 nw sp xa la lb) (@HAppend.hAppend va_W va_W va_W _ (rcV X nw an sv dv n0 n1 n2 n3 n4 g0 gs gn gm) (rnV (xa 8) a_9a d_9b)))) H locs := G
        refine lv_istore_n (lv' := [(3, .int r_9), (2, .ref (an 2)), (1, .int 1), (0, .ref h0)]) zx zb dX10_rankAll_30 rfl hl (by decide) rfl (fun ls hl => ?_)
        refine lv_iload_n zx zb dX10_rankAll_31 rfl (lv_at hl 0 rfl) ?_
        refine lv_iconst (v := (-1)) zx zb dX10_rankAll_32 (by decide) ?_
        refine k_cutW (PP := fun Wx => ∀ (x_11 : Int32) (H : Heap) (locs : List Loc) (ls : Array Slot), wd X (va_A (@HAppend.hAppend va_W va_W va_W _ (xW h0 nw sp xa la lb) (@HAppend.hAppend va_W va_W va_W _ (rcV X nw an sv dv n0 n1 n2 n3 n4 g0 gs gn gm) (@HAppend.hAppend va_W va_W va_W _ (rnV (xa 8) ag dg) ([((xa 13), .inl (X.2.1, 6, .inl fk))])))) sz) (va_A (@HAppend.hAppend va_W va_W va_W _ (xW h0 nw sp xa la lb) (@HAppend.hAppend va_W va_W va_W _ (rcV X nw an sv dv n0 n1 n2 n3 n4 g0 gs gn gm) (@HAppend.hAppend va_W va_W va_W _ (rnV (xa 8) ag dg) ([((xa 13), .inl (X.2.1, 6, .inl fk))])))) sz) s (@HAppend.hAppend va_W va_W va_W _ ([((xa 13), .inl (X.2.1, 6, .inl f2_3))]) (@HAppend.hAppend va_W va_W va_W _ (xW h0 nw sp xa la lb) (@HAppend.hAppend va_W va_W va_W _ (rcV X nw an sv dv n0 n1 n2 n3 n4 g0 gs gn gm) (rnV (xa 8) a_9a d_9b)))) H locs → lv_has ls 5 [(3, .int r_9), (2, .ref (an 2)), (1, .int 1), (0, .ref h0)] → Wx (F0 m 42 ls [.int x_11]) H locs) ?_ ?_
        · intro join_33
          refine lv_icmp_ne (tgt := 41) zx zb dX10_rankAll_33 (by decide) (fun c_10 => ?_) (fun c_10 => ?_)
          · refine lv_iload_n zx zb dX10_rankAll_41 rfl (lv_at hl 0 rfl) ?_
            exact join_33 r_9 _ _ _  G hl
          · refine lv_bipush (v := 61) zx zb dX10_rankAll_36 (by decide) ?_
            refine lv_goto (tgt := 42) zx zb dX10_rankAll_38 (by decide) ?_
            exact join_33 61 _ _ _  G hl
        · intro x_11 H locs ls  G hl
          refine lv_istore (lv' := [(4, .int x_11), (3, .int r_9), (2, .ref (an 2)), (1, .int 1), (0, .ref h0)]) zx zb dX10_rankAll_42 hl (by decide) rfl (fun ls hl => ?_)
          refine lv_aload_n zx zb dX10_rankAll_44 rfl (lv_at hl 4 rfl) ?_
          refine r_get (C := RX10) (T := TX10) (N := 14) (ci := 8) (v := .ref (xa 13)) S in_X10_rankAll_X10 G 1 rfl rfl 13 (by decide) lk_X10_rankAll_76 rfl dX10_rankAll_45 ?_
          refine lv_iload_n zx zb dX10_rankAll_48 rfl (lv_at hl 3 rfl) ?_
          refine lv_aload_n zx zb dX10_rankAll_49 rfl (lv_at hl 2 rfl) ?_
          refine o_ri (cells' := 0) (slots' := 0) G rfl rfl (n_V (As := []) (rest := [.int 1, .ref (xa 13)]) (C := RX8) (T := TX8) (N := 8) (ci := 6) S G (s_isHome l X (an 2) (fun k => sv (3 + k)) (fun k => dv (15 + k)) H.size) gX10_rankAll_X8_isHome rfl rfl rfl hdV_X8_isHome ⟨Nat.le_of_ble_eq_true rfl, Nat.le_of_ble_eq_true rfl⟩ [5] rfl rfl 5 rfl rfl rfl hl.1 (Nat.le_of_ble_eq_true rfl) dX10_rankAll_50 ⟨Nat.le_of_ble_eq_true rfl, Nat.le_of_ble_eq_true rfl⟩) (fun r_12 u_12 H locs hp_12 G => ?_)
          have G : wd X (va_A (@HAppend.hAppend va_W va_W va_W _ (xW h0 nw sp xa la lb) (@HAppend.hAppend va_W va_W va_W _ (rcV X nw an sv dv n0 n1 n2 n3 n4 g0 gs gn gm) (@HAppend.hAppend va_W va_W va_W _ (rnV (xa 8) ag dg) ([((xa 13), .inl (X.2.1, 6, .inl fk))])))) sz) (va_A (@HAppend.hAppend va_W va_W va_W _ (xW h0 nw sp xa la lb) (@HAppend.hAppend va_W va_W va_W _ (rcV X nw an sv dv n0 n1 n2 n3 n4 g0 gs gn gm) (@HAppend.hAppend va_W va_W va_W _ (rnV (xa 8) ag dg) ([((xa 13), .inl (X.2.1, 6, .inl fk))])))) sz) s (@HAppend.hAppend va_W va_W va_W _ ([((xa 13), .inl (X.2.1, 6, .inl f2_3))]) (@HAppend.hAppend va_W va_W va_W _ (xW h0 nw sp xa la lb) (@HAppend.hAppend va_W va_W va_W _ (rcV X nw an sv dv n0 n1 n2 n3 n4 g0 gs gn gm) (rnV (xa 8) a_9a d_9b)))) H locs := G
          refine k_cutW (PP := fun Wx => ∀ (x_14 : Int32) (H : Heap) (locs : List Loc) (ls : Array Slot), wd X (va_A (@HAppend.hAppend va_W va_W va_W _ (xW h0 nw sp xa la lb) (@HAppend.hAppend va_W va_W va_W _ (rcV X nw an sv dv n0 n1 n2 n3 n4 g0 gs gn gm) (@HAppend.hAppend va_W va_W va_W _ (rnV (xa 8) ag dg) ([((xa 13), .inl (X.2.1, 6, .inl fk))])))) sz) (va_A (@HAppend.hAppend va_W va_W va_W _ (xW h0 nw sp xa la lb) (@HAppend.hAppend va_W va_W va_W _ (rcV X nw an sv dv n0 n1 n2 n3 n4 g0 gs gn gm) (@HAppend.hAppend va_W va_W va_W _ (rnV (xa 8) ag dg) ([((xa 13), .inl (X.2.1, 6, .inl fk))])))) sz) s (@HAppend.hAppend va_W va_W va_W _ ([((xa 13), .inl (X.2.1, 6, .inl f2_3))]) (@HAppend.hAppend va_W va_W va_W _ (xW h0 nw sp xa la lb) (@HAppend.hAppend va_W va_W va_W _ (rcV X nw an sv dv n0 n1 n2 n3 n4 g0 gs gn gm) (rnV (xa 8) a_9a d_9b)))) H locs → lv_has ls 5 [(4, .int x_11), (3, .int r_9), (2, .ref (an 2)), (1, .int 1), (0, .ref h0)] → Wx (F0 m 69 ls [.int x_14, .int 1, .ref (xa 13)]) H locs) ?_ ?_
          · intro join_53
            refine lv_if_eq (tgt := 63) zx zb dX10_rankAll_53 (by decide) (fun c_13 => ?_) (fun c_13 => ?_)
            · refine lv_sipush (v := 9999) zx zb dX10_rankAll_63 (by decide) ?_
              refine lv_iload zx zb dX10_rankAll_66 (lv_at hl 0 rfl) ?_
              refine r_iadd (v := (9999 + x_11)) S rfl dX10_rankAll_68 ?_
              exact join_53 (9999 + x_11) _ _ _  G hl
            · refine lv_aload_n zx zb dX10_rankAll_56 rfl (lv_at hl 2 rfl) ?_
              refine r_get (C := RX8) (T := TX8) (N := 8) (ci := 6) (v := .int (dv 19)) S in_X10_rankAll_X8 G 5 rfl rfl 7 (by decide) lk_X10_rankAll_303 rfl dX10_rankAll_57 ?_
              refine lv_goto (tgt := 69) zx zb dX10_rankAll_60 (by decide) ?_
              exact join_53 (dv 19) _ _ _  G hl
          · intro x_14 H locs ls  G hl
            refine r_iast S G 0 rfl (k_vp (by decide)) dX10_rankAll_69 (fun H locs G => ?_)
            obtain ⟨f_15, G⟩ : ∃ f_15 : Nat → Int32, wd X (va_A (@HAppend.hAppend va_W va_W va_W _ (xW h0 nw sp xa la lb) (@HAppend.hAppend va_W va_W va_W _ (rcV X nw an sv dv n0 n1 n2 n3 n4 g0 gs gn gm) (@HAppend.hAppend va_W va_W va_W _ (rnV (xa 8) ag dg) ([((xa 13), .inl (X.2.1, 6, .inl fk))])))) sz) (va_A (@HAppend.hAppend va_W va_W va_W _ (xW h0 nw sp xa la lb) (@HAppend.hAppend va_W va_W va_W _ (rcV X nw an sv dv n0 n1 n2 n3 n4 g0 gs gn gm) (@HAppend.hAppend va_W va_W va_W _ (rnV (xa 8) ag dg) ([((xa 13), .inl (X.2.1, 6, .inl fk))])))) sz) s (@HAppend.hAppend va_W va_W va_W _ ([((xa 13), .inl (X.2.1, 6, .inl f_15))]) (@HAppend.hAppend va_W va_W va_W _ (xW h0 nw sp xa la lb) (@HAppend.hAppend va_W va_W va_W _ (rcV X nw an sv dv n0 n1 n2 n3 n4 g0 gs gn gm) (rnV (xa 8) a_9a d_9b)))) H locs := ⟨_, G⟩
            refine lv_iinc (v := 2) (lv' := [(1, .int 2), (4, .int x_11), (3, .int r_9), (2, .ref (an 2)), (0, .ref h0)]) zx zb dX10_rankAll_70 hl (k := 3) rfl (by decide) (by decide) rfl (fun ls hl => ?_)
            refine lv_goto (tgt := 2) zx zb dX10_rankAll_73 (by decide) ?_
            have G : wd X (va_A (@HAppend.hAppend va_W va_W va_W _ (xW h0 nw sp xa la lb) (@HAppend.hAppend va_W va_W va_W _ (rcV X nw an sv dv n0 n1 n2 n3 n4 g0 gs gn gm) (@HAppend.hAppend va_W va_W va_W _ (rnV (xa 8) ag dg) ([((xa 13), .inl (X.2.1, 6, .inl fk))])))) sz) (va_A (@HAppend.hAppend va_W va_W va_W _ (xW h0 nw sp xa la lb) (@HAppend.hAppend va_W va_W va_W _ (rcV X nw an sv dv n0 n1 n2 n3 n4 g0 gs gn gm) (@HAppend.hAppend va_W va_W va_W _ (rnV (xa 8) ag dg) ([((xa 13), .inl (X.2.1, 6, .inl fk))])))) sz) s (@HAppend.hAppend va_W va_W va_W _ (xW h0 nw sp xa la lb) (@HAppend.hAppend va_W va_W va_W _ (rcV X nw an sv dv n0 n1 n2 n3 n4 g0 gs gn gm) (@HAppend.hAppend va_W va_W va_W _ (rnV (xa 8) a_9a d_9b) ([((xa 13), .inl (X.2.1, 6, .inl f_15))])))) H locs := wd_sub G [1, 2, 3, 4, 5, 6, 7, 8, 9, 10, 11, 12, 13, 14, 15, 16, 17, 18, 0] rfl rfl
            have hl := lv_sub hl (l' := [(1, .int 2), (0, .ref h0)]) [0, 4] rfl
            exact ih2 2 a_9a d_9b f_15 _ _ _ (by omega) (by omega) G hl
      · refine k_it (v := 2) rfl ?_
        refine r_aald (C := RX8) (b := (an 3)) S G 2 3 rfl rfl (k_vp (by decide)) rfl dX10_rankAll_21 ?_
        refine lv_astore_n (lv' := [(2, .ref (an 3)), (1, .int 2), (0, .ref h0)]) zx zb dX10_rankAll_22 rfl hl (by decide) rfl (fun ls hl => ?_)
        refine lv_aload_n zx zb dX10_rankAll_23 rfl (lv_at hl 2 rfl) ?_
        refine lv_iload_n zx zb dX10_rankAll_24 rfl (lv_at hl 1 rfl) ?_
        refine lv_bipush (v := 60) zx zb dX10_rankAll_25 (by decide) ?_
        refine b_wi (cells' := 0) (slots' := 0) (wr := [((xa 13), .inl (X.2.1, 6, .inl f2_3))]) G rfl rfl [0, 1, 2, 3, 4, 5, 6, 7, 8, 9, 10, 11, 12, 13, 14, 15, 16, 17] [18] rfl rfl rfl rfl (n_V (As := [.int 2, .int 60]) (rest := []) (C := RX10) (T := TX10) (N := 14) (ci := 8) S G (s_homeBehind l X h0 nw sp xa la lb an sv dv n0 n1 n2 n3 n4 g0 gs gn gm a2_2 d2_2 2 60 hI_n0 hI_n1 hI_n2 hI_n3 hI_n4 (by omega) (by first | decide | assumption | exact k_60a (by assumption)) H.size) gX10_rankAll_X10_homeBehind rfl rfl rfl hdV_X10_homeBehind ⟨Nat.le_of_ble_eq_true rfl, Nat.le_of_ble_eq_true rfl⟩ [0, 1, 2, 3, 4, 5, 6, 7, 8, 9, 10, 11, 12, 13, 14, 15, 16, 17] rfl rfl 0 rfl rfl rfl hl.1 (Nat.le_of_ble_eq_true rfl) dX10_rankAll_27 ⟨Nat.le_of_ble_eq_true rfl, Nat.le_of_ble_eq_true rfl⟩) (fun r_16 u_16 H locs hp_16 G => ?_)
        obtain ⟨a_16a, d_16b⟩ := u_16
        have hq_16 := hp_16
        have G : wd X (va_A (@HAppend.hAppend va_W va_W va_W _ (xW h0 nw sp xa la lb) (@HAppend.hAppend va_W va_W va_W _ (rcV X nw an sv dv n0 n1 n2 n3 n4 g0 gs gn gm) (@HAppend.hAppend va_W va_W va_W _ (rnV (xa 8) ag dg) ([((xa 13), .inl (X.2.1, 6, .inl fk))])))) sz) (va_A (@HAppend.hAppend va_W va_W va_W _ (xW h0 nw sp xa la lb) (@HAppend.hAppend va_W va_W va_W _ (rcV X nw an sv dv n0 n1 n2 n3 n4 g0 gs gn gm) (@HAppend.hAppend va_W va_W va_W _ (rnV (xa 8) ag dg) ([((xa 13), .inl (X.2.1, 6, .inl fk))])))) sz) s (@HAppend.hAppend va_W va_W va_W _ ([((xa 13), .inl (X.2.1, 6, .inl f2_3))]) (@HAppend.hAppend va_W va_W va_W _ (xW h0 nw sp xa la lb) (@HAppend.hAppend va_W va_W va_W _ (rcV X nw an sv dv n0 n1 n2 n3 n4 g0 gs gn gm) (rnV (xa 8) a_16a d_16b)))) H locs := G
        refine lv_istore_n (lv' := [(3, .int r_16), (2, .ref (an 3)), (1, .int 2), (0, .ref h0)]) zx zb dX10_rankAll_30 rfl hl (by decide) rfl (fun ls hl => ?_)
        refine lv_iload_n zx zb dX10_rankAll_31 rfl (lv_at hl 0 rfl) ?_
        refine lv_iconst (v := (-1)) zx zb dX10_rankAll_32 (by decide) ?_
        refine k_cutW (PP := fun Wx => ∀ (x_18 : Int32) (H : Heap) (locs : List Loc) (ls : Array Slot), wd X (va_A (@HAppend.hAppend va_W va_W va_W _ (xW h0 nw sp xa la lb) (@HAppend.hAppend va_W va_W va_W _ (rcV X nw an sv dv n0 n1 n2 n3 n4 g0 gs gn gm) (@HAppend.hAppend va_W va_W va_W _ (rnV (xa 8) ag dg) ([((xa 13), .inl (X.2.1, 6, .inl fk))])))) sz) (va_A (@HAppend.hAppend va_W va_W va_W _ (xW h0 nw sp xa la lb) (@HAppend.hAppend va_W va_W va_W _ (rcV X nw an sv dv n0 n1 n2 n3 n4 g0 gs gn gm) (@HAppend.hAppend va_W va_W va_W _ (rnV (xa 8) ag dg) ([((xa 13), .inl (X.2.1, 6, .inl fk))])))) sz) s (@HAppend.hAppend va_W va_W va_W _ ([((xa 13), .inl (X.2.1, 6, .inl f2_3))]) (@HAppend.hAppend va_W va_W va_W _ (xW h0 nw sp xa la lb) (@HAppend.hAppend va_W va_W va_W _ (rcV X nw an sv dv n0 n1 n2 n3 n4 g0 gs gn gm) (rnV (xa 8) a_16a d_16b)))) H locs → lv_has ls 5 [(3, .int r_16), (2, .ref (an 3)), (1, .int 2), (0, .ref h0)] → Wx (F0 m 42 ls [.int x_18]) H locs) ?_ ?_
        · intro join_33
          refine lv_icmp_ne (tgt := 41) zx zb dX10_rankAll_33 (by decide) (fun c_17 => ?_) (fun c_17 => ?_)
          · refine lv_iload_n zx zb dX10_rankAll_41 rfl (lv_at hl 0 rfl) ?_
            exact join_33 r_16 _ _ _  G hl
          · refine lv_bipush (v := 61) zx zb dX10_rankAll_36 (by decide) ?_
            refine lv_goto (tgt := 42) zx zb dX10_rankAll_38 (by decide) ?_
            exact join_33 61 _ _ _  G hl
        · intro x_18 H locs ls  G hl
          refine lv_istore (lv' := [(4, .int x_18), (3, .int r_16), (2, .ref (an 3)), (1, .int 2), (0, .ref h0)]) zx zb dX10_rankAll_42 hl (by decide) rfl (fun ls hl => ?_)
          refine lv_aload_n zx zb dX10_rankAll_44 rfl (lv_at hl 4 rfl) ?_
          refine r_get (C := RX10) (T := TX10) (N := 14) (ci := 8) (v := .ref (xa 13)) S in_X10_rankAll_X10 G 1 rfl rfl 13 (by decide) lk_X10_rankAll_76 rfl dX10_rankAll_45 ?_
          refine lv_iload_n zx zb dX10_rankAll_48 rfl (lv_at hl 3 rfl) ?_
          refine lv_aload_n zx zb dX10_rankAll_49 rfl (lv_at hl 2 rfl) ?_
          refine o_ri (cells' := 0) (slots' := 0) G rfl rfl (n_V (As := []) (rest := [.int 2, .ref (xa 13)]) (C := RX8) (T := TX8) (N := 8) (ci := 6) S G (s_isHome l X (an 3) (fun k => sv (6 + k)) (fun k => dv (20 + k)) H.size) gX10_rankAll_X8_isHome rfl rfl rfl hdV_X8_isHome ⟨Nat.le_of_ble_eq_true rfl, Nat.le_of_ble_eq_true rfl⟩ [6] rfl rfl 6 rfl rfl rfl hl.1 (Nat.le_of_ble_eq_true rfl) dX10_rankAll_50 ⟨Nat.le_of_ble_eq_true rfl, Nat.le_of_ble_eq_true rfl⟩) (fun r_19 u_19 H locs hp_19 G => ?_)
          have G : wd X (va_A (@HAppend.hAppend va_W va_W va_W _ (xW h0 nw sp xa la lb) (@HAppend.hAppend va_W va_W va_W _ (rcV X nw an sv dv n0 n1 n2 n3 n4 g0 gs gn gm) (@HAppend.hAppend va_W va_W va_W _ (rnV (xa 8) ag dg) ([((xa 13), .inl (X.2.1, 6, .inl fk))])))) sz) (va_A (@HAppend.hAppend va_W va_W va_W _ (xW h0 nw sp xa la lb) (@HAppend.hAppend va_W va_W va_W _ (rcV X nw an sv dv n0 n1 n2 n3 n4 g0 gs gn gm) (@HAppend.hAppend va_W va_W va_W _ (rnV (xa 8) ag dg) ([((xa 13), .inl (X.2.1, 6, .inl fk))])))) sz) s (@HAppend.hAppend va_W va_W va_W _ ([((xa 13), .inl (X.2.1, 6, .inl f2_3))]) (@HAppend.hAppend va_W va_W va_W _ (xW h0 nw sp xa la lb) (@HAppend.hAppend va_W va_W va_W _ (rcV X nw an sv dv n0 n1 n2 n3 n4 g0 gs gn gm) (rnV (xa 8) a_16a d_16b)))) H locs := G
          refine k_cutW (PP := fun Wx => ∀ (x_21 : Int32) (H : Heap) (locs : List Loc) (ls : Array Slot), wd X (va_A (@HAppend.hAppend va_W va_W va_W _ (xW h0 nw sp xa la lb) (@HAppend.hAppend va_W va_W va_W _ (rcV X nw an sv dv n0 n1 n2 n3 n4 g0 gs gn gm) (@HAppend.hAppend va_W va_W va_W _ (rnV (xa 8) ag dg) ([((xa 13), .inl (X.2.1, 6, .inl fk))])))) sz) (va_A (@HAppend.hAppend va_W va_W va_W _ (xW h0 nw sp xa la lb) (@HAppend.hAppend va_W va_W va_W _ (rcV X nw an sv dv n0 n1 n2 n3 n4 g0 gs gn gm) (@HAppend.hAppend va_W va_W va_W _ (rnV (xa 8) ag dg) ([((xa 13), .inl (X.2.1, 6, .inl fk))])))) sz) s (@HAppend.hAppend va_W va_W va_W _ ([((xa 13), .inl (X.2.1, 6, .inl f2_3))]) (@HAppend.hAppend va_W va_W va_W _ (xW h0 nw sp xa la lb) (@HAppend.hAppend va_W va_W va_W _ (rcV X nw an sv dv n0 n1 n2 n3 n4 g0 gs gn gm) (rnV (xa 8) a_16a d_16b)))) H locs → lv_has ls 5 [(4, .int x_18), (3, .int r_16), (2, .ref (an 3)), (1, .int 2), (0, .ref h0)] → Wx (F0 m 69 ls [.int x_21, .int 2, .ref (xa 13)]) H locs) ?_ ?_
          · intro join_53
            refine lv_if_eq (tgt := 63) zx zb dX10_rankAll_53 (by decide) (fun c_20 => ?_) (fun c_20 => ?_)
            · refine lv_sipush (v := 9999) zx zb dX10_rankAll_63 (by decide) ?_
              refine lv_iload zx zb dX10_rankAll_66 (lv_at hl 0 rfl) ?_
              refine r_iadd (v := (9999 + x_18)) S rfl dX10_rankAll_68 ?_
              exact join_53 (9999 + x_18) _ _ _  G hl
            · refine lv_aload_n zx zb dX10_rankAll_56 rfl (lv_at hl 2 rfl) ?_
              refine r_get (C := RX8) (T := TX8) (N := 8) (ci := 6) (v := .int (dv 24)) S in_X10_rankAll_X8 G 6 rfl rfl 7 (by decide) lk_X10_rankAll_303 rfl dX10_rankAll_57 ?_
              refine lv_goto (tgt := 69) zx zb dX10_rankAll_60 (by decide) ?_
              exact join_53 (dv 24) _ _ _  G hl
          · intro x_21 H locs ls  G hl
            refine r_iast S G 0 rfl (k_vp (by decide)) dX10_rankAll_69 (fun H locs G => ?_)
            obtain ⟨f_22, G⟩ : ∃ f_22 : Nat → Int32, wd X (va_A (@HAppend.hAppend va_W va_W va_W _ (xW h0 nw sp xa la lb) (@HAppend.hAppend va_W va_W va_W _ (rcV X nw an sv dv n0 n1 n2 n3 n4 g0 gs gn gm) (@HAppend.hAppend va_W va_W va_W _ (rnV (xa 8) ag dg) ([((xa 13), .inl (X.2.1, 6, .inl fk))])))) sz) (va_A (@HAppend.hAppend va_W va_W va_W _ (xW h0 nw sp xa la lb) (@HAppend.hAppend va_W va_W va_W _ (rcV X nw an sv dv n0 n1 n2 n3 n4 g0 gs gn gm) (@HAppend.hAppend va_W va_W va_W _ (rnV (xa 8) ag dg) ([((xa 13), .inl (X.2.1, 6, .inl fk))])))) sz) s (@HAppend.hAppend va_W va_W va_W _ ([((xa 13), .inl (X.2.1, 6, .inl f_22))]) (@HAppend.hAppend va_W va_W va_W _ (xW h0 nw sp xa la lb) (@HAppend.hAppend va_W va_W va_W _ (rcV X nw an sv dv n0 n1 n2 n3 n4 g0 gs gn gm) (rnV (xa 8) a_16a d_16b)))) H locs := ⟨_, G⟩
            refine lv_iinc (v := 3) (lv' := [(1, .int 3), (4, .int x_18), (3, .int r_16), (2, .ref (an 3)), (0, .ref h0)]) zx zb dX10_rankAll_70 hl (k := 3) rfl (by decide) (by decide) rfl (fun ls hl => ?_)
            refine lv_goto (tgt := 2) zx zb dX10_rankAll_73 (by decide) ?_
            have G : wd X (va_A (@HAppend.hAppend va_W va_W va_W _ (xW h0 nw sp xa la lb) (@HAppend.hAppend va_W va_W va_W _ (rcV X nw an sv dv n0 n1 n2 n3 n4 g0 gs gn gm) (@HAppend.hAppend va_W va_W va_W _ (rnV (xa 8) ag dg) ([((xa 13), .inl (X.2.1, 6, .inl fk))])))) sz) (va_A (@HAppend.hAppend va_W va_W va_W _ (xW h0 nw sp xa la lb) (@HAppend.hAppend va_W va_W va_W _ (rcV X nw an sv dv n0 n1 n2 n3 n4 g0 gs gn gm) (@HAppend.hAppend va_W va_W va_W _ (rnV (xa 8) ag dg) ([((xa 13), .inl (X.2.1, 6, .inl fk))])))) sz) s (@HAppend.hAppend va_W va_W va_W _ (xW h0 nw sp xa la lb) (@HAppend.hAppend va_W va_W va_W _ (rcV X nw an sv dv n0 n1 n2 n3 n4 g0 gs gn gm) (@HAppend.hAppend va_W va_W va_W _ (rnV (xa 8) a_16a d_16b) ([((xa 13), .inl (X.2.1, 6, .inl f_22))])))) H locs := wd_sub G [1, 2, 3, 4, 5, 6, 7, 8, 9, 10, 11, 12, 13, 14, 15, 16, 17, 18, 0] rfl rfl
            have hl := lv_sub hl (l' := [(1, .int 3), (0, .ref h0)]) [0, 4] rfl
            exact ih2 3 a_16a d_16b f_22 _ _ _ (by omega) (by omega) G hl
      · refine k_it (v := 3) rfl ?_
        refine r_aald (C := RX8) (b := (an 4)) S G 2 3 rfl rfl (k_vp (by decide)) rfl dX10_rankAll_21 ?_
        refine lv_astore_n (lv' := [(2, .ref (an 4)), (1, .int 3), (0, .ref h0)]) zx zb dX10_rankAll_22 rfl hl (by decide) rfl (fun ls hl => ?_)
        refine lv_aload_n zx zb dX10_rankAll_23 rfl (lv_at hl 2 rfl) ?_
        refine lv_iload_n zx zb dX10_rankAll_24 rfl (lv_at hl 1 rfl) ?_
        refine lv_bipush (v := 60) zx zb dX10_rankAll_25 (by decide) ?_
        refine b_wi (cells' := 0) (slots' := 0) (wr := [((xa 13), .inl (X.2.1, 6, .inl f2_3))]) G rfl rfl [0, 1, 2, 3, 4, 5, 6, 7, 8, 9, 10, 11, 12, 13, 14, 15, 16, 17] [18] rfl rfl rfl rfl (n_V (As := [.int 3, .int 60]) (rest := []) (C := RX10) (T := TX10) (N := 14) (ci := 8) S G (s_homeBehind l X h0 nw sp xa la lb an sv dv n0 n1 n2 n3 n4 g0 gs gn gm a2_2 d2_2 3 60 hI_n0 hI_n1 hI_n2 hI_n3 hI_n4 (by omega) (by first | decide | assumption | exact k_60a (by assumption)) H.size) gX10_rankAll_X10_homeBehind rfl rfl rfl hdV_X10_homeBehind ⟨Nat.le_of_ble_eq_true rfl, Nat.le_of_ble_eq_true rfl⟩ [0, 1, 2, 3, 4, 5, 6, 7, 8, 9, 10, 11, 12, 13, 14, 15, 16, 17] rfl rfl 0 rfl rfl rfl hl.1 (Nat.le_of_ble_eq_true rfl) dX10_rankAll_27 ⟨Nat.le_of_ble_eq_true rfl, Nat.le_of_ble_eq_true rfl⟩) (fun r_23 u_23 H locs hp_23 G => ?_)
        obtain ⟨a_23a, d_23b⟩ := u_23
        have hq_23 := hp_23
        have G : wd X (va_A (@HAppend.hAppend va_W va_W va_W _ (xW h0 nw sp xa la lb) (@HAppend.hAppend va_W va_W va_W _ (rcV X nw an sv dv n0 n1 n2 n3 n4 g0 gs gn gm) (@HAppend.hAppend va_W va_W va_W _ (rnV (xa 8) ag dg) ([((xa 13), .inl (X.2.1, 6, .inl fk))])))) sz) (va_A (@HAppend.hAppend va_W va_W va_W _ (xW h0 nw sp xa la lb) (@HAppend.hAppend va_W va_W va_W _ (rcV X nw an sv dv n0 n1 n2 n3 n4 g0 gs gn gm) (@HAppend.hAppend va_W va_W va_W _ (rnV (xa 8) ag dg) ([((xa 13), .inl (X.2.1, 6, .inl fk))])))) sz) s (@HAppend.hAppend va_W va_W va_W _ ([((xa 13), .inl (X.2.1, 6, .inl f2_3))]) (@HAppend.hAppend va_W va_W va_W _ (xW h0 nw sp xa la lb) (@HAppend.hAppend va_W va_W va_W _ (rcV X nw an sv dv n0 n1 n2 n3 n4 g0 gs gn gm) (rnV (xa 8) a_23a d_23b)))) H locs := G
        refine lv_istore_n (lv' := [(3, .int r_23), (2, .ref (an 4)), (1, .int 3), (0, .ref h0)]) zx zb dX10_rankAll_30 rfl hl (by decide) rfl (fun ls hl => ?_)
        refine lv_iload_n zx zb dX10_rankAll_31 rfl (lv_at hl 0 rfl) ?_
        refine lv_iconst (v := (-1)) zx zb dX10_rankAll_32 (by decide) ?_
        refine k_cutW (PP := fun Wx => ∀ (x_25 : Int32) (H : Heap) (locs : List Loc) (ls : Array Slot), wd X (va_A (@HAppend.hAppend va_W va_W va_W _ (xW h0 nw sp xa la lb) (@HAppend.hAppend va_W va_W va_W _ (rcV X nw an sv dv n0 n1 n2 n3 n4 g0 gs gn gm) (@HAppend.hAppend va_W va_W va_W _ (rnV (xa 8) ag dg) ([((xa 13), .inl (X.2.1, 6, .inl fk))])))) sz) (va_A (@HAppend.hAppend va_W va_W va_W _ (xW h0 nw sp xa la lb) (@HAppend.hAppend va_W va_W va_W _ (rcV X nw an sv dv n0 n1 n2 n3 n4 g0 gs gn gm) (@HAppend.hAppend va_W va_W va_W _ (rnV (xa 8) ag dg) ([((xa 13), .inl (X.2.1, 6, .inl fk))])))) sz) s (@HAppend.hAppend va_W va_W va_W _ ([((xa 13), .inl (X.2.1, 6, .inl f2_3))]) (@HAppend.hAppend va_W va_W va_W _ (xW h0 nw sp xa la lb) (@HAppend.hAppend va_W va_W va_W _ (rcV X nw an sv dv n0 n1 n2 n3 n4 g0 gs gn gm) (rnV (xa 8) a_23a d_23b)))) H locs → lv_has ls 5 [(3, .int r_23), (2, .ref (an 4)), (1, .int 3), (0, .ref h0)] → Wx (F0 m 42 ls [.int x_25]) H locs) ?_ ?_
        · intro join_33
          refine lv_icmp_ne (tgt := 41) zx zb dX10_rankAll_33 (by decide) (fun c_24 => ?_) (fun c_24 => ?_)
          · refine lv_iload_n zx zb dX10_rankAll_41 rfl (lv_at hl 0 rfl) ?_
            exact join_33 r_23 _ _ _  G hl
          · refine lv_bipush (v := 61) zx zb dX10_rankAll_36 (by decide) ?_
            refine lv_goto (tgt := 42) zx zb dX10_rankAll_38 (by decide) ?_
            exact join_33 61 _ _ _  G hl
        · intro x_25 H locs ls  G hl
          refine lv_istore (lv' := [(4, .int x_25), (3, .int r_23), (2, .ref (an 4)), (1, .int 3), (0, .ref h0)]) zx zb dX10_rankAll_42 hl (by decide) rfl (fun ls hl => ?_)
          refine lv_aload_n zx zb dX10_rankAll_44 rfl (lv_at hl 4 rfl) ?_
          refine r_get (C := RX10) (T := TX10) (N := 14) (ci := 8) (v := .ref (xa 13)) S in_X10_rankAll_X10 G 1 rfl rfl 13 (by decide) lk_X10_rankAll_76 rfl dX10_rankAll_45 ?_
          refine lv_iload_n zx zb dX10_rankAll_48 rfl (lv_at hl 3 rfl) ?_
          refine lv_aload_n zx zb dX10_rankAll_49 rfl (lv_at hl 2 rfl) ?_
          refine o_ri (cells' := 0) (slots' := 0) G rfl rfl (n_V (As := []) (rest := [.int 3, .ref (xa 13)]) (C := RX8) (T := TX8) (N := 8) (ci := 6) S G (s_isHome l X (an 4) (fun k => sv (9 + k)) (fun k => dv (25 + k)) H.size) gX10_rankAll_X8_isHome rfl rfl rfl hdV_X8_isHome ⟨Nat.le_of_ble_eq_true rfl, Nat.le_of_ble_eq_true rfl⟩ [7] rfl rfl 7 rfl rfl rfl hl.1 (Nat.le_of_ble_eq_true rfl) dX10_rankAll_50 ⟨Nat.le_of_ble_eq_true rfl, Nat.le_of_ble_eq_true rfl⟩) (fun r_26 u_26 H locs hp_26 G => ?_)
          have G : wd X (va_A (@HAppend.hAppend va_W va_W va_W _ (xW h0 nw sp xa la lb) (@HAppend.hAppend va_W va_W va_W _ (rcV X nw an sv dv n0 n1 n2 n3 n4 g0 gs gn gm) (@HAppend.hAppend va_W va_W va_W _ (rnV (xa 8) ag dg) ([((xa 13), .inl (X.2.1, 6, .inl fk))])))) sz) (va_A (@HAppend.hAppend va_W va_W va_W _ (xW h0 nw sp xa la lb) (@HAppend.hAppend va_W va_W va_W _ (rcV X nw an sv dv n0 n1 n2 n3 n4 g0 gs gn gm) (@HAppend.hAppend va_W va_W va_W _ (rnV (xa 8) ag dg) ([((xa 13), .inl (X.2.1, 6, .inl fk))])))) sz) s (@HAppend.hAppend va_W va_W va_W _ ([((xa 13), .inl (X.2.1, 6, .inl f2_3))]) (@HAppend.hAppend va_W va_W va_W _ (xW h0 nw sp xa la lb) (@HAppend.hAppend va_W va_W va_W _ (rcV X nw an sv dv n0 n1 n2 n3 n4 g0 gs gn gm) (rnV (xa 8) a_23a d_23b)))) H locs := G
          refine k_cutW (PP := fun Wx => ∀ (x_28 : Int32) (H : Heap) (locs : List Loc) (ls : Array Slot), wd X (va_A (@HAppend.hAppend va_W va_W va_W _ (xW h0 nw sp xa la lb) (@HAppend.hAppend va_W va_W va_W _ (rcV X nw an sv dv n0 n1 n2 n3 n4 g0 gs gn gm) (@HAppend.hAppend va_W va_W va_W _ (rnV (xa 8) ag dg) ([((xa 13), .inl (X.2.1, 6, .inl fk))])))) sz) (va_A (@HAppend.hAppend va_W va_W va_W _ (xW h0 nw sp xa la lb) (@HAppend.hAppend va_W va_W va_W _ (rcV X nw an sv dv n0 n1 n2 n3 n4 g0 gs gn gm) (@HAppend.hAppend va_W va_W va_W _ (rnV (xa 8) ag dg) ([((xa 13), .inl (X.2.1, 6, .inl fk))])))) sz) s (@HAppend.hAppend va_W va_W va_W _ ([((xa 13), .inl (X.2.1, 6, .inl f2_3))]) (@HAppend.hAppend va_W va_W va_W _ (xW h0 nw sp xa la lb) (@HAppend.hAppend va_W va_W va_W _ (rcV X nw an sv dv n0 n1 n2 n3 n4 g0 gs gn gm) (rnV (xa 8) a_23a d_23b)))) H locs → lv_has ls 5 [(4, .int x_25), (3, .int r_23), (2, .ref (an 4)), (1, .int 3), (0, .ref h0)] → Wx (F0 m 69 ls [.int x_28, .int 3, .ref (xa 13)]) H locs) ?_ ?_
          · intro join_53
            refine lv_if_eq (tgt := 63) zx zb dX10_rankAll_53 (by decide) (fun c_27 => ?_) (fun c_27 => ?_)
            · refine lv_sipush (v := 9999) zx zb dX10_rankAll_63 (by decide) ?_
              refine lv_iload zx zb dX10_rankAll_66 (lv_at hl 0 rfl) ?_
              refine r_iadd (v := (9999 + x_25)) S rfl dX10_rankAll_68 ?_
              exact join_53 (9999 + x_25) _ _ _  G hl
            · refine lv_aload_n zx zb dX10_rankAll_56 rfl (lv_at hl 2 rfl) ?_
              refine r_get (C := RX8) (T := TX8) (N := 8) (ci := 6) (v := .int (dv 29)) S in_X10_rankAll_X8 G 7 rfl rfl 7 (by decide) lk_X10_rankAll_303 rfl dX10_rankAll_57 ?_
              refine lv_goto (tgt := 69) zx zb dX10_rankAll_60 (by decide) ?_
              exact join_53 (dv 29) _ _ _  G hl
          · intro x_28 H locs ls  G hl
            refine r_iast S G 0 rfl (k_vp (by decide)) dX10_rankAll_69 (fun H locs G => ?_)
            obtain ⟨f_29, G⟩ : ∃ f_29 : Nat → Int32, wd X (va_A (@HAppend.hAppend va_W va_W va_W _ (xW h0 nw sp xa la lb) (@HAppend.hAppend va_W va_W va_W _ (rcV X nw an sv dv n0 n1 n2 n3 n4 g0 gs gn gm) (@HAppend.hAppend va_W va_W va_W _ (rnV (xa 8) ag dg) ([((xa 13), .inl (X.2.1, 6, .inl fk))])))) sz) (va_A (@HAppend.hAppend va_W va_W va_W _ (xW h0 nw sp xa la lb) (@HAppend.hAppend va_W va_W va_W _ (rcV X nw an sv dv n0 n1 n2 n3 n4 g0 gs gn gm) (@HAppend.hAppend va_W va_W va_W _ (rnV (xa 8) ag dg) ([((xa 13), .inl (X.2.1, 6, .inl fk))])))) sz) s (@HAppend.hAppend va_W va_W va_W _ ([((xa 13), .inl (X.2.1, 6, .inl f_29))]) (@HAppend.hAppend va_W va_W va_W _ (xW h0 nw sp xa la lb) (@HAppend.hAppend va_W va_W va_W _ (rcV X nw an sv dv n0 n1 n2 n3 n4 g0 gs gn gm) (rnV (xa 8) a_23a d_23b)))) H locs := ⟨_, G⟩
            refine lv_iinc (v := 4) (lv' := [(1, .int 4), (4, .int x_25), (3, .int r_23), (2, .ref (an 4)), (0, .ref h0)]) zx zb dX10_rankAll_70 hl (k := 3) rfl (by decide) (by decide) rfl (fun ls hl => ?_)
            refine lv_goto (tgt := 2) zx zb dX10_rankAll_73 (by decide) ?_
            have G : wd X (va_A (@HAppend.hAppend va_W va_W va_W _ (xW h0 nw sp xa la lb) (@HAppend.hAppend va_W va_W va_W _ (rcV X nw an sv dv n0 n1 n2 n3 n4 g0 gs gn gm) (@HAppend.hAppend va_W va_W va_W _ (rnV (xa 8) ag dg) ([((xa 13), .inl (X.2.1, 6, .inl fk))])))) sz) (va_A (@HAppend.hAppend va_W va_W va_W _ (xW h0 nw sp xa la lb) (@HAppend.hAppend va_W va_W va_W _ (rcV X nw an sv dv n0 n1 n2 n3 n4 g0 gs gn gm) (@HAppend.hAppend va_W va_W va_W _ (rnV (xa 8) ag dg) ([((xa 13), .inl (X.2.1, 6, .inl fk))])))) sz) s (@HAppend.hAppend va_W va_W va_W _ (xW h0 nw sp xa la lb) (@HAppend.hAppend va_W va_W va_W _ (rcV X nw an sv dv n0 n1 n2 n3 n4 g0 gs gn gm) (@HAppend.hAppend va_W va_W va_W _ (rnV (xa 8) a_23a d_23b) ([((xa 13), .inl (X.2.1, 6, .inl f_29))])))) H locs := wd_sub G [1, 2, 3, 4, 5, 6, 7, 8, 9, 10, 11, 12, 13, 14, 15, 16, 17, 18, 0] rfl rfl
            have hl := lv_sub hl (l' := [(1, .int 4), (0, .ref h0)]) [0, 4] rfl
            exact ih2 4 a_23a d_23b f_29 _ _ _ (by omega) (by omega) G hl
      · refine k_it (v := 4) rfl ?_
        refine r_aald (C := RX8) (b := (an 5)) S G 2 3 rfl rfl (k_vp (by decide)) rfl dX10_rankAll_21 ?_
        refine lv_astore_n (lv' := [(2, .ref (an 5)), (1, .int 4), (0, .ref h0)]) zx zb dX10_rankAll_22 rfl hl (by decide) rfl (fun ls hl => ?_)
        refine lv_aload_n zx zb dX10_rankAll_23 rfl (lv_at hl 2 rfl) ?_
        refine lv_iload_n zx zb dX10_rankAll_24 rfl (lv_at hl 1 rfl) ?_
        refine lv_bipush (v := 60) zx zb dX10_rankAll_25 (by decide) ?_
        refine b_wi (cells' := 0) (slots' := 0) (wr := [((xa 13), .inl (X.2.1, 6, .inl f2_3))]) G rfl rfl [0, 1, 2, 3, 4, 5, 6, 7, 8, 9, 10, 11, 12, 13, 14, 15, 16, 17] [18] rfl rfl rfl rfl (n_V (As := [.int 4, .int 60]) (rest := []) (C := RX10) (T := TX10) (N := 14) (ci := 8) S G (s_homeBehind l X h0 nw sp xa la lb an sv dv n0 n1 n2 n3 n4 g0 gs gn gm a2_2 d2_2 4 60 hI_n0 hI_n1 hI_n2 hI_n3 hI_n4 (by omega) (by first | decide | assumption | exact k_60a (by assumption)) H.size) gX10_rankAll_X10_homeBehind rfl rfl rfl hdV_X10_homeBehind ⟨Nat.le_of_ble_eq_true rfl, Nat.le_of_ble_eq_true rfl⟩ [0, 1, 2, 3, 4, 5, 6, 7, 8, 9, 10, 11, 12, 13, 14, 15, 16, 17] rfl rfl 0 rfl rfl rfl hl.1 (Nat.le_of_ble_eq_true rfl) dX10_rankAll_27 ⟨Nat.le_of_ble_eq_true rfl, Nat.le_of_ble_eq_true rfl⟩) (fun r_30 u_30 H locs hp_30 G => ?_)
        obtain ⟨a_30a, d_30b⟩ := u_30
        have hq_30 := hp_30
        have G : wd X (va_A (@HAppend.hAppend va_W va_W va_W _ (xW h0 nw sp xa la lb) (@HAppend.hAppend va_W va_W va_W _ (rcV X nw an sv dv n0 n1 n2 n3 n4 g0 gs gn gm) (@HAppend.hAppend va_W va_W va_W _ (rnV (xa 8) ag dg) ([((xa 13), .inl (X.2.1, 6, .inl fk))])))) sz) (va_A (@HAppend.hAppend va_W va_W va_W _ (xW h0 nw sp xa la lb) (@HAppend.hAppend va_W va_W va_W _ (rcV X nw an sv dv n0 n1 n2 n3 n4 g0 gs gn gm) (@HAppend.hAppend va_W va_W va_W _ (rnV (xa 8) ag dg) ([((xa 13), .inl (X.2.1, 6, .inl fk))])))) sz) s (@HAppend.hAppend va_W va_W va_W _ ([((xa 13), .inl (X.2.1, 6, .inl f2_3))]) (@HAppend.hAppend va_W va_W va_W _ (xW h0 nw sp xa la lb) (@HAppend.hAppend va_W va_W va_W _ (rcV X nw an sv dv n0 n1 n2 n3 n4 g0 gs gn gm) (rnV (xa 8) a_30a d_30b)))) H locs := G
        refine lv_istore_n (lv' := [(3, .int r_30), (2, .ref (an 5)), (1, .int 4), (0, .ref h0)]) zx zb dX10_rankAll_30 rfl hl (by decide) rfl (fun ls hl => ?_)
        refine lv_iload_n zx zb dX10_rankAll_31 rfl (lv_at hl 0 rfl) ?_
        refine lv_iconst (v := (-1)) zx zb dX10_rankAll_32 (by decide) ?_
        refine k_cutW (PP := fun Wx => ∀ (x_32 : Int32) (H : Heap) (locs : List Loc) (ls : Array Slot), wd X (va_A (@HAppend.hAppend va_W va_W va_W _ (xW h0 nw sp xa la lb) (@HAppend.hAppend va_W va_W va_W _ (rcV X nw an sv dv n0 n1 n2 n3 n4 g0 gs gn gm) (@HAppend.hAppend va_W va_W va_W _ (rnV (xa 8) ag dg) ([((xa 13), .inl (X.2.1, 6, .inl fk))])))) sz) (va_A (@HAppend.hAppend va_W va_W va_W _ (xW h0 nw sp xa la lb) (@HAppend.hAppend va_W va_W va_W _ (rcV X nw an sv dv n0 n1 n2 n3 n4 g0 gs gn gm) (@HAppend.hAppend va_W va_W va_W _ (rnV (xa 8) ag dg) ([((xa 13), .inl (X.2.1, 6, .inl fk))])))) sz) s (@HAppend.hAppend va_W va_W va_W _ ([((xa 13), .inl (X.2.1, 6, .inl f2_3))]) (@HAppend.hAppend va_W va_W va_W _ (xW h0 nw sp xa la lb) (@HAppend.hAppend va_W va_W va_W _ (rcV X nw an sv dv n0 n1 n2 n3 n4 g0 gs gn gm) (rnV (xa 8) a_30a d_30b)))) H locs → lv_has ls 5 [(3, .int r_30), (2, .ref (an 5)), (1, .int 4), (0, .ref h0)] → Wx (F0 m 42 ls [.int x_32]) H locs) ?_ ?_
        · intro join_33
          refine lv_icmp_ne (tgt := 41) zx zb dX10_rankAll_33 (by decide) (fun c_31 => ?_) (fun c_31 => ?_)
          · refine lv_iload_n zx zb dX10_rankAll_41 rfl (lv_at hl 0 rfl) ?_
            exact join_33 r_30 _ _ _  G hl
          · refine lv_bipush (v := 61) zx zb dX10_rankAll_36 (by decide) ?_
            refine lv_goto (tgt := 42) zx zb dX10_rankAll_38 (by decide) ?_
            exact join_33 61 _ _ _  G hl
        · intro x_32 H locs ls  G hl
          refine lv_istore (lv' := [(4, .int x_32), (3, .int r_30), (2, .ref (an 5)), (1, .int 4), (0, .ref h0)]) zx zb dX10_rankAll_42 hl (by decide) rfl (fun ls hl => ?_)
          refine lv_aload_n zx zb dX10_rankAll_44 rfl (lv_at hl 4 rfl) ?_
          refine r_get (C := RX10) (T := TX10) (N := 14) (ci := 8) (v := .ref (xa 13)) S in_X10_rankAll_X10 G 1 rfl rfl 13 (by decide) lk_X10_rankAll_76 rfl dX10_rankAll_45 ?_
          refine lv_iload_n zx zb dX10_rankAll_48 rfl (lv_at hl 3 rfl) ?_
          refine lv_aload_n zx zb dX10_rankAll_49 rfl (lv_at hl 2 rfl) ?_
          refine o_ri (cells' := 0) (slots' := 0) G rfl rfl (n_V (As := []) (rest := [.int 4, .ref (xa 13)]) (C := RX8) (T := TX8) (N := 8) (ci := 6) S G (s_isHome l X (an 5) (fun k => sv (12 + k)) (fun k => dv (30 + k)) H.size) gX10_rankAll_X8_isHome rfl rfl rfl hdV_X8_isHome ⟨Nat.le_of_ble_eq_true rfl, Nat.le_of_ble_eq_true rfl⟩ [8] rfl rfl 8 rfl rfl rfl hl.1 (Nat.le_of_ble_eq_true rfl) dX10_rankAll_50 ⟨Nat.le_of_ble_eq_true rfl, Nat.le_of_ble_eq_true rfl⟩) (fun r_33 u_33 H locs hp_33 G => ?_)
          have G : wd X (va_A (@HAppend.hAppend va_W va_W va_W _ (xW h0 nw sp xa la lb) (@HAppend.hAppend va_W va_W va_W _ (rcV X nw an sv dv n0 n1 n2 n3 n4 g0 gs gn gm) (@HAppend.hAppend va_W va_W va_W _ (rnV (xa 8) ag dg) ([((xa 13), .inl (X.2.1, 6, .inl fk))])))) sz) (va_A (@HAppend.hAppend va_W va_W va_W _ (xW h0 nw sp xa la lb) (@HAppend.hAppend va_W va_W va_W _ (rcV X nw an sv dv n0 n1 n2 n3 n4 g0 gs gn gm) (@HAppend.hAppend va_W va_W va_W _ (rnV (xa 8) ag dg) ([((xa 13), .inl (X.2.1, 6, .inl fk))])))) sz) s (@HAppend.hAppend va_W va_W va_W _ ([((xa 13), .inl (X.2.1, 6, .inl f2_3))]) (@HAppend.hAppend va_W va_W va_W _ (xW h0 nw sp xa la lb) (@HAppend.hAppend va_W va_W va_W _ (rcV X nw an sv dv n0 n1 n2 n3 n4 g0 gs gn gm) (rnV (xa 8) a_30a d_30b)))) H locs := G
          refine k_cutW (PP := fun Wx => ∀ (x_35 : Int32) (H : Heap) (locs : List Loc) (ls : Array Slot), wd X (va_A (@HAppend.hAppend va_W va_W va_W _ (xW h0 nw sp xa la lb) (@HAppend.hAppend va_W va_W va_W _ (rcV X nw an sv dv n0 n1 n2 n3 n4 g0 gs gn gm) (@HAppend.hAppend va_W va_W va_W _ (rnV (xa 8) ag dg) ([((xa 13), .inl (X.2.1, 6, .inl fk))])))) sz) (va_A (@HAppend.hAppend va_W va_W va_W _ (xW h0 nw sp xa la lb) (@HAppend.hAppend va_W va_W va_W _ (rcV X nw an sv dv n0 n1 n2 n3 n4 g0 gs gn gm) (@HAppend.hAppend va_W va_W va_W _ (rnV (xa 8) ag dg) ([((xa 13), .inl (X.2.1, 6, .inl fk))])))) sz) s (@HAppend.hAppend va_W va_W va_W _ ([((xa 13), .inl (X.2.1, 6, .inl f2_3))]) (@HAppend.hAppend va_W va_W va_W _ (xW h0 nw sp xa la lb) (@HAppend.hAppend va_W va_W va_W _ (rcV X nw an sv dv n0 n1 n2 n3 n4 g0 gs gn gm) (rnV (xa 8) a_30a d_30b)))) H locs → lv_has ls 5 [(4, .int x_32), (3, .int r_30), (2, .ref (an 5)), (1, .int 4), (0, .ref h0)] → Wx (F0 m 69 ls [.int x_35, .int 4, .ref (xa 13)]) H locs) ?_ ?_
          · intro join_53
            refine lv_if_eq (tgt := 63) zx zb dX10_rankAll_53 (by decide) (fun c_34 => ?_) (fun c_34 => ?_)
            · refine lv_sipush (v := 9999) zx zb dX10_rankAll_63 (by decide) ?_
              refine lv_iload zx zb dX10_rankAll_66 (lv_at hl 0 rfl) ?_
              refine r_iadd (v := (9999 + x_32)) S rfl dX10_rankAll_68 ?_
              exact join_53 (9999 + x_32) _ _ _  G hl
            · refine lv_aload_n zx zb dX10_rankAll_56 rfl (lv_at hl 2 rfl) ?_
              refine r_get (C := RX8) (T := TX8) (N := 8) (ci := 6) (v := .int (dv 34)) S in_X10_rankAll_X8 G 8 rfl rfl 7 (by decide) lk_X10_rankAll_303 rfl dX10_rankAll_57 ?_
              refine lv_goto (tgt := 69) zx zb dX10_rankAll_60 (by decide) ?_
              exact join_53 (dv 34) _ _ _  G hl
          · intro x_35 H locs ls  G hl
            refine r_iast S G 0 rfl (k_vp (by decide)) dX10_rankAll_69 (fun H locs G => ?_)
            obtain ⟨f_36, G⟩ : ∃ f_36 : Nat → Int32, wd X (va_A (@HAppend.hAppend va_W va_W va_W _ (xW h0 nw sp xa la lb) (@HAppend.hAppend va_W va_W va_W _ (rcV X nw an sv dv n0 n1 n2 n3 n4 g0 gs gn gm) (@HAppend.hAppend va_W va_W va_W _ (rnV (xa 8) ag dg) ([((xa 13), .inl (X.2.1, 6, .inl fk))])))) sz) (va_A (@HAppend.hAppend va_W va_W va_W _ (xW h0 nw sp xa la lb) (@HAppend.hAppend va_W va_W va_W _ (rcV X nw an sv dv n0 n1 n2 n3 n4 g0 gs gn gm) (@HAppend.hAppend va_W va_W va_W _ (rnV (xa 8) ag dg) ([((xa 13), .inl (X.2.1, 6, .inl fk))])))) sz) s (@HAppend.hAppend va_W va_W va_W _ ([((xa 13), .inl (X.2.1, 6, .inl f_36))]) (@HAppend.hAppend va_W va_W va_W _ (xW h0 nw sp xa la lb) (@HAppend.hAppend va_W va_W va_W _ (rcV X nw an sv dv n0 n1 n2 n3 n4 g0 gs gn gm) (rnV (xa 8) a_30a d_30b)))) H locs := ⟨_, G⟩
            refine lv_iinc (v := 5) (lv' := [(1, .int 5), (4, .int x_32), (3, .int r_30), (2, .ref (an 5)), (0, .ref h0)]) zx zb dX10_rankAll_70 hl (k := 3) rfl (by decide) (by decide) rfl (fun ls hl => ?_)
            refine lv_goto (tgt := 2) zx zb dX10_rankAll_73 (by decide) ?_
            have G : wd X (va_A (@HAppend.hAppend va_W va_W va_W _ (xW h0 nw sp xa la lb) (@HAppend.hAppend va_W va_W va_W _ (rcV X nw an sv dv n0 n1 n2 n3 n4 g0 gs gn gm) (@HAppend.hAppend va_W va_W va_W _ (rnV (xa 8) ag dg) ([((xa 13), .inl (X.2.1, 6, .inl fk))])))) sz) (va_A (@HAppend.hAppend va_W va_W va_W _ (xW h0 nw sp xa la lb) (@HAppend.hAppend va_W va_W va_W _ (rcV X nw an sv dv n0 n1 n2 n3 n4 g0 gs gn gm) (@HAppend.hAppend va_W va_W va_W _ (rnV (xa 8) ag dg) ([((xa 13), .inl (X.2.1, 6, .inl fk))])))) sz) s (@HAppend.hAppend va_W va_W va_W _ (xW h0 nw sp xa la lb) (@HAppend.hAppend va_W va_W va_W _ (rcV X nw an sv dv n0 n1 n2 n3 n4 g0 gs gn gm) (@HAppend.hAppend va_W va_W va_W _ (rnV (xa 8) a_30a d_30b) ([((xa 13), .inl (X.2.1, 6, .inl f_36))])))) H locs := wd_sub G [1, 2, 3, 4, 5, 6, 7, 8, 9, 10, 11, 12, 13, 14, 15, 16, 17, 18, 0] rfl rfl
            have hl := lv_sub hl (l' := [(1, .int 5), (0, .ref h0)]) [0, 4] rfl
            exact ih2 5 a_30a d_30b f_36 _ _ _ (by omega) (by omega) G hl
      · refine k_it (v := 5) rfl ?_
        refine r_aald (C := RX8) (b := (an 6)) S G 2 3 rfl rfl (k_vp (by decide)) rfl dX10_rankAll_21 ?_
        refine lv_astore_n (lv' := [(2, .ref (an 6)), (1, .int 5), (0, .ref h0)]) zx zb dX10_rankAll_22 rfl hl (by decide) rfl (fun ls hl => ?_)
        refine lv_aload_n zx zb dX10_rankAll_23 rfl (lv_at hl 2 rfl) ?_
        refine lv_iload_n zx zb dX10_rankAll_24 rfl (lv_at hl 1 rfl) ?_
        refine lv_bipush (v := 60) zx zb dX10_rankAll_25 (by decide) ?_
        refine b_wi (cells' := 0) (slots' := 0) (wr := [((xa 13), .inl (X.2.1, 6, .inl f2_3))]) G rfl rfl [0, 1, 2, 3, 4, 5, 6, 7, 8, 9, 10, 11, 12, 13, 14, 15, 16, 17] [18] rfl rfl rfl rfl (n_V (As := [.int 5, .int 60]) (rest := []) (C := RX10) (T := TX10) (N := 14) (ci := 8) S G (s_homeBehind l X h0 nw sp xa la lb an sv dv n0 n1 n2 n3 n4 g0 gs gn gm a2_2 d2_2 5 60 hI_n0 hI_n1 hI_n2 hI_n3 hI_n4 (by omega) (by first | decide | assumption | exact k_60a (by assumption)) H.size) gX10_rankAll_X10_homeBehind rfl rfl rfl hdV_X10_homeBehind ⟨Nat.le_of_ble_eq_true rfl, Nat.le_of_ble_eq_true rfl⟩ [0, 1, 2, 3, 4, 5, 6, 7, 8, 9, 10, 11, 12, 13, 14, 15, 16, 17] rfl rfl 0 rfl rfl rfl hl.1 (Nat.le_of_ble_eq_true rfl) dX10_rankAll_27 ⟨Nat.le_of_ble_eq_true rfl, Nat.le_of_ble_eq_true rfl⟩) (fun r_37 u_37 H locs hp_37 G => ?_)
        obtain ⟨a_37a, d_37b⟩ := u_37
        have hq_37 := hp_37
        have G : wd X (va_A (@HAppend.hAppend va_W va_W va_W _ (xW h0 nw sp xa la lb) (@HAppend.hAppend va_W va_W va_W _ (rcV X nw an sv dv n0 n1 n2 n3 n4 g0 gs gn gm) (@HAppend.hAppend va_W va_W va_W _ (rnV (xa 8) ag dg) ([((xa 13), .inl (X.2.1, 6, .inl fk))])))) sz) (va_A (@HAppend.hAppend va_W va_W va_W _ (xW h0 nw sp xa la lb) (@HAppend.hAppend va_W va_W va_W _ (rcV X nw an sv dv n0 n1 n2 n3 n4 g0 gs gn gm) (@HAppend.hAppend va_W va_W va_W _ (rnV (xa 8) ag dg) ([((xa 13), .inl (X.2.1, 6, .inl fk))])))) sz) s (@HAppend.hAppend va_W va_W va_W _ ([((xa 13), .inl (X.2.1, 6, .inl f2_3))]) (@HAppend.hAppend va_W va_W va_W _ (xW h0 nw sp xa la lb) (@HAppend.hAppend va_W va_W va_W _ (rcV X nw an sv dv n0 n1 n2 n3 n4 g0 gs gn gm) (rnV (xa 8) a_37a d_37b)))) H locs := G
        refine lv_istore_n (lv' := [(3, .int r_37), (2, .ref (an 6)), (1, .int 5), (0, .ref h0)]) zx zb dX10_rankAll_30 rfl hl (by decide) rfl (fun ls hl => ?_)
        refine lv_iload_n zx zb dX10_rankAll_31 rfl (lv_at hl 0 rfl) ?_
        refine lv_iconst (v := (-1)) zx zb dX10_rankAll_32 (by decide) ?_
        refine k_cutW (PP := fun Wx => ∀ (x_39 : Int32) (H : Heap) (locs : List Loc) (ls : Array Slot), wd X (va_A (@HAppend.hAppend va_W va_W va_W _ (xW h0 nw sp xa la lb) (@HAppend.hAppend va_W va_W va_W _ (rcV X nw an sv dv n0 n1 n2 n3 n4 g0 gs gn gm) (@HAppend.hAppend va_W va_W va_W _ (rnV (xa 8) ag dg) ([((xa 13), .inl (X.2.1, 6, .inl fk))])))) sz) (va_A (@HAppend.hAppend va_W va_W va_W _ (xW h0 nw sp xa la lb) (@HAppend.hAppend va_W va_W va_W _ (rcV X nw an sv dv n0 n1 n2 n3 n4 g0 gs gn gm) (@HAppend.hAppend va_W va_W va_W _ (rnV (xa 8) ag dg) ([((xa 13), .inl (X.2.1, 6, .inl fk))])))) sz) s (@HAppend.hAppend va_W va_W va_W _ ([((xa 13), .inl (X.2.1, 6, .inl f2_3))]) (@HAppend.hAppend va_W va_W va_W _ (xW h0 nw sp xa la lb) (@HAppend.hAppend va_W va_W va_W _ (rcV X nw an sv dv n0 n1 n2 n3 n4 g0 gs gn gm) (rnV (xa 8) a_37a d_37b)))) H locs → lv_has ls 5 [(3, .int r_37), (2, .ref (an 6)), (1, .int 5), (0, .ref h0)] → Wx (F0 m 42 ls [.int x_39]) H locs) ?_ ?_
        · intro join_33
          refine lv_icmp_ne (tgt := 41) zx zb dX10_rankAll_33 (by decide) (fun c_38 => ?_) (fun c_38 => ?_)
          · refine lv_iload_n zx zb dX10_rankAll_41 rfl (lv_at hl 0 rfl) ?_
            exact join_33 r_37 _ _ _  G hl
          · refine lv_bipush (v := 61) zx zb dX10_rankAll_36 (by decide) ?_
            refine lv_goto (tgt := 42) zx zb dX10_rankAll_38 (by decide) ?_
            exact join_33 61 _ _ _  G hl
        · intro x_39 H locs ls  G hl
          refine lv_istore (lv' := [(4, .int x_39), (3, .int r_37), (2, .ref (an 6)), (1, .int 5), (0, .ref h0)]) zx zb dX10_rankAll_42 hl (by decide) rfl (fun ls hl => ?_)
          refine lv_aload_n zx zb dX10_rankAll_44 rfl (lv_at hl 4 rfl) ?_
          refine r_get (C := RX10) (T := TX10) (N := 14) (ci := 8) (v := .ref (xa 13)) S in_X10_rankAll_X10 G 1 rfl rfl 13 (by decide) lk_X10_rankAll_76 rfl dX10_rankAll_45 ?_
          refine lv_iload_n zx zb dX10_rankAll_48 rfl (lv_at hl 3 rfl) ?_
          refine lv_aload_n zx zb dX10_rankAll_49 rfl (lv_at hl 2 rfl) ?_
          refine o_ri (cells' := 0) (slots' := 0) G rfl rfl (n_V (As := []) (rest := [.int 5, .ref (xa 13)]) (C := RX8) (T := TX8) (N := 8) (ci := 6) S G (s_isHome l X (an 6) (fun k => sv (15 + k)) (fun k => dv (35 + k)) H.size) gX10_rankAll_X8_isHome rfl rfl rfl hdV_X8_isHome ⟨Nat.le_of_ble_eq_true rfl, Nat.le_of_ble_eq_true rfl⟩ [9] rfl rfl 9 rfl rfl rfl hl.1 (Nat.le_of_ble_eq_true rfl) dX10_rankAll_50 ⟨Nat.le_of_ble_eq_true rfl, Nat.le_of_ble_eq_true rfl⟩) (fun r_40 u_40 H locs hp_40 G => ?_)
          have G : wd X (va_A (@HAppend.hAppend va_W va_W va_W _ (xW h0 nw sp xa la lb) (@HAppend.hAppend va_W va_W va_W _ (rcV X nw an sv dv n0 n1 n2 n3 n4 g0 gs gn gm) (@HAppend.hAppend va_W va_W va_W _ (rnV (xa 8) ag dg) ([((xa 13), .inl (X.2.1, 6, .inl fk))])))) sz) (va_A (@HAppend.hAppend va_W va_W va_W _ (xW h0 nw sp xa la lb) (@HAppend.hAppend va_W va_W va_W _ (rcV X nw an sv dv n0 n1 n2 n3 n4 g0 gs gn gm) (@HAppend.hAppend va_W va_W va_W _ (rnV (xa 8) ag dg) ([((xa 13), .inl (X.2.1, 6, .inl fk))])))) sz) s (@HAppend.hAppend va_W va_W va_W _ ([((xa 13), .inl (X.2.1, 6, .inl f2_3))]) (@HAppend.hAppend va_W va_W va_W _ (xW h0 nw sp xa la lb) (@HAppend.hAppend va_W va_W va_W _ (rcV X nw an sv dv n0 n1 n2 n3 n4 g0 gs gn gm) (rnV (xa 8) a_37a d_37b)))) H locs := G
          refine k_cutW (PP := fun Wx => ∀ (x_42 : Int32) (H : Heap) (locs : List Loc) (ls : Array Slot), wd X (va_A (@HAppend.hAppend va_W va_W va_W _ (xW h0 nw sp xa la lb) (@HAppend.hAppend va_W va_W va_W _ (rcV X nw an sv dv n0 n1 n2 n3 n4 g0 gs gn gm) (@HAppend.hAppend va_W va_W va_W _ (rnV (xa 8) ag dg) ([((xa 13), .inl (X.2.1, 6, .inl fk))])))) sz) (va_A (@HAppend.hAppend va_W va_W va_W _ (xW h0 nw sp xa la lb) (@HAppend.hAppend va_W va_W va_W _ (rcV X nw an sv dv n0 n1 n2 n3 n4 g0 gs gn gm) (@HAppend.hAppend va_W va_W va_W _ (rnV (xa 8) ag dg) ([((xa 13), .inl (X.2.1, 6, .inl fk))])))) sz) s (@HAppend.hAppend va_W va_W va_W _ ([((xa 13), .inl (X.2.1, 6, .inl f2_3))]) (@HAppend.hAppend va_W va_W va_W _ (xW h0 nw sp xa la lb) (@HAppend.hAppend va_W va_W va_W _ (rcV X nw an sv dv n0 n1 n2 n3 n4 g0 gs gn gm) (rnV (xa 8) a_37a d_37b)))) H locs → lv_has ls 5 [(4, .int x_39), (3, .int r_37), (2, .ref (an 6)), (1, .int 5), (0, .ref h0)] → Wx (F0 m 69 ls [.int x_42, .int 5, .ref (xa 13)]) H locs) ?_ ?_
          · intro join_53
            refine lv_if_eq (tgt := 63) zx zb dX10_rankAll_53 (by decide) (fun c_41 => ?_) (fun c_41 => ?_)
            · refine lv_sipush (v := 9999) zx zb dX10_rankAll_63 (by decide) ?_
              refine lv_iload zx zb dX10_rankAll_66 (lv_at hl 0 rfl) ?_
              refine r_iadd (v := (9999 + x_39)) S rfl dX10_rankAll_68 ?_
              exact join_53 (9999 + x_39) _ _ _  G hl
            · refine lv_aload_n zx zb dX10_rankAll_56 rfl (lv_at hl 2 rfl) ?_
              refine r_get (C := RX8) (T := TX8) (N := 8) (ci := 6) (v := .int (dv 39)) S in_X10_rankAll_X8 G 9 rfl rfl 7 (by decide) lk_X10_rankAll_303 rfl dX10_rankAll_57 ?_
              refine lv_goto (tgt := 69) zx zb dX10_rankAll_60 (by decide) ?_
              exact join_53 (dv 39) _ _ _  G hl
          · intro x_42 H locs ls  G hl
            refine r_iast S G 0 rfl (k_vp (by decide)) dX10_rankAll_69 (fun H locs G => ?_)
            obtain ⟨f_43, G⟩ : ∃ f_43 : Nat → Int32, wd X (va_A (@HAppend.hAppend va_W va_W va_W _ (xW h0 nw sp xa la lb) (@HAppend.hAppend va_W va_W va_W _ (rcV X nw an sv dv n0 n1 n2 n3 n4 g0 gs gn gm) (@HAppend.hAppend va_W va_W va_W _ (rnV (xa 8) ag dg) ([((xa 13), .inl (X.2.1, 6, .inl fk))])))) sz) (va_A (@HAppend.hAppend va_W va_W va_W _ (xW h0 nw sp xa la lb) (@HAppend.hAppend va_W va_W va_W _ (rcV X nw an sv dv n0 n1 n2 n3 n4 g0 gs gn gm) (@HAppend.hAppend va_W va_W va_W _ (rnV (xa 8) ag dg) ([((xa 13), .inl (X.2.1, 6, .inl fk))])))) sz) s (@HAppend.hAppend va_W va_W va_W _ ([((xa 13), .inl (X.2.1, 6, .inl f_43))]) (@HAppend.hAppend va_W va_W va_W _ (xW h0 nw sp xa la lb) (@HAppend.hAppend va_W va_W va_W _ (rcV X nw an sv dv n0 n1 n2 n3 n4 g0 gs gn gm) (rnV (xa 8) a_37a d_37b)))) H locs := ⟨_, G⟩
            refine lv_iinc (v := 6) (lv' := [(1, .int 6), (4, .int x_39), (3, .int r_37), (2, .ref (an 6)), (0, .ref h0)]) zx zb dX10_rankAll_70 hl (k := 3) rfl (by decide) (by decide) rfl (fun ls hl => ?_)
            refine lv_goto (tgt := 2) zx zb dX10_rankAll_73 (by decide) ?_
            have G : wd X (va_A (@HAppend.hAppend va_W va_W va_W _ (xW h0 nw sp xa la lb) (@HAppend.hAppend va_W va_W va_W _ (rcV X nw an sv dv n0 n1 n2 n3 n4 g0 gs gn gm) (@HAppend.hAppend va_W va_W va_W _ (rnV (xa 8) ag dg) ([((xa 13), .inl (X.2.1, 6, .inl fk))])))) sz) (va_A (@HAppend.hAppend va_W va_W va_W _ (xW h0 nw sp xa la lb) (@HAppend.hAppend va_W va_W va_W _ (rcV X nw an sv dv n0 n1 n2 n3 n4 g0 gs gn gm) (@HAppend.hAppend va_W va_W va_W _ (rnV (xa 8) ag dg) ([((xa 13), .inl (X.2.1, 6, .inl fk))])))) sz) s (@HAppend.hAppend va_W va_W va_W _ (xW h0 nw sp xa la lb) (@HAppend.hAppend va_W va_W va_W _ (rcV X nw an sv dv n0 n1 n2 n3 n4 g0 gs gn gm) (@HAppend.hAppend va_W va_W va_W _ (rnV (xa 8) a_37a d_37b) ([((xa 13), .inl (X.2.1, 6, .inl f_43))])))) H locs := wd_sub G [1, 2, 3, 4, 5, 6, 7, 8, 9, 10, 11, 12, 13, 14, 15, 16, 17, 18, 0] rfl rfl
            have hl := lv_sub hl (l' := [(1, .int 6), (0, .ref h0)]) [0, 4] rfl
            exact ih2 6 a_37a d_37b f_43 _ _ _ (by omega) (by omega) G hl
