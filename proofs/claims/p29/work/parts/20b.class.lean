set_option maxRecDepth 20000 in
theorem ggX10_race_X10_refuse : GoodIn wsX10_race wsX10_refuse := goodIn_r _ [10, 11, 26, 27, 28, 29, 30, 31, 32, 33, 34, 35, 36, 37, 38, 39] rfl (by decide +kernel)
set_option maxRecDepth 20000 in
theorem gX10_race_X10_refuse : GoodIn wsX10_race (wsV RX10 83 RX10 yX10_refuse wsX10_refuse) := goodIn_app (goodIn_of _ (by decide +kernel)) ggX10_race_X10_refuse
set_option maxRecDepth 20000 in
theorem ggX10_race_X10_within : GoodIn wsX10_race wsX10_within := goodIn_r _ [6] rfl (by decide +kernel)
set_option maxRecDepth 20000 in
theorem gX10_race_X10_within : GoodIn wsX10_race (va_wsS RX10 79 yX10_within wsX10_within) := goodIn_app (goodIn_of _ (by decide +kernel)) ggX10_race_X10_within
set_option maxRecDepth 20000 in
theorem ggX10_race_X5_restart : GoodIn wsX10_race wsX5_restart := goodIn_r _ [16, 17, 18, 19, 20, 21, 22, 23, 24, 25, 40, 41, 42, 43, 44, 45, 46, 47, 48, 49, 50, 51, 52, 53, 54] rfl (by decide +kernel)
set_option maxRecDepth 20000 in
theorem gX10_race_X5_restart : GoodIn wsX10_race (wsV RX10 91 RX5 yX5_restart wsX5_restart) := goodIn_app (goodIn_of _ (by decide +kernel)) ggX10_race_X5_restart
set_option maxRecDepth 20000 in
theorem ggX10_speed_X10_refuse : GoodIn wsX10_speed wsX10_refuse := goodIn_r _ [16, 17, 48, 49, 50, 51, 52, 53, 54, 55, 56, 57, 58, 59, 60, 61] rfl (by decide +kernel)
set_option maxRecDepth 20000 in
theorem gX10_speed_X10_refuse : GoodIn wsX10_speed (wsV RX10 83 RX10 yX10_refuse wsX10_refuse) := goodIn_app (goodIn_of _ (by decide +kernel)) ggX10_speed_X10_refuse
set_option maxRecDepth 20000 in
theorem ggX10_speed_X10_there : GoodIn wsX10_speed wsX10_there := goodIn_r _ [8, 1, 9, 48, 49, 50, 51, 52, 53, 54, 55, 56, 57, 58, 59, 60, 61, 62, 63, 64, 65, 66, 67, 68, 69] rfl (by decide +kernel)
set_option maxRecDepth 20000 in
theorem gX10_speed_X10_there : GoodIn wsX10_speed (wsV RX10 123 RX10 yX10_there wsX10_there) := goodIn_app (goodIn_of _ (by decide +kernel)) ggX10_speed_X10_there
set_option maxRecDepth 20000 in
theorem ggX10_speed_X10_within : GoodIn wsX10_speed wsX10_within := goodIn_r _ [12] rfl (by decide +kernel)
set_option maxRecDepth 20000 in
theorem gX10_speed_X10_within : GoodIn wsX10_speed (va_wsS RX10 79 yX10_within wsX10_within) := goodIn_app (goodIn_of _ (by decide +kernel)) ggX10_speed_X10_within
set_option maxRecDepth 20000 in
theorem ggX10_speed_X5_keep : GoodIn wsX10_speed wsX5_keep := goodIn_r _ [28, 29, 30, 31, 32, 33, 34, 35, 36, 37, 38, 39, 40, 41, 42, 43, 44, 45, 46, 47, 62, 63, 64, 65, 66, 67, 68, 69, 78, 79, 70, 71, 72, 73, 74, 75, 76, 77] rfl (by decide +kernel)
set_option maxRecDepth 20000 in
theorem gX10_speed_X5_keep : GoodIn wsX10_speed (wsV RX10 113 RX5 yX5_keep wsX5_keep) := goodIn_app (goodIn_of _ (by decide +kernel)) ggX10_speed_X5_keep
set_option maxRecDepth 20000 in
theorem ggX10_speed_X8_isHome : GoodIn wsX10_speed wsX8_isHome := goodIn_r _ [22, 23, 70, 71, 72, 73, 74, 75, 76, 77] rfl (by decide +kernel)
set_option maxRecDepth 20000 in
theorem gX10_speed_X8_isHome : GoodIn wsX10_speed (wsV RX10 133 RX8 yX8_isHome wsX8_isHome) := goodIn_app (goodIn_of _ (by decide +kernel)) ggX10_speed_X8_isHome
set_option maxRecDepth 20000 in
theorem ggX5_goOn_X8_step : GoodIn wsX5_goOn wsX8_step := goodIn_r _ [9, 10, 11, 12, 13, 14, 15, 16, 17, 18, 19, 20, 8, 21, 22, 23, 24, 25, 26, 27, 28, 29, 38, 39, 40, 41, 42, 43, 44, 45] rfl (by decide +kernel)
set_option maxRecDepth 20000 in
theorem gX5_goOn_X8_step : GoodIn wsX5_goOn (wsV RX5 72 RX8 yX8_step wsX8_step) := goodIn_app (goodIn_of _ (by decide +kernel)) ggX5_goOn_X8_step
set_option maxRecDepth 20000 in
theorem ggX5_homes_X8_isHome : GoodIn wsX5_homes wsX8_isHome := goodIn_r _ [7, 8, 17, 18, 19, 20, 21, 22, 23, 24] rfl (by decide +kernel)
set_option maxRecDepth 20000 in
theorem gX5_homes_X8_isHome : GoodIn wsX5_homes (wsV RX5 84 RX8 yX8_isHome wsX8_isHome) := goodIn_app (goodIn_of _ (by decide +kernel)) ggX5_homes_X8_isHome
set_option maxRecDepth 20000 in
theorem ggX5_keep_X4_push : GoodIn wsX5_keep wsX4_push := goodIn_r _ [8, 9, 10, 11, 12, 13, 14, 15, 16, 17, 18, 19, 28, 29, 30, 31, 32, 33, 34, 35, 36, 37] rfl (by decide +kernel)
set_option maxRecDepth 20000 in
theorem gX5_keep_X4_push : GoodIn wsX5_keep (wsV RX5 76 RX4 yX4_push wsX4_push) := goodIn_app (goodIn_of _ (by decide +kernel)) ggX5_keep_X4_push
set_option maxRecDepth 20000 in
theorem ggX5_takeBack_X4_pop : GoodIn wsX5_takeBack wsX4_pop := goodIn_r _ [8, 9, 10, 11, 12, 13, 14, 15, 24, 25, 26, 27, 28, 29, 30, 31, 32, 33] rfl (by decide +kernel)
set_option maxRecDepth 20000 in
theorem gX5_takeBack_X4_pop : GoodIn wsX5_takeBack (wsV RX5 80 RX4 yX4_pop wsX4_pop) := goodIn_app (goodIn_of _ (by decide +kernel)) ggX5_takeBack_X4_pop
theorem dX10_race_0 : decode cX10_race 0 = .ok (.iload_n 1, 1) := by decide +kernel
theorem dX10_race_1 : decode cX10_race 1 = .ok (.bipush 10, 2) := by decide +kernel
theorem dX10_race_11 : decode cX10_race 11 = .ok (.aload_n 0, 1) := by decide +kernel
theorem dX10_race_12 : decode cX10_race 12 = .ok (.bipush (-2), 2) := by decide +kernel
theorem dX10_race_14 : decode cX10_race 14 = .ok (.invokevirtual 83, 3) := by decide +kernel
theorem dX10_race_17 : decode cX10_race 17 = .ok (.ireturn, 1) := by decide +kernel
theorem dX10_race_18 : decode cX10_race 18 = .ok (.aload_n 0, 1) := by decide +kernel
theorem dX10_race_19 : decode cX10_race 19 = .ok (.getfield 10, 3) := by decide +kernel
theorem dX10_race_22 : decode cX10_race 22 = .ok (.getfield 87, 3) := by decide +kernel
theorem dX10_race_25 : decode cX10_race 25 = .ok (.istore_n 2, 1) := by decide +kernel
theorem dX10_race_26 : decode cX10_race 26 = .ok (.aload_n 0, 1) := by decide +kernel
theorem dX10_race_27 : decode cX10_race 27 = .ok (.getfield 10, 3) := by decide +kernel
theorem dX10_race_3 : decode cX10_race 3 = .ok (.bipush 60, 2) := by decide +kernel
theorem dX10_race_30 : decode cX10_race 30 = .ok (.iload_n 1, 1) := by decide +kernel
theorem dX10_race_31 : decode cX10_race 31 = .ok (.invokevirtual 91, 3) := by decide +kernel
theorem dX10_race_34 : decode cX10_race 34 = .ok (.iload_n 2, 1) := by decide +kernel
theorem dX10_race_35 : decode cX10_race 35 = .ok (.ireturn, 1) := by decide +kernel
theorem dX10_race_5 : decode cX10_race 5 = .ok (.invokestatic 79, 3) := by decide +kernel
theorem dX10_race_8 : decode cX10_race 8 = .ok (.ifCond .ne 10, 3) := by decide +kernel
theorem dX10_refuse_0 : decode cX10_refuse 0 = .ok (.bipush (-2), 2) := by decide +kernel
theorem dX10_refuse_10 : decode cX10_refuse 10 = .ok (.aload_n 0, 1) := by decide +kernel
theorem dX10_refuse_11 : decode cX10_refuse 11 = .ok (.getfield 34, 3) := by decide +kernel
theorem dX10_refuse_14 : decode cX10_refuse 14 = .ok (.arraylength, 1) := by decide +kernel
theorem dX10_refuse_15 : decode cX10_refuse 15 = .ok (.if_icmp .ge 13, 3) := by decide +kernel
theorem dX10_refuse_18 : decode cX10_refuse 18 = .ok (.aload_n 0, 1) := by decide +kernel
theorem dX10_refuse_19 : decode cX10_refuse 19 = .ok (.getfield 34, 3) := by decide +kernel
theorem dX10_refuse_2 : decode cX10_refuse 2 = .ok (.iload_n 1, 1) := by decide +kernel
theorem dX10_refuse_22 : decode cX10_refuse 22 = .ok (.iload_n 2, 1) := by decide +kernel
theorem dX10_refuse_23 : decode cX10_refuse 23 = .ok (.dup2, 1) := by decide +kernel
theorem dX10_refuse_24 : decode cX10_refuse 24 = .ok (.iaload, 1) := by decide +kernel
theorem dX10_refuse_25 : decode cX10_refuse 25 = .ok (.iconst 1, 1) := by decide +kernel
theorem dX10_refuse_26 : decode cX10_refuse 26 = .ok (.iadd, 1) := by decide +kernel
theorem dX10_refuse_27 : decode cX10_refuse 27 = .ok (.iastore, 1) := by decide +kernel
theorem dX10_refuse_28 : decode cX10_refuse 28 = .ok (.iload_n 1, 1) := by decide +kernel
theorem dX10_refuse_29 : decode cX10_refuse 29 = .ok (.ireturn, 1) := by decide +kernel
theorem dX10_refuse_3 : decode cX10_refuse 3 = .ok (.isub, 1) := by decide +kernel
theorem dX10_refuse_4 : decode cX10_refuse 4 = .ok (.istore_n 2, 1) := by decide +kernel
theorem dX10_refuse_5 : decode cX10_refuse 5 = .ok (.iload_n 2, 1) := by decide +kernel
theorem dX10_refuse_6 : decode cX10_refuse 6 = .ok (.ifCond .lt 22, 3) := by decide +kernel
theorem dX10_refuse_9 : decode cX10_refuse 9 = .ok (.iload_n 2, 1) := by decide +kernel
theorem dX10_speed_0 : decode cX10_speed 0 = .ok (.aload_n 0, 1) := by decide +kernel
theorem dX10_speed_1 : decode cX10_speed 1 = .ok (.iload_n 1, 1) := by decide +kernel
theorem dX10_speed_10 : decode cX10_speed 10 = .ok (.bipush 9, 2) := by decide +kernel
theorem dX10_speed_12 : decode cX10_speed 12 = .ok (.invokestatic 79, 3) := by decide +kernel
theorem dX10_speed_15 : decode cX10_speed 15 = .ok (.ifCond .ne 10, 3) := by decide +kernel
theorem dX10_speed_18 : decode cX10_speed 18 = .ok (.aload_n 0, 1) := by decide +kernel
theorem dX10_speed_19 : decode cX10_speed 19 = .ok (.bipush (-2), 2) := by decide +kernel
theorem dX10_speed_2 : decode cX10_speed 2 = .ok (.invokevirtual 123, 3) := by decide +kernel
theorem dX10_speed_21 : decode cX10_speed 21 = .ok (.invokevirtual 83, 3) := by decide +kernel
theorem dX10_speed_24 : decode cX10_speed 24 = .ok (.ireturn, 1) := by decide +kernel
theorem dX10_speed_25 : decode cX10_speed 25 = .ok (.aload_n 0, 1) := by decide +kernel
theorem dX10_speed_26 : decode cX10_speed 26 = .ok (.getfield 10, 3) := by decide +kernel
theorem dX10_speed_29 : decode cX10_speed 29 = .ok (.getfield 126, 3) := by decide +kernel
theorem dX10_speed_32 : decode cX10_speed 32 = .ok (.iload_n 1, 1) := by decide +kernel
theorem dX10_speed_33 : decode cX10_speed 33 = .ok (.aaload, 1) := by decide +kernel
theorem dX10_speed_34 : decode cX10_speed 34 = .ok (.astore_n 3, 1) := by decide +kernel
theorem dX10_speed_35 : decode cX10_speed 35 = .ok (.aload_n 3, 1) := by decide +kernel
theorem dX10_speed_36 : decode cX10_speed 36 = .ok (.getfield 130, 3) := by decide +kernel
theorem dX10_speed_39 : decode cX10_speed 39 = .ok (.istore 4, 2) := by decide +kernel
theorem dX10_speed_41 : decode cX10_speed 41 = .ok (.iload 4, 2) := by decide +kernel
theorem dX10_speed_43 : decode cX10_speed 43 = .ok (.iload_n 2, 1) := by decide +kernel
theorem dX10_speed_44 : decode cX10_speed 44 = .ok (.if_icmp .eq 10, 3) := by decide +kernel
theorem dX10_speed_47 : decode cX10_speed 47 = .ok (.aload_n 3, 1) := by decide +kernel
theorem dX10_speed_48 : decode cX10_speed 48 = .ok (.invokevirtual 133, 3) := by decide +kernel
theorem dX10_speed_5 : decode cX10_speed 5 = .ok (.ifCond .eq 13, 3) := by decide +kernel
theorem dX10_speed_51 : decode cX10_speed 51 = .ok (.ifCond .eq 10, 3) := by decide +kernel
theorem dX10_speed_54 : decode cX10_speed 54 = .ok (.aload_n 0, 1) := by decide +kernel
theorem dX10_speed_55 : decode cX10_speed 55 = .ok (.bipush (-3), 2) := by decide +kernel
theorem dX10_speed_57 : decode cX10_speed 57 = .ok (.invokevirtual 83, 3) := by decide +kernel
theorem dX10_speed_60 : decode cX10_speed 60 = .ok (.ireturn, 1) := by decide +kernel
theorem dX10_speed_61 : decode cX10_speed 61 = .ok (.aload_n 0, 1) := by decide +kernel
theorem dX10_speed_62 : decode cX10_speed 62 = .ok (.getfield 10, 3) := by decide +kernel
theorem dX10_speed_65 : decode cX10_speed 65 = .ok (.invokevirtual 113, 3) := by decide +kernel
theorem dX10_speed_68 : decode cX10_speed 68 = .ok (.aload_n 3, 1) := by decide +kernel
theorem dX10_speed_69 : decode cX10_speed 69 = .ok (.iload_n 2, 1) := by decide +kernel
theorem dX10_speed_70 : decode cX10_speed 70 = .ok (.putfield 130, 3) := by decide +kernel
theorem dX10_speed_73 : decode cX10_speed 73 = .ok (.iload 4, 2) := by decide +kernel
theorem dX10_speed_75 : decode cX10_speed 75 = .ok (.ireturn, 1) := by decide +kernel
theorem dX10_speed_8 : decode cX10_speed 8 = .ok (.iload_n 2, 1) := by decide +kernel
theorem dX10_speed_9 : decode cX10_speed 9 = .ok (.iconst 0, 1) := by decide +kernel
theorem dX10_there_0 : decode cX10_there 0 = .ok (.iload_n 1, 1) := by decide +kernel
theorem dX10_there_1 : decode cX10_there 1 = .ok (.ifCond .lt 18, 3) := by decide +kernel
theorem dX10_there_12 : decode cX10_there 12 = .ok (.if_icmp .ge 7, 3) := by decide +kernel
theorem dX10_there_15 : decode cX10_there 15 = .ok (.iconst 1, 1) := by decide +kernel
theorem dX10_there_16 : decode cX10_there 16 = .ok (.goto 4, 3) := by decide +kernel
theorem dX10_there_19 : decode cX10_there 19 = .ok (.iconst 0, 1) := by decide +kernel
theorem dX10_there_20 : decode cX10_there 20 = .ok (.ireturn, 1) := by decide +kernel
theorem dX10_there_4 : decode cX10_there 4 = .ok (.iload_n 1, 1) := by decide +kernel
theorem dX10_there_5 : decode cX10_there 5 = .ok (.aload_n 0, 1) := by decide +kernel
theorem dX10_there_6 : decode cX10_there 6 = .ok (.getfield 10, 3) := by decide +kernel
theorem dX10_there_9 : decode cX10_there 9 = .ok (.getfield 87, 3) := by decide +kernel
theorem dX10_within_0 : decode cX10_within 0 = .ok (.iload_n 0, 1) := by decide +kernel
theorem dX10_within_1 : decode cX10_within 1 = .ok (.iload_n 1, 1) := by decide +kernel
theorem dX10_within_10 : decode cX10_within 10 = .ok (.iconst 1, 1) := by decide +kernel
theorem dX10_within_11 : decode cX10_within 11 = .ok (.goto 4, 3) := by decide +kernel
theorem dX10_within_14 : decode cX10_within 14 = .ok (.iconst 0, 1) := by decide +kernel
theorem dX10_within_15 : decode cX10_within 15 = .ok (.ireturn, 1) := by decide +kernel
theorem dX10_within_2 : decode cX10_within 2 = .ok (.if_icmp .lt 12, 3) := by decide +kernel
theorem dX10_within_5 : decode cX10_within 5 = .ok (.iload_n 0, 1) := by decide +kernel
theorem dX10_within_6 : decode cX10_within 6 = .ok (.iload_n 2, 1) := by decide +kernel
theorem dX10_within_7 : decode cX10_within 7 = .ok (.if_icmp .gt 7, 3) := by decide +kernel
theorem dX4_pop_0 : decode cX4_pop 0 = .ok (.aload_n 0, 1) := by decide +kernel
theorem dX4_pop_1 : decode cX4_pop 1 = .ok (.getfield 15, 3) := by decide +kernel
theorem dX4_pop_10 : decode cX4_pop 10 = .ok (.dup, 1) := by decide +kernel
theorem dX4_pop_102 : decode cX4_pop 102 = .ok (.aload_n 1, 1) := by decide +kernel
theorem dX4_pop_103 : decode cX4_pop 103 = .ok (.iload_n 3, 1) := by decide +kernel
theorem dX4_pop_104 : decode cX4_pop 104 = .ok (.aaload, 1) := by decide +kernel
theorem dX4_pop_105 : decode cX4_pop 105 = .ok (.aload_n 0, 1) := by decide +kernel
theorem dX4_pop_106 : decode cX4_pop 106 = .ok (.getfield 11, 3) := by decide +kernel
theorem dX4_pop_109 : decode cX4_pop 109 = .ok (.iload 4, 2) := by decide +kernel
theorem dX4_pop_11 : decode cX4_pop 11 = .ok (.getfield 15, 3) := by decide +kernel
theorem dX4_pop_111 : decode cX4_pop 111 = .ok (.iconst 4, 1) := by decide +kernel
theorem dX4_pop_112 : decode cX4_pop 112 = .ok (.iadd, 1) := by decide +kernel
theorem dX4_pop_113 : decode cX4_pop 113 = .ok (.iaload, 1) := by decide +kernel
theorem dX4_pop_114 : decode cX4_pop 114 = .ok (.putfield 39, 3) := by decide +kernel
theorem dX4_pop_117 : decode cX4_pop 117 = .ok (.iinc 3 1, 3) := by decide +kernel
theorem dX4_pop_120 : decode cX4_pop 120 = .ok (.goto (-91), 3) := by decide +kernel
theorem dX4_pop_123 : decode cX4_pop 123 = .ok (.aload_n 0, 1) := by decide +kernel
theorem dX4_pop_124 : decode cX4_pop 124 = .ok (.getfield 11, 3) := by decide +kernel
theorem dX4_pop_127 : decode cX4_pop 127 = .ok (.iload_n 2, 1) := by decide +kernel
theorem dX4_pop_128 : decode cX4_pop 128 = .ok (.iaload, 1) := by decide +kernel
theorem dX4_pop_129 : decode cX4_pop 129 = .ok (.ireturn, 1) := by decide +kernel
theorem dX4_pop_14 : decode cX4_pop 14 = .ok (.iconst 1, 1) := by decide +kernel
theorem dX4_pop_15 : decode cX4_pop 15 = .ok (.isub, 1) := by decide +kernel
theorem dX4_pop_16 : decode cX4_pop 16 = .ok (.putfield 15, 3) := by decide +kernel
theorem dX4_pop_19 : decode cX4_pop 19 = .ok (.aload_n 0, 1) := by decide +kernel
theorem dX4_pop_20 : decode cX4_pop 20 = .ok (.getfield 15, 3) := by decide +kernel
theorem dX4_pop_23 : decode cX4_pop 23 = .ok (.bipush 31, 2) := by decide +kernel
theorem dX4_pop_25 : decode cX4_pop 25 = .ok (.imul, 1) := by decide +kernel
theorem dX4_pop_26 : decode cX4_pop 26 = .ok (.istore_n 2, 1) := by decide +kernel
theorem dX4_pop_27 : decode cX4_pop 27 = .ok (.iconst 0, 1) := by decide +kernel
theorem dX4_pop_28 : decode cX4_pop 28 = .ok (.istore_n 3, 1) := by decide +kernel
theorem dX4_pop_29 : decode cX4_pop 29 = .ok (.iload_n 3, 1) := by decide +kernel
theorem dX4_pop_30 : decode cX4_pop 30 = .ok (.bipush 6, 2) := by decide +kernel
theorem dX4_pop_32 : decode cX4_pop 32 = .ok (.if_icmp .ge 91, 3) := by decide +kernel
theorem dX4_pop_35 : decode cX4_pop 35 = .ok (.iload_n 2, 1) := by decide +kernel
theorem dX4_pop_36 : decode cX4_pop 36 = .ok (.iconst 1, 1) := by decide +kernel
theorem dX4_pop_37 : decode cX4_pop 37 = .ok (.iadd, 1) := by decide +kernel
theorem dX4_pop_38 : decode cX4_pop 38 = .ok (.iload_n 3, 1) := by decide +kernel
theorem dX4_pop_39 : decode cX4_pop 39 = .ok (.iconst 5, 1) := by decide +kernel
theorem dX4_pop_4 : decode cX4_pop 4 = .ok (.ifCond .gt 5, 3) := by decide +kernel
theorem dX4_pop_40 : decode cX4_pop 40 = .ok (.imul, 1) := by decide +kernel
theorem dX4_pop_41 : decode cX4_pop 41 = .ok (.iadd, 1) := by decide +kernel
theorem dX4_pop_42 : decode cX4_pop 42 = .ok (.istore 4, 2) := by decide +kernel
theorem dX4_pop_44 : decode cX4_pop 44 = .ok (.aload_n 1, 1) := by decide +kernel
theorem dX4_pop_45 : decode cX4_pop 45 = .ok (.iload_n 3, 1) := by decide +kernel
theorem dX4_pop_46 : decode cX4_pop 46 = .ok (.aaload, 1) := by decide +kernel
theorem dX4_pop_47 : decode cX4_pop 47 = .ok (.aload_n 0, 1) := by decide +kernel
theorem dX4_pop_48 : decode cX4_pop 48 = .ok (.getfield 11, 3) := by decide +kernel
theorem dX4_pop_51 : decode cX4_pop 51 = .ok (.iload 4, 2) := by decide +kernel
theorem dX4_pop_53 : decode cX4_pop 53 = .ok (.iaload, 1) := by decide +kernel
theorem dX4_pop_54 : decode cX4_pop 54 = .ok (.putfield 25, 3) := by decide +kernel
theorem dX4_pop_57 : decode cX4_pop 57 = .ok (.aload_n 1, 1) := by decide +kernel
theorem dX4_pop_58 : decode cX4_pop 58 = .ok (.iload_n 3, 1) := by decide +kernel
theorem dX4_pop_59 : decode cX4_pop 59 = .ok (.aaload, 1) := by decide +kernel
theorem dX4_pop_60 : decode cX4_pop 60 = .ok (.aload_n 0, 1) := by decide +kernel
theorem dX4_pop_61 : decode cX4_pop 61 = .ok (.getfield 11, 3) := by decide +kernel
theorem dX4_pop_64 : decode cX4_pop 64 = .ok (.iload 4, 2) := by decide +kernel
theorem dX4_pop_66 : decode cX4_pop 66 = .ok (.iconst 1, 1) := by decide +kernel
theorem dX4_pop_67 : decode cX4_pop 67 = .ok (.iadd, 1) := by decide +kernel
theorem dX4_pop_68 : decode cX4_pop 68 = .ok (.iaload, 1) := by decide +kernel
theorem dX4_pop_69 : decode cX4_pop 69 = .ok (.putfield 30, 3) := by decide +kernel
theorem dX4_pop_7 : decode cX4_pop 7 = .ok (.iconst (-1), 1) := by decide +kernel
theorem dX4_pop_72 : decode cX4_pop 72 = .ok (.aload_n 1, 1) := by decide +kernel
theorem dX4_pop_73 : decode cX4_pop 73 = .ok (.iload_n 3, 1) := by decide +kernel
theorem dX4_pop_74 : decode cX4_pop 74 = .ok (.aaload, 1) := by decide +kernel
theorem dX4_pop_75 : decode cX4_pop 75 = .ok (.aload_n 0, 1) := by decide +kernel
theorem dX4_pop_76 : decode cX4_pop 76 = .ok (.getfield 11, 3) := by decide +kernel
theorem dX4_pop_79 : decode cX4_pop 79 = .ok (.iload 4, 2) := by decide +kernel
theorem dX4_pop_8 : decode cX4_pop 8 = .ok (.ireturn, 1) := by decide +kernel
theorem dX4_pop_81 : decode cX4_pop 81 = .ok (.iconst 2, 1) := by decide +kernel
theorem dX4_pop_82 : decode cX4_pop 82 = .ok (.iadd, 1) := by decide +kernel
theorem dX4_pop_83 : decode cX4_pop 83 = .ok (.iaload, 1) := by decide +kernel
theorem dX4_pop_84 : decode cX4_pop 84 = .ok (.putfield 33, 3) := by decide +kernel
theorem dX4_pop_87 : decode cX4_pop 87 = .ok (.aload_n 1, 1) := by decide +kernel
theorem dX4_pop_88 : decode cX4_pop 88 = .ok (.iload_n 3, 1) := by decide +kernel
theorem dX4_pop_89 : decode cX4_pop 89 = .ok (.aaload, 1) := by decide +kernel
theorem dX4_pop_9 : decode cX4_pop 9 = .ok (.aload_n 0, 1) := by decide +kernel
theorem dX4_pop_90 : decode cX4_pop 90 = .ok (.aload_n 0, 1) := by decide +kernel
theorem dX4_pop_91 : decode cX4_pop 91 = .ok (.getfield 11, 3) := by decide +kernel
theorem dX4_pop_94 : decode cX4_pop 94 = .ok (.iload 4, 2) := by decide +kernel
theorem dX4_pop_96 : decode cX4_pop 96 = .ok (.iconst 3, 1) := by decide +kernel
theorem dX4_pop_97 : decode cX4_pop 97 = .ok (.iadd, 1) := by decide +kernel
theorem dX4_pop_98 : decode cX4_pop 98 = .ok (.iaload, 1) := by decide +kernel
theorem dX4_pop_99 : decode cX4_pop 99 = .ok (.putfield 36, 3) := by decide +kernel
theorem dX5_dropsTogether_0 : decode cX5_dropsTogether 0 = .ok (.iconst 0, 1) := by decide +kernel
theorem dX5_dropsTogether_1 : decode cX5_dropsTogether 1 = .ok (.istore_n 1, 1) := by decide +kernel
theorem dX5_dropsTogether_12 : decode cX5_dropsTogether 12 = .ok (.iload_n 1, 1) := by decide +kernel
theorem dX5_dropsTogether_13 : decode cX5_dropsTogether 13 = .ok (.aload_n 0, 1) := by decide +kernel
theorem dX5_dropsTogether_14 : decode cX5_dropsTogether 14 = .ok (.getfield 23, 3) := by decide +kernel
theorem dX5_dropsTogether_17 : decode cX5_dropsTogether 17 = .ok (.iload_n 2, 1) := by decide +kernel
theorem dX5_dropsTogether_18 : decode cX5_dropsTogether 18 = .ok (.aaload, 1) := by decide +kernel
theorem dX5_dropsTogether_19 : decode cX5_dropsTogether 19 = .ok (.getfield 91, 3) := by decide +kernel
theorem dX5_dropsTogether_2 : decode cX5_dropsTogether 2 = .ok (.iconst 0, 1) := by decide +kernel
theorem dX5_dropsTogether_22 : decode cX5_dropsTogether 22 = .ok (.iadd, 1) := by decide +kernel
theorem dX5_dropsTogether_23 : decode cX5_dropsTogether 23 = .ok (.istore_n 1, 1) := by decide +kernel
theorem dX5_dropsTogether_24 : decode cX5_dropsTogether 24 = .ok (.iinc 2 1, 3) := by decide +kernel
theorem dX5_dropsTogether_27 : decode cX5_dropsTogether 27 = .ok (.goto (-23), 3) := by decide +kernel
theorem dX5_dropsTogether_3 : decode cX5_dropsTogether 3 = .ok (.istore_n 2, 1) := by decide +kernel
theorem dX5_dropsTogether_30 : decode cX5_dropsTogether 30 = .ok (.iload_n 1, 1) := by decide +kernel
theorem dX5_dropsTogether_31 : decode cX5_dropsTogether 31 = .ok (.ireturn, 1) := by decide +kernel
theorem dX5_dropsTogether_4 : decode cX5_dropsTogether 4 = .ok (.iload_n 2, 1) := by decide +kernel
theorem dX5_dropsTogether_5 : decode cX5_dropsTogether 5 = .ok (.aload_n 0, 1) := by decide +kernel
theorem dX5_dropsTogether_6 : decode cX5_dropsTogether 6 = .ok (.getfield 18, 3) := by decide +kernel
theorem dX5_dropsTogether_9 : decode cX5_dropsTogether 9 = .ok (.if_icmp .ge 21, 3) := by decide +kernel
theorem dX5_goOn_0 : decode cX5_goOn 0 = .ok (.aload_n 0, 1) := by decide +kernel
theorem dX5_goOn_1 : decode cX5_goOn 1 = .ok (.dup, 1) := by decide +kernel
theorem dX5_goOn_10 : decode cX5_goOn 10 = .ok (.iconst 0, 1) := by decide +kernel
theorem dX5_goOn_11 : decode cX5_goOn 11 = .ok (.istore_n 1, 1) := by decide +kernel
theorem dX5_goOn_12 : decode cX5_goOn 12 = .ok (.iload_n 1, 1) := by decide +kernel
theorem dX5_goOn_13 : decode cX5_goOn 13 = .ok (.aload_n 0, 1) := by decide +kernel
theorem dX5_goOn_14 : decode cX5_goOn 14 = .ok (.getfield 18, 3) := by decide +kernel
theorem dX5_goOn_17 : decode cX5_goOn 17 = .ok (.if_icmp .ge 26, 3) := by decide +kernel
theorem dX5_goOn_2 : decode cX5_goOn 2 = .ok (.getfield 15, 3) := by decide +kernel
theorem dX5_goOn_20 : decode cX5_goOn 20 = .ok (.aload_n 0, 1) := by decide +kernel
theorem dX5_goOn_21 : decode cX5_goOn 21 = .ok (.getfield 23, 3) := by decide +kernel
theorem dX5_goOn_24 : decode cX5_goOn 24 = .ok (.iload_n 1, 1) := by decide +kernel
theorem dX5_goOn_25 : decode cX5_goOn 25 = .ok (.aaload, 1) := by decide +kernel
theorem dX5_goOn_26 : decode cX5_goOn 26 = .ok (.aload_n 0, 1) := by decide +kernel
theorem dX5_goOn_27 : decode cX5_goOn 27 = .ok (.getfield 15, 3) := by decide +kernel
theorem dX5_goOn_30 : decode cX5_goOn 30 = .ok (.aload_n 0, 1) := by decide +kernel
theorem dX5_goOn_31 : decode cX5_goOn 31 = .ok (.getfield 9, 3) := by decide +kernel
theorem dX5_goOn_34 : decode cX5_goOn 34 = .ok (.invokevirtual 72, 3) := by decide +kernel
theorem dX5_goOn_37 : decode cX5_goOn 37 = .ok (.iinc 1 1, 3) := by decide +kernel
theorem dX5_goOn_40 : decode cX5_goOn 40 = .ok (.goto (-28), 3) := by decide +kernel
theorem dX5_goOn_43 : decode cX5_goOn 43 = .ok (.return_, 1) := by decide +kernel
theorem dX5_goOn_5 : decode cX5_goOn 5 = .ok (.iconst 1, 1) := by decide +kernel
theorem dX5_goOn_6 : decode cX5_goOn 6 = .ok (.iadd, 1) := by decide +kernel
theorem dX5_goOn_7 : decode cX5_goOn 7 = .ok (.putfield 15, 3) := by decide +kernel
theorem dX5_homes_0 : decode cX5_homes 0 = .ok (.iconst 0, 1) := by decide +kernel
theorem dX5_homes_1 : decode cX5_homes 1 = .ok (.istore_n 1, 1) := by decide +kernel
theorem dX5_homes_12 : decode cX5_homes 12 = .ok (.iload_n 1, 1) := by decide +kernel
theorem dX5_homes_13 : decode cX5_homes 13 = .ok (.aload_n 0, 1) := by decide +kernel
theorem dX5_homes_14 : decode cX5_homes 14 = .ok (.getfield 23, 3) := by decide +kernel
theorem dX5_homes_17 : decode cX5_homes 17 = .ok (.iload_n 2, 1) := by decide +kernel
theorem dX5_homes_18 : decode cX5_homes 18 = .ok (.aaload, 1) := by decide +kernel
theorem dX5_homes_19 : decode cX5_homes 19 = .ok (.invokevirtual 84, 3) := by decide +kernel
theorem dX5_homes_2 : decode cX5_homes 2 = .ok (.iconst 0, 1) := by decide +kernel
theorem dX5_homes_22 : decode cX5_homes 22 = .ok (.ifCond .eq 7, 3) := by decide +kernel
theorem dX5_homes_25 : decode cX5_homes 25 = .ok (.iconst 1, 1) := by decide +kernel
theorem dX5_homes_26 : decode cX5_homes 26 = .ok (.goto 4, 3) := by decide +kernel
theorem dX5_homes_29 : decode cX5_homes 29 = .ok (.iconst 0, 1) := by decide +kernel
theorem dX5_homes_3 : decode cX5_homes 3 = .ok (.istore_n 2, 1) := by decide +kernel
theorem dX5_homes_30 : decode cX5_homes 30 = .ok (.iadd, 1) := by decide +kernel
theorem dX5_homes_31 : decode cX5_homes 31 = .ok (.istore_n 1, 1) := by decide +kernel
theorem dX5_homes_32 : decode cX5_homes 32 = .ok (.iinc 2 1, 3) := by decide +kernel
theorem dX5_homes_35 : decode cX5_homes 35 = .ok (.goto (-31), 3) := by decide +kernel
theorem dX5_homes_38 : decode cX5_homes 38 = .ok (.iload_n 1, 1) := by decide +kernel
theorem dX5_homes_39 : decode cX5_homes 39 = .ok (.ireturn, 1) := by decide +kernel
theorem dX5_homes_4 : decode cX5_homes 4 = .ok (.iload_n 2, 1) := by decide +kernel
theorem dX5_homes_5 : decode cX5_homes 5 = .ok (.aload_n 0, 1) := by decide +kernel
theorem dX5_homes_6 : decode cX5_homes 6 = .ok (.getfield 18, 3) := by decide +kernel
theorem dX5_homes_9 : decode cX5_homes 9 = .ok (.if_icmp .ge 29, 3) := by decide +kernel
theorem dX5_keep_0 : decode cX5_keep 0 = .ok (.aload_n 0, 1) := by decide +kernel
theorem dX5_keep_1 : decode cX5_keep 1 = .ok (.getfield 30, 3) := by decide +kernel
theorem dX5_keep_12 : decode cX5_keep 12 = .ok (.invokevirtual 76, 3) := by decide +kernel
theorem dX5_keep_15 : decode cX5_keep 15 = .ok (.return_, 1) := by decide +kernel
theorem dX5_keep_4 : decode cX5_keep 4 = .ok (.aload_n 0, 1) := by decide +kernel
theorem dX5_keep_5 : decode cX5_keep 5 = .ok (.getfield 15, 3) := by decide +kernel
theorem dX5_keep_8 : decode cX5_keep 8 = .ok (.aload_n 0, 1) := by decide +kernel
theorem dX5_keep_9 : decode cX5_keep 9 = .ok (.getfield 23, 3) := by decide +kernel
theorem dX5_placesTogether_0 : decode cX5_placesTogether 0 = .ok (.iconst 0, 1) := by decide +kernel
theorem dX5_placesTogether_1 : decode cX5_placesTogether 1 = .ok (.istore_n 1, 1) := by decide +kernel
theorem dX5_placesTogether_12 : decode cX5_placesTogether 12 = .ok (.iload_n 1, 1) := by decide +kernel
theorem dX5_placesTogether_13 : decode cX5_placesTogether 13 = .ok (.aload_n 0, 1) := by decide +kernel
theorem dX5_placesTogether_14 : decode cX5_placesTogether 14 = .ok (.getfield 23, 3) := by decide +kernel
theorem dX5_placesTogether_17 : decode cX5_placesTogether 17 = .ok (.iload_n 2, 1) := by decide +kernel
theorem dX5_placesTogether_18 : decode cX5_placesTogether 18 = .ok (.aaload, 1) := by decide +kernel
theorem dX5_placesTogether_19 : decode cX5_placesTogether 19 = .ok (.getfield 88, 3) := by decide +kernel
theorem dX5_placesTogether_2 : decode cX5_placesTogether 2 = .ok (.iconst 0, 1) := by decide +kernel
theorem dX5_placesTogether_22 : decode cX5_placesTogether 22 = .ok (.iadd, 1) := by decide +kernel
theorem dX5_placesTogether_23 : decode cX5_placesTogether 23 = .ok (.istore_n 1, 1) := by decide +kernel
theorem dX5_placesTogether_24 : decode cX5_placesTogether 24 = .ok (.iinc 2 1, 3) := by decide +kernel
theorem dX5_placesTogether_27 : decode cX5_placesTogether 27 = .ok (.goto (-23), 3) := by decide +kernel
theorem dX5_placesTogether_3 : decode cX5_placesTogether 3 = .ok (.istore_n 2, 1) := by decide +kernel
theorem dX5_placesTogether_30 : decode cX5_placesTogether 30 = .ok (.iload_n 1, 1) := by decide +kernel
theorem dX5_placesTogether_31 : decode cX5_placesTogether 31 = .ok (.ireturn, 1) := by decide +kernel
theorem dX5_placesTogether_4 : decode cX5_placesTogether 4 = .ok (.iload_n 2, 1) := by decide +kernel
theorem dX5_placesTogether_5 : decode cX5_placesTogether 5 = .ok (.aload_n 0, 1) := by decide +kernel
theorem dX5_placesTogether_6 : decode cX5_placesTogether 6 = .ok (.getfield 18, 3) := by decide +kernel
theorem dX5_placesTogether_9 : decode cX5_placesTogether 9 = .ok (.if_icmp .ge 21, 3) := by decide +kernel
theorem dX5_restart_0 : decode cX5_restart 0 = .ok (.aload_n 0, 1) := by decide +kernel
theorem dX5_restart_1 : decode cX5_restart 1 = .ok (.iload_n 1, 1) := by decide +kernel
theorem dX5_restart_10 : decode cX5_restart 10 = .ok (.aload_n 0, 1) := by decide +kernel
theorem dX5_restart_11 : decode cX5_restart 11 = .ok (.iconst 0, 1) := by decide +kernel
theorem dX5_restart_12 : decode cX5_restart 12 = .ok (.putfield 18, 3) := by decide +kernel
theorem dX5_restart_15 : decode cX5_restart 15 = .ok (.aload_n 0, 1) := by decide +kernel
theorem dX5_restart_16 : decode cX5_restart 16 = .ok (.getfield 30, 3) := by decide +kernel
theorem dX5_restart_19 : decode cX5_restart 19 = .ok (.iconst 0, 1) := by decide +kernel
theorem dX5_restart_2 : decode cX5_restart 2 = .ok (.putfield 9, 3) := by decide +kernel
theorem dX5_restart_20 : decode cX5_restart 20 = .ok (.putfield 50, 3) := by decide +kernel
theorem dX5_restart_23 : decode cX5_restart 23 = .ok (.aload_n 0, 1) := by decide +kernel
theorem dX5_restart_24 : decode cX5_restart 24 = .ok (.getfield 39, 3) := by decide +kernel
theorem dX5_restart_27 : decode cX5_restart 27 = .ok (.iconst 0, 1) := by decide +kernel
theorem dX5_restart_28 : decode cX5_restart 28 = .ok (.putfield 53, 3) := by decide +kernel
theorem dX5_restart_31 : decode cX5_restart 31 = .ok (.aload_n 0, 1) := by decide +kernel
theorem dX5_restart_32 : decode cX5_restart 32 = .ok (.getfield 43, 3) := by decide +kernel
theorem dX5_restart_35 : decode cX5_restart 35 = .ok (.iconst 0, 1) := by decide +kernel
theorem dX5_restart_36 : decode cX5_restart 36 = .ok (.putfield 53, 3) := by decide +kernel
theorem dX5_restart_39 : decode cX5_restart 39 = .ok (.aload_n 0, 1) := by decide +kernel
theorem dX5_restart_40 : decode cX5_restart 40 = .ok (.getfield 46, 3) := by decide +kernel
theorem dX5_restart_43 : decode cX5_restart 43 = .ok (.iconst 0, 1) := by decide +kernel
theorem dX5_restart_44 : decode cX5_restart 44 = .ok (.putfield 53, 3) := by decide +kernel
theorem dX5_restart_47 : decode cX5_restart 47 = .ok (.return_, 1) := by decide +kernel
theorem dX5_restart_5 : decode cX5_restart 5 = .ok (.aload_n 0, 1) := by decide +kernel
theorem dX5_restart_6 : decode cX5_restart 6 = .ok (.iconst 0, 1) := by decide +kernel
theorem dX5_restart_7 : decode cX5_restart 7 = .ok (.putfield 15, 3) := by decide +kernel
theorem dX5_takeBack_0 : decode cX5_takeBack 0 = .ok (.aload_n 0, 1) := by decide +kernel
theorem dX5_takeBack_1 : decode cX5_takeBack 1 = .ok (.getfield 30, 3) := by decide +kernel
theorem dX5_takeBack_11 : decode cX5_takeBack 11 = .ok (.istore_n 1, 1) := by decide +kernel
theorem dX5_takeBack_12 : decode cX5_takeBack 12 = .ok (.iload_n 1, 1) := by decide +kernel
theorem dX5_takeBack_13 : decode cX5_takeBack 13 = .ok (.iconst (-1), 1) := by decide +kernel
theorem dX5_takeBack_14 : decode cX5_takeBack 14 = .ok (.if_icmp .ne 5, 3) := by decide +kernel
theorem dX5_takeBack_17 : decode cX5_takeBack 17 = .ok (.iconst 0, 1) := by decide +kernel
theorem dX5_takeBack_18 : decode cX5_takeBack 18 = .ok (.ireturn, 1) := by decide +kernel
theorem dX5_takeBack_19 : decode cX5_takeBack 19 = .ok (.aload_n 0, 1) := by decide +kernel
theorem dX5_takeBack_20 : decode cX5_takeBack 20 = .ok (.iload_n 1, 1) := by decide +kernel
theorem dX5_takeBack_21 : decode cX5_takeBack 21 = .ok (.putfield 15, 3) := by decide +kernel
theorem dX5_takeBack_24 : decode cX5_takeBack 24 = .ok (.iconst 1, 1) := by decide +kernel
theorem dX5_takeBack_25 : decode cX5_takeBack 25 = .ok (.ireturn, 1) := by decide +kernel
theorem dX5_takeBack_4 : decode cX5_takeBack 4 = .ok (.aload_n 0, 1) := by decide +kernel
theorem dX5_takeBack_5 : decode cX5_takeBack 5 = .ok (.getfield 23, 3) := by decide +kernel
theorem dX5_takeBack_8 : decode cX5_takeBack 8 = .ok (.invokevirtual 80, 3) := by decide +kernel
theorem in_X4_pop_X4 : ∀ w ∈ wsX40, w ∈ wsX4_pop := by decide +kernel
theorem lk_X4_pop_15 : Cond.fieldLink RX4 15 "EggSpoons$Past" "size" "I" ∈ wsX4_pop := by decide +kernel
theorem lk_X4_pop_11 : Cond.fieldLink RX4 11 "EggSpoons$Past" "cells" "[I" ∈ wsX4_pop := by decide +kernel
theorem in_X4_pop_X8 : ∀ w ∈ wsX80, w ∈ wsX4_pop := by decide +kernel
theorem lk_X4_pop_25 : Cond.fieldLink RX4 25 "EggSpoons$Runner" "speed" "I" ∈ wsX4_pop := by decide +kernel
theorem lk_X4_pop_30 : Cond.fieldLink RX4 30 "EggSpoons$Runner" "place" "I" ∈ wsX4_pop := by decide +kernel
theorem lk_X4_pop_33 : Cond.fieldLink RX4 33 "EggSpoons$Runner" "drops" "I" ∈ wsX4_pop := by decide +kernel
theorem lk_X4_pop_36 : Cond.fieldLink RX4 36 "EggSpoons$Runner" "waits" "I" ∈ wsX4_pop := by decide +kernel
theorem lk_X4_pop_39 : Cond.fieldLink RX4 39 "EggSpoons$Runner" "homeAt" "I" ∈ wsX4_pop := by decide +kernel
set_option maxHeartbeats 4000000 in
set_option maxRecDepth 100000 in
/-- pop -/
theorem s_pop (l : Launch) (X : EX) (hn : Nat) (an : Nat → Nat) (sv : Nat → Int32) (dv : Nat → Int32) (n0 : Nat) (n1 : Nat) (n2 : Nat) (n3 : Nat) (n4 : Nat) (g0 : Nat → Int32) (gs : Nat → Int32) (gn : Nat → Int32) (gm : Nat → Int32) (hI_n0 : n0 ≤ 6) (hI_n1 : n1 ≤ 8) (hI_n2 : n2 ≤ 5) (hI_n3 : n3 ≤ 6) (hI_n4 : n4 ≤ 6) (sz : Nat) : Met l yX4_pop wsX4_pop ({ frames := 0, cells := 0, slots := 0, locals := 0 } : Room) (pE X [.ref (an 7), .ref (an 0)] (rcV X hn an sv dv n0 n1 n2 n3 n4 g0 gs gn gm) sz) (qI (fun (r : Int32) (u : (Nat → Int32) × (Nat)) => u.2 ≤ 8 ∧ (True)) X (fun (u : (Nat → Int32) × (Nat)) => rcV X hn an sv u.1 n0 u.2 n2 n3 n4 g0 gs gn gm) (rcV X hn an sv dv n0 n1 n2 n3 n4 g0 gs gn gm) sz) 0 0 (va_A (rcV X hn an sv dv n0 n1 n2 n3 n4 g0 gs gn gm) sz) := by
  refine mk_met (B := (va_A (rcV X hn an sv dv n0 n1 n2 n3 n4 g0 gs gn gm) sz)) (A := (va_A (rcV X hn an sv dv n0 n1 n2 n3 n4 g0 gs gn gm) sz)) (cc := cX4_pop) (maxL := 5) (ret := (some .int)) (by decide) rfl (Nat.le_of_ble_eq_true rfl) k_w k_a (fun p e s m below meth c S zr zlk znm zsz G ls hl => ?_)
  have S : CallFix p m c cX4_pop 5 s _ wsX4_pop RX4 := S
  have zx := S.1
  have zb := S.2.1
  have hl : lv_has ls 5 [(0, .ref (an 7)), (1, .ref (an 0))] := hl
  refine lv_aload_n zx zb dX4_pop_0 rfl (lv_at hl 0 rfl) ?_
  refine r_get (C := RX4) (T := TX4) (N := 2) (ci := 2) (v := .int (nI n1)) S in_X4_pop_X4 G 8 rfl rfl 1 (by decide) lk_X4_pop_15 rfl dX4_pop_1 ?_
  refine lv_if_gt (tgt := 9) zx zb dX4_pop_4 (by decide) (fun c_1 => ?_) (fun c_1 => ?_)
  · have fc_1 := j_lt (a := 0) (b := n1) (by omega) (by omega) c_1
    refine lv_aload_n zx zb dX4_pop_9 rfl (lv_at hl 0 rfl) ?_
    refine lv_dup zx zb dX4_pop_10 rfl ?_
    refine r_get (C := RX4) (T := TX4) (N := 2) (ci := 2) (v := .int (nI n1)) S in_X4_pop_X4 G 8 rfl rfl 1 (by decide) lk_X4_pop_15 rfl dX4_pop_11 ?_
    refine lv_iconst (v := 1) zx zb dX4_pop_14 (by decide) ?_
    refine r_isub (v := (nI (n1 - 1))) S (pk_sub (a := n1) (b := 1) (by omega)) dX4_pop_15 ?_
    refine r_put (C := RX4) (T := TX4) (N := 2) (ci := 2) (v := .int (nI (n1 - 1))) S in_X4_pop_X4 tyX4_ok nmX4 G 8 rfl rfl 1 (by decide) lk_X4_pop_15 rfl (vp_nar_int _) rfl (Nat.le_of_ble_eq_true rfl) dX4_pop_16 (fun H locs G => ?_)
    obtain ⟨n_2, hI_n_2, hE_n_2, G⟩ : ∃ n_2 : Nat, n_2 ≤ 8 ∧ n_2 = (n1 - 1) ∧ wd X (va_A (rcV X hn an sv dv n0 n1 n2 n3 n4 g0 gs gn gm) sz) (va_A (rcV X hn an sv dv n0 n1 n2 n3 n4 g0 gs gn gm) sz) s (rcV X hn an sv dv n0 n_2 n2 n3 n4 g0 gs gn gm) H locs := ⟨(n1 - 1), by omega, rfl, G⟩
    refine lv_aload_n zx zb dX4_pop_19 rfl (lv_at hl 0 rfl) ?_
    refine r_get (C := RX4) (T := TX4) (N := 2) (ci := 2) (v := .int (nI n_2)) S in_X4_pop_X4 G 8 rfl rfl 1 (by decide) lk_X4_pop_15 rfl dX4_pop_20 ?_
    refine lv_bipush (v := 31) zx zb dX4_pop_23 (by decide) ?_
    refine r_imul (v := (nI (n_2 * 31))) S (pk_mul n_2 31) dX4_pop_25 ?_
    refine lv_istore_n (lv' := [(2, .int (nI (n_2 * 31))), (0, .ref (an 7)), (1, .ref (an 0))]) zx zb dX4_pop_26 rfl hl (by decide) rfl (fun ls hl => ?_)
    refine lv_iconst (v := 0) zx zb dX4_pop_27 (by decide) ?_
    refine lv_istore_n (lv' := [(3, .int 0), (2, .int (nI (n_2 * 31))), (0, .ref (an 7)), (1, .ref (an 0))]) zx zb dX4_pop_28 rfl hl (by decide) rfl (fun ls hl => ?_)
    refine k_loop (P := ∀ (zm : Nat) (k29 : Nat) (dv29_0 : Nat → Int32) (H : Heap) (locs : List Loc) (ls : Array Slot), 6 + 1 ≤ k29 + zm → (k29 ≤ 6) → wd X (va_A (rcV X hn an sv dv n0 n1 n2 n3 n4 g0 gs gn gm) sz) (va_A (rcV X hn an sv dv n0 n1 n2 n3 n4 g0 gs gn gm) sz) s (rcV X hn an sv dv29_0 n0 n_2 n2 n3 n4 g0 gs gn gm) H locs → lv_has ls 5 [(3, .int (nI k29)), (2, .int (nI (n_2 * 31))), (0, .ref (an 7)), (1, .ref (an 0))] → W p l e _ s m _ below meth c H locs _ _ _ (F0 m 29 ls [])) (fun loop => loop (6 + 1) 0 dv _ _ _ (by omega) (by omega) G hl) ?_
    intro zm
    induction zm with
    | zero => intro k29 dv29_0 H locs ls zz q_hk_k29 _ _; exact absurd zz (by omega)
    | succ zm ih29 =>
      intro k29 dv29_0 H locs ls zm_29 hk_k29 G hl
      refine lv_iload_n zx zb dX4_pop_29 rfl (lv_at hl 0 rfl) ?_
      refine lv_bipush (v := 6) zx zb dX4_pop_30 (by decide) ?_
      refine lv_icmp_ge (tgt := 123) zx zb dX4_pop_32 (by decide) (fun c_3 => ?_) (fun c_3 => ?_)
      · have fc_3 := j_le (a := 6) (b := k29) (by omega) (by omega) c_3
        refine lv_aload_n zx zb dX4_pop_123 rfl (lv_at hl 2 rfl) ?_
        refine r_get (C := RX4) (T := TX4) (N := 2) (ci := 2) (v := .ref (an 8)) S in_X4_pop_X4 G 8 rfl rfl 0 (by decide) lk_X4_pop_11 rfl dX4_pop_124 ?_
        refine lv_iload_n zx zb dX4_pop_127 rfl (lv_at hl 1 rfl) ?_
        refine r_iald S G 9 rfl (vp_in_nI (by omega) (by decide)) rfl dX4_pop_128 ?_
        refine k_itE (fun y_4 => ?_)
        exact e_int S zr zlk (vp_nar_int _) G (dv29_0, n_2) [0, 1, 2, 3, 4, 5, 6, 7, 8, 9, 10, 11, 12, 13, 14, 15] rfl rfl (Or.inr rfl) (⟨hI_n_2, trivial⟩) dX4_pop_129
      · have fc_3 := j_nle (a := 6) (b := k29) (by omega) (by omega) c_3
        refine lv_iload_n zx zb dX4_pop_35 rfl (lv_at hl 1 rfl) ?_
        refine lv_iconst (v := 1) zx zb dX4_pop_36 (by decide) ?_
        refine r_iadd (v := (nI ((n_2 * 31) + 1))) S (nI_add (n_2 * 31) 1) dX4_pop_37 ?_
        refine lv_iload_n zx zb dX4_pop_38 rfl (lv_at hl 0 rfl) ?_
        refine lv_iconst (v := 5) zx zb dX4_pop_39 (by decide) ?_
        refine r_imul (v := (nI (k29 * 5))) S (pk_mul k29 5) dX4_pop_40 ?_
        refine r_iadd (v := (nI (((n_2 * 31) + 1) + (k29 * 5)))) S (nI_add ((n_2 * 31) + 1) (k29 * 5)) dX4_pop_41 ?_
        refine lv_istore (lv' := [(4, .int (nI (((n_2 * 31) + 1) + (k29 * 5)))), (3, .int (nI k29)), (2, .int (nI (n_2 * 31))), (0, .ref (an 7)), (1, .ref (an 0))]) zx zb dX4_pop_42 hl (by decide) rfl (fun ls hl => ?_)
        refine lv_aload_n zx zb dX4_pop_44 rfl (lv_at hl 4 rfl) ?_
        refine lv_iload_n zx zb dX4_pop_45 rfl (lv_at hl 1 rfl) ?_
        rcases k_6c (show k29 < 6 by omega) with rfl | rfl | rfl | rfl | rfl | rfl
        · refine k_it (v := 0) rfl ?_
          refine r_aald (C := RX8) (b := (an 1)) S G 1 3 rfl rfl (k_vp (by decide)) rfl dX4_pop_46 ?_
          refine lv_aload_n zx zb dX4_pop_47 rfl (lv_at hl 3 rfl) ?_
          refine r_get (C := RX4) (T := TX4) (N := 2) (ci := 2) (v := .ref (an 8)) S in_X4_pop_X4 G 8 rfl rfl 0 (by decide) lk_X4_pop_11 rfl dX4_pop_48 ?_
          refine lv_iload zx zb dX4_pop_51 (lv_at hl 0 rfl) ?_
          refine r_iald S G 9 rfl (vp_in_nI (by omega) (by decide)) rfl dX4_pop_53 ?_
          refine k_itE (fun y_5 => ?_)
          refine r_put (C := RX8) (T := TX8) (N := 8) (ci := 6) (v := .int y_5) S in_X4_pop_X8 tyX8_ok nmX8 G 2 rfl rfl 3 (by decide) lk_X4_pop_25 rfl (vp_nar_int _) rfl (Nat.le_of_ble_eq_true rfl) dX4_pop_54 (fun H locs G => ?_)
          obtain ⟨dv_6, G⟩ : ∃ dv_6 : Nat → Int32, wd X (va_A (rcV X hn an sv dv n0 n1 n2 n3 n4 g0 gs gn gm) sz) (va_A (rcV X hn an sv dv n0 n1 n2 n3 n4 g0 gs gn gm) sz) s (rcV X hn an sv dv_6 n0 n_2 n2 n3 n4 g0 gs gn gm) H locs := ⟨upd dv29_0 10 y_5, G⟩
          refine lv_aload_n zx zb dX4_pop_57 rfl (lv_at hl 4 rfl) ?_
          refine lv_iload_n zx zb dX4_pop_58 rfl (lv_at hl 1 rfl) ?_
          refine r_aald (C := RX8) (b := (an 1)) S G 1 3 rfl rfl (k_vp (by decide)) rfl dX4_pop_59 ?_
          refine lv_aload_n zx zb dX4_pop_60 rfl (lv_at hl 3 rfl) ?_
          refine r_get (C := RX4) (T := TX4) (N := 2) (ci := 2) (v := .ref (an 8)) S in_X4_pop_X4 G 8 rfl rfl 0 (by decide) lk_X4_pop_11 rfl dX4_pop_61 ?_
          refine lv_iload zx zb dX4_pop_64 (lv_at hl 0 rfl) ?_
          refine lv_iconst (v := 1) zx zb dX4_pop_66 (by decide) ?_
          refine r_iadd (v := (nI ((((n_2 * 31) + 1) + (0 * 5)) + 1))) S (nI_add (((n_2 * 31) + 1) + (0 * 5)) 1) dX4_pop_67 ?_
          refine r_iald S G 9 rfl (vp_in_nI (by omega) (by decide)) rfl dX4_pop_68 ?_
          refine k_itE (fun y_7 => ?_)
          refine r_put (C := RX8) (T := TX8) (N := 8) (ci := 6) (v := .int y_7) S in_X4_pop_X8 tyX8_ok nmX8 G 2 rfl rfl 4 (by decide) lk_X4_pop_30 rfl (vp_nar_int _) rfl (Nat.le_of_ble_eq_true rfl) dX4_pop_69 (fun H locs G => ?_)
          obtain ⟨dv_8, G⟩ : ∃ dv_8 : Nat → Int32, wd X (va_A (rcV X hn an sv dv n0 n1 n2 n3 n4 g0 gs gn gm) sz) (va_A (rcV X hn an sv dv n0 n1 n2 n3 n4 g0 gs gn gm) sz) s (rcV X hn an sv dv_8 n0 n_2 n2 n3 n4 g0 gs gn gm) H locs := ⟨upd dv_6 11 y_7, G⟩
          refine lv_aload_n zx zb dX4_pop_72 rfl (lv_at hl 4 rfl) ?_
          refine lv_iload_n zx zb dX4_pop_73 rfl (lv_at hl 1 rfl) ?_
          refine r_aald (C := RX8) (b := (an 1)) S G 1 3 rfl rfl (k_vp (by decide)) rfl dX4_pop_74 ?_
          refine lv_aload_n zx zb dX4_pop_75 rfl (lv_at hl 3 rfl) ?_
          refine r_get (C := RX4) (T := TX4) (N := 2) (ci := 2) (v := .ref (an 8)) S in_X4_pop_X4 G 8 rfl rfl 0 (by decide) lk_X4_pop_11 rfl dX4_pop_76 ?_
          refine lv_iload zx zb dX4_pop_79 (lv_at hl 0 rfl) ?_
          refine lv_iconst (v := 2) zx zb dX4_pop_81 (by decide) ?_
          refine r_iadd (v := (nI ((((n_2 * 31) + 1) + (0 * 5)) + 2))) S (nI_add (((n_2 * 31) + 1) + (0 * 5)) 2) dX4_pop_82 ?_
          refine r_iald S G 9 rfl (vp_in_nI (by omega) (by decide)) rfl dX4_pop_83 ?_
          refine k_itE (fun y_9 => ?_)
          refine r_put (C := RX8) (T := TX8) (N := 8) (ci := 6) (v := .int y_9) S in_X4_pop_X8 tyX8_ok nmX8 G 2 rfl rfl 5 (by decide) lk_X4_pop_33 rfl (vp_nar_int _) rfl (Nat.le_of_ble_eq_true rfl) dX4_pop_84 (fun H locs G => ?_)
          obtain ⟨dv_10, G⟩ : ∃ dv_10 : Nat → Int32, wd X (va_A (rcV X hn an sv dv n0 n1 n2 n3 n4 g0 gs gn gm) sz) (va_A (rcV X hn an sv dv n0 n1 n2 n3 n4 g0 gs gn gm) sz) s (rcV X hn an sv dv_10 n0 n_2 n2 n3 n4 g0 gs gn gm) H locs := ⟨upd dv_8 12 y_9, G⟩
          refine lv_aload_n zx zb dX4_pop_87 rfl (lv_at hl 4 rfl) ?_
          refine lv_iload_n zx zb dX4_pop_88 rfl (lv_at hl 1 rfl) ?_
          refine r_aald (C := RX8) (b := (an 1)) S G 1 3 rfl rfl (k_vp (by decide)) rfl dX4_pop_89 ?_
          refine lv_aload_n zx zb dX4_pop_90 rfl (lv_at hl 3 rfl) ?_
          refine r_get (C := RX4) (T := TX4) (N := 2) (ci := 2) (v := .ref (an 8)) S in_X4_pop_X4 G 8 rfl rfl 0 (by decide) lk_X4_pop_11 rfl dX4_pop_91 ?_
          refine lv_iload zx zb dX4_pop_94 (lv_at hl 0 rfl) ?_
          refine lv_iconst (v := 3) zx zb dX4_pop_96 (by decide) ?_
          refine r_iadd (v := (nI ((((n_2 * 31) + 1) + (0 * 5)) + 3))) S (nI_add (((n_2 * 31) + 1) + (0 * 5)) 3) dX4_pop_97 ?_
          refine r_iald S G 9 rfl (vp_in_nI (by omega) (by decide)) rfl dX4_pop_98 ?_
          refine k_itE (fun y_11 => ?_)
          refine r_put (C := RX8) (T := TX8) (N := 8) (ci := 6) (v := .int y_11) S in_X4_pop_X8 tyX8_ok nmX8 G 2 rfl rfl 6 (by decide) lk_X4_pop_36 rfl (vp_nar_int _) rfl (Nat.le_of_ble_eq_true rfl) dX4_pop_99 (fun H locs G => ?_)
          obtain ⟨dv_12, G⟩ : ∃ dv_12 : Nat → Int32, wd X (va_A (rcV X hn an sv dv n0 n1 n2 n3 n4 g0 gs gn gm) sz) (va_A (rcV X hn an sv dv n0 n1 n2 n3 n4 g0 gs gn gm) sz) s (rcV X hn an sv dv_12 n0 n_2 n2 n3 n4 g0 gs gn gm) H locs := ⟨upd dv_10 13 y_11, G⟩
          refine lv_aload_n zx zb dX4_pop_102 rfl (lv_at hl 4 rfl) ?_
          refine lv_iload_n zx zb dX4_pop_103 rfl (lv_at hl 1 rfl) ?_
          refine r_aald (C := RX8) (b := (an 1)) S G 1 3 rfl rfl (k_vp (by decide)) rfl dX4_pop_104 ?_
          refine lv_aload_n zx zb dX4_pop_105 rfl (lv_at hl 3 rfl) ?_
          refine r_get (C := RX4) (T := TX4) (N := 2) (ci := 2) (v := .ref (an 8)) S in_X4_pop_X4 G 8 rfl rfl 0 (by decide) lk_X4_pop_11 rfl dX4_pop_106 ?_
          refine lv_iload zx zb dX4_pop_109 (lv_at hl 0 rfl) ?_
          refine lv_iconst (v := 4) zx zb dX4_pop_111 (by decide) ?_
          refine r_iadd (v := (nI ((((n_2 * 31) + 1) + (0 * 5)) + 4))) S (nI_add (((n_2 * 31) + 1) + (0 * 5)) 4) dX4_pop_112 ?_
          refine r_iald S G 9 rfl (vp_in_nI (by omega) (by decide)) rfl dX4_pop_113 ?_
          refine k_itE (fun y_13 => ?_)
          refine r_put (C := RX8) (T := TX8) (N := 8) (ci := 6) (v := .int y_13) S in_X4_pop_X8 tyX8_ok nmX8 G 2 rfl rfl 7 (by decide) lk_X4_pop_39 rfl (vp_nar_int _) rfl (Nat.le_of_ble_eq_true rfl) dX4_pop_114 (fun H locs G => ?_)
          obtain ⟨dv_14, G⟩ : ∃ dv_14 : Nat → Int32, wd X (va_A (rcV X hn an sv dv n0 n1 n2 n3 n4 g0 gs gn gm) sz) (va_A (rcV X hn an sv dv n0 n1 n2 n3 n4 g0 gs gn gm) sz) s (rcV X hn an sv dv_14 n0 n_2 n2 n3 n4 g0 gs gn gm) H locs := ⟨upd dv_12 14 y_13, G⟩
          refine lv_iinc (v := 1) (lv' := [(3, .int 1), (4, .int (nI (((n_2 * 31) + 1) + (0 * 5)))), (2, .int (nI (n_2 * 31))), (0, .ref (an 7)), (1, .ref (an 0))]) zx zb dX4_pop_117 hl (k := 1) rfl (by decide) (by decide) rfl (fun ls hl => ?_)
          refine lv_goto (tgt := 29) zx zb dX4_pop_120 (by decide) ?_
          have hl := lv_sub hl (l' := [(3, .int 1), (2, .int (nI (n_2 * 31))), (0, .ref (an 7)), (1, .ref (an 0))]) [0, 2, 3, 4] rfl
          exact ih29 1 dv_14 _ _ _ (by omega) (by omega) G hl
        · refine k_it (v := 1) rfl ?_
          refine r_aald (C := RX8) (b := (an 2)) S G 1 3 rfl rfl (k_vp (by decide)) rfl dX4_pop_46 ?_
          refine lv_aload_n zx zb dX4_pop_47 rfl (lv_at hl 3 rfl) ?_
          refine r_get (C := RX4) (T := TX4) (N := 2) (ci := 2) (v := .ref (an 8)) S in_X4_pop_X4 G 8 rfl rfl 0 (by decide) lk_X4_pop_11 rfl dX4_pop_48 ?_
          refine lv_iload zx zb dX4_pop_51 (lv_at hl 0 rfl) ?_
          refine r_iald S G 9 rfl (vp_in_nI (by omega) (by decide)) rfl dX4_pop_53 ?_
          refine k_itE (fun y_15 => ?_)
          refine r_put (C := RX8) (T := TX8) (N := 8) (ci := 6) (v := .int y_15) S in_X4_pop_X8 tyX8_ok nmX8 G 3 rfl rfl 3 (by decide) lk_X4_pop_25 rfl (vp_nar_int _) rfl (Nat.le_of_ble_eq_true rfl) dX4_pop_54 (fun H locs G => ?_)
          obtain ⟨dv_16, G⟩ : ∃ dv_16 : Nat → Int32, wd X (va_A (rcV X hn an sv dv n0 n1 n2 n3 n4 g0 gs gn gm) sz) (va_A (rcV X hn an sv dv n0 n1 n2 n3 n4 g0 gs gn gm) sz) s (rcV X hn an sv dv_16 n0 n_2 n2 n3 n4 g0 gs gn gm) H locs := ⟨upd dv29_0 15 y_15, G⟩
          refine lv_aload_n zx zb dX4_pop_57 rfl (lv_at hl 4 rfl) ?_
          refine lv_iload_n zx zb dX4_pop_58 rfl (lv_at hl 1 rfl) ?_
          refine r_aald (C := RX8) (b := (an 2)) S G 1 3 rfl rfl (k_vp (by decide)) rfl dX4_pop_59 ?_
          refine lv_aload_n zx zb dX4_pop_60 rfl (lv_at hl 3 rfl) ?_
          refine r_get (C := RX4) (T := TX4) (N := 2) (ci := 2) (v := .ref (an 8)) S in_X4_pop_X4 G 8 rfl rfl 0 (by decide) lk_X4_pop_11 rfl dX4_pop_61 ?_
          refine lv_iload zx zb dX4_pop_64 (lv_at hl 0 rfl) ?_
          refine lv_iconst (v := 1) zx zb dX4_pop_66 (by decide) ?_
          refine r_iadd (v := (nI ((((n_2 * 31) + 1) + (1 * 5)) + 1))) S (nI_add (((n_2 * 31) + 1) + (1 * 5)) 1) dX4_pop_67 ?_
          refine r_iald S G 9 rfl (vp_in_nI (by omega) (by decide)) rfl dX4_pop_68 ?_
          refine k_itE (fun y_17 => ?_)
          refine r_put (C := RX8) (T := TX8) (N := 8) (ci := 6) (v := .int y_17) S in_X4_pop_X8 tyX8_ok nmX8 G 3 rfl rfl 4 (by decide) lk_X4_pop_30 rfl (vp_nar_int _) rfl (Nat.le_of_ble_eq_true rfl) dX4_pop_69 (fun H locs G => ?_)
          obtain ⟨dv_18, G⟩ : ∃ dv_18 : Nat → Int32, wd X (va_A (rcV X hn an sv dv n0 n1 n2 n3 n4 g0 gs gn gm) sz) (va_A (rcV X hn an sv dv n0 n1 n2 n3 n4 g0 gs gn gm) sz) s (rcV X hn an sv dv_18 n0 n_2 n2 n3 n4 g0 gs gn gm) H locs := ⟨upd dv_16 16 y_17, G⟩
          refine lv_aload_n zx zb dX4_pop_72 rfl (lv_at hl 4 rfl) ?_
          refine lv_iload_n zx zb dX4_pop_73 rfl (lv_at hl 1 rfl) ?_
          refine r_aald (C := RX8) (b := (an 2)) S G 1 3 rfl rfl (k_vp (by decide)) rfl dX4_pop_74 ?_
          refine lv_aload_n zx zb dX4_pop_75 rfl (lv_at hl 3 rfl) ?_
          refine r_get (C := RX4) (T := TX4) (N := 2) (ci := 2) (v := .ref (an 8)) S in_X4_pop_X4 G 8 rfl rfl 0 (by decide) lk_X4_pop_11 rfl dX4_pop_76 ?_
          refine lv_iload zx zb dX4_pop_79 (lv_at hl 0 rfl) ?_
          refine lv_iconst (v := 2) zx zb dX4_pop_81 (by decide) ?_
          refine r_iadd (v := (nI ((((n_2 * 31) + 1) + (1 * 5)) + 2))) S (nI_add (((n_2 * 31) + 1) + (1 * 5)) 2) dX4_pop_82 ?_
          refine r_iald S G 9 rfl (vp_in_nI (by omega) (by decide)) rfl dX4_pop_83 ?_
          refine k_itE (fun y_19 => ?_)
          refine r_put (C := RX8) (T := TX8) (N := 8) (ci := 6) (v := .int y_19) S in_X4_pop_X8 tyX8_ok nmX8 G 3 rfl rfl 5 (by decide) lk_X4_pop_33 rfl (vp_nar_int _) rfl (Nat.le_of_ble_eq_true rfl) dX4_pop_84 (fun H locs G => ?_)
          obtain ⟨dv_20, G⟩ : ∃ dv_20 : Nat → Int32, wd X (va_A (rcV X hn an sv dv n0 n1 n2 n3 n4 g0 gs gn gm) sz) (va_A (rcV X hn an sv dv n0 n1 n2 n3 n4 g0 gs gn gm) sz) s (rcV X hn an sv dv_20 n0 n_2 n2 n3 n4 g0 gs gn gm) H locs := ⟨upd dv_18 17 y_19, G⟩
          refine lv_aload_n zx zb dX4_pop_87 rfl (lv_at hl 4 rfl) ?_
          refine lv_iload_n zx zb dX4_pop_88 rfl (lv_at hl 1 rfl) ?_
          refine r_aald (C := RX8) (b := (an 2)) S G 1 3 rfl rfl (k_vp (by decide)) rfl dX4_pop_89 ?_
          refine lv_aload_n zx zb dX4_pop_90 rfl (lv_at hl 3 rfl) ?_
          refine r_get (C := RX4) (T := TX4) (N := 2) (ci := 2) (v := .ref (an 8)) S in_X4_pop_X4 G 8 rfl rfl 0 (by decide) lk_X4_pop_11 rfl dX4_pop_91 ?_
          refine lv_iload zx zb dX4_pop_94 (lv_at hl 0 rfl) ?_
          refine lv_iconst (v := 3) zx zb dX4_pop_96 (by decide) ?_
          refine r_iadd (v := (nI ((((n_2 * 31) + 1) + (1 * 5)) + 3))) S (nI_add (((n_2 * 31) + 1) + (1 * 5)) 3) dX4_pop_97 ?_
          refine r_iald S G 9 rfl (vp_in_nI (by omega) (by decide)) rfl dX4_pop_98 ?_
          refine k_itE (fun y_21 => ?_)
          refine r_put (C := RX8) (T := TX8) (N := 8) (ci := 6) (v := .int y_21) S in_X4_pop_X8 tyX8_ok nmX8 G 3 rfl rfl 6 (by decide) lk_X4_pop_36 rfl (vp_nar_int _) rfl (Nat.le_of_ble_eq_true rfl) dX4_pop_99 (fun H locs G => ?_)
          obtain ⟨dv_22, G⟩ : ∃ dv_22 : Nat → Int32, wd X (va_A (rcV X hn an sv dv n0 n1 n2 n3 n4 g0 gs gn gm) sz) (va_A (rcV X hn an sv dv n0 n1 n2 n3 n4 g0 gs gn gm) sz) s (rcV X hn an sv dv_22 n0 n_2 n2 n3 n4 g0 gs gn gm) H locs := ⟨upd dv_20 18 y_21, G⟩
          refine lv_aload_n zx zb dX4_pop_102 rfl (lv_at hl 4 rfl) ?_
          refine lv_iload_n zx zb dX4_pop_103 rfl (lv_at hl 1 rfl) ?_
          refine r_aald (C := RX8) (b := (an 2)) S G 1 3 rfl rfl (k_vp (by decide)) rfl dX4_pop_104 ?_
          refine lv_aload_n zx zb dX4_pop_105 rfl (lv_at hl 3 rfl) ?_
          refine r_get (C := RX4) (T := TX4) (N := 2) (ci := 2) (v := .ref (an 8)) S in_X4_pop_X4 G 8 rfl rfl 0 (by decide) lk_X4_pop_11 rfl dX4_pop_106 ?_
          refine lv_iload zx zb dX4_pop_109 (lv_at hl 0 rfl) ?_
          refine lv_iconst (v := 4) zx zb dX4_pop_111 (by decide) ?_
          refine r_iadd (v := (nI ((((n_2 * 31) + 1) + (1 * 5)) + 4))) S (nI_add (((n_2 * 31) + 1) + (1 * 5)) 4) dX4_pop_112 ?_
          refine r_iald S G 9 rfl (vp_in_nI (by omega) (by decide)) rfl dX4_pop_113 ?_
          refine k_itE (fun y_23 => ?_)
          refine r_put (C := RX8) (T := TX8) (N := 8) (ci := 6) (v := .int y_23) S in_X4_pop_X8 tyX8_ok nmX8 G 3 rfl rfl 7 (by decide) lk_X4_pop_39 rfl (vp_nar_int _) rfl (Nat.le_of_ble_eq_true rfl) dX4_pop_114 (fun H locs G => ?_)
          obtain ⟨dv_24, G⟩ : ∃ dv_24 : Nat → Int32, wd X (va_A (rcV X hn an sv dv n0 n1 n2 n3 n4 g0 gs gn gm) sz) (va_A (rcV X hn an sv dv n0 n1 n2 n3 n4 g0 gs gn gm) sz) s (rcV X hn an sv dv_24 n0 n_2 n2 n3 n4 g0 gs gn gm) H locs := ⟨upd dv_22 19 y_23, G⟩
          refine lv_iinc (v := 2) (lv' := [(3, .int 2), (4, .int (nI (((n_2 * 31) + 1) + (1 * 5)))), (2, .int (nI (n_2 * 31))), (0, .ref (an 7)), (1, .ref (an 0))]) zx zb dX4_pop_117 hl (k := 1) rfl (by decide) (by decide) rfl (fun ls hl => ?_)
          refine lv_goto (tgt := 29) zx zb dX4_pop_120 (by decide) ?_
          have hl := lv_sub hl (l' := [(3, .int 2), (2, .int (nI (n_2 * 31))), (0, .ref (an 7)), (1, .ref (an 0))]) [0, 2, 3, 4] rfl
          exact ih29 2 dv_24 _ _ _ (by omega) (by omega) G hl
        · refine k_it (v := 2) rfl ?_
          refine r_aald (C := RX8) (b := (an 3)) S G 1 3 rfl rfl (k_vp (by decide)) rfl dX4_pop_46 ?_
          refine lv_aload_n zx zb dX4_pop_47 rfl (lv_at hl 3 rfl) ?_
          refine r_get (C := RX4) (T := TX4) (N := 2) (ci := 2) (v := .ref (an 8)) S in_X4_pop_X4 G 8 rfl rfl 0 (by decide) lk_X4_pop_11 rfl dX4_pop_48 ?_
          refine lv_iload zx zb dX4_pop_51 (lv_at hl 0 rfl) ?_
          refine r_iald S G 9 rfl (vp_in_nI (by omega) (by decide)) rfl dX4_pop_53 ?_
          refine k_itE (fun y_25 => ?_)
          refine r_put (C := RX8) (T := TX8) (N := 8) (ci := 6) (v := .int y_25) S in_X4_pop_X8 tyX8_ok nmX8 G 4 rfl rfl 3 (by decide) lk_X4_pop_25 rfl (vp_nar_int _) rfl (Nat.le_of_ble_eq_true rfl) dX4_pop_54 (fun H locs G => ?_)
          obtain ⟨dv_26, G⟩ : ∃ dv_26 : Nat → Int32, wd X (va_A (rcV X hn an sv dv n0 n1 n2 n3 n4 g0 gs gn gm) sz) (va_A (rcV X hn an sv dv n0 n1 n2 n3 n4 g0 gs gn gm) sz) s (rcV X hn an sv dv_26 n0 n_2 n2 n3 n4 g0 gs gn gm) H locs := ⟨upd dv29_0 20 y_25, G⟩
          refine lv_aload_n zx zb dX4_pop_57 rfl (lv_at hl 4 rfl) ?_
          refine lv_iload_n zx zb dX4_pop_58 rfl (lv_at hl 1 rfl) ?_
          refine r_aald (C := RX8) (b := (an 3)) S G 1 3 rfl rfl (k_vp (by decide)) rfl dX4_pop_59 ?_
          refine lv_aload_n zx zb dX4_pop_60 rfl (lv_at hl 3 rfl) ?_
          refine r_get (C := RX4) (T := TX4) (N := 2) (ci := 2) (v := .ref (an 8)) S in_X4_pop_X4 G 8 rfl rfl 0 (by decide) lk_X4_pop_11 rfl dX4_pop_61 ?_
          refine lv_iload zx zb dX4_pop_64 (lv_at hl 0 rfl) ?_
          refine lv_iconst (v := 1) zx zb dX4_pop_66 (by decide) ?_
          refine r_iadd (v := (nI ((((n_2 * 31) + 1) + (2 * 5)) + 1))) S (nI_add (((n_2 * 31) + 1) + (2 * 5)) 1) dX4_pop_67 ?_
          refine r_iald S G 9 rfl (vp_in_nI (by omega) (by decide)) rfl dX4_pop_68 ?_
          refine k_itE (fun y_27 => ?_)
          refine r_put (C := RX8) (T := TX8) (N := 8) (ci := 6) (v := .int y_27) S in_X4_pop_X8 tyX8_ok nmX8 G 4 rfl rfl 4 (by decide) lk_X4_pop_30 rfl (vp_nar_int _) rfl (Nat.le_of_ble_eq_true rfl) dX4_pop_69 (fun H locs G => ?_)
          obtain ⟨dv_28, G⟩ : ∃ dv_28 : Nat → Int32, wd X (va_A (rcV X hn an sv dv n0 n1 n2 n3 n4 g0 gs gn gm) sz) (va_A (rcV X hn an sv dv n0 n1 n2 n3 n4 g0 gs gn gm) sz) s (rcV X hn an sv dv_28 n0 n_2 n2 n3 n4 g0 gs gn gm) H locs := ⟨upd dv_26 21 y_27, G⟩
          refine lv_aload_n zx zb dX4_pop_72 rfl (lv_at hl 4 rfl) ?_
          refine lv_iload_n zx zb dX4_pop_73 rfl (lv_at hl 1 rfl) ?_
          refine r_aald (C := RX8) (b := (an 3)) S G 1 3 rfl rfl (k_vp (by decide)) rfl dX4_pop_74 ?_
          refine lv_aload_n zx zb dX4_pop_75 rfl (lv_at hl 3 rfl) ?_
          refine r_get (C := RX4) (T := TX4) (N := 2) (ci := 2) (v := .ref (an 8)) S in_X4_pop_X4 G 8 rfl rfl 0 (by decide) lk_X4_pop_11 rfl dX4_pop_76 ?_
          refine lv_iload zx zb dX4_pop_79 (lv_at hl 0 rfl) ?_
          refine lv_iconst (v := 2) zx zb dX4_pop_81 (by decide) ?_
          refine r_iadd (v := (nI ((((n_2 * 31) + 1) + (2 * 5)) + 2))) S (nI_add (((n_2 * 31) + 1) + (2 * 5)) 2) dX4_pop_82 ?_
          refine r_iald S G 9 rfl (vp_in_nI (by omega) (by decide)) rfl dX4_pop_83 ?_
          refine k_itE (fun y_29 => ?_)
          refine r_put (C := RX8) (T := TX8) (N := 8) (ci := 6) (v := .int y_29) S in_X4_pop_X8 tyX8_ok nmX8 G 4 rfl rfl 5 (by decide) lk_X4_pop_33 rfl (vp_nar_int _) rfl (Nat.le_of_ble_eq_true rfl) dX4_pop_84 (fun H locs G => ?_)
          obtain ⟨dv_30, G⟩ : ∃ dv_30 : Nat → Int32, wd X (va_A (rcV X hn an sv dv n0 n1 n2 n3 n4 g0 gs gn gm) sz) (va_A (rcV X hn an sv dv n0 n1 n2 n3 n4 g0 gs gn gm) sz) s (rcV X hn an sv dv_30 n0 n_2 n2 n3 n4 g0 gs gn gm) H locs := ⟨upd dv_28 22 y_29, G⟩
          refine lv_aload_n zx zb dX4_pop_87 rfl (lv_at hl 4 rfl) ?_
          refine lv_iload_n zx zb dX4_pop_88 rfl (lv_at hl 1 rfl) ?_
          refine r_aald (C := RX8) (b := (an 3)) S G 1 3 rfl rfl (k_vp (by decide)) rfl dX4_pop_89 ?_
          refine lv_aload_n zx zb dX4_pop_90 rfl (lv_at hl 3 rfl) ?_
          refine r_get (C := RX4) (T := TX4) (N := 2) (ci := 2) (v := .ref (an 8)) S in_X4_pop_X4 G 8 rfl rfl 0 (by decide) lk_X4_pop_11 rfl dX4_pop_91 ?_
          refine lv_iload zx zb dX4_pop_94 (lv_at hl 0 rfl) ?_
          refine lv_iconst (v := 3) zx zb dX4_pop_96 (by decide) ?_
          refine r_iadd (v := (nI ((((n_2 * 31) + 1) + (2 * 5)) + 3))) S (nI_add (((n_2 * 31) + 1) + (2 * 5)) 3) dX4_pop_97 ?_
          refine r_iald S G 9 rfl (vp_in_nI (by omega) (by decide)) rfl dX4_pop_98 ?_
          refine k_itE (fun y_31 => ?_)
          refine r_put (C := RX8) (T := TX8) (N := 8) (ci := 6) (v := .int y_31) S in_X4_pop_X8 tyX8_ok nmX8 G 4 rfl rfl 6 (by decide) lk_X4_pop_36 rfl (vp_nar_int _) rfl (Nat.le_of_ble_eq_true rfl) dX4_pop_99 (fun H locs G => ?_)
          obtain ⟨dv_32, G⟩ : ∃ dv_32 : Nat → Int32, wd X (va_A (rcV X hn an sv dv n0 n1 n2 n3 n4 g0 gs gn gm) sz) (va_A (rcV X hn an sv dv n0 n1 n2 n3 n4 g0 gs gn gm) sz) s (rcV X hn an sv dv_32 n0 n_2 n2 n3 n4 g0 gs gn gm) H locs := ⟨upd dv_30 23 y_31, G⟩
          refine lv_aload_n zx zb dX4_pop_102 rfl (lv_at hl 4 rfl) ?_
          refine lv_iload_n zx zb dX4_pop_103 rfl (lv_at hl 1 rfl) ?_
          refine r_aald (C := RX8) (b := (an 3)) S G 1 3 rfl rfl (k_vp (by decide)) rfl dX4_pop_104 ?_
          refine lv_aload_n zx zb dX4_pop_105 rfl (lv_at hl 3 rfl) ?_
          refine r_get (C := RX4) (T := TX4) (N := 2) (ci := 2) (v := .ref (an 8)) S in_X4_pop_X4 G 8 rfl rfl 0 (by decide) lk_X4_pop_11 rfl dX4_pop_106 ?_
          refine lv_iload zx zb dX4_pop_109 (lv_at hl 0 rfl) ?_
          refine lv_iconst (v := 4) zx zb dX4_pop_111 (by decide) ?_
          refine r_iadd (v := (nI ((((n_2 * 31) + 1) + (2 * 5)) + 4))) S (nI_add (((n_2 * 31) + 1) + (2 * 5)) 4) dX4_pop_112 ?_
          refine r_iald S G 9 rfl (vp_in_nI (by omega) (by decide)) rfl dX4_pop_113 ?_
          refine k_itE (fun y_33 => ?_)
          refine r_put (C := RX8) (T := TX8) (N := 8) (ci := 6) (v := .int y_33) S in_X4_pop_X8 tyX8_ok nmX8 G 4 rfl rfl 7 (by decide) lk_X4_pop_39 rfl (vp_nar_int _) rfl (Nat.le_of_ble_eq_true rfl) dX4_pop_114 (fun H locs G => ?_)
          obtain ⟨dv_34, G⟩ : ∃ dv_34 : Nat → Int32, wd X (va_A (rcV X hn an sv dv n0 n1 n2 n3 n4 g0 gs gn gm) sz) (va_A (rcV X hn an sv dv n0 n1 n2 n3 n4 g0 gs gn gm) sz) s (rcV X hn an sv dv_34 n0 n_2 n2 n3 n4 g0 gs gn gm) H locs := ⟨upd dv_32 24 y_33, G⟩
          refine lv_iinc (v := 3) (lv' := [(3, .int 3), (4, .int (nI (((n_2 * 31) + 1) + (2 * 5)))), (2, .int (nI (n_2 * 31))), (0, .ref (an 7)), (1, .ref (an 0))]) zx zb dX4_pop_117 hl (k := 1) rfl (by decide) (by decide) rfl (fun ls hl => ?_)
          refine lv_goto (tgt := 29) zx zb dX4_pop_120 (by decide) ?_
          have hl := lv_sub hl (l' := [(3, .int 3), (2, .int (nI (n_2 * 31))), (0, .ref (an 7)), (1, .ref (an 0))]) [0, 2, 3, 4] rfl
          exact ih29 3 dv_34 _ _ _ (by omega) (by omega) G hl
        · refine k_it (v := 3) rfl ?_
          refine r_aald (C := RX8) (b := (an 4)) S G 1 3 rfl rfl (k_vp (by decide)) rfl dX4_pop_46 ?_
          refine lv_aload_n zx zb dX4_pop_47 rfl (lv_at hl 3 rfl) ?_
          refine r_get (C := RX4) (T := TX4) (N := 2) (ci := 2) (v := .ref (an 8)) S in_X4_pop_X4 G 8 rfl rfl 0 (by decide) lk_X4_pop_11 rfl dX4_pop_48 ?_
          refine lv_iload zx zb dX4_pop_51 (lv_at hl 0 rfl) ?_
          refine r_iald S G 9 rfl (vp_in_nI (by omega) (by decide)) rfl dX4_pop_53 ?_
          refine k_itE (fun y_35 => ?_)
          refine r_put (C := RX8) (T := TX8) (N := 8) (ci := 6) (v := .int y_35) S in_X4_pop_X8 tyX8_ok nmX8 G 5 rfl rfl 3 (by decide) lk_X4_pop_25 rfl (vp_nar_int _) rfl (Nat.le_of_ble_eq_true rfl) dX4_pop_54 (fun H locs G => ?_)
          obtain ⟨dv_36, G⟩ : ∃ dv_36 : Nat → Int32, wd X (va_A (rcV X hn an sv dv n0 n1 n2 n3 n4 g0 gs gn gm) sz) (va_A (rcV X hn an sv dv n0 n1 n2 n3 n4 g0 gs gn gm) sz) s (rcV X hn an sv dv_36 n0 n_2 n2 n3 n4 g0 gs gn gm) H locs := ⟨upd dv29_0 25 y_35, G⟩
          refine lv_aload_n zx zb dX4_pop_57 rfl (lv_at hl 4 rfl) ?_
          refine lv_iload_n zx zb dX4_pop_58 rfl (lv_at hl 1 rfl) ?_
          refine r_aald (C := RX8) (b := (an 4)) S G 1 3 rfl rfl (k_vp (by decide)) rfl dX4_pop_59 ?_
          refine lv_aload_n zx zb dX4_pop_60 rfl (lv_at hl 3 rfl) ?_
          refine r_get (C := RX4) (T := TX4) (N := 2) (ci := 2) (v := .ref (an 8)) S in_X4_pop_X4 G 8 rfl rfl 0 (by decide) lk_X4_pop_11 rfl dX4_pop_61 ?_
          refine lv_iload zx zb dX4_pop_64 (lv_at hl 0 rfl) ?_
          refine lv_iconst (v := 1) zx zb dX4_pop_66 (by decide) ?_
          refine r_iadd (v := (nI ((((n_2 * 31) + 1) + (3 * 5)) + 1))) S (nI_add (((n_2 * 31) + 1) + (3 * 5)) 1) dX4_pop_67 ?_
          refine r_iald S G 9 rfl (vp_in_nI (by omega) (by decide)) rfl dX4_pop_68 ?_
          refine k_itE (fun y_37 => ?_)
          refine r_put (C := RX8) (T := TX8) (N := 8) (ci := 6) (v := .int y_37) S in_X4_pop_X8 tyX8_ok nmX8 G 5 rfl rfl 4 (by decide) lk_X4_pop_30 rfl (vp_nar_int _) rfl (Nat.le_of_ble_eq_true rfl) dX4_pop_69 (fun H locs G => ?_)
          obtain ⟨dv_38, G⟩ : ∃ dv_38 : Nat → Int32, wd X (va_A (rcV X hn an sv dv n0 n1 n2 n3 n4 g0 gs gn gm) sz) (va_A (rcV X hn an sv dv n0 n1 n2 n3 n4 g0 gs gn gm) sz) s (rcV X hn an sv dv_38 n0 n_2 n2 n3 n4 g0 gs gn gm) H locs := ⟨upd dv_36 26 y_37, G⟩
          refine lv_aload_n zx zb dX4_pop_72 rfl (lv_at hl 4 rfl) ?_
          refine lv_iload_n zx zb dX4_pop_73 rfl (lv_at hl 1 rfl) ?_
          refine r_aald (C := RX8) (b := (an 4)) S G 1 3 rfl rfl (k_vp (by decide)) rfl dX4_pop_74 ?_
          refine lv_aload_n zx zb dX4_pop_75 rfl (lv_at hl 3 rfl) ?_
          refine r_get (C := RX4) (T := TX4) (N := 2) (ci := 2) (v := .ref (an 8)) S in_X4_pop_X4 G 8 rfl rfl 0 (by decide) lk_X4_pop_11 rfl dX4_pop_76 ?_
          refine lv_iload zx zb dX4_pop_79 (lv_at hl 0 rfl) ?_
          refine lv_iconst (v := 2) zx zb dX4_pop_81 (by decide) ?_
          refine r_iadd (v := (nI ((((n_2 * 31) + 1) + (3 * 5)) + 2))) S (nI_add (((n_2 * 31) + 1) + (3 * 5)) 2) dX4_pop_82 ?_
          refine r_iald S G 9 rfl (vp_in_nI (by omega) (by decide)) rfl dX4_pop_83 ?_
          refine k_itE (fun y_39 => ?_)
          refine r_put (C := RX8) (T := TX8) (N := 8) (ci := 6) (v := .int y_39) S in_X4_pop_X8 tyX8_ok nmX8 G 5 rfl rfl 5 (by decide) lk_X4_pop_33 rfl (vp_nar_int _) rfl (Nat.le_of_ble_eq_true rfl) dX4_pop_84 (fun H locs G => ?_)
          obtain ⟨dv_40, G⟩ : ∃ dv_40 : Nat → Int32, wd X (va_A (rcV X hn an sv dv n0 n1 n2 n3 n4 g0 gs gn gm) sz) (va_A (rcV X hn an sv dv n0 n1 n2 n3 n4 g0 gs gn gm) sz) s (rcV X hn an sv dv_40 n0 n_2 n2 n3 n4 g0 gs gn gm) H locs := ⟨upd dv_38 27 y_39, G⟩
          refine lv_aload_n zx zb dX4_pop_87 rfl (lv_at hl 4 rfl) ?_
          refine lv_iload_n zx zb dX4_pop_88 rfl (lv_at hl 1 rfl) ?_
          refine r_aald (C := RX8) (b := (an 4)) S G 1 3 rfl rfl (k_vp (by decide)) rfl dX4_pop_89 ?_
          refine lv_aload_n zx zb dX4_pop_90 rfl (lv_at hl 3 rfl) ?_
          refine r_get (C := RX4) (T := TX4) (N := 2) (ci := 2) (v := .ref (an 8)) S in_X4_pop_X4 G 8 rfl rfl 0 (by decide) lk_X4_pop_11 rfl dX4_pop_91 ?_
          refine lv_iload zx zb dX4_pop_94 (lv_at hl 0 rfl) ?_
          refine lv_iconst (v := 3) zx zb dX4_pop_96 (by decide) ?_
          refine r_iadd (v := (nI ((((n_2 * 31) + 1) + (3 * 5)) + 3))) S (nI_add (((n_2 * 31) + 1) + (3 * 5)) 3) dX4_pop_97 ?_
          refine r_iald S G 9 rfl (vp_in_nI (by omega) (by decide)) rfl dX4_pop_98 ?_
          refine k_itE (fun y_41 => ?_)
          refine r_put (C := RX8) (T := TX8) (N := 8) (ci := 6) (v := .int y_41) S in_X4_pop_X8 tyX8_ok nmX8 G 5 rfl rfl 6 (by decide) lk_X4_pop_36 rfl (vp_nar_int _) rfl (Nat.le_of_ble_eq_true rfl) dX4_pop_99 (fun H locs G => ?_)
          obtain ⟨dv_42, G⟩ : ∃ dv_42 : Nat → Int32, wd X (va_A (rcV X hn an sv dv n0 n1 n2 n3 n4 g0 gs gn gm) sz) (va_A (rcV X hn an sv dv n0 n1 n2 n3 n4 g0 gs gn gm) sz) s (rcV X hn an sv dv_42 n0 n_2 n2 n3 n4 g0 gs gn gm) H locs := ⟨upd dv_40 28 y_41, G⟩
          refine lv_aload_n zx zb dX4_pop_102 rfl (lv_at hl 4 rfl) ?_
          refine lv_iload_n zx zb dX4_pop_103 rfl (lv_at hl 1 rfl) ?_
          refine r_aald (C := RX8) (b := (an 4)) S G 1 3 rfl rfl (k_vp (by decide)) rfl dX4_pop_104 ?_
          refine lv_aload_n zx zb dX4_pop_105 rfl (lv_at hl 3 rfl) ?_
          refine r_get (C := RX4) (T := TX4) (N := 2) (ci := 2) (v := .ref (an 8)) S in_X4_pop_X4 G 8 rfl rfl 0 (by decide) lk_X4_pop_11 rfl dX4_pop_106 ?_
          refine lv_iload zx zb dX4_pop_109 (lv_at hl 0 rfl) ?_
          refine lv_iconst (v := 4) zx zb dX4_pop_111 (by decide) ?_
          refine r_iadd (v := (nI ((((n_2 * 31) + 1) + (3 * 5)) + 4))) S (nI_add (((n_2 * 31) + 1) + (3 * 5)) 4) dX4_pop_112 ?_
          refine r_iald S G 9 rfl (vp_in_nI (by omega) (by decide)) rfl dX4_pop_113 ?_
          refine k_itE (fun y_43 => ?_)
          refine r_put (C := RX8) (T := TX8) (N := 8) (ci := 6) (v := .int y_43) S in_X4_pop_X8 tyX8_ok nmX8 G 5 rfl rfl 7 (by decide) lk_X4_pop_39 rfl (vp_nar_int _) rfl (Nat.le_of_ble_eq_true rfl) dX4_pop_114 (fun H locs G => ?_)
          obtain ⟨dv_44, G⟩ : ∃ dv_44 : Nat → Int32, wd X (va_A (rcV X hn an sv dv n0 n1 n2 n3 n4 g0 gs gn gm) sz) (va_A (rcV X hn an sv dv n0 n1 n2 n3 n4 g0 gs gn gm) sz) s (rcV X hn an sv dv_44 n0 n_2 n2 n3 n4 g0 gs gn gm) H locs := ⟨upd dv_42 29 y_43, G⟩
          refine lv_iinc (v := 4) (lv' := [(3, .int 4), (4, .int (nI (((n_2 * 31) + 1) + (3 * 5)))), (2, .int (nI (n_2 * 31))), (0, .ref (an 7)), (1, .ref (an 0))]) zx zb dX4_pop_117 hl (k := 1) rfl (by decide) (by decide) rfl (fun ls hl => ?_)
          refine lv_goto (tgt := 29) zx zb dX4_pop_120 (by decide) ?_
          have hl := lv_sub hl (l' := [(3, .int 4), (2, .int (nI (n_2 * 31))), (0, .ref (an 7)), (1, .ref (an 0))]) [0, 2, 3, 4] rfl
          exact ih29 4 dv_44 _ _ _ (by omega) (by omega) G hl
        · refine k_it (v := 4) rfl ?_
          refine r_aald (C := RX8) (b := (an 5)) S G 1 3 rfl rfl (k_vp (by decide)) rfl dX4_pop_46 ?_
          refine lv_aload_n zx zb dX4_pop_47 rfl (lv_at hl 3 rfl) ?_
          refine r_get (C := RX4) (T := TX4) (N := 2) (ci := 2) (v := .ref (an 8)) S in_X4_pop_X4 G 8 rfl rfl 0 (by decide) lk_X4_pop_11 rfl dX4_pop_48 ?_
          refine lv_iload zx zb dX4_pop_51 (lv_at hl 0 rfl) ?_
          refine r_iald S G 9 rfl (vp_in_nI (by omega) (by decide)) rfl dX4_pop_53 ?_
          refine k_itE (fun y_45 => ?_)
          refine r_put (C := RX8) (T := TX8) (N := 8) (ci := 6) (v := .int y_45) S in_X4_pop_X8 tyX8_ok nmX8 G 6 rfl rfl 3 (by decide) lk_X4_pop_25 rfl (vp_nar_int _) rfl (Nat.le_of_ble_eq_true rfl) dX4_pop_54 (fun H locs G => ?_)
          obtain ⟨dv_46, G⟩ : ∃ dv_46 : Nat → Int32, wd X (va_A (rcV X hn an sv dv n0 n1 n2 n3 n4 g0 gs gn gm) sz) (va_A (rcV X hn an sv dv n0 n1 n2 n3 n4 g0 gs gn gm) sz) s (rcV X hn an sv dv_46 n0 n_2 n2 n3 n4 g0 gs gn gm) H locs := ⟨upd dv29_0 30 y_45, G⟩
          refine lv_aload_n zx zb dX4_pop_57 rfl (lv_at hl 4 rfl) ?_
          refine lv_iload_n zx zb dX4_pop_58 rfl (lv_at hl 1 rfl) ?_
          refine r_aald (C := RX8) (b := (an 5)) S G 1 3 rfl rfl (k_vp (by decide)) rfl dX4_pop_59 ?_
          refine lv_aload_n zx zb dX4_pop_60 rfl (lv_at hl 3 rfl) ?_
          refine r_get (C := RX4) (T := TX4) (N := 2) (ci := 2) (v := .ref (an 8)) S in_X4_pop_X4 G 8 rfl rfl 0 (by decide) lk_X4_pop_11 rfl dX4_pop_61 ?_
          refine lv_iload zx zb dX4_pop_64 (lv_at hl 0 rfl) ?_
          refine lv_iconst (v := 1) zx zb dX4_pop_66 (by decide) ?_
          refine r_iadd (v := (nI ((((n_2 * 31) + 1) + (4 * 5)) + 1))) S (nI_add (((n_2 * 31) + 1) + (4 * 5)) 1) dX4_pop_67 ?_
          refine r_iald S G 9 rfl (vp_in_nI (by omega) (by decide)) rfl dX4_pop_68 ?_
          refine k_itE (fun y_47 => ?_)
          refine r_put (C := RX8) (T := TX8) (N := 8) (ci := 6) (v := .int y_47) S in_X4_pop_X8 tyX8_ok nmX8 G 6 rfl rfl 4 (by decide) lk_X4_pop_30 rfl (vp_nar_int _) rfl (Nat.le_of_ble_eq_true rfl) dX4_pop_69 (fun H locs G => ?_)
          obtain ⟨dv_48, G⟩ : ∃ dv_48 : Nat → Int32, wd X (va_A (rcV X hn an sv dv n0 n1 n2 n3 n4 g0 gs gn gm) sz) (va_A (rcV X hn an sv dv n0 n1 n2 n3 n4 g0 gs gn gm) sz) s (rcV X hn an sv dv_48 n0 n_2 n2 n3 n4 g0 gs gn gm) H locs := ⟨upd dv_46 31 y_47, G⟩
          refine lv_aload_n zx zb dX4_pop_72 rfl (lv_at hl 4 rfl) ?_
          refine lv_iload_n zx zb dX4_pop_73 rfl (lv_at hl 1 rfl) ?_
          refine r_aald (C := RX8) (b := (an 5)) S G 1 3 rfl rfl (k_vp (by decide)) rfl dX4_pop_74 ?_
          refine lv_aload_n zx zb dX4_pop_75 rfl (lv_at hl 3 rfl) ?_
          refine r_get (C := RX4) (T := TX4) (N := 2) (ci := 2) (v := .ref (an 8)) S in_X4_pop_X4 G 8 rfl rfl 0 (by decide) lk_X4_pop_11 rfl dX4_pop_76 ?_
          refine lv_iload zx zb dX4_pop_79 (lv_at hl 0 rfl) ?_
          refine lv_iconst (v := 2) zx zb dX4_pop_81 (by decide) ?_
          refine r_iadd (v := (nI ((((n_2 * 31) + 1) + (4 * 5)) + 2))) S (nI_add (((n_2 * 31) + 1) + (4 * 5)) 2) dX4_pop_82 ?_
          refine r_iald S G 9 rfl (vp_in_nI (by omega) (by decide)) rfl dX4_pop_83 ?_
          refine k_itE (fun y_49 => ?_)
          refine r_put (C := RX8) (T := TX8) (N := 8) (ci := 6) (v := .int y_49) S in_X4_pop_X8 tyX8_ok nmX8 G 6 rfl rfl 5 (by decide) lk_X4_pop_33 rfl (vp_nar_int _) rfl (Nat.le_of_ble_eq_true rfl) dX4_pop_84 (fun H locs G => ?_)
          obtain ⟨dv_50, G⟩ : ∃ dv_50 : Nat → Int32, wd X (va_A (rcV X hn an sv dv n0 n1 n2 n3 n4 g0 gs gn gm) sz) (va_A (rcV X hn an sv dv n0 n1 n2 n3 n4 g0 gs gn gm) sz) s (rcV X hn an sv dv_50 n0 n_2 n2 n3 n4 g0 gs gn gm) H locs := ⟨upd dv_48 32 y_49, G⟩
          refine lv_aload_n zx zb dX4_pop_87 rfl (lv_at hl 4 rfl) ?_
          refine lv_iload_n zx zb dX4_pop_88 rfl (lv_at hl 1 rfl) ?_
          refine r_aald (C := RX8) (b := (an 5)) S G 1 3 rfl rfl (k_vp (by decide)) rfl dX4_pop_89 ?_
          refine lv_aload_n zx zb dX4_pop_90 rfl (lv_at hl 3 rfl) ?_
          refine r_get (C := RX4) (T := TX4) (N := 2) (ci := 2) (v := .ref (an 8)) S in_X4_pop_X4 G 8 rfl rfl 0 (by decide) lk_X4_pop_11 rfl dX4_pop_91 ?_
          refine lv_iload zx zb dX4_pop_94 (lv_at hl 0 rfl) ?_
          refine lv_iconst (v := 3) zx zb dX4_pop_96 (by decide) ?_
          refine r_iadd (v := (nI ((((n_2 * 31) + 1) + (4 * 5)) + 3))) S (nI_add (((n_2 * 31) + 1) + (4 * 5)) 3) dX4_pop_97 ?_
          refine r_iald S G 9 rfl (vp_in_nI (by omega) (by decide)) rfl dX4_pop_98 ?_
          refine k_itE (fun y_51 => ?_)
          refine r_put (C := RX8) (T := TX8) (N := 8) (ci := 6) (v := .int y_51) S in_X4_pop_X8 tyX8_ok nmX8 G 6 rfl rfl 6 (by decide) lk_X4_pop_36 rfl (vp_nar_int _) rfl (Nat.le_of_ble_eq_true rfl) dX4_pop_99 (fun H locs G => ?_)
          obtain ⟨dv_52, G⟩ : ∃ dv_52 : Nat → Int32, wd X (va_A (rcV X hn an sv dv n0 n1 n2 n3 n4 g0 gs gn gm) sz) (va_A (rcV X hn an sv dv n0 n1 n2 n3 n4 g0 gs gn gm) sz) s (rcV X hn an sv dv_52 n0 n_2 n2 n3 n4 g0 gs gn gm) H locs := ⟨upd dv_50 33 y_51, G⟩
          refine lv_aload_n zx zb dX4_pop_102 rfl (lv_at hl 4 rfl) ?_
          refine lv_iload_n zx zb dX4_pop_103 rfl (lv_at hl 1 rfl) ?_
          refine r_aald (C := RX8) (b := (an 5)) S G 1 3 rfl rfl (k_vp (by decide)) rfl dX4_pop_104 ?_
          refine lv_aload_n zx zb dX4_pop_105 rfl (lv_at hl 3 rfl) ?_
          refine r_get (C := RX4) (T := TX4) (N := 2) (ci := 2) (v := .ref (an 8)) S in_X4_pop_X4 G 8 rfl rfl 0 (by decide) lk_X4_pop_11 rfl dX4_pop_106 ?_
          refine lv_iload zx zb dX4_pop_109 (lv_at hl 0 rfl) ?_
          refine lv_iconst (v := 4) zx zb dX4_pop_111 (by decide) ?_
          refine r_iadd (v := (nI ((((n_2 * 31) + 1) + (4 * 5)) + 4))) S (nI_add (((n_2 * 31) + 1) + (4 * 5)) 4) dX4_pop_112 ?_
          refine r_iald S G 9 rfl (vp_in_nI (by omega) (by decide)) rfl dX4_pop_113 ?_
          refine k_itE (fun y_53 => ?_)
          refine r_put (C := RX8) (T := TX8) (N := 8) (ci := 6) (v := .int y_53) S in_X4_pop_X8 tyX8_ok nmX8 G 6 rfl rfl 7 (by decide) lk_X4_pop_39 rfl (vp_nar_int _) rfl (Nat.le_of_ble_eq_true rfl) dX4_pop_114 (fun H locs G => ?_)
          obtain ⟨dv_54, G⟩ : ∃ dv_54 : Nat → Int32, wd X (va_A (rcV X hn an sv dv n0 n1 n2 n3 n4 g0 gs gn gm) sz) (va_A (rcV X hn an sv dv n0 n1 n2 n3 n4 g0 gs gn gm) sz) s (rcV X hn an sv dv_54 n0 n_2 n2 n3 n4 g0 gs gn gm) H locs := ⟨upd dv_52 34 y_53, G⟩
          refine lv_iinc (v := 5) (lv' := [(3, .int 5), (4, .int (nI (((n_2 * 31) + 1) + (4 * 5)))), (2, .int (nI (n_2 * 31))), (0, .ref (an 7)), (1, .ref (an 0))]) zx zb dX4_pop_117 hl (k := 1) rfl (by decide) (by decide) rfl (fun ls hl => ?_)
          refine lv_goto (tgt := 29) zx zb dX4_pop_120 (by decide) ?_
          have hl := lv_sub hl (l' := [(3, .int 5), (2, .int (nI (n_2 * 31))), (0, .ref (an 7)), (1, .ref (an 0))]) [0, 2, 3, 4] rfl
          exact ih29 5 dv_54 _ _ _ (by omega) (by omega) G hl
        · refine k_it (v := 5) rfl ?_
          refine r_aald (C := RX8) (b := (an 6)) S G 1 3 rfl rfl (k_vp (by decide)) rfl dX4_pop_46 ?_
          refine lv_aload_n zx zb dX4_pop_47 rfl (lv_at hl 3 rfl) ?_
          refine r_get (C := RX4) (T := TX4) (N := 2) (ci := 2) (v := .ref (an 8)) S in_X4_pop_X4 G 8 rfl rfl 0 (by decide) lk_X4_pop_11 rfl dX4_pop_48 ?_
          refine lv_iload zx zb dX4_pop_51 (lv_at hl 0 rfl) ?_
          refine r_iald S G 9 rfl (vp_in_nI (by omega) (by decide)) rfl dX4_pop_53 ?_
          refine k_itE (fun y_55 => ?_)
          refine r_put (C := RX8) (T := TX8) (N := 8) (ci := 6) (v := .int y_55) S in_X4_pop_X8 tyX8_ok nmX8 G 7 rfl rfl 3 (by decide) lk_X4_pop_25 rfl (vp_nar_int _) rfl (Nat.le_of_ble_eq_true rfl) dX4_pop_54 (fun H locs G => ?_)
          obtain ⟨dv_56, G⟩ : ∃ dv_56 : Nat → Int32, wd X (va_A (rcV X hn an sv dv n0 n1 n2 n3 n4 g0 gs gn gm) sz) (va_A (rcV X hn an sv dv n0 n1 n2 n3 n4 g0 gs gn gm) sz) s (rcV X hn an sv dv_56 n0 n_2 n2 n3 n4 g0 gs gn gm) H locs := ⟨upd dv29_0 35 y_55, G⟩
          refine lv_aload_n zx zb dX4_pop_57 rfl (lv_at hl 4 rfl) ?_
          refine lv_iload_n zx zb dX4_pop_58 rfl (lv_at hl 1 rfl) ?_
          refine r_aald (C := RX8) (b := (an 6)) S G 1 3 rfl rfl (k_vp (by decide)) rfl dX4_pop_59 ?_
          refine lv_aload_n zx zb dX4_pop_60 rfl (lv_at hl 3 rfl) ?_
          refine r_get (C := RX4) (T := TX4) (N := 2) (ci := 2) (v := .ref (an 8)) S in_X4_pop_X4 G 8 rfl rfl 0 (by decide) lk_X4_pop_11 rfl dX4_pop_61 ?_
          refine lv_iload zx zb dX4_pop_64 (lv_at hl 0 rfl) ?_
          refine lv_iconst (v := 1) zx zb dX4_pop_66 (by decide) ?_
          refine r_iadd (v := (nI ((((n_2 * 31) + 1) + (5 * 5)) + 1))) S (nI_add (((n_2 * 31) + 1) + (5 * 5)) 1) dX4_pop_67 ?_
          refine r_iald S G 9 rfl (vp_in_nI (by omega) (by decide)) rfl dX4_pop_68 ?_
          refine k_itE (fun y_57 => ?_)
          refine r_put (C := RX8) (T := TX8) (N := 8) (ci := 6) (v := .int y_57) S in_X4_pop_X8 tyX8_ok nmX8 G 7 rfl rfl 4 (by decide) lk_X4_pop_30 rfl (vp_nar_int _) rfl (Nat.le_of_ble_eq_true rfl) dX4_pop_69 (fun H locs G => ?_)
          obtain ⟨dv_58, G⟩ : ∃ dv_58 : Nat → Int32, wd X (va_A (rcV X hn an sv dv n0 n1 n2 n3 n4 g0 gs gn gm) sz) (va_A (rcV X hn an sv dv n0 n1 n2 n3 n4 g0 gs gn gm) sz) s (rcV X hn an sv dv_58 n0 n_2 n2 n3 n4 g0 gs gn gm) H locs := ⟨upd dv_56 36 y_57, G⟩
          refine lv_aload_n zx zb dX4_pop_72 rfl (lv_at hl 4 rfl) ?_
          refine lv_iload_n zx zb dX4_pop_73 rfl (lv_at hl 1 rfl) ?_
          refine r_aald (C := RX8) (b := (an 6)) S G 1 3 rfl rfl (k_vp (by decide)) rfl dX4_pop_74 ?_
          refine lv_aload_n zx zb dX4_pop_75 rfl (lv_at hl 3 rfl) ?_
          refine r_get (C := RX4) (T := TX4) (N := 2) (ci := 2) (v := .ref (an 8)) S in_X4_pop_X4 G 8 rfl rfl 0 (by decide) lk_X4_pop_11 rfl dX4_pop_76 ?_
          refine lv_iload zx zb dX4_pop_79 (lv_at hl 0 rfl) ?_
          refine lv_iconst (v := 2) zx zb dX4_pop_81 (by decide) ?_
          refine r_iadd (v := (nI ((((n_2 * 31) + 1) + (5 * 5)) + 2))) S (nI_add (((n_2 * 31) + 1) + (5 * 5)) 2) dX4_pop_82 ?_
          refine r_iald S G 9 rfl (vp_in_nI (by omega) (by decide)) rfl dX4_pop_83 ?_
          refine k_itE (fun y_59 => ?_)
          refine r_put (C := RX8) (T := TX8) (N := 8) (ci := 6) (v := .int y_59) S in_X4_pop_X8 tyX8_ok nmX8 G 7 rfl rfl 5 (by decide) lk_X4_pop_33 rfl (vp_nar_int _) rfl (Nat.le_of_ble_eq_true rfl) dX4_pop_84 (fun H locs G => ?_)
          obtain ⟨dv_60, G⟩ : ∃ dv_60 : Nat → Int32, wd X (va_A (rcV X hn an sv dv n0 n1 n2 n3 n4 g0 gs gn gm) sz) (va_A (rcV X hn an sv dv n0 n1 n2 n3 n4 g0 gs gn gm) sz) s (rcV X hn an sv dv_60 n0 n_2 n2 n3 n4 g0 gs gn gm) H locs := ⟨upd dv_58 37 y_59, G⟩
          refine lv_aload_n zx zb dX4_pop_87 rfl (lv_at hl 4 rfl) ?_
          refine lv_iload_n zx zb dX4_pop_88 rfl (lv_at hl 1 rfl) ?_
          refine r_aald (C := RX8) (b := (an 6)) S G 1 3 rfl rfl (k_vp (by decide)) rfl dX4_pop_89 ?_
          refine lv_aload_n zx zb dX4_pop_90 rfl (lv_at hl 3 rfl) ?_
          refine r_get (C := RX4) (T := TX4) (N := 2) (ci := 2) (v := .ref (an 8)) S in_X4_pop_X4 G 8 rfl rfl 0 (by decide) lk_X4_pop_11 rfl dX4_pop_91 ?_
          refine lv_iload zx zb dX4_pop_94 (lv_at hl 0 rfl) ?_
          refine lv_iconst (v := 3) zx zb dX4_pop_96 (by decide) ?_
          refine r_iadd (v := (nI ((((n_2 * 31) + 1) + (5 * 5)) + 3))) S (nI_add (((n_2 * 31) + 1) + (5 * 5)) 3) dX4_pop_97 ?_
          refine r_iald S G 9 rfl (vp_in_nI (by omega) (by decide)) rfl dX4_pop_98 ?_
          refine k_itE (fun y_61 => ?_)
          refine r_put (C := RX8) (T := TX8) (N := 8) (ci := 6) (v := .int y_61) S in_X4_pop_X8 tyX8_ok nmX8 G 7 rfl rfl 6 (by decide) lk_X4_pop_36 rfl (vp_nar_int _) rfl (Nat.le_of_ble_eq_true rfl) dX4_pop_99 (fun H locs G => ?_)
          obtain ⟨dv_62, G⟩ : ∃ dv_62 : Nat → Int32, wd X (va_A (rcV X hn an sv dv n0 n1 n2 n3 n4 g0 gs gn gm) sz) (va_A (rcV X hn an sv dv n0 n1 n2 n3 n4 g0 gs gn gm) sz) s (rcV X hn an sv dv_62 n0 n_2 n2 n3 n4 g0 gs gn gm) H locs := ⟨upd dv_60 38 y_61, G⟩
          refine lv_aload_n zx zb dX4_pop_102 rfl (lv_at hl 4 rfl) ?_
          refine lv_iload_n zx zb dX4_pop_103 rfl (lv_at hl 1 rfl) ?_
          refine r_aald (C := RX8) (b := (an 6)) S G 1 3 rfl rfl (k_vp (by decide)) rfl dX4_pop_104 ?_
          refine lv_aload_n zx zb dX4_pop_105 rfl (lv_at hl 3 rfl) ?_
          refine r_get (C := RX4) (T := TX4) (N := 2) (ci := 2) (v := .ref (an 8)) S in_X4_pop_X4 G 8 rfl rfl 0 (by decide) lk_X4_pop_11 rfl dX4_pop_106 ?_
          refine lv_iload zx zb dX4_pop_109 (lv_at hl 0 rfl) ?_
          refine lv_iconst (v := 4) zx zb dX4_pop_111 (by decide) ?_
          refine r_iadd (v := (nI ((((n_2 * 31) + 1) + (5 * 5)) + 4))) S (nI_add (((n_2 * 31) + 1) + (5 * 5)) 4) dX4_pop_112 ?_
          refine r_iald S G 9 rfl (vp_in_nI (by omega) (by decide)) rfl dX4_pop_113 ?_
          refine k_itE (fun y_63 => ?_)
          refine r_put (C := RX8) (T := TX8) (N := 8) (ci := 6) (v := .int y_63) S in_X4_pop_X8 tyX8_ok nmX8 G 7 rfl rfl 7 (by decide) lk_X4_pop_39 rfl (vp_nar_int _) rfl (Nat.le_of_ble_eq_true rfl) dX4_pop_114 (fun H locs G => ?_)
          obtain ⟨dv_64, G⟩ : ∃ dv_64 : Nat → Int32, wd X (va_A (rcV X hn an sv dv n0 n1 n2 n3 n4 g0 gs gn gm) sz) (va_A (rcV X hn an sv dv n0 n1 n2 n3 n4 g0 gs gn gm) sz) s (rcV X hn an sv dv_64 n0 n_2 n2 n3 n4 g0 gs gn gm) H locs := ⟨upd dv_62 39 y_63, G⟩
          refine lv_iinc (v := 6) (lv' := [(3, .int 6), (4, .int (nI (((n_2 * 31) + 1) + (5 * 5)))), (2, .int (nI (n_2 * 31))), (0, .ref (an 7)), (1, .ref (an 0))]) zx zb dX4_pop_117 hl (k := 1) rfl (by decide) (by decide) rfl (fun ls hl => ?_)
          refine lv_goto (tgt := 29) zx zb dX4_pop_120 (by decide) ?_
          have hl := lv_sub hl (l' := [(3, .int 6), (2, .int (nI (n_2 * 31))), (0, .ref (an 7)), (1, .ref (an 0))]) [0, 2, 3, 4] rfl
          exact ih29 6 dv_64 _ _ _ (by omega) (by omega) G hl
  · have fc_1 := j_nlt (a := 0) (b := n1) (by omega) (by omega) c_1
    refine lv_iconst (v := (-1)) zx zb dX4_pop_7 (by decide) ?_
    exact e_int S zr zlk (vp_nar_int _) G (dv, n1) [0, 1, 2, 3, 4, 5, 6, 7, 8, 9, 10, 11, 12, 13, 14, 15] rfl rfl (Or.inr rfl) (⟨hI_n1, trivial⟩) dX4_pop_8
theorem in_X5_keep_X5 : ∀ w ∈ wsX50, w ∈ wsX5_keep := by decide +kernel
theorem lk_X5_keep_30 : Cond.fieldLink RX5 30 "EggSpoons$Race" "past" "LEggSpoons$Past;" ∈ wsX5_keep := by decide +kernel
theorem lk_X5_keep_15 : Cond.fieldLink RX5 15 "EggSpoons$Race" "tick" "I" ∈ wsX5_keep := by decide +kernel
theorem lk_X5_keep_23 : Cond.fieldLink RX5 23 "EggSpoons$Race" "row" "[LEggSpoons$Runner;" ∈ wsX5_keep := by decide +kernel
theorem hdV_X4_push : yX4_push.cls = RX4 ∧ yX4_push.cls ≠ "java/lang/invoke/MethodHandle" ∧ yX4_push.cls ≠ "java/lang/invoke/VarHandle" ∧ (parseMethodDescriptor yX4_push.desc).map (fun d => d.parameters.length) = some 2 := by decide +kernel
set_option maxHeartbeats 4000000 in
set_option maxRecDepth 100000 in
/-- keep -/
theorem s_keep (l : Launch) (X : EX) (hn : Nat) (an : Nat → Nat) (sv : Nat → Int32) (dv : Nat → Int32) (n0 : Nat) (n1 : Nat) (n2 : Nat) (n3 : Nat) (n4 : Nat) (g0 : Nat → Int32) (gs : Nat → Int32) (gn : Nat → Int32) (gm : Nat → Int32) (hI_n0 : n0 ≤ 6) (hI_n1 : n1 ≤ 8) (hI_n2 : n2 ≤ 5) (hI_n3 : n3 ≤ 6) (hI_n4 : n4 ≤ 6) (sz : Nat) : Met l yX5_keep wsX5_keep ({ frames := 2, cells := 0, slots := 0, locals := 85 } : Room) (pE X [.ref hn] (rcV X hn an sv dv n0 n1 n2 n3 n4 g0 gs gn gm) sz) (qV (fun (u : (Nat) × (Nat → Int32)) => u.1 ≤ 8 ∧ (True)) X (fun (u : (Nat) × (Nat → Int32)) => rcV X hn an sv dv n0 u.1 n2 n3 n4 u.2 gs gn gm) (rcV X hn an sv dv n0 n1 n2 n3 n4 g0 gs gn gm) sz) 0 0 (va_A (rcV X hn an sv dv n0 n1 n2 n3 n4 g0 gs gn gm) sz) := by
  refine mk_met (B := (va_A (rcV X hn an sv dv n0 n1 n2 n3 n4 g0 gs gn gm) sz)) (A := (va_A (rcV X hn an sv dv n0 n1 n2 n3 n4 g0 gs gn gm) sz)) (cc := cX5_keep) (maxL := 1) (ret := none) (by decide) rfl (Nat.le_of_ble_eq_true rfl) k_w k_a (fun p e s m below meth c S zr zlk znm zsz G ls hl => ?_)
  have S : CallFix p m c cX5_keep 1 s _ wsX5_keep RX5 := S
  have zx := S.1
  have zb := S.2.1
  have hl : lv_has ls 1 [(0, .ref hn)] := hl
  refine lv_aload_n zx zb dX5_keep_0 rfl (lv_at hl 0 rfl) ?_
  refine r_get (C := RX5) (T := TX5) (N := 8) (ci := 3) (v := .ref (an 7)) S in_X5_keep_X5 G 0 rfl rfl 4 (by decide) lk_X5_keep_30 rfl dX5_keep_1 ?_
  refine lv_aload_n zx zb dX5_keep_4 rfl (lv_at hl 0 rfl) ?_
  refine r_get (C := RX5) (T := TX5) (N := 8) (ci := 3) (v := .int (dv 1)) S in_X5_keep_X5 G 0 rfl rfl 1 (by decide) lk_X5_keep_15 rfl dX5_keep_5 ?_
  refine lv_aload_n zx zb dX5_keep_8 rfl (lv_at hl 0 rfl) ?_
  refine r_get (C := RX5) (T := TX5) (N := 8) (ci := 3) (v := .ref (an 0)) S in_X5_keep_X5 G 0 rfl rfl 3 (by decide) lk_X5_keep_23 rfl dX5_keep_9 ?_
  refine b_wv (cells' := 0) (slots' := 0) (wr := []) G rfl rfl [0, 1, 2, 3, 4, 5, 6, 7, 8, 9, 10, 11, 12, 13, 14, 15] [] rfl rfl rfl rfl (n_V (As := [.int (dv 1), .ref (an 0)]) (rest := []) (C := RX4) (T := TX4) (N := 2) (ci := 2) S G (s_push l X hn an sv dv n0 n1 n2 n3 n4 g0 gs gn gm (dv 1) hI_n0 hI_n1 hI_n2 hI_n3 hI_n4 s.heap.size) gX5_keep_X4_push rfl rfl rfl hdV_X4_push ⟨Nat.le_of_ble_eq_true rfl, Nat.le_of_ble_eq_true rfl⟩ [0, 1, 2, 3, 4, 5, 6, 7, 8, 9, 10, 11, 12, 13, 14, 15] rfl rfl 8 rfl rfl rfl hl.1 (Nat.le_of_ble_eq_true rfl) dX5_keep_12 ⟨Nat.le_of_ble_eq_true rfl, Nat.le_of_ble_eq_true rfl⟩) (fun u_1 H locs hp_1 G => ?_)
  obtain ⟨n1_1a, g0_1b⟩ := u_1
  try dsimp only at hp_1
  obtain ⟨hI_n1_1a, hq_1⟩ := hp_1
  have G : wd X (va_A (rcV X hn an sv dv n0 n1 n2 n3 n4 g0 gs gn gm) sz) (va_A (rcV X hn an sv dv n0 n1 n2 n3 n4 g0 gs gn gm) sz) s (rcV X hn an sv dv n0 n1_1a n2 n3 n4 g0_1b gs gn gm) H locs := G
  exact e_void S zr zlk G (n1_1a, g0_1b) [0, 1, 2, 3, 4, 5, 6, 7, 8, 9, 10, 11, 12, 13, 14, 15] rfl rfl (Or.inr rfl) (⟨hI_n1_1a, trivial⟩) dX5_keep_15
theorem in_X5_takeBack_X5 : ∀ w ∈ wsX50, w ∈ wsX5_takeBack := by decide +kernel
theorem lk_X5_takeBack_30 : Cond.fieldLink RX5 30 "EggSpoons$Race" "past" "LEggSpoons$Past;" ∈ wsX5_takeBack := by decide +kernel
theorem lk_X5_takeBack_23 : Cond.fieldLink RX5 23 "EggSpoons$Race" "row" "[LEggSpoons$Runner;" ∈ wsX5_takeBack := by decide +kernel
theorem hdV_X4_pop : yX4_pop.cls = RX4 ∧ yX4_pop.cls ≠ "java/lang/invoke/MethodHandle" ∧ yX4_pop.cls ≠ "java/lang/invoke/VarHandle" ∧ (parseMethodDescriptor yX4_pop.desc).map (fun d => d.parameters.length) = some 1 := by decide +kernel
theorem lk_X5_takeBack_15 : Cond.fieldLink RX5 15 "EggSpoons$Race" "tick" "I" ∈ wsX5_takeBack := by decide +kernel
set_option maxHeartbeats 4000000 in
set_option maxRecDepth 100000 in
/-- takeBack -/
theorem s_takeBack (l : Launch) (X : EX) (hn : Nat) (an : Nat → Nat) (sv : Nat → Int32) (dv : Nat → Int32) (n0 : Nat) (n1 : Nat) (n2 : Nat) (n3 : Nat) (n4 : Nat) (g0 : Nat → Int32) (gs : Nat → Int32) (gn : Nat → Int32) (gm : Nat → Int32) (hI_n0 : n0 ≤ 6) (hI_n1 : n1 ≤ 8) (hI_n2 : n2 ≤ 5) (hI_n3 : n3 ≤ 6) (hI_n4 : n4 ≤ 6) (sz : Nat) : Met l yX5_takeBack wsX5_takeBack ({ frames := 1, cells := 0, slots := 0, locals := 24 } : Room) (pE X [.ref hn] (rcV X hn an sv dv n0 n1 n2 n3 n4 g0 gs gn gm) sz) (qI (fun (r : Int32) (u : (Nat → Int32) × (Nat)) => u.2 ≤ 8 ∧ (r = 0 ∨ r = 1)) X (fun (u : (Nat → Int32) × (Nat)) => rcV X hn an sv u.1 n0 u.2 n2 n3 n4 g0 gs gn gm) (rcV X hn an sv dv n0 n1 n2 n3 n4 g0 gs gn gm) sz) 0 0 (va_A (rcV X hn an sv dv n0 n1 n2 n3 n4 g0 gs gn gm) sz) := by
  refine mk_met (B := (va_A (rcV X hn an sv dv n0 n1 n2 n3 n4 g0 gs gn gm) sz)) (A := (va_A (rcV X hn an sv dv n0 n1 n2 n3 n4 g0 gs gn gm) sz)) (cc := cX5_takeBack) (maxL := 2) (ret := (some .boolean)) (by decide) rfl (Nat.le_of_ble_eq_true rfl) k_w k_a (fun p e s m below meth c S zr zlk znm zsz G ls hl => ?_)
  have S : CallFix p m c cX5_takeBack 2 s _ wsX5_takeBack RX5 := S
  have zx := S.1
  have zb := S.2.1
  have hl : lv_has ls 2 [(0, .ref hn)] := hl
  refine lv_aload_n zx zb dX5_takeBack_0 rfl (lv_at hl 0 rfl) ?_
  refine r_get (C := RX5) (T := TX5) (N := 8) (ci := 3) (v := .ref (an 7)) S in_X5_takeBack_X5 G 0 rfl rfl 4 (by decide) lk_X5_takeBack_30 rfl dX5_takeBack_1 ?_
  refine lv_aload_n zx zb dX5_takeBack_4 rfl (lv_at hl 0 rfl) ?_
  refine r_get (C := RX5) (T := TX5) (N := 8) (ci := 3) (v := .ref (an 0)) S in_X5_takeBack_X5 G 0 rfl rfl 3 (by decide) lk_X5_takeBack_23 rfl dX5_takeBack_5 ?_
  refine b_wi (cells' := 0) (slots' := 0) (wr := []) G rfl rfl [0, 1, 2, 3, 4, 5, 6, 7, 8, 9, 10, 11, 12, 13, 14, 15] [] rfl rfl rfl rfl (n_V (As := [.ref (an 0)]) (rest := []) (C := RX4) (T := TX4) (N := 2) (ci := 2) S G (s_pop l X hn an sv dv n0 n1 n2 n3 n4 g0 gs gn gm hI_n0 hI_n1 hI_n2 hI_n3 hI_n4 s.heap.size) gX5_takeBack_X4_pop rfl rfl rfl hdV_X4_pop ⟨Nat.le_of_ble_eq_true rfl, Nat.le_of_ble_eq_true rfl⟩ [0, 1, 2, 3, 4, 5, 6, 7, 8, 9, 10, 11, 12, 13, 14, 15] rfl rfl 8 rfl rfl rfl hl.1 (Nat.le_of_ble_eq_true rfl) dX5_takeBack_8 ⟨Nat.le_of_ble_eq_true rfl, Nat.le_of_ble_eq_true rfl⟩) (fun r_1 u_1 H locs hp_1 G => ?_)
  obtain ⟨dv_1a, n1_1b⟩ := u_1
  try dsimp only at hp_1
  obtain ⟨hI_n1_1b, hq_1⟩ := hp_1
  have G : wd X (va_A (rcV X hn an sv dv n0 n1 n2 n3 n4 g0 gs gn gm) sz) (va_A (rcV X hn an sv dv n0 n1 n2 n3 n4 g0 gs gn gm) sz) s (rcV X hn an sv dv_1a n0 n1_1b n2 n3 n4 g0 gs gn gm) H locs := G
  refine lv_istore_n (lv' := [(1, .int r_1), (0, .ref hn)]) zx zb dX5_takeBack_11 rfl hl (by decide) rfl (fun ls hl => ?_)
  refine lv_iload_n zx zb dX5_takeBack_12 rfl (lv_at hl 0 rfl) ?_
  refine lv_iconst (v := (-1)) zx zb dX5_takeBack_13 (by decide) ?_
  refine lv_icmp_ne (tgt := 19) zx zb dX5_takeBack_14 (by decide) (fun c_2 => ?_) (fun c_2 => ?_)
  · refine lv_aload_n zx zb dX5_takeBack_19 rfl (lv_at hl 1 rfl) ?_
    refine lv_iload_n zx zb dX5_takeBack_20 rfl (lv_at hl 0 rfl) ?_
    refine r_put (C := RX5) (T := TX5) (N := 8) (ci := 3) (v := .int r_1) S in_X5_takeBack_X5 tyX5_ok nmX5 G 0 rfl rfl 1 (by decide) lk_X5_takeBack_15 rfl (vp_nar_int _) rfl (Nat.le_of_ble_eq_true rfl) dX5_takeBack_21 (fun H locs G => ?_)
    obtain ⟨dv_3, G⟩ : ∃ dv_3 : Nat → Int32, wd X (va_A (rcV X hn an sv dv n0 n1 n2 n3 n4 g0 gs gn gm) sz) (va_A (rcV X hn an sv dv n0 n1 n2 n3 n4 g0 gs gn gm) sz) s (rcV X hn an sv dv_3 n0 n1_1b n2 n3 n4 g0 gs gn gm) H locs := ⟨upd dv_1a 1 r_1, G⟩
    refine lv_iconst (v := 1) zx zb dX5_takeBack_24 (by decide) ?_
    exact e_int S zr zlk (by decide) G (dv_3, n1_1b) [0, 1, 2, 3, 4, 5, 6, 7, 8, 9, 10, 11, 12, 13, 14, 15] rfl rfl (Or.inr rfl) (⟨hI_n1_1b, by first | exact Or.inl rfl | exact Or.inr rfl⟩) dX5_takeBack_25
  · refine lv_iconst (v := 0) zx zb dX5_takeBack_17 (by decide) ?_
    exact e_int S zr zlk (by decide) G (dv_1a, n1_1b) [0, 1, 2, 3, 4, 5, 6, 7, 8, 9, 10, 11, 12, 13, 14, 15] rfl rfl (Or.inr rfl) (⟨hI_n1_1b, by first | exact Or.inl rfl | exact Or.inr rfl⟩) dX5_takeBack_18
theorem in_X5_restart_X5 : ∀ w ∈ wsX50, w ∈ wsX5_restart := by decide +kernel
theorem lk_X5_restart_9 : Cond.fieldLink RX5 9 "EggSpoons$Race" "length" "I" ∈ wsX5_restart := by decide +kernel
theorem lk_X5_restart_15 : Cond.fieldLink RX5 15 "EggSpoons$Race" "tick" "I" ∈ wsX5_restart := by decide +kernel
theorem lk_X5_restart_18 : Cond.fieldLink RX5 18 "EggSpoons$Race" "runners" "I" ∈ wsX5_restart := by decide +kernel
theorem lk_X5_restart_30 : Cond.fieldLink RX5 30 "EggSpoons$Race" "past" "LEggSpoons$Past;" ∈ wsX5_restart := by decide +kernel
theorem in_X5_restart_X4 : ∀ w ∈ wsX40, w ∈ wsX5_restart := by decide +kernel
theorem lk_X5_restart_50 : Cond.fieldLink RX5 50 "EggSpoons$Past" "size" "I" ∈ wsX5_restart := by decide +kernel
theorem lk_X5_restart_39 : Cond.fieldLink RX5 39 "EggSpoons$Race" "seenRows" "LEggSpoons$Rows;" ∈ wsX5_restart := by decide +kernel
theorem in_X5_restart_X7 : ∀ w ∈ wsX70, w ∈ wsX5_restart := by decide +kernel
theorem lk_X5_restart_53 : Cond.fieldLink RX5 53 "EggSpoons$Rows" "size" "I" ∈ wsX5_restart := by decide +kernel
theorem lk_X5_restart_43 : Cond.fieldLink RX5 43 "EggSpoons$Race" "noteRows" "LEggSpoons$Rows;" ∈ wsX5_restart := by decide +kernel
theorem lk_X5_restart_46 : Cond.fieldLink RX5 46 "EggSpoons$Race" "markRows" "LEggSpoons$Rows;" ∈ wsX5_restart := by decide +kernel
set_option maxHeartbeats 4000000 in
set_option maxRecDepth 100000 in
/-- restart -/
theorem s_restart (l : Launch) (X : EX) (hn : Nat) (an : Nat → Nat) (sv : Nat → Int32) (dv : Nat → Int32) (n0 : Nat) (n1 : Nat) (n2 : Nat) (n3 : Nat) (n4 : Nat) (g0 : Nat → Int32) (gs : Nat → Int32) (gn : Nat → Int32) (gm : Nat → Int32) (x1 : Int32) (hI_n0 : n0 ≤ 6) (hI_n1 : n1 ≤ 8) (hI_n2 : n2 ≤ 5) (hI_n3 : n3 ≤ 6) (hI_n4 : n4 ≤ 6) (sz : Nat) : Met l yX5_restart wsX5_restart ({ frames := 0, cells := 0, slots := 0, locals := 0 } : Room) (pE X [.ref hn, .int x1] (rcV X hn an sv dv n0 n1 n2 n3 n4 g0 gs gn gm) sz) (qV (fun (u : (Nat → Int32) × (Nat) × (Nat) × (Nat) × (Nat) × (Nat)) => u.2.1 ≤ 6 ∧ u.2.2.1 ≤ 8 ∧ u.2.2.2.1 ≤ 5 ∧ u.2.2.2.2.1 ≤ 6 ∧ u.2.2.2.2.2 ≤ 6 ∧ (u.2.1 = 0 ∧ u.2.2.2.1 = 0 ∧ u.2.2.2.2.1 = 0 ∧ u.2.2.2.2.2 = 0)) X (fun (u : (Nat → Int32) × (Nat) × (Nat) × (Nat) × (Nat) × (Nat)) => rcV X hn an sv u.1 u.2.1 u.2.2.1 u.2.2.2.1 u.2.2.2.2.1 u.2.2.2.2.2 g0 gs gn gm) (rcV X hn an sv dv n0 n1 n2 n3 n4 g0 gs gn gm) sz) 0 0 (va_A (rcV X hn an sv dv n0 n1 n2 n3 n4 g0 gs gn gm) sz) := by
  refine mk_met (B := (va_A (rcV X hn an sv dv n0 n1 n2 n3 n4 g0 gs gn gm) sz)) (A := (va_A (rcV X hn an sv dv n0 n1 n2 n3 n4 g0 gs gn gm) sz)) (cc := cX5_restart) (maxL := 2) (ret := none) (by decide) rfl (Nat.le_of_ble_eq_true rfl) k_w k_a (fun p e s m below meth c S zr zlk znm zsz G ls hl => ?_)
  have S : CallFix p m c cX5_restart 2 s _ wsX5_restart RX5 := S
  have zx := S.1
  have zb := S.2.1
  have hl : lv_has ls 2 [(0, .ref hn), (1, .int x1)] := hl
  refine lv_aload_n zx zb dX5_restart_0 rfl (lv_at hl 0 rfl) ?_
  refine lv_iload_n zx zb dX5_restart_1 rfl (lv_at hl 1 rfl) ?_
  refine r_put (C := RX5) (T := TX5) (N := 8) (ci := 3) (v := .int x1) S in_X5_restart_X5 tyX5_ok nmX5 G 0 rfl rfl 0 (by decide) lk_X5_restart_9 rfl (vp_nar_int _) rfl (Nat.le_of_ble_eq_true rfl) dX5_restart_2 (fun H locs G => ?_)
  obtain ⟨dv_1, G⟩ : ∃ dv_1 : Nat → Int32, wd X (va_A (rcV X hn an sv dv n0 n1 n2 n3 n4 g0 gs gn gm) sz) (va_A (rcV X hn an sv dv n0 n1 n2 n3 n4 g0 gs gn gm) sz) s (rcV X hn an sv dv_1 n0 n1 n2 n3 n4 g0 gs gn gm) H locs := ⟨upd dv 0 x1, G⟩
  refine lv_aload_n zx zb dX5_restart_5 rfl (lv_at hl 0 rfl) ?_
  refine lv_iconst (v := 0) zx zb dX5_restart_6 (by decide) ?_
  refine r_put (C := RX5) (T := TX5) (N := 8) (ci := 3) (v := .int 0) S in_X5_restart_X5 tyX5_ok nmX5 G 0 rfl rfl 1 (by decide) lk_X5_restart_15 rfl (vp_nar_int _) rfl (Nat.le_of_ble_eq_true rfl) dX5_restart_7 (fun H locs G => ?_)
  obtain ⟨dv_2, G⟩ : ∃ dv_2 : Nat → Int32, wd X (va_A (rcV X hn an sv dv n0 n1 n2 n3 n4 g0 gs gn gm) sz) (va_A (rcV X hn an sv dv n0 n1 n2 n3 n4 g0 gs gn gm) sz) s (rcV X hn an sv dv_2 n0 n1 n2 n3 n4 g0 gs gn gm) H locs := ⟨upd dv_1 1 0, G⟩
  refine lv_aload_n zx zb dX5_restart_10 rfl (lv_at hl 0 rfl) ?_
  refine lv_iconst (v := 0) zx zb dX5_restart_11 (by decide) ?_
  refine r_put (C := RX5) (T := TX5) (N := 8) (ci := 3) (v := .int 0) S in_X5_restart_X5 tyX5_ok nmX5 G 0 rfl rfl 2 (by decide) lk_X5_restart_18 rfl (vp_nar_int _) rfl (Nat.le_of_ble_eq_true rfl) dX5_restart_12 (fun H locs G => ?_)
  obtain ⟨n_3, hI_n_3, hE_n_3, G⟩ : ∃ n_3 : Nat, n_3 ≤ 6 ∧ n_3 = 0 ∧ wd X (va_A (rcV X hn an sv dv n0 n1 n2 n3 n4 g0 gs gn gm) sz) (va_A (rcV X hn an sv dv n0 n1 n2 n3 n4 g0 gs gn gm) sz) s (rcV X hn an sv dv_2 n_3 n1 n2 n3 n4 g0 gs gn gm) H locs := ⟨0, by omega, rfl, G⟩
  refine lv_aload_n zx zb dX5_restart_15 rfl (lv_at hl 0 rfl) ?_
  refine r_get (C := RX5) (T := TX5) (N := 8) (ci := 3) (v := .ref (an 7)) S in_X5_restart_X5 G 0 rfl rfl 4 (by decide) lk_X5_restart_30 rfl dX5_restart_16 ?_
  refine lv_iconst (v := 0) zx zb dX5_restart_19 (by decide) ?_
  refine r_put (C := RX4) (T := TX4) (N := 2) (ci := 2) (v := .int 0) S in_X5_restart_X4 tyX4_ok nmX4 G 8 rfl rfl 1 (by decide) lk_X5_restart_50 rfl (vp_nar_int _) rfl (Nat.le_of_ble_eq_true rfl) dX5_restart_20 (fun H locs G => ?_)
  obtain ⟨n_4, hI_n_4, hE_n_4, G⟩ : ∃ n_4 : Nat, n_4 ≤ 8 ∧ n_4 = 0 ∧ wd X (va_A (rcV X hn an sv dv n0 n1 n2 n3 n4 g0 gs gn gm) sz) (va_A (rcV X hn an sv dv n0 n1 n2 n3 n4 g0 gs gn gm) sz) s (rcV X hn an sv dv_2 n_3 n_4 n2 n3 n4 g0 gs gn gm) H locs := ⟨0, by omega, rfl, G⟩
  refine lv_aload_n zx zb dX5_restart_23 rfl (lv_at hl 0 rfl) ?_
  refine r_get (C := RX5) (T := TX5) (N := 8) (ci := 3) (v := .ref (an 9)) S in_X5_restart_X5 G 0 rfl rfl 5 (by decide) lk_X5_restart_39 rfl dX5_restart_24 ?_
  refine lv_iconst (v := 0) zx zb dX5_restart_27 (by decide) ?_
  refine r_put (C := RX7) (T := TX7) (N := 5) (ci := 5) (v := .int 0) S in_X5_restart_X7 tyX7_ok nmX7 G 10 rfl rfl 4 (by decide) lk_X5_restart_53 rfl (vp_nar_int _) rfl (Nat.le_of_ble_eq_true rfl) dX5_restart_28 (fun H locs G => ?_)
  obtain ⟨n_5, hI_n_5, hE_n_5, G⟩ : ∃ n_5 : Nat, n_5 ≤ 5 ∧ n_5 = 0 ∧ wd X (va_A (rcV X hn an sv dv n0 n1 n2 n3 n4 g0 gs gn gm) sz) (va_A (rcV X hn an sv dv n0 n1 n2 n3 n4 g0 gs gn gm) sz) s (rcV X hn an sv dv_2 n_3 n_4 n_5 n3 n4 g0 gs gn gm) H locs := ⟨0, by omega, rfl, G⟩
  refine lv_aload_n zx zb dX5_restart_31 rfl (lv_at hl 0 rfl) ?_
  refine r_get (C := RX5) (T := TX5) (N := 8) (ci := 3) (v := .ref (an 11)) S in_X5_restart_X5 G 0 rfl rfl 6 (by decide) lk_X5_restart_43 rfl dX5_restart_32 ?_
  refine lv_iconst (v := 0) zx zb dX5_restart_35 (by decide) ?_
  refine r_put (C := RX7) (T := TX7) (N := 5) (ci := 5) (v := .int 0) S in_X5_restart_X7 tyX7_ok nmX7 G 12 rfl rfl 4 (by decide) lk_X5_restart_53 rfl (vp_nar_int _) rfl (Nat.le_of_ble_eq_true rfl) dX5_restart_36 (fun H locs G => ?_)
  obtain ⟨n_6, hI_n_6, hE_n_6, G⟩ : ∃ n_6 : Nat, n_6 ≤ 6 ∧ n_6 = 0 ∧ wd X (va_A (rcV X hn an sv dv n0 n1 n2 n3 n4 g0 gs gn gm) sz) (va_A (rcV X hn an sv dv n0 n1 n2 n3 n4 g0 gs gn gm) sz) s (rcV X hn an sv dv_2 n_3 n_4 n_5 n_6 n4 g0 gs gn gm) H locs := ⟨0, by omega, rfl, G⟩
  refine lv_aload_n zx zb dX5_restart_39 rfl (lv_at hl 0 rfl) ?_
  refine r_get (C := RX5) (T := TX5) (N := 8) (ci := 3) (v := .ref (an 13)) S in_X5_restart_X5 G 0 rfl rfl 7 (by decide) lk_X5_restart_46 rfl dX5_restart_40 ?_
  refine lv_iconst (v := 0) zx zb dX5_restart_43 (by decide) ?_
  refine r_put (C := RX7) (T := TX7) (N := 5) (ci := 5) (v := .int 0) S in_X5_restart_X7 tyX7_ok nmX7 G 14 rfl rfl 4 (by decide) lk_X5_restart_53 rfl (vp_nar_int _) rfl (Nat.le_of_ble_eq_true rfl) dX5_restart_44 (fun H locs G => ?_)
  obtain ⟨n_7, hI_n_7, hE_n_7, G⟩ : ∃ n_7 : Nat, n_7 ≤ 6 ∧ n_7 = 0 ∧ wd X (va_A (rcV X hn an sv dv n0 n1 n2 n3 n4 g0 gs gn gm) sz) (va_A (rcV X hn an sv dv n0 n1 n2 n3 n4 g0 gs gn gm) sz) s (rcV X hn an sv dv_2 n_3 n_4 n_5 n_6 n_7 g0 gs gn gm) H locs := ⟨0, by omega, rfl, G⟩
  exact e_void S zr zlk G (dv_2, n_3, n_4, n_5, n_6, n_7) [0, 1, 2, 3, 4, 5, 6, 7, 8, 9, 10, 11, 12, 13, 14, 15] rfl rfl (Or.inr rfl) (⟨hI_n_3, hI_n_4, hI_n_5, hI_n_6, hI_n_7, ⟨hE_n_3, hE_n_5, hE_n_6, hE_n_7⟩⟩) dX5_restart_47
theorem in_X5_welcome_X5 : ∀ w ∈ wsX50, w ∈ wsX5_welcome := by decide +kernel
theorem lk_X5_welcome_18 : Cond.fieldLink RX5 18 "EggSpoons$Race" "runners" "I" ∈ wsX5_welcome := by decide +kernel
theorem lk_X5_welcome_23 : Cond.fieldLink RX5 23 "EggSpoons$Race" "row" "[LEggSpoons$Runner;" ∈ wsX5_welcome := by decide +kernel
theorem hdV_X8_begin : yX8_begin.cls = RX8 ∧ yX8_begin.cls ≠ "java/lang/invoke/MethodHandle" ∧ yX8_begin.cls ≠ "java/lang/invoke/VarHandle" ∧ (parseMethodDescriptor yX8_begin.desc).map (fun d => d.parameters.length) = some 3 := by decide +kernel
theorem lk_X5_welcome_30 : Cond.fieldLink RX5 30 "EggSpoons$Race" "past" "LEggSpoons$Past;" ∈ wsX5_welcome := by decide +kernel
theorem in_X5_welcome_X4 : ∀ w ∈ wsX40, w ∈ wsX5_welcome := by decide +kernel
theorem lk_X5_welcome_50 : Cond.fieldLink RX5 50 "EggSpoons$Past" "size" "I" ∈ wsX5_welcome := by decide +kernel
theorem in_X5_goOn_X5 : ∀ w ∈ wsX50, w ∈ wsX5_goOn := by decide +kernel
theorem lk_X5_goOn_15 : Cond.fieldLink RX5 15 "EggSpoons$Race" "tick" "I" ∈ wsX5_goOn := by decide +kernel
theorem lk_X5_goOn_18 : Cond.fieldLink RX5 18 "EggSpoons$Race" "runners" "I" ∈ wsX5_goOn := by decide +kernel
theorem lk_X5_goOn_23 : Cond.fieldLink RX5 23 "EggSpoons$Race" "row" "[LEggSpoons$Runner;" ∈ wsX5_goOn := by decide +kernel
theorem lk_X5_goOn_9 : Cond.fieldLink RX5 9 "EggSpoons$Race" "length" "I" ∈ wsX5_goOn := by decide +kernel
set_option maxHeartbeats 4000000 in
set_option maxRecDepth 100000 in
/-- goOn -/
theorem s_goOn (l : Launch) (X : EX) (hn : Nat) (an : Nat → Nat) (sv : Nat → Int32) (dv : Nat → Int32) (n0 : Nat) (n1 : Nat) (n2 : Nat) (n3 : Nat) (n4 : Nat) (g0 : Nat → Int32) (gs : Nat → Int32) (gn : Nat → Int32) (gm : Nat → Int32) (hI_n0 : n0 ≤ 6) (hI_n1 : n1 ≤ 8) (hI_n2 : n2 ≤ 5) (hI_n3 : n3 ≤ 6) (hI_n4 : n4 ≤ 6) (sz : Nat) : Met l yX5_goOn wsX5_goOn ({ frames := 2, cells := 0, slots := 0, locals := 49 } : Room) (pE X [.ref hn] (rcV X hn an sv dv n0 n1 n2 n3 n4 g0 gs gn gm) sz) (qV (fun (u : (Nat → Int32)) => (True)) X (fun (u : (Nat → Int32)) => rcV X hn an sv u n0 n1 n2 n3 n4 g0 gs gn gm) (rcV X hn an sv dv n0 n1 n2 n3 n4 g0 gs gn gm) sz) 0 0 (va_A (rcV X hn an sv dv n0 n1 n2 n3 n4 g0 gs gn gm) sz) := by
  refine mk_met (B := (va_A (rcV X hn an sv dv n0 n1 n2 n3 n4 g0 gs gn gm) sz)) (A := (va_A (rcV X hn an sv dv n0 n1 n2 n3 n4 g0 gs gn gm) sz)) (cc := cX5_goOn) (maxL := 2) (ret := none) (by decide) rfl (Nat.le_of_ble_eq_true rfl) k_w k_a (fun p e s m below meth c S zr zlk znm zsz G ls hl => ?_)
  have S : CallFix p m c cX5_goOn 2 s _ wsX5_goOn RX5 := S
  have zx := S.1
  have zb := S.2.1
  have hl : lv_has ls 2 [(0, .ref hn)] := hl
  refine lv_aload_n zx zb dX5_goOn_0 rfl (lv_at hl 0 rfl) ?_
  refine lv_dup zx zb dX5_goOn_1 rfl ?_
  refine r_get (C := RX5) (T := TX5) (N := 8) (ci := 3) (v := .int (dv 1)) S in_X5_goOn_X5 G 0 rfl rfl 1 (by decide) lk_X5_goOn_15 rfl dX5_goOn_2 ?_
  refine lv_iconst (v := 1) zx zb dX5_goOn_5 (by decide) ?_
  refine r_iadd (v := ((dv 1) + 1)) S rfl dX5_goOn_6 ?_
  refine r_put (C := RX5) (T := TX5) (N := 8) (ci := 3) (v := .int ((dv 1) + 1)) S in_X5_goOn_X5 tyX5_ok nmX5 G 0 rfl rfl 1 (by decide) lk_X5_goOn_15 rfl (vp_nar_int _) rfl (Nat.le_of_ble_eq_true rfl) dX5_goOn_7 (fun H locs G => ?_)
  obtain ⟨dv_1, G⟩ : ∃ dv_1 : Nat → Int32, wd X (va_A (rcV X hn an sv dv n0 n1 n2 n3 n4 g0 gs gn gm) sz) (va_A (rcV X hn an sv dv n0 n1 n2 n3 n4 g0 gs gn gm) sz) s (rcV X hn an sv dv_1 n0 n1 n2 n3 n4 g0 gs gn gm) H locs := ⟨upd dv 1 ((dv 1) + 1), G⟩
  refine lv_iconst (v := 0) zx zb dX5_goOn_10 (by decide) ?_
  refine lv_istore_n (lv' := [(1, .int 0), (0, .ref hn)]) zx zb dX5_goOn_11 rfl hl (by decide) rfl (fun ls hl => ?_)
  refine k_loop (P := ∀ (zm : Nat) (k12 : Nat) (dv12_0 : Nat → Int32) (H : Heap) (locs : List Loc) (ls : Array Slot), 6 + 1 ≤ k12 + zm → (k12 ≤ 6) → wd X (va_A (rcV X hn an sv dv n0 n1 n2 n3 n4 g0 gs gn gm) sz) (va_A (rcV X hn an sv dv n0 n1 n2 n3 n4 g0 gs gn gm) sz) s (rcV X hn an sv dv12_0 n0 n1 n2 n3 n4 g0 gs gn gm) H locs → lv_has ls 2 [(1, .int (nI k12)), (0, .ref hn)] → W p l e _ s m _ below meth c H locs _ _ _ (F0 m 12 ls [])) (fun loop => loop (6 + 1) 0 dv_1 _ _ _ (by omega) (by omega) G hl) ?_
  intro zm
  induction zm with
  | zero => intro k12 dv12_0 H locs ls zz q_hk_k12 _ _; exact absurd zz (by omega)
  | succ zm ih12 =>
    intro k12 dv12_0 H locs ls zm_12 hk_k12 G hl
    refine lv_iload_n zx zb dX5_goOn_12 rfl (lv_at hl 0 rfl) ?_
    refine lv_aload_n zx zb dX5_goOn_13 rfl (lv_at hl 1 rfl) ?_
    refine r_get (C := RX5) (T := TX5) (N := 8) (ci := 3) (v := .int (nI n0)) S in_X5_goOn_X5 G 0 rfl rfl 2 (by decide) lk_X5_goOn_18 rfl dX5_goOn_14 ?_
    refine lv_icmp_ge (tgt := 43) zx zb dX5_goOn_17 (by decide) (fun c_2 => ?_) (fun c_2 => ?_)
    · have fc_2 := j_le (a := n0) (b := k12) (by omega) (by omega) c_2
      exact e_void S zr zlk G (dv12_0) [0, 1, 2, 3, 4, 5, 6, 7, 8, 9, 10, 11, 12, 13, 14, 15] rfl rfl (Or.inr rfl) (trivial) dX5_goOn_43
    · have fc_2 := j_nle (a := n0) (b := k12) (by omega) (by omega) c_2
      refine lv_aload_n zx zb dX5_goOn_20 rfl (lv_at hl 1 rfl) ?_
      refine r_get (C := RX5) (T := TX5) (N := 8) (ci := 3) (v := .ref (an 0)) S in_X5_goOn_X5 G 0 rfl rfl 3 (by decide) lk_X5_goOn_23 rfl dX5_goOn_21 ?_
      refine lv_iload_n zx zb dX5_goOn_24 rfl (lv_at hl 0 rfl) ?_
      rcases k_6c (show k12 < 6 by omega) with rfl | rfl | rfl | rfl | rfl | rfl
      · refine k_it (v := 0) rfl ?_
        refine r_aald (C := RX8) (b := (an 1)) S G 1 3 rfl rfl (k_vp (by decide)) rfl dX5_goOn_25 ?_
        refine lv_aload_n zx zb dX5_goOn_26 rfl (lv_at hl 1 rfl) ?_
        refine r_get (C := RX5) (T := TX5) (N := 8) (ci := 3) (v := .int (dv12_0 1)) S in_X5_goOn_X5 G 0 rfl rfl 1 (by decide) lk_X5_goOn_15 rfl dX5_goOn_27 ?_
        refine lv_aload_n zx zb dX5_goOn_30 rfl (lv_at hl 1 rfl) ?_
        refine r_get (C := RX5) (T := TX5) (N := 8) (ci := 3) (v := .int (dv12_0 0)) S in_X5_goOn_X5 G 0 rfl rfl 0 (by decide) lk_X5_goOn_9 rfl dX5_goOn_31 ?_
        refine b_wv (cells' := 0) (slots' := 0) (wr := [(hn, .inr (3, [.int (dv12_0 0), .int (dv12_0 1), .int (nI n0), .ref (an 0), .ref (an 7), .ref (an 9), .ref (an 11), .ref (an 13)])), ((an 0), .inl (X.2.2.2.2, 6, .inr (.inr (.inr (.inr (rowQ an)))))), ((an 2), .inr (6, [.int (sv 3), .int (sv 4), .int (sv 5), .int (dv12_0 15), .int (dv12_0 16), .int (dv12_0 17), .int (dv12_0 18), .int (dv12_0 19)])), ((an 3), .inr (6, [.int (sv 6), .int (sv 7), .int (sv 8), .int (dv12_0 20), .int (dv12_0 21), .int (dv12_0 22), .int (dv12_0 23), .int (dv12_0 24)])), ((an 4), .inr (6, [.int (sv 9), .int (sv 10), .int (sv 11), .int (dv12_0 25), .int (dv12_0 26), .int (dv12_0 27), .int (dv12_0 28), .int (dv12_0 29)])), ((an 5), .inr (6, [.int (sv 12), .int (sv 13), .int (sv 14), .int (dv12_0 30), .int (dv12_0 31), .int (dv12_0 32), .int (dv12_0 33), .int (dv12_0 34)])), ((an 6), .inr (6, [.int (sv 15), .int (sv 16), .int (sv 17), .int (dv12_0 35), .int (dv12_0 36), .int (dv12_0 37), .int (dv12_0 38), .int (dv12_0 39)])), ((an 7), .inr (2, [.ref (an 8), .int (nI n1)])), ((an 8), .inl (X.2.1, 248, .inl g0)), ((an 9), .inr (5, [.int 5, .int 0, .int 1, .ref (an 10), .int (nI n2)])), ((an 10), .inl (X.2.1, 25, .inl gs)), ((an 11), .inr (5, [.int 6, .int 1, .int 1, .ref (an 12), .int (nI n3)])), ((an 12), .inl (X.2.1, 30, .inl gn)), ((an 13), .inr (5, [.int 6, .int 0, .int 0, .ref (an 14), .int (nI n4)])), ((an 14), .inl (X.2.1, 30, .inl gm))]) G rfl rfl [2] [0, 1, 3, 4, 5, 6, 7, 8, 9, 10, 11, 12, 13, 14, 15] rfl rfl rfl rfl (n_V (As := [.int (dv12_0 1), .int (dv12_0 0)]) (rest := []) (C := RX8) (T := TX8) (N := 8) (ci := 6) S G (s_step l X (an 1) (fun k => sv (0 + k)) (fun k => dv12_0 (10 + k)) (dv12_0 1) (dv12_0 0) H.size) gX5_goOn_X8_step rfl rfl rfl hdV_X8_step ⟨Nat.le_of_ble_eq_true rfl, Nat.le_of_ble_eq_true rfl⟩ [2] rfl rfl 2 rfl rfl rfl hl.1 (Nat.le_of_ble_eq_true rfl) dX5_goOn_34 ⟨Nat.le_of_ble_eq_true rfl, Nat.le_of_ble_eq_true rfl⟩) (fun u_3 H locs hp_3 G => ?_)
        obtain ⟨d_3, rfl⟩ : ∃ z, z = u_3 := ⟨_, rfl⟩
        have hq_3 := hp_3
        obtain ⟨dv_4, G⟩ : ∃ (dv_4 : Nat → Int32), wd X (va_A (rcV X hn an sv dv n0 n1 n2 n3 n4 g0 gs gn gm) sz) (va_A (rcV X hn an sv dv n0 n1 n2 n3 n4 g0 gs gn gm) sz) s (rcV X hn an sv dv_4 n0 n1 n2 n3 n4 g0 gs gn gm) H locs := ⟨(ovr dv12_0 10 5 d_3), wd_sub G [0, 1, 15, 2, 3, 4, 5, 6, 7, 8, 9, 10, 11, 12, 13, 14] rfl rfl⟩
        refine lv_iinc (v := 1) (lv' := [(1, .int 1), (0, .ref hn)]) zx zb dX5_goOn_37 hl (k := 0) rfl (by decide) (by decide) rfl (fun ls hl => ?_)
        refine lv_goto (tgt := 12) zx zb dX5_goOn_40 (by decide) ?_
        exact ih12 1 dv_4 _ _ _ (by omega) (by omega) G hl
      · refine k_it (v := 1) rfl ?_
        refine r_aald (C := RX8) (b := (an 2)) S G 1 3 rfl rfl (k_vp (by decide)) rfl dX5_goOn_25 ?_
        refine lv_aload_n zx zb dX5_goOn_26 rfl (lv_at hl 1 rfl) ?_
        refine r_get (C := RX5) (T := TX5) (N := 8) (ci := 3) (v := .int (dv12_0 1)) S in_X5_goOn_X5 G 0 rfl rfl 1 (by decide) lk_X5_goOn_15 rfl dX5_goOn_27 ?_
        refine lv_aload_n zx zb dX5_goOn_30 rfl (lv_at hl 1 rfl) ?_
        refine r_get (C := RX5) (T := TX5) (N := 8) (ci := 3) (v := .int (dv12_0 0)) S in_X5_goOn_X5 G 0 rfl rfl 0 (by decide) lk_X5_goOn_9 rfl dX5_goOn_31 ?_
        refine b_wv (cells' := 0) (slots' := 0) (wr := [(hn, .inr (3, [.int (dv12_0 0), .int (dv12_0 1), .int (nI n0), .ref (an 0), .ref (an 7), .ref (an 9), .ref (an 11), .ref (an 13)])), ((an 0), .inl (X.2.2.2.2, 6, .inr (.inr (.inr (.inr (rowQ an)))))), ((an 1), .inr (6, [.int (sv 0), .int (sv 1), .int (sv 2), .int (dv12_0 10), .int (dv12_0 11), .int (dv12_0 12), .int (dv12_0 13), .int (dv12_0 14)])), ((an 3), .inr (6, [.int (sv 6), .int (sv 7), .int (sv 8), .int (dv12_0 20), .int (dv12_0 21), .int (dv12_0 22), .int (dv12_0 23), .int (dv12_0 24)])), ((an 4), .inr (6, [.int (sv 9), .int (sv 10), .int (sv 11), .int (dv12_0 25), .int (dv12_0 26), .int (dv12_0 27), .int (dv12_0 28), .int (dv12_0 29)])), ((an 5), .inr (6, [.int (sv 12), .int (sv 13), .int (sv 14), .int (dv12_0 30), .int (dv12_0 31), .int (dv12_0 32), .int (dv12_0 33), .int (dv12_0 34)])), ((an 6), .inr (6, [.int (sv 15), .int (sv 16), .int (sv 17), .int (dv12_0 35), .int (dv12_0 36), .int (dv12_0 37), .int (dv12_0 38), .int (dv12_0 39)])), ((an 7), .inr (2, [.ref (an 8), .int (nI n1)])), ((an 8), .inl (X.2.1, 248, .inl g0)), ((an 9), .inr (5, [.int 5, .int 0, .int 1, .ref (an 10), .int (nI n2)])), ((an 10), .inl (X.2.1, 25, .inl gs)), ((an 11), .inr (5, [.int 6, .int 1, .int 1, .ref (an 12), .int (nI n3)])), ((an 12), .inl (X.2.1, 30, .inl gn)), ((an 13), .inr (5, [.int 6, .int 0, .int 0, .ref (an 14), .int (nI n4)])), ((an 14), .inl (X.2.1, 30, .inl gm))]) G rfl rfl [3] [0, 1, 2, 4, 5, 6, 7, 8, 9, 10, 11, 12, 13, 14, 15] rfl rfl rfl rfl (n_V (As := [.int (dv12_0 1), .int (dv12_0 0)]) (rest := []) (C := RX8) (T := TX8) (N := 8) (ci := 6) S G (s_step l X (an 2) (fun k => sv (3 + k)) (fun k => dv12_0 (15 + k)) (dv12_0 1) (dv12_0 0) H.size) gX5_goOn_X8_step rfl rfl rfl hdV_X8_step ⟨Nat.le_of_ble_eq_true rfl, Nat.le_of_ble_eq_true rfl⟩ [3] rfl rfl 3 rfl rfl rfl hl.1 (Nat.le_of_ble_eq_true rfl) dX5_goOn_34 ⟨Nat.le_of_ble_eq_true rfl, Nat.le_of_ble_eq_true rfl⟩) (fun u_5 H locs hp_5 G => ?_)
        obtain ⟨d_5, rfl⟩ : ∃ z, z = u_5 := ⟨_, rfl⟩
        have hq_5 := hp_5
        obtain ⟨dv_6, G⟩ : ∃ (dv_6 : Nat → Int32), wd X (va_A (rcV X hn an sv dv n0 n1 n2 n3 n4 g0 gs gn gm) sz) (va_A (rcV X hn an sv dv n0 n1 n2 n3 n4 g0 gs gn gm) sz) s (rcV X hn an sv dv_6 n0 n1 n2 n3 n4 g0 gs gn gm) H locs := ⟨(ovr dv12_0 15 5 d_5), wd_sub G [0, 1, 2, 15, 3, 4, 5, 6, 7, 8, 9, 10, 11, 12, 13, 14] rfl rfl⟩
        refine lv_iinc (v := 2) (lv' := [(1, .int 2), (0, .ref hn)]) zx zb dX5_goOn_37 hl (k := 0) rfl (by decide) (by decide) rfl (fun ls hl => ?_)
        refine lv_goto (tgt := 12) zx zb dX5_goOn_40 (by decide) ?_
        exact ih12 2 dv_6 _ _ _ (by omega) (by omega) G hl
      · refine k_it (v := 2) rfl ?_
        refine r_aald (C := RX8) (b := (an 3)) S G 1 3 rfl rfl (k_vp (by decide)) rfl dX5_goOn_25 ?_
        refine lv_aload_n zx zb dX5_goOn_26 rfl (lv_at hl 1 rfl) ?_
        refine r_get (C := RX5) (T := TX5) (N := 8) (ci := 3) (v := .int (dv12_0 1)) S in_X5_goOn_X5 G 0 rfl rfl 1 (by decide) lk_X5_goOn_15 rfl dX5_goOn_27 ?_
        refine lv_aload_n zx zb dX5_goOn_30 rfl (lv_at hl 1 rfl) ?_
        refine r_get (C := RX5) (T := TX5) (N := 8) (ci := 3) (v := .int (dv12_0 0)) S in_X5_goOn_X5 G 0 rfl rfl 0 (by decide) lk_X5_goOn_9 rfl dX5_goOn_31 ?_
        refine b_wv (cells' := 0) (slots' := 0) (wr := [(hn, .inr (3, [.int (dv12_0 0), .int (dv12_0 1), .int (nI n0), .ref (an 0), .ref (an 7), .ref (an 9), .ref (an 11), .ref (an 13)])), ((an 0), .inl (X.2.2.2.2, 6, .inr (.inr (.inr (.inr (rowQ an)))))), ((an 1), .inr (6, [.int (sv 0), .int (sv 1), .int (sv 2), .int (dv12_0 10), .int (dv12_0 11), .int (dv12_0 12), .int (dv12_0 13), .int (dv12_0 14)])), ((an 2), .inr (6, [.int (sv 3), .int (sv 4), .int (sv 5), .int (dv12_0 15), .int (dv12_0 16), .int (dv12_0 17), .int (dv12_0 18), .int (dv12_0 19)])), ((an 4), .inr (6, [.int (sv 9), .int (sv 10), .int (sv 11), .int (dv12_0 25), .int (dv12_0 26), .int (dv12_0 27), .int (dv12_0 28), .int (dv12_0 29)])), ((an 5), .inr (6, [.int (sv 12), .int (sv 13), .int (sv 14), .int (dv12_0 30), .int (dv12_0 31), .int (dv12_0 32), .int (dv12_0 33), .int (dv12_0 34)])), ((an 6), .inr (6, [.int (sv 15), .int (sv 16), .int (sv 17), .int (dv12_0 35), .int (dv12_0 36), .int (dv12_0 37), .int (dv12_0 38), .int (dv12_0 39)])), ((an 7), .inr (2, [.ref (an 8), .int (nI n1)])), ((an 8), .inl (X.2.1, 248, .inl g0)), ((an 9), .inr (5, [.int 5, .int 0, .int 1, .ref (an 10), .int (nI n2)])), ((an 10), .inl (X.2.1, 25, .inl gs)), ((an 11), .inr (5, [.int 6, .int 1, .int 1, .ref (an 12), .int (nI n3)])), ((an 12), .inl (X.2.1, 30, .inl gn)), ((an 13), .inr (5, [.int 6, .int 0, .int 0, .ref (an 14), .int (nI n4)])), ((an 14), .inl (X.2.1, 30, .inl gm))]) G rfl rfl [4] [0, 1, 2, 3, 5, 6, 7, 8, 9, 10, 11, 12, 13, 14, 15] rfl rfl rfl rfl (n_V (As := [.int (dv12_0 1), .int (dv12_0 0)]) (rest := []) (C := RX8) (T := TX8) (N := 8) (ci := 6) S G (s_step l X (an 3) (fun k => sv (6 + k)) (fun k => dv12_0 (20 + k)) (dv12_0 1) (dv12_0 0) H.size) gX5_goOn_X8_step rfl rfl rfl hdV_X8_step ⟨Nat.le_of_ble_eq_true rfl, Nat.le_of_ble_eq_true rfl⟩ [4] rfl rfl 4 rfl rfl rfl hl.1 (Nat.le_of_ble_eq_true rfl) dX5_goOn_34 ⟨Nat.le_of_ble_eq_true rfl, Nat.le_of_ble_eq_true rfl⟩) (fun u_7 H locs hp_7 G => ?_)
        obtain ⟨d_7, rfl⟩ : ∃ z, z = u_7 := ⟨_, rfl⟩
        have hq_7 := hp_7
        obtain ⟨dv_8, G⟩ : ∃ (dv_8 : Nat → Int32), wd X (va_A (rcV X hn an sv dv n0 n1 n2 n3 n4 g0 gs gn gm) sz) (va_A (rcV X hn an sv dv n0 n1 n2 n3 n4 g0 gs gn gm) sz) s (rcV X hn an sv dv_8 n0 n1 n2 n3 n4 g0 gs gn gm) H locs := ⟨(ovr dv12_0 20 5 d_7), wd_sub G [0, 1, 2, 3, 15, 4, 5, 6, 7, 8, 9, 10, 11, 12, 13, 14] rfl rfl⟩
        refine lv_iinc (v := 3) (lv' := [(1, .int 3), (0, .ref hn)]) zx zb dX5_goOn_37 hl (k := 0) rfl (by decide) (by decide) rfl (fun ls hl => ?_)
        refine lv_goto (tgt := 12) zx zb dX5_goOn_40 (by decide) ?_
        exact ih12 3 dv_8 _ _ _ (by omega) (by omega) G hl
      · refine k_it (v := 3) rfl ?_
        refine r_aald (C := RX8) (b := (an 4)) S G 1 3 rfl rfl (k_vp (by decide)) rfl dX5_goOn_25 ?_
        refine lv_aload_n zx zb dX5_goOn_26 rfl (lv_at hl 1 rfl) ?_
        refine r_get (C := RX5) (T := TX5) (N := 8) (ci := 3) (v := .int (dv12_0 1)) S in_X5_goOn_X5 G 0 rfl rfl 1 (by decide) lk_X5_goOn_15 rfl dX5_goOn_27 ?_
        refine lv_aload_n zx zb dX5_goOn_30 rfl (lv_at hl 1 rfl) ?_
        refine r_get (C := RX5) (T := TX5) (N := 8) (ci := 3) (v := .int (dv12_0 0)) S in_X5_goOn_X5 G 0 rfl rfl 0 (by decide) lk_X5_goOn_9 rfl dX5_goOn_31 ?_
        refine b_wv (cells' := 0) (slots' := 0) (wr := [(hn, .inr (3, [.int (dv12_0 0), .int (dv12_0 1), .int (nI n0), .ref (an 0), .ref (an 7), .ref (an 9), .ref (an 11), .ref (an 13)])), ((an 0), .inl (X.2.2.2.2, 6, .inr (.inr (.inr (.inr (rowQ an)))))), ((an 1), .inr (6, [.int (sv 0), .int (sv 1), .int (sv 2), .int (dv12_0 10), .int (dv12_0 11), .int (dv12_0 12), .int (dv12_0 13), .int (dv12_0 14)])), ((an 2), .inr (6, [.int (sv 3), .int (sv 4), .int (sv 5), .int (dv12_0 15), .int (dv12_0 16), .int (dv12_0 17), .int (dv12_0 18), .int (dv12_0 19)])), ((an 3), .inr (6, [.int (sv 6), .int (sv 7), .int (sv 8), .int (dv12_0 20), .int (dv12_0 21), .int (dv12_0 22), .int (dv12_0 23), .int (dv12_0 24)])), ((an 5), .inr (6, [.int (sv 12), .int (sv 13), .int (sv 14), .int (dv12_0 30), .int (dv12_0 31), .int (dv12_0 32), .int (dv12_0 33), .int (dv12_0 34)])), ((an 6), .inr (6, [.int (sv 15), .int (sv 16), .int (sv 17), .int (dv12_0 35), .int (dv12_0 36), .int (dv12_0 37), .int (dv12_0 38), .int (dv12_0 39)])), ((an 7), .inr (2, [.ref (an 8), .int (nI n1)])), ((an 8), .inl (X.2.1, 248, .inl g0)), ((an 9), .inr (5, [.int 5, .int 0, .int 1, .ref (an 10), .int (nI n2)])), ((an 10), .inl (X.2.1, 25, .inl gs)), ((an 11), .inr (5, [.int 6, .int 1, .int 1, .ref (an 12), .int (nI n3)])), ((an 12), .inl (X.2.1, 30, .inl gn)), ((an 13), .inr (5, [.int 6, .int 0, .int 0, .ref (an 14), .int (nI n4)])), ((an 14), .inl (X.2.1, 30, .inl gm))]) G rfl rfl [5] [0, 1, 2, 3, 4, 6, 7, 8, 9, 10, 11, 12, 13, 14, 15] rfl rfl rfl rfl (n_V (As := [.int (dv12_0 1), .int (dv12_0 0)]) (rest := []) (C := RX8) (T := TX8) (N := 8) (ci := 6) S G (s_step l X (an 4) (fun k => sv (9 + k)) (fun k => dv12_0 (25 + k)) (dv12_0 1) (dv12_0 0) H.size) gX5_goOn_X8_step rfl rfl rfl hdV_X8_step ⟨Nat.le_of_ble_eq_true rfl, Nat.le_of_ble_eq_true rfl⟩ [5] rfl rfl 5 rfl rfl rfl hl.1 (Nat.le_of_ble_eq_true rfl) dX5_goOn_34 ⟨Nat.le_of_ble_eq_true rfl, Nat.le_of_ble_eq_true rfl⟩) (fun u_9 H locs hp_9 G => ?_)
        obtain ⟨d_9, rfl⟩ : ∃ z, z = u_9 := ⟨_, rfl⟩
        have hq_9 := hp_9
        obtain ⟨dv_10, G⟩ : ∃ (dv_10 : Nat → Int32), wd X (va_A (rcV X hn an sv dv n0 n1 n2 n3 n4 g0 gs gn gm) sz) (va_A (rcV X hn an sv dv n0 n1 n2 n3 n4 g0 gs gn gm) sz) s (rcV X hn an sv dv_10 n0 n1 n2 n3 n4 g0 gs gn gm) H locs := ⟨(ovr dv12_0 25 5 d_9), wd_sub G [0, 1, 2, 3, 4, 15, 5, 6, 7, 8, 9, 10, 11, 12, 13, 14] rfl rfl⟩
        refine lv_iinc (v := 4) (lv' := [(1, .int 4), (0, .ref hn)]) zx zb dX5_goOn_37 hl (k := 0) rfl (by decide) (by decide) rfl (fun ls hl => ?_)
        refine lv_goto (tgt := 12) zx zb dX5_goOn_40 (by decide) ?_
        exact ih12 4 dv_10 _ _ _ (by omega) (by omega) G hl
      · refine k_it (v := 4) rfl ?_
        refine r_aald (C := RX8) (b := (an 5)) S G 1 3 rfl rfl (k_vp (by decide)) rfl dX5_goOn_25 ?_
        refine lv_aload_n zx zb dX5_goOn_26 rfl (lv_at hl 1 rfl) ?_
        refine r_get (C := RX5) (T := TX5) (N := 8) (ci := 3) (v := .int (dv12_0 1)) S in_X5_goOn_X5 G 0 rfl rfl 1 (by decide) lk_X5_goOn_15 rfl dX5_goOn_27 ?_
        refine lv_aload_n zx zb dX5_goOn_30 rfl (lv_at hl 1 rfl) ?_
        refine r_get (C := RX5) (T := TX5) (N := 8) (ci := 3) (v := .int (dv12_0 0)) S in_X5_goOn_X5 G 0 rfl rfl 0 (by decide) lk_X5_goOn_9 rfl dX5_goOn_31 ?_
        refine b_wv (cells' := 0) (slots' := 0) (wr := [(hn, .inr (3, [.int (dv12_0 0), .int (dv12_0 1), .int (nI n0), .ref (an 0), .ref (an 7), .ref (an 9), .ref (an 11), .ref (an 13)])), ((an 0), .inl (X.2.2.2.2, 6, .inr (.inr (.inr (.inr (rowQ an)))))), ((an 1), .inr (6, [.int (sv 0), .int (sv 1), .int (sv 2), .int (dv12_0 10), .int (dv12_0 11), .int (dv12_0 12), .int (dv12_0 13), .int (dv12_0 14)])), ((an 2), .inr (6, [.int (sv 3), .int (sv 4), .int (sv 5), .int (dv12_0 15), .int (dv12_0 16), .int (dv12_0 17), .int (dv12_0 18), .int (dv12_0 19)])), ((an 3), .inr (6, [.int (sv 6), .int (sv 7), .int (sv 8), .int (dv12_0 20), .int (dv12_0 21), .int (dv12_0 22), .int (dv12_0 23), .int (dv12_0 24)])), ((an 4), .inr (6, [.int (sv 9), .int (sv 10), .int (sv 11), .int (dv12_0 25), .int (dv12_0 26), .int (dv12_0 27), .int (dv12_0 28), .int (dv12_0 29)])), ((an 6), .inr (6, [.int (sv 15), .int (sv 16), .int (sv 17), .int (dv12_0 35), .int (dv12_0 36), .int (dv12_0 37), .int (dv12_0 38), .int (dv12_0 39)])), ((an 7), .inr (2, [.ref (an 8), .int (nI n1)])), ((an 8), .inl (X.2.1, 248, .inl g0)), ((an 9), .inr (5, [.int 5, .int 0, .int 1, .ref (an 10), .int (nI n2)])), ((an 10), .inl (X.2.1, 25, .inl gs)), ((an 11), .inr (5, [.int 6, .int 1, .int 1, .ref (an 12), .int (nI n3)])), ((an 12), .inl (X.2.1, 30, .inl gn)), ((an 13), .inr (5, [.int 6, .int 0, .int 0, .ref (an 14), .int (nI n4)])), ((an 14), .inl (X.2.1, 30, .inl gm))]) G rfl rfl [6] [0, 1, 2, 3, 4, 5, 7, 8, 9, 10, 11, 12, 13, 14, 15] rfl rfl rfl rfl (n_V (As := [.int (dv12_0 1), .int (dv12_0 0)]) (rest := []) (C := RX8) (T := TX8) (N := 8) (ci := 6) S G (s_step l X (an 5) (fun k => sv (12 + k)) (fun k => dv12_0 (30 + k)) (dv12_0 1) (dv12_0 0) H.size) gX5_goOn_X8_step rfl rfl rfl hdV_X8_step ⟨Nat.le_of_ble_eq_true rfl, Nat.le_of_ble_eq_true rfl⟩ [6] rfl rfl 6 rfl rfl rfl hl.1 (Nat.le_of_ble_eq_true rfl) dX5_goOn_34 ⟨Nat.le_of_ble_eq_true rfl, Nat.le_of_ble_eq_true rfl⟩) (fun u_11 H locs hp_11 G => ?_)
        obtain ⟨d_11, rfl⟩ : ∃ z, z = u_11 := ⟨_, rfl⟩
        have hq_11 := hp_11
        obtain ⟨dv_12, G⟩ : ∃ (dv_12 : Nat → Int32), wd X (va_A (rcV X hn an sv dv n0 n1 n2 n3 n4 g0 gs gn gm) sz) (va_A (rcV X hn an sv dv n0 n1 n2 n3 n4 g0 gs gn gm) sz) s (rcV X hn an sv dv_12 n0 n1 n2 n3 n4 g0 gs gn gm) H locs := ⟨(ovr dv12_0 30 5 d_11), wd_sub G [0, 1, 2, 3, 4, 5, 15, 6, 7, 8, 9, 10, 11, 12, 13, 14] rfl rfl⟩
        refine lv_iinc (v := 5) (lv' := [(1, .int 5), (0, .ref hn)]) zx zb dX5_goOn_37 hl (k := 0) rfl (by decide) (by decide) rfl (fun ls hl => ?_)
        refine lv_goto (tgt := 12) zx zb dX5_goOn_40 (by decide) ?_
        exact ih12 5 dv_12 _ _ _ (by omega) (by omega) G hl
      · refine k_it (v := 5) rfl ?_
        refine r_aald (C := RX8) (b := (an 6)) S G 1 3 rfl rfl (k_vp (by decide)) rfl dX5_goOn_25 ?_
        refine lv_aload_n zx zb dX5_goOn_26 rfl (lv_at hl 1 rfl) ?_
        refine r_get (C := RX5) (T := TX5) (N := 8) (ci := 3) (v := .int (dv12_0 1)) S in_X5_goOn_X5 G 0 rfl rfl 1 (by decide) lk_X5_goOn_15 rfl dX5_goOn_27 ?_
        refine lv_aload_n zx zb dX5_goOn_30 rfl (lv_at hl 1 rfl) ?_
        refine r_get (C := RX5) (T := TX5) (N := 8) (ci := 3) (v := .int (dv12_0 0)) S in_X5_goOn_X5 G 0 rfl rfl 0 (by decide) lk_X5_goOn_9 rfl dX5_goOn_31 ?_
        refine b_wv (cells' := 0) (slots' := 0) (wr := [(hn, .inr (3, [.int (dv12_0 0), .int (dv12_0 1), .int (nI n0), .ref (an 0), .ref (an 7), .ref (an 9), .ref (an 11), .ref (an 13)])), ((an 0), .inl (X.2.2.2.2, 6, .inr (.inr (.inr (.inr (rowQ an)))))), ((an 1), .inr (6, [.int (sv 0), .int (sv 1), .int (sv 2), .int (dv12_0 10), .int (dv12_0 11), .int (dv12_0 12), .int (dv12_0 13), .int (dv12_0 14)])), ((an 2), .inr (6, [.int (sv 3), .int (sv 4), .int (sv 5), .int (dv12_0 15), .int (dv12_0 16), .int (dv12_0 17), .int (dv12_0 18), .int (dv12_0 19)])), ((an 3), .inr (6, [.int (sv 6), .int (sv 7), .int (sv 8), .int (dv12_0 20), .int (dv12_0 21), .int (dv12_0 22), .int (dv12_0 23), .int (dv12_0 24)])), ((an 4), .inr (6, [.int (sv 9), .int (sv 10), .int (sv 11), .int (dv12_0 25), .int (dv12_0 26), .int (dv12_0 27), .int (dv12_0 28), .int (dv12_0 29)])), ((an 5), .inr (6, [.int (sv 12), .int (sv 13), .int (sv 14), .int (dv12_0 30), .int (dv12_0 31), .int (dv12_0 32), .int (dv12_0 33), .int (dv12_0 34)])), ((an 7), .inr (2, [.ref (an 8), .int (nI n1)])), ((an 8), .inl (X.2.1, 248, .inl g0)), ((an 9), .inr (5, [.int 5, .int 0, .int 1, .ref (an 10), .int (nI n2)])), ((an 10), .inl (X.2.1, 25, .inl gs)), ((an 11), .inr (5, [.int 6, .int 1, .int 1, .ref (an 12), .int (nI n3)])), ((an 12), .inl (X.2.1, 30, .inl gn)), ((an 13), .inr (5, [.int 6, .int 0, .int 0, .ref (an 14), .int (nI n4)])), ((an 14), .inl (X.2.1, 30, .inl gm))]) G rfl rfl [7] [0, 1, 2, 3, 4, 5, 6, 8, 9, 10, 11, 12, 13, 14, 15] rfl rfl rfl rfl (n_V (As := [.int (dv12_0 1), .int (dv12_0 0)]) (rest := []) (C := RX8) (T := TX8) (N := 8) (ci := 6) S G (s_step l X (an 6) (fun k => sv (15 + k)) (fun k => dv12_0 (35 + k)) (dv12_0 1) (dv12_0 0) H.size) gX5_goOn_X8_step rfl rfl rfl hdV_X8_step ⟨Nat.le_of_ble_eq_true rfl, Nat.le_of_ble_eq_true rfl⟩ [7] rfl rfl 7 rfl rfl rfl hl.1 (Nat.le_of_ble_eq_true rfl) dX5_goOn_34 ⟨Nat.le_of_ble_eq_true rfl, Nat.le_of_ble_eq_true rfl⟩) (fun u_13 H locs hp_13 G => ?_)
        obtain ⟨d_13, rfl⟩ : ∃ z, z = u_13 := ⟨_, rfl⟩
        have hq_13 := hp_13
        obtain ⟨dv_14, G⟩ : ∃ (dv_14 : Nat → Int32), wd X (va_A (rcV X hn an sv dv n0 n1 n2 n3 n4 g0 gs gn gm) sz) (va_A (rcV X hn an sv dv n0 n1 n2 n3 n4 g0 gs gn gm) sz) s (rcV X hn an sv dv_14 n0 n1 n2 n3 n4 g0 gs gn gm) H locs := ⟨(ovr dv12_0 35 5 d_13), wd_sub G [0, 1, 2, 3, 4, 5, 6, 15, 7, 8, 9, 10, 11, 12, 13, 14] rfl rfl⟩
        refine lv_iinc (v := 6) (lv' := [(1, .int 6), (0, .ref hn)]) zx zb dX5_goOn_37 hl (k := 0) rfl (by decide) (by decide) rfl (fun ls hl => ?_)
        refine lv_goto (tgt := 12) zx zb dX5_goOn_40 (by decide) ?_
        exact ih12 6 dv_14 _ _ _ (by omega) (by omega) G hl
theorem in_X5_homes_X5 : ∀ w ∈ wsX50, w ∈ wsX5_homes := by decide +kernel
theorem lk_X5_homes_18 : Cond.fieldLink RX5 18 "EggSpoons$Race" "runners" "I" ∈ wsX5_homes := by decide +kernel
theorem lk_X5_homes_23 : Cond.fieldLink RX5 23 "EggSpoons$Race" "row" "[LEggSpoons$Runner;" ∈ wsX5_homes := by decide +kernel
set_option maxHeartbeats 4000000 in
set_option maxRecDepth 100000 in
/-- homes -/
theorem s_homes (l : Launch) (X : EX) (hn : Nat) (an : Nat → Nat) (sv : Nat → Int32) (dv : Nat → Int32) (n0 : Nat) (n1 : Nat) (n2 : Nat) (n3 : Nat) (n4 : Nat) (g0 : Nat → Int32) (gs : Nat → Int32) (gn : Nat → Int32) (gm : Nat → Int32) (hI_n0 : n0 ≤ 6) (hI_n1 : n1 ≤ 8) (hI_n2 : n2 ≤ 5) (hI_n3 : n3 ≤ 6) (hI_n4 : n4 ≤ 6) (sz : Nat) : Met l yX5_homes wsX5_homes ({ frames := 1, cells := 0, slots := 0, locals := 20 } : Room) (pE X [.ref hn] (rcV X hn an sv dv n0 n1 n2 n3 n4 g0 gs gn gm) sz) (qI (fun (r : Int32) (u : Unit) => True) X (fun (u : Unit) => []) [] sz) 0 0 (va_A [] sz) := by
  refine mk_met (B := (fun _ => True)) (A := (va_A [] sz)) (cc := cX5_homes) (maxL := 3) (ret := (some .int)) (by decide) rfl (Nat.le_of_ble_eq_true rfl) k_ro k_a (fun p e s m below meth c S zr zlk znm zsz G ls hl => ?_)
  have S : CallFix p m c cX5_homes 3 s _ wsX5_homes RX5 := S
  have zx := S.1
  have zb := S.2.1
  have hl : lv_has ls 3 [(0, .ref hn)] := hl
  refine lv_iconst (v := 0) zx zb dX5_homes_0 (by decide) ?_
  refine lv_istore_n (lv' := [(1, .int 0), (0, .ref hn)]) zx zb dX5_homes_1 rfl hl (by decide) rfl (fun ls hl => ?_)
  refine lv_iconst (v := 0) zx zb dX5_homes_2 (by decide) ?_
  refine lv_istore_n (lv' := [(2, .int 0), (1, .int 0), (0, .ref hn)]) zx zb dX5_homes_3 rfl hl (by decide) rfl (fun ls hl => ?_)
  refine k_loop (P := ∀ (zm : Nat) (k4 : Nat) (x4_1 : Int32) (H : Heap) (locs : List Loc) (ls : Array Slot), 6 + 1 ≤ k4 + zm → (k4 ≤ 6) → wd X (fun _ => True) (va_A [] sz) s (rcV X hn an sv dv n0 n1 n2 n3 n4 g0 gs gn gm) H locs → lv_has ls 3 [(2, .int (nI k4)), (1, .int x4_1), (0, .ref hn)] → W p l e _ s m _ below meth c H locs _ _ _ (F0 m 4 ls [])) (fun loop => loop (6 + 1) 0 0 _ _ _ (by omega) (by omega) G hl) ?_
  intro zm
  induction zm with
  | zero => intro k4 x4_1 H locs ls zz q_hk_k4 _ _; exact absurd zz (by omega)
  | succ zm ih4 =>
    intro k4 x4_1 H locs ls zm_4 hk_k4 G hl
    refine lv_iload_n zx zb dX5_homes_4 rfl (lv_at hl 0 rfl) ?_
    refine lv_aload_n zx zb dX5_homes_5 rfl (lv_at hl 2 rfl) ?_
    refine r_get (C := RX5) (T := TX5) (N := 8) (ci := 3) (v := .int (nI n0)) S in_X5_homes_X5 G 0 rfl rfl 2 (by decide) lk_X5_homes_18 rfl dX5_homes_6 ?_
    refine lv_icmp_ge (tgt := 38) zx zb dX5_homes_9 (by decide) (fun c_1 => ?_) (fun c_1 => ?_)
    · have fc_1 := j_le (a := n0) (b := k4) (by omega) (by omega) c_1
      refine lv_iload_n zx zb dX5_homes_38 rfl (lv_at hl 1 rfl) ?_
      exact e_int S zr zlk (vp_nar_int _) G () [] rfl rfl (Or.inl rfl) (trivial) dX5_homes_39
    · have fc_1 := j_nle (a := n0) (b := k4) (by omega) (by omega) c_1
      refine lv_iload_n zx zb dX5_homes_12 rfl (lv_at hl 1 rfl) ?_
      refine lv_aload_n zx zb dX5_homes_13 rfl (lv_at hl 2 rfl) ?_
      refine r_get (C := RX5) (T := TX5) (N := 8) (ci := 3) (v := .ref (an 0)) S in_X5_homes_X5 G 0 rfl rfl 3 (by decide) lk_X5_homes_23 rfl dX5_homes_14 ?_
      refine lv_iload_n zx zb dX5_homes_17 rfl (lv_at hl 0 rfl) ?_
      rcases k_6c (show k4 < 6 by omega) with rfl | rfl | rfl | rfl | rfl | rfl
      · refine k_it (v := 0) rfl ?_
        refine r_aald (C := RX8) (b := (an 1)) S G 1 3 rfl rfl (k_vp (by decide)) rfl dX5_homes_18 ?_
        refine o_ri (cells' := 0) (slots' := 0) G rfl rfl (n_V (As := []) (rest := [.int x4_1]) (C := RX8) (T := TX8) (N := 8) (ci := 6) S G (s_isHome l X (an 1) (fun k => sv (0 + k)) (fun k => dv (10 + k)) H.size) gX5_homes_X8_isHome rfl rfl rfl hdV_X8_isHome ⟨Nat.le_of_ble_eq_true rfl, Nat.le_of_ble_eq_true rfl⟩ [2] rfl rfl 2 rfl rfl rfl hl.1 (Nat.le_of_ble_eq_true rfl) dX5_homes_19 ⟨Nat.le_of_ble_eq_true rfl, Nat.le_of_ble_eq_true rfl⟩) (fun r_2 u_2 H locs hp_2 G => ?_)
        have G : wd X (fun _ => True) (va_A [] sz) s (rcV X hn an sv dv n0 n1 n2 n3 n4 g0 gs gn gm) H locs := G
        refine k_cutW (PP := fun Wx => ∀ (x_4 : Int32) (H : Heap) (locs : List Loc) (ls : Array Slot), wd X (fun _ => True) (va_A [] sz) s (rcV X hn an sv dv n0 n1 n2 n3 n4 g0 gs gn gm) H locs → lv_has ls 3 [(2, .int 0), (1, .int x4_1), (0, .ref hn)] → Wx (F0 m 30 ls [.int x_4, .int x4_1]) H locs) ?_ ?_
        · intro join_22
          refine lv_if_eq (tgt := 29) zx zb dX5_homes_22 (by decide) (fun c_3 => ?_) (fun c_3 => ?_)
          · refine lv_iconst (v := 0) zx zb dX5_homes_29 (by decide) ?_
            exact join_22 0 _ _ _  G hl
          · refine lv_iconst (v := 1) zx zb dX5_homes_25 (by decide) ?_
            refine lv_goto (tgt := 30) zx zb dX5_homes_26 (by decide) ?_
            exact join_22 1 _ _ _  G hl
        · intro x_4 H locs ls  G hl
          refine r_iadd (v := (x4_1 + x_4)) S rfl dX5_homes_30 ?_
          refine lv_istore_n (lv' := [(1, .int (x4_1 + x_4)), (2, .int 0), (0, .ref hn)]) zx zb dX5_homes_31 rfl hl (by decide) rfl (fun ls hl => ?_)
          refine lv_iinc (v := 1) (lv' := [(2, .int 1), (1, .int (x4_1 + x_4)), (0, .ref hn)]) zx zb dX5_homes_32 hl (k := 1) rfl (by decide) (by decide) rfl (fun ls hl => ?_)
          refine lv_goto (tgt := 4) zx zb dX5_homes_35 (by decide) ?_
          exact ih4 1 (x4_1 + x_4) _ _ _ (by omega) (by omega) G hl
      · refine k_it (v := 1) rfl ?_
        refine r_aald (C := RX8) (b := (an 2)) S G 1 3 rfl rfl (k_vp (by decide)) rfl dX5_homes_18 ?_
        refine o_ri (cells' := 0) (slots' := 0) G rfl rfl (n_V (As := []) (rest := [.int x4_1]) (C := RX8) (T := TX8) (N := 8) (ci := 6) S G (s_isHome l X (an 2) (fun k => sv (3 + k)) (fun k => dv (15 + k)) H.size) gX5_homes_X8_isHome rfl rfl rfl hdV_X8_isHome ⟨Nat.le_of_ble_eq_true rfl, Nat.le_of_ble_eq_true rfl⟩ [3] rfl rfl 3 rfl rfl rfl hl.1 (Nat.le_of_ble_eq_true rfl) dX5_homes_19 ⟨Nat.le_of_ble_eq_true rfl, Nat.le_of_ble_eq_true rfl⟩) (fun r_5 u_5 H locs hp_5 G => ?_)
        have G : wd X (fun _ => True) (va_A [] sz) s (rcV X hn an sv dv n0 n1 n2 n3 n4 g0 gs gn gm) H locs := G
        refine k_cutW (PP := fun Wx => ∀ (x_7 : Int32) (H : Heap) (locs : List Loc) (ls : Array Slot), wd X (fun _ => True) (va_A [] sz) s (rcV X hn an sv dv n0 n1 n2 n3 n4 g0 gs gn gm) H locs → lv_has ls 3 [(2, .int 1), (1, .int x4_1), (0, .ref hn)] → Wx (F0 m 30 ls [.int x_7, .int x4_1]) H locs) ?_ ?_
        · intro join_22
          refine lv_if_eq (tgt := 29) zx zb dX5_homes_22 (by decide) (fun c_6 => ?_) (fun c_6 => ?_)
          · refine lv_iconst (v := 0) zx zb dX5_homes_29 (by decide) ?_
            exact join_22 0 _ _ _  G hl
          · refine lv_iconst (v := 1) zx zb dX5_homes_25 (by decide) ?_
            refine lv_goto (tgt := 30) zx zb dX5_homes_26 (by decide) ?_
            exact join_22 1 _ _ _  G hl
        · intro x_7 H locs ls  G hl
          refine r_iadd (v := (x4_1 + x_7)) S rfl dX5_homes_30 ?_
          refine lv_istore_n (lv' := [(1, .int (x4_1 + x_7)), (2, .int 1), (0, .ref hn)]) zx zb dX5_homes_31 rfl hl (by decide) rfl (fun ls hl => ?_)
          refine lv_iinc (v := 2) (lv' := [(2, .int 2), (1, .int (x4_1 + x_7)), (0, .ref hn)]) zx zb dX5_homes_32 hl (k := 1) rfl (by decide) (by decide) rfl (fun ls hl => ?_)
          refine lv_goto (tgt := 4) zx zb dX5_homes_35 (by decide) ?_
          exact ih4 2 (x4_1 + x_7) _ _ _ (by omega) (by omega) G hl
      · refine k_it (v := 2) rfl ?_
        refine r_aald (C := RX8) (b := (an 3)) S G 1 3 rfl rfl (k_vp (by decide)) rfl dX5_homes_18 ?_
        refine o_ri (cells' := 0) (slots' := 0) G rfl rfl (n_V (As := []) (rest := [.int x4_1]) (C := RX8) (T := TX8) (N := 8) (ci := 6) S G (s_isHome l X (an 3) (fun k => sv (6 + k)) (fun k => dv (20 + k)) H.size) gX5_homes_X8_isHome rfl rfl rfl hdV_X8_isHome ⟨Nat.le_of_ble_eq_true rfl, Nat.le_of_ble_eq_true rfl⟩ [4] rfl rfl 4 rfl rfl rfl hl.1 (Nat.le_of_ble_eq_true rfl) dX5_homes_19 ⟨Nat.le_of_ble_eq_true rfl, Nat.le_of_ble_eq_true rfl⟩) (fun r_8 u_8 H locs hp_8 G => ?_)
        have G : wd X (fun _ => True) (va_A [] sz) s (rcV X hn an sv dv n0 n1 n2 n3 n4 g0 gs gn gm) H locs := G
        refine k_cutW (PP := fun Wx => ∀ (x_10 : Int32) (H : Heap) (locs : List Loc) (ls : Array Slot), wd X (fun _ => True) (va_A [] sz) s (rcV X hn an sv dv n0 n1 n2 n3 n4 g0 gs gn gm) H locs → lv_has ls 3 [(2, .int 2), (1, .int x4_1), (0, .ref hn)] → Wx (F0 m 30 ls [.int x_10, .int x4_1]) H locs) ?_ ?_
        · intro join_22
          refine lv_if_eq (tgt := 29) zx zb dX5_homes_22 (by decide) (fun c_9 => ?_) (fun c_9 => ?_)
          · refine lv_iconst (v := 0) zx zb dX5_homes_29 (by decide) ?_
            exact join_22 0 _ _ _  G hl
          · refine lv_iconst (v := 1) zx zb dX5_homes_25 (by decide) ?_
            refine lv_goto (tgt := 30) zx zb dX5_homes_26 (by decide) ?_
            exact join_22 1 _ _ _  G hl
        · intro x_10 H locs ls  G hl
          refine r_iadd (v := (x4_1 + x_10)) S rfl dX5_homes_30 ?_
          refine lv_istore_n (lv' := [(1, .int (x4_1 + x_10)), (2, .int 2), (0, .ref hn)]) zx zb dX5_homes_31 rfl hl (by decide) rfl (fun ls hl => ?_)
          refine lv_iinc (v := 3) (lv' := [(2, .int 3), (1, .int (x4_1 + x_10)), (0, .ref hn)]) zx zb dX5_homes_32 hl (k := 1) rfl (by decide) (by decide) rfl (fun ls hl => ?_)
          refine lv_goto (tgt := 4) zx zb dX5_homes_35 (by decide) ?_
          exact ih4 3 (x4_1 + x_10) _ _ _ (by omega) (by omega) G hl
      · refine k_it (v := 3) rfl ?_
        refine r_aald (C := RX8) (b := (an 4)) S G 1 3 rfl rfl (k_vp (by decide)) rfl dX5_homes_18 ?_
        refine o_ri (cells' := 0) (slots' := 0) G rfl rfl (n_V (As := []) (rest := [.int x4_1]) (C := RX8) (T := TX8) (N := 8) (ci := 6) S G (s_isHome l X (an 4) (fun k => sv (9 + k)) (fun k => dv (25 + k)) H.size) gX5_homes_X8_isHome rfl rfl rfl hdV_X8_isHome ⟨Nat.le_of_ble_eq_true rfl, Nat.le_of_ble_eq_true rfl⟩ [5] rfl rfl 5 rfl rfl rfl hl.1 (Nat.le_of_ble_eq_true rfl) dX5_homes_19 ⟨Nat.le_of_ble_eq_true rfl, Nat.le_of_ble_eq_true rfl⟩) (fun r_11 u_11 H locs hp_11 G => ?_)
        have G : wd X (fun _ => True) (va_A [] sz) s (rcV X hn an sv dv n0 n1 n2 n3 n4 g0 gs gn gm) H locs := G
        refine k_cutW (PP := fun Wx => ∀ (x_13 : Int32) (H : Heap) (locs : List Loc) (ls : Array Slot), wd X (fun _ => True) (va_A [] sz) s (rcV X hn an sv dv n0 n1 n2 n3 n4 g0 gs gn gm) H locs → lv_has ls 3 [(2, .int 3), (1, .int x4_1), (0, .ref hn)] → Wx (F0 m 30 ls [.int x_13, .int x4_1]) H locs) ?_ ?_
        · intro join_22
          refine lv_if_eq (tgt := 29) zx zb dX5_homes_22 (by decide) (fun c_12 => ?_) (fun c_12 => ?_)
          · refine lv_iconst (v := 0) zx zb dX5_homes_29 (by decide) ?_
            exact join_22 0 _ _ _  G hl
          · refine lv_iconst (v := 1) zx zb dX5_homes_25 (by decide) ?_
            refine lv_goto (tgt := 30) zx zb dX5_homes_26 (by decide) ?_
            exact join_22 1 _ _ _  G hl
        · intro x_13 H locs ls  G hl
          refine r_iadd (v := (x4_1 + x_13)) S rfl dX5_homes_30 ?_
          refine lv_istore_n (lv' := [(1, .int (x4_1 + x_13)), (2, .int 3), (0, .ref hn)]) zx zb dX5_homes_31 rfl hl (by decide) rfl (fun ls hl => ?_)
          refine lv_iinc (v := 4) (lv' := [(2, .int 4), (1, .int (x4_1 + x_13)), (0, .ref hn)]) zx zb dX5_homes_32 hl (k := 1) rfl (by decide) (by decide) rfl (fun ls hl => ?_)
          refine lv_goto (tgt := 4) zx zb dX5_homes_35 (by decide) ?_
          exact ih4 4 (x4_1 + x_13) _ _ _ (by omega) (by omega) G hl
      · refine k_it (v := 4) rfl ?_
        refine r_aald (C := RX8) (b := (an 5)) S G 1 3 rfl rfl (k_vp (by decide)) rfl dX5_homes_18 ?_
        refine o_ri (cells' := 0) (slots' := 0) G rfl rfl (n_V (As := []) (rest := [.int x4_1]) (C := RX8) (T := TX8) (N := 8) (ci := 6) S G (s_isHome l X (an 5) (fun k => sv (12 + k)) (fun k => dv (30 + k)) H.size) gX5_homes_X8_isHome rfl rfl rfl hdV_X8_isHome ⟨Nat.le_of_ble_eq_true rfl, Nat.le_of_ble_eq_true rfl⟩ [6] rfl rfl 6 rfl rfl rfl hl.1 (Nat.le_of_ble_eq_true rfl) dX5_homes_19 ⟨Nat.le_of_ble_eq_true rfl, Nat.le_of_ble_eq_true rfl⟩) (fun r_14 u_14 H locs hp_14 G => ?_)
        have G : wd X (fun _ => True) (va_A [] sz) s (rcV X hn an sv dv n0 n1 n2 n3 n4 g0 gs gn gm) H locs := G
        refine k_cutW (PP := fun Wx => ∀ (x_16 : Int32) (H : Heap) (locs : List Loc) (ls : Array Slot), wd X (fun _ => True) (va_A [] sz) s (rcV X hn an sv dv n0 n1 n2 n3 n4 g0 gs gn gm) H locs → lv_has ls 3 [(2, .int 4), (1, .int x4_1), (0, .ref hn)] → Wx (F0 m 30 ls [.int x_16, .int x4_1]) H locs) ?_ ?_
        · intro join_22
          refine lv_if_eq (tgt := 29) zx zb dX5_homes_22 (by decide) (fun c_15 => ?_) (fun c_15 => ?_)
          · refine lv_iconst (v := 0) zx zb dX5_homes_29 (by decide) ?_
            exact join_22 0 _ _ _  G hl
          · refine lv_iconst (v := 1) zx zb dX5_homes_25 (by decide) ?_
            refine lv_goto (tgt := 30) zx zb dX5_homes_26 (by decide) ?_
            exact join_22 1 _ _ _  G hl
        · intro x_16 H locs ls  G hl
          refine r_iadd (v := (x4_1 + x_16)) S rfl dX5_homes_30 ?_
          refine lv_istore_n (lv' := [(1, .int (x4_1 + x_16)), (2, .int 4), (0, .ref hn)]) zx zb dX5_homes_31 rfl hl (by decide) rfl (fun ls hl => ?_)
          refine lv_iinc (v := 5) (lv' := [(2, .int 5), (1, .int (x4_1 + x_16)), (0, .ref hn)]) zx zb dX5_homes_32 hl (k := 1) rfl (by decide) (by decide) rfl (fun ls hl => ?_)
          refine lv_goto (tgt := 4) zx zb dX5_homes_35 (by decide) ?_
          exact ih4 5 (x4_1 + x_16) _ _ _ (by omega) (by omega) G hl
      · refine k_it (v := 5) rfl ?_
        refine r_aald (C := RX8) (b := (an 6)) S G 1 3 rfl rfl (k_vp (by decide)) rfl dX5_homes_18 ?_
        refine o_ri (cells' := 0) (slots' := 0) G rfl rfl (n_V (As := []) (rest := [.int x4_1]) (C := RX8) (T := TX8) (N := 8) (ci := 6) S G (s_isHome l X (an 6) (fun k => sv (15 + k)) (fun k => dv (35 + k)) H.size) gX5_homes_X8_isHome rfl rfl rfl hdV_X8_isHome ⟨Nat.le_of_ble_eq_true rfl, Nat.le_of_ble_eq_true rfl⟩ [7] rfl rfl 7 rfl rfl rfl hl.1 (Nat.le_of_ble_eq_true rfl) dX5_homes_19 ⟨Nat.le_of_ble_eq_true rfl, Nat.le_of_ble_eq_true rfl⟩) (fun r_17 u_17 H locs hp_17 G => ?_)
        have G : wd X (fun _ => True) (va_A [] sz) s (rcV X hn an sv dv n0 n1 n2 n3 n4 g0 gs gn gm) H locs := G
        refine k_cutW (PP := fun Wx => ∀ (x_19 : Int32) (H : Heap) (locs : List Loc) (ls : Array Slot), wd X (fun _ => True) (va_A [] sz) s (rcV X hn an sv dv n0 n1 n2 n3 n4 g0 gs gn gm) H locs → lv_has ls 3 [(2, .int 5), (1, .int x4_1), (0, .ref hn)] → Wx (F0 m 30 ls [.int x_19, .int x4_1]) H locs) ?_ ?_
        · intro join_22
          refine lv_if_eq (tgt := 29) zx zb dX5_homes_22 (by decide) (fun c_18 => ?_) (fun c_18 => ?_)
          · refine lv_iconst (v := 0) zx zb dX5_homes_29 (by decide) ?_
            exact join_22 0 _ _ _  G hl
          · refine lv_iconst (v := 1) zx zb dX5_homes_25 (by decide) ?_
            refine lv_goto (tgt := 30) zx zb dX5_homes_26 (by decide) ?_
            exact join_22 1 _ _ _  G hl
        · intro x_19 H locs ls  G hl
          refine r_iadd (v := (x4_1 + x_19)) S rfl dX5_homes_30 ?_
          refine lv_istore_n (lv' := [(1, .int (x4_1 + x_19)), (2, .int 5), (0, .ref hn)]) zx zb dX5_homes_31 rfl hl (by decide) rfl (fun ls hl => ?_)
          refine lv_iinc (v := 6) (lv' := [(2, .int 6), (1, .int (x4_1 + x_19)), (0, .ref hn)]) zx zb dX5_homes_32 hl (k := 1) rfl (by decide) (by decide) rfl (fun ls hl => ?_)
          refine lv_goto (tgt := 4) zx zb dX5_homes_35 (by decide) ?_
          exact ih4 6 (x4_1 + x_19) _ _ _ (by omega) (by omega) G hl
theorem in_X5_placesTogether_X5 : ∀ w ∈ wsX50, w ∈ wsX5_placesTogether := by decide +kernel
theorem lk_X5_placesTogether_18 : Cond.fieldLink RX5 18 "EggSpoons$Race" "runners" "I" ∈ wsX5_placesTogether := by decide +kernel
theorem lk_X5_placesTogether_23 : Cond.fieldLink RX5 23 "EggSpoons$Race" "row" "[LEggSpoons$Runner;" ∈ wsX5_placesTogether := by decide +kernel
theorem in_X5_placesTogether_X8 : ∀ w ∈ wsX80, w ∈ wsX5_placesTogether := by decide +kernel
theorem lk_X5_placesTogether_88 : Cond.fieldLink RX5 88 "EggSpoons$Runner" "place" "I" ∈ wsX5_placesTogether := by decide +kernel
set_option maxHeartbeats 4000000 in
set_option maxRecDepth 100000 in
/-- placesTogether -/
theorem s_places (l : Launch) (X : EX) (hn : Nat) (an : Nat → Nat) (sv : Nat → Int32) (dv : Nat → Int32) (n0 : Nat) (n1 : Nat) (n2 : Nat) (n3 : Nat) (n4 : Nat) (g0 : Nat → Int32) (gs : Nat → Int32) (gn : Nat → Int32) (gm : Nat → Int32) (hI_n0 : n0 ≤ 6) (hI_n1 : n1 ≤ 8) (hI_n2 : n2 ≤ 5) (hI_n3 : n3 ≤ 6) (hI_n4 : n4 ≤ 6) (sz : Nat) : Met l yX5_placesTogether wsX5_placesTogether ({ frames := 0, cells := 0, slots := 0, locals := 0 } : Room) (pE X [.ref hn] (rcV X hn an sv dv n0 n1 n2 n3 n4 g0 gs gn gm) sz) (qI (fun (r : Int32) (u : Unit) => True) X (fun (u : Unit) => []) [] sz) 0 0 (va_A [] sz) := by
  refine mk_met (B := (fun _ => True)) (A := (va_A [] sz)) (cc := cX5_placesTogether) (maxL := 3) (ret := (some .int)) (by decide) rfl (Nat.le_of_ble_eq_true rfl) k_ro k_a (fun p e s m below meth c S zr zlk znm zsz G ls hl => ?_)
  have S : CallFix p m c cX5_placesTogether 3 s _ wsX5_placesTogether RX5 := S
  have zx := S.1
  have zb := S.2.1
  have hl : lv_has ls 3 [(0, .ref hn)] := hl
  refine lv_iconst (v := 0) zx zb dX5_placesTogether_0 (by decide) ?_
  refine lv_istore_n (lv' := [(1, .int 0), (0, .ref hn)]) zx zb dX5_placesTogether_1 rfl hl (by decide) rfl (fun ls hl => ?_)
  refine lv_iconst (v := 0) zx zb dX5_placesTogether_2 (by decide) ?_
  refine lv_istore_n (lv' := [(2, .int 0), (1, .int 0), (0, .ref hn)]) zx zb dX5_placesTogether_3 rfl hl (by decide) rfl (fun ls hl => ?_)
  refine k_loop (P := ∀ (zm : Nat) (k4 : Nat) (x4_1 : Int32) (H : Heap) (locs : List Loc) (ls : Array Slot), 6 + 1 ≤ k4 + zm → (k4 ≤ 6) → wd X (fun _ => True) (va_A [] sz) s (rcV X hn an sv dv n0 n1 n2 n3 n4 g0 gs gn gm) H locs → lv_has ls 3 [(2, .int (nI k4)), (1, .int x4_1), (0, .ref hn)] → W p l e _ s m _ below meth c H locs _ _ _ (F0 m 4 ls [])) (fun loop => loop (6 + 1) 0 0 _ _ _ (by omega) (by omega) G hl) ?_
  intro zm
  induction zm with
  | zero => intro k4 x4_1 H locs ls zz q_hk_k4 _ _; exact absurd zz (by omega)
  | succ zm ih4 =>
    intro k4 x4_1 H locs ls zm_4 hk_k4 G hl
    refine lv_iload_n zx zb dX5_placesTogether_4 rfl (lv_at hl 0 rfl) ?_
    refine lv_aload_n zx zb dX5_placesTogether_5 rfl (lv_at hl 2 rfl) ?_
    refine r_get (C := RX5) (T := TX5) (N := 8) (ci := 3) (v := .int (nI n0)) S in_X5_placesTogether_X5 G 0 rfl rfl 2 (by decide) lk_X5_placesTogether_18 rfl dX5_placesTogether_6 ?_
    refine lv_icmp_ge (tgt := 30) zx zb dX5_placesTogether_9 (by decide) (fun c_1 => ?_) (fun c_1 => ?_)
    · have fc_1 := j_le (a := n0) (b := k4) (by omega) (by omega) c_1
      refine lv_iload_n zx zb dX5_placesTogether_30 rfl (lv_at hl 1 rfl) ?_
      exact e_int S zr zlk (vp_nar_int _) G () [] rfl rfl (Or.inl rfl) (trivial) dX5_placesTogether_31
    · have fc_1 := j_nle (a := n0) (b := k4) (by omega) (by omega) c_1
      refine lv_iload_n zx zb dX5_placesTogether_12 rfl (lv_at hl 1 rfl) ?_
      refine lv_aload_n zx zb dX5_placesTogether_13 rfl (lv_at hl 2 rfl) ?_
      refine r_get (C := RX5) (T := TX5) (N := 8) (ci := 3) (v := .ref (an 0)) S in_X5_placesTogether_X5 G 0 rfl rfl 3 (by decide) lk_X5_placesTogether_23 rfl dX5_placesTogether_14 ?_
      refine lv_iload_n zx zb dX5_placesTogether_17 rfl (lv_at hl 0 rfl) ?_
      rcases k_6c (show k4 < 6 by omega) with rfl | rfl | rfl | rfl | rfl | rfl
      · refine k_it (v := 0) rfl ?_
        refine r_aald (C := RX8) (b := (an 1)) S G 1 3 rfl rfl (k_vp (by decide)) rfl dX5_placesTogether_18 ?_
        refine r_get (C := RX8) (T := TX8) (N := 8) (ci := 6) (v := .int (dv 11)) S in_X5_placesTogether_X8 G 2 rfl rfl 4 (by decide) lk_X5_placesTogether_88 rfl dX5_placesTogether_19 ?_
        refine r_iadd (v := (x4_1 + (dv 11))) S rfl dX5_placesTogether_22 ?_
        refine lv_istore_n (lv' := [(1, .int (x4_1 + (dv 11))), (2, .int 0), (0, .ref hn)]) zx zb dX5_placesTogether_23 rfl hl (by decide) rfl (fun ls hl => ?_)
        refine lv_iinc (v := 1) (lv' := [(2, .int 1), (1, .int (x4_1 + (dv 11))), (0, .ref hn)]) zx zb dX5_placesTogether_24 hl (k := 1) rfl (by decide) (by decide) rfl (fun ls hl => ?_)
        refine lv_goto (tgt := 4) zx zb dX5_placesTogether_27 (by decide) ?_
        exact ih4 1 (x4_1 + (dv 11)) _ _ _ (by omega) (by omega) G hl
      · refine k_it (v := 1) rfl ?_
        refine r_aald (C := RX8) (b := (an 2)) S G 1 3 rfl rfl (k_vp (by decide)) rfl dX5_placesTogether_18 ?_
        refine r_get (C := RX8) (T := TX8) (N := 8) (ci := 6) (v := .int (dv 16)) S in_X5_placesTogether_X8 G 3 rfl rfl 4 (by decide) lk_X5_placesTogether_88 rfl dX5_placesTogether_19 ?_
        refine r_iadd (v := (x4_1 + (dv 16))) S rfl dX5_placesTogether_22 ?_
        refine lv_istore_n (lv' := [(1, .int (x4_1 + (dv 16))), (2, .int 1), (0, .ref hn)]) zx zb dX5_placesTogether_23 rfl hl (by decide) rfl (fun ls hl => ?_)
        refine lv_iinc (v := 2) (lv' := [(2, .int 2), (1, .int (x4_1 + (dv 16))), (0, .ref hn)]) zx zb dX5_placesTogether_24 hl (k := 1) rfl (by decide) (by decide) rfl (fun ls hl => ?_)
        refine lv_goto (tgt := 4) zx zb dX5_placesTogether_27 (by decide) ?_
        exact ih4 2 (x4_1 + (dv 16)) _ _ _ (by omega) (by omega) G hl
      · refine k_it (v := 2) rfl ?_
        refine r_aald (C := RX8) (b := (an 3)) S G 1 3 rfl rfl (k_vp (by decide)) rfl dX5_placesTogether_18 ?_
        refine r_get (C := RX8) (T := TX8) (N := 8) (ci := 6) (v := .int (dv 21)) S in_X5_placesTogether_X8 G 4 rfl rfl 4 (by decide) lk_X5_placesTogether_88 rfl dX5_placesTogether_19 ?_
        refine r_iadd (v := (x4_1 + (dv 21))) S rfl dX5_placesTogether_22 ?_
        refine lv_istore_n (lv' := [(1, .int (x4_1 + (dv 21))), (2, .int 2), (0, .ref hn)]) zx zb dX5_placesTogether_23 rfl hl (by decide) rfl (fun ls hl => ?_)
        refine lv_iinc (v := 3) (lv' := [(2, .int 3), (1, .int (x4_1 + (dv 21))), (0, .ref hn)]) zx zb dX5_placesTogether_24 hl (k := 1) rfl (by decide) (by decide) rfl (fun ls hl => ?_)
        refine lv_goto (tgt := 4) zx zb dX5_placesTogether_27 (by decide) ?_
        exact ih4 3 (x4_1 + (dv 21)) _ _ _ (by omega) (by omega) G hl
      · refine k_it (v := 3) rfl ?_
        refine r_aald (C := RX8) (b := (an 4)) S G 1 3 rfl rfl (k_vp (by decide)) rfl dX5_placesTogether_18 ?_
        refine r_get (C := RX8) (T := TX8) (N := 8) (ci := 6) (v := .int (dv 26)) S in_X5_placesTogether_X8 G 5 rfl rfl 4 (by decide) lk_X5_placesTogether_88 rfl dX5_placesTogether_19 ?_
        refine r_iadd (v := (x4_1 + (dv 26))) S rfl dX5_placesTogether_22 ?_
        refine lv_istore_n (lv' := [(1, .int (x4_1 + (dv 26))), (2, .int 3), (0, .ref hn)]) zx zb dX5_placesTogether_23 rfl hl (by decide) rfl (fun ls hl => ?_)
        refine lv_iinc (v := 4) (lv' := [(2, .int 4), (1, .int (x4_1 + (dv 26))), (0, .ref hn)]) zx zb dX5_placesTogether_24 hl (k := 1) rfl (by decide) (by decide) rfl (fun ls hl => ?_)
        refine lv_goto (tgt := 4) zx zb dX5_placesTogether_27 (by decide) ?_
        exact ih4 4 (x4_1 + (dv 26)) _ _ _ (by omega) (by omega) G hl
      · refine k_it (v := 4) rfl ?_
        refine r_aald (C := RX8) (b := (an 5)) S G 1 3 rfl rfl (k_vp (by decide)) rfl dX5_placesTogether_18 ?_
        refine r_get (C := RX8) (T := TX8) (N := 8) (ci := 6) (v := .int (dv 31)) S in_X5_placesTogether_X8 G 6 rfl rfl 4 (by decide) lk_X5_placesTogether_88 rfl dX5_placesTogether_19 ?_
        refine r_iadd (v := (x4_1 + (dv 31))) S rfl dX5_placesTogether_22 ?_
        refine lv_istore_n (lv' := [(1, .int (x4_1 + (dv 31))), (2, .int 4), (0, .ref hn)]) zx zb dX5_placesTogether_23 rfl hl (by decide) rfl (fun ls hl => ?_)
        refine lv_iinc (v := 5) (lv' := [(2, .int 5), (1, .int (x4_1 + (dv 31))), (0, .ref hn)]) zx zb dX5_placesTogether_24 hl (k := 1) rfl (by decide) (by decide) rfl (fun ls hl => ?_)
        refine lv_goto (tgt := 4) zx zb dX5_placesTogether_27 (by decide) ?_
        exact ih4 5 (x4_1 + (dv 31)) _ _ _ (by omega) (by omega) G hl
      · refine k_it (v := 5) rfl ?_
        refine r_aald (C := RX8) (b := (an 6)) S G 1 3 rfl rfl (k_vp (by decide)) rfl dX5_placesTogether_18 ?_
        refine r_get (C := RX8) (T := TX8) (N := 8) (ci := 6) (v := .int (dv 36)) S in_X5_placesTogether_X8 G 7 rfl rfl 4 (by decide) lk_X5_placesTogether_88 rfl dX5_placesTogether_19 ?_
        refine r_iadd (v := (x4_1 + (dv 36))) S rfl dX5_placesTogether_22 ?_
        refine lv_istore_n (lv' := [(1, .int (x4_1 + (dv 36))), (2, .int 5), (0, .ref hn)]) zx zb dX5_placesTogether_23 rfl hl (by decide) rfl (fun ls hl => ?_)
        refine lv_iinc (v := 6) (lv' := [(2, .int 6), (1, .int (x4_1 + (dv 36))), (0, .ref hn)]) zx zb dX5_placesTogether_24 hl (k := 1) rfl (by decide) (by decide) rfl (fun ls hl => ?_)
        refine lv_goto (tgt := 4) zx zb dX5_placesTogether_27 (by decide) ?_
        exact ih4 6 (x4_1 + (dv 36)) _ _ _ (by omega) (by omega) G hl
theorem in_X5_dropsTogether_X5 : ∀ w ∈ wsX50, w ∈ wsX5_dropsTogether := by decide +kernel
theorem lk_X5_dropsTogether_18 : Cond.fieldLink RX5 18 "EggSpoons$Race" "runners" "I" ∈ wsX5_dropsTogether := by decide +kernel
theorem lk_X5_dropsTogether_23 : Cond.fieldLink RX5 23 "EggSpoons$Race" "row" "[LEggSpoons$Runner;" ∈ wsX5_dropsTogether := by decide +kernel
theorem in_X5_dropsTogether_X8 : ∀ w ∈ wsX80, w ∈ wsX5_dropsTogether := by decide +kernel
theorem lk_X5_dropsTogether_91 : Cond.fieldLink RX5 91 "EggSpoons$Runner" "drops" "I" ∈ wsX5_dropsTogether := by decide +kernel
set_option maxHeartbeats 4000000 in
set_option maxRecDepth 100000 in
/-- dropsTogether -/
theorem s_drops (l : Launch) (X : EX) (hn : Nat) (an : Nat → Nat) (sv : Nat → Int32) (dv : Nat → Int32) (n0 : Nat) (n1 : Nat) (n2 : Nat) (n3 : Nat) (n4 : Nat) (g0 : Nat → Int32) (gs : Nat → Int32) (gn : Nat → Int32) (gm : Nat → Int32) (hI_n0 : n0 ≤ 6) (hI_n1 : n1 ≤ 8) (hI_n2 : n2 ≤ 5) (hI_n3 : n3 ≤ 6) (hI_n4 : n4 ≤ 6) (sz : Nat) : Met l yX5_dropsTogether wsX5_dropsTogether ({ frames := 0, cells := 0, slots := 0, locals := 0 } : Room) (pE X [.ref hn] (rcV X hn an sv dv n0 n1 n2 n3 n4 g0 gs gn gm) sz) (qI (fun (r : Int32) (u : Unit) => True) X (fun (u : Unit) => []) [] sz) 0 0 (va_A [] sz) := by
  refine mk_met (B := (fun _ => True)) (A := (va_A [] sz)) (cc := cX5_dropsTogether) (maxL := 3) (ret := (some .int)) (by decide) rfl (Nat.le_of_ble_eq_true rfl) k_ro k_a (fun p e s m below meth c S zr zlk znm zsz G ls hl => ?_)
  have S : CallFix p m c cX5_dropsTogether 3 s _ wsX5_dropsTogether RX5 := S
  have zx := S.1
  have zb := S.2.1
  have hl : lv_has ls 3 [(0, .ref hn)] := hl
  refine lv_iconst (v := 0) zx zb dX5_dropsTogether_0 (by decide) ?_
  refine lv_istore_n (lv' := [(1, .int 0), (0, .ref hn)]) zx zb dX5_dropsTogether_1 rfl hl (by decide) rfl (fun ls hl => ?_)
  refine lv_iconst (v := 0) zx zb dX5_dropsTogether_2 (by decide) ?_
  refine lv_istore_n (lv' := [(2, .int 0), (1, .int 0), (0, .ref hn)]) zx zb dX5_dropsTogether_3 rfl hl (by decide) rfl (fun ls hl => ?_)
  refine k_loop (P := ∀ (zm : Nat) (k4 : Nat) (x4_1 : Int32) (H : Heap) (locs : List Loc) (ls : Array Slot), 6 + 1 ≤ k4 + zm → (k4 ≤ 6) → wd X (fun _ => True) (va_A [] sz) s (rcV X hn an sv dv n0 n1 n2 n3 n4 g0 gs gn gm) H locs → lv_has ls 3 [(2, .int (nI k4)), (1, .int x4_1), (0, .ref hn)] → W p l e _ s m _ below meth c H locs _ _ _ (F0 m 4 ls [])) (fun loop => loop (6 + 1) 0 0 _ _ _ (by omega) (by omega) G hl) ?_
  intro zm
  induction zm with
  | zero => intro k4 x4_1 H locs ls zz q_hk_k4 _ _; exact absurd zz (by omega)
  | succ zm ih4 =>
    intro k4 x4_1 H locs ls zm_4 hk_k4 G hl
    refine lv_iload_n zx zb dX5_dropsTogether_4 rfl (lv_at hl 0 rfl) ?_
    refine lv_aload_n zx zb dX5_dropsTogether_5 rfl (lv_at hl 2 rfl) ?_
    refine r_get (C := RX5) (T := TX5) (N := 8) (ci := 3) (v := .int (nI n0)) S in_X5_dropsTogether_X5 G 0 rfl rfl 2 (by decide) lk_X5_dropsTogether_18 rfl dX5_dropsTogether_6 ?_
    refine lv_icmp_ge (tgt := 30) zx zb dX5_dropsTogether_9 (by decide) (fun c_1 => ?_) (fun c_1 => ?_)
    · have fc_1 := j_le (a := n0) (b := k4) (by omega) (by omega) c_1
      refine lv_iload_n zx zb dX5_dropsTogether_30 rfl (lv_at hl 1 rfl) ?_
      exact e_int S zr zlk (vp_nar_int _) G () [] rfl rfl (Or.inl rfl) (trivial) dX5_dropsTogether_31
    · have fc_1 := j_nle (a := n0) (b := k4) (by omega) (by omega) c_1
      refine lv_iload_n zx zb dX5_dropsTogether_12 rfl (lv_at hl 1 rfl) ?_
      refine lv_aload_n zx zb dX5_dropsTogether_13 rfl (lv_at hl 2 rfl) ?_
      refine r_get (C := RX5) (T := TX5) (N := 8) (ci := 3) (v := .ref (an 0)) S in_X5_dropsTogether_X5 G 0 rfl rfl 3 (by decide) lk_X5_dropsTogether_23 rfl dX5_dropsTogether_14 ?_
      refine lv_iload_n zx zb dX5_dropsTogether_17 rfl (lv_at hl 0 rfl) ?_
      rcases k_6c (show k4 < 6 by omega) with rfl | rfl | rfl | rfl | rfl | rfl
      · refine k_it (v := 0) rfl ?_
        refine r_aald (C := RX8) (b := (an 1)) S G 1 3 rfl rfl (k_vp (by decide)) rfl dX5_dropsTogether_18 ?_
        refine r_get (C := RX8) (T := TX8) (N := 8) (ci := 6) (v := .int (dv 12)) S in_X5_dropsTogether_X8 G 2 rfl rfl 5 (by decide) lk_X5_dropsTogether_91 rfl dX5_dropsTogether_19 ?_
        refine r_iadd (v := (x4_1 + (dv 12))) S rfl dX5_dropsTogether_22 ?_
        refine lv_istore_n (lv' := [(1, .int (x4_1 + (dv 12))), (2, .int 0), (0, .ref hn)]) zx zb dX5_dropsTogether_23 rfl hl (by decide) rfl (fun ls hl => ?_)
        refine lv_iinc (v := 1) (lv' := [(2, .int 1), (1, .int (x4_1 + (dv 12))), (0, .ref hn)]) zx zb dX5_dropsTogether_24 hl (k := 1) rfl (by decide) (by decide) rfl (fun ls hl => ?_)
        refine lv_goto (tgt := 4) zx zb dX5_dropsTogether_27 (by decide) ?_
        exact ih4 1 (x4_1 + (dv 12)) _ _ _ (by omega) (by omega) G hl
      · refine k_it (v := 1) rfl ?_
        refine r_aald (C := RX8) (b := (an 2)) S G 1 3 rfl rfl (k_vp (by decide)) rfl dX5_dropsTogether_18 ?_
        refine r_get (C := RX8) (T := TX8) (N := 8) (ci := 6) (v := .int (dv 17)) S in_X5_dropsTogether_X8 G 3 rfl rfl 5 (by decide) lk_X5_dropsTogether_91 rfl dX5_dropsTogether_19 ?_
        refine r_iadd (v := (x4_1 + (dv 17))) S rfl dX5_dropsTogether_22 ?_
        refine lv_istore_n (lv' := [(1, .int (x4_1 + (dv 17))), (2, .int 1), (0, .ref hn)]) zx zb dX5_dropsTogether_23 rfl hl (by decide) rfl (fun ls hl => ?_)
        refine lv_iinc (v := 2) (lv' := [(2, .int 2), (1, .int (x4_1 + (dv 17))), (0, .ref hn)]) zx zb dX5_dropsTogether_24 hl (k := 1) rfl (by decide) (by decide) rfl (fun ls hl => ?_)
        refine lv_goto (tgt := 4) zx zb dX5_dropsTogether_27 (by decide) ?_
        exact ih4 2 (x4_1 + (dv 17)) _ _ _ (by omega) (by omega) G hl
      · refine k_it (v := 2) rfl ?_
        refine r_aald (C := RX8) (b := (an 3)) S G 1 3 rfl rfl (k_vp (by decide)) rfl dX5_dropsTogether_18 ?_
        refine r_get (C := RX8) (T := TX8) (N := 8) (ci := 6) (v := .int (dv 22)) S in_X5_dropsTogether_X8 G 4 rfl rfl 5 (by decide) lk_X5_dropsTogether_91 rfl dX5_dropsTogether_19 ?_
        refine r_iadd (v := (x4_1 + (dv 22))) S rfl dX5_dropsTogether_22 ?_
        refine lv_istore_n (lv' := [(1, .int (x4_1 + (dv 22))), (2, .int 2), (0, .ref hn)]) zx zb dX5_dropsTogether_23 rfl hl (by decide) rfl (fun ls hl => ?_)
        refine lv_iinc (v := 3) (lv' := [(2, .int 3), (1, .int (x4_1 + (dv 22))), (0, .ref hn)]) zx zb dX5_dropsTogether_24 hl (k := 1) rfl (by decide) (by decide) rfl (fun ls hl => ?_)
        refine lv_goto (tgt := 4) zx zb dX5_dropsTogether_27 (by decide) ?_
        exact ih4 3 (x4_1 + (dv 22)) _ _ _ (by omega) (by omega) G hl
      · refine k_it (v := 3) rfl ?_
        refine r_aald (C := RX8) (b := (an 4)) S G 1 3 rfl rfl (k_vp (by decide)) rfl dX5_dropsTogether_18 ?_
        refine r_get (C := RX8) (T := TX8) (N := 8) (ci := 6) (v := .int (dv 27)) S in_X5_dropsTogether_X8 G 5 rfl rfl 5 (by decide) lk_X5_dropsTogether_91 rfl dX5_dropsTogether_19 ?_
        refine r_iadd (v := (x4_1 + (dv 27))) S rfl dX5_dropsTogether_22 ?_
        refine lv_istore_n (lv' := [(1, .int (x4_1 + (dv 27))), (2, .int 3), (0, .ref hn)]) zx zb dX5_dropsTogether_23 rfl hl (by decide) rfl (fun ls hl => ?_)
        refine lv_iinc (v := 4) (lv' := [(2, .int 4), (1, .int (x4_1 + (dv 27))), (0, .ref hn)]) zx zb dX5_dropsTogether_24 hl (k := 1) rfl (by decide) (by decide) rfl (fun ls hl => ?_)
        refine lv_goto (tgt := 4) zx zb dX5_dropsTogether_27 (by decide) ?_
        exact ih4 4 (x4_1 + (dv 27)) _ _ _ (by omega) (by omega) G hl
      · refine k_it (v := 4) rfl ?_
        refine r_aald (C := RX8) (b := (an 5)) S G 1 3 rfl rfl (k_vp (by decide)) rfl dX5_dropsTogether_18 ?_
        refine r_get (C := RX8) (T := TX8) (N := 8) (ci := 6) (v := .int (dv 32)) S in_X5_dropsTogether_X8 G 6 rfl rfl 5 (by decide) lk_X5_dropsTogether_91 rfl dX5_dropsTogether_19 ?_
        refine r_iadd (v := (x4_1 + (dv 32))) S rfl dX5_dropsTogether_22 ?_
        refine lv_istore_n (lv' := [(1, .int (x4_1 + (dv 32))), (2, .int 4), (0, .ref hn)]) zx zb dX5_dropsTogether_23 rfl hl (by decide) rfl (fun ls hl => ?_)
        refine lv_iinc (v := 5) (lv' := [(2, .int 5), (1, .int (x4_1 + (dv 32))), (0, .ref hn)]) zx zb dX5_dropsTogether_24 hl (k := 1) rfl (by decide) (by decide) rfl (fun ls hl => ?_)
        refine lv_goto (tgt := 4) zx zb dX5_dropsTogether_27 (by decide) ?_
        exact ih4 5 (x4_1 + (dv 32)) _ _ _ (by omega) (by omega) G hl
      · refine k_it (v := 5) rfl ?_
        refine r_aald (C := RX8) (b := (an 6)) S G 1 3 rfl rfl (k_vp (by decide)) rfl dX5_dropsTogether_18 ?_
        refine r_get (C := RX8) (T := TX8) (N := 8) (ci := 6) (v := .int (dv 37)) S in_X5_dropsTogether_X8 G 7 rfl rfl 5 (by decide) lk_X5_dropsTogether_91 rfl dX5_dropsTogether_19 ?_
        refine r_iadd (v := (x4_1 + (dv 37))) S rfl dX5_dropsTogether_22 ?_
        refine lv_istore_n (lv' := [(1, .int (x4_1 + (dv 37))), (2, .int 5), (0, .ref hn)]) zx zb dX5_dropsTogether_23 rfl hl (by decide) rfl (fun ls hl => ?_)
        refine lv_iinc (v := 6) (lv' := [(2, .int 6), (1, .int (x4_1 + (dv 37))), (0, .ref hn)]) zx zb dX5_dropsTogether_24 hl (k := 1) rfl (by decide) (by decide) rfl (fun ls hl => ?_)
        refine lv_goto (tgt := 4) zx zb dX5_dropsTogether_27 (by decide) ?_
        exact ih4 6 (x4_1 + (dv 37)) _ _ _ (by omega) (by omega) G hl
theorem in_X5_legsThatFit_X5 : ∀ w ∈ wsX50, w ∈ wsX5_legsThatFit := by decide +kernel
theorem lk_X5_legsThatFit_39 : Cond.fieldLink RX5 39 "EggSpoons$Race" "seenRows" "LEggSpoons$Rows;" ∈ wsX5_legsThatFit := by decide +kernel
theorem lk_X5_legsThatFit_23 : Cond.fieldLink RX5 23 "EggSpoons$Race" "row" "[LEggSpoons$Runner;" ∈ wsX5_legsThatFit := by decide +kernel
theorem in_X5_legsThatFit_X8 : ∀ w ∈ wsX80, w ∈ wsX5_legsThatFit := by decide +kernel
theorem lk_X5_legsThatFit_94 : Cond.fieldLink RX5 94 "EggSpoons$Runner" "kind" "I" ∈ wsX5_legsThatFit := by decide +kernel
theorem hdV_X7_fitRunner : yX7_fitRunner.cls = RX7 ∧ yX7_fitRunner.cls ≠ "java/lang/invoke/MethodHandle" ∧ yX7_fitRunner.cls ≠ "java/lang/invoke/VarHandle" ∧ (parseMethodDescriptor yX7_fitRunner.desc).map (fun d => d.parameters.length) = some 3 := by decide +kernel
theorem in_X5_kindsThatFit_X5 : ∀ w ∈ wsX50, w ∈ wsX5_kindsThatFit := by decide +kernel
theorem lk_X5_kindsThatFit_43 : Cond.fieldLink RX5 43 "EggSpoons$Race" "noteRows" "LEggSpoons$Rows;" ∈ wsX5_kindsThatFit := by decide +kernel
theorem in_X5_eggsThatFit_X5 : ∀ w ∈ wsX50, w ∈ wsX5_eggsThatFit := by decide +kernel
theorem lk_X5_eggsThatFit_46 : Cond.fieldLink RX5 46 "EggSpoons$Race" "markRows" "LEggSpoons$Rows;" ∈ wsX5_eggsThatFit := by decide +kernel
theorem hdV_X7_fitEgg : yX7_fitEgg.cls = RX7 ∧ yX7_fitEgg.cls ≠ "java/lang/invoke/MethodHandle" ∧ yX7_fitEgg.cls ≠ "java/lang/invoke/VarHandle" ∧ (parseMethodDescriptor yX7_fitEgg.desc).map (fun d => d.parameters.length) = some 2 := by decide +kernel
set_option maxHeartbeats 4000000 in
set_option maxRecDepth 100000 in
theorem s_within (l : Launch) (X : EX) (x : Int32) (lo : Int32) (hi : Int32) (sz : Nat) : Met l yX10_within wsX10_within ({ frames := 0, cells := 0, slots := 0, locals := 0 } : Room) (pE X [.int x, .int lo, .int hi] ([]) sz) (qI (fun (r : Int32) (u : Unit) => (r = 1 ∧ (lo ≤ x ∧ x ≤ hi)) ∨ (r = 0 ∧ ¬ (lo ≤ x ∧ x ≤ hi))) X (fun (u : Unit) => []) [] sz) 0 0 (va_A [] sz) := by
  refine mk_met (B := (fun _ => True)) (A := (va_A [] sz)) (cc := cX10_within) (maxL := 3) (ret := (some .boolean)) (by decide) rfl (Nat.le_of_ble_eq_true rfl) k_ro k_a (fun p e s m below meth c S zr zlk znm zsz G ls hl => ?_)
  have S : CallFix p m c cX10_within 3 s _ wsX10_within RX10 := S
  have zx := S.1
  have zb := S.2.1
  have hl : lv_has ls 3 [(0, .int x), (1, .int lo), (2, .int hi)] := hl
  refine lv_iload_n zx zb dX10_within_0 rfl (lv_at hl 0 rfl) ?_
  refine lv_iload_n zx zb dX10_within_1 rfl (lv_at hl 1 rfl) ?_
  refine lv_icmp_lt (tgt := 14) zx zb dX10_within_2 (by decide) (fun c_1 => ?_) (fun c_1 => ?_)
  · refine lv_iconst (v := 0) zx zb dX10_within_14 (by decide) ?_
    exact e_int S zr zlk (by decide) G () [] rfl rfl (Or.inl rfl) (by first | exact Or.inl ⟨rfl, Int32.not_lt.mp c_1, Int32.not_lt.mp c_2⟩ | exact Or.inr ⟨rfl, fun h => absurd c_1 (Int32.not_lt.mpr h.1)⟩ | exact Or.inr ⟨rfl, fun h => absurd c_2 (Int32.not_lt.mpr h.2)⟩) dX10_within_15
  · refine lv_iload_n zx zb dX10_within_5 rfl (lv_at hl 0 rfl) ?_
    refine lv_iload_n zx zb dX10_within_6 rfl (lv_at hl 2 rfl) ?_
    refine lv_icmp_gt (tgt := 14) zx zb dX10_within_7 (by decide) (fun c_2 => ?_) (fun c_2 => ?_)
    · refine lv_iconst (v := 0) zx zb dX10_within_14 (by decide) ?_
      exact e_int S zr zlk (by decide) G () [] rfl rfl (Or.inl rfl) (by first | exact Or.inl ⟨rfl, Int32.not_lt.mp c_1, Int32.not_lt.mp c_2⟩ | exact Or.inr ⟨rfl, fun h => absurd c_1 (Int32.not_lt.mpr h.1)⟩ | exact Or.inr ⟨rfl, fun h => absurd c_2 (Int32.not_lt.mpr h.2)⟩) dX10_within_15
    · refine lv_iconst (v := 1) zx zb dX10_within_10 (by decide) ?_
      refine lv_goto (tgt := 15) zx zb dX10_within_11 (by decide) ?_
      exact e_int S zr zlk (by decide) G () [] rfl rfl (Or.inl rfl) (by first | exact Or.inl ⟨rfl, Int32.not_lt.mp c_1, Int32.not_lt.mp c_2⟩ | exact Or.inr ⟨rfl, fun h => absurd c_1 (Int32.not_lt.mpr h.1)⟩ | exact Or.inr ⟨rfl, fun h => absurd c_2 (Int32.not_lt.mpr h.2)⟩) dX10_within_15
theorem in_X10_there_X10 : ∀ w ∈ wsX100, w ∈ wsX10_there := by decide +kernel
theorem lk_X10_there_10 : Cond.fieldLink RX10 10 "EggSpoons" "now" "LEggSpoons$Race;" ∈ wsX10_there := by decide +kernel
theorem in_X10_there_X5 : ∀ w ∈ wsX50, w ∈ wsX10_there := by decide +kernel
theorem lk_X10_there_87 : Cond.fieldLink RX10 87 "EggSpoons$Race" "runners" "I" ∈ wsX10_there := by decide +kernel
set_option maxHeartbeats 4000000 in
set_option maxRecDepth 100000 in
theorem s_there (l : Launch) (X : EX) (h0 : Nat) (nw : Nat) (sp : Nat) (xa : Nat → Nat) (la : Int64) (lb : Int64) (an : Nat → Nat) (sv : Nat → Int32) (dv : Nat → Int32) (n0 : Nat) (n1 : Nat) (n2 : Nat) (n3 : Nat) (n4 : Nat) (g0 : Nat → Int32) (gs : Nat → Int32) (gn : Nat → Int32) (gm : Nat → Int32) (i : Int32) (hI_n0 : n0 ≤ 6) (hI_n1 : n1 ≤ 8) (hI_n2 : n2 ≤ 5) (hI_n3 : n3 ≤ 6) (hI_n4 : n4 ≤ 6) (sz : Nat) : Met l yX10_there wsX10_there ({ frames := 0, cells := 0, slots := 0, locals := 0 } : Room) (pE X [.ref h0, .int i] (@HAppend.hAppend va_W va_W va_W _ (xW h0 nw sp xa la lb) (rcV X nw an sv dv n0 n1 n2 n3 n4 g0 gs gn gm)) sz) (qI (fun (r : Int32) (u : Unit) => (r = 1 ∧ ∃ j : Nat, j < n0 ∧ i = nI j) ∨ (r = 0 ∧ ¬ thP n0 i)) X (fun (u : Unit) => []) [] sz) 0 0 (va_A [] sz) := by
  refine mk_met (B := (fun _ => True)) (A := (va_A [] sz)) (cc := cX10_there) (maxL := 2) (ret := (some .boolean)) (by decide) rfl (Nat.le_of_ble_eq_true rfl) k_ro k_a (fun p e s m below meth c S zr zlk znm zsz G ls hl => ?_)
  have S : CallFix p m c cX10_there 2 s _ wsX10_there RX10 := S
  have zx := S.1
  have zb := S.2.1
  have hl : lv_has ls 2 [(0, .ref h0), (1, .int i)] := hl
  refine lv_iload_n zx zb dX10_there_0 rfl (lv_at hl 1 rfl) ?_
  refine lv_if_lt (tgt := 19) zx zb dX10_there_1 (by decide) (fun c_1 => ?_) (fun c_1 => ?_)
  · refine lv_iconst (v := 0) zx zb dX10_there_19 (by decide) ?_
    exact e_int S zr zlk (by decide) G () [] rfl rfl (Or.inl rfl) (Or.inr ⟨rfl, k_nix0 (by omega) c_1⟩) dX10_there_20
  · refine lv_iload_n zx zb dX10_there_4 rfl (lv_at hl 1 rfl) ?_
    refine lv_aload_n zx zb dX10_there_5 rfl (lv_at hl 0 rfl) ?_
    refine r_get (C := RX10) (T := TX10) (N := 14) (ci := 8) (v := .ref nw) S in_X10_there_X10 G 0 rfl rfl 0 (by decide) lk_X10_there_10 rfl dX10_there_6 ?_
    refine r_get (C := RX5) (T := TX5) (N := 8) (ci := 3) (v := .int (nI n0)) S in_X10_there_X5 G 1 rfl rfl 2 (by decide) lk_X10_there_87 rfl dX10_there_9 ?_
    refine lv_icmp_ge (tgt := 19) zx zb dX10_there_12 (by decide) (fun c_2 => ?_) (fun c_2 => ?_)
    · refine lv_iconst (v := 0) zx zb dX10_there_19 (by decide) ?_
      exact e_int S zr zlk (by decide) G () [] rfl rfl (Or.inl rfl) (Or.inr ⟨rfl, k_nix1 (by omega) c_2⟩) dX10_there_20
    · refine lv_iconst (v := 1) zx zb dX10_there_15 (by decide) ?_
      refine lv_goto (tgt := 20) zx zb dX10_there_16 (by decide) ?_
      exact e_int S zr zlk (by decide) G () [] rfl rfl (Or.inl rfl) (Or.inl ⟨rfl, k_ix (by omega) c_1 c_2⟩) dX10_there_20
theorem in_X10_refuse_X10 : ∀ w ∈ wsX100, w ∈ wsX10_refuse := by decide +kernel
theorem lk_X10_refuse_34 : Cond.fieldLink RX10 34 "EggSpoons" "refused" "[I" ∈ wsX10_refuse := by decide +kernel
set_option maxHeartbeats 4000000 in
set_option maxRecDepth 100000 in
theorem s_refuse (l : Launch) (X : EX) (h0 : Nat) (nw : Nat) (sp : Nat) (xa : Nat → Nat) (la : Int64) (lb : Int64) (fr : Nat → Int32) (x : Int32) (sz : Nat) : Met l yX10_refuse wsX10_refuse ({ frames := 0, cells := 0, slots := 0, locals := 0 } : Room) (pE X [.ref h0, .int x] (@HAppend.hAppend va_W va_W va_W _ (xW h0 nw sp xa la lb) ([((xa 5), .inl (X.2.1, 3, .inl fr))])) sz) (qI (fun (r : Int32) (u : (Nat → Int32)) => (r = x)) X (fun (u : (Nat → Int32)) => @HAppend.hAppend va_W va_W va_W _ (xW h0 nw sp xa la lb) ([((xa 5), .inl (X.2.1, 3, .inl u))])) (@HAppend.hAppend va_W va_W va_W _ (xW h0 nw sp xa la lb) ([((xa 5), .inl (X.2.1, 3, .inl fr))])) sz) 0 0 (va_A (@HAppend.hAppend va_W va_W va_W _ (xW h0 nw sp xa la lb) ([((xa 5), .inl (X.2.1, 3, .inl fr))])) sz) := by
  refine mk_met (B := (va_A (@HAppend.hAppend va_W va_W va_W _ (xW h0 nw sp xa la lb) ([((xa 5), .inl (X.2.1, 3, .inl fr))])) sz)) (A := (va_A (@HAppend.hAppend va_W va_W va_W _ (xW h0 nw sp xa la lb) ([((xa 5), .inl (X.2.1, 3, .inl fr))])) sz)) (cc := cX10_refuse) (maxL := 3) (ret := (some .int)) (by decide) rfl (Nat.le_of_ble_eq_true rfl) k_w k_a (fun p e s m below meth c S zr zlk znm zsz G ls hl => ?_)
  have S : CallFix p m c cX10_refuse 3 s _ wsX10_refuse RX10 := S
  have zx := S.1
  have zb := S.2.1
  have hl : lv_has ls 3 [(0, .ref h0), (1, .int x)] := hl
  refine lv_bipush (v := (-2)) zx zb dX10_refuse_0 (by decide) ?_
  refine lv_iload_n zx zb dX10_refuse_2 rfl (lv_at hl 1 rfl) ?_
  refine r_isub (v := ((-2) - x)) S rfl dX10_refuse_3 ?_
  refine lv_istore_n (lv' := [(2, .int ((-2) - x)), (0, .ref h0), (1, .int x)]) zx zb dX10_refuse_4 rfl hl (by decide) rfl (fun ls hl => ?_)
  refine lv_iload_n zx zb dX10_refuse_5 rfl (lv_at hl 0 rfl) ?_
  refine k_cutW (PP := fun Wx => ∀ (f_2 : Nat → Int32) (H : Heap) (locs : List Loc) (ls : Array Slot), wd X (va_A (@HAppend.hAppend va_W va_W va_W _ (xW h0 nw sp xa la lb) ([((xa 5), .inl (X.2.1, 3, .inl fr))])) sz) (va_A (@HAppend.hAppend va_W va_W va_W _ (xW h0 nw sp xa la lb) ([((xa 5), .inl (X.2.1, 3, .inl fr))])) sz) s (@HAppend.hAppend va_W va_W va_W _ (xW h0 nw sp xa la lb) ([((xa 5), .inl (X.2.1, 3, .inl f_2))])) H locs → lv_has ls 3 [(2, .int ((-2) - x)), (0, .ref h0), (1, .int x)] → Wx (F0 m 28 ls []) H locs) ?_ ?_
  · intro join_6
    refine lv_if_lt (tgt := 28) zx zb dX10_refuse_6 (by decide) (fun c_1 => ?_) (fun c_1 => ?_)
    · exact join_6 fr _ _ _  G hl
    · refine lv_iload_n zx zb dX10_refuse_9 rfl (lv_at hl 0 rfl) ?_
      refine lv_aload_n zx zb dX10_refuse_10 rfl (lv_at hl 1 rfl) ?_
      refine r_get (C := RX10) (T := TX10) (N := 14) (ci := 8) (v := .ref (xa 5)) S in_X10_refuse_X10 G 0 rfl rfl 5 (by decide) lk_X10_refuse_34 rfl dX10_refuse_11 ?_
      refine r_alen (v := 3) S G 1 0 rfl rfl rfl dX10_refuse_14 ?_
      refine lv_icmp_ge (tgt := 28) zx zb dX10_refuse_15 (by decide) (fun c_3 => ?_) (fun c_3 => ?_)
      · exact join_6 fr _ _ _  G hl
      · refine lv_aload_n zx zb dX10_refuse_18 rfl (lv_at hl 1 rfl) ?_
        refine r_get (C := RX10) (T := TX10) (N := 14) (ci := 8) (v := .ref (xa 5)) S in_X10_refuse_X10 G 0 rfl rfl 5 (by decide) lk_X10_refuse_34 rfl dX10_refuse_19 ?_
        refine lv_iload_n zx zb dX10_refuse_22 rfl (lv_at hl 0 rfl) ?_
        refine lv_dup2_11 zx zb dX10_refuse_23 rfl rfl ?_
        refine r_iald S G 1 rfl (k_in (by decide) c_1 c_3) rfl dX10_refuse_24 ?_
        refine k_itE (fun y_4 => ?_)
        refine lv_iconst (v := 1) zx zb dX10_refuse_25 (by decide) ?_
        refine r_iadd (v := (y_4 + 1)) S rfl dX10_refuse_26 ?_
        refine r_iast S G 1 rfl (k_in (by decide) c_1 c_3) dX10_refuse_27 (fun H locs G => ?_)
        obtain ⟨f_5, G⟩ : ∃ f_5 : Nat → Int32, wd X (va_A (@HAppend.hAppend va_W va_W va_W _ (xW h0 nw sp xa la lb) ([((xa 5), .inl (X.2.1, 3, .inl fr))])) sz) (va_A (@HAppend.hAppend va_W va_W va_W _ (xW h0 nw sp xa la lb) ([((xa 5), .inl (X.2.1, 3, .inl fr))])) sz) s (@HAppend.hAppend va_W va_W va_W _ (xW h0 nw sp xa la lb) ([((xa 5), .inl (X.2.1, 3, .inl f_5))])) H locs := ⟨_, G⟩
        exact join_6 f_5 _ _ _  G hl
  · intro f_2 H locs ls  G hl
    refine lv_iload_n zx zb dX10_refuse_28 rfl (lv_at hl 2 rfl) ?_
    exact e_int S zr zlk (vp_nar_int _) G (f_2) [0, 1] rfl rfl (Or.inr rfl) (rfl) dX10_refuse_29
theorem hdS_X10_within : yX10_within.cls ≠ "java/lang/invoke/MethodHandle" ∧ yX10_within.cls ≠ "java/lang/invoke/VarHandle" ∧ (parseMethodDescriptor yX10_within.desc).map (fun d => d.parameters.length) = some 3 := by decide +kernel
theorem in_X10_race_X10 : ∀ w ∈ wsX100, w ∈ wsX10_race := by decide +kernel
theorem lk_X10_race_10 : Cond.fieldLink RX10 10 "EggSpoons" "now" "LEggSpoons$Race;" ∈ wsX10_race := by decide +kernel
theorem in_X10_race_X5 : ∀ w ∈ wsX50, w ∈ wsX10_race := by decide +kernel
theorem lk_X10_race_87 : Cond.fieldLink RX10 87 "EggSpoons$Race" "runners" "I" ∈ wsX10_race := by decide +kernel
theorem hdV_X5_restart : yX5_restart.cls = RX5 ∧ yX5_restart.cls ≠ "java/lang/invoke/MethodHandle" ∧ yX5_restart.cls ≠ "java/lang/invoke/VarHandle" ∧ (parseMethodDescriptor yX5_restart.desc).map (fun d => d.parameters.length) = some 1 := by decide +kernel
theorem hdV_X10_refuse : yX10_refuse.cls = RX10 ∧ yX10_refuse.cls ≠ "java/lang/invoke/MethodHandle" ∧ yX10_refuse.cls ≠ "java/lang/invoke/VarHandle" ∧ (parseMethodDescriptor yX10_refuse.desc).map (fun d => d.parameters.length) = some 1 := by decide +kernel
set_option maxHeartbeats 4000000 in
set_option maxRecDepth 100000 in
/-- race -/
theorem s_race (l : Launch) (X : EX) (h0 : Nat) (nw : Nat) (sp : Nat) (xa : Nat → Nat) (la : Int64) (lb : Int64) (an : Nat → Nat) (sv : Nat → Int32) (dv : Nat → Int32) (n0 : Nat) (n1 : Nat) (n2 : Nat) (n3 : Nat) (n4 : Nat) (g0 : Nat → Int32) (gs : Nat → Int32) (gn : Nat → Int32) (gm : Nat → Int32) (fr : Nat → Int32) (x1 : Int32) (hI_n0 : n0 ≤ 6) (hI_n1 : n1 ≤ 8) (hI_n2 : n2 ≤ 5) (hI_n3 : n3 ≤ 6) (hI_n4 : n4 ≤ 6) (sz : Nat) : Met l yX10_race wsX10_race ({ frames := 1, cells := 0, slots := 0, locals := 22 } : Room) (pE X [.ref h0, .int x1] (@HAppend.hAppend va_W va_W va_W _ (xW h0 nw sp xa la lb) (@HAppend.hAppend va_W va_W va_W _ (rcV X nw an sv dv n0 n1 n2 n3 n4 g0 gs gn gm) ([((xa 5), .inl (X.2.1, 3, .inl fr))]))) sz) (qI (fun (r : Int32) (u : (Nat → Int32) × (Nat) × (Nat) × (Nat) × (Nat) × (Nat) × (Nat → Int32)) => u.2.1 ≤ 6 ∧ u.2.2.1 ≤ 8 ∧ u.2.2.2.1 ≤ 5 ∧ u.2.2.2.2.1 ≤ 6 ∧ u.2.2.2.2.2.1 ≤ 6 ∧ ((r, (u.2.1, u.2.2.2.1, u.2.2.2.2.1, u.2.2.2.2.2.1)) = raceF x1 (n0, n2, n3, n4))) X (fun (u : (Nat → Int32) × (Nat) × (Nat) × (Nat) × (Nat) × (Nat) × (Nat → Int32)) => @HAppend.hAppend va_W va_W va_W _ (xW h0 nw sp xa la lb) (@HAppend.hAppend va_W va_W va_W _ (rcV X nw an sv u.1 u.2.1 u.2.2.1 u.2.2.2.1 u.2.2.2.2.1 u.2.2.2.2.2.1 g0 gs gn gm) ([((xa 5), .inl (X.2.1, 3, .inl u.2.2.2.2.2.2))]))) (@HAppend.hAppend va_W va_W va_W _ (xW h0 nw sp xa la lb) (@HAppend.hAppend va_W va_W va_W _ (rcV X nw an sv dv n0 n1 n2 n3 n4 g0 gs gn gm) ([((xa 5), .inl (X.2.1, 3, .inl fr))]))) sz) 0 0 (va_A (@HAppend.hAppend va_W va_W va_W _ (xW h0 nw sp xa la lb) (@HAppend.hAppend va_W va_W va_W _ (rcV X nw an sv dv n0 n1 n2 n3 n4 g0 gs gn gm) ([((xa 5), .inl (X.2.1, 3, .inl fr))]))) sz) := by
  refine mk_met (B := (va_A (@HAppend.hAppend va_W va_W va_W _ (xW h0 nw sp xa la lb) (@HAppend.hAppend va_W va_W va_W _ (rcV X nw an sv dv n0 n1 n2 n3 n4 g0 gs gn gm) ([((xa 5), .inl (X.2.1, 3, .inl fr))]))) sz)) (A := (va_A (@HAppend.hAppend va_W va_W va_W _ (xW h0 nw sp xa la lb) (@HAppend.hAppend va_W va_W va_W _ (rcV X nw an sv dv n0 n1 n2 n3 n4 g0 gs gn gm) ([((xa 5), .inl (X.2.1, 3, .inl fr))]))) sz)) (cc := cX10_race) (maxL := 3) (ret := (some .int)) (by decide) rfl (Nat.le_of_ble_eq_true rfl) k_w k_a (fun p e s m below meth c S zr zlk znm zsz G ls hl => ?_)
  have S : CallFix p m c cX10_race 3 s _ wsX10_race RX10 := S
  have zx := S.1
  have zb := S.2.1
  have hl : lv_has ls 3 [(0, .ref h0), (1, .int x1)] := hl
  refine lv_iload_n zx zb dX10_race_0 rfl (lv_at hl 1 rfl) ?_
  refine lv_bipush (v := 10) zx zb dX10_race_1 (by decide) ?_
  refine lv_bipush (v := 60) zx zb dX10_race_3 (by decide) ?_
  refine o_ri (cells' := 0) (slots' := 0) G rfl rfl (n_S (As := [.int x1, .int 10, .int 60]) (rest := []) S G (s_within l X x1 10 60 s.heap.size) gX10_race_X10_within rfl rfl rfl hdS_X10_within ⟨Nat.le_of_ble_eq_true rfl, Nat.le_of_ble_eq_true rfl⟩ [] rfl rfl rfl hl.1 (Nat.le_of_ble_eq_true rfl) dX10_race_5 ⟨Nat.le_of_ble_eq_true rfl, Nat.le_of_ble_eq_true rfl⟩) (fun r_1 u_1 H locs hp_1 G => ?_)
  have G : wd X (va_A (@HAppend.hAppend va_W va_W va_W _ (xW h0 nw sp xa la lb) (@HAppend.hAppend va_W va_W va_W _ (rcV X nw an sv dv n0 n1 n2 n3 n4 g0 gs gn gm) ([((xa 5), .inl (X.2.1, 3, .inl fr))]))) sz) (va_A (@HAppend.hAppend va_W va_W va_W _ (xW h0 nw sp xa la lb) (@HAppend.hAppend va_W va_W va_W _ (rcV X nw an sv dv n0 n1 n2 n3 n4 g0 gs gn gm) ([((xa 5), .inl (X.2.1, 3, .inl fr))]))) sz) s (@HAppend.hAppend va_W va_W va_W _ (xW h0 nw sp xa la lb) (@HAppend.hAppend va_W va_W va_W _ (rcV X nw an sv dv n0 n1 n2 n3 n4 g0 gs gn gm) ([((xa 5), .inl (X.2.1, 3, .inl fr))]))) H locs := G
  rcases hp_1 with ⟨rfl, hw_1⟩ | ⟨rfl, hw_1⟩
  · refine lv_if_ne (tgt := 18) zx zb dX10_race_8 (by decide) (fun c_2 => ?_) (fun c_2 => absurd c_2 (by decide))
    refine lv_aload_n zx zb dX10_race_18 rfl (lv_at hl 0 rfl) ?_
    refine r_get (C := RX10) (T := TX10) (N := 14) (ci := 8) (v := .ref nw) S in_X10_race_X10 G 0 rfl rfl 0 (by decide) lk_X10_race_10 rfl dX10_race_19 ?_
    refine r_get (C := RX5) (T := TX5) (N := 8) (ci := 3) (v := .int (nI n0)) S in_X10_race_X5 G 1 rfl rfl 2 (by decide) lk_X10_race_87 rfl dX10_race_22 ?_
    refine lv_istore_n (lv' := [(2, .int (nI n0)), (0, .ref h0), (1, .int x1)]) zx zb dX10_race_25 rfl hl (by decide) rfl (fun ls hl => ?_)
    refine lv_aload_n zx zb dX10_race_26 rfl (lv_at hl 1 rfl) ?_
    refine r_get (C := RX10) (T := TX10) (N := 14) (ci := 8) (v := .ref nw) S in_X10_race_X10 G 0 rfl rfl 0 (by decide) lk_X10_race_10 rfl dX10_race_27 ?_
    refine lv_iload_n zx zb dX10_race_30 rfl (lv_at hl 2 rfl) ?_
    refine b_wv (cells' := 0) (slots' := 0) (wr := @HAppend.hAppend va_W va_W va_W _ (xW h0 nw sp xa la lb) ([((xa 5), .inl (X.2.1, 3, .inl fr))])) G rfl rfl [1, 2, 3, 4, 5, 6, 7, 8, 9, 10, 11, 12, 13, 14, 15, 16] [0, 17] rfl rfl rfl rfl (n_V (As := [.int x1]) (rest := []) (C := RX5) (T := TX5) (N := 8) (ci := 3) S G (s_restart l X nw an sv dv n0 n1 n2 n3 n4 g0 gs gn gm x1 hI_n0 hI_n1 hI_n2 hI_n3 hI_n4 H.size) gX10_race_X5_restart rfl rfl rfl hdV_X5_restart ⟨Nat.le_of_ble_eq_true rfl, Nat.le_of_ble_eq_true rfl⟩ [1, 2, 3, 4, 5, 6, 7, 8, 9, 10, 11, 12, 13, 14, 15, 16] rfl rfl 1 rfl rfl rfl hl.1 (Nat.le_of_ble_eq_true rfl) dX10_race_31 ⟨Nat.le_of_ble_eq_true rfl, Nat.le_of_ble_eq_true rfl⟩) (fun u_3 H locs hp_3 G => ?_)
    obtain ⟨dv_3a, n0_3b, n1_3c, n2_3d, n3_3e, n4_3f⟩ := u_3
    try dsimp only at hp_3
    obtain ⟨hI_n0_3b, hI_n1_3c, hI_n2_3d, hI_n3_3e, hI_n4_3f, hq_3⟩ := hp_3
    have G : wd X (va_A (@HAppend.hAppend va_W va_W va_W _ (xW h0 nw sp xa la lb) (@HAppend.hAppend va_W va_W va_W _ (rcV X nw an sv dv n0 n1 n2 n3 n4 g0 gs gn gm) ([((xa 5), .inl (X.2.1, 3, .inl fr))]))) sz) (va_A (@HAppend.hAppend va_W va_W va_W _ (xW h0 nw sp xa la lb) (@HAppend.hAppend va_W va_W va_W _ (rcV X nw an sv dv n0 n1 n2 n3 n4 g0 gs gn gm) ([((xa 5), .inl (X.2.1, 3, .inl fr))]))) sz) s (@HAppend.hAppend va_W va_W va_W _ (xW h0 nw sp xa la lb) (@HAppend.hAppend va_W va_W va_W _ ([((xa 5), .inl (X.2.1, 3, .inl fr))]) (rcV X nw an sv dv_3a n0_3b n1_3c n2_3d n3_3e n4_3f g0 gs gn gm))) H locs := G
    refine lv_iload_n zx zb dX10_race_34 rfl (lv_at hl 0 rfl) ?_
    have hzF : ((nI n0), (n0_3b, n2_3d, n3_3e, n4_3f)) = raceF x1 (n0, n2, n3, n4) := by rw [raceF_p hw_1, hq_3.1, hq_3.2.1, hq_3.2.2.1, hq_3.2.2.2]
    exact e_int S zr zlk (vp_nar_int _) G (dv_3a, n0_3b, n1_3c, n2_3d, n3_3e, n4_3f, fr) [0, 2, 3, 4, 5, 6, 7, 8, 9, 10, 11, 12, 13, 14, 15, 16, 17, 1] rfl rfl (Or.inr rfl) (⟨hI_n0_3b, hI_n1_3c, hI_n2_3d, hI_n3_3e, hI_n4_3f, hzF⟩) dX10_race_35
  · refine lv_if_ne (tgt := 18) zx zb dX10_race_8 (by decide) (fun c_4 => absurd (by decide) c_4) (fun c_4 => ?_)
    refine lv_aload_n zx zb dX10_race_11 rfl (lv_at hl 0 rfl) ?_
    refine lv_bipush (v := (-2)) zx zb dX10_race_12 (by decide) ?_
    refine b_wi (cells' := 0) (slots' := 0) (wr := rcV X nw an sv dv n0 n1 n2 n3 n4 g0 gs gn gm) G rfl rfl [0, 17] [1, 2, 3, 4, 5, 6, 7, 8, 9, 10, 11, 12, 13, 14, 15, 16] rfl rfl rfl rfl (n_V (As := [.int (-2)]) (rest := []) (C := RX10) (T := TX10) (N := 14) (ci := 8) S G (s_refuse l X h0 nw sp xa la lb fr (-2) H.size) gX10_race_X10_refuse rfl rfl rfl hdV_X10_refuse ⟨Nat.le_of_ble_eq_true rfl, Nat.le_of_ble_eq_true rfl⟩ [0, 17] rfl rfl 0 rfl rfl rfl hl.1 (Nat.le_of_ble_eq_true rfl) dX10_race_14 ⟨Nat.le_of_ble_eq_true rfl, Nat.le_of_ble_eq_true rfl⟩) (fun r_5 u_5 H locs hp_5 G => ?_)
    obtain ⟨f_5, rfl⟩ : ∃ z, z = u_5 := ⟨_, rfl⟩
    have hq_5 := hp_5
    have G : wd X (va_A (@HAppend.hAppend va_W va_W va_W _ (xW h0 nw sp xa la lb) (@HAppend.hAppend va_W va_W va_W _ (rcV X nw an sv dv n0 n1 n2 n3 n4 g0 gs gn gm) ([((xa 5), .inl (X.2.1, 3, .inl fr))]))) sz) (va_A (@HAppend.hAppend va_W va_W va_W _ (xW h0 nw sp xa la lb) (@HAppend.hAppend va_W va_W va_W _ (rcV X nw an sv dv n0 n1 n2 n3 n4 g0 gs gn gm) ([((xa 5), .inl (X.2.1, 3, .inl fr))]))) sz) s (@HAppend.hAppend va_W va_W va_W _ (rcV X nw an sv dv n0 n1 n2 n3 n4 g0 gs gn gm) (@HAppend.hAppend va_W va_W va_W _ (xW h0 nw sp xa la lb) ([((xa 5), .inl (X.2.1, 3, .inl f_5))]))) H locs := G
    have hzF : (r_5, (n0, n2, n3, n4)) = raceF x1 (n0, n2, n3, n4) := by rw [raceF_n (fun h => hw_1 h), hq_5]
    exact e_int S zr zlk (vp_nar_int _) G (dv, n0, n1, n2, n3, n4, f_5) [16, 0, 1, 2, 3, 4, 5, 6, 7, 8, 9, 10, 11, 12, 13, 14, 15, 17] rfl rfl (Or.inr rfl) (⟨hI_n0, hI_n1, hI_n2, hI_n3, hI_n4, hzF⟩) dX10_race_17
theorem in_X10_one_X10 : ∀ w ∈ wsX100, w ∈ wsX10_one := by decide +kernel
theorem lk_X10_one_10 : Cond.fieldLink RX10 10 "EggSpoons" "now" "LEggSpoons$Race;" ∈ wsX10_one := by decide +kernel
theorem in_X10_one_X5 : ∀ w ∈ wsX50, w ∈ wsX10_one := by decide +kernel
theorem lk_X10_one_87 : Cond.fieldLink RX10 87 "EggSpoons$Race" "runners" "I" ∈ wsX10_one := by decide +kernel
theorem hdV_X5_welcome : yX5_welcome.cls = RX5 ∧ yX5_welcome.cls ≠ "java/lang/invoke/MethodHandle" ∧ yX5_welcome.cls ≠ "java/lang/invoke/VarHandle" ∧ (parseMethodDescriptor yX5_welcome.desc).map (fun d => d.parameters.length) = some 3 := by decide +kernel
theorem hdV_X10_there : yX10_there.cls = RX10 ∧ yX10_there.cls ≠ "java/lang/invoke/MethodHandle" ∧ yX10_there.cls ≠ "java/lang/invoke/VarHandle" ∧ (parseMethodDescriptor yX10_there.desc).map (fun d => d.parameters.length) = some 1 := by decide +kernel
theorem in_X10_speed_X10 : ∀ w ∈ wsX100, w ∈ wsX10_speed := by decide +kernel
theorem lk_X10_speed_10 : Cond.fieldLink RX10 10 "EggSpoons" "now" "LEggSpoons$Race;" ∈ wsX10_speed := by decide +kernel
theorem in_X10_speed_X5 : ∀ w ∈ wsX50, w ∈ wsX10_speed := by decide +kernel
theorem lk_X10_speed_126 : Cond.fieldLink RX10 126 "EggSpoons$Race" "row" "[LEggSpoons$Runner;" ∈ wsX10_speed := by decide +kernel
theorem in_X10_speed_X8 : ∀ w ∈ wsX80, w ∈ wsX10_speed := by decide +kernel
theorem lk_X10_speed_130 : Cond.fieldLink RX10 130 "EggSpoons$Runner" "speed" "I" ∈ wsX10_speed := by decide +kernel
theorem hdV_X5_keep : yX5_keep.cls = RX5 ∧ yX5_keep.cls ≠ "java/lang/invoke/MethodHandle" ∧ yX5_keep.cls ≠ "java/lang/invoke/VarHandle" ∧ (parseMethodDescriptor yX5_keep.desc).map (fun d => d.parameters.length) = some 0 := by decide +kernel
set_option maxHeartbeats 4000000 in
set_option maxRecDepth 100000 in
/-- speed -/
theorem s_speed (l : Launch) (X : EX) (h0 : Nat) (nw : Nat) (sp : Nat) (xa : Nat → Nat) (la : Int64) (lb : Int64) (an : Nat → Nat) (sv : Nat → Int32) (dv : Nat → Int32) (n0 : Nat) (n1 : Nat) (n2 : Nat) (n3 : Nat) (n4 : Nat) (g0 : Nat → Int32) (gs : Nat → Int32) (gn : Nat → Int32) (gm : Nat → Int32) (fr : Nat → Int32) (x1 : Int32) (x2 : Int32) (hI_n0 : n0 ≤ 6) (hI_n1 : n1 ≤ 8) (hI_n2 : n2 ≤ 5) (hI_n3 : n3 ≤ 6) (hI_n4 : n4 ≤ 6) (sz : Nat) : Met l yX10_speed wsX10_speed ({ frames := 3, cells := 0, slots := 0, locals := 105 } : Room) (pE X [.ref h0, .int x1, .int x2] (@HAppend.hAppend va_W va_W va_W _ (xW h0 nw sp xa la lb) (@HAppend.hAppend va_W va_W va_W _ (rcV X nw an sv dv n0 n1 n2 n3 n4 g0 gs gn gm) ([((xa 5), .inl (X.2.1, 3, .inl fr))]))) sz) (qI (fun (r : Int32) (u : (Nat → Int32) × (Nat) × (Nat → Int32) × (Nat → Int32)) => u.2.1 ≤ 8 ∧ (True)) X (fun (u : (Nat → Int32) × (Nat) × (Nat → Int32) × (Nat → Int32)) => @HAppend.hAppend va_W va_W va_W _ (xW h0 nw sp xa la lb) (@HAppend.hAppend va_W va_W va_W _ (rcV X nw an sv u.1 n0 u.2.1 n2 n3 n4 u.2.2.1 gs gn gm) ([((xa 5), .inl (X.2.1, 3, .inl u.2.2.2))]))) (@HAppend.hAppend va_W va_W va_W _ (xW h0 nw sp xa la lb) (@HAppend.hAppend va_W va_W va_W _ (rcV X nw an sv dv n0 n1 n2 n3 n4 g0 gs gn gm) ([((xa 5), .inl (X.2.1, 3, .inl fr))]))) sz) 0 0 (va_A (@HAppend.hAppend va_W va_W va_W _ (xW h0 nw sp xa la lb) (@HAppend.hAppend va_W va_W va_W _ (rcV X nw an sv dv n0 n1 n2 n3 n4 g0 gs gn gm) ([((xa 5), .inl (X.2.1, 3, .inl fr))]))) sz) := by
  refine mk_met (B := (va_A (@HAppend.hAppend va_W va_W va_W _ (xW h0 nw sp xa la lb) (@HAppend.hAppend va_W va_W va_W _ (rcV X nw an sv dv n0 n1 n2 n3 n4 g0 gs gn gm) ([((xa 5), .inl (X.2.1, 3, .inl fr))]))) sz)) (A := (va_A (@HAppend.hAppend va_W va_W va_W _ (xW h0 nw sp xa la lb) (@HAppend.hAppend va_W va_W va_W _ (rcV X nw an sv dv n0 n1 n2 n3 n4 g0 gs gn gm) ([((xa 5), .inl (X.2.1, 3, .inl fr))]))) sz)) (cc := cX10_speed) (maxL := 5) (ret := (some .int)) (by decide) rfl (Nat.le_of_ble_eq_true rfl) k_w k_a (fun p e s m below meth c S zr zlk znm zsz G ls hl => ?_)
  have S : CallFix p m c cX10_speed 5 s _ wsX10_speed RX10 := S
  have zx := S.1
  have zb := S.2.1
  have hl : lv_has ls 5 [(0, .ref h0), (1, .int x1), (2, .int x2)] := hl
  refine lv_aload_n zx zb dX10_speed_0 rfl (lv_at hl 0 rfl) ?_
  refine lv_iload_n zx zb dX10_speed_1 rfl (lv_at hl 1 rfl) ?_
  refine o_ri (cells' := 0) (slots' := 0) G rfl rfl (n_V (As := [.int x1]) (rest := []) (C := RX10) (T := TX10) (N := 14) (ci := 8) S G (s_there l X h0 nw sp xa la lb an sv dv n0 n1 n2 n3 n4 g0 gs gn gm x1 hI_n0 hI_n1 hI_n2 hI_n3 hI_n4 s.heap.size) gX10_speed_X10_there rfl rfl rfl hdV_X10_there ⟨Nat.le_of_ble_eq_true rfl, Nat.le_of_ble_eq_true rfl⟩ [0, 1, 2, 3, 4, 5, 6, 7, 8, 9, 10, 11, 12, 13, 14, 15, 16] rfl rfl 0 rfl rfl rfl hl.1 (Nat.le_of_ble_eq_true rfl) dX10_speed_2 ⟨Nat.le_of_ble_eq_true rfl, Nat.le_of_ble_eq_true rfl⟩) (fun r_1 u_1 H locs hp_1 G => ?_)
  have G : wd X (va_A (@HAppend.hAppend va_W va_W va_W _ (xW h0 nw sp xa la lb) (@HAppend.hAppend va_W va_W va_W _ (rcV X nw an sv dv n0 n1 n2 n3 n4 g0 gs gn gm) ([((xa 5), .inl (X.2.1, 3, .inl fr))]))) sz) (va_A (@HAppend.hAppend va_W va_W va_W _ (xW h0 nw sp xa la lb) (@HAppend.hAppend va_W va_W va_W _ (rcV X nw an sv dv n0 n1 n2 n3 n4 g0 gs gn gm) ([((xa 5), .inl (X.2.1, 3, .inl fr))]))) sz) s (@HAppend.hAppend va_W va_W va_W _ (xW h0 nw sp xa la lb) (@HAppend.hAppend va_W va_W va_W _ (rcV X nw an sv dv n0 n1 n2 n3 n4 g0 gs gn gm) ([((xa 5), .inl (X.2.1, 3, .inl fr))]))) H locs := G
  rcases hp_1 with ⟨rfl, hj_1⟩ | ⟨rfl, hj_1⟩
  · obtain ⟨j_1, hj_1, rfl⟩ := hj_1
    refine lv_if_eq (tgt := 18) zx zb dX10_speed_5 (by decide) (fun c_2 => absurd c_2 (by decide)) (fun c_2 => ?_)
    refine lv_iload_n zx zb dX10_speed_8 rfl (lv_at hl 2 rfl) ?_
    refine lv_iconst (v := 0) zx zb dX10_speed_9 (by decide) ?_
    refine lv_bipush (v := 9) zx zb dX10_speed_10 (by decide) ?_
    refine o_ri (cells' := 0) (slots' := 0) G rfl rfl (n_S (As := [.int x2, .int 0, .int 9]) (rest := []) S G (s_within l X x2 0 9 H.size) gX10_speed_X10_within rfl rfl rfl hdS_X10_within ⟨Nat.le_of_ble_eq_true rfl, Nat.le_of_ble_eq_true rfl⟩ [] rfl rfl rfl hl.1 (Nat.le_of_ble_eq_true rfl) dX10_speed_12 ⟨Nat.le_of_ble_eq_true rfl, Nat.le_of_ble_eq_true rfl⟩) (fun r_3 u_3 H locs hp_3 G => ?_)
    have G : wd X (va_A (@HAppend.hAppend va_W va_W va_W _ (xW h0 nw sp xa la lb) (@HAppend.hAppend va_W va_W va_W _ (rcV X nw an sv dv n0 n1 n2 n3 n4 g0 gs gn gm) ([((xa 5), .inl (X.2.1, 3, .inl fr))]))) sz) (va_A (@HAppend.hAppend va_W va_W va_W _ (xW h0 nw sp xa la lb) (@HAppend.hAppend va_W va_W va_W _ (rcV X nw an sv dv n0 n1 n2 n3 n4 g0 gs gn gm) ([((xa 5), .inl (X.2.1, 3, .inl fr))]))) sz) s (@HAppend.hAppend va_W va_W va_W _ (xW h0 nw sp xa la lb) (@HAppend.hAppend va_W va_W va_W _ (rcV X nw an sv dv n0 n1 n2 n3 n4 g0 gs gn gm) ([((xa 5), .inl (X.2.1, 3, .inl fr))]))) H locs := G
    rcases hp_3 with ⟨rfl, hw_3⟩ | ⟨rfl, hw_3⟩
    · refine lv_if_ne (tgt := 25) zx zb dX10_speed_15 (by decide) (fun c_4 => ?_) (fun c_4 => absurd c_4 (by decide))
      refine lv_aload_n zx zb dX10_speed_25 rfl (lv_at hl 0 rfl) ?_
      refine r_get (C := RX10) (T := TX10) (N := 14) (ci := 8) (v := .ref nw) S in_X10_speed_X10 G 0 rfl rfl 0 (by decide) lk_X10_speed_10 rfl dX10_speed_26 ?_
      refine r_get (C := RX5) (T := TX5) (N := 8) (ci := 3) (v := .ref (an 0)) S in_X10_speed_X5 G 1 rfl rfl 3 (by decide) lk_X10_speed_126 rfl dX10_speed_29 ?_
      refine lv_iload_n zx zb dX10_speed_32 rfl (lv_at hl 1 rfl) ?_
      rcases k_6c (show j_1 < 6 by omega) with rfl | rfl | rfl | rfl | rfl | rfl
      · refine k_it (v := 0) rfl ?_
        refine r_aald (C := RX8) (b := (an 1)) S G 2 3 rfl rfl (k_vp (by decide)) rfl dX10_speed_33 ?_
        refine lv_astore_n (lv' := [(3, .ref (an 1)), (0, .ref h0), (1, .int 0), (2, .int x2)]) zx zb dX10_speed_34 rfl hl (by decide) rfl (fun ls hl => ?_)
        refine lv_aload_n zx zb dX10_speed_35 rfl (lv_at hl 0 rfl) ?_
        refine r_get (C := RX8) (T := TX8) (N := 8) (ci := 6) (v := .int (dv 10)) S in_X10_speed_X8 G 3 rfl rfl 3 (by decide) lk_X10_speed_130 rfl dX10_speed_36 ?_
        refine lv_istore (lv' := [(4, .int (dv 10)), (3, .ref (an 1)), (0, .ref h0), (1, .int 0), (2, .int x2)]) zx zb dX10_speed_39 hl (by decide) rfl (fun ls hl => ?_)
        refine lv_iload zx zb dX10_speed_41 (lv_at hl 0 rfl) ?_
        refine lv_iload_n zx zb dX10_speed_43 rfl (lv_at hl 4 rfl) ?_
        refine lv_icmp_eq (tgt := 54) zx zb dX10_speed_44 (by decide) (fun c_5 => ?_) (fun c_5 => ?_)
        · refine lv_aload_n zx zb dX10_speed_54 rfl (lv_at hl 2 rfl) ?_
          refine lv_bipush (v := (-3)) zx zb dX10_speed_55 (by decide) ?_
          refine b_wi (cells' := 0) (slots' := 0) (wr := rcV X nw an sv dv n0 n1 n2 n3 n4 g0 gs gn gm) G rfl rfl [0, 17] [1, 2, 3, 4, 5, 6, 7, 8, 9, 10, 11, 12, 13, 14, 15, 16] rfl rfl rfl rfl (n_V (As := [.int (-3)]) (rest := []) (C := RX10) (T := TX10) (N := 14) (ci := 8) S G (s_refuse l X h0 nw sp xa la lb fr (-3) H.size) gX10_speed_X10_refuse rfl rfl rfl hdV_X10_refuse ⟨Nat.le_of_ble_eq_true rfl, Nat.le_of_ble_eq_true rfl⟩ [0, 17] rfl rfl 0 rfl rfl rfl hl.1 (Nat.le_of_ble_eq_true rfl) dX10_speed_57 ⟨Nat.le_of_ble_eq_true rfl, Nat.le_of_ble_eq_true rfl⟩) (fun r_6 u_6 H locs hp_6 G => ?_)
          obtain ⟨f_6, rfl⟩ : ∃ z, z = u_6 := ⟨_, rfl⟩
          have hq_6 := hp_6
          have G : wd X (va_A (@HAppend.hAppend va_W va_W va_W _ (xW h0 nw sp xa la lb) (@HAppend.hAppend va_W va_W va_W _ (rcV X nw an sv dv n0 n1 n2 n3 n4 g0 gs gn gm) ([((xa 5), .inl (X.2.1, 3, .inl fr))]))) sz) (va_A (@HAppend.hAppend va_W va_W va_W _ (xW h0 nw sp xa la lb) (@HAppend.hAppend va_W va_W va_W _ (rcV X nw an sv dv n0 n1 n2 n3 n4 g0 gs gn gm) ([((xa 5), .inl (X.2.1, 3, .inl fr))]))) sz) s (@HAppend.hAppend va_W va_W va_W _ (rcV X nw an sv dv n0 n1 n2 n3 n4 g0 gs gn gm) (@HAppend.hAppend va_W va_W va_W _ (xW h0 nw sp xa la lb) ([((xa 5), .inl (X.2.1, 3, .inl f_6))]))) H locs := G
          exact e_int S zr zlk (vp_nar_int _) G (dv, n1, g0, f_6) [16, 0, 1, 2, 3, 4, 5, 6, 7, 8, 9, 10, 11, 12, 13, 14, 15, 17] rfl rfl (Or.inr rfl) (⟨hI_n1, trivial⟩) dX10_speed_60
        · refine lv_aload_n zx zb dX10_speed_47 rfl (lv_at hl 1 rfl) ?_
          refine o_ri (cells' := 0) (slots' := 0) G rfl rfl (n_V (As := []) (rest := []) (C := RX8) (T := TX8) (N := 8) (ci := 6) S G (s_isHome l X (an 1) (fun k => sv (0 + k)) (fun k => dv (10 + k)) H.size) gX10_speed_X8_isHome rfl rfl rfl hdV_X8_isHome ⟨Nat.le_of_ble_eq_true rfl, Nat.le_of_ble_eq_true rfl⟩ [3] rfl rfl 3 rfl rfl rfl hl.1 (Nat.le_of_ble_eq_true rfl) dX10_speed_48 ⟨Nat.le_of_ble_eq_true rfl, Nat.le_of_ble_eq_true rfl⟩) (fun r_7 u_7 H locs hp_7 G => ?_)
          have G : wd X (va_A (@HAppend.hAppend va_W va_W va_W _ (xW h0 nw sp xa la lb) (@HAppend.hAppend va_W va_W va_W _ (rcV X nw an sv dv n0 n1 n2 n3 n4 g0 gs gn gm) ([((xa 5), .inl (X.2.1, 3, .inl fr))]))) sz) (va_A (@HAppend.hAppend va_W va_W va_W _ (xW h0 nw sp xa la lb) (@HAppend.hAppend va_W va_W va_W _ (rcV X nw an sv dv n0 n1 n2 n3 n4 g0 gs gn gm) ([((xa 5), .inl (X.2.1, 3, .inl fr))]))) sz) s (@HAppend.hAppend va_W va_W va_W _ (xW h0 nw sp xa la lb) (@HAppend.hAppend va_W va_W va_W _ (rcV X nw an sv dv n0 n1 n2 n3 n4 g0 gs gn gm) ([((xa 5), .inl (X.2.1, 3, .inl fr))]))) H locs := G
          refine lv_if_eq (tgt := 61) zx zb dX10_speed_51 (by decide) (fun c_8 => ?_) (fun c_8 => ?_)
          · refine lv_aload_n zx zb dX10_speed_61 rfl (lv_at hl 2 rfl) ?_
            refine r_get (C := RX10) (T := TX10) (N := 14) (ci := 8) (v := .ref nw) S in_X10_speed_X10 G 0 rfl rfl 0 (by decide) lk_X10_speed_10 rfl dX10_speed_62 ?_
            refine b_wv (cells' := 0) (slots' := 0) (wr := @HAppend.hAppend va_W va_W va_W _ (xW h0 nw sp xa la lb) ([((xa 5), .inl (X.2.1, 3, .inl fr))])) G rfl rfl [1, 2, 3, 4, 5, 6, 7, 8, 9, 10, 11, 12, 13, 14, 15, 16] [0, 17] rfl rfl rfl rfl (n_V (As := []) (rest := []) (C := RX5) (T := TX5) (N := 8) (ci := 3) S G (s_keep l X nw an sv dv n0 n1 n2 n3 n4 g0 gs gn gm hI_n0 hI_n1 hI_n2 hI_n3 hI_n4 H.size) gX10_speed_X5_keep rfl rfl rfl hdV_X5_keep ⟨Nat.le_of_ble_eq_true rfl, Nat.le_of_ble_eq_true rfl⟩ [1, 2, 3, 4, 5, 6, 7, 8, 9, 10, 11, 12, 13, 14, 15, 16] rfl rfl 1 rfl rfl rfl hl.1 (Nat.le_of_ble_eq_true rfl) dX10_speed_65 ⟨Nat.le_of_ble_eq_true rfl, Nat.le_of_ble_eq_true rfl⟩) (fun u_9 H locs hp_9 G => ?_)
            obtain ⟨n1_9a, g0_9b⟩ := u_9
            try dsimp only at hp_9
            obtain ⟨hI_n1_9a, hq_9⟩ := hp_9
            have G : wd X (va_A (@HAppend.hAppend va_W va_W va_W _ (xW h0 nw sp xa la lb) (@HAppend.hAppend va_W va_W va_W _ (rcV X nw an sv dv n0 n1 n2 n3 n4 g0 gs gn gm) ([((xa 5), .inl (X.2.1, 3, .inl fr))]))) sz) (va_A (@HAppend.hAppend va_W va_W va_W _ (xW h0 nw sp xa la lb) (@HAppend.hAppend va_W va_W va_W _ (rcV X nw an sv dv n0 n1 n2 n3 n4 g0 gs gn gm) ([((xa 5), .inl (X.2.1, 3, .inl fr))]))) sz) s (@HAppend.hAppend va_W va_W va_W _ (xW h0 nw sp xa la lb) (@HAppend.hAppend va_W va_W va_W _ ([((xa 5), .inl (X.2.1, 3, .inl fr))]) (rcV X nw an sv dv n0 n1_9a n2 n3 n4 g0_9b gs gn gm))) H locs := G
            refine lv_aload_n zx zb dX10_speed_68 rfl (lv_at hl 1 rfl) ?_
            refine lv_iload_n zx zb dX10_speed_69 rfl (lv_at hl 4 rfl) ?_
            refine r_put (C := RX8) (T := TX8) (N := 8) (ci := 6) (v := .int x2) S in_X10_speed_X8 tyX8_ok nmX8 G 4 rfl rfl 3 (by decide) lk_X10_speed_130 rfl (vp_nar_int _) rfl (Nat.le_of_ble_eq_true rfl) dX10_speed_70 (fun H locs G => ?_)
            obtain ⟨dv_10, G⟩ : ∃ dv_10 : Nat → Int32, wd X (va_A (@HAppend.hAppend va_W va_W va_W _ (xW h0 nw sp xa la lb) (@HAppend.hAppend va_W va_W va_W _ (rcV X nw an sv dv n0 n1 n2 n3 n4 g0 gs gn gm) ([((xa 5), .inl (X.2.1, 3, .inl fr))]))) sz) (va_A (@HAppend.hAppend va_W va_W va_W _ (xW h0 nw sp xa la lb) (@HAppend.hAppend va_W va_W va_W _ (rcV X nw an sv dv n0 n1 n2 n3 n4 g0 gs gn gm) ([((xa 5), .inl (X.2.1, 3, .inl fr))]))) sz) s (@HAppend.hAppend va_W va_W va_W _ (xW h0 nw sp xa la lb) (@HAppend.hAppend va_W va_W va_W _ ([((xa 5), .inl (X.2.1, 3, .inl fr))]) (rcV X nw an sv dv_10 n0 n1_9a n2 n3 n4 g0_9b gs gn gm))) H locs := ⟨upd dv 10 x2, G⟩
            refine lv_iload zx zb dX10_speed_73 (lv_at hl 0 rfl) ?_
            exact e_int S zr zlk (vp_nar_int _) G (dv_10, n1_9a, g0_9b, fr) [0, 2, 3, 4, 5, 6, 7, 8, 9, 10, 11, 12, 13, 14, 15, 16, 17, 1] rfl rfl (Or.inr rfl) (⟨hI_n1_9a, trivial⟩) dX10_speed_75
          · refine lv_aload_n zx zb dX10_speed_54 rfl (lv_at hl 2 rfl) ?_
            refine lv_bipush (v := (-3)) zx zb dX10_speed_55 (by decide) ?_
            refine b_wi (cells' := 0) (slots' := 0) (wr := rcV X nw an sv dv n0 n1 n2 n3 n4 g0 gs gn gm) G rfl rfl [0, 17] [1, 2, 3, 4, 5, 6, 7, 8, 9, 10, 11, 12, 13, 14, 15, 16] rfl rfl rfl rfl (n_V (As := [.int (-3)]) (rest := []) (C := RX10) (T := TX10) (N := 14) (ci := 8) S G (s_refuse l X h0 nw sp xa la lb fr (-3) H.size) gX10_speed_X10_refuse rfl rfl rfl hdV_X10_refuse ⟨Nat.le_of_ble_eq_true rfl, Nat.le_of_ble_eq_true rfl⟩ [0, 17] rfl rfl 0 rfl rfl rfl hl.1 (Nat.le_of_ble_eq_true rfl) dX10_speed_57 ⟨Nat.le_of_ble_eq_true rfl, Nat.le_of_ble_eq_true rfl⟩) (fun r_11 u_11 H locs hp_11 G => ?_)
            obtain ⟨f_11, rfl⟩ : ∃ z, z = u_11 := ⟨_, rfl⟩
            have hq_11 := hp_11
            have G : wd X (va_A (@HAppend.hAppend va_W va_W va_W _ (xW h0 nw sp xa la lb) (@HAppend.hAppend va_W va_W va_W _ (rcV X nw an sv dv n0 n1 n2 n3 n4 g0 gs gn gm) ([((xa 5), .inl (X.2.1, 3, .inl fr))]))) sz) (va_A (@HAppend.hAppend va_W va_W va_W _ (xW h0 nw sp xa la lb) (@HAppend.hAppend va_W va_W va_W _ (rcV X nw an sv dv n0 n1 n2 n3 n4 g0 gs gn gm) ([((xa 5), .inl (X.2.1, 3, .inl fr))]))) sz) s (@HAppend.hAppend va_W va_W va_W _ (rcV X nw an sv dv n0 n1 n2 n3 n4 g0 gs gn gm) (@HAppend.hAppend va_W va_W va_W _ (xW h0 nw sp xa la lb) ([((xa 5), .inl (X.2.1, 3, .inl f_11))]))) H locs := G
            exact e_int S zr zlk (vp_nar_int _) G (dv, n1, g0, f_11) [16, 0, 1, 2, 3, 4, 5, 6, 7, 8, 9, 10, 11, 12, 13, 14, 15, 17] rfl rfl (Or.inr rfl) (⟨hI_n1, trivial⟩) dX10_speed_60
      · refine k_it (v := 1) rfl ?_
        refine r_aald (C := RX8) (b := (an 2)) S G 2 3 rfl rfl (k_vp (by decide)) rfl dX10_speed_33 ?_
        refine lv_astore_n (lv' := [(3, .ref (an 2)), (0, .ref h0), (1, .int 1), (2, .int x2)]) zx zb dX10_speed_34 rfl hl (by decide) rfl (fun ls hl => ?_)
        refine lv_aload_n zx zb dX10_speed_35 rfl (lv_at hl 0 rfl) ?_
        refine r_get (C := RX8) (T := TX8) (N := 8) (ci := 6) (v := .int (dv 15)) S in_X10_speed_X8 G 4 rfl rfl 3 (by decide) lk_X10_speed_130 rfl dX10_speed_36 ?_
        refine lv_istore (lv' := [(4, .int (dv 15)), (3, .ref (an 2)), (0, .ref h0), (1, .int 1), (2, .int x2)]) zx zb dX10_speed_39 hl (by decide) rfl (fun ls hl => ?_)
        refine lv_iload zx zb dX10_speed_41 (lv_at hl 0 rfl) ?_
        refine lv_iload_n zx zb dX10_speed_43 rfl (lv_at hl 4 rfl) ?_
        refine lv_icmp_eq (tgt := 54) zx zb dX10_speed_44 (by decide) (fun c_12 => ?_) (fun c_12 => ?_)
        · refine lv_aload_n zx zb dX10_speed_54 rfl (lv_at hl 2 rfl) ?_
          refine lv_bipush (v := (-3)) zx zb dX10_speed_55 (by decide) ?_
          refine b_wi (cells' := 0) (slots' := 0) (wr := rcV X nw an sv dv n0 n1 n2 n3 n4 g0 gs gn gm) G rfl rfl [0, 17] [1, 2, 3, 4, 5, 6, 7, 8, 9, 10, 11, 12, 13, 14, 15, 16] rfl rfl rfl rfl (n_V (As := [.int (-3)]) (rest := []) (C := RX10) (T := TX10) (N := 14) (ci := 8) S G (s_refuse l X h0 nw sp xa la lb fr (-3) H.size) gX10_speed_X10_refuse rfl rfl rfl hdV_X10_refuse ⟨Nat.le_of_ble_eq_true rfl, Nat.le_of_ble_eq_true rfl⟩ [0, 17] rfl rfl 0 rfl rfl rfl hl.1 (Nat.le_of_ble_eq_true rfl) dX10_speed_57 ⟨Nat.le_of_ble_eq_true rfl, Nat.le_of_ble_eq_true rfl⟩) (fun r_13 u_13 H locs hp_13 G => ?_)
          obtain ⟨f_13, rfl⟩ : ∃ z, z = u_13 := ⟨_, rfl⟩
          have hq_13 := hp_13
          have G : wd X (va_A (@HAppend.hAppend va_W va_W va_W _ (xW h0 nw sp xa la lb) (@HAppend.hAppend va_W va_W va_W _ (rcV X nw an sv dv n0 n1 n2 n3 n4 g0 gs gn gm) ([((xa 5), .inl (X.2.1, 3, .inl fr))]))) sz) (va_A (@HAppend.hAppend va_W va_W va_W _ (xW h0 nw sp xa la lb) (@HAppend.hAppend va_W va_W va_W _ (rcV X nw an sv dv n0 n1 n2 n3 n4 g0 gs gn gm) ([((xa 5), .inl (X.2.1, 3, .inl fr))]))) sz) s (@HAppend.hAppend va_W va_W va_W _ (rcV X nw an sv dv n0 n1 n2 n3 n4 g0 gs gn gm) (@HAppend.hAppend va_W va_W va_W _ (xW h0 nw sp xa la lb) ([((xa 5), .inl (X.2.1, 3, .inl f_13))]))) H locs := G
          exact e_int S zr zlk (vp_nar_int _) G (dv, n1, g0, f_13) [16, 0, 1, 2, 3, 4, 5, 6, 7, 8, 9, 10, 11, 12, 13, 14, 15, 17] rfl rfl (Or.inr rfl) (⟨hI_n1, trivial⟩) dX10_speed_60
        · refine lv_aload_n zx zb dX10_speed_47 rfl (lv_at hl 1 rfl) ?_
          refine o_ri (cells' := 0) (slots' := 0) G rfl rfl (n_V (As := []) (rest := []) (C := RX8) (T := TX8) (N := 8) (ci := 6) S G (s_isHome l X (an 2) (fun k => sv (3 + k)) (fun k => dv (15 + k)) H.size) gX10_speed_X8_isHome rfl rfl rfl hdV_X8_isHome ⟨Nat.le_of_ble_eq_true rfl, Nat.le_of_ble_eq_true rfl⟩ [4] rfl rfl 4 rfl rfl rfl hl.1 (Nat.le_of_ble_eq_true rfl) dX10_speed_48 ⟨Nat.le_of_ble_eq_true rfl, Nat.le_of_ble_eq_true rfl⟩) (fun r_14 u_14 H locs hp_14 G => ?_)
          have G : wd X (va_A (@HAppend.hAppend va_W va_W va_W _ (xW h0 nw sp xa la lb) (@HAppend.hAppend va_W va_W va_W _ (rcV X nw an sv dv n0 n1 n2 n3 n4 g0 gs gn gm) ([((xa 5), .inl (X.2.1, 3, .inl fr))]))) sz) (va_A (@HAppend.hAppend va_W va_W va_W _ (xW h0 nw sp xa la lb) (@HAppend.hAppend va_W va_W va_W _ (rcV X nw an sv dv n0 n1 n2 n3 n4 g0 gs gn gm) ([((xa 5), .inl (X.2.1, 3, .inl fr))]))) sz) s (@HAppend.hAppend va_W va_W va_W _ (xW h0 nw sp xa la lb) (@HAppend.hAppend va_W va_W va_W _ (rcV X nw an sv dv n0 n1 n2 n3 n4 g0 gs gn gm) ([((xa 5), .inl (X.2.1, 3, .inl fr))]))) H locs := G
          refine lv_if_eq (tgt := 61) zx zb dX10_speed_51 (by decide) (fun c_15 => ?_) (fun c_15 => ?_)
          · refine lv_aload_n zx zb dX10_speed_61 rfl (lv_at hl 2 rfl) ?_
            refine r_get (C := RX10) (T := TX10) (N := 14) (ci := 8) (v := .ref nw) S in_X10_speed_X10 G 0 rfl rfl 0 (by decide) lk_X10_speed_10 rfl dX10_speed_62 ?_
            refine b_wv (cells' := 0) (slots' := 0) (wr := @HAppend.hAppend va_W va_W va_W _ (xW h0 nw sp xa la lb) ([((xa 5), .inl (X.2.1, 3, .inl fr))])) G rfl rfl [1, 2, 3, 4, 5, 6, 7, 8, 9, 10, 11, 12, 13, 14, 15, 16] [0, 17] rfl rfl rfl rfl (n_V (As := []) (rest := []) (C := RX5) (T := TX5) (N := 8) (ci := 3) S G (s_keep l X nw an sv dv n0 n1 n2 n3 n4 g0 gs gn gm hI_n0 hI_n1 hI_n2 hI_n3 hI_n4 H.size) gX10_speed_X5_keep rfl rfl rfl hdV_X5_keep ⟨Nat.le_of_ble_eq_true rfl, Nat.le_of_ble_eq_true rfl⟩ [1, 2, 3, 4, 5, 6, 7, 8, 9, 10, 11, 12, 13, 14, 15, 16] rfl rfl 1 rfl rfl rfl hl.1 (Nat.le_of_ble_eq_true rfl) dX10_speed_65 ⟨Nat.le_of_ble_eq_true rfl, Nat.le_of_ble_eq_true rfl⟩) (fun u_16 H locs hp_16 G => ?_)
            obtain ⟨n1_16a, g0_16b⟩ := u_16
            try dsimp only at hp_16
            obtain ⟨hI_n1_16a, hq_16⟩ := hp_16
            have G : wd X (va_A (@HAppend.hAppend va_W va_W va_W _ (xW h0 nw sp xa la lb) (@HAppend.hAppend va_W va_W va_W _ (rcV X nw an sv dv n0 n1 n2 n3 n4 g0 gs gn gm) ([((xa 5), .inl (X.2.1, 3, .inl fr))]))) sz) (va_A (@HAppend.hAppend va_W va_W va_W _ (xW h0 nw sp xa la lb) (@HAppend.hAppend va_W va_W va_W _ (rcV X nw an sv dv n0 n1 n2 n3 n4 g0 gs gn gm) ([((xa 5), .inl (X.2.1, 3, .inl fr))]))) sz) s (@HAppend.hAppend va_W va_W va_W _ (xW h0 nw sp xa la lb) (@HAppend.hAppend va_W va_W va_W _ ([((xa 5), .inl (X.2.1, 3, .inl fr))]) (rcV X nw an sv dv n0 n1_16a n2 n3 n4 g0_16b gs gn gm))) H locs := G
            refine lv_aload_n zx zb dX10_speed_68 rfl (lv_at hl 1 rfl) ?_
            refine lv_iload_n zx zb dX10_speed_69 rfl (lv_at hl 4 rfl) ?_
            refine r_put (C := RX8) (T := TX8) (N := 8) (ci := 6) (v := .int x2) S in_X10_speed_X8 tyX8_ok nmX8 G 5 rfl rfl 3 (by decide) lk_X10_speed_130 rfl (vp_nar_int _) rfl (Nat.le_of_ble_eq_true rfl) dX10_speed_70 (fun H locs G => ?_)
            obtain ⟨dv_17, G⟩ : ∃ dv_17 : Nat → Int32, wd X (va_A (@HAppend.hAppend va_W va_W va_W _ (xW h0 nw sp xa la lb) (@HAppend.hAppend va_W va_W va_W _ (rcV X nw an sv dv n0 n1 n2 n3 n4 g0 gs gn gm) ([((xa 5), .inl (X.2.1, 3, .inl fr))]))) sz) (va_A (@HAppend.hAppend va_W va_W va_W _ (xW h0 nw sp xa la lb) (@HAppend.hAppend va_W va_W va_W _ (rcV X nw an sv dv n0 n1 n2 n3 n4 g0 gs gn gm) ([((xa 5), .inl (X.2.1, 3, .inl fr))]))) sz) s (@HAppend.hAppend va_W va_W va_W _ (xW h0 nw sp xa la lb) (@HAppend.hAppend va_W va_W va_W _ ([((xa 5), .inl (X.2.1, 3, .inl fr))]) (rcV X nw an sv dv_17 n0 n1_16a n2 n3 n4 g0_16b gs gn gm))) H locs := ⟨upd dv 15 x2, G⟩
            refine lv_iload zx zb dX10_speed_73 (lv_at hl 0 rfl) ?_
            exact e_int S zr zlk (vp_nar_int _) G (dv_17, n1_16a, g0_16b, fr) [0, 2, 3, 4, 5, 6, 7, 8, 9, 10, 11, 12, 13, 14, 15, 16, 17, 1] rfl rfl (Or.inr rfl) (⟨hI_n1_16a, trivial⟩) dX10_speed_75
          · refine lv_aload_n zx zb dX10_speed_54 rfl (lv_at hl 2 rfl) ?_
            refine lv_bipush (v := (-3)) zx zb dX10_speed_55 (by decide) ?_
            refine b_wi (cells' := 0) (slots' := 0) (wr := rcV X nw an sv dv n0 n1 n2 n3 n4 g0 gs gn gm) G rfl rfl [0, 17] [1, 2, 3, 4, 5, 6, 7, 8, 9, 10, 11, 12, 13, 14, 15, 16] rfl rfl rfl rfl (n_V (As := [.int (-3)]) (rest := []) (C := RX10) (T := TX10) (N := 14) (ci := 8) S G (s_refuse l X h0 nw sp xa la lb fr (-3) H.size) gX10_speed_X10_refuse rfl rfl rfl hdV_X10_refuse ⟨Nat.le_of_ble_eq_true rfl, Nat.le_of_ble_eq_true rfl⟩ [0, 17] rfl rfl 0 rfl rfl rfl hl.1 (Nat.le_of_ble_eq_true rfl) dX10_speed_57 ⟨Nat.le_of_ble_eq_true rfl, Nat.le_of_ble_eq_true rfl⟩) (fun r_18 u_18 H locs hp_18 G => ?_)
            obtain ⟨f_18, rfl⟩ : ∃ z, z = u_18 := ⟨_, rfl⟩
            have hq_18 := hp_18
            have G : wd X (va_A (@HAppend.hAppend va_W va_W va_W _ (xW h0 nw sp xa la lb) (@HAppend.hAppend va_W va_W va_W _ (rcV X nw an sv dv n0 n1 n2 n3 n4 g0 gs gn gm) ([((xa 5), .inl (X.2.1, 3, .inl fr))]))) sz) (va_A (@HAppend.hAppend va_W va_W va_W _ (xW h0 nw sp xa la lb) (@HAppend.hAppend va_W va_W va_W _ (rcV X nw an sv dv n0 n1 n2 n3 n4 g0 gs gn gm) ([((xa 5), .inl (X.2.1, 3, .inl fr))]))) sz) s (@HAppend.hAppend va_W va_W va_W _ (rcV X nw an sv dv n0 n1 n2 n3 n4 g0 gs gn gm) (@HAppend.hAppend va_W va_W va_W _ (xW h0 nw sp xa la lb) ([((xa 5), .inl (X.2.1, 3, .inl f_18))]))) H locs := G
            exact e_int S zr zlk (vp_nar_int _) G (dv, n1, g0, f_18) [16, 0, 1, 2, 3, 4, 5, 6, 7, 8, 9, 10, 11, 12, 13, 14, 15, 17] rfl rfl (Or.inr rfl) (⟨hI_n1, trivial⟩) dX10_speed_60
      · refine k_it (v := 2) rfl ?_
        refine r_aald (C := RX8) (b := (an 3)) S G 2 3 rfl rfl (k_vp (by decide)) rfl dX10_speed_33 ?_
        refine lv_astore_n (lv' := [(3, .ref (an 3)), (0, .ref h0), (1, .int 2), (2, .int x2)]) zx zb dX10_speed_34 rfl hl (by decide) rfl (fun ls hl => ?_)
        refine lv_aload_n zx zb dX10_speed_35 rfl (lv_at hl 0 rfl) ?_
        refine r_get (C := RX8) (T := TX8) (N := 8) (ci := 6) (v := .int (dv 20)) S in_X10_speed_X8 G 5 rfl rfl 3 (by decide) lk_X10_speed_130 rfl dX10_speed_36 ?_
        refine lv_istore (lv' := [(4, .int (dv 20)), (3, .ref (an 3)), (0, .ref h0), (1, .int 2), (2, .int x2)]) zx zb dX10_speed_39 hl (by decide) rfl (fun ls hl => ?_)
        refine lv_iload zx zb dX10_speed_41 (lv_at hl 0 rfl) ?_
        refine lv_iload_n zx zb dX10_speed_43 rfl (lv_at hl 4 rfl) ?_
        refine lv_icmp_eq (tgt := 54) zx zb dX10_speed_44 (by decide) (fun c_19 => ?_) (fun c_19 => ?_)
        · refine lv_aload_n zx zb dX10_speed_54 rfl (lv_at hl 2 rfl) ?_
          refine lv_bipush (v := (-3)) zx zb dX10_speed_55 (by decide) ?_
          refine b_wi (cells' := 0) (slots' := 0) (wr := rcV X nw an sv dv n0 n1 n2 n3 n4 g0 gs gn gm) G rfl rfl [0, 17] [1, 2, 3, 4, 5, 6, 7, 8, 9, 10, 11, 12, 13, 14, 15, 16] rfl rfl rfl rfl (n_V (As := [.int (-3)]) (rest := []) (C := RX10) (T := TX10) (N := 14) (ci := 8) S G (s_refuse l X h0 nw sp xa la lb fr (-3) H.size) gX10_speed_X10_refuse rfl rfl rfl hdV_X10_refuse ⟨Nat.le_of_ble_eq_true rfl, Nat.le_of_ble_eq_true rfl⟩ [0, 17] rfl rfl 0 rfl rfl rfl hl.1 (Nat.le_of_ble_eq_true rfl) dX10_speed_57 ⟨Nat.le_of_ble_eq_true rfl, Nat.le_of_ble_eq_true rfl⟩) (fun r_20 u_20 H locs hp_20 G => ?_)
          obtain ⟨f_20, rfl⟩ : ∃ z, z = u_20 := ⟨_, rfl⟩
          have hq_20 := hp_20
          have G : wd X (va_A (@HAppend.hAppend va_W va_W va_W _ (xW h0 nw sp xa la lb) (@HAppend.hAppend va_W va_W va_W _ (rcV X nw an sv dv n0 n1 n2 n3 n4 g0 gs gn gm) ([((xa 5), .inl (X.2.1, 3, .inl fr))]))) sz) (va_A (@HAppend.hAppend va_W va_W va_W _ (xW h0 nw sp xa la lb) (@HAppend.hAppend va_W va_W va_W _ (rcV X nw an sv dv n0 n1 n2 n3 n4 g0 gs gn gm) ([((xa 5), .inl (X.2.1, 3, .inl fr))]))) sz) s (@HAppend.hAppend va_W va_W va_W _ (rcV X nw an sv dv n0 n1 n2 n3 n4 g0 gs gn gm) (@HAppend.hAppend va_W va_W va_W _ (xW h0 nw sp xa la lb) ([((xa 5), .inl (X.2.1, 3, .inl f_20))]))) H locs := G
          exact e_int S zr zlk (vp_nar_int _) G (dv, n1, g0, f_20) [16, 0, 1, 2, 3, 4, 5, 6, 7, 8, 9, 10, 11, 12, 13, 14, 15, 17] rfl rfl (Or.inr rfl) (⟨hI_n1, trivial⟩) dX10_speed_60
        · refine lv_aload_n zx zb dX10_speed_47 rfl (lv_at hl 1 rfl) ?_
          refine o_ri (cells' := 0) (slots' := 0) G rfl rfl (n_V (As := []) (rest := []) (C := RX8) (T := TX8) (N := 8) (ci := 6) S G (s_isHome l X (an 3) (fun k => sv (6 + k)) (fun k => dv (20 + k)) H.size) gX10_speed_X8_isHome rfl rfl rfl hdV_X8_isHome ⟨Nat.le_of_ble_eq_true rfl, Nat.le_of_ble_eq_true rfl⟩ [5] rfl rfl 5 rfl rfl rfl hl.1 (Nat.le_of_ble_eq_true rfl) dX10_speed_48 ⟨Nat.le_of_ble_eq_true rfl, Nat.le_of_ble_eq_true rfl⟩) (fun r_21 u_21 H locs hp_21 G => ?_)
          have G : wd X (va_A (@HAppend.hAppend va_W va_W va_W _ (xW h0 nw sp xa la lb) (@HAppend.hAppend va_W va_W va_W _ (rcV X nw an sv dv n0 n1 n2 n3 n4 g0 gs gn gm) ([((xa 5), .inl (X.2.1, 3, .inl fr))]))) sz) (va_A (@HAppend.hAppend va_W va_W va_W _ (xW h0 nw sp xa la lb) (@HAppend.hAppend va_W va_W va_W _ (rcV X nw an sv dv n0 n1 n2 n3 n4 g0 gs gn gm) ([((xa 5), .inl (X.2.1, 3, .inl fr))]))) sz) s (@HAppend.hAppend va_W va_W va_W _ (xW h0 nw sp xa la lb) (@HAppend.hAppend va_W va_W va_W _ (rcV X nw an sv dv n0 n1 n2 n3 n4 g0 gs gn gm) ([((xa 5), .inl (X.2.1, 3, .inl fr))]))) H locs := G
          refine lv_if_eq (tgt := 61) zx zb dX10_speed_51 (by decide) (fun c_22 => ?_) (fun c_22 => ?_)
          · refine lv_aload_n zx zb dX10_speed_61 rfl (lv_at hl 2 rfl) ?_
            refine r_get (C := RX10) (T := TX10) (N := 14) (ci := 8) (v := .ref nw) S in_X10_speed_X10 G 0 rfl rfl 0 (by decide) lk_X10_speed_10 rfl dX10_speed_62 ?_
            refine b_wv (cells' := 0) (slots' := 0) (wr := @HAppend.hAppend va_W va_W va_W _ (xW h0 nw sp xa la lb) ([((xa 5), .inl (X.2.1, 3, .inl fr))])) G rfl rfl [1, 2, 3, 4, 5, 6, 7, 8, 9, 10, 11, 12, 13, 14, 15, 16] [0, 17] rfl rfl rfl rfl (n_V (As := []) (rest := []) (C := RX5) (T := TX5) (N := 8) (ci := 3) S G (s_keep l X nw an sv dv n0 n1 n2 n3 n4 g0 gs gn gm hI_n0 hI_n1 hI_n2 hI_n3 hI_n4 H.size) gX10_speed_X5_keep rfl rfl rfl hdV_X5_keep ⟨Nat.le_of_ble_eq_true rfl, Nat.le_of_ble_eq_true rfl⟩ [1, 2, 3, 4, 5, 6, 7, 8, 9, 10, 11, 12, 13, 14, 15, 16] rfl rfl 1 rfl rfl rfl hl.1 (Nat.le_of_ble_eq_true rfl) dX10_speed_65 ⟨Nat.le_of_ble_eq_true rfl, Nat.le_of_ble_eq_true rfl⟩) (fun u_23 H locs hp_23 G => ?_)
            obtain ⟨n1_23a, g0_23b⟩ := u_23
            try dsimp only at hp_23
            obtain ⟨hI_n1_23a, hq_23⟩ := hp_23
            have G : wd X (va_A (@HAppend.hAppend va_W va_W va_W _ (xW h0 nw sp xa la lb) (@HAppend.hAppend va_W va_W va_W _ (rcV X nw an sv dv n0 n1 n2 n3 n4 g0 gs gn gm) ([((xa 5), .inl (X.2.1, 3, .inl fr))]))) sz) (va_A (@HAppend.hAppend va_W va_W va_W _ (xW h0 nw sp xa la lb) (@HAppend.hAppend va_W va_W va_W _ (rcV X nw an sv dv n0 n1 n2 n3 n4 g0 gs gn gm) ([((xa 5), .inl (X.2.1, 3, .inl fr))]))) sz) s (@HAppend.hAppend va_W va_W va_W _ (xW h0 nw sp xa la lb) (@HAppend.hAppend va_W va_W va_W _ ([((xa 5), .inl (X.2.1, 3, .inl fr))]) (rcV X nw an sv dv n0 n1_23a n2 n3 n4 g0_23b gs gn gm))) H locs := G
            refine lv_aload_n zx zb dX10_speed_68 rfl (lv_at hl 1 rfl) ?_
            refine lv_iload_n zx zb dX10_speed_69 rfl (lv_at hl 4 rfl) ?_
            refine r_put (C := RX8) (T := TX8) (N := 8) (ci := 6) (v := .int x2) S in_X10_speed_X8 tyX8_ok nmX8 G 6 rfl rfl 3 (by decide) lk_X10_speed_130 rfl (vp_nar_int _) rfl (Nat.le_of_ble_eq_true rfl) dX10_speed_70 (fun H locs G => ?_)
            obtain ⟨dv_24, G⟩ : ∃ dv_24 : Nat → Int32, wd X (va_A (@HAppend.hAppend va_W va_W va_W _ (xW h0 nw sp xa la lb) (@HAppend.hAppend va_W va_W va_W _ (rcV X nw an sv dv n0 n1 n2 n3 n4 g0 gs gn gm) ([((xa 5), .inl (X.2.1, 3, .inl fr))]))) sz) (va_A (@HAppend.hAppend va_W va_W va_W _ (xW h0 nw sp xa la lb) (@HAppend.hAppend va_W va_W va_W _ (rcV X nw an sv dv n0 n1 n2 n3 n4 g0 gs gn gm) ([((xa 5), .inl (X.2.1, 3, .inl fr))]))) sz) s (@HAppend.hAppend va_W va_W va_W _ (xW h0 nw sp xa la lb) (@HAppend.hAppend va_W va_W va_W _ ([((xa 5), .inl (X.2.1, 3, .inl fr))]) (rcV X nw an sv dv_24 n0 n1_23a n2 n3 n4 g0_23b gs gn gm))) H locs := ⟨upd dv 20 x2, G⟩
            refine lv_iload zx zb dX10_speed_73 (lv_at hl 0 rfl) ?_
            exact e_int S zr zlk (vp_nar_int _) G (dv_24, n1_23a, g0_23b, fr) [0, 2, 3, 4, 5, 6, 7, 8, 9, 10, 11, 12, 13, 14, 15, 16, 17, 1] rfl rfl (Or.inr rfl) (⟨hI_n1_23a, trivial⟩) dX10_speed_75
          · refine lv_aload_n zx zb dX10_speed_54 rfl (lv_at hl 2 rfl) ?_
            refine lv_bipush (v := (-3)) zx zb dX10_speed_55 (by decide) ?_
            refine b_wi (cells' := 0) (slots' := 0) (wr := rcV X nw an sv dv n0 n1 n2 n3 n4 g0 gs gn gm) G rfl rfl [0, 17] [1, 2, 3, 4, 5, 6, 7, 8, 9, 10, 11, 12, 13, 14, 15, 16] rfl rfl rfl rfl (n_V (As := [.int (-3)]) (rest := []) (C := RX10) (T := TX10) (N := 14) (ci := 8) S G (s_refuse l X h0 nw sp xa la lb fr (-3) H.size) gX10_speed_X10_refuse rfl rfl rfl hdV_X10_refuse ⟨Nat.le_of_ble_eq_true rfl, Nat.le_of_ble_eq_true rfl⟩ [0, 17] rfl rfl 0 rfl rfl rfl hl.1 (Nat.le_of_ble_eq_true rfl) dX10_speed_57 ⟨Nat.le_of_ble_eq_true rfl, Nat.le_of_ble_eq_true rfl⟩) (fun r_25 u_25 H locs hp_25 G => ?_)
            obtain ⟨f_25, rfl⟩ : ∃ z, z = u_25 := ⟨_, rfl⟩
            have hq_25 := hp_25
            have G : wd X (va_A (@HAppend.hAppend va_W va_W va_W _ (xW h0 nw sp xa la lb) (@HAppend.hAppend va_W va_W va_W _ (rcV X nw an sv dv n0 n1 n2 n3 n4 g0 gs gn gm) ([((xa 5), .inl (X.2.1, 3, .inl fr))]))) sz) (va_A (@HAppend.hAppend va_W va_W va_W _ (xW h0 nw sp xa la lb) (@HAppend.hAppend va_W va_W va_W _ (rcV X nw an sv dv n0 n1 n2 n3 n4 g0 gs gn gm) ([((xa 5), .inl (X.2.1, 3, .inl fr))]))) sz) s (@HAppend.hAppend va_W va_W va_W _ (rcV X nw an sv dv n0 n1 n2 n3 n4 g0 gs gn gm) (@HAppend.hAppend va_W va_W va_W _ (xW h0 nw sp xa la lb) ([((xa 5), .inl (X.2.1, 3, .inl f_25))]))) H locs := G
            exact e_int S zr zlk (vp_nar_int _) G (dv, n1, g0, f_25) [16, 0, 1, 2, 3, 4, 5, 6, 7, 8, 9, 10, 11, 12, 13, 14, 15, 17] rfl rfl (Or.inr rfl) (⟨hI_n1, trivial⟩) dX10_speed_60
      · refine k_it (v := 3) rfl ?_
        refine r_aald (C := RX8) (b := (an 4)) S G 2 3 rfl rfl (k_vp (by decide)) rfl dX10_speed_33 ?_
        refine lv_astore_n (lv' := [(3, .ref (an 4)), (0, .ref h0), (1, .int 3), (2, .int x2)]) zx zb dX10_speed_34 rfl hl (by decide) rfl (fun ls hl => ?_)
        refine lv_aload_n zx zb dX10_speed_35 rfl (lv_at hl 0 rfl) ?_
        refine r_get (C := RX8) (T := TX8) (N := 8) (ci := 6) (v := .int (dv 25)) S in_X10_speed_X8 G 6 rfl rfl 3 (by decide) lk_X10_speed_130 rfl dX10_speed_36 ?_
        refine lv_istore (lv' := [(4, .int (dv 25)), (3, .ref (an 4)), (0, .ref h0), (1, .int 3), (2, .int x2)]) zx zb dX10_speed_39 hl (by decide) rfl (fun ls hl => ?_)
        refine lv_iload zx zb dX10_speed_41 (lv_at hl 0 rfl) ?_
        refine lv_iload_n zx zb dX10_speed_43 rfl (lv_at hl 4 rfl) ?_
        refine lv_icmp_eq (tgt := 54) zx zb dX10_speed_44 (by decide) (fun c_26 => ?_) (fun c_26 => ?_)
        · refine lv_aload_n zx zb dX10_speed_54 rfl (lv_at hl 2 rfl) ?_
          refine lv_bipush (v := (-3)) zx zb dX10_speed_55 (by decide) ?_
          refine b_wi (cells' := 0) (slots' := 0) (wr := rcV X nw an sv dv n0 n1 n2 n3 n4 g0 gs gn gm) G rfl rfl [0, 17] [1, 2, 3, 4, 5, 6, 7, 8, 9, 10, 11, 12, 13, 14, 15, 16] rfl rfl rfl rfl (n_V (As := [.int (-3)]) (rest := []) (C := RX10) (T := TX10) (N := 14) (ci := 8) S G (s_refuse l X h0 nw sp xa la lb fr (-3) H.size) gX10_speed_X10_refuse rfl rfl rfl hdV_X10_refuse ⟨Nat.le_of_ble_eq_true rfl, Nat.le_of_ble_eq_true rfl⟩ [0, 17] rfl rfl 0 rfl rfl rfl hl.1 (Nat.le_of_ble_eq_true rfl) dX10_speed_57 ⟨Nat.le_of_ble_eq_true rfl, Nat.le_of_ble_eq_true rfl⟩) (fun r_27 u_27 H locs hp_27 G => ?_)
          obtain ⟨f_27, rfl⟩ : ∃ z, z = u_27 := ⟨_, rfl⟩
          have hq_27 := hp_27
          have G : wd X (va_A (@HAppend.hAppend va_W va_W va_W _ (xW h0 nw sp xa la lb) (@HAppend.hAppend va_W va_W va_W _ (rcV X nw an sv dv n0 n1 n2 n3 n4 g0 gs gn gm) ([((xa 5), .inl (X.2.1, 3, .inl fr))]))) sz) (va_A (@HAppend.hAppend va_W va_W va_W _ (xW h0 nw sp xa la lb) (@HAppend.hAppend va_W va_W va_W _ (rcV X nw an sv dv n0 n1 n2 n3 n4 g0 gs gn gm) ([((xa 5), .inl (X.2.1, 3, .inl fr))]))) sz) s (@HAppend.hAppend va_W va_W va_W _ (rcV X nw an sv dv n0 n1 n2 n3 n4 g0 gs gn gm) (@HAppend.hAppend va_W va_W va_W _ (xW h0 nw sp xa la lb) ([((xa 5), .inl (X.2.1, 3, .inl f_27))]))) H locs := G
          exact e_int S zr zlk (vp_nar_int _) G (dv, n1, g0, f_27) [16, 0, 1, 2, 3, 4, 5, 6, 7, 8, 9, 10, 11, 12, 13, 14, 15, 17] rfl rfl (Or.inr rfl) (⟨hI_n1, trivial⟩) dX10_speed_60
        · refine lv_aload_n zx zb dX10_speed_47 rfl (lv_at hl 1 rfl) ?_
          refine o_ri (cells' := 0) (slots' := 0) G rfl rfl (n_V (As := []) (rest := []) (C := RX8) (T := TX8) (N := 8) (ci := 6) S G (s_isHome l X (an 4) (fun k => sv (9 + k)) (fun k => dv (25 + k)) H.size) gX10_speed_X8_isHome rfl rfl rfl hdV_X8_isHome ⟨Nat.le_of_ble_eq_true rfl, Nat.le_of_ble_eq_true rfl⟩ [6] rfl rfl 6 rfl rfl rfl hl.1 (Nat.le_of_ble_eq_true rfl) dX10_speed_48 ⟨Nat.le_of_ble_eq_true rfl, Nat.le_of_ble_eq_true rfl⟩) (fun r_28 u_28 H locs hp_28 G => ?_)
          have G : wd X (va_A (@HAppend.hAppend va_W va_W va_W _ (xW h0 nw sp xa la lb) (@HAppend.hAppend va_W va_W va_W _ (rcV X nw an sv dv n0 n1 n2 n3 n4 g0 gs gn gm) ([((xa 5), .inl (X.2.1, 3, .inl fr))]))) sz) (va_A (@HAppend.hAppend va_W va_W va_W _ (xW h0 nw sp xa la lb) (@HAppend.hAppend va_W va_W va_W _ (rcV X nw an sv dv n0 n1 n2 n3 n4 g0 gs gn gm) ([((xa 5), .inl (X.2.1, 3, .inl fr))]))) sz) s (@HAppend.hAppend va_W va_W va_W _ (xW h0 nw sp xa la lb) (@HAppend.hAppend va_W va_W va_W _ (rcV X nw an sv dv n0 n1 n2 n3 n4 g0 gs gn gm) ([((xa 5), .inl (X.2.1, 3, .inl fr))]))) H locs := G
          refine lv_if_eq (tgt := 61) zx zb dX10_speed_51 (by decide) (fun c_29 => ?_) (fun c_29 => ?_)
          · refine lv_aload_n zx zb dX10_speed_61 rfl (lv_at hl 2 rfl) ?_
            refine r_get (C := RX10) (T := TX10) (N := 14) (ci := 8) (v := .ref nw) S in_X10_speed_X10 G 0 rfl rfl 0 (by decide) lk_X10_speed_10 rfl dX10_speed_62 ?_
            refine b_wv (cells' := 0) (slots' := 0) (wr := @HAppend.hAppend va_W va_W va_W _ (xW h0 nw sp xa la lb) ([((xa 5), .inl (X.2.1, 3, .inl fr))])) G rfl rfl [1, 2, 3, 4, 5, 6, 7, 8, 9, 10, 11, 12, 13, 14, 15, 16] [0, 17] rfl rfl rfl rfl (n_V (As := []) (rest := []) (C := RX5) (T := TX5) (N := 8) (ci := 3) S G (s_keep l X nw an sv dv n0 n1 n2 n3 n4 g0 gs gn gm hI_n0 hI_n1 hI_n2 hI_n3 hI_n4 H.size) gX10_speed_X5_keep rfl rfl rfl hdV_X5_keep ⟨Nat.le_of_ble_eq_true rfl, Nat.le_of_ble_eq_true rfl⟩ [1, 2, 3, 4, 5, 6, 7, 8, 9, 10, 11, 12, 13, 14, 15, 16] rfl rfl 1 rfl rfl rfl hl.1 (Nat.le_of_ble_eq_true rfl) dX10_speed_65 ⟨Nat.le_of_ble_eq_true rfl, Nat.le_of_ble_eq_true rfl⟩) (fun u_30 H locs hp_30 G => ?_)
            obtain ⟨n1_30a, g0_30b⟩ := u_30
            try dsimp only at hp_30
            obtain ⟨hI_n1_30a, hq_30⟩ := hp_30
            have G : wd X (va_A (@HAppend.hAppend va_W va_W va_W _ (xW h0 nw sp xa la lb) (@HAppend.hAppend va_W va_W va_W _ (rcV X nw an sv dv n0 n1 n2 n3 n4 g0 gs gn gm) ([((xa 5), .inl (X.2.1, 3, .inl fr))]))) sz) (va_A (@HAppend.hAppend va_W va_W va_W _ (xW h0 nw sp xa la lb) (@HAppend.hAppend va_W va_W va_W _ (rcV X nw an sv dv n0 n1 n2 n3 n4 g0 gs gn gm) ([((xa 5), .inl (X.2.1, 3, .inl fr))]))) sz) s (@HAppend.hAppend va_W va_W va_W _ (xW h0 nw sp xa la lb) (@HAppend.hAppend va_W va_W va_W _ ([((xa 5), .inl (X.2.1, 3, .inl fr))]) (rcV X nw an sv dv n0 n1_30a n2 n3 n4 g0_30b gs gn gm))) H locs := G
            refine lv_aload_n zx zb dX10_speed_68 rfl (lv_at hl 1 rfl) ?_
            refine lv_iload_n zx zb dX10_speed_69 rfl (lv_at hl 4 rfl) ?_
            refine r_put (C := RX8) (T := TX8) (N := 8) (ci := 6) (v := .int x2) S in_X10_speed_X8 tyX8_ok nmX8 G 7 rfl rfl 3 (by decide) lk_X10_speed_130 rfl (vp_nar_int _) rfl (Nat.le_of_ble_eq_true rfl) dX10_speed_70 (fun H locs G => ?_)
            obtain ⟨dv_31, G⟩ : ∃ dv_31 : Nat → Int32, wd X (va_A (@HAppend.hAppend va_W va_W va_W _ (xW h0 nw sp xa la lb) (@HAppend.hAppend va_W va_W va_W _ (rcV X nw an sv dv n0 n1 n2 n3 n4 g0 gs gn gm) ([((xa 5), .inl (X.2.1, 3, .inl fr))]))) sz) (va_A (@HAppend.hAppend va_W va_W va_W _ (xW h0 nw sp xa la lb) (@HAppend.hAppend va_W va_W va_W _ (rcV X nw an sv dv n0 n1 n2 n3 n4 g0 gs gn gm) ([((xa 5), .inl (X.2.1, 3, .inl fr))]))) sz) s (@HAppend.hAppend va_W va_W va_W _ (xW h0 nw sp xa la lb) (@HAppend.hAppend va_W va_W va_W _ ([((xa 5), .inl (X.2.1, 3, .inl fr))]) (rcV X nw an sv dv_31 n0 n1_30a n2 n3 n4 g0_30b gs gn gm))) H locs := ⟨upd dv 25 x2, G⟩
            refine lv_iload zx zb dX10_speed_73 (lv_at hl 0 rfl) ?_
            exact e_int S zr zlk (vp_nar_int _) G (dv_31, n1_30a, g0_30b, fr) [0, 2, 3, 4, 5, 6, 7, 8, 9, 10, 11, 12, 13, 14, 15, 16, 17, 1] rfl rfl (Or.inr rfl) (⟨hI_n1_30a, trivial⟩) dX10_speed_75
          · refine lv_aload_n zx zb dX10_speed_54 rfl (lv_at hl 2 rfl) ?_
            refine lv_bipush (v := (-3)) zx zb dX10_speed_55 (by decide) ?_
            refine b_wi (cells' := 0) (slots' := 0) (wr := rcV X nw an sv dv n0 n1 n2 n3 n4 g0 gs gn gm) G rfl rfl [0, 17] [1, 2, 3, 4, 5, 6, 7, 8, 9, 10, 11, 12, 13, 14, 15, 16] rfl rfl rfl rfl (n_V (As := [.int (-3)]) (rest := []) (C := RX10) (T := TX10) (N := 14) (ci := 8) S G (s_refuse l X h0 nw sp xa la lb fr (-3) H.size) gX10_speed_X10_refuse rfl rfl rfl hdV_X10_refuse ⟨Nat.le_of_ble_eq_true rfl, Nat.le_of_ble_eq_true rfl⟩ [0, 17] rfl rfl 0 rfl rfl rfl hl.1 (Nat.le_of_ble_eq_true rfl) dX10_speed_57 ⟨Nat.le_of_ble_eq_true rfl, Nat.le_of_ble_eq_true rfl⟩) (fun r_32 u_32 H locs hp_32 G => ?_)
            obtain ⟨f_32, rfl⟩ : ∃ z, z = u_32 := ⟨_, rfl⟩
            have hq_32 := hp_32
            have G : wd X (va_A (@HAppend.hAppend va_W va_W va_W _ (xW h0 nw sp xa la lb) (@HAppend.hAppend va_W va_W va_W _ (rcV X nw an sv dv n0 n1 n2 n3 n4 g0 gs gn gm) ([((xa 5), .inl (X.2.1, 3, .inl fr))]))) sz) (va_A (@HAppend.hAppend va_W va_W va_W _ (xW h0 nw sp xa la lb) (@HAppend.hAppend va_W va_W va_W _ (rcV X nw an sv dv n0 n1 n2 n3 n4 g0 gs gn gm) ([((xa 5), .inl (X.2.1, 3, .inl fr))]))) sz) s (@HAppend.hAppend va_W va_W va_W _ (rcV X nw an sv dv n0 n1 n2 n3 n4 g0 gs gn gm) (@HAppend.hAppend va_W va_W va_W _ (xW h0 nw sp xa la lb) ([((xa 5), .inl (X.2.1, 3, .inl f_32))]))) H locs := G
            exact e_int S zr zlk (vp_nar_int _) G (dv, n1, g0, f_32) [16, 0, 1, 2, 3, 4, 5, 6, 7, 8, 9, 10, 11, 12, 13, 14, 15, 17] rfl rfl (Or.inr rfl) (⟨hI_n1, trivial⟩) dX10_speed_60
      · refine k_it (v := 4) rfl ?_
        refine r_aald (C := RX8) (b := (an 5)) S G 2 3 rfl rfl (k_vp (by decide)) rfl dX10_speed_33 ?_
        refine lv_astore_n (lv' := [(3, .ref (an 5)), (0, .ref h0), (1, .int 4), (2, .int x2)]) zx zb dX10_speed_34 rfl hl (by decide) rfl (fun ls hl => ?_)
        refine lv_aload_n zx zb dX10_speed_35 rfl (lv_at hl 0 rfl) ?_
        refine r_get (C := RX8) (T := TX8) (N := 8) (ci := 6) (v := .int (dv 30)) S in_X10_speed_X8 G 7 rfl rfl 3 (by decide) lk_X10_speed_130 rfl dX10_speed_36 ?_
        refine lv_istore (lv' := [(4, .int (dv 30)), (3, .ref (an 5)), (0, .ref h0), (1, .int 4), (2, .int x2)]) zx zb dX10_speed_39 hl (by decide) rfl (fun ls hl => ?_)
        refine lv_iload zx zb dX10_speed_41 (lv_at hl 0 rfl) ?_
        refine lv_iload_n zx zb dX10_speed_43 rfl (lv_at hl 4 rfl) ?_
        refine lv_icmp_eq (tgt := 54) zx zb dX10_speed_44 (by decide) (fun c_33 => ?_) (fun c_33 => ?_)
        · refine lv_aload_n zx zb dX10_speed_54 rfl (lv_at hl 2 rfl) ?_
          refine lv_bipush (v := (-3)) zx zb dX10_speed_55 (by decide) ?_
          refine b_wi (cells' := 0) (slots' := 0) (wr := rcV X nw an sv dv n0 n1 n2 n3 n4 g0 gs gn gm) G rfl rfl [0, 17] [1, 2, 3, 4, 5, 6, 7, 8, 9, 10, 11, 12, 13, 14, 15, 16] rfl rfl rfl rfl (n_V (As := [.int (-3)]) (rest := []) (C := RX10) (T := TX10) (N := 14) (ci := 8) S G (s_refuse l X h0 nw sp xa la lb fr (-3) H.size) gX10_speed_X10_refuse rfl rfl rfl hdV_X10_refuse ⟨Nat.le_of_ble_eq_true rfl, Nat.le_of_ble_eq_true rfl⟩ [0, 17] rfl rfl 0 rfl rfl rfl hl.1 (Nat.le_of_ble_eq_true rfl) dX10_speed_57 ⟨Nat.le_of_ble_eq_true rfl, Nat.le_of_ble_eq_true rfl⟩) (fun r_34 u_34 H locs hp_34 G => ?_)
          obtain ⟨f_34, rfl⟩ : ∃ z, z = u_34 := ⟨_, rfl⟩
          have hq_34 := hp_34
          have G : wd X (va_A (@HAppend.hAppend va_W va_W va_W _ (xW h0 nw sp xa la lb) (@HAppend.hAppend va_W va_W va_W _ (rcV X nw an sv dv n0 n1 n2 n3 n4 g0 gs gn gm) ([((xa 5), .inl (X.2.1, 3, .inl fr))]))) sz) (va_A (@HAppend.hAppend va_W va_W va_W _ (xW h0 nw sp xa la lb) (@HAppend.hAppend va_W va_W va_W _ (rcV X nw an sv dv n0 n1 n2 n3 n4 g0 gs gn gm) ([((xa 5), .inl (X.2.1, 3, .inl fr))]))) sz) s (@HAppend.hAppend va_W va_W va_W _ (rcV X nw an sv dv n0 n1 n2 n3 n4 g0 gs gn gm) (@HAppend.hAppend va_W va_W va_W _ (xW h0 nw sp xa la lb) ([((xa 5), .inl (X.2.1, 3, .inl f_34))]))) H locs := G
          exact e_int S zr zlk (vp_nar_int _) G (dv, n1, g0, f_34) [16, 0, 1, 2, 3, 4, 5, 6, 7, 8, 9, 10, 11, 12, 13, 14, 15, 17] rfl rfl (Or.inr rfl) (⟨hI_n1, trivial⟩) dX10_speed_60
        · refine lv_aload_n zx zb dX10_speed_47 rfl (lv_at hl 1 rfl) ?_
          refine o_ri (cells' := 0) (slots' := 0) G rfl rfl (n_V (As := []) (rest := []) (C := RX8) (T := TX8) (N := 8) (ci := 6) S G (s_isHome l X (an 5) (fun k => sv (12 + k)) (fun k => dv (30 + k)) H.size) gX10_speed_X8_isHome rfl rfl rfl hdV_X8_isHome ⟨Nat.le_of_ble_eq_true rfl, Nat.le_of_ble_eq_true rfl⟩ [7] rfl rfl 7 rfl rfl rfl hl.1 (Nat.le_of_ble_eq_true rfl) dX10_speed_48 ⟨Nat.le_of_ble_eq_true rfl, Nat.le_of_ble_eq_true rfl⟩) (fun r_35 u_35 H locs hp_35 G => ?_)
          have G : wd X (va_A (@HAppend.hAppend va_W va_W va_W _ (xW h0 nw sp xa la lb) (@HAppend.hAppend va_W va_W va_W _ (rcV X nw an sv dv n0 n1 n2 n3 n4 g0 gs gn gm) ([((xa 5), .inl (X.2.1, 3, .inl fr))]))) sz) (va_A (@HAppend.hAppend va_W va_W va_W _ (xW h0 nw sp xa la lb) (@HAppend.hAppend va_W va_W va_W _ (rcV X nw an sv dv n0 n1 n2 n3 n4 g0 gs gn gm) ([((xa 5), .inl (X.2.1, 3, .inl fr))]))) sz) s (@HAppend.hAppend va_W va_W va_W _ (xW h0 nw sp xa la lb) (@HAppend.hAppend va_W va_W va_W _ (rcV X nw an sv dv n0 n1 n2 n3 n4 g0 gs gn gm) ([((xa 5), .inl (X.2.1, 3, .inl fr))]))) H locs := G
          refine lv_if_eq (tgt := 61) zx zb dX10_speed_51 (by decide) (fun c_36 => ?_) (fun c_36 => ?_)
          · refine lv_aload_n zx zb dX10_speed_61 rfl (lv_at hl 2 rfl) ?_
            refine r_get (C := RX10) (T := TX10) (N := 14) (ci := 8) (v := .ref nw) S in_X10_speed_X10 G 0 rfl rfl 0 (by decide) lk_X10_speed_10 rfl dX10_speed_62 ?_
            refine b_wv (cells' := 0) (slots' := 0) (wr := @HAppend.hAppend va_W va_W va_W _ (xW h0 nw sp xa la lb) ([((xa 5), .inl (X.2.1, 3, .inl fr))])) G rfl rfl [1, 2, 3, 4, 5, 6, 7, 8, 9, 10, 11, 12, 13, 14, 15, 16] [0, 17] rfl rfl rfl rfl (n_V (As := []) (rest := []) (C := RX5) (T := TX5) (N := 8) (ci := 3) S G (s_keep l X nw an sv dv n0 n1 n2 n3 n4 g0 gs gn gm hI_n0 hI_n1 hI_n2 hI_n3 hI_n4 H.size) gX10_speed_X5_keep rfl rfl rfl hdV_X5_keep ⟨Nat.le_of_ble_eq_true rfl, Nat.le_of_ble_eq_true rfl⟩ [1, 2, 3, 4, 5, 6, 7, 8, 9, 10, 11, 12, 13, 14, 15, 16] rfl rfl 1 rfl rfl rfl hl.1 (Nat.le_of_ble_eq_true rfl) dX10_speed_65 ⟨Nat.le_of_ble_eq_true rfl, Nat.le_of_ble_eq_true rfl⟩) (fun u_37 H locs hp_37 G => ?_)
            obtain ⟨n1_37a, g0_37b⟩ := u_37
            try dsimp only at hp_37
            obtain ⟨hI_n1_37a, hq_37⟩ := hp_37
            have G : wd X (va_A (@HAppend.hAppend va_W va_W va_W _ (xW h0 nw sp xa la lb) (@HAppend.hAppend va_W va_W va_W _ (rcV X nw an sv dv n0 n1 n2 n3 n4 g0 gs gn gm) ([((xa 5), .inl (X.2.1, 3, .inl fr))]))) sz) (va_A (@HAppend.hAppend va_W va_W va_W _ (xW h0 nw sp xa la lb) (@HAppend.hAppend va_W va_W va_W _ (rcV X nw an sv dv n0 n1 n2 n3 n4 g0 gs gn gm) ([((xa 5), .inl (X.2.1, 3, .inl fr))]))) sz) s (@HAppend.hAppend va_W va_W va_W _ (xW h0 nw sp xa la lb) (@HAppend.hAppend va_W va_W va_W _ ([((xa 5), .inl (X.2.1, 3, .inl fr))]) (rcV X nw an sv dv n0 n1_37a n2 n3 n4 g0_37b gs gn gm))) H locs := G
            refine lv_aload_n zx zb dX10_speed_68 rfl (lv_at hl 1 rfl) ?_
            refine lv_iload_n zx zb dX10_speed_69 rfl (lv_at hl 4 rfl) ?_
            refine r_put (C := RX8) (T := TX8) (N := 8) (ci := 6) (v := .int x2) S in_X10_speed_X8 tyX8_ok nmX8 G 8 rfl rfl 3 (by decide) lk_X10_speed_130 rfl (vp_nar_int _) rfl (Nat.le_of_ble_eq_true rfl) dX10_speed_70 (fun H locs G => ?_)
            obtain ⟨dv_38, G⟩ : ∃ dv_38 : Nat → Int32, wd X (va_A (@HAppend.hAppend va_W va_W va_W _ (xW h0 nw sp xa la lb) (@HAppend.hAppend va_W va_W va_W _ (rcV X nw an sv dv n0 n1 n2 n3 n4 g0 gs gn gm) ([((xa 5), .inl (X.2.1, 3, .inl fr))]))) sz) (va_A (@HAppend.hAppend va_W va_W va_W _ (xW h0 nw sp xa la lb) (@HAppend.hAppend va_W va_W va_W _ (rcV X nw an sv dv n0 n1 n2 n3 n4 g0 gs gn gm) ([((xa 5), .inl (X.2.1, 3, .inl fr))]))) sz) s (@HAppend.hAppend va_W va_W va_W _ (xW h0 nw sp xa la lb) (@HAppend.hAppend va_W va_W va_W _ ([((xa 5), .inl (X.2.1, 3, .inl fr))]) (rcV X nw an sv dv_38 n0 n1_37a n2 n3 n4 g0_37b gs gn gm))) H locs := ⟨upd dv 30 x2, G⟩
            refine lv_iload zx zb dX10_speed_73 (lv_at hl 0 rfl) ?_
            exact e_int S zr zlk (vp_nar_int _) G (dv_38, n1_37a, g0_37b, fr) [0, 2, 3, 4, 5, 6, 7, 8, 9, 10, 11, 12, 13, 14, 15, 16, 17, 1] rfl rfl (Or.inr rfl) (⟨hI_n1_37a, trivial⟩) dX10_speed_75
          · refine lv_aload_n zx zb dX10_speed_54 rfl (lv_at hl 2 rfl) ?_
            refine lv_bipush (v := (-3)) zx zb dX10_speed_55 (by decide) ?_
            refine b_wi (cells' := 0) (slots' := 0) (wr := rcV X nw an sv dv n0 n1 n2 n3 n4 g0 gs gn gm) G rfl rfl [0, 17] [1, 2, 3, 4, 5, 6, 7, 8, 9, 10, 11, 12, 13, 14, 15, 16] rfl rfl rfl rfl (n_V (As := [.int (-3)]) (rest := []) (C := RX10) (T := TX10) (N := 14) (ci := 8) S G (s_refuse l X h0 nw sp xa la lb fr (-3) H.size) gX10_speed_X10_refuse rfl rfl rfl hdV_X10_refuse ⟨Nat.le_of_ble_eq_true rfl, Nat.le_of_ble_eq_true rfl⟩ [0, 17] rfl rfl 0 rfl rfl rfl hl.1 (Nat.le_of_ble_eq_true rfl) dX10_speed_57 ⟨Nat.le_of_ble_eq_true rfl, Nat.le_of_ble_eq_true rfl⟩) (fun r_39 u_39 H locs hp_39 G => ?_)
            obtain ⟨f_39, rfl⟩ : ∃ z, z = u_39 := ⟨_, rfl⟩
            have hq_39 := hp_39
            have G : wd X (va_A (@HAppend.hAppend va_W va_W va_W _ (xW h0 nw sp xa la lb) (@HAppend.hAppend va_W va_W va_W _ (rcV X nw an sv dv n0 n1 n2 n3 n4 g0 gs gn gm) ([((xa 5), .inl (X.2.1, 3, .inl fr))]))) sz) (va_A (@HAppend.hAppend va_W va_W va_W _ (xW h0 nw sp xa la lb) (@HAppend.hAppend va_W va_W va_W _ (rcV X nw an sv dv n0 n1 n2 n3 n4 g0 gs gn gm) ([((xa 5), .inl (X.2.1, 3, .inl fr))]))) sz) s (@HAppend.hAppend va_W va_W va_W _ (rcV X nw an sv dv n0 n1 n2 n3 n4 g0 gs gn gm) (@HAppend.hAppend va_W va_W va_W _ (xW h0 nw sp xa la lb) ([((xa 5), .inl (X.2.1, 3, .inl f_39))]))) H locs := G
            exact e_int S zr zlk (vp_nar_int _) G (dv, n1, g0, f_39) [16, 0, 1, 2, 3, 4, 5, 6, 7, 8, 9, 10, 11, 12, 13, 14, 15, 17] rfl rfl (Or.inr rfl) (⟨hI_n1, trivial⟩) dX10_speed_60
      · refine k_it (v := 5) rfl ?_
        refine r_aald (C := RX8) (b := (an 6)) S G 2 3 rfl rfl (k_vp (by decide)) rfl dX10_speed_33 ?_
        refine lv_astore_n (lv' := [(3, .ref (an 6)), (0, .ref h0), (1, .int 5), (2, .int x2)]) zx zb dX10_speed_34 rfl hl (by decide) rfl (fun ls hl => ?_)
        refine lv_aload_n zx zb dX10_speed_35 rfl (lv_at hl 0 rfl) ?_
        refine r_get (C := RX8) (T := TX8) (N := 8) (ci := 6) (v := .int (dv 35)) S in_X10_speed_X8 G 8 rfl rfl 3 (by decide) lk_X10_speed_130 rfl dX10_speed_36 ?_
        refine lv_istore (lv' := [(4, .int (dv 35)), (3, .ref (an 6)), (0, .ref h0), (1, .int 5), (2, .int x2)]) zx zb dX10_speed_39 hl (by decide) rfl (fun ls hl => ?_)
        refine lv_iload zx zb dX10_speed_41 (lv_at hl 0 rfl) ?_
        refine lv_iload_n zx zb dX10_speed_43 rfl (lv_at hl 4 rfl) ?_
        refine lv_icmp_eq (tgt := 54) zx zb dX10_speed_44 (by decide) (fun c_40 => ?_) (fun c_40 => ?_)
        · refine lv_aload_n zx zb dX10_speed_54 rfl (lv_at hl 2 rfl) ?_
          refine lv_bipush (v := (-3)) zx zb dX10_speed_55 (by decide) ?_
          refine b_wi (cells' := 0) (slots' := 0) (wr := rcV X nw an sv dv n0 n1 n2 n3 n4 g0 gs gn gm) G rfl rfl [0, 17] [1, 2, 3, 4, 5, 6, 7, 8, 9, 10, 11, 12, 13, 14, 15, 16] rfl rfl rfl rfl (n_V (As := [.int (-3)]) (rest := []) (C := RX10) (T := TX10) (N := 14) (ci := 8) S G (s_refuse l X h0 nw sp xa la lb fr (-3) H.size) gX10_speed_X10_refuse rfl rfl rfl hdV_X10_refuse ⟨Nat.le_of_ble_eq_true rfl, Nat.le_of_ble_eq_true rfl⟩ [0, 17] rfl rfl 0 rfl rfl rfl hl.1 (Nat.le_of_ble_eq_true rfl) dX10_speed_57 ⟨Nat.le_of_ble_eq_true rfl, Nat.le_of_ble_eq_true rfl⟩) (fun r_41 u_41 H locs hp_41 G => ?_)
          obtain ⟨f_41, rfl⟩ : ∃ z, z = u_41 := ⟨_, rfl⟩
          have hq_41 := hp_41
          have G : wd X (va_A (@HAppend.hAppend va_W va_W va_W _ (xW h0 nw sp xa la lb) (@HAppend.hAppend va_W va_W va_W _ (rcV X nw an sv dv n0 n1 n2 n3 n4 g0 gs gn gm) ([((xa 5), .inl (X.2.1, 3, .inl fr))]))) sz) (va_A (@HAppend.hAppend va_W va_W va_W _ (xW h0 nw sp xa la lb) (@HAppend.hAppend va_W va_W va_W _ (rcV X nw an sv dv n0 n1 n2 n3 n4 g0 gs gn gm) ([((xa 5), .inl (X.2.1, 3, .inl fr))]))) sz) s (@HAppend.hAppend va_W va_W va_W _ (rcV X nw an sv dv n0 n1 n2 n3 n4 g0 gs gn gm) (@HAppend.hAppend va_W va_W va_W _ (xW h0 nw sp xa la lb) ([((xa 5), .inl (X.2.1, 3, .inl f_41))]))) H locs := G
          exact e_int S zr zlk (vp_nar_int _) G (dv, n1, g0, f_41) [16, 0, 1, 2, 3, 4, 5, 6, 7, 8, 9, 10, 11, 12, 13, 14, 15, 17] rfl rfl (Or.inr rfl) (⟨hI_n1, trivial⟩) dX10_speed_60
        · refine lv_aload_n zx zb dX10_speed_47 rfl (lv_at hl 1 rfl) ?_
          refine o_ri (cells' := 0) (slots' := 0) G rfl rfl (n_V (As := []) (rest := []) (C := RX8) (T := TX8) (N := 8) (ci := 6) S G (s_isHome l X (an 6) (fun k => sv (15 + k)) (fun k => dv (35 + k)) H.size) gX10_speed_X8_isHome rfl rfl rfl hdV_X8_isHome ⟨Nat.le_of_ble_eq_true rfl, Nat.le_of_ble_eq_true rfl⟩ [8] rfl rfl 8 rfl rfl rfl hl.1 (Nat.le_of_ble_eq_true rfl) dX10_speed_48 ⟨Nat.le_of_ble_eq_true rfl, Nat.le_of_ble_eq_true rfl⟩) (fun r_42 u_42 H locs hp_42 G => ?_)
          have G : wd X (va_A (@HAppend.hAppend va_W va_W va_W _ (xW h0 nw sp xa la lb) (@HAppend.hAppend va_W va_W va_W _ (rcV X nw an sv dv n0 n1 n2 n3 n4 g0 gs gn gm) ([((xa 5), .inl (X.2.1, 3, .inl fr))]))) sz) (va_A (@HAppend.hAppend va_W va_W va_W _ (xW h0 nw sp xa la lb) (@HAppend.hAppend va_W va_W va_W _ (rcV X nw an sv dv n0 n1 n2 n3 n4 g0 gs gn gm) ([((xa 5), .inl (X.2.1, 3, .inl fr))]))) sz) s (@HAppend.hAppend va_W va_W va_W _ (xW h0 nw sp xa la lb) (@HAppend.hAppend va_W va_W va_W _ (rcV X nw an sv dv n0 n1 n2 n3 n4 g0 gs gn gm) ([((xa 5), .inl (X.2.1, 3, .inl fr))]))) H locs := G
          refine lv_if_eq (tgt := 61) zx zb dX10_speed_51 (by decide) (fun c_43 => ?_) (fun c_43 => ?_)
          · refine lv_aload_n zx zb dX10_speed_61 rfl (lv_at hl 2 rfl) ?_
            refine r_get (C := RX10) (T := TX10) (N := 14) (ci := 8) (v := .ref nw) S in_X10_speed_X10 G 0 rfl rfl 0 (by decide) lk_X10_speed_10 rfl dX10_speed_62 ?_
            refine b_wv (cells' := 0) (slots' := 0) (wr := @HAppend.hAppend va_W va_W va_W _ (xW h0 nw sp xa la lb) ([((xa 5), .inl (X.2.1, 3, .inl fr))])) G rfl rfl [1, 2, 3, 4, 5, 6, 7, 8, 9, 10, 11, 12, 13, 14, 15, 16] [0, 17] rfl rfl rfl rfl (n_V (As := []) (rest := []) (C := RX5) (T := TX5) (N := 8) (ci := 3) S G (s_keep l X nw an sv dv n0 n1 n2 n3 n4 g0 gs gn gm hI_n0 hI_n1 hI_n2 hI_n3 hI_n4 H.size) gX10_speed_X5_keep rfl rfl rfl hdV_X5_keep ⟨Nat.le_of_ble_eq_true rfl, Nat.le_of_ble_eq_true rfl⟩ [1, 2, 3, 4, 5, 6, 7, 8, 9, 10, 11, 12, 13, 14, 15, 16] rfl rfl 1 rfl rfl rfl hl.1 (Nat.le_of_ble_eq_true rfl) dX10_speed_65 ⟨Nat.le_of_ble_eq_true rfl, Nat.le_of_ble_eq_true rfl⟩) (fun u_44 H locs hp_44 G => ?_)
            obtain ⟨n1_44a, g0_44b⟩ := u_44
            try dsimp only at hp_44
            obtain ⟨hI_n1_44a, hq_44⟩ := hp_44
            have G : wd X (va_A (@HAppend.hAppend va_W va_W va_W _ (xW h0 nw sp xa la lb) (@HAppend.hAppend va_W va_W va_W _ (rcV X nw an sv dv n0 n1 n2 n3 n4 g0 gs gn gm) ([((xa 5), .inl (X.2.1, 3, .inl fr))]))) sz) (va_A (@HAppend.hAppend va_W va_W va_W _ (xW h0 nw sp xa la lb) (@HAppend.hAppend va_W va_W va_W _ (rcV X nw an sv dv n0 n1 n2 n3 n4 g0 gs gn gm) ([((xa 5), .inl (X.2.1, 3, .inl fr))]))) sz) s (@HAppend.hAppend va_W va_W va_W _ (xW h0 nw sp xa la lb) (@HAppend.hAppend va_W va_W va_W _ ([((xa 5), .inl (X.2.1, 3, .inl fr))]) (rcV X nw an sv dv n0 n1_44a n2 n3 n4 g0_44b gs gn gm))) H locs := G
            refine lv_aload_n zx zb dX10_speed_68 rfl (lv_at hl 1 rfl) ?_
            refine lv_iload_n zx zb dX10_speed_69 rfl (lv_at hl 4 rfl) ?_
            refine r_put (C := RX8) (T := TX8) (N := 8) (ci := 6) (v := .int x2) S in_X10_speed_X8 tyX8_ok nmX8 G 9 rfl rfl 3 (by decide) lk_X10_speed_130 rfl (vp_nar_int _) rfl (Nat.le_of_ble_eq_true rfl) dX10_speed_70 (fun H locs G => ?_)
            obtain ⟨dv_45, G⟩ : ∃ dv_45 : Nat → Int32, wd X (va_A (@HAppend.hAppend va_W va_W va_W _ (xW h0 nw sp xa la lb) (@HAppend.hAppend va_W va_W va_W _ (rcV X nw an sv dv n0 n1 n2 n3 n4 g0 gs gn gm) ([((xa 5), .inl (X.2.1, 3, .inl fr))]))) sz) (va_A (@HAppend.hAppend va_W va_W va_W _ (xW h0 nw sp xa la lb) (@HAppend.hAppend va_W va_W va_W _ (rcV X nw an sv dv n0 n1 n2 n3 n4 g0 gs gn gm) ([((xa 5), .inl (X.2.1, 3, .inl fr))]))) sz) s (@HAppend.hAppend va_W va_W va_W _ (xW h0 nw sp xa la lb) (@HAppend.hAppend va_W va_W va_W _ ([((xa 5), .inl (X.2.1, 3, .inl fr))]) (rcV X nw an sv dv_45 n0 n1_44a n2 n3 n4 g0_44b gs gn gm))) H locs := ⟨upd dv 35 x2, G⟩
            refine lv_iload zx zb dX10_speed_73 (lv_at hl 0 rfl) ?_
            exact e_int S zr zlk (vp_nar_int _) G (dv_45, n1_44a, g0_44b, fr) [0, 2, 3, 4, 5, 6, 7, 8, 9, 10, 11, 12, 13, 14, 15, 16, 17, 1] rfl rfl (Or.inr rfl) (⟨hI_n1_44a, trivial⟩) dX10_speed_75
          · refine lv_aload_n zx zb dX10_speed_54 rfl (lv_at hl 2 rfl) ?_
            refine lv_bipush (v := (-3)) zx zb dX10_speed_55 (by decide) ?_
            refine b_wi (cells' := 0) (slots' := 0) (wr := rcV X nw an sv dv n0 n1 n2 n3 n4 g0 gs gn gm) G rfl rfl [0, 17] [1, 2, 3, 4, 5, 6, 7, 8, 9, 10, 11, 12, 13, 14, 15, 16] rfl rfl rfl rfl (n_V (As := [.int (-3)]) (rest := []) (C := RX10) (T := TX10) (N := 14) (ci := 8) S G (s_refuse l X h0 nw sp xa la lb fr (-3) H.size) gX10_speed_X10_refuse rfl rfl rfl hdV_X10_refuse ⟨Nat.le_of_ble_eq_true rfl, Nat.le_of_ble_eq_true rfl⟩ [0, 17] rfl rfl 0 rfl rfl rfl hl.1 (Nat.le_of_ble_eq_true rfl) dX10_speed_57 ⟨Nat.le_of_ble_eq_true rfl, Nat.le_of_ble_eq_true rfl⟩) (fun r_46 u_46 H locs hp_46 G => ?_)
            obtain ⟨f_46, rfl⟩ : ∃ z, z = u_46 := ⟨_, rfl⟩
            have hq_46 := hp_46
            have G : wd X (va_A (@HAppend.hAppend va_W va_W va_W _ (xW h0 nw sp xa la lb) (@HAppend.hAppend va_W va_W va_W _ (rcV X nw an sv dv n0 n1 n2 n3 n4 g0 gs gn gm) ([((xa 5), .inl (X.2.1, 3, .inl fr))]))) sz) (va_A (@HAppend.hAppend va_W va_W va_W _ (xW h0 nw sp xa la lb) (@HAppend.hAppend va_W va_W va_W _ (rcV X nw an sv dv n0 n1 n2 n3 n4 g0 gs gn gm) ([((xa 5), .inl (X.2.1, 3, .inl fr))]))) sz) s (@HAppend.hAppend va_W va_W va_W _ (rcV X nw an sv dv n0 n1 n2 n3 n4 g0 gs gn gm) (@HAppend.hAppend va_W va_W va_W _ (xW h0 nw sp xa la lb) ([((xa 5), .inl (X.2.1, 3, .inl f_46))]))) H locs := G
            exact e_int S zr zlk (vp_nar_int _) G (dv, n1, g0, f_46) [16, 0, 1, 2, 3, 4, 5, 6, 7, 8, 9, 10, 11, 12, 13, 14, 15, 17] rfl rfl (Or.inr rfl) (⟨hI_n1, trivial⟩) dX10_speed_60
    · refine lv_if_ne (tgt := 25) zx zb dX10_speed_15 (by decide) (fun c_47 => absurd (by decide) c_47) (fun c_47 => ?_)
      refine lv_aload_n zx zb dX10_speed_18 rfl (lv_at hl 0 rfl) ?_
      refine lv_bipush (v := (-2)) zx zb dX10_speed_19 (by decide) ?_
      refine b_wi (cells' := 0) (slots' := 0) (wr := rcV X nw an sv dv n0 n1 n2 n3 n4 g0 gs gn gm) G rfl rfl [0, 17] [1, 2, 3, 4, 5, 6, 7, 8, 9, 10, 11, 12, 13, 14, 15, 16] rfl rfl rfl rfl (n_V (As := [.int (-2)]) (rest := []) (C := RX10) (T := TX10) (N := 14) (ci := 8) S G (s_refuse l X h0 nw sp xa la lb fr (-2) H.size) gX10_speed_X10_refuse rfl rfl rfl hdV_X10_refuse ⟨Nat.le_of_ble_eq_true rfl, Nat.le_of_ble_eq_true rfl⟩ [0, 17] rfl rfl 0 rfl rfl rfl hl.1 (Nat.le_of_ble_eq_true rfl) dX10_speed_21 ⟨Nat.le_of_ble_eq_true rfl, Nat.le_of_ble_eq_true rfl⟩) (fun r_48 u_48 H locs hp_48 G => ?_)
      obtain ⟨f_48, rfl⟩ : ∃ z, z = u_48 := ⟨_, rfl⟩
      have hq_48 := hp_48
      have G : wd X (va_A (@HAppend.hAppend va_W va_W va_W _ (xW h0 nw sp xa la lb) (@HAppend.hAppend va_W va_W va_W _ (rcV X nw an sv dv n0 n1 n2 n3 n4 g0 gs gn gm) ([((xa 5), .inl (X.2.1, 3, .inl fr))]))) sz) (va_A (@HAppend.hAppend va_W va_W va_W _ (xW h0 nw sp xa la lb) (@HAppend.hAppend va_W va_W va_W _ (rcV X nw an sv dv n0 n1 n2 n3 n4 g0 gs gn gm) ([((xa 5), .inl (X.2.1, 3, .inl fr))]))) sz) s (@HAppend.hAppend va_W va_W va_W _ (rcV X nw an sv dv n0 n1 n2 n3 n4 g0 gs gn gm) (@HAppend.hAppend va_W va_W va_W _ (xW h0 nw sp xa la lb) ([((xa 5), .inl (X.2.1, 3, .inl f_48))]))) H locs := G
      exact e_int S zr zlk (vp_nar_int _) G (dv, n1, g0, f_48) [16, 0, 1, 2, 3, 4, 5, 6, 7, 8, 9, 10, 11, 12, 13, 14, 15, 17] rfl rfl (Or.inr rfl) (⟨hI_n1, trivial⟩) dX10_speed_24
  · refine lv_if_eq (tgt := 18) zx zb dX10_speed_5 (by decide) (fun c_49 => ?_) (fun c_49 => absurd (by decide) c_49)
    refine lv_aload_n zx zb dX10_speed_18 rfl (lv_at hl 0 rfl) ?_
    refine lv_bipush (v := (-2)) zx zb dX10_speed_19 (by decide) ?_
    refine b_wi (cells' := 0) (slots' := 0) (wr := rcV X nw an sv dv n0 n1 n2 n3 n4 g0 gs gn gm) G rfl rfl [0, 17] [1, 2, 3, 4, 5, 6, 7, 8, 9, 10, 11, 12, 13, 14, 15, 16] rfl rfl rfl rfl (n_V (As := [.int (-2)]) (rest := []) (C := RX10) (T := TX10) (N := 14) (ci := 8) S G (s_refuse l X h0 nw sp xa la lb fr (-2) H.size) gX10_speed_X10_refuse rfl rfl rfl hdV_X10_refuse ⟨Nat.le_of_ble_eq_true rfl, Nat.le_of_ble_eq_true rfl⟩ [0, 17] rfl rfl 0 rfl rfl rfl hl.1 (Nat.le_of_ble_eq_true rfl) dX10_speed_21 ⟨Nat.le_of_ble_eq_true rfl, Nat.le_of_ble_eq_true rfl⟩) (fun r_50 u_50 H locs hp_50 G => ?_)
    obtain ⟨f_50, rfl⟩ : ∃ z, z = u_50 := ⟨_, rfl⟩
    have hq_50 := hp_50
    have G : wd X (va_A (@HAppend.hAppend va_W va_W va_W _ (xW h0 nw sp xa la lb) (@HAppend.hAppend va_W va_W va_W _ (rcV X nw an sv dv n0 n1 n2 n3 n4 g0 gs gn gm) ([((xa 5), .inl (X.2.1, 3, .inl fr))]))) sz) (va_A (@HAppend.hAppend va_W va_W va_W _ (xW h0 nw sp xa la lb) (@HAppend.hAppend va_W va_W va_W _ (rcV X nw an sv dv n0 n1 n2 n3 n4 g0 gs gn gm) ([((xa 5), .inl (X.2.1, 3, .inl fr))]))) sz) s (@HAppend.hAppend va_W va_W va_W _ (rcV X nw an sv dv n0 n1 n2 n3 n4 g0 gs gn gm) (@HAppend.hAppend va_W va_W va_W _ (xW h0 nw sp xa la lb) ([((xa 5), .inl (X.2.1, 3, .inl f_50))]))) H locs := G
    exact e_int S zr zlk (vp_nar_int _) G (dv, n1, g0, f_50) [16, 0, 1, 2, 3, 4, 5, 6, 7, 8, 9, 10, 11, 12, 13, 14, 15, 17] rfl rfl (Or.inr rfl) (⟨hI_n1, trivial⟩) dX10_speed_24
