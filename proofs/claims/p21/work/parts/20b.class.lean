set_option maxRecDepth 20000 in
theorem ggX5_goOn_X8_step : GoodIn wsX5_goOn wsX8_step := goodIn_r _ [9, 10, 11, 12, 13, 14, 15, 16, 17, 18, 19, 20, 8, 21, 22, 23, 24, 25, 26, 27, 28, 29, 38, 39, 40, 41, 42, 43, 44, 45] rfl (by decide +kernel)
set_option maxRecDepth 20000 in
theorem gX5_goOn_X8_step : GoodIn wsX5_goOn (wsV RX5 72 RX8 yX8_step wsX8_step) := goodIn_app (goodIn_of _ (by decide +kernel)) ggX5_goOn_X8_step
set_option maxRecDepth 20000 in
theorem ggX5_homes_X8_isHome : GoodIn wsX5_homes wsX8_isHome := goodIn_r _ [7, 8, 17, 18, 19, 20, 21, 22, 23, 24] rfl (by decide +kernel)
set_option maxRecDepth 20000 in
theorem gX5_homes_X8_isHome : GoodIn wsX5_homes (wsV RX5 84 RX8 yX8_isHome wsX8_isHome) := goodIn_app (goodIn_of _ (by decide +kernel)) ggX5_homes_X8_isHome
set_option maxRecDepth 20000 in
theorem ggX5_keep_X4_push : GoodIn wsX5_keep wsX4_push := goodIn_r _ [8, 9, 10, 11, 12, 13, 14, 15, 16, 17, 18, 19, 28, 29, 30, 31, 32, 33, 34, 35, 36, 37] rfl (by decide +kernel)
set_option maxRecDepth 20000 in
theorem gX5_keep_X4_push : GoodIn wsX5_keep (wsV RX5 76 RX4 yX4_push wsX4_push) := goodIn_app (goodIn_of _ (by decide +kernel)) ggX5_keep_X4_push
set_option maxRecDepth 20000 in
theorem ggX5_kindsThatFit_X7_fitRunner : GoodIn wsX5_kindsThatFit wsX7_fitRunner := goodIn_r _ [6, 7, 8, 9, 10, 11, 12, 13, 22, 23, 24, 25, 26] rfl (by decide +kernel)
set_option maxRecDepth 20000 in
theorem gX5_kindsThatFit_X7_fitRunner : GoodIn wsX5_kindsThatFit (wsV RX5 97 RX7 yX7_fitRunner wsX7_fitRunner) := goodIn_app (goodIn_of _ (by decide +kernel)) ggX5_kindsThatFit_X7_fitRunner
set_option maxRecDepth 20000 in
theorem ggX5_legsThatFit_X7_fitRunner : GoodIn wsX5_legsThatFit wsX7_fitRunner := goodIn_r _ [8, 9, 10, 11, 12, 13, 14, 15, 32, 33, 34, 35, 36] rfl (by decide +kernel)
set_option maxRecDepth 20000 in
theorem gX5_legsThatFit_X7_fitRunner : GoodIn wsX5_legsThatFit (wsV RX5 97 RX7 yX7_fitRunner wsX7_fitRunner) := goodIn_app (goodIn_of _ (by decide +kernel)) ggX5_legsThatFit_X7_fitRunner
set_option maxRecDepth 20000 in
theorem ggX5_takeBack_X4_pop : GoodIn wsX5_takeBack wsX4_pop := goodIn_r _ [8, 9, 10, 11, 12, 13, 14, 15, 24, 25, 26, 27, 28, 29, 30, 31, 32, 33] rfl (by decide +kernel)
set_option maxRecDepth 20000 in
theorem gX5_takeBack_X4_pop : GoodIn wsX5_takeBack (wsV RX5 80 RX4 yX4_pop wsX4_pop) := goodIn_app (goodIn_of _ (by decide +kernel)) ggX5_takeBack_X4_pop
theorem dX4_pop_0 : decode cX4_pop 0 = .ok (.aload_n 0, 1) := by decide +kernel
theorem dX4_pop_1 : decode cX4_pop 1 = .ok (.getfield 15, 3) := by decide +kernel
theorem dX4_pop_10 : decode cX4_pop 10 = .ok (.dup, 1) := by decide +kernel
theorem dX4_pop_102 : decode cX4_pop 102 = .ok (.aload_n 1, 1) := by decide +kernel
theorem dX4_pop_103 : decode cX4_pop 103 = .ok (.iload_n 3, 1) := by decide +kernel
theorem dX4_pop_104 : decode cX4_pop 104 = .ok (.aaload, 1) := by decide +kernel
theorem dX4_pop_105 : decode cX4_pop 105 = .ok (.aload_n 0, 1) := by decide +kernel
theorem dX4_pop_106 : decode cX4_pop 106 = .ok (.getfield 11, 3) := by decide +kernel
theorem dX4_pop_109 : decode cX4_pop 109 = .ok (.iload 4, 2) := by decide +kernel
theorem dX4_pop_11 : decode cX4_pop 11 = .ok (.getfield 15, 3) := by decide +kernel
theorem dX4_pop_111 : decode cX4_pop 111 = .ok (.iconst 4, 1) := by decide +kernel
theorem dX4_pop_112 : decode cX4_pop 112 = .ok (.iadd, 1) := by decide +kernel
theorem dX4_pop_113 : decode cX4_pop 113 = .ok (.iaload, 1) := by decide +kernel
theorem dX4_pop_114 : decode cX4_pop 114 = .ok (.putfield 39, 3) := by decide +kernel
theorem dX4_pop_117 : decode cX4_pop 117 = .ok (.iinc 3 1, 3) := by decide +kernel
theorem dX4_pop_120 : decode cX4_pop 120 = .ok (.goto (-91), 3) := by decide +kernel
theorem dX4_pop_123 : decode cX4_pop 123 = .ok (.aload_n 0, 1) := by decide +kernel
theorem dX4_pop_124 : decode cX4_pop 124 = .ok (.getfield 11, 3) := by decide +kernel
theorem dX4_pop_127 : decode cX4_pop 127 = .ok (.iload_n 2, 1) := by decide +kernel
theorem dX4_pop_128 : decode cX4_pop 128 = .ok (.iaload, 1) := by decide +kernel
theorem dX4_pop_129 : decode cX4_pop 129 = .ok (.ireturn, 1) := by decide +kernel
theorem dX4_pop_14 : decode cX4_pop 14 = .ok (.iconst 1, 1) := by decide +kernel
theorem dX4_pop_15 : decode cX4_pop 15 = .ok (.isub, 1) := by decide +kernel
theorem dX4_pop_16 : decode cX4_pop 16 = .ok (.putfield 15, 3) := by decide +kernel
theorem dX4_pop_19 : decode cX4_pop 19 = .ok (.aload_n 0, 1) := by decide +kernel
theorem dX4_pop_20 : decode cX4_pop 20 = .ok (.getfield 15, 3) := by decide +kernel
theorem dX4_pop_23 : decode cX4_pop 23 = .ok (.bipush 31, 2) := by decide +kernel
theorem dX4_pop_25 : decode cX4_pop 25 = .ok (.imul, 1) := by decide +kernel
theorem dX4_pop_26 : decode cX4_pop 26 = .ok (.istore_n 2, 1) := by decide +kernel
theorem dX4_pop_27 : decode cX4_pop 27 = .ok (.iconst 0, 1) := by decide +kernel
theorem dX4_pop_28 : decode cX4_pop 28 = .ok (.istore_n 3, 1) := by decide +kernel
theorem dX4_pop_29 : decode cX4_pop 29 = .ok (.iload_n 3, 1) := by decide +kernel
theorem dX4_pop_30 : decode cX4_pop 30 = .ok (.bipush 6, 2) := by decide +kernel
theorem dX4_pop_32 : decode cX4_pop 32 = .ok (.if_icmp .ge 91, 3) := by decide +kernel
theorem dX4_pop_35 : decode cX4_pop 35 = .ok (.iload_n 2, 1) := by decide +kernel
theorem dX4_pop_36 : decode cX4_pop 36 = .ok (.iconst 1, 1) := by decide +kernel
theorem dX4_pop_37 : decode cX4_pop 37 = .ok (.iadd, 1) := by decide +kernel
theorem dX4_pop_38 : decode cX4_pop 38 = .ok (.iload_n 3, 1) := by decide +kernel
theorem dX4_pop_39 : decode cX4_pop 39 = .ok (.iconst 5, 1) := by decide +kernel
theorem dX4_pop_4 : decode cX4_pop 4 = .ok (.ifCond .gt 5, 3) := by decide +kernel
theorem dX4_pop_40 : decode cX4_pop 40 = .ok (.imul, 1) := by decide +kernel
theorem dX4_pop_41 : decode cX4_pop 41 = .ok (.iadd, 1) := by decide +kernel
theorem dX4_pop_42 : decode cX4_pop 42 = .ok (.istore 4, 2) := by decide +kernel
theorem dX4_pop_44 : decode cX4_pop 44 = .ok (.aload_n 1, 1) := by decide +kernel
theorem dX4_pop_45 : decode cX4_pop 45 = .ok (.iload_n 3, 1) := by decide +kernel
theorem dX4_pop_46 : decode cX4_pop 46 = .ok (.aaload, 1) := by decide +kernel
theorem dX4_pop_47 : decode cX4_pop 47 = .ok (.aload_n 0, 1) := by decide +kernel
theorem dX4_pop_48 : decode cX4_pop 48 = .ok (.getfield 11, 3) := by decide +kernel
theorem dX4_pop_51 : decode cX4_pop 51 = .ok (.iload 4, 2) := by decide +kernel
theorem dX4_pop_53 : decode cX4_pop 53 = .ok (.iaload, 1) := by decide +kernel
theorem dX4_pop_54 : decode cX4_pop 54 = .ok (.putfield 25, 3) := by decide +kernel
theorem dX4_pop_57 : decode cX4_pop 57 = .ok (.aload_n 1, 1) := by decide +kernel
theorem dX4_pop_58 : decode cX4_pop 58 = .ok (.iload_n 3, 1) := by decide +kernel
theorem dX4_pop_59 : decode cX4_pop 59 = .ok (.aaload, 1) := by decide +kernel
theorem dX4_pop_60 : decode cX4_pop 60 = .ok (.aload_n 0, 1) := by decide +kernel
theorem dX4_pop_61 : decode cX4_pop 61 = .ok (.getfield 11, 3) := by decide +kernel
theorem dX4_pop_64 : decode cX4_pop 64 = .ok (.iload 4, 2) := by decide +kernel
theorem dX4_pop_66 : decode cX4_pop 66 = .ok (.iconst 1, 1) := by decide +kernel
theorem dX4_pop_67 : decode cX4_pop 67 = .ok (.iadd, 1) := by decide +kernel
theorem dX4_pop_68 : decode cX4_pop 68 = .ok (.iaload, 1) := by decide +kernel
theorem dX4_pop_69 : decode cX4_pop 69 = .ok (.putfield 30, 3) := by decide +kernel
theorem dX4_pop_7 : decode cX4_pop 7 = .ok (.iconst (-1), 1) := by decide +kernel
theorem dX4_pop_72 : decode cX4_pop 72 = .ok (.aload_n 1, 1) := by decide +kernel
theorem dX4_pop_73 : decode cX4_pop 73 = .ok (.iload_n 3, 1) := by decide +kernel
theorem dX4_pop_74 : decode cX4_pop 74 = .ok (.aaload, 1) := by decide +kernel
theorem dX4_pop_75 : decode cX4_pop 75 = .ok (.aload_n 0, 1) := by decide +kernel
theorem dX4_pop_76 : decode cX4_pop 76 = .ok (.getfield 11, 3) := by decide +kernel
theorem dX4_pop_79 : decode cX4_pop 79 = .ok (.iload 4, 2) := by decide +kernel
theorem dX4_pop_8 : decode cX4_pop 8 = .ok (.ireturn, 1) := by decide +kernel
theorem dX4_pop_81 : decode cX4_pop 81 = .ok (.iconst 2, 1) := by decide +kernel
theorem dX4_pop_82 : decode cX4_pop 82 = .ok (.iadd, 1) := by decide +kernel
theorem dX4_pop_83 : decode cX4_pop 83 = .ok (.iaload, 1) := by decide +kernel
theorem dX4_pop_84 : decode cX4_pop 84 = .ok (.putfield 33, 3) := by decide +kernel
theorem dX4_pop_87 : decode cX4_pop 87 = .ok (.aload_n 1, 1) := by decide +kernel
theorem dX4_pop_88 : decode cX4_pop 88 = .ok (.iload_n 3, 1) := by decide +kernel
theorem dX4_pop_89 : decode cX4_pop 89 = .ok (.aaload, 1) := by decide +kernel
theorem dX4_pop_9 : decode cX4_pop 9 = .ok (.aload_n 0, 1) := by decide +kernel
theorem dX4_pop_90 : decode cX4_pop 90 = .ok (.aload_n 0, 1) := by decide +kernel
theorem dX4_pop_91 : decode cX4_pop 91 = .ok (.getfield 11, 3) := by decide +kernel
theorem dX4_pop_94 : decode cX4_pop 94 = .ok (.iload 4, 2) := by decide +kernel
theorem dX4_pop_96 : decode cX4_pop 96 = .ok (.iconst 3, 1) := by decide +kernel
theorem dX4_pop_97 : decode cX4_pop 97 = .ok (.iadd, 1) := by decide +kernel
theorem dX4_pop_98 : decode cX4_pop 98 = .ok (.iaload, 1) := by decide +kernel
theorem dX4_pop_99 : decode cX4_pop 99 = .ok (.putfield 36, 3) := by decide +kernel
theorem dX5_dropsTogether_0 : decode cX5_dropsTogether 0 = .ok (.iconst 0, 1) := by decide +kernel
theorem dX5_dropsTogether_1 : decode cX5_dropsTogether 1 = .ok (.istore_n 1, 1) := by decide +kernel
theorem dX5_dropsTogether_12 : decode cX5_dropsTogether 12 = .ok (.iload_n 1, 1) := by decide +kernel
theorem dX5_dropsTogether_13 : decode cX5_dropsTogether 13 = .ok (.aload_n 0, 1) := by decide +kernel
theorem dX5_dropsTogether_14 : decode cX5_dropsTogether 14 = .ok (.getfield 23, 3) := by decide +kernel
theorem dX5_dropsTogether_17 : decode cX5_dropsTogether 17 = .ok (.iload_n 2, 1) := by decide +kernel
theorem dX5_dropsTogether_18 : decode cX5_dropsTogether 18 = .ok (.aaload, 1) := by decide +kernel
theorem dX5_dropsTogether_19 : decode cX5_dropsTogether 19 = .ok (.getfield 91, 3) := by decide +kernel
theorem dX5_dropsTogether_2 : decode cX5_dropsTogether 2 = .ok (.iconst 0, 1) := by decide +kernel
theorem dX5_dropsTogether_22 : decode cX5_dropsTogether 22 = .ok (.iadd, 1) := by decide +kernel
theorem dX5_dropsTogether_23 : decode cX5_dropsTogether 23 = .ok (.istore_n 1, 1) := by decide +kernel
theorem dX5_dropsTogether_24 : decode cX5_dropsTogether 24 = .ok (.iinc 2 1, 3) := by decide +kernel
theorem dX5_dropsTogether_27 : decode cX5_dropsTogether 27 = .ok (.goto (-23), 3) := by decide +kernel
theorem dX5_dropsTogether_3 : decode cX5_dropsTogether 3 = .ok (.istore_n 2, 1) := by decide +kernel
theorem dX5_dropsTogether_30 : decode cX5_dropsTogether 30 = .ok (.iload_n 1, 1) := by decide +kernel
theorem dX5_dropsTogether_31 : decode cX5_dropsTogether 31 = .ok (.ireturn, 1) := by decide +kernel
theorem dX5_dropsTogether_4 : decode cX5_dropsTogether 4 = .ok (.iload_n 2, 1) := by decide +kernel
theorem dX5_dropsTogether_5 : decode cX5_dropsTogether 5 = .ok (.aload_n 0, 1) := by decide +kernel
theorem dX5_dropsTogether_6 : decode cX5_dropsTogether 6 = .ok (.getfield 18, 3) := by decide +kernel
theorem dX5_dropsTogether_9 : decode cX5_dropsTogether 9 = .ok (.if_icmp .ge 21, 3) := by decide +kernel
theorem dX5_goOn_0 : decode cX5_goOn 0 = .ok (.aload_n 0, 1) := by decide +kernel
theorem dX5_goOn_1 : decode cX5_goOn 1 = .ok (.dup, 1) := by decide +kernel
theorem dX5_goOn_10 : decode cX5_goOn 10 = .ok (.iconst 0, 1) := by decide +kernel
theorem dX5_goOn_11 : decode cX5_goOn 11 = .ok (.istore_n 1, 1) := by decide +kernel
theorem dX5_goOn_12 : decode cX5_goOn 12 = .ok (.iload_n 1, 1) := by decide +kernel
theorem dX5_goOn_13 : decode cX5_goOn 13 = .ok (.aload_n 0, 1) := by decide +kernel
theorem dX5_goOn_14 : decode cX5_goOn 14 = .ok (.getfield 18, 3) := by decide +kernel
theorem dX5_goOn_17 : decode cX5_goOn 17 = .ok (.if_icmp .ge 26, 3) := by decide +kernel
theorem dX5_goOn_2 : decode cX5_goOn 2 = .ok (.getfield 15, 3) := by decide +kernel
theorem dX5_goOn_20 : decode cX5_goOn 20 = .ok (.aload_n 0, 1) := by decide +kernel
theorem dX5_goOn_21 : decode cX5_goOn 21 = .ok (.getfield 23, 3) := by decide +kernel
theorem dX5_goOn_24 : decode cX5_goOn 24 = .ok (.iload_n 1, 1) := by decide +kernel
theorem dX5_goOn_25 : decode cX5_goOn 25 = .ok (.aaload, 1) := by decide +kernel
theorem dX5_goOn_26 : decode cX5_goOn 26 = .ok (.aload_n 0, 1) := by decide +kernel
theorem dX5_goOn_27 : decode cX5_goOn 27 = .ok (.getfield 15, 3) := by decide +kernel
theorem dX5_goOn_30 : decode cX5_goOn 30 = .ok (.aload_n 0, 1) := by decide +kernel
theorem dX5_goOn_31 : decode cX5_goOn 31 = .ok (.getfield 9, 3) := by decide +kernel
theorem dX5_goOn_34 : decode cX5_goOn 34 = .ok (.invokevirtual 72, 3) := by decide +kernel
theorem dX5_goOn_37 : decode cX5_goOn 37 = .ok (.iinc 1 1, 3) := by decide +kernel
theorem dX5_goOn_40 : decode cX5_goOn 40 = .ok (.goto (-28), 3) := by decide +kernel
theorem dX5_goOn_43 : decode cX5_goOn 43 = .ok (.return_, 1) := by decide +kernel
theorem dX5_goOn_5 : decode cX5_goOn 5 = .ok (.iconst 1, 1) := by decide +kernel
theorem dX5_goOn_6 : decode cX5_goOn 6 = .ok (.iadd, 1) := by decide +kernel
theorem dX5_goOn_7 : decode cX5_goOn 7 = .ok (.putfield 15, 3) := by decide +kernel
theorem dX5_homes_0 : decode cX5_homes 0 = .ok (.iconst 0, 1) := by decide +kernel
theorem dX5_homes_1 : decode cX5_homes 1 = .ok (.istore_n 1, 1) := by decide +kernel
theorem dX5_homes_12 : decode cX5_homes 12 = .ok (.iload_n 1, 1) := by decide +kernel
theorem dX5_homes_13 : decode cX5_homes 13 = .ok (.aload_n 0, 1) := by decide +kernel
theorem dX5_homes_14 : decode cX5_homes 14 = .ok (.getfield 23, 3) := by decide +kernel
theorem dX5_homes_17 : decode cX5_homes 17 = .ok (.iload_n 2, 1) := by decide +kernel
theorem dX5_homes_18 : decode cX5_homes 18 = .ok (.aaload, 1) := by decide +kernel
theorem dX5_homes_19 : decode cX5_homes 19 = .ok (.invokevirtual 84, 3) := by decide +kernel
theorem dX5_homes_2 : decode cX5_homes 2 = .ok (.iconst 0, 1) := by decide +kernel
theorem dX5_homes_22 : decode cX5_homes 22 = .ok (.ifCond .eq 7, 3) := by decide +kernel
theorem dX5_homes_25 : decode cX5_homes 25 = .ok (.iconst 1, 1) := by decide +kernel
theorem dX5_homes_26 : decode cX5_homes 26 = .ok (.goto 4, 3) := by decide +kernel
theorem dX5_homes_29 : decode cX5_homes 29 = .ok (.iconst 0, 1) := by decide +kernel
theorem dX5_homes_3 : decode cX5_homes 3 = .ok (.istore_n 2, 1) := by decide +kernel
theorem dX5_homes_30 : decode cX5_homes 30 = .ok (.iadd, 1) := by decide +kernel
theorem dX5_homes_31 : decode cX5_homes 31 = .ok (.istore_n 1, 1) := by decide +kernel
theorem dX5_homes_32 : decode cX5_homes 32 = .ok (.iinc 2 1, 3) := by decide +kernel
theorem dX5_homes_35 : decode cX5_homes 35 = .ok (.goto (-31), 3) := by decide +kernel
theorem dX5_homes_38 : decode cX5_homes 38 = .ok (.iload_n 1, 1) := by decide +kernel
theorem dX5_homes_39 : decode cX5_homes 39 = .ok (.ireturn, 1) := by decide +kernel
theorem dX5_homes_4 : decode cX5_homes 4 = .ok (.iload_n 2, 1) := by decide +kernel
theorem dX5_homes_5 : decode cX5_homes 5 = .ok (.aload_n 0, 1) := by decide +kernel
theorem dX5_homes_6 : decode cX5_homes 6 = .ok (.getfield 18, 3) := by decide +kernel
theorem dX5_homes_9 : decode cX5_homes 9 = .ok (.if_icmp .ge 29, 3) := by decide +kernel
theorem dX5_keep_0 : decode cX5_keep 0 = .ok (.aload_n 0, 1) := by decide +kernel
theorem dX5_keep_1 : decode cX5_keep 1 = .ok (.getfield 30, 3) := by decide +kernel
theorem dX5_keep_12 : decode cX5_keep 12 = .ok (.invokevirtual 76, 3) := by decide +kernel
theorem dX5_keep_15 : decode cX5_keep 15 = .ok (.return_, 1) := by decide +kernel
theorem dX5_keep_4 : decode cX5_keep 4 = .ok (.aload_n 0, 1) := by decide +kernel
theorem dX5_keep_5 : decode cX5_keep 5 = .ok (.getfield 15, 3) := by decide +kernel
theorem dX5_keep_8 : decode cX5_keep 8 = .ok (.aload_n 0, 1) := by decide +kernel
theorem dX5_keep_9 : decode cX5_keep 9 = .ok (.getfield 23, 3) := by decide +kernel
theorem dX5_kindsThatFit_0 : decode cX5_kindsThatFit 0 = .ok (.iconst 0, 1) := by decide +kernel
theorem dX5_kindsThatFit_1 : decode cX5_kindsThatFit 1 = .ok (.istore_n 2, 1) := by decide +kernel
theorem dX5_kindsThatFit_10 : decode cX5_kindsThatFit 10 = .ok (.iload_n 2, 1) := by decide +kernel
theorem dX5_kindsThatFit_11 : decode cX5_kindsThatFit 11 = .ok (.aload_n 0, 1) := by decide +kernel
theorem dX5_kindsThatFit_12 : decode cX5_kindsThatFit 12 = .ok (.getfield 43, 3) := by decide +kernel
theorem dX5_kindsThatFit_15 : decode cX5_kindsThatFit 15 = .ok (.iload_n 1, 1) := by decide +kernel
theorem dX5_kindsThatFit_16 : decode cX5_kindsThatFit 16 = .ok (.iload_n 3, 1) := by decide +kernel
theorem dX5_kindsThatFit_17 : decode cX5_kindsThatFit 17 = .ok (.iconst 0, 1) := by decide +kernel
theorem dX5_kindsThatFit_18 : decode cX5_kindsThatFit 18 = .ok (.invokevirtual 97, 3) := by decide +kernel
theorem dX5_kindsThatFit_2 : decode cX5_kindsThatFit 2 = .ok (.iconst 0, 1) := by decide +kernel
theorem dX5_kindsThatFit_21 : decode cX5_kindsThatFit 21 = .ok (.ifCond .eq 9, 3) := by decide +kernel
theorem dX5_kindsThatFit_24 : decode cX5_kindsThatFit 24 = .ok (.iconst 1, 1) := by decide +kernel
theorem dX5_kindsThatFit_25 : decode cX5_kindsThatFit 25 = .ok (.iload_n 3, 1) := by decide +kernel
theorem dX5_kindsThatFit_26 : decode cX5_kindsThatFit 26 = .ok (.ishl, 1) := by decide +kernel
theorem dX5_kindsThatFit_27 : decode cX5_kindsThatFit 27 = .ok (.goto 4, 3) := by decide +kernel
theorem dX5_kindsThatFit_3 : decode cX5_kindsThatFit 3 = .ok (.istore_n 3, 1) := by decide +kernel
theorem dX5_kindsThatFit_30 : decode cX5_kindsThatFit 30 = .ok (.iconst 0, 1) := by decide +kernel
theorem dX5_kindsThatFit_31 : decode cX5_kindsThatFit 31 = .ok (.ior, 1) := by decide +kernel
theorem dX5_kindsThatFit_32 : decode cX5_kindsThatFit 32 = .ok (.istore_n 2, 1) := by decide +kernel
theorem dX5_kindsThatFit_33 : decode cX5_kindsThatFit 33 = .ok (.iinc 3 1, 3) := by decide +kernel
theorem dX5_kindsThatFit_36 : decode cX5_kindsThatFit 36 = .ok (.goto (-32), 3) := by decide +kernel
theorem dX5_kindsThatFit_39 : decode cX5_kindsThatFit 39 = .ok (.iload_n 2, 1) := by decide +kernel
theorem dX5_kindsThatFit_4 : decode cX5_kindsThatFit 4 = .ok (.iload_n 3, 1) := by decide +kernel
theorem dX5_kindsThatFit_40 : decode cX5_kindsThatFit 40 = .ok (.ireturn, 1) := by decide +kernel
theorem dX5_kindsThatFit_5 : decode cX5_kindsThatFit 5 = .ok (.bipush 6, 2) := by decide +kernel
theorem dX5_kindsThatFit_7 : decode cX5_kindsThatFit 7 = .ok (.if_icmp .ge 32, 3) := by decide +kernel
theorem dX5_legsThatFit_0 : decode cX5_legsThatFit 0 = .ok (.iconst 0, 1) := by decide +kernel
theorem dX5_legsThatFit_1 : decode cX5_legsThatFit 1 = .ok (.istore_n 2, 1) := by decide +kernel
theorem dX5_legsThatFit_10 : decode cX5_legsThatFit 10 = .ok (.iload_n 2, 1) := by decide +kernel
theorem dX5_legsThatFit_11 : decode cX5_legsThatFit 11 = .ok (.aload_n 0, 1) := by decide +kernel
theorem dX5_legsThatFit_12 : decode cX5_legsThatFit 12 = .ok (.getfield 39, 3) := by decide +kernel
theorem dX5_legsThatFit_15 : decode cX5_legsThatFit 15 = .ok (.iload_n 1, 1) := by decide +kernel
theorem dX5_legsThatFit_16 : decode cX5_legsThatFit 16 = .ok (.aload_n 0, 1) := by decide +kernel
theorem dX5_legsThatFit_17 : decode cX5_legsThatFit 17 = .ok (.getfield 23, 3) := by decide +kernel
theorem dX5_legsThatFit_2 : decode cX5_legsThatFit 2 = .ok (.iconst 1, 1) := by decide +kernel
theorem dX5_legsThatFit_20 : decode cX5_legsThatFit 20 = .ok (.iload_n 1, 1) := by decide +kernel
theorem dX5_legsThatFit_21 : decode cX5_legsThatFit 21 = .ok (.aaload, 1) := by decide +kernel
theorem dX5_legsThatFit_22 : decode cX5_legsThatFit 22 = .ok (.getfield 94, 3) := by decide +kernel
theorem dX5_legsThatFit_25 : decode cX5_legsThatFit 25 = .ok (.iload_n 3, 1) := by decide +kernel
theorem dX5_legsThatFit_26 : decode cX5_legsThatFit 26 = .ok (.invokevirtual 97, 3) := by decide +kernel
theorem dX5_legsThatFit_29 : decode cX5_legsThatFit 29 = .ok (.ifCond .eq 9, 3) := by decide +kernel
theorem dX5_legsThatFit_3 : decode cX5_legsThatFit 3 = .ok (.istore_n 3, 1) := by decide +kernel
theorem dX5_legsThatFit_32 : decode cX5_legsThatFit 32 = .ok (.iconst 1, 1) := by decide +kernel
theorem dX5_legsThatFit_33 : decode cX5_legsThatFit 33 = .ok (.iload_n 3, 1) := by decide +kernel
theorem dX5_legsThatFit_34 : decode cX5_legsThatFit 34 = .ok (.ishl, 1) := by decide +kernel
theorem dX5_legsThatFit_35 : decode cX5_legsThatFit 35 = .ok (.goto 4, 3) := by decide +kernel
theorem dX5_legsThatFit_38 : decode cX5_legsThatFit 38 = .ok (.iconst 0, 1) := by decide +kernel
theorem dX5_legsThatFit_39 : decode cX5_legsThatFit 39 = .ok (.ior, 1) := by decide +kernel
theorem dX5_legsThatFit_4 : decode cX5_legsThatFit 4 = .ok (.iload_n 3, 1) := by decide +kernel
theorem dX5_legsThatFit_40 : decode cX5_legsThatFit 40 = .ok (.istore_n 2, 1) := by decide +kernel
theorem dX5_legsThatFit_41 : decode cX5_legsThatFit 41 = .ok (.iinc 3 1, 3) := by decide +kernel
theorem dX5_legsThatFit_44 : decode cX5_legsThatFit 44 = .ok (.goto (-40), 3) := by decide +kernel
theorem dX5_legsThatFit_47 : decode cX5_legsThatFit 47 = .ok (.iload_n 2, 1) := by decide +kernel
theorem dX5_legsThatFit_48 : decode cX5_legsThatFit 48 = .ok (.ireturn, 1) := by decide +kernel
theorem dX5_legsThatFit_5 : decode cX5_legsThatFit 5 = .ok (.bipush 9, 2) := by decide +kernel
theorem dX5_legsThatFit_7 : decode cX5_legsThatFit 7 = .ok (.if_icmp .gt 40, 3) := by decide +kernel
theorem dX5_placesTogether_0 : decode cX5_placesTogether 0 = .ok (.iconst 0, 1) := by decide +kernel
theorem dX5_placesTogether_1 : decode cX5_placesTogether 1 = .ok (.istore_n 1, 1) := by decide +kernel
theorem dX5_placesTogether_12 : decode cX5_placesTogether 12 = .ok (.iload_n 1, 1) := by decide +kernel
theorem dX5_placesTogether_13 : decode cX5_placesTogether 13 = .ok (.aload_n 0, 1) := by decide +kernel
theorem dX5_placesTogether_14 : decode cX5_placesTogether 14 = .ok (.getfield 23, 3) := by decide +kernel
theorem dX5_placesTogether_17 : decode cX5_placesTogether 17 = .ok (.iload_n 2, 1) := by decide +kernel
theorem dX5_placesTogether_18 : decode cX5_placesTogether 18 = .ok (.aaload, 1) := by decide +kernel
theorem dX5_placesTogether_19 : decode cX5_placesTogether 19 = .ok (.getfield 88, 3) := by decide +kernel
theorem dX5_placesTogether_2 : decode cX5_placesTogether 2 = .ok (.iconst 0, 1) := by decide +kernel
theorem dX5_placesTogether_22 : decode cX5_placesTogether 22 = .ok (.iadd, 1) := by decide +kernel
theorem dX5_placesTogether_23 : decode cX5_placesTogether 23 = .ok (.istore_n 1, 1) := by decide +kernel
theorem dX5_placesTogether_24 : decode cX5_placesTogether 24 = .ok (.iinc 2 1, 3) := by decide +kernel
theorem dX5_placesTogether_27 : decode cX5_placesTogether 27 = .ok (.goto (-23), 3) := by decide +kernel
theorem dX5_placesTogether_3 : decode cX5_placesTogether 3 = .ok (.istore_n 2, 1) := by decide +kernel
theorem dX5_placesTogether_30 : decode cX5_placesTogether 30 = .ok (.iload_n 1, 1) := by decide +kernel
theorem dX5_placesTogether_31 : decode cX5_placesTogether 31 = .ok (.ireturn, 1) := by decide +kernel
theorem dX5_placesTogether_4 : decode cX5_placesTogether 4 = .ok (.iload_n 2, 1) := by decide +kernel
theorem dX5_placesTogether_5 : decode cX5_placesTogether 5 = .ok (.aload_n 0, 1) := by decide +kernel
theorem dX5_placesTogether_6 : decode cX5_placesTogether 6 = .ok (.getfield 18, 3) := by decide +kernel
theorem dX5_placesTogether_9 : decode cX5_placesTogether 9 = .ok (.if_icmp .ge 21, 3) := by decide +kernel
theorem dX5_restart_0 : decode cX5_restart 0 = .ok (.aload_n 0, 1) := by decide +kernel
theorem dX5_restart_1 : decode cX5_restart 1 = .ok (.iload_n 1, 1) := by decide +kernel
theorem dX5_restart_10 : decode cX5_restart 10 = .ok (.aload_n 0, 1) := by decide +kernel
theorem dX5_restart_11 : decode cX5_restart 11 = .ok (.iconst 0, 1) := by decide +kernel
theorem dX5_restart_12 : decode cX5_restart 12 = .ok (.putfield 18, 3) := by decide +kernel
theorem dX5_restart_15 : decode cX5_restart 15 = .ok (.aload_n 0, 1) := by decide +kernel
theorem dX5_restart_16 : decode cX5_restart 16 = .ok (.getfield 30, 3) := by decide +kernel
theorem dX5_restart_19 : decode cX5_restart 19 = .ok (.iconst 0, 1) := by decide +kernel
theorem dX5_restart_2 : decode cX5_restart 2 = .ok (.putfield 9, 3) := by decide +kernel
theorem dX5_restart_20 : decode cX5_restart 20 = .ok (.putfield 50, 3) := by decide +kernel
theorem dX5_restart_23 : decode cX5_restart 23 = .ok (.aload_n 0, 1) := by decide +kernel
theorem dX5_restart_24 : decode cX5_restart 24 = .ok (.getfield 39, 3) := by decide +kernel
theorem dX5_restart_27 : decode cX5_restart 27 = .ok (.iconst 0, 1) := by decide +kernel
theorem dX5_restart_28 : decode cX5_restart 28 = .ok (.putfield 53, 3) := by decide +kernel
theorem dX5_restart_31 : decode cX5_restart 31 = .ok (.aload_n 0, 1) := by decide +kernel
theorem dX5_restart_32 : decode cX5_restart 32 = .ok (.getfield 43, 3) := by decide +kernel
theorem dX5_restart_35 : decode cX5_restart 35 = .ok (.iconst 0, 1) := by decide +kernel
theorem dX5_restart_36 : decode cX5_restart 36 = .ok (.putfield 53, 3) := by decide +kernel
theorem dX5_restart_39 : decode cX5_restart 39 = .ok (.aload_n 0, 1) := by decide +kernel
theorem dX5_restart_40 : decode cX5_restart 40 = .ok (.getfield 46, 3) := by decide +kernel
theorem dX5_restart_43 : decode cX5_restart 43 = .ok (.iconst 0, 1) := by decide +kernel
theorem dX5_restart_44 : decode cX5_restart 44 = .ok (.putfield 53, 3) := by decide +kernel
theorem dX5_restart_47 : decode cX5_restart 47 = .ok (.return_, 1) := by decide +kernel
theorem dX5_restart_5 : decode cX5_restart 5 = .ok (.aload_n 0, 1) := by decide +kernel
theorem dX5_restart_6 : decode cX5_restart 6 = .ok (.iconst 0, 1) := by decide +kernel
theorem dX5_restart_7 : decode cX5_restart 7 = .ok (.putfield 15, 3) := by decide +kernel
theorem dX5_takeBack_0 : decode cX5_takeBack 0 = .ok (.aload_n 0, 1) := by decide +kernel
theorem dX5_takeBack_1 : decode cX5_takeBack 1 = .ok (.getfield 30, 3) := by decide +kernel
theorem dX5_takeBack_11 : decode cX5_takeBack 11 = .ok (.istore_n 1, 1) := by decide +kernel
theorem dX5_takeBack_12 : decode cX5_takeBack 12 = .ok (.iload_n 1, 1) := by decide +kernel
theorem dX5_takeBack_13 : decode cX5_takeBack 13 = .ok (.iconst (-1), 1) := by decide +kernel
theorem dX5_takeBack_14 : decode cX5_takeBack 14 = .ok (.if_icmp .ne 5, 3) := by decide +kernel
theorem dX5_takeBack_17 : decode cX5_takeBack 17 = .ok (.iconst 0, 1) := by decide +kernel
theorem dX5_takeBack_18 : decode cX5_takeBack 18 = .ok (.ireturn, 1) := by decide +kernel
theorem dX5_takeBack_19 : decode cX5_takeBack 19 = .ok (.aload_n 0, 1) := by decide +kernel
theorem dX5_takeBack_20 : decode cX5_takeBack 20 = .ok (.iload_n 1, 1) := by decide +kernel
theorem dX5_takeBack_21 : decode cX5_takeBack 21 = .ok (.putfield 15, 3) := by decide +kernel
theorem dX5_takeBack_24 : decode cX5_takeBack 24 = .ok (.iconst 1, 1) := by decide +kernel
theorem dX5_takeBack_25 : decode cX5_takeBack 25 = .ok (.ireturn, 1) := by decide +kernel
theorem dX5_takeBack_4 : decode cX5_takeBack 4 = .ok (.aload_n 0, 1) := by decide +kernel
theorem dX5_takeBack_5 : decode cX5_takeBack 5 = .ok (.getfield 23, 3) := by decide +kernel
theorem dX5_takeBack_8 : decode cX5_takeBack 8 = .ok (.invokevirtual 80, 3) := by decide +kernel
theorem in_X4_pop_X4 : ∀ w ∈ wsX40, w ∈ wsX4_pop := by decide +kernel
theorem lk_X4_pop_15 : Cond.fieldLink RX4 15 "EggSpoons$Past" "size" "I" ∈ wsX4_pop := by decide +kernel
theorem lk_X4_pop_11 : Cond.fieldLink RX4 11 "EggSpoons$Past" "cells" "[I" ∈ wsX4_pop := by decide +kernel
theorem in_X4_pop_X8 : ∀ w ∈ wsX80, w ∈ wsX4_pop := by decide +kernel
theorem lk_X4_pop_25 : Cond.fieldLink RX4 25 "EggSpoons$Runner" "speed" "I" ∈ wsX4_pop := by decide +kernel
theorem lk_X4_pop_30 : Cond.fieldLink RX4 30 "EggSpoons$Runner" "place" "I" ∈ wsX4_pop := by decide +kernel
theorem lk_X4_pop_33 : Cond.fieldLink RX4 33 "EggSpoons$Runner" "drops" "I" ∈ wsX4_pop := by decide +kernel
theorem lk_X4_pop_36 : Cond.fieldLink RX4 36 "EggSpoons$Runner" "waits" "I" ∈ wsX4_pop := by decide +kernel
theorem lk_X4_pop_39 : Cond.fieldLink RX4 39 "EggSpoons$Runner" "homeAt" "I" ∈ wsX4_pop := by decide +kernel
set_option maxHeartbeats 4000000 in
set_option maxRecDepth 100000 in
/-- pop -/
theorem s_pop (l : Launch) (X : EX) (hn : Nat) (an : Nat → Nat) (sv : Nat → Int32) (dv : Nat → Int32) (n0 : Nat) (n1 : Nat) (n2 : Nat) (n3 : Nat) (n4 : Nat) (g0 : Nat → Int32) (gs : Nat → Int32) (gn : Nat → Int32) (gm : Nat → Int32) (hI_n0 : n0 ≤ 6) (hI_n1 : n1 ≤ 8) (hI_n2 : n2 ≤ 5) (hI_n3 : n3 ≤ 6) (hI_n4 : n4 ≤ 6) (sz : Nat) : Met l yX4_pop wsX4_pop ({ frames := 0, cells := 0, slots := 0, locals := 0 } : Room) (pE X [.ref (an 7), .ref (an 0)] (rcV X hn an sv dv n0 n1 n2 n3 n4 g0 gs gn gm) sz) (qI (fun (r : Int32) (u : (Nat → Int32) × (Nat)) => u.2 ≤ 8 ∧ (True)) X (fun (u : (Nat → Int32) × (Nat)) => rcV X hn an sv u.1 n0 u.2 n2 n3 n4 g0 gs gn gm) (rcV X hn an sv dv n0 n1 n2 n3 n4 g0 gs gn gm) sz) 0 0 (va_A (rcV X hn an sv dv n0 n1 n2 n3 n4 g0 gs gn gm) sz) := by
  refine mk_met (B := (va_A (rcV X hn an sv dv n0 n1 n2 n3 n4 g0 gs gn gm) sz)) (A := (va_A (rcV X hn an sv dv n0 n1 n2 n3 n4 g0 gs gn gm) sz)) (cc := cX4_pop) (maxL := 5) (ret := (some .int)) (by decide) rfl (Nat.le_of_ble_eq_true rfl) k_w k_a (fun p e s m below meth c S zr zlk znm zsz G ls hl => ?_)
  have S : CallFix p m c cX4_pop 5 s _ wsX4_pop RX4 := S
  have zx := S.1
  have zb := S.2.1
  have hl : lv_has ls 5 [(0, .ref (an 7)), (1, .ref (an 0))] := hl
  refine lv_aload_n zx zb dX4_pop_0 rfl (lv_at hl 0 rfl) ?_
  refine r_get (C := RX4) (T := TX4) (N := 2) (ci := 2) (v := .int (nI n1)) S in_X4_pop_X4 G 8 rfl rfl 1 (by decide) lk_X4_pop_15 rfl dX4_pop_1 ?_
  refine lv_if_gt (tgt := 9) zx zb dX4_pop_4 (by decide) (fun c_1 => ?_) (fun c_1 => ?_)
  · have fc_1 := j_lt (a := 0) (b := n1) (by omega) (by omega) c_1
    refine lv_aload_n zx zb dX4_pop_9 rfl (lv_at hl 0 rfl) ?_
    refine lv_dup zx zb dX4_pop_10 rfl ?_
    refine r_get (C := RX4) (T := TX4) (N := 2) (ci := 2) (v := .int (nI n1)) S in_X4_pop_X4 G 8 rfl rfl 1 (by decide) lk_X4_pop_15 rfl dX4_pop_11 ?_
    refine lv_iconst (v := 1) zx zb dX4_pop_14 (by decide) ?_
    refine r_isub (v := (nI (n1 - 1))) S (pk_sub (a := n1) (b := 1) (by omega)) dX4_pop_15 ?_
    refine r_put (C := RX4) (T := TX4) (N := 2) (ci := 2) (v := .int (nI (n1 - 1))) S in_X4_pop_X4 tyX4_ok nmX4 G 8 rfl rfl 1 (by decide) lk_X4_pop_15 rfl (vp_nar_int _) rfl (Nat.le_of_ble_eq_true rfl) dX4_pop_16 (fun H locs G => ?_)
    obtain ⟨n_2, hI_n_2, hE_n_2, G⟩ : ∃ n_2 : Nat, n_2 ≤ 8 ∧ n_2 = (n1 - 1) ∧ wd X (va_A (rcV X hn an sv dv n0 n1 n2 n3 n4 g0 gs gn gm) sz) (va_A (rcV X hn an sv dv n0 n1 n2 n3 n4 g0 gs gn gm) sz) s (rcV X hn an sv dv n0 n_2 n2 n3 n4 g0 gs gn gm) H locs := ⟨(n1 - 1), by omega, rfl, G⟩
    refine lv_aload_n zx zb dX4_pop_19 rfl (lv_at hl 0 rfl) ?_
    refine r_get (C := RX4) (T := TX4) (N := 2) (ci := 2) (v := .int (nI n_2)) S in_X4_pop_X4 G 8 rfl rfl 1 (by decide) lk_X4_pop_15 rfl dX4_pop_20 ?_
    refine lv_bipush (v := 31) zx zb dX4_pop_23 (by decide) ?_
    refine r_imul (v := (nI (n_2 * 31))) S (pk_mul n_2 31) dX4_pop_25 ?_
    refine lv_istore_n (lv' := [(2, .int (nI (n_2 * 31))), (0, .ref (an 7)), (1, .ref (an 0))]) zx zb dX4_pop_26 rfl hl (by decide) rfl (fun ls hl => ?_)
    refine lv_iconst (v := 0) zx zb dX4_pop_27 (by decide) ?_
    refine lv_istore_n (lv' := [(3, .int 0), (2, .int (nI (n_2 * 31))), (0, .ref (an 7)), (1, .ref (an 0))]) zx zb dX4_pop_28 rfl hl (by decide) rfl (fun ls hl => ?_)
    refine k_loop (P := ∀ (zm : Nat) (k29 : Nat) (dv29_0 : Nat → Int32) (H : Heap) (locs : List Loc) (ls : Array Slot), 6 + 1 ≤ k29 + zm → (k29 ≤ 6) → wd X (va_A (rcV X hn an sv dv n0 n1 n2 n3 n4 g0 gs gn gm) sz) (va_A (rcV X hn an sv dv n0 n1 n2 n3 n4 g0 gs gn gm) sz) s (rcV X hn an sv dv29_0 n0 n_2 n2 n3 n4 g0 gs gn gm) H locs → lv_has ls 5 [(3, .int (nI k29)), (2, .int (nI (n_2 * 31))), (0, .ref (an 7)), (1, .ref (an 0))] → W p l e _ s m _ below meth c H locs _ _ _ (F0 m 29 ls [])) (fun loop => loop (6 + 1) 0 dv _ _ _ (by omega) (by omega) G hl) ?_
    intro zm
    induction zm with
    | zero => intro k29 dv29_0 H locs ls zz q_hk_k29 _ _; exact absurd zz (by omega)
    | succ zm ih29 =>
      intro k29 dv29_0 H locs ls zm_29 hk_k29 G hl
      refine lv_iload_n zx zb dX4_pop_29 rfl (lv_at hl 0 rfl) ?_
      refine lv_bipush (v := 6) zx zb dX4_pop_30 (by decide) ?_
      refine lv_icmp_ge (tgt := 123) zx zb dX4_pop_32 (by decide) (fun c_3 => ?_) (fun c_3 => ?_)
      · have fc_3 := j_le (a := 6) (b := k29) (by omega) (by omega) c_3
        refine lv_aload_n zx zb dX4_pop_123 rfl (lv_at hl 2 rfl) ?_
        refine r_get (C := RX4) (T := TX4) (N := 2) (ci := 2) (v := .ref (an 8)) S in_X4_pop_X4 G 8 rfl rfl 0 (by decide) lk_X4_pop_11 rfl dX4_pop_124 ?_
        refine lv_iload_n zx zb dX4_pop_127 rfl (lv_at hl 1 rfl) ?_
        refine r_iald S G 9 rfl (vp_in_nI (by omega) (by decide)) rfl dX4_pop_128 ?_
        refine k_itE (fun y_4 => ?_)
        exact e_int S zr zlk (vp_nar_int _) G (dv29_0, n_2) [0, 1, 2, 3, 4, 5, 6, 7, 8, 9, 10, 11, 12, 13, 14, 15] rfl rfl (Or.inr rfl) (⟨hI_n_2, trivial⟩) dX4_pop_129
      · have fc_3 := j_nle (a := 6) (b := k29) (by omega) (by omega) c_3
        refine lv_iload_n zx zb dX4_pop_35 rfl (lv_at hl 1 rfl) ?_
        refine lv_iconst (v := 1) zx zb dX4_pop_36 (by decide) ?_
        refine r_iadd (v := (nI ((n_2 * 31) + 1))) S (nI_add (n_2 * 31) 1) dX4_pop_37 ?_
        refine lv_iload_n zx zb dX4_pop_38 rfl (lv_at hl 0 rfl) ?_
        refine lv_iconst (v := 5) zx zb dX4_pop_39 (by decide) ?_
        refine r_imul (v := (nI (k29 * 5))) S (pk_mul k29 5) dX4_pop_40 ?_
        refine r_iadd (v := (nI (((n_2 * 31) + 1) + (k29 * 5)))) S (nI_add ((n_2 * 31) + 1) (k29 * 5)) dX4_pop_41 ?_
        refine lv_istore (lv' := [(4, .int (nI (((n_2 * 31) + 1) + (k29 * 5)))), (3, .int (nI k29)), (2, .int (nI (n_2 * 31))), (0, .ref (an 7)), (1, .ref (an 0))]) zx zb dX4_pop_42 hl (by decide) rfl (fun ls hl => ?_)
        refine lv_aload_n zx zb dX4_pop_44 rfl (lv_at hl 4 rfl) ?_
        refine lv_iload_n zx zb dX4_pop_45 rfl (lv_at hl 1 rfl) ?_
        rcases k_6c (show k29 < 6 by omega) with rfl | rfl | rfl | rfl | rfl | rfl
        · refine k_it (v := 0) rfl ?_
          refine r_aald (C := RX8) (b := (an 1)) S G 1 3 rfl rfl (k_vp (by decide)) rfl dX4_pop_46 ?_
          refine lv_aload_n zx zb dX4_pop_47 rfl (lv_at hl 3 rfl) ?_
          refine r_get (C := RX4) (T := TX4) (N := 2) (ci := 2) (v := .ref (an 8)) S in_X4_pop_X4 G 8 rfl rfl 0 (by decide) lk_X4_pop_11 rfl dX4_pop_48 ?_
          refine lv_iload zx zb dX4_pop_51 (lv_at hl 0 rfl) ?_
          refine r_iald S G 9 rfl (vp_in_nI (by omega) (by decide)) rfl dX4_pop_53 ?_
          refine k_itE (fun y_5 => ?_)
          refine r_put (C := RX8) (T := TX8) (N := 8) (ci := 6) (v := .int y_5) S in_X4_pop_X8 tyX8_ok nmX8 G 2 rfl rfl 3 (by decide) lk_X4_pop_25 rfl (vp_nar_int _) rfl (Nat.le_of_ble_eq_true rfl) dX4_pop_54 (fun H locs G => ?_)
          obtain ⟨dv_6, G⟩ : ∃ dv_6 : Nat → Int32, wd X (va_A (rcV X hn an sv dv n0 n1 n2 n3 n4 g0 gs gn gm) sz) (va_A (rcV X hn an sv dv n0 n1 n2 n3 n4 g0 gs gn gm) sz) s (rcV X hn an sv dv_6 n0 n_2 n2 n3 n4 g0 gs gn gm) H locs := ⟨upd dv29_0 10 y_5, G⟩
          refine lv_aload_n zx zb dX4_pop_57 rfl (lv_at hl 4 rfl) ?_
          refine lv_iload_n zx zb dX4_pop_58 rfl (lv_at hl 1 rfl) ?_
          refine r_aald (C := RX8) (b := (an 1)) S G 1 3 rfl rfl (k_vp (by decide)) rfl dX4_pop_59 ?_
          refine lv_aload_n zx zb dX4_pop_60 rfl (lv_at hl 3 rfl) ?_
          refine r_get (C := RX4) (T := TX4) (N := 2) (ci := 2) (v := .ref (an 8)) S in_X4_pop_X4 G 8 rfl rfl 0 (by decide) lk_X4_pop_11 rfl dX4_pop_61 ?_
          refine lv_iload zx zb dX4_pop_64 (lv_at hl 0 rfl) ?_
          refine lv_iconst (v := 1) zx zb dX4_pop_66 (by decide) ?_
          refine r_iadd (v := (nI ((((n_2 * 31) + 1) + (0 * 5)) + 1))) S (nI_add (((n_2 * 31) + 1) + (0 * 5)) 1) dX4_pop_67 ?_
          refine r_iald S G 9 rfl (vp_in_nI (by omega) (by decide)) rfl dX4_pop_68 ?_
          refine k_itE (fun y_7 => ?_)
          refine r_put (C := RX8) (T := TX8) (N := 8) (ci := 6) (v := .int y_7) S in_X4_pop_X8 tyX8_ok nmX8 G 2 rfl rfl 4 (by decide) lk_X4_pop_30 rfl (vp_nar_int _) rfl (Nat.le_of_ble_eq_true rfl) dX4_pop_69 (fun H locs G => ?_)
          obtain ⟨dv_8, G⟩ : ∃ dv_8 : Nat → Int32, wd X (va_A (rcV X hn an sv dv n0 n1 n2 n3 n4 g0 gs gn gm) sz) (va_A (rcV X hn an sv dv n0 n1 n2 n3 n4 g0 gs gn gm) sz) s (rcV X hn an sv dv_8 n0 n_2 n2 n3 n4 g0 gs gn gm) H locs := ⟨upd dv_6 11 y_7, G⟩
          refine lv_aload_n zx zb dX4_pop_72 rfl (lv_at hl 4 rfl) ?_
          refine lv_iload_n zx zb dX4_pop_73 rfl (lv_at hl 1 rfl) ?_
          refine r_aald (C := RX8) (b := (an 1)) S G 1 3 rfl rfl (k_vp (by decide)) rfl dX4_pop_74 ?_
          refine lv_aload_n zx zb dX4_pop_75 rfl (lv_at hl 3 rfl) ?_
          refine r_get (C := RX4) (T := TX4) (N := 2) (ci := 2) (v := .ref (an 8)) S in_X4_pop_X4 G 8 rfl rfl 0 (by decide) lk_X4_pop_11 rfl dX4_pop_76 ?_
          refine lv_iload zx zb dX4_pop_79 (lv_at hl 0 rfl) ?_
          refine lv_iconst (v := 2) zx zb dX4_pop_81 (by decide) ?_
          refine r_iadd (v := (nI ((((n_2 * 31) + 1) + (0 * 5)) + 2))) S (nI_add (((n_2 * 31) + 1) + (0 * 5)) 2) dX4_pop_82 ?_
          refine r_iald S G 9 rfl (vp_in_nI (by omega) (by decide)) rfl dX4_pop_83 ?_
          refine k_itE (fun y_9 => ?_)
          refine r_put (C := RX8) (T := TX8) (N := 8) (ci := 6) (v := .int y_9) S in_X4_pop_X8 tyX8_ok nmX8 G 2 rfl rfl 5 (by decide) lk_X4_pop_33 rfl (vp_nar_int _) rfl (Nat.le_of_ble_eq_true rfl) dX4_pop_84 (fun H locs G => ?_)
          obtain ⟨dv_10, G⟩ : ∃ dv_10 : Nat → Int32, wd X (va_A (rcV X hn an sv dv n0 n1 n2 n3 n4 g0 gs gn gm) sz) (va_A (rcV X hn an sv dv n0 n1 n2 n3 n4 g0 gs gn gm) sz) s (rcV X hn an sv dv_10 n0 n_2 n2 n3 n4 g0 gs gn gm) H locs := ⟨upd dv_8 12 y_9, G⟩
          refine lv_aload_n zx zb dX4_pop_87 rfl (lv_at hl 4 rfl) ?_
          refine lv_iload_n zx zb dX4_pop_88 rfl (lv_at hl 1 rfl) ?_
          refine r_aald (C := RX8) (b := (an 1)) S G 1 3 rfl rfl (k_vp (by decide)) rfl dX4_pop_89 ?_
          refine lv_aload_n zx zb dX4_pop_90 rfl (lv_at hl 3 rfl) ?_
          refine r_get (C := RX4) (T := TX4) (N := 2) (ci := 2) (v := .ref (an 8)) S in_X4_pop_X4 G 8 rfl rfl 0 (by decide) lk_X4_pop_11 rfl dX4_pop_91 ?_
          refine lv_iload zx zb dX4_pop_94 (lv_at hl 0 rfl) ?_
          refine lv_iconst (v := 3) zx zb dX4_pop_96 (by decide) ?_
          refine r_iadd (v := (nI ((((n_2 * 31) + 1) + (0 * 5)) + 3))) S (nI_add (((n_2 * 31) + 1) + (0 * 5)) 3) dX4_pop_97 ?_
          refine r_iald S G 9 rfl (vp_in_nI (by omega) (by decide)) rfl dX4_pop_98 ?_
          refine k_itE (fun y_11 => ?_)
          refine r_put (C := RX8) (T := TX8) (N := 8) (ci := 6) (v := .int y_11) S in_X4_pop_X8 tyX8_ok nmX8 G 2 rfl rfl 6 (by decide) lk_X4_pop_36 rfl (vp_nar_int _) rfl (Nat.le_of_ble_eq_true rfl) dX4_pop_99 (fun H locs G => ?_)
          obtain ⟨dv_12, G⟩ : ∃ dv_12 : Nat → Int32, wd X (va_A (rcV X hn an sv dv n0 n1 n2 n3 n4 g0 gs gn gm) sz) (va_A (rcV X hn an sv dv n0 n1 n2 n3 n4 g0 gs gn gm) sz) s (rcV X hn an sv dv_12 n0 n_2 n2 n3 n4 g0 gs gn gm) H locs := ⟨upd dv_10 13 y_11, G⟩
          refine lv_aload_n zx zb dX4_pop_102 rfl (lv_at hl 4 rfl) ?_
          refine lv_iload_n zx zb dX4_pop_103 rfl (lv_at hl 1 rfl) ?_
          refine r_aald (C := RX8) (b := (an 1)) S G 1 3 rfl rfl (k_vp (by decide)) rfl dX4_pop_104 ?_
          refine lv_aload_n zx zb dX4_pop_105 rfl (lv_at hl 3 rfl) ?_
          refine r_get (C := RX4) (T := TX4) (N := 2) (ci := 2) (v := .ref (an 8)) S in_X4_pop_X4 G 8 rfl rfl 0 (by decide) lk_X4_pop_11 rfl dX4_pop_106 ?_
          refine lv_iload zx zb dX4_pop_109 (lv_at hl 0 rfl) ?_
          refine lv_iconst (v := 4) zx zb dX4_pop_111 (by decide) ?_
          refine r_iadd (v := (nI ((((n_2 * 31) + 1) + (0 * 5)) + 4))) S (nI_add (((n_2 * 31) + 1) + (0 * 5)) 4) dX4_pop_112 ?_
          refine r_iald S G 9 rfl (vp_in_nI (by omega) (by decide)) rfl dX4_pop_113 ?_
          refine k_itE (fun y_13 => ?_)
          refine r_put (C := RX8) (T := TX8) (N := 8) (ci := 6) (v := .int y_13) S in_X4_pop_X8 tyX8_ok nmX8 G 2 rfl rfl 7 (by decide) lk_X4_pop_39 rfl (vp_nar_int _) rfl (Nat.le_of_ble_eq_true rfl) dX4_pop_114 (fun H locs G => ?_)
          obtain ⟨dv_14, G⟩ : ∃ dv_14 : Nat → Int32, wd X (va_A (rcV X hn an sv dv n0 n1 n2 n3 n4 g0 gs gn gm) sz) (va_A (rcV X hn an sv dv n0 n1 n2 n3 n4 g0 gs gn gm) sz) s (rcV X hn an sv dv_14 n0 n_2 n2 n3 n4 g0 gs gn gm) H locs := ⟨upd dv_12 14 y_13, G⟩
          refine lv_iinc (v := 1) (lv' := [(3, .int 1), (4, .int (nI (((n_2 * 31) + 1) + (0 * 5)))), (2, .int (nI (n_2 * 31))), (0, .ref (an 7)), (1, .ref (an 0))]) zx zb dX4_pop_117 hl (k := 1) rfl (by decide) (by decide) rfl (fun ls hl => ?_)
          refine lv_goto (tgt := 29) zx zb dX4_pop_120 (by decide) ?_
          have hl := lv_sub hl (l' := [(3, .int 1), (2, .int (nI (n_2 * 31))), (0, .ref (an 7)), (1, .ref (an 0))]) [0, 2, 3, 4] rfl
          exact ih29 1 dv_14 _ _ _ (by omega) (by omega) G hl
        · refine k_it (v := 1) rfl ?_
          refine r_aald (C := RX8) (b := (an 2)) S G 1 3 rfl rfl (k_vp (by decide)) rfl dX4_pop_46 ?_
          refine lv_aload_n zx zb dX4_pop_47 rfl (lv_at hl 3 rfl) ?_
          refine r_get (C := RX4) (T := TX4) (N := 2) (ci := 2) (v := .ref (an 8)) S in_X4_pop_X4 G 8 rfl rfl 0 (by decide) lk_X4_pop_11 rfl dX4_pop_48 ?_
          refine lv_iload zx zb dX4_pop_51 (lv_at hl 0 rfl) ?_
          refine r_iald S G 9 rfl (vp_in_nI (by omega) (by decide)) rfl dX4_pop_53 ?_
          refine k_itE (fun y_15 => ?_)
          refine r_put (C := RX8) (T := TX8) (N := 8) (ci := 6) (v := .int y_15) S in_X4_pop_X8 tyX8_ok nmX8 G 3 rfl rfl 3 (by decide) lk_X4_pop_25 rfl (vp_nar_int _) rfl (Nat.le_of_ble_eq_true rfl) dX4_pop_54 (fun H locs G => ?_)
          obtain ⟨dv_16, G⟩ : ∃ dv_16 : Nat → Int32, wd X (va_A (rcV X hn an sv dv n0 n1 n2 n3 n4 g0 gs gn gm) sz) (va_A (rcV X hn an sv dv n0 n1 n2 n3 n4 g0 gs gn gm) sz) s (rcV X hn an sv dv_16 n0 n_2 n2 n3 n4 g0 gs gn gm) H locs := ⟨upd dv29_0 15 y_15, G⟩
          refine lv_aload_n zx zb dX4_pop_57 rfl (lv_at hl 4 rfl) ?_
          refine lv_iload_n zx zb dX4_pop_58 rfl (lv_at hl 1 rfl) ?_
          refine r_aald (C := RX8) (b := (an 2)) S G 1 3 rfl rfl (k_vp (by decide)) rfl dX4_pop_59 ?_
          refine lv_aload_n zx zb dX4_pop_60 rfl (lv_at hl 3 rfl) ?_
          refine r_get (C := RX4) (T := TX4) (N := 2) (ci := 2) (v := .ref (an 8)) S in_X4_pop_X4 G 8 rfl rfl 0 (by decide) lk_X4_pop_11 rfl dX4_pop_61 ?_
          refine lv_iload zx zb dX4_pop_64 (lv_at hl 0 rfl) ?_
          refine lv_iconst (v := 1) zx zb dX4_pop_66 (by decide) ?_
          refine r_iadd (v := (nI ((((n_2 * 31) + 1) + (1 * 5)) + 1))) S (nI_add (((n_2 * 31) + 1) + (1 * 5)) 1) dX4_pop_67 ?_
          refine r_iald S G 9 rfl (vp_in_nI (by omega) (by decide)) rfl dX4_pop_68 ?_
          refine k_itE (fun y_17 => ?_)
          refine r_put (C := RX8) (T := TX8) (N := 8) (ci := 6) (v := .int y_17) S in_X4_pop_X8 tyX8_ok nmX8 G 3 rfl rfl 4 (by decide) lk_X4_pop_30 rfl (vp_nar_int _) rfl (Nat.le_of_ble_eq_true rfl) dX4_pop_69 (fun H locs G => ?_)
          obtain ⟨dv_18, G⟩ : ∃ dv_18 : Nat → Int32, wd X (va_A (rcV X hn an sv dv n0 n1 n2 n3 n4 g0 gs gn gm) sz) (va_A (rcV X hn an sv dv n0 n1 n2 n3 n4 g0 gs gn gm) sz) s (rcV X hn an sv dv_18 n0 n_2 n2 n3 n4 g0 gs gn gm) H locs := ⟨upd dv_16 16 y_17, G⟩
          refine lv_aload_n zx zb dX4_pop_72 rfl (lv_at hl 4 rfl) ?_
          refine lv_iload_n zx zb dX4_pop_73 rfl (lv_at hl 1 rfl) ?_
          refine r_aald (C := RX8) (b := (an 2)) S G 1 3 rfl rfl (k_vp (by decide)) rfl dX4_pop_74 ?_
          refine lv_aload_n zx zb dX4_pop_75 rfl (lv_at hl 3 rfl) ?_
          refine r_get (C := RX4) (T := TX4) (N := 2) (ci := 2) (v := .ref (an 8)) S in_X4_pop_X4 G 8 rfl rfl 0 (by decide) lk_X4_pop_11 rfl dX4_pop_76 ?_
          refine lv_iload zx zb dX4_pop_79 (lv_at hl 0 rfl) ?_
          refine lv_iconst (v := 2) zx zb dX4_pop_81 (by decide) ?_
          refine r_iadd (v := (nI ((((n_2 * 31) + 1) + (1 * 5)) + 2))) S (nI_add (((n_2 * 31) + 1) + (1 * 5)) 2) dX4_pop_82 ?_
          refine r_iald S G 9 rfl (vp_in_nI (by omega) (by decide)) rfl dX4_pop_83 ?_
          refine k_itE (fun y_19 => ?_)
          refine r_put (C := RX8) (T := TX8) (N := 8) (ci := 6) (v := .int y_19) S in_X4_pop_X8 tyX8_ok nmX8 G 3 rfl rfl 5 (by decide) lk_X4_pop_33 rfl (vp_nar_int _) rfl (Nat.le_of_ble_eq_true rfl) dX4_pop_84 (fun H locs G => ?_)
          obtain ⟨dv_20, G⟩ : ∃ dv_20 : Nat → Int32, wd X (va_A (rcV X hn an sv dv n0 n1 n2 n3 n4 g0 gs gn gm) sz) (va_A (rcV X hn an sv dv n0 n1 n2 n3 n4 g0 gs gn gm) sz) s (rcV X hn an sv dv_20 n0 n_2 n2 n3 n4 g0 gs gn gm) H locs := ⟨upd dv_18 17 y_19, G⟩
          refine lv_aload_n zx zb dX4_pop_87 rfl (lv_at hl 4 rfl) ?_
          refine lv_iload_n zx zb dX4_pop_88 rfl (lv_at hl 1 rfl) ?_
          refine r_aald (C := RX8) (b := (an 2)) S G 1 3 rfl rfl (k_vp (by decide)) rfl dX4_pop_89 ?_
          refine lv_aload_n zx zb dX4_pop_90 rfl (lv_at hl 3 rfl) ?_
          refine r_get (C := RX4) (T := TX4) (N := 2) (ci := 2) (v := .ref (an 8)) S in_X4_pop_X4 G 8 rfl rfl 0 (by decide) lk_X4_pop_11 rfl dX4_pop_91 ?_
          refine lv_iload zx zb dX4_pop_94 (lv_at hl 0 rfl) ?_
          refine lv_iconst (v := 3) zx zb dX4_pop_96 (by decide) ?_
          refine r_iadd (v := (nI ((((n_2 * 31) + 1) + (1 * 5)) + 3))) S (nI_add (((n_2 * 31) + 1) + (1 * 5)) 3) dX4_pop_97 ?_
          refine r_iald S G 9 rfl (vp_in_nI (by omega) (by decide)) rfl dX4_pop_98 ?_
          refine k_itE (fun y_21 => ?_)
          refine r_put (C := RX8) (T := TX8) (N := 8) (ci := 6) (v := .int y_21) S in_X4_pop_X8 tyX8_ok nmX8 G 3 rfl rfl 6 (by decide) lk_X4_pop_36 rfl (vp_nar_int _) rfl (Nat.le_of_ble_eq_true rfl) dX4_pop_99 (fun H locs G => ?_)
          obtain ⟨dv_22, G⟩ : ∃ dv_22 : Nat → Int32, wd X (va_A (rcV X hn an sv dv n0 n1 n2 n3 n4 g0 gs gn gm) sz) (va_A (rcV X hn an sv dv n0 n1 n2 n3 n4 g0 gs gn gm) sz) s (rcV X hn an sv dv_22 n0 n_2 n2 n3 n4 g0 gs gn gm) H locs := ⟨upd dv_20 18 y_21, G⟩
          refine lv_aload_n zx zb dX4_pop_102 rfl (lv_at hl 4 rfl) ?_
          refine lv_iload_n zx zb dX4_pop_103 rfl (lv_at hl 1 rfl) ?_
          refine r_aald (C := RX8) (b := (an 2)) S G 1 3 rfl rfl (k_vp (by decide)) rfl dX4_pop_104 ?_
          refine lv_aload_n zx zb dX4_pop_105 rfl (lv_at hl 3 rfl) ?_
          refine r_get (C := RX4) (T := TX4) (N := 2) (ci := 2) (v := .ref (an 8)) S in_X4_pop_X4 G 8 rfl rfl 0 (by decide) lk_X4_pop_11 rfl dX4_pop_106 ?_
          refine lv_iload zx zb dX4_pop_109 (lv_at hl 0 rfl) ?_
          refine lv_iconst (v := 4) zx zb dX4_pop_111 (by decide) ?_
          refine r_iadd (v := (nI ((((n_2 * 31) + 1) + (1 * 5)) + 4))) S (nI_add (((n_2 * 31) + 1) + (1 * 5)) 4) dX4_pop_112 ?_
          refine r_iald S G 9 rfl (vp_in_nI (by omega) (by decide)) rfl dX4_pop_113 ?_
          refine k_itE (fun y_23 => ?_)
          refine r_put (C := RX8) (T := TX8) (N := 8) (ci := 6) (v := .int y_23) S in_X4_pop_X8 tyX8_ok nmX8 G 3 rfl rfl 7 (by decide) lk_X4_pop_39 rfl (vp_nar_int _) rfl (Nat.le_of_ble_eq_true rfl) dX4_pop_114 (fun H locs G => ?_)
          obtain ⟨dv_24, G⟩ : ∃ dv_24 : Nat → Int32, wd X (va_A (rcV X hn an sv dv n0 n1 n2 n3 n4 g0 gs gn gm) sz) (va_A (rcV X hn an sv dv n0 n1 n2 n3 n4 g0 gs gn gm) sz) s (rcV X hn an sv dv_24 n0 n_2 n2 n3 n4 g0 gs gn gm) H locs := ⟨upd dv_22 19 y_23, G⟩
          refine lv_iinc (v := 2) (lv' := [(3, .int 2), (4, .int (nI (((n_2 * 31) + 1) + (1 * 5)))), (2, .int (nI (n_2 * 31))), (0, .ref (an 7)), (1, .ref (an 0))]) zx zb dX4_pop_117 hl (k := 1) rfl (by decide) (by decide) rfl (fun ls hl => ?_)
          refine lv_goto (tgt := 29) zx zb dX4_pop_120 (by decide) ?_
          have hl := lv_sub hl (l' := [(3, .int 2), (2, .int (nI (n_2 * 31))), (0, .ref (an 7)), (1, .ref (an 0))]) [0, 2, 3, 4] rfl
          exact ih29 2 dv_24 _ _ _ (by omega) (by omega) G hl
        · refine k_it (v := 2) rfl ?_
          refine r_aald (C := RX8) (b := (an 3)) S G 1 3 rfl rfl (k_vp (by decide)) rfl dX4_pop_46 ?_
          refine lv_aload_n zx zb dX4_pop_47 rfl (lv_at hl 3 rfl) ?_
          refine r_get (C := RX4) (T := TX4) (N := 2) (ci := 2) (v := .ref (an 8)) S in_X4_pop_X4 G 8 rfl rfl 0 (by decide) lk_X4_pop_11 rfl dX4_pop_48 ?_
          refine lv_iload zx zb dX4_pop_51 (lv_at hl 0 rfl) ?_
          refine r_iald S G 9 rfl (vp_in_nI (by omega) (by decide)) rfl dX4_pop_53 ?_
          refine k_itE (fun y_25 => ?_)
          refine r_put (C := RX8) (T := TX8) (N := 8) (ci := 6) (v := .int y_25) S in_X4_pop_X8 tyX8_ok nmX8 G 4 rfl rfl 3 (by decide) lk_X4_pop_25 rfl (vp_nar_int _) rfl (Nat.le_of_ble_eq_true rfl) dX4_pop_54 (fun H locs G => ?_)
          obtain ⟨dv_26, G⟩ : ∃ dv_26 : Nat → Int32, wd X (va_A (rcV X hn an sv dv n0 n1 n2 n3 n4 g0 gs gn gm) sz) (va_A (rcV X hn an sv dv n0 n1 n2 n3 n4 g0 gs gn gm) sz) s (rcV X hn an sv dv_26 n0 n_2 n2 n3 n4 g0 gs gn gm) H locs := ⟨upd dv29_0 20 y_25, G⟩
          refine lv_aload_n zx zb dX4_pop_57 rfl (lv_at hl 4 rfl) ?_
          refine lv_iload_n zx zb dX4_pop_58 rfl (lv_at hl 1 rfl) ?_
          refine r_aald (C := RX8) (b := (an 3)) S G 1 3 rfl rfl (k_vp (by decide)) rfl dX4_pop_59 ?_
          refine lv_aload_n zx zb dX4_pop_60 rfl (lv_at hl 3 rfl) ?_
          refine r_get (C := RX4) (T := TX4) (N := 2) (ci := 2) (v := .ref (an 8)) S in_X4_pop_X4 G 8 rfl rfl 0 (by decide) lk_X4_pop_11 rfl dX4_pop_61 ?_
          refine lv_iload zx zb dX4_pop_64 (lv_at hl 0 rfl) ?_
          refine lv_iconst (v := 1) zx zb dX4_pop_66 (by decide) ?_
          refine r_iadd (v := (nI ((((n_2 * 31) + 1) + (2 * 5)) + 1))) S (nI_add (((n_2 * 31) + 1) + (2 * 5)) 1) dX4_pop_67 ?_
          refine r_iald S G 9 rfl (vp_in_nI (by omega) (by decide)) rfl dX4_pop_68 ?_
          refine k_itE (fun y_27 => ?_)
          refine r_put (C := RX8) (T := TX8) (N := 8) (ci := 6) (v := .int y_27) S in_X4_pop_X8 tyX8_ok nmX8 G 4 rfl rfl 4 (by decide) lk_X4_pop_30 rfl (vp_nar_int _) rfl (Nat.le_of_ble_eq_true rfl) dX4_pop_69 (fun H locs G => ?_)
          obtain ⟨dv_28, G⟩ : ∃ dv_28 : Nat → Int32, wd X (va_A (rcV X hn an sv dv n0 n1 n2 n3 n4 g0 gs gn gm) sz) (va_A (rcV X hn an sv dv n0 n1 n2 n3 n4 g0 gs gn gm) sz) s (rcV X hn an sv dv_28 n0 n_2 n2 n3 n4 g0 gs gn gm) H locs := ⟨upd dv_26 21 y_27, G⟩
          refine lv_aload_n zx zb dX4_pop_72 rfl (lv_at hl 4 rfl) ?_
          refine lv_iload_n zx zb dX4_pop_73 rfl (lv_at hl 1 rfl) ?_
          refine r_aald (C := RX8) (b := (an 3)) S G 1 3 rfl rfl (k_vp (by decide)) rfl dX4_pop_74 ?_
          refine lv_aload_n zx zb dX4_pop_75 rfl (lv_at hl 3 rfl) ?_
          refine r_get (C := RX4) (T := TX4) (N := 2) (ci := 2) (v := .ref (an 8)) S in_X4_pop_X4 G 8 rfl rfl 0 (by decide) lk_X4_pop_11 rfl dX4_pop_76 ?_
          refine lv_iload zx zb dX4_pop_79 (lv_at hl 0 rfl) ?_
          refine lv_iconst (v := 2) zx zb dX4_pop_81 (by decide) ?_
          refine r_iadd (v := (nI ((((n_2 * 31) + 1) + (2 * 5)) + 2))) S (nI_add (((n_2 * 31) + 1) + (2 * 5)) 2) dX4_pop_82 ?_
          refine r_iald S G 9 rfl (vp_in_nI (by omega) (by decide)) rfl dX4_pop_83 ?_
          refine k_itE (fun y_29 => ?_)
          refine r_put (C := RX8) (T := TX8) (N := 8) (ci := 6) (v := .int y_29) S in_X4_pop_X8 tyX8_ok nmX8 G 4 rfl rfl 5 (by decide) lk_X4_pop_33 rfl (vp_nar_int _) rfl (Nat.le_of_ble_eq_true rfl) dX4_pop_84 (fun H locs G => ?_)
          obtain ⟨dv_30, G⟩ : ∃ dv_30 : Nat → Int32, wd X (va_A (rcV X hn an sv dv n0 n1 n2 n3 n4 g0 gs gn gm) sz) (va_A (rcV X hn an sv dv n0 n1 n2 n3 n4 g0 gs gn gm) sz) s (rcV X hn an sv dv_30 n0 n_2 n2 n3 n4 g0 gs gn gm) H locs := ⟨upd dv_28 22 y_29, G⟩
          refine lv_aload_n zx zb dX4_pop_87 rfl (lv_at hl 4 rfl) ?_
          refine lv_iload_n zx zb dX4_pop_88 rfl (lv_at hl 1 rfl) ?_
          refine r_aald (C := RX8) (b := (an 3)) S G 1 3 rfl rfl (k_vp (by decide)) rfl dX4_pop_89 ?_
          refine lv_aload_n zx zb dX4_pop_90 rfl (lv_at hl 3 rfl) ?_
          refine r_get (C := RX4) (T := TX4) (N := 2) (ci := 2) (v := .ref (an 8)) S in_X4_pop_X4 G 8 rfl rfl 0 (by decide) lk_X4_pop_11 rfl dX4_pop_91 ?_
          refine lv_iload zx zb dX4_pop_94 (lv_at hl 0 rfl) ?_
          refine lv_iconst (v := 3) zx zb dX4_pop_96 (by decide) ?_
          refine r_iadd (v := (nI ((((n_2 * 31) + 1) + (2 * 5)) + 3))) S (nI_add (((n_2 * 31) + 1) + (2 * 5)) 3) dX4_pop_97 ?_
          refine r_iald S G 9 rfl (vp_in_nI (by omega) (by decide)) rfl dX4_pop_98 ?_
          refine k_itE (fun y_31 => ?_)
          refine r_put (C := RX8) (T := TX8) (N := 8) (ci := 6) (v := .int y_31) S in_X4_pop_X8 tyX8_ok nmX8 G 4 rfl rfl 6 (by decide) lk_X4_pop_36 rfl (vp_nar_int _) rfl (Nat.le_of_ble_eq_true rfl) dX4_pop_99 (fun H locs G => ?_)
          obtain ⟨dv_32, G⟩ : ∃ dv_32 : Nat → Int32, wd X (va_A (rcV X hn an sv dv n0 n1 n2 n3 n4 g0 gs gn gm) sz) (va_A (rcV X hn an sv dv n0 n1 n2 n3 n4 g0 gs gn gm) sz) s (rcV X hn an sv dv_32 n0 n_2 n2 n3 n4 g0 gs gn gm) H locs := ⟨upd dv_30 23 y_31, G⟩
          refine lv_aload_n zx zb dX4_pop_102 rfl (lv_at hl 4 rfl) ?_
          refine lv_iload_n zx zb dX4_pop_103 rfl (lv_at hl 1 rfl) ?_
          refine r_aald (C := RX8) (b := (an 3)) S G 1 3 rfl rfl (k_vp (by decide)) rfl dX4_pop_104 ?_
          refine lv_aload_n zx zb dX4_pop_105 rfl (lv_at hl 3 rfl) ?_
          refine r_get (C := RX4) (T := TX4) (N := 2) (ci := 2) (v := .ref (an 8)) S in_X4_pop_X4 G 8 rfl rfl 0 (by decide) lk_X4_pop_11 rfl dX4_pop_106 ?_
          refine lv_iload zx zb dX4_pop_109 (lv_at hl 0 rfl) ?_
          refine lv_iconst (v := 4) zx zb dX4_pop_111 (by decide) ?_
          refine r_iadd (v := (nI ((((n_2 * 31) + 1) + (2 * 5)) + 4))) S (nI_add (((n_2 * 31) + 1) + (2 * 5)) 4) dX4_pop_112 ?_
          refine r_iald S G 9 rfl (vp_in_nI (by omega) (by decide)) rfl dX4_pop_113 ?_
          refine k_itE (fun y_33 => ?_)
          refine r_put (C := RX8) (T := TX8) (N := 8) (ci := 6) (v := .int y_33) S in_X4_pop_X8 tyX8_ok nmX8 G 4 rfl rfl 7 (by decide) lk_X4_pop_39 rfl (vp_nar_int _) rfl (Nat.le_of_ble_eq_true rfl) dX4_pop_114 (fun H locs G => ?_)
          obtain ⟨dv_34, G⟩ : ∃ dv_34 : Nat → Int32, wd X (va_A (rcV X hn an sv dv n0 n1 n2 n3 n4 g0 gs gn gm) sz) (va_A (rcV X hn an sv dv n0 n1 n2 n3 n4 g0 gs gn gm) sz) s (rcV X hn an sv dv_34 n0 n_2 n2 n3 n4 g0 gs gn gm) H locs := ⟨upd dv_32 24 y_33, G⟩
          refine lv_iinc (v := 3) (lv' := [(3, .int 3), (4, .int (nI (((n_2 * 31) + 1) + (2 * 5)))), (2, .int (nI (n_2 * 31))), (0, .ref (an 7)), (1, .ref (an 0))]) zx zb dX4_pop_117 hl (k := 1) rfl (by decide) (by decide) rfl (fun ls hl => ?_)
          refine lv_goto (tgt := 29) zx zb dX4_pop_120 (by decide) ?_
          have hl := lv_sub hl (l' := [(3, .int 3), (2, .int (nI (n_2 * 31))), (0, .ref (an 7)), (1, .ref (an 0))]) [0, 2, 3, 4] rfl
          exact ih29 3 dv_34 _ _ _ (by omega) (by omega) G hl
        · refine k_it (v := 3) rfl ?_
          refine r_aald (C := RX8) (b := (an 4)) S G 1 3 rfl rfl (k_vp (by decide)) rfl dX4_pop_46 ?_
          refine lv_aload_n zx zb dX4_pop_47 rfl (lv_at hl 3 rfl) ?_
          refine r_get (C := RX4) (T := TX4) (N := 2) (ci := 2) (v := .ref (an 8)) S in_X4_pop_X4 G 8 rfl rfl 0 (by decide) lk_X4_pop_11 rfl dX4_pop_48 ?_
          refine lv_iload zx zb dX4_pop_51 (lv_at hl 0 rfl) ?_
          refine r_iald S G 9 rfl (vp_in_nI (by omega) (by decide)) rfl dX4_pop_53 ?_
          refine k_itE (fun y_35 => ?_)
          refine r_put (C := RX8) (T := TX8) (N := 8) (ci := 6) (v := .int y_35) S in_X4_pop_X8 tyX8_ok nmX8 G 5 rfl rfl 3 (by decide) lk_X4_pop_25 rfl (vp_nar_int _) rfl (Nat.le_of_ble_eq_true rfl) dX4_pop_54 (fun H locs G => ?_)
          obtain ⟨dv_36, G⟩ : ∃ dv_36 : Nat → Int32, wd X (va_A (rcV X hn an sv dv n0 n1 n2 n3 n4 g0 gs gn gm) sz) (va_A (rcV X hn an sv dv n0 n1 n2 n3 n4 g0 gs gn gm) sz) s (rcV X hn an sv dv_36 n0 n_2 n2 n3 n4 g0 gs gn gm) H locs := ⟨upd dv29_0 25 y_35, G⟩
          refine lv_aload_n zx zb dX4_pop_57 rfl (lv_at hl 4 rfl) ?_
          refine lv_iload_n zx zb dX4_pop_58 rfl (lv_at hl 1 rfl) ?_
          refine r_aald (C := RX8) (b := (an 4)) S G 1 3 rfl rfl (k_vp (by decide)) rfl dX4_pop_59 ?_
          refine lv_aload_n zx zb dX4_pop_60 rfl (lv_at hl 3 rfl) ?_
          refine r_get (C := RX4) (T := TX4) (N := 2) (ci := 2) (v := .ref (an 8)) S in_X4_pop_X4 G 8 rfl rfl 0 (by decide) lk_X4_pop_11 rfl dX4_pop_61 ?_
          refine lv_iload zx zb dX4_pop_64 (lv_at hl 0 rfl) ?_
          refine lv_iconst (v := 1) zx zb dX4_pop_66 (by decide) ?_
          refine r_iadd (v := (nI ((((n_2 * 31) + 1) + (3 * 5)) + 1))) S (nI_add (((n_2 * 31) + 1) + (3 * 5)) 1) dX4_pop_67 ?_
          refine r_iald S G 9 rfl (vp_in_nI (by omega) (by decide)) rfl dX4_pop_68 ?_
          refine k_itE (fun y_37 => ?_)
          refine r_put (C := RX8) (T := TX8) (N := 8) (ci := 6) (v := .int y_37) S in_X4_pop_X8 tyX8_ok nmX8 G 5 rfl rfl 4 (by decide) lk_X4_pop_30 rfl (vp_nar_int _) rfl (Nat.le_of_ble_eq_true rfl) dX4_pop_69 (fun H locs G => ?_)
          obtain ⟨dv_38, G⟩ : ∃ dv_38 : Nat → Int32, wd X (va_A (rcV X hn an sv dv n0 n1 n2 n3 n4 g0 gs gn gm) sz) (va_A (rcV X hn an sv dv n0 n1 n2 n3 n4 g0 gs gn gm) sz) s (rcV X hn an sv dv_38 n0 n_2 n2 n3 n4 g0 gs gn gm) H locs := ⟨upd dv_36 26 y_37, G⟩
          refine lv_aload_n zx zb dX4_pop_72 rfl (lv_at hl 4 rfl) ?_
          refine lv_iload_n zx zb dX4_pop_73 rfl (lv_at hl 1 rfl) ?_
          refine r_aald (C := RX8) (b := (an 4)) S G 1 3 rfl rfl (k_vp (by decide)) rfl dX4_pop_74 ?_
          refine lv_aload_n zx zb dX4_pop_75 rfl (lv_at hl 3 rfl) ?_
          refine r_get (C := RX4) (T := TX4) (N := 2) (ci := 2) (v := .ref (an 8)) S in_X4_pop_X4 G 8 rfl rfl 0 (by decide) lk_X4_pop_11 rfl dX4_pop_76 ?_
          refine lv_iload zx zb dX4_pop_79 (lv_at hl 0 rfl) ?_
          refine lv_iconst (v := 2) zx zb dX4_pop_81 (by decide) ?_
          refine r_iadd (v := (nI ((((n_2 * 31) + 1) + (3 * 5)) + 2))) S (nI_add (((n_2 * 31) + 1) + (3 * 5)) 2) dX4_pop_82 ?_
          refine r_iald S G 9 rfl (vp_in_nI (by omega) (by decide)) rfl dX4_pop_83 ?_
          refine k_itE (fun y_39 => ?_)
          refine r_put (C := RX8) (T := TX8) (N := 8) (ci := 6) (v := .int y_39) S in_X4_pop_X8 tyX8_ok nmX8 G 5 rfl rfl 5 (by decide) lk_X4_pop_33 rfl (vp_nar_int _) rfl (Nat.le_of_ble_eq_true rfl) dX4_pop_84 (fun H locs G => ?_)
          obtain ⟨dv_40, G⟩ : ∃ dv_40 : Nat → Int32, wd X (va_A (rcV X hn an sv dv n0 n1 n2 n3 n4 g0 gs gn gm) sz) (va_A (rcV X hn an sv dv n0 n1 n2 n3 n4 g0 gs gn gm) sz) s (rcV X hn an sv dv_40 n0 n_2 n2 n3 n4 g0 gs gn gm) H locs := ⟨upd dv_38 27 y_39, G⟩
          refine lv_aload_n zx zb dX4_pop_87 rfl (lv_at hl 4 rfl) ?_
          refine lv_iload_n zx zb dX4_pop_88 rfl (lv_at hl 1 rfl) ?_
          refine r_aald (C := RX8) (b := (an 4)) S G 1 3 rfl rfl (k_vp (by decide)) rfl dX4_pop_89 ?_
          refine lv_aload_n zx zb dX4_pop_90 rfl (lv_at hl 3 rfl) ?_
          refine r_get (C := RX4) (T := TX4) (N := 2) (ci := 2) (v := .ref (an 8)) S in_X4_pop_X4 G 8 rfl rfl 0 (by decide) lk_X4_pop_11 rfl dX4_pop_91 ?_
          refine lv_iload zx zb dX4_pop_94 (lv_at hl 0 rfl) ?_
          refine lv_iconst (v := 3) zx zb dX4_pop_96 (by decide) ?_
          refine r_iadd (v := (nI ((((n_2 * 31) + 1) + (3 * 5)) + 3))) S (nI_add (((n_2 * 31) + 1) + (3 * 5)) 3) dX4_pop_97 ?_
          refine r_iald S G 9 rfl (vp_in_nI (by omega) (by decide)) rfl dX4_pop_98 ?_
          refine k_itE (fun y_41 => ?_)
          refine r_put (C := RX8) (T := TX8) (N := 8) (ci := 6) (v := .int y_41) S in_X4_pop_X8 tyX8_ok nmX8 G 5 rfl rfl 6 (by decide) lk_X4_pop_36 rfl (vp_nar_int _) rfl (Nat.le_of_ble_eq_true rfl) dX4_pop_99 (fun H locs G => ?_)
          obtain ⟨dv_42, G⟩ : ∃ dv_42 : Nat → Int32, wd X (va_A (rcV X hn an sv dv n0 n1 n2 n3 n4 g0 gs gn gm) sz) (va_A (rcV X hn an sv dv n0 n1 n2 n3 n4 g0 gs gn gm) sz) s (rcV X hn an sv dv_42 n0 n_2 n2 n3 n4 g0 gs gn gm) H locs := ⟨upd dv_40 28 y_41, G⟩
          refine lv_aload_n zx zb dX4_pop_102 rfl (lv_at hl 4 rfl) ?_
          refine lv_iload_n zx zb dX4_pop_103 rfl (lv_at hl 1 rfl) ?_
          refine r_aald (C := RX8) (b := (an 4)) S G 1 3 rfl rfl (k_vp (by decide)) rfl dX4_pop_104 ?_
          refine lv_aload_n zx zb dX4_pop_105 rfl (lv_at hl 3 rfl) ?_
          refine r_get (C := RX4) (T := TX4) (N := 2) (ci := 2) (v := .ref (an 8)) S in_X4_pop_X4 G 8 rfl rfl 0 (by decide) lk_X4_pop_11 rfl dX4_pop_106 ?_
          refine lv_iload zx zb dX4_pop_109 (lv_at hl 0 rfl) ?_
          refine lv_iconst (v := 4) zx zb dX4_pop_111 (by decide) ?_
          refine r_iadd (v := (nI ((((n_2 * 31) + 1) + (3 * 5)) + 4))) S (nI_add (((n_2 * 31) + 1) + (3 * 5)) 4) dX4_pop_112 ?_
          refine r_iald S G 9 rfl (vp_in_nI (by omega) (by decide)) rfl dX4_pop_113 ?_
          refine k_itE (fun y_43 => ?_)
          refine r_put (C := RX8) (T := TX8) (N := 8) (ci := 6) (v := .int y_43) S in_X4_pop_X8 tyX8_ok nmX8 G 5 rfl rfl 7 (by decide) lk_X4_pop_39 rfl (vp_nar_int _) rfl (Nat.le_of_ble_eq_true rfl) dX4_pop_114 (fun H locs G => ?_)
          obtain ⟨dv_44, G⟩ : ∃ dv_44 : Nat → Int32, wd X (va_A (rcV X hn an sv dv n0 n1 n2 n3 n4 g0 gs gn gm) sz) (va_A (rcV X hn an sv dv n0 n1 n2 n3 n4 g0 gs gn gm) sz) s (rcV X hn an sv dv_44 n0 n_2 n2 n3 n4 g0 gs gn gm) H locs := ⟨upd dv_42 29 y_43, G⟩
          refine lv_iinc (v := 4) (lv' := [(3, .int 4), (4, .int (nI (((n_2 * 31) + 1) + (3 * 5)))), (2, .int (nI (n_2 * 31))), (0, .ref (an 7)), (1, .ref (an 0))]) zx zb dX4_pop_117 hl (k := 1) rfl (by decide) (by decide) rfl (fun ls hl => ?_)
          refine lv_goto (tgt := 29) zx zb dX4_pop_120 (by decide) ?_
          have hl := lv_sub hl (l' := [(3, .int 4), (2, .int (nI (n_2 * 31))), (0, .ref (an 7)), (1, .ref (an 0))]) [0, 2, 3, 4] rfl
          exact ih29 4 dv_44 _ _ _ (by omega) (by omega) G hl
        · refine k_it (v := 4) rfl ?_
          refine r_aald (C := RX8) (b := (an 5)) S G 1 3 rfl rfl (k_vp (by decide)) rfl dX4_pop_46 ?_
          refine lv_aload_n zx zb dX4_pop_47 rfl (lv_at hl 3 rfl) ?_
          refine r_get (C := RX4) (T := TX4) (N := 2) (ci := 2) (v := .ref (an 8)) S in_X4_pop_X4 G 8 rfl rfl 0 (by decide) lk_X4_pop_11 rfl dX4_pop_48 ?_
          refine lv_iload zx zb dX4_pop_51 (lv_at hl 0 rfl) ?_
          refine r_iald S G 9 rfl (vp_in_nI (by omega) (by decide)) rfl dX4_pop_53 ?_
          refine k_itE (fun y_45 => ?_)
          refine r_put (C := RX8) (T := TX8) (N := 8) (ci := 6) (v := .int y_45) S in_X4_pop_X8 tyX8_ok nmX8 G 6 rfl rfl 3 (by decide) lk_X4_pop_25 rfl (vp_nar_int _) rfl (Nat.le_of_ble_eq_true rfl) dX4_pop_54 (fun H locs G => ?_)
          obtain ⟨dv_46, G⟩ : ∃ dv_46 : Nat → Int32, wd X (va_A (rcV X hn an sv dv n0 n1 n2 n3 n4 g0 gs gn gm) sz) (va_A (rcV X hn an sv dv n0 n1 n2 n3 n4 g0 gs gn gm) sz) s (rcV X hn an sv dv_46 n0 n_2 n2 n3 n4 g0 gs gn gm) H locs := ⟨upd dv29_0 30 y_45, G⟩
          refine lv_aload_n zx zb dX4_pop_57 rfl (lv_at hl 4 rfl) ?_
          refine lv_iload_n zx zb dX4_pop_58 rfl (lv_at hl 1 rfl) ?_
          refine r_aald (C := RX8) (b := (an 5)) S G 1 3 rfl rfl (k_vp (by decide)) rfl dX4_pop_59 ?_
          refine lv_aload_n zx zb dX4_pop_60 rfl (lv_at hl 3 rfl) ?_
          refine r_get (C := RX4) (T := TX4) (N := 2) (ci := 2) (v := .ref (an 8)) S in_X4_pop_X4 G 8 rfl rfl 0 (by decide) lk_X4_pop_11 rfl dX4_pop_61 ?_
          refine lv_iload zx zb dX4_pop_64 (lv_at hl 0 rfl) ?_
          refine lv_iconst (v := 1) zx zb dX4_pop_66 (by decide) ?_
          refine r_iadd (v := (nI ((((n_2 * 31) + 1) + (4 * 5)) + 1))) S (nI_add (((n_2 * 31) + 1) + (4 * 5)) 1) dX4_pop_67 ?_
          refine r_iald S G 9 rfl (vp_in_nI (by omega) (by decide)) rfl dX4_pop_68 ?_
          refine k_itE (fun y_47 => ?_)
          refine r_put (C := RX8) (T := TX8) (N := 8) (ci := 6) (v := .int y_47) S in_X4_pop_X8 tyX8_ok nmX8 G 6 rfl rfl 4 (by decide) lk_X4_pop_30 rfl (vp_nar_int _) rfl (Nat.le_of_ble_eq_true rfl) dX4_pop_69 (fun H locs G => ?_)
          obtain ⟨dv_48, G⟩ : ∃ dv_48 : Nat → Int32, wd X (va_A (rcV X hn an sv dv n0 n1 n2 n3 n4 g0 gs gn gm) sz) (va_A (rcV X hn an sv dv n0 n1 n2 n3 n4 g0 gs gn gm) sz) s (rcV X hn an sv dv_48 n0 n_2 n2 n3 n4 g0 gs gn gm) H locs := ⟨upd dv_46 31 y_47, G⟩
          refine lv_aload_n zx zb dX4_pop_72 rfl (lv_at hl 4 rfl) ?_
          refine lv_iload_n zx zb dX4_pop_73 rfl (lv_at hl 1 rfl) ?_
          refine r_aald (C := RX8) (b := (an 5)) S G 1 3 rfl rfl (k_vp (by decide)) rfl dX4_pop_74 ?_
          refine lv_aload_n zx zb dX4_pop_75 rfl (lv_at hl 3 rfl) ?_
          refine r_get (C := RX4) (T := TX4) (N := 2) (ci := 2) (v := .ref (an 8)) S in_X4_pop_X4 G 8 rfl rfl 0 (by decide) lk_X4_pop_11 rfl dX4_pop_76 ?_
          refine lv_iload zx zb dX4_pop_79 (lv_at hl 0 rfl) ?_
          refine lv_iconst (v := 2) zx zb dX4_pop_81 (by decide) ?_
          refine r_iadd (v := (nI ((((n_2 * 31) + 1) + (4 * 5)) + 2))) S (nI_add (((n_2 * 31) + 1) + (4 * 5)) 2) dX4_pop_82 ?_
          refine r_iald S G 9 rfl (vp_in_nI (by omega) (by decide)) rfl dX4_pop_83 ?_
          refine k_itE (fun y_49 => ?_)
          refine r_put (C := RX8) (T := TX8) (N := 8) (ci := 6) (v := .int y_49) S in_X4_pop_X8 tyX8_ok nmX8 G 6 rfl rfl 5 (by decide) lk_X4_pop_33 rfl (vp_nar_int _) rfl (Nat.le_of_ble_eq_true rfl) dX4_pop_84 (fun H locs G => ?_)
          obtain ⟨dv_50, G⟩ : ∃ dv_50 : Nat → Int32, wd X (va_A (rcV X hn an sv dv n0 n1 n2 n3 n4 g0 gs gn gm) sz) (va_A (rcV X hn an sv dv n0 n1 n2 n3 n4 g0 gs gn gm) sz) s (rcV X hn an sv dv_50 n0 n_2 n2 n3 n4 g0 gs gn gm) H locs := ⟨upd dv_48 32 y_49, G⟩
          refine lv_aload_n zx zb dX4_pop_87 rfl (lv_at hl 4 rfl) ?_
          refine lv_iload_n zx zb dX4_pop_88 rfl (lv_at hl 1 rfl) ?_
          refine r_aald (C := RX8) (b := (an 5)) S G 1 3 rfl rfl (k_vp (by decide)) rfl dX4_pop_89 ?_
          refine lv_aload_n zx zb dX4_pop_90 rfl (lv_at hl 3 rfl) ?_
          refine r_get (C := RX4) (T := TX4) (N := 2) (ci := 2) (v := .ref (an 8)) S in_X4_pop_X4 G 8 rfl rfl 0 (by decide) lk_X4_pop_11 rfl dX4_pop_91 ?_
          refine lv_iload zx zb dX4_pop_94 (lv_at hl 0 rfl) ?_
          refine lv_iconst (v := 3) zx zb dX4_pop_96 (by decide) ?_
          refine r_iadd (v := (nI ((((n_2 * 31) + 1) + (4 * 5)) + 3))) S (nI_add (((n_2 * 31) + 1) + (4 * 5)) 3) dX4_pop_97 ?_
          refine r_iald S G 9 rfl (vp_in_nI (by omega) (by decide)) rfl dX4_pop_98 ?_
          refine k_itE (fun y_51 => ?_)
          refine r_put (C := RX8) (T := TX8) (N := 8) (ci := 6) (v := .int y_51) S in_X4_pop_X8 tyX8_ok nmX8 G 6 rfl rfl 6 (by decide) lk_X4_pop_36 rfl (vp_nar_int _) rfl (Nat.le_of_ble_eq_true rfl) dX4_pop_99 (fun H locs G => ?_)
          obtain ⟨dv_52, G⟩ : ∃ dv_52 : Nat → Int32, wd X (va_A (rcV X hn an sv dv n0 n1 n2 n3 n4 g0 gs gn gm) sz) (va_A (rcV X hn an sv dv n0 n1 n2 n3 n4 g0 gs gn gm) sz) s (rcV X hn an sv dv_52 n0 n_2 n2 n3 n4 g0 gs gn gm) H locs := ⟨upd dv_50 33 y_51, G⟩
          refine lv_aload_n zx zb dX4_pop_102 rfl (lv_at hl 4 rfl) ?_
          refine lv_iload_n zx zb dX4_pop_103 rfl (lv_at hl 1 rfl) ?_
          refine r_aald (C := RX8) (b := (an 5)) S G 1 3 rfl rfl (k_vp (by decide)) rfl dX4_pop_104 ?_
          refine lv_aload_n zx zb dX4_pop_105 rfl (lv_at hl 3 rfl) ?_
          refine r_get (C := RX4) (T := TX4) (N := 2) (ci := 2) (v := .ref (an 8)) S in_X4_pop_X4 G 8 rfl rfl 0 (by decide) lk_X4_pop_11 rfl dX4_pop_106 ?_
          refine lv_iload zx zb dX4_pop_109 (lv_at hl 0 rfl) ?_
          refine lv_iconst (v := 4) zx zb dX4_pop_111 (by decide) ?_
          refine r_iadd (v := (nI ((((n_2 * 31) + 1) + (4 * 5)) + 4))) S (nI_add (((n_2 * 31) + 1) + (4 * 5)) 4) dX4_pop_112 ?_
          refine r_iald S G 9 rfl (vp_in_nI (by omega) (by decide)) rfl dX4_pop_113 ?_
          refine k_itE (fun y_53 => ?_)
          refine r_put (C := RX8) (T := TX8) (N := 8) (ci := 6) (v := .int y_53) S in_X4_pop_X8 tyX8_ok nmX8 G 6 rfl rfl 7 (by decide) lk_X4_pop_39 rfl (vp_nar_int _) rfl (Nat.le_of_ble_eq_true rfl) dX4_pop_114 (fun H locs G => ?_)
          obtain ⟨dv_54, G⟩ : ∃ dv_54 : Nat → Int32, wd X (va_A (rcV X hn an sv dv n0 n1 n2 n3 n4 g0 gs gn gm) sz) (va_A (rcV X hn an sv dv n0 n1 n2 n3 n4 g0 gs gn gm) sz) s (rcV X hn an sv dv_54 n0 n_2 n2 n3 n4 g0 gs gn gm) H locs := ⟨upd dv_52 34 y_53, G⟩
          refine lv_iinc (v := 5) (lv' := [(3, .int 5), (4, .int (nI (((n_2 * 31) + 1) + (4 * 5)))), (2, .int (nI (n_2 * 31))), (0, .ref (an 7)), (1, .ref (an 0))]) zx zb dX4_pop_117 hl (k := 1) rfl (by decide) (by decide) rfl (fun ls hl => ?_)
          refine lv_goto (tgt := 29) zx zb dX4_pop_120 (by decide) ?_
          have hl := lv_sub hl (l' := [(3, .int 5), (2, .int (nI (n_2 * 31))), (0, .ref (an 7)), (1, .ref (an 0))]) [0, 2, 3, 4] rfl
          exact ih29 5 dv_54 _ _ _ (by omega) (by omega) G hl
        · refine k_it (v := 5) rfl ?_
          refine r_aald (C := RX8) (b := (an 6)) S G 1 3 rfl rfl (k_vp (by decide)) rfl dX4_pop_46 ?_
          refine lv_aload_n zx zb dX4_pop_47 rfl (lv_at hl 3 rfl) ?_
          refine r_get (C := RX4) (T := TX4) (N := 2) (ci := 2) (v := .ref (an 8)) S in_X4_pop_X4 G 8 rfl rfl 0 (by decide) lk_X4_pop_11 rfl dX4_pop_48 ?_
          refine lv_iload zx zb dX4_pop_51 (lv_at hl 0 rfl) ?_
          refine r_iald S G 9 rfl (vp_in_nI (by omega) (by decide)) rfl dX4_pop_53 ?_
          refine k_itE (fun y_55 => ?_)
          refine r_put (C := RX8) (T := TX8) (N := 8) (ci := 6) (v := .int y_55) S in_X4_pop_X8 tyX8_ok nmX8 G 7 rfl rfl 3 (by decide) lk_X4_pop_25 rfl (vp_nar_int _) rfl (Nat.le_of_ble_eq_true rfl) dX4_pop_54 (fun H locs G => ?_)
          obtain ⟨dv_56, G⟩ : ∃ dv_56 : Nat → Int32, wd X (va_A (rcV X hn an sv dv n0 n1 n2 n3 n4 g0 gs gn gm) sz) (va_A (rcV X hn an sv dv n0 n1 n2 n3 n4 g0 gs gn gm) sz) s (rcV X hn an sv dv_56 n0 n_2 n2 n3 n4 g0 gs gn gm) H locs := ⟨upd dv29_0 35 y_55, G⟩
          refine lv_aload_n zx zb dX4_pop_57 rfl (lv_at hl 4 rfl) ?_
          refine lv_iload_n zx zb dX4_pop_58 rfl (lv_at hl 1 rfl) ?_
          refine r_aald (C := RX8) (b := (an 6)) S G 1 3 rfl rfl (k_vp (by decide)) rfl dX4_pop_59 ?_
          refine lv_aload_n zx zb dX4_pop_60 rfl (lv_at hl 3 rfl) ?_
          refine r_get (C := RX4) (T := TX4) (N := 2) (ci := 2) (v := .ref (an 8)) S in_X4_pop_X4 G 8 rfl rfl 0 (by decide) lk_X4_pop_11 rfl dX4_pop_61 ?_
          refine lv_iload zx zb dX4_pop_64 (lv_at hl 0 rfl) ?_
          refine lv_iconst (v := 1) zx zb dX4_pop_66 (by decide) ?_
          refine r_iadd (v := (nI ((((n_2 * 31) + 1) + (5 * 5)) + 1))) S (nI_add (((n_2 * 31) + 1) + (5 * 5)) 1) dX4_pop_67 ?_
          refine r_iald S G 9 rfl (vp_in_nI (by omega) (by decide)) rfl dX4_pop_68 ?_
          refine k_itE (fun y_57 => ?_)
          refine r_put (C := RX8) (T := TX8) (N := 8) (ci := 6) (v := .int y_57) S in_X4_pop_X8 tyX8_ok nmX8 G 7 rfl rfl 4 (by decide) lk_X4_pop_30 rfl (vp_nar_int _) rfl (Nat.le_of_ble_eq_true rfl) dX4_pop_69 (fun H locs G => ?_)
          obtain ⟨dv_58, G⟩ : ∃ dv_58 : Nat → Int32, wd X (va_A (rcV X hn an sv dv n0 n1 n2 n3 n4 g0 gs gn gm) sz) (va_A (rcV X hn an sv dv n0 n1 n2 n3 n4 g0 gs gn gm) sz) s (rcV X hn an sv dv_58 n0 n_2 n2 n3 n4 g0 gs gn gm) H locs := ⟨upd dv_56 36 y_57, G⟩
          refine lv_aload_n zx zb dX4_pop_72 rfl (lv_at hl 4 rfl) ?_
          refine lv_iload_n zx zb dX4_pop_73 rfl (lv_at hl 1 rfl) ?_
          refine r_aald (C := RX8) (b := (an 6)) S G 1 3 rfl rfl (k_vp (by decide)) rfl dX4_pop_74 ?_
          refine lv_aload_n zx zb dX4_pop_75 rfl (lv_at hl 3 rfl) ?_
          refine r_get (C := RX4) (T := TX4) (N := 2) (ci := 2) (v := .ref (an 8)) S in_X4_pop_X4 G 8 rfl rfl 0 (by decide) lk_X4_pop_11 rfl dX4_pop_76 ?_
          refine lv_iload zx zb dX4_pop_79 (lv_at hl 0 rfl) ?_
          refine lv_iconst (v := 2) zx zb dX4_pop_81 (by decide) ?_
          refine r_iadd (v := (nI ((((n_2 * 31) + 1) + (5 * 5)) + 2))) S (nI_add (((n_2 * 31) + 1) + (5 * 5)) 2) dX4_pop_82 ?_
          refine r_iald S G 9 rfl (vp_in_nI (by omega) (by decide)) rfl dX4_pop_83 ?_
          refine k_itE (fun y_59 => ?_)
          refine r_put (C := RX8) (T := TX8) (N := 8) (ci := 6) (v := .int y_59) S in_X4_pop_X8 tyX8_ok nmX8 G 7 rfl rfl 5 (by decide) lk_X4_pop_33 rfl (vp_nar_int _) rfl (Nat.le_of_ble_eq_true rfl) dX4_pop_84 (fun H locs G => ?_)
          obtain ⟨dv_60, G⟩ : ∃ dv_60 : Nat → Int32, wd X (va_A (rcV X hn an sv dv n0 n1 n2 n3 n4 g0 gs gn gm) sz) (va_A (rcV X hn an sv dv n0 n1 n2 n3 n4 g0 gs gn gm) sz) s (rcV X hn an sv dv_60 n0 n_2 n2 n3 n4 g0 gs gn gm) H locs := ⟨upd dv_58 37 y_59, G⟩
          refine lv_aload_n zx zb dX4_pop_87 rfl (lv_at hl 4 rfl) ?_
          refine lv_iload_n zx zb dX4_pop_88 rfl (lv_at hl 1 rfl) ?_
          refine r_aald (C := RX8) (b := (an 6)) S G 1 3 rfl rfl (k_vp (by decide)) rfl dX4_pop_89 ?_
          refine lv_aload_n zx zb dX4_pop_90 rfl (lv_at hl 3 rfl) ?_
          refine r_get (C := RX4) (T := TX4) (N := 2) (ci := 2) (v := .ref (an 8)) S in_X4_pop_X4 G 8 rfl rfl 0 (by decide) lk_X4_pop_11 rfl dX4_pop_91 ?_
          refine lv_iload zx zb dX4_pop_94 (lv_at hl 0 rfl) ?_
          refine lv_iconst (v := 3) zx zb dX4_pop_96 (by decide) ?_
          refine r_iadd (v := (nI ((((n_2 * 31) + 1) + (5 * 5)) + 3))) S (nI_add (((n_2 * 31) + 1) + (5 * 5)) 3) dX4_pop_97 ?_
          refine r_iald S G 9 rfl (vp_in_nI (by omega) (by decide)) rfl dX4_pop_98 ?_
          refine k_itE (fun y_61 => ?_)
          refine r_put (C := RX8) (T := TX8) (N := 8) (ci := 6) (v := .int y_61) S in_X4_pop_X8 tyX8_ok nmX8 G 7 rfl rfl 6 (by decide) lk_X4_pop_36 rfl (vp_nar_int _) rfl (Nat.le_of_ble_eq_true rfl) dX4_pop_99 (fun H locs G => ?_)
          obtain ⟨dv_62, G⟩ : ∃ dv_62 : Nat → Int32, wd X (va_A (rcV X hn an sv dv n0 n1 n2 n3 n4 g0 gs gn gm) sz) (va_A (rcV X hn an sv dv n0 n1 n2 n3 n4 g0 gs gn gm) sz) s (rcV X hn an sv dv_62 n0 n_2 n2 n3 n4 g0 gs gn gm) H locs := ⟨upd dv_60 38 y_61, G⟩
          refine lv_aload_n zx zb dX4_pop_102 rfl (lv_at hl 4 rfl) ?_
          refine lv_iload_n zx zb dX4_pop_103 rfl (lv_at hl 1 rfl) ?_
          refine r_aald (C := RX8) (b := (an 6)) S G 1 3 rfl rfl (k_vp (by decide)) rfl dX4_pop_104 ?_
          refine lv_aload_n zx zb dX4_pop_105 rfl (lv_at hl 3 rfl) ?_
          refine r_get (C := RX4) (T := TX4) (N := 2) (ci := 2) (v := .ref (an 8)) S in_X4_pop_X4 G 8 rfl rfl 0 (by decide) lk_X4_pop_11 rfl dX4_pop_106 ?_
          refine lv_iload zx zb dX4_pop_109 (lv_at hl 0 rfl) ?_
          refine lv_iconst (v := 4) zx zb dX4_pop_111 (by decide) ?_
          refine r_iadd (v := (nI ((((n_2 * 31) + 1) + (5 * 5)) + 4))) S (nI_add (((n_2 * 31) + 1) + (5 * 5)) 4) dX4_pop_112 ?_
          refine r_iald S G 9 rfl (vp_in_nI (by omega) (by decide)) rfl dX4_pop_113 ?_
          refine k_itE (fun y_63 => ?_)
          refine r_put (C := RX8) (T := TX8) (N := 8) (ci := 6) (v := .int y_63) S in_X4_pop_X8 tyX8_ok nmX8 G 7 rfl rfl 7 (by decide) lk_X4_pop_39 rfl (vp_nar_int _) rfl (Nat.le_of_ble_eq_true rfl) dX4_pop_114 (fun H locs G => ?_)
          obtain ⟨dv_64, G⟩ : ∃ dv_64 : Nat → Int32, wd X (va_A (rcV X hn an sv dv n0 n1 n2 n3 n4 g0 gs gn gm) sz) (va_A (rcV X hn an sv dv n0 n1 n2 n3 n4 g0 gs gn gm) sz) s (rcV X hn an sv dv_64 n0 n_2 n2 n3 n4 g0 gs gn gm) H locs := ⟨upd dv_62 39 y_63, G⟩
          refine lv_iinc (v := 6) (lv' := [(3, .int 6), (4, .int (nI (((n_2 * 31) + 1) + (5 * 5)))), (2, .int (nI (n_2 * 31))), (0, .ref (an 7)), (1, .ref (an 0))]) zx zb dX4_pop_117 hl (k := 1) rfl (by decide) (by decide) rfl (fun ls hl => ?_)
          refine lv_goto (tgt := 29) zx zb dX4_pop_120 (by decide) ?_
          have hl := lv_sub hl (l' := [(3, .int 6), (2, .int (nI (n_2 * 31))), (0, .ref (an 7)), (1, .ref (an 0))]) [0, 2, 3, 4] rfl
          exact ih29 6 dv_64 _ _ _ (by omega) (by omega) G hl
  · have fc_1 := j_nlt (a := 0) (b := n1) (by omega) (by omega) c_1
    refine lv_iconst (v := (-1)) zx zb dX4_pop_7 (by decide) ?_
    exact e_int S zr zlk (vp_nar_int _) G (dv, n1) [0, 1, 2, 3, 4, 5, 6, 7, 8, 9, 10, 11, 12, 13, 14, 15] rfl rfl (Or.inr rfl) (⟨hI_n1, trivial⟩) dX4_pop_8
theorem in_X5_keep_X5 : ∀ w ∈ wsX50, w ∈ wsX5_keep := by decide +kernel
theorem lk_X5_keep_30 : Cond.fieldLink RX5 30 "EggSpoons$Race" "past" "LEggSpoons$Past;" ∈ wsX5_keep := by decide +kernel
theorem lk_X5_keep_15 : Cond.fieldLink RX5 15 "EggSpoons$Race" "tick" "I" ∈ wsX5_keep := by decide +kernel
theorem lk_X5_keep_23 : Cond.fieldLink RX5 23 "EggSpoons$Race" "row" "[LEggSpoons$Runner;" ∈ wsX5_keep := by decide +kernel
theorem hdV_X4_push : yX4_push.cls = RX4 ∧ yX4_push.cls ≠ "java/lang/invoke/MethodHandle" ∧ yX4_push.cls ≠ "java/lang/invoke/VarHandle" ∧ (parseMethodDescriptor yX4_push.desc).map (fun d => d.parameters.length) = some 2 := by decide +kernel
set_option maxHeartbeats 4000000 in
set_option maxRecDepth 100000 in
/-- keep -/
theorem s_keep (l : Launch) (X : EX) (hn : Nat) (an : Nat → Nat) (sv : Nat → Int32) (dv : Nat → Int32) (n0 : Nat) (n1 : Nat) (n2 : Nat) (n3 : Nat) (n4 : Nat) (g0 : Nat → Int32) (gs : Nat → Int32) (gn : Nat → Int32) (gm : Nat → Int32) (hI_n0 : n0 ≤ 6) (hI_n1 : n1 ≤ 8) (hI_n2 : n2 ≤ 5) (hI_n3 : n3 ≤ 6) (hI_n4 : n4 ≤ 6) (sz : Nat) : Met l yX5_keep wsX5_keep ({ frames := 2, cells := 0, slots := 0, locals := 85 } : Room) (pE X [.ref hn] (rcV X hn an sv dv n0 n1 n2 n3 n4 g0 gs gn gm) sz) (qV (fun (u : (Nat) × (Nat → Int32)) => u.1 ≤ 8 ∧ (True)) X (fun (u : (Nat) × (Nat → Int32)) => rcV X hn an sv dv n0 u.1 n2 n3 n4 u.2 gs gn gm) (rcV X hn an sv dv n0 n1 n2 n3 n4 g0 gs gn gm) sz) 0 0 (va_A (rcV X hn an sv dv n0 n1 n2 n3 n4 g0 gs gn gm) sz) := by
  refine mk_met (B := (va_A (rcV X hn an sv dv n0 n1 n2 n3 n4 g0 gs gn gm) sz)) (A := (va_A (rcV X hn an sv dv n0 n1 n2 n3 n4 g0 gs gn gm) sz)) (cc := cX5_keep) (maxL := 1) (ret := none) (by decide) rfl (Nat.le_of_ble_eq_true rfl) k_w k_a (fun p e s m below meth c S zr zlk znm zsz G ls hl => ?_)
  have S : CallFix p m c cX5_keep 1 s _ wsX5_keep RX5 := S
  have zx := S.1
  have zb := S.2.1
  have hl : lv_has ls 1 [(0, .ref hn)] := hl
  refine lv_aload_n zx zb dX5_keep_0 rfl (lv_at hl 0 rfl) ?_
  refine r_get (C := RX5) (T := TX5) (N := 8) (ci := 3) (v := .ref (an 7)) S in_X5_keep_X5 G 0 rfl rfl 4 (by decide) lk_X5_keep_30 rfl dX5_keep_1 ?_
  refine lv_aload_n zx zb dX5_keep_4 rfl (lv_at hl 0 rfl) ?_
  refine r_get (C := RX5) (T := TX5) (N := 8) (ci := 3) (v := .int (dv 1)) S in_X5_keep_X5 G 0 rfl rfl 1 (by decide) lk_X5_keep_15 rfl dX5_keep_5 ?_
  refine lv_aload_n zx zb dX5_keep_8 rfl (lv_at hl 0 rfl) ?_
  refine r_get (C := RX5) (T := TX5) (N := 8) (ci := 3) (v := .ref (an 0)) S in_X5_keep_X5 G 0 rfl rfl 3 (by decide) lk_X5_keep_23 rfl dX5_keep_9 ?_
  refine b_wv (cells' := 0) (slots' := 0) (wr := []) G rfl rfl [0, 1, 2, 3, 4, 5, 6, 7, 8, 9, 10, 11, 12, 13, 14, 15] [] rfl rfl rfl rfl (n_V (As := [.int (dv 1), .ref (an 0)]) (rest := []) (C := RX4) (T := TX4) (N := 2) (ci := 2) S G (s_push l X hn an sv dv n0 n1 n2 n3 n4 g0 gs gn gm (dv 1) hI_n0 hI_n1 hI_n2 hI_n3 hI_n4 s.heap.size) gX5_keep_X4_push rfl rfl rfl hdV_X4_push ⟨Nat.le_of_ble_eq_true rfl, Nat.le_of_ble_eq_true rfl⟩ [0, 1, 2, 3, 4, 5, 6, 7, 8, 9, 10, 11, 12, 13, 14, 15] rfl rfl 8 rfl rfl rfl hl.1 (Nat.le_of_ble_eq_true rfl) dX5_keep_12 ⟨Nat.le_of_ble_eq_true rfl, Nat.le_of_ble_eq_true rfl⟩) (fun u_1 H locs hp_1 G => ?_)
  obtain ⟨n1_1a, g0_1b⟩ := u_1
  try dsimp only at hp_1
  obtain ⟨hI_n1_1a, hq_1⟩ := hp_1
  have G : wd X (va_A (rcV X hn an sv dv n0 n1 n2 n3 n4 g0 gs gn gm) sz) (va_A (rcV X hn an sv dv n0 n1 n2 n3 n4 g0 gs gn gm) sz) s (rcV X hn an sv dv n0 n1_1a n2 n3 n4 g0_1b gs gn gm) H locs := G
  exact e_void S zr zlk G (n1_1a, g0_1b) [0, 1, 2, 3, 4, 5, 6, 7, 8, 9, 10, 11, 12, 13, 14, 15] rfl rfl (Or.inr rfl) (⟨hI_n1_1a, trivial⟩) dX5_keep_15
theorem in_X5_takeBack_X5 : ∀ w ∈ wsX50, w ∈ wsX5_takeBack := by decide +kernel
theorem lk_X5_takeBack_30 : Cond.fieldLink RX5 30 "EggSpoons$Race" "past" "LEggSpoons$Past;" ∈ wsX5_takeBack := by decide +kernel
theorem lk_X5_takeBack_23 : Cond.fieldLink RX5 23 "EggSpoons$Race" "row" "[LEggSpoons$Runner;" ∈ wsX5_takeBack := by decide +kernel
theorem hdV_X4_pop : yX4_pop.cls = RX4 ∧ yX4_pop.cls ≠ "java/lang/invoke/MethodHandle" ∧ yX4_pop.cls ≠ "java/lang/invoke/VarHandle" ∧ (parseMethodDescriptor yX4_pop.desc).map (fun d => d.parameters.length) = some 1 := by decide +kernel
theorem lk_X5_takeBack_15 : Cond.fieldLink RX5 15 "EggSpoons$Race" "tick" "I" ∈ wsX5_takeBack := by decide +kernel
set_option maxHeartbeats 4000000 in
set_option maxRecDepth 100000 in
/-- takeBack -/
theorem s_takeBack (l : Launch) (X : EX) (hn : Nat) (an : Nat → Nat) (sv : Nat → Int32) (dv : Nat → Int32) (n0 : Nat) (n1 : Nat) (n2 : Nat) (n3 : Nat) (n4 : Nat) (g0 : Nat → Int32) (gs : Nat → Int32) (gn : Nat → Int32) (gm : Nat → Int32) (hI_n0 : n0 ≤ 6) (hI_n1 : n1 ≤ 8) (hI_n2 : n2 ≤ 5) (hI_n3 : n3 ≤ 6) (hI_n4 : n4 ≤ 6) (sz : Nat) : Met l yX5_takeBack wsX5_takeBack ({ frames := 1, cells := 0, slots := 0, locals := 24 } : Room) (pE X [.ref hn] (rcV X hn an sv dv n0 n1 n2 n3 n4 g0 gs gn gm) sz) (qI (fun (r : Int32) (u : (Nat → Int32) × (Nat)) => u.2 ≤ 8 ∧ (r = 0 ∨ r = 1)) X (fun (u : (Nat → Int32) × (Nat)) => rcV X hn an sv u.1 n0 u.2 n2 n3 n4 g0 gs gn gm) (rcV X hn an sv dv n0 n1 n2 n3 n4 g0 gs gn gm) sz) 0 0 (va_A (rcV X hn an sv dv n0 n1 n2 n3 n4 g0 gs gn gm) sz) := by
  refine mk_met (B := (va_A (rcV X hn an sv dv n0 n1 n2 n3 n4 g0 gs gn gm) sz)) (A := (va_A (rcV X hn an sv dv n0 n1 n2 n3 n4 g0 gs gn gm) sz)) (cc := cX5_takeBack) (maxL := 2) (ret := (some .boolean)) (by decide) rfl (Nat.le_of_ble_eq_true rfl) k_w k_a (fun p e s m below meth c S zr zlk znm zsz G ls hl => ?_)
  have S : CallFix p m c cX5_takeBack 2 s _ wsX5_takeBack RX5 := S
  have zx := S.1
  have zb := S.2.1
  have hl : lv_has ls 2 [(0, .ref hn)] := hl
  refine lv_aload_n zx zb dX5_takeBack_0 rfl (lv_at hl 0 rfl) ?_
  refine r_get (C := RX5) (T := TX5) (N := 8) (ci := 3) (v := .ref (an 7)) S in_X5_takeBack_X5 G 0 rfl rfl 4 (by decide) lk_X5_takeBack_30 rfl dX5_takeBack_1 ?_
  refine lv_aload_n zx zb dX5_takeBack_4 rfl (lv_at hl 0 rfl) ?_
  refine r_get (C := RX5) (T := TX5) (N := 8) (ci := 3) (v := .ref (an 0)) S in_X5_takeBack_X5 G 0 rfl rfl 3 (by decide) lk_X5_takeBack_23 rfl dX5_takeBack_5 ?_
  refine b_wi (cells' := 0) (slots' := 0) (wr := []) G rfl rfl [0, 1, 2, 3, 4, 5, 6, 7, 8, 9, 10, 11, 12, 13, 14, 15] [] rfl rfl rfl rfl (n_V (As := [.ref (an 0)]) (rest := []) (C := RX4) (T := TX4) (N := 2) (ci := 2) S G (s_pop l X hn an sv dv n0 n1 n2 n3 n4 g0 gs gn gm hI_n0 hI_n1 hI_n2 hI_n3 hI_n4 s.heap.size) gX5_takeBack_X4_pop rfl rfl rfl hdV_X4_pop ⟨Nat.le_of_ble_eq_true rfl, Nat.le_of_ble_eq_true rfl⟩ [0, 1, 2, 3, 4, 5, 6, 7, 8, 9, 10, 11, 12, 13, 14, 15] rfl rfl 8 rfl rfl rfl hl.1 (Nat.le_of_ble_eq_true rfl) dX5_takeBack_8 ⟨Nat.le_of_ble_eq_true rfl, Nat.le_of_ble_eq_true rfl⟩) (fun r_1 u_1 H locs hp_1 G => ?_)
  obtain ⟨dv_1a, n1_1b⟩ := u_1
  try dsimp only at hp_1
  obtain ⟨hI_n1_1b, hq_1⟩ := hp_1
  have G : wd X (va_A (rcV X hn an sv dv n0 n1 n2 n3 n4 g0 gs gn gm) sz) (va_A (rcV X hn an sv dv n0 n1 n2 n3 n4 g0 gs gn gm) sz) s (rcV X hn an sv dv_1a n0 n1_1b n2 n3 n4 g0 gs gn gm) H locs := G
  refine lv_istore_n (lv' := [(1, .int r_1), (0, .ref hn)]) zx zb dX5_takeBack_11 rfl hl (by decide) rfl (fun ls hl => ?_)
  refine lv_iload_n zx zb dX5_takeBack_12 rfl (lv_at hl 0 rfl) ?_
  refine lv_iconst (v := (-1)) zx zb dX5_takeBack_13 (by decide) ?_
  refine lv_icmp_ne (tgt := 19) zx zb dX5_takeBack_14 (by decide) (fun c_2 => ?_) (fun c_2 => ?_)
  · refine lv_aload_n zx zb dX5_takeBack_19 rfl (lv_at hl 1 rfl) ?_
    refine lv_iload_n zx zb dX5_takeBack_20 rfl (lv_at hl 0 rfl) ?_
    refine r_put (C := RX5) (T := TX5) (N := 8) (ci := 3) (v := .int r_1) S in_X5_takeBack_X5 tyX5_ok nmX5 G 0 rfl rfl 1 (by decide) lk_X5_takeBack_15 rfl (vp_nar_int _) rfl (Nat.le_of_ble_eq_true rfl) dX5_takeBack_21 (fun H locs G => ?_)
    obtain ⟨dv_3, G⟩ : ∃ dv_3 : Nat → Int32, wd X (va_A (rcV X hn an sv dv n0 n1 n2 n3 n4 g0 gs gn gm) sz) (va_A (rcV X hn an sv dv n0 n1 n2 n3 n4 g0 gs gn gm) sz) s (rcV X hn an sv dv_3 n0 n1_1b n2 n3 n4 g0 gs gn gm) H locs := ⟨upd dv_1a 1 r_1, G⟩
    refine lv_iconst (v := 1) zx zb dX5_takeBack_24 (by decide) ?_
    exact e_int S zr zlk (by decide) G (dv_3, n1_1b) [0, 1, 2, 3, 4, 5, 6, 7, 8, 9, 10, 11, 12, 13, 14, 15] rfl rfl (Or.inr rfl) (⟨hI_n1_1b, by first | exact Or.inl rfl | exact Or.inr rfl⟩) dX5_takeBack_25
  · refine lv_iconst (v := 0) zx zb dX5_takeBack_17 (by decide) ?_
    exact e_int S zr zlk (by decide) G (dv_1a, n1_1b) [0, 1, 2, 3, 4, 5, 6, 7, 8, 9, 10, 11, 12, 13, 14, 15] rfl rfl (Or.inr rfl) (⟨hI_n1_1b, by first | exact Or.inl rfl | exact Or.inr rfl⟩) dX5_takeBack_18
theorem in_X5_restart_X5 : ∀ w ∈ wsX50, w ∈ wsX5_restart := by decide +kernel
theorem lk_X5_restart_9 : Cond.fieldLink RX5 9 "EggSpoons$Race" "length" "I" ∈ wsX5_restart := by decide +kernel
theorem lk_X5_restart_15 : Cond.fieldLink RX5 15 "EggSpoons$Race" "tick" "I" ∈ wsX5_restart := by decide +kernel
theorem lk_X5_restart_18 : Cond.fieldLink RX5 18 "EggSpoons$Race" "runners" "I" ∈ wsX5_restart := by decide +kernel
theorem lk_X5_restart_30 : Cond.fieldLink RX5 30 "EggSpoons$Race" "past" "LEggSpoons$Past;" ∈ wsX5_restart := by decide +kernel
theorem in_X5_restart_X4 : ∀ w ∈ wsX40, w ∈ wsX5_restart := by decide +kernel
theorem lk_X5_restart_50 : Cond.fieldLink RX5 50 "EggSpoons$Past" "size" "I" ∈ wsX5_restart := by decide +kernel
theorem lk_X5_restart_39 : Cond.fieldLink RX5 39 "EggSpoons$Race" "seenRows" "LEggSpoons$Rows;" ∈ wsX5_restart := by decide +kernel
theorem in_X5_restart_X7 : ∀ w ∈ wsX70, w ∈ wsX5_restart := by decide +kernel
theorem lk_X5_restart_53 : Cond.fieldLink RX5 53 "EggSpoons$Rows" "size" "I" ∈ wsX5_restart := by decide +kernel
theorem lk_X5_restart_43 : Cond.fieldLink RX5 43 "EggSpoons$Race" "noteRows" "LEggSpoons$Rows;" ∈ wsX5_restart := by decide +kernel
theorem lk_X5_restart_46 : Cond.fieldLink RX5 46 "EggSpoons$Race" "markRows" "LEggSpoons$Rows;" ∈ wsX5_restart := by decide +kernel
set_option maxHeartbeats 4000000 in
set_option maxRecDepth 100000 in
/-- restart -/
theorem s_restart (l : Launch) (X : EX) (hn : Nat) (an : Nat → Nat) (sv : Nat → Int32) (dv : Nat → Int32) (n0 : Nat) (n1 : Nat) (n2 : Nat) (n3 : Nat) (n4 : Nat) (g0 : Nat → Int32) (gs : Nat → Int32) (gn : Nat → Int32) (gm : Nat → Int32) (x1 : Int32) (hI_n0 : n0 ≤ 6) (hI_n1 : n1 ≤ 8) (hI_n2 : n2 ≤ 5) (hI_n3 : n3 ≤ 6) (hI_n4 : n4 ≤ 6) (sz : Nat) : Met l yX5_restart wsX5_restart ({ frames := 0, cells := 0, slots := 0, locals := 0 } : Room) (pE X [.ref hn, .int x1] (rcV X hn an sv dv n0 n1 n2 n3 n4 g0 gs gn gm) sz) (qV (fun (u : (Nat → Int32) × (Nat) × (Nat) × (Nat) × (Nat) × (Nat)) => u.2.1 ≤ 6 ∧ u.2.2.1 ≤ 8 ∧ u.2.2.2.1 ≤ 5 ∧ u.2.2.2.2.1 ≤ 6 ∧ u.2.2.2.2.2 ≤ 6 ∧ (u.2.1 = 0 ∧ u.2.2.2.1 = 0 ∧ u.2.2.2.2.1 = 0 ∧ u.2.2.2.2.2 = 0)) X (fun (u : (Nat → Int32) × (Nat) × (Nat) × (Nat) × (Nat) × (Nat)) => rcV X hn an sv u.1 u.2.1 u.2.2.1 u.2.2.2.1 u.2.2.2.2.1 u.2.2.2.2.2 g0 gs gn gm) (rcV X hn an sv dv n0 n1 n2 n3 n4 g0 gs gn gm) sz) 0 0 (va_A (rcV X hn an sv dv n0 n1 n2 n3 n4 g0 gs gn gm) sz) := by
  refine mk_met (B := (va_A (rcV X hn an sv dv n0 n1 n2 n3 n4 g0 gs gn gm) sz)) (A := (va_A (rcV X hn an sv dv n0 n1 n2 n3 n4 g0 gs gn gm) sz)) (cc := cX5_restart) (maxL := 2) (ret := none) (by decide) rfl (Nat.le_of_ble_eq_true rfl) k_w k_a (fun p e s m below meth c S zr zlk znm zsz G ls hl => ?_)
  have S : CallFix p m c cX5_restart 2 s _ wsX5_restart RX5 := S
  have zx := S.1
  have zb := S.2.1
  have hl : lv_has ls 2 [(0, .ref hn), (1, .int x1)] := hl
  refine lv_aload_n zx zb dX5_restart_0 rfl (lv_at hl 0 rfl) ?_
  refine lv_iload_n zx zb dX5_restart_1 rfl (lv_at hl 1 rfl) ?_
  refine r_put (C := RX5) (T := TX5) (N := 8) (ci := 3) (v := .int x1) S in_X5_restart_X5 tyX5_ok nmX5 G 0 rfl rfl 0 (by decide) lk_X5_restart_9 rfl (vp_nar_int _) rfl (Nat.le_of_ble_eq_true rfl) dX5_restart_2 (fun H locs G => ?_)
  obtain ⟨dv_1, G⟩ : ∃ dv_1 : Nat → Int32, wd X (va_A (rcV X hn an sv dv n0 n1 n2 n3 n4 g0 gs gn gm) sz) (va_A (rcV X hn an sv dv n0 n1 n2 n3 n4 g0 gs gn gm) sz) s (rcV X hn an sv dv_1 n0 n1 n2 n3 n4 g0 gs gn gm) H locs := ⟨upd dv 0 x1, G⟩
  refine lv_aload_n zx zb dX5_restart_5 rfl (lv_at hl 0 rfl) ?_
  refine lv_iconst (v := 0) zx zb dX5_restart_6 (by decide) ?_
  refine r_put (C := RX5) (T := TX5) (N := 8) (ci := 3) (v := .int 0) S in_X5_restart_X5 tyX5_ok nmX5 G 0 rfl rfl 1 (by decide) lk_X5_restart_15 rfl (vp_nar_int _) rfl (Nat.le_of_ble_eq_true rfl) dX5_restart_7 (fun H locs G => ?_)
  obtain ⟨dv_2, G⟩ : ∃ dv_2 : Nat → Int32, wd X (va_A (rcV X hn an sv dv n0 n1 n2 n3 n4 g0 gs gn gm) sz) (va_A (rcV X hn an sv dv n0 n1 n2 n3 n4 g0 gs gn gm) sz) s (rcV X hn an sv dv_2 n0 n1 n2 n3 n4 g0 gs gn gm) H locs := ⟨upd dv_1 1 0, G⟩
  refine lv_aload_n zx zb dX5_restart_10 rfl (lv_at hl 0 rfl) ?_
  refine lv_iconst (v := 0) zx zb dX5_restart_11 (by decide) ?_
  refine r_put (C := RX5) (T := TX5) (N := 8) (ci := 3) (v := .int 0) S in_X5_restart_X5 tyX5_ok nmX5 G 0 rfl rfl 2 (by decide) lk_X5_restart_18 rfl (vp_nar_int _) rfl (Nat.le_of_ble_eq_true rfl) dX5_restart_12 (fun H locs G => ?_)
  obtain ⟨n_3, hI_n_3, hE_n_3, G⟩ : ∃ n_3 : Nat, n_3 ≤ 6 ∧ n_3 = 0 ∧ wd X (va_A (rcV X hn an sv dv n0 n1 n2 n3 n4 g0 gs gn gm) sz) (va_A (rcV X hn an sv dv n0 n1 n2 n3 n4 g0 gs gn gm) sz) s (rcV X hn an sv dv_2 n_3 n1 n2 n3 n4 g0 gs gn gm) H locs := ⟨0, by omega, rfl, G⟩
  refine lv_aload_n zx zb dX5_restart_15 rfl (lv_at hl 0 rfl) ?_
  refine r_get (C := RX5) (T := TX5) (N := 8) (ci := 3) (v := .ref (an 7)) S in_X5_restart_X5 G 0 rfl rfl 4 (by decide) lk_X5_restart_30 rfl dX5_restart_16 ?_
  refine lv_iconst (v := 0) zx zb dX5_restart_19 (by decide) ?_
  refine r_put (C := RX4) (T := TX4) (N := 2) (ci := 2) (v := .int 0) S in_X5_restart_X4 tyX4_ok nmX4 G 8 rfl rfl 1 (by decide) lk_X5_restart_50 rfl (vp_nar_int _) rfl (Nat.le_of_ble_eq_true rfl) dX5_restart_20 (fun H locs G => ?_)
  obtain ⟨n_4, hI_n_4, hE_n_4, G⟩ : ∃ n_4 : Nat, n_4 ≤ 8 ∧ n_4 = 0 ∧ wd X (va_A (rcV X hn an sv dv n0 n1 n2 n3 n4 g0 gs gn gm) sz) (va_A (rcV X hn an sv dv n0 n1 n2 n3 n4 g0 gs gn gm) sz) s (rcV X hn an sv dv_2 n_3 n_4 n2 n3 n4 g0 gs gn gm) H locs := ⟨0, by omega, rfl, G⟩
  refine lv_aload_n zx zb dX5_restart_23 rfl (lv_at hl 0 rfl) ?_
  refine r_get (C := RX5) (T := TX5) (N := 8) (ci := 3) (v := .ref (an 9)) S in_X5_restart_X5 G 0 rfl rfl 5 (by decide) lk_X5_restart_39 rfl dX5_restart_24 ?_
  refine lv_iconst (v := 0) zx zb dX5_restart_27 (by decide) ?_
  refine r_put (C := RX7) (T := TX7) (N := 5) (ci := 5) (v := .int 0) S in_X5_restart_X7 tyX7_ok nmX7 G 10 rfl rfl 4 (by decide) lk_X5_restart_53 rfl (vp_nar_int _) rfl (Nat.le_of_ble_eq_true rfl) dX5_restart_28 (fun H locs G => ?_)
  obtain ⟨n_5, hI_n_5, hE_n_5, G⟩ : ∃ n_5 : Nat, n_5 ≤ 5 ∧ n_5 = 0 ∧ wd X (va_A (rcV X hn an sv dv n0 n1 n2 n3 n4 g0 gs gn gm) sz) (va_A (rcV X hn an sv dv n0 n1 n2 n3 n4 g0 gs gn gm) sz) s (rcV X hn an sv dv_2 n_3 n_4 n_5 n3 n4 g0 gs gn gm) H locs := ⟨0, by omega, rfl, G⟩
  refine lv_aload_n zx zb dX5_restart_31 rfl (lv_at hl 0 rfl) ?_
  refine r_get (C := RX5) (T := TX5) (N := 8) (ci := 3) (v := .ref (an 11)) S in_X5_restart_X5 G 0 rfl rfl 6 (by decide) lk_X5_restart_43 rfl dX5_restart_32 ?_
  refine lv_iconst (v := 0) zx zb dX5_restart_35 (by decide) ?_
  refine r_put (C := RX7) (T := TX7) (N := 5) (ci := 5) (v := .int 0) S in_X5_restart_X7 tyX7_ok nmX7 G 12 rfl rfl 4 (by decide) lk_X5_restart_53 rfl (vp_nar_int _) rfl (Nat.le_of_ble_eq_true rfl) dX5_restart_36 (fun H locs G => ?_)
  obtain ⟨n_6, hI_n_6, hE_n_6, G⟩ : ∃ n_6 : Nat, n_6 ≤ 6 ∧ n_6 = 0 ∧ wd X (va_A (rcV X hn an sv dv n0 n1 n2 n3 n4 g0 gs gn gm) sz) (va_A (rcV X hn an sv dv n0 n1 n2 n3 n4 g0 gs gn gm) sz) s (rcV X hn an sv dv_2 n_3 n_4 n_5 n_6 n4 g0 gs gn gm) H locs := ⟨0, by omega, rfl, G⟩
  refine lv_aload_n zx zb dX5_restart_39 rfl (lv_at hl 0 rfl) ?_
  refine r_get (C := RX5) (T := TX5) (N := 8) (ci := 3) (v := .ref (an 13)) S in_X5_restart_X5 G 0 rfl rfl 7 (by decide) lk_X5_restart_46 rfl dX5_restart_40 ?_
  refine lv_iconst (v := 0) zx zb dX5_restart_43 (by decide) ?_
  refine r_put (C := RX7) (T := TX7) (N := 5) (ci := 5) (v := .int 0) S in_X5_restart_X7 tyX7_ok nmX7 G 14 rfl rfl 4 (by decide) lk_X5_restart_53 rfl (vp_nar_int _) rfl (Nat.le_of_ble_eq_true rfl) dX5_restart_44 (fun H locs G => ?_)
  obtain ⟨n_7, hI_n_7, hE_n_7, G⟩ : ∃ n_7 : Nat, n_7 ≤ 6 ∧ n_7 = 0 ∧ wd X (va_A (rcV X hn an sv dv n0 n1 n2 n3 n4 g0 gs gn gm) sz) (va_A (rcV X hn an sv dv n0 n1 n2 n3 n4 g0 gs gn gm) sz) s (rcV X hn an sv dv_2 n_3 n_4 n_5 n_6 n_7 g0 gs gn gm) H locs := ⟨0, by omega, rfl, G⟩
  exact e_void S zr zlk G (dv_2, n_3, n_4, n_5, n_6, n_7) [0, 1, 2, 3, 4, 5, 6, 7, 8, 9, 10, 11, 12, 13, 14, 15] rfl rfl (Or.inr rfl) (⟨hI_n_3, hI_n_4, hI_n_5, hI_n_6, hI_n_7, ⟨hE_n_3, hE_n_5, hE_n_6, hE_n_7⟩⟩) dX5_restart_47
theorem in_X5_welcome_X5 : ∀ w ∈ wsX50, w ∈ wsX5_welcome := by decide +kernel
theorem lk_X5_welcome_18 : Cond.fieldLink RX5 18 "EggSpoons$Race" "runners" "I" ∈ wsX5_welcome := by decide +kernel
theorem lk_X5_welcome_23 : Cond.fieldLink RX5 23 "EggSpoons$Race" "row" "[LEggSpoons$Runner;" ∈ wsX5_welcome := by decide +kernel
theorem hdV_X8_begin : yX8_begin.cls = RX8 ∧ yX8_begin.cls ≠ "java/lang/invoke/MethodHandle" ∧ yX8_begin.cls ≠ "java/lang/invoke/VarHandle" ∧ (parseMethodDescriptor yX8_begin.desc).map (fun d => d.parameters.length) = some 3 := by decide +kernel
theorem lk_X5_welcome_30 : Cond.fieldLink RX5 30 "EggSpoons$Race" "past" "LEggSpoons$Past;" ∈ wsX5_welcome := by decide +kernel
theorem in_X5_welcome_X4 : ∀ w ∈ wsX40, w ∈ wsX5_welcome := by decide +kernel
theorem lk_X5_welcome_50 : Cond.fieldLink RX5 50 "EggSpoons$Past" "size" "I" ∈ wsX5_welcome := by decide +kernel
theorem in_X5_goOn_X5 : ∀ w ∈ wsX50, w ∈ wsX5_goOn := by decide +kernel
theorem lk_X5_goOn_15 : Cond.fieldLink RX5 15 "EggSpoons$Race" "tick" "I" ∈ wsX5_goOn := by decide +kernel
theorem lk_X5_goOn_18 : Cond.fieldLink RX5 18 "EggSpoons$Race" "runners" "I" ∈ wsX5_goOn := by decide +kernel
theorem lk_X5_goOn_23 : Cond.fieldLink RX5 23 "EggSpoons$Race" "row" "[LEggSpoons$Runner;" ∈ wsX5_goOn := by decide +kernel
theorem lk_X5_goOn_9 : Cond.fieldLink RX5 9 "EggSpoons$Race" "length" "I" ∈ wsX5_goOn := by decide +kernel
set_option maxHeartbeats 4000000 in
set_option maxRecDepth 100000 in
/-- goOn -/
theorem s_goOn (l : Launch) (X : EX) (hn : Nat) (an : Nat → Nat) (sv : Nat → Int32) (dv : Nat → Int32) (n0 : Nat) (n1 : Nat) (n2 : Nat) (n3 : Nat) (n4 : Nat) (g0 : Nat → Int32) (gs : Nat → Int32) (gn : Nat → Int32) (gm : Nat → Int32) (hI_n0 : n0 ≤ 6) (hI_n1 : n1 ≤ 8) (hI_n2 : n2 ≤ 5) (hI_n3 : n3 ≤ 6) (hI_n4 : n4 ≤ 6) (sz : Nat) : Met l yX5_goOn wsX5_goOn ({ frames := 2, cells := 0, slots := 0, locals := 49 } : Room) (pE X [.ref hn] (rcV X hn an sv dv n0 n1 n2 n3 n4 g0 gs gn gm) sz) (qV (fun (u : (Nat → Int32)) => (True)) X (fun (u : (Nat → Int32)) => rcV X hn an sv u n0 n1 n2 n3 n4 g0 gs gn gm) (rcV X hn an sv dv n0 n1 n2 n3 n4 g0 gs gn gm) sz) 0 0 (va_A (rcV X hn an sv dv n0 n1 n2 n3 n4 g0 gs gn gm) sz) := by
  refine mk_met (B := (va_A (rcV X hn an sv dv n0 n1 n2 n3 n4 g0 gs gn gm) sz)) (A := (va_A (rcV X hn an sv dv n0 n1 n2 n3 n4 g0 gs gn gm) sz)) (cc := cX5_goOn) (maxL := 2) (ret := none) (by decide) rfl (Nat.le_of_ble_eq_true rfl) k_w k_a (fun p e s m below meth c S zr zlk znm zsz G ls hl => ?_)
  have S : CallFix p m c cX5_goOn 2 s _ wsX5_goOn RX5 := S
  have zx := S.1
  have zb := S.2.1
  have hl : lv_has ls 2 [(0, .ref hn)] := hl
  refine lv_aload_n zx zb dX5_goOn_0 rfl (lv_at hl 0 rfl) ?_
  refine lv_dup zx zb dX5_goOn_1 rfl ?_
  refine r_get (C := RX5) (T := TX5) (N := 8) (ci := 3) (v := .int (dv 1)) S in_X5_goOn_X5 G 0 rfl rfl 1 (by decide) lk_X5_goOn_15 rfl dX5_goOn_2 ?_
  refine lv_iconst (v := 1) zx zb dX5_goOn_5 (by decide) ?_
  refine r_iadd (v := ((dv 1) + 1)) S rfl dX5_goOn_6 ?_
  refine r_put (C := RX5) (T := TX5) (N := 8) (ci := 3) (v := .int ((dv 1) + 1)) S in_X5_goOn_X5 tyX5_ok nmX5 G 0 rfl rfl 1 (by decide) lk_X5_goOn_15 rfl (vp_nar_int _) rfl (Nat.le_of_ble_eq_true rfl) dX5_goOn_7 (fun H locs G => ?_)
  obtain ⟨dv_1, G⟩ : ∃ dv_1 : Nat → Int32, wd X (va_A (rcV X hn an sv dv n0 n1 n2 n3 n4 g0 gs gn gm) sz) (va_A (rcV X hn an sv dv n0 n1 n2 n3 n4 g0 gs gn gm) sz) s (rcV X hn an sv dv_1 n0 n1 n2 n3 n4 g0 gs gn gm) H locs := ⟨upd dv 1 ((dv 1) + 1), G⟩
  refine lv_iconst (v := 0) zx zb dX5_goOn_10 (by decide) ?_
  refine lv_istore_n (lv' := [(1, .int 0), (0, .ref hn)]) zx zb dX5_goOn_11 rfl hl (by decide) rfl (fun ls hl => ?_)
  refine k_loop (P := ∀ (zm : Nat) (k12 : Nat) (dv12_0 : Nat → Int32) (H : Heap) (locs : List Loc) (ls : Array Slot), 6 + 1 ≤ k12 + zm → (k12 ≤ 6) → wd X (va_A (rcV X hn an sv dv n0 n1 n2 n3 n4 g0 gs gn gm) sz) (va_A (rcV X hn an sv dv n0 n1 n2 n3 n4 g0 gs gn gm) sz) s (rcV X hn an sv dv12_0 n0 n1 n2 n3 n4 g0 gs gn gm) H locs → lv_has ls 2 [(1, .int (nI k12)), (0, .ref hn)] → W p l e _ s m _ below meth c H locs _ _ _ (F0 m 12 ls [])) (fun loop => loop (6 + 1) 0 dv_1 _ _ _ (by omega) (by omega) G hl) ?_
  intro zm
  induction zm with
  | zero => intro k12 dv12_0 H locs ls zz q_hk_k12 _ _; exact absurd zz (by omega)
  | succ zm ih12 =>
    intro k12 dv12_0 H locs ls zm_12 hk_k12 G hl
    refine lv_iload_n zx zb dX5_goOn_12 rfl (lv_at hl 0 rfl) ?_
    refine lv_aload_n zx zb dX5_goOn_13 rfl (lv_at hl 1 rfl) ?_
    refine r_get (C := RX5) (T := TX5) (N := 8) (ci := 3) (v := .int (nI n0)) S in_X5_goOn_X5 G 0 rfl rfl 2 (by decide) lk_X5_goOn_18 rfl dX5_goOn_14 ?_
    refine lv_icmp_ge (tgt := 43) zx zb dX5_goOn_17 (by decide) (fun c_2 => ?_) (fun c_2 => ?_)
    · have fc_2 := j_le (a := n0) (b := k12) (by omega) (by omega) c_2
      exact e_void S zr zlk G (dv12_0) [0, 1, 2, 3, 4, 5, 6, 7, 8, 9, 10, 11, 12, 13, 14, 15] rfl rfl (Or.inr rfl) (trivial) dX5_goOn_43
    · have fc_2 := j_nle (a := n0) (b := k12) (by omega) (by omega) c_2
      refine lv_aload_n zx zb dX5_goOn_20 rfl (lv_at hl 1 rfl) ?_
      refine r_get (C := RX5) (T := TX5) (N := 8) (ci := 3) (v := .ref (an 0)) S in_X5_goOn_X5 G 0 rfl rfl 3 (by decide) lk_X5_goOn_23 rfl dX5_goOn_21 ?_
      refine lv_iload_n zx zb dX5_goOn_24 rfl (lv_at hl 0 rfl) ?_
      rcases k_6c (show k12 < 6 by omega) with rfl | rfl | rfl | rfl | rfl | rfl
      · refine k_it (v := 0) rfl ?_
        refine r_aald (C := RX8) (b := (an 1)) S G 1 3 rfl rfl (k_vp (by decide)) rfl dX5_goOn_25 ?_
        refine lv_aload_n zx zb dX5_goOn_26 rfl (lv_at hl 1 rfl) ?_
        refine r_get (C := RX5) (T := TX5) (N := 8) (ci := 3) (v := .int (dv12_0 1)) S in_X5_goOn_X5 G 0 rfl rfl 1 (by decide) lk_X5_goOn_15 rfl dX5_goOn_27 ?_
        refine lv_aload_n zx zb dX5_goOn_30 rfl (lv_at hl 1 rfl) ?_
        refine r_get (C := RX5) (T := TX5) (N := 8) (ci := 3) (v := .int (dv12_0 0)) S in_X5_goOn_X5 G 0 rfl rfl 0 (by decide) lk_X5_goOn_9 rfl dX5_goOn_31 ?_
        refine b_wv (cells' := 0) (slots' := 0) (wr := [(hn, .inr (3, [.int (dv12_0 0), .int (dv12_0 1), .int (nI n0), .ref (an 0), .ref (an 7), .ref (an 9), .ref (an 11), .ref (an 13)])), ((an 0), .inl (X.2.2.2.2, 6, .inr (.inr (.inr (.inr (rowQ an)))))), ((an 2), .inr (6, [.int (sv 3), .int (sv 4), .int (sv 5), .int (dv12_0 15), .int (dv12_0 16), .int (dv12_0 17), .int (dv12_0 18), .int (dv12_0 19)])), ((an 3), .inr (6, [.int (sv 6), .int (sv 7), .int (sv 8), .int (dv12_0 20), .int (dv12_0 21), .int (dv12_0 22), .int (dv12_0 23), .int (dv12_0 24)])), ((an 4), .inr (6, [.int (sv 9), .int (sv 10), .int (sv 11), .int (dv12_0 25), .int (dv12_0 26), .int (dv12_0 27), .int (dv12_0 28), .int (dv12_0 29)])), ((an 5), .inr (6, [.int (sv 12), .int (sv 13), .int (sv 14), .int (dv12_0 30), .int (dv12_0 31), .int (dv12_0 32), .int (dv12_0 33), .int (dv12_0 34)])), ((an 6), .inr (6, [.int (sv 15), .int (sv 16), .int (sv 17), .int (dv12_0 35), .int (dv12_0 36), .int (dv12_0 37), .int (dv12_0 38), .int (dv12_0 39)])), ((an 7), .inr (2, [.ref (an 8), .int (nI n1)])), ((an 8), .inl (X.2.1, 248, .inl g0)), ((an 9), .inr (5, [.int 5, .int 0, .int 1, .ref (an 10), .int (nI n2)])), ((an 10), .inl (X.2.1, 25, .inl gs)), ((an 11), .inr (5, [.int 6, .int 1, .int 1, .ref (an 12), .int (nI n3)])), ((an 12), .inl (X.2.1, 30, .inl gn)), ((an 13), .inr (5, [.int 6, .int 0, .int 0, .ref (an 14), .int (nI n4)])), ((an 14), .inl (X.2.1, 30, .inl gm))]) G rfl rfl [2] [0, 1, 3, 4, 5, 6, 7, 8, 9, 10, 11, 12, 13, 14, 15] rfl rfl rfl rfl (n_V (As := [.int (dv12_0 1), .int (dv12_0 0)]) (rest := []) (C := RX8) (T := TX8) (N := 8) (ci := 6) S G (s_step l X (an 1) (fun k => sv (0 + k)) (fun k => dv12_0 (10 + k)) (dv12_0 1) (dv12_0 0) H.size) gX5_goOn_X8_step rfl rfl rfl hdV_X8_step ⟨Nat.le_of_ble_eq_true rfl, Nat.le_of_ble_eq_true rfl⟩ [2] rfl rfl 2 rfl rfl rfl hl.1 (Nat.le_of_ble_eq_true rfl) dX5_goOn_34 ⟨Nat.le_of_ble_eq_true rfl, Nat.le_of_ble_eq_true rfl⟩) (fun u_3 H locs hp_3 G => ?_)
        obtain ⟨d_3, rfl⟩ : ∃ z, z = u_3 := ⟨_, rfl⟩
        have hq_3 := hp_3
        obtain ⟨dv_4, G⟩ : ∃ (dv_4 : Nat → Int32), wd X (va_A (rcV X hn an sv dv n0 n1 n2 n3 n4 g0 gs gn gm) sz) (va_A (rcV X hn an sv dv n0 n1 n2 n3 n4 g0 gs gn gm) sz) s (rcV X hn an sv dv_4 n0 n1 n2 n3 n4 g0 gs gn gm) H locs := ⟨(ovr dv12_0 10 5 d_3), wd_sub G [0, 1, 15, 2, 3, 4, 5, 6, 7, 8, 9, 10, 11, 12, 13, 14] rfl rfl⟩
        refine lv_iinc (v := 1) (lv' := [(1, .int 1), (0, .ref hn)]) zx zb dX5_goOn_37 hl (k := 0) rfl (by decide) (by decide) rfl (fun ls hl => ?_)
        refine lv_goto (tgt := 12) zx zb dX5_goOn_40 (by decide) ?_
        exact ih12 1 dv_4 _ _ _ (by omega) (by omega) G hl
      · refine k_it (v := 1) rfl ?_
        refine r_aald (C := RX8) (b := (an 2)) S G 1 3 rfl rfl (k_vp (by decide)) rfl dX5_goOn_25 ?_
        refine lv_aload_n zx zb dX5_goOn_26 rfl (lv_at hl 1 rfl) ?_
        refine r_get (C := RX5) (T := TX5) (N := 8) (ci := 3) (v := .int (dv12_0 1)) S in_X5_goOn_X5 G 0 rfl rfl 1 (by decide) lk_X5_goOn_15 rfl dX5_goOn_27 ?_
        refine lv_aload_n zx zb dX5_goOn_30 rfl (lv_at hl 1 rfl) ?_
        refine r_get (C := RX5) (T := TX5) (N := 8) (ci := 3) (v := .int (dv12_0 0)) S in_X5_goOn_X5 G 0 rfl rfl 0 (by decide) lk_X5_goOn_9 rfl dX5_goOn_31 ?_
        refine b_wv (cells' := 0) (slots' := 0) (wr := [(hn, .inr (3, [.int (dv12_0 0), .int (dv12_0 1), .int (nI n0), .ref (an 0), .ref (an 7), .ref (an 9), .ref (an 11), .ref (an 13)])), ((an 0), .inl (X.2.2.2.2, 6, .inr (.inr (.inr (.inr (rowQ an)))))), ((an 1), .inr (6, [.int (sv 0), .int (sv 1), .int (sv 2), .int (dv12_0 10), .int (dv12_0 11), .int (dv12_0 12), .int (dv12_0 13), .int (dv12_0 14)])), ((an 3), .inr (6, [.int (sv 6), .int (sv 7), .int (sv 8), .int (dv12_0 20), .int (dv12_0 21), .int (dv12_0 22), .int (dv12_0 23), .int (dv12_0 24)])), ((an 4), .inr (6, [.int (sv 9), .int (sv 10), .int (sv 11), .int (dv12_0 25), .int (dv12_0 26), .int (dv12_0 27), .int (dv12_0 28), .int (dv12_0 29)])), ((an 5), .inr (6, [.int (sv 12), .int (sv 13), .int (sv 14), .int (dv12_0 30), .int (dv12_0 31), .int (dv12_0 32), .int (dv12_0 33), .int (dv12_0 34)])), ((an 6), .inr (6, [.int (sv 15), .int (sv 16), .int (sv 17), .int (dv12_0 35), .int (dv12_0 36), .int (dv12_0 37), .int (dv12_0 38), .int (dv12_0 39)])), ((an 7), .inr (2, [.ref (an 8), .int (nI n1)])), ((an 8), .inl (X.2.1, 248, .inl g0)), ((an 9), .inr (5, [.int 5, .int 0, .int 1, .ref (an 10), .int (nI n2)])), ((an 10), .inl (X.2.1, 25, .inl gs)), ((an 11), .inr (5, [.int 6, .int 1, .int 1, .ref (an 12), .int (nI n3)])), ((an 12), .inl (X.2.1, 30, .inl gn)), ((an 13), .inr (5, [.int 6, .int 0, .int 0, .ref (an 14), .int (nI n4)])), ((an 14), .inl (X.2.1, 30, .inl gm))]) G rfl rfl [3] [0, 1, 2, 4, 5, 6, 7, 8, 9, 10, 11, 12, 13, 14, 15] rfl rfl rfl rfl (n_V (As := [.int (dv12_0 1), .int (dv12_0 0)]) (rest := []) (C := RX8) (T := TX8) (N := 8) (ci := 6) S G (s_step l X (an 2) (fun k => sv (3 + k)) (fun k => dv12_0 (15 + k)) (dv12_0 1) (dv12_0 0) H.size) gX5_goOn_X8_step rfl rfl rfl hdV_X8_step ⟨Nat.le_of_ble_eq_true rfl, Nat.le_of_ble_eq_true rfl⟩ [3] rfl rfl 3 rfl rfl rfl hl.1 (Nat.le_of_ble_eq_true rfl) dX5_goOn_34 ⟨Nat.le_of_ble_eq_true rfl, Nat.le_of_ble_eq_true rfl⟩) (fun u_5 H locs hp_5 G => ?_)
        obtain ⟨d_5, rfl⟩ : ∃ z, z = u_5 := ⟨_, rfl⟩
        have hq_5 := hp_5
        obtain ⟨dv_6, G⟩ : ∃ (dv_6 : Nat → Int32), wd X (va_A (rcV X hn an sv dv n0 n1 n2 n3 n4 g0 gs gn gm) sz) (va_A (rcV X hn an sv dv n0 n1 n2 n3 n4 g0 gs gn gm) sz) s (rcV X hn an sv dv_6 n0 n1 n2 n3 n4 g0 gs gn gm) H locs := ⟨(ovr dv12_0 15 5 d_5), wd_sub G [0, 1, 2, 15, 3, 4, 5, 6, 7, 8, 9, 10, 11, 12, 13, 14] rfl rfl⟩
        refine lv_iinc (v := 2) (lv' := [(1, .int 2), (0, .ref hn)]) zx zb dX5_goOn_37 hl (k := 0) rfl (by decide) (by decide) rfl (fun ls hl => ?_)
        refine lv_goto (tgt := 12) zx zb dX5_goOn_40 (by decide) ?_
        exact ih12 2 dv_6 _ _ _ (by omega) (by omega) G hl
      · refine k_it (v := 2) rfl ?_
        refine r_aald (C := RX8) (b := (an 3)) S G 1 3 rfl rfl (k_vp (by decide)) rfl dX5_goOn_25 ?_
        refine lv_aload_n zx zb dX5_goOn_26 rfl (lv_at hl 1 rfl) ?_
        refine r_get (C := RX5) (T := TX5) (N := 8) (ci := 3) (v := .int (dv12_0 1)) S in_X5_goOn_X5 G 0 rfl rfl 1 (by decide) lk_X5_goOn_15 rfl dX5_goOn_27 ?_
        refine lv_aload_n zx zb dX5_goOn_30 rfl (lv_at hl 1 rfl) ?_
        refine r_get (C := RX5) (T := TX5) (N := 8) (ci := 3) (v := .int (dv12_0 0)) S in_X5_goOn_X5 G 0 rfl rfl 0 (by decide) lk_X5_goOn_9 rfl dX5_goOn_31 ?_
        refine b_wv (cells' := 0) (slots' := 0) (wr := [(hn, .inr (3, [.int (dv12_0 0), .int (dv12_0 1), .int (nI n0), .ref (an 0), .ref (an 7), .ref (an 9), .ref (an 11), .ref (an 13)])), ((an 0), .inl (X.2.2.2.2, 6, .inr (.inr (.inr (.inr (rowQ an)))))), ((an 1), .inr (6, [.int (sv 0), .int (sv 1), .int (sv 2), .int (dv12_0 10), .int (dv12_0 11), .int (dv12_0 12), .int (dv12_0 13), .int (dv12_0 14)])), ((an 2), .inr (6, [.int (sv 3), .int (sv 4), .int (sv 5), .int (dv12_0 15), .int (dv12_0 16), .int (dv12_0 17), .int (dv12_0 18), .int (dv12_0 19)])), ((an 4), .inr (6, [.int (sv 9), .int (sv 10), .int (sv 11), .int (dv12_0 25), .int (dv12_0 26), .int (dv12_0 27), .int (dv12_0 28), .int (dv12_0 29)])), ((an 5), .inr (6, [.int (sv 12), .int (sv 13), .int (sv 14), .int (dv12_0 30), .int (dv12_0 31), .int (dv12_0 32), .int (dv12_0 33), .int (dv12_0 34)])), ((an 6), .inr (6, [.int (sv 15), .int (sv 16), .int (sv 17), .int (dv12_0 35), .int (dv12_0 36), .int (dv12_0 37), .int (dv12_0 38), .int (dv12_0 39)])), ((an 7), .inr (2, [.ref (an 8), .int (nI n1)])), ((an 8), .inl (X.2.1, 248, .inl g0)), ((an 9), .inr (5, [.int 5, .int 0, .int 1, .ref (an 10), .int (nI n2)])), ((an 10), .inl (X.2.1, 25, .inl gs)), ((an 11), .inr (5, [.int 6, .int 1, .int 1, .ref (an 12), .int (nI n3)])), ((an 12), .inl (X.2.1, 30, .inl gn)), ((an 13), .inr (5, [.int 6, .int 0, .int 0, .ref (an 14), .int (nI n4)])), ((an 14), .inl (X.2.1, 30, .inl gm))]) G rfl rfl [4] [0, 1, 2, 3, 5, 6, 7, 8, 9, 10, 11, 12, 13, 14, 15] rfl rfl rfl rfl (n_V (As := [.int (dv12_0 1), .int (dv12_0 0)]) (rest := []) (C := RX8) (T := TX8) (N := 8) (ci := 6) S G (s_step l X (an 3) (fun k => sv (6 + k)) (fun k => dv12_0 (20 + k)) (dv12_0 1) (dv12_0 0) H.size) gX5_goOn_X8_step rfl rfl rfl hdV_X8_step ⟨Nat.le_of_ble_eq_true rfl, Nat.le_of_ble_eq_true rfl⟩ [4] rfl rfl 4 rfl rfl rfl hl.1 (Nat.le_of_ble_eq_true rfl) dX5_goOn_34 ⟨Nat.le_of_ble_eq_true rfl, Nat.le_of_ble_eq_true rfl⟩) (fun u_7 H locs hp_7 G => ?_)
        obtain ⟨d_7, rfl⟩ : ∃ z, z = u_7 := ⟨_, rfl⟩
        have hq_7 := hp_7
        obtain ⟨dv_8, G⟩ : ∃ (dv_8 : Nat → Int32), wd X (va_A (rcV X hn an sv dv n0 n1 n2 n3 n4 g0 gs gn gm) sz) (va_A (rcV X hn an sv dv n0 n1 n2 n3 n4 g0 gs gn gm) sz) s (rcV X hn an sv dv_8 n0 n1 n2 n3 n4 g0 gs gn gm) H locs := ⟨(ovr dv12_0 20 5 d_7), wd_sub G [0, 1, 2, 3, 15, 4, 5, 6, 7, 8, 9, 10, 11, 12, 13, 14] rfl rfl⟩
        refine lv_iinc (v := 3) (lv' := [(1, .int 3), (0, .ref hn)]) zx zb dX5_goOn_37 hl (k := 0) rfl (by decide) (by decide) rfl (fun ls hl => ?_)
        refine lv_goto (tgt := 12) zx zb dX5_goOn_40 (by decide) ?_
        exact ih12 3 dv_8 _ _ _ (by omega) (by omega) G hl
      · refine k_it (v := 3) rfl ?_
        refine r_aald (C := RX8) (b := (an 4)) S G 1 3 rfl rfl (k_vp (by decide)) rfl dX5_goOn_25 ?_
        refine lv_aload_n zx zb dX5_goOn_26 rfl (lv_at hl 1 rfl) ?_
        refine r_get (C := RX5) (T := TX5) (N := 8) (ci := 3) (v := .int (dv12_0 1)) S in_X5_goOn_X5 G 0 rfl rfl 1 (by decide) lk_X5_goOn_15 rfl dX5_goOn_27 ?_
        refine lv_aload_n zx zb dX5_goOn_30 rfl (lv_at hl 1 rfl) ?_
        refine r_get (C := RX5) (T := TX5) (N := 8) (ci := 3) (v := .int (dv12_0 0)) S in_X5_goOn_X5 G 0 rfl rfl 0 (by decide) lk_X5_goOn_9 rfl dX5_goOn_31 ?_
        refine b_wv (cells' := 0) (slots' := 0) (wr := [(hn, .inr (3, [.int (dv12_0 0), .int (dv12_0 1), .int (nI n0), .ref (an 0), .ref (an 7), .ref (an 9), .ref (an 11), .ref (an 13)])), ((an 0), .inl (X.2.2.2.2, 6, .inr (.inr (.inr (.inr (rowQ an)))))), ((an 1), .inr (6, [.int (sv 0), .int (sv 1), .int (sv 2), .int (dv12_0 10), .int (dv12_0 11), .int (dv12_0 12), .int (dv12_0 13), .int (dv12_0 14)])), ((an 2), .inr (6, [.int (sv 3), .int (sv 4), .int (sv 5), .int (dv12_0 15), .int (dv12_0 16), .int (dv12_0 17), .int (dv12_0 18), .int (dv12_0 19)])), ((an 3), .inr (6, [.int (sv 6), .int (sv 7), .int (sv 8), .int (dv12_0 20), .int (dv12_0 21), .int (dv12_0 22), .int (dv12_0 23), .int (dv12_0 24)])), ((an 5), .inr (6, [.int (sv 12), .int (sv 13), .int (sv 14), .int (dv12_0 30), .int (dv12_0 31), .int (dv12_0 32), .int (dv12_0 33), .int (dv12_0 34)])), ((an 6), .inr (6, [.int (sv 15), .int (sv 16), .int (sv 17), .int (dv12_0 35), .int (dv12_0 36), .int (dv12_0 37), .int (dv12_0 38), .int (dv12_0 39)])), ((an 7), .inr (2, [.ref (an 8), .int (nI n1)])), ((an 8), .inl (X.2.1, 248, .inl g0)), ((an 9), .inr (5, [.int 5, .int 0, .int 1, .ref (an 10), .int (nI n2)])), ((an 10), .inl (X.2.1, 25, .inl gs)), ((an 11), .inr (5, [.int 6, .int 1, .int 1, .ref (an 12), .int (nI n3)])), ((an 12), .inl (X.2.1, 30, .inl gn)), ((an 13), .inr (5, [.int 6, .int 0, .int 0, .ref (an 14), .int (nI n4)])), ((an 14), .inl (X.2.1, 30, .inl gm))]) G rfl rfl [5] [0, 1, 2, 3, 4, 6, 7, 8, 9, 10, 11, 12, 13, 14, 15] rfl rfl rfl rfl (n_V (As := [.int (dv12_0 1), .int (dv12_0 0)]) (rest := []) (C := RX8) (T := TX8) (N := 8) (ci := 6) S G (s_step l X (an 4) (fun k => sv (9 + k)) (fun k => dv12_0 (25 + k)) (dv12_0 1) (dv12_0 0) H.size) gX5_goOn_X8_step rfl rfl rfl hdV_X8_step ⟨Nat.le_of_ble_eq_true rfl, Nat.le_of_ble_eq_true rfl⟩ [5] rfl rfl 5 rfl rfl rfl hl.1 (Nat.le_of_ble_eq_true rfl) dX5_goOn_34 ⟨Nat.le_of_ble_eq_true rfl, Nat.le_of_ble_eq_true rfl⟩) (fun u_9 H locs hp_9 G => ?_)
        obtain ⟨d_9, rfl⟩ : ∃ z, z = u_9 := ⟨_, rfl⟩
        have hq_9 := hp_9
        obtain ⟨dv_10, G⟩ : ∃ (dv_10 : Nat → Int32), wd X (va_A (rcV X hn an sv dv n0 n1 n2 n3 n4 g0 gs gn gm) sz) (va_A (rcV X hn an sv dv n0 n1 n2 n3 n4 g0 gs gn gm) sz) s (rcV X hn an sv dv_10 n0 n1 n2 n3 n4 g0 gs gn gm) H locs := ⟨(ovr dv12_0 25 5 d_9), wd_sub G [0, 1, 2, 3, 4, 15, 5, 6, 7, 8, 9, 10, 11, 12, 13, 14] rfl rfl⟩
        refine lv_iinc (v := 4) (lv' := [(1, .int 4), (0, .ref hn)]) zx zb dX5_goOn_37 hl (k := 0) rfl (by decide) (by decide) rfl (fun ls hl => ?_)
        refine lv_goto (tgt := 12) zx zb dX5_goOn_40 (by decide) ?_
        exact ih12 4 dv_10 _ _ _ (by omega) (by omega) G hl
      · refine k_it (v := 4) rfl ?_
        refine r_aald (C := RX8) (b := (an 5)) S G 1 3 rfl rfl (k_vp (by decide)) rfl dX5_goOn_25 ?_
        refine lv_aload_n zx zb dX5_goOn_26 rfl (lv_at hl 1 rfl) ?_
        refine r_get (C := RX5) (T := TX5) (N := 8) (ci := 3) (v := .int (dv12_0 1)) S in_X5_goOn_X5 G 0 rfl rfl 1 (by decide) lk_X5_goOn_15 rfl dX5_goOn_27 ?_
        refine lv_aload_n zx zb dX5_goOn_30 rfl (lv_at hl 1 rfl) ?_
        refine r_get (C := RX5) (T := TX5) (N := 8) (ci := 3) (v := .int (dv12_0 0)) S in_X5_goOn_X5 G 0 rfl rfl 0 (by decide) lk_X5_goOn_9 rfl dX5_goOn_31 ?_
        refine b_wv (cells' := 0) (slots' := 0) (wr := [(hn, .inr (3, [.int (dv12_0 0), .int (dv12_0 1), .int (nI n0), .ref (an 0), .ref (an 7), .ref (an 9), .ref (an 11), .ref (an 13)])), ((an 0), .inl (X.2.2.2.2, 6, .inr (.inr (.inr (.inr (rowQ an)))))), ((an 1), .inr (6, [.int (sv 0), .int (sv 1), .int (sv 2), .int (dv12_0 10), .int (dv12_0 11), .int (dv12_0 12), .int (dv12_0 13), .int (dv12_0 14)])), ((an 2), .inr (6, [.int (sv 3), .int (sv 4), .int (sv 5), .int (dv12_0 15), .int (dv12_0 16), .int (dv12_0 17), .int (dv12_0 18), .int (dv12_0 19)])), ((an 3), .inr (6, [.int (sv 6), .int (sv 7), .int (sv 8), .int (dv12_0 20), .int (dv12_0 21), .int (dv12_0 22), .int (dv12_0 23), .int (dv12_0 24)])), ((an 4), .inr (6, [.int (sv 9), .int (sv 10), .int (sv 11), .int (dv12_0 25), .int (dv12_0 26), .int (dv12_0 27), .int (dv12_0 28), .int (dv12_0 29)])), ((an 6), .inr (6, [.int (sv 15), .int (sv 16), .int (sv 17), .int (dv12_0 35), .int (dv12_0 36), .int (dv12_0 37), .int (dv12_0 38), .int (dv12_0 39)])), ((an 7), .inr (2, [.ref (an 8), .int (nI n1)])), ((an 8), .inl (X.2.1, 248, .inl g0)), ((an 9), .inr (5, [.int 5, .int 0, .int 1, .ref (an 10), .int (nI n2)])), ((an 10), .inl (X.2.1, 25, .inl gs)), ((an 11), .inr (5, [.int 6, .int 1, .int 1, .ref (an 12), .int (nI n3)])), ((an 12), .inl (X.2.1, 30, .inl gn)), ((an 13), .inr (5, [.int 6, .int 0, .int 0, .ref (an 14), .int (nI n4)])), ((an 14), .inl (X.2.1, 30, .inl gm))]) G rfl rfl [6] [0, 1, 2, 3, 4, 5, 7, 8, 9, 10, 11, 12, 13, 14, 15] rfl rfl rfl rfl (n_V (As := [.int (dv12_0 1), .int (dv12_0 0)]) (rest := []) (C := RX8) (T := TX8) (N := 8) (ci := 6) S G (s_step l X (an 5) (fun k => sv (12 + k)) (fun k => dv12_0 (30 + k)) (dv12_0 1) (dv12_0 0) H.size) gX5_goOn_X8_step rfl rfl rfl hdV_X8_step ⟨Nat.le_of_ble_eq_true rfl, Nat.le_of_ble_eq_true rfl⟩ [6] rfl rfl 6 rfl rfl rfl hl.1 (Nat.le_of_ble_eq_true rfl) dX5_goOn_34 ⟨Nat.le_of_ble_eq_true rfl, Nat.le_of_ble_eq_true rfl⟩) (fun u_11 H locs hp_11 G => ?_)
        obtain ⟨d_11, rfl⟩ : ∃ z, z = u_11 := ⟨_, rfl⟩
        have hq_11 := hp_11
        obtain ⟨dv_12, G⟩ : ∃ (dv_12 : Nat → Int32), wd X (va_A (rcV X hn an sv dv n0 n1 n2 n3 n4 g0 gs gn gm) sz) (va_A (rcV X hn an sv dv n0 n1 n2 n3 n4 g0 gs gn gm) sz) s (rcV X hn an sv dv_12 n0 n1 n2 n3 n4 g0 gs gn gm) H locs := ⟨(ovr dv12_0 30 5 d_11), wd_sub G [0, 1, 2, 3, 4, 5, 15, 6, 7, 8, 9, 10, 11, 12, 13, 14] rfl rfl⟩
        refine lv_iinc (v := 5) (lv' := [(1, .int 5), (0, .ref hn)]) zx zb dX5_goOn_37 hl (k := 0) rfl (by decide) (by decide) rfl (fun ls hl => ?_)
        refine lv_goto (tgt := 12) zx zb dX5_goOn_40 (by decide) ?_
        exact ih12 5 dv_12 _ _ _ (by omega) (by omega) G hl
      · refine k_it (v := 5) rfl ?_
        refine r_aald (C := RX8) (b := (an 6)) S G 1 3 rfl rfl (k_vp (by decide)) rfl dX5_goOn_25 ?_
        refine lv_aload_n zx zb dX5_goOn_26 rfl (lv_at hl 1 rfl) ?_
        refine r_get (C := RX5) (T := TX5) (N := 8) (ci := 3) (v := .int (dv12_0 1)) S in_X5_goOn_X5 G 0 rfl rfl 1 (by decide) lk_X5_goOn_15 rfl dX5_goOn_27 ?_
        refine lv_aload_n zx zb dX5_goOn_30 rfl (lv_at hl 1 rfl) ?_
        refine r_get (C := RX5) (T := TX5) (N := 8) (ci := 3) (v := .int (dv12_0 0)) S in_X5_goOn_X5 G 0 rfl rfl 0 (by decide) lk_X5_goOn_9 rfl dX5_goOn_31 ?_
        refine b_wv (cells' := 0) (slots' := 0) (wr := [(hn, .inr (3, [.int (dv12_0 0), .int (dv12_0 1), .int (nI n0), .ref (an 0), .ref (an 7), .ref (an 9), .ref (an 11), .ref (an 13)])), ((an 0), .inl (X.2.2.2.2, 6, .inr (.inr (.inr (.inr (rowQ an)))))), ((an 1), .inr (6, [.int (sv 0), .int (sv 1), .int (sv 2), .int (dv12_0 10), .int (dv12_0 11), .int (dv12_0 12), .int (dv12_0 13), .int (dv12_0 14)])), ((an 2), .inr (6, [.int (sv 3), .int (sv 4), .int (sv 5), .int (dv12_0 15), .int (dv12_0 16), .int (dv12_0 17), .int (dv12_0 18), .int (dv12_0 19)])), ((an 3), .inr (6, [.int (sv 6), .int (sv 7), .int (sv 8), .int (dv12_0 20), .int (dv12_0 21), .int (dv12_0 22), .int (dv12_0 23), .int (dv12_0 24)])), ((an 4), .inr (6, [.int (sv 9), .int (sv 10), .int (sv 11), .int (dv12_0 25), .int (dv12_0 26), .int (dv12_0 27), .int (dv12_0 28), .int (dv12_0 29)])), ((an 5), .inr (6, [.int (sv 12), .int (sv 13), .int (sv 14), .int (dv12_0 30), .int (dv12_0 31), .int (dv12_0 32), .int (dv12_0 33), .int (dv12_0 34)])), ((an 7), .inr (2, [.ref (an 8), .int (nI n1)])), ((an 8), .inl (X.2.1, 248, .inl g0)), ((an 9), .inr (5, [.int 5, .int 0, .int 1, .ref (an 10), .int (nI n2)])), ((an 10), .inl (X.2.1, 25, .inl gs)), ((an 11), .inr (5, [.int 6, .int 1, .int 1, .ref (an 12), .int (nI n3)])), ((an 12), .inl (X.2.1, 30, .inl gn)), ((an 13), .inr (5, [.int 6, .int 0, .int 0, .ref (an 14), .int (nI n4)])), ((an 14), .inl (X.2.1, 30, .inl gm))]) G rfl rfl [7] [0, 1, 2, 3, 4, 5, 6, 8, 9, 10, 11, 12, 13, 14, 15] rfl rfl rfl rfl (n_V (As := [.int (dv12_0 1), .int (dv12_0 0)]) (rest := []) (C := RX8) (T := TX8) (N := 8) (ci := 6) S G (s_step l X (an 6) (fun k => sv (15 + k)) (fun k => dv12_0 (35 + k)) (dv12_0 1) (dv12_0 0) H.size) gX5_goOn_X8_step rfl rfl rfl hdV_X8_step ⟨Nat.le_of_ble_eq_true rfl, Nat.le_of_ble_eq_true rfl⟩ [7] rfl rfl 7 rfl rfl rfl hl.1 (Nat.le_of_ble_eq_true rfl) dX5_goOn_34 ⟨Nat.le_of_ble_eq_true rfl, Nat.le_of_ble_eq_true rfl⟩) (fun u_13 H locs hp_13 G => ?_)
        obtain ⟨d_13, rfl⟩ : ∃ z, z = u_13 := ⟨_, rfl⟩
        have hq_13 := hp_13
        obtain ⟨dv_14, G⟩ : ∃ (dv_14 : Nat → Int32), wd X (va_A (rcV X hn an sv dv n0 n1 n2 n3 n4 g0 gs gn gm) sz) (va_A (rcV X hn an sv dv n0 n1 n2 n3 n4 g0 gs gn gm) sz) s (rcV X hn an sv dv_14 n0 n1 n2 n3 n4 g0 gs gn gm) H locs := ⟨(ovr dv12_0 35 5 d_13), wd_sub G [0, 1, 2, 3, 4, 5, 6, 15, 7, 8, 9, 10, 11, 12, 13, 14] rfl rfl⟩
        refine lv_iinc (v := 6) (lv' := [(1, .int 6), (0, .ref hn)]) zx zb dX5_goOn_37 hl (k := 0) rfl (by decide) (by decide) rfl (fun ls hl => ?_)
        refine lv_goto (tgt := 12) zx zb dX5_goOn_40 (by decide) ?_
        exact ih12 6 dv_14 _ _ _ (by omega) (by omega) G hl
theorem in_X5_homes_X5 : ∀ w ∈ wsX50, w ∈ wsX5_homes := by decide +kernel
theorem lk_X5_homes_18 : Cond.fieldLink RX5 18 "EggSpoons$Race" "runners" "I" ∈ wsX5_homes := by decide +kernel
theorem lk_X5_homes_23 : Cond.fieldLink RX5 23 "EggSpoons$Race" "row" "[LEggSpoons$Runner;" ∈ wsX5_homes := by decide +kernel
set_option maxHeartbeats 4000000 in
set_option maxRecDepth 100000 in
/-- homes -/
theorem s_homes (l : Launch) (X : EX) (hn : Nat) (an : Nat → Nat) (sv : Nat → Int32) (dv : Nat → Int32) (n0 : Nat) (n1 : Nat) (n2 : Nat) (n3 : Nat) (n4 : Nat) (g0 : Nat → Int32) (gs : Nat → Int32) (gn : Nat → Int32) (gm : Nat → Int32) (hI_n0 : n0 ≤ 6) (hI_n1 : n1 ≤ 8) (hI_n2 : n2 ≤ 5) (hI_n3 : n3 ≤ 6) (hI_n4 : n4 ≤ 6) (sz : Nat) : Met l yX5_homes wsX5_homes ({ frames := 1, cells := 0, slots := 0, locals := 20 } : Room) (pE X [.ref hn] (rcV X hn an sv dv n0 n1 n2 n3 n4 g0 gs gn gm) sz) (qI (fun (r : Int32) (u : Unit) => True) X (fun (u : Unit) => []) [] sz) 0 0 (va_A [] sz) := by
  refine mk_met (B := (fun _ => True)) (A := (va_A [] sz)) (cc := cX5_homes) (maxL := 3) (ret := (some .int)) (by decide) rfl (Nat.le_of_ble_eq_true rfl) k_ro k_a (fun p e s m below meth c S zr zlk znm zsz G ls hl => ?_)
  have S : CallFix p m c cX5_homes 3 s _ wsX5_homes RX5 := S
  have zx := S.1
  have zb := S.2.1
  have hl : lv_has ls 3 [(0, .ref hn)] := hl
  refine lv_iconst (v := 0) zx zb dX5_homes_0 (by decide) ?_
  refine lv_istore_n (lv' := [(1, .int 0), (0, .ref hn)]) zx zb dX5_homes_1 rfl hl (by decide) rfl (fun ls hl => ?_)
  refine lv_iconst (v := 0) zx zb dX5_homes_2 (by decide) ?_
  refine lv_istore_n (lv' := [(2, .int 0), (1, .int 0), (0, .ref hn)]) zx zb dX5_homes_3 rfl hl (by decide) rfl (fun ls hl => ?_)
  refine k_loop (P := ∀ (zm : Nat) (k4 : Nat) (x4_1 : Int32) (H : Heap) (locs : List Loc) (ls : Array Slot), 6 + 1 ≤ k4 + zm → (k4 ≤ 6) → wd X (fun _ => True) (va_A [] sz) s (rcV X hn an sv dv n0 n1 n2 n3 n4 g0 gs gn gm) H locs → lv_has ls 3 [(2, .int (nI k4)), (1, .int x4_1), (0, .ref hn)] → W p l e _ s m _ below meth c H locs _ _ _ (F0 m 4 ls [])) (fun loop => loop (6 + 1) 0 0 _ _ _ (by omega) (by omega) G hl) ?_
  intro zm
  induction zm with
  | zero => intro k4 x4_1 H locs ls zz q_hk_k4 _ _; exact absurd zz (by omega)
  | succ zm ih4 =>
    intro k4 x4_1 H locs ls zm_4 hk_k4 G hl
    refine lv_iload_n zx zb dX5_homes_4 rfl (lv_at hl 0 rfl) ?_
    refine lv_aload_n zx zb dX5_homes_5 rfl (lv_at hl 2 rfl) ?_
    refine r_get (C := RX5) (T := TX5) (N := 8) (ci := 3) (v := .int (nI n0)) S in_X5_homes_X5 G 0 rfl rfl 2 (by decide) lk_X5_homes_18 rfl dX5_homes_6 ?_
    refine lv_icmp_ge (tgt := 38) zx zb dX5_homes_9 (by decide) (fun c_1 => ?_) (fun c_1 => ?_)
    · have fc_1 := j_le (a := n0) (b := k4) (by omega) (by omega) c_1
      refine lv_iload_n zx zb dX5_homes_38 rfl (lv_at hl 1 rfl) ?_
      exact e_int S zr zlk (vp_nar_int _) G () [] rfl rfl (Or.inl rfl) (trivial) dX5_homes_39
    · have fc_1 := j_nle (a := n0) (b := k4) (by omega) (by omega) c_1
      refine lv_iload_n zx zb dX5_homes_12 rfl (lv_at hl 1 rfl) ?_
      refine lv_aload_n zx zb dX5_homes_13 rfl (lv_at hl 2 rfl) ?_
      refine r_get (C := RX5) (T := TX5) (N := 8) (ci := 3) (v := .ref (an 0)) S in_X5_homes_X5 G 0 rfl rfl 3 (by decide) lk_X5_homes_23 rfl dX5_homes_14 ?_
      refine lv_iload_n zx zb dX5_homes_17 rfl (lv_at hl 0 rfl) ?_
      rcases k_6c (show k4 < 6 by omega) with rfl | rfl | rfl | rfl | rfl | rfl
      · refine k_it (v := 0) rfl ?_
        refine r_aald (C := RX8) (b := (an 1)) S G 1 3 rfl rfl (k_vp (by decide)) rfl dX5_homes_18 ?_
        refine o_ri (cells' := 0) (slots' := 0) G rfl rfl (n_V (As := []) (rest := [.int x4_1]) (C := RX8) (T := TX8) (N := 8) (ci := 6) S G (s_isHome l X (an 1) (fun k => sv (0 + k)) (fun k => dv (10 + k)) H.size) gX5_homes_X8_isHome rfl rfl rfl hdV_X8_isHome ⟨Nat.le_of_ble_eq_true rfl, Nat.le_of_ble_eq_true rfl⟩ [2] rfl rfl 2 rfl rfl rfl hl.1 (Nat.le_of_ble_eq_true rfl) dX5_homes_19 ⟨Nat.le_of_ble_eq_true rfl, Nat.le_of_ble_eq_true rfl⟩) (fun r_2 u_2 H locs hp_2 G => ?_)
        have G : wd X (fun _ => True) (va_A [] sz) s (rcV X hn an sv dv n0 n1 n2 n3 n4 g0 gs gn gm) H locs := G
        refine k_cutW (PP := fun Wx => ∀ (x_4 : Int32) (H : Heap) (locs : List Loc) (ls : Array Slot), wd X (fun _ => True) (va_A [] sz) s (rcV X hn an sv dv n0 n1 n2 n3 n4 g0 gs gn gm) H locs → lv_has ls 3 [(2, .int 0), (1, .int x4_1), (0, .ref hn)] → Wx (F0 m 30 ls [.int x_4, .int x4_1]) H locs) ?_ ?_
        · intro join_22
          refine lv_if_eq (tgt := 29) zx zb dX5_homes_22 (by decide) (fun c_3 => ?_) (fun c_3 => ?_)
          · refine lv_iconst (v := 0) zx zb dX5_homes_29 (by decide) ?_
            exact join_22 0 _ _ _  G hl
          · refine lv_iconst (v := 1) zx zb dX5_homes_25 (by decide) ?_
            refine lv_goto (tgt := 30) zx zb dX5_homes_26 (by decide) ?_
            exact join_22 1 _ _ _  G hl
        · intro x_4 H locs ls  G hl
          refine r_iadd (v := (x4_1 + x_4)) S rfl dX5_homes_30 ?_
          refine lv_istore_n (lv' := [(1, .int (x4_1 + x_4)), (2, .int 0), (0, .ref hn)]) zx zb dX5_homes_31 rfl hl (by decide) rfl (fun ls hl => ?_)
          refine lv_iinc (v := 1) (lv' := [(2, .int 1), (1, .int (x4_1 + x_4)), (0, .ref hn)]) zx zb dX5_homes_32 hl (k := 1) rfl (by decide) (by decide) rfl (fun ls hl => ?_)
          refine lv_goto (tgt := 4) zx zb dX5_homes_35 (by decide) ?_
          exact ih4 1 (x4_1 + x_4) _ _ _ (by omega) (by omega) G hl
      · refine k_it (v := 1) rfl ?_
        refine r_aald (C := RX8) (b := (an 2)) S G 1 3 rfl rfl (k_vp (by decide)) rfl dX5_homes_18 ?_
        refine o_ri (cells' := 0) (slots' := 0) G rfl rfl (n_V (As := []) (rest := [.int x4_1]) (C := RX8) (T := TX8) (N := 8) (ci := 6) S G (s_isHome l X (an 2) (fun k => sv (3 + k)) (fun k => dv (15 + k)) H.size) gX5_homes_X8_isHome rfl rfl rfl hdV_X8_isHome ⟨Nat.le_of_ble_eq_true rfl, Nat.le_of_ble_eq_true rfl⟩ [3] rfl rfl 3 rfl rfl rfl hl.1 (Nat.le_of_ble_eq_true rfl) dX5_homes_19 ⟨Nat.le_of_ble_eq_true rfl, Nat.le_of_ble_eq_true rfl⟩) (fun r_5 u_5 H locs hp_5 G => ?_)
        have G : wd X (fun _ => True) (va_A [] sz) s (rcV X hn an sv dv n0 n1 n2 n3 n4 g0 gs gn gm) H locs := G
        refine k_cutW (PP := fun Wx => ∀ (x_7 : Int32) (H : Heap) (locs : List Loc) (ls : Array Slot), wd X (fun _ => True) (va_A [] sz) s (rcV X hn an sv dv n0 n1 n2 n3 n4 g0 gs gn gm) H locs → lv_has ls 3 [(2, .int 1), (1, .int x4_1), (0, .ref hn)] → Wx (F0 m 30 ls [.int x_7, .int x4_1]) H locs) ?_ ?_
        · intro join_22
          refine lv_if_eq (tgt := 29) zx zb dX5_homes_22 (by decide) (fun c_6 => ?_) (fun c_6 => ?_)
          · refine lv_iconst (v := 0) zx zb dX5_homes_29 (by decide) ?_
            exact join_22 0 _ _ _  G hl
          · refine lv_iconst (v := 1) zx zb dX5_homes_25 (by decide) ?_
            refine lv_goto (tgt := 30) zx zb dX5_homes_26 (by decide) ?_
            exact join_22 1 _ _ _  G hl
        · intro x_7 H locs ls  G hl
          refine r_iadd (v := (x4_1 + x_7)) S rfl dX5_homes_30 ?_
          refine lv_istore_n (lv' := [(1, .int (x4_1 + x_7)), (2, .int 1), (0, .ref hn)]) zx zb dX5_homes_31 rfl hl (by decide) rfl (fun ls hl => ?_)
          refine lv_iinc (v := 2) (lv' := [(2, .int 2), (1, .int (x4_1 + x_7)), (0, .ref hn)]) zx zb dX5_homes_32 hl (k := 1) rfl (by decide) (by decide) rfl (fun ls hl => ?_)
          refine lv_goto (tgt := 4) zx zb dX5_homes_35 (by decide) ?_
          exact ih4 2 (x4_1 + x_7) _ _ _ (by omega) (by omega) G hl
      · refine k_it (v := 2) rfl ?_
        refine r_aald (C := RX8) (b := (an 3)) S G 1 3 rfl rfl (k_vp (by decide)) rfl dX5_homes_18 ?_
        refine o_ri (cells' := 0) (slots' := 0) G rfl rfl (n_V (As := []) (rest := [.int x4_1]) (C := RX8) (T := TX8) (N := 8) (ci := 6) S G (s_isHome l X (an 3) (fun k => sv (6 + k)) (fun k => dv (20 + k)) H.size) gX5_homes_X8_isHome rfl rfl rfl hdV_X8_isHome ⟨Nat.le_of_ble_eq_true rfl, Nat.le_of_ble_eq_true rfl⟩ [4] rfl rfl 4 rfl rfl rfl hl.1 (Nat.le_of_ble_eq_true rfl) dX5_homes_19 ⟨Nat.le_of_ble_eq_true rfl, Nat.le_of_ble_eq_true rfl⟩) (fun r_8 u_8 H locs hp_8 G => ?_)
        have G : wd X (fun _ => True) (va_A [] sz) s (rcV X hn an sv dv n0 n1 n2 n3 n4 g0 gs gn gm) H locs := G
        refine k_cutW (PP := fun Wx => ∀ (x_10 : Int32) (H : Heap) (locs : List Loc) (ls : Array Slot), wd X (fun _ => True) (va_A [] sz) s (rcV X hn an sv dv n0 n1 n2 n3 n4 g0 gs gn gm) H locs → lv_has ls 3 [(2, .int 2), (1, .int x4_1), (0, .ref hn)] → Wx (F0 m 30 ls [.int x_10, .int x4_1]) H locs) ?_ ?_
        · intro join_22
          refine lv_if_eq (tgt := 29) zx zb dX5_homes_22 (by decide) (fun c_9 => ?_) (fun c_9 => ?_)
          · refine lv_iconst (v := 0) zx zb dX5_homes_29 (by decide) ?_
            exact join_22 0 _ _ _  G hl
          · refine lv_iconst (v := 1) zx zb dX5_homes_25 (by decide) ?_
            refine lv_goto (tgt := 30) zx zb dX5_homes_26 (by decide) ?_
            exact join_22 1 _ _ _  G hl
        · intro x_10 H locs ls  G hl
          refine r_iadd (v := (x4_1 + x_10)) S rfl dX5_homes_30 ?_
          refine lv_istore_n (lv' := [(1, .int (x4_1 + x_10)), (2, .int 2), (0, .ref hn)]) zx zb dX5_homes_31 rfl hl (by decide) rfl (fun ls hl => ?_)
          refine lv_iinc (v := 3) (lv' := [(2, .int 3), (1, .int (x4_1 + x_10)), (0, .ref hn)]) zx zb dX5_homes_32 hl (k := 1) rfl (by decide) (by decide) rfl (fun ls hl => ?_)
          refine lv_goto (tgt := 4) zx zb dX5_homes_35 (by decide) ?_
          exact ih4 3 (x4_1 + x_10) _ _ _ (by omega) (by omega) G hl
      · refine k_it (v := 3) rfl ?_
        refine r_aald (C := RX8) (b := (an 4)) S G 1 3 rfl rfl (k_vp (by decide)) rfl dX5_homes_18 ?_
        refine o_ri (cells' := 0) (slots' := 0) G rfl rfl (n_V (As := []) (rest := [.int x4_1]) (C := RX8) (T := TX8) (N := 8) (ci := 6) S G (s_isHome l X (an 4) (fun k => sv (9 + k)) (fun k => dv (25 + k)) H.size) gX5_homes_X8_isHome rfl rfl rfl hdV_X8_isHome ⟨Nat.le_of_ble_eq_true rfl, Nat.le_of_ble_eq_true rfl⟩ [5] rfl rfl 5 rfl rfl rfl hl.1 (Nat.le_of_ble_eq_true rfl) dX5_homes_19 ⟨Nat.le_of_ble_eq_true rfl, Nat.le_of_ble_eq_true rfl⟩) (fun r_11 u_11 H locs hp_11 G => ?_)
        have G : wd X (fun _ => True) (va_A [] sz) s (rcV X hn an sv dv n0 n1 n2 n3 n4 g0 gs gn gm) H locs := G
        refine k_cutW (PP := fun Wx => ∀ (x_13 : Int32) (H : Heap) (locs : List Loc) (ls : Array Slot), wd X (fun _ => True) (va_A [] sz) s (rcV X hn an sv dv n0 n1 n2 n3 n4 g0 gs gn gm) H locs → lv_has ls 3 [(2, .int 3), (1, .int x4_1), (0, .ref hn)] → Wx (F0 m 30 ls [.int x_13, .int x4_1]) H locs) ?_ ?_
        · intro join_22
          refine lv_if_eq (tgt := 29) zx zb dX5_homes_22 (by decide) (fun c_12 => ?_) (fun c_12 => ?_)
          · refine lv_iconst (v := 0) zx zb dX5_homes_29 (by decide) ?_
            exact join_22 0 _ _ _  G hl
          · refine lv_iconst (v := 1) zx zb dX5_homes_25 (by decide) ?_
            refine lv_goto (tgt := 30) zx zb dX5_homes_26 (by decide) ?_
            exact join_22 1 _ _ _  G hl
        · intro x_13 H locs ls  G hl
          refine r_iadd (v := (x4_1 + x_13)) S rfl dX5_homes_30 ?_
          refine lv_istore_n (lv' := [(1, .int (x4_1 + x_13)), (2, .int 3), (0, .ref hn)]) zx zb dX5_homes_31 rfl hl (by decide) rfl (fun ls hl => ?_)
          refine lv_iinc (v := 4) (lv' := [(2, .int 4), (1, .int (x4_1 + x_13)), (0, .ref hn)]) zx zb dX5_homes_32 hl (k := 1) rfl (by decide) (by decide) rfl (fun ls hl => ?_)
          refine lv_goto (tgt := 4) zx zb dX5_homes_35 (by decide) ?_
          exact ih4 4 (x4_1 + x_13) _ _ _ (by omega) (by omega) G hl
      · refine k_it (v := 4) rfl ?_
        refine r_aald (C := RX8) (b := (an 5)) S G 1 3 rfl rfl (k_vp (by decide)) rfl dX5_homes_18 ?_
        refine o_ri (cells' := 0) (slots' := 0) G rfl rfl (n_V (As := []) (rest := [.int x4_1]) (C := RX8) (T := TX8) (N := 8) (ci := 6) S G (s_isHome l X (an 5) (fun k => sv (12 + k)) (fun k => dv (30 + k)) H.size) gX5_homes_X8_isHome rfl rfl rfl hdV_X8_isHome ⟨Nat.le_of_ble_eq_true rfl, Nat.le_of_ble_eq_true rfl⟩ [6] rfl rfl 6 rfl rfl rfl hl.1 (Nat.le_of_ble_eq_true rfl) dX5_homes_19 ⟨Nat.le_of_ble_eq_true rfl, Nat.le_of_ble_eq_true rfl⟩) (fun r_14 u_14 H locs hp_14 G => ?_)
        have G : wd X (fun _ => True) (va_A [] sz) s (rcV X hn an sv dv n0 n1 n2 n3 n4 g0 gs gn gm) H locs := G
        refine k_cutW (PP := fun Wx => ∀ (x_16 : Int32) (H : Heap) (locs : List Loc) (ls : Array Slot), wd X (fun _ => True) (va_A [] sz) s (rcV X hn an sv dv n0 n1 n2 n3 n4 g0 gs gn gm) H locs → lv_has ls 3 [(2, .int 4), (1, .int x4_1), (0, .ref hn)] → Wx (F0 m 30 ls [.int x_16, .int x4_1]) H locs) ?_ ?_
        · intro join_22
          refine lv_if_eq (tgt := 29) zx zb dX5_homes_22 (by decide) (fun c_15 => ?_) (fun c_15 => ?_)
          · refine lv_iconst (v := 0) zx zb dX5_homes_29 (by decide) ?_
            exact join_22 0 _ _ _  G hl
          · refine lv_iconst (v := 1) zx zb dX5_homes_25 (by decide) ?_
            refine lv_goto (tgt := 30) zx zb dX5_homes_26 (by decide) ?_
            exact join_22 1 _ _ _  G hl
        · intro x_16 H locs ls  G hl
          refine r_iadd (v := (x4_1 + x_16)) S rfl dX5_homes_30 ?_
          refine lv_istore_n (lv' := [(1, .int (x4_1 + x_16)), (2, .int 4), (0, .ref hn)]) zx zb dX5_homes_31 rfl hl (by decide) rfl (fun ls hl => ?_)
          refine lv_iinc (v := 5) (lv' := [(2, .int 5), (1, .int (x4_1 + x_16)), (0, .ref hn)]) zx zb dX5_homes_32 hl (k := 1) rfl (by decide) (by decide) rfl (fun ls hl => ?_)
          refine lv_goto (tgt := 4) zx zb dX5_homes_35 (by decide) ?_
          exact ih4 5 (x4_1 + x_16) _ _ _ (by omega) (by omega) G hl
      · refine k_it (v := 5) rfl ?_
        refine r_aald (C := RX8) (b := (an 6)) S G 1 3 rfl rfl (k_vp (by decide)) rfl dX5_homes_18 ?_
        refine o_ri (cells' := 0) (slots' := 0) G rfl rfl (n_V (As := []) (rest := [.int x4_1]) (C := RX8) (T := TX8) (N := 8) (ci := 6) S G (s_isHome l X (an 6) (fun k => sv (15 + k)) (fun k => dv (35 + k)) H.size) gX5_homes_X8_isHome rfl rfl rfl hdV_X8_isHome ⟨Nat.le_of_ble_eq_true rfl, Nat.le_of_ble_eq_true rfl⟩ [7] rfl rfl 7 rfl rfl rfl hl.1 (Nat.le_of_ble_eq_true rfl) dX5_homes_19 ⟨Nat.le_of_ble_eq_true rfl, Nat.le_of_ble_eq_true rfl⟩) (fun r_17 u_17 H locs hp_17 G => ?_)
        have G : wd X (fun _ => True) (va_A [] sz) s (rcV X hn an sv dv n0 n1 n2 n3 n4 g0 gs gn gm) H locs := G
        refine k_cutW (PP := fun Wx => ∀ (x_19 : Int32) (H : Heap) (locs : List Loc) (ls : Array Slot), wd X (fun _ => True) (va_A [] sz) s (rcV X hn an sv dv n0 n1 n2 n3 n4 g0 gs gn gm) H locs → lv_has ls 3 [(2, .int 5), (1, .int x4_1), (0, .ref hn)] → Wx (F0 m 30 ls [.int x_19, .int x4_1]) H locs) ?_ ?_
        · intro join_22
          refine lv_if_eq (tgt := 29) zx zb dX5_homes_22 (by decide) (fun c_18 => ?_) (fun c_18 => ?_)
          · refine lv_iconst (v := 0) zx zb dX5_homes_29 (by decide) ?_
            exact join_22 0 _ _ _  G hl
          · refine lv_iconst (v := 1) zx zb dX5_homes_25 (by decide) ?_
            refine lv_goto (tgt := 30) zx zb dX5_homes_26 (by decide) ?_
            exact join_22 1 _ _ _  G hl
        · intro x_19 H locs ls  G hl
          refine r_iadd (v := (x4_1 + x_19)) S rfl dX5_homes_30 ?_
          refine lv_istore_n (lv' := [(1, .int (x4_1 + x_19)), (2, .int 5), (0, .ref hn)]) zx zb dX5_homes_31 rfl hl (by decide) rfl (fun ls hl => ?_)
          refine lv_iinc (v := 6) (lv' := [(2, .int 6), (1, .int (x4_1 + x_19)), (0, .ref hn)]) zx zb dX5_homes_32 hl (k := 1) rfl (by decide) (by decide) rfl (fun ls hl => ?_)
          refine lv_goto (tgt := 4) zx zb dX5_homes_35 (by decide) ?_
          exact ih4 6 (x4_1 + x_19) _ _ _ (by omega) (by omega) G hl
theorem in_X5_placesTogether_X5 : ∀ w ∈ wsX50, w ∈ wsX5_placesTogether := by decide +kernel
theorem lk_X5_placesTogether_18 : Cond.fieldLink RX5 18 "EggSpoons$Race" "runners" "I" ∈ wsX5_placesTogether := by decide +kernel
theorem lk_X5_placesTogether_23 : Cond.fieldLink RX5 23 "EggSpoons$Race" "row" "[LEggSpoons$Runner;" ∈ wsX5_placesTogether := by decide +kernel
theorem in_X5_placesTogether_X8 : ∀ w ∈ wsX80, w ∈ wsX5_placesTogether := by decide +kernel
theorem lk_X5_placesTogether_88 : Cond.fieldLink RX5 88 "EggSpoons$Runner" "place" "I" ∈ wsX5_placesTogether := by decide +kernel
set_option maxHeartbeats 4000000 in
set_option maxRecDepth 100000 in
/-- placesTogether -/
theorem s_places (l : Launch) (X : EX) (hn : Nat) (an : Nat → Nat) (sv : Nat → Int32) (dv : Nat → Int32) (n0 : Nat) (n1 : Nat) (n2 : Nat) (n3 : Nat) (n4 : Nat) (g0 : Nat → Int32) (gs : Nat → Int32) (gn : Nat → Int32) (gm : Nat → Int32) (hI_n0 : n0 ≤ 6) (hI_n1 : n1 ≤ 8) (hI_n2 : n2 ≤ 5) (hI_n3 : n3 ≤ 6) (hI_n4 : n4 ≤ 6) (sz : Nat) : Met l yX5_placesTogether wsX5_placesTogether ({ frames := 0, cells := 0, slots := 0, locals := 0 } : Room) (pE X [.ref hn] (rcV X hn an sv dv n0 n1 n2 n3 n4 g0 gs gn gm) sz) (qI (fun (r : Int32) (u : Unit) => True) X (fun (u : Unit) => []) [] sz) 0 0 (va_A [] sz) := by
  refine mk_met (B := (fun _ => True)) (A := (va_A [] sz)) (cc := cX5_placesTogether) (maxL := 3) (ret := (some .int)) (by decide) rfl (Nat.le_of_ble_eq_true rfl) k_ro k_a (fun p e s m below meth c S zr zlk znm zsz G ls hl => ?_)
  have S : CallFix p m c cX5_placesTogether 3 s _ wsX5_placesTogether RX5 := S
  have zx := S.1
  have zb := S.2.1
  have hl : lv_has ls 3 [(0, .ref hn)] := hl
  refine lv_iconst (v := 0) zx zb dX5_placesTogether_0 (by decide) ?_
  refine lv_istore_n (lv' := [(1, .int 0), (0, .ref hn)]) zx zb dX5_placesTogether_1 rfl hl (by decide) rfl (fun ls hl => ?_)
  refine lv_iconst (v := 0) zx zb dX5_placesTogether_2 (by decide) ?_
  refine lv_istore_n (lv' := [(2, .int 0), (1, .int 0), (0, .ref hn)]) zx zb dX5_placesTogether_3 rfl hl (by decide) rfl (fun ls hl => ?_)
  refine k_loop (P := ∀ (zm : Nat) (k4 : Nat) (x4_1 : Int32) (H : Heap) (locs : List Loc) (ls : Array Slot), 6 + 1 ≤ k4 + zm → (k4 ≤ 6) → wd X (fun _ => True) (va_A [] sz) s (rcV X hn an sv dv n0 n1 n2 n3 n4 g0 gs gn gm) H locs → lv_has ls 3 [(2, .int (nI k4)), (1, .int x4_1), (0, .ref hn)] → W p l e _ s m _ below meth c H locs _ _ _ (F0 m 4 ls [])) (fun loop => loop (6 + 1) 0 0 _ _ _ (by omega) (by omega) G hl) ?_
  intro zm
  induction zm with
  | zero => intro k4 x4_1 H locs ls zz q_hk_k4 _ _; exact absurd zz (by omega)
  | succ zm ih4 =>
    intro k4 x4_1 H locs ls zm_4 hk_k4 G hl
    refine lv_iload_n zx zb dX5_placesTogether_4 rfl (lv_at hl 0 rfl) ?_
    refine lv_aload_n zx zb dX5_placesTogether_5 rfl (lv_at hl 2 rfl) ?_
    refine r_get (C := RX5) (T := TX5) (N := 8) (ci := 3) (v := .int (nI n0)) S in_X5_placesTogether_X5 G 0 rfl rfl 2 (by decide) lk_X5_placesTogether_18 rfl dX5_placesTogether_6 ?_
    refine lv_icmp_ge (tgt := 30) zx zb dX5_placesTogether_9 (by decide) (fun c_1 => ?_) (fun c_1 => ?_)
    · have fc_1 := j_le (a := n0) (b := k4) (by omega) (by omega) c_1
      refine lv_iload_n zx zb dX5_placesTogether_30 rfl (lv_at hl 1 rfl) ?_
      exact e_int S zr zlk (vp_nar_int _) G () [] rfl rfl (Or.inl rfl) (trivial) dX5_placesTogether_31
    · have fc_1 := j_nle (a := n0) (b := k4) (by omega) (by omega) c_1
      refine lv_iload_n zx zb dX5_placesTogether_12 rfl (lv_at hl 1 rfl) ?_
      refine lv_aload_n zx zb dX5_placesTogether_13 rfl (lv_at hl 2 rfl) ?_
      refine r_get (C := RX5) (T := TX5) (N := 8) (ci := 3) (v := .ref (an 0)) S in_X5_placesTogether_X5 G 0 rfl rfl 3 (by decide) lk_X5_placesTogether_23 rfl dX5_placesTogether_14 ?_
      refine lv_iload_n zx zb dX5_placesTogether_17 rfl (lv_at hl 0 rfl) ?_
      rcases k_6c (show k4 < 6 by omega) with rfl | rfl | rfl | rfl | rfl | rfl
      · refine k_it (v := 0) rfl ?_
        refine r_aald (C := RX8) (b := (an 1)) S G 1 3 rfl rfl (k_vp (by decide)) rfl dX5_placesTogether_18 ?_
        refine r_get (C := RX8) (T := TX8) (N := 8) (ci := 6) (v := .int (dv 11)) S in_X5_placesTogether_X8 G 2 rfl rfl 4 (by decide) lk_X5_placesTogether_88 rfl dX5_placesTogether_19 ?_
        refine r_iadd (v := (x4_1 + (dv 11))) S rfl dX5_placesTogether_22 ?_
        refine lv_istore_n (lv' := [(1, .int (x4_1 + (dv 11))), (2, .int 0), (0, .ref hn)]) zx zb dX5_placesTogether_23 rfl hl (by decide) rfl (fun ls hl => ?_)
        refine lv_iinc (v := 1) (lv' := [(2, .int 1), (1, .int (x4_1 + (dv 11))), (0, .ref hn)]) zx zb dX5_placesTogether_24 hl (k := 1) rfl (by decide) (by decide) rfl (fun ls hl => ?_)
        refine lv_goto (tgt := 4) zx zb dX5_placesTogether_27 (by decide) ?_
        exact ih4 1 (x4_1 + (dv 11)) _ _ _ (by omega) (by omega) G hl
      · refine k_it (v := 1) rfl ?_
        refine r_aald (C := RX8) (b := (an 2)) S G 1 3 rfl rfl (k_vp (by decide)) rfl dX5_placesTogether_18 ?_
        refine r_get (C := RX8) (T := TX8) (N := 8) (ci := 6) (v := .int (dv 16)) S in_X5_placesTogether_X8 G 3 rfl rfl 4 (by decide) lk_X5_placesTogether_88 rfl dX5_placesTogether_19 ?_
        refine r_iadd (v := (x4_1 + (dv 16))) S rfl dX5_placesTogether_22 ?_
        refine lv_istore_n (lv' := [(1, .int (x4_1 + (dv 16))), (2, .int 1), (0, .ref hn)]) zx zb dX5_placesTogether_23 rfl hl (by decide) rfl (fun ls hl => ?_)
        refine lv_iinc (v := 2) (lv' := [(2, .int 2), (1, .int (x4_1 + (dv 16))), (0, .ref hn)]) zx zb dX5_placesTogether_24 hl (k := 1) rfl (by decide) (by decide) rfl (fun ls hl => ?_)
        refine lv_goto (tgt := 4) zx zb dX5_placesTogether_27 (by decide) ?_
        exact ih4 2 (x4_1 + (dv 16)) _ _ _ (by omega) (by omega) G hl
      · refine k_it (v := 2) rfl ?_
        refine r_aald (C := RX8) (b := (an 3)) S G 1 3 rfl rfl (k_vp (by decide)) rfl dX5_placesTogether_18 ?_
        refine r_get (C := RX8) (T := TX8) (N := 8) (ci := 6) (v := .int (dv 21)) S in_X5_placesTogether_X8 G 4 rfl rfl 4 (by decide) lk_X5_placesTogether_88 rfl dX5_placesTogether_19 ?_
        refine r_iadd (v := (x4_1 + (dv 21))) S rfl dX5_placesTogether_22 ?_
        refine lv_istore_n (lv' := [(1, .int (x4_1 + (dv 21))), (2, .int 2), (0, .ref hn)]) zx zb dX5_placesTogether_23 rfl hl (by decide) rfl (fun ls hl => ?_)
        refine lv_iinc (v := 3) (lv' := [(2, .int 3), (1, .int (x4_1 + (dv 21))), (0, .ref hn)]) zx zb dX5_placesTogether_24 hl (k := 1) rfl (by decide) (by decide) rfl (fun ls hl => ?_)
        refine lv_goto (tgt := 4) zx zb dX5_placesTogether_27 (by decide) ?_
        exact ih4 3 (x4_1 + (dv 21)) _ _ _ (by omega) (by omega) G hl
      · refine k_it (v := 3) rfl ?_
        refine r_aald (C := RX8) (b := (an 4)) S G 1 3 rfl rfl (k_vp (by decide)) rfl dX5_placesTogether_18 ?_
        refine r_get (C := RX8) (T := TX8) (N := 8) (ci := 6) (v := .int (dv 26)) S in_X5_placesTogether_X8 G 5 rfl rfl 4 (by decide) lk_X5_placesTogether_88 rfl dX5_placesTogether_19 ?_
        refine r_iadd (v := (x4_1 + (dv 26))) S rfl dX5_placesTogether_22 ?_
        refine lv_istore_n (lv' := [(1, .int (x4_1 + (dv 26))), (2, .int 3), (0, .ref hn)]) zx zb dX5_placesTogether_23 rfl hl (by decide) rfl (fun ls hl => ?_)
        refine lv_iinc (v := 4) (lv' := [(2, .int 4), (1, .int (x4_1 + (dv 26))), (0, .ref hn)]) zx zb dX5_placesTogether_24 hl (k := 1) rfl (by decide) (by decide) rfl (fun ls hl => ?_)
        refine lv_goto (tgt := 4) zx zb dX5_placesTogether_27 (by decide) ?_
        exact ih4 4 (x4_1 + (dv 26)) _ _ _ (by omega) (by omega) G hl
      · refine k_it (v := 4) rfl ?_
        refine r_aald (C := RX8) (b := (an 5)) S G 1 3 rfl rfl (k_vp (by decide)) rfl dX5_placesTogether_18 ?_
        refine r_get (C := RX8) (T := TX8) (N := 8) (ci := 6) (v := .int (dv 31)) S in_X5_placesTogether_X8 G 6 rfl rfl 4 (by decide) lk_X5_placesTogether_88 rfl dX5_placesTogether_19 ?_
        refine r_iadd (v := (x4_1 + (dv 31))) S rfl dX5_placesTogether_22 ?_
        refine lv_istore_n (lv' := [(1, .int (x4_1 + (dv 31))), (2, .int 4), (0, .ref hn)]) zx zb dX5_placesTogether_23 rfl hl (by decide) rfl (fun ls hl => ?_)
        refine lv_iinc (v := 5) (lv' := [(2, .int 5), (1, .int (x4_1 + (dv 31))), (0, .ref hn)]) zx zb dX5_placesTogether_24 hl (k := 1) rfl (by decide) (by decide) rfl (fun ls hl => ?_)
        refine lv_goto (tgt := 4) zx zb dX5_placesTogether_27 (by decide) ?_
        exact ih4 5 (x4_1 + (dv 31)) _ _ _ (by omega) (by omega) G hl
      · refine k_it (v := 5) rfl ?_
        refine r_aald (C := RX8) (b := (an 6)) S G 1 3 rfl rfl (k_vp (by decide)) rfl dX5_placesTogether_18 ?_
        refine r_get (C := RX8) (T := TX8) (N := 8) (ci := 6) (v := .int (dv 36)) S in_X5_placesTogether_X8 G 7 rfl rfl 4 (by decide) lk_X5_placesTogether_88 rfl dX5_placesTogether_19 ?_
        refine r_iadd (v := (x4_1 + (dv 36))) S rfl dX5_placesTogether_22 ?_
        refine lv_istore_n (lv' := [(1, .int (x4_1 + (dv 36))), (2, .int 5), (0, .ref hn)]) zx zb dX5_placesTogether_23 rfl hl (by decide) rfl (fun ls hl => ?_)
        refine lv_iinc (v := 6) (lv' := [(2, .int 6), (1, .int (x4_1 + (dv 36))), (0, .ref hn)]) zx zb dX5_placesTogether_24 hl (k := 1) rfl (by decide) (by decide) rfl (fun ls hl => ?_)
        refine lv_goto (tgt := 4) zx zb dX5_placesTogether_27 (by decide) ?_
        exact ih4 6 (x4_1 + (dv 36)) _ _ _ (by omega) (by omega) G hl
theorem in_X5_dropsTogether_X5 : ∀ w ∈ wsX50, w ∈ wsX5_dropsTogether := by decide +kernel
theorem lk_X5_dropsTogether_18 : Cond.fieldLink RX5 18 "EggSpoons$Race" "runners" "I" ∈ wsX5_dropsTogether := by decide +kernel
theorem lk_X5_dropsTogether_23 : Cond.fieldLink RX5 23 "EggSpoons$Race" "row" "[LEggSpoons$Runner;" ∈ wsX5_dropsTogether := by decide +kernel
theorem in_X5_dropsTogether_X8 : ∀ w ∈ wsX80, w ∈ wsX5_dropsTogether := by decide +kernel
theorem lk_X5_dropsTogether_91 : Cond.fieldLink RX5 91 "EggSpoons$Runner" "drops" "I" ∈ wsX5_dropsTogether := by decide +kernel
set_option maxHeartbeats 4000000 in
set_option maxRecDepth 100000 in
/-- dropsTogether -/
theorem s_drops (l : Launch) (X : EX) (hn : Nat) (an : Nat → Nat) (sv : Nat → Int32) (dv : Nat → Int32) (n0 : Nat) (n1 : Nat) (n2 : Nat) (n3 : Nat) (n4 : Nat) (g0 : Nat → Int32) (gs : Nat → Int32) (gn : Nat → Int32) (gm : Nat → Int32) (hI_n0 : n0 ≤ 6) (hI_n1 : n1 ≤ 8) (hI_n2 : n2 ≤ 5) (hI_n3 : n3 ≤ 6) (hI_n4 : n4 ≤ 6) (sz : Nat) : Met l yX5_dropsTogether wsX5_dropsTogether ({ frames := 0, cells := 0, slots := 0, locals := 0 } : Room) (pE X [.ref hn] (rcV X hn an sv dv n0 n1 n2 n3 n4 g0 gs gn gm) sz) (qI (fun (r : Int32) (u : Unit) => True) X (fun (u : Unit) => []) [] sz) 0 0 (va_A [] sz) := by
  refine mk_met (B := (fun _ => True)) (A := (va_A [] sz)) (cc := cX5_dropsTogether) (maxL := 3) (ret := (some .int)) (by decide) rfl (Nat.le_of_ble_eq_true rfl) k_ro k_a (fun p e s m below meth c S zr zlk znm zsz G ls hl => ?_)
  have S : CallFix p m c cX5_dropsTogether 3 s _ wsX5_dropsTogether RX5 := S
  have zx := S.1
  have zb := S.2.1
  have hl : lv_has ls 3 [(0, .ref hn)] := hl
  refine lv_iconst (v := 0) zx zb dX5_dropsTogether_0 (by decide) ?_
  refine lv_istore_n (lv' := [(1, .int 0), (0, .ref hn)]) zx zb dX5_dropsTogether_1 rfl hl (by decide) rfl (fun ls hl => ?_)
  refine lv_iconst (v := 0) zx zb dX5_dropsTogether_2 (by decide) ?_
  refine lv_istore_n (lv' := [(2, .int 0), (1, .int 0), (0, .ref hn)]) zx zb dX5_dropsTogether_3 rfl hl (by decide) rfl (fun ls hl => ?_)
  refine k_loop (P := ∀ (zm : Nat) (k4 : Nat) (x4_1 : Int32) (H : Heap) (locs : List Loc) (ls : Array Slot), 6 + 1 ≤ k4 + zm → (k4 ≤ 6) → wd X (fun _ => True) (va_A [] sz) s (rcV X hn an sv dv n0 n1 n2 n3 n4 g0 gs gn gm) H locs → lv_has ls 3 [(2, .int (nI k4)), (1, .int x4_1), (0, .ref hn)] → W p l e _ s m _ below meth c H locs _ _ _ (F0 m 4 ls [])) (fun loop => loop (6 + 1) 0 0 _ _ _ (by omega) (by omega) G hl) ?_
  intro zm
  induction zm with
  | zero => intro k4 x4_1 H locs ls zz q_hk_k4 _ _; exact absurd zz (by omega)
  | succ zm ih4 =>
    intro k4 x4_1 H locs ls zm_4 hk_k4 G hl
    refine lv_iload_n zx zb dX5_dropsTogether_4 rfl (lv_at hl 0 rfl) ?_
    refine lv_aload_n zx zb dX5_dropsTogether_5 rfl (lv_at hl 2 rfl) ?_
    refine r_get (C := RX5) (T := TX5) (N := 8) (ci := 3) (v := .int (nI n0)) S in_X5_dropsTogether_X5 G 0 rfl rfl 2 (by decide) lk_X5_dropsTogether_18 rfl dX5_dropsTogether_6 ?_
    refine lv_icmp_ge (tgt := 30) zx zb dX5_dropsTogether_9 (by decide) (fun c_1 => ?_) (fun c_1 => ?_)
    · have fc_1 := j_le (a := n0) (b := k4) (by omega) (by omega) c_1
      refine lv_iload_n zx zb dX5_dropsTogether_30 rfl (lv_at hl 1 rfl) ?_
      exact e_int S zr zlk (vp_nar_int _) G () [] rfl rfl (Or.inl rfl) (trivial) dX5_dropsTogether_31
    · have fc_1 := j_nle (a := n0) (b := k4) (by omega) (by omega) c_1
      refine lv_iload_n zx zb dX5_dropsTogether_12 rfl (lv_at hl 1 rfl) ?_
      refine lv_aload_n zx zb dX5_dropsTogether_13 rfl (lv_at hl 2 rfl) ?_
      refine r_get (C := RX5) (T := TX5) (N := 8) (ci := 3) (v := .ref (an 0)) S in_X5_dropsTogether_X5 G 0 rfl rfl 3 (by decide) lk_X5_dropsTogether_23 rfl dX5_dropsTogether_14 ?_
      refine lv_iload_n zx zb dX5_dropsTogether_17 rfl (lv_at hl 0 rfl) ?_
      rcases k_6c (show k4 < 6 by omega) with rfl | rfl | rfl | rfl | rfl | rfl
      · refine k_it (v := 0) rfl ?_
        refine r_aald (C := RX8) (b := (an 1)) S G 1 3 rfl rfl (k_vp (by decide)) rfl dX5_dropsTogether_18 ?_
        refine r_get (C := RX8) (T := TX8) (N := 8) (ci := 6) (v := .int (dv 12)) S in_X5_dropsTogether_X8 G 2 rfl rfl 5 (by decide) lk_X5_dropsTogether_91 rfl dX5_dropsTogether_19 ?_
        refine r_iadd (v := (x4_1 + (dv 12))) S rfl dX5_dropsTogether_22 ?_
        refine lv_istore_n (lv' := [(1, .int (x4_1 + (dv 12))), (2, .int 0), (0, .ref hn)]) zx zb dX5_dropsTogether_23 rfl hl (by decide) rfl (fun ls hl => ?_)
        refine lv_iinc (v := 1) (lv' := [(2, .int 1), (1, .int (x4_1 + (dv 12))), (0, .ref hn)]) zx zb dX5_dropsTogether_24 hl (k := 1) rfl (by decide) (by decide) rfl (fun ls hl => ?_)
        refine lv_goto (tgt := 4) zx zb dX5_dropsTogether_27 (by decide) ?_
        exact ih4 1 (x4_1 + (dv 12)) _ _ _ (by omega) (by omega) G hl
      · refine k_it (v := 1) rfl ?_
        refine r_aald (C := RX8) (b := (an 2)) S G 1 3 rfl rfl (k_vp (by decide)) rfl dX5_dropsTogether_18 ?_
        refine r_get (C := RX8) (T := TX8) (N := 8) (ci := 6) (v := .int (dv 17)) S in_X5_dropsTogether_X8 G 3 rfl rfl 5 (by decide) lk_X5_dropsTogether_91 rfl dX5_dropsTogether_19 ?_
        refine r_iadd (v := (x4_1 + (dv 17))) S rfl dX5_dropsTogether_22 ?_
        refine lv_istore_n (lv' := [(1, .int (x4_1 + (dv 17))), (2, .int 1), (0, .ref hn)]) zx zb dX5_dropsTogether_23 rfl hl (by decide) rfl (fun ls hl => ?_)
        refine lv_iinc (v := 2) (lv' := [(2, .int 2), (1, .int (x4_1 + (dv 17))), (0, .ref hn)]) zx zb dX5_dropsTogether_24 hl (k := 1) rfl (by decide) (by decide) rfl (fun ls hl => ?_)
        refine lv_goto (tgt := 4) zx zb dX5_dropsTogether_27 (by decide) ?_
        exact ih4 2 (x4_1 + (dv 17)) _ _ _ (by omega) (by omega) G hl
      · refine k_it (v := 2) rfl ?_
        refine r_aald (C := RX8) (b := (an 3)) S G 1 3 rfl rfl (k_vp (by decide)) rfl dX5_dropsTogether_18 ?_
        refine r_get (C := RX8) (T := TX8) (N := 8) (ci := 6) (v := .int (dv 22)) S in_X5_dropsTogether_X8 G 4 rfl rfl 5 (by decide) lk_X5_dropsTogether_91 rfl dX5_dropsTogether_19 ?_
        refine r_iadd (v := (x4_1 + (dv 22))) S rfl dX5_dropsTogether_22 ?_
        refine lv_istore_n (lv' := [(1, .int (x4_1 + (dv 22))), (2, .int 2), (0, .ref hn)]) zx zb dX5_dropsTogether_23 rfl hl (by decide) rfl (fun ls hl => ?_)
        refine lv_iinc (v := 3) (lv' := [(2, .int 3), (1, .int (x4_1 + (dv 22))), (0, .ref hn)]) zx zb dX5_dropsTogether_24 hl (k := 1) rfl (by decide) (by decide) rfl (fun ls hl => ?_)
        refine lv_goto (tgt := 4) zx zb dX5_dropsTogether_27 (by decide) ?_
        exact ih4 3 (x4_1 + (dv 22)) _ _ _ (by omega) (by omega) G hl
      · refine k_it (v := 3) rfl ?_
        refine r_aald (C := RX8) (b := (an 4)) S G 1 3 rfl rfl (k_vp (by decide)) rfl dX5_dropsTogether_18 ?_
        refine r_get (C := RX8) (T := TX8) (N := 8) (ci := 6) (v := .int (dv 27)) S in_X5_dropsTogether_X8 G 5 rfl rfl 5 (by decide) lk_X5_dropsTogether_91 rfl dX5_dropsTogether_19 ?_
        refine r_iadd (v := (x4_1 + (dv 27))) S rfl dX5_dropsTogether_22 ?_
        refine lv_istore_n (lv' := [(1, .int (x4_1 + (dv 27))), (2, .int 3), (0, .ref hn)]) zx zb dX5_dropsTogether_23 rfl hl (by decide) rfl (fun ls hl => ?_)
        refine lv_iinc (v := 4) (lv' := [(2, .int 4), (1, .int (x4_1 + (dv 27))), (0, .ref hn)]) zx zb dX5_dropsTogether_24 hl (k := 1) rfl (by decide) (by decide) rfl (fun ls hl => ?_)
        refine lv_goto (tgt := 4) zx zb dX5_dropsTogether_27 (by decide) ?_
        exact ih4 4 (x4_1 + (dv 27)) _ _ _ (by omega) (by omega) G hl
      · refine k_it (v := 4) rfl ?_
        refine r_aald (C := RX8) (b := (an 5)) S G 1 3 rfl rfl (k_vp (by decide)) rfl dX5_dropsTogether_18 ?_
        refine r_get (C := RX8) (T := TX8) (N := 8) (ci := 6) (v := .int (dv 32)) S in_X5_dropsTogether_X8 G 6 rfl rfl 5 (by decide) lk_X5_dropsTogether_91 rfl dX5_dropsTogether_19 ?_
        refine r_iadd (v := (x4_1 + (dv 32))) S rfl dX5_dropsTogether_22 ?_
        refine lv_istore_n (lv' := [(1, .int (x4_1 + (dv 32))), (2, .int 4), (0, .ref hn)]) zx zb dX5_dropsTogether_23 rfl hl (by decide) rfl (fun ls hl => ?_)
        refine lv_iinc (v := 5) (lv' := [(2, .int 5), (1, .int (x4_1 + (dv 32))), (0, .ref hn)]) zx zb dX5_dropsTogether_24 hl (k := 1) rfl (by decide) (by decide) rfl (fun ls hl => ?_)
        refine lv_goto (tgt := 4) zx zb dX5_dropsTogether_27 (by decide) ?_
        exact ih4 5 (x4_1 + (dv 32)) _ _ _ (by omega) (by omega) G hl
      · refine k_it (v := 5) rfl ?_
        refine r_aald (C := RX8) (b := (an 6)) S G 1 3 rfl rfl (k_vp (by decide)) rfl dX5_dropsTogether_18 ?_
        refine r_get (C := RX8) (T := TX8) (N := 8) (ci := 6) (v := .int (dv 37)) S in_X5_dropsTogether_X8 G 7 rfl rfl 5 (by decide) lk_X5_dropsTogether_91 rfl dX5_dropsTogether_19 ?_
        refine r_iadd (v := (x4_1 + (dv 37))) S rfl dX5_dropsTogether_22 ?_
        refine lv_istore_n (lv' := [(1, .int (x4_1 + (dv 37))), (2, .int 5), (0, .ref hn)]) zx zb dX5_dropsTogether_23 rfl hl (by decide) rfl (fun ls hl => ?_)
        refine lv_iinc (v := 6) (lv' := [(2, .int 6), (1, .int (x4_1 + (dv 37))), (0, .ref hn)]) zx zb dX5_dropsTogether_24 hl (k := 1) rfl (by decide) (by decide) rfl (fun ls hl => ?_)
        refine lv_goto (tgt := 4) zx zb dX5_dropsTogether_27 (by decide) ?_
        exact ih4 6 (x4_1 + (dv 37)) _ _ _ (by omega) (by omega) G hl
theorem in_X5_legsThatFit_X5 : ∀ w ∈ wsX50, w ∈ wsX5_legsThatFit := by decide +kernel
theorem lk_X5_legsThatFit_39 : Cond.fieldLink RX5 39 "EggSpoons$Race" "seenRows" "LEggSpoons$Rows;" ∈ wsX5_legsThatFit := by decide +kernel
theorem lk_X5_legsThatFit_23 : Cond.fieldLink RX5 23 "EggSpoons$Race" "row" "[LEggSpoons$Runner;" ∈ wsX5_legsThatFit := by decide +kernel
theorem in_X5_legsThatFit_X8 : ∀ w ∈ wsX80, w ∈ wsX5_legsThatFit := by decide +kernel
theorem lk_X5_legsThatFit_94 : Cond.fieldLink RX5 94 "EggSpoons$Runner" "kind" "I" ∈ wsX5_legsThatFit := by decide +kernel
theorem hdV_X7_fitRunner : yX7_fitRunner.cls = RX7 ∧ yX7_fitRunner.cls ≠ "java/lang/invoke/MethodHandle" ∧ yX7_fitRunner.cls ≠ "java/lang/invoke/VarHandle" ∧ (parseMethodDescriptor yX7_fitRunner.desc).map (fun d => d.parameters.length) = some 3 := by decide +kernel
set_option maxHeartbeats 4000000 in
set_option maxRecDepth 100000 in
/-- legsThatFit -/
theorem s_legsThatFit (l : Launch) (X : EX) (hn : Nat) (an : Nat → Nat) (sv : Nat → Int32) (dv : Nat → Int32) (n0 : Nat) (n1 : Nat) (n2 : Nat) (n3 : Nat) (n4 : Nat) (g0 : Nat → Int32) (gs : Nat → Int32) (gn : Nat → Int32) (gm : Nat → Int32) (i : Nat) (hI_n0 : n0 ≤ 6) (hI_n1 : n1 ≤ 8) (hI_n2 : n2 ≤ 5) (hI_n3 : n3 ≤ 6) (hI_n4 : n4 ≤ 6) (hi6 : i < 6) (sz : Nat) : Met l yX5_legsThatFit wsX5_legsThatFit ({ frames := 2, cells := 0, slots := 0, locals := 52 } : Room) (pE X [.ref hn, .int (nI i)] (rcV X hn an sv dv n0 n1 n2 n3 n4 g0 gs gn gm) sz) (qI (fun (r : Int32) (u : Unit) => True) X (fun (u : Unit) => []) [] sz) 0 0 (va_A [] sz) := by
  refine mk_met (B := (fun _ => True)) (A := (va_A [] sz)) (cc := cX5_legsThatFit) (maxL := 4) (ret := (some .int)) (by decide) rfl (Nat.le_of_ble_eq_true rfl) k_ro k_a (fun p e s m below meth c S zr zlk znm zsz G ls hl => ?_)
  have S : CallFix p m c cX5_legsThatFit 4 s _ wsX5_legsThatFit RX5 := S
  have zx := S.1
  have zb := S.2.1
  have hl : lv_has ls 4 [(0, .ref hn), (1, .int (nI i))] := hl
  refine lv_iconst (v := 0) zx zb dX5_legsThatFit_0 (by decide) ?_
  refine lv_istore_n (lv' := [(2, .int 0), (0, .ref hn), (1, .int (nI i))]) zx zb dX5_legsThatFit_1 rfl hl (by decide) rfl (fun ls hl => ?_)
  refine lv_iconst (v := 1) zx zb dX5_legsThatFit_2 (by decide) ?_
  refine lv_istore_n (lv' := [(3, .int 1), (2, .int 0), (0, .ref hn), (1, .int (nI i))]) zx zb dX5_legsThatFit_3 rfl hl (by decide) rfl (fun ls hl => ?_)
  refine k_loop (P := ∀ (zm : Nat) (k4 : Nat) (x4_2 : Int32) (H : Heap) (locs : List Loc) (ls : Array Slot), 10 + 1 ≤ k4 + zm → (k4 ≤ 10) → wd X (fun _ => True) (va_A [] sz) s (rcV X hn an sv dv n0 n1 n2 n3 n4 g0 gs gn gm) H locs → lv_has ls 4 [(3, .int (nI k4)), (2, .int x4_2), (0, .ref hn), (1, .int (nI i))] → W p l e _ s m _ below meth c H locs _ _ _ (F0 m 4 ls [])) (fun loop => loop (10 + 1) 1 0 _ _ _ (by omega) (by omega) G hl) ?_
  intro zm
  induction zm with
  | zero => intro k4 x4_2 H locs ls zz q_hk_k4 _ _; exact absurd zz (by omega)
  | succ zm ih4 =>
    intro k4 x4_2 H locs ls zm_4 hk_k4 G hl
    refine lv_iload_n zx zb dX5_legsThatFit_4 rfl (lv_at hl 0 rfl) ?_
    refine lv_bipush (v := 9) zx zb dX5_legsThatFit_5 (by decide) ?_
    refine lv_icmp_gt (tgt := 47) zx zb dX5_legsThatFit_7 (by decide) (fun c_1 => ?_) (fun c_1 => ?_)
    · have fc_1 := j_lt (a := 9) (b := k4) (by omega) (by omega) c_1
      refine lv_iload_n zx zb dX5_legsThatFit_47 rfl (lv_at hl 1 rfl) ?_
      exact e_int S zr zlk (vp_nar_int _) G () [] rfl rfl (Or.inl rfl) (trivial) dX5_legsThatFit_48
    · have fc_1 := j_nlt (a := 9) (b := k4) (by omega) (by omega) c_1
      refine lv_iload_n zx zb dX5_legsThatFit_10 rfl (lv_at hl 1 rfl) ?_
      refine lv_aload_n zx zb dX5_legsThatFit_11 rfl (lv_at hl 2 rfl) ?_
      refine r_get (C := RX5) (T := TX5) (N := 8) (ci := 3) (v := .ref (an 9)) S in_X5_legsThatFit_X5 G 0 rfl rfl 5 (by decide) lk_X5_legsThatFit_39 rfl dX5_legsThatFit_12 ?_
      refine lv_iload_n zx zb dX5_legsThatFit_15 rfl (lv_at hl 3 rfl) ?_
      refine lv_aload_n zx zb dX5_legsThatFit_16 rfl (lv_at hl 2 rfl) ?_
      refine r_get (C := RX5) (T := TX5) (N := 8) (ci := 3) (v := .ref (an 0)) S in_X5_legsThatFit_X5 G 0 rfl rfl 3 (by decide) lk_X5_legsThatFit_23 rfl dX5_legsThatFit_17 ?_
      refine lv_iload_n zx zb dX5_legsThatFit_20 rfl (lv_at hl 3 rfl) ?_
      rcases k_6c (show i < 6 by omega) with rfl | rfl | rfl | rfl | rfl | rfl
      · refine k_it (v := 0) rfl ?_
        refine r_aald (C := RX8) (b := (an 1)) S G 1 3 rfl rfl (k_vp (by decide)) rfl dX5_legsThatFit_21 ?_
        refine r_get (C := RX8) (T := TX8) (N := 8) (ci := 6) (v := .int (sv 0)) S in_X5_legsThatFit_X8 G 2 rfl rfl 0 (by decide) lk_X5_legsThatFit_94 rfl dX5_legsThatFit_22 ?_
        refine lv_iload_n zx zb dX5_legsThatFit_25 rfl (lv_at hl 0 rfl) ?_
        refine o_ri (cells' := 0) (slots' := 0) G rfl rfl (n_V (As := [.int 0, .int (sv 0), .int (nI k4)]) (rest := [.int x4_2]) (C := RX7) (T := TX7) (N := 5) (ci := 5) S G (s_fitRunner0 l X (an 9) (an 10) n2 gs 0 (sv 0) (nI k4) hI_n2 H.size) gX5_legsThatFit_X7_fitRunner rfl rfl rfl hdV_X7_fitRunner ⟨Nat.le_of_ble_eq_true rfl, Nat.le_of_ble_eq_true rfl⟩ [10, 11] rfl rfl 10 rfl rfl rfl hl.1 (Nat.le_of_ble_eq_true rfl) dX5_legsThatFit_26 ⟨Nat.le_of_ble_eq_true rfl, Nat.le_of_ble_eq_true rfl⟩) (fun r_2 u_2 H locs hp_2 G => ?_)
        have G : wd X (fun _ => True) (va_A [] sz) s (rcV X hn an sv dv n0 n1 n2 n3 n4 g0 gs gn gm) H locs := G
        refine k_cutW (PP := fun Wx => ∀ (x_4 : Int32) (H : Heap) (locs : List Loc) (ls : Array Slot), wd X (fun _ => True) (va_A [] sz) s (rcV X hn an sv dv n0 n1 n2 n3 n4 g0 gs gn gm) H locs → lv_has ls 4 [(3, .int (nI k4)), (2, .int x4_2), (0, .ref hn), (1, .int 0)] → Wx (F0 m 39 ls [.int x_4, .int x4_2]) H locs) ?_ ?_
        · intro join_29
          refine lv_if_eq (tgt := 38) zx zb dX5_legsThatFit_29 (by decide) (fun c_3 => ?_) (fun c_3 => ?_)
          · refine lv_iconst (v := 0) zx zb dX5_legsThatFit_38 (by decide) ?_
            exact join_29 0 _ _ _  G hl
          · refine lv_iconst (v := 1) zx zb dX5_legsThatFit_32 (by decide) ?_
            refine lv_iload_n zx zb dX5_legsThatFit_33 rfl (lv_at hl 0 rfl) ?_
            refine lv_ishl zx zb dX5_legsThatFit_34 ?_
            refine k_itE (fun y_5 => ?_)
            refine lv_goto (tgt := 39) zx zb dX5_legsThatFit_35 (by decide) ?_
            exact join_29 y_5 _ _ _  G hl
        · intro x_4 H locs ls  G hl
          refine lv_ior zx zb dX5_legsThatFit_39 ?_
          refine k_itE (fun y_6 => ?_)
          refine lv_istore_n (lv' := [(2, .int y_6), (3, .int (nI k4)), (0, .ref hn), (1, .int 0)]) zx zb dX5_legsThatFit_40 rfl hl (by decide) rfl (fun ls hl => ?_)
          refine lv_iinc (v := (nI (k4 + 1))) (lv' := [(3, .int (nI (k4 + 1))), (2, .int y_6), (0, .ref hn), (1, .int 0)]) zx zb dX5_legsThatFit_41 hl (k := 1) rfl (nI_add k4 1) (by decide) rfl (fun ls hl => ?_)
          refine lv_goto (tgt := 4) zx zb dX5_legsThatFit_44 (by decide) ?_
          exact ih4 (k4 + 1) y_6 _ _ _ (by omega) (by omega) G hl
      · refine k_it (v := 1) rfl ?_
        refine r_aald (C := RX8) (b := (an 2)) S G 1 3 rfl rfl (k_vp (by decide)) rfl dX5_legsThatFit_21 ?_
        refine r_get (C := RX8) (T := TX8) (N := 8) (ci := 6) (v := .int (sv 3)) S in_X5_legsThatFit_X8 G 3 rfl rfl 0 (by decide) lk_X5_legsThatFit_94 rfl dX5_legsThatFit_22 ?_
        refine lv_iload_n zx zb dX5_legsThatFit_25 rfl (lv_at hl 0 rfl) ?_
        refine o_ri (cells' := 0) (slots' := 0) G rfl rfl (n_V (As := [.int 1, .int (sv 3), .int (nI k4)]) (rest := [.int x4_2]) (C := RX7) (T := TX7) (N := 5) (ci := 5) S G (s_fitRunner0 l X (an 9) (an 10) n2 gs 1 (sv 3) (nI k4) hI_n2 H.size) gX5_legsThatFit_X7_fitRunner rfl rfl rfl hdV_X7_fitRunner ⟨Nat.le_of_ble_eq_true rfl, Nat.le_of_ble_eq_true rfl⟩ [10, 11] rfl rfl 10 rfl rfl rfl hl.1 (Nat.le_of_ble_eq_true rfl) dX5_legsThatFit_26 ⟨Nat.le_of_ble_eq_true rfl, Nat.le_of_ble_eq_true rfl⟩) (fun r_7 u_7 H locs hp_7 G => ?_)
        have G : wd X (fun _ => True) (va_A [] sz) s (rcV X hn an sv dv n0 n1 n2 n3 n4 g0 gs gn gm) H locs := G
        refine k_cutW (PP := fun Wx => ∀ (x_9 : Int32) (H : Heap) (locs : List Loc) (ls : Array Slot), wd X (fun _ => True) (va_A [] sz) s (rcV X hn an sv dv n0 n1 n2 n3 n4 g0 gs gn gm) H locs → lv_has ls 4 [(3, .int (nI k4)), (2, .int x4_2), (0, .ref hn), (1, .int 1)] → Wx (F0 m 39 ls [.int x_9, .int x4_2]) H locs) ?_ ?_
        · intro join_29
          refine lv_if_eq (tgt := 38) zx zb dX5_legsThatFit_29 (by decide) (fun c_8 => ?_) (fun c_8 => ?_)
          · refine lv_iconst (v := 0) zx zb dX5_legsThatFit_38 (by decide) ?_
            exact join_29 0 _ _ _  G hl
          · refine lv_iconst (v := 1) zx zb dX5_legsThatFit_32 (by decide) ?_
            refine lv_iload_n zx zb dX5_legsThatFit_33 rfl (lv_at hl 0 rfl) ?_
            refine lv_ishl zx zb dX5_legsThatFit_34 ?_
            refine k_itE (fun y_10 => ?_)
            refine lv_goto (tgt := 39) zx zb dX5_legsThatFit_35 (by decide) ?_
            exact join_29 y_10 _ _ _  G hl
        · intro x_9 H locs ls  G hl
          refine lv_ior zx zb dX5_legsThatFit_39 ?_
          refine k_itE (fun y_11 => ?_)
          refine lv_istore_n (lv' := [(2, .int y_11), (3, .int (nI k4)), (0, .ref hn), (1, .int 1)]) zx zb dX5_legsThatFit_40 rfl hl (by decide) rfl (fun ls hl => ?_)
          refine lv_iinc (v := (nI (k4 + 1))) (lv' := [(3, .int (nI (k4 + 1))), (2, .int y_11), (0, .ref hn), (1, .int 1)]) zx zb dX5_legsThatFit_41 hl (k := 1) rfl (nI_add k4 1) (by decide) rfl (fun ls hl => ?_)
          refine lv_goto (tgt := 4) zx zb dX5_legsThatFit_44 (by decide) ?_
          exact ih4 (k4 + 1) y_11 _ _ _ (by omega) (by omega) G hl
      · refine k_it (v := 2) rfl ?_
        refine r_aald (C := RX8) (b := (an 3)) S G 1 3 rfl rfl (k_vp (by decide)) rfl dX5_legsThatFit_21 ?_
        refine r_get (C := RX8) (T := TX8) (N := 8) (ci := 6) (v := .int (sv 6)) S in_X5_legsThatFit_X8 G 4 rfl rfl 0 (by decide) lk_X5_legsThatFit_94 rfl dX5_legsThatFit_22 ?_
        refine lv_iload_n zx zb dX5_legsThatFit_25 rfl (lv_at hl 0 rfl) ?_
        refine o_ri (cells' := 0) (slots' := 0) G rfl rfl (n_V (As := [.int 2, .int (sv 6), .int (nI k4)]) (rest := [.int x4_2]) (C := RX7) (T := TX7) (N := 5) (ci := 5) S G (s_fitRunner0 l X (an 9) (an 10) n2 gs 2 (sv 6) (nI k4) hI_n2 H.size) gX5_legsThatFit_X7_fitRunner rfl rfl rfl hdV_X7_fitRunner ⟨Nat.le_of_ble_eq_true rfl, Nat.le_of_ble_eq_true rfl⟩ [10, 11] rfl rfl 10 rfl rfl rfl hl.1 (Nat.le_of_ble_eq_true rfl) dX5_legsThatFit_26 ⟨Nat.le_of_ble_eq_true rfl, Nat.le_of_ble_eq_true rfl⟩) (fun r_12 u_12 H locs hp_12 G => ?_)
        have G : wd X (fun _ => True) (va_A [] sz) s (rcV X hn an sv dv n0 n1 n2 n3 n4 g0 gs gn gm) H locs := G
        refine k_cutW (PP := fun Wx => ∀ (x_14 : Int32) (H : Heap) (locs : List Loc) (ls : Array Slot), wd X (fun _ => True) (va_A [] sz) s (rcV X hn an sv dv n0 n1 n2 n3 n4 g0 gs gn gm) H locs → lv_has ls 4 [(3, .int (nI k4)), (2, .int x4_2), (0, .ref hn), (1, .int 2)] → Wx (F0 m 39 ls [.int x_14, .int x4_2]) H locs) ?_ ?_
        · intro join_29
          refine lv_if_eq (tgt := 38) zx zb dX5_legsThatFit_29 (by decide) (fun c_13 => ?_) (fun c_13 => ?_)
          · refine lv_iconst (v := 0) zx zb dX5_legsThatFit_38 (by decide) ?_
            exact join_29 0 _ _ _  G hl
          · refine lv_iconst (v := 1) zx zb dX5_legsThatFit_32 (by decide) ?_
            refine lv_iload_n zx zb dX5_legsThatFit_33 rfl (lv_at hl 0 rfl) ?_
            refine lv_ishl zx zb dX5_legsThatFit_34 ?_
            refine k_itE (fun y_15 => ?_)
            refine lv_goto (tgt := 39) zx zb dX5_legsThatFit_35 (by decide) ?_
            exact join_29 y_15 _ _ _  G hl
        · intro x_14 H locs ls  G hl
          refine lv_ior zx zb dX5_legsThatFit_39 ?_
          refine k_itE (fun y_16 => ?_)
          refine lv_istore_n (lv' := [(2, .int y_16), (3, .int (nI k4)), (0, .ref hn), (1, .int 2)]) zx zb dX5_legsThatFit_40 rfl hl (by decide) rfl (fun ls hl => ?_)
          refine lv_iinc (v := (nI (k4 + 1))) (lv' := [(3, .int (nI (k4 + 1))), (2, .int y_16), (0, .ref hn), (1, .int 2)]) zx zb dX5_legsThatFit_41 hl (k := 1) rfl (nI_add k4 1) (by decide) rfl (fun ls hl => ?_)
          refine lv_goto (tgt := 4) zx zb dX5_legsThatFit_44 (by decide) ?_
          exact ih4 (k4 + 1) y_16 _ _ _ (by omega) (by omega) G hl
      · refine k_it (v := 3) rfl ?_
        refine r_aald (C := RX8) (b := (an 4)) S G 1 3 rfl rfl (k_vp (by decide)) rfl dX5_legsThatFit_21 ?_
        refine r_get (C := RX8) (T := TX8) (N := 8) (ci := 6) (v := .int (sv 9)) S in_X5_legsThatFit_X8 G 5 rfl rfl 0 (by decide) lk_X5_legsThatFit_94 rfl dX5_legsThatFit_22 ?_
        refine lv_iload_n zx zb dX5_legsThatFit_25 rfl (lv_at hl 0 rfl) ?_
        refine o_ri (cells' := 0) (slots' := 0) G rfl rfl (n_V (As := [.int 3, .int (sv 9), .int (nI k4)]) (rest := [.int x4_2]) (C := RX7) (T := TX7) (N := 5) (ci := 5) S G (s_fitRunner0 l X (an 9) (an 10) n2 gs 3 (sv 9) (nI k4) hI_n2 H.size) gX5_legsThatFit_X7_fitRunner rfl rfl rfl hdV_X7_fitRunner ⟨Nat.le_of_ble_eq_true rfl, Nat.le_of_ble_eq_true rfl⟩ [10, 11] rfl rfl 10 rfl rfl rfl hl.1 (Nat.le_of_ble_eq_true rfl) dX5_legsThatFit_26 ⟨Nat.le_of_ble_eq_true rfl, Nat.le_of_ble_eq_true rfl⟩) (fun r_17 u_17 H locs hp_17 G => ?_)
        have G : wd X (fun _ => True) (va_A [] sz) s (rcV X hn an sv dv n0 n1 n2 n3 n4 g0 gs gn gm) H locs := G
        refine k_cutW (PP := fun Wx => ∀ (x_19 : Int32) (H : Heap) (locs : List Loc) (ls : Array Slot), wd X (fun _ => True) (va_A [] sz) s (rcV X hn an sv dv n0 n1 n2 n3 n4 g0 gs gn gm) H locs → lv_has ls 4 [(3, .int (nI k4)), (2, .int x4_2), (0, .ref hn), (1, .int 3)] → Wx (F0 m 39 ls [.int x_19, .int x4_2]) H locs) ?_ ?_
        · intro join_29
          refine lv_if_eq (tgt := 38) zx zb dX5_legsThatFit_29 (by decide) (fun c_18 => ?_) (fun c_18 => ?_)
          · refine lv_iconst (v := 0) zx zb dX5_legsThatFit_38 (by decide) ?_
            exact join_29 0 _ _ _  G hl
          · refine lv_iconst (v := 1) zx zb dX5_legsThatFit_32 (by decide) ?_
            refine lv_iload_n zx zb dX5_legsThatFit_33 rfl (lv_at hl 0 rfl) ?_
            refine lv_ishl zx zb dX5_legsThatFit_34 ?_
            refine k_itE (fun y_20 => ?_)
            refine lv_goto (tgt := 39) zx zb dX5_legsThatFit_35 (by decide) ?_
            exact join_29 y_20 _ _ _  G hl
        · intro x_19 H locs ls  G hl
          refine lv_ior zx zb dX5_legsThatFit_39 ?_
          refine k_itE (fun y_21 => ?_)
          refine lv_istore_n (lv' := [(2, .int y_21), (3, .int (nI k4)), (0, .ref hn), (1, .int 3)]) zx zb dX5_legsThatFit_40 rfl hl (by decide) rfl (fun ls hl => ?_)
          refine lv_iinc (v := (nI (k4 + 1))) (lv' := [(3, .int (nI (k4 + 1))), (2, .int y_21), (0, .ref hn), (1, .int 3)]) zx zb dX5_legsThatFit_41 hl (k := 1) rfl (nI_add k4 1) (by decide) rfl (fun ls hl => ?_)
          refine lv_goto (tgt := 4) zx zb dX5_legsThatFit_44 (by decide) ?_
          exact ih4 (k4 + 1) y_21 _ _ _ (by omega) (by omega) G hl
      · refine k_it (v := 4) rfl ?_
        refine r_aald (C := RX8) (b := (an 5)) S G 1 3 rfl rfl (k_vp (by decide)) rfl dX5_legsThatFit_21 ?_
        refine r_get (C := RX8) (T := TX8) (N := 8) (ci := 6) (v := .int (sv 12)) S in_X5_legsThatFit_X8 G 6 rfl rfl 0 (by decide) lk_X5_legsThatFit_94 rfl dX5_legsThatFit_22 ?_
        refine lv_iload_n zx zb dX5_legsThatFit_25 rfl (lv_at hl 0 rfl) ?_
        refine o_ri (cells' := 0) (slots' := 0) G rfl rfl (n_V (As := [.int 4, .int (sv 12), .int (nI k4)]) (rest := [.int x4_2]) (C := RX7) (T := TX7) (N := 5) (ci := 5) S G (s_fitRunner0 l X (an 9) (an 10) n2 gs 4 (sv 12) (nI k4) hI_n2 H.size) gX5_legsThatFit_X7_fitRunner rfl rfl rfl hdV_X7_fitRunner ⟨Nat.le_of_ble_eq_true rfl, Nat.le_of_ble_eq_true rfl⟩ [10, 11] rfl rfl 10 rfl rfl rfl hl.1 (Nat.le_of_ble_eq_true rfl) dX5_legsThatFit_26 ⟨Nat.le_of_ble_eq_true rfl, Nat.le_of_ble_eq_true rfl⟩) (fun r_22 u_22 H locs hp_22 G => ?_)
        have G : wd X (fun _ => True) (va_A [] sz) s (rcV X hn an sv dv n0 n1 n2 n3 n4 g0 gs gn gm) H locs := G
        refine k_cutW (PP := fun Wx => ∀ (x_24 : Int32) (H : Heap) (locs : List Loc) (ls : Array Slot), wd X (fun _ => True) (va_A [] sz) s (rcV X hn an sv dv n0 n1 n2 n3 n4 g0 gs gn gm) H locs → lv_has ls 4 [(3, .int (nI k4)), (2, .int x4_2), (0, .ref hn), (1, .int 4)] → Wx (F0 m 39 ls [.int x_24, .int x4_2]) H locs) ?_ ?_
        · intro join_29
          refine lv_if_eq (tgt := 38) zx zb dX5_legsThatFit_29 (by decide) (fun c_23 => ?_) (fun c_23 => ?_)
          · refine lv_iconst (v := 0) zx zb dX5_legsThatFit_38 (by decide) ?_
            exact join_29 0 _ _ _  G hl
          · refine lv_iconst (v := 1) zx zb dX5_legsThatFit_32 (by decide) ?_
            refine lv_iload_n zx zb dX5_legsThatFit_33 rfl (lv_at hl 0 rfl) ?_
            refine lv_ishl zx zb dX5_legsThatFit_34 ?_
            refine k_itE (fun y_25 => ?_)
            refine lv_goto (tgt := 39) zx zb dX5_legsThatFit_35 (by decide) ?_
            exact join_29 y_25 _ _ _  G hl
        · intro x_24 H locs ls  G hl
          refine lv_ior zx zb dX5_legsThatFit_39 ?_
          refine k_itE (fun y_26 => ?_)
          refine lv_istore_n (lv' := [(2, .int y_26), (3, .int (nI k4)), (0, .ref hn), (1, .int 4)]) zx zb dX5_legsThatFit_40 rfl hl (by decide) rfl (fun ls hl => ?_)
          refine lv_iinc (v := (nI (k4 + 1))) (lv' := [(3, .int (nI (k4 + 1))), (2, .int y_26), (0, .ref hn), (1, .int 4)]) zx zb dX5_legsThatFit_41 hl (k := 1) rfl (nI_add k4 1) (by decide) rfl (fun ls hl => ?_)
          refine lv_goto (tgt := 4) zx zb dX5_legsThatFit_44 (by decide) ?_
          exact ih4 (k4 + 1) y_26 _ _ _ (by omega) (by omega) G hl
      · refine k_it (v := 5) rfl ?_
        refine r_aald (C := RX8) (b := (an 6)) S G 1 3 rfl rfl (k_vp (by decide)) rfl dX5_legsThatFit_21 ?_
        refine r_get (C := RX8) (T := TX8) (N := 8) (ci := 6) (v := .int (sv 15)) S in_X5_legsThatFit_X8 G 7 rfl rfl 0 (by decide) lk_X5_legsThatFit_94 rfl dX5_legsThatFit_22 ?_
        refine lv_iload_n zx zb dX5_legsThatFit_25 rfl (lv_at hl 0 rfl) ?_
        refine o_ri (cells' := 0) (slots' := 0) G rfl rfl (n_V (As := [.int 5, .int (sv 15), .int (nI k4)]) (rest := [.int x4_2]) (C := RX7) (T := TX7) (N := 5) (ci := 5) S G (s_fitRunner0 l X (an 9) (an 10) n2 gs 5 (sv 15) (nI k4) hI_n2 H.size) gX5_legsThatFit_X7_fitRunner rfl rfl rfl hdV_X7_fitRunner ⟨Nat.le_of_ble_eq_true rfl, Nat.le_of_ble_eq_true rfl⟩ [10, 11] rfl rfl 10 rfl rfl rfl hl.1 (Nat.le_of_ble_eq_true rfl) dX5_legsThatFit_26 ⟨Nat.le_of_ble_eq_true rfl, Nat.le_of_ble_eq_true rfl⟩) (fun r_27 u_27 H locs hp_27 G => ?_)
        have G : wd X (fun _ => True) (va_A [] sz) s (rcV X hn an sv dv n0 n1 n2 n3 n4 g0 gs gn gm) H locs := G
        refine k_cutW (PP := fun Wx => ∀ (x_29 : Int32) (H : Heap) (locs : List Loc) (ls : Array Slot), wd X (fun _ => True) (va_A [] sz) s (rcV X hn an sv dv n0 n1 n2 n3 n4 g0 gs gn gm) H locs → lv_has ls 4 [(3, .int (nI k4)), (2, .int x4_2), (0, .ref hn), (1, .int 5)] → Wx (F0 m 39 ls [.int x_29, .int x4_2]) H locs) ?_ ?_
        · intro join_29
          refine lv_if_eq (tgt := 38) zx zb dX5_legsThatFit_29 (by decide) (fun c_28 => ?_) (fun c_28 => ?_)
          · refine lv_iconst (v := 0) zx zb dX5_legsThatFit_38 (by decide) ?_
            exact join_29 0 _ _ _  G hl
          · refine lv_iconst (v := 1) zx zb dX5_legsThatFit_32 (by decide) ?_
            refine lv_iload_n zx zb dX5_legsThatFit_33 rfl (lv_at hl 0 rfl) ?_
            refine lv_ishl zx zb dX5_legsThatFit_34 ?_
            refine k_itE (fun y_30 => ?_)
            refine lv_goto (tgt := 39) zx zb dX5_legsThatFit_35 (by decide) ?_
            exact join_29 y_30 _ _ _  G hl
        · intro x_29 H locs ls  G hl
          refine lv_ior zx zb dX5_legsThatFit_39 ?_
          refine k_itE (fun y_31 => ?_)
          refine lv_istore_n (lv' := [(2, .int y_31), (3, .int (nI k4)), (0, .ref hn), (1, .int 5)]) zx zb dX5_legsThatFit_40 rfl hl (by decide) rfl (fun ls hl => ?_)
          refine lv_iinc (v := (nI (k4 + 1))) (lv' := [(3, .int (nI (k4 + 1))), (2, .int y_31), (0, .ref hn), (1, .int 5)]) zx zb dX5_legsThatFit_41 hl (k := 1) rfl (nI_add k4 1) (by decide) rfl (fun ls hl => ?_)
          refine lv_goto (tgt := 4) zx zb dX5_legsThatFit_44 (by decide) ?_
          exact ih4 (k4 + 1) y_31 _ _ _ (by omega) (by omega) G hl
theorem in_X5_kindsThatFit_X5 : ∀ w ∈ wsX50, w ∈ wsX5_kindsThatFit := by decide +kernel
theorem lk_X5_kindsThatFit_43 : Cond.fieldLink RX5 43 "EggSpoons$Race" "noteRows" "LEggSpoons$Rows;" ∈ wsX5_kindsThatFit := by decide +kernel
set_option maxHeartbeats 4000000 in
set_option maxRecDepth 100000 in
/-- kindsThatFit -/
theorem s_kindsThatFit (l : Launch) (X : EX) (hn : Nat) (an : Nat → Nat) (sv : Nat → Int32) (dv : Nat → Int32) (n0 : Nat) (n1 : Nat) (n2 : Nat) (n3 : Nat) (n4 : Nat) (g0 : Nat → Int32) (gs : Nat → Int32) (gn : Nat → Int32) (gm : Nat → Int32) (i : Nat) (hI_n0 : n0 ≤ 6) (hI_n1 : n1 ≤ 8) (hI_n2 : n2 ≤ 5) (hI_n3 : n3 ≤ 6) (hI_n4 : n4 ≤ 6) (hi6 : i < 6) (sz : Nat) : Met l yX5_kindsThatFit wsX5_kindsThatFit ({ frames := 2, cells := 0, slots := 0, locals := 52 } : Room) (pE X [.ref hn, .int (nI i)] (rcV X hn an sv dv n0 n1 n2 n3 n4 g0 gs gn gm) sz) (qI (fun (r : Int32) (u : Unit) => True) X (fun (u : Unit) => []) [] sz) 0 0 (va_A [] sz) := by
  refine mk_met (B := (fun _ => True)) (A := (va_A [] sz)) (cc := cX5_kindsThatFit) (maxL := 4) (ret := (some .int)) (by decide) rfl (Nat.le_of_ble_eq_true rfl) k_ro k_a (fun p e s m below meth c S zr zlk znm zsz G ls hl => ?_)
  have S : CallFix p m c cX5_kindsThatFit 4 s _ wsX5_kindsThatFit RX5 := S
  have zx := S.1
  have zb := S.2.1
  have hl : lv_has ls 4 [(0, .ref hn), (1, .int (nI i))] := hl
  refine lv_iconst (v := 0) zx zb dX5_kindsThatFit_0 (by decide) ?_
  refine lv_istore_n (lv' := [(2, .int 0), (0, .ref hn), (1, .int (nI i))]) zx zb dX5_kindsThatFit_1 rfl hl (by decide) rfl (fun ls hl => ?_)
  refine lv_iconst (v := 0) zx zb dX5_kindsThatFit_2 (by decide) ?_
  refine lv_istore_n (lv' := [(3, .int 0), (2, .int 0), (0, .ref hn), (1, .int (nI i))]) zx zb dX5_kindsThatFit_3 rfl hl (by decide) rfl (fun ls hl => ?_)
  refine k_loop (P := ∀ (zm : Nat) (k4 : Nat) (x4_2 : Int32) (H : Heap) (locs : List Loc) (ls : Array Slot), 6 + 1 ≤ k4 + zm → (k4 ≤ 6) → wd X (fun _ => True) (va_A [] sz) s (rcV X hn an sv dv n0 n1 n2 n3 n4 g0 gs gn gm) H locs → lv_has ls 4 [(3, .int (nI k4)), (2, .int x4_2), (0, .ref hn), (1, .int (nI i))] → W p l e _ s m _ below meth c H locs _ _ _ (F0 m 4 ls [])) (fun loop => loop (6 + 1) 0 0 _ _ _ (by omega) (by omega) G hl) ?_
  intro zm
  induction zm with
  | zero => intro k4 x4_2 H locs ls zz q_hk_k4 _ _; exact absurd zz (by omega)
  | succ zm ih4 =>
    intro k4 x4_2 H locs ls zm_4 hk_k4 G hl
    refine lv_iload_n zx zb dX5_kindsThatFit_4 rfl (lv_at hl 0 rfl) ?_
    refine lv_bipush (v := 6) zx zb dX5_kindsThatFit_5 (by decide) ?_
    refine lv_icmp_ge (tgt := 39) zx zb dX5_kindsThatFit_7 (by decide) (fun c_1 => ?_) (fun c_1 => ?_)
    · have fc_1 := j_le (a := 6) (b := k4) (by omega) (by omega) c_1
      refine lv_iload_n zx zb dX5_kindsThatFit_39 rfl (lv_at hl 1 rfl) ?_
      exact e_int S zr zlk (vp_nar_int _) G () [] rfl rfl (Or.inl rfl) (trivial) dX5_kindsThatFit_40
    · have fc_1 := j_nle (a := 6) (b := k4) (by omega) (by omega) c_1
      refine lv_iload_n zx zb dX5_kindsThatFit_10 rfl (lv_at hl 1 rfl) ?_
      refine lv_aload_n zx zb dX5_kindsThatFit_11 rfl (lv_at hl 2 rfl) ?_
      refine r_get (C := RX5) (T := TX5) (N := 8) (ci := 3) (v := .ref (an 11)) S in_X5_kindsThatFit_X5 G 0 rfl rfl 6 (by decide) lk_X5_kindsThatFit_43 rfl dX5_kindsThatFit_12 ?_
      refine lv_iload_n zx zb dX5_kindsThatFit_15 rfl (lv_at hl 3 rfl) ?_
      refine lv_iload_n zx zb dX5_kindsThatFit_16 rfl (lv_at hl 0 rfl) ?_
      refine lv_iconst (v := 0) zx zb dX5_kindsThatFit_17 (by decide) ?_
      refine o_ri (cells' := 0) (slots' := 0) G rfl rfl (n_V (As := [.int (nI i), .int (nI k4), .int 0]) (rest := [.int x4_2]) (C := RX7) (T := TX7) (N := 5) (ci := 5) S G (s_fitRunner1 l X (an 11) (an 12) n3 gn (nI i) (nI k4) 0 hI_n3 H.size) gX5_kindsThatFit_X7_fitRunner rfl rfl rfl hdV_X7_fitRunner ⟨Nat.le_of_ble_eq_true rfl, Nat.le_of_ble_eq_true rfl⟩ [12, 13] rfl rfl 12 rfl rfl rfl hl.1 (Nat.le_of_ble_eq_true rfl) dX5_kindsThatFit_18 ⟨Nat.le_of_ble_eq_true rfl, Nat.le_of_ble_eq_true rfl⟩) (fun r_2 u_2 H locs hp_2 G => ?_)
      have G : wd X (fun _ => True) (va_A [] sz) s (rcV X hn an sv dv n0 n1 n2 n3 n4 g0 gs gn gm) H locs := G
      refine k_cutW (PP := fun Wx => ∀ (x_4 : Int32) (H : Heap) (locs : List Loc) (ls : Array Slot), wd X (fun _ => True) (va_A [] sz) s (rcV X hn an sv dv n0 n1 n2 n3 n4 g0 gs gn gm) H locs → lv_has ls 4 [(3, .int (nI k4)), (2, .int x4_2), (0, .ref hn), (1, .int (nI i))] → Wx (F0 m 31 ls [.int x_4, .int x4_2]) H locs) ?_ ?_
      · intro join_21
        refine lv_if_eq (tgt := 30) zx zb dX5_kindsThatFit_21 (by decide) (fun c_3 => ?_) (fun c_3 => ?_)
        · refine lv_iconst (v := 0) zx zb dX5_kindsThatFit_30 (by decide) ?_
          exact join_21 0 _ _ _  G hl
        · refine lv_iconst (v := 1) zx zb dX5_kindsThatFit_24 (by decide) ?_
          refine lv_iload_n zx zb dX5_kindsThatFit_25 rfl (lv_at hl 0 rfl) ?_
          refine lv_ishl zx zb dX5_kindsThatFit_26 ?_
          refine k_itE (fun y_5 => ?_)
          refine lv_goto (tgt := 31) zx zb dX5_kindsThatFit_27 (by decide) ?_
          exact join_21 y_5 _ _ _  G hl
      · intro x_4 H locs ls  G hl
        refine lv_ior zx zb dX5_kindsThatFit_31 ?_
        refine k_itE (fun y_6 => ?_)
        refine lv_istore_n (lv' := [(2, .int y_6), (3, .int (nI k4)), (0, .ref hn), (1, .int (nI i))]) zx zb dX5_kindsThatFit_32 rfl hl (by decide) rfl (fun ls hl => ?_)
        refine lv_iinc (v := (nI (k4 + 1))) (lv' := [(3, .int (nI (k4 + 1))), (2, .int y_6), (0, .ref hn), (1, .int (nI i))]) zx zb dX5_kindsThatFit_33 hl (k := 1) rfl (nI_add k4 1) (by decide) rfl (fun ls hl => ?_)
        refine lv_goto (tgt := 4) zx zb dX5_kindsThatFit_36 (by decide) ?_
        exact ih4 (k4 + 1) y_6 _ _ _ (by omega) (by omega) G hl
