set_option maxRecDepth 20000 in
theorem ggX5_eggsThatFit_X7_fitEgg : GoodIn wsX5_eggsThatFit wsX7_fitEgg := goodIn_r _ [6, 7, 8, 9, 10, 11, 12, 21, 22, 23, 24, 25] rfl (by decide +kernel)
set_option maxRecDepth 20000 in
theorem gX5_eggsThatFit_X7_fitEgg : GoodIn wsX5_eggsThatFit (wsV RX5 101 RX7 yX7_fitEgg wsX7_fitEgg) := goodIn_app (goodIn_of _ (by decide +kernel)) ggX5_eggsThatFit_X7_fitEgg
set_option maxRecDepth 20000 in
theorem ggX5_goOn_X8_step : GoodIn wsX5_goOn wsX8_step := goodIn_r _ [9, 10, 11, 12, 13, 14, 15, 16, 17, 18, 19, 20, 8, 21, 22, 23, 24, 25, 26, 27, 28, 29, 38, 39, 40, 41, 42, 43, 44, 45] rfl (by decide +kernel)
set_option maxRecDepth 20000 in
theorem gX5_goOn_X8_step : GoodIn wsX5_goOn (wsV RX5 72 RX8 yX8_step wsX8_step) := goodIn_app (goodIn_of _ (by decide +kernel)) ggX5_goOn_X8_step
set_option maxRecDepth 20000 in
theorem ggX5_homes_X8_isHome : GoodIn wsX5_homes wsX8_isHome := goodIn_r _ [7, 8, 17, 18, 19, 20, 21, 22, 23, 24] rfl (by decide +kernel)
set_option maxRecDepth 20000 in
theorem gX5_homes_X8_isHome : GoodIn wsX5_homes (wsV RX5 84 RX8 yX8_isHome wsX8_isHome) := goodIn_app (goodIn_of _ (by decide +kernel)) ggX5_homes_X8_isHome
set_option maxRecDepth 20000 in
theorem ggX5_keep_X4_push : GoodIn wsX5_keep wsX4_push := goodIn_r _ [8, 9, 10, 11, 12, 13, 14, 15, 16, 17, 18, 19, 28, 29, 30, 31, 32, 33, 34, 35, 36, 37] rfl (by decide +kernel)
set_option maxRecDepth 20000 in
theorem gX5_keep_X4_push : GoodIn wsX5_keep (wsV RX5 76 RX4 yX4_push wsX4_push) := goodIn_app (goodIn_of _ (by decide +kernel)) ggX5_keep_X4_push
set_option maxRecDepth 20000 in
theorem ggX5_kindsThatFit_X7_fitRunner : GoodIn wsX5_kindsThatFit wsX7_fitRunner := goodIn_r _ [6, 7, 8, 9, 10, 11, 12, 13, 22, 23, 24, 25, 26] rfl (by decide +kernel)
set_option maxRecDepth 20000 in
theorem gX5_kindsThatFit_X7_fitRunner : GoodIn wsX5_kindsThatFit (wsV RX5 97 RX7 yX7_fitRunner wsX7_fitRunner) := goodIn_app (goodIn_of _ (by decide +kernel)) ggX5_kindsThatFit_X7_fitRunner
set_option maxRecDepth 20000 in
theorem ggX5_legsThatFit_X7_fitRunner : GoodIn wsX5_legsThatFit wsX7_fitRunner := goodIn_r _ [8, 9, 10, 11, 12, 13, 14, 15, 32, 33, 34, 35, 36] rfl (by decide +kernel)
set_option maxRecDepth 20000 in
theorem gX5_legsThatFit_X7_fitRunner : GoodIn wsX5_legsThatFit (wsV RX5 97 RX7 yX7_fitRunner wsX7_fitRunner) := goodIn_app (goodIn_of _ (by decide +kernel)) ggX5_legsThatFit_X7_fitRunner
set_option maxRecDepth 20000 in
theorem ggX5_takeBack_X4_pop : GoodIn wsX5_takeBack wsX4_pop := goodIn_r _ [8, 9, 10, 11, 12, 13, 14, 15, 24, 25, 26, 27, 28, 29, 30, 31, 32, 33] rfl (by decide +kernel)
set_option maxRecDepth 20000 in
theorem gX5_takeBack_X4_pop : GoodIn wsX5_takeBack (wsV RX5 80 RX4 yX4_pop wsX4_pop) := goodIn_app (goodIn_of _ (by decide +kernel)) ggX5_takeBack_X4_pop
set_option maxRecDepth 20000 in
theorem ggX5_welcome_X8_begin : GoodIn wsX5_welcome wsX8_begin := goodIn_r _ [9, 10, 11, 12, 13, 14, 15, 16, 17, 28, 29, 30, 31, 32, 33, 34, 35] rfl (by decide +kernel)
set_option maxRecDepth 20000 in
theorem gX5_welcome_X8_begin : GoodIn wsX5_welcome (wsV RX5 54 RX8 yX8_begin wsX8_begin) := goodIn_app (goodIn_of _ (by decide +kernel)) ggX5_welcome_X8_begin
theorem dX4_pop_0 : decode cX4_pop 0 = .ok (.aload_n 0, 1) := by decide +kernel
theorem dX4_pop_1 : decode cX4_pop 1 = .ok (.getfield 15, 3) := by decide +kernel
theorem dX4_pop_10 : decode cX4_pop 10 = .ok (.dup, 1) := by decide +kernel
theorem dX4_pop_102 : decode cX4_pop 102 = .ok (.aload_n 1, 1) := by decide +kernel
theorem dX4_pop_103 : decode cX4_pop 103 = .ok (.iload_n 3, 1) := by decide +kernel
theorem dX4_pop_104 : decode cX4_pop 104 = .ok (.aaload, 1) := by decide +kernel
theorem dX4_pop_105 : decode cX4_pop 105 = .ok (.aload_n 0, 1) := by decide +kernel
theorem dX4_pop_106 : decode cX4_pop 106 = .ok (.getfield 11, 3) := by decide +kernel
theorem dX4_pop_109 : decode cX4_pop 109 = .ok (.iload 4, 2) := by decide +kernel
theorem dX4_pop_11 : decode cX4_pop 11 = .ok (.getfield 15, 3) := by decide +kernel
theorem dX4_pop_111 : decode cX4_pop 111 = .ok (.iconst 4, 1) := by decide +kernel
theorem dX4_pop_112 : decode cX4_pop 112 = .ok (.iadd, 1) := by decide +kernel
theorem dX4_pop_113 : decode cX4_pop 113 = .ok (.iaload, 1) := by decide +kernel
theorem dX4_pop_114 : decode cX4_pop 114 = .ok (.putfield 39, 3) := by decide +kernel
theorem dX4_pop_117 : decode cX4_pop 117 = .ok (.iinc 3 1, 3) := by decide +kernel
theorem dX4_pop_120 : decode cX4_pop 120 = .ok (.goto (-91), 3) := by decide +kernel
theorem dX4_pop_123 : decode cX4_pop 123 = .ok (.aload_n 0, 1) := by decide +kernel
theorem dX4_pop_124 : decode cX4_pop 124 = .ok (.getfield 11, 3) := by decide +kernel
theorem dX4_pop_127 : decode cX4_pop 127 = .ok (.iload_n 2, 1) := by decide +kernel
theorem dX4_pop_128 : decode cX4_pop 128 = .ok (.iaload, 1) := by decide +kernel
theorem dX4_pop_129 : decode cX4_pop 129 = .ok (.ireturn, 1) := by decide +kernel
theorem dX4_pop_14 : decode cX4_pop 14 = .ok (.iconst 1, 1) := by decide +kernel
theorem dX4_pop_15 : decode cX4_pop 15 = .ok (.isub, 1) := by decide +kernel
theorem dX4_pop_16 : decode cX4_pop 16 = .ok (.putfield 15, 3) := by decide +kernel
theorem dX4_pop_19 : decode cX4_pop 19 = .ok (.aload_n 0, 1) := by decide +kernel
theorem dX4_pop_20 : decode cX4_pop 20 = .ok (.getfield 15, 3) := by decide +kernel
theorem dX4_pop_23 : decode cX4_pop 23 = .ok (.bipush 31, 2) := by decide +kernel
theorem dX4_pop_25 : decode cX4_pop 25 = .ok (.imul, 1) := by decide +kernel
theorem dX4_pop_26 : decode cX4_pop 26 = .ok (.istore_n 2, 1) := by decide +kernel
theorem dX4_pop_27 : decode cX4_pop 27 = .ok (.iconst 0, 1) := by decide +kernel
theorem dX4_pop_28 : decode cX4_pop 28 = .ok (.istore_n 3, 1) := by decide +kernel
theorem dX4_pop_29 : decode cX4_pop 29 = .ok (.iload_n 3, 1) := by decide +kernel
theorem dX4_pop_30 : decode cX4_pop 30 = .ok (.bipush 6, 2) := by decide +kernel
theorem dX4_pop_32 : decode cX4_pop 32 = .ok (.if_icmp .ge 91, 3) := by decide +kernel
theorem dX4_pop_35 : decode cX4_pop 35 = .ok (.iload_n 2, 1) := by decide +kernel
theorem dX4_pop_36 : decode cX4_pop 36 = .ok (.iconst 1, 1) := by decide +kernel
theorem dX4_pop_37 : decode cX4_pop 37 = .ok (.iadd, 1) := by decide +kernel
theorem dX4_pop_38 : decode cX4_pop 38 = .ok (.iload_n 3, 1) := by decide +kernel
theorem dX4_pop_39 : decode cX4_pop 39 = .ok (.iconst 5, 1) := by decide +kernel
theorem dX4_pop_4 : decode cX4_pop 4 = .ok (.ifCond .gt 5, 3) := by decide +kernel
theorem dX4_pop_40 : decode cX4_pop 40 = .ok (.imul, 1) := by decide +kernel
theorem dX4_pop_41 : decode cX4_pop 41 = .ok (.iadd, 1) := by decide +kernel
theorem dX4_pop_42 : decode cX4_pop 42 = .ok (.istore 4, 2) := by decide +kernel
theorem dX4_pop_44 : decode cX4_pop 44 = .ok (.aload_n 1, 1) := by decide +kernel
theorem dX4_pop_45 : decode cX4_pop 45 = .ok (.iload_n 3, 1) := by decide +kernel
theorem dX4_pop_46 : decode cX4_pop 46 = .ok (.aaload, 1) := by decide +kernel
theorem dX4_pop_47 : decode cX4_pop 47 = .ok (.aload_n 0, 1) := by decide +kernel
theorem dX4_pop_48 : decode cX4_pop 48 = .ok (.getfield 11, 3) := by decide +kernel
theorem dX4_pop_51 : decode cX4_pop 51 = .ok (.iload 4, 2) := by decide +kernel
theorem dX4_pop_53 : decode cX4_pop 53 = .ok (.iaload, 1) := by decide +kernel
theorem dX4_pop_54 : decode cX4_pop 54 = .ok (.putfield 25, 3) := by decide +kernel
theorem dX4_pop_57 : decode cX4_pop 57 = .ok (.aload_n 1, 1) := by decide +kernel
theorem dX4_pop_58 : decode cX4_pop 58 = .ok (.iload_n 3, 1) := by decide +kernel
theorem dX4_pop_59 : decode cX4_pop 59 = .ok (.aaload, 1) := by decide +kernel
theorem dX4_pop_60 : decode cX4_pop 60 = .ok (.aload_n 0, 1) := by decide +kernel
theorem dX4_pop_61 : decode cX4_pop 61 = .ok (.getfield 11, 3) := by decide +kernel
theorem dX4_pop_64 : decode cX4_pop 64 = .ok (.iload 4, 2) := by decide +kernel
theorem dX4_pop_66 : decode cX4_pop 66 = .ok (.iconst 1, 1) := by decide +kernel
theorem dX4_pop_67 : decode cX4_pop 67 = .ok (.iadd, 1) := by decide +kernel
theorem dX4_pop_68 : decode cX4_pop 68 = .ok (.iaload, 1) := by decide +kernel
theorem dX4_pop_69 : decode cX4_pop 69 = .ok (.putfield 30, 3) := by decide +kernel
theorem dX4_pop_7 : decode cX4_pop 7 = .ok (.iconst (-1), 1) := by decide +kernel
theorem dX4_pop_72 : decode cX4_pop 72 = .ok (.aload_n 1, 1) := by decide +kernel
theorem dX4_pop_73 : decode cX4_pop 73 = .ok (.iload_n 3, 1) := by decide +kernel
theorem dX4_pop_74 : decode cX4_pop 74 = .ok (.aaload, 1) := by decide +kernel
theorem dX4_pop_75 : decode cX4_pop 75 = .ok (.aload_n 0, 1) := by decide +kernel
theorem dX4_pop_76 : decode cX4_pop 76 = .ok (.getfield 11, 3) := by decide +kernel
theorem dX4_pop_79 : decode cX4_pop 79 = .ok (.iload 4, 2) := by decide +kernel
theorem dX4_pop_8 : decode cX4_pop 8 = .ok (.ireturn, 1) := by decide +kernel
theorem dX4_pop_81 : decode cX4_pop 81 = .ok (.iconst 2, 1) := by decide +kernel
theorem dX4_pop_82 : decode cX4_pop 82 = .ok (.iadd, 1) := by decide +kernel
theorem dX4_pop_83 : decode cX4_pop 83 = .ok (.iaload, 1) := by decide +kernel
theorem dX4_pop_84 : decode cX4_pop 84 = .ok (.putfield 33, 3) := by decide +kernel
theorem dX4_pop_87 : decode cX4_pop 87 = .ok (.aload_n 1, 1) := by decide +kernel
theorem dX4_pop_88 : decode cX4_pop 88 = .ok (.iload_n 3, 1) := by decide +kernel
theorem dX4_pop_89 : decode cX4_pop 89 = .ok (.aaload, 1) := by decide +kernel
theorem dX4_pop_9 : decode cX4_pop 9 = .ok (.aload_n 0, 1) := by decide +kernel
theorem dX4_pop_90 : decode cX4_pop 90 = .ok (.aload_n 0, 1) := by decide +kernel
theorem dX4_pop_91 : decode cX4_pop 91 = .ok (.getfield 11, 3) := by decide +kernel
theorem dX4_pop_94 : decode cX4_pop 94 = .ok (.iload 4, 2) := by decide +kernel
theorem dX4_pop_96 : decode cX4_pop 96 = .ok (.iconst 3, 1) := by decide +kernel
theorem dX4_pop_97 : decode cX4_pop 97 = .ok (.iadd, 1) := by decide +kernel
theorem dX4_pop_98 : decode cX4_pop 98 = .ok (.iaload, 1) := by decide +kernel
theorem dX4_pop_99 : decode cX4_pop 99 = .ok (.putfield 36, 3) := by decide +kernel
theorem dX4_push_0 : decode cX4_push 0 = .ok (.aload_n 0, 1) := by decide +kernel
theorem dX4_push_1 : decode cX4_push 1 = .ok (.getfield 15, 3) := by decide +kernel
theorem dX4_push_10 : decode cX4_push 10 = .ok (.getfield 11, 3) := by decide +kernel
theorem dX4_push_101 : decode cX4_push 101 = .ok (.iload 5, 2) := by decide +kernel
theorem dX4_push_103 : decode cX4_push 103 = .ok (.iconst 2, 1) := by decide +kernel
theorem dX4_push_104 : decode cX4_push 104 = .ok (.iadd, 1) := by decide +kernel
theorem dX4_push_105 : decode cX4_push 105 = .ok (.aload_n 2, 1) := by decide +kernel
theorem dX4_push_106 : decode cX4_push 106 = .ok (.iload 4, 2) := by decide +kernel
theorem dX4_push_108 : decode cX4_push 108 = .ok (.aaload, 1) := by decide +kernel
theorem dX4_push_109 : decode cX4_push 109 = .ok (.getfield 33, 3) := by decide +kernel
theorem dX4_push_112 : decode cX4_push 112 = .ok (.iastore, 1) := by decide +kernel
theorem dX4_push_113 : decode cX4_push 113 = .ok (.aload_n 0, 1) := by decide +kernel
theorem dX4_push_114 : decode cX4_push 114 = .ok (.getfield 11, 3) := by decide +kernel
theorem dX4_push_117 : decode cX4_push 117 = .ok (.iload 5, 2) := by decide +kernel
theorem dX4_push_119 : decode cX4_push 119 = .ok (.iconst 3, 1) := by decide +kernel
theorem dX4_push_120 : decode cX4_push 120 = .ok (.iadd, 1) := by decide +kernel
theorem dX4_push_121 : decode cX4_push 121 = .ok (.aload_n 2, 1) := by decide +kernel
theorem dX4_push_122 : decode cX4_push 122 = .ok (.iload 4, 2) := by decide +kernel
theorem dX4_push_124 : decode cX4_push 124 = .ok (.aaload, 1) := by decide +kernel
theorem dX4_push_125 : decode cX4_push 125 = .ok (.getfield 36, 3) := by decide +kernel
theorem dX4_push_128 : decode cX4_push 128 = .ok (.iastore, 1) := by decide +kernel
theorem dX4_push_129 : decode cX4_push 129 = .ok (.aload_n 0, 1) := by decide +kernel
theorem dX4_push_13 : decode cX4_push 13 = .ok (.bipush 31, 2) := by decide +kernel
theorem dX4_push_130 : decode cX4_push 130 = .ok (.getfield 11, 3) := by decide +kernel
theorem dX4_push_133 : decode cX4_push 133 = .ok (.iload 5, 2) := by decide +kernel
theorem dX4_push_135 : decode cX4_push 135 = .ok (.iconst 4, 1) := by decide +kernel
theorem dX4_push_136 : decode cX4_push 136 = .ok (.iadd, 1) := by decide +kernel
theorem dX4_push_137 : decode cX4_push 137 = .ok (.aload_n 2, 1) := by decide +kernel
theorem dX4_push_138 : decode cX4_push 138 = .ok (.iload 4, 2) := by decide +kernel
theorem dX4_push_140 : decode cX4_push 140 = .ok (.aaload, 1) := by decide +kernel
theorem dX4_push_141 : decode cX4_push 141 = .ok (.getfield 39, 3) := by decide +kernel
theorem dX4_push_144 : decode cX4_push 144 = .ok (.iastore, 1) := by decide +kernel
theorem dX4_push_145 : decode cX4_push 145 = .ok (.iinc 4 1, 3) := by decide +kernel
theorem dX4_push_148 : decode cX4_push 148 = .ok (.goto (-98), 3) := by decide +kernel
theorem dX4_push_15 : decode cX4_push 15 = .ok (.aload_n 0, 1) := by decide +kernel
theorem dX4_push_151 : decode cX4_push 151 = .ok (.aload_n 0, 1) := by decide +kernel
theorem dX4_push_152 : decode cX4_push 152 = .ok (.dup, 1) := by decide +kernel
theorem dX4_push_153 : decode cX4_push 153 = .ok (.getfield 15, 3) := by decide +kernel
theorem dX4_push_156 : decode cX4_push 156 = .ok (.iconst 1, 1) := by decide +kernel
theorem dX4_push_157 : decode cX4_push 157 = .ok (.iadd, 1) := by decide +kernel
theorem dX4_push_158 : decode cX4_push 158 = .ok (.putfield 15, 3) := by decide +kernel
theorem dX4_push_16 : decode cX4_push 16 = .ok (.getfield 11, 3) := by decide +kernel
theorem dX4_push_161 : decode cX4_push 161 = .ok (.return_, 1) := by decide +kernel
theorem dX4_push_19 : decode cX4_push 19 = .ok (.iconst 0, 1) := by decide +kernel
theorem dX4_push_20 : decode cX4_push 20 = .ok (.sipush 217, 3) := by decide +kernel
theorem dX4_push_23 : decode cX4_push 23 = .ok (.invokestatic 19, 3) := by decide +kernel
theorem dX4_push_26 : decode cX4_push 26 = .ok (.aload_n 0, 1) := by decide +kernel
theorem dX4_push_27 : decode cX4_push 27 = .ok (.bipush 7, 2) := by decide +kernel
theorem dX4_push_29 : decode cX4_push 29 = .ok (.putfield 15, 3) := by decide +kernel
theorem dX4_push_32 : decode cX4_push 32 = .ok (.aload_n 0, 1) := by decide +kernel
theorem dX4_push_33 : decode cX4_push 33 = .ok (.getfield 15, 3) := by decide +kernel
theorem dX4_push_36 : decode cX4_push 36 = .ok (.bipush 31, 2) := by decide +kernel
theorem dX4_push_38 : decode cX4_push 38 = .ok (.imul, 1) := by decide +kernel
theorem dX4_push_39 : decode cX4_push 39 = .ok (.istore_n 3, 1) := by decide +kernel
theorem dX4_push_4 : decode cX4_push 4 = .ok (.bipush 8, 2) := by decide +kernel
theorem dX4_push_40 : decode cX4_push 40 = .ok (.aload_n 0, 1) := by decide +kernel
theorem dX4_push_41 : decode cX4_push 41 = .ok (.getfield 11, 3) := by decide +kernel
theorem dX4_push_44 : decode cX4_push 44 = .ok (.iload_n 3, 1) := by decide +kernel
theorem dX4_push_45 : decode cX4_push 45 = .ok (.iload_n 1, 1) := by decide +kernel
theorem dX4_push_46 : decode cX4_push 46 = .ok (.iastore, 1) := by decide +kernel
theorem dX4_push_47 : decode cX4_push 47 = .ok (.iconst 0, 1) := by decide +kernel
theorem dX4_push_48 : decode cX4_push 48 = .ok (.istore 4, 2) := by decide +kernel
theorem dX4_push_50 : decode cX4_push 50 = .ok (.iload 4, 2) := by decide +kernel
theorem dX4_push_52 : decode cX4_push 52 = .ok (.bipush 6, 2) := by decide +kernel
theorem dX4_push_54 : decode cX4_push 54 = .ok (.if_icmp .ge 97, 3) := by decide +kernel
theorem dX4_push_57 : decode cX4_push 57 = .ok (.iload_n 3, 1) := by decide +kernel
theorem dX4_push_58 : decode cX4_push 58 = .ok (.iconst 1, 1) := by decide +kernel
theorem dX4_push_59 : decode cX4_push 59 = .ok (.iadd, 1) := by decide +kernel
theorem dX4_push_6 : decode cX4_push 6 = .ok (.if_icmp .lt 26, 3) := by decide +kernel
theorem dX4_push_60 : decode cX4_push 60 = .ok (.iload 4, 2) := by decide +kernel
theorem dX4_push_62 : decode cX4_push 62 = .ok (.iconst 5, 1) := by decide +kernel
theorem dX4_push_63 : decode cX4_push 63 = .ok (.imul, 1) := by decide +kernel
theorem dX4_push_64 : decode cX4_push 64 = .ok (.iadd, 1) := by decide +kernel
theorem dX4_push_65 : decode cX4_push 65 = .ok (.istore 5, 2) := by decide +kernel
theorem dX4_push_67 : decode cX4_push 67 = .ok (.aload_n 0, 1) := by decide +kernel
theorem dX4_push_68 : decode cX4_push 68 = .ok (.getfield 11, 3) := by decide +kernel
theorem dX4_push_71 : decode cX4_push 71 = .ok (.iload 5, 2) := by decide +kernel
theorem dX4_push_73 : decode cX4_push 73 = .ok (.aload_n 2, 1) := by decide +kernel
theorem dX4_push_74 : decode cX4_push 74 = .ok (.iload 4, 2) := by decide +kernel
theorem dX4_push_76 : decode cX4_push 76 = .ok (.aaload, 1) := by decide +kernel
theorem dX4_push_77 : decode cX4_push 77 = .ok (.getfield 25, 3) := by decide +kernel
theorem dX4_push_80 : decode cX4_push 80 = .ok (.iastore, 1) := by decide +kernel
theorem dX4_push_81 : decode cX4_push 81 = .ok (.aload_n 0, 1) := by decide +kernel
theorem dX4_push_82 : decode cX4_push 82 = .ok (.getfield 11, 3) := by decide +kernel
theorem dX4_push_85 : decode cX4_push 85 = .ok (.iload 5, 2) := by decide +kernel
theorem dX4_push_87 : decode cX4_push 87 = .ok (.iconst 1, 1) := by decide +kernel
theorem dX4_push_88 : decode cX4_push 88 = .ok (.iadd, 1) := by decide +kernel
theorem dX4_push_89 : decode cX4_push 89 = .ok (.aload_n 2, 1) := by decide +kernel
theorem dX4_push_9 : decode cX4_push 9 = .ok (.aload_n 0, 1) := by decide +kernel
theorem dX4_push_90 : decode cX4_push 90 = .ok (.iload 4, 2) := by decide +kernel
theorem dX4_push_92 : decode cX4_push 92 = .ok (.aaload, 1) := by decide +kernel
theorem dX4_push_93 : decode cX4_push 93 = .ok (.getfield 30, 3) := by decide +kernel
theorem dX4_push_96 : decode cX4_push 96 = .ok (.iastore, 1) := by decide +kernel
theorem dX4_push_97 : decode cX4_push 97 = .ok (.aload_n 0, 1) := by decide +kernel
theorem dX4_push_98 : decode cX4_push 98 = .ok (.getfield 11, 3) := by decide +kernel
theorem dX5_dropsTogether_0 : decode cX5_dropsTogether 0 = .ok (.iconst 0, 1) := by decide +kernel
theorem dX5_dropsTogether_1 : decode cX5_dropsTogether 1 = .ok (.istore_n 1, 1) := by decide +kernel
theorem dX5_dropsTogether_12 : decode cX5_dropsTogether 12 = .ok (.iload_n 1, 1) := by decide +kernel
theorem dX5_dropsTogether_13 : decode cX5_dropsTogether 13 = .ok (.aload_n 0, 1) := by decide +kernel
theorem dX5_dropsTogether_14 : decode cX5_dropsTogether 14 = .ok (.getfield 23, 3) := by decide +kernel
theorem dX5_dropsTogether_17 : decode cX5_dropsTogether 17 = .ok (.iload_n 2, 1) := by decide +kernel
theorem dX5_dropsTogether_18 : decode cX5_dropsTogether 18 = .ok (.aaload, 1) := by decide +kernel
theorem dX5_dropsTogether_19 : decode cX5_dropsTogether 19 = .ok (.getfield 91, 3) := by decide +kernel
theorem dX5_dropsTogether_2 : decode cX5_dropsTogether 2 = .ok (.iconst 0, 1) := by decide +kernel
theorem dX5_dropsTogether_22 : decode cX5_dropsTogether 22 = .ok (.iadd, 1) := by decide +kernel
theorem dX5_dropsTogether_23 : decode cX5_dropsTogether 23 = .ok (.istore_n 1, 1) := by decide +kernel
theorem dX5_dropsTogether_24 : decode cX5_dropsTogether 24 = .ok (.iinc 2 1, 3) := by decide +kernel
theorem dX5_dropsTogether_27 : decode cX5_dropsTogether 27 = .ok (.goto (-23), 3) := by decide +kernel
theorem dX5_dropsTogether_3 : decode cX5_dropsTogether 3 = .ok (.istore_n 2, 1) := by decide +kernel
theorem dX5_dropsTogether_30 : decode cX5_dropsTogether 30 = .ok (.iload_n 1, 1) := by decide +kernel
theorem dX5_dropsTogether_31 : decode cX5_dropsTogether 31 = .ok (.ireturn, 1) := by decide +kernel
theorem dX5_dropsTogether_4 : decode cX5_dropsTogether 4 = .ok (.iload_n 2, 1) := by decide +kernel
theorem dX5_dropsTogether_5 : decode cX5_dropsTogether 5 = .ok (.aload_n 0, 1) := by decide +kernel
theorem dX5_dropsTogether_6 : decode cX5_dropsTogether 6 = .ok (.getfield 18, 3) := by decide +kernel
theorem dX5_dropsTogether_9 : decode cX5_dropsTogether 9 = .ok (.if_icmp .ge 21, 3) := by decide +kernel
theorem dX5_eggsThatFit_0 : decode cX5_eggsThatFit 0 = .ok (.iconst 0, 1) := by decide +kernel
theorem dX5_eggsThatFit_1 : decode cX5_eggsThatFit 1 = .ok (.istore_n 2, 1) := by decide +kernel
theorem dX5_eggsThatFit_10 : decode cX5_eggsThatFit 10 = .ok (.iload_n 2, 1) := by decide +kernel
theorem dX5_eggsThatFit_11 : decode cX5_eggsThatFit 11 = .ok (.aload_n 0, 1) := by decide +kernel
theorem dX5_eggsThatFit_12 : decode cX5_eggsThatFit 12 = .ok (.getfield 46, 3) := by decide +kernel
theorem dX5_eggsThatFit_15 : decode cX5_eggsThatFit 15 = .ok (.iload_n 1, 1) := by decide +kernel
theorem dX5_eggsThatFit_16 : decode cX5_eggsThatFit 16 = .ok (.iload_n 3, 1) := by decide +kernel
theorem dX5_eggsThatFit_17 : decode cX5_eggsThatFit 17 = .ok (.invokevirtual 101, 3) := by decide +kernel
theorem dX5_eggsThatFit_2 : decode cX5_eggsThatFit 2 = .ok (.iconst 0, 1) := by decide +kernel
theorem dX5_eggsThatFit_20 : decode cX5_eggsThatFit 20 = .ok (.ifCond .eq 9, 3) := by decide +kernel
theorem dX5_eggsThatFit_23 : decode cX5_eggsThatFit 23 = .ok (.iconst 1, 1) := by decide +kernel
theorem dX5_eggsThatFit_24 : decode cX5_eggsThatFit 24 = .ok (.iload_n 3, 1) := by decide +kernel
theorem dX5_eggsThatFit_25 : decode cX5_eggsThatFit 25 = .ok (.ishl, 1) := by decide +kernel
theorem dX5_eggsThatFit_26 : decode cX5_eggsThatFit 26 = .ok (.goto 4, 3) := by decide +kernel
theorem dX5_eggsThatFit_29 : decode cX5_eggsThatFit 29 = .ok (.iconst 0, 1) := by decide +kernel
theorem dX5_eggsThatFit_3 : decode cX5_eggsThatFit 3 = .ok (.istore_n 3, 1) := by decide +kernel
theorem dX5_eggsThatFit_30 : decode cX5_eggsThatFit 30 = .ok (.ior, 1) := by decide +kernel
theorem dX5_eggsThatFit_31 : decode cX5_eggsThatFit 31 = .ok (.istore_n 2, 1) := by decide +kernel
theorem dX5_eggsThatFit_32 : decode cX5_eggsThatFit 32 = .ok (.iinc 3 1, 3) := by decide +kernel
theorem dX5_eggsThatFit_35 : decode cX5_eggsThatFit 35 = .ok (.goto (-31), 3) := by decide +kernel
theorem dX5_eggsThatFit_38 : decode cX5_eggsThatFit 38 = .ok (.iload_n 2, 1) := by decide +kernel
theorem dX5_eggsThatFit_39 : decode cX5_eggsThatFit 39 = .ok (.ireturn, 1) := by decide +kernel
theorem dX5_eggsThatFit_4 : decode cX5_eggsThatFit 4 = .ok (.iload_n 3, 1) := by decide +kernel
theorem dX5_eggsThatFit_5 : decode cX5_eggsThatFit 5 = .ok (.bipush 6, 2) := by decide +kernel
theorem dX5_eggsThatFit_7 : decode cX5_eggsThatFit 7 = .ok (.if_icmp .ge 31, 3) := by decide +kernel
theorem dX5_goOn_0 : decode cX5_goOn 0 = .ok (.aload_n 0, 1) := by decide +kernel
theorem dX5_goOn_1 : decode cX5_goOn 1 = .ok (.dup, 1) := by decide +kernel
theorem dX5_goOn_10 : decode cX5_goOn 10 = .ok (.iconst 0, 1) := by decide +kernel
theorem dX5_goOn_11 : decode cX5_goOn 11 = .ok (.istore_n 1, 1) := by decide +kernel
theorem dX5_goOn_12 : decode cX5_goOn 12 = .ok (.iload_n 1, 1) := by decide +kernel
theorem dX5_goOn_13 : decode cX5_goOn 13 = .ok (.aload_n 0, 1) := by decide +kernel
theorem dX5_goOn_14 : decode cX5_goOn 14 = .ok (.getfield 18, 3) := by decide +kernel
theorem dX5_goOn_17 : decode cX5_goOn 17 = .ok (.if_icmp .ge 26, 3) := by decide +kernel
theorem dX5_goOn_2 : decode cX5_goOn 2 = .ok (.getfield 15, 3) := by decide +kernel
theorem dX5_goOn_20 : decode cX5_goOn 20 = .ok (.aload_n 0, 1) := by decide +kernel
theorem dX5_goOn_21 : decode cX5_goOn 21 = .ok (.getfield 23, 3) := by decide +kernel
theorem dX5_goOn_24 : decode cX5_goOn 24 = .ok (.iload_n 1, 1) := by decide +kernel
theorem dX5_goOn_25 : decode cX5_goOn 25 = .ok (.aaload, 1) := by decide +kernel
theorem dX5_goOn_26 : decode cX5_goOn 26 = .ok (.aload_n 0, 1) := by decide +kernel
theorem dX5_goOn_27 : decode cX5_goOn 27 = .ok (.getfield 15, 3) := by decide +kernel
theorem dX5_goOn_30 : decode cX5_goOn 30 = .ok (.aload_n 0, 1) := by decide +kernel
theorem dX5_goOn_31 : decode cX5_goOn 31 = .ok (.getfield 9, 3) := by decide +kernel
theorem dX5_goOn_34 : decode cX5_goOn 34 = .ok (.invokevirtual 72, 3) := by decide +kernel
theorem dX5_goOn_37 : decode cX5_goOn 37 = .ok (.iinc 1 1, 3) := by decide +kernel
theorem dX5_goOn_40 : decode cX5_goOn 40 = .ok (.goto (-28), 3) := by decide +kernel
theorem dX5_goOn_43 : decode cX5_goOn 43 = .ok (.return_, 1) := by decide +kernel
theorem dX5_goOn_5 : decode cX5_goOn 5 = .ok (.iconst 1, 1) := by decide +kernel
theorem dX5_goOn_6 : decode cX5_goOn 6 = .ok (.iadd, 1) := by decide +kernel
theorem dX5_goOn_7 : decode cX5_goOn 7 = .ok (.putfield 15, 3) := by decide +kernel
theorem dX5_homes_0 : decode cX5_homes 0 = .ok (.iconst 0, 1) := by decide +kernel
theorem dX5_homes_1 : decode cX5_homes 1 = .ok (.istore_n 1, 1) := by decide +kernel
theorem dX5_homes_12 : decode cX5_homes 12 = .ok (.iload_n 1, 1) := by decide +kernel
theorem dX5_homes_13 : decode cX5_homes 13 = .ok (.aload_n 0, 1) := by decide +kernel
theorem dX5_homes_14 : decode cX5_homes 14 = .ok (.getfield 23, 3) := by decide +kernel
theorem dX5_homes_17 : decode cX5_homes 17 = .ok (.iload_n 2, 1) := by decide +kernel
theorem dX5_homes_18 : decode cX5_homes 18 = .ok (.aaload, 1) := by decide +kernel
theorem dX5_homes_19 : decode cX5_homes 19 = .ok (.invokevirtual 84, 3) := by decide +kernel
theorem dX5_homes_2 : decode cX5_homes 2 = .ok (.iconst 0, 1) := by decide +kernel
theorem dX5_homes_22 : decode cX5_homes 22 = .ok (.ifCond .eq 7, 3) := by decide +kernel
theorem dX5_homes_25 : decode cX5_homes 25 = .ok (.iconst 1, 1) := by decide +kernel
theorem dX5_homes_26 : decode cX5_homes 26 = .ok (.goto 4, 3) := by decide +kernel
theorem dX5_homes_29 : decode cX5_homes 29 = .ok (.iconst 0, 1) := by decide +kernel
theorem dX5_homes_3 : decode cX5_homes 3 = .ok (.istore_n 2, 1) := by decide +kernel
theorem dX5_homes_30 : decode cX5_homes 30 = .ok (.iadd, 1) := by decide +kernel
theorem dX5_homes_31 : decode cX5_homes 31 = .ok (.istore_n 1, 1) := by decide +kernel
theorem dX5_homes_32 : decode cX5_homes 32 = .ok (.iinc 2 1, 3) := by decide +kernel
theorem dX5_homes_35 : decode cX5_homes 35 = .ok (.goto (-31), 3) := by decide +kernel
theorem dX5_homes_38 : decode cX5_homes 38 = .ok (.iload_n 1, 1) := by decide +kernel
theorem dX5_homes_39 : decode cX5_homes 39 = .ok (.ireturn, 1) := by decide +kernel
theorem dX5_homes_4 : decode cX5_homes 4 = .ok (.iload_n 2, 1) := by decide +kernel
theorem dX5_homes_5 : decode cX5_homes 5 = .ok (.aload_n 0, 1) := by decide +kernel
theorem dX5_homes_6 : decode cX5_homes 6 = .ok (.getfield 18, 3) := by decide +kernel
theorem dX5_homes_9 : decode cX5_homes 9 = .ok (.if_icmp .ge 29, 3) := by decide +kernel
theorem dX5_keep_0 : decode cX5_keep 0 = .ok (.aload_n 0, 1) := by decide +kernel
theorem dX5_keep_1 : decode cX5_keep 1 = .ok (.getfield 30, 3) := by decide +kernel
theorem dX5_keep_12 : decode cX5_keep 12 = .ok (.invokevirtual 76, 3) := by decide +kernel
theorem dX5_keep_15 : decode cX5_keep 15 = .ok (.return_, 1) := by decide +kernel
theorem dX5_keep_4 : decode cX5_keep 4 = .ok (.aload_n 0, 1) := by decide +kernel
theorem dX5_keep_5 : decode cX5_keep 5 = .ok (.getfield 15, 3) := by decide +kernel
theorem dX5_keep_8 : decode cX5_keep 8 = .ok (.aload_n 0, 1) := by decide +kernel
theorem dX5_keep_9 : decode cX5_keep 9 = .ok (.getfield 23, 3) := by decide +kernel
theorem dX5_kindsThatFit_0 : decode cX5_kindsThatFit 0 = .ok (.iconst 0, 1) := by decide +kernel
theorem dX5_kindsThatFit_1 : decode cX5_kindsThatFit 1 = .ok (.istore_n 2, 1) := by decide +kernel
theorem dX5_kindsThatFit_10 : decode cX5_kindsThatFit 10 = .ok (.iload_n 2, 1) := by decide +kernel
theorem dX5_kindsThatFit_11 : decode cX5_kindsThatFit 11 = .ok (.aload_n 0, 1) := by decide +kernel
theorem dX5_kindsThatFit_12 : decode cX5_kindsThatFit 12 = .ok (.getfield 43, 3) := by decide +kernel
theorem dX5_kindsThatFit_15 : decode cX5_kindsThatFit 15 = .ok (.iload_n 1, 1) := by decide +kernel
theorem dX5_kindsThatFit_16 : decode cX5_kindsThatFit 16 = .ok (.iload_n 3, 1) := by decide +kernel
theorem dX5_kindsThatFit_17 : decode cX5_kindsThatFit 17 = .ok (.iconst 0, 1) := by decide +kernel
theorem dX5_kindsThatFit_18 : decode cX5_kindsThatFit 18 = .ok (.invokevirtual 97, 3) := by decide +kernel
theorem dX5_kindsThatFit_2 : decode cX5_kindsThatFit 2 = .ok (.iconst 0, 1) := by decide +kernel
theorem dX5_kindsThatFit_21 : decode cX5_kindsThatFit 21 = .ok (.ifCond .eq 9, 3) := by decide +kernel
theorem dX5_kindsThatFit_24 : decode cX5_kindsThatFit 24 = .ok (.iconst 1, 1) := by decide +kernel
theorem dX5_kindsThatFit_25 : decode cX5_kindsThatFit 25 = .ok (.iload_n 3, 1) := by decide +kernel
theorem dX5_kindsThatFit_26 : decode cX5_kindsThatFit 26 = .ok (.ishl, 1) := by decide +kernel
theorem dX5_kindsThatFit_27 : decode cX5_kindsThatFit 27 = .ok (.goto 4, 3) := by decide +kernel
theorem dX5_kindsThatFit_3 : decode cX5_kindsThatFit 3 = .ok (.istore_n 3, 1) := by decide +kernel
theorem dX5_kindsThatFit_30 : decode cX5_kindsThatFit 30 = .ok (.iconst 0, 1) := by decide +kernel
theorem dX5_kindsThatFit_31 : decode cX5_kindsThatFit 31 = .ok (.ior, 1) := by decide +kernel
theorem dX5_kindsThatFit_32 : decode cX5_kindsThatFit 32 = .ok (.istore_n 2, 1) := by decide +kernel
theorem dX5_kindsThatFit_33 : decode cX5_kindsThatFit 33 = .ok (.iinc 3 1, 3) := by decide +kernel
theorem dX5_kindsThatFit_36 : decode cX5_kindsThatFit 36 = .ok (.goto (-32), 3) := by decide +kernel
theorem dX5_kindsThatFit_39 : decode cX5_kindsThatFit 39 = .ok (.iload_n 2, 1) := by decide +kernel
theorem dX5_kindsThatFit_4 : decode cX5_kindsThatFit 4 = .ok (.iload_n 3, 1) := by decide +kernel
theorem dX5_kindsThatFit_40 : decode cX5_kindsThatFit 40 = .ok (.ireturn, 1) := by decide +kernel
theorem dX5_kindsThatFit_5 : decode cX5_kindsThatFit 5 = .ok (.bipush 6, 2) := by decide +kernel
theorem dX5_kindsThatFit_7 : decode cX5_kindsThatFit 7 = .ok (.if_icmp .ge 32, 3) := by decide +kernel
theorem dX5_legsThatFit_0 : decode cX5_legsThatFit 0 = .ok (.iconst 0, 1) := by decide +kernel
theorem dX5_legsThatFit_1 : decode cX5_legsThatFit 1 = .ok (.istore_n 2, 1) := by decide +kernel
theorem dX5_legsThatFit_10 : decode cX5_legsThatFit 10 = .ok (.iload_n 2, 1) := by decide +kernel
theorem dX5_legsThatFit_11 : decode cX5_legsThatFit 11 = .ok (.aload_n 0, 1) := by decide +kernel
theorem dX5_legsThatFit_12 : decode cX5_legsThatFit 12 = .ok (.getfield 39, 3) := by decide +kernel
theorem dX5_legsThatFit_15 : decode cX5_legsThatFit 15 = .ok (.iload_n 1, 1) := by decide +kernel
theorem dX5_legsThatFit_16 : decode cX5_legsThatFit 16 = .ok (.aload_n 0, 1) := by decide +kernel
theorem dX5_legsThatFit_17 : decode cX5_legsThatFit 17 = .ok (.getfield 23, 3) := by decide +kernel
theorem dX5_legsThatFit_2 : decode cX5_legsThatFit 2 = .ok (.iconst 1, 1) := by decide +kernel
theorem dX5_legsThatFit_20 : decode cX5_legsThatFit 20 = .ok (.iload_n 1, 1) := by decide +kernel
theorem dX5_legsThatFit_21 : decode cX5_legsThatFit 21 = .ok (.aaload, 1) := by decide +kernel
theorem dX5_legsThatFit_22 : decode cX5_legsThatFit 22 = .ok (.getfield 94, 3) := by decide +kernel
theorem dX5_legsThatFit_25 : decode cX5_legsThatFit 25 = .ok (.iload_n 3, 1) := by decide +kernel
theorem dX5_legsThatFit_26 : decode cX5_legsThatFit 26 = .ok (.invokevirtual 97, 3) := by decide +kernel
theorem dX5_legsThatFit_29 : decode cX5_legsThatFit 29 = .ok (.ifCond .eq 9, 3) := by decide +kernel
theorem dX5_legsThatFit_3 : decode cX5_legsThatFit 3 = .ok (.istore_n 3, 1) := by decide +kernel
theorem dX5_legsThatFit_32 : decode cX5_legsThatFit 32 = .ok (.iconst 1, 1) := by decide +kernel
theorem dX5_legsThatFit_33 : decode cX5_legsThatFit 33 = .ok (.iload_n 3, 1) := by decide +kernel
theorem dX5_legsThatFit_34 : decode cX5_legsThatFit 34 = .ok (.ishl, 1) := by decide +kernel
theorem dX5_legsThatFit_35 : decode cX5_legsThatFit 35 = .ok (.goto 4, 3) := by decide +kernel
theorem dX5_legsThatFit_38 : decode cX5_legsThatFit 38 = .ok (.iconst 0, 1) := by decide +kernel
theorem dX5_legsThatFit_39 : decode cX5_legsThatFit 39 = .ok (.ior, 1) := by decide +kernel
theorem dX5_legsThatFit_4 : decode cX5_legsThatFit 4 = .ok (.iload_n 3, 1) := by decide +kernel
theorem dX5_legsThatFit_40 : decode cX5_legsThatFit 40 = .ok (.istore_n 2, 1) := by decide +kernel
theorem dX5_legsThatFit_41 : decode cX5_legsThatFit 41 = .ok (.iinc 3 1, 3) := by decide +kernel
theorem dX5_legsThatFit_44 : decode cX5_legsThatFit 44 = .ok (.goto (-40), 3) := by decide +kernel
theorem dX5_legsThatFit_47 : decode cX5_legsThatFit 47 = .ok (.iload_n 2, 1) := by decide +kernel
theorem dX5_legsThatFit_48 : decode cX5_legsThatFit 48 = .ok (.ireturn, 1) := by decide +kernel
theorem dX5_legsThatFit_5 : decode cX5_legsThatFit 5 = .ok (.bipush 9, 2) := by decide +kernel
theorem dX5_legsThatFit_7 : decode cX5_legsThatFit 7 = .ok (.if_icmp .gt 40, 3) := by decide +kernel
theorem dX5_placesTogether_0 : decode cX5_placesTogether 0 = .ok (.iconst 0, 1) := by decide +kernel
theorem dX5_placesTogether_1 : decode cX5_placesTogether 1 = .ok (.istore_n 1, 1) := by decide +kernel
theorem dX5_placesTogether_12 : decode cX5_placesTogether 12 = .ok (.iload_n 1, 1) := by decide +kernel
theorem dX5_placesTogether_13 : decode cX5_placesTogether 13 = .ok (.aload_n 0, 1) := by decide +kernel
theorem dX5_placesTogether_14 : decode cX5_placesTogether 14 = .ok (.getfield 23, 3) := by decide +kernel
theorem dX5_placesTogether_17 : decode cX5_placesTogether 17 = .ok (.iload_n 2, 1) := by decide +kernel
theorem dX5_placesTogether_18 : decode cX5_placesTogether 18 = .ok (.aaload, 1) := by decide +kernel
theorem dX5_placesTogether_19 : decode cX5_placesTogether 19 = .ok (.getfield 88, 3) := by decide +kernel
theorem dX5_placesTogether_2 : decode cX5_placesTogether 2 = .ok (.iconst 0, 1) := by decide +kernel
theorem dX5_placesTogether_22 : decode cX5_placesTogether 22 = .ok (.iadd, 1) := by decide +kernel
theorem dX5_placesTogether_23 : decode cX5_placesTogether 23 = .ok (.istore_n 1, 1) := by decide +kernel
theorem dX5_placesTogether_24 : decode cX5_placesTogether 24 = .ok (.iinc 2 1, 3) := by decide +kernel
theorem dX5_placesTogether_27 : decode cX5_placesTogether 27 = .ok (.goto (-23), 3) := by decide +kernel
theorem dX5_placesTogether_3 : decode cX5_placesTogether 3 = .ok (.istore_n 2, 1) := by decide +kernel
theorem dX5_placesTogether_30 : decode cX5_placesTogether 30 = .ok (.iload_n 1, 1) := by decide +kernel
theorem dX5_placesTogether_31 : decode cX5_placesTogether 31 = .ok (.ireturn, 1) := by decide +kernel
theorem dX5_placesTogether_4 : decode cX5_placesTogether 4 = .ok (.iload_n 2, 1) := by decide +kernel
theorem dX5_placesTogether_5 : decode cX5_placesTogether 5 = .ok (.aload_n 0, 1) := by decide +kernel
theorem dX5_placesTogether_6 : decode cX5_placesTogether 6 = .ok (.getfield 18, 3) := by decide +kernel
theorem dX5_placesTogether_9 : decode cX5_placesTogether 9 = .ok (.if_icmp .ge 21, 3) := by decide +kernel
theorem dX5_restart_0 : decode cX5_restart 0 = .ok (.aload_n 0, 1) := by decide +kernel
theorem dX5_restart_1 : decode cX5_restart 1 = .ok (.iload_n 1, 1) := by decide +kernel
theorem dX5_restart_10 : decode cX5_restart 10 = .ok (.aload_n 0, 1) := by decide +kernel
theorem dX5_restart_11 : decode cX5_restart 11 = .ok (.iconst 0, 1) := by decide +kernel
theorem dX5_restart_12 : decode cX5_restart 12 = .ok (.putfield 18, 3) := by decide +kernel
theorem dX5_restart_15 : decode cX5_restart 15 = .ok (.aload_n 0, 1) := by decide +kernel
theorem dX5_restart_16 : decode cX5_restart 16 = .ok (.getfield 30, 3) := by decide +kernel
theorem dX5_restart_19 : decode cX5_restart 19 = .ok (.iconst 0, 1) := by decide +kernel
theorem dX5_restart_2 : decode cX5_restart 2 = .ok (.putfield 9, 3) := by decide +kernel
theorem dX5_restart_20 : decode cX5_restart 20 = .ok (.putfield 50, 3) := by decide +kernel
theorem dX5_restart_23 : decode cX5_restart 23 = .ok (.aload_n 0, 1) := by decide +kernel
theorem dX5_restart_24 : decode cX5_restart 24 = .ok (.getfield 39, 3) := by decide +kernel
theorem dX5_restart_27 : decode cX5_restart 27 = .ok (.iconst 0, 1) := by decide +kernel
theorem dX5_restart_28 : decode cX5_restart 28 = .ok (.putfield 53, 3) := by decide +kernel
theorem dX5_restart_31 : decode cX5_restart 31 = .ok (.aload_n 0, 1) := by decide +kernel
theorem dX5_restart_32 : decode cX5_restart 32 = .ok (.getfield 43, 3) := by decide +kernel
theorem dX5_restart_35 : decode cX5_restart 35 = .ok (.iconst 0, 1) := by decide +kernel
theorem dX5_restart_36 : decode cX5_restart 36 = .ok (.putfield 53, 3) := by decide +kernel
theorem dX5_restart_39 : decode cX5_restart 39 = .ok (.aload_n 0, 1) := by decide +kernel
theorem dX5_restart_40 : decode cX5_restart 40 = .ok (.getfield 46, 3) := by decide +kernel
theorem dX5_restart_43 : decode cX5_restart 43 = .ok (.iconst 0, 1) := by decide +kernel
theorem dX5_restart_44 : decode cX5_restart 44 = .ok (.putfield 53, 3) := by decide +kernel
theorem dX5_restart_47 : decode cX5_restart 47 = .ok (.return_, 1) := by decide +kernel
theorem dX5_restart_5 : decode cX5_restart 5 = .ok (.aload_n 0, 1) := by decide +kernel
theorem dX5_restart_6 : decode cX5_restart 6 = .ok (.iconst 0, 1) := by decide +kernel
theorem dX5_restart_7 : decode cX5_restart 7 = .ok (.putfield 15, 3) := by decide +kernel
theorem dX5_takeBack_0 : decode cX5_takeBack 0 = .ok (.aload_n 0, 1) := by decide +kernel
theorem dX5_takeBack_1 : decode cX5_takeBack 1 = .ok (.getfield 30, 3) := by decide +kernel
theorem dX5_takeBack_11 : decode cX5_takeBack 11 = .ok (.istore_n 1, 1) := by decide +kernel
theorem dX5_takeBack_12 : decode cX5_takeBack 12 = .ok (.iload_n 1, 1) := by decide +kernel
theorem dX5_takeBack_13 : decode cX5_takeBack 13 = .ok (.iconst (-1), 1) := by decide +kernel
theorem dX5_takeBack_14 : decode cX5_takeBack 14 = .ok (.if_icmp .ne 5, 3) := by decide +kernel
theorem dX5_takeBack_17 : decode cX5_takeBack 17 = .ok (.iconst 0, 1) := by decide +kernel
theorem dX5_takeBack_18 : decode cX5_takeBack 18 = .ok (.ireturn, 1) := by decide +kernel
theorem dX5_takeBack_19 : decode cX5_takeBack 19 = .ok (.aload_n 0, 1) := by decide +kernel
theorem dX5_takeBack_20 : decode cX5_takeBack 20 = .ok (.iload_n 1, 1) := by decide +kernel
theorem dX5_takeBack_21 : decode cX5_takeBack 21 = .ok (.putfield 15, 3) := by decide +kernel
theorem dX5_takeBack_24 : decode cX5_takeBack 24 = .ok (.iconst 1, 1) := by decide +kernel
theorem dX5_takeBack_25 : decode cX5_takeBack 25 = .ok (.ireturn, 1) := by decide +kernel
theorem dX5_takeBack_4 : decode cX5_takeBack 4 = .ok (.aload_n 0, 1) := by decide +kernel
theorem dX5_takeBack_5 : decode cX5_takeBack 5 = .ok (.getfield 23, 3) := by decide +kernel
theorem dX5_takeBack_8 : decode cX5_takeBack 8 = .ok (.invokevirtual 80, 3) := by decide +kernel
theorem dX5_welcome_0 : decode cX5_welcome 0 = .ok (.aload_n 0, 1) := by decide +kernel
theorem dX5_welcome_1 : decode cX5_welcome 1 = .ok (.getfield 18, 3) := by decide +kernel
theorem dX5_welcome_10 : decode cX5_welcome 10 = .ok (.getfield 23, 3) := by decide +kernel
theorem dX5_welcome_13 : decode cX5_welcome 13 = .ok (.aload_n 0, 1) := by decide +kernel
theorem dX5_welcome_14 : decode cX5_welcome 14 = .ok (.getfield 18, 3) := by decide +kernel
theorem dX5_welcome_17 : decode cX5_welcome 17 = .ok (.aaload, 1) := by decide +kernel
theorem dX5_welcome_18 : decode cX5_welcome 18 = .ok (.iload_n 1, 1) := by decide +kernel
theorem dX5_welcome_19 : decode cX5_welcome 19 = .ok (.iload_n 2, 1) := by decide +kernel
theorem dX5_welcome_20 : decode cX5_welcome 20 = .ok (.iload_n 3, 1) := by decide +kernel
theorem dX5_welcome_21 : decode cX5_welcome 21 = .ok (.invokevirtual 54, 3) := by decide +kernel
theorem dX5_welcome_24 : decode cX5_welcome 24 = .ok (.aload_n 0, 1) := by decide +kernel
theorem dX5_welcome_25 : decode cX5_welcome 25 = .ok (.dup, 1) := by decide +kernel
theorem dX5_welcome_26 : decode cX5_welcome 26 = .ok (.getfield 18, 3) := by decide +kernel
theorem dX5_welcome_29 : decode cX5_welcome 29 = .ok (.iconst 1, 1) := by decide +kernel
theorem dX5_welcome_30 : decode cX5_welcome 30 = .ok (.iadd, 1) := by decide +kernel
theorem dX5_welcome_31 : decode cX5_welcome 31 = .ok (.putfield 18, 3) := by decide +kernel
theorem dX5_welcome_34 : decode cX5_welcome 34 = .ok (.aload_n 0, 1) := by decide +kernel
theorem dX5_welcome_35 : decode cX5_welcome 35 = .ok (.getfield 30, 3) := by decide +kernel
theorem dX5_welcome_38 : decode cX5_welcome 38 = .ok (.iconst 0, 1) := by decide +kernel
theorem dX5_welcome_39 : decode cX5_welcome 39 = .ok (.putfield 50, 3) := by decide +kernel
theorem dX5_welcome_4 : decode cX5_welcome 4 = .ok (.bipush 6, 2) := by decide +kernel
theorem dX5_welcome_42 : decode cX5_welcome 42 = .ok (.return_, 1) := by decide +kernel
theorem dX5_welcome_6 : decode cX5_welcome 6 = .ok (.if_icmp .ge 36, 3) := by decide +kernel
theorem dX5_welcome_9 : decode cX5_welcome 9 = .ok (.aload_n 0, 1) := by decide +kernel
theorem in_X4_push_X4 : ∀ w ∈ wsX40, w ∈ wsX4_push := by decide +kernel
theorem lk_X4_push_15 : Cond.fieldLink RX4 15 "EggSpoons$Past" "size" "I" ∈ wsX4_push := by decide +kernel
theorem lk_X4_push_11 : Cond.fieldLink RX4 11 "EggSpoons$Past" "cells" "[I" ∈ wsX4_push := by decide +kernel
theorem in_X4_push_X8 : ∀ w ∈ wsX80, w ∈ wsX4_push := by decide +kernel
theorem lk_X4_push_25 : Cond.fieldLink RX4 25 "EggSpoons$Runner" "speed" "I" ∈ wsX4_push := by decide +kernel
theorem lk_X4_push_30 : Cond.fieldLink RX4 30 "EggSpoons$Runner" "place" "I" ∈ wsX4_push := by decide +kernel
theorem lk_X4_push_33 : Cond.fieldLink RX4 33 "EggSpoons$Runner" "drops" "I" ∈ wsX4_push := by decide +kernel
theorem lk_X4_push_36 : Cond.fieldLink RX4 36 "EggSpoons$Runner" "waits" "I" ∈ wsX4_push := by decide +kernel
theorem lk_X4_push_39 : Cond.fieldLink RX4 39 "EggSpoons$Runner" "homeAt" "I" ∈ wsX4_push := by decide +kernel
theorem mm_X4_push_ml19 : Cond.methodLink RX4 19 arraycopyName ∈ wsX4_push := by decide +kernel
theorem mm_X4_push_cn : Cond.native arraycopyName ∈ wsX4_push := by decide +kernel
theorem mm_X4_push_cs : Cond.static arraycopyName ∈ wsX4_push := by decide +kernel
theorem mm_X4_push_ci : Cond.initialized "java/lang/System" ∈ wsX4_push := by decide +kernel
set_option maxHeartbeats 4000000 in
set_option maxRecDepth 100000 in
/-- push -/
theorem s_push (l : Launch) (X : EX) (hn : Nat) (an : Nat → Nat) (v : Nat → Int32) (b : Nat → Nat) (g : Nat → Nat → Int32) (x1 : Int32) (hI_b : InR b) (sz : Nat) : Met l yX4_push wsX4_push ({ frames := 1, cells := 0, slots := 0, locals := 60 } : Room) (pE X [.ref (an 7), .int x1, .ref (an 0)] (rcW X hn an v b g) sz) (qV (fun (u : (Nat → Int32) × (Nat → Nat) × (Nat → Nat → Int32)) => InR u.2.1 ∧ (True)) X (fun (u : (Nat → Int32) × (Nat → Nat) × (Nat → Nat → Int32)) => rcW X hn an u.1 u.2.1 u.2.2) (rcW X hn an v b g) sz) 0 0 (va_A (rcW X hn an v b g) sz) := by
  refine mk_met (B := (va_A (rcW X hn an v b g) sz)) (A := (va_A (rcW X hn an v b g) sz)) (cc := cX4_push) (maxL := 6) (ret := none) (by decide) rfl (Nat.le_of_ble_eq_true rfl) k_w k_a (fun p e s m below meth c S zr zlk znm zsz G ls hl => ?_)
  have S : CallFix p m c cX4_push 6 s _ wsX4_push RX4 := S
  have zx := S.1
  have zb := S.2.1
  have hl : lv_has ls 6 [(0, .ref (an 7)), (1, .int x1), (2, .ref (an 0))] := hl
  have hO_b := hI_b
  obtain ⟨hb0_b, hb1_b, hb2_b, hb3_b, hb4_b⟩ := hO_b
  refine lv_aload_n zx zb dX4_push_0 rfl (lv_at hl 0 rfl) ?_
  refine r_get (C := RX4) (T := TX4) (N := 2) (ci := 2) (v := .int (nI (b 1))) S in_X4_push_X4 G 8 rfl rfl 1 (by decide) lk_X4_push_15 rfl dX4_push_1 ?_
  refine lv_bipush (v := 8) zx zb dX4_push_4 (by decide) ?_
  refine lv_icmp_lt (tgt := 32) zx zb dX4_push_6 (by decide) (fun c_1 => ?_) (fun c_1 => ?_)
  · have fc_1 := j_lt (a := (b 1)) (b := 8) (by omega) (by omega) c_1
    refine lv_aload_n zx zb dX4_push_32 rfl (lv_at hl 0 rfl) ?_
    refine r_get (C := RX4) (T := TX4) (N := 2) (ci := 2) (v := .int (nI (b 1))) S in_X4_push_X4 G 8 rfl rfl 1 (by decide) lk_X4_push_15 rfl dX4_push_33 ?_
    refine lv_bipush (v := 31) zx zb dX4_push_36 (by decide) ?_
    refine r_imul (v := (nI ((b 1) * 31))) S (pk_mul (b 1) 31) dX4_push_38 ?_
    refine lv_istore_n (lv' := [(3, .int (nI ((b 1) * 31))), (0, .ref (an 7)), (1, .int x1), (2, .ref (an 0))]) zx zb dX4_push_39 rfl hl (by decide) rfl (fun ls hl => ?_)
    refine lv_aload_n zx zb dX4_push_40 rfl (lv_at hl 1 rfl) ?_
    refine r_get (C := RX4) (T := TX4) (N := 2) (ci := 2) (v := .ref (an 8)) S in_X4_push_X4 G 8 rfl rfl 0 (by decide) lk_X4_push_11 rfl dX4_push_41 ?_
    refine lv_iload_n zx zb dX4_push_44 rfl (lv_at hl 0 rfl) ?_
    refine lv_iload_n zx zb dX4_push_45 rfl (lv_at hl 2 rfl) ?_
    refine r_iast S G 9 rfl (vp_in_nI (by omega) (by decide)) dX4_push_46 (fun H locs G => ?_)
    obtain ⟨g_2, G⟩ : ∃ g_2 : Nat → Nat → Int32, wd X (va_A (rcW X hn an v b g) sz) (va_A (rcW X hn an v b g) sz) s (rcW X hn an v b g_2) H locs := ⟨upG g 0 _, G⟩
    refine lv_iconst (v := 0) zx zb dX4_push_47 (by decide) ?_
    refine lv_istore (lv' := [(4, .int 0), (3, .int (nI ((b 1) * 31))), (0, .ref (an 7)), (1, .int x1), (2, .ref (an 0))]) zx zb dX4_push_48 hl (by decide) rfl (fun ls hl => ?_)
    refine k_loop (P := ∀ (zm : Nat) (k50 : Nat) (g50_0 : Nat → Nat → Int32) (H : Heap) (locs : List Loc) (ls : Array Slot), 6 + 1 ≤ k50 + zm → (k50 ≤ 6) → wd X (va_A (rcW X hn an v b g) sz) (va_A (rcW X hn an v b g) sz) s (rcW X hn an v b g50_0) H locs → lv_has ls 6 [(4, .int (nI k50)), (3, .int (nI ((b 1) * 31))), (0, .ref (an 7)), (1, .int x1), (2, .ref (an 0))] → W p l e _ s m _ below meth c H locs _ _ _ (F0 m 50 ls [])) (fun loop => loop (6 + 1) 0 g_2 _ _ _ (by omega) (by omega) G hl) ?_
    intro zm
    induction zm with
    | zero => intro k50 g50_0 H locs ls zz q_hk_k50 _ _; exact absurd zz (by omega)
    | succ zm ih50 =>
      intro k50 g50_0 H locs ls zm_50 hk_k50 G hl
      refine lv_iload zx zb dX4_push_50 (lv_at hl 0 rfl) ?_
      refine lv_bipush (v := 6) zx zb dX4_push_52 (by decide) ?_
      refine lv_icmp_ge (tgt := 151) zx zb dX4_push_54 (by decide) (fun c_3 => ?_) (fun c_3 => ?_)
      · have fc_3 := j_le (a := 6) (b := k50) (by omega) (by omega) c_3
        refine lv_aload_n zx zb dX4_push_151 rfl (lv_at hl 2 rfl) ?_
        refine lv_dup zx zb dX4_push_152 rfl ?_
        refine r_get (C := RX4) (T := TX4) (N := 2) (ci := 2) (v := .int (nI (b 1))) S in_X4_push_X4 G 8 rfl rfl 1 (by decide) lk_X4_push_15 rfl dX4_push_153 ?_
        refine lv_iconst (v := 1) zx zb dX4_push_156 (by decide) ?_
        refine r_iadd (v := (nI ((b 1) + 1))) S (nI_add (b 1) 1) dX4_push_157 ?_
        refine r_put (C := RX4) (T := TX4) (N := 2) (ci := 2) (v := .int (nI ((b 1) + 1))) S in_X4_push_X4 tyX4_ok nmX4 G 8 rfl rfl 1 (by decide) lk_X4_push_15 rfl (vp_nar_int _) rfl (Nat.le_of_ble_eq_true rfl) dX4_push_158 (fun H locs G => ?_)
        obtain ⟨b_4, hI_b_4, ⟨hE_b_4_1, hE_b_4_0, hE_b_4_2, hE_b_4_3, hE_b_4_4⟩, G⟩ : ∃ b_4 : Nat → Nat, InR b_4 ∧ (b_4 1 = ((b 1) + 1) ∧ b_4 0 = b 0 ∧ b_4 2 = b 2 ∧ b_4 3 = b 3 ∧ b_4 4 = b 4) ∧ wd X (va_A (rcW X hn an v b g) sz) (va_A (rcW X hn an v b g) sz) s (rcW X hn an v b_4 g50_0) H locs := ⟨upN b 1 ((b 1) + 1), ⟨hI_b.1, (by show ((b 1) + 1) ≤ 8; omega), hI_b.2.2.1, hI_b.2.2.2.1, hI_b.2.2.2.2⟩, ⟨rfl, rfl, rfl, rfl, rfl⟩, G⟩
        have hO_b_4 := hI_b_4
        obtain ⟨hb0_b_4, hb1_b_4, hb2_b_4, hb3_b_4, hb4_b_4⟩ := hO_b_4
        exact e_void S zr zlk G (v, b_4, g50_0) [0, 1, 2, 3, 4, 5, 6, 7, 8, 9, 10, 11, 12, 13, 14, 15] rfl rfl (Or.inr rfl) (⟨hI_b_4, trivial⟩) dX4_push_161
      · have fc_3 := j_nle (a := 6) (b := k50) (by omega) (by omega) c_3
        refine lv_iload_n zx zb dX4_push_57 rfl (lv_at hl 1 rfl) ?_
        refine lv_iconst (v := 1) zx zb dX4_push_58 (by decide) ?_
        refine r_iadd (v := (nI (((b 1) * 31) + 1))) S (nI_add ((b 1) * 31) 1) dX4_push_59 ?_
        refine lv_iload zx zb dX4_push_60 (lv_at hl 0 rfl) ?_
        refine lv_iconst (v := 5) zx zb dX4_push_62 (by decide) ?_
        refine r_imul (v := (nI (k50 * 5))) S (pk_mul k50 5) dX4_push_63 ?_
        refine r_iadd (v := (nI ((((b 1) * 31) + 1) + (k50 * 5)))) S (nI_add (((b 1) * 31) + 1) (k50 * 5)) dX4_push_64 ?_
        refine lv_istore (lv' := [(5, .int (nI ((((b 1) * 31) + 1) + (k50 * 5)))), (4, .int (nI k50)), (3, .int (nI ((b 1) * 31))), (0, .ref (an 7)), (1, .int x1), (2, .ref (an 0))]) zx zb dX4_push_65 hl (by decide) rfl (fun ls hl => ?_)
        refine lv_aload_n zx zb dX4_push_67 rfl (lv_at hl 3 rfl) ?_
        refine r_get (C := RX4) (T := TX4) (N := 2) (ci := 2) (v := .ref (an 8)) S in_X4_push_X4 G 8 rfl rfl 0 (by decide) lk_X4_push_11 rfl dX4_push_68 ?_
        refine lv_iload zx zb dX4_push_71 (lv_at hl 0 rfl) ?_
        refine lv_aload_n zx zb dX4_push_73 rfl (lv_at hl 5 rfl) ?_
        refine lv_iload zx zb dX4_push_74 (lv_at hl 1 rfl) ?_
        rcases k_6c (show k50 < 6 by omega) with rfl | rfl | rfl | rfl | rfl | rfl
        · refine k_it (v := 0) rfl ?_
          refine r_aald (C := RX8) (b := (an 1)) S G 1 3 rfl rfl (k_vp (by decide)) rfl dX4_push_76 ?_
          refine r_get (C := RX8) (T := TX8) (N := 8) (ci := 6) (v := .int (v 13)) S in_X4_push_X8 G 2 rfl rfl 3 (by decide) lk_X4_push_25 rfl dX4_push_77 ?_
          refine r_iast S G 9 rfl (vp_in_nI (by omega) (by decide)) dX4_push_80 (fun H locs G => ?_)
          obtain ⟨g_5, G⟩ : ∃ g_5 : Nat → Nat → Int32, wd X (va_A (rcW X hn an v b g) sz) (va_A (rcW X hn an v b g) sz) s (rcW X hn an v b g_5) H locs := ⟨upG g50_0 0 _, G⟩
          refine lv_aload_n zx zb dX4_push_81 rfl (lv_at hl 3 rfl) ?_
          refine r_get (C := RX4) (T := TX4) (N := 2) (ci := 2) (v := .ref (an 8)) S in_X4_push_X4 G 8 rfl rfl 0 (by decide) lk_X4_push_11 rfl dX4_push_82 ?_
          refine lv_iload zx zb dX4_push_85 (lv_at hl 0 rfl) ?_
          refine lv_iconst (v := 1) zx zb dX4_push_87 (by decide) ?_
          refine r_iadd (v := (nI (((((b 1) * 31) + 1) + (0 * 5)) + 1))) S (nI_add ((((b 1) * 31) + 1) + (0 * 5)) 1) dX4_push_88 ?_
          refine lv_aload_n zx zb dX4_push_89 rfl (lv_at hl 5 rfl) ?_
          refine lv_iload zx zb dX4_push_90 (lv_at hl 1 rfl) ?_
          refine r_aald (C := RX8) (b := (an 1)) S G 1 3 rfl rfl (k_vp (by decide)) rfl dX4_push_92 ?_
          refine r_get (C := RX8) (T := TX8) (N := 8) (ci := 6) (v := .int (v 14)) S in_X4_push_X8 G 2 rfl rfl 4 (by decide) lk_X4_push_30 rfl dX4_push_93 ?_
          refine r_iast S G 9 rfl (vp_in_nI (by omega) (by decide)) dX4_push_96 (fun H locs G => ?_)
          obtain ⟨g_6, G⟩ : ∃ g_6 : Nat → Nat → Int32, wd X (va_A (rcW X hn an v b g) sz) (va_A (rcW X hn an v b g) sz) s (rcW X hn an v b g_6) H locs := ⟨upG g_5 0 _, G⟩
          refine lv_aload_n zx zb dX4_push_97 rfl (lv_at hl 3 rfl) ?_
          refine r_get (C := RX4) (T := TX4) (N := 2) (ci := 2) (v := .ref (an 8)) S in_X4_push_X4 G 8 rfl rfl 0 (by decide) lk_X4_push_11 rfl dX4_push_98 ?_
          refine lv_iload zx zb dX4_push_101 (lv_at hl 0 rfl) ?_
          refine lv_iconst (v := 2) zx zb dX4_push_103 (by decide) ?_
          refine r_iadd (v := (nI (((((b 1) * 31) + 1) + (0 * 5)) + 2))) S (nI_add ((((b 1) * 31) + 1) + (0 * 5)) 2) dX4_push_104 ?_
          refine lv_aload_n zx zb dX4_push_105 rfl (lv_at hl 5 rfl) ?_
          refine lv_iload zx zb dX4_push_106 (lv_at hl 1 rfl) ?_
          refine r_aald (C := RX8) (b := (an 1)) S G 1 3 rfl rfl (k_vp (by decide)) rfl dX4_push_108 ?_
          refine r_get (C := RX8) (T := TX8) (N := 8) (ci := 6) (v := .int (v 15)) S in_X4_push_X8 G 2 rfl rfl 5 (by decide) lk_X4_push_33 rfl dX4_push_109 ?_
          refine r_iast S G 9 rfl (vp_in_nI (by omega) (by decide)) dX4_push_112 (fun H locs G => ?_)
          obtain ⟨g_7, G⟩ : ∃ g_7 : Nat → Nat → Int32, wd X (va_A (rcW X hn an v b g) sz) (va_A (rcW X hn an v b g) sz) s (rcW X hn an v b g_7) H locs := ⟨upG g_6 0 _, G⟩
          refine lv_aload_n zx zb dX4_push_113 rfl (lv_at hl 3 rfl) ?_
          refine r_get (C := RX4) (T := TX4) (N := 2) (ci := 2) (v := .ref (an 8)) S in_X4_push_X4 G 8 rfl rfl 0 (by decide) lk_X4_push_11 rfl dX4_push_114 ?_
          refine lv_iload zx zb dX4_push_117 (lv_at hl 0 rfl) ?_
          refine lv_iconst (v := 3) zx zb dX4_push_119 (by decide) ?_
          refine r_iadd (v := (nI (((((b 1) * 31) + 1) + (0 * 5)) + 3))) S (nI_add ((((b 1) * 31) + 1) + (0 * 5)) 3) dX4_push_120 ?_
          refine lv_aload_n zx zb dX4_push_121 rfl (lv_at hl 5 rfl) ?_
          refine lv_iload zx zb dX4_push_122 (lv_at hl 1 rfl) ?_
          refine r_aald (C := RX8) (b := (an 1)) S G 1 3 rfl rfl (k_vp (by decide)) rfl dX4_push_124 ?_
          refine r_get (C := RX8) (T := TX8) (N := 8) (ci := 6) (v := .int (v 16)) S in_X4_push_X8 G 2 rfl rfl 6 (by decide) lk_X4_push_36 rfl dX4_push_125 ?_
          refine r_iast S G 9 rfl (vp_in_nI (by omega) (by decide)) dX4_push_128 (fun H locs G => ?_)
          obtain ⟨g_8, G⟩ : ∃ g_8 : Nat → Nat → Int32, wd X (va_A (rcW X hn an v b g) sz) (va_A (rcW X hn an v b g) sz) s (rcW X hn an v b g_8) H locs := ⟨upG g_7 0 _, G⟩
          refine lv_aload_n zx zb dX4_push_129 rfl (lv_at hl 3 rfl) ?_
          refine r_get (C := RX4) (T := TX4) (N := 2) (ci := 2) (v := .ref (an 8)) S in_X4_push_X4 G 8 rfl rfl 0 (by decide) lk_X4_push_11 rfl dX4_push_130 ?_
          refine lv_iload zx zb dX4_push_133 (lv_at hl 0 rfl) ?_
          refine lv_iconst (v := 4) zx zb dX4_push_135 (by decide) ?_
          refine r_iadd (v := (nI (((((b 1) * 31) + 1) + (0 * 5)) + 4))) S (nI_add ((((b 1) * 31) + 1) + (0 * 5)) 4) dX4_push_136 ?_
          refine lv_aload_n zx zb dX4_push_137 rfl (lv_at hl 5 rfl) ?_
          refine lv_iload zx zb dX4_push_138 (lv_at hl 1 rfl) ?_
          refine r_aald (C := RX8) (b := (an 1)) S G 1 3 rfl rfl (k_vp (by decide)) rfl dX4_push_140 ?_
          refine r_get (C := RX8) (T := TX8) (N := 8) (ci := 6) (v := .int (v 17)) S in_X4_push_X8 G 2 rfl rfl 7 (by decide) lk_X4_push_39 rfl dX4_push_141 ?_
          refine r_iast S G 9 rfl (vp_in_nI (by omega) (by decide)) dX4_push_144 (fun H locs G => ?_)
          obtain ⟨g_9, G⟩ : ∃ g_9 : Nat → Nat → Int32, wd X (va_A (rcW X hn an v b g) sz) (va_A (rcW X hn an v b g) sz) s (rcW X hn an v b g_9) H locs := ⟨upG g_8 0 _, G⟩
          refine lv_iinc (v := 1) (lv' := [(4, .int 1), (5, .int (nI ((((b 1) * 31) + 1) + (0 * 5)))), (3, .int (nI ((b 1) * 31))), (0, .ref (an 7)), (1, .int x1), (2, .ref (an 0))]) zx zb dX4_push_145 hl (k := 1) rfl (by decide) (by decide) rfl (fun ls hl => ?_)
          refine lv_goto (tgt := 50) zx zb dX4_push_148 (by decide) ?_
          have hl := lv_sub hl (l' := [(4, .int 1), (3, .int (nI ((b 1) * 31))), (0, .ref (an 7)), (1, .int x1), (2, .ref (an 0))]) [0, 2, 3, 4, 5] rfl
          exact ih50 1 g_9 _ _ _ (by omega) (by omega) G hl
        · refine k_it (v := 1) rfl ?_
          refine r_aald (C := RX8) (b := (an 2)) S G 1 3 rfl rfl (k_vp (by decide)) rfl dX4_push_76 ?_
          refine r_get (C := RX8) (T := TX8) (N := 8) (ci := 6) (v := .int (v 21)) S in_X4_push_X8 G 3 rfl rfl 3 (by decide) lk_X4_push_25 rfl dX4_push_77 ?_
          refine r_iast S G 9 rfl (vp_in_nI (by omega) (by decide)) dX4_push_80 (fun H locs G => ?_)
          obtain ⟨g_10, G⟩ : ∃ g_10 : Nat → Nat → Int32, wd X (va_A (rcW X hn an v b g) sz) (va_A (rcW X hn an v b g) sz) s (rcW X hn an v b g_10) H locs := ⟨upG g50_0 0 _, G⟩
          refine lv_aload_n zx zb dX4_push_81 rfl (lv_at hl 3 rfl) ?_
          refine r_get (C := RX4) (T := TX4) (N := 2) (ci := 2) (v := .ref (an 8)) S in_X4_push_X4 G 8 rfl rfl 0 (by decide) lk_X4_push_11 rfl dX4_push_82 ?_
          refine lv_iload zx zb dX4_push_85 (lv_at hl 0 rfl) ?_
          refine lv_iconst (v := 1) zx zb dX4_push_87 (by decide) ?_
          refine r_iadd (v := (nI (((((b 1) * 31) + 1) + (1 * 5)) + 1))) S (nI_add ((((b 1) * 31) + 1) + (1 * 5)) 1) dX4_push_88 ?_
          refine lv_aload_n zx zb dX4_push_89 rfl (lv_at hl 5 rfl) ?_
          refine lv_iload zx zb dX4_push_90 (lv_at hl 1 rfl) ?_
          refine r_aald (C := RX8) (b := (an 2)) S G 1 3 rfl rfl (k_vp (by decide)) rfl dX4_push_92 ?_
          refine r_get (C := RX8) (T := TX8) (N := 8) (ci := 6) (v := .int (v 22)) S in_X4_push_X8 G 3 rfl rfl 4 (by decide) lk_X4_push_30 rfl dX4_push_93 ?_
          refine r_iast S G 9 rfl (vp_in_nI (by omega) (by decide)) dX4_push_96 (fun H locs G => ?_)
          obtain ⟨g_11, G⟩ : ∃ g_11 : Nat → Nat → Int32, wd X (va_A (rcW X hn an v b g) sz) (va_A (rcW X hn an v b g) sz) s (rcW X hn an v b g_11) H locs := ⟨upG g_10 0 _, G⟩
          refine lv_aload_n zx zb dX4_push_97 rfl (lv_at hl 3 rfl) ?_
          refine r_get (C := RX4) (T := TX4) (N := 2) (ci := 2) (v := .ref (an 8)) S in_X4_push_X4 G 8 rfl rfl 0 (by decide) lk_X4_push_11 rfl dX4_push_98 ?_
          refine lv_iload zx zb dX4_push_101 (lv_at hl 0 rfl) ?_
          refine lv_iconst (v := 2) zx zb dX4_push_103 (by decide) ?_
          refine r_iadd (v := (nI (((((b 1) * 31) + 1) + (1 * 5)) + 2))) S (nI_add ((((b 1) * 31) + 1) + (1 * 5)) 2) dX4_push_104 ?_
          refine lv_aload_n zx zb dX4_push_105 rfl (lv_at hl 5 rfl) ?_
          refine lv_iload zx zb dX4_push_106 (lv_at hl 1 rfl) ?_
          refine r_aald (C := RX8) (b := (an 2)) S G 1 3 rfl rfl (k_vp (by decide)) rfl dX4_push_108 ?_
          refine r_get (C := RX8) (T := TX8) (N := 8) (ci := 6) (v := .int (v 23)) S in_X4_push_X8 G 3 rfl rfl 5 (by decide) lk_X4_push_33 rfl dX4_push_109 ?_
          refine r_iast S G 9 rfl (vp_in_nI (by omega) (by decide)) dX4_push_112 (fun H locs G => ?_)
          obtain ⟨g_12, G⟩ : ∃ g_12 : Nat → Nat → Int32, wd X (va_A (rcW X hn an v b g) sz) (va_A (rcW X hn an v b g) sz) s (rcW X hn an v b g_12) H locs := ⟨upG g_11 0 _, G⟩
          refine lv_aload_n zx zb dX4_push_113 rfl (lv_at hl 3 rfl) ?_
          refine r_get (C := RX4) (T := TX4) (N := 2) (ci := 2) (v := .ref (an 8)) S in_X4_push_X4 G 8 rfl rfl 0 (by decide) lk_X4_push_11 rfl dX4_push_114 ?_
          refine lv_iload zx zb dX4_push_117 (lv_at hl 0 rfl) ?_
          refine lv_iconst (v := 3) zx zb dX4_push_119 (by decide) ?_
          refine r_iadd (v := (nI (((((b 1) * 31) + 1) + (1 * 5)) + 3))) S (nI_add ((((b 1) * 31) + 1) + (1 * 5)) 3) dX4_push_120 ?_
          refine lv_aload_n zx zb dX4_push_121 rfl (lv_at hl 5 rfl) ?_
          refine lv_iload zx zb dX4_push_122 (lv_at hl 1 rfl) ?_
          refine r_aald (C := RX8) (b := (an 2)) S G 1 3 rfl rfl (k_vp (by decide)) rfl dX4_push_124 ?_
          refine r_get (C := RX8) (T := TX8) (N := 8) (ci := 6) (v := .int (v 24)) S in_X4_push_X8 G 3 rfl rfl 6 (by decide) lk_X4_push_36 rfl dX4_push_125 ?_
          refine r_iast S G 9 rfl (vp_in_nI (by omega) (by decide)) dX4_push_128 (fun H locs G => ?_)
          obtain ⟨g_13, G⟩ : ∃ g_13 : Nat → Nat → Int32, wd X (va_A (rcW X hn an v b g) sz) (va_A (rcW X hn an v b g) sz) s (rcW X hn an v b g_13) H locs := ⟨upG g_12 0 _, G⟩
          refine lv_aload_n zx zb dX4_push_129 rfl (lv_at hl 3 rfl) ?_
          refine r_get (C := RX4) (T := TX4) (N := 2) (ci := 2) (v := .ref (an 8)) S in_X4_push_X4 G 8 rfl rfl 0 (by decide) lk_X4_push_11 rfl dX4_push_130 ?_
          refine lv_iload zx zb dX4_push_133 (lv_at hl 0 rfl) ?_
          refine lv_iconst (v := 4) zx zb dX4_push_135 (by decide) ?_
          refine r_iadd (v := (nI (((((b 1) * 31) + 1) + (1 * 5)) + 4))) S (nI_add ((((b 1) * 31) + 1) + (1 * 5)) 4) dX4_push_136 ?_
          refine lv_aload_n zx zb dX4_push_137 rfl (lv_at hl 5 rfl) ?_
          refine lv_iload zx zb dX4_push_138 (lv_at hl 1 rfl) ?_
          refine r_aald (C := RX8) (b := (an 2)) S G 1 3 rfl rfl (k_vp (by decide)) rfl dX4_push_140 ?_
          refine r_get (C := RX8) (T := TX8) (N := 8) (ci := 6) (v := .int (v 25)) S in_X4_push_X8 G 3 rfl rfl 7 (by decide) lk_X4_push_39 rfl dX4_push_141 ?_
          refine r_iast S G 9 rfl (vp_in_nI (by omega) (by decide)) dX4_push_144 (fun H locs G => ?_)
          obtain ⟨g_14, G⟩ : ∃ g_14 : Nat → Nat → Int32, wd X (va_A (rcW X hn an v b g) sz) (va_A (rcW X hn an v b g) sz) s (rcW X hn an v b g_14) H locs := ⟨upG g_13 0 _, G⟩
          refine lv_iinc (v := 2) (lv' := [(4, .int 2), (5, .int (nI ((((b 1) * 31) + 1) + (1 * 5)))), (3, .int (nI ((b 1) * 31))), (0, .ref (an 7)), (1, .int x1), (2, .ref (an 0))]) zx zb dX4_push_145 hl (k := 1) rfl (by decide) (by decide) rfl (fun ls hl => ?_)
          refine lv_goto (tgt := 50) zx zb dX4_push_148 (by decide) ?_
          have hl := lv_sub hl (l' := [(4, .int 2), (3, .int (nI ((b 1) * 31))), (0, .ref (an 7)), (1, .int x1), (2, .ref (an 0))]) [0, 2, 3, 4, 5] rfl
          exact ih50 2 g_14 _ _ _ (by omega) (by omega) G hl
        · refine k_it (v := 2) rfl ?_
          refine r_aald (C := RX8) (b := (an 3)) S G 1 3 rfl rfl (k_vp (by decide)) rfl dX4_push_76 ?_
          refine r_get (C := RX8) (T := TX8) (N := 8) (ci := 6) (v := .int (v 29)) S in_X4_push_X8 G 4 rfl rfl 3 (by decide) lk_X4_push_25 rfl dX4_push_77 ?_
          refine r_iast S G 9 rfl (vp_in_nI (by omega) (by decide)) dX4_push_80 (fun H locs G => ?_)
          obtain ⟨g_15, G⟩ : ∃ g_15 : Nat → Nat → Int32, wd X (va_A (rcW X hn an v b g) sz) (va_A (rcW X hn an v b g) sz) s (rcW X hn an v b g_15) H locs := ⟨upG g50_0 0 _, G⟩
          refine lv_aload_n zx zb dX4_push_81 rfl (lv_at hl 3 rfl) ?_
          refine r_get (C := RX4) (T := TX4) (N := 2) (ci := 2) (v := .ref (an 8)) S in_X4_push_X4 G 8 rfl rfl 0 (by decide) lk_X4_push_11 rfl dX4_push_82 ?_
          refine lv_iload zx zb dX4_push_85 (lv_at hl 0 rfl) ?_
          refine lv_iconst (v := 1) zx zb dX4_push_87 (by decide) ?_
          refine r_iadd (v := (nI (((((b 1) * 31) + 1) + (2 * 5)) + 1))) S (nI_add ((((b 1) * 31) + 1) + (2 * 5)) 1) dX4_push_88 ?_
          refine lv_aload_n zx zb dX4_push_89 rfl (lv_at hl 5 rfl) ?_
          refine lv_iload zx zb dX4_push_90 (lv_at hl 1 rfl) ?_
          refine r_aald (C := RX8) (b := (an 3)) S G 1 3 rfl rfl (k_vp (by decide)) rfl dX4_push_92 ?_
          refine r_get (C := RX8) (T := TX8) (N := 8) (ci := 6) (v := .int (v 30)) S in_X4_push_X8 G 4 rfl rfl 4 (by decide) lk_X4_push_30 rfl dX4_push_93 ?_
          refine r_iast S G 9 rfl (vp_in_nI (by omega) (by decide)) dX4_push_96 (fun H locs G => ?_)
          obtain ⟨g_16, G⟩ : ∃ g_16 : Nat → Nat → Int32, wd X (va_A (rcW X hn an v b g) sz) (va_A (rcW X hn an v b g) sz) s (rcW X hn an v b g_16) H locs := ⟨upG g_15 0 _, G⟩
          refine lv_aload_n zx zb dX4_push_97 rfl (lv_at hl 3 rfl) ?_
          refine r_get (C := RX4) (T := TX4) (N := 2) (ci := 2) (v := .ref (an 8)) S in_X4_push_X4 G 8 rfl rfl 0 (by decide) lk_X4_push_11 rfl dX4_push_98 ?_
          refine lv_iload zx zb dX4_push_101 (lv_at hl 0 rfl) ?_
          refine lv_iconst (v := 2) zx zb dX4_push_103 (by decide) ?_
          refine r_iadd (v := (nI (((((b 1) * 31) + 1) + (2 * 5)) + 2))) S (nI_add ((((b 1) * 31) + 1) + (2 * 5)) 2) dX4_push_104 ?_
          refine lv_aload_n zx zb dX4_push_105 rfl (lv_at hl 5 rfl) ?_
          refine lv_iload zx zb dX4_push_106 (lv_at hl 1 rfl) ?_
          refine r_aald (C := RX8) (b := (an 3)) S G 1 3 rfl rfl (k_vp (by decide)) rfl dX4_push_108 ?_
          refine r_get (C := RX8) (T := TX8) (N := 8) (ci := 6) (v := .int (v 31)) S in_X4_push_X8 G 4 rfl rfl 5 (by decide) lk_X4_push_33 rfl dX4_push_109 ?_
          refine r_iast S G 9 rfl (vp_in_nI (by omega) (by decide)) dX4_push_112 (fun H locs G => ?_)
          obtain ⟨g_17, G⟩ : ∃ g_17 : Nat → Nat → Int32, wd X (va_A (rcW X hn an v b g) sz) (va_A (rcW X hn an v b g) sz) s (rcW X hn an v b g_17) H locs := ⟨upG g_16 0 _, G⟩
          refine lv_aload_n zx zb dX4_push_113 rfl (lv_at hl 3 rfl) ?_
          refine r_get (C := RX4) (T := TX4) (N := 2) (ci := 2) (v := .ref (an 8)) S in_X4_push_X4 G 8 rfl rfl 0 (by decide) lk_X4_push_11 rfl dX4_push_114 ?_
          refine lv_iload zx zb dX4_push_117 (lv_at hl 0 rfl) ?_
          refine lv_iconst (v := 3) zx zb dX4_push_119 (by decide) ?_
          refine r_iadd (v := (nI (((((b 1) * 31) + 1) + (2 * 5)) + 3))) S (nI_add ((((b 1) * 31) + 1) + (2 * 5)) 3) dX4_push_120 ?_
          refine lv_aload_n zx zb dX4_push_121 rfl (lv_at hl 5 rfl) ?_
          refine lv_iload zx zb dX4_push_122 (lv_at hl 1 rfl) ?_
          refine r_aald (C := RX8) (b := (an 3)) S G 1 3 rfl rfl (k_vp (by decide)) rfl dX4_push_124 ?_
          refine r_get (C := RX8) (T := TX8) (N := 8) (ci := 6) (v := .int (v 32)) S in_X4_push_X8 G 4 rfl rfl 6 (by decide) lk_X4_push_36 rfl dX4_push_125 ?_
          refine r_iast S G 9 rfl (vp_in_nI (by omega) (by decide)) dX4_push_128 (fun H locs G => ?_)
          obtain ⟨g_18, G⟩ : ∃ g_18 : Nat → Nat → Int32, wd X (va_A (rcW X hn an v b g) sz) (va_A (rcW X hn an v b g) sz) s (rcW X hn an v b g_18) H locs := ⟨upG g_17 0 _, G⟩
          refine lv_aload_n zx zb dX4_push_129 rfl (lv_at hl 3 rfl) ?_
          refine r_get (C := RX4) (T := TX4) (N := 2) (ci := 2) (v := .ref (an 8)) S in_X4_push_X4 G 8 rfl rfl 0 (by decide) lk_X4_push_11 rfl dX4_push_130 ?_
          refine lv_iload zx zb dX4_push_133 (lv_at hl 0 rfl) ?_
          refine lv_iconst (v := 4) zx zb dX4_push_135 (by decide) ?_
          refine r_iadd (v := (nI (((((b 1) * 31) + 1) + (2 * 5)) + 4))) S (nI_add ((((b 1) * 31) + 1) + (2 * 5)) 4) dX4_push_136 ?_
          refine lv_aload_n zx zb dX4_push_137 rfl (lv_at hl 5 rfl) ?_
          refine lv_iload zx zb dX4_push_138 (lv_at hl 1 rfl) ?_
          refine r_aald (C := RX8) (b := (an 3)) S G 1 3 rfl rfl (k_vp (by decide)) rfl dX4_push_140 ?_
          refine r_get (C := RX8) (T := TX8) (N := 8) (ci := 6) (v := .int (v 33)) S in_X4_push_X8 G 4 rfl rfl 7 (by decide) lk_X4_push_39 rfl dX4_push_141 ?_
          refine r_iast S G 9 rfl (vp_in_nI (by omega) (by decide)) dX4_push_144 (fun H locs G => ?_)
          obtain ⟨g_19, G⟩ : ∃ g_19 : Nat → Nat → Int32, wd X (va_A (rcW X hn an v b g) sz) (va_A (rcW X hn an v b g) sz) s (rcW X hn an v b g_19) H locs := ⟨upG g_18 0 _, G⟩
          refine lv_iinc (v := 3) (lv' := [(4, .int 3), (5, .int (nI ((((b 1) * 31) + 1) + (2 * 5)))), (3, .int (nI ((b 1) * 31))), (0, .ref (an 7)), (1, .int x1), (2, .ref (an 0))]) zx zb dX4_push_145 hl (k := 1) rfl (by decide) (by decide) rfl (fun ls hl => ?_)
          refine lv_goto (tgt := 50) zx zb dX4_push_148 (by decide) ?_
          have hl := lv_sub hl (l' := [(4, .int 3), (3, .int (nI ((b 1) * 31))), (0, .ref (an 7)), (1, .int x1), (2, .ref (an 0))]) [0, 2, 3, 4, 5] rfl
          exact ih50 3 g_19 _ _ _ (by omega) (by omega) G hl
        · refine k_it (v := 3) rfl ?_
          refine r_aald (C := RX8) (b := (an 4)) S G 1 3 rfl rfl (k_vp (by decide)) rfl dX4_push_76 ?_
          refine r_get (C := RX8) (T := TX8) (N := 8) (ci := 6) (v := .int (v 37)) S in_X4_push_X8 G 5 rfl rfl 3 (by decide) lk_X4_push_25 rfl dX4_push_77 ?_
          refine r_iast S G 9 rfl (vp_in_nI (by omega) (by decide)) dX4_push_80 (fun H locs G => ?_)
          obtain ⟨g_20, G⟩ : ∃ g_20 : Nat → Nat → Int32, wd X (va_A (rcW X hn an v b g) sz) (va_A (rcW X hn an v b g) sz) s (rcW X hn an v b g_20) H locs := ⟨upG g50_0 0 _, G⟩
          refine lv_aload_n zx zb dX4_push_81 rfl (lv_at hl 3 rfl) ?_
          refine r_get (C := RX4) (T := TX4) (N := 2) (ci := 2) (v := .ref (an 8)) S in_X4_push_X4 G 8 rfl rfl 0 (by decide) lk_X4_push_11 rfl dX4_push_82 ?_
          refine lv_iload zx zb dX4_push_85 (lv_at hl 0 rfl) ?_
          refine lv_iconst (v := 1) zx zb dX4_push_87 (by decide) ?_
          refine r_iadd (v := (nI (((((b 1) * 31) + 1) + (3 * 5)) + 1))) S (nI_add ((((b 1) * 31) + 1) + (3 * 5)) 1) dX4_push_88 ?_
          refine lv_aload_n zx zb dX4_push_89 rfl (lv_at hl 5 rfl) ?_
          refine lv_iload zx zb dX4_push_90 (lv_at hl 1 rfl) ?_
          refine r_aald (C := RX8) (b := (an 4)) S G 1 3 rfl rfl (k_vp (by decide)) rfl dX4_push_92 ?_
          refine r_get (C := RX8) (T := TX8) (N := 8) (ci := 6) (v := .int (v 38)) S in_X4_push_X8 G 5 rfl rfl 4 (by decide) lk_X4_push_30 rfl dX4_push_93 ?_
          refine r_iast S G 9 rfl (vp_in_nI (by omega) (by decide)) dX4_push_96 (fun H locs G => ?_)
          obtain ⟨g_21, G⟩ : ∃ g_21 : Nat → Nat → Int32, wd X (va_A (rcW X hn an v b g) sz) (va_A (rcW X hn an v b g) sz) s (rcW X hn an v b g_21) H locs := ⟨upG g_20 0 _, G⟩
          refine lv_aload_n zx zb dX4_push_97 rfl (lv_at hl 3 rfl) ?_
          refine r_get (C := RX4) (T := TX4) (N := 2) (ci := 2) (v := .ref (an 8)) S in_X4_push_X4 G 8 rfl rfl 0 (by decide) lk_X4_push_11 rfl dX4_push_98 ?_
          refine lv_iload zx zb dX4_push_101 (lv_at hl 0 rfl) ?_
          refine lv_iconst (v := 2) zx zb dX4_push_103 (by decide) ?_
          refine r_iadd (v := (nI (((((b 1) * 31) + 1) + (3 * 5)) + 2))) S (nI_add ((((b 1) * 31) + 1) + (3 * 5)) 2) dX4_push_104 ?_
          refine lv_aload_n zx zb dX4_push_105 rfl (lv_at hl 5 rfl) ?_
          refine lv_iload zx zb dX4_push_106 (lv_at hl 1 rfl) ?_
          refine r_aald (C := RX8) (b := (an 4)) S G 1 3 rfl rfl (k_vp (by decide)) rfl dX4_push_108 ?_
          refine r_get (C := RX8) (T := TX8) (N := 8) (ci := 6) (v := .int (v 39)) S in_X4_push_X8 G 5 rfl rfl 5 (by decide) lk_X4_push_33 rfl dX4_push_109 ?_
          refine r_iast S G 9 rfl (vp_in_nI (by omega) (by decide)) dX4_push_112 (fun H locs G => ?_)
          obtain ⟨g_22, G⟩ : ∃ g_22 : Nat → Nat → Int32, wd X (va_A (rcW X hn an v b g) sz) (va_A (rcW X hn an v b g) sz) s (rcW X hn an v b g_22) H locs := ⟨upG g_21 0 _, G⟩
          refine lv_aload_n zx zb dX4_push_113 rfl (lv_at hl 3 rfl) ?_
          refine r_get (C := RX4) (T := TX4) (N := 2) (ci := 2) (v := .ref (an 8)) S in_X4_push_X4 G 8 rfl rfl 0 (by decide) lk_X4_push_11 rfl dX4_push_114 ?_
          refine lv_iload zx zb dX4_push_117 (lv_at hl 0 rfl) ?_
          refine lv_iconst (v := 3) zx zb dX4_push_119 (by decide) ?_
          refine r_iadd (v := (nI (((((b 1) * 31) + 1) + (3 * 5)) + 3))) S (nI_add ((((b 1) * 31) + 1) + (3 * 5)) 3) dX4_push_120 ?_
          refine lv_aload_n zx zb dX4_push_121 rfl (lv_at hl 5 rfl) ?_
          refine lv_iload zx zb dX4_push_122 (lv_at hl 1 rfl) ?_
          refine r_aald (C := RX8) (b := (an 4)) S G 1 3 rfl rfl (k_vp (by decide)) rfl dX4_push_124 ?_
          refine r_get (C := RX8) (T := TX8) (N := 8) (ci := 6) (v := .int (v 40)) S in_X4_push_X8 G 5 rfl rfl 6 (by decide) lk_X4_push_36 rfl dX4_push_125 ?_
          refine r_iast S G 9 rfl (vp_in_nI (by omega) (by decide)) dX4_push_128 (fun H locs G => ?_)
          obtain ⟨g_23, G⟩ : ∃ g_23 : Nat → Nat → Int32, wd X (va_A (rcW X hn an v b g) sz) (va_A (rcW X hn an v b g) sz) s (rcW X hn an v b g_23) H locs := ⟨upG g_22 0 _, G⟩
          refine lv_aload_n zx zb dX4_push_129 rfl (lv_at hl 3 rfl) ?_
          refine r_get (C := RX4) (T := TX4) (N := 2) (ci := 2) (v := .ref (an 8)) S in_X4_push_X4 G 8 rfl rfl 0 (by decide) lk_X4_push_11 rfl dX4_push_130 ?_
          refine lv_iload zx zb dX4_push_133 (lv_at hl 0 rfl) ?_
          refine lv_iconst (v := 4) zx zb dX4_push_135 (by decide) ?_
          refine r_iadd (v := (nI (((((b 1) * 31) + 1) + (3 * 5)) + 4))) S (nI_add ((((b 1) * 31) + 1) + (3 * 5)) 4) dX4_push_136 ?_
          refine lv_aload_n zx zb dX4_push_137 rfl (lv_at hl 5 rfl) ?_
          refine lv_iload zx zb dX4_push_138 (lv_at hl 1 rfl) ?_
          refine r_aald (C := RX8) (b := (an 4)) S G 1 3 rfl rfl (k_vp (by decide)) rfl dX4_push_140 ?_
          refine r_get (C := RX8) (T := TX8) (N := 8) (ci := 6) (v := .int (v 41)) S in_X4_push_X8 G 5 rfl rfl 7 (by decide) lk_X4_push_39 rfl dX4_push_141 ?_
          refine r_iast S G 9 rfl (vp_in_nI (by omega) (by decide)) dX4_push_144 (fun H locs G => ?_)
          obtain ⟨g_24, G⟩ : ∃ g_24 : Nat → Nat → Int32, wd X (va_A (rcW X hn an v b g) sz) (va_A (rcW X hn an v b g) sz) s (rcW X hn an v b g_24) H locs := ⟨upG g_23 0 _, G⟩
          refine lv_iinc (v := 4) (lv' := [(4, .int 4), (5, .int (nI ((((b 1) * 31) + 1) + (3 * 5)))), (3, .int (nI ((b 1) * 31))), (0, .ref (an 7)), (1, .int x1), (2, .ref (an 0))]) zx zb dX4_push_145 hl (k := 1) rfl (by decide) (by decide) rfl (fun ls hl => ?_)
          refine lv_goto (tgt := 50) zx zb dX4_push_148 (by decide) ?_
          have hl := lv_sub hl (l' := [(4, .int 4), (3, .int (nI ((b 1) * 31))), (0, .ref (an 7)), (1, .int x1), (2, .ref (an 0))]) [0, 2, 3, 4, 5] rfl
          exact ih50 4 g_24 _ _ _ (by omega) (by omega) G hl
        · refine k_it (v := 4) rfl ?_
          refine r_aald (C := RX8) (b := (an 5)) S G 1 3 rfl rfl (k_vp (by decide)) rfl dX4_push_76 ?_
          refine r_get (C := RX8) (T := TX8) (N := 8) (ci := 6) (v := .int (v 45)) S in_X4_push_X8 G 6 rfl rfl 3 (by decide) lk_X4_push_25 rfl dX4_push_77 ?_
          refine r_iast S G 9 rfl (vp_in_nI (by omega) (by decide)) dX4_push_80 (fun H locs G => ?_)
          obtain ⟨g_25, G⟩ : ∃ g_25 : Nat → Nat → Int32, wd X (va_A (rcW X hn an v b g) sz) (va_A (rcW X hn an v b g) sz) s (rcW X hn an v b g_25) H locs := ⟨upG g50_0 0 _, G⟩
          refine lv_aload_n zx zb dX4_push_81 rfl (lv_at hl 3 rfl) ?_
          refine r_get (C := RX4) (T := TX4) (N := 2) (ci := 2) (v := .ref (an 8)) S in_X4_push_X4 G 8 rfl rfl 0 (by decide) lk_X4_push_11 rfl dX4_push_82 ?_
          refine lv_iload zx zb dX4_push_85 (lv_at hl 0 rfl) ?_
          refine lv_iconst (v := 1) zx zb dX4_push_87 (by decide) ?_
          refine r_iadd (v := (nI (((((b 1) * 31) + 1) + (4 * 5)) + 1))) S (nI_add ((((b 1) * 31) + 1) + (4 * 5)) 1) dX4_push_88 ?_
          refine lv_aload_n zx zb dX4_push_89 rfl (lv_at hl 5 rfl) ?_
          refine lv_iload zx zb dX4_push_90 (lv_at hl 1 rfl) ?_
          refine r_aald (C := RX8) (b := (an 5)) S G 1 3 rfl rfl (k_vp (by decide)) rfl dX4_push_92 ?_
          refine r_get (C := RX8) (T := TX8) (N := 8) (ci := 6) (v := .int (v 46)) S in_X4_push_X8 G 6 rfl rfl 4 (by decide) lk_X4_push_30 rfl dX4_push_93 ?_
          refine r_iast S G 9 rfl (vp_in_nI (by omega) (by decide)) dX4_push_96 (fun H locs G => ?_)
          obtain ⟨g_26, G⟩ : ∃ g_26 : Nat → Nat → Int32, wd X (va_A (rcW X hn an v b g) sz) (va_A (rcW X hn an v b g) sz) s (rcW X hn an v b g_26) H locs := ⟨upG g_25 0 _, G⟩
          refine lv_aload_n zx zb dX4_push_97 rfl (lv_at hl 3 rfl) ?_
          refine r_get (C := RX4) (T := TX4) (N := 2) (ci := 2) (v := .ref (an 8)) S in_X4_push_X4 G 8 rfl rfl 0 (by decide) lk_X4_push_11 rfl dX4_push_98 ?_
          refine lv_iload zx zb dX4_push_101 (lv_at hl 0 rfl) ?_
          refine lv_iconst (v := 2) zx zb dX4_push_103 (by decide) ?_
          refine r_iadd (v := (nI (((((b 1) * 31) + 1) + (4 * 5)) + 2))) S (nI_add ((((b 1) * 31) + 1) + (4 * 5)) 2) dX4_push_104 ?_
          refine lv_aload_n zx zb dX4_push_105 rfl (lv_at hl 5 rfl) ?_
          refine lv_iload zx zb dX4_push_106 (lv_at hl 1 rfl) ?_
          refine r_aald (C := RX8) (b := (an 5)) S G 1 3 rfl rfl (k_vp (by decide)) rfl dX4_push_108 ?_
          refine r_get (C := RX8) (T := TX8) (N := 8) (ci := 6) (v := .int (v 47)) S in_X4_push_X8 G 6 rfl rfl 5 (by decide) lk_X4_push_33 rfl dX4_push_109 ?_
          refine r_iast S G 9 rfl (vp_in_nI (by omega) (by decide)) dX4_push_112 (fun H locs G => ?_)
          obtain ⟨g_27, G⟩ : ∃ g_27 : Nat → Nat → Int32, wd X (va_A (rcW X hn an v b g) sz) (va_A (rcW X hn an v b g) sz) s (rcW X hn an v b g_27) H locs := ⟨upG g_26 0 _, G⟩
          refine lv_aload_n zx zb dX4_push_113 rfl (lv_at hl 3 rfl) ?_
          refine r_get (C := RX4) (T := TX4) (N := 2) (ci := 2) (v := .ref (an 8)) S in_X4_push_X4 G 8 rfl rfl 0 (by decide) lk_X4_push_11 rfl dX4_push_114 ?_
          refine lv_iload zx zb dX4_push_117 (lv_at hl 0 rfl) ?_
          refine lv_iconst (v := 3) zx zb dX4_push_119 (by decide) ?_
          refine r_iadd (v := (nI (((((b 1) * 31) + 1) + (4 * 5)) + 3))) S (nI_add ((((b 1) * 31) + 1) + (4 * 5)) 3) dX4_push_120 ?_
          refine lv_aload_n zx zb dX4_push_121 rfl (lv_at hl 5 rfl) ?_
          refine lv_iload zx zb dX4_push_122 (lv_at hl 1 rfl) ?_
          refine r_aald (C := RX8) (b := (an 5)) S G 1 3 rfl rfl (k_vp (by decide)) rfl dX4_push_124 ?_
          refine r_get (C := RX8) (T := TX8) (N := 8) (ci := 6) (v := .int (v 48)) S in_X4_push_X8 G 6 rfl rfl 6 (by decide) lk_X4_push_36 rfl dX4_push_125 ?_
          refine r_iast S G 9 rfl (vp_in_nI (by omega) (by decide)) dX4_push_128 (fun H locs G => ?_)
          obtain ⟨g_28, G⟩ : ∃ g_28 : Nat → Nat → Int32, wd X (va_A (rcW X hn an v b g) sz) (va_A (rcW X hn an v b g) sz) s (rcW X hn an v b g_28) H locs := ⟨upG g_27 0 _, G⟩
          refine lv_aload_n zx zb dX4_push_129 rfl (lv_at hl 3 rfl) ?_
          refine r_get (C := RX4) (T := TX4) (N := 2) (ci := 2) (v := .ref (an 8)) S in_X4_push_X4 G 8 rfl rfl 0 (by decide) lk_X4_push_11 rfl dX4_push_130 ?_
          refine lv_iload zx zb dX4_push_133 (lv_at hl 0 rfl) ?_
          refine lv_iconst (v := 4) zx zb dX4_push_135 (by decide) ?_
          refine r_iadd (v := (nI (((((b 1) * 31) + 1) + (4 * 5)) + 4))) S (nI_add ((((b 1) * 31) + 1) + (4 * 5)) 4) dX4_push_136 ?_
          refine lv_aload_n zx zb dX4_push_137 rfl (lv_at hl 5 rfl) ?_
          refine lv_iload zx zb dX4_push_138 (lv_at hl 1 rfl) ?_
          refine r_aald (C := RX8) (b := (an 5)) S G 1 3 rfl rfl (k_vp (by decide)) rfl dX4_push_140 ?_
          refine r_get (C := RX8) (T := TX8) (N := 8) (ci := 6) (v := .int (v 49)) S in_X4_push_X8 G 6 rfl rfl 7 (by decide) lk_X4_push_39 rfl dX4_push_141 ?_
          refine r_iast S G 9 rfl (vp_in_nI (by omega) (by decide)) dX4_push_144 (fun H locs G => ?_)
          obtain ⟨g_29, G⟩ : ∃ g_29 : Nat → Nat → Int32, wd X (va_A (rcW X hn an v b g) sz) (va_A (rcW X hn an v b g) sz) s (rcW X hn an v b g_29) H locs := ⟨upG g_28 0 _, G⟩
          refine lv_iinc (v := 5) (lv' := [(4, .int 5), (5, .int (nI ((((b 1) * 31) + 1) + (4 * 5)))), (3, .int (nI ((b 1) * 31))), (0, .ref (an 7)), (1, .int x1), (2, .ref (an 0))]) zx zb dX4_push_145 hl (k := 1) rfl (by decide) (by decide) rfl (fun ls hl => ?_)
          refine lv_goto (tgt := 50) zx zb dX4_push_148 (by decide) ?_
          have hl := lv_sub hl (l' := [(4, .int 5), (3, .int (nI ((b 1) * 31))), (0, .ref (an 7)), (1, .int x1), (2, .ref (an 0))]) [0, 2, 3, 4, 5] rfl
          exact ih50 5 g_29 _ _ _ (by omega) (by omega) G hl
        · refine k_it (v := 5) rfl ?_
          refine r_aald (C := RX8) (b := (an 6)) S G 1 3 rfl rfl (k_vp (by decide)) rfl dX4_push_76 ?_
          refine r_get (C := RX8) (T := TX8) (N := 8) (ci := 6) (v := .int (v 53)) S in_X4_push_X8 G 7 rfl rfl 3 (by decide) lk_X4_push_25 rfl dX4_push_77 ?_
          refine r_iast S G 9 rfl (vp_in_nI (by omega) (by decide)) dX4_push_80 (fun H locs G => ?_)
          obtain ⟨g_30, G⟩ : ∃ g_30 : Nat → Nat → Int32, wd X (va_A (rcW X hn an v b g) sz) (va_A (rcW X hn an v b g) sz) s (rcW X hn an v b g_30) H locs := ⟨upG g50_0 0 _, G⟩
          refine lv_aload_n zx zb dX4_push_81 rfl (lv_at hl 3 rfl) ?_
          refine r_get (C := RX4) (T := TX4) (N := 2) (ci := 2) (v := .ref (an 8)) S in_X4_push_X4 G 8 rfl rfl 0 (by decide) lk_X4_push_11 rfl dX4_push_82 ?_
          refine lv_iload zx zb dX4_push_85 (lv_at hl 0 rfl) ?_
          refine lv_iconst (v := 1) zx zb dX4_push_87 (by decide) ?_
          refine r_iadd (v := (nI (((((b 1) * 31) + 1) + (5 * 5)) + 1))) S (nI_add ((((b 1) * 31) + 1) + (5 * 5)) 1) dX4_push_88 ?_
          refine lv_aload_n zx zb dX4_push_89 rfl (lv_at hl 5 rfl) ?_
          refine lv_iload zx zb dX4_push_90 (lv_at hl 1 rfl) ?_
          refine r_aald (C := RX8) (b := (an 6)) S G 1 3 rfl rfl (k_vp (by decide)) rfl dX4_push_92 ?_
          refine r_get (C := RX8) (T := TX8) (N := 8) (ci := 6) (v := .int (v 54)) S in_X4_push_X8 G 7 rfl rfl 4 (by decide) lk_X4_push_30 rfl dX4_push_93 ?_
          refine r_iast S G 9 rfl (vp_in_nI (by omega) (by decide)) dX4_push_96 (fun H locs G => ?_)
          obtain ⟨g_31, G⟩ : ∃ g_31 : Nat → Nat → Int32, wd X (va_A (rcW X hn an v b g) sz) (va_A (rcW X hn an v b g) sz) s (rcW X hn an v b g_31) H locs := ⟨upG g_30 0 _, G⟩
          refine lv_aload_n zx zb dX4_push_97 rfl (lv_at hl 3 rfl) ?_
          refine r_get (C := RX4) (T := TX4) (N := 2) (ci := 2) (v := .ref (an 8)) S in_X4_push_X4 G 8 rfl rfl 0 (by decide) lk_X4_push_11 rfl dX4_push_98 ?_
          refine lv_iload zx zb dX4_push_101 (lv_at hl 0 rfl) ?_
          refine lv_iconst (v := 2) zx zb dX4_push_103 (by decide) ?_
          refine r_iadd (v := (nI (((((b 1) * 31) + 1) + (5 * 5)) + 2))) S (nI_add ((((b 1) * 31) + 1) + (5 * 5)) 2) dX4_push_104 ?_
          refine lv_aload_n zx zb dX4_push_105 rfl (lv_at hl 5 rfl) ?_
          refine lv_iload zx zb dX4_push_106 (lv_at hl 1 rfl) ?_
          refine r_aald (C := RX8) (b := (an 6)) S G 1 3 rfl rfl (k_vp (by decide)) rfl dX4_push_108 ?_
          refine r_get (C := RX8) (T := TX8) (N := 8) (ci := 6) (v := .int (v 55)) S in_X4_push_X8 G 7 rfl rfl 5 (by decide) lk_X4_push_33 rfl dX4_push_109 ?_
          refine r_iast S G 9 rfl (vp_in_nI (by omega) (by decide)) dX4_push_112 (fun H locs G => ?_)
          obtain ⟨g_32, G⟩ : ∃ g_32 : Nat → Nat → Int32, wd X (va_A (rcW X hn an v b g) sz) (va_A (rcW X hn an v b g) sz) s (rcW X hn an v b g_32) H locs := ⟨upG g_31 0 _, G⟩
          refine lv_aload_n zx zb dX4_push_113 rfl (lv_at hl 3 rfl) ?_
          refine r_get (C := RX4) (T := TX4) (N := 2) (ci := 2) (v := .ref (an 8)) S in_X4_push_X4 G 8 rfl rfl 0 (by decide) lk_X4_push_11 rfl dX4_push_114 ?_
          refine lv_iload zx zb dX4_push_117 (lv_at hl 0 rfl) ?_
          refine lv_iconst (v := 3) zx zb dX4_push_119 (by decide) ?_
          refine r_iadd (v := (nI (((((b 1) * 31) + 1) + (5 * 5)) + 3))) S (nI_add ((((b 1) * 31) + 1) + (5 * 5)) 3) dX4_push_120 ?_
          refine lv_aload_n zx zb dX4_push_121 rfl (lv_at hl 5 rfl) ?_
          refine lv_iload zx zb dX4_push_122 (lv_at hl 1 rfl) ?_
          refine r_aald (C := RX8) (b := (an 6)) S G 1 3 rfl rfl (k_vp (by decide)) rfl dX4_push_124 ?_
          refine r_get (C := RX8) (T := TX8) (N := 8) (ci := 6) (v := .int (v 56)) S in_X4_push_X8 G 7 rfl rfl 6 (by decide) lk_X4_push_36 rfl dX4_push_125 ?_
          refine r_iast S G 9 rfl (vp_in_nI (by omega) (by decide)) dX4_push_128 (fun H locs G => ?_)
          obtain ⟨g_33, G⟩ : ∃ g_33 : Nat → Nat → Int32, wd X (va_A (rcW X hn an v b g) sz) (va_A (rcW X hn an v b g) sz) s (rcW X hn an v b g_33) H locs := ⟨upG g_32 0 _, G⟩
          refine lv_aload_n zx zb dX4_push_129 rfl (lv_at hl 3 rfl) ?_
          refine r_get (C := RX4) (T := TX4) (N := 2) (ci := 2) (v := .ref (an 8)) S in_X4_push_X4 G 8 rfl rfl 0 (by decide) lk_X4_push_11 rfl dX4_push_130 ?_
          refine lv_iload zx zb dX4_push_133 (lv_at hl 0 rfl) ?_
          refine lv_iconst (v := 4) zx zb dX4_push_135 (by decide) ?_
          refine r_iadd (v := (nI (((((b 1) * 31) + 1) + (5 * 5)) + 4))) S (nI_add ((((b 1) * 31) + 1) + (5 * 5)) 4) dX4_push_136 ?_
          refine lv_aload_n zx zb dX4_push_137 rfl (lv_at hl 5 rfl) ?_
          refine lv_iload zx zb dX4_push_138 (lv_at hl 1 rfl) ?_
          refine r_aald (C := RX8) (b := (an 6)) S G 1 3 rfl rfl (k_vp (by decide)) rfl dX4_push_140 ?_
          refine r_get (C := RX8) (T := TX8) (N := 8) (ci := 6) (v := .int (v 57)) S in_X4_push_X8 G 7 rfl rfl 7 (by decide) lk_X4_push_39 rfl dX4_push_141 ?_
          refine r_iast S G 9 rfl (vp_in_nI (by omega) (by decide)) dX4_push_144 (fun H locs G => ?_)
          obtain ⟨g_34, G⟩ : ∃ g_34 : Nat → Nat → Int32, wd X (va_A (rcW X hn an v b g) sz) (va_A (rcW X hn an v b g) sz) s (rcW X hn an v b g_34) H locs := ⟨upG g_33 0 _, G⟩
          refine lv_iinc (v := 6) (lv' := [(4, .int 6), (5, .int (nI ((((b 1) * 31) + 1) + (5 * 5)))), (3, .int (nI ((b 1) * 31))), (0, .ref (an 7)), (1, .int x1), (2, .ref (an 0))]) zx zb dX4_push_145 hl (k := 1) rfl (by decide) (by decide) rfl (fun ls hl => ?_)
          refine lv_goto (tgt := 50) zx zb dX4_push_148 (by decide) ?_
          have hl := lv_sub hl (l' := [(4, .int 6), (3, .int (nI ((b 1) * 31))), (0, .ref (an 7)), (1, .int x1), (2, .ref (an 0))]) [0, 2, 3, 4, 5] rfl
          exact ih50 6 g_34 _ _ _ (by omega) (by omega) G hl
  · have fc_1 := j_nlt (a := (b 1)) (b := 8) (by omega) (by omega) c_1
    refine lv_aload_n zx zb dX4_push_9 rfl (lv_at hl 0 rfl) ?_
    refine r_get (C := RX4) (T := TX4) (N := 2) (ci := 2) (v := .ref (an 8)) S in_X4_push_X4 G 8 rfl rfl 0 (by decide) lk_X4_push_11 rfl dX4_push_10 ?_
    refine lv_bipush (v := 31) zx zb dX4_push_13 (by decide) ?_
    refine lv_aload_n zx zb dX4_push_15 rfl (lv_at hl 0 rfl) ?_
    refine r_get (C := RX4) (T := TX4) (N := 2) (ci := 2) (v := .ref (an 8)) S in_X4_push_X4 G 8 rfl rfl 0 (by decide) lk_X4_push_11 rfl dX4_push_16 ?_
    refine lv_iconst (v := 0) zx zb dX4_push_19 (by decide) ?_
    refine lv_sipush (v := 217) zx zb dX4_push_20 (by decide) ?_
    refine r_copyN (sp := 31) (dp := 0) (n := 217) S hl.1 G mm_X4_push_ml19 mm_X4_push_cn mm_X4_push_cs mm_X4_push_ci 9 9 rfl rfl (by omega) (by omega) (by omega) (by omega) (by omega) (Nat.le_of_ble_eq_true rfl) (Nat.le_of_ble_eq_true rfl) dX4_push_23 (fun cw H locs G => ?_)
    obtain ⟨g_35, G⟩ : ∃ g_35 : Nat → Nat → Int32, wd X (va_A (rcW X hn an v b g) sz) (va_A (rcW X hn an v b g) sz) s (rcW X hn an v b g_35) H locs := ⟨upG g 0 _, G⟩
    refine lv_aload_n zx zb dX4_push_26 rfl (lv_at hl 0 rfl) ?_
    refine lv_bipush (v := 7) zx zb dX4_push_27 (by decide) ?_
    refine r_put (C := RX4) (T := TX4) (N := 2) (ci := 2) (v := .int 7) S in_X4_push_X4 tyX4_ok nmX4 G 8 rfl rfl 1 (by decide) lk_X4_push_15 rfl (vp_nar_int _) rfl (Nat.le_of_ble_eq_true rfl) dX4_push_29 (fun H locs G => ?_)
    obtain ⟨b_36, hI_b_36, ⟨hE_b_36_1, hE_b_36_0, hE_b_36_2, hE_b_36_3, hE_b_36_4⟩, G⟩ : ∃ b_36 : Nat → Nat, InR b_36 ∧ (b_36 1 = 7 ∧ b_36 0 = b 0 ∧ b_36 2 = b 2 ∧ b_36 3 = b 3 ∧ b_36 4 = b 4) ∧ wd X (va_A (rcW X hn an v b g) sz) (va_A (rcW X hn an v b g) sz) s (rcW X hn an v b_36 g_35) H locs := ⟨upN b 1 7, ⟨hI_b.1, (by show 7 ≤ 8; omega), hI_b.2.2.1, hI_b.2.2.2.1, hI_b.2.2.2.2⟩, ⟨rfl, rfl, rfl, rfl, rfl⟩, G⟩
    have hO_b_36 := hI_b_36
    obtain ⟨hb0_b_36, hb1_b_36, hb2_b_36, hb3_b_36, hb4_b_36⟩ := hO_b_36
    refine lv_aload_n zx zb dX4_push_32 rfl (lv_at hl 0 rfl) ?_
    refine r_get (C := RX4) (T := TX4) (N := 2) (ci := 2) (v := .int (nI (b_36 1))) S in_X4_push_X4 G 8 rfl rfl 1 (by decide) lk_X4_push_15 rfl dX4_push_33 ?_
    refine lv_bipush (v := 31) zx zb dX4_push_36 (by decide) ?_
    refine r_imul (v := (nI ((b_36 1) * 31))) S (pk_mul (b_36 1) 31) dX4_push_38 ?_
    refine lv_istore_n (lv' := [(3, .int (nI ((b_36 1) * 31))), (0, .ref (an 7)), (1, .int x1), (2, .ref (an 0))]) zx zb dX4_push_39 rfl hl (by decide) rfl (fun ls hl => ?_)
    refine lv_aload_n zx zb dX4_push_40 rfl (lv_at hl 1 rfl) ?_
    refine r_get (C := RX4) (T := TX4) (N := 2) (ci := 2) (v := .ref (an 8)) S in_X4_push_X4 G 8 rfl rfl 0 (by decide) lk_X4_push_11 rfl dX4_push_41 ?_
    refine lv_iload_n zx zb dX4_push_44 rfl (lv_at hl 0 rfl) ?_
    refine lv_iload_n zx zb dX4_push_45 rfl (lv_at hl 2 rfl) ?_
    refine r_iast S G 9 rfl (vp_in_nI (by omega) (by decide)) dX4_push_46 (fun H locs G => ?_)
    obtain ⟨g_37, G⟩ : ∃ g_37 : Nat → Nat → Int32, wd X (va_A (rcW X hn an v b g) sz) (va_A (rcW X hn an v b g) sz) s (rcW X hn an v b_36 g_37) H locs := ⟨upG g_35 0 _, G⟩
    refine lv_iconst (v := 0) zx zb dX4_push_47 (by decide) ?_
    refine lv_istore (lv' := [(4, .int 0), (3, .int (nI ((b_36 1) * 31))), (0, .ref (an 7)), (1, .int x1), (2, .ref (an 0))]) zx zb dX4_push_48 hl (by decide) rfl (fun ls hl => ?_)
    refine k_loop (P := ∀ (zm : Nat) (k50 : Nat) (g50_0 : Nat → Nat → Int32) (H : Heap) (locs : List Loc) (ls : Array Slot), 6 + 1 ≤ k50 + zm → (k50 ≤ 6) → wd X (va_A (rcW X hn an v b g) sz) (va_A (rcW X hn an v b g) sz) s (rcW X hn an v b_36 g50_0) H locs → lv_has ls 6 [(4, .int (nI k50)), (3, .int (nI ((b_36 1) * 31))), (0, .ref (an 7)), (1, .int x1), (2, .ref (an 0))] → W p l e _ s m _ below meth c H locs _ _ _ (F0 m 50 ls [])) (fun loop => loop (6 + 1) 0 g_37 _ _ _ (by omega) (by omega) G hl) ?_
    intro zm
    induction zm with
    | zero => intro k50 g50_0 H locs ls zz q_hk_k50 _ _; exact absurd zz (by omega)
    | succ zm ih50 =>
      intro k50 g50_0 H locs ls zm_50 hk_k50 G hl
      refine lv_iload zx zb dX4_push_50 (lv_at hl 0 rfl) ?_
      refine lv_bipush (v := 6) zx zb dX4_push_52 (by decide) ?_
      refine lv_icmp_ge (tgt := 151) zx zb dX4_push_54 (by decide) (fun c_38 => ?_) (fun c_38 => ?_)
      · have fc_38 := j_le (a := 6) (b := k50) (by omega) (by omega) c_38
        refine lv_aload_n zx zb dX4_push_151 rfl (lv_at hl 2 rfl) ?_
        refine lv_dup zx zb dX4_push_152 rfl ?_
        refine r_get (C := RX4) (T := TX4) (N := 2) (ci := 2) (v := .int (nI (b_36 1))) S in_X4_push_X4 G 8 rfl rfl 1 (by decide) lk_X4_push_15 rfl dX4_push_153 ?_
        refine lv_iconst (v := 1) zx zb dX4_push_156 (by decide) ?_
        refine r_iadd (v := (nI ((b_36 1) + 1))) S (nI_add (b_36 1) 1) dX4_push_157 ?_
        refine r_put (C := RX4) (T := TX4) (N := 2) (ci := 2) (v := .int (nI ((b_36 1) + 1))) S in_X4_push_X4 tyX4_ok nmX4 G 8 rfl rfl 1 (by decide) lk_X4_push_15 rfl (vp_nar_int _) rfl (Nat.le_of_ble_eq_true rfl) dX4_push_158 (fun H locs G => ?_)
        obtain ⟨b_39, hI_b_39, ⟨hE_b_39_1, hE_b_39_0, hE_b_39_2, hE_b_39_3, hE_b_39_4⟩, G⟩ : ∃ b_39 : Nat → Nat, InR b_39 ∧ (b_39 1 = ((b_36 1) + 1) ∧ b_39 0 = b_36 0 ∧ b_39 2 = b_36 2 ∧ b_39 3 = b_36 3 ∧ b_39 4 = b_36 4) ∧ wd X (va_A (rcW X hn an v b g) sz) (va_A (rcW X hn an v b g) sz) s (rcW X hn an v b_39 g50_0) H locs := ⟨upN b_36 1 ((b_36 1) + 1), ⟨hI_b_36.1, (by show ((b_36 1) + 1) ≤ 8; omega), hI_b_36.2.2.1, hI_b_36.2.2.2.1, hI_b_36.2.2.2.2⟩, ⟨rfl, rfl, rfl, rfl, rfl⟩, G⟩
        have hO_b_39 := hI_b_39
        obtain ⟨hb0_b_39, hb1_b_39, hb2_b_39, hb3_b_39, hb4_b_39⟩ := hO_b_39
        exact e_void S zr zlk G (v, b_39, g50_0) [0, 1, 2, 3, 4, 5, 6, 7, 8, 9, 10, 11, 12, 13, 14, 15] rfl rfl (Or.inr rfl) (⟨hI_b_39, trivial⟩) dX4_push_161
      · have fc_38 := j_nle (a := 6) (b := k50) (by omega) (by omega) c_38
        refine lv_iload_n zx zb dX4_push_57 rfl (lv_at hl 1 rfl) ?_
        refine lv_iconst (v := 1) zx zb dX4_push_58 (by decide) ?_
        refine r_iadd (v := (nI (((b_36 1) * 31) + 1))) S (nI_add ((b_36 1) * 31) 1) dX4_push_59 ?_
        refine lv_iload zx zb dX4_push_60 (lv_at hl 0 rfl) ?_
        refine lv_iconst (v := 5) zx zb dX4_push_62 (by decide) ?_
        refine r_imul (v := (nI (k50 * 5))) S (pk_mul k50 5) dX4_push_63 ?_
        refine r_iadd (v := (nI ((((b_36 1) * 31) + 1) + (k50 * 5)))) S (nI_add (((b_36 1) * 31) + 1) (k50 * 5)) dX4_push_64 ?_
        refine lv_istore (lv' := [(5, .int (nI ((((b_36 1) * 31) + 1) + (k50 * 5)))), (4, .int (nI k50)), (3, .int (nI ((b_36 1) * 31))), (0, .ref (an 7)), (1, .int x1), (2, .ref (an 0))]) zx zb dX4_push_65 hl (by decide) rfl (fun ls hl => ?_)
        refine lv_aload_n zx zb dX4_push_67 rfl (lv_at hl 3 rfl) ?_
        refine r_get (C := RX4) (T := TX4) (N := 2) (ci := 2) (v := .ref (an 8)) S in_X4_push_X4 G 8 rfl rfl 0 (by decide) lk_X4_push_11 rfl dX4_push_68 ?_
        refine lv_iload zx zb dX4_push_71 (lv_at hl 0 rfl) ?_
        refine lv_aload_n zx zb dX4_push_73 rfl (lv_at hl 5 rfl) ?_
        refine lv_iload zx zb dX4_push_74 (lv_at hl 1 rfl) ?_
        rcases k_6c (show k50 < 6 by omega) with rfl | rfl | rfl | rfl | rfl | rfl
        · refine k_it (v := 0) rfl ?_
          refine r_aald (C := RX8) (b := (an 1)) S G 1 3 rfl rfl (k_vp (by decide)) rfl dX4_push_76 ?_
          refine r_get (C := RX8) (T := TX8) (N := 8) (ci := 6) (v := .int (v 13)) S in_X4_push_X8 G 2 rfl rfl 3 (by decide) lk_X4_push_25 rfl dX4_push_77 ?_
          refine r_iast S G 9 rfl (vp_in_nI (by omega) (by decide)) dX4_push_80 (fun H locs G => ?_)
          obtain ⟨g_40, G⟩ : ∃ g_40 : Nat → Nat → Int32, wd X (va_A (rcW X hn an v b g) sz) (va_A (rcW X hn an v b g) sz) s (rcW X hn an v b_36 g_40) H locs := ⟨upG g50_0 0 _, G⟩
          refine lv_aload_n zx zb dX4_push_81 rfl (lv_at hl 3 rfl) ?_
          refine r_get (C := RX4) (T := TX4) (N := 2) (ci := 2) (v := .ref (an 8)) S in_X4_push_X4 G 8 rfl rfl 0 (by decide) lk_X4_push_11 rfl dX4_push_82 ?_
          refine lv_iload zx zb dX4_push_85 (lv_at hl 0 rfl) ?_
          refine lv_iconst (v := 1) zx zb dX4_push_87 (by decide) ?_
          refine r_iadd (v := (nI (((((b_36 1) * 31) + 1) + (0 * 5)) + 1))) S (nI_add ((((b_36 1) * 31) + 1) + (0 * 5)) 1) dX4_push_88 ?_
          refine lv_aload_n zx zb dX4_push_89 rfl (lv_at hl 5 rfl) ?_
          refine lv_iload zx zb dX4_push_90 (lv_at hl 1 rfl) ?_
          refine r_aald (C := RX8) (b := (an 1)) S G 1 3 rfl rfl (k_vp (by decide)) rfl dX4_push_92 ?_
          refine r_get (C := RX8) (T := TX8) (N := 8) (ci := 6) (v := .int (v 14)) S in_X4_push_X8 G 2 rfl rfl 4 (by decide) lk_X4_push_30 rfl dX4_push_93 ?_
          refine r_iast S G 9 rfl (vp_in_nI (by omega) (by decide)) dX4_push_96 (fun H locs G => ?_)
          obtain ⟨g_41, G⟩ : ∃ g_41 : Nat → Nat → Int32, wd X (va_A (rcW X hn an v b g) sz) (va_A (rcW X hn an v b g) sz) s (rcW X hn an v b_36 g_41) H locs := ⟨upG g_40 0 _, G⟩
          refine lv_aload_n zx zb dX4_push_97 rfl (lv_at hl 3 rfl) ?_
          refine r_get (C := RX4) (T := TX4) (N := 2) (ci := 2) (v := .ref (an 8)) S in_X4_push_X4 G 8 rfl rfl 0 (by decide) lk_X4_push_11 rfl dX4_push_98 ?_
          refine lv_iload zx zb dX4_push_101 (lv_at hl 0 rfl) ?_
          refine lv_iconst (v := 2) zx zb dX4_push_103 (by decide) ?_
          refine r_iadd (v := (nI (((((b_36 1) * 31) + 1) + (0 * 5)) + 2))) S (nI_add ((((b_36 1) * 31) + 1) + (0 * 5)) 2) dX4_push_104 ?_
          refine lv_aload_n zx zb dX4_push_105 rfl (lv_at hl 5 rfl) ?_
          refine lv_iload zx zb dX4_push_106 (lv_at hl 1 rfl) ?_
          refine r_aald (C := RX8) (b := (an 1)) S G 1 3 rfl rfl (k_vp (by decide)) rfl dX4_push_108 ?_
          refine r_get (C := RX8) (T := TX8) (N := 8) (ci := 6) (v := .int (v 15)) S in_X4_push_X8 G 2 rfl rfl 5 (by decide) lk_X4_push_33 rfl dX4_push_109 ?_
          refine r_iast S G 9 rfl (vp_in_nI (by omega) (by decide)) dX4_push_112 (fun H locs G => ?_)
          obtain ⟨g_42, G⟩ : ∃ g_42 : Nat → Nat → Int32, wd X (va_A (rcW X hn an v b g) sz) (va_A (rcW X hn an v b g) sz) s (rcW X hn an v b_36 g_42) H locs := ⟨upG g_41 0 _, G⟩
          refine lv_aload_n zx zb dX4_push_113 rfl (lv_at hl 3 rfl) ?_
          refine r_get (C := RX4) (T := TX4) (N := 2) (ci := 2) (v := .ref (an 8)) S in_X4_push_X4 G 8 rfl rfl 0 (by decide) lk_X4_push_11 rfl dX4_push_114 ?_
          refine lv_iload zx zb dX4_push_117 (lv_at hl 0 rfl) ?_
          refine lv_iconst (v := 3) zx zb dX4_push_119 (by decide) ?_
          refine r_iadd (v := (nI (((((b_36 1) * 31) + 1) + (0 * 5)) + 3))) S (nI_add ((((b_36 1) * 31) + 1) + (0 * 5)) 3) dX4_push_120 ?_
          refine lv_aload_n zx zb dX4_push_121 rfl (lv_at hl 5 rfl) ?_
          refine lv_iload zx zb dX4_push_122 (lv_at hl 1 rfl) ?_
          refine r_aald (C := RX8) (b := (an 1)) S G 1 3 rfl rfl (k_vp (by decide)) rfl dX4_push_124 ?_
          refine r_get (C := RX8) (T := TX8) (N := 8) (ci := 6) (v := .int (v 16)) S in_X4_push_X8 G 2 rfl rfl 6 (by decide) lk_X4_push_36 rfl dX4_push_125 ?_
          refine r_iast S G 9 rfl (vp_in_nI (by omega) (by decide)) dX4_push_128 (fun H locs G => ?_)
          obtain ⟨g_43, G⟩ : ∃ g_43 : Nat → Nat → Int32, wd X (va_A (rcW X hn an v b g) sz) (va_A (rcW X hn an v b g) sz) s (rcW X hn an v b_36 g_43) H locs := ⟨upG g_42 0 _, G⟩
          refine lv_aload_n zx zb dX4_push_129 rfl (lv_at hl 3 rfl) ?_
          refine r_get (C := RX4) (T := TX4) (N := 2) (ci := 2) (v := .ref (an 8)) S in_X4_push_X4 G 8 rfl rfl 0 (by decide) lk_X4_push_11 rfl dX4_push_130 ?_
          refine lv_iload zx zb dX4_push_133 (lv_at hl 0 rfl) ?_
          refine lv_iconst (v := 4) zx zb dX4_push_135 (by decide) ?_
          refine r_iadd (v := (nI (((((b_36 1) * 31) + 1) + (0 * 5)) + 4))) S (nI_add ((((b_36 1) * 31) + 1) + (0 * 5)) 4) dX4_push_136 ?_
          refine lv_aload_n zx zb dX4_push_137 rfl (lv_at hl 5 rfl) ?_
          refine lv_iload zx zb dX4_push_138 (lv_at hl 1 rfl) ?_
          refine r_aald (C := RX8) (b := (an 1)) S G 1 3 rfl rfl (k_vp (by decide)) rfl dX4_push_140 ?_
          refine r_get (C := RX8) (T := TX8) (N := 8) (ci := 6) (v := .int (v 17)) S in_X4_push_X8 G 2 rfl rfl 7 (by decide) lk_X4_push_39 rfl dX4_push_141 ?_
          refine r_iast S G 9 rfl (vp_in_nI (by omega) (by decide)) dX4_push_144 (fun H locs G => ?_)
          obtain ⟨g_44, G⟩ : ∃ g_44 : Nat → Nat → Int32, wd X (va_A (rcW X hn an v b g) sz) (va_A (rcW X hn an v b g) sz) s (rcW X hn an v b_36 g_44) H locs := ⟨upG g_43 0 _, G⟩
          refine lv_iinc (v := 1) (lv' := [(4, .int 1), (5, .int (nI ((((b_36 1) * 31) + 1) + (0 * 5)))), (3, .int (nI ((b_36 1) * 31))), (0, .ref (an 7)), (1, .int x1), (2, .ref (an 0))]) zx zb dX4_push_145 hl (k := 1) rfl (by decide) (by decide) rfl (fun ls hl => ?_)
          refine lv_goto (tgt := 50) zx zb dX4_push_148 (by decide) ?_
          have hl := lv_sub hl (l' := [(4, .int 1), (3, .int (nI ((b_36 1) * 31))), (0, .ref (an 7)), (1, .int x1), (2, .ref (an 0))]) [0, 2, 3, 4, 5] rfl
          exact ih50 1 g_44 _ _ _ (by omega) (by omega) G hl
        · refine k_it (v := 1) rfl ?_
          refine r_aald (C := RX8) (b := (an 2)) S G 1 3 rfl rfl (k_vp (by decide)) rfl dX4_push_76 ?_
          refine r_get (C := RX8) (T := TX8) (N := 8) (ci := 6) (v := .int (v 21)) S in_X4_push_X8 G 3 rfl rfl 3 (by decide) lk_X4_push_25 rfl dX4_push_77 ?_
          refine r_iast S G 9 rfl (vp_in_nI (by omega) (by decide)) dX4_push_80 (fun H locs G => ?_)
          obtain ⟨g_45, G⟩ : ∃ g_45 : Nat → Nat → Int32, wd X (va_A (rcW X hn an v b g) sz) (va_A (rcW X hn an v b g) sz) s (rcW X hn an v b_36 g_45) H locs := ⟨upG g50_0 0 _, G⟩
          refine lv_aload_n zx zb dX4_push_81 rfl (lv_at hl 3 rfl) ?_
          refine r_get (C := RX4) (T := TX4) (N := 2) (ci := 2) (v := .ref (an 8)) S in_X4_push_X4 G 8 rfl rfl 0 (by decide) lk_X4_push_11 rfl dX4_push_82 ?_
          refine lv_iload zx zb dX4_push_85 (lv_at hl 0 rfl) ?_
          refine lv_iconst (v := 1) zx zb dX4_push_87 (by decide) ?_
          refine r_iadd (v := (nI (((((b_36 1) * 31) + 1) + (1 * 5)) + 1))) S (nI_add ((((b_36 1) * 31) + 1) + (1 * 5)) 1) dX4_push_88 ?_
          refine lv_aload_n zx zb dX4_push_89 rfl (lv_at hl 5 rfl) ?_
          refine lv_iload zx zb dX4_push_90 (lv_at hl 1 rfl) ?_
          refine r_aald (C := RX8) (b := (an 2)) S G 1 3 rfl rfl (k_vp (by decide)) rfl dX4_push_92 ?_
          refine r_get (C := RX8) (T := TX8) (N := 8) (ci := 6) (v := .int (v 22)) S in_X4_push_X8 G 3 rfl rfl 4 (by decide) lk_X4_push_30 rfl dX4_push_93 ?_
          refine r_iast S G 9 rfl (vp_in_nI (by omega) (by decide)) dX4_push_96 (fun H locs G => ?_)
          obtain ⟨g_46, G⟩ : ∃ g_46 : Nat → Nat → Int32, wd X (va_A (rcW X hn an v b g) sz) (va_A (rcW X hn an v b g) sz) s (rcW X hn an v b_36 g_46) H locs := ⟨upG g_45 0 _, G⟩
          refine lv_aload_n zx zb dX4_push_97 rfl (lv_at hl 3 rfl) ?_
          refine r_get (C := RX4) (T := TX4) (N := 2) (ci := 2) (v := .ref (an 8)) S in_X4_push_X4 G 8 rfl rfl 0 (by decide) lk_X4_push_11 rfl dX4_push_98 ?_
          refine lv_iload zx zb dX4_push_101 (lv_at hl 0 rfl) ?_
          refine lv_iconst (v := 2) zx zb dX4_push_103 (by decide) ?_
          refine r_iadd (v := (nI (((((b_36 1) * 31) + 1) + (1 * 5)) + 2))) S (nI_add ((((b_36 1) * 31) + 1) + (1 * 5)) 2) dX4_push_104 ?_
          refine lv_aload_n zx zb dX4_push_105 rfl (lv_at hl 5 rfl) ?_
          refine lv_iload zx zb dX4_push_106 (lv_at hl 1 rfl) ?_
          refine r_aald (C := RX8) (b := (an 2)) S G 1 3 rfl rfl (k_vp (by decide)) rfl dX4_push_108 ?_
          refine r_get (C := RX8) (T := TX8) (N := 8) (ci := 6) (v := .int (v 23)) S in_X4_push_X8 G 3 rfl rfl 5 (by decide) lk_X4_push_33 rfl dX4_push_109 ?_
          refine r_iast S G 9 rfl (vp_in_nI (by omega) (by decide)) dX4_push_112 (fun H locs G => ?_)
          obtain ⟨g_47, G⟩ : ∃ g_47 : Nat → Nat → Int32, wd X (va_A (rcW X hn an v b g) sz) (va_A (rcW X hn an v b g) sz) s (rcW X hn an v b_36 g_47) H locs := ⟨upG g_46 0 _, G⟩
          refine lv_aload_n zx zb dX4_push_113 rfl (lv_at hl 3 rfl) ?_
          refine r_get (C := RX4) (T := TX4) (N := 2) (ci := 2) (v := .ref (an 8)) S in_X4_push_X4 G 8 rfl rfl 0 (by decide) lk_X4_push_11 rfl dX4_push_114 ?_
          refine lv_iload zx zb dX4_push_117 (lv_at hl 0 rfl) ?_
          refine lv_iconst (v := 3) zx zb dX4_push_119 (by decide) ?_
          refine r_iadd (v := (nI (((((b_36 1) * 31) + 1) + (1 * 5)) + 3))) S (nI_add ((((b_36 1) * 31) + 1) + (1 * 5)) 3) dX4_push_120 ?_
          refine lv_aload_n zx zb dX4_push_121 rfl (lv_at hl 5 rfl) ?_
          refine lv_iload zx zb dX4_push_122 (lv_at hl 1 rfl) ?_
          refine r_aald (C := RX8) (b := (an 2)) S G 1 3 rfl rfl (k_vp (by decide)) rfl dX4_push_124 ?_
          refine r_get (C := RX8) (T := TX8) (N := 8) (ci := 6) (v := .int (v 24)) S in_X4_push_X8 G 3 rfl rfl 6 (by decide) lk_X4_push_36 rfl dX4_push_125 ?_
          refine r_iast S G 9 rfl (vp_in_nI (by omega) (by decide)) dX4_push_128 (fun H locs G => ?_)
          obtain ⟨g_48, G⟩ : ∃ g_48 : Nat → Nat → Int32, wd X (va_A (rcW X hn an v b g) sz) (va_A (rcW X hn an v b g) sz) s (rcW X hn an v b_36 g_48) H locs := ⟨upG g_47 0 _, G⟩
          refine lv_aload_n zx zb dX4_push_129 rfl (lv_at hl 3 rfl) ?_
          refine r_get (C := RX4) (T := TX4) (N := 2) (ci := 2) (v := .ref (an 8)) S in_X4_push_X4 G 8 rfl rfl 0 (by decide) lk_X4_push_11 rfl dX4_push_130 ?_
          refine lv_iload zx zb dX4_push_133 (lv_at hl 0 rfl) ?_
          refine lv_iconst (v := 4) zx zb dX4_push_135 (by decide) ?_
          refine r_iadd (v := (nI (((((b_36 1) * 31) + 1) + (1 * 5)) + 4))) S (nI_add ((((b_36 1) * 31) + 1) + (1 * 5)) 4) dX4_push_136 ?_
          refine lv_aload_n zx zb dX4_push_137 rfl (lv_at hl 5 rfl) ?_
          refine lv_iload zx zb dX4_push_138 (lv_at hl 1 rfl) ?_
          refine r_aald (C := RX8) (b := (an 2)) S G 1 3 rfl rfl (k_vp (by decide)) rfl dX4_push_140 ?_
          refine r_get (C := RX8) (T := TX8) (N := 8) (ci := 6) (v := .int (v 25)) S in_X4_push_X8 G 3 rfl rfl 7 (by decide) lk_X4_push_39 rfl dX4_push_141 ?_
          refine r_iast S G 9 rfl (vp_in_nI (by omega) (by decide)) dX4_push_144 (fun H locs G => ?_)
          obtain ⟨g_49, G⟩ : ∃ g_49 : Nat → Nat → Int32, wd X (va_A (rcW X hn an v b g) sz) (va_A (rcW X hn an v b g) sz) s (rcW X hn an v b_36 g_49) H locs := ⟨upG g_48 0 _, G⟩
          refine lv_iinc (v := 2) (lv' := [(4, .int 2), (5, .int (nI ((((b_36 1) * 31) + 1) + (1 * 5)))), (3, .int (nI ((b_36 1) * 31))), (0, .ref (an 7)), (1, .int x1), (2, .ref (an 0))]) zx zb dX4_push_145 hl (k := 1) rfl (by decide) (by decide) rfl (fun ls hl => ?_)
          refine lv_goto (tgt := 50) zx zb dX4_push_148 (by decide) ?_
          have hl := lv_sub hl (l' := [(4, .int 2), (3, .int (nI ((b_36 1) * 31))), (0, .ref (an 7)), (1, .int x1), (2, .ref (an 0))]) [0, 2, 3, 4, 5] rfl
          exact ih50 2 g_49 _ _ _ (by omega) (by omega) G hl
        · refine k_it (v := 2) rfl ?_
          refine r_aald (C := RX8) (b := (an 3)) S G 1 3 rfl rfl (k_vp (by decide)) rfl dX4_push_76 ?_
          refine r_get (C := RX8) (T := TX8) (N := 8) (ci := 6) (v := .int (v 29)) S in_X4_push_X8 G 4 rfl rfl 3 (by decide) lk_X4_push_25 rfl dX4_push_77 ?_
          refine r_iast S G 9 rfl (vp_in_nI (by omega) (by decide)) dX4_push_80 (fun H locs G => ?_)
          obtain ⟨g_50, G⟩ : ∃ g_50 : Nat → Nat → Int32, wd X (va_A (rcW X hn an v b g) sz) (va_A (rcW X hn an v b g) sz) s (rcW X hn an v b_36 g_50) H locs := ⟨upG g50_0 0 _, G⟩
          refine lv_aload_n zx zb dX4_push_81 rfl (lv_at hl 3 rfl) ?_
          refine r_get (C := RX4) (T := TX4) (N := 2) (ci := 2) (v := .ref (an 8)) S in_X4_push_X4 G 8 rfl rfl 0 (by decide) lk_X4_push_11 rfl dX4_push_82 ?_
          refine lv_iload zx zb dX4_push_85 (lv_at hl 0 rfl) ?_
          refine lv_iconst (v := 1) zx zb dX4_push_87 (by decide) ?_
          refine r_iadd (v := (nI (((((b_36 1) * 31) + 1) + (2 * 5)) + 1))) S (nI_add ((((b_36 1) * 31) + 1) + (2 * 5)) 1) dX4_push_88 ?_
          refine lv_aload_n zx zb dX4_push_89 rfl (lv_at hl 5 rfl) ?_
          refine lv_iload zx zb dX4_push_90 (lv_at hl 1 rfl) ?_
          refine r_aald (C := RX8) (b := (an 3)) S G 1 3 rfl rfl (k_vp (by decide)) rfl dX4_push_92 ?_
          refine r_get (C := RX8) (T := TX8) (N := 8) (ci := 6) (v := .int (v 30)) S in_X4_push_X8 G 4 rfl rfl 4 (by decide) lk_X4_push_30 rfl dX4_push_93 ?_
          refine r_iast S G 9 rfl (vp_in_nI (by omega) (by decide)) dX4_push_96 (fun H locs G => ?_)
          obtain ⟨g_51, G⟩ : ∃ g_51 : Nat → Nat → Int32, wd X (va_A (rcW X hn an v b g) sz) (va_A (rcW X hn an v b g) sz) s (rcW X hn an v b_36 g_51) H locs := ⟨upG g_50 0 _, G⟩
          refine lv_aload_n zx zb dX4_push_97 rfl (lv_at hl 3 rfl) ?_
          refine r_get (C := RX4) (T := TX4) (N := 2) (ci := 2) (v := .ref (an 8)) S in_X4_push_X4 G 8 rfl rfl 0 (by decide) lk_X4_push_11 rfl dX4_push_98 ?_
          refine lv_iload zx zb dX4_push_101 (lv_at hl 0 rfl) ?_
          refine lv_iconst (v := 2) zx zb dX4_push_103 (by decide) ?_
          refine r_iadd (v := (nI (((((b_36 1) * 31) + 1) + (2 * 5)) + 2))) S (nI_add ((((b_36 1) * 31) + 1) + (2 * 5)) 2) dX4_push_104 ?_
          refine lv_aload_n zx zb dX4_push_105 rfl (lv_at hl 5 rfl) ?_
          refine lv_iload zx zb dX4_push_106 (lv_at hl 1 rfl) ?_
          refine r_aald (C := RX8) (b := (an 3)) S G 1 3 rfl rfl (k_vp (by decide)) rfl dX4_push_108 ?_
          refine r_get (C := RX8) (T := TX8) (N := 8) (ci := 6) (v := .int (v 31)) S in_X4_push_X8 G 4 rfl rfl 5 (by decide) lk_X4_push_33 rfl dX4_push_109 ?_
          refine r_iast S G 9 rfl (vp_in_nI (by omega) (by decide)) dX4_push_112 (fun H locs G => ?_)
          obtain ⟨g_52, G⟩ : ∃ g_52 : Nat → Nat → Int32, wd X (va_A (rcW X hn an v b g) sz) (va_A (rcW X hn an v b g) sz) s (rcW X hn an v b_36 g_52) H locs := ⟨upG g_51 0 _, G⟩
          refine lv_aload_n zx zb dX4_push_113 rfl (lv_at hl 3 rfl) ?_
          refine r_get (C := RX4) (T := TX4) (N := 2) (ci := 2) (v := .ref (an 8)) S in_X4_push_X4 G 8 rfl rfl 0 (by decide) lk_X4_push_11 rfl dX4_push_114 ?_
          refine lv_iload zx zb dX4_push_117 (lv_at hl 0 rfl) ?_
          refine lv_iconst (v := 3) zx zb dX4_push_119 (by decide) ?_
          refine r_iadd (v := (nI (((((b_36 1) * 31) + 1) + (2 * 5)) + 3))) S (nI_add ((((b_36 1) * 31) + 1) + (2 * 5)) 3) dX4_push_120 ?_
          refine lv_aload_n zx zb dX4_push_121 rfl (lv_at hl 5 rfl) ?_
          refine lv_iload zx zb dX4_push_122 (lv_at hl 1 rfl) ?_
          refine r_aald (C := RX8) (b := (an 3)) S G 1 3 rfl rfl (k_vp (by decide)) rfl dX4_push_124 ?_
          refine r_get (C := RX8) (T := TX8) (N := 8) (ci := 6) (v := .int (v 32)) S in_X4_push_X8 G 4 rfl rfl 6 (by decide) lk_X4_push_36 rfl dX4_push_125 ?_
          refine r_iast S G 9 rfl (vp_in_nI (by omega) (by decide)) dX4_push_128 (fun H locs G => ?_)
          obtain ⟨g_53, G⟩ : ∃ g_53 : Nat → Nat → Int32, wd X (va_A (rcW X hn an v b g) sz) (va_A (rcW X hn an v b g) sz) s (rcW X hn an v b_36 g_53) H locs := ⟨upG g_52 0 _, G⟩
          refine lv_aload_n zx zb dX4_push_129 rfl (lv_at hl 3 rfl) ?_
          refine r_get (C := RX4) (T := TX4) (N := 2) (ci := 2) (v := .ref (an 8)) S in_X4_push_X4 G 8 rfl rfl 0 (by decide) lk_X4_push_11 rfl dX4_push_130 ?_
          refine lv_iload zx zb dX4_push_133 (lv_at hl 0 rfl) ?_
          refine lv_iconst (v := 4) zx zb dX4_push_135 (by decide) ?_
          refine r_iadd (v := (nI (((((b_36 1) * 31) + 1) + (2 * 5)) + 4))) S (nI_add ((((b_36 1) * 31) + 1) + (2 * 5)) 4) dX4_push_136 ?_
          refine lv_aload_n zx zb dX4_push_137 rfl (lv_at hl 5 rfl) ?_
          refine lv_iload zx zb dX4_push_138 (lv_at hl 1 rfl) ?_
          refine r_aald (C := RX8) (b := (an 3)) S G 1 3 rfl rfl (k_vp (by decide)) rfl dX4_push_140 ?_
          refine r_get (C := RX8) (T := TX8) (N := 8) (ci := 6) (v := .int (v 33)) S in_X4_push_X8 G 4 rfl rfl 7 (by decide) lk_X4_push_39 rfl dX4_push_141 ?_
          refine r_iast S G 9 rfl (vp_in_nI (by omega) (by decide)) dX4_push_144 (fun H locs G => ?_)
          obtain ⟨g_54, G⟩ : ∃ g_54 : Nat → Nat → Int32, wd X (va_A (rcW X hn an v b g) sz) (va_A (rcW X hn an v b g) sz) s (rcW X hn an v b_36 g_54) H locs := ⟨upG g_53 0 _, G⟩
          refine lv_iinc (v := 3) (lv' := [(4, .int 3), (5, .int (nI ((((b_36 1) * 31) + 1) + (2 * 5)))), (3, .int (nI ((b_36 1) * 31))), (0, .ref (an 7)), (1, .int x1), (2, .ref (an 0))]) zx zb dX4_push_145 hl (k := 1) rfl (by decide) (by decide) rfl (fun ls hl => ?_)
          refine lv_goto (tgt := 50) zx zb dX4_push_148 (by decide) ?_
          have hl := lv_sub hl (l' := [(4, .int 3), (3, .int (nI ((b_36 1) * 31))), (0, .ref (an 7)), (1, .int x1), (2, .ref (an 0))]) [0, 2, 3, 4, 5] rfl
          exact ih50 3 g_54 _ _ _ (by omega) (by omega) G hl
        · refine k_it (v := 3) rfl ?_
          refine r_aald (C := RX8) (b := (an 4)) S G 1 3 rfl rfl (k_vp (by decide)) rfl dX4_push_76 ?_
          refine r_get (C := RX8) (T := TX8) (N := 8) (ci := 6) (v := .int (v 37)) S in_X4_push_X8 G 5 rfl rfl 3 (by decide) lk_X4_push_25 rfl dX4_push_77 ?_
          refine r_iast S G 9 rfl (vp_in_nI (by omega) (by decide)) dX4_push_80 (fun H locs G => ?_)
          obtain ⟨g_55, G⟩ : ∃ g_55 : Nat → Nat → Int32, wd X (va_A (rcW X hn an v b g) sz) (va_A (rcW X hn an v b g) sz) s (rcW X hn an v b_36 g_55) H locs := ⟨upG g50_0 0 _, G⟩
          refine lv_aload_n zx zb dX4_push_81 rfl (lv_at hl 3 rfl) ?_
          refine r_get (C := RX4) (T := TX4) (N := 2) (ci := 2) (v := .ref (an 8)) S in_X4_push_X4 G 8 rfl rfl 0 (by decide) lk_X4_push_11 rfl dX4_push_82 ?_
          refine lv_iload zx zb dX4_push_85 (lv_at hl 0 rfl) ?_
          refine lv_iconst (v := 1) zx zb dX4_push_87 (by decide) ?_
          refine r_iadd (v := (nI (((((b_36 1) * 31) + 1) + (3 * 5)) + 1))) S (nI_add ((((b_36 1) * 31) + 1) + (3 * 5)) 1) dX4_push_88 ?_
          refine lv_aload_n zx zb dX4_push_89 rfl (lv_at hl 5 rfl) ?_
          refine lv_iload zx zb dX4_push_90 (lv_at hl 1 rfl) ?_
          refine r_aald (C := RX8) (b := (an 4)) S G 1 3 rfl rfl (k_vp (by decide)) rfl dX4_push_92 ?_
          refine r_get (C := RX8) (T := TX8) (N := 8) (ci := 6) (v := .int (v 38)) S in_X4_push_X8 G 5 rfl rfl 4 (by decide) lk_X4_push_30 rfl dX4_push_93 ?_
          refine r_iast S G 9 rfl (vp_in_nI (by omega) (by decide)) dX4_push_96 (fun H locs G => ?_)
          obtain ⟨g_56, G⟩ : ∃ g_56 : Nat → Nat → Int32, wd X (va_A (rcW X hn an v b g) sz) (va_A (rcW X hn an v b g) sz) s (rcW X hn an v b_36 g_56) H locs := ⟨upG g_55 0 _, G⟩
          refine lv_aload_n zx zb dX4_push_97 rfl (lv_at hl 3 rfl) ?_
          refine r_get (C := RX4) (T := TX4) (N := 2) (ci := 2) (v := .ref (an 8)) S in_X4_push_X4 G 8 rfl rfl 0 (by decide) lk_X4_push_11 rfl dX4_push_98 ?_
          refine lv_iload zx zb dX4_push_101 (lv_at hl 0 rfl) ?_
          refine lv_iconst (v := 2) zx zb dX4_push_103 (by decide) ?_
          refine r_iadd (v := (nI (((((b_36 1) * 31) + 1) + (3 * 5)) + 2))) S (nI_add ((((b_36 1) * 31) + 1) + (3 * 5)) 2) dX4_push_104 ?_
          refine lv_aload_n zx zb dX4_push_105 rfl (lv_at hl 5 rfl) ?_
          refine lv_iload zx zb dX4_push_106 (lv_at hl 1 rfl) ?_
          refine r_aald (C := RX8) (b := (an 4)) S G 1 3 rfl rfl (k_vp (by decide)) rfl dX4_push_108 ?_
          refine r_get (C := RX8) (T := TX8) (N := 8) (ci := 6) (v := .int (v 39)) S in_X4_push_X8 G 5 rfl rfl 5 (by decide) lk_X4_push_33 rfl dX4_push_109 ?_
          refine r_iast S G 9 rfl (vp_in_nI (by omega) (by decide)) dX4_push_112 (fun H locs G => ?_)
          obtain ⟨g_57, G⟩ : ∃ g_57 : Nat → Nat → Int32, wd X (va_A (rcW X hn an v b g) sz) (va_A (rcW X hn an v b g) sz) s (rcW X hn an v b_36 g_57) H locs := ⟨upG g_56 0 _, G⟩
          refine lv_aload_n zx zb dX4_push_113 rfl (lv_at hl 3 rfl) ?_
          refine r_get (C := RX4) (T := TX4) (N := 2) (ci := 2) (v := .ref (an 8)) S in_X4_push_X4 G 8 rfl rfl 0 (by decide) lk_X4_push_11 rfl dX4_push_114 ?_
          refine lv_iload zx zb dX4_push_117 (lv_at hl 0 rfl) ?_
          refine lv_iconst (v := 3) zx zb dX4_push_119 (by decide) ?_
          refine r_iadd (v := (nI (((((b_36 1) * 31) + 1) + (3 * 5)) + 3))) S (nI_add ((((b_36 1) * 31) + 1) + (3 * 5)) 3) dX4_push_120 ?_
          refine lv_aload_n zx zb dX4_push_121 rfl (lv_at hl 5 rfl) ?_
          refine lv_iload zx zb dX4_push_122 (lv_at hl 1 rfl) ?_
          refine r_aald (C := RX8) (b := (an 4)) S G 1 3 rfl rfl (k_vp (by decide)) rfl dX4_push_124 ?_
          refine r_get (C := RX8) (T := TX8) (N := 8) (ci := 6) (v := .int (v 40)) S in_X4_push_X8 G 5 rfl rfl 6 (by decide) lk_X4_push_36 rfl dX4_push_125 ?_
          refine r_iast S G 9 rfl (vp_in_nI (by omega) (by decide)) dX4_push_128 (fun H locs G => ?_)
          obtain ⟨g_58, G⟩ : ∃ g_58 : Nat → Nat → Int32, wd X (va_A (rcW X hn an v b g) sz) (va_A (rcW X hn an v b g) sz) s (rcW X hn an v b_36 g_58) H locs := ⟨upG g_57 0 _, G⟩
          refine lv_aload_n zx zb dX4_push_129 rfl (lv_at hl 3 rfl) ?_
          refine r_get (C := RX4) (T := TX4) (N := 2) (ci := 2) (v := .ref (an 8)) S in_X4_push_X4 G 8 rfl rfl 0 (by decide) lk_X4_push_11 rfl dX4_push_130 ?_
          refine lv_iload zx zb dX4_push_133 (lv_at hl 0 rfl) ?_
          refine lv_iconst (v := 4) zx zb dX4_push_135 (by decide) ?_
          refine r_iadd (v := (nI (((((b_36 1) * 31) + 1) + (3 * 5)) + 4))) S (nI_add ((((b_36 1) * 31) + 1) + (3 * 5)) 4) dX4_push_136 ?_
          refine lv_aload_n zx zb dX4_push_137 rfl (lv_at hl 5 rfl) ?_
          refine lv_iload zx zb dX4_push_138 (lv_at hl 1 rfl) ?_
          refine r_aald (C := RX8) (b := (an 4)) S G 1 3 rfl rfl (k_vp (by decide)) rfl dX4_push_140 ?_
          refine r_get (C := RX8) (T := TX8) (N := 8) (ci := 6) (v := .int (v 41)) S in_X4_push_X8 G 5 rfl rfl 7 (by decide) lk_X4_push_39 rfl dX4_push_141 ?_
          refine r_iast S G 9 rfl (vp_in_nI (by omega) (by decide)) dX4_push_144 (fun H locs G => ?_)
          obtain ⟨g_59, G⟩ : ∃ g_59 : Nat → Nat → Int32, wd X (va_A (rcW X hn an v b g) sz) (va_A (rcW X hn an v b g) sz) s (rcW X hn an v b_36 g_59) H locs := ⟨upG g_58 0 _, G⟩
          refine lv_iinc (v := 4) (lv' := [(4, .int 4), (5, .int (nI ((((b_36 1) * 31) + 1) + (3 * 5)))), (3, .int (nI ((b_36 1) * 31))), (0, .ref (an 7)), (1, .int x1), (2, .ref (an 0))]) zx zb dX4_push_145 hl (k := 1) rfl (by decide) (by decide) rfl (fun ls hl => ?_)
          refine lv_goto (tgt := 50) zx zb dX4_push_148 (by decide) ?_
          have hl := lv_sub hl (l' := [(4, .int 4), (3, .int (nI ((b_36 1) * 31))), (0, .ref (an 7)), (1, .int x1), (2, .ref (an 0))]) [0, 2, 3, 4, 5] rfl
          exact ih50 4 g_59 _ _ _ (by omega) (by omega) G hl
        · refine k_it (v := 4) rfl ?_
          refine r_aald (C := RX8) (b := (an 5)) S G 1 3 rfl rfl (k_vp (by decide)) rfl dX4_push_76 ?_
          refine r_get (C := RX8) (T := TX8) (N := 8) (ci := 6) (v := .int (v 45)) S in_X4_push_X8 G 6 rfl rfl 3 (by decide) lk_X4_push_25 rfl dX4_push_77 ?_
          refine r_iast S G 9 rfl (vp_in_nI (by omega) (by decide)) dX4_push_80 (fun H locs G => ?_)
          obtain ⟨g_60, G⟩ : ∃ g_60 : Nat → Nat → Int32, wd X (va_A (rcW X hn an v b g) sz) (va_A (rcW X hn an v b g) sz) s (rcW X hn an v b_36 g_60) H locs := ⟨upG g50_0 0 _, G⟩
          refine lv_aload_n zx zb dX4_push_81 rfl (lv_at hl 3 rfl) ?_
          refine r_get (C := RX4) (T := TX4) (N := 2) (ci := 2) (v := .ref (an 8)) S in_X4_push_X4 G 8 rfl rfl 0 (by decide) lk_X4_push_11 rfl dX4_push_82 ?_
          refine lv_iload zx zb dX4_push_85 (lv_at hl 0 rfl) ?_
          refine lv_iconst (v := 1) zx zb dX4_push_87 (by decide) ?_
          refine r_iadd (v := (nI (((((b_36 1) * 31) + 1) + (4 * 5)) + 1))) S (nI_add ((((b_36 1) * 31) + 1) + (4 * 5)) 1) dX4_push_88 ?_
          refine lv_aload_n zx zb dX4_push_89 rfl (lv_at hl 5 rfl) ?_
          refine lv_iload zx zb dX4_push_90 (lv_at hl 1 rfl) ?_
          refine r_aald (C := RX8) (b := (an 5)) S G 1 3 rfl rfl (k_vp (by decide)) rfl dX4_push_92 ?_
          refine r_get (C := RX8) (T := TX8) (N := 8) (ci := 6) (v := .int (v 46)) S in_X4_push_X8 G 6 rfl rfl 4 (by decide) lk_X4_push_30 rfl dX4_push_93 ?_
          refine r_iast S G 9 rfl (vp_in_nI (by omega) (by decide)) dX4_push_96 (fun H locs G => ?_)
          obtain ⟨g_61, G⟩ : ∃ g_61 : Nat → Nat → Int32, wd X (va_A (rcW X hn an v b g) sz) (va_A (rcW X hn an v b g) sz) s (rcW X hn an v b_36 g_61) H locs := ⟨upG g_60 0 _, G⟩
          refine lv_aload_n zx zb dX4_push_97 rfl (lv_at hl 3 rfl) ?_
          refine r_get (C := RX4) (T := TX4) (N := 2) (ci := 2) (v := .ref (an 8)) S in_X4_push_X4 G 8 rfl rfl 0 (by decide) lk_X4_push_11 rfl dX4_push_98 ?_
          refine lv_iload zx zb dX4_push_101 (lv_at hl 0 rfl) ?_
          refine lv_iconst (v := 2) zx zb dX4_push_103 (by decide) ?_
          refine r_iadd (v := (nI (((((b_36 1) * 31) + 1) + (4 * 5)) + 2))) S (nI_add ((((b_36 1) * 31) + 1) + (4 * 5)) 2) dX4_push_104 ?_
          refine lv_aload_n zx zb dX4_push_105 rfl (lv_at hl 5 rfl) ?_
          refine lv_iload zx zb dX4_push_106 (lv_at hl 1 rfl) ?_
          refine r_aald (C := RX8) (b := (an 5)) S G 1 3 rfl rfl (k_vp (by decide)) rfl dX4_push_108 ?_
          refine r_get (C := RX8) (T := TX8) (N := 8) (ci := 6) (v := .int (v 47)) S in_X4_push_X8 G 6 rfl rfl 5 (by decide) lk_X4_push_33 rfl dX4_push_109 ?_
          refine r_iast S G 9 rfl (vp_in_nI (by omega) (by decide)) dX4_push_112 (fun H locs G => ?_)
          obtain ⟨g_62, G⟩ : ∃ g_62 : Nat → Nat → Int32, wd X (va_A (rcW X hn an v b g) sz) (va_A (rcW X hn an v b g) sz) s (rcW X hn an v b_36 g_62) H locs := ⟨upG g_61 0 _, G⟩
          refine lv_aload_n zx zb dX4_push_113 rfl (lv_at hl 3 rfl) ?_
          refine r_get (C := RX4) (T := TX4) (N := 2) (ci := 2) (v := .ref (an 8)) S in_X4_push_X4 G 8 rfl rfl 0 (by decide) lk_X4_push_11 rfl dX4_push_114 ?_
          refine lv_iload zx zb dX4_push_117 (lv_at hl 0 rfl) ?_
          refine lv_iconst (v := 3) zx zb dX4_push_119 (by decide) ?_
          refine r_iadd (v := (nI (((((b_36 1) * 31) + 1) + (4 * 5)) + 3))) S (nI_add ((((b_36 1) * 31) + 1) + (4 * 5)) 3) dX4_push_120 ?_
          refine lv_aload_n zx zb dX4_push_121 rfl (lv_at hl 5 rfl) ?_
          refine lv_iload zx zb dX4_push_122 (lv_at hl 1 rfl) ?_
          refine r_aald (C := RX8) (b := (an 5)) S G 1 3 rfl rfl (k_vp (by decide)) rfl dX4_push_124 ?_
          refine r_get (C := RX8) (T := TX8) (N := 8) (ci := 6) (v := .int (v 48)) S in_X4_push_X8 G 6 rfl rfl 6 (by decide) lk_X4_push_36 rfl dX4_push_125 ?_
          refine r_iast S G 9 rfl (vp_in_nI (by omega) (by decide)) dX4_push_128 (fun H locs G => ?_)
          obtain ⟨g_63, G⟩ : ∃ g_63 : Nat → Nat → Int32, wd X (va_A (rcW X hn an v b g) sz) (va_A (rcW X hn an v b g) sz) s (rcW X hn an v b_36 g_63) H locs := ⟨upG g_62 0 _, G⟩
          refine lv_aload_n zx zb dX4_push_129 rfl (lv_at hl 3 rfl) ?_
          refine r_get (C := RX4) (T := TX4) (N := 2) (ci := 2) (v := .ref (an 8)) S in_X4_push_X4 G 8 rfl rfl 0 (by decide) lk_X4_push_11 rfl dX4_push_130 ?_
          refine lv_iload zx zb dX4_push_133 (lv_at hl 0 rfl) ?_
          refine lv_iconst (v := 4) zx zb dX4_push_135 (by decide) ?_
          refine r_iadd (v := (nI (((((b_36 1) * 31) + 1) + (4 * 5)) + 4))) S (nI_add ((((b_36 1) * 31) + 1) + (4 * 5)) 4) dX4_push_136 ?_
          refine lv_aload_n zx zb dX4_push_137 rfl (lv_at hl 5 rfl) ?_
          refine lv_iload zx zb dX4_push_138 (lv_at hl 1 rfl) ?_
          refine r_aald (C := RX8) (b := (an 5)) S G 1 3 rfl rfl (k_vp (by decide)) rfl dX4_push_140 ?_
          refine r_get (C := RX8) (T := TX8) (N := 8) (ci := 6) (v := .int (v 49)) S in_X4_push_X8 G 6 rfl rfl 7 (by decide) lk_X4_push_39 rfl dX4_push_141 ?_
          refine r_iast S G 9 rfl (vp_in_nI (by omega) (by decide)) dX4_push_144 (fun H locs G => ?_)
          obtain ⟨g_64, G⟩ : ∃ g_64 : Nat → Nat → Int32, wd X (va_A (rcW X hn an v b g) sz) (va_A (rcW X hn an v b g) sz) s (rcW X hn an v b_36 g_64) H locs := ⟨upG g_63 0 _, G⟩
          refine lv_iinc (v := 5) (lv' := [(4, .int 5), (5, .int (nI ((((b_36 1) * 31) + 1) + (4 * 5)))), (3, .int (nI ((b_36 1) * 31))), (0, .ref (an 7)), (1, .int x1), (2, .ref (an 0))]) zx zb dX4_push_145 hl (k := 1) rfl (by decide) (by decide) rfl (fun ls hl => ?_)
          refine lv_goto (tgt := 50) zx zb dX4_push_148 (by decide) ?_
          have hl := lv_sub hl (l' := [(4, .int 5), (3, .int (nI ((b_36 1) * 31))), (0, .ref (an 7)), (1, .int x1), (2, .ref (an 0))]) [0, 2, 3, 4, 5] rfl
          exact ih50 5 g_64 _ _ _ (by omega) (by omega) G hl
        · refine k_it (v := 5) rfl ?_
          refine r_aald (C := RX8) (b := (an 6)) S G 1 3 rfl rfl (k_vp (by decide)) rfl dX4_push_76 ?_
          refine r_get (C := RX8) (T := TX8) (N := 8) (ci := 6) (v := .int (v 53)) S in_X4_push_X8 G 7 rfl rfl 3 (by decide) lk_X4_push_25 rfl dX4_push_77 ?_
          refine r_iast S G 9 rfl (vp_in_nI (by omega) (by decide)) dX4_push_80 (fun H locs G => ?_)
          obtain ⟨g_65, G⟩ : ∃ g_65 : Nat → Nat → Int32, wd X (va_A (rcW X hn an v b g) sz) (va_A (rcW X hn an v b g) sz) s (rcW X hn an v b_36 g_65) H locs := ⟨upG g50_0 0 _, G⟩
          refine lv_aload_n zx zb dX4_push_81 rfl (lv_at hl 3 rfl) ?_
          refine r_get (C := RX4) (T := TX4) (N := 2) (ci := 2) (v := .ref (an 8)) S in_X4_push_X4 G 8 rfl rfl 0 (by decide) lk_X4_push_11 rfl dX4_push_82 ?_
          refine lv_iload zx zb dX4_push_85 (lv_at hl 0 rfl) ?_
          refine lv_iconst (v := 1) zx zb dX4_push_87 (by decide) ?_
          refine r_iadd (v := (nI (((((b_36 1) * 31) + 1) + (5 * 5)) + 1))) S (nI_add ((((b_36 1) * 31) + 1) + (5 * 5)) 1) dX4_push_88 ?_
          refine lv_aload_n zx zb dX4_push_89 rfl (lv_at hl 5 rfl) ?_
          refine lv_iload zx zb dX4_push_90 (lv_at hl 1 rfl) ?_
          refine r_aald (C := RX8) (b := (an 6)) S G 1 3 rfl rfl (k_vp (by decide)) rfl dX4_push_92 ?_
          refine r_get (C := RX8) (T := TX8) (N := 8) (ci := 6) (v := .int (v 54)) S in_X4_push_X8 G 7 rfl rfl 4 (by decide) lk_X4_push_30 rfl dX4_push_93 ?_
          refine r_iast S G 9 rfl (vp_in_nI (by omega) (by decide)) dX4_push_96 (fun H locs G => ?_)
          obtain ⟨g_66, G⟩ : ∃ g_66 : Nat → Nat → Int32, wd X (va_A (rcW X hn an v b g) sz) (va_A (rcW X hn an v b g) sz) s (rcW X hn an v b_36 g_66) H locs := ⟨upG g_65 0 _, G⟩
          refine lv_aload_n zx zb dX4_push_97 rfl (lv_at hl 3 rfl) ?_
          refine r_get (C := RX4) (T := TX4) (N := 2) (ci := 2) (v := .ref (an 8)) S in_X4_push_X4 G 8 rfl rfl 0 (by decide) lk_X4_push_11 rfl dX4_push_98 ?_
          refine lv_iload zx zb dX4_push_101 (lv_at hl 0 rfl) ?_
          refine lv_iconst (v := 2) zx zb dX4_push_103 (by decide) ?_
          refine r_iadd (v := (nI (((((b_36 1) * 31) + 1) + (5 * 5)) + 2))) S (nI_add ((((b_36 1) * 31) + 1) + (5 * 5)) 2) dX4_push_104 ?_
          refine lv_aload_n zx zb dX4_push_105 rfl (lv_at hl 5 rfl) ?_
          refine lv_iload zx zb dX4_push_106 (lv_at hl 1 rfl) ?_
          refine r_aald (C := RX8) (b := (an 6)) S G 1 3 rfl rfl (k_vp (by decide)) rfl dX4_push_108 ?_
          refine r_get (C := RX8) (T := TX8) (N := 8) (ci := 6) (v := .int (v 55)) S in_X4_push_X8 G 7 rfl rfl 5 (by decide) lk_X4_push_33 rfl dX4_push_109 ?_
          refine r_iast S G 9 rfl (vp_in_nI (by omega) (by decide)) dX4_push_112 (fun H locs G => ?_)
          obtain ⟨g_67, G⟩ : ∃ g_67 : Nat → Nat → Int32, wd X (va_A (rcW X hn an v b g) sz) (va_A (rcW X hn an v b g) sz) s (rcW X hn an v b_36 g_67) H locs := ⟨upG g_66 0 _, G⟩
          refine lv_aload_n zx zb dX4_push_113 rfl (lv_at hl 3 rfl) ?_
          refine r_get (C := RX4) (T := TX4) (N := 2) (ci := 2) (v := .ref (an 8)) S in_X4_push_X4 G 8 rfl rfl 0 (by decide) lk_X4_push_11 rfl dX4_push_114 ?_
          refine lv_iload zx zb dX4_push_117 (lv_at hl 0 rfl) ?_
          refine lv_iconst (v := 3) zx zb dX4_push_119 (by decide) ?_
          refine r_iadd (v := (nI (((((b_36 1) * 31) + 1) + (5 * 5)) + 3))) S (nI_add ((((b_36 1) * 31) + 1) + (5 * 5)) 3) dX4_push_120 ?_
          refine lv_aload_n zx zb dX4_push_121 rfl (lv_at hl 5 rfl) ?_
          refine lv_iload zx zb dX4_push_122 (lv_at hl 1 rfl) ?_
          refine r_aald (C := RX8) (b := (an 6)) S G 1 3 rfl rfl (k_vp (by decide)) rfl dX4_push_124 ?_
          refine r_get (C := RX8) (T := TX8) (N := 8) (ci := 6) (v := .int (v 56)) S in_X4_push_X8 G 7 rfl rfl 6 (by decide) lk_X4_push_36 rfl dX4_push_125 ?_
          refine r_iast S G 9 rfl (vp_in_nI (by omega) (by decide)) dX4_push_128 (fun H locs G => ?_)
          obtain ⟨g_68, G⟩ : ∃ g_68 : Nat → Nat → Int32, wd X (va_A (rcW X hn an v b g) sz) (va_A (rcW X hn an v b g) sz) s (rcW X hn an v b_36 g_68) H locs := ⟨upG g_67 0 _, G⟩
          refine lv_aload_n zx zb dX4_push_129 rfl (lv_at hl 3 rfl) ?_
          refine r_get (C := RX4) (T := TX4) (N := 2) (ci := 2) (v := .ref (an 8)) S in_X4_push_X4 G 8 rfl rfl 0 (by decide) lk_X4_push_11 rfl dX4_push_130 ?_
          refine lv_iload zx zb dX4_push_133 (lv_at hl 0 rfl) ?_
          refine lv_iconst (v := 4) zx zb dX4_push_135 (by decide) ?_
          refine r_iadd (v := (nI (((((b_36 1) * 31) + 1) + (5 * 5)) + 4))) S (nI_add ((((b_36 1) * 31) + 1) + (5 * 5)) 4) dX4_push_136 ?_
          refine lv_aload_n zx zb dX4_push_137 rfl (lv_at hl 5 rfl) ?_
          refine lv_iload zx zb dX4_push_138 (lv_at hl 1 rfl) ?_
          refine r_aald (C := RX8) (b := (an 6)) S G 1 3 rfl rfl (k_vp (by decide)) rfl dX4_push_140 ?_
          refine r_get (C := RX8) (T := TX8) (N := 8) (ci := 6) (v := .int (v 57)) S in_X4_push_X8 G 7 rfl rfl 7 (by decide) lk_X4_push_39 rfl dX4_push_141 ?_
          refine r_iast S G 9 rfl (vp_in_nI (by omega) (by decide)) dX4_push_144 (fun H locs G => ?_)
          obtain ⟨g_69, G⟩ : ∃ g_69 : Nat → Nat → Int32, wd X (va_A (rcW X hn an v b g) sz) (va_A (rcW X hn an v b g) sz) s (rcW X hn an v b_36 g_69) H locs := ⟨upG g_68 0 _, G⟩
          refine lv_iinc (v := 6) (lv' := [(4, .int 6), (5, .int (nI ((((b_36 1) * 31) + 1) + (5 * 5)))), (3, .int (nI ((b_36 1) * 31))), (0, .ref (an 7)), (1, .int x1), (2, .ref (an 0))]) zx zb dX4_push_145 hl (k := 1) rfl (by decide) (by decide) rfl (fun ls hl => ?_)
          refine lv_goto (tgt := 50) zx zb dX4_push_148 (by decide) ?_
          have hl := lv_sub hl (l' := [(4, .int 6), (3, .int (nI ((b_36 1) * 31))), (0, .ref (an 7)), (1, .int x1), (2, .ref (an 0))]) [0, 2, 3, 4, 5] rfl
          exact ih50 6 g_69 _ _ _ (by omega) (by omega) G hl
theorem in_X4_pop_X4 : ∀ w ∈ wsX40, w ∈ wsX4_pop := by decide +kernel
theorem lk_X4_pop_15 : Cond.fieldLink RX4 15 "EggSpoons$Past" "size" "I" ∈ wsX4_pop := by decide +kernel
theorem lk_X4_pop_11 : Cond.fieldLink RX4 11 "EggSpoons$Past" "cells" "[I" ∈ wsX4_pop := by decide +kernel
theorem in_X4_pop_X8 : ∀ w ∈ wsX80, w ∈ wsX4_pop := by decide +kernel
theorem lk_X4_pop_25 : Cond.fieldLink RX4 25 "EggSpoons$Runner" "speed" "I" ∈ wsX4_pop := by decide +kernel
theorem lk_X4_pop_30 : Cond.fieldLink RX4 30 "EggSpoons$Runner" "place" "I" ∈ wsX4_pop := by decide +kernel
theorem lk_X4_pop_33 : Cond.fieldLink RX4 33 "EggSpoons$Runner" "drops" "I" ∈ wsX4_pop := by decide +kernel
theorem lk_X4_pop_36 : Cond.fieldLink RX4 36 "EggSpoons$Runner" "waits" "I" ∈ wsX4_pop := by decide +kernel
theorem lk_X4_pop_39 : Cond.fieldLink RX4 39 "EggSpoons$Runner" "homeAt" "I" ∈ wsX4_pop := by decide +kernel
set_option maxHeartbeats 4000000 in
set_option maxRecDepth 100000 in
/-- pop -/
theorem s_pop (l : Launch) (X : EX) (hn : Nat) (an : Nat → Nat) (v : Nat → Int32) (b : Nat → Nat) (g : Nat → Nat → Int32) (hI_b : InR b) (sz : Nat) : Met l yX4_pop wsX4_pop ({ frames := 0, cells := 0, slots := 0, locals := 0 } : Room) (pE X [.ref (an 7), .ref (an 0)] (rcW X hn an v b g) sz) (qI (fun (r : Int32) (u : (Nat → Int32) × (Nat → Nat) × (Nat → Nat → Int32)) => InR u.2.1 ∧ (True)) X (fun (u : (Nat → Int32) × (Nat → Nat) × (Nat → Nat → Int32)) => rcW X hn an u.1 u.2.1 u.2.2) (rcW X hn an v b g) sz) 0 0 (va_A (rcW X hn an v b g) sz) := by
  refine mk_met (B := (va_A (rcW X hn an v b g) sz)) (A := (va_A (rcW X hn an v b g) sz)) (cc := cX4_pop) (maxL := 5) (ret := (some .int)) (by decide) rfl (Nat.le_of_ble_eq_true rfl) k_w k_a (fun p e s m below meth c S zr zlk znm zsz G ls hl => ?_)
  have S : CallFix p m c cX4_pop 5 s _ wsX4_pop RX4 := S
  have zx := S.1
  have zb := S.2.1
  have hl : lv_has ls 5 [(0, .ref (an 7)), (1, .ref (an 0))] := hl
  have hO_b := hI_b
  obtain ⟨hb0_b, hb1_b, hb2_b, hb3_b, hb4_b⟩ := hO_b
  refine lv_aload_n zx zb dX4_pop_0 rfl (lv_at hl 0 rfl) ?_
  refine r_get (C := RX4) (T := TX4) (N := 2) (ci := 2) (v := .int (nI (b 1))) S in_X4_pop_X4 G 8 rfl rfl 1 (by decide) lk_X4_pop_15 rfl dX4_pop_1 ?_
  refine lv_if_gt (tgt := 9) zx zb dX4_pop_4 (by decide) (fun c_1 => ?_) (fun c_1 => ?_)
  · have fc_1 := j_lt (a := 0) (b := (b 1)) (by omega) (by omega) c_1
    refine lv_aload_n zx zb dX4_pop_9 rfl (lv_at hl 0 rfl) ?_
    refine lv_dup zx zb dX4_pop_10 rfl ?_
    refine r_get (C := RX4) (T := TX4) (N := 2) (ci := 2) (v := .int (nI (b 1))) S in_X4_pop_X4 G 8 rfl rfl 1 (by decide) lk_X4_pop_15 rfl dX4_pop_11 ?_
    refine lv_iconst (v := 1) zx zb dX4_pop_14 (by decide) ?_
    refine r_isub (v := (nI ((b 1) - 1))) S (pk_sub (a := (b 1)) (b := 1) (by omega)) dX4_pop_15 ?_
    refine r_put (C := RX4) (T := TX4) (N := 2) (ci := 2) (v := .int (nI ((b 1) - 1))) S in_X4_pop_X4 tyX4_ok nmX4 G 8 rfl rfl 1 (by decide) lk_X4_pop_15 rfl (vp_nar_int _) rfl (Nat.le_of_ble_eq_true rfl) dX4_pop_16 (fun H locs G => ?_)
    obtain ⟨b_2, hI_b_2, ⟨hE_b_2_1, hE_b_2_0, hE_b_2_2, hE_b_2_3, hE_b_2_4⟩, G⟩ : ∃ b_2 : Nat → Nat, InR b_2 ∧ (b_2 1 = ((b 1) - 1) ∧ b_2 0 = b 0 ∧ b_2 2 = b 2 ∧ b_2 3 = b 3 ∧ b_2 4 = b 4) ∧ wd X (va_A (rcW X hn an v b g) sz) (va_A (rcW X hn an v b g) sz) s (rcW X hn an v b_2 g) H locs := ⟨upN b 1 ((b 1) - 1), ⟨hI_b.1, (by show ((b 1) - 1) ≤ 8; omega), hI_b.2.2.1, hI_b.2.2.2.1, hI_b.2.2.2.2⟩, ⟨rfl, rfl, rfl, rfl, rfl⟩, G⟩
    have hO_b_2 := hI_b_2
    obtain ⟨hb0_b_2, hb1_b_2, hb2_b_2, hb3_b_2, hb4_b_2⟩ := hO_b_2
    refine lv_aload_n zx zb dX4_pop_19 rfl (lv_at hl 0 rfl) ?_
    refine r_get (C := RX4) (T := TX4) (N := 2) (ci := 2) (v := .int (nI (b_2 1))) S in_X4_pop_X4 G 8 rfl rfl 1 (by decide) lk_X4_pop_15 rfl dX4_pop_20 ?_
    refine lv_bipush (v := 31) zx zb dX4_pop_23 (by decide) ?_
    refine r_imul (v := (nI ((b_2 1) * 31))) S (pk_mul (b_2 1) 31) dX4_pop_25 ?_
    refine lv_istore_n (lv' := [(2, .int (nI ((b_2 1) * 31))), (0, .ref (an 7)), (1, .ref (an 0))]) zx zb dX4_pop_26 rfl hl (by decide) rfl (fun ls hl => ?_)
    refine lv_iconst (v := 0) zx zb dX4_pop_27 (by decide) ?_
    refine lv_istore_n (lv' := [(3, .int 0), (2, .int (nI ((b_2 1) * 31))), (0, .ref (an 7)), (1, .ref (an 0))]) zx zb dX4_pop_28 rfl hl (by decide) rfl (fun ls hl => ?_)
    refine k_loop (P := ∀ (zm : Nat) (k29 : Nat) (v29_0 : Nat → Int32) (H : Heap) (locs : List Loc) (ls : Array Slot), 6 + 1 ≤ k29 + zm → (k29 ≤ 6) → wd X (va_A (rcW X hn an v b g) sz) (va_A (rcW X hn an v b g) sz) s (rcW X hn an v29_0 b_2 g) H locs → lv_has ls 5 [(3, .int (nI k29)), (2, .int (nI ((b_2 1) * 31))), (0, .ref (an 7)), (1, .ref (an 0))] → W p l e _ s m _ below meth c H locs _ _ _ (F0 m 29 ls [])) (fun loop => loop (6 + 1) 0 v _ _ _ (by omega) (by omega) G hl) ?_
    intro zm
    induction zm with
    | zero => intro k29 v29_0 H locs ls zz q_hk_k29 _ _; exact absurd zz (by omega)
    | succ zm ih29 =>
      intro k29 v29_0 H locs ls zm_29 hk_k29 G hl
      refine lv_iload_n zx zb dX4_pop_29 rfl (lv_at hl 0 rfl) ?_
      refine lv_bipush (v := 6) zx zb dX4_pop_30 (by decide) ?_
      refine lv_icmp_ge (tgt := 123) zx zb dX4_pop_32 (by decide) (fun c_3 => ?_) (fun c_3 => ?_)
      · have fc_3 := j_le (a := 6) (b := k29) (by omega) (by omega) c_3
        refine lv_aload_n zx zb dX4_pop_123 rfl (lv_at hl 2 rfl) ?_
        refine r_get (C := RX4) (T := TX4) (N := 2) (ci := 2) (v := .ref (an 8)) S in_X4_pop_X4 G 8 rfl rfl 0 (by decide) lk_X4_pop_11 rfl dX4_pop_124 ?_
        refine lv_iload_n zx zb dX4_pop_127 rfl (lv_at hl 1 rfl) ?_
        refine r_iald S G 9 rfl (vp_in_nI (by omega) (by decide)) rfl dX4_pop_128 ?_
        refine k_itE (fun y_4 => ?_)
        exact e_int S zr zlk (vp_nar_int _) G (v29_0, b_2, g) [0, 1, 2, 3, 4, 5, 6, 7, 8, 9, 10, 11, 12, 13, 14, 15] rfl rfl (Or.inr rfl) (⟨hI_b_2, trivial⟩) dX4_pop_129
      · have fc_3 := j_nle (a := 6) (b := k29) (by omega) (by omega) c_3
        refine lv_iload_n zx zb dX4_pop_35 rfl (lv_at hl 1 rfl) ?_
        refine lv_iconst (v := 1) zx zb dX4_pop_36 (by decide) ?_
        refine r_iadd (v := (nI (((b_2 1) * 31) + 1))) S (nI_add ((b_2 1) * 31) 1) dX4_pop_37 ?_
        refine lv_iload_n zx zb dX4_pop_38 rfl (lv_at hl 0 rfl) ?_
        refine lv_iconst (v := 5) zx zb dX4_pop_39 (by decide) ?_
        refine r_imul (v := (nI (k29 * 5))) S (pk_mul k29 5) dX4_pop_40 ?_
        refine r_iadd (v := (nI ((((b_2 1) * 31) + 1) + (k29 * 5)))) S (nI_add (((b_2 1) * 31) + 1) (k29 * 5)) dX4_pop_41 ?_
        refine lv_istore (lv' := [(4, .int (nI ((((b_2 1) * 31) + 1) + (k29 * 5)))), (3, .int (nI k29)), (2, .int (nI ((b_2 1) * 31))), (0, .ref (an 7)), (1, .ref (an 0))]) zx zb dX4_pop_42 hl (by decide) rfl (fun ls hl => ?_)
        refine lv_aload_n zx zb dX4_pop_44 rfl (lv_at hl 4 rfl) ?_
        refine lv_iload_n zx zb dX4_pop_45 rfl (lv_at hl 1 rfl) ?_
        rcases k_6c (show k29 < 6 by omega) with rfl | rfl | rfl | rfl | rfl | rfl
        · refine k_it (v := 0) rfl ?_
          refine r_aald (C := RX8) (b := (an 1)) S G 1 3 rfl rfl (k_vp (by decide)) rfl dX4_pop_46 ?_
          refine lv_aload_n zx zb dX4_pop_47 rfl (lv_at hl 3 rfl) ?_
          refine r_get (C := RX4) (T := TX4) (N := 2) (ci := 2) (v := .ref (an 8)) S in_X4_pop_X4 G 8 rfl rfl 0 (by decide) lk_X4_pop_11 rfl dX4_pop_48 ?_
          refine lv_iload zx zb dX4_pop_51 (lv_at hl 0 rfl) ?_
          refine r_iald S G 9 rfl (vp_in_nI (by omega) (by decide)) rfl dX4_pop_53 ?_
          refine k_itE (fun y_5 => ?_)
          refine r_put (C := RX8) (T := TX8) (N := 8) (ci := 6) (v := .int y_5) S in_X4_pop_X8 tyX8_ok nmX8 G 2 rfl rfl 3 (by decide) lk_X4_pop_25 rfl (vp_nar_int _) rfl (Nat.le_of_ble_eq_true rfl) dX4_pop_54 (fun H locs G => ?_)
          obtain ⟨v_6, G⟩ : ∃ v_6 : Nat → Int32, wd X (va_A (rcW X hn an v b g) sz) (va_A (rcW X hn an v b g) sz) s (rcW X hn an v_6 b_2 g) H locs := ⟨upd v29_0 13 y_5, G⟩
          refine lv_aload_n zx zb dX4_pop_57 rfl (lv_at hl 4 rfl) ?_
          refine lv_iload_n zx zb dX4_pop_58 rfl (lv_at hl 1 rfl) ?_
          refine r_aald (C := RX8) (b := (an 1)) S G 1 3 rfl rfl (k_vp (by decide)) rfl dX4_pop_59 ?_
          refine lv_aload_n zx zb dX4_pop_60 rfl (lv_at hl 3 rfl) ?_
          refine r_get (C := RX4) (T := TX4) (N := 2) (ci := 2) (v := .ref (an 8)) S in_X4_pop_X4 G 8 rfl rfl 0 (by decide) lk_X4_pop_11 rfl dX4_pop_61 ?_
          refine lv_iload zx zb dX4_pop_64 (lv_at hl 0 rfl) ?_
          refine lv_iconst (v := 1) zx zb dX4_pop_66 (by decide) ?_
          refine r_iadd (v := (nI (((((b_2 1) * 31) + 1) + (0 * 5)) + 1))) S (nI_add ((((b_2 1) * 31) + 1) + (0 * 5)) 1) dX4_pop_67 ?_
          refine r_iald S G 9 rfl (vp_in_nI (by omega) (by decide)) rfl dX4_pop_68 ?_
          refine k_itE (fun y_7 => ?_)
          refine r_put (C := RX8) (T := TX8) (N := 8) (ci := 6) (v := .int y_7) S in_X4_pop_X8 tyX8_ok nmX8 G 2 rfl rfl 4 (by decide) lk_X4_pop_30 rfl (vp_nar_int _) rfl (Nat.le_of_ble_eq_true rfl) dX4_pop_69 (fun H locs G => ?_)
          obtain ⟨v_8, G⟩ : ∃ v_8 : Nat → Int32, wd X (va_A (rcW X hn an v b g) sz) (va_A (rcW X hn an v b g) sz) s (rcW X hn an v_8 b_2 g) H locs := ⟨upd v_6 14 y_7, G⟩
          refine lv_aload_n zx zb dX4_pop_72 rfl (lv_at hl 4 rfl) ?_
          refine lv_iload_n zx zb dX4_pop_73 rfl (lv_at hl 1 rfl) ?_
          refine r_aald (C := RX8) (b := (an 1)) S G 1 3 rfl rfl (k_vp (by decide)) rfl dX4_pop_74 ?_
          refine lv_aload_n zx zb dX4_pop_75 rfl (lv_at hl 3 rfl) ?_
          refine r_get (C := RX4) (T := TX4) (N := 2) (ci := 2) (v := .ref (an 8)) S in_X4_pop_X4 G 8 rfl rfl 0 (by decide) lk_X4_pop_11 rfl dX4_pop_76 ?_
          refine lv_iload zx zb dX4_pop_79 (lv_at hl 0 rfl) ?_
          refine lv_iconst (v := 2) zx zb dX4_pop_81 (by decide) ?_
          refine r_iadd (v := (nI (((((b_2 1) * 31) + 1) + (0 * 5)) + 2))) S (nI_add ((((b_2 1) * 31) + 1) + (0 * 5)) 2) dX4_pop_82 ?_
          refine r_iald S G 9 rfl (vp_in_nI (by omega) (by decide)) rfl dX4_pop_83 ?_
          refine k_itE (fun y_9 => ?_)
          refine r_put (C := RX8) (T := TX8) (N := 8) (ci := 6) (v := .int y_9) S in_X4_pop_X8 tyX8_ok nmX8 G 2 rfl rfl 5 (by decide) lk_X4_pop_33 rfl (vp_nar_int _) rfl (Nat.le_of_ble_eq_true rfl) dX4_pop_84 (fun H locs G => ?_)
          obtain ⟨v_10, G⟩ : ∃ v_10 : Nat → Int32, wd X (va_A (rcW X hn an v b g) sz) (va_A (rcW X hn an v b g) sz) s (rcW X hn an v_10 b_2 g) H locs := ⟨upd v_8 15 y_9, G⟩
          refine lv_aload_n zx zb dX4_pop_87 rfl (lv_at hl 4 rfl) ?_
          refine lv_iload_n zx zb dX4_pop_88 rfl (lv_at hl 1 rfl) ?_
          refine r_aald (C := RX8) (b := (an 1)) S G 1 3 rfl rfl (k_vp (by decide)) rfl dX4_pop_89 ?_
          refine lv_aload_n zx zb dX4_pop_90 rfl (lv_at hl 3 rfl) ?_
          refine r_get (C := RX4) (T := TX4) (N := 2) (ci := 2) (v := .ref (an 8)) S in_X4_pop_X4 G 8 rfl rfl 0 (by decide) lk_X4_pop_11 rfl dX4_pop_91 ?_
          refine lv_iload zx zb dX4_pop_94 (lv_at hl 0 rfl) ?_
          refine lv_iconst (v := 3) zx zb dX4_pop_96 (by decide) ?_
          refine r_iadd (v := (nI (((((b_2 1) * 31) + 1) + (0 * 5)) + 3))) S (nI_add ((((b_2 1) * 31) + 1) + (0 * 5)) 3) dX4_pop_97 ?_
          refine r_iald S G 9 rfl (vp_in_nI (by omega) (by decide)) rfl dX4_pop_98 ?_
          refine k_itE (fun y_11 => ?_)
          refine r_put (C := RX8) (T := TX8) (N := 8) (ci := 6) (v := .int y_11) S in_X4_pop_X8 tyX8_ok nmX8 G 2 rfl rfl 6 (by decide) lk_X4_pop_36 rfl (vp_nar_int _) rfl (Nat.le_of_ble_eq_true rfl) dX4_pop_99 (fun H locs G => ?_)
          obtain ⟨v_12, G⟩ : ∃ v_12 : Nat → Int32, wd X (va_A (rcW X hn an v b g) sz) (va_A (rcW X hn an v b g) sz) s (rcW X hn an v_12 b_2 g) H locs := ⟨upd v_10 16 y_11, G⟩
          refine lv_aload_n zx zb dX4_pop_102 rfl (lv_at hl 4 rfl) ?_
          refine lv_iload_n zx zb dX4_pop_103 rfl (lv_at hl 1 rfl) ?_
          refine r_aald (C := RX8) (b := (an 1)) S G 1 3 rfl rfl (k_vp (by decide)) rfl dX4_pop_104 ?_
          refine lv_aload_n zx zb dX4_pop_105 rfl (lv_at hl 3 rfl) ?_
          refine r_get (C := RX4) (T := TX4) (N := 2) (ci := 2) (v := .ref (an 8)) S in_X4_pop_X4 G 8 rfl rfl 0 (by decide) lk_X4_pop_11 rfl dX4_pop_106 ?_
          refine lv_iload zx zb dX4_pop_109 (lv_at hl 0 rfl) ?_
          refine lv_iconst (v := 4) zx zb dX4_pop_111 (by decide) ?_
          refine r_iadd (v := (nI (((((b_2 1) * 31) + 1) + (0 * 5)) + 4))) S (nI_add ((((b_2 1) * 31) + 1) + (0 * 5)) 4) dX4_pop_112 ?_
          refine r_iald S G 9 rfl (vp_in_nI (by omega) (by decide)) rfl dX4_pop_113 ?_
          refine k_itE (fun y_13 => ?_)
          refine r_put (C := RX8) (T := TX8) (N := 8) (ci := 6) (v := .int y_13) S in_X4_pop_X8 tyX8_ok nmX8 G 2 rfl rfl 7 (by decide) lk_X4_pop_39 rfl (vp_nar_int _) rfl (Nat.le_of_ble_eq_true rfl) dX4_pop_114 (fun H locs G => ?_)
          obtain ⟨v_14, G⟩ : ∃ v_14 : Nat → Int32, wd X (va_A (rcW X hn an v b g) sz) (va_A (rcW X hn an v b g) sz) s (rcW X hn an v_14 b_2 g) H locs := ⟨upd v_12 17 y_13, G⟩
          refine lv_iinc (v := 1) (lv' := [(3, .int 1), (4, .int (nI ((((b_2 1) * 31) + 1) + (0 * 5)))), (2, .int (nI ((b_2 1) * 31))), (0, .ref (an 7)), (1, .ref (an 0))]) zx zb dX4_pop_117 hl (k := 1) rfl (by decide) (by decide) rfl (fun ls hl => ?_)
          refine lv_goto (tgt := 29) zx zb dX4_pop_120 (by decide) ?_
          have hl := lv_sub hl (l' := [(3, .int 1), (2, .int (nI ((b_2 1) * 31))), (0, .ref (an 7)), (1, .ref (an 0))]) [0, 2, 3, 4] rfl
          exact ih29 1 v_14 _ _ _ (by omega) (by omega) G hl
        · refine k_it (v := 1) rfl ?_
          refine r_aald (C := RX8) (b := (an 2)) S G 1 3 rfl rfl (k_vp (by decide)) rfl dX4_pop_46 ?_
          refine lv_aload_n zx zb dX4_pop_47 rfl (lv_at hl 3 rfl) ?_
          refine r_get (C := RX4) (T := TX4) (N := 2) (ci := 2) (v := .ref (an 8)) S in_X4_pop_X4 G 8 rfl rfl 0 (by decide) lk_X4_pop_11 rfl dX4_pop_48 ?_
          refine lv_iload zx zb dX4_pop_51 (lv_at hl 0 rfl) ?_
          refine r_iald S G 9 rfl (vp_in_nI (by omega) (by decide)) rfl dX4_pop_53 ?_
          refine k_itE (fun y_15 => ?_)
          refine r_put (C := RX8) (T := TX8) (N := 8) (ci := 6) (v := .int y_15) S in_X4_pop_X8 tyX8_ok nmX8 G 3 rfl rfl 3 (by decide) lk_X4_pop_25 rfl (vp_nar_int _) rfl (Nat.le_of_ble_eq_true rfl) dX4_pop_54 (fun H locs G => ?_)
          obtain ⟨v_16, G⟩ : ∃ v_16 : Nat → Int32, wd X (va_A (rcW X hn an v b g) sz) (va_A (rcW X hn an v b g) sz) s (rcW X hn an v_16 b_2 g) H locs := ⟨upd v29_0 21 y_15, G⟩
          refine lv_aload_n zx zb dX4_pop_57 rfl (lv_at hl 4 rfl) ?_
          refine lv_iload_n zx zb dX4_pop_58 rfl (lv_at hl 1 rfl) ?_
          refine r_aald (C := RX8) (b := (an 2)) S G 1 3 rfl rfl (k_vp (by decide)) rfl dX4_pop_59 ?_
          refine lv_aload_n zx zb dX4_pop_60 rfl (lv_at hl 3 rfl) ?_
          refine r_get (C := RX4) (T := TX4) (N := 2) (ci := 2) (v := .ref (an 8)) S in_X4_pop_X4 G 8 rfl rfl 0 (by decide) lk_X4_pop_11 rfl dX4_pop_61 ?_
          refine lv_iload zx zb dX4_pop_64 (lv_at hl 0 rfl) ?_
          refine lv_iconst (v := 1) zx zb dX4_pop_66 (by decide) ?_
          refine r_iadd (v := (nI (((((b_2 1) * 31) + 1) + (1 * 5)) + 1))) S (nI_add ((((b_2 1) * 31) + 1) + (1 * 5)) 1) dX4_pop_67 ?_
          refine r_iald S G 9 rfl (vp_in_nI (by omega) (by decide)) rfl dX4_pop_68 ?_
          refine k_itE (fun y_17 => ?_)
          refine r_put (C := RX8) (T := TX8) (N := 8) (ci := 6) (v := .int y_17) S in_X4_pop_X8 tyX8_ok nmX8 G 3 rfl rfl 4 (by decide) lk_X4_pop_30 rfl (vp_nar_int _) rfl (Nat.le_of_ble_eq_true rfl) dX4_pop_69 (fun H locs G => ?_)
          obtain ⟨v_18, G⟩ : ∃ v_18 : Nat → Int32, wd X (va_A (rcW X hn an v b g) sz) (va_A (rcW X hn an v b g) sz) s (rcW X hn an v_18 b_2 g) H locs := ⟨upd v_16 22 y_17, G⟩
          refine lv_aload_n zx zb dX4_pop_72 rfl (lv_at hl 4 rfl) ?_
          refine lv_iload_n zx zb dX4_pop_73 rfl (lv_at hl 1 rfl) ?_
          refine r_aald (C := RX8) (b := (an 2)) S G 1 3 rfl rfl (k_vp (by decide)) rfl dX4_pop_74 ?_
          refine lv_aload_n zx zb dX4_pop_75 rfl (lv_at hl 3 rfl) ?_
          refine r_get (C := RX4) (T := TX4) (N := 2) (ci := 2) (v := .ref (an 8)) S in_X4_pop_X4 G 8 rfl rfl 0 (by decide) lk_X4_pop_11 rfl dX4_pop_76 ?_
          refine lv_iload zx zb dX4_pop_79 (lv_at hl 0 rfl) ?_
          refine lv_iconst (v := 2) zx zb dX4_pop_81 (by decide) ?_
          refine r_iadd (v := (nI (((((b_2 1) * 31) + 1) + (1 * 5)) + 2))) S (nI_add ((((b_2 1) * 31) + 1) + (1 * 5)) 2) dX4_pop_82 ?_
          refine r_iald S G 9 rfl (vp_in_nI (by omega) (by decide)) rfl dX4_pop_83 ?_
          refine k_itE (fun y_19 => ?_)
          refine r_put (C := RX8) (T := TX8) (N := 8) (ci := 6) (v := .int y_19) S in_X4_pop_X8 tyX8_ok nmX8 G 3 rfl rfl 5 (by decide) lk_X4_pop_33 rfl (vp_nar_int _) rfl (Nat.le_of_ble_eq_true rfl) dX4_pop_84 (fun H locs G => ?_)
          obtain ⟨v_20, G⟩ : ∃ v_20 : Nat → Int32, wd X (va_A (rcW X hn an v b g) sz) (va_A (rcW X hn an v b g) sz) s (rcW X hn an v_20 b_2 g) H locs := ⟨upd v_18 23 y_19, G⟩
          refine lv_aload_n zx zb dX4_pop_87 rfl (lv_at hl 4 rfl) ?_
          refine lv_iload_n zx zb dX4_pop_88 rfl (lv_at hl 1 rfl) ?_
          refine r_aald (C := RX8) (b := (an 2)) S G 1 3 rfl rfl (k_vp (by decide)) rfl dX4_pop_89 ?_
          refine lv_aload_n zx zb dX4_pop_90 rfl (lv_at hl 3 rfl) ?_
          refine r_get (C := RX4) (T := TX4) (N := 2) (ci := 2) (v := .ref (an 8)) S in_X4_pop_X4 G 8 rfl rfl 0 (by decide) lk_X4_pop_11 rfl dX4_pop_91 ?_
          refine lv_iload zx zb dX4_pop_94 (lv_at hl 0 rfl) ?_
          refine lv_iconst (v := 3) zx zb dX4_pop_96 (by decide) ?_
          refine r_iadd (v := (nI (((((b_2 1) * 31) + 1) + (1 * 5)) + 3))) S (nI_add ((((b_2 1) * 31) + 1) + (1 * 5)) 3) dX4_pop_97 ?_
          refine r_iald S G 9 rfl (vp_in_nI (by omega) (by decide)) rfl dX4_pop_98 ?_
          refine k_itE (fun y_21 => ?_)
          refine r_put (C := RX8) (T := TX8) (N := 8) (ci := 6) (v := .int y_21) S in_X4_pop_X8 tyX8_ok nmX8 G 3 rfl rfl 6 (by decide) lk_X4_pop_36 rfl (vp_nar_int _) rfl (Nat.le_of_ble_eq_true rfl) dX4_pop_99 (fun H locs G => ?_)
          obtain ⟨v_22, G⟩ : ∃ v_22 : Nat → Int32, wd X (va_A (rcW X hn an v b g) sz) (va_A (rcW X hn an v b g) sz) s (rcW X hn an v_22 b_2 g) H locs := ⟨upd v_20 24 y_21, G⟩
          refine lv_aload_n zx zb dX4_pop_102 rfl (lv_at hl 4 rfl) ?_
          refine lv_iload_n zx zb dX4_pop_103 rfl (lv_at hl 1 rfl) ?_
          refine r_aald (C := RX8) (b := (an 2)) S G 1 3 rfl rfl (k_vp (by decide)) rfl dX4_pop_104 ?_
          refine lv_aload_n zx zb dX4_pop_105 rfl (lv_at hl 3 rfl) ?_
          refine r_get (C := RX4) (T := TX4) (N := 2) (ci := 2) (v := .ref (an 8)) S in_X4_pop_X4 G 8 rfl rfl 0 (by decide) lk_X4_pop_11 rfl dX4_pop_106 ?_
          refine lv_iload zx zb dX4_pop_109 (lv_at hl 0 rfl) ?_
          refine lv_iconst (v := 4) zx zb dX4_pop_111 (by decide) ?_
          refine r_iadd (v := (nI (((((b_2 1) * 31) + 1) + (1 * 5)) + 4))) S (nI_add ((((b_2 1) * 31) + 1) + (1 * 5)) 4) dX4_pop_112 ?_
          refine r_iald S G 9 rfl (vp_in_nI (by omega) (by decide)) rfl dX4_pop_113 ?_
          refine k_itE (fun y_23 => ?_)
          refine r_put (C := RX8) (T := TX8) (N := 8) (ci := 6) (v := .int y_23) S in_X4_pop_X8 tyX8_ok nmX8 G 3 rfl rfl 7 (by decide) lk_X4_pop_39 rfl (vp_nar_int _) rfl (Nat.le_of_ble_eq_true rfl) dX4_pop_114 (fun H locs G => ?_)
          obtain ⟨v_24, G⟩ : ∃ v_24 : Nat → Int32, wd X (va_A (rcW X hn an v b g) sz) (va_A (rcW X hn an v b g) sz) s (rcW X hn an v_24 b_2 g) H locs := ⟨upd v_22 25 y_23, G⟩
          refine lv_iinc (v := 2) (lv' := [(3, .int 2), (4, .int (nI ((((b_2 1) * 31) + 1) + (1 * 5)))), (2, .int (nI ((b_2 1) * 31))), (0, .ref (an 7)), (1, .ref (an 0))]) zx zb dX4_pop_117 hl (k := 1) rfl (by decide) (by decide) rfl (fun ls hl => ?_)
          refine lv_goto (tgt := 29) zx zb dX4_pop_120 (by decide) ?_
          have hl := lv_sub hl (l' := [(3, .int 2), (2, .int (nI ((b_2 1) * 31))), (0, .ref (an 7)), (1, .ref (an 0))]) [0, 2, 3, 4] rfl
          exact ih29 2 v_24 _ _ _ (by omega) (by omega) G hl
        · refine k_it (v := 2) rfl ?_
          refine r_aald (C := RX8) (b := (an 3)) S G 1 3 rfl rfl (k_vp (by decide)) rfl dX4_pop_46 ?_
          refine lv_aload_n zx zb dX4_pop_47 rfl (lv_at hl 3 rfl) ?_
          refine r_get (C := RX4) (T := TX4) (N := 2) (ci := 2) (v := .ref (an 8)) S in_X4_pop_X4 G 8 rfl rfl 0 (by decide) lk_X4_pop_11 rfl dX4_pop_48 ?_
          refine lv_iload zx zb dX4_pop_51 (lv_at hl 0 rfl) ?_
          refine r_iald S G 9 rfl (vp_in_nI (by omega) (by decide)) rfl dX4_pop_53 ?_
          refine k_itE (fun y_25 => ?_)
          refine r_put (C := RX8) (T := TX8) (N := 8) (ci := 6) (v := .int y_25) S in_X4_pop_X8 tyX8_ok nmX8 G 4 rfl rfl 3 (by decide) lk_X4_pop_25 rfl (vp_nar_int _) rfl (Nat.le_of_ble_eq_true rfl) dX4_pop_54 (fun H locs G => ?_)
          obtain ⟨v_26, G⟩ : ∃ v_26 : Nat → Int32, wd X (va_A (rcW X hn an v b g) sz) (va_A (rcW X hn an v b g) sz) s (rcW X hn an v_26 b_2 g) H locs := ⟨upd v29_0 29 y_25, G⟩
          refine lv_aload_n zx zb dX4_pop_57 rfl (lv_at hl 4 rfl) ?_
          refine lv_iload_n zx zb dX4_pop_58 rfl (lv_at hl 1 rfl) ?_
          refine r_aald (C := RX8) (b := (an 3)) S G 1 3 rfl rfl (k_vp (by decide)) rfl dX4_pop_59 ?_
          refine lv_aload_n zx zb dX4_pop_60 rfl (lv_at hl 3 rfl) ?_
          refine r_get (C := RX4) (T := TX4) (N := 2) (ci := 2) (v := .ref (an 8)) S in_X4_pop_X4 G 8 rfl rfl 0 (by decide) lk_X4_pop_11 rfl dX4_pop_61 ?_
          refine lv_iload zx zb dX4_pop_64 (lv_at hl 0 rfl) ?_
          refine lv_iconst (v := 1) zx zb dX4_pop_66 (by decide) ?_
          refine r_iadd (v := (nI (((((b_2 1) * 31) + 1) + (2 * 5)) + 1))) S (nI_add ((((b_2 1) * 31) + 1) + (2 * 5)) 1) dX4_pop_67 ?_
          refine r_iald S G 9 rfl (vp_in_nI (by omega) (by decide)) rfl dX4_pop_68 ?_
          refine k_itE (fun y_27 => ?_)
          refine r_put (C := RX8) (T := TX8) (N := 8) (ci := 6) (v := .int y_27) S in_X4_pop_X8 tyX8_ok nmX8 G 4 rfl rfl 4 (by decide) lk_X4_pop_30 rfl (vp_nar_int _) rfl (Nat.le_of_ble_eq_true rfl) dX4_pop_69 (fun H locs G => ?_)
          obtain ⟨v_28, G⟩ : ∃ v_28 : Nat → Int32, wd X (va_A (rcW X hn an v b g) sz) (va_A (rcW X hn an v b g) sz) s (rcW X hn an v_28 b_2 g) H locs := ⟨upd v_26 30 y_27, G⟩
          refine lv_aload_n zx zb dX4_pop_72 rfl (lv_at hl 4 rfl) ?_
          refine lv_iload_n zx zb dX4_pop_73 rfl (lv_at hl 1 rfl) ?_
          refine r_aald (C := RX8) (b := (an 3)) S G 1 3 rfl rfl (k_vp (by decide)) rfl dX4_pop_74 ?_
          refine lv_aload_n zx zb dX4_pop_75 rfl (lv_at hl 3 rfl) ?_
          refine r_get (C := RX4) (T := TX4) (N := 2) (ci := 2) (v := .ref (an 8)) S in_X4_pop_X4 G 8 rfl rfl 0 (by decide) lk_X4_pop_11 rfl dX4_pop_76 ?_
          refine lv_iload zx zb dX4_pop_79 (lv_at hl 0 rfl) ?_
          refine lv_iconst (v := 2) zx zb dX4_pop_81 (by decide) ?_
          refine r_iadd (v := (nI (((((b_2 1) * 31) + 1) + (2 * 5)) + 2))) S (nI_add ((((b_2 1) * 31) + 1) + (2 * 5)) 2) dX4_pop_82 ?_
          refine r_iald S G 9 rfl (vp_in_nI (by omega) (by decide)) rfl dX4_pop_83 ?_
          refine k_itE (fun y_29 => ?_)
          refine r_put (C := RX8) (T := TX8) (N := 8) (ci := 6) (v := .int y_29) S in_X4_pop_X8 tyX8_ok nmX8 G 4 rfl rfl 5 (by decide) lk_X4_pop_33 rfl (vp_nar_int _) rfl (Nat.le_of_ble_eq_true rfl) dX4_pop_84 (fun H locs G => ?_)
          obtain ⟨v_30, G⟩ : ∃ v_30 : Nat → Int32, wd X (va_A (rcW X hn an v b g) sz) (va_A (rcW X hn an v b g) sz) s (rcW X hn an v_30 b_2 g) H locs := ⟨upd v_28 31 y_29, G⟩
          refine lv_aload_n zx zb dX4_pop_87 rfl (lv_at hl 4 rfl) ?_
          refine lv_iload_n zx zb dX4_pop_88 rfl (lv_at hl 1 rfl) ?_
          refine r_aald (C := RX8) (b := (an 3)) S G 1 3 rfl rfl (k_vp (by decide)) rfl dX4_pop_89 ?_
          refine lv_aload_n zx zb dX4_pop_90 rfl (lv_at hl 3 rfl) ?_
          refine r_get (C := RX4) (T := TX4) (N := 2) (ci := 2) (v := .ref (an 8)) S in_X4_pop_X4 G 8 rfl rfl 0 (by decide) lk_X4_pop_11 rfl dX4_pop_91 ?_
          refine lv_iload zx zb dX4_pop_94 (lv_at hl 0 rfl) ?_
          refine lv_iconst (v := 3) zx zb dX4_pop_96 (by decide) ?_
          refine r_iadd (v := (nI (((((b_2 1) * 31) + 1) + (2 * 5)) + 3))) S (nI_add ((((b_2 1) * 31) + 1) + (2 * 5)) 3) dX4_pop_97 ?_
          refine r_iald S G 9 rfl (vp_in_nI (by omega) (by decide)) rfl dX4_pop_98 ?_
          refine k_itE (fun y_31 => ?_)
          refine r_put (C := RX8) (T := TX8) (N := 8) (ci := 6) (v := .int y_31) S in_X4_pop_X8 tyX8_ok nmX8 G 4 rfl rfl 6 (by decide) lk_X4_pop_36 rfl (vp_nar_int _) rfl (Nat.le_of_ble_eq_true rfl) dX4_pop_99 (fun H locs G => ?_)
          obtain ⟨v_32, G⟩ : ∃ v_32 : Nat → Int32, wd X (va_A (rcW X hn an v b g) sz) (va_A (rcW X hn an v b g) sz) s (rcW X hn an v_32 b_2 g) H locs := ⟨upd v_30 32 y_31, G⟩
          refine lv_aload_n zx zb dX4_pop_102 rfl (lv_at hl 4 rfl) ?_
          refine lv_iload_n zx zb dX4_pop_103 rfl (lv_at hl 1 rfl) ?_
          refine r_aald (C := RX8) (b := (an 3)) S G 1 3 rfl rfl (k_vp (by decide)) rfl dX4_pop_104 ?_
          refine lv_aload_n zx zb dX4_pop_105 rfl (lv_at hl 3 rfl) ?_
          refine r_get (C := RX4) (T := TX4) (N := 2) (ci := 2) (v := .ref (an 8)) S in_X4_pop_X4 G 8 rfl rfl 0 (by decide) lk_X4_pop_11 rfl dX4_pop_106 ?_
          refine lv_iload zx zb dX4_pop_109 (lv_at hl 0 rfl) ?_
          refine lv_iconst (v := 4) zx zb dX4_pop_111 (by decide) ?_
          refine r_iadd (v := (nI (((((b_2 1) * 31) + 1) + (2 * 5)) + 4))) S (nI_add ((((b_2 1) * 31) + 1) + (2 * 5)) 4) dX4_pop_112 ?_
          refine r_iald S G 9 rfl (vp_in_nI (by omega) (by decide)) rfl dX4_pop_113 ?_
          refine k_itE (fun y_33 => ?_)
          refine r_put (C := RX8) (T := TX8) (N := 8) (ci := 6) (v := .int y_33) S in_X4_pop_X8 tyX8_ok nmX8 G 4 rfl rfl 7 (by decide) lk_X4_pop_39 rfl (vp_nar_int _) rfl (Nat.le_of_ble_eq_true rfl) dX4_pop_114 (fun H locs G => ?_)
          obtain ⟨v_34, G⟩ : ∃ v_34 : Nat → Int32, wd X (va_A (rcW X hn an v b g) sz) (va_A (rcW X hn an v b g) sz) s (rcW X hn an v_34 b_2 g) H locs := ⟨upd v_32 33 y_33, G⟩
          refine lv_iinc (v := 3) (lv' := [(3, .int 3), (4, .int (nI ((((b_2 1) * 31) + 1) + (2 * 5)))), (2, .int (nI ((b_2 1) * 31))), (0, .ref (an 7)), (1, .ref (an 0))]) zx zb dX4_pop_117 hl (k := 1) rfl (by decide) (by decide) rfl (fun ls hl => ?_)
          refine lv_goto (tgt := 29) zx zb dX4_pop_120 (by decide) ?_
          have hl := lv_sub hl (l' := [(3, .int 3), (2, .int (nI ((b_2 1) * 31))), (0, .ref (an 7)), (1, .ref (an 0))]) [0, 2, 3, 4] rfl
          exact ih29 3 v_34 _ _ _ (by omega) (by omega) G hl
        · refine k_it (v := 3) rfl ?_
          refine r_aald (C := RX8) (b := (an 4)) S G 1 3 rfl rfl (k_vp (by decide)) rfl dX4_pop_46 ?_
          refine lv_aload_n zx zb dX4_pop_47 rfl (lv_at hl 3 rfl) ?_
          refine r_get (C := RX4) (T := TX4) (N := 2) (ci := 2) (v := .ref (an 8)) S in_X4_pop_X4 G 8 rfl rfl 0 (by decide) lk_X4_pop_11 rfl dX4_pop_48 ?_
          refine lv_iload zx zb dX4_pop_51 (lv_at hl 0 rfl) ?_
          refine r_iald S G 9 rfl (vp_in_nI (by omega) (by decide)) rfl dX4_pop_53 ?_
          refine k_itE (fun y_35 => ?_)
          refine r_put (C := RX8) (T := TX8) (N := 8) (ci := 6) (v := .int y_35) S in_X4_pop_X8 tyX8_ok nmX8 G 5 rfl rfl 3 (by decide) lk_X4_pop_25 rfl (vp_nar_int _) rfl (Nat.le_of_ble_eq_true rfl) dX4_pop_54 (fun H locs G => ?_)
          obtain ⟨v_36, G⟩ : ∃ v_36 : Nat → Int32, wd X (va_A (rcW X hn an v b g) sz) (va_A (rcW X hn an v b g) sz) s (rcW X hn an v_36 b_2 g) H locs := ⟨upd v29_0 37 y_35, G⟩
          refine lv_aload_n zx zb dX4_pop_57 rfl (lv_at hl 4 rfl) ?_
          refine lv_iload_n zx zb dX4_pop_58 rfl (lv_at hl 1 rfl) ?_
          refine r_aald (C := RX8) (b := (an 4)) S G 1 3 rfl rfl (k_vp (by decide)) rfl dX4_pop_59 ?_
          refine lv_aload_n zx zb dX4_pop_60 rfl (lv_at hl 3 rfl) ?_
          refine r_get (C := RX4) (T := TX4) (N := 2) (ci := 2) (v := .ref (an 8)) S in_X4_pop_X4 G 8 rfl rfl 0 (by decide) lk_X4_pop_11 rfl dX4_pop_61 ?_
          refine lv_iload zx zb dX4_pop_64 (lv_at hl 0 rfl) ?_
          refine lv_iconst (v := 1) zx zb dX4_pop_66 (by decide) ?_
          refine r_iadd (v := (nI (((((b_2 1) * 31) + 1) + (3 * 5)) + 1))) S (nI_add ((((b_2 1) * 31) + 1) + (3 * 5)) 1) dX4_pop_67 ?_
          refine r_iald S G 9 rfl (vp_in_nI (by omega) (by decide)) rfl dX4_pop_68 ?_
          refine k_itE (fun y_37 => ?_)
          refine r_put (C := RX8) (T := TX8) (N := 8) (ci := 6) (v := .int y_37) S in_X4_pop_X8 tyX8_ok nmX8 G 5 rfl rfl 4 (by decide) lk_X4_pop_30 rfl (vp_nar_int _) rfl (Nat.le_of_ble_eq_true rfl) dX4_pop_69 (fun H locs G => ?_)
          obtain ⟨v_38, G⟩ : ∃ v_38 : Nat → Int32, wd X (va_A (rcW X hn an v b g) sz) (va_A (rcW X hn an v b g) sz) s (rcW X hn an v_38 b_2 g) H locs := ⟨upd v_36 38 y_37, G⟩
          refine lv_aload_n zx zb dX4_pop_72 rfl (lv_at hl 4 rfl) ?_
          refine lv_iload_n zx zb dX4_pop_73 rfl (lv_at hl 1 rfl) ?_
          refine r_aald (C := RX8) (b := (an 4)) S G 1 3 rfl rfl (k_vp (by decide)) rfl dX4_pop_74 ?_
          refine lv_aload_n zx zb dX4_pop_75 rfl (lv_at hl 3 rfl) ?_
          refine r_get (C := RX4) (T := TX4) (N := 2) (ci := 2) (v := .ref (an 8)) S in_X4_pop_X4 G 8 rfl rfl 0 (by decide) lk_X4_pop_11 rfl dX4_pop_76 ?_
          refine lv_iload zx zb dX4_pop_79 (lv_at hl 0 rfl) ?_
          refine lv_iconst (v := 2) zx zb dX4_pop_81 (by decide) ?_
          refine r_iadd (v := (nI (((((b_2 1) * 31) + 1) + (3 * 5)) + 2))) S (nI_add ((((b_2 1) * 31) + 1) + (3 * 5)) 2) dX4_pop_82 ?_
          refine r_iald S G 9 rfl (vp_in_nI (by omega) (by decide)) rfl dX4_pop_83 ?_
          refine k_itE (fun y_39 => ?_)
          refine r_put (C := RX8) (T := TX8) (N := 8) (ci := 6) (v := .int y_39) S in_X4_pop_X8 tyX8_ok nmX8 G 5 rfl rfl 5 (by decide) lk_X4_pop_33 rfl (vp_nar_int _) rfl (Nat.le_of_ble_eq_true rfl) dX4_pop_84 (fun H locs G => ?_)
          obtain ⟨v_40, G⟩ : ∃ v_40 : Nat → Int32, wd X (va_A (rcW X hn an v b g) sz) (va_A (rcW X hn an v b g) sz) s (rcW X hn an v_40 b_2 g) H locs := ⟨upd v_38 39 y_39, G⟩
          refine lv_aload_n zx zb dX4_pop_87 rfl (lv_at hl 4 rfl) ?_
          refine lv_iload_n zx zb dX4_pop_88 rfl (lv_at hl 1 rfl) ?_
          refine r_aald (C := RX8) (b := (an 4)) S G 1 3 rfl rfl (k_vp (by decide)) rfl dX4_pop_89 ?_
          refine lv_aload_n zx zb dX4_pop_90 rfl (lv_at hl 3 rfl) ?_
          refine r_get (C := RX4) (T := TX4) (N := 2) (ci := 2) (v := .ref (an 8)) S in_X4_pop_X4 G 8 rfl rfl 0 (by decide) lk_X4_pop_11 rfl dX4_pop_91 ?_
          refine lv_iload zx zb dX4_pop_94 (lv_at hl 0 rfl) ?_
          refine lv_iconst (v := 3) zx zb dX4_pop_96 (by decide) ?_
          refine r_iadd (v := (nI (((((b_2 1) * 31) + 1) + (3 * 5)) + 3))) S (nI_add ((((b_2 1) * 31) + 1) + (3 * 5)) 3) dX4_pop_97 ?_
          refine r_iald S G 9 rfl (vp_in_nI (by omega) (by decide)) rfl dX4_pop_98 ?_
          refine k_itE (fun y_41 => ?_)
          refine r_put (C := RX8) (T := TX8) (N := 8) (ci := 6) (v := .int y_41) S in_X4_pop_X8 tyX8_ok nmX8 G 5 rfl rfl 6 (by decide) lk_X4_pop_36 rfl (vp_nar_int _) rfl (Nat.le_of_ble_eq_true rfl) dX4_pop_99 (fun H locs G => ?_)
          obtain ⟨v_42, G⟩ : ∃ v_42 : Nat → Int32, wd X (va_A (rcW X hn an v b g) sz) (va_A (rcW X hn an v b g) sz) s (rcW X hn an v_42 b_2 g) H locs := ⟨upd v_40 40 y_41, G⟩
          refine lv_aload_n zx zb dX4_pop_102 rfl (lv_at hl 4 rfl) ?_
          refine lv_iload_n zx zb dX4_pop_103 rfl (lv_at hl 1 rfl) ?_
          refine r_aald (C := RX8) (b := (an 4)) S G 1 3 rfl rfl (k_vp (by decide)) rfl dX4_pop_104 ?_
          refine lv_aload_n zx zb dX4_pop_105 rfl (lv_at hl 3 rfl) ?_
          refine r_get (C := RX4) (T := TX4) (N := 2) (ci := 2) (v := .ref (an 8)) S in_X4_pop_X4 G 8 rfl rfl 0 (by decide) lk_X4_pop_11 rfl dX4_pop_106 ?_
          refine lv_iload zx zb dX4_pop_109 (lv_at hl 0 rfl) ?_
          refine lv_iconst (v := 4) zx zb dX4_pop_111 (by decide) ?_
          refine r_iadd (v := (nI (((((b_2 1) * 31) + 1) + (3 * 5)) + 4))) S (nI_add ((((b_2 1) * 31) + 1) + (3 * 5)) 4) dX4_pop_112 ?_
          refine r_iald S G 9 rfl (vp_in_nI (by omega) (by decide)) rfl dX4_pop_113 ?_
          refine k_itE (fun y_43 => ?_)
          refine r_put (C := RX8) (T := TX8) (N := 8) (ci := 6) (v := .int y_43) S in_X4_pop_X8 tyX8_ok nmX8 G 5 rfl rfl 7 (by decide) lk_X4_pop_39 rfl (vp_nar_int _) rfl (Nat.le_of_ble_eq_true rfl) dX4_pop_114 (fun H locs G => ?_)
          obtain ⟨v_44, G⟩ : ∃ v_44 : Nat → Int32, wd X (va_A (rcW X hn an v b g) sz) (va_A (rcW X hn an v b g) sz) s (rcW X hn an v_44 b_2 g) H locs := ⟨upd v_42 41 y_43, G⟩
          refine lv_iinc (v := 4) (lv' := [(3, .int 4), (4, .int (nI ((((b_2 1) * 31) + 1) + (3 * 5)))), (2, .int (nI ((b_2 1) * 31))), (0, .ref (an 7)), (1, .ref (an 0))]) zx zb dX4_pop_117 hl (k := 1) rfl (by decide) (by decide) rfl (fun ls hl => ?_)
          refine lv_goto (tgt := 29) zx zb dX4_pop_120 (by decide) ?_
          have hl := lv_sub hl (l' := [(3, .int 4), (2, .int (nI ((b_2 1) * 31))), (0, .ref (an 7)), (1, .ref (an 0))]) [0, 2, 3, 4] rfl
          exact ih29 4 v_44 _ _ _ (by omega) (by omega) G hl
        · refine k_it (v := 4) rfl ?_
          refine r_aald (C := RX8) (b := (an 5)) S G 1 3 rfl rfl (k_vp (by decide)) rfl dX4_pop_46 ?_
          refine lv_aload_n zx zb dX4_pop_47 rfl (lv_at hl 3 rfl) ?_
          refine r_get (C := RX4) (T := TX4) (N := 2) (ci := 2) (v := .ref (an 8)) S in_X4_pop_X4 G 8 rfl rfl 0 (by decide) lk_X4_pop_11 rfl dX4_pop_48 ?_
          refine lv_iload zx zb dX4_pop_51 (lv_at hl 0 rfl) ?_
          refine r_iald S G 9 rfl (vp_in_nI (by omega) (by decide)) rfl dX4_pop_53 ?_
          refine k_itE (fun y_45 => ?_)
          refine r_put (C := RX8) (T := TX8) (N := 8) (ci := 6) (v := .int y_45) S in_X4_pop_X8 tyX8_ok nmX8 G 6 rfl rfl 3 (by decide) lk_X4_pop_25 rfl (vp_nar_int _) rfl (Nat.le_of_ble_eq_true rfl) dX4_pop_54 (fun H locs G => ?_)
          obtain ⟨v_46, G⟩ : ∃ v_46 : Nat → Int32, wd X (va_A (rcW X hn an v b g) sz) (va_A (rcW X hn an v b g) sz) s (rcW X hn an v_46 b_2 g) H locs := ⟨upd v29_0 45 y_45, G⟩
          refine lv_aload_n zx zb dX4_pop_57 rfl (lv_at hl 4 rfl) ?_
          refine lv_iload_n zx zb dX4_pop_58 rfl (lv_at hl 1 rfl) ?_
          refine r_aald (C := RX8) (b := (an 5)) S G 1 3 rfl rfl (k_vp (by decide)) rfl dX4_pop_59 ?_
          refine lv_aload_n zx zb dX4_pop_60 rfl (lv_at hl 3 rfl) ?_
          refine r_get (C := RX4) (T := TX4) (N := 2) (ci := 2) (v := .ref (an 8)) S in_X4_pop_X4 G 8 rfl rfl 0 (by decide) lk_X4_pop_11 rfl dX4_pop_61 ?_
          refine lv_iload zx zb dX4_pop_64 (lv_at hl 0 rfl) ?_
          refine lv_iconst (v := 1) zx zb dX4_pop_66 (by decide) ?_
          refine r_iadd (v := (nI (((((b_2 1) * 31) + 1) + (4 * 5)) + 1))) S (nI_add ((((b_2 1) * 31) + 1) + (4 * 5)) 1) dX4_pop_67 ?_
          refine r_iald S G 9 rfl (vp_in_nI (by omega) (by decide)) rfl dX4_pop_68 ?_
          refine k_itE (fun y_47 => ?_)
          refine r_put (C := RX8) (T := TX8) (N := 8) (ci := 6) (v := .int y_47) S in_X4_pop_X8 tyX8_ok nmX8 G 6 rfl rfl 4 (by decide) lk_X4_pop_30 rfl (vp_nar_int _) rfl (Nat.le_of_ble_eq_true rfl) dX4_pop_69 (fun H locs G => ?_)
          obtain ⟨v_48, G⟩ : ∃ v_48 : Nat → Int32, wd X (va_A (rcW X hn an v b g) sz) (va_A (rcW X hn an v b g) sz) s (rcW X hn an v_48 b_2 g) H locs := ⟨upd v_46 46 y_47, G⟩
          refine lv_aload_n zx zb dX4_pop_72 rfl (lv_at hl 4 rfl) ?_
          refine lv_iload_n zx zb dX4_pop_73 rfl (lv_at hl 1 rfl) ?_
          refine r_aald (C := RX8) (b := (an 5)) S G 1 3 rfl rfl (k_vp (by decide)) rfl dX4_pop_74 ?_
          refine lv_aload_n zx zb dX4_pop_75 rfl (lv_at hl 3 rfl) ?_
          refine r_get (C := RX4) (T := TX4) (N := 2) (ci := 2) (v := .ref (an 8)) S in_X4_pop_X4 G 8 rfl rfl 0 (by decide) lk_X4_pop_11 rfl dX4_pop_76 ?_
          refine lv_iload zx zb dX4_pop_79 (lv_at hl 0 rfl) ?_
          refine lv_iconst (v := 2) zx zb dX4_pop_81 (by decide) ?_
          refine r_iadd (v := (nI (((((b_2 1) * 31) + 1) + (4 * 5)) + 2))) S (nI_add ((((b_2 1) * 31) + 1) + (4 * 5)) 2) dX4_pop_82 ?_
          refine r_iald S G 9 rfl (vp_in_nI (by omega) (by decide)) rfl dX4_pop_83 ?_
          refine k_itE (fun y_49 => ?_)
          refine r_put (C := RX8) (T := TX8) (N := 8) (ci := 6) (v := .int y_49) S in_X4_pop_X8 tyX8_ok nmX8 G 6 rfl rfl 5 (by decide) lk_X4_pop_33 rfl (vp_nar_int _) rfl (Nat.le_of_ble_eq_true rfl) dX4_pop_84 (fun H locs G => ?_)
          obtain ⟨v_50, G⟩ : ∃ v_50 : Nat → Int32, wd X (va_A (rcW X hn an v b g) sz) (va_A (rcW X hn an v b g) sz) s (rcW X hn an v_50 b_2 g) H locs := ⟨upd v_48 47 y_49, G⟩
          refine lv_aload_n zx zb dX4_pop_87 rfl (lv_at hl 4 rfl) ?_
          refine lv_iload_n zx zb dX4_pop_88 rfl (lv_at hl 1 rfl) ?_
          refine r_aald (C := RX8) (b := (an 5)) S G 1 3 rfl rfl (k_vp (by decide)) rfl dX4_pop_89 ?_
          refine lv_aload_n zx zb dX4_pop_90 rfl (lv_at hl 3 rfl) ?_
          refine r_get (C := RX4) (T := TX4) (N := 2) (ci := 2) (v := .ref (an 8)) S in_X4_pop_X4 G 8 rfl rfl 0 (by decide) lk_X4_pop_11 rfl dX4_pop_91 ?_
          refine lv_iload zx zb dX4_pop_94 (lv_at hl 0 rfl) ?_
          refine lv_iconst (v := 3) zx zb dX4_pop_96 (by decide) ?_
          refine r_iadd (v := (nI (((((b_2 1) * 31) + 1) + (4 * 5)) + 3))) S (nI_add ((((b_2 1) * 31) + 1) + (4 * 5)) 3) dX4_pop_97 ?_
          refine r_iald S G 9 rfl (vp_in_nI (by omega) (by decide)) rfl dX4_pop_98 ?_
          refine k_itE (fun y_51 => ?_)
          refine r_put (C := RX8) (T := TX8) (N := 8) (ci := 6) (v := .int y_51) S in_X4_pop_X8 tyX8_ok nmX8 G 6 rfl rfl 6 (by decide) lk_X4_pop_36 rfl (vp_nar_int _) rfl (Nat.le_of_ble_eq_true rfl) dX4_pop_99 (fun H locs G => ?_)
          obtain ⟨v_52, G⟩ : ∃ v_52 : Nat → Int32, wd X (va_A (rcW X hn an v b g) sz) (va_A (rcW X hn an v b g) sz) s (rcW X hn an v_52 b_2 g) H locs := ⟨upd v_50 48 y_51, G⟩
          refine lv_aload_n zx zb dX4_pop_102 rfl (lv_at hl 4 rfl) ?_
          refine lv_iload_n zx zb dX4_pop_103 rfl (lv_at hl 1 rfl) ?_
          refine r_aald (C := RX8) (b := (an 5)) S G 1 3 rfl rfl (k_vp (by decide)) rfl dX4_pop_104 ?_
          refine lv_aload_n zx zb dX4_pop_105 rfl (lv_at hl 3 rfl) ?_
          refine r_get (C := RX4) (T := TX4) (N := 2) (ci := 2) (v := .ref (an 8)) S in_X4_pop_X4 G 8 rfl rfl 0 (by decide) lk_X4_pop_11 rfl dX4_pop_106 ?_
          refine lv_iload zx zb dX4_pop_109 (lv_at hl 0 rfl) ?_
          refine lv_iconst (v := 4) zx zb dX4_pop_111 (by decide) ?_
          refine r_iadd (v := (nI (((((b_2 1) * 31) + 1) + (4 * 5)) + 4))) S (nI_add ((((b_2 1) * 31) + 1) + (4 * 5)) 4) dX4_pop_112 ?_
          refine r_iald S G 9 rfl (vp_in_nI (by omega) (by decide)) rfl dX4_pop_113 ?_
          refine k_itE (fun y_53 => ?_)
          refine r_put (C := RX8) (T := TX8) (N := 8) (ci := 6) (v := .int y_53) S in_X4_pop_X8 tyX8_ok nmX8 G 6 rfl rfl 7 (by decide) lk_X4_pop_39 rfl (vp_nar_int _) rfl (Nat.le_of_ble_eq_true rfl) dX4_pop_114 (fun H locs G => ?_)
          obtain ⟨v_54, G⟩ : ∃ v_54 : Nat → Int32, wd X (va_A (rcW X hn an v b g) sz) (va_A (rcW X hn an v b g) sz) s (rcW X hn an v_54 b_2 g) H locs := ⟨upd v_52 49 y_53, G⟩
          refine lv_iinc (v := 5) (lv' := [(3, .int 5), (4, .int (nI ((((b_2 1) * 31) + 1) + (4 * 5)))), (2, .int (nI ((b_2 1) * 31))), (0, .ref (an 7)), (1, .ref (an 0))]) zx zb dX4_pop_117 hl (k := 1) rfl (by decide) (by decide) rfl (fun ls hl => ?_)
          refine lv_goto (tgt := 29) zx zb dX4_pop_120 (by decide) ?_
          have hl := lv_sub hl (l' := [(3, .int 5), (2, .int (nI ((b_2 1) * 31))), (0, .ref (an 7)), (1, .ref (an 0))]) [0, 2, 3, 4] rfl
          exact ih29 5 v_54 _ _ _ (by omega) (by omega) G hl
        · refine k_it (v := 5) rfl ?_
          refine r_aald (C := RX8) (b := (an 6)) S G 1 3 rfl rfl (k_vp (by decide)) rfl dX4_pop_46 ?_
          refine lv_aload_n zx zb dX4_pop_47 rfl (lv_at hl 3 rfl) ?_
          refine r_get (C := RX4) (T := TX4) (N := 2) (ci := 2) (v := .ref (an 8)) S in_X4_pop_X4 G 8 rfl rfl 0 (by decide) lk_X4_pop_11 rfl dX4_pop_48 ?_
          refine lv_iload zx zb dX4_pop_51 (lv_at hl 0 rfl) ?_
          refine r_iald S G 9 rfl (vp_in_nI (by omega) (by decide)) rfl dX4_pop_53 ?_
          refine k_itE (fun y_55 => ?_)
          refine r_put (C := RX8) (T := TX8) (N := 8) (ci := 6) (v := .int y_55) S in_X4_pop_X8 tyX8_ok nmX8 G 7 rfl rfl 3 (by decide) lk_X4_pop_25 rfl (vp_nar_int _) rfl (Nat.le_of_ble_eq_true rfl) dX4_pop_54 (fun H locs G => ?_)
          obtain ⟨v_56, G⟩ : ∃ v_56 : Nat → Int32, wd X (va_A (rcW X hn an v b g) sz) (va_A (rcW X hn an v b g) sz) s (rcW X hn an v_56 b_2 g) H locs := ⟨upd v29_0 53 y_55, G⟩
          refine lv_aload_n zx zb dX4_pop_57 rfl (lv_at hl 4 rfl) ?_
          refine lv_iload_n zx zb dX4_pop_58 rfl (lv_at hl 1 rfl) ?_
          refine r_aald (C := RX8) (b := (an 6)) S G 1 3 rfl rfl (k_vp (by decide)) rfl dX4_pop_59 ?_
          refine lv_aload_n zx zb dX4_pop_60 rfl (lv_at hl 3 rfl) ?_
          refine r_get (C := RX4) (T := TX4) (N := 2) (ci := 2) (v := .ref (an 8)) S in_X4_pop_X4 G 8 rfl rfl 0 (by decide) lk_X4_pop_11 rfl dX4_pop_61 ?_
          refine lv_iload zx zb dX4_pop_64 (lv_at hl 0 rfl) ?_
          refine lv_iconst (v := 1) zx zb dX4_pop_66 (by decide) ?_
          refine r_iadd (v := (nI (((((b_2 1) * 31) + 1) + (5 * 5)) + 1))) S (nI_add ((((b_2 1) * 31) + 1) + (5 * 5)) 1) dX4_pop_67 ?_
          refine r_iald S G 9 rfl (vp_in_nI (by omega) (by decide)) rfl dX4_pop_68 ?_
          refine k_itE (fun y_57 => ?_)
          refine r_put (C := RX8) (T := TX8) (N := 8) (ci := 6) (v := .int y_57) S in_X4_pop_X8 tyX8_ok nmX8 G 7 rfl rfl 4 (by decide) lk_X4_pop_30 rfl (vp_nar_int _) rfl (Nat.le_of_ble_eq_true rfl) dX4_pop_69 (fun H locs G => ?_)
          obtain ⟨v_58, G⟩ : ∃ v_58 : Nat → Int32, wd X (va_A (rcW X hn an v b g) sz) (va_A (rcW X hn an v b g) sz) s (rcW X hn an v_58 b_2 g) H locs := ⟨upd v_56 54 y_57, G⟩
          refine lv_aload_n zx zb dX4_pop_72 rfl (lv_at hl 4 rfl) ?_
          refine lv_iload_n zx zb dX4_pop_73 rfl (lv_at hl 1 rfl) ?_
          refine r_aald (C := RX8) (b := (an 6)) S G 1 3 rfl rfl (k_vp (by decide)) rfl dX4_pop_74 ?_
          refine lv_aload_n zx zb dX4_pop_75 rfl (lv_at hl 3 rfl) ?_
          refine r_get (C := RX4) (T := TX4) (N := 2) (ci := 2) (v := .ref (an 8)) S in_X4_pop_X4 G 8 rfl rfl 0 (by decide) lk_X4_pop_11 rfl dX4_pop_76 ?_
          refine lv_iload zx zb dX4_pop_79 (lv_at hl 0 rfl) ?_
          refine lv_iconst (v := 2) zx zb dX4_pop_81 (by decide) ?_
          refine r_iadd (v := (nI (((((b_2 1) * 31) + 1) + (5 * 5)) + 2))) S (nI_add ((((b_2 1) * 31) + 1) + (5 * 5)) 2) dX4_pop_82 ?_
          refine r_iald S G 9 rfl (vp_in_nI (by omega) (by decide)) rfl dX4_pop_83 ?_
          refine k_itE (fun y_59 => ?_)
          refine r_put (C := RX8) (T := TX8) (N := 8) (ci := 6) (v := .int y_59) S in_X4_pop_X8 tyX8_ok nmX8 G 7 rfl rfl 5 (by decide) lk_X4_pop_33 rfl (vp_nar_int _) rfl (Nat.le_of_ble_eq_true rfl) dX4_pop_84 (fun H locs G => ?_)
          obtain ⟨v_60, G⟩ : ∃ v_60 : Nat → Int32, wd X (va_A (rcW X hn an v b g) sz) (va_A (rcW X hn an v b g) sz) s (rcW X hn an v_60 b_2 g) H locs := ⟨upd v_58 55 y_59, G⟩
          refine lv_aload_n zx zb dX4_pop_87 rfl (lv_at hl 4 rfl) ?_
          refine lv_iload_n zx zb dX4_pop_88 rfl (lv_at hl 1 rfl) ?_
          refine r_aald (C := RX8) (b := (an 6)) S G 1 3 rfl rfl (k_vp (by decide)) rfl dX4_pop_89 ?_
          refine lv_aload_n zx zb dX4_pop_90 rfl (lv_at hl 3 rfl) ?_
          refine r_get (C := RX4) (T := TX4) (N := 2) (ci := 2) (v := .ref (an 8)) S in_X4_pop_X4 G 8 rfl rfl 0 (by decide) lk_X4_pop_11 rfl dX4_pop_91 ?_
          refine lv_iload zx zb dX4_pop_94 (lv_at hl 0 rfl) ?_
          refine lv_iconst (v := 3) zx zb dX4_pop_96 (by decide) ?_
          refine r_iadd (v := (nI (((((b_2 1) * 31) + 1) + (5 * 5)) + 3))) S (nI_add ((((b_2 1) * 31) + 1) + (5 * 5)) 3) dX4_pop_97 ?_
          refine r_iald S G 9 rfl (vp_in_nI (by omega) (by decide)) rfl dX4_pop_98 ?_
          refine k_itE (fun y_61 => ?_)
          refine r_put (C := RX8) (T := TX8) (N := 8) (ci := 6) (v := .int y_61) S in_X4_pop_X8 tyX8_ok nmX8 G 7 rfl rfl 6 (by decide) lk_X4_pop_36 rfl (vp_nar_int _) rfl (Nat.le_of_ble_eq_true rfl) dX4_pop_99 (fun H locs G => ?_)
          obtain ⟨v_62, G⟩ : ∃ v_62 : Nat → Int32, wd X (va_A (rcW X hn an v b g) sz) (va_A (rcW X hn an v b g) sz) s (rcW X hn an v_62 b_2 g) H locs := ⟨upd v_60 56 y_61, G⟩
          refine lv_aload_n zx zb dX4_pop_102 rfl (lv_at hl 4 rfl) ?_
          refine lv_iload_n zx zb dX4_pop_103 rfl (lv_at hl 1 rfl) ?_
          refine r_aald (C := RX8) (b := (an 6)) S G 1 3 rfl rfl (k_vp (by decide)) rfl dX4_pop_104 ?_
          refine lv_aload_n zx zb dX4_pop_105 rfl (lv_at hl 3 rfl) ?_
          refine r_get (C := RX4) (T := TX4) (N := 2) (ci := 2) (v := .ref (an 8)) S in_X4_pop_X4 G 8 rfl rfl 0 (by decide) lk_X4_pop_11 rfl dX4_pop_106 ?_
          refine lv_iload zx zb dX4_pop_109 (lv_at hl 0 rfl) ?_
          refine lv_iconst (v := 4) zx zb dX4_pop_111 (by decide) ?_
          refine r_iadd (v := (nI (((((b_2 1) * 31) + 1) + (5 * 5)) + 4))) S (nI_add ((((b_2 1) * 31) + 1) + (5 * 5)) 4) dX4_pop_112 ?_
          refine r_iald S G 9 rfl (vp_in_nI (by omega) (by decide)) rfl dX4_pop_113 ?_
          refine k_itE (fun y_63 => ?_)
          refine r_put (C := RX8) (T := TX8) (N := 8) (ci := 6) (v := .int y_63) S in_X4_pop_X8 tyX8_ok nmX8 G 7 rfl rfl 7 (by decide) lk_X4_pop_39 rfl (vp_nar_int _) rfl (Nat.le_of_ble_eq_true rfl) dX4_pop_114 (fun H locs G => ?_)
          obtain ⟨v_64, G⟩ : ∃ v_64 : Nat → Int32, wd X (va_A (rcW X hn an v b g) sz) (va_A (rcW X hn an v b g) sz) s (rcW X hn an v_64 b_2 g) H locs := ⟨upd v_62 57 y_63, G⟩
          refine lv_iinc (v := 6) (lv' := [(3, .int 6), (4, .int (nI ((((b_2 1) * 31) + 1) + (5 * 5)))), (2, .int (nI ((b_2 1) * 31))), (0, .ref (an 7)), (1, .ref (an 0))]) zx zb dX4_pop_117 hl (k := 1) rfl (by decide) (by decide) rfl (fun ls hl => ?_)
          refine lv_goto (tgt := 29) zx zb dX4_pop_120 (by decide) ?_
          have hl := lv_sub hl (l' := [(3, .int 6), (2, .int (nI ((b_2 1) * 31))), (0, .ref (an 7)), (1, .ref (an 0))]) [0, 2, 3, 4] rfl
          exact ih29 6 v_64 _ _ _ (by omega) (by omega) G hl
  · have fc_1 := j_nlt (a := 0) (b := (b 1)) (by omega) (by omega) c_1
    refine lv_iconst (v := (-1)) zx zb dX4_pop_7 (by decide) ?_
    exact e_int S zr zlk (vp_nar_int _) G (v, b, g) [0, 1, 2, 3, 4, 5, 6, 7, 8, 9, 10, 11, 12, 13, 14, 15] rfl rfl (Or.inr rfl) (⟨hI_b, trivial⟩) dX4_pop_8
theorem in_X5_keep_X5 : ∀ w ∈ wsX50, w ∈ wsX5_keep := by decide +kernel
theorem lk_X5_keep_30 : Cond.fieldLink RX5 30 "EggSpoons$Race" "past" "LEggSpoons$Past;" ∈ wsX5_keep := by decide +kernel
theorem lk_X5_keep_15 : Cond.fieldLink RX5 15 "EggSpoons$Race" "tick" "I" ∈ wsX5_keep := by decide +kernel
theorem lk_X5_keep_23 : Cond.fieldLink RX5 23 "EggSpoons$Race" "row" "[LEggSpoons$Runner;" ∈ wsX5_keep := by decide +kernel
theorem hdV_X4_push : yX4_push.cls = RX4 ∧ yX4_push.cls ≠ "java/lang/invoke/MethodHandle" ∧ yX4_push.cls ≠ "java/lang/invoke/VarHandle" ∧ (parseMethodDescriptor yX4_push.desc).map (fun d => d.parameters.length) = some 2 := by decide +kernel
set_option maxHeartbeats 4000000 in
set_option maxRecDepth 100000 in
/-- keep -/
theorem s_keep (l : Launch) (X : EX) (hn : Nat) (an : Nat → Nat) (v : Nat → Int32) (b : Nat → Nat) (g : Nat → Nat → Int32) (hI_b : InR b) (sz : Nat) : Met l yX5_keep wsX5_keep ({ frames := 2, cells := 0, slots := 0, locals := 85 } : Room) (pE X [.ref hn] (rcW X hn an v b g) sz) (qV (fun (u : (Nat → Int32) × (Nat → Nat) × (Nat → Nat → Int32)) => InR u.2.1 ∧ (True)) X (fun (u : (Nat → Int32) × (Nat → Nat) × (Nat → Nat → Int32)) => rcW X hn an u.1 u.2.1 u.2.2) (rcW X hn an v b g) sz) 0 0 (va_A (rcW X hn an v b g) sz) := by
  refine mk_met (B := (va_A (rcW X hn an v b g) sz)) (A := (va_A (rcW X hn an v b g) sz)) (cc := cX5_keep) (maxL := 1) (ret := none) (by decide) rfl (Nat.le_of_ble_eq_true rfl) k_w k_a (fun p e s m below meth c S zr zlk znm zsz G ls hl => ?_)
  have S : CallFix p m c cX5_keep 1 s _ wsX5_keep RX5 := S
  have zx := S.1
  have zb := S.2.1
  have hl : lv_has ls 1 [(0, .ref hn)] := hl
  have hO_b := hI_b
  obtain ⟨hb0_b, hb1_b, hb2_b, hb3_b, hb4_b⟩ := hO_b
  refine lv_aload_n zx zb dX5_keep_0 rfl (lv_at hl 0 rfl) ?_
  refine r_get (C := RX5) (T := TX5) (N := 8) (ci := 3) (v := .ref (an 7)) S in_X5_keep_X5 G 0 rfl rfl 4 (by decide) lk_X5_keep_30 rfl dX5_keep_1 ?_
  refine lv_aload_n zx zb dX5_keep_4 rfl (lv_at hl 0 rfl) ?_
  refine r_get (C := RX5) (T := TX5) (N := 8) (ci := 3) (v := .int (v 1)) S in_X5_keep_X5 G 0 rfl rfl 1 (by decide) lk_X5_keep_15 rfl dX5_keep_5 ?_
  refine lv_aload_n zx zb dX5_keep_8 rfl (lv_at hl 0 rfl) ?_
  refine r_get (C := RX5) (T := TX5) (N := 8) (ci := 3) (v := .ref (an 0)) S in_X5_keep_X5 G 0 rfl rfl 3 (by decide) lk_X5_keep_23 rfl dX5_keep_9 ?_
  refine b_wv (cells' := 0) (slots' := 0) (wr := []) G rfl rfl [0, 1, 2, 3, 4, 5, 6, 7, 8, 9, 10, 11, 12, 13, 14, 15] [] rfl rfl rfl rfl (n_V (As := [.int (v 1), .ref (an 0)]) (rest := []) (C := RX4) (T := TX4) (N := 2) (ci := 2) S G (s_push l X hn an v b g (v 1) hI_b s.heap.size) gX5_keep_X4_push rfl rfl rfl hdV_X4_push ⟨Nat.le_of_ble_eq_true rfl, Nat.le_of_ble_eq_true rfl⟩ [0, 1, 2, 3, 4, 5, 6, 7, 8, 9, 10, 11, 12, 13, 14, 15] rfl rfl 8 rfl rfl rfl hl.1 (Nat.le_of_ble_eq_true rfl) dX5_keep_12 ⟨Nat.le_of_ble_eq_true rfl, Nat.le_of_ble_eq_true rfl⟩) (fun u_1 H locs hp_1 G => ?_)
  obtain ⟨v_1a, b_1b, g_1c⟩ := u_1
  obtain ⟨hI_b_1b, hq_1⟩ := hp_1
  have hO_b_1b := hI_b_1b
  obtain ⟨hb0_b_1b, hb1_b_1b, hb2_b_1b, hb3_b_1b, hb4_b_1b⟩ := hO_b_1b
  have G : wd X (va_A (rcW X hn an v b g) sz) (va_A (rcW X hn an v b g) sz) s (rcW X hn an v_1a b_1b g_1c) H locs := G
  exact e_void S zr zlk G (v_1a, b_1b, g_1c) [0, 1, 2, 3, 4, 5, 6, 7, 8, 9, 10, 11, 12, 13, 14, 15] rfl rfl (Or.inr rfl) (⟨hI_b_1b, trivial⟩) dX5_keep_15
theorem in_X5_takeBack_X5 : ∀ w ∈ wsX50, w ∈ wsX5_takeBack := by decide +kernel
theorem lk_X5_takeBack_30 : Cond.fieldLink RX5 30 "EggSpoons$Race" "past" "LEggSpoons$Past;" ∈ wsX5_takeBack := by decide +kernel
theorem lk_X5_takeBack_23 : Cond.fieldLink RX5 23 "EggSpoons$Race" "row" "[LEggSpoons$Runner;" ∈ wsX5_takeBack := by decide +kernel
theorem hdV_X4_pop : yX4_pop.cls = RX4 ∧ yX4_pop.cls ≠ "java/lang/invoke/MethodHandle" ∧ yX4_pop.cls ≠ "java/lang/invoke/VarHandle" ∧ (parseMethodDescriptor yX4_pop.desc).map (fun d => d.parameters.length) = some 1 := by decide +kernel
theorem lk_X5_takeBack_15 : Cond.fieldLink RX5 15 "EggSpoons$Race" "tick" "I" ∈ wsX5_takeBack := by decide +kernel
set_option maxHeartbeats 4000000 in
set_option maxRecDepth 100000 in
/-- takeBack -/
theorem s_takeBack (l : Launch) (X : EX) (hn : Nat) (an : Nat → Nat) (v : Nat → Int32) (b : Nat → Nat) (g : Nat → Nat → Int32) (hI_b : InR b) (sz : Nat) : Met l yX5_takeBack wsX5_takeBack ({ frames := 1, cells := 0, slots := 0, locals := 24 } : Room) (pE X [.ref hn] (rcW X hn an v b g) sz) (qI (fun (r : Int32) (u : (Nat → Int32) × (Nat → Nat) × (Nat → Nat → Int32)) => InR u.2.1 ∧ (r = 0 ∨ r = 1)) X (fun (u : (Nat → Int32) × (Nat → Nat) × (Nat → Nat → Int32)) => rcW X hn an u.1 u.2.1 u.2.2) (rcW X hn an v b g) sz) 0 0 (va_A (rcW X hn an v b g) sz) := by
  refine mk_met (B := (va_A (rcW X hn an v b g) sz)) (A := (va_A (rcW X hn an v b g) sz)) (cc := cX5_takeBack) (maxL := 2) (ret := (some .boolean)) (by decide) rfl (Nat.le_of_ble_eq_true rfl) k_w k_a (fun p e s m below meth c S zr zlk znm zsz G ls hl => ?_)
  have S : CallFix p m c cX5_takeBack 2 s _ wsX5_takeBack RX5 := S
  have zx := S.1
  have zb := S.2.1
  have hl : lv_has ls 2 [(0, .ref hn)] := hl
  have hO_b := hI_b
  obtain ⟨hb0_b, hb1_b, hb2_b, hb3_b, hb4_b⟩ := hO_b
  refine lv_aload_n zx zb dX5_takeBack_0 rfl (lv_at hl 0 rfl) ?_
  refine r_get (C := RX5) (T := TX5) (N := 8) (ci := 3) (v := .ref (an 7)) S in_X5_takeBack_X5 G 0 rfl rfl 4 (by decide) lk_X5_takeBack_30 rfl dX5_takeBack_1 ?_
  refine lv_aload_n zx zb dX5_takeBack_4 rfl (lv_at hl 0 rfl) ?_
  refine r_get (C := RX5) (T := TX5) (N := 8) (ci := 3) (v := .ref (an 0)) S in_X5_takeBack_X5 G 0 rfl rfl 3 (by decide) lk_X5_takeBack_23 rfl dX5_takeBack_5 ?_
  refine b_wi (cells' := 0) (slots' := 0) (wr := []) G rfl rfl [0, 1, 2, 3, 4, 5, 6, 7, 8, 9, 10, 11, 12, 13, 14, 15] [] rfl rfl rfl rfl (n_V (As := [.ref (an 0)]) (rest := []) (C := RX4) (T := TX4) (N := 2) (ci := 2) S G (s_pop l X hn an v b g hI_b s.heap.size) gX5_takeBack_X4_pop rfl rfl rfl hdV_X4_pop ⟨Nat.le_of_ble_eq_true rfl, Nat.le_of_ble_eq_true rfl⟩ [0, 1, 2, 3, 4, 5, 6, 7, 8, 9, 10, 11, 12, 13, 14, 15] rfl rfl 8 rfl rfl rfl hl.1 (Nat.le_of_ble_eq_true rfl) dX5_takeBack_8 ⟨Nat.le_of_ble_eq_true rfl, Nat.le_of_ble_eq_true rfl⟩) (fun r_1 u_1 H locs hp_1 G => ?_)
  obtain ⟨v_1a, b_1b, g_1c⟩ := u_1
  obtain ⟨hI_b_1b, hq_1⟩ := hp_1
  have hO_b_1b := hI_b_1b
  obtain ⟨hb0_b_1b, hb1_b_1b, hb2_b_1b, hb3_b_1b, hb4_b_1b⟩ := hO_b_1b
  have G : wd X (va_A (rcW X hn an v b g) sz) (va_A (rcW X hn an v b g) sz) s (rcW X hn an v_1a b_1b g_1c) H locs := G
  refine lv_istore_n (lv' := [(1, .int r_1), (0, .ref hn)]) zx zb dX5_takeBack_11 rfl hl (by decide) rfl (fun ls hl => ?_)
  refine lv_iload_n zx zb dX5_takeBack_12 rfl (lv_at hl 0 rfl) ?_
  refine lv_iconst (v := (-1)) zx zb dX5_takeBack_13 (by decide) ?_
  refine lv_icmp_ne (tgt := 19) zx zb dX5_takeBack_14 (by decide) (fun c_2 => ?_) (fun c_2 => ?_)
  · refine lv_aload_n zx zb dX5_takeBack_19 rfl (lv_at hl 1 rfl) ?_
    refine lv_iload_n zx zb dX5_takeBack_20 rfl (lv_at hl 0 rfl) ?_
    refine r_put (C := RX5) (T := TX5) (N := 8) (ci := 3) (v := .int r_1) S in_X5_takeBack_X5 tyX5_ok nmX5 G 0 rfl rfl 1 (by decide) lk_X5_takeBack_15 rfl (vp_nar_int _) rfl (Nat.le_of_ble_eq_true rfl) dX5_takeBack_21 (fun H locs G => ?_)
    obtain ⟨v_3, G⟩ : ∃ v_3 : Nat → Int32, wd X (va_A (rcW X hn an v b g) sz) (va_A (rcW X hn an v b g) sz) s (rcW X hn an v_3 b_1b g_1c) H locs := ⟨upd v_1a 1 r_1, G⟩
    refine lv_iconst (v := 1) zx zb dX5_takeBack_24 (by decide) ?_
    exact e_int S zr zlk (by decide) G (v_3, b_1b, g_1c) [0, 1, 2, 3, 4, 5, 6, 7, 8, 9, 10, 11, 12, 13, 14, 15] rfl rfl (Or.inr rfl) (⟨hI_b_1b, by first | exact Or.inl rfl | exact Or.inr rfl⟩) dX5_takeBack_25
  · refine lv_iconst (v := 0) zx zb dX5_takeBack_17 (by decide) ?_
    exact e_int S zr zlk (by decide) G (v_1a, b_1b, g_1c) [0, 1, 2, 3, 4, 5, 6, 7, 8, 9, 10, 11, 12, 13, 14, 15] rfl rfl (Or.inr rfl) (⟨hI_b_1b, by first | exact Or.inl rfl | exact Or.inr rfl⟩) dX5_takeBack_18
theorem in_X5_restart_X5 : ∀ w ∈ wsX50, w ∈ wsX5_restart := by decide +kernel
theorem lk_X5_restart_9 : Cond.fieldLink RX5 9 "EggSpoons$Race" "length" "I" ∈ wsX5_restart := by decide +kernel
theorem lk_X5_restart_15 : Cond.fieldLink RX5 15 "EggSpoons$Race" "tick" "I" ∈ wsX5_restart := by decide +kernel
theorem lk_X5_restart_18 : Cond.fieldLink RX5 18 "EggSpoons$Race" "runners" "I" ∈ wsX5_restart := by decide +kernel
theorem lk_X5_restart_30 : Cond.fieldLink RX5 30 "EggSpoons$Race" "past" "LEggSpoons$Past;" ∈ wsX5_restart := by decide +kernel
theorem in_X5_restart_X4 : ∀ w ∈ wsX40, w ∈ wsX5_restart := by decide +kernel
theorem lk_X5_restart_50 : Cond.fieldLink RX5 50 "EggSpoons$Past" "size" "I" ∈ wsX5_restart := by decide +kernel
theorem lk_X5_restart_39 : Cond.fieldLink RX5 39 "EggSpoons$Race" "seenRows" "LEggSpoons$Rows;" ∈ wsX5_restart := by decide +kernel
theorem in_X5_restart_X7 : ∀ w ∈ wsX70, w ∈ wsX5_restart := by decide +kernel
theorem lk_X5_restart_53 : Cond.fieldLink RX5 53 "EggSpoons$Rows" "size" "I" ∈ wsX5_restart := by decide +kernel
theorem lk_X5_restart_43 : Cond.fieldLink RX5 43 "EggSpoons$Race" "noteRows" "LEggSpoons$Rows;" ∈ wsX5_restart := by decide +kernel
theorem lk_X5_restart_46 : Cond.fieldLink RX5 46 "EggSpoons$Race" "markRows" "LEggSpoons$Rows;" ∈ wsX5_restart := by decide +kernel
set_option maxHeartbeats 4000000 in
set_option maxRecDepth 100000 in
/-- restart -/
theorem s_restart (l : Launch) (X : EX) (hn : Nat) (an : Nat → Nat) (v : Nat → Int32) (b : Nat → Nat) (g : Nat → Nat → Int32) (x1 : Int32) (hI_b : InR b) (sz : Nat) : Met l yX5_restart wsX5_restart ({ frames := 0, cells := 0, slots := 0, locals := 0 } : Room) (pE X [.ref hn, .int x1] (rcW X hn an v b g) sz) (qV (fun (u : (Nat → Int32) × (Nat → Nat) × (Nat → Nat → Int32)) => InR u.2.1 ∧ (True)) X (fun (u : (Nat → Int32) × (Nat → Nat) × (Nat → Nat → Int32)) => rcW X hn an u.1 u.2.1 u.2.2) (rcW X hn an v b g) sz) 0 0 (va_A (rcW X hn an v b g) sz) := by
  refine mk_met (B := (va_A (rcW X hn an v b g) sz)) (A := (va_A (rcW X hn an v b g) sz)) (cc := cX5_restart) (maxL := 2) (ret := none) (by decide) rfl (Nat.le_of_ble_eq_true rfl) k_w k_a (fun p e s m below meth c S zr zlk znm zsz G ls hl => ?_)
  have S : CallFix p m c cX5_restart 2 s _ wsX5_restart RX5 := S
  have zx := S.1
  have zb := S.2.1
  have hl : lv_has ls 2 [(0, .ref hn), (1, .int x1)] := hl
  have hO_b := hI_b
  obtain ⟨hb0_b, hb1_b, hb2_b, hb3_b, hb4_b⟩ := hO_b
  refine lv_aload_n zx zb dX5_restart_0 rfl (lv_at hl 0 rfl) ?_
  refine lv_iload_n zx zb dX5_restart_1 rfl (lv_at hl 1 rfl) ?_
  refine r_put (C := RX5) (T := TX5) (N := 8) (ci := 3) (v := .int x1) S in_X5_restart_X5 tyX5_ok nmX5 G 0 rfl rfl 0 (by decide) lk_X5_restart_9 rfl (vp_nar_int _) rfl (Nat.le_of_ble_eq_true rfl) dX5_restart_2 (fun H locs G => ?_)
  obtain ⟨v_1, G⟩ : ∃ v_1 : Nat → Int32, wd X (va_A (rcW X hn an v b g) sz) (va_A (rcW X hn an v b g) sz) s (rcW X hn an v_1 b g) H locs := ⟨upd v 0 x1, G⟩
  refine lv_aload_n zx zb dX5_restart_5 rfl (lv_at hl 0 rfl) ?_
  refine lv_iconst (v := 0) zx zb dX5_restart_6 (by decide) ?_
  refine r_put (C := RX5) (T := TX5) (N := 8) (ci := 3) (v := .int 0) S in_X5_restart_X5 tyX5_ok nmX5 G 0 rfl rfl 1 (by decide) lk_X5_restart_15 rfl (vp_nar_int _) rfl (Nat.le_of_ble_eq_true rfl) dX5_restart_7 (fun H locs G => ?_)
  obtain ⟨v_2, G⟩ : ∃ v_2 : Nat → Int32, wd X (va_A (rcW X hn an v b g) sz) (va_A (rcW X hn an v b g) sz) s (rcW X hn an v_2 b g) H locs := ⟨upd v_1 1 0, G⟩
  refine lv_aload_n zx zb dX5_restart_10 rfl (lv_at hl 0 rfl) ?_
  refine lv_iconst (v := 0) zx zb dX5_restart_11 (by decide) ?_
  refine r_put (C := RX5) (T := TX5) (N := 8) (ci := 3) (v := .int 0) S in_X5_restart_X5 tyX5_ok nmX5 G 0 rfl rfl 2 (by decide) lk_X5_restart_18 rfl (vp_nar_int _) rfl (Nat.le_of_ble_eq_true rfl) dX5_restart_12 (fun H locs G => ?_)
  obtain ⟨b_3, hI_b_3, ⟨hE_b_3_0, hE_b_3_1, hE_b_3_2, hE_b_3_3, hE_b_3_4⟩, G⟩ : ∃ b_3 : Nat → Nat, InR b_3 ∧ (b_3 0 = 0 ∧ b_3 1 = b 1 ∧ b_3 2 = b 2 ∧ b_3 3 = b 3 ∧ b_3 4 = b 4) ∧ wd X (va_A (rcW X hn an v b g) sz) (va_A (rcW X hn an v b g) sz) s (rcW X hn an v_2 b_3 g) H locs := ⟨upN b 0 0, ⟨(by show 0 ≤ 6; omega), hI_b.2.1, hI_b.2.2.1, hI_b.2.2.2.1, hI_b.2.2.2.2⟩, ⟨rfl, rfl, rfl, rfl, rfl⟩, G⟩
  have hO_b_3 := hI_b_3
  obtain ⟨hb0_b_3, hb1_b_3, hb2_b_3, hb3_b_3, hb4_b_3⟩ := hO_b_3
  refine lv_aload_n zx zb dX5_restart_15 rfl (lv_at hl 0 rfl) ?_
  refine r_get (C := RX5) (T := TX5) (N := 8) (ci := 3) (v := .ref (an 7)) S in_X5_restart_X5 G 0 rfl rfl 4 (by decide) lk_X5_restart_30 rfl dX5_restart_16 ?_
  refine lv_iconst (v := 0) zx zb dX5_restart_19 (by decide) ?_
  refine r_put (C := RX4) (T := TX4) (N := 2) (ci := 2) (v := .int 0) S in_X5_restart_X4 tyX4_ok nmX4 G 8 rfl rfl 1 (by decide) lk_X5_restart_50 rfl (vp_nar_int _) rfl (Nat.le_of_ble_eq_true rfl) dX5_restart_20 (fun H locs G => ?_)
  obtain ⟨b_4, hI_b_4, ⟨hE_b_4_1, hE_b_4_0, hE_b_4_2, hE_b_4_3, hE_b_4_4⟩, G⟩ : ∃ b_4 : Nat → Nat, InR b_4 ∧ (b_4 1 = 0 ∧ b_4 0 = b_3 0 ∧ b_4 2 = b_3 2 ∧ b_4 3 = b_3 3 ∧ b_4 4 = b_3 4) ∧ wd X (va_A (rcW X hn an v b g) sz) (va_A (rcW X hn an v b g) sz) s (rcW X hn an v_2 b_4 g) H locs := ⟨upN b_3 1 0, ⟨hI_b_3.1, (by show 0 ≤ 8; omega), hI_b_3.2.2.1, hI_b_3.2.2.2.1, hI_b_3.2.2.2.2⟩, ⟨rfl, rfl, rfl, rfl, rfl⟩, G⟩
  have hO_b_4 := hI_b_4
  obtain ⟨hb0_b_4, hb1_b_4, hb2_b_4, hb3_b_4, hb4_b_4⟩ := hO_b_4
  refine lv_aload_n zx zb dX5_restart_23 rfl (lv_at hl 0 rfl) ?_
  refine r_get (C := RX5) (T := TX5) (N := 8) (ci := 3) (v := .ref (an 9)) S in_X5_restart_X5 G 0 rfl rfl 5 (by decide) lk_X5_restart_39 rfl dX5_restart_24 ?_
  refine lv_iconst (v := 0) zx zb dX5_restart_27 (by decide) ?_
  refine r_put (C := RX7) (T := TX7) (N := 5) (ci := 5) (v := .int 0) S in_X5_restart_X7 tyX7_ok nmX7 G 10 rfl rfl 4 (by decide) lk_X5_restart_53 rfl (vp_nar_int _) rfl (Nat.le_of_ble_eq_true rfl) dX5_restart_28 (fun H locs G => ?_)
  obtain ⟨b_5, hI_b_5, ⟨hE_b_5_2, hE_b_5_0, hE_b_5_1, hE_b_5_3, hE_b_5_4⟩, G⟩ : ∃ b_5 : Nat → Nat, InR b_5 ∧ (b_5 2 = 0 ∧ b_5 0 = b_4 0 ∧ b_5 1 = b_4 1 ∧ b_5 3 = b_4 3 ∧ b_5 4 = b_4 4) ∧ wd X (va_A (rcW X hn an v b g) sz) (va_A (rcW X hn an v b g) sz) s (rcW X hn an v_2 b_5 g) H locs := ⟨upN b_4 2 0, ⟨hI_b_4.1, hI_b_4.2.1, (by show 0 ≤ 5; omega), hI_b_4.2.2.2.1, hI_b_4.2.2.2.2⟩, ⟨rfl, rfl, rfl, rfl, rfl⟩, G⟩
  have hO_b_5 := hI_b_5
  obtain ⟨hb0_b_5, hb1_b_5, hb2_b_5, hb3_b_5, hb4_b_5⟩ := hO_b_5
  refine lv_aload_n zx zb dX5_restart_31 rfl (lv_at hl 0 rfl) ?_
  refine r_get (C := RX5) (T := TX5) (N := 8) (ci := 3) (v := .ref (an 11)) S in_X5_restart_X5 G 0 rfl rfl 6 (by decide) lk_X5_restart_43 rfl dX5_restart_32 ?_
  refine lv_iconst (v := 0) zx zb dX5_restart_35 (by decide) ?_
  refine r_put (C := RX7) (T := TX7) (N := 5) (ci := 5) (v := .int 0) S in_X5_restart_X7 tyX7_ok nmX7 G 12 rfl rfl 4 (by decide) lk_X5_restart_53 rfl (vp_nar_int _) rfl (Nat.le_of_ble_eq_true rfl) dX5_restart_36 (fun H locs G => ?_)
  obtain ⟨b_6, hI_b_6, ⟨hE_b_6_3, hE_b_6_0, hE_b_6_1, hE_b_6_2, hE_b_6_4⟩, G⟩ : ∃ b_6 : Nat → Nat, InR b_6 ∧ (b_6 3 = 0 ∧ b_6 0 = b_5 0 ∧ b_6 1 = b_5 1 ∧ b_6 2 = b_5 2 ∧ b_6 4 = b_5 4) ∧ wd X (va_A (rcW X hn an v b g) sz) (va_A (rcW X hn an v b g) sz) s (rcW X hn an v_2 b_6 g) H locs := ⟨upN b_5 3 0, ⟨hI_b_5.1, hI_b_5.2.1, hI_b_5.2.2.1, (by show 0 ≤ 6; omega), hI_b_5.2.2.2.2⟩, ⟨rfl, rfl, rfl, rfl, rfl⟩, G⟩
  have hO_b_6 := hI_b_6
  obtain ⟨hb0_b_6, hb1_b_6, hb2_b_6, hb3_b_6, hb4_b_6⟩ := hO_b_6
  refine lv_aload_n zx zb dX5_restart_39 rfl (lv_at hl 0 rfl) ?_
  refine r_get (C := RX5) (T := TX5) (N := 8) (ci := 3) (v := .ref (an 13)) S in_X5_restart_X5 G 0 rfl rfl 7 (by decide) lk_X5_restart_46 rfl dX5_restart_40 ?_
  refine lv_iconst (v := 0) zx zb dX5_restart_43 (by decide) ?_
  refine r_put (C := RX7) (T := TX7) (N := 5) (ci := 5) (v := .int 0) S in_X5_restart_X7 tyX7_ok nmX7 G 14 rfl rfl 4 (by decide) lk_X5_restart_53 rfl (vp_nar_int _) rfl (Nat.le_of_ble_eq_true rfl) dX5_restart_44 (fun H locs G => ?_)
  obtain ⟨b_7, hI_b_7, ⟨hE_b_7_4, hE_b_7_0, hE_b_7_1, hE_b_7_2, hE_b_7_3⟩, G⟩ : ∃ b_7 : Nat → Nat, InR b_7 ∧ (b_7 4 = 0 ∧ b_7 0 = b_6 0 ∧ b_7 1 = b_6 1 ∧ b_7 2 = b_6 2 ∧ b_7 3 = b_6 3) ∧ wd X (va_A (rcW X hn an v b g) sz) (va_A (rcW X hn an v b g) sz) s (rcW X hn an v_2 b_7 g) H locs := ⟨upN b_6 4 0, ⟨hI_b_6.1, hI_b_6.2.1, hI_b_6.2.2.1, hI_b_6.2.2.2.1, (by show 0 ≤ 6; omega)⟩, ⟨rfl, rfl, rfl, rfl, rfl⟩, G⟩
  have hO_b_7 := hI_b_7
  obtain ⟨hb0_b_7, hb1_b_7, hb2_b_7, hb3_b_7, hb4_b_7⟩ := hO_b_7
  exact e_void S zr zlk G (v_2, b_7, g) [0, 1, 2, 3, 4, 5, 6, 7, 8, 9, 10, 11, 12, 13, 14, 15] rfl rfl (Or.inr rfl) (⟨hI_b_7, trivial⟩) dX5_restart_47
theorem in_X5_welcome_X5 : ∀ w ∈ wsX50, w ∈ wsX5_welcome := by decide +kernel
theorem lk_X5_welcome_18 : Cond.fieldLink RX5 18 "EggSpoons$Race" "runners" "I" ∈ wsX5_welcome := by decide +kernel
theorem lk_X5_welcome_23 : Cond.fieldLink RX5 23 "EggSpoons$Race" "row" "[LEggSpoons$Runner;" ∈ wsX5_welcome := by decide +kernel
theorem hdV_X8_begin : yX8_begin.cls = RX8 ∧ yX8_begin.cls ≠ "java/lang/invoke/MethodHandle" ∧ yX8_begin.cls ≠ "java/lang/invoke/VarHandle" ∧ (parseMethodDescriptor yX8_begin.desc).map (fun d => d.parameters.length) = some 3 := by decide +kernel
theorem lk_X5_welcome_30 : Cond.fieldLink RX5 30 "EggSpoons$Race" "past" "LEggSpoons$Past;" ∈ wsX5_welcome := by decide +kernel
theorem in_X5_welcome_X4 : ∀ w ∈ wsX40, w ∈ wsX5_welcome := by decide +kernel
theorem lk_X5_welcome_50 : Cond.fieldLink RX5 50 "EggSpoons$Past" "size" "I" ∈ wsX5_welcome := by decide +kernel
set_option maxHeartbeats 4000000 in
set_option maxRecDepth 100000 in
/-- welcome -/
theorem s_welcome (l : Launch) (X : EX) (hn : Nat) (an : Nat → Nat) (v : Nat → Int32) (b : Nat → Nat) (g : Nat → Nat → Int32) (x1 : Int32) (x2 : Int32) (x3 : Int32) (hI_b : InR b) (sz : Nat) : Met l yX5_welcome wsX5_welcome ({ frames := 1, cells := 0, slots := 0, locals := 23 } : Room) (pE X [.ref hn, .int x1, .int x2, .int x3] (rcW X hn an v b g) sz) (qV (fun (u : (Nat → Int32) × (Nat → Nat) × (Nat → Nat → Int32)) => InR u.2.1 ∧ (True)) X (fun (u : (Nat → Int32) × (Nat → Nat) × (Nat → Nat → Int32)) => rcW X hn an u.1 u.2.1 u.2.2) (rcW X hn an v b g) sz) 0 0 (va_A (rcW X hn an v b g) sz) := by
  refine mk_met (B := (va_A (rcW X hn an v b g) sz)) (A := (va_A (rcW X hn an v b g) sz)) (cc := cX5_welcome) (maxL := 4) (ret := none) (by decide) rfl (Nat.le_of_ble_eq_true rfl) k_w k_a (fun p e s m below meth c S zr zlk znm zsz G ls hl => ?_)
  have S : CallFix p m c cX5_welcome 4 s _ wsX5_welcome RX5 := S
  have zx := S.1
  have zb := S.2.1
  have hl : lv_has ls 4 [(0, .ref hn), (1, .int x1), (2, .int x2), (3, .int x3)] := hl
  have hO_b := hI_b
  obtain ⟨hb0_b, hb1_b, hb2_b, hb3_b, hb4_b⟩ := hO_b
  refine lv_aload_n zx zb dX5_welcome_0 rfl (lv_at hl 0 rfl) ?_
  refine r_get (C := RX5) (T := TX5) (N := 8) (ci := 3) (v := .int (nI (b 0))) S in_X5_welcome_X5 G 0 rfl rfl 2 (by decide) lk_X5_welcome_18 rfl dX5_welcome_1 ?_
  refine lv_bipush (v := 6) zx zb dX5_welcome_4 (by decide) ?_
  refine k_cutW (PP := fun Wx => ∀ (v_2 : Nat → Int32) (b_3 : Nat → Nat) (H : Heap) (locs : List Loc) (ls : Array Slot), InR b_3 → wd X (va_A (rcW X hn an v b g) sz) (va_A (rcW X hn an v b g) sz) s (rcW X hn an v_2 b_3 g) H locs → lv_has ls 4 [(0, .ref hn), (1, .int x1), (2, .int x2), (3, .int x3)] → Wx (F0 m 42 ls []) H locs) ?_ ?_
  · intro join_6
    refine lv_icmp_ge (tgt := 42) zx zb dX5_welcome_6 (by decide) (fun c_1 => ?_) (fun c_1 => ?_)
    · have fc_1 := j_le (a := 6) (b := (b 0)) (by omega) (by omega) c_1
      exact join_6 v b _ _ _ hI_b G hl
    · have fc_1 := j_nle (a := 6) (b := (b 0)) (by omega) (by omega) c_1
      refine lv_aload_n zx zb dX5_welcome_9 rfl (lv_at hl 0 rfl) ?_
      refine r_get (C := RX5) (T := TX5) (N := 8) (ci := 3) (v := .ref (an 0)) S in_X5_welcome_X5 G 0 rfl rfl 3 (by decide) lk_X5_welcome_23 rfl dX5_welcome_10 ?_
      refine lv_aload_n zx zb dX5_welcome_13 rfl (lv_at hl 0 rfl) ?_
      refine r_get (C := RX5) (T := TX5) (N := 8) (ci := 3) (v := .int (nI (b 0))) S in_X5_welcome_X5 G 0 rfl rfl 2 (by decide) lk_X5_welcome_18 rfl dX5_welcome_14 ?_
      rcases k_6c (show (b 0) < 6 by omega) with q_4 | q_4 | q_4 | q_4 | q_4 | q_4
      · refine k_it (v := 0) (by rw [q_4]; rfl) ?_
        refine r_aald (C := RX8) (b := (an 1)) S G 1 3 rfl rfl (k_vp (by decide)) rfl dX5_welcome_17 ?_
        refine lv_iload_n zx zb dX5_welcome_18 rfl (lv_at hl 1 rfl) ?_
        refine lv_iload_n zx zb dX5_welcome_19 rfl (lv_at hl 2 rfl) ?_
        refine lv_iload_n zx zb dX5_welcome_20 rfl (lv_at hl 3 rfl) ?_
        refine b_wv (cells' := 0) (slots' := 0) (wr := [(hn, .inr (3, [.int (v 0), .int (v 1), .int (nI (b 0)), .ref (an 0), .ref (an 7), .ref (an 9), .ref (an 11), .ref (an 13)])), ((an 0), .inl (X.2.2.2.2, 6, .inr (.inr (.inr (.inr (rowQ an)))))), ((an 2), .inr (6, [.int (v 18), .int (v 19), .int (v 20), .int (v 21), .int (v 22), .int (v 23), .int (v 24), .int (v 25)])), ((an 3), .inr (6, [.int (v 26), .int (v 27), .int (v 28), .int (v 29), .int (v 30), .int (v 31), .int (v 32), .int (v 33)])), ((an 4), .inr (6, [.int (v 34), .int (v 35), .int (v 36), .int (v 37), .int (v 38), .int (v 39), .int (v 40), .int (v 41)])), ((an 5), .inr (6, [.int (v 42), .int (v 43), .int (v 44), .int (v 45), .int (v 46), .int (v 47), .int (v 48), .int (v 49)])), ((an 6), .inr (6, [.int (v 50), .int (v 51), .int (v 52), .int (v 53), .int (v 54), .int (v 55), .int (v 56), .int (v 57)])), ((an 7), .inr (2, [.ref (an 8), .int (nI (b 1))])), ((an 8), .inl (X.2.1, 248, .inl (g 0))), ((an 9), .inr (5, [.int 5, .int 0, .int 1, .ref (an 10), .int (nI (b 2))])), ((an 10), .inl (X.2.1, 25, .inl (g 1))), ((an 11), .inr (5, [.int 6, .int 1, .int 1, .ref (an 12), .int (nI (b 3))])), ((an 12), .inl (X.2.1, 30, .inl (g 2))), ((an 13), .inr (5, [.int 6, .int 0, .int 0, .ref (an 14), .int (nI (b 4))])), ((an 14), .inl (X.2.1, 30, .inl (g 3)))]) G rfl rfl [2] [0, 1, 3, 4, 5, 6, 7, 8, 9, 10, 11, 12, 13, 14, 15] rfl rfl rfl rfl (n_V (As := [.int x1, .int x2, .int x3]) (rest := []) (C := RX8) (T := TX8) (N := 8) (ci := 6) S G (s_begin l X (an 1) (fun k => v (10 + k)) x1 x2 x3 s.heap.size) gX5_welcome_X8_begin rfl rfl rfl hdV_X8_begin ⟨Nat.le_of_ble_eq_true rfl, Nat.le_of_ble_eq_true rfl⟩ [2] rfl rfl 2 rfl rfl rfl hl.1 (Nat.le_of_ble_eq_true rfl) dX5_welcome_21 ⟨Nat.le_of_ble_eq_true rfl, Nat.le_of_ble_eq_true rfl⟩) (fun u_5 H locs hp_5 G => ?_)
        obtain ⟨v_5, rfl⟩ : ∃ z, z = u_5 := ⟨_, rfl⟩
        have hq_5 := hp_5
        obtain ⟨v_6, G⟩ : ∃ (v_6 : Nat → Int32), wd X (va_A (rcW X hn an v b g) sz) (va_A (rcW X hn an v b g) sz) s (rcW X hn an v_6 b g) H locs := ⟨(ovr v 10 8 v_5), wd_sub G [0, 1, 15, 2, 3, 4, 5, 6, 7, 8, 9, 10, 11, 12, 13, 14] rfl rfl⟩
        refine lv_aload_n zx zb dX5_welcome_24 rfl (lv_at hl 0 rfl) ?_
        refine lv_dup zx zb dX5_welcome_25 rfl ?_
        refine r_get (C := RX5) (T := TX5) (N := 8) (ci := 3) (v := .int (nI (b 0))) S in_X5_welcome_X5 G 0 rfl rfl 2 (by decide) lk_X5_welcome_18 rfl dX5_welcome_26 ?_
        refine lv_iconst (v := 1) zx zb dX5_welcome_29 (by decide) ?_
        refine r_iadd (v := (nI ((b 0) + 1))) S (nI_add (b 0) 1) dX5_welcome_30 ?_
        refine r_put (C := RX5) (T := TX5) (N := 8) (ci := 3) (v := .int (nI ((b 0) + 1))) S in_X5_welcome_X5 tyX5_ok nmX5 G 0 rfl rfl 2 (by decide) lk_X5_welcome_18 rfl (vp_nar_int _) rfl (Nat.le_of_ble_eq_true rfl) dX5_welcome_31 (fun H locs G => ?_)
        obtain ⟨b_7, hI_b_7, ⟨hE_b_7_0, hE_b_7_1, hE_b_7_2, hE_b_7_3, hE_b_7_4⟩, G⟩ : ∃ b_7 : Nat → Nat, InR b_7 ∧ (b_7 0 = ((b 0) + 1) ∧ b_7 1 = b 1 ∧ b_7 2 = b 2 ∧ b_7 3 = b 3 ∧ b_7 4 = b 4) ∧ wd X (va_A (rcW X hn an v b g) sz) (va_A (rcW X hn an v b g) sz) s (rcW X hn an v_6 b_7 g) H locs := ⟨upN b 0 ((b 0) + 1), ⟨(by show ((b 0) + 1) ≤ 6; omega), hI_b.2.1, hI_b.2.2.1, hI_b.2.2.2.1, hI_b.2.2.2.2⟩, ⟨rfl, rfl, rfl, rfl, rfl⟩, G⟩
        have hO_b_7 := hI_b_7
        obtain ⟨hb0_b_7, hb1_b_7, hb2_b_7, hb3_b_7, hb4_b_7⟩ := hO_b_7
        refine lv_aload_n zx zb dX5_welcome_34 rfl (lv_at hl 0 rfl) ?_
        refine r_get (C := RX5) (T := TX5) (N := 8) (ci := 3) (v := .ref (an 7)) S in_X5_welcome_X5 G 0 rfl rfl 4 (by decide) lk_X5_welcome_30 rfl dX5_welcome_35 ?_
        refine lv_iconst (v := 0) zx zb dX5_welcome_38 (by decide) ?_
        refine r_put (C := RX4) (T := TX4) (N := 2) (ci := 2) (v := .int 0) S in_X5_welcome_X4 tyX4_ok nmX4 G 8 rfl rfl 1 (by decide) lk_X5_welcome_50 rfl (vp_nar_int _) rfl (Nat.le_of_ble_eq_true rfl) dX5_welcome_39 (fun H locs G => ?_)
        obtain ⟨b_8, hI_b_8, ⟨hE_b_8_1, hE_b_8_0, hE_b_8_2, hE_b_8_3, hE_b_8_4⟩, G⟩ : ∃ b_8 : Nat → Nat, InR b_8 ∧ (b_8 1 = 0 ∧ b_8 0 = b_7 0 ∧ b_8 2 = b_7 2 ∧ b_8 3 = b_7 3 ∧ b_8 4 = b_7 4) ∧ wd X (va_A (rcW X hn an v b g) sz) (va_A (rcW X hn an v b g) sz) s (rcW X hn an v_6 b_8 g) H locs := ⟨upN b_7 1 0, ⟨hI_b_7.1, (by show 0 ≤ 8; omega), hI_b_7.2.2.1, hI_b_7.2.2.2.1, hI_b_7.2.2.2.2⟩, ⟨rfl, rfl, rfl, rfl, rfl⟩, G⟩
        have hO_b_8 := hI_b_8
        obtain ⟨hb0_b_8, hb1_b_8, hb2_b_8, hb3_b_8, hb4_b_8⟩ := hO_b_8
        exact join_6 v_6 b_8 _ _ _ hI_b_8 G hl
      · refine k_it (v := 1) (by rw [q_4]; rfl) ?_
        refine r_aald (C := RX8) (b := (an 2)) S G 1 3 rfl rfl (k_vp (by decide)) rfl dX5_welcome_17 ?_
        refine lv_iload_n zx zb dX5_welcome_18 rfl (lv_at hl 1 rfl) ?_
        refine lv_iload_n zx zb dX5_welcome_19 rfl (lv_at hl 2 rfl) ?_
        refine lv_iload_n zx zb dX5_welcome_20 rfl (lv_at hl 3 rfl) ?_
        refine b_wv (cells' := 0) (slots' := 0) (wr := [(hn, .inr (3, [.int (v 0), .int (v 1), .int (nI (b 0)), .ref (an 0), .ref (an 7), .ref (an 9), .ref (an 11), .ref (an 13)])), ((an 0), .inl (X.2.2.2.2, 6, .inr (.inr (.inr (.inr (rowQ an)))))), ((an 1), .inr (6, [.int (v 10), .int (v 11), .int (v 12), .int (v 13), .int (v 14), .int (v 15), .int (v 16), .int (v 17)])), ((an 3), .inr (6, [.int (v 26), .int (v 27), .int (v 28), .int (v 29), .int (v 30), .int (v 31), .int (v 32), .int (v 33)])), ((an 4), .inr (6, [.int (v 34), .int (v 35), .int (v 36), .int (v 37), .int (v 38), .int (v 39), .int (v 40), .int (v 41)])), ((an 5), .inr (6, [.int (v 42), .int (v 43), .int (v 44), .int (v 45), .int (v 46), .int (v 47), .int (v 48), .int (v 49)])), ((an 6), .inr (6, [.int (v 50), .int (v 51), .int (v 52), .int (v 53), .int (v 54), .int (v 55), .int (v 56), .int (v 57)])), ((an 7), .inr (2, [.ref (an 8), .int (nI (b 1))])), ((an 8), .inl (X.2.1, 248, .inl (g 0))), ((an 9), .inr (5, [.int 5, .int 0, .int 1, .ref (an 10), .int (nI (b 2))])), ((an 10), .inl (X.2.1, 25, .inl (g 1))), ((an 11), .inr (5, [.int 6, .int 1, .int 1, .ref (an 12), .int (nI (b 3))])), ((an 12), .inl (X.2.1, 30, .inl (g 2))), ((an 13), .inr (5, [.int 6, .int 0, .int 0, .ref (an 14), .int (nI (b 4))])), ((an 14), .inl (X.2.1, 30, .inl (g 3)))]) G rfl rfl [3] [0, 1, 2, 4, 5, 6, 7, 8, 9, 10, 11, 12, 13, 14, 15] rfl rfl rfl rfl (n_V (As := [.int x1, .int x2, .int x3]) (rest := []) (C := RX8) (T := TX8) (N := 8) (ci := 6) S G (s_begin l X (an 2) (fun k => v (18 + k)) x1 x2 x3 s.heap.size) gX5_welcome_X8_begin rfl rfl rfl hdV_X8_begin ⟨Nat.le_of_ble_eq_true rfl, Nat.le_of_ble_eq_true rfl⟩ [3] rfl rfl 3 rfl rfl rfl hl.1 (Nat.le_of_ble_eq_true rfl) dX5_welcome_21 ⟨Nat.le_of_ble_eq_true rfl, Nat.le_of_ble_eq_true rfl⟩) (fun u_9 H locs hp_9 G => ?_)
        obtain ⟨v_9, rfl⟩ : ∃ z, z = u_9 := ⟨_, rfl⟩
        have hq_9 := hp_9
        obtain ⟨v_10, G⟩ : ∃ (v_10 : Nat → Int32), wd X (va_A (rcW X hn an v b g) sz) (va_A (rcW X hn an v b g) sz) s (rcW X hn an v_10 b g) H locs := ⟨(ovr v 18 8 v_9), wd_sub G [0, 1, 2, 15, 3, 4, 5, 6, 7, 8, 9, 10, 11, 12, 13, 14] rfl rfl⟩
        refine lv_aload_n zx zb dX5_welcome_24 rfl (lv_at hl 0 rfl) ?_
        refine lv_dup zx zb dX5_welcome_25 rfl ?_
        refine r_get (C := RX5) (T := TX5) (N := 8) (ci := 3) (v := .int (nI (b 0))) S in_X5_welcome_X5 G 0 rfl rfl 2 (by decide) lk_X5_welcome_18 rfl dX5_welcome_26 ?_
        refine lv_iconst (v := 1) zx zb dX5_welcome_29 (by decide) ?_
        refine r_iadd (v := (nI ((b 0) + 1))) S (nI_add (b 0) 1) dX5_welcome_30 ?_
        refine r_put (C := RX5) (T := TX5) (N := 8) (ci := 3) (v := .int (nI ((b 0) + 1))) S in_X5_welcome_X5 tyX5_ok nmX5 G 0 rfl rfl 2 (by decide) lk_X5_welcome_18 rfl (vp_nar_int _) rfl (Nat.le_of_ble_eq_true rfl) dX5_welcome_31 (fun H locs G => ?_)
        obtain ⟨b_11, hI_b_11, ⟨hE_b_11_0, hE_b_11_1, hE_b_11_2, hE_b_11_3, hE_b_11_4⟩, G⟩ : ∃ b_11 : Nat → Nat, InR b_11 ∧ (b_11 0 = ((b 0) + 1) ∧ b_11 1 = b 1 ∧ b_11 2 = b 2 ∧ b_11 3 = b 3 ∧ b_11 4 = b 4) ∧ wd X (va_A (rcW X hn an v b g) sz) (va_A (rcW X hn an v b g) sz) s (rcW X hn an v_10 b_11 g) H locs := ⟨upN b 0 ((b 0) + 1), ⟨(by show ((b 0) + 1) ≤ 6; omega), hI_b.2.1, hI_b.2.2.1, hI_b.2.2.2.1, hI_b.2.2.2.2⟩, ⟨rfl, rfl, rfl, rfl, rfl⟩, G⟩
        have hO_b_11 := hI_b_11
        obtain ⟨hb0_b_11, hb1_b_11, hb2_b_11, hb3_b_11, hb4_b_11⟩ := hO_b_11
        refine lv_aload_n zx zb dX5_welcome_34 rfl (lv_at hl 0 rfl) ?_
        refine r_get (C := RX5) (T := TX5) (N := 8) (ci := 3) (v := .ref (an 7)) S in_X5_welcome_X5 G 0 rfl rfl 4 (by decide) lk_X5_welcome_30 rfl dX5_welcome_35 ?_
        refine lv_iconst (v := 0) zx zb dX5_welcome_38 (by decide) ?_
        refine r_put (C := RX4) (T := TX4) (N := 2) (ci := 2) (v := .int 0) S in_X5_welcome_X4 tyX4_ok nmX4 G 8 rfl rfl 1 (by decide) lk_X5_welcome_50 rfl (vp_nar_int _) rfl (Nat.le_of_ble_eq_true rfl) dX5_welcome_39 (fun H locs G => ?_)
        obtain ⟨b_12, hI_b_12, ⟨hE_b_12_1, hE_b_12_0, hE_b_12_2, hE_b_12_3, hE_b_12_4⟩, G⟩ : ∃ b_12 : Nat → Nat, InR b_12 ∧ (b_12 1 = 0 ∧ b_12 0 = b_11 0 ∧ b_12 2 = b_11 2 ∧ b_12 3 = b_11 3 ∧ b_12 4 = b_11 4) ∧ wd X (va_A (rcW X hn an v b g) sz) (va_A (rcW X hn an v b g) sz) s (rcW X hn an v_10 b_12 g) H locs := ⟨upN b_11 1 0, ⟨hI_b_11.1, (by show 0 ≤ 8; omega), hI_b_11.2.2.1, hI_b_11.2.2.2.1, hI_b_11.2.2.2.2⟩, ⟨rfl, rfl, rfl, rfl, rfl⟩, G⟩
        have hO_b_12 := hI_b_12
        obtain ⟨hb0_b_12, hb1_b_12, hb2_b_12, hb3_b_12, hb4_b_12⟩ := hO_b_12
        exact join_6 v_10 b_12 _ _ _ hI_b_12 G hl
      · refine k_it (v := 2) (by rw [q_4]; rfl) ?_
        refine r_aald (C := RX8) (b := (an 3)) S G 1 3 rfl rfl (k_vp (by decide)) rfl dX5_welcome_17 ?_
        refine lv_iload_n zx zb dX5_welcome_18 rfl (lv_at hl 1 rfl) ?_
        refine lv_iload_n zx zb dX5_welcome_19 rfl (lv_at hl 2 rfl) ?_
        refine lv_iload_n zx zb dX5_welcome_20 rfl (lv_at hl 3 rfl) ?_
        refine b_wv (cells' := 0) (slots' := 0) (wr := [(hn, .inr (3, [.int (v 0), .int (v 1), .int (nI (b 0)), .ref (an 0), .ref (an 7), .ref (an 9), .ref (an 11), .ref (an 13)])), ((an 0), .inl (X.2.2.2.2, 6, .inr (.inr (.inr (.inr (rowQ an)))))), ((an 1), .inr (6, [.int (v 10), .int (v 11), .int (v 12), .int (v 13), .int (v 14), .int (v 15), .int (v 16), .int (v 17)])), ((an 2), .inr (6, [.int (v 18), .int (v 19), .int (v 20), .int (v 21), .int (v 22), .int (v 23), .int (v 24), .int (v 25)])), ((an 4), .inr (6, [.int (v 34), .int (v 35), .int (v 36), .int (v 37), .int (v 38), .int (v 39), .int (v 40), .int (v 41)])), ((an 5), .inr (6, [.int (v 42), .int (v 43), .int (v 44), .int (v 45), .int (v 46), .int (v 47), .int (v 48), .int (v 49)])), ((an 6), .inr (6, [.int (v 50), .int (v 51), .int (v 52), .int (v 53), .int (v 54), .int (v 55), .int (v 56), .int (v 57)])), ((an 7), .inr (2, [.ref (an 8), .int (nI (b 1))])), ((an 8), .inl (X.2.1, 248, .inl (g 0))), ((an 9), .inr (5, [.int 5, .int 0, .int 1, .ref (an 10), .int (nI (b 2))])), ((an 10), .inl (X.2.1, 25, .inl (g 1))), ((an 11), .inr (5, [.int 6, .int 1, .int 1, .ref (an 12), .int (nI (b 3))])), ((an 12), .inl (X.2.1, 30, .inl (g 2))), ((an 13), .inr (5, [.int 6, .int 0, .int 0, .ref (an 14), .int (nI (b 4))])), ((an 14), .inl (X.2.1, 30, .inl (g 3)))]) G rfl rfl [4] [0, 1, 2, 3, 5, 6, 7, 8, 9, 10, 11, 12, 13, 14, 15] rfl rfl rfl rfl (n_V (As := [.int x1, .int x2, .int x3]) (rest := []) (C := RX8) (T := TX8) (N := 8) (ci := 6) S G (s_begin l X (an 3) (fun k => v (26 + k)) x1 x2 x3 s.heap.size) gX5_welcome_X8_begin rfl rfl rfl hdV_X8_begin ⟨Nat.le_of_ble_eq_true rfl, Nat.le_of_ble_eq_true rfl⟩ [4] rfl rfl 4 rfl rfl rfl hl.1 (Nat.le_of_ble_eq_true rfl) dX5_welcome_21 ⟨Nat.le_of_ble_eq_true rfl, Nat.le_of_ble_eq_true rfl⟩) (fun u_13 H locs hp_13 G => ?_)
        obtain ⟨v_13, rfl⟩ : ∃ z, z = u_13 := ⟨_, rfl⟩
        have hq_13 := hp_13
        obtain ⟨v_14, G⟩ : ∃ (v_14 : Nat → Int32), wd X (va_A (rcW X hn an v b g) sz) (va_A (rcW X hn an v b g) sz) s (rcW X hn an v_14 b g) H locs := ⟨(ovr v 26 8 v_13), wd_sub G [0, 1, 2, 3, 15, 4, 5, 6, 7, 8, 9, 10, 11, 12, 13, 14] rfl rfl⟩
        refine lv_aload_n zx zb dX5_welcome_24 rfl (lv_at hl 0 rfl) ?_
        refine lv_dup zx zb dX5_welcome_25 rfl ?_
        refine r_get (C := RX5) (T := TX5) (N := 8) (ci := 3) (v := .int (nI (b 0))) S in_X5_welcome_X5 G 0 rfl rfl 2 (by decide) lk_X5_welcome_18 rfl dX5_welcome_26 ?_
        refine lv_iconst (v := 1) zx zb dX5_welcome_29 (by decide) ?_
        refine r_iadd (v := (nI ((b 0) + 1))) S (nI_add (b 0) 1) dX5_welcome_30 ?_
        refine r_put (C := RX5) (T := TX5) (N := 8) (ci := 3) (v := .int (nI ((b 0) + 1))) S in_X5_welcome_X5 tyX5_ok nmX5 G 0 rfl rfl 2 (by decide) lk_X5_welcome_18 rfl (vp_nar_int _) rfl (Nat.le_of_ble_eq_true rfl) dX5_welcome_31 (fun H locs G => ?_)
        obtain ⟨b_15, hI_b_15, ⟨hE_b_15_0, hE_b_15_1, hE_b_15_2, hE_b_15_3, hE_b_15_4⟩, G⟩ : ∃ b_15 : Nat → Nat, InR b_15 ∧ (b_15 0 = ((b 0) + 1) ∧ b_15 1 = b 1 ∧ b_15 2 = b 2 ∧ b_15 3 = b 3 ∧ b_15 4 = b 4) ∧ wd X (va_A (rcW X hn an v b g) sz) (va_A (rcW X hn an v b g) sz) s (rcW X hn an v_14 b_15 g) H locs := ⟨upN b 0 ((b 0) + 1), ⟨(by show ((b 0) + 1) ≤ 6; omega), hI_b.2.1, hI_b.2.2.1, hI_b.2.2.2.1, hI_b.2.2.2.2⟩, ⟨rfl, rfl, rfl, rfl, rfl⟩, G⟩
        have hO_b_15 := hI_b_15
        obtain ⟨hb0_b_15, hb1_b_15, hb2_b_15, hb3_b_15, hb4_b_15⟩ := hO_b_15
        refine lv_aload_n zx zb dX5_welcome_34 rfl (lv_at hl 0 rfl) ?_
        refine r_get (C := RX5) (T := TX5) (N := 8) (ci := 3) (v := .ref (an 7)) S in_X5_welcome_X5 G 0 rfl rfl 4 (by decide) lk_X5_welcome_30 rfl dX5_welcome_35 ?_
        refine lv_iconst (v := 0) zx zb dX5_welcome_38 (by decide) ?_
        refine r_put (C := RX4) (T := TX4) (N := 2) (ci := 2) (v := .int 0) S in_X5_welcome_X4 tyX4_ok nmX4 G 8 rfl rfl 1 (by decide) lk_X5_welcome_50 rfl (vp_nar_int _) rfl (Nat.le_of_ble_eq_true rfl) dX5_welcome_39 (fun H locs G => ?_)
        obtain ⟨b_16, hI_b_16, ⟨hE_b_16_1, hE_b_16_0, hE_b_16_2, hE_b_16_3, hE_b_16_4⟩, G⟩ : ∃ b_16 : Nat → Nat, InR b_16 ∧ (b_16 1 = 0 ∧ b_16 0 = b_15 0 ∧ b_16 2 = b_15 2 ∧ b_16 3 = b_15 3 ∧ b_16 4 = b_15 4) ∧ wd X (va_A (rcW X hn an v b g) sz) (va_A (rcW X hn an v b g) sz) s (rcW X hn an v_14 b_16 g) H locs := ⟨upN b_15 1 0, ⟨hI_b_15.1, (by show 0 ≤ 8; omega), hI_b_15.2.2.1, hI_b_15.2.2.2.1, hI_b_15.2.2.2.2⟩, ⟨rfl, rfl, rfl, rfl, rfl⟩, G⟩
        have hO_b_16 := hI_b_16
        obtain ⟨hb0_b_16, hb1_b_16, hb2_b_16, hb3_b_16, hb4_b_16⟩ := hO_b_16
        exact join_6 v_14 b_16 _ _ _ hI_b_16 G hl
      · refine k_it (v := 3) (by rw [q_4]; rfl) ?_
        refine r_aald (C := RX8) (b := (an 4)) S G 1 3 rfl rfl (k_vp (by decide)) rfl dX5_welcome_17 ?_
        refine lv_iload_n zx zb dX5_welcome_18 rfl (lv_at hl 1 rfl) ?_
        refine lv_iload_n zx zb dX5_welcome_19 rfl (lv_at hl 2 rfl) ?_
        refine lv_iload_n zx zb dX5_welcome_20 rfl (lv_at hl 3 rfl) ?_
        refine b_wv (cells' := 0) (slots' := 0) (wr := [(hn, .inr (3, [.int (v 0), .int (v 1), .int (nI (b 0)), .ref (an 0), .ref (an 7), .ref (an 9), .ref (an 11), .ref (an 13)])), ((an 0), .inl (X.2.2.2.2, 6, .inr (.inr (.inr (.inr (rowQ an)))))), ((an 1), .inr (6, [.int (v 10), .int (v 11), .int (v 12), .int (v 13), .int (v 14), .int (v 15), .int (v 16), .int (v 17)])), ((an 2), .inr (6, [.int (v 18), .int (v 19), .int (v 20), .int (v 21), .int (v 22), .int (v 23), .int (v 24), .int (v 25)])), ((an 3), .inr (6, [.int (v 26), .int (v 27), .int (v 28), .int (v 29), .int (v 30), .int (v 31), .int (v 32), .int (v 33)])), ((an 5), .inr (6, [.int (v 42), .int (v 43), .int (v 44), .int (v 45), .int (v 46), .int (v 47), .int (v 48), .int (v 49)])), ((an 6), .inr (6, [.int (v 50), .int (v 51), .int (v 52), .int (v 53), .int (v 54), .int (v 55), .int (v 56), .int (v 57)])), ((an 7), .inr (2, [.ref (an 8), .int (nI (b 1))])), ((an 8), .inl (X.2.1, 248, .inl (g 0))), ((an 9), .inr (5, [.int 5, .int 0, .int 1, .ref (an 10), .int (nI (b 2))])), ((an 10), .inl (X.2.1, 25, .inl (g 1))), ((an 11), .inr (5, [.int 6, .int 1, .int 1, .ref (an 12), .int (nI (b 3))])), ((an 12), .inl (X.2.1, 30, .inl (g 2))), ((an 13), .inr (5, [.int 6, .int 0, .int 0, .ref (an 14), .int (nI (b 4))])), ((an 14), .inl (X.2.1, 30, .inl (g 3)))]) G rfl rfl [5] [0, 1, 2, 3, 4, 6, 7, 8, 9, 10, 11, 12, 13, 14, 15] rfl rfl rfl rfl (n_V (As := [.int x1, .int x2, .int x3]) (rest := []) (C := RX8) (T := TX8) (N := 8) (ci := 6) S G (s_begin l X (an 4) (fun k => v (34 + k)) x1 x2 x3 s.heap.size) gX5_welcome_X8_begin rfl rfl rfl hdV_X8_begin ⟨Nat.le_of_ble_eq_true rfl, Nat.le_of_ble_eq_true rfl⟩ [5] rfl rfl 5 rfl rfl rfl hl.1 (Nat.le_of_ble_eq_true rfl) dX5_welcome_21 ⟨Nat.le_of_ble_eq_true rfl, Nat.le_of_ble_eq_true rfl⟩) (fun u_17 H locs hp_17 G => ?_)
        obtain ⟨v_17, rfl⟩ : ∃ z, z = u_17 := ⟨_, rfl⟩
        have hq_17 := hp_17
        obtain ⟨v_18, G⟩ : ∃ (v_18 : Nat → Int32), wd X (va_A (rcW X hn an v b g) sz) (va_A (rcW X hn an v b g) sz) s (rcW X hn an v_18 b g) H locs := ⟨(ovr v 34 8 v_17), wd_sub G [0, 1, 2, 3, 4, 15, 5, 6, 7, 8, 9, 10, 11, 12, 13, 14] rfl rfl⟩
        refine lv_aload_n zx zb dX5_welcome_24 rfl (lv_at hl 0 rfl) ?_
        refine lv_dup zx zb dX5_welcome_25 rfl ?_
        refine r_get (C := RX5) (T := TX5) (N := 8) (ci := 3) (v := .int (nI (b 0))) S in_X5_welcome_X5 G 0 rfl rfl 2 (by decide) lk_X5_welcome_18 rfl dX5_welcome_26 ?_
        refine lv_iconst (v := 1) zx zb dX5_welcome_29 (by decide) ?_
        refine r_iadd (v := (nI ((b 0) + 1))) S (nI_add (b 0) 1) dX5_welcome_30 ?_
        refine r_put (C := RX5) (T := TX5) (N := 8) (ci := 3) (v := .int (nI ((b 0) + 1))) S in_X5_welcome_X5 tyX5_ok nmX5 G 0 rfl rfl 2 (by decide) lk_X5_welcome_18 rfl (vp_nar_int _) rfl (Nat.le_of_ble_eq_true rfl) dX5_welcome_31 (fun H locs G => ?_)
        obtain ⟨b_19, hI_b_19, ⟨hE_b_19_0, hE_b_19_1, hE_b_19_2, hE_b_19_3, hE_b_19_4⟩, G⟩ : ∃ b_19 : Nat → Nat, InR b_19 ∧ (b_19 0 = ((b 0) + 1) ∧ b_19 1 = b 1 ∧ b_19 2 = b 2 ∧ b_19 3 = b 3 ∧ b_19 4 = b 4) ∧ wd X (va_A (rcW X hn an v b g) sz) (va_A (rcW X hn an v b g) sz) s (rcW X hn an v_18 b_19 g) H locs := ⟨upN b 0 ((b 0) + 1), ⟨(by show ((b 0) + 1) ≤ 6; omega), hI_b.2.1, hI_b.2.2.1, hI_b.2.2.2.1, hI_b.2.2.2.2⟩, ⟨rfl, rfl, rfl, rfl, rfl⟩, G⟩
        have hO_b_19 := hI_b_19
        obtain ⟨hb0_b_19, hb1_b_19, hb2_b_19, hb3_b_19, hb4_b_19⟩ := hO_b_19
        refine lv_aload_n zx zb dX5_welcome_34 rfl (lv_at hl 0 rfl) ?_
        refine r_get (C := RX5) (T := TX5) (N := 8) (ci := 3) (v := .ref (an 7)) S in_X5_welcome_X5 G 0 rfl rfl 4 (by decide) lk_X5_welcome_30 rfl dX5_welcome_35 ?_
        refine lv_iconst (v := 0) zx zb dX5_welcome_38 (by decide) ?_
        refine r_put (C := RX4) (T := TX4) (N := 2) (ci := 2) (v := .int 0) S in_X5_welcome_X4 tyX4_ok nmX4 G 8 rfl rfl 1 (by decide) lk_X5_welcome_50 rfl (vp_nar_int _) rfl (Nat.le_of_ble_eq_true rfl) dX5_welcome_39 (fun H locs G => ?_)
        obtain ⟨b_20, hI_b_20, ⟨hE_b_20_1, hE_b_20_0, hE_b_20_2, hE_b_20_3, hE_b_20_4⟩, G⟩ : ∃ b_20 : Nat → Nat, InR b_20 ∧ (b_20 1 = 0 ∧ b_20 0 = b_19 0 ∧ b_20 2 = b_19 2 ∧ b_20 3 = b_19 3 ∧ b_20 4 = b_19 4) ∧ wd X (va_A (rcW X hn an v b g) sz) (va_A (rcW X hn an v b g) sz) s (rcW X hn an v_18 b_20 g) H locs := ⟨upN b_19 1 0, ⟨hI_b_19.1, (by show 0 ≤ 8; omega), hI_b_19.2.2.1, hI_b_19.2.2.2.1, hI_b_19.2.2.2.2⟩, ⟨rfl, rfl, rfl, rfl, rfl⟩, G⟩
        have hO_b_20 := hI_b_20
        obtain ⟨hb0_b_20, hb1_b_20, hb2_b_20, hb3_b_20, hb4_b_20⟩ := hO_b_20
        exact join_6 v_18 b_20 _ _ _ hI_b_20 G hl
      · refine k_it (v := 4) (by rw [q_4]; rfl) ?_
        refine r_aald (C := RX8) (b := (an 5)) S G 1 3 rfl rfl (k_vp (by decide)) rfl dX5_welcome_17 ?_
        refine lv_iload_n zx zb dX5_welcome_18 rfl (lv_at hl 1 rfl) ?_
        refine lv_iload_n zx zb dX5_welcome_19 rfl (lv_at hl 2 rfl) ?_
        refine lv_iload_n zx zb dX5_welcome_20 rfl (lv_at hl 3 rfl) ?_
        refine b_wv (cells' := 0) (slots' := 0) (wr := [(hn, .inr (3, [.int (v 0), .int (v 1), .int (nI (b 0)), .ref (an 0), .ref (an 7), .ref (an 9), .ref (an 11), .ref (an 13)])), ((an 0), .inl (X.2.2.2.2, 6, .inr (.inr (.inr (.inr (rowQ an)))))), ((an 1), .inr (6, [.int (v 10), .int (v 11), .int (v 12), .int (v 13), .int (v 14), .int (v 15), .int (v 16), .int (v 17)])), ((an 2), .inr (6, [.int (v 18), .int (v 19), .int (v 20), .int (v 21), .int (v 22), .int (v 23), .int (v 24), .int (v 25)])), ((an 3), .inr (6, [.int (v 26), .int (v 27), .int (v 28), .int (v 29), .int (v 30), .int (v 31), .int (v 32), .int (v 33)])), ((an 4), .inr (6, [.int (v 34), .int (v 35), .int (v 36), .int (v 37), .int (v 38), .int (v 39), .int (v 40), .int (v 41)])), ((an 6), .inr (6, [.int (v 50), .int (v 51), .int (v 52), .int (v 53), .int (v 54), .int (v 55), .int (v 56), .int (v 57)])), ((an 7), .inr (2, [.ref (an 8), .int (nI (b 1))])), ((an 8), .inl (X.2.1, 248, .inl (g 0))), ((an 9), .inr (5, [.int 5, .int 0, .int 1, .ref (an 10), .int (nI (b 2))])), ((an 10), .inl (X.2.1, 25, .inl (g 1))), ((an 11), .inr (5, [.int 6, .int 1, .int 1, .ref (an 12), .int (nI (b 3))])), ((an 12), .inl (X.2.1, 30, .inl (g 2))), ((an 13), .inr (5, [.int 6, .int 0, .int 0, .ref (an 14), .int (nI (b 4))])), ((an 14), .inl (X.2.1, 30, .inl (g 3)))]) G rfl rfl [6] [0, 1, 2, 3, 4, 5, 7, 8, 9, 10, 11, 12, 13, 14, 15] rfl rfl rfl rfl (n_V (As := [.int x1, .int x2, .int x3]) (rest := []) (C := RX8) (T := TX8) (N := 8) (ci := 6) S G (s_begin l X (an 5) (fun k => v (42 + k)) x1 x2 x3 s.heap.size) gX5_welcome_X8_begin rfl rfl rfl hdV_X8_begin ⟨Nat.le_of_ble_eq_true rfl, Nat.le_of_ble_eq_true rfl⟩ [6] rfl rfl 6 rfl rfl rfl hl.1 (Nat.le_of_ble_eq_true rfl) dX5_welcome_21 ⟨Nat.le_of_ble_eq_true rfl, Nat.le_of_ble_eq_true rfl⟩) (fun u_21 H locs hp_21 G => ?_)
        obtain ⟨v_21, rfl⟩ : ∃ z, z = u_21 := ⟨_, rfl⟩
        have hq_21 := hp_21
        obtain ⟨v_22, G⟩ : ∃ (v_22 : Nat → Int32), wd X (va_A (rcW X hn an v b g) sz) (va_A (rcW X hn an v b g) sz) s (rcW X hn an v_22 b g) H locs := ⟨(ovr v 42 8 v_21), wd_sub G [0, 1, 2, 3, 4, 5, 15, 6, 7, 8, 9, 10, 11, 12, 13, 14] rfl rfl⟩
        refine lv_aload_n zx zb dX5_welcome_24 rfl (lv_at hl 0 rfl) ?_
        refine lv_dup zx zb dX5_welcome_25 rfl ?_
        refine r_get (C := RX5) (T := TX5) (N := 8) (ci := 3) (v := .int (nI (b 0))) S in_X5_welcome_X5 G 0 rfl rfl 2 (by decide) lk_X5_welcome_18 rfl dX5_welcome_26 ?_
        refine lv_iconst (v := 1) zx zb dX5_welcome_29 (by decide) ?_
        refine r_iadd (v := (nI ((b 0) + 1))) S (nI_add (b 0) 1) dX5_welcome_30 ?_
        refine r_put (C := RX5) (T := TX5) (N := 8) (ci := 3) (v := .int (nI ((b 0) + 1))) S in_X5_welcome_X5 tyX5_ok nmX5 G 0 rfl rfl 2 (by decide) lk_X5_welcome_18 rfl (vp_nar_int _) rfl (Nat.le_of_ble_eq_true rfl) dX5_welcome_31 (fun H locs G => ?_)
        obtain ⟨b_23, hI_b_23, ⟨hE_b_23_0, hE_b_23_1, hE_b_23_2, hE_b_23_3, hE_b_23_4⟩, G⟩ : ∃ b_23 : Nat → Nat, InR b_23 ∧ (b_23 0 = ((b 0) + 1) ∧ b_23 1 = b 1 ∧ b_23 2 = b 2 ∧ b_23 3 = b 3 ∧ b_23 4 = b 4) ∧ wd X (va_A (rcW X hn an v b g) sz) (va_A (rcW X hn an v b g) sz) s (rcW X hn an v_22 b_23 g) H locs := ⟨upN b 0 ((b 0) + 1), ⟨(by show ((b 0) + 1) ≤ 6; omega), hI_b.2.1, hI_b.2.2.1, hI_b.2.2.2.1, hI_b.2.2.2.2⟩, ⟨rfl, rfl, rfl, rfl, rfl⟩, G⟩
        have hO_b_23 := hI_b_23
        obtain ⟨hb0_b_23, hb1_b_23, hb2_b_23, hb3_b_23, hb4_b_23⟩ := hO_b_23
        refine lv_aload_n zx zb dX5_welcome_34 rfl (lv_at hl 0 rfl) ?_
        refine r_get (C := RX5) (T := TX5) (N := 8) (ci := 3) (v := .ref (an 7)) S in_X5_welcome_X5 G 0 rfl rfl 4 (by decide) lk_X5_welcome_30 rfl dX5_welcome_35 ?_
        refine lv_iconst (v := 0) zx zb dX5_welcome_38 (by decide) ?_
        refine r_put (C := RX4) (T := TX4) (N := 2) (ci := 2) (v := .int 0) S in_X5_welcome_X4 tyX4_ok nmX4 G 8 rfl rfl 1 (by decide) lk_X5_welcome_50 rfl (vp_nar_int _) rfl (Nat.le_of_ble_eq_true rfl) dX5_welcome_39 (fun H locs G => ?_)
        obtain ⟨b_24, hI_b_24, ⟨hE_b_24_1, hE_b_24_0, hE_b_24_2, hE_b_24_3, hE_b_24_4⟩, G⟩ : ∃ b_24 : Nat → Nat, InR b_24 ∧ (b_24 1 = 0 ∧ b_24 0 = b_23 0 ∧ b_24 2 = b_23 2 ∧ b_24 3 = b_23 3 ∧ b_24 4 = b_23 4) ∧ wd X (va_A (rcW X hn an v b g) sz) (va_A (rcW X hn an v b g) sz) s (rcW X hn an v_22 b_24 g) H locs := ⟨upN b_23 1 0, ⟨hI_b_23.1, (by show 0 ≤ 8; omega), hI_b_23.2.2.1, hI_b_23.2.2.2.1, hI_b_23.2.2.2.2⟩, ⟨rfl, rfl, rfl, rfl, rfl⟩, G⟩
        have hO_b_24 := hI_b_24
        obtain ⟨hb0_b_24, hb1_b_24, hb2_b_24, hb3_b_24, hb4_b_24⟩ := hO_b_24
        exact join_6 v_22 b_24 _ _ _ hI_b_24 G hl
      · refine k_it (v := 5) (by rw [q_4]; rfl) ?_
        refine r_aald (C := RX8) (b := (an 6)) S G 1 3 rfl rfl (k_vp (by decide)) rfl dX5_welcome_17 ?_
        refine lv_iload_n zx zb dX5_welcome_18 rfl (lv_at hl 1 rfl) ?_
        refine lv_iload_n zx zb dX5_welcome_19 rfl (lv_at hl 2 rfl) ?_
        refine lv_iload_n zx zb dX5_welcome_20 rfl (lv_at hl 3 rfl) ?_
        refine b_wv (cells' := 0) (slots' := 0) (wr := [(hn, .inr (3, [.int (v 0), .int (v 1), .int (nI (b 0)), .ref (an 0), .ref (an 7), .ref (an 9), .ref (an 11), .ref (an 13)])), ((an 0), .inl (X.2.2.2.2, 6, .inr (.inr (.inr (.inr (rowQ an)))))), ((an 1), .inr (6, [.int (v 10), .int (v 11), .int (v 12), .int (v 13), .int (v 14), .int (v 15), .int (v 16), .int (v 17)])), ((an 2), .inr (6, [.int (v 18), .int (v 19), .int (v 20), .int (v 21), .int (v 22), .int (v 23), .int (v 24), .int (v 25)])), ((an 3), .inr (6, [.int (v 26), .int (v 27), .int (v 28), .int (v 29), .int (v 30), .int (v 31), .int (v 32), .int (v 33)])), ((an 4), .inr (6, [.int (v 34), .int (v 35), .int (v 36), .int (v 37), .int (v 38), .int (v 39), .int (v 40), .int (v 41)])), ((an 5), .inr (6, [.int (v 42), .int (v 43), .int (v 44), .int (v 45), .int (v 46), .int (v 47), .int (v 48), .int (v 49)])), ((an 7), .inr (2, [.ref (an 8), .int (nI (b 1))])), ((an 8), .inl (X.2.1, 248, .inl (g 0))), ((an 9), .inr (5, [.int 5, .int 0, .int 1, .ref (an 10), .int (nI (b 2))])), ((an 10), .inl (X.2.1, 25, .inl (g 1))), ((an 11), .inr (5, [.int 6, .int 1, .int 1, .ref (an 12), .int (nI (b 3))])), ((an 12), .inl (X.2.1, 30, .inl (g 2))), ((an 13), .inr (5, [.int 6, .int 0, .int 0, .ref (an 14), .int (nI (b 4))])), ((an 14), .inl (X.2.1, 30, .inl (g 3)))]) G rfl rfl [7] [0, 1, 2, 3, 4, 5, 6, 8, 9, 10, 11, 12, 13, 14, 15] rfl rfl rfl rfl (n_V (As := [.int x1, .int x2, .int x3]) (rest := []) (C := RX8) (T := TX8) (N := 8) (ci := 6) S G (s_begin l X (an 6) (fun k => v (50 + k)) x1 x2 x3 s.heap.size) gX5_welcome_X8_begin rfl rfl rfl hdV_X8_begin ⟨Nat.le_of_ble_eq_true rfl, Nat.le_of_ble_eq_true rfl⟩ [7] rfl rfl 7 rfl rfl rfl hl.1 (Nat.le_of_ble_eq_true rfl) dX5_welcome_21 ⟨Nat.le_of_ble_eq_true rfl, Nat.le_of_ble_eq_true rfl⟩) (fun u_25 H locs hp_25 G => ?_)
        obtain ⟨v_25, rfl⟩ : ∃ z, z = u_25 := ⟨_, rfl⟩
        have hq_25 := hp_25
        obtain ⟨v_26, G⟩ : ∃ (v_26 : Nat → Int32), wd X (va_A (rcW X hn an v b g) sz) (va_A (rcW X hn an v b g) sz) s (rcW X hn an v_26 b g) H locs := ⟨(ovr v 50 8 v_25), wd_sub G [0, 1, 2, 3, 4, 5, 6, 15, 7, 8, 9, 10, 11, 12, 13, 14] rfl rfl⟩
        refine lv_aload_n zx zb dX5_welcome_24 rfl (lv_at hl 0 rfl) ?_
        refine lv_dup zx zb dX5_welcome_25 rfl ?_
        refine r_get (C := RX5) (T := TX5) (N := 8) (ci := 3) (v := .int (nI (b 0))) S in_X5_welcome_X5 G 0 rfl rfl 2 (by decide) lk_X5_welcome_18 rfl dX5_welcome_26 ?_
        refine lv_iconst (v := 1) zx zb dX5_welcome_29 (by decide) ?_
        refine r_iadd (v := (nI ((b 0) + 1))) S (nI_add (b 0) 1) dX5_welcome_30 ?_
        refine r_put (C := RX5) (T := TX5) (N := 8) (ci := 3) (v := .int (nI ((b 0) + 1))) S in_X5_welcome_X5 tyX5_ok nmX5 G 0 rfl rfl 2 (by decide) lk_X5_welcome_18 rfl (vp_nar_int _) rfl (Nat.le_of_ble_eq_true rfl) dX5_welcome_31 (fun H locs G => ?_)
        obtain ⟨b_27, hI_b_27, ⟨hE_b_27_0, hE_b_27_1, hE_b_27_2, hE_b_27_3, hE_b_27_4⟩, G⟩ : ∃ b_27 : Nat → Nat, InR b_27 ∧ (b_27 0 = ((b 0) + 1) ∧ b_27 1 = b 1 ∧ b_27 2 = b 2 ∧ b_27 3 = b 3 ∧ b_27 4 = b 4) ∧ wd X (va_A (rcW X hn an v b g) sz) (va_A (rcW X hn an v b g) sz) s (rcW X hn an v_26 b_27 g) H locs := ⟨upN b 0 ((b 0) + 1), ⟨(by show ((b 0) + 1) ≤ 6; omega), hI_b.2.1, hI_b.2.2.1, hI_b.2.2.2.1, hI_b.2.2.2.2⟩, ⟨rfl, rfl, rfl, rfl, rfl⟩, G⟩
        have hO_b_27 := hI_b_27
        obtain ⟨hb0_b_27, hb1_b_27, hb2_b_27, hb3_b_27, hb4_b_27⟩ := hO_b_27
        refine lv_aload_n zx zb dX5_welcome_34 rfl (lv_at hl 0 rfl) ?_
        refine r_get (C := RX5) (T := TX5) (N := 8) (ci := 3) (v := .ref (an 7)) S in_X5_welcome_X5 G 0 rfl rfl 4 (by decide) lk_X5_welcome_30 rfl dX5_welcome_35 ?_
        refine lv_iconst (v := 0) zx zb dX5_welcome_38 (by decide) ?_
        refine r_put (C := RX4) (T := TX4) (N := 2) (ci := 2) (v := .int 0) S in_X5_welcome_X4 tyX4_ok nmX4 G 8 rfl rfl 1 (by decide) lk_X5_welcome_50 rfl (vp_nar_int _) rfl (Nat.le_of_ble_eq_true rfl) dX5_welcome_39 (fun H locs G => ?_)
        obtain ⟨b_28, hI_b_28, ⟨hE_b_28_1, hE_b_28_0, hE_b_28_2, hE_b_28_3, hE_b_28_4⟩, G⟩ : ∃ b_28 : Nat → Nat, InR b_28 ∧ (b_28 1 = 0 ∧ b_28 0 = b_27 0 ∧ b_28 2 = b_27 2 ∧ b_28 3 = b_27 3 ∧ b_28 4 = b_27 4) ∧ wd X (va_A (rcW X hn an v b g) sz) (va_A (rcW X hn an v b g) sz) s (rcW X hn an v_26 b_28 g) H locs := ⟨upN b_27 1 0, ⟨hI_b_27.1, (by show 0 ≤ 8; omega), hI_b_27.2.2.1, hI_b_27.2.2.2.1, hI_b_27.2.2.2.2⟩, ⟨rfl, rfl, rfl, rfl, rfl⟩, G⟩
        have hO_b_28 := hI_b_28
        obtain ⟨hb0_b_28, hb1_b_28, hb2_b_28, hb3_b_28, hb4_b_28⟩ := hO_b_28
        exact join_6 v_26 b_28 _ _ _ hI_b_28 G hl
  · intro v_2 b_3 H locs ls hI_b_3 G hl
    have hO_b_3 := hI_b_3
    obtain ⟨hb0_b_3, hb1_b_3, hb2_b_3, hb3_b_3, hb4_b_3⟩ := hO_b_3
    exact e_void S zr zlk G (v_2, b_3, g) [0, 1, 2, 3, 4, 5, 6, 7, 8, 9, 10, 11, 12, 13, 14, 15] rfl rfl (Or.inr rfl) (⟨hI_b_3, trivial⟩) dX5_welcome_42
theorem in_X5_goOn_X5 : ∀ w ∈ wsX50, w ∈ wsX5_goOn := by decide +kernel
theorem lk_X5_goOn_15 : Cond.fieldLink RX5 15 "EggSpoons$Race" "tick" "I" ∈ wsX5_goOn := by decide +kernel
theorem lk_X5_goOn_18 : Cond.fieldLink RX5 18 "EggSpoons$Race" "runners" "I" ∈ wsX5_goOn := by decide +kernel
theorem lk_X5_goOn_23 : Cond.fieldLink RX5 23 "EggSpoons$Race" "row" "[LEggSpoons$Runner;" ∈ wsX5_goOn := by decide +kernel
theorem lk_X5_goOn_9 : Cond.fieldLink RX5 9 "EggSpoons$Race" "length" "I" ∈ wsX5_goOn := by decide +kernel
set_option maxHeartbeats 4000000 in
set_option maxRecDepth 100000 in
/-- goOn -/
theorem s_goOn (l : Launch) (X : EX) (hn : Nat) (an : Nat → Nat) (v : Nat → Int32) (b : Nat → Nat) (g : Nat → Nat → Int32) (hI_b : InR b) (sz : Nat) : Met l yX5_goOn wsX5_goOn ({ frames := 2, cells := 0, slots := 0, locals := 49 } : Room) (pE X [.ref hn] (rcW X hn an v b g) sz) (qV (fun (u : (Nat → Int32) × (Nat → Nat) × (Nat → Nat → Int32)) => InR u.2.1 ∧ (True)) X (fun (u : (Nat → Int32) × (Nat → Nat) × (Nat → Nat → Int32)) => rcW X hn an u.1 u.2.1 u.2.2) (rcW X hn an v b g) sz) 0 0 (va_A (rcW X hn an v b g) sz) := by
  refine mk_met (B := (va_A (rcW X hn an v b g) sz)) (A := (va_A (rcW X hn an v b g) sz)) (cc := cX5_goOn) (maxL := 2) (ret := none) (by decide) rfl (Nat.le_of_ble_eq_true rfl) k_w k_a (fun p e s m below meth c S zr zlk znm zsz G ls hl => ?_)
  have S : CallFix p m c cX5_goOn 2 s _ wsX5_goOn RX5 := S
  have zx := S.1
  have zb := S.2.1
  have hl : lv_has ls 2 [(0, .ref hn)] := hl
  have hO_b := hI_b
  obtain ⟨hb0_b, hb1_b, hb2_b, hb3_b, hb4_b⟩ := hO_b
  refine lv_aload_n zx zb dX5_goOn_0 rfl (lv_at hl 0 rfl) ?_
  refine lv_dup zx zb dX5_goOn_1 rfl ?_
  refine r_get (C := RX5) (T := TX5) (N := 8) (ci := 3) (v := .int (v 1)) S in_X5_goOn_X5 G 0 rfl rfl 1 (by decide) lk_X5_goOn_15 rfl dX5_goOn_2 ?_
  refine lv_iconst (v := 1) zx zb dX5_goOn_5 (by decide) ?_
  refine r_iadd (v := ((v 1) + 1)) S rfl dX5_goOn_6 ?_
  refine r_put (C := RX5) (T := TX5) (N := 8) (ci := 3) (v := .int ((v 1) + 1)) S in_X5_goOn_X5 tyX5_ok nmX5 G 0 rfl rfl 1 (by decide) lk_X5_goOn_15 rfl (vp_nar_int _) rfl (Nat.le_of_ble_eq_true rfl) dX5_goOn_7 (fun H locs G => ?_)
  obtain ⟨v_1, G⟩ : ∃ v_1 : Nat → Int32, wd X (va_A (rcW X hn an v b g) sz) (va_A (rcW X hn an v b g) sz) s (rcW X hn an v_1 b g) H locs := ⟨upd v 1 ((v 1) + 1), G⟩
  refine lv_iconst (v := 0) zx zb dX5_goOn_10 (by decide) ?_
  refine lv_istore_n (lv' := [(1, .int 0), (0, .ref hn)]) zx zb dX5_goOn_11 rfl hl (by decide) rfl (fun ls hl => ?_)
  refine k_loop (P := ∀ (zm : Nat) (k12 : Nat) (v12_0 : Nat → Int32) (H : Heap) (locs : List Loc) (ls : Array Slot), 6 + 1 ≤ k12 + zm → (k12 ≤ 6) → wd X (va_A (rcW X hn an v b g) sz) (va_A (rcW X hn an v b g) sz) s (rcW X hn an v12_0 b g) H locs → lv_has ls 2 [(1, .int (nI k12)), (0, .ref hn)] → W p l e _ s m _ below meth c H locs _ _ _ (F0 m 12 ls [])) (fun loop => loop (6 + 1) 0 v_1 _ _ _ (by omega) (by omega) G hl) ?_
  intro zm
  induction zm with
  | zero => intro k12 v12_0 H locs ls zz q_hk_k12 _ _; exact absurd zz (by omega)
  | succ zm ih12 =>
    intro k12 v12_0 H locs ls zm_12 hk_k12 G hl
    refine lv_iload_n zx zb dX5_goOn_12 rfl (lv_at hl 0 rfl) ?_
    refine lv_aload_n zx zb dX5_goOn_13 rfl (lv_at hl 1 rfl) ?_
    refine r_get (C := RX5) (T := TX5) (N := 8) (ci := 3) (v := .int (nI (b 0))) S in_X5_goOn_X5 G 0 rfl rfl 2 (by decide) lk_X5_goOn_18 rfl dX5_goOn_14 ?_
    refine lv_icmp_ge (tgt := 43) zx zb dX5_goOn_17 (by decide) (fun c_2 => ?_) (fun c_2 => ?_)
    · have fc_2 := j_le (a := (b 0)) (b := k12) (by omega) (by omega) c_2
      exact e_void S zr zlk G (v12_0, b, g) [0, 1, 2, 3, 4, 5, 6, 7, 8, 9, 10, 11, 12, 13, 14, 15] rfl rfl (Or.inr rfl) (⟨hI_b, trivial⟩) dX5_goOn_43
    · have fc_2 := j_nle (a := (b 0)) (b := k12) (by omega) (by omega) c_2
      refine lv_aload_n zx zb dX5_goOn_20 rfl (lv_at hl 1 rfl) ?_
      refine r_get (C := RX5) (T := TX5) (N := 8) (ci := 3) (v := .ref (an 0)) S in_X5_goOn_X5 G 0 rfl rfl 3 (by decide) lk_X5_goOn_23 rfl dX5_goOn_21 ?_
      refine lv_iload_n zx zb dX5_goOn_24 rfl (lv_at hl 0 rfl) ?_
      rcases k_6c (show k12 < 6 by omega) with rfl | rfl | rfl | rfl | rfl | rfl
      · refine k_it (v := 0) rfl ?_
        refine r_aald (C := RX8) (b := (an 1)) S G 1 3 rfl rfl (k_vp (by decide)) rfl dX5_goOn_25 ?_
        refine lv_aload_n zx zb dX5_goOn_26 rfl (lv_at hl 1 rfl) ?_
        refine r_get (C := RX5) (T := TX5) (N := 8) (ci := 3) (v := .int (v12_0 1)) S in_X5_goOn_X5 G 0 rfl rfl 1 (by decide) lk_X5_goOn_15 rfl dX5_goOn_27 ?_
        refine lv_aload_n zx zb dX5_goOn_30 rfl (lv_at hl 1 rfl) ?_
        refine r_get (C := RX5) (T := TX5) (N := 8) (ci := 3) (v := .int (v12_0 0)) S in_X5_goOn_X5 G 0 rfl rfl 0 (by decide) lk_X5_goOn_9 rfl dX5_goOn_31 ?_
        refine b_wv (cells' := 0) (slots' := 0) (wr := [(hn, .inr (3, [.int (v12_0 0), .int (v12_0 1), .int (nI (b 0)), .ref (an 0), .ref (an 7), .ref (an 9), .ref (an 11), .ref (an 13)])), ((an 0), .inl (X.2.2.2.2, 6, .inr (.inr (.inr (.inr (rowQ an)))))), ((an 2), .inr (6, [.int (v12_0 18), .int (v12_0 19), .int (v12_0 20), .int (v12_0 21), .int (v12_0 22), .int (v12_0 23), .int (v12_0 24), .int (v12_0 25)])), ((an 3), .inr (6, [.int (v12_0 26), .int (v12_0 27), .int (v12_0 28), .int (v12_0 29), .int (v12_0 30), .int (v12_0 31), .int (v12_0 32), .int (v12_0 33)])), ((an 4), .inr (6, [.int (v12_0 34), .int (v12_0 35), .int (v12_0 36), .int (v12_0 37), .int (v12_0 38), .int (v12_0 39), .int (v12_0 40), .int (v12_0 41)])), ((an 5), .inr (6, [.int (v12_0 42), .int (v12_0 43), .int (v12_0 44), .int (v12_0 45), .int (v12_0 46), .int (v12_0 47), .int (v12_0 48), .int (v12_0 49)])), ((an 6), .inr (6, [.int (v12_0 50), .int (v12_0 51), .int (v12_0 52), .int (v12_0 53), .int (v12_0 54), .int (v12_0 55), .int (v12_0 56), .int (v12_0 57)])), ((an 7), .inr (2, [.ref (an 8), .int (nI (b 1))])), ((an 8), .inl (X.2.1, 248, .inl (g 0))), ((an 9), .inr (5, [.int 5, .int 0, .int 1, .ref (an 10), .int (nI (b 2))])), ((an 10), .inl (X.2.1, 25, .inl (g 1))), ((an 11), .inr (5, [.int 6, .int 1, .int 1, .ref (an 12), .int (nI (b 3))])), ((an 12), .inl (X.2.1, 30, .inl (g 2))), ((an 13), .inr (5, [.int 6, .int 0, .int 0, .ref (an 14), .int (nI (b 4))])), ((an 14), .inl (X.2.1, 30, .inl (g 3)))]) G rfl rfl [2] [0, 1, 3, 4, 5, 6, 7, 8, 9, 10, 11, 12, 13, 14, 15] rfl rfl rfl rfl (n_V (As := [.int (v12_0 1), .int (v12_0 0)]) (rest := []) (C := RX8) (T := TX8) (N := 8) (ci := 6) S G (s_step l X (an 1) (fun k => v12_0 (10 + k)) (v12_0 1) (v12_0 0) H.size) gX5_goOn_X8_step rfl rfl rfl hdV_X8_step ⟨Nat.le_of_ble_eq_true rfl, Nat.le_of_ble_eq_true rfl⟩ [2] rfl rfl 2 rfl rfl rfl hl.1 (Nat.le_of_ble_eq_true rfl) dX5_goOn_34 ⟨Nat.le_of_ble_eq_true rfl, Nat.le_of_ble_eq_true rfl⟩) (fun u_3 H locs hp_3 G => ?_)
        obtain ⟨v_3, rfl⟩ : ∃ z, z = u_3 := ⟨_, rfl⟩
        have hq_3 := hp_3
        obtain ⟨v_4, G⟩ : ∃ (v_4 : Nat → Int32), wd X (va_A (rcW X hn an v b g) sz) (va_A (rcW X hn an v b g) sz) s (rcW X hn an v_4 b g) H locs := ⟨(ovr v12_0 10 8 v_3), wd_sub G [0, 1, 15, 2, 3, 4, 5, 6, 7, 8, 9, 10, 11, 12, 13, 14] rfl rfl⟩
        refine lv_iinc (v := 1) (lv' := [(1, .int 1), (0, .ref hn)]) zx zb dX5_goOn_37 hl (k := 0) rfl (by decide) (by decide) rfl (fun ls hl => ?_)
        refine lv_goto (tgt := 12) zx zb dX5_goOn_40 (by decide) ?_
        exact ih12 1 v_4 _ _ _ (by omega) (by omega) G hl
      · refine k_it (v := 1) rfl ?_
        refine r_aald (C := RX8) (b := (an 2)) S G 1 3 rfl rfl (k_vp (by decide)) rfl dX5_goOn_25 ?_
        refine lv_aload_n zx zb dX5_goOn_26 rfl (lv_at hl 1 rfl) ?_
        refine r_get (C := RX5) (T := TX5) (N := 8) (ci := 3) (v := .int (v12_0 1)) S in_X5_goOn_X5 G 0 rfl rfl 1 (by decide) lk_X5_goOn_15 rfl dX5_goOn_27 ?_
        refine lv_aload_n zx zb dX5_goOn_30 rfl (lv_at hl 1 rfl) ?_
        refine r_get (C := RX5) (T := TX5) (N := 8) (ci := 3) (v := .int (v12_0 0)) S in_X5_goOn_X5 G 0 rfl rfl 0 (by decide) lk_X5_goOn_9 rfl dX5_goOn_31 ?_
        refine b_wv (cells' := 0) (slots' := 0) (wr := [(hn, .inr (3, [.int (v12_0 0), .int (v12_0 1), .int (nI (b 0)), .ref (an 0), .ref (an 7), .ref (an 9), .ref (an 11), .ref (an 13)])), ((an 0), .inl (X.2.2.2.2, 6, .inr (.inr (.inr (.inr (rowQ an)))))), ((an 1), .inr (6, [.int (v12_0 10), .int (v12_0 11), .int (v12_0 12), .int (v12_0 13), .int (v12_0 14), .int (v12_0 15), .int (v12_0 16), .int (v12_0 17)])), ((an 3), .inr (6, [.int (v12_0 26), .int (v12_0 27), .int (v12_0 28), .int (v12_0 29), .int (v12_0 30), .int (v12_0 31), .int (v12_0 32), .int (v12_0 33)])), ((an 4), .inr (6, [.int (v12_0 34), .int (v12_0 35), .int (v12_0 36), .int (v12_0 37), .int (v12_0 38), .int (v12_0 39), .int (v12_0 40), .int (v12_0 41)])), ((an 5), .inr (6, [.int (v12_0 42), .int (v12_0 43), .int (v12_0 44), .int (v12_0 45), .int (v12_0 46), .int (v12_0 47), .int (v12_0 48), .int (v12_0 49)])), ((an 6), .inr (6, [.int (v12_0 50), .int (v12_0 51), .int (v12_0 52), .int (v12_0 53), .int (v12_0 54), .int (v12_0 55), .int (v12_0 56), .int (v12_0 57)])), ((an 7), .inr (2, [.ref (an 8), .int (nI (b 1))])), ((an 8), .inl (X.2.1, 248, .inl (g 0))), ((an 9), .inr (5, [.int 5, .int 0, .int 1, .ref (an 10), .int (nI (b 2))])), ((an 10), .inl (X.2.1, 25, .inl (g 1))), ((an 11), .inr (5, [.int 6, .int 1, .int 1, .ref (an 12), .int (nI (b 3))])), ((an 12), .inl (X.2.1, 30, .inl (g 2))), ((an 13), .inr (5, [.int 6, .int 0, .int 0, .ref (an 14), .int (nI (b 4))])), ((an 14), .inl (X.2.1, 30, .inl (g 3)))]) G rfl rfl [3] [0, 1, 2, 4, 5, 6, 7, 8, 9, 10, 11, 12, 13, 14, 15] rfl rfl rfl rfl (n_V (As := [.int (v12_0 1), .int (v12_0 0)]) (rest := []) (C := RX8) (T := TX8) (N := 8) (ci := 6) S G (s_step l X (an 2) (fun k => v12_0 (18 + k)) (v12_0 1) (v12_0 0) H.size) gX5_goOn_X8_step rfl rfl rfl hdV_X8_step ⟨Nat.le_of_ble_eq_true rfl, Nat.le_of_ble_eq_true rfl⟩ [3] rfl rfl 3 rfl rfl rfl hl.1 (Nat.le_of_ble_eq_true rfl) dX5_goOn_34 ⟨Nat.le_of_ble_eq_true rfl, Nat.le_of_ble_eq_true rfl⟩) (fun u_5 H locs hp_5 G => ?_)
        obtain ⟨v_5, rfl⟩ : ∃ z, z = u_5 := ⟨_, rfl⟩
        have hq_5 := hp_5
        obtain ⟨v_6, G⟩ : ∃ (v_6 : Nat → Int32), wd X (va_A (rcW X hn an v b g) sz) (va_A (rcW X hn an v b g) sz) s (rcW X hn an v_6 b g) H locs := ⟨(ovr v12_0 18 8 v_5), wd_sub G [0, 1, 2, 15, 3, 4, 5, 6, 7, 8, 9, 10, 11, 12, 13, 14] rfl rfl⟩
        refine lv_iinc (v := 2) (lv' := [(1, .int 2), (0, .ref hn)]) zx zb dX5_goOn_37 hl (k := 0) rfl (by decide) (by decide) rfl (fun ls hl => ?_)
        refine lv_goto (tgt := 12) zx zb dX5_goOn_40 (by decide) ?_
        exact ih12 2 v_6 _ _ _ (by omega) (by omega) G hl
      · refine k_it (v := 2) rfl ?_
        refine r_aald (C := RX8) (b := (an 3)) S G 1 3 rfl rfl (k_vp (by decide)) rfl dX5_goOn_25 ?_
        refine lv_aload_n zx zb dX5_goOn_26 rfl (lv_at hl 1 rfl) ?_
        refine r_get (C := RX5) (T := TX5) (N := 8) (ci := 3) (v := .int (v12_0 1)) S in_X5_goOn_X5 G 0 rfl rfl 1 (by decide) lk_X5_goOn_15 rfl dX5_goOn_27 ?_
        refine lv_aload_n zx zb dX5_goOn_30 rfl (lv_at hl 1 rfl) ?_
        refine r_get (C := RX5) (T := TX5) (N := 8) (ci := 3) (v := .int (v12_0 0)) S in_X5_goOn_X5 G 0 rfl rfl 0 (by decide) lk_X5_goOn_9 rfl dX5_goOn_31 ?_
        refine b_wv (cells' := 0) (slots' := 0) (wr := [(hn, .inr (3, [.int (v12_0 0), .int (v12_0 1), .int (nI (b 0)), .ref (an 0), .ref (an 7), .ref (an 9), .ref (an 11), .ref (an 13)])), ((an 0), .inl (X.2.2.2.2, 6, .inr (.inr (.inr (.inr (rowQ an)))))), ((an 1), .inr (6, [.int (v12_0 10), .int (v12_0 11), .int (v12_0 12), .int (v12_0 13), .int (v12_0 14), .int (v12_0 15), .int (v12_0 16), .int (v12_0 17)])), ((an 2), .inr (6, [.int (v12_0 18), .int (v12_0 19), .int (v12_0 20), .int (v12_0 21), .int (v12_0 22), .int (v12_0 23), .int (v12_0 24), .int (v12_0 25)])), ((an 4), .inr (6, [.int (v12_0 34), .int (v12_0 35), .int (v12_0 36), .int (v12_0 37), .int (v12_0 38), .int (v12_0 39), .int (v12_0 40), .int (v12_0 41)])), ((an 5), .inr (6, [.int (v12_0 42), .int (v12_0 43), .int (v12_0 44), .int (v12_0 45), .int (v12_0 46), .int (v12_0 47), .int (v12_0 48), .int (v12_0 49)])), ((an 6), .inr (6, [.int (v12_0 50), .int (v12_0 51), .int (v12_0 52), .int (v12_0 53), .int (v12_0 54), .int (v12_0 55), .int (v12_0 56), .int (v12_0 57)])), ((an 7), .inr (2, [.ref (an 8), .int (nI (b 1))])), ((an 8), .inl (X.2.1, 248, .inl (g 0))), ((an 9), .inr (5, [.int 5, .int 0, .int 1, .ref (an 10), .int (nI (b 2))])), ((an 10), .inl (X.2.1, 25, .inl (g 1))), ((an 11), .inr (5, [.int 6, .int 1, .int 1, .ref (an 12), .int (nI (b 3))])), ((an 12), .inl (X.2.1, 30, .inl (g 2))), ((an 13), .inr (5, [.int 6, .int 0, .int 0, .ref (an 14), .int (nI (b 4))])), ((an 14), .inl (X.2.1, 30, .inl (g 3)))]) G rfl rfl [4] [0, 1, 2, 3, 5, 6, 7, 8, 9, 10, 11, 12, 13, 14, 15] rfl rfl rfl rfl (n_V (As := [.int (v12_0 1), .int (v12_0 0)]) (rest := []) (C := RX8) (T := TX8) (N := 8) (ci := 6) S G (s_step l X (an 3) (fun k => v12_0 (26 + k)) (v12_0 1) (v12_0 0) H.size) gX5_goOn_X8_step rfl rfl rfl hdV_X8_step ⟨Nat.le_of_ble_eq_true rfl, Nat.le_of_ble_eq_true rfl⟩ [4] rfl rfl 4 rfl rfl rfl hl.1 (Nat.le_of_ble_eq_true rfl) dX5_goOn_34 ⟨Nat.le_of_ble_eq_true rfl, Nat.le_of_ble_eq_true rfl⟩) (fun u_7 H locs hp_7 G => ?_)
        obtain ⟨v_7, rfl⟩ : ∃ z, z = u_7 := ⟨_, rfl⟩
        have hq_7 := hp_7
        obtain ⟨v_8, G⟩ : ∃ (v_8 : Nat → Int32), wd X (va_A (rcW X hn an v b g) sz) (va_A (rcW X hn an v b g) sz) s (rcW X hn an v_8 b g) H locs := ⟨(ovr v12_0 26 8 v_7), wd_sub G [0, 1, 2, 3, 15, 4, 5, 6, 7, 8, 9, 10, 11, 12, 13, 14] rfl rfl⟩
        refine lv_iinc (v := 3) (lv' := [(1, .int 3), (0, .ref hn)]) zx zb dX5_goOn_37 hl (k := 0) rfl (by decide) (by decide) rfl (fun ls hl => ?_)
        refine lv_goto (tgt := 12) zx zb dX5_goOn_40 (by decide) ?_
        exact ih12 3 v_8 _ _ _ (by omega) (by omega) G hl
      · refine k_it (v := 3) rfl ?_
        refine r_aald (C := RX8) (b := (an 4)) S G 1 3 rfl rfl (k_vp (by decide)) rfl dX5_goOn_25 ?_
        refine lv_aload_n zx zb dX5_goOn_26 rfl (lv_at hl 1 rfl) ?_
        refine r_get (C := RX5) (T := TX5) (N := 8) (ci := 3) (v := .int (v12_0 1)) S in_X5_goOn_X5 G 0 rfl rfl 1 (by decide) lk_X5_goOn_15 rfl dX5_goOn_27 ?_
        refine lv_aload_n zx zb dX5_goOn_30 rfl (lv_at hl 1 rfl) ?_
        refine r_get (C := RX5) (T := TX5) (N := 8) (ci := 3) (v := .int (v12_0 0)) S in_X5_goOn_X5 G 0 rfl rfl 0 (by decide) lk_X5_goOn_9 rfl dX5_goOn_31 ?_
        refine b_wv (cells' := 0) (slots' := 0) (wr := [(hn, .inr (3, [.int (v12_0 0), .int (v12_0 1), .int (nI (b 0)), .ref (an 0), .ref (an 7), .ref (an 9), .ref (an 11), .ref (an 13)])), ((an 0), .inl (X.2.2.2.2, 6, .inr (.inr (.inr (.inr (rowQ an)))))), ((an 1), .inr (6, [.int (v12_0 10), .int (v12_0 11), .int (v12_0 12), .int (v12_0 13), .int (v12_0 14), .int (v12_0 15), .int (v12_0 16), .int (v12_0 17)])), ((an 2), .inr (6, [.int (v12_0 18), .int (v12_0 19), .int (v12_0 20), .int (v12_0 21), .int (v12_0 22), .int (v12_0 23), .int (v12_0 24), .int (v12_0 25)])), ((an 3), .inr (6, [.int (v12_0 26), .int (v12_0 27), .int (v12_0 28), .int (v12_0 29), .int (v12_0 30), .int (v12_0 31), .int (v12_0 32), .int (v12_0 33)])), ((an 5), .inr (6, [.int (v12_0 42), .int (v12_0 43), .int (v12_0 44), .int (v12_0 45), .int (v12_0 46), .int (v12_0 47), .int (v12_0 48), .int (v12_0 49)])), ((an 6), .inr (6, [.int (v12_0 50), .int (v12_0 51), .int (v12_0 52), .int (v12_0 53), .int (v12_0 54), .int (v12_0 55), .int (v12_0 56), .int (v12_0 57)])), ((an 7), .inr (2, [.ref (an 8), .int (nI (b 1))])), ((an 8), .inl (X.2.1, 248, .inl (g 0))), ((an 9), .inr (5, [.int 5, .int 0, .int 1, .ref (an 10), .int (nI (b 2))])), ((an 10), .inl (X.2.1, 25, .inl (g 1))), ((an 11), .inr (5, [.int 6, .int 1, .int 1, .ref (an 12), .int (nI (b 3))])), ((an 12), .inl (X.2.1, 30, .inl (g 2))), ((an 13), .inr (5, [.int 6, .int 0, .int 0, .ref (an 14), .int (nI (b 4))])), ((an 14), .inl (X.2.1, 30, .inl (g 3)))]) G rfl rfl [5] [0, 1, 2, 3, 4, 6, 7, 8, 9, 10, 11, 12, 13, 14, 15] rfl rfl rfl rfl (n_V (As := [.int (v12_0 1), .int (v12_0 0)]) (rest := []) (C := RX8) (T := TX8) (N := 8) (ci := 6) S G (s_step l X (an 4) (fun k => v12_0 (34 + k)) (v12_0 1) (v12_0 0) H.size) gX5_goOn_X8_step rfl rfl rfl hdV_X8_step ⟨Nat.le_of_ble_eq_true rfl, Nat.le_of_ble_eq_true rfl⟩ [5] rfl rfl 5 rfl rfl rfl hl.1 (Nat.le_of_ble_eq_true rfl) dX5_goOn_34 ⟨Nat.le_of_ble_eq_true rfl, Nat.le_of_ble_eq_true rfl⟩) (fun u_9 H locs hp_9 G => ?_)
        obtain ⟨v_9, rfl⟩ : ∃ z, z = u_9 := ⟨_, rfl⟩
        have hq_9 := hp_9
        obtain ⟨v_10, G⟩ : ∃ (v_10 : Nat → Int32), wd X (va_A (rcW X hn an v b g) sz) (va_A (rcW X hn an v b g) sz) s (rcW X hn an v_10 b g) H locs := ⟨(ovr v12_0 34 8 v_9), wd_sub G [0, 1, 2, 3, 4, 15, 5, 6, 7, 8, 9, 10, 11, 12, 13, 14] rfl rfl⟩
        refine lv_iinc (v := 4) (lv' := [(1, .int 4), (0, .ref hn)]) zx zb dX5_goOn_37 hl (k := 0) rfl (by decide) (by decide) rfl (fun ls hl => ?_)
        refine lv_goto (tgt := 12) zx zb dX5_goOn_40 (by decide) ?_
        exact ih12 4 v_10 _ _ _ (by omega) (by omega) G hl
      · refine k_it (v := 4) rfl ?_
        refine r_aald (C := RX8) (b := (an 5)) S G 1 3 rfl rfl (k_vp (by decide)) rfl dX5_goOn_25 ?_
        refine lv_aload_n zx zb dX5_goOn_26 rfl (lv_at hl 1 rfl) ?_
        refine r_get (C := RX5) (T := TX5) (N := 8) (ci := 3) (v := .int (v12_0 1)) S in_X5_goOn_X5 G 0 rfl rfl 1 (by decide) lk_X5_goOn_15 rfl dX5_goOn_27 ?_
        refine lv_aload_n zx zb dX5_goOn_30 rfl (lv_at hl 1 rfl) ?_
        refine r_get (C := RX5) (T := TX5) (N := 8) (ci := 3) (v := .int (v12_0 0)) S in_X5_goOn_X5 G 0 rfl rfl 0 (by decide) lk_X5_goOn_9 rfl dX5_goOn_31 ?_
        refine b_wv (cells' := 0) (slots' := 0) (wr := [(hn, .inr (3, [.int (v12_0 0), .int (v12_0 1), .int (nI (b 0)), .ref (an 0), .ref (an 7), .ref (an 9), .ref (an 11), .ref (an 13)])), ((an 0), .inl (X.2.2.2.2, 6, .inr (.inr (.inr (.inr (rowQ an)))))), ((an 1), .inr (6, [.int (v12_0 10), .int (v12_0 11), .int (v12_0 12), .int (v12_0 13), .int (v12_0 14), .int (v12_0 15), .int (v12_0 16), .int (v12_0 17)])), ((an 2), .inr (6, [.int (v12_0 18), .int (v12_0 19), .int (v12_0 20), .int (v12_0 21), .int (v12_0 22), .int (v12_0 23), .int (v12_0 24), .int (v12_0 25)])), ((an 3), .inr (6, [.int (v12_0 26), .int (v12_0 27), .int (v12_0 28), .int (v12_0 29), .int (v12_0 30), .int (v12_0 31), .int (v12_0 32), .int (v12_0 33)])), ((an 4), .inr (6, [.int (v12_0 34), .int (v12_0 35), .int (v12_0 36), .int (v12_0 37), .int (v12_0 38), .int (v12_0 39), .int (v12_0 40), .int (v12_0 41)])), ((an 6), .inr (6, [.int (v12_0 50), .int (v12_0 51), .int (v12_0 52), .int (v12_0 53), .int (v12_0 54), .int (v12_0 55), .int (v12_0 56), .int (v12_0 57)])), ((an 7), .inr (2, [.ref (an 8), .int (nI (b 1))])), ((an 8), .inl (X.2.1, 248, .inl (g 0))), ((an 9), .inr (5, [.int 5, .int 0, .int 1, .ref (an 10), .int (nI (b 2))])), ((an 10), .inl (X.2.1, 25, .inl (g 1))), ((an 11), .inr (5, [.int 6, .int 1, .int 1, .ref (an 12), .int (nI (b 3))])), ((an 12), .inl (X.2.1, 30, .inl (g 2))), ((an 13), .inr (5, [.int 6, .int 0, .int 0, .ref (an 14), .int (nI (b 4))])), ((an 14), .inl (X.2.1, 30, .inl (g 3)))]) G rfl rfl [6] [0, 1, 2, 3, 4, 5, 7, 8, 9, 10, 11, 12, 13, 14, 15] rfl rfl rfl rfl (n_V (As := [.int (v12_0 1), .int (v12_0 0)]) (rest := []) (C := RX8) (T := TX8) (N := 8) (ci := 6) S G (s_step l X (an 5) (fun k => v12_0 (42 + k)) (v12_0 1) (v12_0 0) H.size) gX5_goOn_X8_step rfl rfl rfl hdV_X8_step ⟨Nat.le_of_ble_eq_true rfl, Nat.le_of_ble_eq_true rfl⟩ [6] rfl rfl 6 rfl rfl rfl hl.1 (Nat.le_of_ble_eq_true rfl) dX5_goOn_34 ⟨Nat.le_of_ble_eq_true rfl, Nat.le_of_ble_eq_true rfl⟩) (fun u_11 H locs hp_11 G => ?_)
        obtain ⟨v_11, rfl⟩ : ∃ z, z = u_11 := ⟨_, rfl⟩
        have hq_11 := hp_11
        obtain ⟨v_12, G⟩ : ∃ (v_12 : Nat → Int32), wd X (va_A (rcW X hn an v b g) sz) (va_A (rcW X hn an v b g) sz) s (rcW X hn an v_12 b g) H locs := ⟨(ovr v12_0 42 8 v_11), wd_sub G [0, 1, 2, 3, 4, 5, 15, 6, 7, 8, 9, 10, 11, 12, 13, 14] rfl rfl⟩
        refine lv_iinc (v := 5) (lv' := [(1, .int 5), (0, .ref hn)]) zx zb dX5_goOn_37 hl (k := 0) rfl (by decide) (by decide) rfl (fun ls hl => ?_)
        refine lv_goto (tgt := 12) zx zb dX5_goOn_40 (by decide) ?_
        exact ih12 5 v_12 _ _ _ (by omega) (by omega) G hl
      · refine k_it (v := 5) rfl ?_
        refine r_aald (C := RX8) (b := (an 6)) S G 1 3 rfl rfl (k_vp (by decide)) rfl dX5_goOn_25 ?_
        refine lv_aload_n zx zb dX5_goOn_26 rfl (lv_at hl 1 rfl) ?_
        refine r_get (C := RX5) (T := TX5) (N := 8) (ci := 3) (v := .int (v12_0 1)) S in_X5_goOn_X5 G 0 rfl rfl 1 (by decide) lk_X5_goOn_15 rfl dX5_goOn_27 ?_
        refine lv_aload_n zx zb dX5_goOn_30 rfl (lv_at hl 1 rfl) ?_
        refine r_get (C := RX5) (T := TX5) (N := 8) (ci := 3) (v := .int (v12_0 0)) S in_X5_goOn_X5 G 0 rfl rfl 0 (by decide) lk_X5_goOn_9 rfl dX5_goOn_31 ?_
        refine b_wv (cells' := 0) (slots' := 0) (wr := [(hn, .inr (3, [.int (v12_0 0), .int (v12_0 1), .int (nI (b 0)), .ref (an 0), .ref (an 7), .ref (an 9), .ref (an 11), .ref (an 13)])), ((an 0), .inl (X.2.2.2.2, 6, .inr (.inr (.inr (.inr (rowQ an)))))), ((an 1), .inr (6, [.int (v12_0 10), .int (v12_0 11), .int (v12_0 12), .int (v12_0 13), .int (v12_0 14), .int (v12_0 15), .int (v12_0 16), .int (v12_0 17)])), ((an 2), .inr (6, [.int (v12_0 18), .int (v12_0 19), .int (v12_0 20), .int (v12_0 21), .int (v12_0 22), .int (v12_0 23), .int (v12_0 24), .int (v12_0 25)])), ((an 3), .inr (6, [.int (v12_0 26), .int (v12_0 27), .int (v12_0 28), .int (v12_0 29), .int (v12_0 30), .int (v12_0 31), .int (v12_0 32), .int (v12_0 33)])), ((an 4), .inr (6, [.int (v12_0 34), .int (v12_0 35), .int (v12_0 36), .int (v12_0 37), .int (v12_0 38), .int (v12_0 39), .int (v12_0 40), .int (v12_0 41)])), ((an 5), .inr (6, [.int (v12_0 42), .int (v12_0 43), .int (v12_0 44), .int (v12_0 45), .int (v12_0 46), .int (v12_0 47), .int (v12_0 48), .int (v12_0 49)])), ((an 7), .inr (2, [.ref (an 8), .int (nI (b 1))])), ((an 8), .inl (X.2.1, 248, .inl (g 0))), ((an 9), .inr (5, [.int 5, .int 0, .int 1, .ref (an 10), .int (nI (b 2))])), ((an 10), .inl (X.2.1, 25, .inl (g 1))), ((an 11), .inr (5, [.int 6, .int 1, .int 1, .ref (an 12), .int (nI (b 3))])), ((an 12), .inl (X.2.1, 30, .inl (g 2))), ((an 13), .inr (5, [.int 6, .int 0, .int 0, .ref (an 14), .int (nI (b 4))])), ((an 14), .inl (X.2.1, 30, .inl (g 3)))]) G rfl rfl [7] [0, 1, 2, 3, 4, 5, 6, 8, 9, 10, 11, 12, 13, 14, 15] rfl rfl rfl rfl (n_V (As := [.int (v12_0 1), .int (v12_0 0)]) (rest := []) (C := RX8) (T := TX8) (N := 8) (ci := 6) S G (s_step l X (an 6) (fun k => v12_0 (50 + k)) (v12_0 1) (v12_0 0) H.size) gX5_goOn_X8_step rfl rfl rfl hdV_X8_step ⟨Nat.le_of_ble_eq_true rfl, Nat.le_of_ble_eq_true rfl⟩ [7] rfl rfl 7 rfl rfl rfl hl.1 (Nat.le_of_ble_eq_true rfl) dX5_goOn_34 ⟨Nat.le_of_ble_eq_true rfl, Nat.le_of_ble_eq_true rfl⟩) (fun u_13 H locs hp_13 G => ?_)
        obtain ⟨v_13, rfl⟩ : ∃ z, z = u_13 := ⟨_, rfl⟩
        have hq_13 := hp_13
        obtain ⟨v_14, G⟩ : ∃ (v_14 : Nat → Int32), wd X (va_A (rcW X hn an v b g) sz) (va_A (rcW X hn an v b g) sz) s (rcW X hn an v_14 b g) H locs := ⟨(ovr v12_0 50 8 v_13), wd_sub G [0, 1, 2, 3, 4, 5, 6, 15, 7, 8, 9, 10, 11, 12, 13, 14] rfl rfl⟩
        refine lv_iinc (v := 6) (lv' := [(1, .int 6), (0, .ref hn)]) zx zb dX5_goOn_37 hl (k := 0) rfl (by decide) (by decide) rfl (fun ls hl => ?_)
        refine lv_goto (tgt := 12) zx zb dX5_goOn_40 (by decide) ?_
        exact ih12 6 v_14 _ _ _ (by omega) (by omega) G hl
theorem in_X5_homes_X5 : ∀ w ∈ wsX50, w ∈ wsX5_homes := by decide +kernel
theorem lk_X5_homes_18 : Cond.fieldLink RX5 18 "EggSpoons$Race" "runners" "I" ∈ wsX5_homes := by decide +kernel
theorem lk_X5_homes_23 : Cond.fieldLink RX5 23 "EggSpoons$Race" "row" "[LEggSpoons$Runner;" ∈ wsX5_homes := by decide +kernel
set_option maxHeartbeats 4000000 in
set_option maxRecDepth 100000 in
/-- homes -/
theorem s_homes (l : Launch) (X : EX) (hn : Nat) (an : Nat → Nat) (v : Nat → Int32) (b : Nat → Nat) (g : Nat → Nat → Int32) (hI_b : InR b) (sz : Nat) : Met l yX5_homes wsX5_homes ({ frames := 1, cells := 0, slots := 0, locals := 20 } : Room) (pE X [.ref hn] (rcW X hn an v b g) sz) (qI (fun (r : Int32) (u : Unit) => True) X (fun (u : Unit) => []) [] sz) 0 0 (va_A [] sz) := by
  refine mk_met (B := (fun _ => True)) (A := (va_A [] sz)) (cc := cX5_homes) (maxL := 3) (ret := (some .int)) (by decide) rfl (Nat.le_of_ble_eq_true rfl) k_ro k_a (fun p e s m below meth c S zr zlk znm zsz G ls hl => ?_)
  have S : CallFix p m c cX5_homes 3 s _ wsX5_homes RX5 := S
  have zx := S.1
  have zb := S.2.1
  have hl : lv_has ls 3 [(0, .ref hn)] := hl
  have hO_b := hI_b
  obtain ⟨hb0_b, hb1_b, hb2_b, hb3_b, hb4_b⟩ := hO_b
  refine lv_iconst (v := 0) zx zb dX5_homes_0 (by decide) ?_
  refine lv_istore_n (lv' := [(1, .int 0), (0, .ref hn)]) zx zb dX5_homes_1 rfl hl (by decide) rfl (fun ls hl => ?_)
  refine lv_iconst (v := 0) zx zb dX5_homes_2 (by decide) ?_
  refine lv_istore_n (lv' := [(2, .int 0), (1, .int 0), (0, .ref hn)]) zx zb dX5_homes_3 rfl hl (by decide) rfl (fun ls hl => ?_)
  refine k_loop (P := ∀ (zm : Nat) (k4 : Nat) (x4_1 : Int32) (H : Heap) (locs : List Loc) (ls : Array Slot), 6 + 1 ≤ k4 + zm → (k4 ≤ 6) → wd X (fun _ => True) (va_A [] sz) s (rcW X hn an v b g) H locs → lv_has ls 3 [(2, .int (nI k4)), (1, .int x4_1), (0, .ref hn)] → W p l e _ s m _ below meth c H locs _ _ _ (F0 m 4 ls [])) (fun loop => loop (6 + 1) 0 0 _ _ _ (by omega) (by omega) G hl) ?_
  intro zm
  induction zm with
  | zero => intro k4 x4_1 H locs ls zz q_hk_k4 _ _; exact absurd zz (by omega)
  | succ zm ih4 =>
    intro k4 x4_1 H locs ls zm_4 hk_k4 G hl
    refine lv_iload_n zx zb dX5_homes_4 rfl (lv_at hl 0 rfl) ?_
    refine lv_aload_n zx zb dX5_homes_5 rfl (lv_at hl 2 rfl) ?_
    refine r_get (C := RX5) (T := TX5) (N := 8) (ci := 3) (v := .int (nI (b 0))) S in_X5_homes_X5 G 0 rfl rfl 2 (by decide) lk_X5_homes_18 rfl dX5_homes_6 ?_
    refine lv_icmp_ge (tgt := 38) zx zb dX5_homes_9 (by decide) (fun c_1 => ?_) (fun c_1 => ?_)
    · have fc_1 := j_le (a := (b 0)) (b := k4) (by omega) (by omega) c_1
      refine lv_iload_n zx zb dX5_homes_38 rfl (lv_at hl 1 rfl) ?_
      exact e_int S zr zlk (vp_nar_int _) G () [] rfl rfl (Or.inl rfl) (trivial) dX5_homes_39
    · have fc_1 := j_nle (a := (b 0)) (b := k4) (by omega) (by omega) c_1
      refine lv_iload_n zx zb dX5_homes_12 rfl (lv_at hl 1 rfl) ?_
      refine lv_aload_n zx zb dX5_homes_13 rfl (lv_at hl 2 rfl) ?_
      refine r_get (C := RX5) (T := TX5) (N := 8) (ci := 3) (v := .ref (an 0)) S in_X5_homes_X5 G 0 rfl rfl 3 (by decide) lk_X5_homes_23 rfl dX5_homes_14 ?_
      refine lv_iload_n zx zb dX5_homes_17 rfl (lv_at hl 0 rfl) ?_
      rcases k_6c (show k4 < 6 by omega) with rfl | rfl | rfl | rfl | rfl | rfl
      · refine k_it (v := 0) rfl ?_
        refine r_aald (C := RX8) (b := (an 1)) S G 1 3 rfl rfl (k_vp (by decide)) rfl dX5_homes_18 ?_
        refine o_ri (cells' := 0) (slots' := 0) G rfl rfl (n_V (As := []) (rest := [.int x4_1]) (C := RX8) (T := TX8) (N := 8) (ci := 6) S G (s_isHome l X (an 1) (fun k => v (10 + k)) H.size) gX5_homes_X8_isHome rfl rfl rfl hdV_X8_isHome ⟨Nat.le_of_ble_eq_true rfl, Nat.le_of_ble_eq_true rfl⟩ [2] rfl rfl 2 rfl rfl rfl hl.1 (Nat.le_of_ble_eq_true rfl) dX5_homes_19 ⟨Nat.le_of_ble_eq_true rfl, Nat.le_of_ble_eq_true rfl⟩) (fun r_2 u_2 H locs hp_2 G => ?_)
        have G : wd X (fun _ => True) (va_A [] sz) s (rcW X hn an v b g) H locs := G
        refine k_cutW (PP := fun Wx => ∀ (x_4 : Int32) (H : Heap) (locs : List Loc) (ls : Array Slot), wd X (fun _ => True) (va_A [] sz) s (rcW X hn an v b g) H locs → lv_has ls 3 [(2, .int 0), (1, .int x4_1), (0, .ref hn)] → Wx (F0 m 30 ls [.int x_4, .int x4_1]) H locs) ?_ ?_
        · intro join_22
          refine lv_if_eq (tgt := 29) zx zb dX5_homes_22 (by decide) (fun c_3 => ?_) (fun c_3 => ?_)
          · refine lv_iconst (v := 0) zx zb dX5_homes_29 (by decide) ?_
            exact join_22 0 _ _ _  G hl
          · refine lv_iconst (v := 1) zx zb dX5_homes_25 (by decide) ?_
            refine lv_goto (tgt := 30) zx zb dX5_homes_26 (by decide) ?_
            exact join_22 1 _ _ _  G hl
        · intro x_4 H locs ls  G hl
          refine r_iadd (v := (x4_1 + x_4)) S rfl dX5_homes_30 ?_
          refine lv_istore_n (lv' := [(1, .int (x4_1 + x_4)), (2, .int 0), (0, .ref hn)]) zx zb dX5_homes_31 rfl hl (by decide) rfl (fun ls hl => ?_)
          refine lv_iinc (v := 1) (lv' := [(2, .int 1), (1, .int (x4_1 + x_4)), (0, .ref hn)]) zx zb dX5_homes_32 hl (k := 1) rfl (by decide) (by decide) rfl (fun ls hl => ?_)
          refine lv_goto (tgt := 4) zx zb dX5_homes_35 (by decide) ?_
          exact ih4 1 (x4_1 + x_4) _ _ _ (by omega) (by omega) G hl
      · refine k_it (v := 1) rfl ?_
        refine r_aald (C := RX8) (b := (an 2)) S G 1 3 rfl rfl (k_vp (by decide)) rfl dX5_homes_18 ?_
        refine o_ri (cells' := 0) (slots' := 0) G rfl rfl (n_V (As := []) (rest := [.int x4_1]) (C := RX8) (T := TX8) (N := 8) (ci := 6) S G (s_isHome l X (an 2) (fun k => v (18 + k)) H.size) gX5_homes_X8_isHome rfl rfl rfl hdV_X8_isHome ⟨Nat.le_of_ble_eq_true rfl, Nat.le_of_ble_eq_true rfl⟩ [3] rfl rfl 3 rfl rfl rfl hl.1 (Nat.le_of_ble_eq_true rfl) dX5_homes_19 ⟨Nat.le_of_ble_eq_true rfl, Nat.le_of_ble_eq_true rfl⟩) (fun r_5 u_5 H locs hp_5 G => ?_)
        have G : wd X (fun _ => True) (va_A [] sz) s (rcW X hn an v b g) H locs := G
        refine k_cutW (PP := fun Wx => ∀ (x_7 : Int32) (H : Heap) (locs : List Loc) (ls : Array Slot), wd X (fun _ => True) (va_A [] sz) s (rcW X hn an v b g) H locs → lv_has ls 3 [(2, .int 1), (1, .int x4_1), (0, .ref hn)] → Wx (F0 m 30 ls [.int x_7, .int x4_1]) H locs) ?_ ?_
        · intro join_22
          refine lv_if_eq (tgt := 29) zx zb dX5_homes_22 (by decide) (fun c_6 => ?_) (fun c_6 => ?_)
          · refine lv_iconst (v := 0) zx zb dX5_homes_29 (by decide) ?_
            exact join_22 0 _ _ _  G hl
          · refine lv_iconst (v := 1) zx zb dX5_homes_25 (by decide) ?_
            refine lv_goto (tgt := 30) zx zb dX5_homes_26 (by decide) ?_
            exact join_22 1 _ _ _  G hl
        · intro x_7 H locs ls  G hl
          refine r_iadd (v := (x4_1 + x_7)) S rfl dX5_homes_30 ?_
          refine lv_istore_n (lv' := [(1, .int (x4_1 + x_7)), (2, .int 1), (0, .ref hn)]) zx zb dX5_homes_31 rfl hl (by decide) rfl (fun ls hl => ?_)
          refine lv_iinc (v := 2) (lv' := [(2, .int 2), (1, .int (x4_1 + x_7)), (0, .ref hn)]) zx zb dX5_homes_32 hl (k := 1) rfl (by decide) (by decide) rfl (fun ls hl => ?_)
          refine lv_goto (tgt := 4) zx zb dX5_homes_35 (by decide) ?_
          exact ih4 2 (x4_1 + x_7) _ _ _ (by omega) (by omega) G hl
      · refine k_it (v := 2) rfl ?_
        refine r_aald (C := RX8) (b := (an 3)) S G 1 3 rfl rfl (k_vp (by decide)) rfl dX5_homes_18 ?_
        refine o_ri (cells' := 0) (slots' := 0) G rfl rfl (n_V (As := []) (rest := [.int x4_1]) (C := RX8) (T := TX8) (N := 8) (ci := 6) S G (s_isHome l X (an 3) (fun k => v (26 + k)) H.size) gX5_homes_X8_isHome rfl rfl rfl hdV_X8_isHome ⟨Nat.le_of_ble_eq_true rfl, Nat.le_of_ble_eq_true rfl⟩ [4] rfl rfl 4 rfl rfl rfl hl.1 (Nat.le_of_ble_eq_true rfl) dX5_homes_19 ⟨Nat.le_of_ble_eq_true rfl, Nat.le_of_ble_eq_true rfl⟩) (fun r_8 u_8 H locs hp_8 G => ?_)
        have G : wd X (fun _ => True) (va_A [] sz) s (rcW X hn an v b g) H locs := G
        refine k_cutW (PP := fun Wx => ∀ (x_10 : Int32) (H : Heap) (locs : List Loc) (ls : Array Slot), wd X (fun _ => True) (va_A [] sz) s (rcW X hn an v b g) H locs → lv_has ls 3 [(2, .int 2), (1, .int x4_1), (0, .ref hn)] → Wx (F0 m 30 ls [.int x_10, .int x4_1]) H locs) ?_ ?_
        · intro join_22
          refine lv_if_eq (tgt := 29) zx zb dX5_homes_22 (by decide) (fun c_9 => ?_) (fun c_9 => ?_)
          · refine lv_iconst (v := 0) zx zb dX5_homes_29 (by decide) ?_
            exact join_22 0 _ _ _  G hl
          · refine lv_iconst (v := 1) zx zb dX5_homes_25 (by decide) ?_
            refine lv_goto (tgt := 30) zx zb dX5_homes_26 (by decide) ?_
            exact join_22 1 _ _ _  G hl
        · intro x_10 H locs ls  G hl
          refine r_iadd (v := (x4_1 + x_10)) S rfl dX5_homes_30 ?_
          refine lv_istore_n (lv' := [(1, .int (x4_1 + x_10)), (2, .int 2), (0, .ref hn)]) zx zb dX5_homes_31 rfl hl (by decide) rfl (fun ls hl => ?_)
          refine lv_iinc (v := 3) (lv' := [(2, .int 3), (1, .int (x4_1 + x_10)), (0, .ref hn)]) zx zb dX5_homes_32 hl (k := 1) rfl (by decide) (by decide) rfl (fun ls hl => ?_)
          refine lv_goto (tgt := 4) zx zb dX5_homes_35 (by decide) ?_
          exact ih4 3 (x4_1 + x_10) _ _ _ (by omega) (by omega) G hl
      · refine k_it (v := 3) rfl ?_
        refine r_aald (C := RX8) (b := (an 4)) S G 1 3 rfl rfl (k_vp (by decide)) rfl dX5_homes_18 ?_
        refine o_ri (cells' := 0) (slots' := 0) G rfl rfl (n_V (As := []) (rest := [.int x4_1]) (C := RX8) (T := TX8) (N := 8) (ci := 6) S G (s_isHome l X (an 4) (fun k => v (34 + k)) H.size) gX5_homes_X8_isHome rfl rfl rfl hdV_X8_isHome ⟨Nat.le_of_ble_eq_true rfl, Nat.le_of_ble_eq_true rfl⟩ [5] rfl rfl 5 rfl rfl rfl hl.1 (Nat.le_of_ble_eq_true rfl) dX5_homes_19 ⟨Nat.le_of_ble_eq_true rfl, Nat.le_of_ble_eq_true rfl⟩) (fun r_11 u_11 H locs hp_11 G => ?_)
        have G : wd X (fun _ => True) (va_A [] sz) s (rcW X hn an v b g) H locs := G
        refine k_cutW (PP := fun Wx => ∀ (x_13 : Int32) (H : Heap) (locs : List Loc) (ls : Array Slot), wd X (fun _ => True) (va_A [] sz) s (rcW X hn an v b g) H locs → lv_has ls 3 [(2, .int 3), (1, .int x4_1), (0, .ref hn)] → Wx (F0 m 30 ls [.int x_13, .int x4_1]) H locs) ?_ ?_
        · intro join_22
          refine lv_if_eq (tgt := 29) zx zb dX5_homes_22 (by decide) (fun c_12 => ?_) (fun c_12 => ?_)
          · refine lv_iconst (v := 0) zx zb dX5_homes_29 (by decide) ?_
            exact join_22 0 _ _ _  G hl
          · refine lv_iconst (v := 1) zx zb dX5_homes_25 (by decide) ?_
            refine lv_goto (tgt := 30) zx zb dX5_homes_26 (by decide) ?_
            exact join_22 1 _ _ _  G hl
        · intro x_13 H locs ls  G hl
          refine r_iadd (v := (x4_1 + x_13)) S rfl dX5_homes_30 ?_
          refine lv_istore_n (lv' := [(1, .int (x4_1 + x_13)), (2, .int 3), (0, .ref hn)]) zx zb dX5_homes_31 rfl hl (by decide) rfl (fun ls hl => ?_)
          refine lv_iinc (v := 4) (lv' := [(2, .int 4), (1, .int (x4_1 + x_13)), (0, .ref hn)]) zx zb dX5_homes_32 hl (k := 1) rfl (by decide) (by decide) rfl (fun ls hl => ?_)
          refine lv_goto (tgt := 4) zx zb dX5_homes_35 (by decide) ?_
          exact ih4 4 (x4_1 + x_13) _ _ _ (by omega) (by omega) G hl
      · refine k_it (v := 4) rfl ?_
        refine r_aald (C := RX8) (b := (an 5)) S G 1 3 rfl rfl (k_vp (by decide)) rfl dX5_homes_18 ?_
        refine o_ri (cells' := 0) (slots' := 0) G rfl rfl (n_V (As := []) (rest := [.int x4_1]) (C := RX8) (T := TX8) (N := 8) (ci := 6) S G (s_isHome l X (an 5) (fun k => v (42 + k)) H.size) gX5_homes_X8_isHome rfl rfl rfl hdV_X8_isHome ⟨Nat.le_of_ble_eq_true rfl, Nat.le_of_ble_eq_true rfl⟩ [6] rfl rfl 6 rfl rfl rfl hl.1 (Nat.le_of_ble_eq_true rfl) dX5_homes_19 ⟨Nat.le_of_ble_eq_true rfl, Nat.le_of_ble_eq_true rfl⟩) (fun r_14 u_14 H locs hp_14 G => ?_)
        have G : wd X (fun _ => True) (va_A [] sz) s (rcW X hn an v b g) H locs := G
        refine k_cutW (PP := fun Wx => ∀ (x_16 : Int32) (H : Heap) (locs : List Loc) (ls : Array Slot), wd X (fun _ => True) (va_A [] sz) s (rcW X hn an v b g) H locs → lv_has ls 3 [(2, .int 4), (1, .int x4_1), (0, .ref hn)] → Wx (F0 m 30 ls [.int x_16, .int x4_1]) H locs) ?_ ?_
        · intro join_22
          refine lv_if_eq (tgt := 29) zx zb dX5_homes_22 (by decide) (fun c_15 => ?_) (fun c_15 => ?_)
          · refine lv_iconst (v := 0) zx zb dX5_homes_29 (by decide) ?_
            exact join_22 0 _ _ _  G hl
          · refine lv_iconst (v := 1) zx zb dX5_homes_25 (by decide) ?_
            refine lv_goto (tgt := 30) zx zb dX5_homes_26 (by decide) ?_
            exact join_22 1 _ _ _  G hl
        · intro x_16 H locs ls  G hl
          refine r_iadd (v := (x4_1 + x_16)) S rfl dX5_homes_30 ?_
          refine lv_istore_n (lv' := [(1, .int (x4_1 + x_16)), (2, .int 4), (0, .ref hn)]) zx zb dX5_homes_31 rfl hl (by decide) rfl (fun ls hl => ?_)
          refine lv_iinc (v := 5) (lv' := [(2, .int 5), (1, .int (x4_1 + x_16)), (0, .ref hn)]) zx zb dX5_homes_32 hl (k := 1) rfl (by decide) (by decide) rfl (fun ls hl => ?_)
          refine lv_goto (tgt := 4) zx zb dX5_homes_35 (by decide) ?_
          exact ih4 5 (x4_1 + x_16) _ _ _ (by omega) (by omega) G hl
      · refine k_it (v := 5) rfl ?_
        refine r_aald (C := RX8) (b := (an 6)) S G 1 3 rfl rfl (k_vp (by decide)) rfl dX5_homes_18 ?_
        refine o_ri (cells' := 0) (slots' := 0) G rfl rfl (n_V (As := []) (rest := [.int x4_1]) (C := RX8) (T := TX8) (N := 8) (ci := 6) S G (s_isHome l X (an 6) (fun k => v (50 + k)) H.size) gX5_homes_X8_isHome rfl rfl rfl hdV_X8_isHome ⟨Nat.le_of_ble_eq_true rfl, Nat.le_of_ble_eq_true rfl⟩ [7] rfl rfl 7 rfl rfl rfl hl.1 (Nat.le_of_ble_eq_true rfl) dX5_homes_19 ⟨Nat.le_of_ble_eq_true rfl, Nat.le_of_ble_eq_true rfl⟩) (fun r_17 u_17 H locs hp_17 G => ?_)
        have G : wd X (fun _ => True) (va_A [] sz) s (rcW X hn an v b g) H locs := G
        refine k_cutW (PP := fun Wx => ∀ (x_19 : Int32) (H : Heap) (locs : List Loc) (ls : Array Slot), wd X (fun _ => True) (va_A [] sz) s (rcW X hn an v b g) H locs → lv_has ls 3 [(2, .int 5), (1, .int x4_1), (0, .ref hn)] → Wx (F0 m 30 ls [.int x_19, .int x4_1]) H locs) ?_ ?_
        · intro join_22
          refine lv_if_eq (tgt := 29) zx zb dX5_homes_22 (by decide) (fun c_18 => ?_) (fun c_18 => ?_)
          · refine lv_iconst (v := 0) zx zb dX5_homes_29 (by decide) ?_
            exact join_22 0 _ _ _  G hl
          · refine lv_iconst (v := 1) zx zb dX5_homes_25 (by decide) ?_
            refine lv_goto (tgt := 30) zx zb dX5_homes_26 (by decide) ?_
            exact join_22 1 _ _ _  G hl
        · intro x_19 H locs ls  G hl
          refine r_iadd (v := (x4_1 + x_19)) S rfl dX5_homes_30 ?_
          refine lv_istore_n (lv' := [(1, .int (x4_1 + x_19)), (2, .int 5), (0, .ref hn)]) zx zb dX5_homes_31 rfl hl (by decide) rfl (fun ls hl => ?_)
          refine lv_iinc (v := 6) (lv' := [(2, .int 6), (1, .int (x4_1 + x_19)), (0, .ref hn)]) zx zb dX5_homes_32 hl (k := 1) rfl (by decide) (by decide) rfl (fun ls hl => ?_)
          refine lv_goto (tgt := 4) zx zb dX5_homes_35 (by decide) ?_
          exact ih4 6 (x4_1 + x_19) _ _ _ (by omega) (by omega) G hl
theorem in_X5_placesTogether_X5 : ∀ w ∈ wsX50, w ∈ wsX5_placesTogether := by decide +kernel
theorem lk_X5_placesTogether_18 : Cond.fieldLink RX5 18 "EggSpoons$Race" "runners" "I" ∈ wsX5_placesTogether := by decide +kernel
theorem lk_X5_placesTogether_23 : Cond.fieldLink RX5 23 "EggSpoons$Race" "row" "[LEggSpoons$Runner;" ∈ wsX5_placesTogether := by decide +kernel
theorem in_X5_placesTogether_X8 : ∀ w ∈ wsX80, w ∈ wsX5_placesTogether := by decide +kernel
theorem lk_X5_placesTogether_88 : Cond.fieldLink RX5 88 "EggSpoons$Runner" "place" "I" ∈ wsX5_placesTogether := by decide +kernel
set_option maxHeartbeats 4000000 in
set_option maxRecDepth 100000 in
/-- placesTogether -/
theorem s_places (l : Launch) (X : EX) (hn : Nat) (an : Nat → Nat) (v : Nat → Int32) (b : Nat → Nat) (g : Nat → Nat → Int32) (hI_b : InR b) (sz : Nat) : Met l yX5_placesTogether wsX5_placesTogether ({ frames := 0, cells := 0, slots := 0, locals := 0 } : Room) (pE X [.ref hn] (rcW X hn an v b g) sz) (qI (fun (r : Int32) (u : Unit) => True) X (fun (u : Unit) => []) [] sz) 0 0 (va_A [] sz) := by
  refine mk_met (B := (fun _ => True)) (A := (va_A [] sz)) (cc := cX5_placesTogether) (maxL := 3) (ret := (some .int)) (by decide) rfl (Nat.le_of_ble_eq_true rfl) k_ro k_a (fun p e s m below meth c S zr zlk znm zsz G ls hl => ?_)
  have S : CallFix p m c cX5_placesTogether 3 s _ wsX5_placesTogether RX5 := S
  have zx := S.1
  have zb := S.2.1
  have hl : lv_has ls 3 [(0, .ref hn)] := hl
  have hO_b := hI_b
  obtain ⟨hb0_b, hb1_b, hb2_b, hb3_b, hb4_b⟩ := hO_b
  refine lv_iconst (v := 0) zx zb dX5_placesTogether_0 (by decide) ?_
  refine lv_istore_n (lv' := [(1, .int 0), (0, .ref hn)]) zx zb dX5_placesTogether_1 rfl hl (by decide) rfl (fun ls hl => ?_)
  refine lv_iconst (v := 0) zx zb dX5_placesTogether_2 (by decide) ?_
  refine lv_istore_n (lv' := [(2, .int 0), (1, .int 0), (0, .ref hn)]) zx zb dX5_placesTogether_3 rfl hl (by decide) rfl (fun ls hl => ?_)
  refine k_loop (P := ∀ (zm : Nat) (k4 : Nat) (x4_1 : Int32) (H : Heap) (locs : List Loc) (ls : Array Slot), 6 + 1 ≤ k4 + zm → (k4 ≤ 6) → wd X (fun _ => True) (va_A [] sz) s (rcW X hn an v b g) H locs → lv_has ls 3 [(2, .int (nI k4)), (1, .int x4_1), (0, .ref hn)] → W p l e _ s m _ below meth c H locs _ _ _ (F0 m 4 ls [])) (fun loop => loop (6 + 1) 0 0 _ _ _ (by omega) (by omega) G hl) ?_
  intro zm
  induction zm with
  | zero => intro k4 x4_1 H locs ls zz q_hk_k4 _ _; exact absurd zz (by omega)
  | succ zm ih4 =>
    intro k4 x4_1 H locs ls zm_4 hk_k4 G hl
    refine lv_iload_n zx zb dX5_placesTogether_4 rfl (lv_at hl 0 rfl) ?_
    refine lv_aload_n zx zb dX5_placesTogether_5 rfl (lv_at hl 2 rfl) ?_
    refine r_get (C := RX5) (T := TX5) (N := 8) (ci := 3) (v := .int (nI (b 0))) S in_X5_placesTogether_X5 G 0 rfl rfl 2 (by decide) lk_X5_placesTogether_18 rfl dX5_placesTogether_6 ?_
    refine lv_icmp_ge (tgt := 30) zx zb dX5_placesTogether_9 (by decide) (fun c_1 => ?_) (fun c_1 => ?_)
    · have fc_1 := j_le (a := (b 0)) (b := k4) (by omega) (by omega) c_1
      refine lv_iload_n zx zb dX5_placesTogether_30 rfl (lv_at hl 1 rfl) ?_
      exact e_int S zr zlk (vp_nar_int _) G () [] rfl rfl (Or.inl rfl) (trivial) dX5_placesTogether_31
    · have fc_1 := j_nle (a := (b 0)) (b := k4) (by omega) (by omega) c_1
      refine lv_iload_n zx zb dX5_placesTogether_12 rfl (lv_at hl 1 rfl) ?_
      refine lv_aload_n zx zb dX5_placesTogether_13 rfl (lv_at hl 2 rfl) ?_
      refine r_get (C := RX5) (T := TX5) (N := 8) (ci := 3) (v := .ref (an 0)) S in_X5_placesTogether_X5 G 0 rfl rfl 3 (by decide) lk_X5_placesTogether_23 rfl dX5_placesTogether_14 ?_
      refine lv_iload_n zx zb dX5_placesTogether_17 rfl (lv_at hl 0 rfl) ?_
      rcases k_6c (show k4 < 6 by omega) with rfl | rfl | rfl | rfl | rfl | rfl
      · refine k_it (v := 0) rfl ?_
        refine r_aald (C := RX8) (b := (an 1)) S G 1 3 rfl rfl (k_vp (by decide)) rfl dX5_placesTogether_18 ?_
        refine r_get (C := RX8) (T := TX8) (N := 8) (ci := 6) (v := .int (v 14)) S in_X5_placesTogether_X8 G 2 rfl rfl 4 (by decide) lk_X5_placesTogether_88 rfl dX5_placesTogether_19 ?_
        refine r_iadd (v := (x4_1 + (v 14))) S rfl dX5_placesTogether_22 ?_
        refine lv_istore_n (lv' := [(1, .int (x4_1 + (v 14))), (2, .int 0), (0, .ref hn)]) zx zb dX5_placesTogether_23 rfl hl (by decide) rfl (fun ls hl => ?_)
        refine lv_iinc (v := 1) (lv' := [(2, .int 1), (1, .int (x4_1 + (v 14))), (0, .ref hn)]) zx zb dX5_placesTogether_24 hl (k := 1) rfl (by decide) (by decide) rfl (fun ls hl => ?_)
        refine lv_goto (tgt := 4) zx zb dX5_placesTogether_27 (by decide) ?_
        exact ih4 1 (x4_1 + (v 14)) _ _ _ (by omega) (by omega) G hl
      · refine k_it (v := 1) rfl ?_
        refine r_aald (C := RX8) (b := (an 2)) S G 1 3 rfl rfl (k_vp (by decide)) rfl dX5_placesTogether_18 ?_
        refine r_get (C := RX8) (T := TX8) (N := 8) (ci := 6) (v := .int (v 22)) S in_X5_placesTogether_X8 G 3 rfl rfl 4 (by decide) lk_X5_placesTogether_88 rfl dX5_placesTogether_19 ?_
        refine r_iadd (v := (x4_1 + (v 22))) S rfl dX5_placesTogether_22 ?_
        refine lv_istore_n (lv' := [(1, .int (x4_1 + (v 22))), (2, .int 1), (0, .ref hn)]) zx zb dX5_placesTogether_23 rfl hl (by decide) rfl (fun ls hl => ?_)
        refine lv_iinc (v := 2) (lv' := [(2, .int 2), (1, .int (x4_1 + (v 22))), (0, .ref hn)]) zx zb dX5_placesTogether_24 hl (k := 1) rfl (by decide) (by decide) rfl (fun ls hl => ?_)
        refine lv_goto (tgt := 4) zx zb dX5_placesTogether_27 (by decide) ?_
        exact ih4 2 (x4_1 + (v 22)) _ _ _ (by omega) (by omega) G hl
      · refine k_it (v := 2) rfl ?_
        refine r_aald (C := RX8) (b := (an 3)) S G 1 3 rfl rfl (k_vp (by decide)) rfl dX5_placesTogether_18 ?_
        refine r_get (C := RX8) (T := TX8) (N := 8) (ci := 6) (v := .int (v 30)) S in_X5_placesTogether_X8 G 4 rfl rfl 4 (by decide) lk_X5_placesTogether_88 rfl dX5_placesTogether_19 ?_
        refine r_iadd (v := (x4_1 + (v 30))) S rfl dX5_placesTogether_22 ?_
        refine lv_istore_n (lv' := [(1, .int (x4_1 + (v 30))), (2, .int 2), (0, .ref hn)]) zx zb dX5_placesTogether_23 rfl hl (by decide) rfl (fun ls hl => ?_)
        refine lv_iinc (v := 3) (lv' := [(2, .int 3), (1, .int (x4_1 + (v 30))), (0, .ref hn)]) zx zb dX5_placesTogether_24 hl (k := 1) rfl (by decide) (by decide) rfl (fun ls hl => ?_)
        refine lv_goto (tgt := 4) zx zb dX5_placesTogether_27 (by decide) ?_
        exact ih4 3 (x4_1 + (v 30)) _ _ _ (by omega) (by omega) G hl
      · refine k_it (v := 3) rfl ?_
        refine r_aald (C := RX8) (b := (an 4)) S G 1 3 rfl rfl (k_vp (by decide)) rfl dX5_placesTogether_18 ?_
        refine r_get (C := RX8) (T := TX8) (N := 8) (ci := 6) (v := .int (v 38)) S in_X5_placesTogether_X8 G 5 rfl rfl 4 (by decide) lk_X5_placesTogether_88 rfl dX5_placesTogether_19 ?_
        refine r_iadd (v := (x4_1 + (v 38))) S rfl dX5_placesTogether_22 ?_
        refine lv_istore_n (lv' := [(1, .int (x4_1 + (v 38))), (2, .int 3), (0, .ref hn)]) zx zb dX5_placesTogether_23 rfl hl (by decide) rfl (fun ls hl => ?_)
        refine lv_iinc (v := 4) (lv' := [(2, .int 4), (1, .int (x4_1 + (v 38))), (0, .ref hn)]) zx zb dX5_placesTogether_24 hl (k := 1) rfl (by decide) (by decide) rfl (fun ls hl => ?_)
        refine lv_goto (tgt := 4) zx zb dX5_placesTogether_27 (by decide) ?_
        exact ih4 4 (x4_1 + (v 38)) _ _ _ (by omega) (by omega) G hl
      · refine k_it (v := 4) rfl ?_
        refine r_aald (C := RX8) (b := (an 5)) S G 1 3 rfl rfl (k_vp (by decide)) rfl dX5_placesTogether_18 ?_
        refine r_get (C := RX8) (T := TX8) (N := 8) (ci := 6) (v := .int (v 46)) S in_X5_placesTogether_X8 G 6 rfl rfl 4 (by decide) lk_X5_placesTogether_88 rfl dX5_placesTogether_19 ?_
        refine r_iadd (v := (x4_1 + (v 46))) S rfl dX5_placesTogether_22 ?_
        refine lv_istore_n (lv' := [(1, .int (x4_1 + (v 46))), (2, .int 4), (0, .ref hn)]) zx zb dX5_placesTogether_23 rfl hl (by decide) rfl (fun ls hl => ?_)
        refine lv_iinc (v := 5) (lv' := [(2, .int 5), (1, .int (x4_1 + (v 46))), (0, .ref hn)]) zx zb dX5_placesTogether_24 hl (k := 1) rfl (by decide) (by decide) rfl (fun ls hl => ?_)
        refine lv_goto (tgt := 4) zx zb dX5_placesTogether_27 (by decide) ?_
        exact ih4 5 (x4_1 + (v 46)) _ _ _ (by omega) (by omega) G hl
      · refine k_it (v := 5) rfl ?_
        refine r_aald (C := RX8) (b := (an 6)) S G 1 3 rfl rfl (k_vp (by decide)) rfl dX5_placesTogether_18 ?_
        refine r_get (C := RX8) (T := TX8) (N := 8) (ci := 6) (v := .int (v 54)) S in_X5_placesTogether_X8 G 7 rfl rfl 4 (by decide) lk_X5_placesTogether_88 rfl dX5_placesTogether_19 ?_
        refine r_iadd (v := (x4_1 + (v 54))) S rfl dX5_placesTogether_22 ?_
        refine lv_istore_n (lv' := [(1, .int (x4_1 + (v 54))), (2, .int 5), (0, .ref hn)]) zx zb dX5_placesTogether_23 rfl hl (by decide) rfl (fun ls hl => ?_)
        refine lv_iinc (v := 6) (lv' := [(2, .int 6), (1, .int (x4_1 + (v 54))), (0, .ref hn)]) zx zb dX5_placesTogether_24 hl (k := 1) rfl (by decide) (by decide) rfl (fun ls hl => ?_)
        refine lv_goto (tgt := 4) zx zb dX5_placesTogether_27 (by decide) ?_
        exact ih4 6 (x4_1 + (v 54)) _ _ _ (by omega) (by omega) G hl
theorem in_X5_dropsTogether_X5 : ∀ w ∈ wsX50, w ∈ wsX5_dropsTogether := by decide +kernel
theorem lk_X5_dropsTogether_18 : Cond.fieldLink RX5 18 "EggSpoons$Race" "runners" "I" ∈ wsX5_dropsTogether := by decide +kernel
theorem lk_X5_dropsTogether_23 : Cond.fieldLink RX5 23 "EggSpoons$Race" "row" "[LEggSpoons$Runner;" ∈ wsX5_dropsTogether := by decide +kernel
theorem in_X5_dropsTogether_X8 : ∀ w ∈ wsX80, w ∈ wsX5_dropsTogether := by decide +kernel
theorem lk_X5_dropsTogether_91 : Cond.fieldLink RX5 91 "EggSpoons$Runner" "drops" "I" ∈ wsX5_dropsTogether := by decide +kernel
set_option maxHeartbeats 4000000 in
set_option maxRecDepth 100000 in
/-- dropsTogether -/
theorem s_drops (l : Launch) (X : EX) (hn : Nat) (an : Nat → Nat) (v : Nat → Int32) (b : Nat → Nat) (g : Nat → Nat → Int32) (hI_b : InR b) (sz : Nat) : Met l yX5_dropsTogether wsX5_dropsTogether ({ frames := 0, cells := 0, slots := 0, locals := 0 } : Room) (pE X [.ref hn] (rcW X hn an v b g) sz) (qI (fun (r : Int32) (u : Unit) => True) X (fun (u : Unit) => []) [] sz) 0 0 (va_A [] sz) := by
  refine mk_met (B := (fun _ => True)) (A := (va_A [] sz)) (cc := cX5_dropsTogether) (maxL := 3) (ret := (some .int)) (by decide) rfl (Nat.le_of_ble_eq_true rfl) k_ro k_a (fun p e s m below meth c S zr zlk znm zsz G ls hl => ?_)
  have S : CallFix p m c cX5_dropsTogether 3 s _ wsX5_dropsTogether RX5 := S
  have zx := S.1
  have zb := S.2.1
  have hl : lv_has ls 3 [(0, .ref hn)] := hl
  have hO_b := hI_b
  obtain ⟨hb0_b, hb1_b, hb2_b, hb3_b, hb4_b⟩ := hO_b
  refine lv_iconst (v := 0) zx zb dX5_dropsTogether_0 (by decide) ?_
  refine lv_istore_n (lv' := [(1, .int 0), (0, .ref hn)]) zx zb dX5_dropsTogether_1 rfl hl (by decide) rfl (fun ls hl => ?_)
  refine lv_iconst (v := 0) zx zb dX5_dropsTogether_2 (by decide) ?_
  refine lv_istore_n (lv' := [(2, .int 0), (1, .int 0), (0, .ref hn)]) zx zb dX5_dropsTogether_3 rfl hl (by decide) rfl (fun ls hl => ?_)
  refine k_loop (P := ∀ (zm : Nat) (k4 : Nat) (x4_1 : Int32) (H : Heap) (locs : List Loc) (ls : Array Slot), 6 + 1 ≤ k4 + zm → (k4 ≤ 6) → wd X (fun _ => True) (va_A [] sz) s (rcW X hn an v b g) H locs → lv_has ls 3 [(2, .int (nI k4)), (1, .int x4_1), (0, .ref hn)] → W p l e _ s m _ below meth c H locs _ _ _ (F0 m 4 ls [])) (fun loop => loop (6 + 1) 0 0 _ _ _ (by omega) (by omega) G hl) ?_
  intro zm
  induction zm with
  | zero => intro k4 x4_1 H locs ls zz q_hk_k4 _ _; exact absurd zz (by omega)
  | succ zm ih4 =>
    intro k4 x4_1 H locs ls zm_4 hk_k4 G hl
    refine lv_iload_n zx zb dX5_dropsTogether_4 rfl (lv_at hl 0 rfl) ?_
    refine lv_aload_n zx zb dX5_dropsTogether_5 rfl (lv_at hl 2 rfl) ?_
    refine r_get (C := RX5) (T := TX5) (N := 8) (ci := 3) (v := .int (nI (b 0))) S in_X5_dropsTogether_X5 G 0 rfl rfl 2 (by decide) lk_X5_dropsTogether_18 rfl dX5_dropsTogether_6 ?_
    refine lv_icmp_ge (tgt := 30) zx zb dX5_dropsTogether_9 (by decide) (fun c_1 => ?_) (fun c_1 => ?_)
    · have fc_1 := j_le (a := (b 0)) (b := k4) (by omega) (by omega) c_1
      refine lv_iload_n zx zb dX5_dropsTogether_30 rfl (lv_at hl 1 rfl) ?_
      exact e_int S zr zlk (vp_nar_int _) G () [] rfl rfl (Or.inl rfl) (trivial) dX5_dropsTogether_31
    · have fc_1 := j_nle (a := (b 0)) (b := k4) (by omega) (by omega) c_1
      refine lv_iload_n zx zb dX5_dropsTogether_12 rfl (lv_at hl 1 rfl) ?_
      refine lv_aload_n zx zb dX5_dropsTogether_13 rfl (lv_at hl 2 rfl) ?_
      refine r_get (C := RX5) (T := TX5) (N := 8) (ci := 3) (v := .ref (an 0)) S in_X5_dropsTogether_X5 G 0 rfl rfl 3 (by decide) lk_X5_dropsTogether_23 rfl dX5_dropsTogether_14 ?_
      refine lv_iload_n zx zb dX5_dropsTogether_17 rfl (lv_at hl 0 rfl) ?_
      rcases k_6c (show k4 < 6 by omega) with rfl | rfl | rfl | rfl | rfl | rfl
      · refine k_it (v := 0) rfl ?_
        refine r_aald (C := RX8) (b := (an 1)) S G 1 3 rfl rfl (k_vp (by decide)) rfl dX5_dropsTogether_18 ?_
        refine r_get (C := RX8) (T := TX8) (N := 8) (ci := 6) (v := .int (v 15)) S in_X5_dropsTogether_X8 G 2 rfl rfl 5 (by decide) lk_X5_dropsTogether_91 rfl dX5_dropsTogether_19 ?_
        refine r_iadd (v := (x4_1 + (v 15))) S rfl dX5_dropsTogether_22 ?_
        refine lv_istore_n (lv' := [(1, .int (x4_1 + (v 15))), (2, .int 0), (0, .ref hn)]) zx zb dX5_dropsTogether_23 rfl hl (by decide) rfl (fun ls hl => ?_)
        refine lv_iinc (v := 1) (lv' := [(2, .int 1), (1, .int (x4_1 + (v 15))), (0, .ref hn)]) zx zb dX5_dropsTogether_24 hl (k := 1) rfl (by decide) (by decide) rfl (fun ls hl => ?_)
        refine lv_goto (tgt := 4) zx zb dX5_dropsTogether_27 (by decide) ?_
        exact ih4 1 (x4_1 + (v 15)) _ _ _ (by omega) (by omega) G hl
      · refine k_it (v := 1) rfl ?_
        refine r_aald (C := RX8) (b := (an 2)) S G 1 3 rfl rfl (k_vp (by decide)) rfl dX5_dropsTogether_18 ?_
        refine r_get (C := RX8) (T := TX8) (N := 8) (ci := 6) (v := .int (v 23)) S in_X5_dropsTogether_X8 G 3 rfl rfl 5 (by decide) lk_X5_dropsTogether_91 rfl dX5_dropsTogether_19 ?_
        refine r_iadd (v := (x4_1 + (v 23))) S rfl dX5_dropsTogether_22 ?_
        refine lv_istore_n (lv' := [(1, .int (x4_1 + (v 23))), (2, .int 1), (0, .ref hn)]) zx zb dX5_dropsTogether_23 rfl hl (by decide) rfl (fun ls hl => ?_)
        refine lv_iinc (v := 2) (lv' := [(2, .int 2), (1, .int (x4_1 + (v 23))), (0, .ref hn)]) zx zb dX5_dropsTogether_24 hl (k := 1) rfl (by decide) (by decide) rfl (fun ls hl => ?_)
        refine lv_goto (tgt := 4) zx zb dX5_dropsTogether_27 (by decide) ?_
        exact ih4 2 (x4_1 + (v 23)) _ _ _ (by omega) (by omega) G hl
      · refine k_it (v := 2) rfl ?_
        refine r_aald (C := RX8) (b := (an 3)) S G 1 3 rfl rfl (k_vp (by decide)) rfl dX5_dropsTogether_18 ?_
        refine r_get (C := RX8) (T := TX8) (N := 8) (ci := 6) (v := .int (v 31)) S in_X5_dropsTogether_X8 G 4 rfl rfl 5 (by decide) lk_X5_dropsTogether_91 rfl dX5_dropsTogether_19 ?_
        refine r_iadd (v := (x4_1 + (v 31))) S rfl dX5_dropsTogether_22 ?_
        refine lv_istore_n (lv' := [(1, .int (x4_1 + (v 31))), (2, .int 2), (0, .ref hn)]) zx zb dX5_dropsTogether_23 rfl hl (by decide) rfl (fun ls hl => ?_)
        refine lv_iinc (v := 3) (lv' := [(2, .int 3), (1, .int (x4_1 + (v 31))), (0, .ref hn)]) zx zb dX5_dropsTogether_24 hl (k := 1) rfl (by decide) (by decide) rfl (fun ls hl => ?_)
        refine lv_goto (tgt := 4) zx zb dX5_dropsTogether_27 (by decide) ?_
        exact ih4 3 (x4_1 + (v 31)) _ _ _ (by omega) (by omega) G hl
      · refine k_it (v := 3) rfl ?_
        refine r_aald (C := RX8) (b := (an 4)) S G 1 3 rfl rfl (k_vp (by decide)) rfl dX5_dropsTogether_18 ?_
        refine r_get (C := RX8) (T := TX8) (N := 8) (ci := 6) (v := .int (v 39)) S in_X5_dropsTogether_X8 G 5 rfl rfl 5 (by decide) lk_X5_dropsTogether_91 rfl dX5_dropsTogether_19 ?_
        refine r_iadd (v := (x4_1 + (v 39))) S rfl dX5_dropsTogether_22 ?_
        refine lv_istore_n (lv' := [(1, .int (x4_1 + (v 39))), (2, .int 3), (0, .ref hn)]) zx zb dX5_dropsTogether_23 rfl hl (by decide) rfl (fun ls hl => ?_)
        refine lv_iinc (v := 4) (lv' := [(2, .int 4), (1, .int (x4_1 + (v 39))), (0, .ref hn)]) zx zb dX5_dropsTogether_24 hl (k := 1) rfl (by decide) (by decide) rfl (fun ls hl => ?_)
        refine lv_goto (tgt := 4) zx zb dX5_dropsTogether_27 (by decide) ?_
        exact ih4 4 (x4_1 + (v 39)) _ _ _ (by omega) (by omega) G hl
      · refine k_it (v := 4) rfl ?_
        refine r_aald (C := RX8) (b := (an 5)) S G 1 3 rfl rfl (k_vp (by decide)) rfl dX5_dropsTogether_18 ?_
        refine r_get (C := RX8) (T := TX8) (N := 8) (ci := 6) (v := .int (v 47)) S in_X5_dropsTogether_X8 G 6 rfl rfl 5 (by decide) lk_X5_dropsTogether_91 rfl dX5_dropsTogether_19 ?_
        refine r_iadd (v := (x4_1 + (v 47))) S rfl dX5_dropsTogether_22 ?_
        refine lv_istore_n (lv' := [(1, .int (x4_1 + (v 47))), (2, .int 4), (0, .ref hn)]) zx zb dX5_dropsTogether_23 rfl hl (by decide) rfl (fun ls hl => ?_)
        refine lv_iinc (v := 5) (lv' := [(2, .int 5), (1, .int (x4_1 + (v 47))), (0, .ref hn)]) zx zb dX5_dropsTogether_24 hl (k := 1) rfl (by decide) (by decide) rfl (fun ls hl => ?_)
        refine lv_goto (tgt := 4) zx zb dX5_dropsTogether_27 (by decide) ?_
        exact ih4 5 (x4_1 + (v 47)) _ _ _ (by omega) (by omega) G hl
      · refine k_it (v := 5) rfl ?_
        refine r_aald (C := RX8) (b := (an 6)) S G 1 3 rfl rfl (k_vp (by decide)) rfl dX5_dropsTogether_18 ?_
        refine r_get (C := RX8) (T := TX8) (N := 8) (ci := 6) (v := .int (v 55)) S in_X5_dropsTogether_X8 G 7 rfl rfl 5 (by decide) lk_X5_dropsTogether_91 rfl dX5_dropsTogether_19 ?_
        refine r_iadd (v := (x4_1 + (v 55))) S rfl dX5_dropsTogether_22 ?_
        refine lv_istore_n (lv' := [(1, .int (x4_1 + (v 55))), (2, .int 5), (0, .ref hn)]) zx zb dX5_dropsTogether_23 rfl hl (by decide) rfl (fun ls hl => ?_)
        refine lv_iinc (v := 6) (lv' := [(2, .int 6), (1, .int (x4_1 + (v 55))), (0, .ref hn)]) zx zb dX5_dropsTogether_24 hl (k := 1) rfl (by decide) (by decide) rfl (fun ls hl => ?_)
        refine lv_goto (tgt := 4) zx zb dX5_dropsTogether_27 (by decide) ?_
        exact ih4 6 (x4_1 + (v 55)) _ _ _ (by omega) (by omega) G hl
theorem in_X5_legsThatFit_X5 : ∀ w ∈ wsX50, w ∈ wsX5_legsThatFit := by decide +kernel
theorem lk_X5_legsThatFit_39 : Cond.fieldLink RX5 39 "EggSpoons$Race" "seenRows" "LEggSpoons$Rows;" ∈ wsX5_legsThatFit := by decide +kernel
theorem lk_X5_legsThatFit_23 : Cond.fieldLink RX5 23 "EggSpoons$Race" "row" "[LEggSpoons$Runner;" ∈ wsX5_legsThatFit := by decide +kernel
theorem in_X5_legsThatFit_X8 : ∀ w ∈ wsX80, w ∈ wsX5_legsThatFit := by decide +kernel
theorem lk_X5_legsThatFit_94 : Cond.fieldLink RX5 94 "EggSpoons$Runner" "kind" "I" ∈ wsX5_legsThatFit := by decide +kernel
theorem hdV_X7_fitRunner : yX7_fitRunner.cls = RX7 ∧ yX7_fitRunner.cls ≠ "java/lang/invoke/MethodHandle" ∧ yX7_fitRunner.cls ≠ "java/lang/invoke/VarHandle" ∧ (parseMethodDescriptor yX7_fitRunner.desc).map (fun d => d.parameters.length) = some 3 := by decide +kernel
set_option maxHeartbeats 4000000 in
set_option maxRecDepth 100000 in
/-- legsThatFit -/
theorem s_legsThatFit (l : Launch) (X : EX) (hn : Nat) (an : Nat → Nat) (v : Nat → Int32) (b : Nat → Nat) (g : Nat → Nat → Int32) (i : Nat) (hI_b : InR b) (hi6 : i < 6) (sz : Nat) : Met l yX5_legsThatFit wsX5_legsThatFit ({ frames := 2, cells := 0, slots := 0, locals := 52 } : Room) (pE X [.ref hn, .int (nI i)] (rcW X hn an v b g) sz) (qI (fun (r : Int32) (u : Unit) => True) X (fun (u : Unit) => []) [] sz) 0 0 (va_A [] sz) := by
  refine mk_met (B := (fun _ => True)) (A := (va_A [] sz)) (cc := cX5_legsThatFit) (maxL := 4) (ret := (some .int)) (by decide) rfl (Nat.le_of_ble_eq_true rfl) k_ro k_a (fun p e s m below meth c S zr zlk znm zsz G ls hl => ?_)
  have S : CallFix p m c cX5_legsThatFit 4 s _ wsX5_legsThatFit RX5 := S
  have zx := S.1
  have zb := S.2.1
  have hl : lv_has ls 4 [(0, .ref hn), (1, .int (nI i))] := hl
  have hO_b := hI_b
  obtain ⟨hb0_b, hb1_b, hb2_b, hb3_b, hb4_b⟩ := hO_b
  refine lv_iconst (v := 0) zx zb dX5_legsThatFit_0 (by decide) ?_
  refine lv_istore_n (lv' := [(2, .int 0), (0, .ref hn), (1, .int (nI i))]) zx zb dX5_legsThatFit_1 rfl hl (by decide) rfl (fun ls hl => ?_)
  refine lv_iconst (v := 1) zx zb dX5_legsThatFit_2 (by decide) ?_
  refine lv_istore_n (lv' := [(3, .int 1), (2, .int 0), (0, .ref hn), (1, .int (nI i))]) zx zb dX5_legsThatFit_3 rfl hl (by decide) rfl (fun ls hl => ?_)
  refine k_loop (P := ∀ (zm : Nat) (k4 : Nat) (x4_2 : Int32) (H : Heap) (locs : List Loc) (ls : Array Slot), 10 + 1 ≤ k4 + zm → (k4 ≤ 10) → wd X (fun _ => True) (va_A [] sz) s (rcW X hn an v b g) H locs → lv_has ls 4 [(3, .int (nI k4)), (2, .int x4_2), (0, .ref hn), (1, .int (nI i))] → W p l e _ s m _ below meth c H locs _ _ _ (F0 m 4 ls [])) (fun loop => loop (10 + 1) 1 0 _ _ _ (by omega) (by omega) G hl) ?_
  intro zm
  induction zm with
  | zero => intro k4 x4_2 H locs ls zz q_hk_k4 _ _; exact absurd zz (by omega)
  | succ zm ih4 =>
    intro k4 x4_2 H locs ls zm_4 hk_k4 G hl
    refine lv_iload_n zx zb dX5_legsThatFit_4 rfl (lv_at hl 0 rfl) ?_
    refine lv_bipush (v := 9) zx zb dX5_legsThatFit_5 (by decide) ?_
    refine lv_icmp_gt (tgt := 47) zx zb dX5_legsThatFit_7 (by decide) (fun c_1 => ?_) (fun c_1 => ?_)
    · have fc_1 := j_lt (a := 9) (b := k4) (by omega) (by omega) c_1
      refine lv_iload_n zx zb dX5_legsThatFit_47 rfl (lv_at hl 1 rfl) ?_
      exact e_int S zr zlk (vp_nar_int _) G () [] rfl rfl (Or.inl rfl) (trivial) dX5_legsThatFit_48
    · have fc_1 := j_nlt (a := 9) (b := k4) (by omega) (by omega) c_1
      refine lv_iload_n zx zb dX5_legsThatFit_10 rfl (lv_at hl 1 rfl) ?_
      refine lv_aload_n zx zb dX5_legsThatFit_11 rfl (lv_at hl 2 rfl) ?_
      refine r_get (C := RX5) (T := TX5) (N := 8) (ci := 3) (v := .ref (an 9)) S in_X5_legsThatFit_X5 G 0 rfl rfl 5 (by decide) lk_X5_legsThatFit_39 rfl dX5_legsThatFit_12 ?_
      refine lv_iload_n zx zb dX5_legsThatFit_15 rfl (lv_at hl 3 rfl) ?_
      refine lv_aload_n zx zb dX5_legsThatFit_16 rfl (lv_at hl 2 rfl) ?_
      refine r_get (C := RX5) (T := TX5) (N := 8) (ci := 3) (v := .ref (an 0)) S in_X5_legsThatFit_X5 G 0 rfl rfl 3 (by decide) lk_X5_legsThatFit_23 rfl dX5_legsThatFit_17 ?_
      refine lv_iload_n zx zb dX5_legsThatFit_20 rfl (lv_at hl 3 rfl) ?_
      rcases k_6c (show i < 6 by omega) with rfl | rfl | rfl | rfl | rfl | rfl
      · refine k_it (v := 0) rfl ?_
        refine r_aald (C := RX8) (b := (an 1)) S G 1 3 rfl rfl (k_vp (by decide)) rfl dX5_legsThatFit_21 ?_
        refine r_get (C := RX8) (T := TX8) (N := 8) (ci := 6) (v := .int (v 10)) S in_X5_legsThatFit_X8 G 2 rfl rfl 0 (by decide) lk_X5_legsThatFit_94 rfl dX5_legsThatFit_22 ?_
        refine lv_iload_n zx zb dX5_legsThatFit_25 rfl (lv_at hl 0 rfl) ?_
        refine o_ri (cells' := 0) (slots' := 0) G rfl rfl (n_V (As := [.int 0, .int (v 10), .int (nI k4)]) (rest := [.int x4_2]) (C := RX7) (T := TX7) (N := 5) (ci := 5) S G (s_fitRunner0 l X (an 9) (an 10) (b 2) (g 1) 0 (v 10) (nI k4) hb2_b H.size) gX5_legsThatFit_X7_fitRunner rfl rfl rfl hdV_X7_fitRunner ⟨Nat.le_of_ble_eq_true rfl, Nat.le_of_ble_eq_true rfl⟩ [10, 11] rfl rfl 10 rfl rfl rfl hl.1 (Nat.le_of_ble_eq_true rfl) dX5_legsThatFit_26 ⟨Nat.le_of_ble_eq_true rfl, Nat.le_of_ble_eq_true rfl⟩) (fun r_2 u_2 H locs hp_2 G => ?_)
        have G : wd X (fun _ => True) (va_A [] sz) s (rcW X hn an v b g) H locs := G
        refine k_cutW (PP := fun Wx => ∀ (x_4 : Int32) (H : Heap) (locs : List Loc) (ls : Array Slot), wd X (fun _ => True) (va_A [] sz) s (rcW X hn an v b g) H locs → lv_has ls 4 [(3, .int (nI k4)), (2, .int x4_2), (0, .ref hn), (1, .int 0)] → Wx (F0 m 39 ls [.int x_4, .int x4_2]) H locs) ?_ ?_
        · intro join_29
          refine lv_if_eq (tgt := 38) zx zb dX5_legsThatFit_29 (by decide) (fun c_3 => ?_) (fun c_3 => ?_)
          · refine lv_iconst (v := 0) zx zb dX5_legsThatFit_38 (by decide) ?_
            exact join_29 0 _ _ _  G hl
          · refine lv_iconst (v := 1) zx zb dX5_legsThatFit_32 (by decide) ?_
            refine lv_iload_n zx zb dX5_legsThatFit_33 rfl (lv_at hl 0 rfl) ?_
            refine lv_ishl zx zb dX5_legsThatFit_34 ?_
            refine k_itE (fun y_5 => ?_)
            refine lv_goto (tgt := 39) zx zb dX5_legsThatFit_35 (by decide) ?_
            exact join_29 y_5 _ _ _  G hl
        · intro x_4 H locs ls  G hl
          refine lv_ior zx zb dX5_legsThatFit_39 ?_
          refine k_itE (fun y_6 => ?_)
          refine lv_istore_n (lv' := [(2, .int y_6), (3, .int (nI k4)), (0, .ref hn), (1, .int 0)]) zx zb dX5_legsThatFit_40 rfl hl (by decide) rfl (fun ls hl => ?_)
          refine lv_iinc (v := (nI (k4 + 1))) (lv' := [(3, .int (nI (k4 + 1))), (2, .int y_6), (0, .ref hn), (1, .int 0)]) zx zb dX5_legsThatFit_41 hl (k := 1) rfl (nI_add k4 1) (by decide) rfl (fun ls hl => ?_)
          refine lv_goto (tgt := 4) zx zb dX5_legsThatFit_44 (by decide) ?_
          exact ih4 (k4 + 1) y_6 _ _ _ (by omega) (by omega) G hl
      · refine k_it (v := 1) rfl ?_
        refine r_aald (C := RX8) (b := (an 2)) S G 1 3 rfl rfl (k_vp (by decide)) rfl dX5_legsThatFit_21 ?_
        refine r_get (C := RX8) (T := TX8) (N := 8) (ci := 6) (v := .int (v 18)) S in_X5_legsThatFit_X8 G 3 rfl rfl 0 (by decide) lk_X5_legsThatFit_94 rfl dX5_legsThatFit_22 ?_
        refine lv_iload_n zx zb dX5_legsThatFit_25 rfl (lv_at hl 0 rfl) ?_
        refine o_ri (cells' := 0) (slots' := 0) G rfl rfl (n_V (As := [.int 1, .int (v 18), .int (nI k4)]) (rest := [.int x4_2]) (C := RX7) (T := TX7) (N := 5) (ci := 5) S G (s_fitRunner0 l X (an 9) (an 10) (b 2) (g 1) 1 (v 18) (nI k4) hb2_b H.size) gX5_legsThatFit_X7_fitRunner rfl rfl rfl hdV_X7_fitRunner ⟨Nat.le_of_ble_eq_true rfl, Nat.le_of_ble_eq_true rfl⟩ [10, 11] rfl rfl 10 rfl rfl rfl hl.1 (Nat.le_of_ble_eq_true rfl) dX5_legsThatFit_26 ⟨Nat.le_of_ble_eq_true rfl, Nat.le_of_ble_eq_true rfl⟩) (fun r_7 u_7 H locs hp_7 G => ?_)
        have G : wd X (fun _ => True) (va_A [] sz) s (rcW X hn an v b g) H locs := G
        refine k_cutW (PP := fun Wx => ∀ (x_9 : Int32) (H : Heap) (locs : List Loc) (ls : Array Slot), wd X (fun _ => True) (va_A [] sz) s (rcW X hn an v b g) H locs → lv_has ls 4 [(3, .int (nI k4)), (2, .int x4_2), (0, .ref hn), (1, .int 1)] → Wx (F0 m 39 ls [.int x_9, .int x4_2]) H locs) ?_ ?_
        · intro join_29
          refine lv_if_eq (tgt := 38) zx zb dX5_legsThatFit_29 (by decide) (fun c_8 => ?_) (fun c_8 => ?_)
          · refine lv_iconst (v := 0) zx zb dX5_legsThatFit_38 (by decide) ?_
            exact join_29 0 _ _ _  G hl
          · refine lv_iconst (v := 1) zx zb dX5_legsThatFit_32 (by decide) ?_
            refine lv_iload_n zx zb dX5_legsThatFit_33 rfl (lv_at hl 0 rfl) ?_
            refine lv_ishl zx zb dX5_legsThatFit_34 ?_
            refine k_itE (fun y_10 => ?_)
            refine lv_goto (tgt := 39) zx zb dX5_legsThatFit_35 (by decide) ?_
            exact join_29 y_10 _ _ _  G hl
        · intro x_9 H locs ls  G hl
          refine lv_ior zx zb dX5_legsThatFit_39 ?_
          refine k_itE (fun y_11 => ?_)
          refine lv_istore_n (lv' := [(2, .int y_11), (3, .int (nI k4)), (0, .ref hn), (1, .int 1)]) zx zb dX5_legsThatFit_40 rfl hl (by decide) rfl (fun ls hl => ?_)
          refine lv_iinc (v := (nI (k4 + 1))) (lv' := [(3, .int (nI (k4 + 1))), (2, .int y_11), (0, .ref hn), (1, .int 1)]) zx zb dX5_legsThatFit_41 hl (k := 1) rfl (nI_add k4 1) (by decide) rfl (fun ls hl => ?_)
          refine lv_goto (tgt := 4) zx zb dX5_legsThatFit_44 (by decide) ?_
          exact ih4 (k4 + 1) y_11 _ _ _ (by omega) (by omega) G hl
      · refine k_it (v := 2) rfl ?_
        refine r_aald (C := RX8) (b := (an 3)) S G 1 3 rfl rfl (k_vp (by decide)) rfl dX5_legsThatFit_21 ?_
        refine r_get (C := RX8) (T := TX8) (N := 8) (ci := 6) (v := .int (v 26)) S in_X5_legsThatFit_X8 G 4 rfl rfl 0 (by decide) lk_X5_legsThatFit_94 rfl dX5_legsThatFit_22 ?_
        refine lv_iload_n zx zb dX5_legsThatFit_25 rfl (lv_at hl 0 rfl) ?_
        refine o_ri (cells' := 0) (slots' := 0) G rfl rfl (n_V (As := [.int 2, .int (v 26), .int (nI k4)]) (rest := [.int x4_2]) (C := RX7) (T := TX7) (N := 5) (ci := 5) S G (s_fitRunner0 l X (an 9) (an 10) (b 2) (g 1) 2 (v 26) (nI k4) hb2_b H.size) gX5_legsThatFit_X7_fitRunner rfl rfl rfl hdV_X7_fitRunner ⟨Nat.le_of_ble_eq_true rfl, Nat.le_of_ble_eq_true rfl⟩ [10, 11] rfl rfl 10 rfl rfl rfl hl.1 (Nat.le_of_ble_eq_true rfl) dX5_legsThatFit_26 ⟨Nat.le_of_ble_eq_true rfl, Nat.le_of_ble_eq_true rfl⟩) (fun r_12 u_12 H locs hp_12 G => ?_)
        have G : wd X (fun _ => True) (va_A [] sz) s (rcW X hn an v b g) H locs := G
        refine k_cutW (PP := fun Wx => ∀ (x_14 : Int32) (H : Heap) (locs : List Loc) (ls : Array Slot), wd X (fun _ => True) (va_A [] sz) s (rcW X hn an v b g) H locs → lv_has ls 4 [(3, .int (nI k4)), (2, .int x4_2), (0, .ref hn), (1, .int 2)] → Wx (F0 m 39 ls [.int x_14, .int x4_2]) H locs) ?_ ?_
        · intro join_29
          refine lv_if_eq (tgt := 38) zx zb dX5_legsThatFit_29 (by decide) (fun c_13 => ?_) (fun c_13 => ?_)
          · refine lv_iconst (v := 0) zx zb dX5_legsThatFit_38 (by decide) ?_
            exact join_29 0 _ _ _  G hl
          · refine lv_iconst (v := 1) zx zb dX5_legsThatFit_32 (by decide) ?_
            refine lv_iload_n zx zb dX5_legsThatFit_33 rfl (lv_at hl 0 rfl) ?_
            refine lv_ishl zx zb dX5_legsThatFit_34 ?_
            refine k_itE (fun y_15 => ?_)
            refine lv_goto (tgt := 39) zx zb dX5_legsThatFit_35 (by decide) ?_
            exact join_29 y_15 _ _ _  G hl
        · intro x_14 H locs ls  G hl
          refine lv_ior zx zb dX5_legsThatFit_39 ?_
          refine k_itE (fun y_16 => ?_)
          refine lv_istore_n (lv' := [(2, .int y_16), (3, .int (nI k4)), (0, .ref hn), (1, .int 2)]) zx zb dX5_legsThatFit_40 rfl hl (by decide) rfl (fun ls hl => ?_)
          refine lv_iinc (v := (nI (k4 + 1))) (lv' := [(3, .int (nI (k4 + 1))), (2, .int y_16), (0, .ref hn), (1, .int 2)]) zx zb dX5_legsThatFit_41 hl (k := 1) rfl (nI_add k4 1) (by decide) rfl (fun ls hl => ?_)
          refine lv_goto (tgt := 4) zx zb dX5_legsThatFit_44 (by decide) ?_
          exact ih4 (k4 + 1) y_16 _ _ _ (by omega) (by omega) G hl
      · refine k_it (v := 3) rfl ?_
        refine r_aald (C := RX8) (b := (an 4)) S G 1 3 rfl rfl (k_vp (by decide)) rfl dX5_legsThatFit_21 ?_
        refine r_get (C := RX8) (T := TX8) (N := 8) (ci := 6) (v := .int (v 34)) S in_X5_legsThatFit_X8 G 5 rfl rfl 0 (by decide) lk_X5_legsThatFit_94 rfl dX5_legsThatFit_22 ?_
        refine lv_iload_n zx zb dX5_legsThatFit_25 rfl (lv_at hl 0 rfl) ?_
        refine o_ri (cells' := 0) (slots' := 0) G rfl rfl (n_V (As := [.int 3, .int (v 34), .int (nI k4)]) (rest := [.int x4_2]) (C := RX7) (T := TX7) (N := 5) (ci := 5) S G (s_fitRunner0 l X (an 9) (an 10) (b 2) (g 1) 3 (v 34) (nI k4) hb2_b H.size) gX5_legsThatFit_X7_fitRunner rfl rfl rfl hdV_X7_fitRunner ⟨Nat.le_of_ble_eq_true rfl, Nat.le_of_ble_eq_true rfl⟩ [10, 11] rfl rfl 10 rfl rfl rfl hl.1 (Nat.le_of_ble_eq_true rfl) dX5_legsThatFit_26 ⟨Nat.le_of_ble_eq_true rfl, Nat.le_of_ble_eq_true rfl⟩) (fun r_17 u_17 H locs hp_17 G => ?_)
        have G : wd X (fun _ => True) (va_A [] sz) s (rcW X hn an v b g) H locs := G
        refine k_cutW (PP := fun Wx => ∀ (x_19 : Int32) (H : Heap) (locs : List Loc) (ls : Array Slot), wd X (fun _ => True) (va_A [] sz) s (rcW X hn an v b g) H locs → lv_has ls 4 [(3, .int (nI k4)), (2, .int x4_2), (0, .ref hn), (1, .int 3)] → Wx (F0 m 39 ls [.int x_19, .int x4_2]) H locs) ?_ ?_
        · intro join_29
          refine lv_if_eq (tgt := 38) zx zb dX5_legsThatFit_29 (by decide) (fun c_18 => ?_) (fun c_18 => ?_)
          · refine lv_iconst (v := 0) zx zb dX5_legsThatFit_38 (by decide) ?_
            exact join_29 0 _ _ _  G hl
          · refine lv_iconst (v := 1) zx zb dX5_legsThatFit_32 (by decide) ?_
            refine lv_iload_n zx zb dX5_legsThatFit_33 rfl (lv_at hl 0 rfl) ?_
            refine lv_ishl zx zb dX5_legsThatFit_34 ?_
            refine k_itE (fun y_20 => ?_)
            refine lv_goto (tgt := 39) zx zb dX5_legsThatFit_35 (by decide) ?_
            exact join_29 y_20 _ _ _  G hl
        · intro x_19 H locs ls  G hl
          refine lv_ior zx zb dX5_legsThatFit_39 ?_
          refine k_itE (fun y_21 => ?_)
          refine lv_istore_n (lv' := [(2, .int y_21), (3, .int (nI k4)), (0, .ref hn), (1, .int 3)]) zx zb dX5_legsThatFit_40 rfl hl (by decide) rfl (fun ls hl => ?_)
          refine lv_iinc (v := (nI (k4 + 1))) (lv' := [(3, .int (nI (k4 + 1))), (2, .int y_21), (0, .ref hn), (1, .int 3)]) zx zb dX5_legsThatFit_41 hl (k := 1) rfl (nI_add k4 1) (by decide) rfl (fun ls hl => ?_)
          refine lv_goto (tgt := 4) zx zb dX5_legsThatFit_44 (by decide) ?_
          exact ih4 (k4 + 1) y_21 _ _ _ (by omega) (by omega) G hl
      · refine k_it (v := 4) rfl ?_
        refine r_aald (C := RX8) (b := (an 5)) S G 1 3 rfl rfl (k_vp (by decide)) rfl dX5_legsThatFit_21 ?_
        refine r_get (C := RX8) (T := TX8) (N := 8) (ci := 6) (v := .int (v 42)) S in_X5_legsThatFit_X8 G 6 rfl rfl 0 (by decide) lk_X5_legsThatFit_94 rfl dX5_legsThatFit_22 ?_
        refine lv_iload_n zx zb dX5_legsThatFit_25 rfl (lv_at hl 0 rfl) ?_
        refine o_ri (cells' := 0) (slots' := 0) G rfl rfl (n_V (As := [.int 4, .int (v 42), .int (nI k4)]) (rest := [.int x4_2]) (C := RX7) (T := TX7) (N := 5) (ci := 5) S G (s_fitRunner0 l X (an 9) (an 10) (b 2) (g 1) 4 (v 42) (nI k4) hb2_b H.size) gX5_legsThatFit_X7_fitRunner rfl rfl rfl hdV_X7_fitRunner ⟨Nat.le_of_ble_eq_true rfl, Nat.le_of_ble_eq_true rfl⟩ [10, 11] rfl rfl 10 rfl rfl rfl hl.1 (Nat.le_of_ble_eq_true rfl) dX5_legsThatFit_26 ⟨Nat.le_of_ble_eq_true rfl, Nat.le_of_ble_eq_true rfl⟩) (fun r_22 u_22 H locs hp_22 G => ?_)
        have G : wd X (fun _ => True) (va_A [] sz) s (rcW X hn an v b g) H locs := G
        refine k_cutW (PP := fun Wx => ∀ (x_24 : Int32) (H : Heap) (locs : List Loc) (ls : Array Slot), wd X (fun _ => True) (va_A [] sz) s (rcW X hn an v b g) H locs → lv_has ls 4 [(3, .int (nI k4)), (2, .int x4_2), (0, .ref hn), (1, .int 4)] → Wx (F0 m 39 ls [.int x_24, .int x4_2]) H locs) ?_ ?_
        · intro join_29
          refine lv_if_eq (tgt := 38) zx zb dX5_legsThatFit_29 (by decide) (fun c_23 => ?_) (fun c_23 => ?_)
          · refine lv_iconst (v := 0) zx zb dX5_legsThatFit_38 (by decide) ?_
            exact join_29 0 _ _ _  G hl
          · refine lv_iconst (v := 1) zx zb dX5_legsThatFit_32 (by decide) ?_
            refine lv_iload_n zx zb dX5_legsThatFit_33 rfl (lv_at hl 0 rfl) ?_
            refine lv_ishl zx zb dX5_legsThatFit_34 ?_
            refine k_itE (fun y_25 => ?_)
            refine lv_goto (tgt := 39) zx zb dX5_legsThatFit_35 (by decide) ?_
            exact join_29 y_25 _ _ _  G hl
        · intro x_24 H locs ls  G hl
          refine lv_ior zx zb dX5_legsThatFit_39 ?_
          refine k_itE (fun y_26 => ?_)
          refine lv_istore_n (lv' := [(2, .int y_26), (3, .int (nI k4)), (0, .ref hn), (1, .int 4)]) zx zb dX5_legsThatFit_40 rfl hl (by decide) rfl (fun ls hl => ?_)
          refine lv_iinc (v := (nI (k4 + 1))) (lv' := [(3, .int (nI (k4 + 1))), (2, .int y_26), (0, .ref hn), (1, .int 4)]) zx zb dX5_legsThatFit_41 hl (k := 1) rfl (nI_add k4 1) (by decide) rfl (fun ls hl => ?_)
          refine lv_goto (tgt := 4) zx zb dX5_legsThatFit_44 (by decide) ?_
          exact ih4 (k4 + 1) y_26 _ _ _ (by omega) (by omega) G hl
      · refine k_it (v := 5) rfl ?_
        refine r_aald (C := RX8) (b := (an 6)) S G 1 3 rfl rfl (k_vp (by decide)) rfl dX5_legsThatFit_21 ?_
        refine r_get (C := RX8) (T := TX8) (N := 8) (ci := 6) (v := .int (v 50)) S in_X5_legsThatFit_X8 G 7 rfl rfl 0 (by decide) lk_X5_legsThatFit_94 rfl dX5_legsThatFit_22 ?_
        refine lv_iload_n zx zb dX5_legsThatFit_25 rfl (lv_at hl 0 rfl) ?_
        refine o_ri (cells' := 0) (slots' := 0) G rfl rfl (n_V (As := [.int 5, .int (v 50), .int (nI k4)]) (rest := [.int x4_2]) (C := RX7) (T := TX7) (N := 5) (ci := 5) S G (s_fitRunner0 l X (an 9) (an 10) (b 2) (g 1) 5 (v 50) (nI k4) hb2_b H.size) gX5_legsThatFit_X7_fitRunner rfl rfl rfl hdV_X7_fitRunner ⟨Nat.le_of_ble_eq_true rfl, Nat.le_of_ble_eq_true rfl⟩ [10, 11] rfl rfl 10 rfl rfl rfl hl.1 (Nat.le_of_ble_eq_true rfl) dX5_legsThatFit_26 ⟨Nat.le_of_ble_eq_true rfl, Nat.le_of_ble_eq_true rfl⟩) (fun r_27 u_27 H locs hp_27 G => ?_)
        have G : wd X (fun _ => True) (va_A [] sz) s (rcW X hn an v b g) H locs := G
        refine k_cutW (PP := fun Wx => ∀ (x_29 : Int32) (H : Heap) (locs : List Loc) (ls : Array Slot), wd X (fun _ => True) (va_A [] sz) s (rcW X hn an v b g) H locs → lv_has ls 4 [(3, .int (nI k4)), (2, .int x4_2), (0, .ref hn), (1, .int 5)] → Wx (F0 m 39 ls [.int x_29, .int x4_2]) H locs) ?_ ?_
        · intro join_29
          refine lv_if_eq (tgt := 38) zx zb dX5_legsThatFit_29 (by decide) (fun c_28 => ?_) (fun c_28 => ?_)
          · refine lv_iconst (v := 0) zx zb dX5_legsThatFit_38 (by decide) ?_
            exact join_29 0 _ _ _  G hl
          · refine lv_iconst (v := 1) zx zb dX5_legsThatFit_32 (by decide) ?_
            refine lv_iload_n zx zb dX5_legsThatFit_33 rfl (lv_at hl 0 rfl) ?_
            refine lv_ishl zx zb dX5_legsThatFit_34 ?_
            refine k_itE (fun y_30 => ?_)
            refine lv_goto (tgt := 39) zx zb dX5_legsThatFit_35 (by decide) ?_
            exact join_29 y_30 _ _ _  G hl
        · intro x_29 H locs ls  G hl
          refine lv_ior zx zb dX5_legsThatFit_39 ?_
          refine k_itE (fun y_31 => ?_)
          refine lv_istore_n (lv' := [(2, .int y_31), (3, .int (nI k4)), (0, .ref hn), (1, .int 5)]) zx zb dX5_legsThatFit_40 rfl hl (by decide) rfl (fun ls hl => ?_)
          refine lv_iinc (v := (nI (k4 + 1))) (lv' := [(3, .int (nI (k4 + 1))), (2, .int y_31), (0, .ref hn), (1, .int 5)]) zx zb dX5_legsThatFit_41 hl (k := 1) rfl (nI_add k4 1) (by decide) rfl (fun ls hl => ?_)
          refine lv_goto (tgt := 4) zx zb dX5_legsThatFit_44 (by decide) ?_
          exact ih4 (k4 + 1) y_31 _ _ _ (by omega) (by omega) G hl
theorem in_X5_kindsThatFit_X5 : ∀ w ∈ wsX50, w ∈ wsX5_kindsThatFit := by decide +kernel
theorem lk_X5_kindsThatFit_43 : Cond.fieldLink RX5 43 "EggSpoons$Race" "noteRows" "LEggSpoons$Rows;" ∈ wsX5_kindsThatFit := by decide +kernel
set_option maxHeartbeats 4000000 in
set_option maxRecDepth 100000 in
/-- kindsThatFit -/
theorem s_kindsThatFit (l : Launch) (X : EX) (hn : Nat) (an : Nat → Nat) (v : Nat → Int32) (b : Nat → Nat) (g : Nat → Nat → Int32) (i : Nat) (hI_b : InR b) (hi6 : i < 6) (sz : Nat) : Met l yX5_kindsThatFit wsX5_kindsThatFit ({ frames := 2, cells := 0, slots := 0, locals := 52 } : Room) (pE X [.ref hn, .int (nI i)] (rcW X hn an v b g) sz) (qI (fun (r : Int32) (u : Unit) => True) X (fun (u : Unit) => []) [] sz) 0 0 (va_A [] sz) := by
  refine mk_met (B := (fun _ => True)) (A := (va_A [] sz)) (cc := cX5_kindsThatFit) (maxL := 4) (ret := (some .int)) (by decide) rfl (Nat.le_of_ble_eq_true rfl) k_ro k_a (fun p e s m below meth c S zr zlk znm zsz G ls hl => ?_)
  have S : CallFix p m c cX5_kindsThatFit 4 s _ wsX5_kindsThatFit RX5 := S
  have zx := S.1
  have zb := S.2.1
  have hl : lv_has ls 4 [(0, .ref hn), (1, .int (nI i))] := hl
  have hO_b := hI_b
  obtain ⟨hb0_b, hb1_b, hb2_b, hb3_b, hb4_b⟩ := hO_b
  refine lv_iconst (v := 0) zx zb dX5_kindsThatFit_0 (by decide) ?_
  refine lv_istore_n (lv' := [(2, .int 0), (0, .ref hn), (1, .int (nI i))]) zx zb dX5_kindsThatFit_1 rfl hl (by decide) rfl (fun ls hl => ?_)
  refine lv_iconst (v := 0) zx zb dX5_kindsThatFit_2 (by decide) ?_
  refine lv_istore_n (lv' := [(3, .int 0), (2, .int 0), (0, .ref hn), (1, .int (nI i))]) zx zb dX5_kindsThatFit_3 rfl hl (by decide) rfl (fun ls hl => ?_)
  refine k_loop (P := ∀ (zm : Nat) (k4 : Nat) (x4_2 : Int32) (H : Heap) (locs : List Loc) (ls : Array Slot), 6 + 1 ≤ k4 + zm → (k4 ≤ 6) → wd X (fun _ => True) (va_A [] sz) s (rcW X hn an v b g) H locs → lv_has ls 4 [(3, .int (nI k4)), (2, .int x4_2), (0, .ref hn), (1, .int (nI i))] → W p l e _ s m _ below meth c H locs _ _ _ (F0 m 4 ls [])) (fun loop => loop (6 + 1) 0 0 _ _ _ (by omega) (by omega) G hl) ?_
  intro zm
  induction zm with
  | zero => intro k4 x4_2 H locs ls zz q_hk_k4 _ _; exact absurd zz (by omega)
  | succ zm ih4 =>
    intro k4 x4_2 H locs ls zm_4 hk_k4 G hl
    refine lv_iload_n zx zb dX5_kindsThatFit_4 rfl (lv_at hl 0 rfl) ?_
    refine lv_bipush (v := 6) zx zb dX5_kindsThatFit_5 (by decide) ?_
    refine lv_icmp_ge (tgt := 39) zx zb dX5_kindsThatFit_7 (by decide) (fun c_1 => ?_) (fun c_1 => ?_)
    · have fc_1 := j_le (a := 6) (b := k4) (by omega) (by omega) c_1
      refine lv_iload_n zx zb dX5_kindsThatFit_39 rfl (lv_at hl 1 rfl) ?_
      exact e_int S zr zlk (vp_nar_int _) G () [] rfl rfl (Or.inl rfl) (trivial) dX5_kindsThatFit_40
    · have fc_1 := j_nle (a := 6) (b := k4) (by omega) (by omega) c_1
      refine lv_iload_n zx zb dX5_kindsThatFit_10 rfl (lv_at hl 1 rfl) ?_
      refine lv_aload_n zx zb dX5_kindsThatFit_11 rfl (lv_at hl 2 rfl) ?_
      refine r_get (C := RX5) (T := TX5) (N := 8) (ci := 3) (v := .ref (an 11)) S in_X5_kindsThatFit_X5 G 0 rfl rfl 6 (by decide) lk_X5_kindsThatFit_43 rfl dX5_kindsThatFit_12 ?_
      refine lv_iload_n zx zb dX5_kindsThatFit_15 rfl (lv_at hl 3 rfl) ?_
      refine lv_iload_n zx zb dX5_kindsThatFit_16 rfl (lv_at hl 0 rfl) ?_
      refine lv_iconst (v := 0) zx zb dX5_kindsThatFit_17 (by decide) ?_
      refine o_ri (cells' := 0) (slots' := 0) G rfl rfl (n_V (As := [.int (nI i), .int (nI k4), .int 0]) (rest := [.int x4_2]) (C := RX7) (T := TX7) (N := 5) (ci := 5) S G (s_fitRunner1 l X (an 11) (an 12) (b 3) (g 2) (nI i) (nI k4) 0 hb3_b H.size) gX5_kindsThatFit_X7_fitRunner rfl rfl rfl hdV_X7_fitRunner ⟨Nat.le_of_ble_eq_true rfl, Nat.le_of_ble_eq_true rfl⟩ [12, 13] rfl rfl 12 rfl rfl rfl hl.1 (Nat.le_of_ble_eq_true rfl) dX5_kindsThatFit_18 ⟨Nat.le_of_ble_eq_true rfl, Nat.le_of_ble_eq_true rfl⟩) (fun r_2 u_2 H locs hp_2 G => ?_)
      have G : wd X (fun _ => True) (va_A [] sz) s (rcW X hn an v b g) H locs := G
      refine k_cutW (PP := fun Wx => ∀ (x_4 : Int32) (H : Heap) (locs : List Loc) (ls : Array Slot), wd X (fun _ => True) (va_A [] sz) s (rcW X hn an v b g) H locs → lv_has ls 4 [(3, .int (nI k4)), (2, .int x4_2), (0, .ref hn), (1, .int (nI i))] → Wx (F0 m 31 ls [.int x_4, .int x4_2]) H locs) ?_ ?_
      · intro join_21
        refine lv_if_eq (tgt := 30) zx zb dX5_kindsThatFit_21 (by decide) (fun c_3 => ?_) (fun c_3 => ?_)
        · refine lv_iconst (v := 0) zx zb dX5_kindsThatFit_30 (by decide) ?_
          exact join_21 0 _ _ _  G hl
        · refine lv_iconst (v := 1) zx zb dX5_kindsThatFit_24 (by decide) ?_
          refine lv_iload_n zx zb dX5_kindsThatFit_25 rfl (lv_at hl 0 rfl) ?_
          refine lv_ishl zx zb dX5_kindsThatFit_26 ?_
          refine k_itE (fun y_5 => ?_)
          refine lv_goto (tgt := 31) zx zb dX5_kindsThatFit_27 (by decide) ?_
          exact join_21 y_5 _ _ _  G hl
      · intro x_4 H locs ls  G hl
        refine lv_ior zx zb dX5_kindsThatFit_31 ?_
        refine k_itE (fun y_6 => ?_)
        refine lv_istore_n (lv' := [(2, .int y_6), (3, .int (nI k4)), (0, .ref hn), (1, .int (nI i))]) zx zb dX5_kindsThatFit_32 rfl hl (by decide) rfl (fun ls hl => ?_)
        refine lv_iinc (v := (nI (k4 + 1))) (lv' := [(3, .int (nI (k4 + 1))), (2, .int y_6), (0, .ref hn), (1, .int (nI i))]) zx zb dX5_kindsThatFit_33 hl (k := 1) rfl (nI_add k4 1) (by decide) rfl (fun ls hl => ?_)
        refine lv_goto (tgt := 4) zx zb dX5_kindsThatFit_36 (by decide) ?_
        exact ih4 (k4 + 1) y_6 _ _ _ (by omega) (by omega) G hl
theorem in_X5_eggsThatFit_X5 : ∀ w ∈ wsX50, w ∈ wsX5_eggsThatFit := by decide +kernel
theorem lk_X5_eggsThatFit_46 : Cond.fieldLink RX5 46 "EggSpoons$Race" "markRows" "LEggSpoons$Rows;" ∈ wsX5_eggsThatFit := by decide +kernel
theorem hdV_X7_fitEgg : yX7_fitEgg.cls = RX7 ∧ yX7_fitEgg.cls ≠ "java/lang/invoke/MethodHandle" ∧ yX7_fitEgg.cls ≠ "java/lang/invoke/VarHandle" ∧ (parseMethodDescriptor yX7_fitEgg.desc).map (fun d => d.parameters.length) = some 2 := by decide +kernel
set_option maxHeartbeats 4000000 in
set_option maxRecDepth 100000 in
/-- eggsThatFit -/
theorem s_eggsThatFit (l : Launch) (X : EX) (hn : Nat) (an : Nat → Nat) (v : Nat → Int32) (b : Nat → Nat) (g : Nat → Nat → Int32) (i : Nat) (hI_b : InR b) (hi6 : i < 6) (sz : Nat) : Met l yX5_eggsThatFit wsX5_eggsThatFit ({ frames := 2, cells := 0, slots := 0, locals := 48 } : Room) (pE X [.ref hn, .int (nI i)] (rcW X hn an v b g) sz) (qI (fun (r : Int32) (u : Unit) => True) X (fun (u : Unit) => []) [] sz) 0 0 (va_A [] sz) := by
  refine mk_met (B := (fun _ => True)) (A := (va_A [] sz)) (cc := cX5_eggsThatFit) (maxL := 4) (ret := (some .int)) (by decide) rfl (Nat.le_of_ble_eq_true rfl) k_ro k_a (fun p e s m below meth c S zr zlk znm zsz G ls hl => ?_)
  have S : CallFix p m c cX5_eggsThatFit 4 s _ wsX5_eggsThatFit RX5 := S
  have zx := S.1
  have zb := S.2.1
  have hl : lv_has ls 4 [(0, .ref hn), (1, .int (nI i))] := hl
  have hO_b := hI_b
  obtain ⟨hb0_b, hb1_b, hb2_b, hb3_b, hb4_b⟩ := hO_b
  refine lv_iconst (v := 0) zx zb dX5_eggsThatFit_0 (by decide) ?_
  refine lv_istore_n (lv' := [(2, .int 0), (0, .ref hn), (1, .int (nI i))]) zx zb dX5_eggsThatFit_1 rfl hl (by decide) rfl (fun ls hl => ?_)
  refine lv_iconst (v := 0) zx zb dX5_eggsThatFit_2 (by decide) ?_
  refine lv_istore_n (lv' := [(3, .int 0), (2, .int 0), (0, .ref hn), (1, .int (nI i))]) zx zb dX5_eggsThatFit_3 rfl hl (by decide) rfl (fun ls hl => ?_)
  refine k_loop (P := ∀ (zm : Nat) (k4 : Nat) (x4_2 : Int32) (H : Heap) (locs : List Loc) (ls : Array Slot), 6 + 1 ≤ k4 + zm → (k4 ≤ 6) → wd X (fun _ => True) (va_A [] sz) s (rcW X hn an v b g) H locs → lv_has ls 4 [(3, .int (nI k4)), (2, .int x4_2), (0, .ref hn), (1, .int (nI i))] → W p l e _ s m _ below meth c H locs _ _ _ (F0 m 4 ls [])) (fun loop => loop (6 + 1) 0 0 _ _ _ (by omega) (by omega) G hl) ?_
  intro zm
  induction zm with
  | zero => intro k4 x4_2 H locs ls zz q_hk_k4 _ _; exact absurd zz (by omega)
  | succ zm ih4 =>
    intro k4 x4_2 H locs ls zm_4 hk_k4 G hl
    refine lv_iload_n zx zb dX5_eggsThatFit_4 rfl (lv_at hl 0 rfl) ?_
    refine lv_bipush (v := 6) zx zb dX5_eggsThatFit_5 (by decide) ?_
    refine lv_icmp_ge (tgt := 38) zx zb dX5_eggsThatFit_7 (by decide) (fun c_1 => ?_) (fun c_1 => ?_)
    · have fc_1 := j_le (a := 6) (b := k4) (by omega) (by omega) c_1
      refine lv_iload_n zx zb dX5_eggsThatFit_38 rfl (lv_at hl 1 rfl) ?_
      exact e_int S zr zlk (vp_nar_int _) G () [] rfl rfl (Or.inl rfl) (trivial) dX5_eggsThatFit_39
    · have fc_1 := j_nle (a := 6) (b := k4) (by omega) (by omega) c_1
      refine lv_iload_n zx zb dX5_eggsThatFit_10 rfl (lv_at hl 1 rfl) ?_
      refine lv_aload_n zx zb dX5_eggsThatFit_11 rfl (lv_at hl 2 rfl) ?_
      refine r_get (C := RX5) (T := TX5) (N := 8) (ci := 3) (v := .ref (an 13)) S in_X5_eggsThatFit_X5 G 0 rfl rfl 7 (by decide) lk_X5_eggsThatFit_46 rfl dX5_eggsThatFit_12 ?_
      refine lv_iload_n zx zb dX5_eggsThatFit_15 rfl (lv_at hl 3 rfl) ?_
      refine lv_iload_n zx zb dX5_eggsThatFit_16 rfl (lv_at hl 0 rfl) ?_
      refine o_ri (cells' := 0) (slots' := 0) G rfl rfl (n_V (As := [.int (nI i), .int (nI k4)]) (rest := [.int x4_2]) (C := RX7) (T := TX7) (N := 5) (ci := 5) S G (s_fitEgg2 l X (an 13) (an 14) (b 4) (g 3) (nI i) (nI k4) hb4_b H.size) gX5_eggsThatFit_X7_fitEgg rfl rfl rfl hdV_X7_fitEgg ⟨Nat.le_of_ble_eq_true rfl, Nat.le_of_ble_eq_true rfl⟩ [14, 15] rfl rfl 14 rfl rfl rfl hl.1 (Nat.le_of_ble_eq_true rfl) dX5_eggsThatFit_17 ⟨Nat.le_of_ble_eq_true rfl, Nat.le_of_ble_eq_true rfl⟩) (fun r_2 u_2 H locs hp_2 G => ?_)
      have G : wd X (fun _ => True) (va_A [] sz) s (rcW X hn an v b g) H locs := G
      refine k_cutW (PP := fun Wx => ∀ (x_4 : Int32) (H : Heap) (locs : List Loc) (ls : Array Slot), wd X (fun _ => True) (va_A [] sz) s (rcW X hn an v b g) H locs → lv_has ls 4 [(3, .int (nI k4)), (2, .int x4_2), (0, .ref hn), (1, .int (nI i))] → Wx (F0 m 30 ls [.int x_4, .int x4_2]) H locs) ?_ ?_
      · intro join_20
        refine lv_if_eq (tgt := 29) zx zb dX5_eggsThatFit_20 (by decide) (fun c_3 => ?_) (fun c_3 => ?_)
        · refine lv_iconst (v := 0) zx zb dX5_eggsThatFit_29 (by decide) ?_
          exact join_20 0 _ _ _  G hl
        · refine lv_iconst (v := 1) zx zb dX5_eggsThatFit_23 (by decide) ?_
          refine lv_iload_n zx zb dX5_eggsThatFit_24 rfl (lv_at hl 0 rfl) ?_
          refine lv_ishl zx zb dX5_eggsThatFit_25 ?_
          refine k_itE (fun y_5 => ?_)
          refine lv_goto (tgt := 30) zx zb dX5_eggsThatFit_26 (by decide) ?_
          exact join_20 y_5 _ _ _  G hl
      · intro x_4 H locs ls  G hl
        refine lv_ior zx zb dX5_eggsThatFit_30 ?_
        refine k_itE (fun y_6 => ?_)
        refine lv_istore_n (lv' := [(2, .int y_6), (3, .int (nI k4)), (0, .ref hn), (1, .int (nI i))]) zx zb dX5_eggsThatFit_31 rfl hl (by decide) rfl (fun ls hl => ?_)
        refine lv_iinc (v := (nI (k4 + 1))) (lv' := [(3, .int (nI (k4 + 1))), (2, .int y_6), (0, .ref hn), (1, .int (nI i))]) zx zb dX5_eggsThatFit_32 hl (k := 1) rfl (nI_add k4 1) (by decide) rfl (fun ls hl => ?_)
        refine lv_goto (tgt := 4) zx zb dX5_eggsThatFit_35 (by decide) ?_
        exact ih4 (k4 + 1) y_6 _ _ _ (by omega) (by omega) G hl
