set_option maxRecDepth 20000 in
theorem ggX8_fact_X1_limit : GoodIn wsX8_fact wsX1_limit := goodIn_r _ [16] rfl (by decide +kernel)
set_option maxRecDepth 20000 in
theorem gX8_fact_X1_limit : GoodIn wsX8_fact (va_wsS RX8 42 yX1_limit wsX1_limit) := goodIn_app (goodIn_of _ (by decide +kernel)) ggX8_fact_X1_limit
set_option maxRecDepth 20000 in
theorem ggX8_fact_X2_reach : GoodIn wsX8_fact wsX2_reach := goodIn_r _ [12] rfl (by decide +kernel)
set_option maxRecDepth 20000 in
theorem gX8_fact_X2_reach : GoodIn wsX8_fact (va_wsS RX8 36 yX2_reach wsX2_reach) := goodIn_app (goodIn_of _ (by decide +kernel)) ggX8_fact_X2_reach
set_option maxRecDepth 20000 in
theorem ggX8_placeBehind_X8_step : GoodIn wsX8_placeBehind wsX8_step := goodIn_r _ [6, 7, 8, 9, 10, 11, 12, 1, 13, 14, 15, 16, 5, 17, 18, 19, 20, 21, 22, 23, 24, 25, 26, 27, 28, 29, 30, 31, 32, 33] rfl (by decide +kernel)
set_option maxRecDepth 20000 in
theorem gX8_placeBehind_X8_step : GoodIn wsX8_placeBehind (wsV RX8 52 RX8 yX8_step wsX8_step) := goodIn_app (goodIn_of _ (by decide +kernel)) ggX8_placeBehind_X8_step
set_option maxRecDepth 20000 in
theorem ggX8_step_X1_limit : GoodIn wsX8_step wsX1_limit := goodIn_r _ [21] rfl (by decide +kernel)
set_option maxRecDepth 20000 in
theorem gX8_step_X1_limit : GoodIn wsX8_step (va_wsS RX8 42 yX1_limit wsX1_limit) := goodIn_app (goodIn_of _ (by decide +kernel)) ggX8_step_X1_limit
set_option maxRecDepth 20000 in
theorem ggX8_step_X2_reach : GoodIn wsX8_step wsX2_reach := goodIn_r _ [17] rfl (by decide +kernel)
set_option maxRecDepth 20000 in
theorem gX8_step_X2_reach : GoodIn wsX8_step (va_wsS RX8 36 yX2_reach wsX2_reach) := goodIn_app (goodIn_of _ (by decide +kernel)) ggX8_step_X2_reach
set_option maxRecDepth 20000 in
theorem ggX8_step_X8_isHome : GoodIn wsX8_step wsX8_isHome := goodIn_r _ [13, 8, 22, 23, 24, 25, 26, 27, 28, 29] rfl (by decide +kernel)
set_option maxRecDepth 20000 in
theorem gX8_step_X8_isHome : GoodIn wsX8_step (wsV RX8 48 RX8 yX8_isHome wsX8_isHome) := goodIn_app (goodIn_of _ (by decide +kernel)) ggX8_step_X8_isHome
set_option maxRecDepth 20000 in
theorem ggX8_ticksToHome_X8_isHome : GoodIn wsX8_ticksToHome wsX8_isHome := goodIn_r _ [5, 6, 26, 27, 28, 29, 30, 31, 32, 33] rfl (by decide +kernel)
set_option maxRecDepth 20000 in
theorem gX8_ticksToHome_X8_isHome : GoodIn wsX8_ticksToHome (wsV RX8 48 RX8 yX8_isHome wsX8_isHome) := goodIn_app (goodIn_of _ (by decide +kernel)) ggX8_ticksToHome_X8_isHome
set_option maxRecDepth 20000 in
theorem ggX8_ticksToHome_X8_step : GoodIn wsX8_ticksToHome wsX8_step := goodIn_r _ [10, 11, 12, 13, 14, 15, 16, 17, 6, 1, 2, 3, 4, 5, 18, 19, 20, 21, 22, 23, 24, 25, 26, 27, 28, 29, 30, 31, 32, 33] rfl (by decide +kernel)
set_option maxRecDepth 20000 in
theorem gX8_ticksToHome_X8_step : GoodIn wsX8_ticksToHome (wsV RX8 52 RX8 yX8_step wsX8_step) := goodIn_app (goodIn_of _ (by decide +kernel)) ggX8_ticksToHome_X8_step
theorem dX1_limit_0 : decode cX1_limit 0 = .ok (.iconst 4, 1) := by decide +kernel
theorem dX1_limit_1 : decode cX1_limit 1 = .ok (.istore_n 2, 1) := by decide +kernel
theorem dX1_limit_10 : decode cX1_limit 10 = .ok (.if_icmp .ne 9, 3) := by decide +kernel
theorem dX1_limit_13 : decode cX1_limit 13 = .ok (.iload_n 2, 1) := by decide +kernel
theorem dX1_limit_14 : decode cX1_limit 14 = .ok (.iconst 1, 1) := by decide +kernel
theorem dX1_limit_15 : decode cX1_limit 15 = .ok (.isub, 1) := by decide +kernel
theorem dX1_limit_16 : decode cX1_limit 16 = .ok (.goto 4, 3) := by decide +kernel
theorem dX1_limit_19 : decode cX1_limit 19 = .ok (.iload_n 2, 1) := by decide +kernel
theorem dX1_limit_2 : decode cX1_limit 2 = .ok (.iload_n 2, 1) := by decide +kernel
theorem dX1_limit_20 : decode cX1_limit 20 = .ok (.istore 4, 2) := by decide +kernel
theorem dX1_limit_22 : decode cX1_limit 22 = .ok (.iload_n 0, 1) := by decide +kernel
theorem dX1_limit_23 : decode cX1_limit 23 = .ok (.tableswitch 70 1 5 #[33, 35, 38, 51, 56], 33) := by decide +kernel
theorem dX1_limit_3 : decode cX1_limit 3 = .ok (.iconst 1, 1) := by decide +kernel
theorem dX1_limit_4 : decode cX1_limit 4 = .ok (.iadd, 1) := by decide +kernel
theorem dX1_limit_5 : decode cX1_limit 5 = .ok (.istore_n 3, 1) := by decide +kernel
theorem dX1_limit_56 : decode cX1_limit 56 = .ok (.iload_n 3, 1) := by decide +kernel
theorem dX1_limit_57 : decode cX1_limit 57 = .ok (.ireturn, 1) := by decide +kernel
theorem dX1_limit_58 : decode cX1_limit 58 = .ok (.iload 4, 2) := by decide +kernel
theorem dX1_limit_6 : decode cX1_limit 6 = .ok (.iload_n 1, 1) := by decide +kernel
theorem dX1_limit_60 : decode cX1_limit 60 = .ok (.ireturn, 1) := by decide +kernel
theorem dX1_limit_61 : decode cX1_limit 61 = .ok (.iload_n 1, 1) := by decide +kernel
theorem dX1_limit_62 : decode cX1_limit 62 = .ok (.iconst 3, 1) := by decide +kernel
theorem dX1_limit_63 : decode cX1_limit 63 = .ok (.if_icmp .ge 9, 3) := by decide +kernel
theorem dX1_limit_66 : decode cX1_limit 66 = .ok (.iload_n 3, 1) := by decide +kernel
theorem dX1_limit_67 : decode cX1_limit 67 = .ok (.iconst 3, 1) := by decide +kernel
theorem dX1_limit_68 : decode cX1_limit 68 = .ok (.iadd, 1) := by decide +kernel
theorem dX1_limit_69 : decode cX1_limit 69 = .ok (.goto 4, 3) := by decide +kernel
theorem dX1_limit_7 : decode cX1_limit 7 = .ok (.iconst 2, 1) := by decide +kernel
theorem dX1_limit_72 : decode cX1_limit 72 = .ok (.iload_n 3, 1) := by decide +kernel
theorem dX1_limit_73 : decode cX1_limit 73 = .ok (.ireturn, 1) := by decide +kernel
theorem dX1_limit_74 : decode cX1_limit 74 = .ok (.iload 4, 2) := by decide +kernel
theorem dX1_limit_76 : decode cX1_limit 76 = .ok (.iconst 1, 1) := by decide +kernel
theorem dX1_limit_77 : decode cX1_limit 77 = .ok (.isub, 1) := by decide +kernel
theorem dX1_limit_78 : decode cX1_limit 78 = .ok (.ireturn, 1) := by decide +kernel
theorem dX1_limit_79 : decode cX1_limit 79 = .ok (.iload_n 1, 1) := by decide +kernel
theorem dX1_limit_8 : decode cX1_limit 8 = .ok (.irem, 1) := by decide +kernel
theorem dX1_limit_80 : decode cX1_limit 80 = .ok (.iconst 4, 1) := by decide +kernel
theorem dX1_limit_81 : decode cX1_limit 81 = .ok (.irem, 1) := by decide +kernel
theorem dX1_limit_82 : decode cX1_limit 82 = .ok (.ifCond .ne 9, 3) := by decide +kernel
theorem dX1_limit_85 : decode cX1_limit 85 = .ok (.iload_n 3, 1) := by decide +kernel
theorem dX1_limit_86 : decode cX1_limit 86 = .ok (.iconst 2, 1) := by decide +kernel
theorem dX1_limit_87 : decode cX1_limit 87 = .ok (.iadd, 1) := by decide +kernel
theorem dX1_limit_88 : decode cX1_limit 88 = .ok (.goto 4, 3) := by decide +kernel
theorem dX1_limit_9 : decode cX1_limit 9 = .ok (.iconst 1, 1) := by decide +kernel
theorem dX1_limit_91 : decode cX1_limit 91 = .ok (.iload_n 3, 1) := by decide +kernel
theorem dX1_limit_92 : decode cX1_limit 92 = .ok (.ireturn, 1) := by decide +kernel
theorem dX1_limit_93 : decode cX1_limit 93 = .ok (.iload_n 2, 1) := by decide +kernel
theorem dX1_limit_94 : decode cX1_limit 94 = .ok (.ireturn, 1) := by decide +kernel
theorem dX2_reach_0 : decode cX2_reach 0 = .ok (.iload_n 3, 1) := by decide +kernel
theorem dX2_reach_1 : decode cX2_reach 1 = .ok (.iload_n 1, 1) := by decide +kernel
theorem dX2_reach_10 : decode cX2_reach 10 = .ok (.istore 4, 2) := by decide +kernel
theorem dX2_reach_100 : decode cX2_reach 100 = .ok (.iadd, 1) := by decide +kernel
theorem dX2_reach_101 : decode cX2_reach 101 = .ok (.goto 5, 3) := by decide +kernel
theorem dX2_reach_104 : decode cX2_reach 104 = .ok (.iload 5, 2) := by decide +kernel
theorem dX2_reach_106 : decode cX2_reach 106 = .ok (.ireturn, 1) := by decide +kernel
theorem dX2_reach_107 : decode cX2_reach 107 = .ok (.iload 4, 2) := by decide +kernel
theorem dX2_reach_109 : decode cX2_reach 109 = .ok (.iconst 1, 1) := by decide +kernel
theorem dX2_reach_110 : decode cX2_reach 110 = .ok (.iadd, 1) := by decide +kernel
theorem dX2_reach_111 : decode cX2_reach 111 = .ok (.iconst 2, 1) := by decide +kernel
theorem dX2_reach_112 : decode cX2_reach 112 = .ok (.idiv, 1) := by decide +kernel
theorem dX2_reach_113 : decode cX2_reach 113 = .ok (.ireturn, 1) := by decide +kernel
theorem dX2_reach_114 : decode cX2_reach 114 = .ok (.iload_n 2, 1) := by decide +kernel
theorem dX2_reach_115 : decode cX2_reach 115 = .ok (.iconst 2, 1) := by decide +kernel
theorem dX2_reach_116 : decode cX2_reach 116 = .ok (.irem, 1) := by decide +kernel
theorem dX2_reach_117 : decode cX2_reach 117 = .ok (.iconst 1, 1) := by decide +kernel
theorem dX2_reach_118 : decode cX2_reach 118 = .ok (.if_icmp .ne 10, 3) := by decide +kernel
theorem dX2_reach_12 : decode cX2_reach 12 = .ok (.iload_n 3, 1) := by decide +kernel
theorem dX2_reach_121 : decode cX2_reach 121 = .ok (.iload 6, 2) := by decide +kernel
theorem dX2_reach_123 : decode cX2_reach 123 = .ok (.iconst 2, 1) := by decide +kernel
theorem dX2_reach_124 : decode cX2_reach 124 = .ok (.iadd, 1) := by decide +kernel
theorem dX2_reach_125 : decode cX2_reach 125 = .ok (.goto 5, 3) := by decide +kernel
theorem dX2_reach_128 : decode cX2_reach 128 = .ok (.iload 6, 2) := by decide +kernel
theorem dX2_reach_13 : decode cX2_reach 13 = .ok (.iconst 5, 1) := by decide +kernel
theorem dX2_reach_130 : decode cX2_reach 130 = .ok (.ireturn, 1) := by decide +kernel
theorem dX2_reach_131 : decode cX2_reach 131 = .ok (.iload 4, 2) := by decide +kernel
theorem dX2_reach_133 : decode cX2_reach 133 = .ok (.ireturn, 1) := by decide +kernel
theorem dX2_reach_14 : decode cX2_reach 14 = .ok (.if_icmp .lt 10, 3) := by decide +kernel
theorem dX2_reach_17 : decode cX2_reach 17 = .ok (.iload 4, 2) := by decide +kernel
theorem dX2_reach_19 : decode cX2_reach 19 = .ok (.iconst 1, 1) := by decide +kernel
theorem dX2_reach_2 : decode cX2_reach 2 = .ok (.if_icmp .ge 7, 3) := by decide +kernel
theorem dX2_reach_20 : decode cX2_reach 20 = .ok (.iadd, 1) := by decide +kernel
theorem dX2_reach_21 : decode cX2_reach 21 = .ok (.goto 5, 3) := by decide +kernel
theorem dX2_reach_24 : decode cX2_reach 24 = .ok (.iload 4, 2) := by decide +kernel
theorem dX2_reach_26 : decode cX2_reach 26 = .ok (.istore 5, 2) := by decide +kernel
theorem dX2_reach_28 : decode cX2_reach 28 = .ok (.iload 4, 2) := by decide +kernel
theorem dX2_reach_30 : decode cX2_reach 30 = .ok (.iload_n 2, 1) := by decide +kernel
theorem dX2_reach_31 : decode cX2_reach 31 = .ok (.bipush 10, 2) := by decide +kernel
theorem dX2_reach_33 : decode cX2_reach 33 = .ok (.idiv, 1) := by decide +kernel
theorem dX2_reach_34 : decode cX2_reach 34 = .ok (.if_icmp .le 13, 3) := by decide +kernel
theorem dX2_reach_37 : decode cX2_reach 37 = .ok (.iload 4, 2) := by decide +kernel
theorem dX2_reach_39 : decode cX2_reach 39 = .ok (.iload_n 2, 1) := by decide +kernel
theorem dX2_reach_40 : decode cX2_reach 40 = .ok (.bipush 10, 2) := by decide +kernel
theorem dX2_reach_42 : decode cX2_reach 42 = .ok (.idiv, 1) := by decide +kernel
theorem dX2_reach_43 : decode cX2_reach 43 = .ok (.isub, 1) := by decide +kernel
theorem dX2_reach_44 : decode cX2_reach 44 = .ok (.goto 4, 3) := by decide +kernel
theorem dX2_reach_47 : decode cX2_reach 47 = .ok (.iconst 0, 1) := by decide +kernel
theorem dX2_reach_48 : decode cX2_reach 48 = .ok (.istore 6, 2) := by decide +kernel
theorem dX2_reach_5 : decode cX2_reach 5 = .ok (.iload_n 3, 1) := by decide +kernel
theorem dX2_reach_50 : decode cX2_reach 50 = .ok (.iload_n 0, 1) := by decide +kernel
theorem dX2_reach_51 : decode cX2_reach 51 = .ok (.tableswitch 80 1 5 #[33, 36, 39, 56, 63], 33) := by decide +kernel
theorem dX2_reach_6 : decode cX2_reach 6 = .ok (.goto 4, 3) := by decide +kernel
theorem dX2_reach_84 : decode cX2_reach 84 = .ok (.iload 5, 2) := by decide +kernel
theorem dX2_reach_86 : decode cX2_reach 86 = .ok (.ireturn, 1) := by decide +kernel
theorem dX2_reach_87 : decode cX2_reach 87 = .ok (.iload 6, 2) := by decide +kernel
theorem dX2_reach_89 : decode cX2_reach 89 = .ok (.ireturn, 1) := by decide +kernel
theorem dX2_reach_9 : decode cX2_reach 9 = .ok (.iload_n 1, 1) := by decide +kernel
theorem dX2_reach_90 : decode cX2_reach 90 = .ok (.iload_n 2, 1) := by decide +kernel
theorem dX2_reach_91 : decode cX2_reach 91 = .ok (.iconst 5, 1) := by decide +kernel
theorem dX2_reach_92 : decode cX2_reach 92 = .ok (.irem, 1) := by decide +kernel
theorem dX2_reach_93 : decode cX2_reach 93 = .ok (.iconst 4, 1) := by decide +kernel
theorem dX2_reach_94 : decode cX2_reach 94 = .ok (.if_icmp .ne 10, 3) := by decide +kernel
theorem dX2_reach_97 : decode cX2_reach 97 = .ok (.iload 5, 2) := by decide +kernel
theorem dX2_reach_99 : decode cX2_reach 99 = .ok (.iconst 3, 1) := by decide +kernel
theorem dX4_push_0 : decode cX4_push 0 = .ok (.aload_n 0, 1) := by decide +kernel
theorem dX4_push_1 : decode cX4_push 1 = .ok (.getfield 15, 3) := by decide +kernel
theorem dX4_push_10 : decode cX4_push 10 = .ok (.getfield 11, 3) := by decide +kernel
theorem dX4_push_101 : decode cX4_push 101 = .ok (.iload 5, 2) := by decide +kernel
theorem dX4_push_103 : decode cX4_push 103 = .ok (.iconst 2, 1) := by decide +kernel
theorem dX4_push_104 : decode cX4_push 104 = .ok (.iadd, 1) := by decide +kernel
theorem dX4_push_105 : decode cX4_push 105 = .ok (.aload_n 2, 1) := by decide +kernel
theorem dX4_push_106 : decode cX4_push 106 = .ok (.iload 4, 2) := by decide +kernel
theorem dX4_push_108 : decode cX4_push 108 = .ok (.aaload, 1) := by decide +kernel
theorem dX4_push_109 : decode cX4_push 109 = .ok (.getfield 33, 3) := by decide +kernel
theorem dX4_push_112 : decode cX4_push 112 = .ok (.iastore, 1) := by decide +kernel
theorem dX4_push_113 : decode cX4_push 113 = .ok (.aload_n 0, 1) := by decide +kernel
theorem dX4_push_114 : decode cX4_push 114 = .ok (.getfield 11, 3) := by decide +kernel
theorem dX4_push_117 : decode cX4_push 117 = .ok (.iload 5, 2) := by decide +kernel
theorem dX4_push_119 : decode cX4_push 119 = .ok (.iconst 3, 1) := by decide +kernel
theorem dX4_push_120 : decode cX4_push 120 = .ok (.iadd, 1) := by decide +kernel
theorem dX4_push_121 : decode cX4_push 121 = .ok (.aload_n 2, 1) := by decide +kernel
theorem dX4_push_122 : decode cX4_push 122 = .ok (.iload 4, 2) := by decide +kernel
theorem dX4_push_124 : decode cX4_push 124 = .ok (.aaload, 1) := by decide +kernel
theorem dX4_push_125 : decode cX4_push 125 = .ok (.getfield 36, 3) := by decide +kernel
theorem dX4_push_128 : decode cX4_push 128 = .ok (.iastore, 1) := by decide +kernel
theorem dX4_push_129 : decode cX4_push 129 = .ok (.aload_n 0, 1) := by decide +kernel
theorem dX4_push_13 : decode cX4_push 13 = .ok (.bipush 31, 2) := by decide +kernel
theorem dX4_push_130 : decode cX4_push 130 = .ok (.getfield 11, 3) := by decide +kernel
theorem dX4_push_133 : decode cX4_push 133 = .ok (.iload 5, 2) := by decide +kernel
theorem dX4_push_135 : decode cX4_push 135 = .ok (.iconst 4, 1) := by decide +kernel
theorem dX4_push_136 : decode cX4_push 136 = .ok (.iadd, 1) := by decide +kernel
theorem dX4_push_137 : decode cX4_push 137 = .ok (.aload_n 2, 1) := by decide +kernel
theorem dX4_push_138 : decode cX4_push 138 = .ok (.iload 4, 2) := by decide +kernel
theorem dX4_push_140 : decode cX4_push 140 = .ok (.aaload, 1) := by decide +kernel
theorem dX4_push_141 : decode cX4_push 141 = .ok (.getfield 39, 3) := by decide +kernel
theorem dX4_push_144 : decode cX4_push 144 = .ok (.iastore, 1) := by decide +kernel
theorem dX4_push_145 : decode cX4_push 145 = .ok (.iinc 4 1, 3) := by decide +kernel
theorem dX4_push_148 : decode cX4_push 148 = .ok (.goto (-98), 3) := by decide +kernel
theorem dX4_push_15 : decode cX4_push 15 = .ok (.aload_n 0, 1) := by decide +kernel
theorem dX4_push_151 : decode cX4_push 151 = .ok (.aload_n 0, 1) := by decide +kernel
theorem dX4_push_152 : decode cX4_push 152 = .ok (.dup, 1) := by decide +kernel
theorem dX4_push_153 : decode cX4_push 153 = .ok (.getfield 15, 3) := by decide +kernel
theorem dX4_push_156 : decode cX4_push 156 = .ok (.iconst 1, 1) := by decide +kernel
theorem dX4_push_157 : decode cX4_push 157 = .ok (.iadd, 1) := by decide +kernel
theorem dX4_push_158 : decode cX4_push 158 = .ok (.putfield 15, 3) := by decide +kernel
theorem dX4_push_16 : decode cX4_push 16 = .ok (.getfield 11, 3) := by decide +kernel
theorem dX4_push_161 : decode cX4_push 161 = .ok (.return_, 1) := by decide +kernel
theorem dX4_push_19 : decode cX4_push 19 = .ok (.iconst 0, 1) := by decide +kernel
theorem dX4_push_20 : decode cX4_push 20 = .ok (.sipush 217, 3) := by decide +kernel
theorem dX4_push_23 : decode cX4_push 23 = .ok (.invokestatic 19, 3) := by decide +kernel
theorem dX4_push_26 : decode cX4_push 26 = .ok (.aload_n 0, 1) := by decide +kernel
theorem dX4_push_27 : decode cX4_push 27 = .ok (.bipush 7, 2) := by decide +kernel
theorem dX4_push_29 : decode cX4_push 29 = .ok (.putfield 15, 3) := by decide +kernel
theorem dX4_push_32 : decode cX4_push 32 = .ok (.aload_n 0, 1) := by decide +kernel
theorem dX4_push_33 : decode cX4_push 33 = .ok (.getfield 15, 3) := by decide +kernel
theorem dX4_push_36 : decode cX4_push 36 = .ok (.bipush 31, 2) := by decide +kernel
theorem dX4_push_38 : decode cX4_push 38 = .ok (.imul, 1) := by decide +kernel
theorem dX4_push_39 : decode cX4_push 39 = .ok (.istore_n 3, 1) := by decide +kernel
theorem dX4_push_4 : decode cX4_push 4 = .ok (.bipush 8, 2) := by decide +kernel
theorem dX4_push_40 : decode cX4_push 40 = .ok (.aload_n 0, 1) := by decide +kernel
theorem dX4_push_41 : decode cX4_push 41 = .ok (.getfield 11, 3) := by decide +kernel
theorem dX4_push_44 : decode cX4_push 44 = .ok (.iload_n 3, 1) := by decide +kernel
theorem dX4_push_45 : decode cX4_push 45 = .ok (.iload_n 1, 1) := by decide +kernel
theorem dX4_push_46 : decode cX4_push 46 = .ok (.iastore, 1) := by decide +kernel
theorem dX4_push_47 : decode cX4_push 47 = .ok (.iconst 0, 1) := by decide +kernel
theorem dX4_push_48 : decode cX4_push 48 = .ok (.istore 4, 2) := by decide +kernel
theorem dX4_push_50 : decode cX4_push 50 = .ok (.iload 4, 2) := by decide +kernel
theorem dX4_push_52 : decode cX4_push 52 = .ok (.bipush 6, 2) := by decide +kernel
theorem dX4_push_54 : decode cX4_push 54 = .ok (.if_icmp .ge 97, 3) := by decide +kernel
theorem dX4_push_57 : decode cX4_push 57 = .ok (.iload_n 3, 1) := by decide +kernel
theorem dX4_push_58 : decode cX4_push 58 = .ok (.iconst 1, 1) := by decide +kernel
theorem dX4_push_59 : decode cX4_push 59 = .ok (.iadd, 1) := by decide +kernel
theorem dX4_push_6 : decode cX4_push 6 = .ok (.if_icmp .lt 26, 3) := by decide +kernel
theorem dX4_push_60 : decode cX4_push 60 = .ok (.iload 4, 2) := by decide +kernel
theorem dX4_push_62 : decode cX4_push 62 = .ok (.iconst 5, 1) := by decide +kernel
theorem dX4_push_63 : decode cX4_push 63 = .ok (.imul, 1) := by decide +kernel
theorem dX4_push_64 : decode cX4_push 64 = .ok (.iadd, 1) := by decide +kernel
theorem dX4_push_65 : decode cX4_push 65 = .ok (.istore 5, 2) := by decide +kernel
theorem dX4_push_67 : decode cX4_push 67 = .ok (.aload_n 0, 1) := by decide +kernel
theorem dX4_push_68 : decode cX4_push 68 = .ok (.getfield 11, 3) := by decide +kernel
theorem dX4_push_71 : decode cX4_push 71 = .ok (.iload 5, 2) := by decide +kernel
theorem dX4_push_73 : decode cX4_push 73 = .ok (.aload_n 2, 1) := by decide +kernel
theorem dX4_push_74 : decode cX4_push 74 = .ok (.iload 4, 2) := by decide +kernel
theorem dX4_push_76 : decode cX4_push 76 = .ok (.aaload, 1) := by decide +kernel
theorem dX4_push_77 : decode cX4_push 77 = .ok (.getfield 25, 3) := by decide +kernel
theorem dX4_push_80 : decode cX4_push 80 = .ok (.iastore, 1) := by decide +kernel
theorem dX4_push_81 : decode cX4_push 81 = .ok (.aload_n 0, 1) := by decide +kernel
theorem dX4_push_82 : decode cX4_push 82 = .ok (.getfield 11, 3) := by decide +kernel
theorem dX4_push_85 : decode cX4_push 85 = .ok (.iload 5, 2) := by decide +kernel
theorem dX4_push_87 : decode cX4_push 87 = .ok (.iconst 1, 1) := by decide +kernel
theorem dX4_push_88 : decode cX4_push 88 = .ok (.iadd, 1) := by decide +kernel
theorem dX4_push_89 : decode cX4_push 89 = .ok (.aload_n 2, 1) := by decide +kernel
theorem dX4_push_9 : decode cX4_push 9 = .ok (.aload_n 0, 1) := by decide +kernel
theorem dX4_push_90 : decode cX4_push 90 = .ok (.iload 4, 2) := by decide +kernel
theorem dX4_push_92 : decode cX4_push 92 = .ok (.aaload, 1) := by decide +kernel
theorem dX4_push_93 : decode cX4_push 93 = .ok (.getfield 30, 3) := by decide +kernel
theorem dX4_push_96 : decode cX4_push 96 = .ok (.iastore, 1) := by decide +kernel
theorem dX4_push_97 : decode cX4_push 97 = .ok (.aload_n 0, 1) := by decide +kernel
theorem dX4_push_98 : decode cX4_push 98 = .ok (.getfield 11, 3) := by decide +kernel
theorem dX7_mixInto_0 : decode cX7_mixInto 0 = .ok (.lload_n 1, 1) := by decide +kernel
theorem dX7_mixInto_1 : decode cX7_mixInto 1 = .ok (.lstore_n 3, 1) := by decide +kernel
theorem dX7_mixInto_100 : decode cX7_mixInto 100 = .ok (.iconst 3, 1) := by decide +kernel
theorem dX7_mixInto_101 : decode cX7_mixInto 101 = .ok (.iadd, 1) := by decide +kernel
theorem dX7_mixInto_102 : decode cX7_mixInto 102 = .ok (.iaload, 1) := by decide +kernel
theorem dX7_mixInto_103 : decode cX7_mixInto 103 = .ok (.i2l, 1) := by decide +kernel
theorem dX7_mixInto_104 : decode cX7_mixInto 104 = .ok (.ladd, 1) := by decide +kernel
theorem dX7_mixInto_105 : decode cX7_mixInto 105 = .ok (.goto 4, 3) := by decide +kernel
theorem dX7_mixInto_108 : decode cX7_mixInto 108 = .ok (.lload_n 3, 1) := by decide +kernel
theorem dX7_mixInto_109 : decode cX7_mixInto 109 = .ok (.lstore_n 3, 1) := by decide +kernel
theorem dX7_mixInto_11 : decode cX7_mixInto 11 = .ok (.if_icmp .ge 122, 3) := by decide +kernel
theorem dX7_mixInto_110 : decode cX7_mixInto 110 = .ok (.ldc2_w 50, 3) := by decide +kernel
theorem dX7_mixInto_113 : decode cX7_mixInto 113 = .ok (.lload_n 3, 1) := by decide +kernel
theorem dX7_mixInto_114 : decode cX7_mixInto 114 = .ok (.lmul, 1) := by decide +kernel
theorem dX7_mixInto_115 : decode cX7_mixInto 115 = .ok (.aload_n 0, 1) := by decide +kernel
theorem dX7_mixInto_116 : decode cX7_mixInto 116 = .ok (.getfield 23, 3) := by decide +kernel
theorem dX7_mixInto_119 : decode cX7_mixInto 119 = .ok (.iload 6, 2) := by decide +kernel
theorem dX7_mixInto_121 : decode cX7_mixInto 121 = .ok (.iconst 4, 1) := by decide +kernel
theorem dX7_mixInto_122 : decode cX7_mixInto 122 = .ok (.iadd, 1) := by decide +kernel
theorem dX7_mixInto_123 : decode cX7_mixInto 123 = .ok (.iaload, 1) := by decide +kernel
theorem dX7_mixInto_124 : decode cX7_mixInto 124 = .ok (.i2l, 1) := by decide +kernel
theorem dX7_mixInto_125 : decode cX7_mixInto 125 = .ok (.ladd, 1) := by decide +kernel
theorem dX7_mixInto_126 : decode cX7_mixInto 126 = .ok (.lstore_n 3, 1) := by decide +kernel
theorem dX7_mixInto_127 : decode cX7_mixInto 127 = .ok (.iinc 5 1, 3) := by decide +kernel
theorem dX7_mixInto_130 : decode cX7_mixInto 130 = .ok (.goto (-125), 3) := by decide +kernel
theorem dX7_mixInto_133 : decode cX7_mixInto 133 = .ok (.lload_n 3, 1) := by decide +kernel
theorem dX7_mixInto_134 : decode cX7_mixInto 134 = .ok (.lreturn, 1) := by decide +kernel
theorem dX7_mixInto_14 : decode cX7_mixInto 14 = .ok (.iload 5, 2) := by decide +kernel
theorem dX7_mixInto_16 : decode cX7_mixInto 16 = .ok (.iconst 5, 1) := by decide +kernel
theorem dX7_mixInto_17 : decode cX7_mixInto 17 = .ok (.imul, 1) := by decide +kernel
theorem dX7_mixInto_18 : decode cX7_mixInto 18 = .ok (.istore 6, 2) := by decide +kernel
theorem dX7_mixInto_2 : decode cX7_mixInto 2 = .ok (.iconst 0, 1) := by decide +kernel
theorem dX7_mixInto_20 : decode cX7_mixInto 20 = .ok (.ldc2_w 50, 3) := by decide +kernel
theorem dX7_mixInto_23 : decode cX7_mixInto 23 = .ok (.lload_n 3, 1) := by decide +kernel
theorem dX7_mixInto_24 : decode cX7_mixInto 24 = .ok (.lmul, 1) := by decide +kernel
theorem dX7_mixInto_25 : decode cX7_mixInto 25 = .ok (.aload_n 0, 1) := by decide +kernel
theorem dX7_mixInto_26 : decode cX7_mixInto 26 = .ok (.getfield 23, 3) := by decide +kernel
theorem dX7_mixInto_29 : decode cX7_mixInto 29 = .ok (.iload 6, 2) := by decide +kernel
theorem dX7_mixInto_3 : decode cX7_mixInto 3 = .ok (.istore 5, 2) := by decide +kernel
theorem dX7_mixInto_31 : decode cX7_mixInto 31 = .ok (.iconst 0, 1) := by decide +kernel
theorem dX7_mixInto_32 : decode cX7_mixInto 32 = .ok (.iadd, 1) := by decide +kernel
theorem dX7_mixInto_33 : decode cX7_mixInto 33 = .ok (.iaload, 1) := by decide +kernel
theorem dX7_mixInto_34 : decode cX7_mixInto 34 = .ok (.i2l, 1) := by decide +kernel
theorem dX7_mixInto_35 : decode cX7_mixInto 35 = .ok (.ladd, 1) := by decide +kernel
theorem dX7_mixInto_36 : decode cX7_mixInto 36 = .ok (.lstore_n 3, 1) := by decide +kernel
theorem dX7_mixInto_37 : decode cX7_mixInto 37 = .ok (.aload_n 0, 1) := by decide +kernel
theorem dX7_mixInto_38 : decode cX7_mixInto 38 = .ok (.getfield 16, 3) := by decide +kernel
theorem dX7_mixInto_41 : decode cX7_mixInto 41 = .ok (.ifCond .eq 22, 3) := by decide +kernel
theorem dX7_mixInto_44 : decode cX7_mixInto 44 = .ok (.ldc2_w 50, 3) := by decide +kernel
theorem dX7_mixInto_47 : decode cX7_mixInto 47 = .ok (.lload_n 3, 1) := by decide +kernel
theorem dX7_mixInto_48 : decode cX7_mixInto 48 = .ok (.lmul, 1) := by decide +kernel
theorem dX7_mixInto_49 : decode cX7_mixInto 49 = .ok (.aload_n 0, 1) := by decide +kernel
theorem dX7_mixInto_5 : decode cX7_mixInto 5 = .ok (.iload 5, 2) := by decide +kernel
theorem dX7_mixInto_50 : decode cX7_mixInto 50 = .ok (.getfield 23, 3) := by decide +kernel
theorem dX7_mixInto_53 : decode cX7_mixInto 53 = .ok (.iload 6, 2) := by decide +kernel
theorem dX7_mixInto_55 : decode cX7_mixInto 55 = .ok (.iconst 1, 1) := by decide +kernel
theorem dX7_mixInto_56 : decode cX7_mixInto 56 = .ok (.iadd, 1) := by decide +kernel
theorem dX7_mixInto_57 : decode cX7_mixInto 57 = .ok (.iaload, 1) := by decide +kernel
theorem dX7_mixInto_58 : decode cX7_mixInto 58 = .ok (.i2l, 1) := by decide +kernel
theorem dX7_mixInto_59 : decode cX7_mixInto 59 = .ok (.ladd, 1) := by decide +kernel
theorem dX7_mixInto_60 : decode cX7_mixInto 60 = .ok (.goto 4, 3) := by decide +kernel
theorem dX7_mixInto_63 : decode cX7_mixInto 63 = .ok (.lload_n 3, 1) := by decide +kernel
theorem dX7_mixInto_64 : decode cX7_mixInto 64 = .ok (.lstore_n 3, 1) := by decide +kernel
theorem dX7_mixInto_65 : decode cX7_mixInto 65 = .ok (.ldc2_w 50, 3) := by decide +kernel
theorem dX7_mixInto_68 : decode cX7_mixInto 68 = .ok (.lload_n 3, 1) := by decide +kernel
theorem dX7_mixInto_69 : decode cX7_mixInto 69 = .ok (.lmul, 1) := by decide +kernel
theorem dX7_mixInto_7 : decode cX7_mixInto 7 = .ok (.aload_n 0, 1) := by decide +kernel
theorem dX7_mixInto_70 : decode cX7_mixInto 70 = .ok (.aload_n 0, 1) := by decide +kernel
theorem dX7_mixInto_71 : decode cX7_mixInto 71 = .ok (.getfield 23, 3) := by decide +kernel
theorem dX7_mixInto_74 : decode cX7_mixInto 74 = .ok (.iload 6, 2) := by decide +kernel
theorem dX7_mixInto_76 : decode cX7_mixInto 76 = .ok (.iconst 2, 1) := by decide +kernel
theorem dX7_mixInto_77 : decode cX7_mixInto 77 = .ok (.iadd, 1) := by decide +kernel
theorem dX7_mixInto_78 : decode cX7_mixInto 78 = .ok (.iaload, 1) := by decide +kernel
theorem dX7_mixInto_79 : decode cX7_mixInto 79 = .ok (.i2l, 1) := by decide +kernel
theorem dX7_mixInto_8 : decode cX7_mixInto 8 = .ok (.getfield 7, 3) := by decide +kernel
theorem dX7_mixInto_80 : decode cX7_mixInto 80 = .ok (.ladd, 1) := by decide +kernel
theorem dX7_mixInto_81 : decode cX7_mixInto 81 = .ok (.lstore_n 3, 1) := by decide +kernel
theorem dX7_mixInto_82 : decode cX7_mixInto 82 = .ok (.aload_n 0, 1) := by decide +kernel
theorem dX7_mixInto_83 : decode cX7_mixInto 83 = .ok (.getfield 20, 3) := by decide +kernel
theorem dX7_mixInto_86 : decode cX7_mixInto 86 = .ok (.ifCond .eq 22, 3) := by decide +kernel
theorem dX7_mixInto_89 : decode cX7_mixInto 89 = .ok (.ldc2_w 50, 3) := by decide +kernel
theorem dX7_mixInto_92 : decode cX7_mixInto 92 = .ok (.lload_n 3, 1) := by decide +kernel
theorem dX7_mixInto_93 : decode cX7_mixInto 93 = .ok (.lmul, 1) := by decide +kernel
theorem dX7_mixInto_94 : decode cX7_mixInto 94 = .ok (.aload_n 0, 1) := by decide +kernel
theorem dX7_mixInto_95 : decode cX7_mixInto 95 = .ok (.getfield 23, 3) := by decide +kernel
theorem dX7_mixInto_98 : decode cX7_mixInto 98 = .ok (.iload 6, 2) := by decide +kernel
theorem dX8_copyFrom_0 : decode cX8_copyFrom 0 = .ok (.aload_n 0, 1) := by decide +kernel
theorem dX8_copyFrom_1 : decode cX8_copyFrom 1 = .ok (.aload_n 1, 1) := by decide +kernel
theorem dX8_copyFrom_10 : decode cX8_copyFrom 10 = .ok (.getfield 15, 3) := by decide +kernel
theorem dX8_copyFrom_13 : decode cX8_copyFrom 13 = .ok (.putfield 15, 3) := by decide +kernel
theorem dX8_copyFrom_16 : decode cX8_copyFrom 16 = .ok (.aload_n 0, 1) := by decide +kernel
theorem dX8_copyFrom_17 : decode cX8_copyFrom 17 = .ok (.aload_n 1, 1) := by decide +kernel
theorem dX8_copyFrom_18 : decode cX8_copyFrom 18 = .ok (.getfield 18, 3) := by decide +kernel
theorem dX8_copyFrom_2 : decode cX8_copyFrom 2 = .ok (.getfield 9, 3) := by decide +kernel
theorem dX8_copyFrom_21 : decode cX8_copyFrom 21 = .ok (.putfield 18, 3) := by decide +kernel
theorem dX8_copyFrom_24 : decode cX8_copyFrom 24 = .ok (.aload_n 0, 1) := by decide +kernel
theorem dX8_copyFrom_25 : decode cX8_copyFrom 25 = .ok (.aload_n 1, 1) := by decide +kernel
theorem dX8_copyFrom_26 : decode cX8_copyFrom 26 = .ok (.getfield 21, 3) := by decide +kernel
theorem dX8_copyFrom_29 : decode cX8_copyFrom 29 = .ok (.putfield 21, 3) := by decide +kernel
theorem dX8_copyFrom_32 : decode cX8_copyFrom 32 = .ok (.aload_n 0, 1) := by decide +kernel
theorem dX8_copyFrom_33 : decode cX8_copyFrom 33 = .ok (.aload_n 1, 1) := by decide +kernel
theorem dX8_copyFrom_34 : decode cX8_copyFrom 34 = .ok (.getfield 24, 3) := by decide +kernel
theorem dX8_copyFrom_37 : decode cX8_copyFrom 37 = .ok (.putfield 24, 3) := by decide +kernel
theorem dX8_copyFrom_40 : decode cX8_copyFrom 40 = .ok (.aload_n 0, 1) := by decide +kernel
theorem dX8_copyFrom_41 : decode cX8_copyFrom 41 = .ok (.aload_n 1, 1) := by decide +kernel
theorem dX8_copyFrom_42 : decode cX8_copyFrom 42 = .ok (.getfield 27, 3) := by decide +kernel
theorem dX8_copyFrom_45 : decode cX8_copyFrom 45 = .ok (.putfield 27, 3) := by decide +kernel
theorem dX8_copyFrom_48 : decode cX8_copyFrom 48 = .ok (.aload_n 0, 1) := by decide +kernel
theorem dX8_copyFrom_49 : decode cX8_copyFrom 49 = .ok (.aload_n 1, 1) := by decide +kernel
theorem dX8_copyFrom_5 : decode cX8_copyFrom 5 = .ok (.putfield 9, 3) := by decide +kernel
theorem dX8_copyFrom_50 : decode cX8_copyFrom 50 = .ok (.getfield 30, 3) := by decide +kernel
theorem dX8_copyFrom_53 : decode cX8_copyFrom 53 = .ok (.putfield 30, 3) := by decide +kernel
theorem dX8_copyFrom_56 : decode cX8_copyFrom 56 = .ok (.aload_n 0, 1) := by decide +kernel
theorem dX8_copyFrom_57 : decode cX8_copyFrom 57 = .ok (.aload_n 1, 1) := by decide +kernel
theorem dX8_copyFrom_58 : decode cX8_copyFrom 58 = .ok (.getfield 33, 3) := by decide +kernel
theorem dX8_copyFrom_61 : decode cX8_copyFrom 61 = .ok (.putfield 33, 3) := by decide +kernel
theorem dX8_copyFrom_64 : decode cX8_copyFrom 64 = .ok (.return_, 1) := by decide +kernel
theorem dX8_copyFrom_8 : decode cX8_copyFrom 8 = .ok (.aload_n 0, 1) := by decide +kernel
theorem dX8_copyFrom_9 : decode cX8_copyFrom 9 = .ok (.aload_n 1, 1) := by decide +kernel
theorem dX8_fact_0 : decode cX8_fact 0 = .ok (.iload_n 1, 1) := by decide +kernel
theorem dX8_fact_1 : decode cX8_fact 1 = .ok (.tableswitch 108 0 8 #[51, 56, 61, 66, 71, 76, 81, 86, 91], 51) := by decide +kernel
theorem dX8_fact_100 : decode cX8_fact 100 = .ok (.iload_n 2, 1) := by decide +kernel
theorem dX8_fact_101 : decode cX8_fact 101 = .ok (.aload_n 0, 1) := by decide +kernel
theorem dX8_fact_102 : decode cX8_fact 102 = .ok (.getfield 21, 3) := by decide +kernel
theorem dX8_fact_105 : decode cX8_fact 105 = .ok (.invokestatic 36, 3) := by decide +kernel
theorem dX8_fact_108 : decode cX8_fact 108 = .ok (.ireturn, 1) := by decide +kernel
theorem dX8_fact_109 : decode cX8_fact 109 = .ok (.aload_n 0, 1) := by decide +kernel
theorem dX8_fact_110 : decode cX8_fact 110 = .ok (.getfield 18, 3) := by decide +kernel
theorem dX8_fact_113 : decode cX8_fact 113 = .ok (.iload_n 2, 1) := by decide +kernel
theorem dX8_fact_114 : decode cX8_fact 114 = .ok (.invokestatic 42, 3) := by decide +kernel
theorem dX8_fact_117 : decode cX8_fact 117 = .ok (.ireturn, 1) := by decide +kernel
theorem dX8_fact_52 : decode cX8_fact 52 = .ok (.aload_n 0, 1) := by decide +kernel
theorem dX8_fact_53 : decode cX8_fact 53 = .ok (.getfield 9, 3) := by decide +kernel
theorem dX8_fact_56 : decode cX8_fact 56 = .ok (.ireturn, 1) := by decide +kernel
theorem dX8_fact_57 : decode cX8_fact 57 = .ok (.aload_n 0, 1) := by decide +kernel
theorem dX8_fact_58 : decode cX8_fact 58 = .ok (.getfield 15, 3) := by decide +kernel
theorem dX8_fact_61 : decode cX8_fact 61 = .ok (.ireturn, 1) := by decide +kernel
theorem dX8_fact_62 : decode cX8_fact 62 = .ok (.aload_n 0, 1) := by decide +kernel
theorem dX8_fact_63 : decode cX8_fact 63 = .ok (.getfield 18, 3) := by decide +kernel
theorem dX8_fact_66 : decode cX8_fact 66 = .ok (.ireturn, 1) := by decide +kernel
theorem dX8_fact_67 : decode cX8_fact 67 = .ok (.aload_n 0, 1) := by decide +kernel
theorem dX8_fact_68 : decode cX8_fact 68 = .ok (.getfield 21, 3) := by decide +kernel
theorem dX8_fact_71 : decode cX8_fact 71 = .ok (.ireturn, 1) := by decide +kernel
theorem dX8_fact_72 : decode cX8_fact 72 = .ok (.aload_n 0, 1) := by decide +kernel
theorem dX8_fact_73 : decode cX8_fact 73 = .ok (.getfield 24, 3) := by decide +kernel
theorem dX8_fact_76 : decode cX8_fact 76 = .ok (.ireturn, 1) := by decide +kernel
theorem dX8_fact_77 : decode cX8_fact 77 = .ok (.aload_n 0, 1) := by decide +kernel
theorem dX8_fact_78 : decode cX8_fact 78 = .ok (.getfield 27, 3) := by decide +kernel
theorem dX8_fact_81 : decode cX8_fact 81 = .ok (.ireturn, 1) := by decide +kernel
theorem dX8_fact_82 : decode cX8_fact 82 = .ok (.aload_n 0, 1) := by decide +kernel
theorem dX8_fact_83 : decode cX8_fact 83 = .ok (.getfield 30, 3) := by decide +kernel
theorem dX8_fact_86 : decode cX8_fact 86 = .ok (.ireturn, 1) := by decide +kernel
theorem dX8_fact_87 : decode cX8_fact 87 = .ok (.aload_n 0, 1) := by decide +kernel
theorem dX8_fact_88 : decode cX8_fact 88 = .ok (.getfield 33, 3) := by decide +kernel
theorem dX8_fact_91 : decode cX8_fact 91 = .ok (.ireturn, 1) := by decide +kernel
theorem dX8_fact_92 : decode cX8_fact 92 = .ok (.aload_n 0, 1) := by decide +kernel
theorem dX8_fact_93 : decode cX8_fact 93 = .ok (.getfield 9, 3) := by decide +kernel
theorem dX8_fact_96 : decode cX8_fact 96 = .ok (.aload_n 0, 1) := by decide +kernel
theorem dX8_fact_97 : decode cX8_fact 97 = .ok (.getfield 15, 3) := by decide +kernel
theorem dX8_isHome_0 : decode cX8_isHome 0 = .ok (.aload_n 0, 1) := by decide +kernel
theorem dX8_isHome_1 : decode cX8_isHome 1 = .ok (.getfield 33, 3) := by decide +kernel
theorem dX8_isHome_12 : decode cX8_isHome 12 = .ok (.iconst 0, 1) := by decide +kernel
theorem dX8_isHome_13 : decode cX8_isHome 13 = .ok (.ireturn, 1) := by decide +kernel
theorem dX8_isHome_4 : decode cX8_isHome 4 = .ok (.iconst (-1), 1) := by decide +kernel
theorem dX8_isHome_5 : decode cX8_isHome 5 = .ok (.if_icmp .eq 7, 3) := by decide +kernel
theorem dX8_isHome_8 : decode cX8_isHome 8 = .ok (.iconst 1, 1) := by decide +kernel
theorem dX8_isHome_9 : decode cX8_isHome 9 = .ok (.goto 4, 3) := by decide +kernel
theorem dX8_placeBehind_0 : decode cX8_placeBehind 0 = .ok (.iconst 1, 1) := by decide +kernel
theorem dX8_placeBehind_1 : decode cX8_placeBehind 1 = .ok (.istore 4, 2) := by decide +kernel
theorem dX8_placeBehind_10 : decode cX8_placeBehind 10 = .ok (.iload_n 1, 1) := by decide +kernel
theorem dX8_placeBehind_11 : decode cX8_placeBehind 11 = .ok (.iload 4, 2) := by decide +kernel
theorem dX8_placeBehind_13 : decode cX8_placeBehind 13 = .ok (.iadd, 1) := by decide +kernel
theorem dX8_placeBehind_14 : decode cX8_placeBehind 14 = .ok (.iload_n 2, 1) := by decide +kernel
theorem dX8_placeBehind_15 : decode cX8_placeBehind 15 = .ok (.invokevirtual 52, 3) := by decide +kernel
theorem dX8_placeBehind_18 : decode cX8_placeBehind 18 = .ok (.iinc 4 1, 3) := by decide +kernel
theorem dX8_placeBehind_21 : decode cX8_placeBehind 21 = .ok (.goto (-18), 3) := by decide +kernel
theorem dX8_placeBehind_24 : decode cX8_placeBehind 24 = .ok (.aload_n 0, 1) := by decide +kernel
theorem dX8_placeBehind_25 : decode cX8_placeBehind 25 = .ok (.getfield 24, 3) := by decide +kernel
theorem dX8_placeBehind_28 : decode cX8_placeBehind 28 = .ok (.ireturn, 1) := by decide +kernel
theorem dX8_placeBehind_3 : decode cX8_placeBehind 3 = .ok (.iload 4, 2) := by decide +kernel
theorem dX8_placeBehind_5 : decode cX8_placeBehind 5 = .ok (.iload_n 3, 1) := by decide +kernel
theorem dX8_placeBehind_6 : decode cX8_placeBehind 6 = .ok (.if_icmp .gt 18, 3) := by decide +kernel
theorem dX8_placeBehind_9 : decode cX8_placeBehind 9 = .ok (.aload_n 0, 1) := by decide +kernel
theorem dX8_step_0 : decode cX8_step 0 = .ok (.aload_n 0, 1) := by decide +kernel
theorem dX8_step_1 : decode cX8_step 1 = .ok (.invokevirtual 48, 3) := by decide +kernel
theorem dX8_step_100 : decode cX8_step 100 = .ok (.if_icmp .lt 8, 3) := by decide +kernel
theorem dX8_step_103 : decode cX8_step 103 = .ok (.aload_n 0, 1) := by decide +kernel
theorem dX8_step_104 : decode cX8_step 104 = .ok (.iload_n 1, 1) := by decide +kernel
theorem dX8_step_105 : decode cX8_step 105 = .ok (.putfield 33, 3) := by decide +kernel
theorem dX8_step_108 : decode cX8_step 108 = .ok (.return_, 1) := by decide +kernel
theorem dX8_step_12 : decode cX8_step 12 = .ok (.ifCond .le 14, 3) := by decide +kernel
theorem dX8_step_15 : decode cX8_step 15 = .ok (.aload_n 0, 1) := by decide +kernel
theorem dX8_step_16 : decode cX8_step 16 = .ok (.dup, 1) := by decide +kernel
theorem dX8_step_17 : decode cX8_step 17 = .ok (.getfield 30, 3) := by decide +kernel
theorem dX8_step_20 : decode cX8_step 20 = .ok (.iconst 1, 1) := by decide +kernel
theorem dX8_step_21 : decode cX8_step 21 = .ok (.isub, 1) := by decide +kernel
theorem dX8_step_22 : decode cX8_step 22 = .ok (.putfield 30, 3) := by decide +kernel
theorem dX8_step_25 : decode cX8_step 25 = .ok (.return_, 1) := by decide +kernel
theorem dX8_step_26 : decode cX8_step 26 = .ok (.aload_n 0, 1) := by decide +kernel
theorem dX8_step_27 : decode cX8_step 27 = .ok (.getfield 9, 3) := by decide +kernel
theorem dX8_step_30 : decode cX8_step 30 = .ok (.aload_n 0, 1) := by decide +kernel
theorem dX8_step_31 : decode cX8_step 31 = .ok (.getfield 15, 3) := by decide +kernel
theorem dX8_step_34 : decode cX8_step 34 = .ok (.iload_n 1, 1) := by decide +kernel
theorem dX8_step_35 : decode cX8_step 35 = .ok (.aload_n 0, 1) := by decide +kernel
theorem dX8_step_36 : decode cX8_step 36 = .ok (.getfield 21, 3) := by decide +kernel
theorem dX8_step_39 : decode cX8_step 39 = .ok (.invokestatic 36, 3) := by decide +kernel
theorem dX8_step_4 : decode cX8_step 4 = .ok (.ifCond .eq 4, 3) := by decide +kernel
theorem dX8_step_42 : decode cX8_step 42 = .ok (.istore_n 3, 1) := by decide +kernel
theorem dX8_step_43 : decode cX8_step 43 = .ok (.iload_n 3, 1) := by decide +kernel
theorem dX8_step_44 : decode cX8_step 44 = .ok (.aload_n 0, 1) := by decide +kernel
theorem dX8_step_45 : decode cX8_step 45 = .ok (.getfield 18, 3) := by decide +kernel
theorem dX8_step_48 : decode cX8_step 48 = .ok (.iload_n 1, 1) := by decide +kernel
theorem dX8_step_49 : decode cX8_step 49 = .ok (.invokestatic 42, 3) := by decide +kernel
theorem dX8_step_52 : decode cX8_step 52 = .ok (.if_icmp .le 33, 3) := by decide +kernel
theorem dX8_step_55 : decode cX8_step 55 = .ok (.aload_n 0, 1) := by decide +kernel
theorem dX8_step_56 : decode cX8_step 56 = .ok (.aload_n 0, 1) := by decide +kernel
theorem dX8_step_57 : decode cX8_step 57 = .ok (.getfield 27, 3) := by decide +kernel
theorem dX8_step_60 : decode cX8_step 60 = .ok (.bipush 99, 2) := by decide +kernel
theorem dX8_step_62 : decode cX8_step 62 = .ok (.if_icmp .ge 12, 3) := by decide +kernel
theorem dX8_step_65 : decode cX8_step 65 = .ok (.aload_n 0, 1) := by decide +kernel
theorem dX8_step_66 : decode cX8_step 66 = .ok (.getfield 27, 3) := by decide +kernel
theorem dX8_step_69 : decode cX8_step 69 = .ok (.iconst 1, 1) := by decide +kernel
theorem dX8_step_7 : decode cX8_step 7 = .ok (.return_, 1) := by decide +kernel
theorem dX8_step_70 : decode cX8_step 70 = .ok (.iadd, 1) := by decide +kernel
theorem dX8_step_71 : decode cX8_step 71 = .ok (.goto 5, 3) := by decide +kernel
theorem dX8_step_74 : decode cX8_step 74 = .ok (.bipush 99, 2) := by decide +kernel
theorem dX8_step_76 : decode cX8_step 76 = .ok (.putfield 27, 3) := by decide +kernel
theorem dX8_step_79 : decode cX8_step 79 = .ok (.aload_n 0, 1) := by decide +kernel
theorem dX8_step_8 : decode cX8_step 8 = .ok (.aload_n 0, 1) := by decide +kernel
theorem dX8_step_80 : decode cX8_step 80 = .ok (.iconst 2, 1) := by decide +kernel
theorem dX8_step_81 : decode cX8_step 81 = .ok (.putfield 30, 3) := by decide +kernel
theorem dX8_step_84 : decode cX8_step 84 = .ok (.return_, 1) := by decide +kernel
theorem dX8_step_85 : decode cX8_step 85 = .ok (.aload_n 0, 1) := by decide +kernel
theorem dX8_step_86 : decode cX8_step 86 = .ok (.dup, 1) := by decide +kernel
theorem dX8_step_87 : decode cX8_step 87 = .ok (.getfield 24, 3) := by decide +kernel
theorem dX8_step_9 : decode cX8_step 9 = .ok (.getfield 30, 3) := by decide +kernel
theorem dX8_step_90 : decode cX8_step 90 = .ok (.iload_n 3, 1) := by decide +kernel
theorem dX8_step_91 : decode cX8_step 91 = .ok (.iadd, 1) := by decide +kernel
theorem dX8_step_92 : decode cX8_step 92 = .ok (.putfield 24, 3) := by decide +kernel
theorem dX8_step_95 : decode cX8_step 95 = .ok (.aload_n 0, 1) := by decide +kernel
theorem dX8_step_96 : decode cX8_step 96 = .ok (.getfield 24, 3) := by decide +kernel
theorem dX8_step_99 : decode cX8_step 99 = .ok (.iload_n 2, 1) := by decide +kernel
theorem dX8_ticksToHome_0 : decode cX8_ticksToHome 0 = .ok (.aload_n 0, 1) := by decide +kernel
theorem dX8_ticksToHome_1 : decode cX8_ticksToHome 1 = .ok (.invokevirtual 48, 3) := by decide +kernel
theorem dX8_ticksToHome_10 : decode cX8_ticksToHome 10 = .ok (.istore 4, 2) := by decide +kernel
theorem dX8_ticksToHome_12 : decode cX8_ticksToHome 12 = .ok (.iload 4, 2) := by decide +kernel
theorem dX8_ticksToHome_14 : decode cX8_ticksToHome 14 = .ok (.iload_n 3, 1) := by decide +kernel
theorem dX8_ticksToHome_15 : decode cX8_ticksToHome 15 = .ok (.if_icmp .gt 28, 3) := by decide +kernel
theorem dX8_ticksToHome_18 : decode cX8_ticksToHome 18 = .ok (.aload_n 0, 1) := by decide +kernel
theorem dX8_ticksToHome_19 : decode cX8_ticksToHome 19 = .ok (.iload_n 1, 1) := by decide +kernel
theorem dX8_ticksToHome_20 : decode cX8_ticksToHome 20 = .ok (.iload 4, 2) := by decide +kernel
theorem dX8_ticksToHome_22 : decode cX8_ticksToHome 22 = .ok (.iadd, 1) := by decide +kernel
theorem dX8_ticksToHome_23 : decode cX8_ticksToHome 23 = .ok (.iload_n 2, 1) := by decide +kernel
theorem dX8_ticksToHome_24 : decode cX8_ticksToHome 24 = .ok (.invokevirtual 52, 3) := by decide +kernel
theorem dX8_ticksToHome_27 : decode cX8_ticksToHome 27 = .ok (.aload_n 0, 1) := by decide +kernel
theorem dX8_ticksToHome_28 : decode cX8_ticksToHome 28 = .ok (.invokevirtual 48, 3) := by decide +kernel
theorem dX8_ticksToHome_31 : decode cX8_ticksToHome 31 = .ok (.ifCond .eq 6, 3) := by decide +kernel
theorem dX8_ticksToHome_34 : decode cX8_ticksToHome 34 = .ok (.iload 4, 2) := by decide +kernel
theorem dX8_ticksToHome_36 : decode cX8_ticksToHome 36 = .ok (.ireturn, 1) := by decide +kernel
theorem dX8_ticksToHome_37 : decode cX8_ticksToHome 37 = .ok (.iinc 4 1, 3) := by decide +kernel
theorem dX8_ticksToHome_4 : decode cX8_ticksToHome 4 = .ok (.ifCond .eq 5, 3) := by decide +kernel
theorem dX8_ticksToHome_40 : decode cX8_ticksToHome 40 = .ok (.goto (-28), 3) := by decide +kernel
theorem dX8_ticksToHome_43 : decode cX8_ticksToHome 43 = .ok (.iconst (-1), 1) := by decide +kernel
theorem dX8_ticksToHome_44 : decode cX8_ticksToHome 44 = .ok (.ireturn, 1) := by decide +kernel
theorem dX8_ticksToHome_7 : decode cX8_ticksToHome 7 = .ok (.iconst 0, 1) := by decide +kernel
theorem dX8_ticksToHome_8 : decode cX8_ticksToHome 8 = .ok (.ireturn, 1) := by decide +kernel
theorem dX8_ticksToHome_9 : decode cX8_ticksToHome 9 = .ok (.iconst 1, 1) := by decide +kernel
set_option maxHeartbeats 4000000 in
set_option maxRecDepth 100000 in
/-- reach answers -/
theorem s_reach (l : Launch) (X : EX) (k : Int32) (l_ : Int32) (t : Int32) (s_ : Int32) (sz : Nat) : Met l yX2_reach wsX2_reach ({ frames := 0, cells := 0, slots := 0, locals := 0 } : Room) (pE X [.int k, .int l_, .int t, .int s_] ([]) sz) (qI (fun (r : Int32) (u : Unit) => True) X (fun (u : Unit) => []) [] sz) 0 0 (va_A [] sz) := by
  refine mk_met (B := (fun _ => True)) (A := (va_A [] sz)) (cc := cX2_reach) (maxL := 7) (ret := (some .int)) (by decide) rfl (Nat.le_of_ble_eq_true rfl) k_ro k_a (fun p e s m below meth c S zr zlk znm zsz G ls hl => ?_)
  have S : CallFix p m c cX2_reach 7 s _ wsX2_reach RX2 := S
  have zx := S.1
  have zb := S.2.1
  have hl : lv_has ls 7 [(0, .int k), (1, .int l_), (2, .int t), (3, .int s_)] := hl
  refine lv_iload_n zx zb dX2_reach_0 rfl (lv_at hl 3 rfl) ?_
  refine lv_iload_n zx zb dX2_reach_1 rfl (lv_at hl 1 rfl) ?_
  refine k_cutW (PP := fun Wx => ∀ (x_2 : Int32) (H : Heap) (locs : List Loc) (ls : Array Slot), wd X (fun _ => True) (va_A [] sz) s ([]) H locs → lv_has ls 7 [(0, .int k), (1, .int l_), (2, .int t), (3, .int s_)] → Wx (F0 m 10 ls [.int x_2]) H locs) ?_ ?_
  · intro join_2
    refine lv_icmp_ge (tgt := 9) zx zb dX2_reach_2 (by decide) (fun c_1 => ?_) (fun c_1 => ?_)
    · refine lv_iload_n zx zb dX2_reach_9 rfl (lv_at hl 1 rfl) ?_
      exact join_2 l_ _ _ _  G hl
    · refine lv_iload_n zx zb dX2_reach_5 rfl (lv_at hl 3 rfl) ?_
      refine lv_goto (tgt := 10) zx zb dX2_reach_6 (by decide) ?_
      exact join_2 s_ _ _ _  G hl
  · intro x_2 H locs ls  G hl
    refine lv_istore (lv' := [(4, .int x_2), (0, .int k), (1, .int l_), (2, .int t), (3, .int s_)]) zx zb dX2_reach_10 hl (by decide) rfl (fun ls hl => ?_)
    refine lv_iload_n zx zb dX2_reach_12 rfl (lv_at hl 4 rfl) ?_
    refine lv_iconst (v := 5) zx zb dX2_reach_13 (by decide) ?_
    refine k_cutW (PP := fun Wx => ∀ (x_4 : Int32) (H : Heap) (locs : List Loc) (ls : Array Slot), wd X (fun _ => True) (va_A [] sz) s ([]) H locs → lv_has ls 7 [(4, .int x_2), (0, .int k), (1, .int l_), (2, .int t), (3, .int s_)] → Wx (F0 m 26 ls [.int x_4]) H locs) ?_ ?_
    · intro join_14
      refine lv_icmp_lt (tgt := 24) zx zb dX2_reach_14 (by decide) (fun c_3 => ?_) (fun c_3 => ?_)
      · refine lv_iload zx zb dX2_reach_24 (lv_at hl 0 rfl) ?_
        exact join_14 x_2 _ _ _  G hl
      · refine lv_iload zx zb dX2_reach_17 (lv_at hl 0 rfl) ?_
        refine lv_iconst (v := 1) zx zb dX2_reach_19 (by decide) ?_
        refine r_iadd (v := (x_2 + 1)) S rfl dX2_reach_20 ?_
        refine lv_goto (tgt := 26) zx zb dX2_reach_21 (by decide) ?_
        exact join_14 (x_2 + 1) _ _ _  G hl
    · intro x_4 H locs ls  G hl
      refine lv_istore (lv' := [(5, .int x_4), (4, .int x_2), (0, .int k), (1, .int l_), (2, .int t), (3, .int s_)]) zx zb dX2_reach_26 hl (by decide) rfl (fun ls hl => ?_)
      refine lv_iload zx zb dX2_reach_28 (lv_at hl 1 rfl) ?_
      refine lv_iload_n zx zb dX2_reach_30 rfl (lv_at hl 4 rfl) ?_
      refine lv_bipush (v := 10) zx zb dX2_reach_31 (by decide) ?_
      refine lv_idiv zx zb dX2_reach_33 (by decide) ?_
      refine k_itE (fun y_5 => ?_)
      refine k_cutW (PP := fun Wx => ∀ (x_7 : Int32) (H : Heap) (locs : List Loc) (ls : Array Slot), wd X (fun _ => True) (va_A [] sz) s ([]) H locs → lv_has ls 7 [(5, .int x_4), (4, .int x_2), (0, .int k), (1, .int l_), (2, .int t), (3, .int s_)] → Wx (F0 m 48 ls [.int x_7]) H locs) ?_ ?_
      · intro join_34
        refine lv_icmp_le (tgt := 47) zx zb dX2_reach_34 (by decide) (fun c_6 => ?_) (fun c_6 => ?_)
        · refine lv_iconst (v := 0) zx zb dX2_reach_47 (by decide) ?_
          exact join_34 0 _ _ _  G hl
        · refine lv_iload zx zb dX2_reach_37 (lv_at hl 1 rfl) ?_
          refine lv_iload_n zx zb dX2_reach_39 rfl (lv_at hl 4 rfl) ?_
          refine lv_bipush (v := 10) zx zb dX2_reach_40 (by decide) ?_
          refine lv_idiv zx zb dX2_reach_42 (by decide) ?_
          refine k_itE (fun y_8 => ?_)
          refine r_isub (v := (x_2 - y_8)) S rfl dX2_reach_43 ?_
          refine lv_goto (tgt := 48) zx zb dX2_reach_44 (by decide) ?_
          exact join_34 (x_2 - y_8) _ _ _  G hl
      · intro x_7 H locs ls  G hl
        refine lv_istore (lv' := [(6, .int x_7), (5, .int x_4), (4, .int x_2), (0, .int k), (1, .int l_), (2, .int t), (3, .int s_)]) zx zb dX2_reach_48 hl (by decide) rfl (fun ls hl => ?_)
        refine lv_iload_n zx zb dX2_reach_50 rfl (lv_at hl 3 rfl) ?_
        rcases k_ts1_5 k with w_9 | w_9 | w_9 | w_9 | w_9 | w_9
        · refine k_it w_9 ?_
          refine lv_tableIn (off := 33) (tgt := 84) zx zb dX2_reach_51 (by decide) (by decide) rfl (by decide) ?_
          refine lv_iload zx zb dX2_reach_84 (lv_at hl 1 rfl) ?_
          exact e_int S zr zlk (vp_nar_int _) G () [] rfl rfl (Or.inl rfl) (trivial) dX2_reach_86
        · refine k_it w_9 ?_
          refine lv_tableIn (off := 36) (tgt := 87) zx zb dX2_reach_51 (by decide) (by decide) rfl (by decide) ?_
          refine lv_iload zx zb dX2_reach_87 (lv_at hl 0 rfl) ?_
          exact e_int S zr zlk (vp_nar_int _) G () [] rfl rfl (Or.inl rfl) (trivial) dX2_reach_89
        · refine k_it w_9 ?_
          refine lv_tableIn (off := 39) (tgt := 90) zx zb dX2_reach_51 (by decide) (by decide) rfl (by decide) ?_
          refine lv_iload_n zx zb dX2_reach_90 rfl (lv_at hl 5 rfl) ?_
          refine lv_iconst (v := 5) zx zb dX2_reach_91 (by decide) ?_
          refine lv_irem zx zb dX2_reach_92 (by decide) ?_
          refine k_itE (fun y_10 => ?_)
          refine lv_iconst (v := 4) zx zb dX2_reach_93 (by decide) ?_
          refine k_cutW (PP := fun Wx => ∀ (x_12 : Int32) (H : Heap) (locs : List Loc) (ls : Array Slot), wd X (fun _ => True) (va_A [] sz) s ([]) H locs → lv_has ls 7 [(6, .int x_7), (5, .int x_4), (4, .int x_2), (0, .int k), (1, .int l_), (2, .int t), (3, .int s_)] → Wx (F0 m 106 ls [.int x_12]) H locs) ?_ ?_
          · intro join_94
            refine lv_icmp_ne (tgt := 104) zx zb dX2_reach_94 (by decide) (fun c_11 => ?_) (fun c_11 => ?_)
            · refine lv_iload zx zb dX2_reach_104 (lv_at hl 1 rfl) ?_
              exact join_94 x_4 _ _ _  G hl
            · refine lv_iload zx zb dX2_reach_97 (lv_at hl 1 rfl) ?_
              refine lv_iconst (v := 3) zx zb dX2_reach_99 (by decide) ?_
              refine r_iadd (v := (x_4 + 3)) S rfl dX2_reach_100 ?_
              refine lv_goto (tgt := 106) zx zb dX2_reach_101 (by decide) ?_
              exact join_94 (x_4 + 3) _ _ _  G hl
          · intro x_12 H locs ls  G hl
            exact e_int S zr zlk (vp_nar_int _) G () [] rfl rfl (Or.inl rfl) (trivial) dX2_reach_106
        · refine k_it w_9 ?_
          refine lv_tableIn (off := 56) (tgt := 107) zx zb dX2_reach_51 (by decide) (by decide) rfl (by decide) ?_
          refine lv_iload zx zb dX2_reach_107 (lv_at hl 2 rfl) ?_
          refine lv_iconst (v := 1) zx zb dX2_reach_109 (by decide) ?_
          refine r_iadd (v := (x_2 + 1)) S rfl dX2_reach_110 ?_
          refine lv_iconst (v := 2) zx zb dX2_reach_111 (by decide) ?_
          refine lv_idiv zx zb dX2_reach_112 (by decide) ?_
          refine k_itE (fun y_13 => ?_)
          exact e_int S zr zlk (vp_nar_int _) G () [] rfl rfl (Or.inl rfl) (trivial) dX2_reach_113
        · refine k_it w_9 ?_
          refine lv_tableIn (off := 63) (tgt := 114) zx zb dX2_reach_51 (by decide) (by decide) rfl (by decide) ?_
          refine lv_iload_n zx zb dX2_reach_114 rfl (lv_at hl 5 rfl) ?_
          refine lv_iconst (v := 2) zx zb dX2_reach_115 (by decide) ?_
          refine lv_irem zx zb dX2_reach_116 (by decide) ?_
          refine k_itE (fun y_14 => ?_)
          refine lv_iconst (v := 1) zx zb dX2_reach_117 (by decide) ?_
          refine k_cutW (PP := fun Wx => ∀ (x_16 : Int32) (H : Heap) (locs : List Loc) (ls : Array Slot), wd X (fun _ => True) (va_A [] sz) s ([]) H locs → lv_has ls 7 [(6, .int x_7), (5, .int x_4), (4, .int x_2), (0, .int k), (1, .int l_), (2, .int t), (3, .int s_)] → Wx (F0 m 130 ls [.int x_16]) H locs) ?_ ?_
          · intro join_118
            refine lv_icmp_ne (tgt := 128) zx zb dX2_reach_118 (by decide) (fun c_15 => ?_) (fun c_15 => ?_)
            · refine lv_iload zx zb dX2_reach_128 (lv_at hl 0 rfl) ?_
              exact join_118 x_7 _ _ _  G hl
            · refine lv_iload zx zb dX2_reach_121 (lv_at hl 0 rfl) ?_
              refine lv_iconst (v := 2) zx zb dX2_reach_123 (by decide) ?_
              refine r_iadd (v := (x_7 + 2)) S rfl dX2_reach_124 ?_
              refine lv_goto (tgt := 130) zx zb dX2_reach_125 (by decide) ?_
              exact join_118 (x_7 + 2) _ _ _  G hl
          · intro x_16 H locs ls  G hl
            exact e_int S zr zlk (vp_nar_int _) G () [] rfl rfl (Or.inl rfl) (trivial) dX2_reach_130
        · refine lv_tableOut (tgt := 131) zx zb dX2_reach_51 w_9 (by decide) ?_
          refine lv_iload zx zb dX2_reach_131 (lv_at hl 2 rfl) ?_
          exact e_int S zr zlk (vp_nar_int _) G () [] rfl rfl (Or.inl rfl) (trivial) dX2_reach_133
set_option maxHeartbeats 4000000 in
set_option maxRecDepth 100000 in
/-- limit answers -/
theorem s_limit (l : Launch) (X : EX) (k : Int32) (t : Int32) (sz : Nat) : Met l yX1_limit wsX1_limit ({ frames := 0, cells := 0, slots := 0, locals := 0 } : Room) (pE X [.int k, .int t] ([]) sz) (qI (fun (r : Int32) (u : Unit) => True) X (fun (u : Unit) => []) [] sz) 0 0 (va_A [] sz) := by
  refine mk_met (B := (fun _ => True)) (A := (va_A [] sz)) (cc := cX1_limit) (maxL := 5) (ret := (some .int)) (by decide) rfl (Nat.le_of_ble_eq_true rfl) k_ro k_a (fun p e s m below meth c S zr zlk znm zsz G ls hl => ?_)
  have S : CallFix p m c cX1_limit 5 s _ wsX1_limit RX1 := S
  have zx := S.1
  have zb := S.2.1
  have hl : lv_has ls 5 [(0, .int k), (1, .int t)] := hl
  refine lv_iconst (v := 4) zx zb dX1_limit_0 (by decide) ?_
  refine lv_istore_n (lv' := [(2, .int 4), (0, .int k), (1, .int t)]) zx zb dX1_limit_1 rfl hl (by decide) rfl (fun ls hl => ?_)
  refine lv_iload_n zx zb dX1_limit_2 rfl (lv_at hl 0 rfl) ?_
  refine lv_iconst (v := 1) zx zb dX1_limit_3 (by decide) ?_
  refine r_iadd (v := 5) S (by decide) dX1_limit_4 ?_
  refine lv_istore_n (lv' := [(3, .int 5), (2, .int 4), (0, .int k), (1, .int t)]) zx zb dX1_limit_5 rfl hl (by decide) rfl (fun ls hl => ?_)
  refine lv_iload_n zx zb dX1_limit_6 rfl (lv_at hl 3 rfl) ?_
  refine lv_iconst (v := 2) zx zb dX1_limit_7 (by decide) ?_
  refine lv_irem zx zb dX1_limit_8 (by decide) ?_
  refine k_itE (fun y_1 => ?_)
  refine lv_iconst (v := 1) zx zb dX1_limit_9 (by decide) ?_
  refine k_cutW (PP := fun Wx => ∀ (x_3 : Int32) (H : Heap) (locs : List Loc) (ls : Array Slot), wd X (fun _ => True) (va_A [] sz) s ([]) H locs → lv_has ls 5 [(3, .int 5), (2, .int 4), (0, .int k), (1, .int t)] → Wx (F0 m 20 ls [.int x_3]) H locs) ?_ ?_
  · intro join_10
    refine lv_icmp_ne (tgt := 19) zx zb dX1_limit_10 (by decide) (fun c_2 => ?_) (fun c_2 => ?_)
    · refine lv_iload_n zx zb dX1_limit_19 rfl (lv_at hl 1 rfl) ?_
      exact join_10 4 _ _ _  G hl
    · refine lv_iload_n zx zb dX1_limit_13 rfl (lv_at hl 1 rfl) ?_
      refine lv_iconst (v := 1) zx zb dX1_limit_14 (by decide) ?_
      refine r_isub (v := 3) S (by decide) dX1_limit_15 ?_
      refine lv_goto (tgt := 20) zx zb dX1_limit_16 (by decide) ?_
      exact join_10 3 _ _ _  G hl
  · intro x_3 H locs ls  G hl
    refine lv_istore (lv' := [(4, .int x_3), (3, .int 5), (2, .int 4), (0, .int k), (1, .int t)]) zx zb dX1_limit_20 hl (by decide) rfl (fun ls hl => ?_)
    refine lv_iload_n zx zb dX1_limit_22 rfl (lv_at hl 3 rfl) ?_
    rcases k_ts1_5 k with w_4 | w_4 | w_4 | w_4 | w_4 | w_4
    · refine k_it w_4 ?_
      refine lv_tableIn (off := 33) (tgt := 56) zx zb dX1_limit_23 (by decide) (by decide) rfl (by decide) ?_
      refine lv_iload_n zx zb dX1_limit_56 rfl (lv_at hl 1 rfl) ?_
      exact e_int S zr zlk (vp_nar_int _) G () [] rfl rfl (Or.inl rfl) (trivial) dX1_limit_57
    · refine k_it w_4 ?_
      refine lv_tableIn (off := 35) (tgt := 58) zx zb dX1_limit_23 (by decide) (by decide) rfl (by decide) ?_
      refine lv_iload zx zb dX1_limit_58 (lv_at hl 0 rfl) ?_
      exact e_int S zr zlk (vp_nar_int _) G () [] rfl rfl (Or.inl rfl) (trivial) dX1_limit_60
    · refine k_it w_4 ?_
      refine lv_tableIn (off := 38) (tgt := 61) zx zb dX1_limit_23 (by decide) (by decide) rfl (by decide) ?_
      refine lv_iload_n zx zb dX1_limit_61 rfl (lv_at hl 4 rfl) ?_
      refine lv_iconst (v := 3) zx zb dX1_limit_62 (by decide) ?_
      refine k_cutW (PP := fun Wx => ∀ (x_6 : Int32) (H : Heap) (locs : List Loc) (ls : Array Slot), wd X (fun _ => True) (va_A [] sz) s ([]) H locs → lv_has ls 5 [(4, .int x_3), (3, .int 5), (2, .int 4), (0, .int k), (1, .int t)] → Wx (F0 m 73 ls [.int x_6]) H locs) ?_ ?_
      · intro join_63
        refine lv_icmp_ge (tgt := 72) zx zb dX1_limit_63 (by decide) (fun c_5 => ?_) (fun c_5 => ?_)
        · refine lv_iload_n zx zb dX1_limit_72 rfl (lv_at hl 1 rfl) ?_
          exact join_63 5 _ _ _  G hl
        · refine lv_iload_n zx zb dX1_limit_66 rfl (lv_at hl 1 rfl) ?_
          refine lv_iconst (v := 3) zx zb dX1_limit_67 (by decide) ?_
          refine r_iadd (v := 8) S (by decide) dX1_limit_68 ?_
          refine lv_goto (tgt := 73) zx zb dX1_limit_69 (by decide) ?_
          exact join_63 8 _ _ _  G hl
      · intro x_6 H locs ls  G hl
        exact e_int S zr zlk (vp_nar_int _) G () [] rfl rfl (Or.inl rfl) (trivial) dX1_limit_73
    · refine k_it w_4 ?_
      refine lv_tableIn (off := 51) (tgt := 74) zx zb dX1_limit_23 (by decide) (by decide) rfl (by decide) ?_
      refine lv_iload zx zb dX1_limit_74 (lv_at hl 0 rfl) ?_
      refine lv_iconst (v := 1) zx zb dX1_limit_76 (by decide) ?_
      refine r_isub (v := (x_3 - 1)) S rfl dX1_limit_77 ?_
      exact e_int S zr zlk (vp_nar_int _) G () [] rfl rfl (Or.inl rfl) (trivial) dX1_limit_78
    · refine k_it w_4 ?_
      refine lv_tableIn (off := 56) (tgt := 79) zx zb dX1_limit_23 (by decide) (by decide) rfl (by decide) ?_
      refine lv_iload_n zx zb dX1_limit_79 rfl (lv_at hl 4 rfl) ?_
      refine lv_iconst (v := 4) zx zb dX1_limit_80 (by decide) ?_
      refine lv_irem zx zb dX1_limit_81 (by decide) ?_
      refine k_itE (fun y_7 => ?_)
      refine k_cutW (PP := fun Wx => ∀ (x_9 : Int32) (H : Heap) (locs : List Loc) (ls : Array Slot), wd X (fun _ => True) (va_A [] sz) s ([]) H locs → lv_has ls 5 [(4, .int x_3), (3, .int 5), (2, .int 4), (0, .int k), (1, .int t)] → Wx (F0 m 92 ls [.int x_9]) H locs) ?_ ?_
      · intro join_82
        refine lv_if_ne (tgt := 91) zx zb dX1_limit_82 (by decide) (fun c_8 => ?_) (fun c_8 => ?_)
        · refine lv_iload_n zx zb dX1_limit_91 rfl (lv_at hl 1 rfl) ?_
          exact join_82 5 _ _ _  G hl
        · refine lv_iload_n zx zb dX1_limit_85 rfl (lv_at hl 1 rfl) ?_
          refine lv_iconst (v := 2) zx zb dX1_limit_86 (by decide) ?_
          refine r_iadd (v := 7) S (by decide) dX1_limit_87 ?_
          refine lv_goto (tgt := 92) zx zb dX1_limit_88 (by decide) ?_
          exact join_82 7 _ _ _  G hl
      · intro x_9 H locs ls  G hl
        exact e_int S zr zlk (vp_nar_int _) G () [] rfl rfl (Or.inl rfl) (trivial) dX1_limit_92
    · refine lv_tableOut (tgt := 93) zx zb dX1_limit_23 w_4 (by decide) ?_
      refine lv_iload_n zx zb dX1_limit_93 rfl (lv_at hl 2 rfl) ?_
      exact e_int S zr zlk (vp_nar_int _) G () [] rfl rfl (Or.inl rfl) (trivial) dX1_limit_94
theorem in_X8_isHome_X8 : ∀ w ∈ wsX80, w ∈ wsX8_isHome := by decide +kernel
theorem lk_X8_isHome_33 : Cond.fieldLink RX8 33 "EggSpoons$Runner" "homeAt" "I" ∈ wsX8_isHome := by decide +kernel
set_option maxHeartbeats 4000000 in
set_option maxRecDepth 100000 in
/-- isHome answers -/
theorem s_isHome (l : Launch) (X : EX) (h0 : Nat) (a : Nat → Int32) (d : Nat → Int32) (sz : Nat) : Met l yX8_isHome wsX8_isHome ({ frames := 0, cells := 0, slots := 0, locals := 0 } : Room) (pE X [.ref h0] (rnV h0 a d) sz) (qI (fun (r : Int32) (u : Unit) => r = 0 ∨ r = 1) X (fun (u : Unit) => []) [] sz) 0 0 (va_A [] sz) := by
  refine mk_met (B := (fun _ => True)) (A := (va_A [] sz)) (cc := cX8_isHome) (maxL := 1) (ret := (some .boolean)) (by decide) rfl (Nat.le_of_ble_eq_true rfl) k_ro k_a (fun p e s m below meth c S zr zlk znm zsz G ls hl => ?_)
  have S : CallFix p m c cX8_isHome 1 s _ wsX8_isHome RX8 := S
  have zx := S.1
  have zb := S.2.1
  have hl : lv_has ls 1 [(0, .ref h0)] := hl
  refine lv_aload_n zx zb dX8_isHome_0 rfl (lv_at hl 0 rfl) ?_
  refine r_get (C := RX8) (T := TX8) (N := 8) (ci := 6) (v := .int (d 4)) S in_X8_isHome_X8 G 0 rfl rfl 7 (by decide) lk_X8_isHome_33 rfl dX8_isHome_1 ?_
  refine lv_iconst (v := (-1)) zx zb dX8_isHome_4 (by decide) ?_
  refine lv_icmp_eq (tgt := 12) zx zb dX8_isHome_5 (by decide) (fun c_1 => ?_) (fun c_1 => ?_)
  · refine lv_iconst (v := 0) zx zb dX8_isHome_12 (by decide) ?_
    exact e_int S zr zlk (by decide) G () [] rfl rfl (Or.inl rfl) (by first | exact Or.inl rfl | exact Or.inr rfl) dX8_isHome_13
  · refine lv_iconst (v := 1) zx zb dX8_isHome_8 (by decide) ?_
    refine lv_goto (tgt := 13) zx zb dX8_isHome_9 (by decide) ?_
    exact e_int S zr zlk (by decide) G () [] rfl rfl (Or.inl rfl) (by first | exact Or.inl rfl | exact Or.inr rfl) dX8_isHome_13
theorem hdV_X8_isHome : yX8_isHome.cls = RX8 ∧ yX8_isHome.cls ≠ "java/lang/invoke/MethodHandle" ∧ yX8_isHome.cls ≠ "java/lang/invoke/VarHandle" ∧ (parseMethodDescriptor yX8_isHome.desc).map (fun d => d.parameters.length) = some 0 := by decide +kernel
theorem in_X8_step_X8 : ∀ w ∈ wsX80, w ∈ wsX8_step := by decide +kernel
theorem lk_X8_step_30 : Cond.fieldLink RX8 30 "EggSpoons$Runner" "waits" "I" ∈ wsX8_step := by decide +kernel
theorem lk_X8_step_9 : Cond.fieldLink RX8 9 "EggSpoons$Runner" "kind" "I" ∈ wsX8_step := by decide +kernel
theorem lk_X8_step_15 : Cond.fieldLink RX8 15 "EggSpoons$Runner" "legs" "I" ∈ wsX8_step := by decide +kernel
theorem lk_X8_step_21 : Cond.fieldLink RX8 21 "EggSpoons$Runner" "speed" "I" ∈ wsX8_step := by decide +kernel
theorem hdS_X2_reach : yX2_reach.cls ≠ "java/lang/invoke/MethodHandle" ∧ yX2_reach.cls ≠ "java/lang/invoke/VarHandle" ∧ (parseMethodDescriptor yX2_reach.desc).map (fun d => d.parameters.length) = some 4 := by decide +kernel
theorem lk_X8_step_18 : Cond.fieldLink RX8 18 "EggSpoons$Runner" "egg" "I" ∈ wsX8_step := by decide +kernel
theorem hdS_X1_limit : yX1_limit.cls ≠ "java/lang/invoke/MethodHandle" ∧ yX1_limit.cls ≠ "java/lang/invoke/VarHandle" ∧ (parseMethodDescriptor yX1_limit.desc).map (fun d => d.parameters.length) = some 2 := by decide +kernel
theorem lk_X8_step_24 : Cond.fieldLink RX8 24 "EggSpoons$Runner" "place" "I" ∈ wsX8_step := by decide +kernel
theorem lk_X8_step_33 : Cond.fieldLink RX8 33 "EggSpoons$Runner" "homeAt" "I" ∈ wsX8_step := by decide +kernel
theorem lk_X8_step_27 : Cond.fieldLink RX8 27 "EggSpoons$Runner" "drops" "I" ∈ wsX8_step := by decide +kernel
set_option maxHeartbeats 4000000 in
set_option maxRecDepth 100000 in
/-- step: some runner -/
theorem s_step (l : Launch) (X : EX) (h0 : Nat) (a : Nat → Int32) (d : Nat → Int32) (t : Int32) (x : Int32) (sz : Nat) : Met l yX8_step wsX8_step ({ frames := 1, cells := 0, slots := 0, locals := 26 } : Room) (pE X [.ref h0, .int t, .int x] (rnV h0 a d) sz) (qV (fun (u : (Nat → Int32)) => (True)) X (fun (u : (Nat → Int32)) => rnV h0 a u) (rnV h0 a d) sz) 0 0 (va_A (rnV h0 a d) sz) := by
  refine mk_met (B := (va_A (rnV h0 a d) sz)) (A := (va_A (rnV h0 a d) sz)) (cc := cX8_step) (maxL := 4) (ret := none) (by decide) rfl (Nat.le_of_ble_eq_true rfl) k_w k_a (fun p e s m below meth c S zr zlk znm zsz G ls hl => ?_)
  have S : CallFix p m c cX8_step 4 s _ wsX8_step RX8 := S
  have zx := S.1
  have zb := S.2.1
  have hl : lv_has ls 4 [(0, .ref h0), (1, .int t), (2, .int x)] := hl
  refine lv_aload_n zx zb dX8_step_0 rfl (lv_at hl 0 rfl) ?_
  refine o_ri (cells' := 0) (slots' := 0) G rfl rfl (n_V (As := []) (rest := []) (C := RX8) (T := TX8) (N := 8) (ci := 6) S G (s_isHome l X h0 a d s.heap.size) gX8_step_X8_isHome rfl rfl rfl hdV_X8_isHome ⟨Nat.le_of_ble_eq_true rfl, Nat.le_of_ble_eq_true rfl⟩ [0] rfl rfl 0 rfl rfl rfl hl.1 (Nat.le_of_ble_eq_true rfl) dX8_step_1 ⟨Nat.le_of_ble_eq_true rfl, Nat.le_of_ble_eq_true rfl⟩) (fun r_1 u_1 H locs hp_1 G => ?_)
  have G : wd X (va_A (rnV h0 a d) sz) (va_A (rnV h0 a d) sz) s (rnV h0 a d) H locs := G
  refine lv_if_eq (tgt := 8) zx zb dX8_step_4 (by decide) (fun c_2 => ?_) (fun c_2 => ?_)
  · refine lv_aload_n zx zb dX8_step_8 rfl (lv_at hl 0 rfl) ?_
    refine r_get (C := RX8) (T := TX8) (N := 8) (ci := 6) (v := .int (d 3)) S in_X8_step_X8 G 0 rfl rfl 6 (by decide) lk_X8_step_30 rfl dX8_step_9 ?_
    refine lv_if_le (tgt := 26) zx zb dX8_step_12 (by decide) (fun c_3 => ?_) (fun c_3 => ?_)
    · refine lv_aload_n zx zb dX8_step_26 rfl (lv_at hl 0 rfl) ?_
      refine r_get (C := RX8) (T := TX8) (N := 8) (ci := 6) (v := .int (a 0)) S in_X8_step_X8 G 0 rfl rfl 0 (by decide) lk_X8_step_9 rfl dX8_step_27 ?_
      refine lv_aload_n zx zb dX8_step_30 rfl (lv_at hl 0 rfl) ?_
      refine r_get (C := RX8) (T := TX8) (N := 8) (ci := 6) (v := .int (a 1)) S in_X8_step_X8 G 0 rfl rfl 1 (by decide) lk_X8_step_15 rfl dX8_step_31 ?_
      refine lv_iload_n zx zb dX8_step_34 rfl (lv_at hl 1 rfl) ?_
      refine lv_aload_n zx zb dX8_step_35 rfl (lv_at hl 0 rfl) ?_
      refine r_get (C := RX8) (T := TX8) (N := 8) (ci := 6) (v := .int (d 0)) S in_X8_step_X8 G 0 rfl rfl 3 (by decide) lk_X8_step_21 rfl dX8_step_36 ?_
      refine o_ri (cells' := 0) (slots' := 0) G rfl rfl (n_S (As := [.int (a 0), .int (a 1), .int t, .int (d 0)]) (rest := []) S G (s_reach l X (a 0) (a 1) t (d 0) H.size) gX8_step_X2_reach rfl rfl rfl hdS_X2_reach ⟨Nat.le_of_ble_eq_true rfl, Nat.le_of_ble_eq_true rfl⟩ [] rfl rfl rfl hl.1 (Nat.le_of_ble_eq_true rfl) dX8_step_39 ⟨Nat.le_of_ble_eq_true rfl, Nat.le_of_ble_eq_true rfl⟩) (fun r_4 u_4 H locs hp_4 G => ?_)
      have G : wd X (va_A (rnV h0 a d) sz) (va_A (rnV h0 a d) sz) s (rnV h0 a d) H locs := G
      refine lv_istore_n (lv' := [(3, .int r_4), (0, .ref h0), (1, .int t), (2, .int x)]) zx zb dX8_step_42 rfl hl (by decide) rfl (fun ls hl => ?_)
      refine lv_iload_n zx zb dX8_step_43 rfl (lv_at hl 0 rfl) ?_
      refine lv_aload_n zx zb dX8_step_44 rfl (lv_at hl 1 rfl) ?_
      refine r_get (C := RX8) (T := TX8) (N := 8) (ci := 6) (v := .int (a 2)) S in_X8_step_X8 G 0 rfl rfl 2 (by decide) lk_X8_step_18 rfl dX8_step_45 ?_
      refine lv_iload_n zx zb dX8_step_48 rfl (lv_at hl 2 rfl) ?_
      refine o_ri (cells' := 0) (slots' := 0) G rfl rfl (n_S (As := [.int (a 2), .int t]) (rest := [.int r_4]) S G (s_limit l X (a 2) t H.size) gX8_step_X1_limit rfl rfl rfl hdS_X1_limit ⟨Nat.le_of_ble_eq_true rfl, Nat.le_of_ble_eq_true rfl⟩ [] rfl rfl rfl hl.1 (Nat.le_of_ble_eq_true rfl) dX8_step_49 ⟨Nat.le_of_ble_eq_true rfl, Nat.le_of_ble_eq_true rfl⟩) (fun r_5 u_5 H locs hp_5 G => ?_)
      have G : wd X (va_A (rnV h0 a d) sz) (va_A (rnV h0 a d) sz) s (rnV h0 a d) H locs := G
      refine lv_icmp_le (tgt := 85) zx zb dX8_step_52 (by decide) (fun c_6 => ?_) (fun c_6 => ?_)
      · refine lv_aload_n zx zb dX8_step_85 rfl (lv_at hl 1 rfl) ?_
        refine lv_dup zx zb dX8_step_86 rfl ?_
        refine r_get (C := RX8) (T := TX8) (N := 8) (ci := 6) (v := .int (d 1)) S in_X8_step_X8 G 0 rfl rfl 4 (by decide) lk_X8_step_24 rfl dX8_step_87 ?_
        refine lv_iload_n zx zb dX8_step_90 rfl (lv_at hl 0 rfl) ?_
        refine r_iadd (v := ((d 1) + r_4)) S rfl dX8_step_91 ?_
        refine r_put (C := RX8) (T := TX8) (N := 8) (ci := 6) (v := .int ((d 1) + r_4)) S in_X8_step_X8 tyX8_ok nmX8 G 0 rfl rfl 4 (by decide) lk_X8_step_24 rfl (vp_nar_int _) rfl (Nat.le_of_ble_eq_true rfl) dX8_step_92 (fun H locs G => ?_)
        obtain ⟨d_7, G⟩ : ∃ d_7 : Nat → Int32, wd X (va_A (rnV h0 a d) sz) (va_A (rnV h0 a d) sz) s (rnV h0 a d_7) H locs := ⟨upd d 1 ((d 1) + r_4), G⟩
        refine lv_aload_n zx zb dX8_step_95 rfl (lv_at hl 1 rfl) ?_
        refine r_get (C := RX8) (T := TX8) (N := 8) (ci := 6) (v := .int (d_7 1)) S in_X8_step_X8 G 0 rfl rfl 4 (by decide) lk_X8_step_24 rfl dX8_step_96 ?_
        refine lv_iload_n zx zb dX8_step_99 rfl (lv_at hl 3 rfl) ?_
        refine k_cutW (PP := fun Wx => ∀ (d_9 : Nat → Int32) (H : Heap) (locs : List Loc) (ls : Array Slot), wd X (va_A (rnV h0 a d) sz) (va_A (rnV h0 a d) sz) s (rnV h0 a d_9) H locs → lv_has ls 4 [(3, .int r_4), (0, .ref h0), (1, .int t), (2, .int x)] → Wx (F0 m 108 ls []) H locs) ?_ ?_
        · intro join_100
          refine lv_icmp_lt (tgt := 108) zx zb dX8_step_100 (by decide) (fun c_8 => ?_) (fun c_8 => ?_)
          · exact join_100 d_7 _ _ _  G hl
          · refine lv_aload_n zx zb dX8_step_103 rfl (lv_at hl 1 rfl) ?_
            refine lv_iload_n zx zb dX8_step_104 rfl (lv_at hl 2 rfl) ?_
            refine r_put (C := RX8) (T := TX8) (N := 8) (ci := 6) (v := .int t) S in_X8_step_X8 tyX8_ok nmX8 G 0 rfl rfl 7 (by decide) lk_X8_step_33 rfl (vp_nar_int _) rfl (Nat.le_of_ble_eq_true rfl) dX8_step_105 (fun H locs G => ?_)
            obtain ⟨d_10, G⟩ : ∃ d_10 : Nat → Int32, wd X (va_A (rnV h0 a d) sz) (va_A (rnV h0 a d) sz) s (rnV h0 a d_10) H locs := ⟨upd d_7 4 t, G⟩
            exact join_100 d_10 _ _ _  G hl
        · intro d_9 H locs ls  G hl
          exact e_void S zr zlk G (d_9) [0] rfl rfl (Or.inr rfl) (trivial) dX8_step_108
      · refine lv_aload_n zx zb dX8_step_55 rfl (lv_at hl 1 rfl) ?_
        refine lv_aload_n zx zb dX8_step_56 rfl (lv_at hl 1 rfl) ?_
        refine r_get (C := RX8) (T := TX8) (N := 8) (ci := 6) (v := .int (d 2)) S in_X8_step_X8 G 0 rfl rfl 5 (by decide) lk_X8_step_27 rfl dX8_step_57 ?_
        refine lv_bipush (v := 99) zx zb dX8_step_60 (by decide) ?_
        refine k_cutW (PP := fun Wx => ∀ (x_12 : Int32) (H : Heap) (locs : List Loc) (ls : Array Slot), wd X (va_A (rnV h0 a d) sz) (va_A (rnV h0 a d) sz) s (rnV h0 a d) H locs → lv_has ls 4 [(3, .int r_4), (0, .ref h0), (1, .int t), (2, .int x)] → Wx (F0 m 76 ls [.int x_12, .ref h0]) H locs) ?_ ?_
        · intro join_62
          refine lv_icmp_ge (tgt := 74) zx zb dX8_step_62 (by decide) (fun c_11 => ?_) (fun c_11 => ?_)
          · refine lv_bipush (v := 99) zx zb dX8_step_74 (by decide) ?_
            exact join_62 99 _ _ _  G hl
          · refine lv_aload_n zx zb dX8_step_65 rfl (lv_at hl 1 rfl) ?_
            refine r_get (C := RX8) (T := TX8) (N := 8) (ci := 6) (v := .int (d 2)) S in_X8_step_X8 G 0 rfl rfl 5 (by decide) lk_X8_step_27 rfl dX8_step_66 ?_
            refine lv_iconst (v := 1) zx zb dX8_step_69 (by decide) ?_
            refine r_iadd (v := ((d 2) + 1)) S rfl dX8_step_70 ?_
            refine lv_goto (tgt := 76) zx zb dX8_step_71 (by decide) ?_
            exact join_62 ((d 2) + 1) _ _ _  G hl
        · intro x_12 H locs ls  G hl
          refine r_put (C := RX8) (T := TX8) (N := 8) (ci := 6) (v := .int x_12) S in_X8_step_X8 tyX8_ok nmX8 G 0 rfl rfl 5 (by decide) lk_X8_step_27 rfl (vp_nar_int _) rfl (Nat.le_of_ble_eq_true rfl) dX8_step_76 (fun H locs G => ?_)
          obtain ⟨d_13, G⟩ : ∃ d_13 : Nat → Int32, wd X (va_A (rnV h0 a d) sz) (va_A (rnV h0 a d) sz) s (rnV h0 a d_13) H locs := ⟨upd d 2 x_12, G⟩
          refine lv_aload_n zx zb dX8_step_79 rfl (lv_at hl 1 rfl) ?_
          refine lv_iconst (v := 2) zx zb dX8_step_80 (by decide) ?_
          refine r_put (C := RX8) (T := TX8) (N := 8) (ci := 6) (v := .int 2) S in_X8_step_X8 tyX8_ok nmX8 G 0 rfl rfl 6 (by decide) lk_X8_step_30 rfl (vp_nar_int _) rfl (Nat.le_of_ble_eq_true rfl) dX8_step_81 (fun H locs G => ?_)
          obtain ⟨d_14, G⟩ : ∃ d_14 : Nat → Int32, wd X (va_A (rnV h0 a d) sz) (va_A (rnV h0 a d) sz) s (rnV h0 a d_14) H locs := ⟨upd d_13 3 2, G⟩
          exact e_void S zr zlk G (d_14) [0] rfl rfl (Or.inr rfl) (trivial) dX8_step_84
    · refine lv_aload_n zx zb dX8_step_15 rfl (lv_at hl 0 rfl) ?_
      refine lv_dup zx zb dX8_step_16 rfl ?_
      refine r_get (C := RX8) (T := TX8) (N := 8) (ci := 6) (v := .int (d 3)) S in_X8_step_X8 G 0 rfl rfl 6 (by decide) lk_X8_step_30 rfl dX8_step_17 ?_
      refine lv_iconst (v := 1) zx zb dX8_step_20 (by decide) ?_
      refine r_isub (v := ((d 3) - 1)) S rfl dX8_step_21 ?_
      refine r_put (C := RX8) (T := TX8) (N := 8) (ci := 6) (v := .int ((d 3) - 1)) S in_X8_step_X8 tyX8_ok nmX8 G 0 rfl rfl 6 (by decide) lk_X8_step_30 rfl (vp_nar_int _) rfl (Nat.le_of_ble_eq_true rfl) dX8_step_22 (fun H locs G => ?_)
      obtain ⟨d_15, G⟩ : ∃ d_15 : Nat → Int32, wd X (va_A (rnV h0 a d) sz) (va_A (rnV h0 a d) sz) s (rnV h0 a d_15) H locs := ⟨upd d 3 ((d 3) - 1), G⟩
      exact e_void S zr zlk G (d_15) [0] rfl rfl (Or.inr rfl) (trivial) dX8_step_25
  · exact e_void S zr zlk G (d) [0] rfl rfl (Or.inr rfl) (trivial) dX8_step_7
theorem in_X8_begin_X8 : ∀ w ∈ wsX80, w ∈ wsX8_begin := by decide +kernel
theorem lk_X8_begin_9 : Cond.fieldLink RX8 9 "EggSpoons$Runner" "kind" "I" ∈ wsX8_begin := by decide +kernel
theorem lk_X8_begin_15 : Cond.fieldLink RX8 15 "EggSpoons$Runner" "legs" "I" ∈ wsX8_begin := by decide +kernel
theorem lk_X8_begin_18 : Cond.fieldLink RX8 18 "EggSpoons$Runner" "egg" "I" ∈ wsX8_begin := by decide +kernel
theorem lk_X8_begin_21 : Cond.fieldLink RX8 21 "EggSpoons$Runner" "speed" "I" ∈ wsX8_begin := by decide +kernel
theorem lk_X8_begin_24 : Cond.fieldLink RX8 24 "EggSpoons$Runner" "place" "I" ∈ wsX8_begin := by decide +kernel
theorem lk_X8_begin_27 : Cond.fieldLink RX8 27 "EggSpoons$Runner" "drops" "I" ∈ wsX8_begin := by decide +kernel
theorem lk_X8_begin_30 : Cond.fieldLink RX8 30 "EggSpoons$Runner" "waits" "I" ∈ wsX8_begin := by decide +kernel
theorem lk_X8_begin_33 : Cond.fieldLink RX8 33 "EggSpoons$Runner" "homeAt" "I" ∈ wsX8_begin := by decide +kernel
theorem in_X8_copyFrom_X8 : ∀ w ∈ wsX80, w ∈ wsX8_copyFrom := by decide +kernel
theorem lk_X8_copyFrom_9 : Cond.fieldLink RX8 9 "EggSpoons$Runner" "kind" "I" ∈ wsX8_copyFrom := by decide +kernel
theorem lk_X8_copyFrom_15 : Cond.fieldLink RX8 15 "EggSpoons$Runner" "legs" "I" ∈ wsX8_copyFrom := by decide +kernel
theorem lk_X8_copyFrom_18 : Cond.fieldLink RX8 18 "EggSpoons$Runner" "egg" "I" ∈ wsX8_copyFrom := by decide +kernel
theorem lk_X8_copyFrom_21 : Cond.fieldLink RX8 21 "EggSpoons$Runner" "speed" "I" ∈ wsX8_copyFrom := by decide +kernel
theorem lk_X8_copyFrom_24 : Cond.fieldLink RX8 24 "EggSpoons$Runner" "place" "I" ∈ wsX8_copyFrom := by decide +kernel
theorem lk_X8_copyFrom_27 : Cond.fieldLink RX8 27 "EggSpoons$Runner" "drops" "I" ∈ wsX8_copyFrom := by decide +kernel
theorem lk_X8_copyFrom_30 : Cond.fieldLink RX8 30 "EggSpoons$Runner" "waits" "I" ∈ wsX8_copyFrom := by decide +kernel
theorem lk_X8_copyFrom_33 : Cond.fieldLink RX8 33 "EggSpoons$Runner" "homeAt" "I" ∈ wsX8_copyFrom := by decide +kernel
set_option maxHeartbeats 4000000 in
set_option maxRecDepth 100000 in
/-- Runner.copyFrom -/
theorem s_rcopy (l : Launch) (X : EX) (h0 : Nat) (a : Nat → Int32) (d : Nat → Int32) (h1 : Nat) (a1 : Nat → Int32) (d1 : Nat → Int32) (sz : Nat) : Met l yX8_copyFrom wsX8_copyFrom ({ frames := 0, cells := 0, slots := 0, locals := 0 } : Room) (pE X [.ref h0, .ref h1] (@HAppend.hAppend va_W va_W va_W _ (rnV h0 a d) (rnV h1 a1 d1)) sz) (qV (fun (u : (Nat → Int32) × (Nat → Int32)) => (True)) X (fun (u : (Nat → Int32) × (Nat → Int32)) => @HAppend.hAppend va_W va_W va_W _ (rnV h0 u.1 u.2) (rnV h1 a1 d1)) (@HAppend.hAppend va_W va_W va_W _ (rnV h0 a d) (rnV h1 a1 d1)) sz) 0 0 (va_A (@HAppend.hAppend va_W va_W va_W _ (rnV h0 a d) (rnV h1 a1 d1)) sz) := by
  refine mk_met (B := (va_A (@HAppend.hAppend va_W va_W va_W _ (rnV h0 a d) (rnV h1 a1 d1)) sz)) (A := (va_A (@HAppend.hAppend va_W va_W va_W _ (rnV h0 a d) (rnV h1 a1 d1)) sz)) (cc := cX8_copyFrom) (maxL := 2) (ret := none) (by decide) rfl (Nat.le_of_ble_eq_true rfl) k_w k_a (fun p e s m below meth c S zr zlk znm zsz G ls hl => ?_)
  have S : CallFix p m c cX8_copyFrom 2 s _ wsX8_copyFrom RX8 := S
  have zx := S.1
  have zb := S.2.1
  have hl : lv_has ls 2 [(0, .ref h0), (1, .ref h1)] := hl
  refine lv_aload_n zx zb dX8_copyFrom_0 rfl (lv_at hl 0 rfl) ?_
  refine lv_aload_n zx zb dX8_copyFrom_1 rfl (lv_at hl 1 rfl) ?_
  refine r_get (C := RX8) (T := TX8) (N := 8) (ci := 6) (v := .int (a1 0)) S in_X8_copyFrom_X8 G 1 rfl rfl 0 (by decide) lk_X8_copyFrom_9 rfl dX8_copyFrom_2 ?_
  refine r_put (C := RX8) (T := TX8) (N := 8) (ci := 6) (v := .int (a1 0)) S in_X8_copyFrom_X8 tyX8_ok nmX8 G 0 rfl rfl 0 (by decide) lk_X8_copyFrom_9 rfl (vp_nar_int _) rfl (Nat.le_of_ble_eq_true rfl) dX8_copyFrom_5 (fun H locs G => ?_)
  obtain ⟨a_1, G⟩ : ∃ a_1 : Nat → Int32, wd X (va_A (@HAppend.hAppend va_W va_W va_W _ (rnV h0 a d) (rnV h1 a1 d1)) sz) (va_A (@HAppend.hAppend va_W va_W va_W _ (rnV h0 a d) (rnV h1 a1 d1)) sz) s (@HAppend.hAppend va_W va_W va_W _ (rnV h0 a_1 d) (rnV h1 a1 d1)) H locs := ⟨upd a 0 (a1 0), G⟩
  refine lv_aload_n zx zb dX8_copyFrom_8 rfl (lv_at hl 0 rfl) ?_
  refine lv_aload_n zx zb dX8_copyFrom_9 rfl (lv_at hl 1 rfl) ?_
  refine r_get (C := RX8) (T := TX8) (N := 8) (ci := 6) (v := .int (a1 1)) S in_X8_copyFrom_X8 G 1 rfl rfl 1 (by decide) lk_X8_copyFrom_15 rfl dX8_copyFrom_10 ?_
  refine r_put (C := RX8) (T := TX8) (N := 8) (ci := 6) (v := .int (a1 1)) S in_X8_copyFrom_X8 tyX8_ok nmX8 G 0 rfl rfl 1 (by decide) lk_X8_copyFrom_15 rfl (vp_nar_int _) rfl (Nat.le_of_ble_eq_true rfl) dX8_copyFrom_13 (fun H locs G => ?_)
  obtain ⟨a_2, G⟩ : ∃ a_2 : Nat → Int32, wd X (va_A (@HAppend.hAppend va_W va_W va_W _ (rnV h0 a d) (rnV h1 a1 d1)) sz) (va_A (@HAppend.hAppend va_W va_W va_W _ (rnV h0 a d) (rnV h1 a1 d1)) sz) s (@HAppend.hAppend va_W va_W va_W _ (rnV h0 a_2 d) (rnV h1 a1 d1)) H locs := ⟨upd a_1 1 (a1 1), G⟩
  refine lv_aload_n zx zb dX8_copyFrom_16 rfl (lv_at hl 0 rfl) ?_
  refine lv_aload_n zx zb dX8_copyFrom_17 rfl (lv_at hl 1 rfl) ?_
  refine r_get (C := RX8) (T := TX8) (N := 8) (ci := 6) (v := .int (a1 2)) S in_X8_copyFrom_X8 G 1 rfl rfl 2 (by decide) lk_X8_copyFrom_18 rfl dX8_copyFrom_18 ?_
  refine r_put (C := RX8) (T := TX8) (N := 8) (ci := 6) (v := .int (a1 2)) S in_X8_copyFrom_X8 tyX8_ok nmX8 G 0 rfl rfl 2 (by decide) lk_X8_copyFrom_18 rfl (vp_nar_int _) rfl (Nat.le_of_ble_eq_true rfl) dX8_copyFrom_21 (fun H locs G => ?_)
  obtain ⟨a_3, G⟩ : ∃ a_3 : Nat → Int32, wd X (va_A (@HAppend.hAppend va_W va_W va_W _ (rnV h0 a d) (rnV h1 a1 d1)) sz) (va_A (@HAppend.hAppend va_W va_W va_W _ (rnV h0 a d) (rnV h1 a1 d1)) sz) s (@HAppend.hAppend va_W va_W va_W _ (rnV h0 a_3 d) (rnV h1 a1 d1)) H locs := ⟨upd a_2 2 (a1 2), G⟩
  refine lv_aload_n zx zb dX8_copyFrom_24 rfl (lv_at hl 0 rfl) ?_
  refine lv_aload_n zx zb dX8_copyFrom_25 rfl (lv_at hl 1 rfl) ?_
  refine r_get (C := RX8) (T := TX8) (N := 8) (ci := 6) (v := .int (d1 0)) S in_X8_copyFrom_X8 G 1 rfl rfl 3 (by decide) lk_X8_copyFrom_21 rfl dX8_copyFrom_26 ?_
  refine r_put (C := RX8) (T := TX8) (N := 8) (ci := 6) (v := .int (d1 0)) S in_X8_copyFrom_X8 tyX8_ok nmX8 G 0 rfl rfl 3 (by decide) lk_X8_copyFrom_21 rfl (vp_nar_int _) rfl (Nat.le_of_ble_eq_true rfl) dX8_copyFrom_29 (fun H locs G => ?_)
  obtain ⟨d_4, G⟩ : ∃ d_4 : Nat → Int32, wd X (va_A (@HAppend.hAppend va_W va_W va_W _ (rnV h0 a d) (rnV h1 a1 d1)) sz) (va_A (@HAppend.hAppend va_W va_W va_W _ (rnV h0 a d) (rnV h1 a1 d1)) sz) s (@HAppend.hAppend va_W va_W va_W _ (rnV h0 a_3 d_4) (rnV h1 a1 d1)) H locs := ⟨upd d 0 (d1 0), G⟩
  refine lv_aload_n zx zb dX8_copyFrom_32 rfl (lv_at hl 0 rfl) ?_
  refine lv_aload_n zx zb dX8_copyFrom_33 rfl (lv_at hl 1 rfl) ?_
  refine r_get (C := RX8) (T := TX8) (N := 8) (ci := 6) (v := .int (d1 1)) S in_X8_copyFrom_X8 G 1 rfl rfl 4 (by decide) lk_X8_copyFrom_24 rfl dX8_copyFrom_34 ?_
  refine r_put (C := RX8) (T := TX8) (N := 8) (ci := 6) (v := .int (d1 1)) S in_X8_copyFrom_X8 tyX8_ok nmX8 G 0 rfl rfl 4 (by decide) lk_X8_copyFrom_24 rfl (vp_nar_int _) rfl (Nat.le_of_ble_eq_true rfl) dX8_copyFrom_37 (fun H locs G => ?_)
  obtain ⟨d_5, G⟩ : ∃ d_5 : Nat → Int32, wd X (va_A (@HAppend.hAppend va_W va_W va_W _ (rnV h0 a d) (rnV h1 a1 d1)) sz) (va_A (@HAppend.hAppend va_W va_W va_W _ (rnV h0 a d) (rnV h1 a1 d1)) sz) s (@HAppend.hAppend va_W va_W va_W _ (rnV h0 a_3 d_5) (rnV h1 a1 d1)) H locs := ⟨upd d_4 1 (d1 1), G⟩
  refine lv_aload_n zx zb dX8_copyFrom_40 rfl (lv_at hl 0 rfl) ?_
  refine lv_aload_n zx zb dX8_copyFrom_41 rfl (lv_at hl 1 rfl) ?_
  refine r_get (C := RX8) (T := TX8) (N := 8) (ci := 6) (v := .int (d1 2)) S in_X8_copyFrom_X8 G 1 rfl rfl 5 (by decide) lk_X8_copyFrom_27 rfl dX8_copyFrom_42 ?_
  refine r_put (C := RX8) (T := TX8) (N := 8) (ci := 6) (v := .int (d1 2)) S in_X8_copyFrom_X8 tyX8_ok nmX8 G 0 rfl rfl 5 (by decide) lk_X8_copyFrom_27 rfl (vp_nar_int _) rfl (Nat.le_of_ble_eq_true rfl) dX8_copyFrom_45 (fun H locs G => ?_)
  obtain ⟨d_6, G⟩ : ∃ d_6 : Nat → Int32, wd X (va_A (@HAppend.hAppend va_W va_W va_W _ (rnV h0 a d) (rnV h1 a1 d1)) sz) (va_A (@HAppend.hAppend va_W va_W va_W _ (rnV h0 a d) (rnV h1 a1 d1)) sz) s (@HAppend.hAppend va_W va_W va_W _ (rnV h0 a_3 d_6) (rnV h1 a1 d1)) H locs := ⟨upd d_5 2 (d1 2), G⟩
  refine lv_aload_n zx zb dX8_copyFrom_48 rfl (lv_at hl 0 rfl) ?_
  refine lv_aload_n zx zb dX8_copyFrom_49 rfl (lv_at hl 1 rfl) ?_
  refine r_get (C := RX8) (T := TX8) (N := 8) (ci := 6) (v := .int (d1 3)) S in_X8_copyFrom_X8 G 1 rfl rfl 6 (by decide) lk_X8_copyFrom_30 rfl dX8_copyFrom_50 ?_
  refine r_put (C := RX8) (T := TX8) (N := 8) (ci := 6) (v := .int (d1 3)) S in_X8_copyFrom_X8 tyX8_ok nmX8 G 0 rfl rfl 6 (by decide) lk_X8_copyFrom_30 rfl (vp_nar_int _) rfl (Nat.le_of_ble_eq_true rfl) dX8_copyFrom_53 (fun H locs G => ?_)
  obtain ⟨d_7, G⟩ : ∃ d_7 : Nat → Int32, wd X (va_A (@HAppend.hAppend va_W va_W va_W _ (rnV h0 a d) (rnV h1 a1 d1)) sz) (va_A (@HAppend.hAppend va_W va_W va_W _ (rnV h0 a d) (rnV h1 a1 d1)) sz) s (@HAppend.hAppend va_W va_W va_W _ (rnV h0 a_3 d_7) (rnV h1 a1 d1)) H locs := ⟨upd d_6 3 (d1 3), G⟩
  refine lv_aload_n zx zb dX8_copyFrom_56 rfl (lv_at hl 0 rfl) ?_
  refine lv_aload_n zx zb dX8_copyFrom_57 rfl (lv_at hl 1 rfl) ?_
  refine r_get (C := RX8) (T := TX8) (N := 8) (ci := 6) (v := .int (d1 4)) S in_X8_copyFrom_X8 G 1 rfl rfl 7 (by decide) lk_X8_copyFrom_33 rfl dX8_copyFrom_58 ?_
  refine r_put (C := RX8) (T := TX8) (N := 8) (ci := 6) (v := .int (d1 4)) S in_X8_copyFrom_X8 tyX8_ok nmX8 G 0 rfl rfl 7 (by decide) lk_X8_copyFrom_33 rfl (vp_nar_int _) rfl (Nat.le_of_ble_eq_true rfl) dX8_copyFrom_61 (fun H locs G => ?_)
  obtain ⟨d_8, G⟩ : ∃ d_8 : Nat → Int32, wd X (va_A (@HAppend.hAppend va_W va_W va_W _ (rnV h0 a d) (rnV h1 a1 d1)) sz) (va_A (@HAppend.hAppend va_W va_W va_W _ (rnV h0 a d) (rnV h1 a1 d1)) sz) s (@HAppend.hAppend va_W va_W va_W _ (rnV h0 a_3 d_8) (rnV h1 a1 d1)) H locs := ⟨upd d_7 4 (d1 4), G⟩
  exact e_void S zr zlk G (a_3, d_8) [0, 1] rfl rfl (Or.inr rfl) (trivial) dX8_copyFrom_64
theorem in_X8_fact_X8 : ∀ w ∈ wsX80, w ∈ wsX8_fact := by decide +kernel
theorem lk_X8_fact_9 : Cond.fieldLink RX8 9 "EggSpoons$Runner" "kind" "I" ∈ wsX8_fact := by decide +kernel
theorem lk_X8_fact_15 : Cond.fieldLink RX8 15 "EggSpoons$Runner" "legs" "I" ∈ wsX8_fact := by decide +kernel
theorem lk_X8_fact_18 : Cond.fieldLink RX8 18 "EggSpoons$Runner" "egg" "I" ∈ wsX8_fact := by decide +kernel
theorem lk_X8_fact_21 : Cond.fieldLink RX8 21 "EggSpoons$Runner" "speed" "I" ∈ wsX8_fact := by decide +kernel
theorem lk_X8_fact_24 : Cond.fieldLink RX8 24 "EggSpoons$Runner" "place" "I" ∈ wsX8_fact := by decide +kernel
theorem lk_X8_fact_27 : Cond.fieldLink RX8 27 "EggSpoons$Runner" "drops" "I" ∈ wsX8_fact := by decide +kernel
theorem lk_X8_fact_30 : Cond.fieldLink RX8 30 "EggSpoons$Runner" "waits" "I" ∈ wsX8_fact := by decide +kernel
theorem lk_X8_fact_33 : Cond.fieldLink RX8 33 "EggSpoons$Runner" "homeAt" "I" ∈ wsX8_fact := by decide +kernel
set_option maxHeartbeats 4000000 in
set_option maxRecDepth 100000 in
/-- fact answers -/
theorem s_fact (l : Launch) (X : EX) (h0 : Nat) (a : Nat → Int32) (d : Nat → Int32) (x1 : Int32) (x2 : Int32) (sz : Nat) : Met l yX8_fact wsX8_fact ({ frames := 1, cells := 0, slots := 0, locals := 26 } : Room) (pE X [.ref h0, .int x1, .int x2] (rnV h0 a d) sz) (qI (fun (r : Int32) (u : Unit) => True) X (fun (u : Unit) => []) [] sz) 0 0 (va_A [] sz) := by
  refine mk_met (B := (fun _ => True)) (A := (va_A [] sz)) (cc := cX8_fact) (maxL := 3) (ret := (some .int)) (by decide) rfl (Nat.le_of_ble_eq_true rfl) k_ro k_a (fun p e s m below meth c S zr zlk znm zsz G ls hl => ?_)
  have S : CallFix p m c cX8_fact 3 s _ wsX8_fact RX8 := S
  have zx := S.1
  have zb := S.2.1
  have hl : lv_has ls 3 [(0, .ref h0), (1, .int x1), (2, .int x2)] := hl
  refine lv_iload_n zx zb dX8_fact_0 rfl (lv_at hl 1 rfl) ?_
  rcases k_ts0_8 x1 with w_1 | w_1 | w_1 | w_1 | w_1 | w_1 | w_1 | w_1 | w_1 | w_1
  · refine k_it w_1 ?_
    refine lv_tableIn (off := 51) (tgt := 52) zx zb dX8_fact_1 (by decide) (by decide) rfl (by decide) ?_
    refine lv_aload_n zx zb dX8_fact_52 rfl (lv_at hl 0 rfl) ?_
    refine r_get (C := RX8) (T := TX8) (N := 8) (ci := 6) (v := .int (a 0)) S in_X8_fact_X8 G 0 rfl rfl 0 (by decide) lk_X8_fact_9 rfl dX8_fact_53 ?_
    exact e_int S zr zlk (vp_nar_int _) G () [] rfl rfl (Or.inl rfl) (trivial) dX8_fact_56
  · refine k_it w_1 ?_
    refine lv_tableIn (off := 56) (tgt := 57) zx zb dX8_fact_1 (by decide) (by decide) rfl (by decide) ?_
    refine lv_aload_n zx zb dX8_fact_57 rfl (lv_at hl 0 rfl) ?_
    refine r_get (C := RX8) (T := TX8) (N := 8) (ci := 6) (v := .int (a 1)) S in_X8_fact_X8 G 0 rfl rfl 1 (by decide) lk_X8_fact_15 rfl dX8_fact_58 ?_
    exact e_int S zr zlk (vp_nar_int _) G () [] rfl rfl (Or.inl rfl) (trivial) dX8_fact_61
  · refine k_it w_1 ?_
    refine lv_tableIn (off := 61) (tgt := 62) zx zb dX8_fact_1 (by decide) (by decide) rfl (by decide) ?_
    refine lv_aload_n zx zb dX8_fact_62 rfl (lv_at hl 0 rfl) ?_
    refine r_get (C := RX8) (T := TX8) (N := 8) (ci := 6) (v := .int (a 2)) S in_X8_fact_X8 G 0 rfl rfl 2 (by decide) lk_X8_fact_18 rfl dX8_fact_63 ?_
    exact e_int S zr zlk (vp_nar_int _) G () [] rfl rfl (Or.inl rfl) (trivial) dX8_fact_66
  · refine k_it w_1 ?_
    refine lv_tableIn (off := 66) (tgt := 67) zx zb dX8_fact_1 (by decide) (by decide) rfl (by decide) ?_
    refine lv_aload_n zx zb dX8_fact_67 rfl (lv_at hl 0 rfl) ?_
    refine r_get (C := RX8) (T := TX8) (N := 8) (ci := 6) (v := .int (d 0)) S in_X8_fact_X8 G 0 rfl rfl 3 (by decide) lk_X8_fact_21 rfl dX8_fact_68 ?_
    exact e_int S zr zlk (vp_nar_int _) G () [] rfl rfl (Or.inl rfl) (trivial) dX8_fact_71
  · refine k_it w_1 ?_
    refine lv_tableIn (off := 71) (tgt := 72) zx zb dX8_fact_1 (by decide) (by decide) rfl (by decide) ?_
    refine lv_aload_n zx zb dX8_fact_72 rfl (lv_at hl 0 rfl) ?_
    refine r_get (C := RX8) (T := TX8) (N := 8) (ci := 6) (v := .int (d 1)) S in_X8_fact_X8 G 0 rfl rfl 4 (by decide) lk_X8_fact_24 rfl dX8_fact_73 ?_
    exact e_int S zr zlk (vp_nar_int _) G () [] rfl rfl (Or.inl rfl) (trivial) dX8_fact_76
  · refine k_it w_1 ?_
    refine lv_tableIn (off := 76) (tgt := 77) zx zb dX8_fact_1 (by decide) (by decide) rfl (by decide) ?_
    refine lv_aload_n zx zb dX8_fact_77 rfl (lv_at hl 0 rfl) ?_
    refine r_get (C := RX8) (T := TX8) (N := 8) (ci := 6) (v := .int (d 2)) S in_X8_fact_X8 G 0 rfl rfl 5 (by decide) lk_X8_fact_27 rfl dX8_fact_78 ?_
    exact e_int S zr zlk (vp_nar_int _) G () [] rfl rfl (Or.inl rfl) (trivial) dX8_fact_81
  · refine k_it w_1 ?_
    refine lv_tableIn (off := 81) (tgt := 82) zx zb dX8_fact_1 (by decide) (by decide) rfl (by decide) ?_
    refine lv_aload_n zx zb dX8_fact_82 rfl (lv_at hl 0 rfl) ?_
    refine r_get (C := RX8) (T := TX8) (N := 8) (ci := 6) (v := .int (d 3)) S in_X8_fact_X8 G 0 rfl rfl 6 (by decide) lk_X8_fact_30 rfl dX8_fact_83 ?_
    exact e_int S zr zlk (vp_nar_int _) G () [] rfl rfl (Or.inl rfl) (trivial) dX8_fact_86
  · refine k_it w_1 ?_
    refine lv_tableIn (off := 86) (tgt := 87) zx zb dX8_fact_1 (by decide) (by decide) rfl (by decide) ?_
    refine lv_aload_n zx zb dX8_fact_87 rfl (lv_at hl 0 rfl) ?_
    refine r_get (C := RX8) (T := TX8) (N := 8) (ci := 6) (v := .int (d 4)) S in_X8_fact_X8 G 0 rfl rfl 7 (by decide) lk_X8_fact_33 rfl dX8_fact_88 ?_
    exact e_int S zr zlk (vp_nar_int _) G () [] rfl rfl (Or.inl rfl) (trivial) dX8_fact_91
  · refine k_it w_1 ?_
    refine lv_tableIn (off := 91) (tgt := 92) zx zb dX8_fact_1 (by decide) (by decide) rfl (by decide) ?_
    refine lv_aload_n zx zb dX8_fact_92 rfl (lv_at hl 0 rfl) ?_
    refine r_get (C := RX8) (T := TX8) (N := 8) (ci := 6) (v := .int (a 0)) S in_X8_fact_X8 G 0 rfl rfl 0 (by decide) lk_X8_fact_9 rfl dX8_fact_93 ?_
    refine lv_aload_n zx zb dX8_fact_96 rfl (lv_at hl 0 rfl) ?_
    refine r_get (C := RX8) (T := TX8) (N := 8) (ci := 6) (v := .int (a 1)) S in_X8_fact_X8 G 0 rfl rfl 1 (by decide) lk_X8_fact_15 rfl dX8_fact_97 ?_
    refine lv_iload_n zx zb dX8_fact_100 rfl (lv_at hl 2 rfl) ?_
    refine lv_aload_n zx zb dX8_fact_101 rfl (lv_at hl 0 rfl) ?_
    refine r_get (C := RX8) (T := TX8) (N := 8) (ci := 6) (v := .int (d 0)) S in_X8_fact_X8 G 0 rfl rfl 3 (by decide) lk_X8_fact_21 rfl dX8_fact_102 ?_
    refine o_ri (cells' := 0) (slots' := 0) G rfl rfl (n_S (As := [.int (a 0), .int (a 1), .int x2, .int (d 0)]) (rest := []) S G (s_reach l X (a 0) (a 1) x2 (d 0) s.heap.size) gX8_fact_X2_reach rfl rfl rfl hdS_X2_reach ⟨Nat.le_of_ble_eq_true rfl, Nat.le_of_ble_eq_true rfl⟩ [] rfl rfl rfl hl.1 (Nat.le_of_ble_eq_true rfl) dX8_fact_105 ⟨Nat.le_of_ble_eq_true rfl, Nat.le_of_ble_eq_true rfl⟩) (fun r_2 u_2 H locs hp_2 G => ?_)
    have G : wd X (fun _ => True) (va_A [] sz) s (rnV h0 a d) H locs := G
    exact e_int S zr zlk (vp_nar_int _) G () [] rfl rfl (Or.inl rfl) (trivial) dX8_fact_108
  · refine lv_tableOut (tgt := 109) zx zb dX8_fact_1 w_1 (by decide) ?_
    refine lv_aload_n zx zb dX8_fact_109 rfl (lv_at hl 0 rfl) ?_
    refine r_get (C := RX8) (T := TX8) (N := 8) (ci := 6) (v := .int (a 2)) S in_X8_fact_X8 G 0 rfl rfl 2 (by decide) lk_X8_fact_18 rfl dX8_fact_110 ?_
    refine lv_iload_n zx zb dX8_fact_113 rfl (lv_at hl 2 rfl) ?_
    refine o_ri (cells' := 0) (slots' := 0) G rfl rfl (n_S (As := [.int (a 2), .int x2]) (rest := []) S G (s_limit l X (a 2) x2 s.heap.size) gX8_fact_X1_limit rfl rfl rfl hdS_X1_limit ⟨Nat.le_of_ble_eq_true rfl, Nat.le_of_ble_eq_true rfl⟩ [] rfl rfl rfl hl.1 (Nat.le_of_ble_eq_true rfl) dX8_fact_114 ⟨Nat.le_of_ble_eq_true rfl, Nat.le_of_ble_eq_true rfl⟩) (fun r_3 u_3 H locs hp_3 G => ?_)
    have G : wd X (fun _ => True) (va_A [] sz) s (rnV h0 a d) H locs := G
    exact e_int S zr zlk (vp_nar_int _) G () [] rfl rfl (Or.inl rfl) (trivial) dX8_fact_117
theorem hdV_X8_step : yX8_step.cls = RX8 ∧ yX8_step.cls ≠ "java/lang/invoke/MethodHandle" ∧ yX8_step.cls ≠ "java/lang/invoke/VarHandle" ∧ (parseMethodDescriptor yX8_step.desc).map (fun d => d.parameters.length) = some 2 := by decide +kernel
set_option maxHeartbeats 4000000 in
set_option maxRecDepth 100000 in
/-- ticksToHome -/
theorem s_ticksToHome (l : Launch) (X : EX) (h0 : Nat) (a : Nat → Int32) (d : Nat → Int32) (x1 : Int32) (x2 : Int32) (x3 : Int32) (hl6 : x3 ≤ 60) (sz : Nat) : Met l yX8_ticksToHome wsX8_ticksToHome ({ frames := 2, cells := 0, slots := 0, locals := 49 } : Room) (pE X [.ref h0, .int x1, .int x2, .int x3] (rnV h0 a d) sz) (qI (fun (r : Int32) (u : (Nat → Int32)) => (((-1 : Int32) ≤ r ∧ r ≤ 60) ∧ (r ≤ x3 ∨ r ≤ 0))) X (fun (u : (Nat → Int32)) => rnV h0 a u) (rnV h0 a d) sz) 0 0 (va_A (rnV h0 a d) sz) := by
  refine mk_met (B := (va_A (rnV h0 a d) sz)) (A := (va_A (rnV h0 a d) sz)) (cc := cX8_ticksToHome) (maxL := 5) (ret := (some .int)) (by decide) rfl (Nat.le_of_ble_eq_true rfl) k_w k_a (fun p e s m below meth c S zr zlk znm zsz G ls hl => ?_)
  have S : CallFix p m c cX8_ticksToHome 5 s _ wsX8_ticksToHome RX8 := S
  have zx := S.1
  have zb := S.2.1
  have hl : lv_has ls 5 [(0, .ref h0), (1, .int x1), (2, .int x2), (3, .int x3)] := hl
  refine lv_aload_n zx zb dX8_ticksToHome_0 rfl (lv_at hl 0 rfl) ?_
  refine o_ri (cells' := 0) (slots' := 0) G rfl rfl (n_V (As := []) (rest := []) (C := RX8) (T := TX8) (N := 8) (ci := 6) S G (s_isHome l X h0 a d s.heap.size) gX8_ticksToHome_X8_isHome rfl rfl rfl hdV_X8_isHome ⟨Nat.le_of_ble_eq_true rfl, Nat.le_of_ble_eq_true rfl⟩ [0] rfl rfl 0 rfl rfl rfl hl.1 (Nat.le_of_ble_eq_true rfl) dX8_ticksToHome_1 ⟨Nat.le_of_ble_eq_true rfl, Nat.le_of_ble_eq_true rfl⟩) (fun r_1 u_1 H locs hp_1 G => ?_)
  have G : wd X (va_A (rnV h0 a d) sz) (va_A (rnV h0 a d) sz) s (rnV h0 a d) H locs := G
  refine lv_if_eq (tgt := 9) zx zb dX8_ticksToHome_4 (by decide) (fun c_2 => ?_) (fun c_2 => ?_)
  · refine lv_iconst (v := 1) zx zb dX8_ticksToHome_9 (by decide) ?_
    refine lv_istore (lv' := [(4, .int 1), (0, .ref h0), (1, .int x1), (2, .int x2), (3, .int x3)]) zx zb dX8_ticksToHome_10 hl (by decide) rfl (fun ls hl => ?_)
    refine k_loop (P := ∀ (zm : Nat) (k12 : Nat) (d12_0 : Nat → Int32) (H : Heap) (locs : List Loc) (ls : Array Slot), 61 + 1 ≤ k12 + zm → (k12 ≤ 61) → wd X (va_A (rnV h0 a d) sz) (va_A (rnV h0 a d) sz) s (rnV h0 a d12_0) H locs → lv_has ls 5 [(4, .int (nI k12)), (0, .ref h0), (1, .int x1), (2, .int x2), (3, .int x3)] → W p l e _ s m _ below meth c H locs _ _ _ (F0 m 12 ls [])) (fun loop => loop (61 + 1) 1 d _ _ _ (by omega) (by omega) G hl) ?_
    intro zm
    induction zm with
    | zero => intro k12 d12_0 H locs ls zz q_hk_k12 _ _; exact absurd zz (by omega)
    | succ zm ih12 =>
      intro k12 d12_0 H locs ls zm_12 hk_k12 G hl
      refine lv_iload zx zb dX8_ticksToHome_12 (lv_at hl 0 rfl) ?_
      refine lv_iload_n zx zb dX8_ticksToHome_14 rfl (lv_at hl 4 rfl) ?_
      refine lv_icmp_gt (tgt := 43) zx zb dX8_ticksToHome_15 (by decide) (fun c_3 => ?_) (fun c_3 => ?_)
      · refine lv_iconst (v := (-1)) zx zb dX8_ticksToHome_43 (by decide) ?_
        exact e_int S zr zlk (vp_nar_int _) G (d12_0) [0] rfl rfl (Or.inr rfl) (⟨by decide, Or.inr (by decide)⟩) dX8_ticksToHome_44
      · have fk_c_3 := k_le60 (Int32.not_lt.mp c_3) hl6 (by omega)
        refine lv_aload_n zx zb dX8_ticksToHome_18 rfl (lv_at hl 1 rfl) ?_
        refine lv_iload_n zx zb dX8_ticksToHome_19 rfl (lv_at hl 2 rfl) ?_
        refine lv_iload zx zb dX8_ticksToHome_20 (lv_at hl 0 rfl) ?_
        refine r_iadd (v := (x1 + (nI k12))) S rfl dX8_ticksToHome_22 ?_
        refine lv_iload_n zx zb dX8_ticksToHome_23 rfl (lv_at hl 3 rfl) ?_
        refine b_wv (cells' := 0) (slots' := 0) (wr := []) G rfl rfl [0] [] rfl rfl rfl rfl (n_V (As := [.int (x1 + (nI k12)), .int x2]) (rest := []) (C := RX8) (T := TX8) (N := 8) (ci := 6) S G (s_step l X h0 a d12_0 (x1 + (nI k12)) x2 H.size) gX8_ticksToHome_X8_step rfl rfl rfl hdV_X8_step ⟨Nat.le_of_ble_eq_true rfl, Nat.le_of_ble_eq_true rfl⟩ [0] rfl rfl 0 rfl rfl rfl hl.1 (Nat.le_of_ble_eq_true rfl) dX8_ticksToHome_24 ⟨Nat.le_of_ble_eq_true rfl, Nat.le_of_ble_eq_true rfl⟩) (fun u_4 H locs hp_4 G => ?_)
        obtain ⟨d_4, rfl⟩ : ∃ z, z = u_4 := ⟨_, rfl⟩
        have hq_4 := hp_4
        have G : wd X (va_A (rnV h0 a d) sz) (va_A (rnV h0 a d) sz) s (rnV h0 a d_4) H locs := G
        refine lv_aload_n zx zb dX8_ticksToHome_27 rfl (lv_at hl 1 rfl) ?_
        refine o_ri (cells' := 0) (slots' := 0) G rfl rfl (n_V (As := []) (rest := []) (C := RX8) (T := TX8) (N := 8) (ci := 6) S G (s_isHome l X h0 a d_4 H.size) gX8_ticksToHome_X8_isHome rfl rfl rfl hdV_X8_isHome ⟨Nat.le_of_ble_eq_true rfl, Nat.le_of_ble_eq_true rfl⟩ [0] rfl rfl 0 rfl rfl rfl hl.1 (Nat.le_of_ble_eq_true rfl) dX8_ticksToHome_28 ⟨Nat.le_of_ble_eq_true rfl, Nat.le_of_ble_eq_true rfl⟩) (fun r_5 u_5 H locs hp_5 G => ?_)
        have G : wd X (va_A (rnV h0 a d) sz) (va_A (rnV h0 a d) sz) s (rnV h0 a d_4) H locs := G
        refine lv_if_eq (tgt := 37) zx zb dX8_ticksToHome_31 (by decide) (fun c_6 => ?_) (fun c_6 => ?_)
        · refine lv_iinc (v := (nI (k12 + 1))) (lv' := [(4, .int (nI (k12 + 1))), (0, .ref h0), (1, .int x1), (2, .int x2), (3, .int x3)]) zx zb dX8_ticksToHome_37 hl (k := 0) rfl (nI_add k12 1) (by decide) rfl (fun ls hl => ?_)
          refine lv_goto (tgt := 12) zx zb dX8_ticksToHome_40 (by decide) ?_
          exact ih12 (k12 + 1) d_4 _ _ _ (by omega) (by omega) G hl
        · refine lv_iload zx zb dX8_ticksToHome_34 (lv_at hl 0 rfl) ?_
          exact e_int S zr zlk (vp_nar_int _) G (d_4) [0] rfl rfl (Or.inr rfl) (⟨k_r60 (by first | omega | (dsimp only; omega)), Or.inl (Int32.not_lt.mp c_3)⟩) dX8_ticksToHome_36
  · refine lv_iconst (v := 0) zx zb dX8_ticksToHome_7 (by decide) ?_
    exact e_int S zr zlk (vp_nar_int _) G (d) [0] rfl rfl (Or.inr rfl) (⟨by decide, Or.inr (by decide)⟩) dX8_ticksToHome_8
theorem in_X8_placeBehind_X8 : ∀ w ∈ wsX80, w ∈ wsX8_placeBehind := by decide +kernel
theorem lk_X8_placeBehind_24 : Cond.fieldLink RX8 24 "EggSpoons$Runner" "place" "I" ∈ wsX8_placeBehind := by decide +kernel
set_option maxHeartbeats 4000000 in
set_option maxRecDepth 100000 in
/-- placeBehind -/
theorem s_placeBehind (l : Launch) (X : EX) (h0 : Nat) (a : Nat → Int32) (d : Nat → Int32) (x1 : Int32) (x2 : Int32) (x3 : Int32) (hl6 : x3 ≤ 60) (sz : Nat) : Met l yX8_placeBehind wsX8_placeBehind ({ frames := 2, cells := 0, slots := 0, locals := 49 } : Room) (pE X [.ref h0, .int x1, .int x2, .int x3] (rnV h0 a d) sz) (qI (fun (r : Int32) (u : (Nat → Int32)) => (True)) X (fun (u : (Nat → Int32)) => rnV h0 a u) (rnV h0 a d) sz) 0 0 (va_A (rnV h0 a d) sz) := by
  refine mk_met (B := (va_A (rnV h0 a d) sz)) (A := (va_A (rnV h0 a d) sz)) (cc := cX8_placeBehind) (maxL := 5) (ret := (some .int)) (by decide) rfl (Nat.le_of_ble_eq_true rfl) k_w k_a (fun p e s m below meth c S zr zlk znm zsz G ls hl => ?_)
  have S : CallFix p m c cX8_placeBehind 5 s _ wsX8_placeBehind RX8 := S
  have zx := S.1
  have zb := S.2.1
  have hl : lv_has ls 5 [(0, .ref h0), (1, .int x1), (2, .int x2), (3, .int x3)] := hl
  refine lv_iconst (v := 1) zx zb dX8_placeBehind_0 (by decide) ?_
  refine lv_istore (lv' := [(4, .int 1), (0, .ref h0), (1, .int x1), (2, .int x2), (3, .int x3)]) zx zb dX8_placeBehind_1 hl (by decide) rfl (fun ls hl => ?_)
  refine k_loop (P := ∀ (zm : Nat) (k3 : Nat) (d3_0 : Nat → Int32) (H : Heap) (locs : List Loc) (ls : Array Slot), 61 + 1 ≤ k3 + zm → (k3 ≤ 61) → wd X (va_A (rnV h0 a d) sz) (va_A (rnV h0 a d) sz) s (rnV h0 a d3_0) H locs → lv_has ls 5 [(4, .int (nI k3)), (0, .ref h0), (1, .int x1), (2, .int x2), (3, .int x3)] → W p l e _ s m _ below meth c H locs _ _ _ (F0 m 3 ls [])) (fun loop => loop (61 + 1) 1 d _ _ _ (by omega) (by omega) G hl) ?_
  intro zm
  induction zm with
  | zero => intro k3 d3_0 H locs ls zz q_hk_k3 _ _; exact absurd zz (by omega)
  | succ zm ih3 =>
    intro k3 d3_0 H locs ls zm_3 hk_k3 G hl
    refine lv_iload zx zb dX8_placeBehind_3 (lv_at hl 0 rfl) ?_
    refine lv_iload_n zx zb dX8_placeBehind_5 rfl (lv_at hl 4 rfl) ?_
    refine lv_icmp_gt (tgt := 24) zx zb dX8_placeBehind_6 (by decide) (fun c_1 => ?_) (fun c_1 => ?_)
    · refine lv_aload_n zx zb dX8_placeBehind_24 rfl (lv_at hl 1 rfl) ?_
      refine r_get (C := RX8) (T := TX8) (N := 8) (ci := 6) (v := .int (d3_0 1)) S in_X8_placeBehind_X8 G 0 rfl rfl 4 (by decide) lk_X8_placeBehind_24 rfl dX8_placeBehind_25 ?_
      exact e_int S zr zlk (vp_nar_int _) G (d3_0) [0] rfl rfl (Or.inr rfl) (trivial) dX8_placeBehind_28
    · have fk_c_1 := k_le60 (Int32.not_lt.mp c_1) hl6 (by omega)
      refine lv_aload_n zx zb dX8_placeBehind_9 rfl (lv_at hl 1 rfl) ?_
      refine lv_iload_n zx zb dX8_placeBehind_10 rfl (lv_at hl 2 rfl) ?_
      refine lv_iload zx zb dX8_placeBehind_11 (lv_at hl 0 rfl) ?_
      refine r_iadd (v := (x1 + (nI k3))) S rfl dX8_placeBehind_13 ?_
      refine lv_iload_n zx zb dX8_placeBehind_14 rfl (lv_at hl 3 rfl) ?_
      refine b_wv (cells' := 0) (slots' := 0) (wr := []) G rfl rfl [0] [] rfl rfl rfl rfl (n_V (As := [.int (x1 + (nI k3)), .int x2]) (rest := []) (C := RX8) (T := TX8) (N := 8) (ci := 6) S G (s_step l X h0 a d3_0 (x1 + (nI k3)) x2 H.size) gX8_placeBehind_X8_step rfl rfl rfl hdV_X8_step ⟨Nat.le_of_ble_eq_true rfl, Nat.le_of_ble_eq_true rfl⟩ [0] rfl rfl 0 rfl rfl rfl hl.1 (Nat.le_of_ble_eq_true rfl) dX8_placeBehind_15 ⟨Nat.le_of_ble_eq_true rfl, Nat.le_of_ble_eq_true rfl⟩) (fun u_2 H locs hp_2 G => ?_)
      obtain ⟨d_2, rfl⟩ : ∃ z, z = u_2 := ⟨_, rfl⟩
      have hq_2 := hp_2
      have G : wd X (va_A (rnV h0 a d) sz) (va_A (rnV h0 a d) sz) s (rnV h0 a d_2) H locs := G
      refine lv_iinc (v := (nI (k3 + 1))) (lv' := [(4, .int (nI (k3 + 1))), (0, .ref h0), (1, .int x1), (2, .int x2), (3, .int x3)]) zx zb dX8_placeBehind_18 hl (k := 0) rfl (nI_add k3 1) (by decide) rfl (fun ls hl => ?_)
      refine lv_goto (tgt := 3) zx zb dX8_placeBehind_21 (by decide) ?_
      exact ih3 (k3 + 1) d_2 _ _ _ (by omega) (by omega) G hl
theorem in_X7_append_X7 : ∀ w ∈ wsX70, w ∈ wsX7_append := by decide +kernel
theorem lk_X7_append_7 : Cond.fieldLink RX7 7 "EggSpoons$Rows" "size" "I" ∈ wsX7_append := by decide +kernel
theorem lk_X7_append_13 : Cond.fieldLink RX7 13 "EggSpoons$Rows" "most" "I" ∈ wsX7_append := by decide +kernel
theorem lk_X7_append_23 : Cond.fieldLink RX7 23 "EggSpoons$Rows" "cells" "[I" ∈ wsX7_append := by decide +kernel
theorem in_X7_fitRunner_X7 : ∀ w ∈ wsX70, w ∈ wsX7_fitRunner := by decide +kernel
theorem lk_X7_fitRunner_7 : Cond.fieldLink RX7 7 "EggSpoons$Rows" "size" "I" ∈ wsX7_fitRunner := by decide +kernel
theorem lk_X7_fitRunner_16 : Cond.fieldLink RX7 16 "EggSpoons$Rows" "withLegs" "Z" ∈ wsX7_fitRunner := by decide +kernel
theorem lk_X7_fitRunner_23 : Cond.fieldLink RX7 23 "EggSpoons$Rows" "cells" "[I" ∈ wsX7_fitRunner := by decide +kernel
theorem in_X7_fitEgg_X7 : ∀ w ∈ wsX70, w ∈ wsX7_fitEgg := by decide +kernel
theorem lk_X7_fitEgg_7 : Cond.fieldLink RX7 7 "EggSpoons$Rows" "size" "I" ∈ wsX7_fitEgg := by decide +kernel
theorem lk_X7_fitEgg_23 : Cond.fieldLink RX7 23 "EggSpoons$Rows" "cells" "[I" ∈ wsX7_fitEgg := by decide +kernel
theorem in_X7_mixInto_X7 : ∀ w ∈ wsX70, w ∈ wsX7_mixInto := by decide +kernel
theorem lk_X7_mixInto_7 : Cond.fieldLink RX7 7 "EggSpoons$Rows" "size" "I" ∈ wsX7_mixInto := by decide +kernel
theorem mm_X7_mixInto_c50 : Cond.constantLong RX7 50 (31) ∈ wsX7_mixInto := by decide +kernel
theorem lk_X7_mixInto_23 : Cond.fieldLink RX7 23 "EggSpoons$Rows" "cells" "[I" ∈ wsX7_mixInto := by decide +kernel
theorem lk_X7_mixInto_16 : Cond.fieldLink RX7 16 "EggSpoons$Rows" "withLegs" "Z" ∈ wsX7_mixInto := by decide +kernel
theorem lk_X7_mixInto_20 : Cond.fieldLink RX7 20 "EggSpoons$Rows" "withSpeed" "Z" ∈ wsX7_mixInto := by decide +kernel
set_option maxHeartbeats 4000000 in
set_option maxRecDepth 100000 in
/-- mixInto -/
theorem s_mixInto0 (l : Launch) (X : EX) (h0 : Nat) (c0 : Nat) (n : Nat) (f : Nat → Int32) (x : Int64) (hI_n : n ≤ 5) (sz : Nat) : Met l yX7_mixInto wsX7_mixInto ({ frames := 0, cells := 0, slots := 0, locals := 0 } : Room) (pE X [.ref h0, .long x] ([(h0, .inr (5, [.int 5, .int 0, .int 1, .ref c0, .int (nI n)])), (c0, .inl (X.2.1, 25, .inl f))]) sz) (qL (fun (r : Int64) (u : Unit) => True) X (fun (u : Unit) => []) [] sz) 0 0 (va_A [] sz) := by
  refine mk_met (B := (fun _ => True)) (A := (va_A [] sz)) (cc := cX7_mixInto) (maxL := 7) (ret := (some .long)) (by decide) rfl (Nat.le_of_ble_eq_true rfl) k_ro k_a (fun p e s m below meth c S zr zlk znm zsz G ls hl => ?_)
  have S : CallFix p m c cX7_mixInto 7 s _ wsX7_mixInto RX7 := S
  have zx := S.1
  have zb := S.2.1
  have hl : lv_has ls 7 [(0, .ref h0), (1, .long x)] := hl
  refine lv_lload_n zx zb dX7_mixInto_0 rfl (lv_at hl 1 rfl) ?_
  refine lv_lstore_n (lv' := [(3, .long x), (0, .ref h0), (1, .long x)]) zx zb dX7_mixInto_1 rfl hl (by decide) rfl (fun ls hl => ?_)
  refine lv_iconst (v := 0) zx zb dX7_mixInto_2 (by decide) ?_
  refine lv_istore (lv' := [(5, .int 0), (3, .long x), (0, .ref h0), (1, .long x)]) zx zb dX7_mixInto_3 hl (by decide) rfl (fun ls hl => ?_)
  refine k_loop (P := ∀ (zm : Nat) (k5 : Nat) (x5_3 : Int64) (H : Heap) (locs : List Loc) (ls : Array Slot), n + 1 ≤ k5 + zm → (k5 ≤ n) → wd X (fun _ => True) (va_A [] sz) s ([(h0, .inr (5, [.int 5, .int 0, .int 1, .ref c0, .int (nI n)])), (c0, .inl (X.2.1, 25, .inl f))]) H locs → lv_has ls 7 [(5, .int (nI k5)), (3, .long x5_3), (0, .ref h0), (1, .long x)] → W p l e _ s m _ below meth c H locs _ _ _ (F0 m 5 ls [])) (fun loop => loop (n + 1) 0 x _ _ _ (by omega) (by omega) G hl) ?_
  intro zm
  induction zm with
  | zero => intro k5 x5_3 H locs ls zz q_hk_k5 _ _; exact absurd zz (by omega)
  | succ zm ih5 =>
    intro k5 x5_3 H locs ls zm_5 hk_k5 G hl
    refine lv_iload zx zb dX7_mixInto_5 (lv_at hl 0 rfl) ?_
    refine lv_aload_n zx zb dX7_mixInto_7 rfl (lv_at hl 2 rfl) ?_
    refine r_get (C := RX7) (T := TX7) (N := 5) (ci := 5) (v := .int (nI n)) S in_X7_mixInto_X7 G 0 rfl rfl 4 (by decide) lk_X7_mixInto_7 rfl dX7_mixInto_8 ?_
    refine lv_icmp_ge (tgt := 133) zx zb dX7_mixInto_11 (by decide) (fun c_1 => ?_) (fun c_1 => ?_)
    · have fc_1 := j_le (a := n) (b := k5) (by omega) (by omega) c_1
      refine lv_lload_n zx zb dX7_mixInto_133 rfl (lv_at hl 1 rfl) ?_
      exact e_long S zr zlk G () [] rfl rfl (Or.inl rfl) (trivial) dX7_mixInto_134
    · have fc_1 := j_nle (a := n) (b := k5) (by omega) (by omega) c_1
      refine lv_iload zx zb dX7_mixInto_14 (lv_at hl 0 rfl) ?_
      refine lv_iconst (v := 5) zx zb dX7_mixInto_16 (by decide) ?_
      refine r_imul (v := (nI (k5 * 5))) S (pk_mul k5 5) dX7_mixInto_17 ?_
      refine lv_istore (lv' := [(6, .int (nI (k5 * 5))), (5, .int (nI k5)), (3, .long x5_3), (0, .ref h0), (1, .long x)]) zx zb dX7_mixInto_18 hl (by decide) rfl (fun ls hl => ?_)
      refine lv_ldc2 zx zb S.2.2.2.1 (S.2.2.2.2 _ mm_X7_mixInto_c50) dX7_mixInto_20 ?_
      refine k_ld (v := (Int32.toInt64 31)) (by decide) ?_
      refine lv_lload_n zx zb dX7_mixInto_23 rfl (lv_at hl 2 rfl) ?_
      refine r_lmul (v := ((Int32.toInt64 31) * x5_3)) S rfl dX7_mixInto_24 ?_
      refine lv_aload_n zx zb dX7_mixInto_25 rfl (lv_at hl 3 rfl) ?_
      refine r_get (C := RX7) (T := TX7) (N := 5) (ci := 5) (v := .ref c0) S in_X7_mixInto_X7 G 0 rfl rfl 3 (by decide) lk_X7_mixInto_23 rfl dX7_mixInto_26 ?_
      refine lv_iload zx zb dX7_mixInto_29 (lv_at hl 0 rfl) ?_
      refine lv_iconst (v := 0) zx zb dX7_mixInto_31 (by decide) ?_
      refine r_iadd (v := (nI ((k5 * 5) + 0))) S (nI_add (k5 * 5) 0) dX7_mixInto_32 ?_
      refine r_iald S G 1 rfl (vp_in_nI (by omega) (by decide)) rfl dX7_mixInto_33 ?_
      refine k_itE (fun y_2 => ?_)
      refine lv_i2l (v := (Int32.toInt64 y_2)) zx zb dX7_mixInto_34 rfl ?_
      refine r_ladd (v := (((Int32.toInt64 31) * x5_3) + (Int32.toInt64 y_2))) S rfl dX7_mixInto_35 ?_
      refine lv_lstore_n (lv' := [(3, .long (((Int32.toInt64 31) * x5_3) + (Int32.toInt64 y_2))), (6, .int (nI (k5 * 5))), (5, .int (nI k5)), (0, .ref h0), (1, .long x)]) zx zb dX7_mixInto_36 rfl hl (by decide) rfl (fun ls hl => ?_)
      refine lv_aload_n zx zb dX7_mixInto_37 rfl (lv_at hl 3 rfl) ?_
      refine r_get (C := RX7) (T := TX7) (N := 5) (ci := 5) (v := .int 0) S in_X7_mixInto_X7 G 0 rfl rfl 1 (by decide) lk_X7_mixInto_16 rfl dX7_mixInto_38 ?_
      refine lv_if_eq (tgt := 63) zx zb dX7_mixInto_41 (by decide) (fun c_3 => ?_) (fun c_3 => absurd (by decide) c_3)
      refine lv_lload_n zx zb dX7_mixInto_63 rfl (lv_at hl 0 rfl) ?_
      refine lv_lstore_n (lv' := [(3, .long (((Int32.toInt64 31) * x5_3) + (Int32.toInt64 y_2))), (6, .int (nI (k5 * 5))), (5, .int (nI k5)), (0, .ref h0), (1, .long x)]) zx zb dX7_mixInto_64 rfl hl (by decide) rfl (fun ls hl => ?_)
      refine lv_ldc2 zx zb S.2.2.2.1 (S.2.2.2.2 _ mm_X7_mixInto_c50) dX7_mixInto_65 ?_
      refine k_ld (v := (Int32.toInt64 31)) (by decide) ?_
      refine lv_lload_n zx zb dX7_mixInto_68 rfl (lv_at hl 0 rfl) ?_
      refine r_lmul (v := ((Int32.toInt64 31) * (((Int32.toInt64 31) * x5_3) + (Int32.toInt64 y_2)))) S rfl dX7_mixInto_69 ?_
      refine lv_aload_n zx zb dX7_mixInto_70 rfl (lv_at hl 3 rfl) ?_
      refine r_get (C := RX7) (T := TX7) (N := 5) (ci := 5) (v := .ref c0) S in_X7_mixInto_X7 G 0 rfl rfl 3 (by decide) lk_X7_mixInto_23 rfl dX7_mixInto_71 ?_
      refine lv_iload zx zb dX7_mixInto_74 (lv_at hl 1 rfl) ?_
      refine lv_iconst (v := 2) zx zb dX7_mixInto_76 (by decide) ?_
      refine r_iadd (v := (nI ((k5 * 5) + 2))) S (nI_add (k5 * 5) 2) dX7_mixInto_77 ?_
      refine r_iald S G 1 rfl (vp_in_nI (by omega) (by decide)) rfl dX7_mixInto_78 ?_
      refine k_itE (fun y_4 => ?_)
      refine lv_i2l (v := (Int32.toInt64 y_4)) zx zb dX7_mixInto_79 rfl ?_
      refine r_ladd (v := (((Int32.toInt64 31) * (((Int32.toInt64 31) * x5_3) + (Int32.toInt64 y_2))) + (Int32.toInt64 y_4))) S rfl dX7_mixInto_80 ?_
      refine lv_lstore_n (lv' := [(3, .long (((Int32.toInt64 31) * (((Int32.toInt64 31) * x5_3) + (Int32.toInt64 y_2))) + (Int32.toInt64 y_4))), (6, .int (nI (k5 * 5))), (5, .int (nI k5)), (0, .ref h0), (1, .long x)]) zx zb dX7_mixInto_81 rfl hl (by decide) rfl (fun ls hl => ?_)
      refine lv_aload_n zx zb dX7_mixInto_82 rfl (lv_at hl 3 rfl) ?_
      refine r_get (C := RX7) (T := TX7) (N := 5) (ci := 5) (v := .int 1) S in_X7_mixInto_X7 G 0 rfl rfl 2 (by decide) lk_X7_mixInto_20 rfl dX7_mixInto_83 ?_
      refine lv_if_eq (tgt := 108) zx zb dX7_mixInto_86 (by decide) (fun c_5 => absurd c_5 (by decide)) (fun c_5 => ?_)
      refine lv_ldc2 zx zb S.2.2.2.1 (S.2.2.2.2 _ mm_X7_mixInto_c50) dX7_mixInto_89 ?_
      refine k_ld (v := (Int32.toInt64 31)) (by decide) ?_
      refine lv_lload_n zx zb dX7_mixInto_92 rfl (lv_at hl 0 rfl) ?_
      refine r_lmul (v := ((Int32.toInt64 31) * (((Int32.toInt64 31) * (((Int32.toInt64 31) * x5_3) + (Int32.toInt64 y_2))) + (Int32.toInt64 y_4)))) S rfl dX7_mixInto_93 ?_
      refine lv_aload_n zx zb dX7_mixInto_94 rfl (lv_at hl 3 rfl) ?_
      refine r_get (C := RX7) (T := TX7) (N := 5) (ci := 5) (v := .ref c0) S in_X7_mixInto_X7 G 0 rfl rfl 3 (by decide) lk_X7_mixInto_23 rfl dX7_mixInto_95 ?_
      refine lv_iload zx zb dX7_mixInto_98 (lv_at hl 1 rfl) ?_
      refine lv_iconst (v := 3) zx zb dX7_mixInto_100 (by decide) ?_
      refine r_iadd (v := (nI ((k5 * 5) + 3))) S (nI_add (k5 * 5) 3) dX7_mixInto_101 ?_
      refine r_iald S G 1 rfl (vp_in_nI (by omega) (by decide)) rfl dX7_mixInto_102 ?_
      refine k_itE (fun y_6 => ?_)
      refine lv_i2l (v := (Int32.toInt64 y_6)) zx zb dX7_mixInto_103 rfl ?_
      refine r_ladd (v := (((Int32.toInt64 31) * (((Int32.toInt64 31) * (((Int32.toInt64 31) * x5_3) + (Int32.toInt64 y_2))) + (Int32.toInt64 y_4))) + (Int32.toInt64 y_6))) S rfl dX7_mixInto_104 ?_
      refine lv_goto (tgt := 109) zx zb dX7_mixInto_105 (by decide) ?_
      refine lv_lstore_n (lv' := [(3, .long (((Int32.toInt64 31) * (((Int32.toInt64 31) * (((Int32.toInt64 31) * x5_3) + (Int32.toInt64 y_2))) + (Int32.toInt64 y_4))) + (Int32.toInt64 y_6))), (6, .int (nI (k5 * 5))), (5, .int (nI k5)), (0, .ref h0), (1, .long x)]) zx zb dX7_mixInto_109 rfl hl (by decide) rfl (fun ls hl => ?_)
      refine lv_ldc2 zx zb S.2.2.2.1 (S.2.2.2.2 _ mm_X7_mixInto_c50) dX7_mixInto_110 ?_
      refine k_ld (v := (Int32.toInt64 31)) (by decide) ?_
      refine lv_lload_n zx zb dX7_mixInto_113 rfl (lv_at hl 0 rfl) ?_
      refine r_lmul (v := ((Int32.toInt64 31) * (((Int32.toInt64 31) * (((Int32.toInt64 31) * (((Int32.toInt64 31) * x5_3) + (Int32.toInt64 y_2))) + (Int32.toInt64 y_4))) + (Int32.toInt64 y_6)))) S rfl dX7_mixInto_114 ?_
      refine lv_aload_n zx zb dX7_mixInto_115 rfl (lv_at hl 3 rfl) ?_
      refine r_get (C := RX7) (T := TX7) (N := 5) (ci := 5) (v := .ref c0) S in_X7_mixInto_X7 G 0 rfl rfl 3 (by decide) lk_X7_mixInto_23 rfl dX7_mixInto_116 ?_
      refine lv_iload zx zb dX7_mixInto_119 (lv_at hl 1 rfl) ?_
      refine lv_iconst (v := 4) zx zb dX7_mixInto_121 (by decide) ?_
      refine r_iadd (v := (nI ((k5 * 5) + 4))) S (nI_add (k5 * 5) 4) dX7_mixInto_122 ?_
      refine r_iald S G 1 rfl (vp_in_nI (by omega) (by decide)) rfl dX7_mixInto_123 ?_
      refine k_itE (fun y_7 => ?_)
      refine lv_i2l (v := (Int32.toInt64 y_7)) zx zb dX7_mixInto_124 rfl ?_
      refine r_ladd (v := (((Int32.toInt64 31) * (((Int32.toInt64 31) * (((Int32.toInt64 31) * (((Int32.toInt64 31) * x5_3) + (Int32.toInt64 y_2))) + (Int32.toInt64 y_4))) + (Int32.toInt64 y_6))) + (Int32.toInt64 y_7))) S rfl dX7_mixInto_125 ?_
      refine lv_lstore_n (lv' := [(3, .long (((Int32.toInt64 31) * (((Int32.toInt64 31) * (((Int32.toInt64 31) * (((Int32.toInt64 31) * x5_3) + (Int32.toInt64 y_2))) + (Int32.toInt64 y_4))) + (Int32.toInt64 y_6))) + (Int32.toInt64 y_7))), (6, .int (nI (k5 * 5))), (5, .int (nI k5)), (0, .ref h0), (1, .long x)]) zx zb dX7_mixInto_126 rfl hl (by decide) rfl (fun ls hl => ?_)
      refine lv_iinc (v := (nI (k5 + 1))) (lv' := [(5, .int (nI (k5 + 1))), (3, .long (((Int32.toInt64 31) * (((Int32.toInt64 31) * (((Int32.toInt64 31) * (((Int32.toInt64 31) * x5_3) + (Int32.toInt64 y_2))) + (Int32.toInt64 y_4))) + (Int32.toInt64 y_6))) + (Int32.toInt64 y_7))), (6, .int (nI (k5 * 5))), (0, .ref h0), (1, .long x)]) zx zb dX7_mixInto_127 hl (k := 2) rfl (nI_add k5 1) (by decide) rfl (fun ls hl => ?_)
      refine lv_goto (tgt := 5) zx zb dX7_mixInto_130 (by decide) ?_
      have hl := lv_sub hl (l' := [(5, .int (nI (k5 + 1))), (3, .long (((Int32.toInt64 31) * (((Int32.toInt64 31) * (((Int32.toInt64 31) * (((Int32.toInt64 31) * x5_3) + (Int32.toInt64 y_2))) + (Int32.toInt64 y_4))) + (Int32.toInt64 y_6))) + (Int32.toInt64 y_7))), (0, .ref h0), (1, .long x)]) [0, 1, 3, 4] rfl
      exact ih5 (k5 + 1) (((Int32.toInt64 31) * (((Int32.toInt64 31) * (((Int32.toInt64 31) * (((Int32.toInt64 31) * x5_3) + (Int32.toInt64 y_2))) + (Int32.toInt64 y_4))) + (Int32.toInt64 y_6))) + (Int32.toInt64 y_7)) _ _ _ (by omega) (by omega) G hl
set_option maxHeartbeats 4000000 in
set_option maxRecDepth 100000 in
/-- mixInto -/
theorem s_mixInto1 (l : Launch) (X : EX) (h0 : Nat) (c0 : Nat) (n : Nat) (f : Nat → Int32) (x : Int64) (hI_n : n ≤ 6) (sz : Nat) : Met l yX7_mixInto wsX7_mixInto ({ frames := 0, cells := 0, slots := 0, locals := 0 } : Room) (pE X [.ref h0, .long x] ([(h0, .inr (5, [.int 6, .int 1, .int 1, .ref c0, .int (nI n)])), (c0, .inl (X.2.1, 30, .inl f))]) sz) (qL (fun (r : Int64) (u : Unit) => True) X (fun (u : Unit) => []) [] sz) 0 0 (va_A [] sz) := by
  refine mk_met (B := (fun _ => True)) (A := (va_A [] sz)) (cc := cX7_mixInto) (maxL := 7) (ret := (some .long)) (by decide) rfl (Nat.le_of_ble_eq_true rfl) k_ro k_a (fun p e s m below meth c S zr zlk znm zsz G ls hl => ?_)
  have S : CallFix p m c cX7_mixInto 7 s _ wsX7_mixInto RX7 := S
  have zx := S.1
  have zb := S.2.1
  have hl : lv_has ls 7 [(0, .ref h0), (1, .long x)] := hl
  refine lv_lload_n zx zb dX7_mixInto_0 rfl (lv_at hl 1 rfl) ?_
  refine lv_lstore_n (lv' := [(3, .long x), (0, .ref h0), (1, .long x)]) zx zb dX7_mixInto_1 rfl hl (by decide) rfl (fun ls hl => ?_)
  refine lv_iconst (v := 0) zx zb dX7_mixInto_2 (by decide) ?_
  refine lv_istore (lv' := [(5, .int 0), (3, .long x), (0, .ref h0), (1, .long x)]) zx zb dX7_mixInto_3 hl (by decide) rfl (fun ls hl => ?_)
  refine k_loop (P := ∀ (zm : Nat) (k5 : Nat) (x5_3 : Int64) (H : Heap) (locs : List Loc) (ls : Array Slot), n + 1 ≤ k5 + zm → (k5 ≤ n) → wd X (fun _ => True) (va_A [] sz) s ([(h0, .inr (5, [.int 6, .int 1, .int 1, .ref c0, .int (nI n)])), (c0, .inl (X.2.1, 30, .inl f))]) H locs → lv_has ls 7 [(5, .int (nI k5)), (3, .long x5_3), (0, .ref h0), (1, .long x)] → W p l e _ s m _ below meth c H locs _ _ _ (F0 m 5 ls [])) (fun loop => loop (n + 1) 0 x _ _ _ (by omega) (by omega) G hl) ?_
  intro zm
  induction zm with
  | zero => intro k5 x5_3 H locs ls zz q_hk_k5 _ _; exact absurd zz (by omega)
  | succ zm ih5 =>
    intro k5 x5_3 H locs ls zm_5 hk_k5 G hl
    refine lv_iload zx zb dX7_mixInto_5 (lv_at hl 0 rfl) ?_
    refine lv_aload_n zx zb dX7_mixInto_7 rfl (lv_at hl 2 rfl) ?_
    refine r_get (C := RX7) (T := TX7) (N := 5) (ci := 5) (v := .int (nI n)) S in_X7_mixInto_X7 G 0 rfl rfl 4 (by decide) lk_X7_mixInto_7 rfl dX7_mixInto_8 ?_
    refine lv_icmp_ge (tgt := 133) zx zb dX7_mixInto_11 (by decide) (fun c_1 => ?_) (fun c_1 => ?_)
    · have fc_1 := j_le (a := n) (b := k5) (by omega) (by omega) c_1
      refine lv_lload_n zx zb dX7_mixInto_133 rfl (lv_at hl 1 rfl) ?_
      exact e_long S zr zlk G () [] rfl rfl (Or.inl rfl) (trivial) dX7_mixInto_134
    · have fc_1 := j_nle (a := n) (b := k5) (by omega) (by omega) c_1
      refine lv_iload zx zb dX7_mixInto_14 (lv_at hl 0 rfl) ?_
      refine lv_iconst (v := 5) zx zb dX7_mixInto_16 (by decide) ?_
      refine r_imul (v := (nI (k5 * 5))) S (pk_mul k5 5) dX7_mixInto_17 ?_
      refine lv_istore (lv' := [(6, .int (nI (k5 * 5))), (5, .int (nI k5)), (3, .long x5_3), (0, .ref h0), (1, .long x)]) zx zb dX7_mixInto_18 hl (by decide) rfl (fun ls hl => ?_)
      refine lv_ldc2 zx zb S.2.2.2.1 (S.2.2.2.2 _ mm_X7_mixInto_c50) dX7_mixInto_20 ?_
      refine k_ld (v := (Int32.toInt64 31)) (by decide) ?_
      refine lv_lload_n zx zb dX7_mixInto_23 rfl (lv_at hl 2 rfl) ?_
      refine r_lmul (v := ((Int32.toInt64 31) * x5_3)) S rfl dX7_mixInto_24 ?_
      refine lv_aload_n zx zb dX7_mixInto_25 rfl (lv_at hl 3 rfl) ?_
      refine r_get (C := RX7) (T := TX7) (N := 5) (ci := 5) (v := .ref c0) S in_X7_mixInto_X7 G 0 rfl rfl 3 (by decide) lk_X7_mixInto_23 rfl dX7_mixInto_26 ?_
      refine lv_iload zx zb dX7_mixInto_29 (lv_at hl 0 rfl) ?_
      refine lv_iconst (v := 0) zx zb dX7_mixInto_31 (by decide) ?_
      refine r_iadd (v := (nI ((k5 * 5) + 0))) S (nI_add (k5 * 5) 0) dX7_mixInto_32 ?_
      refine r_iald S G 1 rfl (vp_in_nI (by omega) (by decide)) rfl dX7_mixInto_33 ?_
      refine k_itE (fun y_2 => ?_)
      refine lv_i2l (v := (Int32.toInt64 y_2)) zx zb dX7_mixInto_34 rfl ?_
      refine r_ladd (v := (((Int32.toInt64 31) * x5_3) + (Int32.toInt64 y_2))) S rfl dX7_mixInto_35 ?_
      refine lv_lstore_n (lv' := [(3, .long (((Int32.toInt64 31) * x5_3) + (Int32.toInt64 y_2))), (6, .int (nI (k5 * 5))), (5, .int (nI k5)), (0, .ref h0), (1, .long x)]) zx zb dX7_mixInto_36 rfl hl (by decide) rfl (fun ls hl => ?_)
      refine lv_aload_n zx zb dX7_mixInto_37 rfl (lv_at hl 3 rfl) ?_
      refine r_get (C := RX7) (T := TX7) (N := 5) (ci := 5) (v := .int 1) S in_X7_mixInto_X7 G 0 rfl rfl 1 (by decide) lk_X7_mixInto_16 rfl dX7_mixInto_38 ?_
      refine lv_if_eq (tgt := 63) zx zb dX7_mixInto_41 (by decide) (fun c_3 => absurd c_3 (by decide)) (fun c_3 => ?_)
      refine lv_ldc2 zx zb S.2.2.2.1 (S.2.2.2.2 _ mm_X7_mixInto_c50) dX7_mixInto_44 ?_
      refine k_ld (v := (Int32.toInt64 31)) (by decide) ?_
      refine lv_lload_n zx zb dX7_mixInto_47 rfl (lv_at hl 0 rfl) ?_
      refine r_lmul (v := ((Int32.toInt64 31) * (((Int32.toInt64 31) * x5_3) + (Int32.toInt64 y_2)))) S rfl dX7_mixInto_48 ?_
      refine lv_aload_n zx zb dX7_mixInto_49 rfl (lv_at hl 3 rfl) ?_
      refine r_get (C := RX7) (T := TX7) (N := 5) (ci := 5) (v := .ref c0) S in_X7_mixInto_X7 G 0 rfl rfl 3 (by decide) lk_X7_mixInto_23 rfl dX7_mixInto_50 ?_
      refine lv_iload zx zb dX7_mixInto_53 (lv_at hl 1 rfl) ?_
      refine lv_iconst (v := 1) zx zb dX7_mixInto_55 (by decide) ?_
      refine r_iadd (v := (nI ((k5 * 5) + 1))) S (nI_add (k5 * 5) 1) dX7_mixInto_56 ?_
      refine r_iald S G 1 rfl (vp_in_nI (by omega) (by decide)) rfl dX7_mixInto_57 ?_
      refine k_itE (fun y_4 => ?_)
      refine lv_i2l (v := (Int32.toInt64 y_4)) zx zb dX7_mixInto_58 rfl ?_
      refine r_ladd (v := (((Int32.toInt64 31) * (((Int32.toInt64 31) * x5_3) + (Int32.toInt64 y_2))) + (Int32.toInt64 y_4))) S rfl dX7_mixInto_59 ?_
      refine lv_goto (tgt := 64) zx zb dX7_mixInto_60 (by decide) ?_
      refine lv_lstore_n (lv' := [(3, .long (((Int32.toInt64 31) * (((Int32.toInt64 31) * x5_3) + (Int32.toInt64 y_2))) + (Int32.toInt64 y_4))), (6, .int (nI (k5 * 5))), (5, .int (nI k5)), (0, .ref h0), (1, .long x)]) zx zb dX7_mixInto_64 rfl hl (by decide) rfl (fun ls hl => ?_)
      refine lv_ldc2 zx zb S.2.2.2.1 (S.2.2.2.2 _ mm_X7_mixInto_c50) dX7_mixInto_65 ?_
      refine k_ld (v := (Int32.toInt64 31)) (by decide) ?_
      refine lv_lload_n zx zb dX7_mixInto_68 rfl (lv_at hl 0 rfl) ?_
      refine r_lmul (v := ((Int32.toInt64 31) * (((Int32.toInt64 31) * (((Int32.toInt64 31) * x5_3) + (Int32.toInt64 y_2))) + (Int32.toInt64 y_4)))) S rfl dX7_mixInto_69 ?_
      refine lv_aload_n zx zb dX7_mixInto_70 rfl (lv_at hl 3 rfl) ?_
      refine r_get (C := RX7) (T := TX7) (N := 5) (ci := 5) (v := .ref c0) S in_X7_mixInto_X7 G 0 rfl rfl 3 (by decide) lk_X7_mixInto_23 rfl dX7_mixInto_71 ?_
      refine lv_iload zx zb dX7_mixInto_74 (lv_at hl 1 rfl) ?_
      refine lv_iconst (v := 2) zx zb dX7_mixInto_76 (by decide) ?_
      refine r_iadd (v := (nI ((k5 * 5) + 2))) S (nI_add (k5 * 5) 2) dX7_mixInto_77 ?_
      refine r_iald S G 1 rfl (vp_in_nI (by omega) (by decide)) rfl dX7_mixInto_78 ?_
      refine k_itE (fun y_5 => ?_)
      refine lv_i2l (v := (Int32.toInt64 y_5)) zx zb dX7_mixInto_79 rfl ?_
      refine r_ladd (v := (((Int32.toInt64 31) * (((Int32.toInt64 31) * (((Int32.toInt64 31) * x5_3) + (Int32.toInt64 y_2))) + (Int32.toInt64 y_4))) + (Int32.toInt64 y_5))) S rfl dX7_mixInto_80 ?_
      refine lv_lstore_n (lv' := [(3, .long (((Int32.toInt64 31) * (((Int32.toInt64 31) * (((Int32.toInt64 31) * x5_3) + (Int32.toInt64 y_2))) + (Int32.toInt64 y_4))) + (Int32.toInt64 y_5))), (6, .int (nI (k5 * 5))), (5, .int (nI k5)), (0, .ref h0), (1, .long x)]) zx zb dX7_mixInto_81 rfl hl (by decide) rfl (fun ls hl => ?_)
      refine lv_aload_n zx zb dX7_mixInto_82 rfl (lv_at hl 3 rfl) ?_
      refine r_get (C := RX7) (T := TX7) (N := 5) (ci := 5) (v := .int 1) S in_X7_mixInto_X7 G 0 rfl rfl 2 (by decide) lk_X7_mixInto_20 rfl dX7_mixInto_83 ?_
      refine lv_if_eq (tgt := 108) zx zb dX7_mixInto_86 (by decide) (fun c_6 => absurd c_6 (by decide)) (fun c_6 => ?_)
      refine lv_ldc2 zx zb S.2.2.2.1 (S.2.2.2.2 _ mm_X7_mixInto_c50) dX7_mixInto_89 ?_
      refine k_ld (v := (Int32.toInt64 31)) (by decide) ?_
      refine lv_lload_n zx zb dX7_mixInto_92 rfl (lv_at hl 0 rfl) ?_
      refine r_lmul (v := ((Int32.toInt64 31) * (((Int32.toInt64 31) * (((Int32.toInt64 31) * (((Int32.toInt64 31) * x5_3) + (Int32.toInt64 y_2))) + (Int32.toInt64 y_4))) + (Int32.toInt64 y_5)))) S rfl dX7_mixInto_93 ?_
      refine lv_aload_n zx zb dX7_mixInto_94 rfl (lv_at hl 3 rfl) ?_
      refine r_get (C := RX7) (T := TX7) (N := 5) (ci := 5) (v := .ref c0) S in_X7_mixInto_X7 G 0 rfl rfl 3 (by decide) lk_X7_mixInto_23 rfl dX7_mixInto_95 ?_
      refine lv_iload zx zb dX7_mixInto_98 (lv_at hl 1 rfl) ?_
      refine lv_iconst (v := 3) zx zb dX7_mixInto_100 (by decide) ?_
      refine r_iadd (v := (nI ((k5 * 5) + 3))) S (nI_add (k5 * 5) 3) dX7_mixInto_101 ?_
      refine r_iald S G 1 rfl (vp_in_nI (by omega) (by decide)) rfl dX7_mixInto_102 ?_
      refine k_itE (fun y_7 => ?_)
      refine lv_i2l (v := (Int32.toInt64 y_7)) zx zb dX7_mixInto_103 rfl ?_
      refine r_ladd (v := (((Int32.toInt64 31) * (((Int32.toInt64 31) * (((Int32.toInt64 31) * (((Int32.toInt64 31) * x5_3) + (Int32.toInt64 y_2))) + (Int32.toInt64 y_4))) + (Int32.toInt64 y_5))) + (Int32.toInt64 y_7))) S rfl dX7_mixInto_104 ?_
      refine lv_goto (tgt := 109) zx zb dX7_mixInto_105 (by decide) ?_
      refine lv_lstore_n (lv' := [(3, .long (((Int32.toInt64 31) * (((Int32.toInt64 31) * (((Int32.toInt64 31) * (((Int32.toInt64 31) * x5_3) + (Int32.toInt64 y_2))) + (Int32.toInt64 y_4))) + (Int32.toInt64 y_5))) + (Int32.toInt64 y_7))), (6, .int (nI (k5 * 5))), (5, .int (nI k5)), (0, .ref h0), (1, .long x)]) zx zb dX7_mixInto_109 rfl hl (by decide) rfl (fun ls hl => ?_)
      refine lv_ldc2 zx zb S.2.2.2.1 (S.2.2.2.2 _ mm_X7_mixInto_c50) dX7_mixInto_110 ?_
      refine k_ld (v := (Int32.toInt64 31)) (by decide) ?_
      refine lv_lload_n zx zb dX7_mixInto_113 rfl (lv_at hl 0 rfl) ?_
      refine r_lmul (v := ((Int32.toInt64 31) * (((Int32.toInt64 31) * (((Int32.toInt64 31) * (((Int32.toInt64 31) * (((Int32.toInt64 31) * x5_3) + (Int32.toInt64 y_2))) + (Int32.toInt64 y_4))) + (Int32.toInt64 y_5))) + (Int32.toInt64 y_7)))) S rfl dX7_mixInto_114 ?_
      refine lv_aload_n zx zb dX7_mixInto_115 rfl (lv_at hl 3 rfl) ?_
      refine r_get (C := RX7) (T := TX7) (N := 5) (ci := 5) (v := .ref c0) S in_X7_mixInto_X7 G 0 rfl rfl 3 (by decide) lk_X7_mixInto_23 rfl dX7_mixInto_116 ?_
      refine lv_iload zx zb dX7_mixInto_119 (lv_at hl 1 rfl) ?_
      refine lv_iconst (v := 4) zx zb dX7_mixInto_121 (by decide) ?_
      refine r_iadd (v := (nI ((k5 * 5) + 4))) S (nI_add (k5 * 5) 4) dX7_mixInto_122 ?_
      refine r_iald S G 1 rfl (vp_in_nI (by omega) (by decide)) rfl dX7_mixInto_123 ?_
      refine k_itE (fun y_8 => ?_)
      refine lv_i2l (v := (Int32.toInt64 y_8)) zx zb dX7_mixInto_124 rfl ?_
      refine r_ladd (v := (((Int32.toInt64 31) * (((Int32.toInt64 31) * (((Int32.toInt64 31) * (((Int32.toInt64 31) * (((Int32.toInt64 31) * x5_3) + (Int32.toInt64 y_2))) + (Int32.toInt64 y_4))) + (Int32.toInt64 y_5))) + (Int32.toInt64 y_7))) + (Int32.toInt64 y_8))) S rfl dX7_mixInto_125 ?_
      refine lv_lstore_n (lv' := [(3, .long (((Int32.toInt64 31) * (((Int32.toInt64 31) * (((Int32.toInt64 31) * (((Int32.toInt64 31) * (((Int32.toInt64 31) * x5_3) + (Int32.toInt64 y_2))) + (Int32.toInt64 y_4))) + (Int32.toInt64 y_5))) + (Int32.toInt64 y_7))) + (Int32.toInt64 y_8))), (6, .int (nI (k5 * 5))), (5, .int (nI k5)), (0, .ref h0), (1, .long x)]) zx zb dX7_mixInto_126 rfl hl (by decide) rfl (fun ls hl => ?_)
      refine lv_iinc (v := (nI (k5 + 1))) (lv' := [(5, .int (nI (k5 + 1))), (3, .long (((Int32.toInt64 31) * (((Int32.toInt64 31) * (((Int32.toInt64 31) * (((Int32.toInt64 31) * (((Int32.toInt64 31) * x5_3) + (Int32.toInt64 y_2))) + (Int32.toInt64 y_4))) + (Int32.toInt64 y_5))) + (Int32.toInt64 y_7))) + (Int32.toInt64 y_8))), (6, .int (nI (k5 * 5))), (0, .ref h0), (1, .long x)]) zx zb dX7_mixInto_127 hl (k := 2) rfl (nI_add k5 1) (by decide) rfl (fun ls hl => ?_)
      refine lv_goto (tgt := 5) zx zb dX7_mixInto_130 (by decide) ?_
      have hl := lv_sub hl (l' := [(5, .int (nI (k5 + 1))), (3, .long (((Int32.toInt64 31) * (((Int32.toInt64 31) * (((Int32.toInt64 31) * (((Int32.toInt64 31) * (((Int32.toInt64 31) * x5_3) + (Int32.toInt64 y_2))) + (Int32.toInt64 y_4))) + (Int32.toInt64 y_5))) + (Int32.toInt64 y_7))) + (Int32.toInt64 y_8))), (0, .ref h0), (1, .long x)]) [0, 1, 3, 4] rfl
      exact ih5 (k5 + 1) (((Int32.toInt64 31) * (((Int32.toInt64 31) * (((Int32.toInt64 31) * (((Int32.toInt64 31) * (((Int32.toInt64 31) * x5_3) + (Int32.toInt64 y_2))) + (Int32.toInt64 y_4))) + (Int32.toInt64 y_5))) + (Int32.toInt64 y_7))) + (Int32.toInt64 y_8)) _ _ _ (by omega) (by omega) G hl
set_option maxHeartbeats 4000000 in
set_option maxRecDepth 100000 in
/-- mixInto -/
theorem s_mixInto2 (l : Launch) (X : EX) (h0 : Nat) (c0 : Nat) (n : Nat) (f : Nat → Int32) (x : Int64) (hI_n : n ≤ 6) (sz : Nat) : Met l yX7_mixInto wsX7_mixInto ({ frames := 0, cells := 0, slots := 0, locals := 0 } : Room) (pE X [.ref h0, .long x] ([(h0, .inr (5, [.int 6, .int 0, .int 0, .ref c0, .int (nI n)])), (c0, .inl (X.2.1, 30, .inl f))]) sz) (qL (fun (r : Int64) (u : Unit) => True) X (fun (u : Unit) => []) [] sz) 0 0 (va_A [] sz) := by
  refine mk_met (B := (fun _ => True)) (A := (va_A [] sz)) (cc := cX7_mixInto) (maxL := 7) (ret := (some .long)) (by decide) rfl (Nat.le_of_ble_eq_true rfl) k_ro k_a (fun p e s m below meth c S zr zlk znm zsz G ls hl => ?_)
  have S : CallFix p m c cX7_mixInto 7 s _ wsX7_mixInto RX7 := S
  have zx := S.1
  have zb := S.2.1
  have hl : lv_has ls 7 [(0, .ref h0), (1, .long x)] := hl
  refine lv_lload_n zx zb dX7_mixInto_0 rfl (lv_at hl 1 rfl) ?_
  refine lv_lstore_n (lv' := [(3, .long x), (0, .ref h0), (1, .long x)]) zx zb dX7_mixInto_1 rfl hl (by decide) rfl (fun ls hl => ?_)
  refine lv_iconst (v := 0) zx zb dX7_mixInto_2 (by decide) ?_
  refine lv_istore (lv' := [(5, .int 0), (3, .long x), (0, .ref h0), (1, .long x)]) zx zb dX7_mixInto_3 hl (by decide) rfl (fun ls hl => ?_)
  refine k_loop (P := ∀ (zm : Nat) (k5 : Nat) (x5_3 : Int64) (H : Heap) (locs : List Loc) (ls : Array Slot), n + 1 ≤ k5 + zm → (k5 ≤ n) → wd X (fun _ => True) (va_A [] sz) s ([(h0, .inr (5, [.int 6, .int 0, .int 0, .ref c0, .int (nI n)])), (c0, .inl (X.2.1, 30, .inl f))]) H locs → lv_has ls 7 [(5, .int (nI k5)), (3, .long x5_3), (0, .ref h0), (1, .long x)] → W p l e _ s m _ below meth c H locs _ _ _ (F0 m 5 ls [])) (fun loop => loop (n + 1) 0 x _ _ _ (by omega) (by omega) G hl) ?_
  intro zm
  induction zm with
  | zero => intro k5 x5_3 H locs ls zz q_hk_k5 _ _; exact absurd zz (by omega)
  | succ zm ih5 =>
    intro k5 x5_3 H locs ls zm_5 hk_k5 G hl
    refine lv_iload zx zb dX7_mixInto_5 (lv_at hl 0 rfl) ?_
    refine lv_aload_n zx zb dX7_mixInto_7 rfl (lv_at hl 2 rfl) ?_
    refine r_get (C := RX7) (T := TX7) (N := 5) (ci := 5) (v := .int (nI n)) S in_X7_mixInto_X7 G 0 rfl rfl 4 (by decide) lk_X7_mixInto_7 rfl dX7_mixInto_8 ?_
    refine lv_icmp_ge (tgt := 133) zx zb dX7_mixInto_11 (by decide) (fun c_1 => ?_) (fun c_1 => ?_)
    · have fc_1 := j_le (a := n) (b := k5) (by omega) (by omega) c_1
      refine lv_lload_n zx zb dX7_mixInto_133 rfl (lv_at hl 1 rfl) ?_
      exact e_long S zr zlk G () [] rfl rfl (Or.inl rfl) (trivial) dX7_mixInto_134
    · have fc_1 := j_nle (a := n) (b := k5) (by omega) (by omega) c_1
      refine lv_iload zx zb dX7_mixInto_14 (lv_at hl 0 rfl) ?_
      refine lv_iconst (v := 5) zx zb dX7_mixInto_16 (by decide) ?_
      refine r_imul (v := (nI (k5 * 5))) S (pk_mul k5 5) dX7_mixInto_17 ?_
      refine lv_istore (lv' := [(6, .int (nI (k5 * 5))), (5, .int (nI k5)), (3, .long x5_3), (0, .ref h0), (1, .long x)]) zx zb dX7_mixInto_18 hl (by decide) rfl (fun ls hl => ?_)
      refine lv_ldc2 zx zb S.2.2.2.1 (S.2.2.2.2 _ mm_X7_mixInto_c50) dX7_mixInto_20 ?_
      refine k_ld (v := (Int32.toInt64 31)) (by decide) ?_
      refine lv_lload_n zx zb dX7_mixInto_23 rfl (lv_at hl 2 rfl) ?_
      refine r_lmul (v := ((Int32.toInt64 31) * x5_3)) S rfl dX7_mixInto_24 ?_
      refine lv_aload_n zx zb dX7_mixInto_25 rfl (lv_at hl 3 rfl) ?_
      refine r_get (C := RX7) (T := TX7) (N := 5) (ci := 5) (v := .ref c0) S in_X7_mixInto_X7 G 0 rfl rfl 3 (by decide) lk_X7_mixInto_23 rfl dX7_mixInto_26 ?_
      refine lv_iload zx zb dX7_mixInto_29 (lv_at hl 0 rfl) ?_
      refine lv_iconst (v := 0) zx zb dX7_mixInto_31 (by decide) ?_
      refine r_iadd (v := (nI ((k5 * 5) + 0))) S (nI_add (k5 * 5) 0) dX7_mixInto_32 ?_
      refine r_iald S G 1 rfl (vp_in_nI (by omega) (by decide)) rfl dX7_mixInto_33 ?_
      refine k_itE (fun y_2 => ?_)
      refine lv_i2l (v := (Int32.toInt64 y_2)) zx zb dX7_mixInto_34 rfl ?_
      refine r_ladd (v := (((Int32.toInt64 31) * x5_3) + (Int32.toInt64 y_2))) S rfl dX7_mixInto_35 ?_
      refine lv_lstore_n (lv' := [(3, .long (((Int32.toInt64 31) * x5_3) + (Int32.toInt64 y_2))), (6, .int (nI (k5 * 5))), (5, .int (nI k5)), (0, .ref h0), (1, .long x)]) zx zb dX7_mixInto_36 rfl hl (by decide) rfl (fun ls hl => ?_)
      refine lv_aload_n zx zb dX7_mixInto_37 rfl (lv_at hl 3 rfl) ?_
      refine r_get (C := RX7) (T := TX7) (N := 5) (ci := 5) (v := .int 0) S in_X7_mixInto_X7 G 0 rfl rfl 1 (by decide) lk_X7_mixInto_16 rfl dX7_mixInto_38 ?_
      refine lv_if_eq (tgt := 63) zx zb dX7_mixInto_41 (by decide) (fun c_3 => ?_) (fun c_3 => absurd (by decide) c_3)
      refine lv_lload_n zx zb dX7_mixInto_63 rfl (lv_at hl 0 rfl) ?_
      refine lv_lstore_n (lv' := [(3, .long (((Int32.toInt64 31) * x5_3) + (Int32.toInt64 y_2))), (6, .int (nI (k5 * 5))), (5, .int (nI k5)), (0, .ref h0), (1, .long x)]) zx zb dX7_mixInto_64 rfl hl (by decide) rfl (fun ls hl => ?_)
      refine lv_ldc2 zx zb S.2.2.2.1 (S.2.2.2.2 _ mm_X7_mixInto_c50) dX7_mixInto_65 ?_
      refine k_ld (v := (Int32.toInt64 31)) (by decide) ?_
      refine lv_lload_n zx zb dX7_mixInto_68 rfl (lv_at hl 0 rfl) ?_
      refine r_lmul (v := ((Int32.toInt64 31) * (((Int32.toInt64 31) * x5_3) + (Int32.toInt64 y_2)))) S rfl dX7_mixInto_69 ?_
      refine lv_aload_n zx zb dX7_mixInto_70 rfl (lv_at hl 3 rfl) ?_
      refine r_get (C := RX7) (T := TX7) (N := 5) (ci := 5) (v := .ref c0) S in_X7_mixInto_X7 G 0 rfl rfl 3 (by decide) lk_X7_mixInto_23 rfl dX7_mixInto_71 ?_
      refine lv_iload zx zb dX7_mixInto_74 (lv_at hl 1 rfl) ?_
      refine lv_iconst (v := 2) zx zb dX7_mixInto_76 (by decide) ?_
      refine r_iadd (v := (nI ((k5 * 5) + 2))) S (nI_add (k5 * 5) 2) dX7_mixInto_77 ?_
      refine r_iald S G 1 rfl (vp_in_nI (by omega) (by decide)) rfl dX7_mixInto_78 ?_
      refine k_itE (fun y_4 => ?_)
      refine lv_i2l (v := (Int32.toInt64 y_4)) zx zb dX7_mixInto_79 rfl ?_
      refine r_ladd (v := (((Int32.toInt64 31) * (((Int32.toInt64 31) * x5_3) + (Int32.toInt64 y_2))) + (Int32.toInt64 y_4))) S rfl dX7_mixInto_80 ?_
      refine lv_lstore_n (lv' := [(3, .long (((Int32.toInt64 31) * (((Int32.toInt64 31) * x5_3) + (Int32.toInt64 y_2))) + (Int32.toInt64 y_4))), (6, .int (nI (k5 * 5))), (5, .int (nI k5)), (0, .ref h0), (1, .long x)]) zx zb dX7_mixInto_81 rfl hl (by decide) rfl (fun ls hl => ?_)
      refine lv_aload_n zx zb dX7_mixInto_82 rfl (lv_at hl 3 rfl) ?_
      refine r_get (C := RX7) (T := TX7) (N := 5) (ci := 5) (v := .int 0) S in_X7_mixInto_X7 G 0 rfl rfl 2 (by decide) lk_X7_mixInto_20 rfl dX7_mixInto_83 ?_
      refine lv_if_eq (tgt := 108) zx zb dX7_mixInto_86 (by decide) (fun c_5 => ?_) (fun c_5 => absurd (by decide) c_5)
      refine lv_lload_n zx zb dX7_mixInto_108 rfl (lv_at hl 0 rfl) ?_
      refine lv_lstore_n (lv' := [(3, .long (((Int32.toInt64 31) * (((Int32.toInt64 31) * x5_3) + (Int32.toInt64 y_2))) + (Int32.toInt64 y_4))), (6, .int (nI (k5 * 5))), (5, .int (nI k5)), (0, .ref h0), (1, .long x)]) zx zb dX7_mixInto_109 rfl hl (by decide) rfl (fun ls hl => ?_)
      refine lv_ldc2 zx zb S.2.2.2.1 (S.2.2.2.2 _ mm_X7_mixInto_c50) dX7_mixInto_110 ?_
      refine k_ld (v := (Int32.toInt64 31)) (by decide) ?_
      refine lv_lload_n zx zb dX7_mixInto_113 rfl (lv_at hl 0 rfl) ?_
      refine r_lmul (v := ((Int32.toInt64 31) * (((Int32.toInt64 31) * (((Int32.toInt64 31) * x5_3) + (Int32.toInt64 y_2))) + (Int32.toInt64 y_4)))) S rfl dX7_mixInto_114 ?_
      refine lv_aload_n zx zb dX7_mixInto_115 rfl (lv_at hl 3 rfl) ?_
      refine r_get (C := RX7) (T := TX7) (N := 5) (ci := 5) (v := .ref c0) S in_X7_mixInto_X7 G 0 rfl rfl 3 (by decide) lk_X7_mixInto_23 rfl dX7_mixInto_116 ?_
      refine lv_iload zx zb dX7_mixInto_119 (lv_at hl 1 rfl) ?_
      refine lv_iconst (v := 4) zx zb dX7_mixInto_121 (by decide) ?_
      refine r_iadd (v := (nI ((k5 * 5) + 4))) S (nI_add (k5 * 5) 4) dX7_mixInto_122 ?_
      refine r_iald S G 1 rfl (vp_in_nI (by omega) (by decide)) rfl dX7_mixInto_123 ?_
      refine k_itE (fun y_6 => ?_)
      refine lv_i2l (v := (Int32.toInt64 y_6)) zx zb dX7_mixInto_124 rfl ?_
      refine r_ladd (v := (((Int32.toInt64 31) * (((Int32.toInt64 31) * (((Int32.toInt64 31) * x5_3) + (Int32.toInt64 y_2))) + (Int32.toInt64 y_4))) + (Int32.toInt64 y_6))) S rfl dX7_mixInto_125 ?_
      refine lv_lstore_n (lv' := [(3, .long (((Int32.toInt64 31) * (((Int32.toInt64 31) * (((Int32.toInt64 31) * x5_3) + (Int32.toInt64 y_2))) + (Int32.toInt64 y_4))) + (Int32.toInt64 y_6))), (6, .int (nI (k5 * 5))), (5, .int (nI k5)), (0, .ref h0), (1, .long x)]) zx zb dX7_mixInto_126 rfl hl (by decide) rfl (fun ls hl => ?_)
      refine lv_iinc (v := (nI (k5 + 1))) (lv' := [(5, .int (nI (k5 + 1))), (3, .long (((Int32.toInt64 31) * (((Int32.toInt64 31) * (((Int32.toInt64 31) * x5_3) + (Int32.toInt64 y_2))) + (Int32.toInt64 y_4))) + (Int32.toInt64 y_6))), (6, .int (nI (k5 * 5))), (0, .ref h0), (1, .long x)]) zx zb dX7_mixInto_127 hl (k := 2) rfl (nI_add k5 1) (by decide) rfl (fun ls hl => ?_)
      refine lv_goto (tgt := 5) zx zb dX7_mixInto_130 (by decide) ?_
      have hl := lv_sub hl (l' := [(5, .int (nI (k5 + 1))), (3, .long (((Int32.toInt64 31) * (((Int32.toInt64 31) * (((Int32.toInt64 31) * x5_3) + (Int32.toInt64 y_2))) + (Int32.toInt64 y_4))) + (Int32.toInt64 y_6))), (0, .ref h0), (1, .long x)]) [0, 1, 3, 4] rfl
      exact ih5 (k5 + 1) (((Int32.toInt64 31) * (((Int32.toInt64 31) * (((Int32.toInt64 31) * x5_3) + (Int32.toInt64 y_2))) + (Int32.toInt64 y_4))) + (Int32.toInt64 y_6)) _ _ _ (by omega) (by omega) G hl
theorem in_X4_push_X4 : ∀ w ∈ wsX40, w ∈ wsX4_push := by decide +kernel
theorem lk_X4_push_15 : Cond.fieldLink RX4 15 "EggSpoons$Past" "size" "I" ∈ wsX4_push := by decide +kernel
theorem lk_X4_push_11 : Cond.fieldLink RX4 11 "EggSpoons$Past" "cells" "[I" ∈ wsX4_push := by decide +kernel
theorem in_X4_push_X8 : ∀ w ∈ wsX80, w ∈ wsX4_push := by decide +kernel
theorem lk_X4_push_25 : Cond.fieldLink RX4 25 "EggSpoons$Runner" "speed" "I" ∈ wsX4_push := by decide +kernel
theorem lk_X4_push_30 : Cond.fieldLink RX4 30 "EggSpoons$Runner" "place" "I" ∈ wsX4_push := by decide +kernel
theorem lk_X4_push_33 : Cond.fieldLink RX4 33 "EggSpoons$Runner" "drops" "I" ∈ wsX4_push := by decide +kernel
theorem lk_X4_push_36 : Cond.fieldLink RX4 36 "EggSpoons$Runner" "waits" "I" ∈ wsX4_push := by decide +kernel
theorem lk_X4_push_39 : Cond.fieldLink RX4 39 "EggSpoons$Runner" "homeAt" "I" ∈ wsX4_push := by decide +kernel
theorem mm_X4_push_ml19 : Cond.methodLink RX4 19 arraycopyName ∈ wsX4_push := by decide +kernel
theorem mm_X4_push_cn : Cond.native arraycopyName ∈ wsX4_push := by decide +kernel
theorem mm_X4_push_cs : Cond.static arraycopyName ∈ wsX4_push := by decide +kernel
theorem mm_X4_push_ci : Cond.initialized "java/lang/System" ∈ wsX4_push := by decide +kernel
set_option maxHeartbeats 4000000 in
set_option maxRecDepth 100000 in
/-- push -/
theorem s_push (l : Launch) (X : EX) (hn : Nat) (an : Nat → Nat) (sv : Nat → Int32) (dv : Nat → Int32) (n0 : Nat) (n1 : Nat) (n2 : Nat) (n3 : Nat) (n4 : Nat) (g0 : Nat → Int32) (gs : Nat → Int32) (gn : Nat → Int32) (gm : Nat → Int32) (x1 : Int32) (hI_n0 : n0 ≤ 6) (hI_n1 : n1 ≤ 8) (hI_n2 : n2 ≤ 5) (hI_n3 : n3 ≤ 6) (hI_n4 : n4 ≤ 6) (sz : Nat) : Met l yX4_push wsX4_push ({ frames := 1, cells := 0, slots := 0, locals := 60 } : Room) (pE X [.ref (an 7), .int x1, .ref (an 0)] (rcV X hn an sv dv n0 n1 n2 n3 n4 g0 gs gn gm) sz) (qV (fun (u : (Nat) × (Nat → Int32)) => u.1 ≤ 8 ∧ (True)) X (fun (u : (Nat) × (Nat → Int32)) => rcV X hn an sv dv n0 u.1 n2 n3 n4 u.2 gs gn gm) (rcV X hn an sv dv n0 n1 n2 n3 n4 g0 gs gn gm) sz) 0 0 (va_A (rcV X hn an sv dv n0 n1 n2 n3 n4 g0 gs gn gm) sz) := by
  refine mk_met (B := (va_A (rcV X hn an sv dv n0 n1 n2 n3 n4 g0 gs gn gm) sz)) (A := (va_A (rcV X hn an sv dv n0 n1 n2 n3 n4 g0 gs gn gm) sz)) (cc := cX4_push) (maxL := 6) (ret := none) (by decide) rfl (Nat.le_of_ble_eq_true rfl) k_w k_a (fun p e s m below meth c S zr zlk znm zsz G ls hl => ?_)
  have S : CallFix p m c cX4_push 6 s _ wsX4_push RX4 := S
  have zx := S.1
  have zb := S.2.1
  have hl : lv_has ls 6 [(0, .ref (an 7)), (1, .int x1), (2, .ref (an 0))] := hl
  refine lv_aload_n zx zb dX4_push_0 rfl (lv_at hl 0 rfl) ?_
  refine r_get (C := RX4) (T := TX4) (N := 2) (ci := 2) (v := .int (nI n1)) S in_X4_push_X4 G 8 rfl rfl 1 (by decide) lk_X4_push_15 rfl dX4_push_1 ?_
  refine lv_bipush (v := 8) zx zb dX4_push_4 (by decide) ?_
  refine lv_icmp_lt (tgt := 32) zx zb dX4_push_6 (by decide) (fun c_1 => ?_) (fun c_1 => ?_)
  · have fc_1 := j_lt (a := n1) (b := 8) (by omega) (by omega) c_1
    refine lv_aload_n zx zb dX4_push_32 rfl (lv_at hl 0 rfl) ?_
    refine r_get (C := RX4) (T := TX4) (N := 2) (ci := 2) (v := .int (nI n1)) S in_X4_push_X4 G 8 rfl rfl 1 (by decide) lk_X4_push_15 rfl dX4_push_33 ?_
    refine lv_bipush (v := 31) zx zb dX4_push_36 (by decide) ?_
    refine r_imul (v := (nI (n1 * 31))) S (pk_mul n1 31) dX4_push_38 ?_
    refine lv_istore_n (lv' := [(3, .int (nI (n1 * 31))), (0, .ref (an 7)), (1, .int x1), (2, .ref (an 0))]) zx zb dX4_push_39 rfl hl (by decide) rfl (fun ls hl => ?_)
    refine lv_aload_n zx zb dX4_push_40 rfl (lv_at hl 1 rfl) ?_
    refine r_get (C := RX4) (T := TX4) (N := 2) (ci := 2) (v := .ref (an 8)) S in_X4_push_X4 G 8 rfl rfl 0 (by decide) lk_X4_push_11 rfl dX4_push_41 ?_
    refine lv_iload_n zx zb dX4_push_44 rfl (lv_at hl 0 rfl) ?_
    refine lv_iload_n zx zb dX4_push_45 rfl (lv_at hl 2 rfl) ?_
    refine r_iast S G 9 rfl (vp_in_nI (by omega) (by decide)) dX4_push_46 (fun H locs G => ?_)
    obtain ⟨g_2, G⟩ : ∃ g_2 : Nat → Int32, wd X (va_A (rcV X hn an sv dv n0 n1 n2 n3 n4 g0 gs gn gm) sz) (va_A (rcV X hn an sv dv n0 n1 n2 n3 n4 g0 gs gn gm) sz) s (rcV X hn an sv dv n0 n1 n2 n3 n4 g_2 gs gn gm) H locs := ⟨_, G⟩
    refine lv_iconst (v := 0) zx zb dX4_push_47 (by decide) ?_
    refine lv_istore (lv' := [(4, .int 0), (3, .int (nI (n1 * 31))), (0, .ref (an 7)), (1, .int x1), (2, .ref (an 0))]) zx zb dX4_push_48 hl (by decide) rfl (fun ls hl => ?_)
    refine k_loop (P := ∀ (zm : Nat) (k50 : Nat) (g050_0 : Nat → Int32) (H : Heap) (locs : List Loc) (ls : Array Slot), 6 + 1 ≤ k50 + zm → (k50 ≤ 6) → wd X (va_A (rcV X hn an sv dv n0 n1 n2 n3 n4 g0 gs gn gm) sz) (va_A (rcV X hn an sv dv n0 n1 n2 n3 n4 g0 gs gn gm) sz) s (rcV X hn an sv dv n0 n1 n2 n3 n4 g050_0 gs gn gm) H locs → lv_has ls 6 [(4, .int (nI k50)), (3, .int (nI (n1 * 31))), (0, .ref (an 7)), (1, .int x1), (2, .ref (an 0))] → W p l e _ s m _ below meth c H locs _ _ _ (F0 m 50 ls [])) (fun loop => loop (6 + 1) 0 g_2 _ _ _ (by omega) (by omega) G hl) ?_
    intro zm
    induction zm with
    | zero => intro k50 g050_0 H locs ls zz q_hk_k50 _ _; exact absurd zz (by omega)
    | succ zm ih50 =>
      intro k50 g050_0 H locs ls zm_50 hk_k50 G hl
      refine lv_iload zx zb dX4_push_50 (lv_at hl 0 rfl) ?_
      refine lv_bipush (v := 6) zx zb dX4_push_52 (by decide) ?_
      refine lv_icmp_ge (tgt := 151) zx zb dX4_push_54 (by decide) (fun c_3 => ?_) (fun c_3 => ?_)
      · have fc_3 := j_le (a := 6) (b := k50) (by omega) (by omega) c_3
        refine lv_aload_n zx zb dX4_push_151 rfl (lv_at hl 2 rfl) ?_
        refine lv_dup zx zb dX4_push_152 rfl ?_
        refine r_get (C := RX4) (T := TX4) (N := 2) (ci := 2) (v := .int (nI n1)) S in_X4_push_X4 G 8 rfl rfl 1 (by decide) lk_X4_push_15 rfl dX4_push_153 ?_
        refine lv_iconst (v := 1) zx zb dX4_push_156 (by decide) ?_
        refine r_iadd (v := (nI (n1 + 1))) S (nI_add n1 1) dX4_push_157 ?_
        refine r_put (C := RX4) (T := TX4) (N := 2) (ci := 2) (v := .int (nI (n1 + 1))) S in_X4_push_X4 tyX4_ok nmX4 G 8 rfl rfl 1 (by decide) lk_X4_push_15 rfl (vp_nar_int _) rfl (Nat.le_of_ble_eq_true rfl) dX4_push_158 (fun H locs G => ?_)
        obtain ⟨n_4, hI_n_4, hE_n_4, G⟩ : ∃ n_4 : Nat, n_4 ≤ 8 ∧ n_4 = (n1 + 1) ∧ wd X (va_A (rcV X hn an sv dv n0 n1 n2 n3 n4 g0 gs gn gm) sz) (va_A (rcV X hn an sv dv n0 n1 n2 n3 n4 g0 gs gn gm) sz) s (rcV X hn an sv dv n0 n_4 n2 n3 n4 g050_0 gs gn gm) H locs := ⟨(n1 + 1), by omega, rfl, G⟩
        exact e_void S zr zlk G (n_4, g050_0) [0, 1, 2, 3, 4, 5, 6, 7, 8, 9, 10, 11, 12, 13, 14, 15] rfl rfl (Or.inr rfl) (⟨hI_n_4, trivial⟩) dX4_push_161
      · have fc_3 := j_nle (a := 6) (b := k50) (by omega) (by omega) c_3
        refine lv_iload_n zx zb dX4_push_57 rfl (lv_at hl 1 rfl) ?_
        refine lv_iconst (v := 1) zx zb dX4_push_58 (by decide) ?_
        refine r_iadd (v := (nI ((n1 * 31) + 1))) S (nI_add (n1 * 31) 1) dX4_push_59 ?_
        refine lv_iload zx zb dX4_push_60 (lv_at hl 0 rfl) ?_
        refine lv_iconst (v := 5) zx zb dX4_push_62 (by decide) ?_
        refine r_imul (v := (nI (k50 * 5))) S (pk_mul k50 5) dX4_push_63 ?_
        refine r_iadd (v := (nI (((n1 * 31) + 1) + (k50 * 5)))) S (nI_add ((n1 * 31) + 1) (k50 * 5)) dX4_push_64 ?_
        refine lv_istore (lv' := [(5, .int (nI (((n1 * 31) + 1) + (k50 * 5)))), (4, .int (nI k50)), (3, .int (nI (n1 * 31))), (0, .ref (an 7)), (1, .int x1), (2, .ref (an 0))]) zx zb dX4_push_65 hl (by decide) rfl (fun ls hl => ?_)
        refine lv_aload_n zx zb dX4_push_67 rfl (lv_at hl 3 rfl) ?_
        refine r_get (C := RX4) (T := TX4) (N := 2) (ci := 2) (v := .ref (an 8)) S in_X4_push_X4 G 8 rfl rfl 0 (by decide) lk_X4_push_11 rfl dX4_push_68 ?_
        refine lv_iload zx zb dX4_push_71 (lv_at hl 0 rfl) ?_
        refine lv_aload_n zx zb dX4_push_73 rfl (lv_at hl 5 rfl) ?_
        refine lv_iload zx zb dX4_push_74 (lv_at hl 1 rfl) ?_
        rcases k_6c (show k50 < 6 by omega) with rfl | rfl | rfl | rfl | rfl | rfl
        · refine k_it (v := 0) rfl ?_
          refine r_aald (C := RX8) (b := (an 1)) S G 1 3 rfl rfl (k_vp (by decide)) rfl dX4_push_76 ?_
          refine r_get (C := RX8) (T := TX8) (N := 8) (ci := 6) (v := .int (dv 10)) S in_X4_push_X8 G 2 rfl rfl 3 (by decide) lk_X4_push_25 rfl dX4_push_77 ?_
          refine r_iast S G 9 rfl (vp_in_nI (by omega) (by decide)) dX4_push_80 (fun H locs G => ?_)
          obtain ⟨g_5, G⟩ : ∃ g_5 : Nat → Int32, wd X (va_A (rcV X hn an sv dv n0 n1 n2 n3 n4 g0 gs gn gm) sz) (va_A (rcV X hn an sv dv n0 n1 n2 n3 n4 g0 gs gn gm) sz) s (rcV X hn an sv dv n0 n1 n2 n3 n4 g_5 gs gn gm) H locs := ⟨_, G⟩
          refine lv_aload_n zx zb dX4_push_81 rfl (lv_at hl 3 rfl) ?_
          refine r_get (C := RX4) (T := TX4) (N := 2) (ci := 2) (v := .ref (an 8)) S in_X4_push_X4 G 8 rfl rfl 0 (by decide) lk_X4_push_11 rfl dX4_push_82 ?_
          refine lv_iload zx zb dX4_push_85 (lv_at hl 0 rfl) ?_
          refine lv_iconst (v := 1) zx zb dX4_push_87 (by decide) ?_
          refine r_iadd (v := (nI ((((n1 * 31) + 1) + (0 * 5)) + 1))) S (nI_add (((n1 * 31) + 1) + (0 * 5)) 1) dX4_push_88 ?_
          refine lv_aload_n zx zb dX4_push_89 rfl (lv_at hl 5 rfl) ?_
          refine lv_iload zx zb dX4_push_90 (lv_at hl 1 rfl) ?_
          refine r_aald (C := RX8) (b := (an 1)) S G 1 3 rfl rfl (k_vp (by decide)) rfl dX4_push_92 ?_
          refine r_get (C := RX8) (T := TX8) (N := 8) (ci := 6) (v := .int (dv 11)) S in_X4_push_X8 G 2 rfl rfl 4 (by decide) lk_X4_push_30 rfl dX4_push_93 ?_
          refine r_iast S G 9 rfl (vp_in_nI (by omega) (by decide)) dX4_push_96 (fun H locs G => ?_)
          obtain ⟨g_6, G⟩ : ∃ g_6 : Nat → Int32, wd X (va_A (rcV X hn an sv dv n0 n1 n2 n3 n4 g0 gs gn gm) sz) (va_A (rcV X hn an sv dv n0 n1 n2 n3 n4 g0 gs gn gm) sz) s (rcV X hn an sv dv n0 n1 n2 n3 n4 g_6 gs gn gm) H locs := ⟨_, G⟩
          refine lv_aload_n zx zb dX4_push_97 rfl (lv_at hl 3 rfl) ?_
          refine r_get (C := RX4) (T := TX4) (N := 2) (ci := 2) (v := .ref (an 8)) S in_X4_push_X4 G 8 rfl rfl 0 (by decide) lk_X4_push_11 rfl dX4_push_98 ?_
          refine lv_iload zx zb dX4_push_101 (lv_at hl 0 rfl) ?_
          refine lv_iconst (v := 2) zx zb dX4_push_103 (by decide) ?_
          refine r_iadd (v := (nI ((((n1 * 31) + 1) + (0 * 5)) + 2))) S (nI_add (((n1 * 31) + 1) + (0 * 5)) 2) dX4_push_104 ?_
          refine lv_aload_n zx zb dX4_push_105 rfl (lv_at hl 5 rfl) ?_
          refine lv_iload zx zb dX4_push_106 (lv_at hl 1 rfl) ?_
          refine r_aald (C := RX8) (b := (an 1)) S G 1 3 rfl rfl (k_vp (by decide)) rfl dX4_push_108 ?_
          refine r_get (C := RX8) (T := TX8) (N := 8) (ci := 6) (v := .int (dv 12)) S in_X4_push_X8 G 2 rfl rfl 5 (by decide) lk_X4_push_33 rfl dX4_push_109 ?_
          refine r_iast S G 9 rfl (vp_in_nI (by omega) (by decide)) dX4_push_112 (fun H locs G => ?_)
          obtain ⟨g_7, G⟩ : ∃ g_7 : Nat → Int32, wd X (va_A (rcV X hn an sv dv n0 n1 n2 n3 n4 g0 gs gn gm) sz) (va_A (rcV X hn an sv dv n0 n1 n2 n3 n4 g0 gs gn gm) sz) s (rcV X hn an sv dv n0 n1 n2 n3 n4 g_7 gs gn gm) H locs := ⟨_, G⟩
          refine lv_aload_n zx zb dX4_push_113 rfl (lv_at hl 3 rfl) ?_
          refine r_get (C := RX4) (T := TX4) (N := 2) (ci := 2) (v := .ref (an 8)) S in_X4_push_X4 G 8 rfl rfl 0 (by decide) lk_X4_push_11 rfl dX4_push_114 ?_
          refine lv_iload zx zb dX4_push_117 (lv_at hl 0 rfl) ?_
          refine lv_iconst (v := 3) zx zb dX4_push_119 (by decide) ?_
          refine r_iadd (v := (nI ((((n1 * 31) + 1) + (0 * 5)) + 3))) S (nI_add (((n1 * 31) + 1) + (0 * 5)) 3) dX4_push_120 ?_
          refine lv_aload_n zx zb dX4_push_121 rfl (lv_at hl 5 rfl) ?_
          refine lv_iload zx zb dX4_push_122 (lv_at hl 1 rfl) ?_
          refine r_aald (C := RX8) (b := (an 1)) S G 1 3 rfl rfl (k_vp (by decide)) rfl dX4_push_124 ?_
          refine r_get (C := RX8) (T := TX8) (N := 8) (ci := 6) (v := .int (dv 13)) S in_X4_push_X8 G 2 rfl rfl 6 (by decide) lk_X4_push_36 rfl dX4_push_125 ?_
          refine r_iast S G 9 rfl (vp_in_nI (by omega) (by decide)) dX4_push_128 (fun H locs G => ?_)
          obtain ⟨g_8, G⟩ : ∃ g_8 : Nat → Int32, wd X (va_A (rcV X hn an sv dv n0 n1 n2 n3 n4 g0 gs gn gm) sz) (va_A (rcV X hn an sv dv n0 n1 n2 n3 n4 g0 gs gn gm) sz) s (rcV X hn an sv dv n0 n1 n2 n3 n4 g_8 gs gn gm) H locs := ⟨_, G⟩
          refine lv_aload_n zx zb dX4_push_129 rfl (lv_at hl 3 rfl) ?_
          refine r_get (C := RX4) (T := TX4) (N := 2) (ci := 2) (v := .ref (an 8)) S in_X4_push_X4 G 8 rfl rfl 0 (by decide) lk_X4_push_11 rfl dX4_push_130 ?_
          refine lv_iload zx zb dX4_push_133 (lv_at hl 0 rfl) ?_
          refine lv_iconst (v := 4) zx zb dX4_push_135 (by decide) ?_
          refine r_iadd (v := (nI ((((n1 * 31) + 1) + (0 * 5)) + 4))) S (nI_add (((n1 * 31) + 1) + (0 * 5)) 4) dX4_push_136 ?_
          refine lv_aload_n zx zb dX4_push_137 rfl (lv_at hl 5 rfl) ?_
          refine lv_iload zx zb dX4_push_138 (lv_at hl 1 rfl) ?_
          refine r_aald (C := RX8) (b := (an 1)) S G 1 3 rfl rfl (k_vp (by decide)) rfl dX4_push_140 ?_
          refine r_get (C := RX8) (T := TX8) (N := 8) (ci := 6) (v := .int (dv 14)) S in_X4_push_X8 G 2 rfl rfl 7 (by decide) lk_X4_push_39 rfl dX4_push_141 ?_
          refine r_iast S G 9 rfl (vp_in_nI (by omega) (by decide)) dX4_push_144 (fun H locs G => ?_)
          obtain ⟨g_9, G⟩ : ∃ g_9 : Nat → Int32, wd X (va_A (rcV X hn an sv dv n0 n1 n2 n3 n4 g0 gs gn gm) sz) (va_A (rcV X hn an sv dv n0 n1 n2 n3 n4 g0 gs gn gm) sz) s (rcV X hn an sv dv n0 n1 n2 n3 n4 g_9 gs gn gm) H locs := ⟨_, G⟩
          refine lv_iinc (v := 1) (lv' := [(4, .int 1), (5, .int (nI (((n1 * 31) + 1) + (0 * 5)))), (3, .int (nI (n1 * 31))), (0, .ref (an 7)), (1, .int x1), (2, .ref (an 0))]) zx zb dX4_push_145 hl (k := 1) rfl (by decide) (by decide) rfl (fun ls hl => ?_)
          refine lv_goto (tgt := 50) zx zb dX4_push_148 (by decide) ?_
          have hl := lv_sub hl (l' := [(4, .int 1), (3, .int (nI (n1 * 31))), (0, .ref (an 7)), (1, .int x1), (2, .ref (an 0))]) [0, 2, 3, 4, 5] rfl
          exact ih50 1 g_9 _ _ _ (by omega) (by omega) G hl
        · refine k_it (v := 1) rfl ?_
          refine r_aald (C := RX8) (b := (an 2)) S G 1 3 rfl rfl (k_vp (by decide)) rfl dX4_push_76 ?_
          refine r_get (C := RX8) (T := TX8) (N := 8) (ci := 6) (v := .int (dv 15)) S in_X4_push_X8 G 3 rfl rfl 3 (by decide) lk_X4_push_25 rfl dX4_push_77 ?_
          refine r_iast S G 9 rfl (vp_in_nI (by omega) (by decide)) dX4_push_80 (fun H locs G => ?_)
          obtain ⟨g_10, G⟩ : ∃ g_10 : Nat → Int32, wd X (va_A (rcV X hn an sv dv n0 n1 n2 n3 n4 g0 gs gn gm) sz) (va_A (rcV X hn an sv dv n0 n1 n2 n3 n4 g0 gs gn gm) sz) s (rcV X hn an sv dv n0 n1 n2 n3 n4 g_10 gs gn gm) H locs := ⟨_, G⟩
          refine lv_aload_n zx zb dX4_push_81 rfl (lv_at hl 3 rfl) ?_
          refine r_get (C := RX4) (T := TX4) (N := 2) (ci := 2) (v := .ref (an 8)) S in_X4_push_X4 G 8 rfl rfl 0 (by decide) lk_X4_push_11 rfl dX4_push_82 ?_
          refine lv_iload zx zb dX4_push_85 (lv_at hl 0 rfl) ?_
          refine lv_iconst (v := 1) zx zb dX4_push_87 (by decide) ?_
          refine r_iadd (v := (nI ((((n1 * 31) + 1) + (1 * 5)) + 1))) S (nI_add (((n1 * 31) + 1) + (1 * 5)) 1) dX4_push_88 ?_
          refine lv_aload_n zx zb dX4_push_89 rfl (lv_at hl 5 rfl) ?_
          refine lv_iload zx zb dX4_push_90 (lv_at hl 1 rfl) ?_
          refine r_aald (C := RX8) (b := (an 2)) S G 1 3 rfl rfl (k_vp (by decide)) rfl dX4_push_92 ?_
          refine r_get (C := RX8) (T := TX8) (N := 8) (ci := 6) (v := .int (dv 16)) S in_X4_push_X8 G 3 rfl rfl 4 (by decide) lk_X4_push_30 rfl dX4_push_93 ?_
          refine r_iast S G 9 rfl (vp_in_nI (by omega) (by decide)) dX4_push_96 (fun H locs G => ?_)
          obtain ⟨g_11, G⟩ : ∃ g_11 : Nat → Int32, wd X (va_A (rcV X hn an sv dv n0 n1 n2 n3 n4 g0 gs gn gm) sz) (va_A (rcV X hn an sv dv n0 n1 n2 n3 n4 g0 gs gn gm) sz) s (rcV X hn an sv dv n0 n1 n2 n3 n4 g_11 gs gn gm) H locs := ⟨_, G⟩
          refine lv_aload_n zx zb dX4_push_97 rfl (lv_at hl 3 rfl) ?_
          refine r_get (C := RX4) (T := TX4) (N := 2) (ci := 2) (v := .ref (an 8)) S in_X4_push_X4 G 8 rfl rfl 0 (by decide) lk_X4_push_11 rfl dX4_push_98 ?_
          refine lv_iload zx zb dX4_push_101 (lv_at hl 0 rfl) ?_
          refine lv_iconst (v := 2) zx zb dX4_push_103 (by decide) ?_
          refine r_iadd (v := (nI ((((n1 * 31) + 1) + (1 * 5)) + 2))) S (nI_add (((n1 * 31) + 1) + (1 * 5)) 2) dX4_push_104 ?_
          refine lv_aload_n zx zb dX4_push_105 rfl (lv_at hl 5 rfl) ?_
          refine lv_iload zx zb dX4_push_106 (lv_at hl 1 rfl) ?_
          refine r_aald (C := RX8) (b := (an 2)) S G 1 3 rfl rfl (k_vp (by decide)) rfl dX4_push_108 ?_
          refine r_get (C := RX8) (T := TX8) (N := 8) (ci := 6) (v := .int (dv 17)) S in_X4_push_X8 G 3 rfl rfl 5 (by decide) lk_X4_push_33 rfl dX4_push_109 ?_
          refine r_iast S G 9 rfl (vp_in_nI (by omega) (by decide)) dX4_push_112 (fun H locs G => ?_)
          obtain ⟨g_12, G⟩ : ∃ g_12 : Nat → Int32, wd X (va_A (rcV X hn an sv dv n0 n1 n2 n3 n4 g0 gs gn gm) sz) (va_A (rcV X hn an sv dv n0 n1 n2 n3 n4 g0 gs gn gm) sz) s (rcV X hn an sv dv n0 n1 n2 n3 n4 g_12 gs gn gm) H locs := ⟨_, G⟩
          refine lv_aload_n zx zb dX4_push_113 rfl (lv_at hl 3 rfl) ?_
          refine r_get (C := RX4) (T := TX4) (N := 2) (ci := 2) (v := .ref (an 8)) S in_X4_push_X4 G 8 rfl rfl 0 (by decide) lk_X4_push_11 rfl dX4_push_114 ?_
          refine lv_iload zx zb dX4_push_117 (lv_at hl 0 rfl) ?_
          refine lv_iconst (v := 3) zx zb dX4_push_119 (by decide) ?_
          refine r_iadd (v := (nI ((((n1 * 31) + 1) + (1 * 5)) + 3))) S (nI_add (((n1 * 31) + 1) + (1 * 5)) 3) dX4_push_120 ?_
          refine lv_aload_n zx zb dX4_push_121 rfl (lv_at hl 5 rfl) ?_
          refine lv_iload zx zb dX4_push_122 (lv_at hl 1 rfl) ?_
          refine r_aald (C := RX8) (b := (an 2)) S G 1 3 rfl rfl (k_vp (by decide)) rfl dX4_push_124 ?_
          refine r_get (C := RX8) (T := TX8) (N := 8) (ci := 6) (v := .int (dv 18)) S in_X4_push_X8 G 3 rfl rfl 6 (by decide) lk_X4_push_36 rfl dX4_push_125 ?_
          refine r_iast S G 9 rfl (vp_in_nI (by omega) (by decide)) dX4_push_128 (fun H locs G => ?_)
          obtain ⟨g_13, G⟩ : ∃ g_13 : Nat → Int32, wd X (va_A (rcV X hn an sv dv n0 n1 n2 n3 n4 g0 gs gn gm) sz) (va_A (rcV X hn an sv dv n0 n1 n2 n3 n4 g0 gs gn gm) sz) s (rcV X hn an sv dv n0 n1 n2 n3 n4 g_13 gs gn gm) H locs := ⟨_, G⟩
          refine lv_aload_n zx zb dX4_push_129 rfl (lv_at hl 3 rfl) ?_
          refine r_get (C := RX4) (T := TX4) (N := 2) (ci := 2) (v := .ref (an 8)) S in_X4_push_X4 G 8 rfl rfl 0 (by decide) lk_X4_push_11 rfl dX4_push_130 ?_
          refine lv_iload zx zb dX4_push_133 (lv_at hl 0 rfl) ?_
          refine lv_iconst (v := 4) zx zb dX4_push_135 (by decide) ?_
          refine r_iadd (v := (nI ((((n1 * 31) + 1) + (1 * 5)) + 4))) S (nI_add (((n1 * 31) + 1) + (1 * 5)) 4) dX4_push_136 ?_
          refine lv_aload_n zx zb dX4_push_137 rfl (lv_at hl 5 rfl) ?_
          refine lv_iload zx zb dX4_push_138 (lv_at hl 1 rfl) ?_
          refine r_aald (C := RX8) (b := (an 2)) S G 1 3 rfl rfl (k_vp (by decide)) rfl dX4_push_140 ?_
          refine r_get (C := RX8) (T := TX8) (N := 8) (ci := 6) (v := .int (dv 19)) S in_X4_push_X8 G 3 rfl rfl 7 (by decide) lk_X4_push_39 rfl dX4_push_141 ?_
          refine r_iast S G 9 rfl (vp_in_nI (by omega) (by decide)) dX4_push_144 (fun H locs G => ?_)
          obtain ⟨g_14, G⟩ : ∃ g_14 : Nat → Int32, wd X (va_A (rcV X hn an sv dv n0 n1 n2 n3 n4 g0 gs gn gm) sz) (va_A (rcV X hn an sv dv n0 n1 n2 n3 n4 g0 gs gn gm) sz) s (rcV X hn an sv dv n0 n1 n2 n3 n4 g_14 gs gn gm) H locs := ⟨_, G⟩
          refine lv_iinc (v := 2) (lv' := [(4, .int 2), (5, .int (nI (((n1 * 31) + 1) + (1 * 5)))), (3, .int (nI (n1 * 31))), (0, .ref (an 7)), (1, .int x1), (2, .ref (an 0))]) zx zb dX4_push_145 hl (k := 1) rfl (by decide) (by decide) rfl (fun ls hl => ?_)
          refine lv_goto (tgt := 50) zx zb dX4_push_148 (by decide) ?_
          have hl := lv_sub hl (l' := [(4, .int 2), (3, .int (nI (n1 * 31))), (0, .ref (an 7)), (1, .int x1), (2, .ref (an 0))]) [0, 2, 3, 4, 5] rfl
          exact ih50 2 g_14 _ _ _ (by omega) (by omega) G hl
        · refine k_it (v := 2) rfl ?_
          refine r_aald (C := RX8) (b := (an 3)) S G 1 3 rfl rfl (k_vp (by decide)) rfl dX4_push_76 ?_
          refine r_get (C := RX8) (T := TX8) (N := 8) (ci := 6) (v := .int (dv 20)) S in_X4_push_X8 G 4 rfl rfl 3 (by decide) lk_X4_push_25 rfl dX4_push_77 ?_
          refine r_iast S G 9 rfl (vp_in_nI (by omega) (by decide)) dX4_push_80 (fun H locs G => ?_)
          obtain ⟨g_15, G⟩ : ∃ g_15 : Nat → Int32, wd X (va_A (rcV X hn an sv dv n0 n1 n2 n3 n4 g0 gs gn gm) sz) (va_A (rcV X hn an sv dv n0 n1 n2 n3 n4 g0 gs gn gm) sz) s (rcV X hn an sv dv n0 n1 n2 n3 n4 g_15 gs gn gm) H locs := ⟨_, G⟩
          refine lv_aload_n zx zb dX4_push_81 rfl (lv_at hl 3 rfl) ?_
          refine r_get (C := RX4) (T := TX4) (N := 2) (ci := 2) (v := .ref (an 8)) S in_X4_push_X4 G 8 rfl rfl 0 (by decide) lk_X4_push_11 rfl dX4_push_82 ?_
          refine lv_iload zx zb dX4_push_85 (lv_at hl 0 rfl) ?_
          refine lv_iconst (v := 1) zx zb dX4_push_87 (by decide) ?_
          refine r_iadd (v := (nI ((((n1 * 31) + 1) + (2 * 5)) + 1))) S (nI_add (((n1 * 31) + 1) + (2 * 5)) 1) dX4_push_88 ?_
          refine lv_aload_n zx zb dX4_push_89 rfl (lv_at hl 5 rfl) ?_
          refine lv_iload zx zb dX4_push_90 (lv_at hl 1 rfl) ?_
          refine r_aald (C := RX8) (b := (an 3)) S G 1 3 rfl rfl (k_vp (by decide)) rfl dX4_push_92 ?_
          refine r_get (C := RX8) (T := TX8) (N := 8) (ci := 6) (v := .int (dv 21)) S in_X4_push_X8 G 4 rfl rfl 4 (by decide) lk_X4_push_30 rfl dX4_push_93 ?_
          refine r_iast S G 9 rfl (vp_in_nI (by omega) (by decide)) dX4_push_96 (fun H locs G => ?_)
          obtain ⟨g_16, G⟩ : ∃ g_16 : Nat → Int32, wd X (va_A (rcV X hn an sv dv n0 n1 n2 n3 n4 g0 gs gn gm) sz) (va_A (rcV X hn an sv dv n0 n1 n2 n3 n4 g0 gs gn gm) sz) s (rcV X hn an sv dv n0 n1 n2 n3 n4 g_16 gs gn gm) H locs := ⟨_, G⟩
          refine lv_aload_n zx zb dX4_push_97 rfl (lv_at hl 3 rfl) ?_
          refine r_get (C := RX4) (T := TX4) (N := 2) (ci := 2) (v := .ref (an 8)) S in_X4_push_X4 G 8 rfl rfl 0 (by decide) lk_X4_push_11 rfl dX4_push_98 ?_
          refine lv_iload zx zb dX4_push_101 (lv_at hl 0 rfl) ?_
          refine lv_iconst (v := 2) zx zb dX4_push_103 (by decide) ?_
          refine r_iadd (v := (nI ((((n1 * 31) + 1) + (2 * 5)) + 2))) S (nI_add (((n1 * 31) + 1) + (2 * 5)) 2) dX4_push_104 ?_
          refine lv_aload_n zx zb dX4_push_105 rfl (lv_at hl 5 rfl) ?_
          refine lv_iload zx zb dX4_push_106 (lv_at hl 1 rfl) ?_
          refine r_aald (C := RX8) (b := (an 3)) S G 1 3 rfl rfl (k_vp (by decide)) rfl dX4_push_108 ?_
          refine r_get (C := RX8) (T := TX8) (N := 8) (ci := 6) (v := .int (dv 22)) S in_X4_push_X8 G 4 rfl rfl 5 (by decide) lk_X4_push_33 rfl dX4_push_109 ?_
          refine r_iast S G 9 rfl (vp_in_nI (by omega) (by decide)) dX4_push_112 (fun H locs G => ?_)
          obtain ⟨g_17, G⟩ : ∃ g_17 : Nat → Int32, wd X (va_A (rcV X hn an sv dv n0 n1 n2 n3 n4 g0 gs gn gm) sz) (va_A (rcV X hn an sv dv n0 n1 n2 n3 n4 g0 gs gn gm) sz) s (rcV X hn an sv dv n0 n1 n2 n3 n4 g_17 gs gn gm) H locs := ⟨_, G⟩
          refine lv_aload_n zx zb dX4_push_113 rfl (lv_at hl 3 rfl) ?_
          refine r_get (C := RX4) (T := TX4) (N := 2) (ci := 2) (v := .ref (an 8)) S in_X4_push_X4 G 8 rfl rfl 0 (by decide) lk_X4_push_11 rfl dX4_push_114 ?_
          refine lv_iload zx zb dX4_push_117 (lv_at hl 0 rfl) ?_
          refine lv_iconst (v := 3) zx zb dX4_push_119 (by decide) ?_
          refine r_iadd (v := (nI ((((n1 * 31) + 1) + (2 * 5)) + 3))) S (nI_add (((n1 * 31) + 1) + (2 * 5)) 3) dX4_push_120 ?_
          refine lv_aload_n zx zb dX4_push_121 rfl (lv_at hl 5 rfl) ?_
          refine lv_iload zx zb dX4_push_122 (lv_at hl 1 rfl) ?_
          refine r_aald (C := RX8) (b := (an 3)) S G 1 3 rfl rfl (k_vp (by decide)) rfl dX4_push_124 ?_
          refine r_get (C := RX8) (T := TX8) (N := 8) (ci := 6) (v := .int (dv 23)) S in_X4_push_X8 G 4 rfl rfl 6 (by decide) lk_X4_push_36 rfl dX4_push_125 ?_
          refine r_iast S G 9 rfl (vp_in_nI (by omega) (by decide)) dX4_push_128 (fun H locs G => ?_)
          obtain ⟨g_18, G⟩ : ∃ g_18 : Nat → Int32, wd X (va_A (rcV X hn an sv dv n0 n1 n2 n3 n4 g0 gs gn gm) sz) (va_A (rcV X hn an sv dv n0 n1 n2 n3 n4 g0 gs gn gm) sz) s (rcV X hn an sv dv n0 n1 n2 n3 n4 g_18 gs gn gm) H locs := ⟨_, G⟩
          refine lv_aload_n zx zb dX4_push_129 rfl (lv_at hl 3 rfl) ?_
          refine r_get (C := RX4) (T := TX4) (N := 2) (ci := 2) (v := .ref (an 8)) S in_X4_push_X4 G 8 rfl rfl 0 (by decide) lk_X4_push_11 rfl dX4_push_130 ?_
          refine lv_iload zx zb dX4_push_133 (lv_at hl 0 rfl) ?_
          refine lv_iconst (v := 4) zx zb dX4_push_135 (by decide) ?_
          refine r_iadd (v := (nI ((((n1 * 31) + 1) + (2 * 5)) + 4))) S (nI_add (((n1 * 31) + 1) + (2 * 5)) 4) dX4_push_136 ?_
          refine lv_aload_n zx zb dX4_push_137 rfl (lv_at hl 5 rfl) ?_
          refine lv_iload zx zb dX4_push_138 (lv_at hl 1 rfl) ?_
          refine r_aald (C := RX8) (b := (an 3)) S G 1 3 rfl rfl (k_vp (by decide)) rfl dX4_push_140 ?_
          refine r_get (C := RX8) (T := TX8) (N := 8) (ci := 6) (v := .int (dv 24)) S in_X4_push_X8 G 4 rfl rfl 7 (by decide) lk_X4_push_39 rfl dX4_push_141 ?_
          refine r_iast S G 9 rfl (vp_in_nI (by omega) (by decide)) dX4_push_144 (fun H locs G => ?_)
          obtain ⟨g_19, G⟩ : ∃ g_19 : Nat → Int32, wd X (va_A (rcV X hn an sv dv n0 n1 n2 n3 n4 g0 gs gn gm) sz) (va_A (rcV X hn an sv dv n0 n1 n2 n3 n4 g0 gs gn gm) sz) s (rcV X hn an sv dv n0 n1 n2 n3 n4 g_19 gs gn gm) H locs := ⟨_, G⟩
          refine lv_iinc (v := 3) (lv' := [(4, .int 3), (5, .int (nI (((n1 * 31) + 1) + (2 * 5)))), (3, .int (nI (n1 * 31))), (0, .ref (an 7)), (1, .int x1), (2, .ref (an 0))]) zx zb dX4_push_145 hl (k := 1) rfl (by decide) (by decide) rfl (fun ls hl => ?_)
          refine lv_goto (tgt := 50) zx zb dX4_push_148 (by decide) ?_
          have hl := lv_sub hl (l' := [(4, .int 3), (3, .int (nI (n1 * 31))), (0, .ref (an 7)), (1, .int x1), (2, .ref (an 0))]) [0, 2, 3, 4, 5] rfl
          exact ih50 3 g_19 _ _ _ (by omega) (by omega) G hl
        · refine k_it (v := 3) rfl ?_
          refine r_aald (C := RX8) (b := (an 4)) S G 1 3 rfl rfl (k_vp (by decide)) rfl dX4_push_76 ?_
          refine r_get (C := RX8) (T := TX8) (N := 8) (ci := 6) (v := .int (dv 25)) S in_X4_push_X8 G 5 rfl rfl 3 (by decide) lk_X4_push_25 rfl dX4_push_77 ?_
          refine r_iast S G 9 rfl (vp_in_nI (by omega) (by decide)) dX4_push_80 (fun H locs G => ?_)
          obtain ⟨g_20, G⟩ : ∃ g_20 : Nat → Int32, wd X (va_A (rcV X hn an sv dv n0 n1 n2 n3 n4 g0 gs gn gm) sz) (va_A (rcV X hn an sv dv n0 n1 n2 n3 n4 g0 gs gn gm) sz) s (rcV X hn an sv dv n0 n1 n2 n3 n4 g_20 gs gn gm) H locs := ⟨_, G⟩
          refine lv_aload_n zx zb dX4_push_81 rfl (lv_at hl 3 rfl) ?_
          refine r_get (C := RX4) (T := TX4) (N := 2) (ci := 2) (v := .ref (an 8)) S in_X4_push_X4 G 8 rfl rfl 0 (by decide) lk_X4_push_11 rfl dX4_push_82 ?_
          refine lv_iload zx zb dX4_push_85 (lv_at hl 0 rfl) ?_
          refine lv_iconst (v := 1) zx zb dX4_push_87 (by decide) ?_
          refine r_iadd (v := (nI ((((n1 * 31) + 1) + (3 * 5)) + 1))) S (nI_add (((n1 * 31) + 1) + (3 * 5)) 1) dX4_push_88 ?_
          refine lv_aload_n zx zb dX4_push_89 rfl (lv_at hl 5 rfl) ?_
          refine lv_iload zx zb dX4_push_90 (lv_at hl 1 rfl) ?_
          refine r_aald (C := RX8) (b := (an 4)) S G 1 3 rfl rfl (k_vp (by decide)) rfl dX4_push_92 ?_
          refine r_get (C := RX8) (T := TX8) (N := 8) (ci := 6) (v := .int (dv 26)) S in_X4_push_X8 G 5 rfl rfl 4 (by decide) lk_X4_push_30 rfl dX4_push_93 ?_
          refine r_iast S G 9 rfl (vp_in_nI (by omega) (by decide)) dX4_push_96 (fun H locs G => ?_)
          obtain ⟨g_21, G⟩ : ∃ g_21 : Nat → Int32, wd X (va_A (rcV X hn an sv dv n0 n1 n2 n3 n4 g0 gs gn gm) sz) (va_A (rcV X hn an sv dv n0 n1 n2 n3 n4 g0 gs gn gm) sz) s (rcV X hn an sv dv n0 n1 n2 n3 n4 g_21 gs gn gm) H locs := ⟨_, G⟩
          refine lv_aload_n zx zb dX4_push_97 rfl (lv_at hl 3 rfl) ?_
          refine r_get (C := RX4) (T := TX4) (N := 2) (ci := 2) (v := .ref (an 8)) S in_X4_push_X4 G 8 rfl rfl 0 (by decide) lk_X4_push_11 rfl dX4_push_98 ?_
          refine lv_iload zx zb dX4_push_101 (lv_at hl 0 rfl) ?_
          refine lv_iconst (v := 2) zx zb dX4_push_103 (by decide) ?_
          refine r_iadd (v := (nI ((((n1 * 31) + 1) + (3 * 5)) + 2))) S (nI_add (((n1 * 31) + 1) + (3 * 5)) 2) dX4_push_104 ?_
          refine lv_aload_n zx zb dX4_push_105 rfl (lv_at hl 5 rfl) ?_
          refine lv_iload zx zb dX4_push_106 (lv_at hl 1 rfl) ?_
          refine r_aald (C := RX8) (b := (an 4)) S G 1 3 rfl rfl (k_vp (by decide)) rfl dX4_push_108 ?_
          refine r_get (C := RX8) (T := TX8) (N := 8) (ci := 6) (v := .int (dv 27)) S in_X4_push_X8 G 5 rfl rfl 5 (by decide) lk_X4_push_33 rfl dX4_push_109 ?_
          refine r_iast S G 9 rfl (vp_in_nI (by omega) (by decide)) dX4_push_112 (fun H locs G => ?_)
          obtain ⟨g_22, G⟩ : ∃ g_22 : Nat → Int32, wd X (va_A (rcV X hn an sv dv n0 n1 n2 n3 n4 g0 gs gn gm) sz) (va_A (rcV X hn an sv dv n0 n1 n2 n3 n4 g0 gs gn gm) sz) s (rcV X hn an sv dv n0 n1 n2 n3 n4 g_22 gs gn gm) H locs := ⟨_, G⟩
          refine lv_aload_n zx zb dX4_push_113 rfl (lv_at hl 3 rfl) ?_
          refine r_get (C := RX4) (T := TX4) (N := 2) (ci := 2) (v := .ref (an 8)) S in_X4_push_X4 G 8 rfl rfl 0 (by decide) lk_X4_push_11 rfl dX4_push_114 ?_
          refine lv_iload zx zb dX4_push_117 (lv_at hl 0 rfl) ?_
          refine lv_iconst (v := 3) zx zb dX4_push_119 (by decide) ?_
          refine r_iadd (v := (nI ((((n1 * 31) + 1) + (3 * 5)) + 3))) S (nI_add (((n1 * 31) + 1) + (3 * 5)) 3) dX4_push_120 ?_
          refine lv_aload_n zx zb dX4_push_121 rfl (lv_at hl 5 rfl) ?_
          refine lv_iload zx zb dX4_push_122 (lv_at hl 1 rfl) ?_
          refine r_aald (C := RX8) (b := (an 4)) S G 1 3 rfl rfl (k_vp (by decide)) rfl dX4_push_124 ?_
          refine r_get (C := RX8) (T := TX8) (N := 8) (ci := 6) (v := .int (dv 28)) S in_X4_push_X8 G 5 rfl rfl 6 (by decide) lk_X4_push_36 rfl dX4_push_125 ?_
          refine r_iast S G 9 rfl (vp_in_nI (by omega) (by decide)) dX4_push_128 (fun H locs G => ?_)
          obtain ⟨g_23, G⟩ : ∃ g_23 : Nat → Int32, wd X (va_A (rcV X hn an sv dv n0 n1 n2 n3 n4 g0 gs gn gm) sz) (va_A (rcV X hn an sv dv n0 n1 n2 n3 n4 g0 gs gn gm) sz) s (rcV X hn an sv dv n0 n1 n2 n3 n4 g_23 gs gn gm) H locs := ⟨_, G⟩
          refine lv_aload_n zx zb dX4_push_129 rfl (lv_at hl 3 rfl) ?_
          refine r_get (C := RX4) (T := TX4) (N := 2) (ci := 2) (v := .ref (an 8)) S in_X4_push_X4 G 8 rfl rfl 0 (by decide) lk_X4_push_11 rfl dX4_push_130 ?_
          refine lv_iload zx zb dX4_push_133 (lv_at hl 0 rfl) ?_
          refine lv_iconst (v := 4) zx zb dX4_push_135 (by decide) ?_
          refine r_iadd (v := (nI ((((n1 * 31) + 1) + (3 * 5)) + 4))) S (nI_add (((n1 * 31) + 1) + (3 * 5)) 4) dX4_push_136 ?_
          refine lv_aload_n zx zb dX4_push_137 rfl (lv_at hl 5 rfl) ?_
          refine lv_iload zx zb dX4_push_138 (lv_at hl 1 rfl) ?_
          refine r_aald (C := RX8) (b := (an 4)) S G 1 3 rfl rfl (k_vp (by decide)) rfl dX4_push_140 ?_
          refine r_get (C := RX8) (T := TX8) (N := 8) (ci := 6) (v := .int (dv 29)) S in_X4_push_X8 G 5 rfl rfl 7 (by decide) lk_X4_push_39 rfl dX4_push_141 ?_
          refine r_iast S G 9 rfl (vp_in_nI (by omega) (by decide)) dX4_push_144 (fun H locs G => ?_)
          obtain ⟨g_24, G⟩ : ∃ g_24 : Nat → Int32, wd X (va_A (rcV X hn an sv dv n0 n1 n2 n3 n4 g0 gs gn gm) sz) (va_A (rcV X hn an sv dv n0 n1 n2 n3 n4 g0 gs gn gm) sz) s (rcV X hn an sv dv n0 n1 n2 n3 n4 g_24 gs gn gm) H locs := ⟨_, G⟩
          refine lv_iinc (v := 4) (lv' := [(4, .int 4), (5, .int (nI (((n1 * 31) + 1) + (3 * 5)))), (3, .int (nI (n1 * 31))), (0, .ref (an 7)), (1, .int x1), (2, .ref (an 0))]) zx zb dX4_push_145 hl (k := 1) rfl (by decide) (by decide) rfl (fun ls hl => ?_)
          refine lv_goto (tgt := 50) zx zb dX4_push_148 (by decide) ?_
          have hl := lv_sub hl (l' := [(4, .int 4), (3, .int (nI (n1 * 31))), (0, .ref (an 7)), (1, .int x1), (2, .ref (an 0))]) [0, 2, 3, 4, 5] rfl
          exact ih50 4 g_24 _ _ _ (by omega) (by omega) G hl
        · refine k_it (v := 4) rfl ?_
          refine r_aald (C := RX8) (b := (an 5)) S G 1 3 rfl rfl (k_vp (by decide)) rfl dX4_push_76 ?_
          refine r_get (C := RX8) (T := TX8) (N := 8) (ci := 6) (v := .int (dv 30)) S in_X4_push_X8 G 6 rfl rfl 3 (by decide) lk_X4_push_25 rfl dX4_push_77 ?_
          refine r_iast S G 9 rfl (vp_in_nI (by omega) (by decide)) dX4_push_80 (fun H locs G => ?_)
          obtain ⟨g_25, G⟩ : ∃ g_25 : Nat → Int32, wd X (va_A (rcV X hn an sv dv n0 n1 n2 n3 n4 g0 gs gn gm) sz) (va_A (rcV X hn an sv dv n0 n1 n2 n3 n4 g0 gs gn gm) sz) s (rcV X hn an sv dv n0 n1 n2 n3 n4 g_25 gs gn gm) H locs := ⟨_, G⟩
          refine lv_aload_n zx zb dX4_push_81 rfl (lv_at hl 3 rfl) ?_
          refine r_get (C := RX4) (T := TX4) (N := 2) (ci := 2) (v := .ref (an 8)) S in_X4_push_X4 G 8 rfl rfl 0 (by decide) lk_X4_push_11 rfl dX4_push_82 ?_
          refine lv_iload zx zb dX4_push_85 (lv_at hl 0 rfl) ?_
          refine lv_iconst (v := 1) zx zb dX4_push_87 (by decide) ?_
          refine r_iadd (v := (nI ((((n1 * 31) + 1) + (4 * 5)) + 1))) S (nI_add (((n1 * 31) + 1) + (4 * 5)) 1) dX4_push_88 ?_
          refine lv_aload_n zx zb dX4_push_89 rfl (lv_at hl 5 rfl) ?_
          refine lv_iload zx zb dX4_push_90 (lv_at hl 1 rfl) ?_
          refine r_aald (C := RX8) (b := (an 5)) S G 1 3 rfl rfl (k_vp (by decide)) rfl dX4_push_92 ?_
          refine r_get (C := RX8) (T := TX8) (N := 8) (ci := 6) (v := .int (dv 31)) S in_X4_push_X8 G 6 rfl rfl 4 (by decide) lk_X4_push_30 rfl dX4_push_93 ?_
          refine r_iast S G 9 rfl (vp_in_nI (by omega) (by decide)) dX4_push_96 (fun H locs G => ?_)
          obtain ⟨g_26, G⟩ : ∃ g_26 : Nat → Int32, wd X (va_A (rcV X hn an sv dv n0 n1 n2 n3 n4 g0 gs gn gm) sz) (va_A (rcV X hn an sv dv n0 n1 n2 n3 n4 g0 gs gn gm) sz) s (rcV X hn an sv dv n0 n1 n2 n3 n4 g_26 gs gn gm) H locs := ⟨_, G⟩
          refine lv_aload_n zx zb dX4_push_97 rfl (lv_at hl 3 rfl) ?_
          refine r_get (C := RX4) (T := TX4) (N := 2) (ci := 2) (v := .ref (an 8)) S in_X4_push_X4 G 8 rfl rfl 0 (by decide) lk_X4_push_11 rfl dX4_push_98 ?_
          refine lv_iload zx zb dX4_push_101 (lv_at hl 0 rfl) ?_
          refine lv_iconst (v := 2) zx zb dX4_push_103 (by decide) ?_
          refine r_iadd (v := (nI ((((n1 * 31) + 1) + (4 * 5)) + 2))) S (nI_add (((n1 * 31) + 1) + (4 * 5)) 2) dX4_push_104 ?_
          refine lv_aload_n zx zb dX4_push_105 rfl (lv_at hl 5 rfl) ?_
          refine lv_iload zx zb dX4_push_106 (lv_at hl 1 rfl) ?_
          refine r_aald (C := RX8) (b := (an 5)) S G 1 3 rfl rfl (k_vp (by decide)) rfl dX4_push_108 ?_
          refine r_get (C := RX8) (T := TX8) (N := 8) (ci := 6) (v := .int (dv 32)) S in_X4_push_X8 G 6 rfl rfl 5 (by decide) lk_X4_push_33 rfl dX4_push_109 ?_
          refine r_iast S G 9 rfl (vp_in_nI (by omega) (by decide)) dX4_push_112 (fun H locs G => ?_)
          obtain ⟨g_27, G⟩ : ∃ g_27 : Nat → Int32, wd X (va_A (rcV X hn an sv dv n0 n1 n2 n3 n4 g0 gs gn gm) sz) (va_A (rcV X hn an sv dv n0 n1 n2 n3 n4 g0 gs gn gm) sz) s (rcV X hn an sv dv n0 n1 n2 n3 n4 g_27 gs gn gm) H locs := ⟨_, G⟩
          refine lv_aload_n zx zb dX4_push_113 rfl (lv_at hl 3 rfl) ?_
          refine r_get (C := RX4) (T := TX4) (N := 2) (ci := 2) (v := .ref (an 8)) S in_X4_push_X4 G 8 rfl rfl 0 (by decide) lk_X4_push_11 rfl dX4_push_114 ?_
          refine lv_iload zx zb dX4_push_117 (lv_at hl 0 rfl) ?_
          refine lv_iconst (v := 3) zx zb dX4_push_119 (by decide) ?_
          refine r_iadd (v := (nI ((((n1 * 31) + 1) + (4 * 5)) + 3))) S (nI_add (((n1 * 31) + 1) + (4 * 5)) 3) dX4_push_120 ?_
          refine lv_aload_n zx zb dX4_push_121 rfl (lv_at hl 5 rfl) ?_
          refine lv_iload zx zb dX4_push_122 (lv_at hl 1 rfl) ?_
          refine r_aald (C := RX8) (b := (an 5)) S G 1 3 rfl rfl (k_vp (by decide)) rfl dX4_push_124 ?_
          refine r_get (C := RX8) (T := TX8) (N := 8) (ci := 6) (v := .int (dv 33)) S in_X4_push_X8 G 6 rfl rfl 6 (by decide) lk_X4_push_36 rfl dX4_push_125 ?_
          refine r_iast S G 9 rfl (vp_in_nI (by omega) (by decide)) dX4_push_128 (fun H locs G => ?_)
          obtain ⟨g_28, G⟩ : ∃ g_28 : Nat → Int32, wd X (va_A (rcV X hn an sv dv n0 n1 n2 n3 n4 g0 gs gn gm) sz) (va_A (rcV X hn an sv dv n0 n1 n2 n3 n4 g0 gs gn gm) sz) s (rcV X hn an sv dv n0 n1 n2 n3 n4 g_28 gs gn gm) H locs := ⟨_, G⟩
          refine lv_aload_n zx zb dX4_push_129 rfl (lv_at hl 3 rfl) ?_
          refine r_get (C := RX4) (T := TX4) (N := 2) (ci := 2) (v := .ref (an 8)) S in_X4_push_X4 G 8 rfl rfl 0 (by decide) lk_X4_push_11 rfl dX4_push_130 ?_
          refine lv_iload zx zb dX4_push_133 (lv_at hl 0 rfl) ?_
          refine lv_iconst (v := 4) zx zb dX4_push_135 (by decide) ?_
          refine r_iadd (v := (nI ((((n1 * 31) + 1) + (4 * 5)) + 4))) S (nI_add (((n1 * 31) + 1) + (4 * 5)) 4) dX4_push_136 ?_
          refine lv_aload_n zx zb dX4_push_137 rfl (lv_at hl 5 rfl) ?_
          refine lv_iload zx zb dX4_push_138 (lv_at hl 1 rfl) ?_
          refine r_aald (C := RX8) (b := (an 5)) S G 1 3 rfl rfl (k_vp (by decide)) rfl dX4_push_140 ?_
          refine r_get (C := RX8) (T := TX8) (N := 8) (ci := 6) (v := .int (dv 34)) S in_X4_push_X8 G 6 rfl rfl 7 (by decide) lk_X4_push_39 rfl dX4_push_141 ?_
          refine r_iast S G 9 rfl (vp_in_nI (by omega) (by decide)) dX4_push_144 (fun H locs G => ?_)
          obtain ⟨g_29, G⟩ : ∃ g_29 : Nat → Int32, wd X (va_A (rcV X hn an sv dv n0 n1 n2 n3 n4 g0 gs gn gm) sz) (va_A (rcV X hn an sv dv n0 n1 n2 n3 n4 g0 gs gn gm) sz) s (rcV X hn an sv dv n0 n1 n2 n3 n4 g_29 gs gn gm) H locs := ⟨_, G⟩
          refine lv_iinc (v := 5) (lv' := [(4, .int 5), (5, .int (nI (((n1 * 31) + 1) + (4 * 5)))), (3, .int (nI (n1 * 31))), (0, .ref (an 7)), (1, .int x1), (2, .ref (an 0))]) zx zb dX4_push_145 hl (k := 1) rfl (by decide) (by decide) rfl (fun ls hl => ?_)
          refine lv_goto (tgt := 50) zx zb dX4_push_148 (by decide) ?_
          have hl := lv_sub hl (l' := [(4, .int 5), (3, .int (nI (n1 * 31))), (0, .ref (an 7)), (1, .int x1), (2, .ref (an 0))]) [0, 2, 3, 4, 5] rfl
          exact ih50 5 g_29 _ _ _ (by omega) (by omega) G hl
        · refine k_it (v := 5) rfl ?_
          refine r_aald (C := RX8) (b := (an 6)) S G 1 3 rfl rfl (k_vp (by decide)) rfl dX4_push_76 ?_
          refine r_get (C := RX8) (T := TX8) (N := 8) (ci := 6) (v := .int (dv 35)) S in_X4_push_X8 G 7 rfl rfl 3 (by decide) lk_X4_push_25 rfl dX4_push_77 ?_
          refine r_iast S G 9 rfl (vp_in_nI (by omega) (by decide)) dX4_push_80 (fun H locs G => ?_)
          obtain ⟨g_30, G⟩ : ∃ g_30 : Nat → Int32, wd X (va_A (rcV X hn an sv dv n0 n1 n2 n3 n4 g0 gs gn gm) sz) (va_A (rcV X hn an sv dv n0 n1 n2 n3 n4 g0 gs gn gm) sz) s (rcV X hn an sv dv n0 n1 n2 n3 n4 g_30 gs gn gm) H locs := ⟨_, G⟩
          refine lv_aload_n zx zb dX4_push_81 rfl (lv_at hl 3 rfl) ?_
          refine r_get (C := RX4) (T := TX4) (N := 2) (ci := 2) (v := .ref (an 8)) S in_X4_push_X4 G 8 rfl rfl 0 (by decide) lk_X4_push_11 rfl dX4_push_82 ?_
          refine lv_iload zx zb dX4_push_85 (lv_at hl 0 rfl) ?_
          refine lv_iconst (v := 1) zx zb dX4_push_87 (by decide) ?_
          refine r_iadd (v := (nI ((((n1 * 31) + 1) + (5 * 5)) + 1))) S (nI_add (((n1 * 31) + 1) + (5 * 5)) 1) dX4_push_88 ?_
          refine lv_aload_n zx zb dX4_push_89 rfl (lv_at hl 5 rfl) ?_
          refine lv_iload zx zb dX4_push_90 (lv_at hl 1 rfl) ?_
          refine r_aald (C := RX8) (b := (an 6)) S G 1 3 rfl rfl (k_vp (by decide)) rfl dX4_push_92 ?_
          refine r_get (C := RX8) (T := TX8) (N := 8) (ci := 6) (v := .int (dv 36)) S in_X4_push_X8 G 7 rfl rfl 4 (by decide) lk_X4_push_30 rfl dX4_push_93 ?_
          refine r_iast S G 9 rfl (vp_in_nI (by omega) (by decide)) dX4_push_96 (fun H locs G => ?_)
          obtain ⟨g_31, G⟩ : ∃ g_31 : Nat → Int32, wd X (va_A (rcV X hn an sv dv n0 n1 n2 n3 n4 g0 gs gn gm) sz) (va_A (rcV X hn an sv dv n0 n1 n2 n3 n4 g0 gs gn gm) sz) s (rcV X hn an sv dv n0 n1 n2 n3 n4 g_31 gs gn gm) H locs := ⟨_, G⟩
          refine lv_aload_n zx zb dX4_push_97 rfl (lv_at hl 3 rfl) ?_
          refine r_get (C := RX4) (T := TX4) (N := 2) (ci := 2) (v := .ref (an 8)) S in_X4_push_X4 G 8 rfl rfl 0 (by decide) lk_X4_push_11 rfl dX4_push_98 ?_
          refine lv_iload zx zb dX4_push_101 (lv_at hl 0 rfl) ?_
          refine lv_iconst (v := 2) zx zb dX4_push_103 (by decide) ?_
          refine r_iadd (v := (nI ((((n1 * 31) + 1) + (5 * 5)) + 2))) S (nI_add (((n1 * 31) + 1) + (5 * 5)) 2) dX4_push_104 ?_
          refine lv_aload_n zx zb dX4_push_105 rfl (lv_at hl 5 rfl) ?_
          refine lv_iload zx zb dX4_push_106 (lv_at hl 1 rfl) ?_
          refine r_aald (C := RX8) (b := (an 6)) S G 1 3 rfl rfl (k_vp (by decide)) rfl dX4_push_108 ?_
          refine r_get (C := RX8) (T := TX8) (N := 8) (ci := 6) (v := .int (dv 37)) S in_X4_push_X8 G 7 rfl rfl 5 (by decide) lk_X4_push_33 rfl dX4_push_109 ?_
          refine r_iast S G 9 rfl (vp_in_nI (by omega) (by decide)) dX4_push_112 (fun H locs G => ?_)
          obtain ⟨g_32, G⟩ : ∃ g_32 : Nat → Int32, wd X (va_A (rcV X hn an sv dv n0 n1 n2 n3 n4 g0 gs gn gm) sz) (va_A (rcV X hn an sv dv n0 n1 n2 n3 n4 g0 gs gn gm) sz) s (rcV X hn an sv dv n0 n1 n2 n3 n4 g_32 gs gn gm) H locs := ⟨_, G⟩
          refine lv_aload_n zx zb dX4_push_113 rfl (lv_at hl 3 rfl) ?_
          refine r_get (C := RX4) (T := TX4) (N := 2) (ci := 2) (v := .ref (an 8)) S in_X4_push_X4 G 8 rfl rfl 0 (by decide) lk_X4_push_11 rfl dX4_push_114 ?_
          refine lv_iload zx zb dX4_push_117 (lv_at hl 0 rfl) ?_
          refine lv_iconst (v := 3) zx zb dX4_push_119 (by decide) ?_
          refine r_iadd (v := (nI ((((n1 * 31) + 1) + (5 * 5)) + 3))) S (nI_add (((n1 * 31) + 1) + (5 * 5)) 3) dX4_push_120 ?_
          refine lv_aload_n zx zb dX4_push_121 rfl (lv_at hl 5 rfl) ?_
          refine lv_iload zx zb dX4_push_122 (lv_at hl 1 rfl) ?_
          refine r_aald (C := RX8) (b := (an 6)) S G 1 3 rfl rfl (k_vp (by decide)) rfl dX4_push_124 ?_
          refine r_get (C := RX8) (T := TX8) (N := 8) (ci := 6) (v := .int (dv 38)) S in_X4_push_X8 G 7 rfl rfl 6 (by decide) lk_X4_push_36 rfl dX4_push_125 ?_
          refine r_iast S G 9 rfl (vp_in_nI (by omega) (by decide)) dX4_push_128 (fun H locs G => ?_)
          obtain ⟨g_33, G⟩ : ∃ g_33 : Nat → Int32, wd X (va_A (rcV X hn an sv dv n0 n1 n2 n3 n4 g0 gs gn gm) sz) (va_A (rcV X hn an sv dv n0 n1 n2 n3 n4 g0 gs gn gm) sz) s (rcV X hn an sv dv n0 n1 n2 n3 n4 g_33 gs gn gm) H locs := ⟨_, G⟩
          refine lv_aload_n zx zb dX4_push_129 rfl (lv_at hl 3 rfl) ?_
          refine r_get (C := RX4) (T := TX4) (N := 2) (ci := 2) (v := .ref (an 8)) S in_X4_push_X4 G 8 rfl rfl 0 (by decide) lk_X4_push_11 rfl dX4_push_130 ?_
          refine lv_iload zx zb dX4_push_133 (lv_at hl 0 rfl) ?_
          refine lv_iconst (v := 4) zx zb dX4_push_135 (by decide) ?_
          refine r_iadd (v := (nI ((((n1 * 31) + 1) + (5 * 5)) + 4))) S (nI_add (((n1 * 31) + 1) + (5 * 5)) 4) dX4_push_136 ?_
          refine lv_aload_n zx zb dX4_push_137 rfl (lv_at hl 5 rfl) ?_
          refine lv_iload zx zb dX4_push_138 (lv_at hl 1 rfl) ?_
          refine r_aald (C := RX8) (b := (an 6)) S G 1 3 rfl rfl (k_vp (by decide)) rfl dX4_push_140 ?_
          refine r_get (C := RX8) (T := TX8) (N := 8) (ci := 6) (v := .int (dv 39)) S in_X4_push_X8 G 7 rfl rfl 7 (by decide) lk_X4_push_39 rfl dX4_push_141 ?_
          refine r_iast S G 9 rfl (vp_in_nI (by omega) (by decide)) dX4_push_144 (fun H locs G => ?_)
          obtain ⟨g_34, G⟩ : ∃ g_34 : Nat → Int32, wd X (va_A (rcV X hn an sv dv n0 n1 n2 n3 n4 g0 gs gn gm) sz) (va_A (rcV X hn an sv dv n0 n1 n2 n3 n4 g0 gs gn gm) sz) s (rcV X hn an sv dv n0 n1 n2 n3 n4 g_34 gs gn gm) H locs := ⟨_, G⟩
          refine lv_iinc (v := 6) (lv' := [(4, .int 6), (5, .int (nI (((n1 * 31) + 1) + (5 * 5)))), (3, .int (nI (n1 * 31))), (0, .ref (an 7)), (1, .int x1), (2, .ref (an 0))]) zx zb dX4_push_145 hl (k := 1) rfl (by decide) (by decide) rfl (fun ls hl => ?_)
          refine lv_goto (tgt := 50) zx zb dX4_push_148 (by decide) ?_
          have hl := lv_sub hl (l' := [(4, .int 6), (3, .int (nI (n1 * 31))), (0, .ref (an 7)), (1, .int x1), (2, .ref (an 0))]) [0, 2, 3, 4, 5] rfl
          exact ih50 6 g_34 _ _ _ (by omega) (by omega) G hl
  · have fc_1 := j_nlt (a := n1) (b := 8) (by omega) (by omega) c_1
    refine lv_aload_n zx zb dX4_push_9 rfl (lv_at hl 0 rfl) ?_
    refine r_get (C := RX4) (T := TX4) (N := 2) (ci := 2) (v := .ref (an 8)) S in_X4_push_X4 G 8 rfl rfl 0 (by decide) lk_X4_push_11 rfl dX4_push_10 ?_
    refine lv_bipush (v := 31) zx zb dX4_push_13 (by decide) ?_
    refine lv_aload_n zx zb dX4_push_15 rfl (lv_at hl 0 rfl) ?_
    refine r_get (C := RX4) (T := TX4) (N := 2) (ci := 2) (v := .ref (an 8)) S in_X4_push_X4 G 8 rfl rfl 0 (by decide) lk_X4_push_11 rfl dX4_push_16 ?_
    refine lv_iconst (v := 0) zx zb dX4_push_19 (by decide) ?_
    refine lv_sipush (v := 217) zx zb dX4_push_20 (by decide) ?_
    refine r_copyN (sp := 31) (dp := 0) (n := 217) S hl.1 G mm_X4_push_ml19 mm_X4_push_cn mm_X4_push_cs mm_X4_push_ci 9 9 rfl rfl (by omega) (by omega) (by omega) (by omega) (by omega) (Nat.le_of_ble_eq_true rfl) (Nat.le_of_ble_eq_true rfl) dX4_push_23 (fun cw H locs G => ?_)
    obtain ⟨g_35, G⟩ : ∃ g_35 : Nat → Int32, wd X (va_A (rcV X hn an sv dv n0 n1 n2 n3 n4 g0 gs gn gm) sz) (va_A (rcV X hn an sv dv n0 n1 n2 n3 n4 g0 gs gn gm) sz) s (rcV X hn an sv dv n0 n1 n2 n3 n4 g_35 gs gn gm) H locs := ⟨_, G⟩
    refine lv_aload_n zx zb dX4_push_26 rfl (lv_at hl 0 rfl) ?_
    refine lv_bipush (v := 7) zx zb dX4_push_27 (by decide) ?_
    refine r_put (C := RX4) (T := TX4) (N := 2) (ci := 2) (v := .int 7) S in_X4_push_X4 tyX4_ok nmX4 G 8 rfl rfl 1 (by decide) lk_X4_push_15 rfl (vp_nar_int _) rfl (Nat.le_of_ble_eq_true rfl) dX4_push_29 (fun H locs G => ?_)
    obtain ⟨n_36, hI_n_36, hE_n_36, G⟩ : ∃ n_36 : Nat, n_36 ≤ 8 ∧ n_36 = 7 ∧ wd X (va_A (rcV X hn an sv dv n0 n1 n2 n3 n4 g0 gs gn gm) sz) (va_A (rcV X hn an sv dv n0 n1 n2 n3 n4 g0 gs gn gm) sz) s (rcV X hn an sv dv n0 n_36 n2 n3 n4 g_35 gs gn gm) H locs := ⟨7, by omega, rfl, G⟩
    refine lv_aload_n zx zb dX4_push_32 rfl (lv_at hl 0 rfl) ?_
    refine r_get (C := RX4) (T := TX4) (N := 2) (ci := 2) (v := .int (nI n_36)) S in_X4_push_X4 G 8 rfl rfl 1 (by decide) lk_X4_push_15 rfl dX4_push_33 ?_
    refine lv_bipush (v := 31) zx zb dX4_push_36 (by decide) ?_
    refine r_imul (v := (nI (n_36 * 31))) S (pk_mul n_36 31) dX4_push_38 ?_
    refine lv_istore_n (lv' := [(3, .int (nI (n_36 * 31))), (0, .ref (an 7)), (1, .int x1), (2, .ref (an 0))]) zx zb dX4_push_39 rfl hl (by decide) rfl (fun ls hl => ?_)
    refine lv_aload_n zx zb dX4_push_40 rfl (lv_at hl 1 rfl) ?_
    refine r_get (C := RX4) (T := TX4) (N := 2) (ci := 2) (v := .ref (an 8)) S in_X4_push_X4 G 8 rfl rfl 0 (by decide) lk_X4_push_11 rfl dX4_push_41 ?_
    refine lv_iload_n zx zb dX4_push_44 rfl (lv_at hl 0 rfl) ?_
    refine lv_iload_n zx zb dX4_push_45 rfl (lv_at hl 2 rfl) ?_
    refine r_iast S G 9 rfl (vp_in_nI (by omega) (by decide)) dX4_push_46 (fun H locs G => ?_)
    obtain ⟨g_37, G⟩ : ∃ g_37 : Nat → Int32, wd X (va_A (rcV X hn an sv dv n0 n1 n2 n3 n4 g0 gs gn gm) sz) (va_A (rcV X hn an sv dv n0 n1 n2 n3 n4 g0 gs gn gm) sz) s (rcV X hn an sv dv n0 n_36 n2 n3 n4 g_37 gs gn gm) H locs := ⟨_, G⟩
    refine lv_iconst (v := 0) zx zb dX4_push_47 (by decide) ?_
    refine lv_istore (lv' := [(4, .int 0), (3, .int (nI (n_36 * 31))), (0, .ref (an 7)), (1, .int x1), (2, .ref (an 0))]) zx zb dX4_push_48 hl (by decide) rfl (fun ls hl => ?_)
    refine k_loop (P := ∀ (zm : Nat) (k50 : Nat) (g050_0 : Nat → Int32) (H : Heap) (locs : List Loc) (ls : Array Slot), 6 + 1 ≤ k50 + zm → (k50 ≤ 6) → wd X (va_A (rcV X hn an sv dv n0 n1 n2 n3 n4 g0 gs gn gm) sz) (va_A (rcV X hn an sv dv n0 n1 n2 n3 n4 g0 gs gn gm) sz) s (rcV X hn an sv dv n0 n_36 n2 n3 n4 g050_0 gs gn gm) H locs → lv_has ls 6 [(4, .int (nI k50)), (3, .int (nI (n_36 * 31))), (0, .ref (an 7)), (1, .int x1), (2, .ref (an 0))] → W p l e _ s m _ below meth c H locs _ _ _ (F0 m 50 ls [])) (fun loop => loop (6 + 1) 0 g_37 _ _ _ (by omega) (by omega) G hl) ?_
    intro zm
    induction zm with
    | zero => intro k50 g050_0 H locs ls zz q_hk_k50 _ _; exact absurd zz (by omega)
    | succ zm ih50 =>
      intro k50 g050_0 H locs ls zm_50 hk_k50 G hl
      refine lv_iload zx zb dX4_push_50 (lv_at hl 0 rfl) ?_
      refine lv_bipush (v := 6) zx zb dX4_push_52 (by decide) ?_
      refine lv_icmp_ge (tgt := 151) zx zb dX4_push_54 (by decide) (fun c_38 => ?_) (fun c_38 => ?_)
      · have fc_38 := j_le (a := 6) (b := k50) (by omega) (by omega) c_38
        refine lv_aload_n zx zb dX4_push_151 rfl (lv_at hl 2 rfl) ?_
        refine lv_dup zx zb dX4_push_152 rfl ?_
        refine r_get (C := RX4) (T := TX4) (N := 2) (ci := 2) (v := .int (nI n_36)) S in_X4_push_X4 G 8 rfl rfl 1 (by decide) lk_X4_push_15 rfl dX4_push_153 ?_
        refine lv_iconst (v := 1) zx zb dX4_push_156 (by decide) ?_
        refine r_iadd (v := (nI (n_36 + 1))) S (nI_add n_36 1) dX4_push_157 ?_
        refine r_put (C := RX4) (T := TX4) (N := 2) (ci := 2) (v := .int (nI (n_36 + 1))) S in_X4_push_X4 tyX4_ok nmX4 G 8 rfl rfl 1 (by decide) lk_X4_push_15 rfl (vp_nar_int _) rfl (Nat.le_of_ble_eq_true rfl) dX4_push_158 (fun H locs G => ?_)
        obtain ⟨n_39, hI_n_39, hE_n_39, G⟩ : ∃ n_39 : Nat, n_39 ≤ 8 ∧ n_39 = (n_36 + 1) ∧ wd X (va_A (rcV X hn an sv dv n0 n1 n2 n3 n4 g0 gs gn gm) sz) (va_A (rcV X hn an sv dv n0 n1 n2 n3 n4 g0 gs gn gm) sz) s (rcV X hn an sv dv n0 n_39 n2 n3 n4 g050_0 gs gn gm) H locs := ⟨(n_36 + 1), by omega, rfl, G⟩
        exact e_void S zr zlk G (n_39, g050_0) [0, 1, 2, 3, 4, 5, 6, 7, 8, 9, 10, 11, 12, 13, 14, 15] rfl rfl (Or.inr rfl) (⟨hI_n_39, trivial⟩) dX4_push_161
      · have fc_38 := j_nle (a := 6) (b := k50) (by omega) (by omega) c_38
        refine lv_iload_n zx zb dX4_push_57 rfl (lv_at hl 1 rfl) ?_
        refine lv_iconst (v := 1) zx zb dX4_push_58 (by decide) ?_
        refine r_iadd (v := (nI ((n_36 * 31) + 1))) S (nI_add (n_36 * 31) 1) dX4_push_59 ?_
        refine lv_iload zx zb dX4_push_60 (lv_at hl 0 rfl) ?_
        refine lv_iconst (v := 5) zx zb dX4_push_62 (by decide) ?_
        refine r_imul (v := (nI (k50 * 5))) S (pk_mul k50 5) dX4_push_63 ?_
        refine r_iadd (v := (nI (((n_36 * 31) + 1) + (k50 * 5)))) S (nI_add ((n_36 * 31) + 1) (k50 * 5)) dX4_push_64 ?_
        refine lv_istore (lv' := [(5, .int (nI (((n_36 * 31) + 1) + (k50 * 5)))), (4, .int (nI k50)), (3, .int (nI (n_36 * 31))), (0, .ref (an 7)), (1, .int x1), (2, .ref (an 0))]) zx zb dX4_push_65 hl (by decide) rfl (fun ls hl => ?_)
        refine lv_aload_n zx zb dX4_push_67 rfl (lv_at hl 3 rfl) ?_
        refine r_get (C := RX4) (T := TX4) (N := 2) (ci := 2) (v := .ref (an 8)) S in_X4_push_X4 G 8 rfl rfl 0 (by decide) lk_X4_push_11 rfl dX4_push_68 ?_
        refine lv_iload zx zb dX4_push_71 (lv_at hl 0 rfl) ?_
        refine lv_aload_n zx zb dX4_push_73 rfl (lv_at hl 5 rfl) ?_
        refine lv_iload zx zb dX4_push_74 (lv_at hl 1 rfl) ?_
        rcases k_6c (show k50 < 6 by omega) with rfl | rfl | rfl | rfl | rfl | rfl
        · refine k_it (v := 0) rfl ?_
          refine r_aald (C := RX8) (b := (an 1)) S G 1 3 rfl rfl (k_vp (by decide)) rfl dX4_push_76 ?_
          refine r_get (C := RX8) (T := TX8) (N := 8) (ci := 6) (v := .int (dv 10)) S in_X4_push_X8 G 2 rfl rfl 3 (by decide) lk_X4_push_25 rfl dX4_push_77 ?_
          refine r_iast S G 9 rfl (vp_in_nI (by omega) (by decide)) dX4_push_80 (fun H locs G => ?_)
          obtain ⟨g_40, G⟩ : ∃ g_40 : Nat → Int32, wd X (va_A (rcV X hn an sv dv n0 n1 n2 n3 n4 g0 gs gn gm) sz) (va_A (rcV X hn an sv dv n0 n1 n2 n3 n4 g0 gs gn gm) sz) s (rcV X hn an sv dv n0 n_36 n2 n3 n4 g_40 gs gn gm) H locs := ⟨_, G⟩
          refine lv_aload_n zx zb dX4_push_81 rfl (lv_at hl 3 rfl) ?_
          refine r_get (C := RX4) (T := TX4) (N := 2) (ci := 2) (v := .ref (an 8)) S in_X4_push_X4 G 8 rfl rfl 0 (by decide) lk_X4_push_11 rfl dX4_push_82 ?_
          refine lv_iload zx zb dX4_push_85 (lv_at hl 0 rfl) ?_
          refine lv_iconst (v := 1) zx zb dX4_push_87 (by decide) ?_
          refine r_iadd (v := (nI ((((n_36 * 31) + 1) + (0 * 5)) + 1))) S (nI_add (((n_36 * 31) + 1) + (0 * 5)) 1) dX4_push_88 ?_
          refine lv_aload_n zx zb dX4_push_89 rfl (lv_at hl 5 rfl) ?_
          refine lv_iload zx zb dX4_push_90 (lv_at hl 1 rfl) ?_
          refine r_aald (C := RX8) (b := (an 1)) S G 1 3 rfl rfl (k_vp (by decide)) rfl dX4_push_92 ?_
          refine r_get (C := RX8) (T := TX8) (N := 8) (ci := 6) (v := .int (dv 11)) S in_X4_push_X8 G 2 rfl rfl 4 (by decide) lk_X4_push_30 rfl dX4_push_93 ?_
          refine r_iast S G 9 rfl (vp_in_nI (by omega) (by decide)) dX4_push_96 (fun H locs G => ?_)
          obtain ⟨g_41, G⟩ : ∃ g_41 : Nat → Int32, wd X (va_A (rcV X hn an sv dv n0 n1 n2 n3 n4 g0 gs gn gm) sz) (va_A (rcV X hn an sv dv n0 n1 n2 n3 n4 g0 gs gn gm) sz) s (rcV X hn an sv dv n0 n_36 n2 n3 n4 g_41 gs gn gm) H locs := ⟨_, G⟩
          refine lv_aload_n zx zb dX4_push_97 rfl (lv_at hl 3 rfl) ?_
          refine r_get (C := RX4) (T := TX4) (N := 2) (ci := 2) (v := .ref (an 8)) S in_X4_push_X4 G 8 rfl rfl 0 (by decide) lk_X4_push_11 rfl dX4_push_98 ?_
          refine lv_iload zx zb dX4_push_101 (lv_at hl 0 rfl) ?_
          refine lv_iconst (v := 2) zx zb dX4_push_103 (by decide) ?_
          refine r_iadd (v := (nI ((((n_36 * 31) + 1) + (0 * 5)) + 2))) S (nI_add (((n_36 * 31) + 1) + (0 * 5)) 2) dX4_push_104 ?_
          refine lv_aload_n zx zb dX4_push_105 rfl (lv_at hl 5 rfl) ?_
          refine lv_iload zx zb dX4_push_106 (lv_at hl 1 rfl) ?_
          refine r_aald (C := RX8) (b := (an 1)) S G 1 3 rfl rfl (k_vp (by decide)) rfl dX4_push_108 ?_
          refine r_get (C := RX8) (T := TX8) (N := 8) (ci := 6) (v := .int (dv 12)) S in_X4_push_X8 G 2 rfl rfl 5 (by decide) lk_X4_push_33 rfl dX4_push_109 ?_
          refine r_iast S G 9 rfl (vp_in_nI (by omega) (by decide)) dX4_push_112 (fun H locs G => ?_)
          obtain ⟨g_42, G⟩ : ∃ g_42 : Nat → Int32, wd X (va_A (rcV X hn an sv dv n0 n1 n2 n3 n4 g0 gs gn gm) sz) (va_A (rcV X hn an sv dv n0 n1 n2 n3 n4 g0 gs gn gm) sz) s (rcV X hn an sv dv n0 n_36 n2 n3 n4 g_42 gs gn gm) H locs := ⟨_, G⟩
          refine lv_aload_n zx zb dX4_push_113 rfl (lv_at hl 3 rfl) ?_
          refine r_get (C := RX4) (T := TX4) (N := 2) (ci := 2) (v := .ref (an 8)) S in_X4_push_X4 G 8 rfl rfl 0 (by decide) lk_X4_push_11 rfl dX4_push_114 ?_
          refine lv_iload zx zb dX4_push_117 (lv_at hl 0 rfl) ?_
          refine lv_iconst (v := 3) zx zb dX4_push_119 (by decide) ?_
          refine r_iadd (v := (nI ((((n_36 * 31) + 1) + (0 * 5)) + 3))) S (nI_add (((n_36 * 31) + 1) + (0 * 5)) 3) dX4_push_120 ?_
          refine lv_aload_n zx zb dX4_push_121 rfl (lv_at hl 5 rfl) ?_
          refine lv_iload zx zb dX4_push_122 (lv_at hl 1 rfl) ?_
          refine r_aald (C := RX8) (b := (an 1)) S G 1 3 rfl rfl (k_vp (by decide)) rfl dX4_push_124 ?_
          refine r_get (C := RX8) (T := TX8) (N := 8) (ci := 6) (v := .int (dv 13)) S in_X4_push_X8 G 2 rfl rfl 6 (by decide) lk_X4_push_36 rfl dX4_push_125 ?_
          refine r_iast S G 9 rfl (vp_in_nI (by omega) (by decide)) dX4_push_128 (fun H locs G => ?_)
          obtain ⟨g_43, G⟩ : ∃ g_43 : Nat → Int32, wd X (va_A (rcV X hn an sv dv n0 n1 n2 n3 n4 g0 gs gn gm) sz) (va_A (rcV X hn an sv dv n0 n1 n2 n3 n4 g0 gs gn gm) sz) s (rcV X hn an sv dv n0 n_36 n2 n3 n4 g_43 gs gn gm) H locs := ⟨_, G⟩
          refine lv_aload_n zx zb dX4_push_129 rfl (lv_at hl 3 rfl) ?_
          refine r_get (C := RX4) (T := TX4) (N := 2) (ci := 2) (v := .ref (an 8)) S in_X4_push_X4 G 8 rfl rfl 0 (by decide) lk_X4_push_11 rfl dX4_push_130 ?_
          refine lv_iload zx zb dX4_push_133 (lv_at hl 0 rfl) ?_
          refine lv_iconst (v := 4) zx zb dX4_push_135 (by decide) ?_
          refine r_iadd (v := (nI ((((n_36 * 31) + 1) + (0 * 5)) + 4))) S (nI_add (((n_36 * 31) + 1) + (0 * 5)) 4) dX4_push_136 ?_
          refine lv_aload_n zx zb dX4_push_137 rfl (lv_at hl 5 rfl) ?_
          refine lv_iload zx zb dX4_push_138 (lv_at hl 1 rfl) ?_
          refine r_aald (C := RX8) (b := (an 1)) S G 1 3 rfl rfl (k_vp (by decide)) rfl dX4_push_140 ?_
          refine r_get (C := RX8) (T := TX8) (N := 8) (ci := 6) (v := .int (dv 14)) S in_X4_push_X8 G 2 rfl rfl 7 (by decide) lk_X4_push_39 rfl dX4_push_141 ?_
          refine r_iast S G 9 rfl (vp_in_nI (by omega) (by decide)) dX4_push_144 (fun H locs G => ?_)
          obtain ⟨g_44, G⟩ : ∃ g_44 : Nat → Int32, wd X (va_A (rcV X hn an sv dv n0 n1 n2 n3 n4 g0 gs gn gm) sz) (va_A (rcV X hn an sv dv n0 n1 n2 n3 n4 g0 gs gn gm) sz) s (rcV X hn an sv dv n0 n_36 n2 n3 n4 g_44 gs gn gm) H locs := ⟨_, G⟩
          refine lv_iinc (v := 1) (lv' := [(4, .int 1), (5, .int (nI (((n_36 * 31) + 1) + (0 * 5)))), (3, .int (nI (n_36 * 31))), (0, .ref (an 7)), (1, .int x1), (2, .ref (an 0))]) zx zb dX4_push_145 hl (k := 1) rfl (by decide) (by decide) rfl (fun ls hl => ?_)
          refine lv_goto (tgt := 50) zx zb dX4_push_148 (by decide) ?_
          have hl := lv_sub hl (l' := [(4, .int 1), (3, .int (nI (n_36 * 31))), (0, .ref (an 7)), (1, .int x1), (2, .ref (an 0))]) [0, 2, 3, 4, 5] rfl
          exact ih50 1 g_44 _ _ _ (by omega) (by omega) G hl
        · refine k_it (v := 1) rfl ?_
          refine r_aald (C := RX8) (b := (an 2)) S G 1 3 rfl rfl (k_vp (by decide)) rfl dX4_push_76 ?_
          refine r_get (C := RX8) (T := TX8) (N := 8) (ci := 6) (v := .int (dv 15)) S in_X4_push_X8 G 3 rfl rfl 3 (by decide) lk_X4_push_25 rfl dX4_push_77 ?_
          refine r_iast S G 9 rfl (vp_in_nI (by omega) (by decide)) dX4_push_80 (fun H locs G => ?_)
          obtain ⟨g_45, G⟩ : ∃ g_45 : Nat → Int32, wd X (va_A (rcV X hn an sv dv n0 n1 n2 n3 n4 g0 gs gn gm) sz) (va_A (rcV X hn an sv dv n0 n1 n2 n3 n4 g0 gs gn gm) sz) s (rcV X hn an sv dv n0 n_36 n2 n3 n4 g_45 gs gn gm) H locs := ⟨_, G⟩
          refine lv_aload_n zx zb dX4_push_81 rfl (lv_at hl 3 rfl) ?_
          refine r_get (C := RX4) (T := TX4) (N := 2) (ci := 2) (v := .ref (an 8)) S in_X4_push_X4 G 8 rfl rfl 0 (by decide) lk_X4_push_11 rfl dX4_push_82 ?_
          refine lv_iload zx zb dX4_push_85 (lv_at hl 0 rfl) ?_
          refine lv_iconst (v := 1) zx zb dX4_push_87 (by decide) ?_
          refine r_iadd (v := (nI ((((n_36 * 31) + 1) + (1 * 5)) + 1))) S (nI_add (((n_36 * 31) + 1) + (1 * 5)) 1) dX4_push_88 ?_
          refine lv_aload_n zx zb dX4_push_89 rfl (lv_at hl 5 rfl) ?_
          refine lv_iload zx zb dX4_push_90 (lv_at hl 1 rfl) ?_
          refine r_aald (C := RX8) (b := (an 2)) S G 1 3 rfl rfl (k_vp (by decide)) rfl dX4_push_92 ?_
          refine r_get (C := RX8) (T := TX8) (N := 8) (ci := 6) (v := .int (dv 16)) S in_X4_push_X8 G 3 rfl rfl 4 (by decide) lk_X4_push_30 rfl dX4_push_93 ?_
          refine r_iast S G 9 rfl (vp_in_nI (by omega) (by decide)) dX4_push_96 (fun H locs G => ?_)
          obtain ⟨g_46, G⟩ : ∃ g_46 : Nat → Int32, wd X (va_A (rcV X hn an sv dv n0 n1 n2 n3 n4 g0 gs gn gm) sz) (va_A (rcV X hn an sv dv n0 n1 n2 n3 n4 g0 gs gn gm) sz) s (rcV X hn an sv dv n0 n_36 n2 n3 n4 g_46 gs gn gm) H locs := ⟨_, G⟩
          refine lv_aload_n zx zb dX4_push_97 rfl (lv_at hl 3 rfl) ?_
          refine r_get (C := RX4) (T := TX4) (N := 2) (ci := 2) (v := .ref (an 8)) S in_X4_push_X4 G 8 rfl rfl 0 (by decide) lk_X4_push_11 rfl dX4_push_98 ?_
          refine lv_iload zx zb dX4_push_101 (lv_at hl 0 rfl) ?_
          refine lv_iconst (v := 2) zx zb dX4_push_103 (by decide) ?_
          refine r_iadd (v := (nI ((((n_36 * 31) + 1) + (1 * 5)) + 2))) S (nI_add (((n_36 * 31) + 1) + (1 * 5)) 2) dX4_push_104 ?_
          refine lv_aload_n zx zb dX4_push_105 rfl (lv_at hl 5 rfl) ?_
          refine lv_iload zx zb dX4_push_106 (lv_at hl 1 rfl) ?_
          refine r_aald (C := RX8) (b := (an 2)) S G 1 3 rfl rfl (k_vp (by decide)) rfl dX4_push_108 ?_
          refine r_get (C := RX8) (T := TX8) (N := 8) (ci := 6) (v := .int (dv 17)) S in_X4_push_X8 G 3 rfl rfl 5 (by decide) lk_X4_push_33 rfl dX4_push_109 ?_
          refine r_iast S G 9 rfl (vp_in_nI (by omega) (by decide)) dX4_push_112 (fun H locs G => ?_)
          obtain ⟨g_47, G⟩ : ∃ g_47 : Nat → Int32, wd X (va_A (rcV X hn an sv dv n0 n1 n2 n3 n4 g0 gs gn gm) sz) (va_A (rcV X hn an sv dv n0 n1 n2 n3 n4 g0 gs gn gm) sz) s (rcV X hn an sv dv n0 n_36 n2 n3 n4 g_47 gs gn gm) H locs := ⟨_, G⟩
          refine lv_aload_n zx zb dX4_push_113 rfl (lv_at hl 3 rfl) ?_
          refine r_get (C := RX4) (T := TX4) (N := 2) (ci := 2) (v := .ref (an 8)) S in_X4_push_X4 G 8 rfl rfl 0 (by decide) lk_X4_push_11 rfl dX4_push_114 ?_
          refine lv_iload zx zb dX4_push_117 (lv_at hl 0 rfl) ?_
          refine lv_iconst (v := 3) zx zb dX4_push_119 (by decide) ?_
          refine r_iadd (v := (nI ((((n_36 * 31) + 1) + (1 * 5)) + 3))) S (nI_add (((n_36 * 31) + 1) + (1 * 5)) 3) dX4_push_120 ?_
          refine lv_aload_n zx zb dX4_push_121 rfl (lv_at hl 5 rfl) ?_
          refine lv_iload zx zb dX4_push_122 (lv_at hl 1 rfl) ?_
          refine r_aald (C := RX8) (b := (an 2)) S G 1 3 rfl rfl (k_vp (by decide)) rfl dX4_push_124 ?_
          refine r_get (C := RX8) (T := TX8) (N := 8) (ci := 6) (v := .int (dv 18)) S in_X4_push_X8 G 3 rfl rfl 6 (by decide) lk_X4_push_36 rfl dX4_push_125 ?_
          refine r_iast S G 9 rfl (vp_in_nI (by omega) (by decide)) dX4_push_128 (fun H locs G => ?_)
          obtain ⟨g_48, G⟩ : ∃ g_48 : Nat → Int32, wd X (va_A (rcV X hn an sv dv n0 n1 n2 n3 n4 g0 gs gn gm) sz) (va_A (rcV X hn an sv dv n0 n1 n2 n3 n4 g0 gs gn gm) sz) s (rcV X hn an sv dv n0 n_36 n2 n3 n4 g_48 gs gn gm) H locs := ⟨_, G⟩
          refine lv_aload_n zx zb dX4_push_129 rfl (lv_at hl 3 rfl) ?_
          refine r_get (C := RX4) (T := TX4) (N := 2) (ci := 2) (v := .ref (an 8)) S in_X4_push_X4 G 8 rfl rfl 0 (by decide) lk_X4_push_11 rfl dX4_push_130 ?_
          refine lv_iload zx zb dX4_push_133 (lv_at hl 0 rfl) ?_
          refine lv_iconst (v := 4) zx zb dX4_push_135 (by decide) ?_
          refine r_iadd (v := (nI ((((n_36 * 31) + 1) + (1 * 5)) + 4))) S (nI_add (((n_36 * 31) + 1) + (1 * 5)) 4) dX4_push_136 ?_
          refine lv_aload_n zx zb dX4_push_137 rfl (lv_at hl 5 rfl) ?_
          refine lv_iload zx zb dX4_push_138 (lv_at hl 1 rfl) ?_
          refine r_aald (C := RX8) (b := (an 2)) S G 1 3 rfl rfl (k_vp (by decide)) rfl dX4_push_140 ?_
          refine r_get (C := RX8) (T := TX8) (N := 8) (ci := 6) (v := .int (dv 19)) S in_X4_push_X8 G 3 rfl rfl 7 (by decide) lk_X4_push_39 rfl dX4_push_141 ?_
          refine r_iast S G 9 rfl (vp_in_nI (by omega) (by decide)) dX4_push_144 (fun H locs G => ?_)
          obtain ⟨g_49, G⟩ : ∃ g_49 : Nat → Int32, wd X (va_A (rcV X hn an sv dv n0 n1 n2 n3 n4 g0 gs gn gm) sz) (va_A (rcV X hn an sv dv n0 n1 n2 n3 n4 g0 gs gn gm) sz) s (rcV X hn an sv dv n0 n_36 n2 n3 n4 g_49 gs gn gm) H locs := ⟨_, G⟩
          refine lv_iinc (v := 2) (lv' := [(4, .int 2), (5, .int (nI (((n_36 * 31) + 1) + (1 * 5)))), (3, .int (nI (n_36 * 31))), (0, .ref (an 7)), (1, .int x1), (2, .ref (an 0))]) zx zb dX4_push_145 hl (k := 1) rfl (by decide) (by decide) rfl (fun ls hl => ?_)
          refine lv_goto (tgt := 50) zx zb dX4_push_148 (by decide) ?_
          have hl := lv_sub hl (l' := [(4, .int 2), (3, .int (nI (n_36 * 31))), (0, .ref (an 7)), (1, .int x1), (2, .ref (an 0))]) [0, 2, 3, 4, 5] rfl
          exact ih50 2 g_49 _ _ _ (by omega) (by omega) G hl
        · refine k_it (v := 2) rfl ?_
          refine r_aald (C := RX8) (b := (an 3)) S G 1 3 rfl rfl (k_vp (by decide)) rfl dX4_push_76 ?_
          refine r_get (C := RX8) (T := TX8) (N := 8) (ci := 6) (v := .int (dv 20)) S in_X4_push_X8 G 4 rfl rfl 3 (by decide) lk_X4_push_25 rfl dX4_push_77 ?_
          refine r_iast S G 9 rfl (vp_in_nI (by omega) (by decide)) dX4_push_80 (fun H locs G => ?_)
          obtain ⟨g_50, G⟩ : ∃ g_50 : Nat → Int32, wd X (va_A (rcV X hn an sv dv n0 n1 n2 n3 n4 g0 gs gn gm) sz) (va_A (rcV X hn an sv dv n0 n1 n2 n3 n4 g0 gs gn gm) sz) s (rcV X hn an sv dv n0 n_36 n2 n3 n4 g_50 gs gn gm) H locs := ⟨_, G⟩
          refine lv_aload_n zx zb dX4_push_81 rfl (lv_at hl 3 rfl) ?_
          refine r_get (C := RX4) (T := TX4) (N := 2) (ci := 2) (v := .ref (an 8)) S in_X4_push_X4 G 8 rfl rfl 0 (by decide) lk_X4_push_11 rfl dX4_push_82 ?_
          refine lv_iload zx zb dX4_push_85 (lv_at hl 0 rfl) ?_
          refine lv_iconst (v := 1) zx zb dX4_push_87 (by decide) ?_
          refine r_iadd (v := (nI ((((n_36 * 31) + 1) + (2 * 5)) + 1))) S (nI_add (((n_36 * 31) + 1) + (2 * 5)) 1) dX4_push_88 ?_
          refine lv_aload_n zx zb dX4_push_89 rfl (lv_at hl 5 rfl) ?_
          refine lv_iload zx zb dX4_push_90 (lv_at hl 1 rfl) ?_
          refine r_aald (C := RX8) (b := (an 3)) S G 1 3 rfl rfl (k_vp (by decide)) rfl dX4_push_92 ?_
          refine r_get (C := RX8) (T := TX8) (N := 8) (ci := 6) (v := .int (dv 21)) S in_X4_push_X8 G 4 rfl rfl 4 (by decide) lk_X4_push_30 rfl dX4_push_93 ?_
          refine r_iast S G 9 rfl (vp_in_nI (by omega) (by decide)) dX4_push_96 (fun H locs G => ?_)
          obtain ⟨g_51, G⟩ : ∃ g_51 : Nat → Int32, wd X (va_A (rcV X hn an sv dv n0 n1 n2 n3 n4 g0 gs gn gm) sz) (va_A (rcV X hn an sv dv n0 n1 n2 n3 n4 g0 gs gn gm) sz) s (rcV X hn an sv dv n0 n_36 n2 n3 n4 g_51 gs gn gm) H locs := ⟨_, G⟩
          refine lv_aload_n zx zb dX4_push_97 rfl (lv_at hl 3 rfl) ?_
          refine r_get (C := RX4) (T := TX4) (N := 2) (ci := 2) (v := .ref (an 8)) S in_X4_push_X4 G 8 rfl rfl 0 (by decide) lk_X4_push_11 rfl dX4_push_98 ?_
          refine lv_iload zx zb dX4_push_101 (lv_at hl 0 rfl) ?_
          refine lv_iconst (v := 2) zx zb dX4_push_103 (by decide) ?_
          refine r_iadd (v := (nI ((((n_36 * 31) + 1) + (2 * 5)) + 2))) S (nI_add (((n_36 * 31) + 1) + (2 * 5)) 2) dX4_push_104 ?_
          refine lv_aload_n zx zb dX4_push_105 rfl (lv_at hl 5 rfl) ?_
          refine lv_iload zx zb dX4_push_106 (lv_at hl 1 rfl) ?_
          refine r_aald (C := RX8) (b := (an 3)) S G 1 3 rfl rfl (k_vp (by decide)) rfl dX4_push_108 ?_
          refine r_get (C := RX8) (T := TX8) (N := 8) (ci := 6) (v := .int (dv 22)) S in_X4_push_X8 G 4 rfl rfl 5 (by decide) lk_X4_push_33 rfl dX4_push_109 ?_
          refine r_iast S G 9 rfl (vp_in_nI (by omega) (by decide)) dX4_push_112 (fun H locs G => ?_)
          obtain ⟨g_52, G⟩ : ∃ g_52 : Nat → Int32, wd X (va_A (rcV X hn an sv dv n0 n1 n2 n3 n4 g0 gs gn gm) sz) (va_A (rcV X hn an sv dv n0 n1 n2 n3 n4 g0 gs gn gm) sz) s (rcV X hn an sv dv n0 n_36 n2 n3 n4 g_52 gs gn gm) H locs := ⟨_, G⟩
          refine lv_aload_n zx zb dX4_push_113 rfl (lv_at hl 3 rfl) ?_
          refine r_get (C := RX4) (T := TX4) (N := 2) (ci := 2) (v := .ref (an 8)) S in_X4_push_X4 G 8 rfl rfl 0 (by decide) lk_X4_push_11 rfl dX4_push_114 ?_
          refine lv_iload zx zb dX4_push_117 (lv_at hl 0 rfl) ?_
          refine lv_iconst (v := 3) zx zb dX4_push_119 (by decide) ?_
          refine r_iadd (v := (nI ((((n_36 * 31) + 1) + (2 * 5)) + 3))) S (nI_add (((n_36 * 31) + 1) + (2 * 5)) 3) dX4_push_120 ?_
          refine lv_aload_n zx zb dX4_push_121 rfl (lv_at hl 5 rfl) ?_
          refine lv_iload zx zb dX4_push_122 (lv_at hl 1 rfl) ?_
          refine r_aald (C := RX8) (b := (an 3)) S G 1 3 rfl rfl (k_vp (by decide)) rfl dX4_push_124 ?_
          refine r_get (C := RX8) (T := TX8) (N := 8) (ci := 6) (v := .int (dv 23)) S in_X4_push_X8 G 4 rfl rfl 6 (by decide) lk_X4_push_36 rfl dX4_push_125 ?_
          refine r_iast S G 9 rfl (vp_in_nI (by omega) (by decide)) dX4_push_128 (fun H locs G => ?_)
          obtain ⟨g_53, G⟩ : ∃ g_53 : Nat → Int32, wd X (va_A (rcV X hn an sv dv n0 n1 n2 n3 n4 g0 gs gn gm) sz) (va_A (rcV X hn an sv dv n0 n1 n2 n3 n4 g0 gs gn gm) sz) s (rcV X hn an sv dv n0 n_36 n2 n3 n4 g_53 gs gn gm) H locs := ⟨_, G⟩
          refine lv_aload_n zx zb dX4_push_129 rfl (lv_at hl 3 rfl) ?_
          refine r_get (C := RX4) (T := TX4) (N := 2) (ci := 2) (v := .ref (an 8)) S in_X4_push_X4 G 8 rfl rfl 0 (by decide) lk_X4_push_11 rfl dX4_push_130 ?_
          refine lv_iload zx zb dX4_push_133 (lv_at hl 0 rfl) ?_
          refine lv_iconst (v := 4) zx zb dX4_push_135 (by decide) ?_
          refine r_iadd (v := (nI ((((n_36 * 31) + 1) + (2 * 5)) + 4))) S (nI_add (((n_36 * 31) + 1) + (2 * 5)) 4) dX4_push_136 ?_
          refine lv_aload_n zx zb dX4_push_137 rfl (lv_at hl 5 rfl) ?_
          refine lv_iload zx zb dX4_push_138 (lv_at hl 1 rfl) ?_
          refine r_aald (C := RX8) (b := (an 3)) S G 1 3 rfl rfl (k_vp (by decide)) rfl dX4_push_140 ?_
          refine r_get (C := RX8) (T := TX8) (N := 8) (ci := 6) (v := .int (dv 24)) S in_X4_push_X8 G 4 rfl rfl 7 (by decide) lk_X4_push_39 rfl dX4_push_141 ?_
          refine r_iast S G 9 rfl (vp_in_nI (by omega) (by decide)) dX4_push_144 (fun H locs G => ?_)
          obtain ⟨g_54, G⟩ : ∃ g_54 : Nat → Int32, wd X (va_A (rcV X hn an sv dv n0 n1 n2 n3 n4 g0 gs gn gm) sz) (va_A (rcV X hn an sv dv n0 n1 n2 n3 n4 g0 gs gn gm) sz) s (rcV X hn an sv dv n0 n_36 n2 n3 n4 g_54 gs gn gm) H locs := ⟨_, G⟩
          refine lv_iinc (v := 3) (lv' := [(4, .int 3), (5, .int (nI (((n_36 * 31) + 1) + (2 * 5)))), (3, .int (nI (n_36 * 31))), (0, .ref (an 7)), (1, .int x1), (2, .ref (an 0))]) zx zb dX4_push_145 hl (k := 1) rfl (by decide) (by decide) rfl (fun ls hl => ?_)
          refine lv_goto (tgt := 50) zx zb dX4_push_148 (by decide) ?_
          have hl := lv_sub hl (l' := [(4, .int 3), (3, .int (nI (n_36 * 31))), (0, .ref (an 7)), (1, .int x1), (2, .ref (an 0))]) [0, 2, 3, 4, 5] rfl
          exact ih50 3 g_54 _ _ _ (by omega) (by omega) G hl
        · refine k_it (v := 3) rfl ?_
          refine r_aald (C := RX8) (b := (an 4)) S G 1 3 rfl rfl (k_vp (by decide)) rfl dX4_push_76 ?_
          refine r_get (C := RX8) (T := TX8) (N := 8) (ci := 6) (v := .int (dv 25)) S in_X4_push_X8 G 5 rfl rfl 3 (by decide) lk_X4_push_25 rfl dX4_push_77 ?_
          refine r_iast S G 9 rfl (vp_in_nI (by omega) (by decide)) dX4_push_80 (fun H locs G => ?_)
          obtain ⟨g_55, G⟩ : ∃ g_55 : Nat → Int32, wd X (va_A (rcV X hn an sv dv n0 n1 n2 n3 n4 g0 gs gn gm) sz) (va_A (rcV X hn an sv dv n0 n1 n2 n3 n4 g0 gs gn gm) sz) s (rcV X hn an sv dv n0 n_36 n2 n3 n4 g_55 gs gn gm) H locs := ⟨_, G⟩
          refine lv_aload_n zx zb dX4_push_81 rfl (lv_at hl 3 rfl) ?_
          refine r_get (C := RX4) (T := TX4) (N := 2) (ci := 2) (v := .ref (an 8)) S in_X4_push_X4 G 8 rfl rfl 0 (by decide) lk_X4_push_11 rfl dX4_push_82 ?_
          refine lv_iload zx zb dX4_push_85 (lv_at hl 0 rfl) ?_
          refine lv_iconst (v := 1) zx zb dX4_push_87 (by decide) ?_
          refine r_iadd (v := (nI ((((n_36 * 31) + 1) + (3 * 5)) + 1))) S (nI_add (((n_36 * 31) + 1) + (3 * 5)) 1) dX4_push_88 ?_
          refine lv_aload_n zx zb dX4_push_89 rfl (lv_at hl 5 rfl) ?_
          refine lv_iload zx zb dX4_push_90 (lv_at hl 1 rfl) ?_
          refine r_aald (C := RX8) (b := (an 4)) S G 1 3 rfl rfl (k_vp (by decide)) rfl dX4_push_92 ?_
          refine r_get (C := RX8) (T := TX8) (N := 8) (ci := 6) (v := .int (dv 26)) S in_X4_push_X8 G 5 rfl rfl 4 (by decide) lk_X4_push_30 rfl dX4_push_93 ?_
          refine r_iast S G 9 rfl (vp_in_nI (by omega) (by decide)) dX4_push_96 (fun H locs G => ?_)
          obtain ⟨g_56, G⟩ : ∃ g_56 : Nat → Int32, wd X (va_A (rcV X hn an sv dv n0 n1 n2 n3 n4 g0 gs gn gm) sz) (va_A (rcV X hn an sv dv n0 n1 n2 n3 n4 g0 gs gn gm) sz) s (rcV X hn an sv dv n0 n_36 n2 n3 n4 g_56 gs gn gm) H locs := ⟨_, G⟩
          refine lv_aload_n zx zb dX4_push_97 rfl (lv_at hl 3 rfl) ?_
          refine r_get (C := RX4) (T := TX4) (N := 2) (ci := 2) (v := .ref (an 8)) S in_X4_push_X4 G 8 rfl rfl 0 (by decide) lk_X4_push_11 rfl dX4_push_98 ?_
          refine lv_iload zx zb dX4_push_101 (lv_at hl 0 rfl) ?_
          refine lv_iconst (v := 2) zx zb dX4_push_103 (by decide) ?_
          refine r_iadd (v := (nI ((((n_36 * 31) + 1) + (3 * 5)) + 2))) S (nI_add (((n_36 * 31) + 1) + (3 * 5)) 2) dX4_push_104 ?_
          refine lv_aload_n zx zb dX4_push_105 rfl (lv_at hl 5 rfl) ?_
          refine lv_iload zx zb dX4_push_106 (lv_at hl 1 rfl) ?_
          refine r_aald (C := RX8) (b := (an 4)) S G 1 3 rfl rfl (k_vp (by decide)) rfl dX4_push_108 ?_
          refine r_get (C := RX8) (T := TX8) (N := 8) (ci := 6) (v := .int (dv 27)) S in_X4_push_X8 G 5 rfl rfl 5 (by decide) lk_X4_push_33 rfl dX4_push_109 ?_
          refine r_iast S G 9 rfl (vp_in_nI (by omega) (by decide)) dX4_push_112 (fun H locs G => ?_)
          obtain ⟨g_57, G⟩ : ∃ g_57 : Nat → Int32, wd X (va_A (rcV X hn an sv dv n0 n1 n2 n3 n4 g0 gs gn gm) sz) (va_A (rcV X hn an sv dv n0 n1 n2 n3 n4 g0 gs gn gm) sz) s (rcV X hn an sv dv n0 n_36 n2 n3 n4 g_57 gs gn gm) H locs := ⟨_, G⟩
          refine lv_aload_n zx zb dX4_push_113 rfl (lv_at hl 3 rfl) ?_
          refine r_get (C := RX4) (T := TX4) (N := 2) (ci := 2) (v := .ref (an 8)) S in_X4_push_X4 G 8 rfl rfl 0 (by decide) lk_X4_push_11 rfl dX4_push_114 ?_
          refine lv_iload zx zb dX4_push_117 (lv_at hl 0 rfl) ?_
          refine lv_iconst (v := 3) zx zb dX4_push_119 (by decide) ?_
          refine r_iadd (v := (nI ((((n_36 * 31) + 1) + (3 * 5)) + 3))) S (nI_add (((n_36 * 31) + 1) + (3 * 5)) 3) dX4_push_120 ?_
          refine lv_aload_n zx zb dX4_push_121 rfl (lv_at hl 5 rfl) ?_
          refine lv_iload zx zb dX4_push_122 (lv_at hl 1 rfl) ?_
          refine r_aald (C := RX8) (b := (an 4)) S G 1 3 rfl rfl (k_vp (by decide)) rfl dX4_push_124 ?_
          refine r_get (C := RX8) (T := TX8) (N := 8) (ci := 6) (v := .int (dv 28)) S in_X4_push_X8 G 5 rfl rfl 6 (by decide) lk_X4_push_36 rfl dX4_push_125 ?_
          refine r_iast S G 9 rfl (vp_in_nI (by omega) (by decide)) dX4_push_128 (fun H locs G => ?_)
          obtain ⟨g_58, G⟩ : ∃ g_58 : Nat → Int32, wd X (va_A (rcV X hn an sv dv n0 n1 n2 n3 n4 g0 gs gn gm) sz) (va_A (rcV X hn an sv dv n0 n1 n2 n3 n4 g0 gs gn gm) sz) s (rcV X hn an sv dv n0 n_36 n2 n3 n4 g_58 gs gn gm) H locs := ⟨_, G⟩
          refine lv_aload_n zx zb dX4_push_129 rfl (lv_at hl 3 rfl) ?_
          refine r_get (C := RX4) (T := TX4) (N := 2) (ci := 2) (v := .ref (an 8)) S in_X4_push_X4 G 8 rfl rfl 0 (by decide) lk_X4_push_11 rfl dX4_push_130 ?_
          refine lv_iload zx zb dX4_push_133 (lv_at hl 0 rfl) ?_
          refine lv_iconst (v := 4) zx zb dX4_push_135 (by decide) ?_
          refine r_iadd (v := (nI ((((n_36 * 31) + 1) + (3 * 5)) + 4))) S (nI_add (((n_36 * 31) + 1) + (3 * 5)) 4) dX4_push_136 ?_
          refine lv_aload_n zx zb dX4_push_137 rfl (lv_at hl 5 rfl) ?_
          refine lv_iload zx zb dX4_push_138 (lv_at hl 1 rfl) ?_
          refine r_aald (C := RX8) (b := (an 4)) S G 1 3 rfl rfl (k_vp (by decide)) rfl dX4_push_140 ?_
          refine r_get (C := RX8) (T := TX8) (N := 8) (ci := 6) (v := .int (dv 29)) S in_X4_push_X8 G 5 rfl rfl 7 (by decide) lk_X4_push_39 rfl dX4_push_141 ?_
          refine r_iast S G 9 rfl (vp_in_nI (by omega) (by decide)) dX4_push_144 (fun H locs G => ?_)
          obtain ⟨g_59, G⟩ : ∃ g_59 : Nat → Int32, wd X (va_A (rcV X hn an sv dv n0 n1 n2 n3 n4 g0 gs gn gm) sz) (va_A (rcV X hn an sv dv n0 n1 n2 n3 n4 g0 gs gn gm) sz) s (rcV X hn an sv dv n0 n_36 n2 n3 n4 g_59 gs gn gm) H locs := ⟨_, G⟩
          refine lv_iinc (v := 4) (lv' := [(4, .int 4), (5, .int (nI (((n_36 * 31) + 1) + (3 * 5)))), (3, .int (nI (n_36 * 31))), (0, .ref (an 7)), (1, .int x1), (2, .ref (an 0))]) zx zb dX4_push_145 hl (k := 1) rfl (by decide) (by decide) rfl (fun ls hl => ?_)
          refine lv_goto (tgt := 50) zx zb dX4_push_148 (by decide) ?_
          have hl := lv_sub hl (l' := [(4, .int 4), (3, .int (nI (n_36 * 31))), (0, .ref (an 7)), (1, .int x1), (2, .ref (an 0))]) [0, 2, 3, 4, 5] rfl
          exact ih50 4 g_59 _ _ _ (by omega) (by omega) G hl
        · refine k_it (v := 4) rfl ?_
          refine r_aald (C := RX8) (b := (an 5)) S G 1 3 rfl rfl (k_vp (by decide)) rfl dX4_push_76 ?_
          refine r_get (C := RX8) (T := TX8) (N := 8) (ci := 6) (v := .int (dv 30)) S in_X4_push_X8 G 6 rfl rfl 3 (by decide) lk_X4_push_25 rfl dX4_push_77 ?_
          refine r_iast S G 9 rfl (vp_in_nI (by omega) (by decide)) dX4_push_80 (fun H locs G => ?_)
          obtain ⟨g_60, G⟩ : ∃ g_60 : Nat → Int32, wd X (va_A (rcV X hn an sv dv n0 n1 n2 n3 n4 g0 gs gn gm) sz) (va_A (rcV X hn an sv dv n0 n1 n2 n3 n4 g0 gs gn gm) sz) s (rcV X hn an sv dv n0 n_36 n2 n3 n4 g_60 gs gn gm) H locs := ⟨_, G⟩
          refine lv_aload_n zx zb dX4_push_81 rfl (lv_at hl 3 rfl) ?_
          refine r_get (C := RX4) (T := TX4) (N := 2) (ci := 2) (v := .ref (an 8)) S in_X4_push_X4 G 8 rfl rfl 0 (by decide) lk_X4_push_11 rfl dX4_push_82 ?_
          refine lv_iload zx zb dX4_push_85 (lv_at hl 0 rfl) ?_
          refine lv_iconst (v := 1) zx zb dX4_push_87 (by decide) ?_
          refine r_iadd (v := (nI ((((n_36 * 31) + 1) + (4 * 5)) + 1))) S (nI_add (((n_36 * 31) + 1) + (4 * 5)) 1) dX4_push_88 ?_
          refine lv_aload_n zx zb dX4_push_89 rfl (lv_at hl 5 rfl) ?_
          refine lv_iload zx zb dX4_push_90 (lv_at hl 1 rfl) ?_
          refine r_aald (C := RX8) (b := (an 5)) S G 1 3 rfl rfl (k_vp (by decide)) rfl dX4_push_92 ?_
          refine r_get (C := RX8) (T := TX8) (N := 8) (ci := 6) (v := .int (dv 31)) S in_X4_push_X8 G 6 rfl rfl 4 (by decide) lk_X4_push_30 rfl dX4_push_93 ?_
          refine r_iast S G 9 rfl (vp_in_nI (by omega) (by decide)) dX4_push_96 (fun H locs G => ?_)
          obtain ⟨g_61, G⟩ : ∃ g_61 : Nat → Int32, wd X (va_A (rcV X hn an sv dv n0 n1 n2 n3 n4 g0 gs gn gm) sz) (va_A (rcV X hn an sv dv n0 n1 n2 n3 n4 g0 gs gn gm) sz) s (rcV X hn an sv dv n0 n_36 n2 n3 n4 g_61 gs gn gm) H locs := ⟨_, G⟩
          refine lv_aload_n zx zb dX4_push_97 rfl (lv_at hl 3 rfl) ?_
          refine r_get (C := RX4) (T := TX4) (N := 2) (ci := 2) (v := .ref (an 8)) S in_X4_push_X4 G 8 rfl rfl 0 (by decide) lk_X4_push_11 rfl dX4_push_98 ?_
          refine lv_iload zx zb dX4_push_101 (lv_at hl 0 rfl) ?_
          refine lv_iconst (v := 2) zx zb dX4_push_103 (by decide) ?_
          refine r_iadd (v := (nI ((((n_36 * 31) + 1) + (4 * 5)) + 2))) S (nI_add (((n_36 * 31) + 1) + (4 * 5)) 2) dX4_push_104 ?_
          refine lv_aload_n zx zb dX4_push_105 rfl (lv_at hl 5 rfl) ?_
          refine lv_iload zx zb dX4_push_106 (lv_at hl 1 rfl) ?_
          refine r_aald (C := RX8) (b := (an 5)) S G 1 3 rfl rfl (k_vp (by decide)) rfl dX4_push_108 ?_
          refine r_get (C := RX8) (T := TX8) (N := 8) (ci := 6) (v := .int (dv 32)) S in_X4_push_X8 G 6 rfl rfl 5 (by decide) lk_X4_push_33 rfl dX4_push_109 ?_
          refine r_iast S G 9 rfl (vp_in_nI (by omega) (by decide)) dX4_push_112 (fun H locs G => ?_)
          obtain ⟨g_62, G⟩ : ∃ g_62 : Nat → Int32, wd X (va_A (rcV X hn an sv dv n0 n1 n2 n3 n4 g0 gs gn gm) sz) (va_A (rcV X hn an sv dv n0 n1 n2 n3 n4 g0 gs gn gm) sz) s (rcV X hn an sv dv n0 n_36 n2 n3 n4 g_62 gs gn gm) H locs := ⟨_, G⟩
          refine lv_aload_n zx zb dX4_push_113 rfl (lv_at hl 3 rfl) ?_
          refine r_get (C := RX4) (T := TX4) (N := 2) (ci := 2) (v := .ref (an 8)) S in_X4_push_X4 G 8 rfl rfl 0 (by decide) lk_X4_push_11 rfl dX4_push_114 ?_
          refine lv_iload zx zb dX4_push_117 (lv_at hl 0 rfl) ?_
          refine lv_iconst (v := 3) zx zb dX4_push_119 (by decide) ?_
          refine r_iadd (v := (nI ((((n_36 * 31) + 1) + (4 * 5)) + 3))) S (nI_add (((n_36 * 31) + 1) + (4 * 5)) 3) dX4_push_120 ?_
          refine lv_aload_n zx zb dX4_push_121 rfl (lv_at hl 5 rfl) ?_
          refine lv_iload zx zb dX4_push_122 (lv_at hl 1 rfl) ?_
          refine r_aald (C := RX8) (b := (an 5)) S G 1 3 rfl rfl (k_vp (by decide)) rfl dX4_push_124 ?_
          refine r_get (C := RX8) (T := TX8) (N := 8) (ci := 6) (v := .int (dv 33)) S in_X4_push_X8 G 6 rfl rfl 6 (by decide) lk_X4_push_36 rfl dX4_push_125 ?_
          refine r_iast S G 9 rfl (vp_in_nI (by omega) (by decide)) dX4_push_128 (fun H locs G => ?_)
          obtain ⟨g_63, G⟩ : ∃ g_63 : Nat → Int32, wd X (va_A (rcV X hn an sv dv n0 n1 n2 n3 n4 g0 gs gn gm) sz) (va_A (rcV X hn an sv dv n0 n1 n2 n3 n4 g0 gs gn gm) sz) s (rcV X hn an sv dv n0 n_36 n2 n3 n4 g_63 gs gn gm) H locs := ⟨_, G⟩
          refine lv_aload_n zx zb dX4_push_129 rfl (lv_at hl 3 rfl) ?_
          refine r_get (C := RX4) (T := TX4) (N := 2) (ci := 2) (v := .ref (an 8)) S in_X4_push_X4 G 8 rfl rfl 0 (by decide) lk_X4_push_11 rfl dX4_push_130 ?_
          refine lv_iload zx zb dX4_push_133 (lv_at hl 0 rfl) ?_
          refine lv_iconst (v := 4) zx zb dX4_push_135 (by decide) ?_
          refine r_iadd (v := (nI ((((n_36 * 31) + 1) + (4 * 5)) + 4))) S (nI_add (((n_36 * 31) + 1) + (4 * 5)) 4) dX4_push_136 ?_
          refine lv_aload_n zx zb dX4_push_137 rfl (lv_at hl 5 rfl) ?_
          refine lv_iload zx zb dX4_push_138 (lv_at hl 1 rfl) ?_
          refine r_aald (C := RX8) (b := (an 5)) S G 1 3 rfl rfl (k_vp (by decide)) rfl dX4_push_140 ?_
          refine r_get (C := RX8) (T := TX8) (N := 8) (ci := 6) (v := .int (dv 34)) S in_X4_push_X8 G 6 rfl rfl 7 (by decide) lk_X4_push_39 rfl dX4_push_141 ?_
          refine r_iast S G 9 rfl (vp_in_nI (by omega) (by decide)) dX4_push_144 (fun H locs G => ?_)
          obtain ⟨g_64, G⟩ : ∃ g_64 : Nat → Int32, wd X (va_A (rcV X hn an sv dv n0 n1 n2 n3 n4 g0 gs gn gm) sz) (va_A (rcV X hn an sv dv n0 n1 n2 n3 n4 g0 gs gn gm) sz) s (rcV X hn an sv dv n0 n_36 n2 n3 n4 g_64 gs gn gm) H locs := ⟨_, G⟩
          refine lv_iinc (v := 5) (lv' := [(4, .int 5), (5, .int (nI (((n_36 * 31) + 1) + (4 * 5)))), (3, .int (nI (n_36 * 31))), (0, .ref (an 7)), (1, .int x1), (2, .ref (an 0))]) zx zb dX4_push_145 hl (k := 1) rfl (by decide) (by decide) rfl (fun ls hl => ?_)
          refine lv_goto (tgt := 50) zx zb dX4_push_148 (by decide) ?_
          have hl := lv_sub hl (l' := [(4, .int 5), (3, .int (nI (n_36 * 31))), (0, .ref (an 7)), (1, .int x1), (2, .ref (an 0))]) [0, 2, 3, 4, 5] rfl
          exact ih50 5 g_64 _ _ _ (by omega) (by omega) G hl
        · refine k_it (v := 5) rfl ?_
          refine r_aald (C := RX8) (b := (an 6)) S G 1 3 rfl rfl (k_vp (by decide)) rfl dX4_push_76 ?_
          refine r_get (C := RX8) (T := TX8) (N := 8) (ci := 6) (v := .int (dv 35)) S in_X4_push_X8 G 7 rfl rfl 3 (by decide) lk_X4_push_25 rfl dX4_push_77 ?_
          refine r_iast S G 9 rfl (vp_in_nI (by omega) (by decide)) dX4_push_80 (fun H locs G => ?_)
          obtain ⟨g_65, G⟩ : ∃ g_65 : Nat → Int32, wd X (va_A (rcV X hn an sv dv n0 n1 n2 n3 n4 g0 gs gn gm) sz) (va_A (rcV X hn an sv dv n0 n1 n2 n3 n4 g0 gs gn gm) sz) s (rcV X hn an sv dv n0 n_36 n2 n3 n4 g_65 gs gn gm) H locs := ⟨_, G⟩
          refine lv_aload_n zx zb dX4_push_81 rfl (lv_at hl 3 rfl) ?_
          refine r_get (C := RX4) (T := TX4) (N := 2) (ci := 2) (v := .ref (an 8)) S in_X4_push_X4 G 8 rfl rfl 0 (by decide) lk_X4_push_11 rfl dX4_push_82 ?_
          refine lv_iload zx zb dX4_push_85 (lv_at hl 0 rfl) ?_
          refine lv_iconst (v := 1) zx zb dX4_push_87 (by decide) ?_
          refine r_iadd (v := (nI ((((n_36 * 31) + 1) + (5 * 5)) + 1))) S (nI_add (((n_36 * 31) + 1) + (5 * 5)) 1) dX4_push_88 ?_
          refine lv_aload_n zx zb dX4_push_89 rfl (lv_at hl 5 rfl) ?_
          refine lv_iload zx zb dX4_push_90 (lv_at hl 1 rfl) ?_
          refine r_aald (C := RX8) (b := (an 6)) S G 1 3 rfl rfl (k_vp (by decide)) rfl dX4_push_92 ?_
          refine r_get (C := RX8) (T := TX8) (N := 8) (ci := 6) (v := .int (dv 36)) S in_X4_push_X8 G 7 rfl rfl 4 (by decide) lk_X4_push_30 rfl dX4_push_93 ?_
          refine r_iast S G 9 rfl (vp_in_nI (by omega) (by decide)) dX4_push_96 (fun H locs G => ?_)
          obtain ⟨g_66, G⟩ : ∃ g_66 : Nat → Int32, wd X (va_A (rcV X hn an sv dv n0 n1 n2 n3 n4 g0 gs gn gm) sz) (va_A (rcV X hn an sv dv n0 n1 n2 n3 n4 g0 gs gn gm) sz) s (rcV X hn an sv dv n0 n_36 n2 n3 n4 g_66 gs gn gm) H locs := ⟨_, G⟩
          refine lv_aload_n zx zb dX4_push_97 rfl (lv_at hl 3 rfl) ?_
          refine r_get (C := RX4) (T := TX4) (N := 2) (ci := 2) (v := .ref (an 8)) S in_X4_push_X4 G 8 rfl rfl 0 (by decide) lk_X4_push_11 rfl dX4_push_98 ?_
          refine lv_iload zx zb dX4_push_101 (lv_at hl 0 rfl) ?_
          refine lv_iconst (v := 2) zx zb dX4_push_103 (by decide) ?_
          refine r_iadd (v := (nI ((((n_36 * 31) + 1) + (5 * 5)) + 2))) S (nI_add (((n_36 * 31) + 1) + (5 * 5)) 2) dX4_push_104 ?_
          refine lv_aload_n zx zb dX4_push_105 rfl (lv_at hl 5 rfl) ?_
          refine lv_iload zx zb dX4_push_106 (lv_at hl 1 rfl) ?_
          refine r_aald (C := RX8) (b := (an 6)) S G 1 3 rfl rfl (k_vp (by decide)) rfl dX4_push_108 ?_
          refine r_get (C := RX8) (T := TX8) (N := 8) (ci := 6) (v := .int (dv 37)) S in_X4_push_X8 G 7 rfl rfl 5 (by decide) lk_X4_push_33 rfl dX4_push_109 ?_
          refine r_iast S G 9 rfl (vp_in_nI (by omega) (by decide)) dX4_push_112 (fun H locs G => ?_)
          obtain ⟨g_67, G⟩ : ∃ g_67 : Nat → Int32, wd X (va_A (rcV X hn an sv dv n0 n1 n2 n3 n4 g0 gs gn gm) sz) (va_A (rcV X hn an sv dv n0 n1 n2 n3 n4 g0 gs gn gm) sz) s (rcV X hn an sv dv n0 n_36 n2 n3 n4 g_67 gs gn gm) H locs := ⟨_, G⟩
          refine lv_aload_n zx zb dX4_push_113 rfl (lv_at hl 3 rfl) ?_
          refine r_get (C := RX4) (T := TX4) (N := 2) (ci := 2) (v := .ref (an 8)) S in_X4_push_X4 G 8 rfl rfl 0 (by decide) lk_X4_push_11 rfl dX4_push_114 ?_
          refine lv_iload zx zb dX4_push_117 (lv_at hl 0 rfl) ?_
          refine lv_iconst (v := 3) zx zb dX4_push_119 (by decide) ?_
          refine r_iadd (v := (nI ((((n_36 * 31) + 1) + (5 * 5)) + 3))) S (nI_add (((n_36 * 31) + 1) + (5 * 5)) 3) dX4_push_120 ?_
          refine lv_aload_n zx zb dX4_push_121 rfl (lv_at hl 5 rfl) ?_
          refine lv_iload zx zb dX4_push_122 (lv_at hl 1 rfl) ?_
          refine r_aald (C := RX8) (b := (an 6)) S G 1 3 rfl rfl (k_vp (by decide)) rfl dX4_push_124 ?_
          refine r_get (C := RX8) (T := TX8) (N := 8) (ci := 6) (v := .int (dv 38)) S in_X4_push_X8 G 7 rfl rfl 6 (by decide) lk_X4_push_36 rfl dX4_push_125 ?_
          refine r_iast S G 9 rfl (vp_in_nI (by omega) (by decide)) dX4_push_128 (fun H locs G => ?_)
          obtain ⟨g_68, G⟩ : ∃ g_68 : Nat → Int32, wd X (va_A (rcV X hn an sv dv n0 n1 n2 n3 n4 g0 gs gn gm) sz) (va_A (rcV X hn an sv dv n0 n1 n2 n3 n4 g0 gs gn gm) sz) s (rcV X hn an sv dv n0 n_36 n2 n3 n4 g_68 gs gn gm) H locs := ⟨_, G⟩
          refine lv_aload_n zx zb dX4_push_129 rfl (lv_at hl 3 rfl) ?_
          refine r_get (C := RX4) (T := TX4) (N := 2) (ci := 2) (v := .ref (an 8)) S in_X4_push_X4 G 8 rfl rfl 0 (by decide) lk_X4_push_11 rfl dX4_push_130 ?_
          refine lv_iload zx zb dX4_push_133 (lv_at hl 0 rfl) ?_
          refine lv_iconst (v := 4) zx zb dX4_push_135 (by decide) ?_
          refine r_iadd (v := (nI ((((n_36 * 31) + 1) + (5 * 5)) + 4))) S (nI_add (((n_36 * 31) + 1) + (5 * 5)) 4) dX4_push_136 ?_
          refine lv_aload_n zx zb dX4_push_137 rfl (lv_at hl 5 rfl) ?_
          refine lv_iload zx zb dX4_push_138 (lv_at hl 1 rfl) ?_
          refine r_aald (C := RX8) (b := (an 6)) S G 1 3 rfl rfl (k_vp (by decide)) rfl dX4_push_140 ?_
          refine r_get (C := RX8) (T := TX8) (N := 8) (ci := 6) (v := .int (dv 39)) S in_X4_push_X8 G 7 rfl rfl 7 (by decide) lk_X4_push_39 rfl dX4_push_141 ?_
          refine r_iast S G 9 rfl (vp_in_nI (by omega) (by decide)) dX4_push_144 (fun H locs G => ?_)
          obtain ⟨g_69, G⟩ : ∃ g_69 : Nat → Int32, wd X (va_A (rcV X hn an sv dv n0 n1 n2 n3 n4 g0 gs gn gm) sz) (va_A (rcV X hn an sv dv n0 n1 n2 n3 n4 g0 gs gn gm) sz) s (rcV X hn an sv dv n0 n_36 n2 n3 n4 g_69 gs gn gm) H locs := ⟨_, G⟩
          refine lv_iinc (v := 6) (lv' := [(4, .int 6), (5, .int (nI (((n_36 * 31) + 1) + (5 * 5)))), (3, .int (nI (n_36 * 31))), (0, .ref (an 7)), (1, .int x1), (2, .ref (an 0))]) zx zb dX4_push_145 hl (k := 1) rfl (by decide) (by decide) rfl (fun ls hl => ?_)
          refine lv_goto (tgt := 50) zx zb dX4_push_148 (by decide) ?_
          have hl := lv_sub hl (l' := [(4, .int 6), (3, .int (nI (n_36 * 31))), (0, .ref (an 7)), (1, .int x1), (2, .ref (an 0))]) [0, 2, 3, 4, 5] rfl
          exact ih50 6 g_69 _ _ _ (by omega) (by omega) G hl
