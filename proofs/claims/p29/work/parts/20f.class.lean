set_option maxRecDepth 20000 in
theorem ggX10_beats_X10_areTwo : GoodIn wsX10_beats wsX10_areTwo := goodIn_r _ [11, 12, 13, 14, 10, 15, 1, 16, 60, 61, 62, 63, 64, 65, 66, 67, 68, 69, 70, 71, 72, 73, 74, 75, 76, 77, 78, 79, 80, 81] rfl (by decide +kernel)
set_option maxRecDepth 20000 in
theorem gX10_beats_X10_areTwo : GoodIn wsX10_beats (wsV RX10 172 RX10 yX10_areTwo wsX10_areTwo) := goodIn_app (goodIn_of _ (by decide +kernel)) ggX10_beats_X10_areTwo
set_option maxRecDepth 20000 in
theorem ggX10_beats_X10_homeBehind : GoodIn wsX10_beats wsX10_homeBehind := goodIn_r _ [31, 5, 1, 2, 6, 4, 32, 33, 34, 25, 35, 36, 37, 38, 39, 40, 41, 42, 27, 43, 44, 45, 46, 47, 23, 24, 26, 48, 49, 50, 51, 52, 53, 54, 55, 56, 57, 58, 59, 60, 61, 62, 63, 64, 65, 66, 67, 68, 69, 70, 71, 72, 73, 74, 75, 76, 77, 78, 79, 80, 81, 82, 83, 84, 85, 86, 87, 88, 89] rfl (by decide +kernel)
set_option maxRecDepth 20000 in
theorem gX10_beats_X10_homeBehind : GoodIn wsX10_beats (wsV RX10 156 RX10 yX10_homeBehind wsX10_homeBehind) := goodIn_app (goodIn_of _ (by decide +kernel)) ggX10_beats_X10_homeBehind
set_option maxRecDepth 20000 in
theorem ggX10_beats_X10_refuse : GoodIn wsX10_beats wsX10_refuse := goodIn_r _ [20, 21, 60, 61, 62, 63, 64, 65, 66, 67, 68, 69, 70, 71, 72, 73] rfl (by decide +kernel)
set_option maxRecDepth 20000 in
theorem gX10_beats_X10_refuse : GoodIn wsX10_beats (wsV RX10 83 RX10 yX10_refuse wsX10_refuse) := goodIn_app (goodIn_of _ (by decide +kernel)) ggX10_beats_X10_refuse
set_option maxRecDepth 20000 in
theorem ggX10_beats_X8_copyFrom : GoodIn wsX10_beats wsX8_copyFrom := goodIn_r _ [35, 36, 37, 38, 39, 40, 41, 42, 27, 82, 83, 84, 85, 86, 87, 88, 89] rfl (by decide +kernel)
set_option maxRecDepth 20000 in
theorem gX10_beats_X8_copyFrom : GoodIn wsX10_beats (wsV RX10 148 RX8 yX8_copyFrom wsX8_copyFrom) := goodIn_app (goodIn_of _ (by decide +kernel)) ggX10_beats_X8_copyFrom
set_option maxRecDepth 20000 in
theorem ggX10_beats_X8_isHome : GoodIn wsX10_beats wsX8_isHome := goodIn_r _ [26, 27, 82, 83, 84, 85, 86, 87, 88, 89] rfl (by decide +kernel)
set_option maxRecDepth 20000 in
theorem gX10_beats_X8_isHome : GoodIn wsX10_beats (wsV RX10 133 RX8 yX8_isHome wsX8_isHome) := goodIn_app (goodIn_of _ (by decide +kernel)) ggX10_beats_X8_isHome
set_option maxRecDepth 20000 in
theorem ggX10_beats_X8_ticksToHome : GoodIn wsX10_beats wsX8_ticksToHome := goodIn_r _ [46, 47, 23, 24, 25, 26, 27, 48, 49, 50, 51, 42, 36, 37, 39, 38, 41, 40, 52, 53, 54, 55, 56, 57, 58, 59, 82, 83, 84, 85, 86, 87, 88, 89] rfl (by decide +kernel)
set_option maxRecDepth 20000 in
theorem gX10_beats_X8_ticksToHome : GoodIn wsX10_beats (wsV RX10 165 RX8 yX8_ticksToHome wsX8_ticksToHome) := goodIn_app (goodIn_of _ (by decide +kernel)) ggX10_beats_X8_ticksToHome
set_option maxRecDepth 20000 in
theorem ggX10_races_X10_refuse : GoodIn wsX10_races wsX10_refuse := goodIn_r _ [21, 22, 70, 71, 72, 73, 74, 75, 76, 77, 78, 79, 80, 81, 82, 83] rfl (by decide +kernel)
set_option maxRecDepth 20000 in
theorem gX10_races_X10_refuse : GoodIn wsX10_races (wsV RX10 83 RX10 yX10_refuse wsX10_refuse) := goodIn_app (goodIn_of _ (by decide +kernel)) ggX10_races_X10_refuse
set_option maxRecDepth 20000 in
theorem ggX10_races_X10_within : GoodIn wsX10_races wsX10_within := goodIn_r _ [17] rfl (by decide +kernel)
set_option maxRecDepth 20000 in
theorem gX10_races_X10_within : GoodIn wsX10_races (va_wsS RX10 79 yX10_within wsX10_within) := goodIn_app (goodIn_of _ (by decide +kernel)) ggX10_races_X10_within
set_option maxRecDepth 20000 in
theorem ggX10_races_X5_copyLine : GoodIn wsX10_races wsX5_copyLine := goodIn_r _ [27, 28, 29, 30, 31, 32, 33, 34, 35, 36, 37, 38, 39, 40, 41, 42, 43, 44, 84, 85, 86, 87, 88, 89, 90, 91, 92, 93, 94, 95, 96, 97, 98, 99] rfl (by decide +kernel)
set_option maxRecDepth 20000 in
theorem gX10_races_X5_copyLine : GoodIn wsX10_races (wsV RX10 256 RX5 yX5_copyLine wsX5_copyLine) := goodIn_app (goodIn_of _ (by decide +kernel)) ggX10_races_X5_copyLine
set_option maxRecDepth 20000 in
theorem ggX10_races_X5_goOn : GoodIn wsX10_races wsX5_goOn := goodIn_r _ [48, 29, 30, 31, 28, 49, 50, 51, 35, 52, 43, 37, 38, 40, 39, 42, 41, 44, 53, 54, 55, 56, 57, 58, 59, 60, 61, 62, 63, 64, 84, 85, 86, 87, 88, 89, 90, 91, 92, 93, 94, 95, 96, 97, 98, 99] rfl (by decide +kernel)
set_option maxRecDepth 20000 in
theorem gX10_races_X5_goOn : GoodIn wsX10_races (wsV RX10 116 RX5 yX5_goOn wsX5_goOn) := goodIn_app (goodIn_of _ (by decide +kernel)) ggX10_races_X5_goOn
set_option maxRecDepth 20000 in
theorem ggX10_races_X5_homes : GoodIn wsX10_races wsX5_homes := goodIn_r _ [68, 30, 31, 69, 54, 55, 35, 56, 44, 84, 85, 86, 87, 88, 89, 90, 91, 92, 93, 94, 95, 96, 97, 98, 99] rfl (by decide +kernel)
set_option maxRecDepth 20000 in
theorem gX10_races_X5_homes : GoodIn wsX10_races (wsV RX10 119 RX5 yX5_homes wsX5_homes) := goodIn_app (goodIn_of _ (by decide +kernel)) ggX10_races_X5_homes
theorem dX10_beats_0 : decode cX10_beats 0 = .ok (.aload_n 0, 1) := by decide +kernel
theorem dX10_beats_1 : decode cX10_beats 1 = .ok (.iload_n 1, 1) := by decide +kernel
theorem dX10_beats_10 : decode cX10_beats 10 = .ok (.bipush (-2), 2) := by decide +kernel
theorem dX10_beats_100 : decode cX10_beats 100 = .ok (.if_icmp .ge 61, 3) := by decide +kernel
theorem dX10_beats_103 : decode cX10_beats 103 = .ok (.aload_n 0, 1) := by decide +kernel
theorem dX10_beats_104 : decode cX10_beats 104 = .ok (.getfield 48, 3) := by decide +kernel
theorem dX10_beats_107 : decode cX10_beats 107 = .ok (.aload_n 3, 1) := by decide +kernel
theorem dX10_beats_108 : decode cX10_beats 108 = .ok (.invokevirtual 148, 3) := by decide +kernel
theorem dX10_beats_111 : decode cX10_beats 111 = .ok (.aload_n 0, 1) := by decide +kernel
theorem dX10_beats_112 : decode cX10_beats 112 = .ok (.getfield 48, 3) := by decide +kernel
theorem dX10_beats_115 : decode cX10_beats 115 = .ok (.dup, 1) := by decide +kernel
theorem dX10_beats_116 : decode cX10_beats 116 = .ok (.getfield 137, 3) := by decide +kernel
theorem dX10_beats_119 : decode cX10_beats 119 = .ok (.iload 6, 2) := by decide +kernel
theorem dX10_beats_12 : decode cX10_beats 12 = .ok (.invokevirtual 83, 3) := by decide +kernel
theorem dX10_beats_121 : decode cX10_beats 121 = .ok (.iadd, 1) := by decide +kernel
theorem dX10_beats_122 : decode cX10_beats 122 = .ok (.putfield 137, 3) := by decide +kernel
theorem dX10_beats_125 : decode cX10_beats 125 = .ok (.aload_n 0, 1) := by decide +kernel
theorem dX10_beats_126 : decode cX10_beats 126 = .ok (.getfield 48, 3) := by decide +kernel
theorem dX10_beats_129 : decode cX10_beats 129 = .ok (.aload_n 0, 1) := by decide +kernel
theorem dX10_beats_130 : decode cX10_beats 130 = .ok (.getfield 10, 3) := by decide +kernel
theorem dX10_beats_133 : decode cX10_beats 133 = .ok (.getfield 110, 3) := by decide +kernel
theorem dX10_beats_136 : decode cX10_beats 136 = .ok (.aload_n 0, 1) := by decide +kernel
theorem dX10_beats_137 : decode cX10_beats 137 = .ok (.getfield 10, 3) := by decide +kernel
theorem dX10_beats_140 : decode cX10_beats 140 = .ok (.getfield 140, 3) := by decide +kernel
theorem dX10_beats_143 : decode cX10_beats 143 = .ok (.iload 5, 2) := by decide +kernel
theorem dX10_beats_145 : decode cX10_beats 145 = .ok (.invokevirtual 165, 3) := by decide +kernel
theorem dX10_beats_148 : decode cX10_beats 148 = .ok (.iconst (-1), 1) := by decide +kernel
theorem dX10_beats_149 : decode cX10_beats 149 = .ok (.if_icmp .eq 6, 3) := by decide +kernel
theorem dX10_beats_15 : decode cX10_beats 15 = .ok (.ireturn, 1) := by decide +kernel
theorem dX10_beats_152 : decode cX10_beats 152 = .ok (.iload 6, 2) := by decide +kernel
theorem dX10_beats_154 : decode cX10_beats 154 = .ok (.ireturn, 1) := by decide +kernel
theorem dX10_beats_155 : decode cX10_beats 155 = .ok (.iinc 6 1, 3) := by decide +kernel
theorem dX10_beats_158 : decode cX10_beats 158 = .ok (.goto (-79), 3) := by decide +kernel
theorem dX10_beats_16 : decode cX10_beats 16 = .ok (.aload_n 0, 1) := by decide +kernel
theorem dX10_beats_161 : decode cX10_beats 161 = .ok (.iconst (-1), 1) := by decide +kernel
theorem dX10_beats_162 : decode cX10_beats 162 = .ok (.ireturn, 1) := by decide +kernel
theorem dX10_beats_17 : decode cX10_beats 17 = .ok (.getfield 10, 3) := by decide +kernel
theorem dX10_beats_2 : decode cX10_beats 2 = .ok (.iload_n 2, 1) := by decide +kernel
theorem dX10_beats_20 : decode cX10_beats 20 = .ok (.getfield 126, 3) := by decide +kernel
theorem dX10_beats_23 : decode cX10_beats 23 = .ok (.iload_n 1, 1) := by decide +kernel
theorem dX10_beats_24 : decode cX10_beats 24 = .ok (.aaload, 1) := by decide +kernel
theorem dX10_beats_25 : decode cX10_beats 25 = .ok (.astore_n 3, 1) := by decide +kernel
theorem dX10_beats_26 : decode cX10_beats 26 = .ok (.aload_n 3, 1) := by decide +kernel
theorem dX10_beats_27 : decode cX10_beats 27 = .ok (.invokevirtual 133, 3) := by decide +kernel
theorem dX10_beats_3 : decode cX10_beats 3 = .ok (.invokevirtual 172, 3) := by decide +kernel
theorem dX10_beats_30 : decode cX10_beats 30 = .ok (.ifCond .ne 18, 3) := by decide +kernel
theorem dX10_beats_33 : decode cX10_beats 33 = .ok (.aload_n 0, 1) := by decide +kernel
theorem dX10_beats_34 : decode cX10_beats 34 = .ok (.getfield 10, 3) := by decide +kernel
theorem dX10_beats_37 : decode cX10_beats 37 = .ok (.getfield 126, 3) := by decide +kernel
theorem dX10_beats_40 : decode cX10_beats 40 = .ok (.iload_n 2, 1) := by decide +kernel
theorem dX10_beats_41 : decode cX10_beats 41 = .ok (.aaload, 1) := by decide +kernel
theorem dX10_beats_42 : decode cX10_beats 42 = .ok (.invokevirtual 133, 3) := by decide +kernel
theorem dX10_beats_45 : decode cX10_beats 45 = .ok (.ifCond .eq 5, 3) := by decide +kernel
theorem dX10_beats_48 : decode cX10_beats 48 = .ok (.iconst (-1), 1) := by decide +kernel
theorem dX10_beats_49 : decode cX10_beats 49 = .ok (.ireturn, 1) := by decide +kernel
theorem dX10_beats_50 : decode cX10_beats 50 = .ok (.aload_n 0, 1) := by decide +kernel
theorem dX10_beats_51 : decode cX10_beats 51 = .ok (.iload_n 2, 1) := by decide +kernel
theorem dX10_beats_52 : decode cX10_beats 52 = .ok (.bipush 60, 2) := by decide +kernel
theorem dX10_beats_54 : decode cX10_beats 54 = .ok (.invokevirtual 156, 3) := by decide +kernel
theorem dX10_beats_57 : decode cX10_beats 57 = .ok (.istore 4, 2) := by decide +kernel
theorem dX10_beats_59 : decode cX10_beats 59 = .ok (.iload 4, 2) := by decide +kernel
theorem dX10_beats_6 : decode cX10_beats 6 = .ok (.ifCond .ne 10, 3) := by decide +kernel
theorem dX10_beats_61 : decode cX10_beats 61 = .ok (.iconst (-1), 1) := by decide +kernel
theorem dX10_beats_62 : decode cX10_beats 62 = .ok (.if_icmp .ne 8, 3) := by decide +kernel
theorem dX10_beats_65 : decode cX10_beats 65 = .ok (.bipush 60, 2) := by decide +kernel
theorem dX10_beats_67 : decode cX10_beats 67 = .ok (.goto 7, 3) := by decide +kernel
theorem dX10_beats_70 : decode cX10_beats 70 = .ok (.iload 4, 2) := by decide +kernel
theorem dX10_beats_72 : decode cX10_beats 72 = .ok (.iconst 1, 1) := by decide +kernel
theorem dX10_beats_73 : decode cX10_beats 73 = .ok (.isub, 1) := by decide +kernel
theorem dX10_beats_74 : decode cX10_beats 74 = .ok (.istore 5, 2) := by decide +kernel
theorem dX10_beats_76 : decode cX10_beats 76 = .ok (.iconst 0, 1) := by decide +kernel
theorem dX10_beats_77 : decode cX10_beats 77 = .ok (.istore 6, 2) := by decide +kernel
theorem dX10_beats_79 : decode cX10_beats 79 = .ok (.iload 6, 2) := by decide +kernel
theorem dX10_beats_81 : decode cX10_beats 81 = .ok (.bipush 30, 2) := by decide +kernel
theorem dX10_beats_83 : decode cX10_beats 83 = .ok (.if_icmp .gt 78, 3) := by decide +kernel
theorem dX10_beats_86 : decode cX10_beats 86 = .ok (.aload_n 3, 1) := by decide +kernel
theorem dX10_beats_87 : decode cX10_beats 87 = .ok (.getfield 137, 3) := by decide +kernel
theorem dX10_beats_9 : decode cX10_beats 9 = .ok (.aload_n 0, 1) := by decide +kernel
theorem dX10_beats_90 : decode cX10_beats 90 = .ok (.iload 6, 2) := by decide +kernel
theorem dX10_beats_92 : decode cX10_beats 92 = .ok (.iadd, 1) := by decide +kernel
theorem dX10_beats_93 : decode cX10_beats 93 = .ok (.aload_n 0, 1) := by decide +kernel
theorem dX10_beats_94 : decode cX10_beats 94 = .ok (.getfield 10, 3) := by decide +kernel
theorem dX10_beats_97 : decode cX10_beats 97 = .ok (.getfield 140, 3) := by decide +kernel
theorem dX10_races_0 : decode cX10_races 0 = .ok (.iload_n 1, 1) := by decide +kernel
theorem dX10_races_1 : decode cX10_races 1 = .ok (.iconst 0, 1) := by decide +kernel
theorem dX10_races_10 : decode cX10_races 10 = .ok (.iload_n 2, 1) := by decide +kernel
theorem dX10_races_102 : decode cX10_races 102 = .ok (.ldiv, 1) := by decide +kernel
theorem dX10_races_103 : decode cX10_races 103 = .ok (.ldc2_w 272, 3) := by decide +kernel
theorem dX10_races_106 : decode cX10_races 106 = .ok (.lrem, 1) := by decide +kernel
theorem dX10_races_107 : decode cX10_races 107 = .ok (.l2i, 1) := by decide +kernel
theorem dX10_races_108 : decode cX10_races 108 = .ok (.putfield 130, 3) := by decide +kernel
theorem dX10_races_11 : decode cX10_races 11 = .ok (.iconst 0, 1) := by decide +kernel
theorem dX10_races_111 : decode cX10_races 111 = .ok (.aload_n 0, 1) := by decide +kernel
theorem dX10_races_112 : decode cX10_races 112 = .ok (.getfield 16, 3) := by decide +kernel
theorem dX10_races_115 : decode cX10_races 115 = .ok (.invokevirtual 116, 3) := by decide +kernel
theorem dX10_races_118 : decode cX10_races 118 = .ok (.iinc 5 1, 3) := by decide +kernel
theorem dX10_races_12 : decode cX10_races 12 = .ok (.bipush 60, 2) := by decide +kernel
theorem dX10_races_121 : decode cX10_races 121 = .ok (.goto (-77), 3) := by decide +kernel
theorem dX10_races_124 : decode cX10_races 124 = .ok (.aload_n 0, 1) := by decide +kernel
theorem dX10_races_125 : decode cX10_races 125 = .ok (.getfield 16, 3) := by decide +kernel
theorem dX10_races_128 : decode cX10_races 128 = .ok (.invokevirtual 119, 3) := by decide +kernel
theorem dX10_races_131 : decode cX10_races 131 = .ok (.ireturn, 1) := by decide +kernel
theorem dX10_races_14 : decode cX10_races 14 = .ok (.invokestatic 79, 3) := by decide +kernel
theorem dX10_races_17 : decode cX10_races 17 = .ok (.ifCond .ne 10, 3) := by decide +kernel
theorem dX10_races_2 : decode cX10_races 2 = .ok (.ldc 255, 2) := by decide +kernel
theorem dX10_races_20 : decode cX10_races 20 = .ok (.aload_n 0, 1) := by decide +kernel
theorem dX10_races_21 : decode cX10_races 21 = .ok (.bipush (-2), 2) := by decide +kernel
theorem dX10_races_23 : decode cX10_races 23 = .ok (.invokevirtual 83, 3) := by decide +kernel
theorem dX10_races_26 : decode cX10_races 26 = .ok (.ireturn, 1) := by decide +kernel
theorem dX10_races_27 : decode cX10_races 27 = .ok (.aload_n 0, 1) := by decide +kernel
theorem dX10_races_28 : decode cX10_races 28 = .ok (.getfield 16, 3) := by decide +kernel
theorem dX10_races_31 : decode cX10_races 31 = .ok (.aload_n 0, 1) := by decide +kernel
theorem dX10_races_32 : decode cX10_races 32 = .ok (.getfield 10, 3) := by decide +kernel
theorem dX10_races_35 : decode cX10_races 35 = .ok (.invokevirtual 256, 3) := by decide +kernel
theorem dX10_races_38 : decode cX10_races 38 = .ok (.iload_n 1, 1) := by decide +kernel
theorem dX10_races_39 : decode cX10_races 39 = .ok (.i2l, 1) := by decide +kernel
theorem dX10_races_4 : decode cX10_races 4 = .ok (.invokestatic 79, 3) := by decide +kernel
theorem dX10_races_40 : decode cX10_races 40 = .ok (.lstore_n 3, 1) := by decide +kernel
theorem dX10_races_41 : decode cX10_races 41 = .ok (.iconst 0, 1) := by decide +kernel
theorem dX10_races_42 : decode cX10_races 42 = .ok (.istore 5, 2) := by decide +kernel
theorem dX10_races_44 : decode cX10_races 44 = .ok (.iload 5, 2) := by decide +kernel
theorem dX10_races_46 : decode cX10_races 46 = .ok (.iload_n 2, 1) := by decide +kernel
theorem dX10_races_47 : decode cX10_races 47 = .ok (.if_icmp .ge 77, 3) := by decide +kernel
theorem dX10_races_50 : decode cX10_races 50 = .ok (.lload_n 3, 1) := by decide +kernel
theorem dX10_races_51 : decode cX10_races 51 = .ok (.ldc2_w 260, 3) := by decide +kernel
theorem dX10_races_54 : decode cX10_races 54 = .ok (.lmul, 1) := by decide +kernel
theorem dX10_races_55 : decode cX10_races 55 = .ok (.ldc2_w 262, 3) := by decide +kernel
theorem dX10_races_58 : decode cX10_races 58 = .ok (.ladd, 1) := by decide +kernel
theorem dX10_races_59 : decode cX10_races 59 = .ok (.ldc2_w 264, 3) := by decide +kernel
theorem dX10_races_62 : decode cX10_races 62 = .ok (.lrem, 1) := by decide +kernel
theorem dX10_races_63 : decode cX10_races 63 = .ok (.lstore_n 3, 1) := by decide +kernel
theorem dX10_races_64 : decode cX10_races 64 = .ok (.lload_n 3, 1) := by decide +kernel
theorem dX10_races_65 : decode cX10_races 65 = .ok (.ldc2_w 266, 3) := by decide +kernel
theorem dX10_races_68 : decode cX10_races 68 = .ok (.ldiv, 1) := by decide +kernel
theorem dX10_races_69 : decode cX10_races 69 = .ok (.ldc2_w 268, 3) := by decide +kernel
theorem dX10_races_7 : decode cX10_races 7 = .ok (.ifCond .eq 13, 3) := by decide +kernel
theorem dX10_races_72 : decode cX10_races 72 = .ok (.lrem, 1) := by decide +kernel
theorem dX10_races_73 : decode cX10_races 73 = .ok (.l2i, 1) := by decide +kernel
theorem dX10_races_74 : decode cX10_races 74 = .ok (.istore 6, 2) := by decide +kernel
theorem dX10_races_76 : decode cX10_races 76 = .ok (.iload 6, 2) := by decide +kernel
theorem dX10_races_78 : decode cX10_races 78 = .ok (.aload_n 0, 1) := by decide +kernel
theorem dX10_races_79 : decode cX10_races 79 = .ok (.getfield 16, 3) := by decide +kernel
theorem dX10_races_82 : decode cX10_races 82 = .ok (.getfield 87, 3) := by decide +kernel
theorem dX10_races_85 : decode cX10_races 85 = .ok (.if_icmp .ge 26, 3) := by decide +kernel
theorem dX10_races_88 : decode cX10_races 88 = .ok (.aload_n 0, 1) := by decide +kernel
theorem dX10_races_89 : decode cX10_races 89 = .ok (.getfield 16, 3) := by decide +kernel
theorem dX10_races_92 : decode cX10_races 92 = .ok (.getfield 126, 3) := by decide +kernel
theorem dX10_races_95 : decode cX10_races 95 = .ok (.iload 6, 2) := by decide +kernel
theorem dX10_races_97 : decode cX10_races 97 = .ok (.aaload, 1) := by decide +kernel
theorem dX10_races_98 : decode cX10_races 98 = .ok (.lload_n 3, 1) := by decide +kernel
theorem dX10_races_99 : decode cX10_races 99 = .ok (.ldc2_w 270, 3) := by decide +kernel
theorem hdV_X5_copyLine : yX5_copyLine.cls = RX5 ∧ yX5_copyLine.cls ≠ "java/lang/invoke/MethodHandle" ∧ yX5_copyLine.cls ≠ "java/lang/invoke/VarHandle" ∧ (parseMethodDescriptor yX5_copyLine.desc).map (fun d => d.parameters.length) = some 1 := by decide +kernel
theorem in_X5_copyFrom_X5 : ∀ w ∈ wsX50, w ∈ wsX5_copyFrom := by decide +kernel
theorem lk_X5_copyFrom_30 : Cond.fieldLink RX5 30 "EggSpoons$Race" "past" "LEggSpoons$Past;" ∈ wsX5_copyFrom := by decide +kernel
theorem hdV_X4_copyFrom : yX4_copyFrom.cls = RX4 ∧ yX4_copyFrom.cls ≠ "java/lang/invoke/MethodHandle" ∧ yX4_copyFrom.cls ≠ "java/lang/invoke/VarHandle" ∧ (parseMethodDescriptor yX4_copyFrom.desc).map (fun d => d.parameters.length) = some 1 := by decide +kernel
theorem lk_X5_copyFrom_39 : Cond.fieldLink RX5 39 "EggSpoons$Race" "seenRows" "LEggSpoons$Rows;" ∈ wsX5_copyFrom := by decide +kernel
theorem hdV_X7_copyFrom : yX7_copyFrom.cls = RX7 ∧ yX7_copyFrom.cls ≠ "java/lang/invoke/MethodHandle" ∧ yX7_copyFrom.cls ≠ "java/lang/invoke/VarHandle" ∧ (parseMethodDescriptor yX7_copyFrom.desc).map (fun d => d.parameters.length) = some 1 := by decide +kernel
theorem lk_X5_copyFrom_43 : Cond.fieldLink RX5 43 "EggSpoons$Race" "noteRows" "LEggSpoons$Rows;" ∈ wsX5_copyFrom := by decide +kernel
theorem lk_X5_copyFrom_46 : Cond.fieldLink RX5 46 "EggSpoons$Race" "markRows" "LEggSpoons$Rows;" ∈ wsX5_copyFrom := by decide +kernel
theorem mm_X10_races_c255 : Cond.constant RX10 255 (999999) ∈ wsX10_races := by decide +kernel
theorem in_X10_races_X10 : ∀ w ∈ wsX100, w ∈ wsX10_races := by decide +kernel
theorem lk_X10_races_16 : Cond.fieldLink RX10 16 "EggSpoons" "spare" "LEggSpoons$Race;" ∈ wsX10_races := by decide +kernel
theorem lk_X10_races_10 : Cond.fieldLink RX10 10 "EggSpoons" "now" "LEggSpoons$Race;" ∈ wsX10_races := by decide +kernel
theorem mm_X10_races_c260 : Cond.constantLong RX10 260 (1103515245) ∈ wsX10_races := by decide +kernel
theorem mm_X10_races_c262 : Cond.constantLong RX10 262 (12345) ∈ wsX10_races := by decide +kernel
theorem mm_X10_races_c264 : Cond.constantLong RX10 264 (2147483648) ∈ wsX10_races := by decide +kernel
theorem mm_X10_races_c266 : Cond.constantLong RX10 266 (65536) ∈ wsX10_races := by decide +kernel
theorem mm_X10_races_c268 : Cond.constantLong RX10 268 (6) ∈ wsX10_races := by decide +kernel
theorem in_X10_races_X5 : ∀ w ∈ wsX50, w ∈ wsX10_races := by decide +kernel
theorem lk_X10_races_87 : Cond.fieldLink RX10 87 "EggSpoons$Race" "runners" "I" ∈ wsX10_races := by decide +kernel
theorem lk_X10_races_126 : Cond.fieldLink RX10 126 "EggSpoons$Race" "row" "[LEggSpoons$Runner;" ∈ wsX10_races := by decide +kernel
theorem mm_X10_races_c270 : Cond.constantLong RX10 270 (1048576) ∈ wsX10_races := by decide +kernel
theorem mm_X10_races_c272 : Cond.constantLong RX10 272 (10) ∈ wsX10_races := by decide +kernel
theorem in_X10_races_X8 : ∀ w ∈ wsX80, w ∈ wsX10_races := by decide +kernel
theorem lk_X10_races_130 : Cond.fieldLink RX10 130 "EggSpoons$Runner" "speed" "I" ∈ wsX10_races := by decide +kernel
set_option maxHeartbeats 4000000 in
set_option maxRecDepth 100000 in
/-- races -/
theorem s_races (l : Launch) (X : EX) (h0 : Nat) (nw : Nat) (sp : Nat) (xa : Nat → Nat) (la : Int64) (lb : Int64) (an : Nat → Nat) (sv : Nat → Int32) (dv : Nat → Int32) (n0 : Nat) (n1 : Nat) (n2 : Nat) (n3 : Nat) (n4 : Nat) (g0 : Nat → Int32) (gs : Nat → Int32) (gn : Nat → Int32) (gm : Nat → Int32) (adp : Nat → Nat) (svp : Nat → Int32) (dvp : Nat → Int32) (n0p : Nat) (n1p : Nat) (n2p : Nat) (n3p : Nat) (n4p : Nat) (g0p : Nat → Int32) (gsp : Nat → Int32) (gnp : Nat → Int32) (gmp : Nat → Int32) (fr : Nat → Int32) (x1 : Int32) (x2 : Int32) (hI_n0 : n0 ≤ 6) (hI_n1 : n1 ≤ 8) (hI_n2 : n2 ≤ 5) (hI_n3 : n3 ≤ 6) (hI_n4 : n4 ≤ 6) (hI_n0p : n0p ≤ 6) (hI_n1p : n1p ≤ 8) (hI_n2p : n2p ≤ 5) (hI_n3p : n3p ≤ 6) (hI_n4p : n4p ≤ 6) (sz : Nat) : Met l yX10_races wsX10_races ({ frames := 3, cells := 0, slots := 0, locals := 70 } : Room) (pE X [.ref h0, .int x1, .int x2] (@HAppend.hAppend va_W va_W va_W _ (xW h0 nw sp xa la lb) (@HAppend.hAppend va_W va_W va_W _ (rcV X nw an sv dv n0 n1 n2 n3 n4 g0 gs gn gm) (@HAppend.hAppend va_W va_W va_W _ (rcV X sp adp svp dvp n0p n1p n2p n3p n4p g0p gsp gnp gmp) ([((xa 5), .inl (X.2.1, 3, .inl fr))])))) sz) (qI (fun (r : Int32) (u : (Nat → Int32) × (Nat → Int32) × (Nat) × (Nat → Int32)) => u.2.2.1 ≤ 6 ∧ (True)) X (fun (u : (Nat → Int32) × (Nat → Int32) × (Nat) × (Nat → Int32)) => @HAppend.hAppend va_W va_W va_W _ (xW h0 nw sp xa la lb) (@HAppend.hAppend va_W va_W va_W _ (rcV X nw an sv dv n0 n1 n2 n3 n4 g0 gs gn gm) (@HAppend.hAppend va_W va_W va_W _ (rcV X sp adp u.1 u.2.1 u.2.2.1 n1p n2p n3p n4p g0p gsp gnp gmp) ([((xa 5), .inl (X.2.1, 3, .inl u.2.2.2))])))) (@HAppend.hAppend va_W va_W va_W _ (xW h0 nw sp xa la lb) (@HAppend.hAppend va_W va_W va_W _ (rcV X nw an sv dv n0 n1 n2 n3 n4 g0 gs gn gm) (@HAppend.hAppend va_W va_W va_W _ (rcV X sp adp svp dvp n0p n1p n2p n3p n4p g0p gsp gnp gmp) ([((xa 5), .inl (X.2.1, 3, .inl fr))])))) sz) 0 0 (va_A (@HAppend.hAppend va_W va_W va_W _ (xW h0 nw sp xa la lb) (@HAppend.hAppend va_W va_W va_W _ (rcV X nw an sv dv n0 n1 n2 n3 n4 g0 gs gn gm) (@HAppend.hAppend va_W va_W va_W _ (rcV X sp adp svp dvp n0p n1p n2p n3p n4p g0p gsp gnp gmp) ([((xa 5), .inl (X.2.1, 3, .inl fr))])))) sz) := by
  refine mk_met (B := (va_A (@HAppend.hAppend va_W va_W va_W _ (xW h0 nw sp xa la lb) (@HAppend.hAppend va_W va_W va_W _ (rcV X nw an sv dv n0 n1 n2 n3 n4 g0 gs gn gm) (@HAppend.hAppend va_W va_W va_W _ (rcV X sp adp svp dvp n0p n1p n2p n3p n4p g0p gsp gnp gmp) ([((xa 5), .inl (X.2.1, 3, .inl fr))])))) sz)) (A := (va_A (@HAppend.hAppend va_W va_W va_W _ (xW h0 nw sp xa la lb) (@HAppend.hAppend va_W va_W va_W _ (rcV X nw an sv dv n0 n1 n2 n3 n4 g0 gs gn gm) (@HAppend.hAppend va_W va_W va_W _ (rcV X sp adp svp dvp n0p n1p n2p n3p n4p g0p gsp gnp gmp) ([((xa 5), .inl (X.2.1, 3, .inl fr))])))) sz)) (cc := cX10_races) (maxL := 7) (ret := (some .int)) (by decide) rfl (Nat.le_of_ble_eq_true rfl) k_w k_a (fun p e s m below meth c S zr zlk znm zsz G ls hl => ?_)
  have S : CallFix p m c cX10_races 7 s _ wsX10_races RX10 := S
  have zx := S.1
  have zb := S.2.1
  have hl : lv_has ls 7 [(0, .ref h0), (1, .int x1), (2, .int x2)] := hl
  refine lv_iload_n zx zb dX10_races_0 rfl (lv_at hl 1 rfl) ?_
  refine lv_iconst (v := 0) zx zb dX10_races_1 (by decide) ?_
  refine lv_ldc zx zb S.2.2.2.1 (S.2.2.2.2 _ mm_X10_races_c255) dX10_races_2 ?_
  refine o_ri (cells' := 0) (slots' := 0) G rfl rfl (n_S (As := [.int x1, .int 0, .int 999999]) (rest := []) S G (s_within l X x1 0 999999 s.heap.size) gX10_races_X10_within rfl rfl rfl hdS_X10_within ⟨Nat.le_of_ble_eq_true rfl, Nat.le_of_ble_eq_true rfl⟩ [] rfl rfl rfl hl.1 (Nat.le_of_ble_eq_true rfl) dX10_races_4 ⟨Nat.le_of_ble_eq_true rfl, Nat.le_of_ble_eq_true rfl⟩) (fun r_1 u_1 H locs hp_1 G => ?_)
  have G : wd X (va_A (@HAppend.hAppend va_W va_W va_W _ (xW h0 nw sp xa la lb) (@HAppend.hAppend va_W va_W va_W _ (rcV X nw an sv dv n0 n1 n2 n3 n4 g0 gs gn gm) (@HAppend.hAppend va_W va_W va_W _ (rcV X sp adp svp dvp n0p n1p n2p n3p n4p g0p gsp gnp gmp) ([((xa 5), .inl (X.2.1, 3, .inl fr))])))) sz) (va_A (@HAppend.hAppend va_W va_W va_W _ (xW h0 nw sp xa la lb) (@HAppend.hAppend va_W va_W va_W _ (rcV X nw an sv dv n0 n1 n2 n3 n4 g0 gs gn gm) (@HAppend.hAppend va_W va_W va_W _ (rcV X sp adp svp dvp n0p n1p n2p n3p n4p g0p gsp gnp gmp) ([((xa 5), .inl (X.2.1, 3, .inl fr))])))) sz) s (@HAppend.hAppend va_W va_W va_W _ (xW h0 nw sp xa la lb) (@HAppend.hAppend va_W va_W va_W _ (rcV X nw an sv dv n0 n1 n2 n3 n4 g0 gs gn gm) (@HAppend.hAppend va_W va_W va_W _ (rcV X sp adp svp dvp n0p n1p n2p n3p n4p g0p gsp gnp gmp) ([((xa 5), .inl (X.2.1, 3, .inl fr))])))) H locs := G
  rcases hp_1 with ⟨rfl, hw_1⟩ | ⟨rfl, hw_1⟩
  · refine lv_if_eq (tgt := 20) zx zb dX10_races_7 (by decide) (fun c_2 => absurd c_2 (by decide)) (fun c_2 => ?_)
    refine lv_iload_n zx zb dX10_races_10 rfl (lv_at hl 2 rfl) ?_
    refine lv_iconst (v := 0) zx zb dX10_races_11 (by decide) ?_
    refine lv_bipush (v := 60) zx zb dX10_races_12 (by decide) ?_
    refine o_ri (cells' := 0) (slots' := 0) G rfl rfl (n_S (As := [.int x2, .int 0, .int 60]) (rest := []) S G (s_within l X x2 0 60 H.size) gX10_races_X10_within rfl rfl rfl hdS_X10_within ⟨Nat.le_of_ble_eq_true rfl, Nat.le_of_ble_eq_true rfl⟩ [] rfl rfl rfl hl.1 (Nat.le_of_ble_eq_true rfl) dX10_races_14 ⟨Nat.le_of_ble_eq_true rfl, Nat.le_of_ble_eq_true rfl⟩) (fun r_3 u_3 H locs hp_3 G => ?_)
    have G : wd X (va_A (@HAppend.hAppend va_W va_W va_W _ (xW h0 nw sp xa la lb) (@HAppend.hAppend va_W va_W va_W _ (rcV X nw an sv dv n0 n1 n2 n3 n4 g0 gs gn gm) (@HAppend.hAppend va_W va_W va_W _ (rcV X sp adp svp dvp n0p n1p n2p n3p n4p g0p gsp gnp gmp) ([((xa 5), .inl (X.2.1, 3, .inl fr))])))) sz) (va_A (@HAppend.hAppend va_W va_W va_W _ (xW h0 nw sp xa la lb) (@HAppend.hAppend va_W va_W va_W _ (rcV X nw an sv dv n0 n1 n2 n3 n4 g0 gs gn gm) (@HAppend.hAppend va_W va_W va_W _ (rcV X sp adp svp dvp n0p n1p n2p n3p n4p g0p gsp gnp gmp) ([((xa 5), .inl (X.2.1, 3, .inl fr))])))) sz) s (@HAppend.hAppend va_W va_W va_W _ (xW h0 nw sp xa la lb) (@HAppend.hAppend va_W va_W va_W _ (rcV X nw an sv dv n0 n1 n2 n3 n4 g0 gs gn gm) (@HAppend.hAppend va_W va_W va_W _ (rcV X sp adp svp dvp n0p n1p n2p n3p n4p g0p gsp gnp gmp) ([((xa 5), .inl (X.2.1, 3, .inl fr))])))) H locs := G
    rcases hp_3 with ⟨rfl, hw_3⟩ | ⟨rfl, hw_3⟩
    · refine lv_if_ne (tgt := 27) zx zb dX10_races_17 (by decide) (fun c_4 => ?_) (fun c_4 => absurd c_4 (by decide))
      obtain ⟨z0, hz0, rfl⟩ := k_seed hw_1
      refine lv_aload_n zx zb dX10_races_27 rfl (lv_at hl 0 rfl) ?_
      refine r_get (C := RX10) (T := TX10) (N := 14) (ci := 8) (v := .ref sp) S in_X10_races_X10 G 0 rfl rfl 1 (by decide) lk_X10_races_16 rfl dX10_races_28 ?_
      refine lv_aload_n zx zb dX10_races_31 rfl (lv_at hl 0 rfl) ?_
      refine r_get (C := RX10) (T := TX10) (N := 14) (ci := 8) (v := .ref nw) S in_X10_races_X10 G 0 rfl rfl 0 (by decide) lk_X10_races_10 rfl dX10_races_32 ?_
      refine b_wv (cells' := 0) (slots' := 0) (wr := @HAppend.hAppend va_W va_W va_W _ (xW h0 nw sp xa la lb) ([((xa 5), .inl (X.2.1, 3, .inl fr))])) G rfl rfl [17, 18, 19, 20, 21, 22, 23, 24, 25, 26, 27, 28, 29, 30, 31, 32, 1, 2, 3, 4, 5, 6, 7, 8, 9, 10, 11, 12, 13, 14, 15, 16] [0, 33] rfl rfl rfl rfl (n_V (As := [.ref nw]) (rest := []) (C := RX5) (T := TX5) (N := 8) (ci := 3) S G (s_copyLine l X sp adp svp dvp n0p n1p n2p n3p n4p g0p gsp gnp gmp nw an sv dv n0 n1 n2 n3 n4 g0 gs gn gm hI_n0p hI_n1p hI_n2p hI_n3p hI_n4p hI_n0 hI_n1 hI_n2 hI_n3 hI_n4 H.size) gX10_races_X5_copyLine rfl rfl rfl hdV_X5_copyLine ⟨Nat.le_of_ble_eq_true rfl, Nat.le_of_ble_eq_true rfl⟩ [17, 18, 19, 20, 21, 22, 23, 24, 25, 26, 27, 28, 29, 30, 31, 32, 1, 2, 3, 4, 5, 6, 7, 8, 9, 10, 11, 12, 13, 14, 15, 16] rfl rfl 17 rfl rfl rfl hl.1 (Nat.le_of_ble_eq_true rfl) dX10_races_35 ⟨Nat.le_of_ble_eq_true rfl, Nat.le_of_ble_eq_true rfl⟩) (fun u_5 H locs hp_5 G => ?_)
      obtain ⟨sv_5a, dv_5b, n0_5c⟩ := u_5
      try dsimp only at hp_5
      obtain ⟨hI_n0_5c, hq_5⟩ := hp_5
      have G : wd X (va_A (@HAppend.hAppend va_W va_W va_W _ (xW h0 nw sp xa la lb) (@HAppend.hAppend va_W va_W va_W _ (rcV X nw an sv dv n0 n1 n2 n3 n4 g0 gs gn gm) (@HAppend.hAppend va_W va_W va_W _ (rcV X sp adp svp dvp n0p n1p n2p n3p n4p g0p gsp gnp gmp) ([((xa 5), .inl (X.2.1, 3, .inl fr))])))) sz) (va_A (@HAppend.hAppend va_W va_W va_W _ (xW h0 nw sp xa la lb) (@HAppend.hAppend va_W va_W va_W _ (rcV X nw an sv dv n0 n1 n2 n3 n4 g0 gs gn gm) (@HAppend.hAppend va_W va_W va_W _ (rcV X sp adp svp dvp n0p n1p n2p n3p n4p g0p gsp gnp gmp) ([((xa 5), .inl (X.2.1, 3, .inl fr))])))) sz) s (@HAppend.hAppend va_W va_W va_W _ (xW h0 nw sp xa la lb) (@HAppend.hAppend va_W va_W va_W _ ([((xa 5), .inl (X.2.1, 3, .inl fr))]) (@HAppend.hAppend va_W va_W va_W _ (rcV X sp adp sv_5a dv_5b n0_5c n1p n2p n3p n4p g0p gsp gnp gmp) (rcV X nw an sv dv n0 n1 n2 n3 n4 g0 gs gn gm)))) H locs := G
      refine lv_iload_n zx zb dX10_races_38 rfl (lv_at hl 1 rfl) ?_
      refine lv_i2l (v := (Int32.toInt64 (nI z0))) zx zb dX10_races_39 rfl ?_
      refine k_ld (nI_l (by omega)) ?_
      refine lv_lstore_n (lv' := [(3, .long (lN z0)), (0, .ref h0), (1, .int (nI z0)), (2, .int x2)]) zx zb dX10_races_40 rfl hl (by decide) rfl (fun ls hl => ?_)
      refine lv_iconst (v := 0) zx zb dX10_races_41 (by decide) ?_
      refine lv_istore (lv' := [(5, .int 0), (3, .long (lN z0)), (0, .ref h0), (1, .int (nI z0)), (2, .int x2)]) zx zb dX10_races_42 hl (by decide) rfl (fun ls hl => ?_)
      refine k_loop (P := ∀ (zm : Nat) (k44 : Nat) (x44_3 : Int64) (dv44_2 : Nat → Int32) (H : Heap) (locs : List Loc) (ls : Array Slot), 61 + 1 ≤ k44 + zm → (k44 ≤ 61) → (∃ q : Nat, q < 2147483648 ∧ x44_3 = lN q) → wd X (va_A (@HAppend.hAppend va_W va_W va_W _ (xW h0 nw sp xa la lb) (@HAppend.hAppend va_W va_W va_W _ (rcV X nw an sv dv n0 n1 n2 n3 n4 g0 gs gn gm) (@HAppend.hAppend va_W va_W va_W _ (rcV X sp adp svp dvp n0p n1p n2p n3p n4p g0p gsp gnp gmp) ([((xa 5), .inl (X.2.1, 3, .inl fr))])))) sz) (va_A (@HAppend.hAppend va_W va_W va_W _ (xW h0 nw sp xa la lb) (@HAppend.hAppend va_W va_W va_W _ (rcV X nw an sv dv n0 n1 n2 n3 n4 g0 gs gn gm) (@HAppend.hAppend va_W va_W va_W _ (rcV X sp adp svp dvp n0p n1p n2p n3p n4p g0p gsp gnp gmp) ([((xa 5), .inl (X.2.1, 3, .inl fr))])))) sz) s (@HAppend.hAppend va_W va_W va_W _ (xW h0 nw sp xa la lb) (@HAppend.hAppend va_W va_W va_W _ ([((xa 5), .inl (X.2.1, 3, .inl fr))]) (@HAppend.hAppend va_W va_W va_W _ (rcV X sp adp sv_5a dv44_2 n0_5c n1p n2p n3p n4p g0p gsp gnp gmp) (rcV X nw an sv dv n0 n1 n2 n3 n4 g0 gs gn gm)))) H locs → lv_has ls 7 [(5, .int (nI k44)), (3, .long x44_3), (0, .ref h0), (1, .int (nI z0)), (2, .int x2)] → W p l e _ s m _ below meth c H locs _ _ _ (F0 m 44 ls [])) (fun loop => loop (61 + 1) 0 (lN z0) dv_5b _ _ _ (by omega) (by omega) (by first | assumption | exact ⟨_, hz0, rfl⟩ | exact ⟨_, hz1, rfl⟩) G hl) ?_
      intro zm
      induction zm with
      | zero => intro k44 x44_3 dv44_2 H locs ls zz q_hk_k44 q_hk_x44_3 _ _; exact absurd zz (by omega)
      | succ zm ih44 =>
        intro k44 x44_3 dv44_2 H locs ls zm_44 hk_k44 hk_x44_3 G hl
        refine lv_iload zx zb dX10_races_44 (lv_at hl 0 rfl) ?_
        refine lv_iload_n zx zb dX10_races_46 rfl (lv_at hl 4 rfl) ?_
        refine lv_icmp_ge (tgt := 124) zx zb dX10_races_47 (by decide) (fun c_6 => ?_) (fun c_6 => ?_)
        · refine lv_aload_n zx zb dX10_races_124 rfl (lv_at hl 2 rfl) ?_
          refine r_get (C := RX10) (T := TX10) (N := 14) (ci := 8) (v := .ref sp) S in_X10_races_X10 G 0 rfl rfl 1 (by decide) lk_X10_races_16 rfl dX10_races_125 ?_
          refine o_ri (cells' := 0) (slots' := 0) G rfl rfl (n_V (As := []) (rest := []) (C := RX5) (T := TX5) (N := 8) (ci := 3) S G (s_homes l X sp adp sv_5a dv44_2 n0_5c n1p n2p n3p n4p g0p gsp gnp gmp hI_n0_5c hI_n1p hI_n2p hI_n3p hI_n4p H.size) gX10_races_X5_homes rfl rfl rfl hdV_X5_homes ⟨Nat.le_of_ble_eq_true rfl, Nat.le_of_ble_eq_true rfl⟩ [2, 3, 4, 5, 6, 7, 8, 9, 10, 11, 12, 13, 14, 15, 16, 17] rfl rfl 2 rfl rfl rfl hl.1 (Nat.le_of_ble_eq_true rfl) dX10_races_128 ⟨Nat.le_of_ble_eq_true rfl, Nat.le_of_ble_eq_true rfl⟩) (fun r_7 u_7 H locs hp_7 G => ?_)
          have G : wd X (va_A (@HAppend.hAppend va_W va_W va_W _ (xW h0 nw sp xa la lb) (@HAppend.hAppend va_W va_W va_W _ (rcV X nw an sv dv n0 n1 n2 n3 n4 g0 gs gn gm) (@HAppend.hAppend va_W va_W va_W _ (rcV X sp adp svp dvp n0p n1p n2p n3p n4p g0p gsp gnp gmp) ([((xa 5), .inl (X.2.1, 3, .inl fr))])))) sz) (va_A (@HAppend.hAppend va_W va_W va_W _ (xW h0 nw sp xa la lb) (@HAppend.hAppend va_W va_W va_W _ (rcV X nw an sv dv n0 n1 n2 n3 n4 g0 gs gn gm) (@HAppend.hAppend va_W va_W va_W _ (rcV X sp adp svp dvp n0p n1p n2p n3p n4p g0p gsp gnp gmp) ([((xa 5), .inl (X.2.1, 3, .inl fr))])))) sz) s (@HAppend.hAppend va_W va_W va_W _ (xW h0 nw sp xa la lb) (@HAppend.hAppend va_W va_W va_W _ ([((xa 5), .inl (X.2.1, 3, .inl fr))]) (@HAppend.hAppend va_W va_W va_W _ (rcV X sp adp sv_5a dv44_2 n0_5c n1p n2p n3p n4p g0p gsp gnp gmp) (rcV X nw an sv dv n0 n1 n2 n3 n4 g0 gs gn gm)))) H locs := G
          exact e_int S zr zlk (vp_nar_int _) G (sv_5a, dv44_2, n0_5c, fr) [0, 18, 19, 20, 21, 22, 23, 24, 25, 26, 27, 28, 29, 30, 31, 32, 33, 2, 3, 4, 5, 6, 7, 8, 9, 10, 11, 12, 13, 14, 15, 16, 17, 1] rfl rfl (Or.inr rfl) (⟨hI_n0_5c, trivial⟩) dX10_races_131
        · have fk_c_6 := k_lt60 (Int32.not_le.mp c_6) hw_3.2 (by omega)
          obtain ⟨z, zz, rfl⟩ := hk_x44_3
          refine lv_lload_n zx zb dX10_races_50 rfl (lv_at hl 1 rfl) ?_
          refine lv_ldc2 zx zb S.2.2.2.1 (S.2.2.2.2 _ mm_X10_races_c260) dX10_races_51 ?_
          refine k_ld (v := (Int32.toInt64 1103515245)) (by decide) ?_
          refine r_lmul (v := ((lN z) * (Int32.toInt64 1103515245))) S rfl dX10_races_54 ?_
          refine lv_ldc2 zx zb S.2.2.2.1 (S.2.2.2.2 _ mm_X10_races_c262) dX10_races_55 ?_
          refine k_ld (v := (Int32.toInt64 12345)) (by decide) ?_
          refine r_ladd (v := (((lN z) * (Int32.toInt64 1103515245)) + (Int32.toInt64 12345))) S rfl dX10_races_58 ?_
          refine lv_ldc2 zx zb S.2.2.2.1 (S.2.2.2.2 _ mm_X10_races_c264) dX10_races_59 ?_
          refine lv_lrem zx zb dX10_races_62 (by decide) ?_
          obtain ⟨z1, hz1, ez1⟩ := k_rx zz
          refine k_ld ez1 ?_
          refine lv_lstore_n (lv' := [(3, .long (lN z1)), (5, .int (nI k44)), (0, .ref h0), (1, .int (nI z0)), (2, .int x2)]) zx zb dX10_races_63 rfl hl (by decide) rfl (fun ls hl => ?_)
          refine lv_lload_n zx zb dX10_races_64 rfl (lv_at hl 0 rfl) ?_
          refine lv_ldc2 zx zb S.2.2.2.1 (S.2.2.2.2 _ mm_X10_races_c266) dX10_races_65 ?_
          refine k_ld (v := (Int32.toInt64 65536)) (by decide) ?_
          refine lv_ldiv zx zb dX10_races_68 (by decide) ?_
          refine lv_ldc2 zx zb S.2.2.2.1 (S.2.2.2.2 _ mm_X10_races_c268) dX10_races_69 ?_
          refine k_ld (v := (Int32.toInt64 6)) (by decide) ?_
          refine lv_lrem zx zb dX10_races_72 (by decide) ?_
          refine lv_l2i (v := (Int64.toInt32 (((lN z1) / (Int32.toInt64 65536)) - ((lN z1) / (Int32.toInt64 65536)) / (Int32.toInt64 6) * (Int32.toInt64 6)))) zx zb dX10_races_73 rfl ?_
          obtain ⟨j, hj, ej⟩ := k_ri hz1
          refine k_it ej ?_
          refine lv_istore (lv' := [(6, .int (nI j)), (3, .long (lN z1)), (5, .int (nI k44)), (0, .ref h0), (1, .int (nI z0)), (2, .int x2)]) zx zb dX10_races_74 hl (by decide) rfl (fun ls hl => ?_)
          refine lv_iload zx zb dX10_races_76 (lv_at hl 0 rfl) ?_
          refine lv_aload_n zx zb dX10_races_78 rfl (lv_at hl 3 rfl) ?_
          refine r_get (C := RX10) (T := TX10) (N := 14) (ci := 8) (v := .ref sp) S in_X10_races_X10 G 0 rfl rfl 1 (by decide) lk_X10_races_16 rfl dX10_races_79 ?_
          refine r_get (C := RX5) (T := TX5) (N := 8) (ci := 3) (v := .int (nI n0_5c)) S in_X10_races_X5 G 2 rfl rfl 2 (by decide) lk_X10_races_87 rfl dX10_races_82 ?_
          refine k_cutW (PP := fun Wx => ∀ (dv_9 : Nat → Int32) (H : Heap) (locs : List Loc) (ls : Array Slot), wd X (va_A (@HAppend.hAppend va_W va_W va_W _ (xW h0 nw sp xa la lb) (@HAppend.hAppend va_W va_W va_W _ (rcV X nw an sv dv n0 n1 n2 n3 n4 g0 gs gn gm) (@HAppend.hAppend va_W va_W va_W _ (rcV X sp adp svp dvp n0p n1p n2p n3p n4p g0p gsp gnp gmp) ([((xa 5), .inl (X.2.1, 3, .inl fr))])))) sz) (va_A (@HAppend.hAppend va_W va_W va_W _ (xW h0 nw sp xa la lb) (@HAppend.hAppend va_W va_W va_W _ (rcV X nw an sv dv n0 n1 n2 n3 n4 g0 gs gn gm) (@HAppend.hAppend va_W va_W va_W _ (rcV X sp adp svp dvp n0p n1p n2p n3p n4p g0p gsp gnp gmp) ([((xa 5), .inl (X.2.1, 3, .inl fr))])))) sz) s (@HAppend.hAppend va_W va_W va_W _ (xW h0 nw sp xa la lb) (@HAppend.hAppend va_W va_W va_W _ ([((xa 5), .inl (X.2.1, 3, .inl fr))]) (@HAppend.hAppend va_W va_W va_W _ (rcV X sp adp sv_5a dv_9 n0_5c n1p n2p n3p n4p g0p gsp gnp gmp) (rcV X nw an sv dv n0 n1 n2 n3 n4 g0 gs gn gm)))) H locs → lv_has ls 7 [(6, .int (nI j)), (3, .long (lN z1)), (5, .int (nI k44)), (0, .ref h0), (1, .int (nI z0)), (2, .int x2)] → Wx (F0 m 111 ls []) H locs) ?_ ?_
          · intro join_85
            refine lv_icmp_ge (tgt := 111) zx zb dX10_races_85 (by decide) (fun c_8 => ?_) (fun c_8 => ?_)
            · have fc_8 := j_le (a := n0_5c) (b := j) (by omega) (by omega) c_8
              exact join_85 dv44_2 _ _ _  G hl
            · have fc_8 := j_nle (a := n0_5c) (b := j) (by omega) (by omega) c_8
              refine lv_aload_n zx zb dX10_races_88 rfl (lv_at hl 3 rfl) ?_
              refine r_get (C := RX10) (T := TX10) (N := 14) (ci := 8) (v := .ref sp) S in_X10_races_X10 G 0 rfl rfl 1 (by decide) lk_X10_races_16 rfl dX10_races_89 ?_
              refine r_get (C := RX5) (T := TX5) (N := 8) (ci := 3) (v := .ref (adp 0)) S in_X10_races_X5 G 2 rfl rfl 3 (by decide) lk_X10_races_126 rfl dX10_races_92 ?_
              refine lv_iload zx zb dX10_races_95 (lv_at hl 0 rfl) ?_
              rcases k_6c (show j < 6 by omega) with rfl | rfl | rfl | rfl | rfl | rfl
              · refine k_it (v := 0) rfl ?_
                refine r_aald (C := RX8) (b := (adp 1)) S G 3 3 rfl rfl (k_vp (by decide)) rfl dX10_races_97 ?_
                refine lv_lload_n zx zb dX10_races_98 rfl (lv_at hl 1 rfl) ?_
                refine lv_ldc2 zx zb S.2.2.2.1 (S.2.2.2.2 _ mm_X10_races_c270) dX10_races_99 ?_
                refine k_ld (v := (Int32.toInt64 1048576)) (by decide) ?_
                refine lv_ldiv zx zb dX10_races_102 (by decide) ?_
                refine k_ldE (fun y_10 => ?_)
                refine lv_ldc2 zx zb S.2.2.2.1 (S.2.2.2.2 _ mm_X10_races_c272) dX10_races_103 ?_
                refine k_ld (v := (Int32.toInt64 10)) (by decide) ?_
                refine lv_lrem zx zb dX10_races_106 (by decide) ?_
                refine k_ldE (fun y_11 => ?_)
                refine lv_l2i (v := (Int64.toInt32 y_11)) zx zb dX10_races_107 rfl ?_
                refine r_put (C := RX8) (T := TX8) (N := 8) (ci := 6) (v := .int (Int64.toInt32 y_11)) S in_X10_races_X8 tyX8_ok nmX8 G 4 rfl rfl 3 (by decide) lk_X10_races_130 rfl (vp_nar_int _) rfl (Nat.le_of_ble_eq_true rfl) dX10_races_108 (fun H locs G => ?_)
                obtain ⟨dv_12, G⟩ : ∃ dv_12 : Nat → Int32, wd X (va_A (@HAppend.hAppend va_W va_W va_W _ (xW h0 nw sp xa la lb) (@HAppend.hAppend va_W va_W va_W _ (rcV X nw an sv dv n0 n1 n2 n3 n4 g0 gs gn gm) (@HAppend.hAppend va_W va_W va_W _ (rcV X sp adp svp dvp n0p n1p n2p n3p n4p g0p gsp gnp gmp) ([((xa 5), .inl (X.2.1, 3, .inl fr))])))) sz) (va_A (@HAppend.hAppend va_W va_W va_W _ (xW h0 nw sp xa la lb) (@HAppend.hAppend va_W va_W va_W _ (rcV X nw an sv dv n0 n1 n2 n3 n4 g0 gs gn gm) (@HAppend.hAppend va_W va_W va_W _ (rcV X sp adp svp dvp n0p n1p n2p n3p n4p g0p gsp gnp gmp) ([((xa 5), .inl (X.2.1, 3, .inl fr))])))) sz) s (@HAppend.hAppend va_W va_W va_W _ (xW h0 nw sp xa la lb) (@HAppend.hAppend va_W va_W va_W _ ([((xa 5), .inl (X.2.1, 3, .inl fr))]) (@HAppend.hAppend va_W va_W va_W _ (rcV X sp adp sv_5a dv_12 n0_5c n1p n2p n3p n4p g0p gsp gnp gmp) (rcV X nw an sv dv n0 n1 n2 n3 n4 g0 gs gn gm)))) H locs := ⟨upd dv44_2 10 (Int64.toInt32 y_11), G⟩
                exact join_85 dv_12 _ _ _  G hl
              · refine k_it (v := 1) rfl ?_
                refine r_aald (C := RX8) (b := (adp 2)) S G 3 3 rfl rfl (k_vp (by decide)) rfl dX10_races_97 ?_
                refine lv_lload_n zx zb dX10_races_98 rfl (lv_at hl 1 rfl) ?_
                refine lv_ldc2 zx zb S.2.2.2.1 (S.2.2.2.2 _ mm_X10_races_c270) dX10_races_99 ?_
                refine k_ld (v := (Int32.toInt64 1048576)) (by decide) ?_
                refine lv_ldiv zx zb dX10_races_102 (by decide) ?_
                refine k_ldE (fun y_13 => ?_)
                refine lv_ldc2 zx zb S.2.2.2.1 (S.2.2.2.2 _ mm_X10_races_c272) dX10_races_103 ?_
                refine k_ld (v := (Int32.toInt64 10)) (by decide) ?_
                refine lv_lrem zx zb dX10_races_106 (by decide) ?_
                refine k_ldE (fun y_14 => ?_)
                refine lv_l2i (v := (Int64.toInt32 y_14)) zx zb dX10_races_107 rfl ?_
                refine r_put (C := RX8) (T := TX8) (N := 8) (ci := 6) (v := .int (Int64.toInt32 y_14)) S in_X10_races_X8 tyX8_ok nmX8 G 5 rfl rfl 3 (by decide) lk_X10_races_130 rfl (vp_nar_int _) rfl (Nat.le_of_ble_eq_true rfl) dX10_races_108 (fun H locs G => ?_)
                obtain ⟨dv_15, G⟩ : ∃ dv_15 : Nat → Int32, wd X (va_A (@HAppend.hAppend va_W va_W va_W _ (xW h0 nw sp xa la lb) (@HAppend.hAppend va_W va_W va_W _ (rcV X nw an sv dv n0 n1 n2 n3 n4 g0 gs gn gm) (@HAppend.hAppend va_W va_W va_W _ (rcV X sp adp svp dvp n0p n1p n2p n3p n4p g0p gsp gnp gmp) ([((xa 5), .inl (X.2.1, 3, .inl fr))])))) sz) (va_A (@HAppend.hAppend va_W va_W va_W _ (xW h0 nw sp xa la lb) (@HAppend.hAppend va_W va_W va_W _ (rcV X nw an sv dv n0 n1 n2 n3 n4 g0 gs gn gm) (@HAppend.hAppend va_W va_W va_W _ (rcV X sp adp svp dvp n0p n1p n2p n3p n4p g0p gsp gnp gmp) ([((xa 5), .inl (X.2.1, 3, .inl fr))])))) sz) s (@HAppend.hAppend va_W va_W va_W _ (xW h0 nw sp xa la lb) (@HAppend.hAppend va_W va_W va_W _ ([((xa 5), .inl (X.2.1, 3, .inl fr))]) (@HAppend.hAppend va_W va_W va_W _ (rcV X sp adp sv_5a dv_15 n0_5c n1p n2p n3p n4p g0p gsp gnp gmp) (rcV X nw an sv dv n0 n1 n2 n3 n4 g0 gs gn gm)))) H locs := ⟨upd dv44_2 15 (Int64.toInt32 y_14), G⟩
                exact join_85 dv_15 _ _ _  G hl
              · refine k_it (v := 2) rfl ?_
                refine r_aald (C := RX8) (b := (adp 3)) S G 3 3 rfl rfl (k_vp (by decide)) rfl dX10_races_97 ?_
                refine lv_lload_n zx zb dX10_races_98 rfl (lv_at hl 1 rfl) ?_
                refine lv_ldc2 zx zb S.2.2.2.1 (S.2.2.2.2 _ mm_X10_races_c270) dX10_races_99 ?_
                refine k_ld (v := (Int32.toInt64 1048576)) (by decide) ?_
                refine lv_ldiv zx zb dX10_races_102 (by decide) ?_
                refine k_ldE (fun y_16 => ?_)
                refine lv_ldc2 zx zb S.2.2.2.1 (S.2.2.2.2 _ mm_X10_races_c272) dX10_races_103 ?_
                refine k_ld (v := (Int32.toInt64 10)) (by decide) ?_
                refine lv_lrem zx zb dX10_races_106 (by decide) ?_
                refine k_ldE (fun y_17 => ?_)
                refine lv_l2i (v := (Int64.toInt32 y_17)) zx zb dX10_races_107 rfl ?_
                refine r_put (C := RX8) (T := TX8) (N := 8) (ci := 6) (v := .int (Int64.toInt32 y_17)) S in_X10_races_X8 tyX8_ok nmX8 G 6 rfl rfl 3 (by decide) lk_X10_races_130 rfl (vp_nar_int _) rfl (Nat.le_of_ble_eq_true rfl) dX10_races_108 (fun H locs G => ?_)
                obtain ⟨dv_18, G⟩ : ∃ dv_18 : Nat → Int32, wd X (va_A (@HAppend.hAppend va_W va_W va_W _ (xW h0 nw sp xa la lb) (@HAppend.hAppend va_W va_W va_W _ (rcV X nw an sv dv n0 n1 n2 n3 n4 g0 gs gn gm) (@HAppend.hAppend va_W va_W va_W _ (rcV X sp adp svp dvp n0p n1p n2p n3p n4p g0p gsp gnp gmp) ([((xa 5), .inl (X.2.1, 3, .inl fr))])))) sz) (va_A (@HAppend.hAppend va_W va_W va_W _ (xW h0 nw sp xa la lb) (@HAppend.hAppend va_W va_W va_W _ (rcV X nw an sv dv n0 n1 n2 n3 n4 g0 gs gn gm) (@HAppend.hAppend va_W va_W va_W _ (rcV X sp adp svp dvp n0p n1p n2p n3p n4p g0p gsp gnp gmp) ([((xa 5), .inl (X.2.1, 3, .inl fr))])))) sz) s (@HAppend.hAppend va_W va_W va_W _ (xW h0 nw sp xa la lb) (@HAppend.hAppend va_W va_W va_W _ ([((xa 5), .inl (X.2.1, 3, .inl fr))]) (@HAppend.hAppend va_W va_W va_W _ (rcV X sp adp sv_5a dv_18 n0_5c n1p n2p n3p n4p g0p gsp gnp gmp) (rcV X nw an sv dv n0 n1 n2 n3 n4 g0 gs gn gm)))) H locs := ⟨upd dv44_2 20 (Int64.toInt32 y_17), G⟩
                exact join_85 dv_18 _ _ _  G hl
              · refine k_it (v := 3) rfl ?_
                refine r_aald (C := RX8) (b := (adp 4)) S G 3 3 rfl rfl (k_vp (by decide)) rfl dX10_races_97 ?_
                refine lv_lload_n zx zb dX10_races_98 rfl (lv_at hl 1 rfl) ?_
                refine lv_ldc2 zx zb S.2.2.2.1 (S.2.2.2.2 _ mm_X10_races_c270) dX10_races_99 ?_
                refine k_ld (v := (Int32.toInt64 1048576)) (by decide) ?_
                refine lv_ldiv zx zb dX10_races_102 (by decide) ?_
                refine k_ldE (fun y_19 => ?_)
                refine lv_ldc2 zx zb S.2.2.2.1 (S.2.2.2.2 _ mm_X10_races_c272) dX10_races_103 ?_
                refine k_ld (v := (Int32.toInt64 10)) (by decide) ?_
                refine lv_lrem zx zb dX10_races_106 (by decide) ?_
                refine k_ldE (fun y_20 => ?_)
                refine lv_l2i (v := (Int64.toInt32 y_20)) zx zb dX10_races_107 rfl ?_
                refine r_put (C := RX8) (T := TX8) (N := 8) (ci := 6) (v := .int (Int64.toInt32 y_20)) S in_X10_races_X8 tyX8_ok nmX8 G 7 rfl rfl 3 (by decide) lk_X10_races_130 rfl (vp_nar_int _) rfl (Nat.le_of_ble_eq_true rfl) dX10_races_108 (fun H locs G => ?_)
                obtain ⟨dv_21, G⟩ : ∃ dv_21 : Nat → Int32, wd X (va_A (@HAppend.hAppend va_W va_W va_W _ (xW h0 nw sp xa la lb) (@HAppend.hAppend va_W va_W va_W _ (rcV X nw an sv dv n0 n1 n2 n3 n4 g0 gs gn gm) (@HAppend.hAppend va_W va_W va_W _ (rcV X sp adp svp dvp n0p n1p n2p n3p n4p g0p gsp gnp gmp) ([((xa 5), .inl (X.2.1, 3, .inl fr))])))) sz) (va_A (@HAppend.hAppend va_W va_W va_W _ (xW h0 nw sp xa la lb) (@HAppend.hAppend va_W va_W va_W _ (rcV X nw an sv dv n0 n1 n2 n3 n4 g0 gs gn gm) (@HAppend.hAppend va_W va_W va_W _ (rcV X sp adp svp dvp n0p n1p n2p n3p n4p g0p gsp gnp gmp) ([((xa 5), .inl (X.2.1, 3, .inl fr))])))) sz) s (@HAppend.hAppend va_W va_W va_W _ (xW h0 nw sp xa la lb) (@HAppend.hAppend va_W va_W va_W _ ([((xa 5), .inl (X.2.1, 3, .inl fr))]) (@HAppend.hAppend va_W va_W va_W _ (rcV X sp adp sv_5a dv_21 n0_5c n1p n2p n3p n4p g0p gsp gnp gmp) (rcV X nw an sv dv n0 n1 n2 n3 n4 g0 gs gn gm)))) H locs := ⟨upd dv44_2 25 (Int64.toInt32 y_20), G⟩
                exact join_85 dv_21 _ _ _  G hl
              · refine k_it (v := 4) rfl ?_
                refine r_aald (C := RX8) (b := (adp 5)) S G 3 3 rfl rfl (k_vp (by decide)) rfl dX10_races_97 ?_
                refine lv_lload_n zx zb dX10_races_98 rfl (lv_at hl 1 rfl) ?_
                refine lv_ldc2 zx zb S.2.2.2.1 (S.2.2.2.2 _ mm_X10_races_c270) dX10_races_99 ?_
                refine k_ld (v := (Int32.toInt64 1048576)) (by decide) ?_
                refine lv_ldiv zx zb dX10_races_102 (by decide) ?_
                refine k_ldE (fun y_22 => ?_)
                refine lv_ldc2 zx zb S.2.2.2.1 (S.2.2.2.2 _ mm_X10_races_c272) dX10_races_103 ?_
                refine k_ld (v := (Int32.toInt64 10)) (by decide) ?_
                refine lv_lrem zx zb dX10_races_106 (by decide) ?_
                refine k_ldE (fun y_23 => ?_)
                refine lv_l2i (v := (Int64.toInt32 y_23)) zx zb dX10_races_107 rfl ?_
                refine r_put (C := RX8) (T := TX8) (N := 8) (ci := 6) (v := .int (Int64.toInt32 y_23)) S in_X10_races_X8 tyX8_ok nmX8 G 8 rfl rfl 3 (by decide) lk_X10_races_130 rfl (vp_nar_int _) rfl (Nat.le_of_ble_eq_true rfl) dX10_races_108 (fun H locs G => ?_)
                obtain ⟨dv_24, G⟩ : ∃ dv_24 : Nat → Int32, wd X (va_A (@HAppend.hAppend va_W va_W va_W _ (xW h0 nw sp xa la lb) (@HAppend.hAppend va_W va_W va_W _ (rcV X nw an sv dv n0 n1 n2 n3 n4 g0 gs gn gm) (@HAppend.hAppend va_W va_W va_W _ (rcV X sp adp svp dvp n0p n1p n2p n3p n4p g0p gsp gnp gmp) ([((xa 5), .inl (X.2.1, 3, .inl fr))])))) sz) (va_A (@HAppend.hAppend va_W va_W va_W _ (xW h0 nw sp xa la lb) (@HAppend.hAppend va_W va_W va_W _ (rcV X nw an sv dv n0 n1 n2 n3 n4 g0 gs gn gm) (@HAppend.hAppend va_W va_W va_W _ (rcV X sp adp svp dvp n0p n1p n2p n3p n4p g0p gsp gnp gmp) ([((xa 5), .inl (X.2.1, 3, .inl fr))])))) sz) s (@HAppend.hAppend va_W va_W va_W _ (xW h0 nw sp xa la lb) (@HAppend.hAppend va_W va_W va_W _ ([((xa 5), .inl (X.2.1, 3, .inl fr))]) (@HAppend.hAppend va_W va_W va_W _ (rcV X sp adp sv_5a dv_24 n0_5c n1p n2p n3p n4p g0p gsp gnp gmp) (rcV X nw an sv dv n0 n1 n2 n3 n4 g0 gs gn gm)))) H locs := ⟨upd dv44_2 30 (Int64.toInt32 y_23), G⟩
                exact join_85 dv_24 _ _ _  G hl
              · refine k_it (v := 5) rfl ?_
                refine r_aald (C := RX8) (b := (adp 6)) S G 3 3 rfl rfl (k_vp (by decide)) rfl dX10_races_97 ?_
                refine lv_lload_n zx zb dX10_races_98 rfl (lv_at hl 1 rfl) ?_
                refine lv_ldc2 zx zb S.2.2.2.1 (S.2.2.2.2 _ mm_X10_races_c270) dX10_races_99 ?_
                refine k_ld (v := (Int32.toInt64 1048576)) (by decide) ?_
                refine lv_ldiv zx zb dX10_races_102 (by decide) ?_
                refine k_ldE (fun y_25 => ?_)
                refine lv_ldc2 zx zb S.2.2.2.1 (S.2.2.2.2 _ mm_X10_races_c272) dX10_races_103 ?_
                refine k_ld (v := (Int32.toInt64 10)) (by decide) ?_
                refine lv_lrem zx zb dX10_races_106 (by decide) ?_
                refine k_ldE (fun y_26 => ?_)
                refine lv_l2i (v := (Int64.toInt32 y_26)) zx zb dX10_races_107 rfl ?_
                refine r_put (C := RX8) (T := TX8) (N := 8) (ci := 6) (v := .int (Int64.toInt32 y_26)) S in_X10_races_X8 tyX8_ok nmX8 G 9 rfl rfl 3 (by decide) lk_X10_races_130 rfl (vp_nar_int _) rfl (Nat.le_of_ble_eq_true rfl) dX10_races_108 (fun H locs G => ?_)
                obtain ⟨dv_27, G⟩ : ∃ dv_27 : Nat → Int32, wd X (va_A (@HAppend.hAppend va_W va_W va_W _ (xW h0 nw sp xa la lb) (@HAppend.hAppend va_W va_W va_W _ (rcV X nw an sv dv n0 n1 n2 n3 n4 g0 gs gn gm) (@HAppend.hAppend va_W va_W va_W _ (rcV X sp adp svp dvp n0p n1p n2p n3p n4p g0p gsp gnp gmp) ([((xa 5), .inl (X.2.1, 3, .inl fr))])))) sz) (va_A (@HAppend.hAppend va_W va_W va_W _ (xW h0 nw sp xa la lb) (@HAppend.hAppend va_W va_W va_W _ (rcV X nw an sv dv n0 n1 n2 n3 n4 g0 gs gn gm) (@HAppend.hAppend va_W va_W va_W _ (rcV X sp adp svp dvp n0p n1p n2p n3p n4p g0p gsp gnp gmp) ([((xa 5), .inl (X.2.1, 3, .inl fr))])))) sz) s (@HAppend.hAppend va_W va_W va_W _ (xW h0 nw sp xa la lb) (@HAppend.hAppend va_W va_W va_W _ ([((xa 5), .inl (X.2.1, 3, .inl fr))]) (@HAppend.hAppend va_W va_W va_W _ (rcV X sp adp sv_5a dv_27 n0_5c n1p n2p n3p n4p g0p gsp gnp gmp) (rcV X nw an sv dv n0 n1 n2 n3 n4 g0 gs gn gm)))) H locs := ⟨upd dv44_2 35 (Int64.toInt32 y_26), G⟩
                exact join_85 dv_27 _ _ _  G hl
          · intro dv_9 H locs ls  G hl
            refine lv_aload_n zx zb dX10_races_111 rfl (lv_at hl 3 rfl) ?_
            refine r_get (C := RX10) (T := TX10) (N := 14) (ci := 8) (v := .ref sp) S in_X10_races_X10 G 0 rfl rfl 1 (by decide) lk_X10_races_16 rfl dX10_races_112 ?_
            refine b_wv (cells' := 0) (slots' := 0) (wr := @HAppend.hAppend va_W va_W va_W _ (xW h0 nw sp xa la lb) (@HAppend.hAppend va_W va_W va_W _ ([((xa 5), .inl (X.2.1, 3, .inl fr))]) (rcV X nw an sv dv n0 n1 n2 n3 n4 g0 gs gn gm))) G rfl rfl [2, 3, 4, 5, 6, 7, 8, 9, 10, 11, 12, 13, 14, 15, 16, 17] [0, 1, 18, 19, 20, 21, 22, 23, 24, 25, 26, 27, 28, 29, 30, 31, 32, 33] rfl rfl rfl rfl (n_V (As := []) (rest := []) (C := RX5) (T := TX5) (N := 8) (ci := 3) S G (s_goOn l X sp adp sv_5a dv_9 n0_5c n1p n2p n3p n4p g0p gsp gnp gmp hI_n0_5c hI_n1p hI_n2p hI_n3p hI_n4p H.size) gX10_races_X5_goOn rfl rfl rfl hdV_X5_goOn ⟨Nat.le_of_ble_eq_true rfl, Nat.le_of_ble_eq_true rfl⟩ [2, 3, 4, 5, 6, 7, 8, 9, 10, 11, 12, 13, 14, 15, 16, 17] rfl rfl 2 rfl rfl rfl hl.1 (Nat.le_of_ble_eq_true rfl) dX10_races_115 ⟨Nat.le_of_ble_eq_true rfl, Nat.le_of_ble_eq_true rfl⟩) (fun u_28 H locs hp_28 G => ?_)
            obtain ⟨dv_28, rfl⟩ : ∃ z, z = u_28 := ⟨_, rfl⟩
            have hq_28 := hp_28
            have G : wd X (va_A (@HAppend.hAppend va_W va_W va_W _ (xW h0 nw sp xa la lb) (@HAppend.hAppend va_W va_W va_W _ (rcV X nw an sv dv n0 n1 n2 n3 n4 g0 gs gn gm) (@HAppend.hAppend va_W va_W va_W _ (rcV X sp adp svp dvp n0p n1p n2p n3p n4p g0p gsp gnp gmp) ([((xa 5), .inl (X.2.1, 3, .inl fr))])))) sz) (va_A (@HAppend.hAppend va_W va_W va_W _ (xW h0 nw sp xa la lb) (@HAppend.hAppend va_W va_W va_W _ (rcV X nw an sv dv n0 n1 n2 n3 n4 g0 gs gn gm) (@HAppend.hAppend va_W va_W va_W _ (rcV X sp adp svp dvp n0p n1p n2p n3p n4p g0p gsp gnp gmp) ([((xa 5), .inl (X.2.1, 3, .inl fr))])))) sz) s (@HAppend.hAppend va_W va_W va_W _ (xW h0 nw sp xa la lb) (@HAppend.hAppend va_W va_W va_W _ ([((xa 5), .inl (X.2.1, 3, .inl fr))]) (@HAppend.hAppend va_W va_W va_W _ (rcV X nw an sv dv n0 n1 n2 n3 n4 g0 gs gn gm) (rcV X sp adp sv_5a dv_28 n0_5c n1p n2p n3p n4p g0p gsp gnp gmp)))) H locs := G
            refine lv_iinc (v := (nI (k44 + 1))) (lv' := [(5, .int (nI (k44 + 1))), (6, .int (nI j)), (3, .long (lN z1)), (0, .ref h0), (1, .int (nI z0)), (2, .int x2)]) zx zb dX10_races_118 hl (k := 2) rfl (nI_add k44 1) (by decide) rfl (fun ls hl => ?_)
            refine lv_goto (tgt := 44) zx zb dX10_races_121 (by decide) ?_
            have G : wd X (va_A (@HAppend.hAppend va_W va_W va_W _ (xW h0 nw sp xa la lb) (@HAppend.hAppend va_W va_W va_W _ (rcV X nw an sv dv n0 n1 n2 n3 n4 g0 gs gn gm) (@HAppend.hAppend va_W va_W va_W _ (rcV X sp adp svp dvp n0p n1p n2p n3p n4p g0p gsp gnp gmp) ([((xa 5), .inl (X.2.1, 3, .inl fr))])))) sz) (va_A (@HAppend.hAppend va_W va_W va_W _ (xW h0 nw sp xa la lb) (@HAppend.hAppend va_W va_W va_W _ (rcV X nw an sv dv n0 n1 n2 n3 n4 g0 gs gn gm) (@HAppend.hAppend va_W va_W va_W _ (rcV X sp adp svp dvp n0p n1p n2p n3p n4p g0p gsp gnp gmp) ([((xa 5), .inl (X.2.1, 3, .inl fr))])))) sz) s (@HAppend.hAppend va_W va_W va_W _ (xW h0 nw sp xa la lb) (@HAppend.hAppend va_W va_W va_W _ ([((xa 5), .inl (X.2.1, 3, .inl fr))]) (@HAppend.hAppend va_W va_W va_W _ (rcV X sp adp sv_5a dv_28 n0_5c n1p n2p n3p n4p g0p gsp gnp gmp) (rcV X nw an sv dv n0 n1 n2 n3 n4 g0 gs gn gm)))) H locs := wd_sub G [0, 1, 18, 19, 20, 21, 22, 23, 24, 25, 26, 27, 28, 29, 30, 31, 32, 33, 2, 3, 4, 5, 6, 7, 8, 9, 10, 11, 12, 13, 14, 15, 16, 17] rfl rfl
            have hl := lv_sub hl (l' := [(5, .int (nI (k44 + 1))), (3, .long (lN z1)), (0, .ref h0), (1, .int (nI z0)), (2, .int x2)]) [0, 2, 3, 4, 5] rfl
            exact ih44 (k44 + 1) (lN z1) dv_28 _ _ _ (by omega) (by omega) (by first | assumption | exact ⟨_, hz0, rfl⟩ | exact ⟨_, hz1, rfl⟩) G hl
    · refine lv_if_ne (tgt := 27) zx zb dX10_races_17 (by decide) (fun c_29 => absurd (by decide) c_29) (fun c_29 => ?_)
      refine lv_aload_n zx zb dX10_races_20 rfl (lv_at hl 0 rfl) ?_
      refine lv_bipush (v := (-2)) zx zb dX10_races_21 (by decide) ?_
      refine b_wi (cells' := 0) (slots' := 0) (wr := @HAppend.hAppend va_W va_W va_W _ (rcV X nw an sv dv n0 n1 n2 n3 n4 g0 gs gn gm) (rcV X sp adp svp dvp n0p n1p n2p n3p n4p g0p gsp gnp gmp)) G rfl rfl [0, 33] [1, 2, 3, 4, 5, 6, 7, 8, 9, 10, 11, 12, 13, 14, 15, 16, 17, 18, 19, 20, 21, 22, 23, 24, 25, 26, 27, 28, 29, 30, 31, 32] rfl rfl rfl rfl (n_V (As := [.int (-2)]) (rest := []) (C := RX10) (T := TX10) (N := 14) (ci := 8) S G (s_refuse l X h0 nw sp xa la lb fr (-2) H.size) gX10_races_X10_refuse rfl rfl rfl hdV_X10_refuse ⟨Nat.le_of_ble_eq_true rfl, Nat.le_of_ble_eq_true rfl⟩ [0, 33] rfl rfl 0 rfl rfl rfl hl.1 (Nat.le_of_ble_eq_true rfl) dX10_races_23 ⟨Nat.le_of_ble_eq_true rfl, Nat.le_of_ble_eq_true rfl⟩) (fun r_30 u_30 H locs hp_30 G => ?_)
      obtain ⟨f_30, rfl⟩ : ∃ z, z = u_30 := ⟨_, rfl⟩
      have hq_30 := hp_30
      have G : wd X (va_A (@HAppend.hAppend va_W va_W va_W _ (xW h0 nw sp xa la lb) (@HAppend.hAppend va_W va_W va_W _ (rcV X nw an sv dv n0 n1 n2 n3 n4 g0 gs gn gm) (@HAppend.hAppend va_W va_W va_W _ (rcV X sp adp svp dvp n0p n1p n2p n3p n4p g0p gsp gnp gmp) ([((xa 5), .inl (X.2.1, 3, .inl fr))])))) sz) (va_A (@HAppend.hAppend va_W va_W va_W _ (xW h0 nw sp xa la lb) (@HAppend.hAppend va_W va_W va_W _ (rcV X nw an sv dv n0 n1 n2 n3 n4 g0 gs gn gm) (@HAppend.hAppend va_W va_W va_W _ (rcV X sp adp svp dvp n0p n1p n2p n3p n4p g0p gsp gnp gmp) ([((xa 5), .inl (X.2.1, 3, .inl fr))])))) sz) s (@HAppend.hAppend va_W va_W va_W _ (rcV X nw an sv dv n0 n1 n2 n3 n4 g0 gs gn gm) (@HAppend.hAppend va_W va_W va_W _ (rcV X sp adp svp dvp n0p n1p n2p n3p n4p g0p gsp gnp gmp) (@HAppend.hAppend va_W va_W va_W _ (xW h0 nw sp xa la lb) ([((xa 5), .inl (X.2.1, 3, .inl f_30))])))) H locs := G
      exact e_int S zr zlk (vp_nar_int _) G (svp, dvp, n0p, f_30) [32, 0, 1, 2, 3, 4, 5, 6, 7, 8, 9, 10, 11, 12, 13, 14, 15, 16, 17, 18, 19, 20, 21, 22, 23, 24, 25, 26, 27, 28, 29, 30, 31, 33] rfl rfl (Or.inr rfl) (⟨hI_n0p, trivial⟩) dX10_races_26
  · refine lv_if_eq (tgt := 20) zx zb dX10_races_7 (by decide) (fun c_31 => ?_) (fun c_31 => absurd (by decide) c_31)
    refine lv_aload_n zx zb dX10_races_20 rfl (lv_at hl 0 rfl) ?_
    refine lv_bipush (v := (-2)) zx zb dX10_races_21 (by decide) ?_
    refine b_wi (cells' := 0) (slots' := 0) (wr := @HAppend.hAppend va_W va_W va_W _ (rcV X nw an sv dv n0 n1 n2 n3 n4 g0 gs gn gm) (rcV X sp adp svp dvp n0p n1p n2p n3p n4p g0p gsp gnp gmp)) G rfl rfl [0, 33] [1, 2, 3, 4, 5, 6, 7, 8, 9, 10, 11, 12, 13, 14, 15, 16, 17, 18, 19, 20, 21, 22, 23, 24, 25, 26, 27, 28, 29, 30, 31, 32] rfl rfl rfl rfl (n_V (As := [.int (-2)]) (rest := []) (C := RX10) (T := TX10) (N := 14) (ci := 8) S G (s_refuse l X h0 nw sp xa la lb fr (-2) H.size) gX10_races_X10_refuse rfl rfl rfl hdV_X10_refuse ⟨Nat.le_of_ble_eq_true rfl, Nat.le_of_ble_eq_true rfl⟩ [0, 33] rfl rfl 0 rfl rfl rfl hl.1 (Nat.le_of_ble_eq_true rfl) dX10_races_23 ⟨Nat.le_of_ble_eq_true rfl, Nat.le_of_ble_eq_true rfl⟩) (fun r_32 u_32 H locs hp_32 G => ?_)
    obtain ⟨f_32, rfl⟩ : ∃ z, z = u_32 := ⟨_, rfl⟩
    have hq_32 := hp_32
    have G : wd X (va_A (@HAppend.hAppend va_W va_W va_W _ (xW h0 nw sp xa la lb) (@HAppend.hAppend va_W va_W va_W _ (rcV X nw an sv dv n0 n1 n2 n3 n4 g0 gs gn gm) (@HAppend.hAppend va_W va_W va_W _ (rcV X sp adp svp dvp n0p n1p n2p n3p n4p g0p gsp gnp gmp) ([((xa 5), .inl (X.2.1, 3, .inl fr))])))) sz) (va_A (@HAppend.hAppend va_W va_W va_W _ (xW h0 nw sp xa la lb) (@HAppend.hAppend va_W va_W va_W _ (rcV X nw an sv dv n0 n1 n2 n3 n4 g0 gs gn gm) (@HAppend.hAppend va_W va_W va_W _ (rcV X sp adp svp dvp n0p n1p n2p n3p n4p g0p gsp gnp gmp) ([((xa 5), .inl (X.2.1, 3, .inl fr))])))) sz) s (@HAppend.hAppend va_W va_W va_W _ (rcV X nw an sv dv n0 n1 n2 n3 n4 g0 gs gn gm) (@HAppend.hAppend va_W va_W va_W _ (rcV X sp adp svp dvp n0p n1p n2p n3p n4p g0p gsp gnp gmp) (@HAppend.hAppend va_W va_W va_W _ (xW h0 nw sp xa la lb) ([((xa 5), .inl (X.2.1, 3, .inl f_32))])))) H locs := G
    exact e_int S zr zlk (vp_nar_int _) G (svp, dvp, n0p, f_32) [32, 0, 1, 2, 3, 4, 5, 6, 7, 8, 9, 10, 11, 12, 13, 14, 15, 16, 17, 18, 19, 20, 21, 22, 23, 24, 25, 26, 27, 28, 29, 30, 31, 33] rfl rfl (Or.inr rfl) (⟨hI_n0p, trivial⟩) dX10_races_26
theorem in_X10_mostAlike_X10 : ∀ w ∈ wsX100, w ∈ wsX10_mostAlike := by decide +kernel
theorem lk_X10_mostAlike_58 : Cond.fieldLink RX10 58 "EggSpoons" "tally" "LEggSpoons$Tally;" ∈ wsX10_mostAlike := by decide +kernel
theorem hdV_X9_restart : yX9_restart.cls = RX9 ∧ yX9_restart.cls ≠ "java/lang/invoke/MethodHandle" ∧ yX9_restart.cls ≠ "java/lang/invoke/VarHandle" ∧ (parseMethodDescriptor yX9_restart.desc).map (fun d => d.parameters.length) = some 0 := by decide +kernel
theorem hdS_X10_farBy : yX10_farBy.cls ≠ "java/lang/invoke/MethodHandle" ∧ yX10_farBy.cls ≠ "java/lang/invoke/VarHandle" ∧ (parseMethodDescriptor yX10_farBy.desc).map (fun d => d.parameters.length) = some 4 := by decide +kernel
theorem hdV_X9_see : yX9_see.cls = RX9 ∧ yX9_see.cls ≠ "java/lang/invoke/MethodHandle" ∧ yX9_see.cls ≠ "java/lang/invoke/VarHandle" ∧ (parseMethodDescriptor yX9_see.desc).map (fun d => d.parameters.length) = some 1 := by decide +kernel
theorem in_X10_mostAlike_X9 : ∀ w ∈ wsX90, w ∈ wsX10_mostAlike := by decide +kernel
theorem lk_X10_mostAlike_317 : Cond.fieldLink RX10 317 "EggSpoons$Tally" "most" "I" ∈ wsX10_mostAlike := by decide +kernel
theorem hdV_X10_mostAlike : yX10_mostAlike.cls = RX10 ∧ yX10_mostAlike.cls ≠ "java/lang/invoke/MethodHandle" ∧ yX10_mostAlike.cls ≠ "java/lang/invoke/VarHandle" ∧ (parseMethodDescriptor yX10_mostAlike.desc).map (fun d => d.parameters.length) = some 4 := by decide +kernel
theorem in_X10_tell_X10 : ∀ w ∈ wsX100, w ∈ wsX10_tell := by decide +kernel
theorem lk_X10_tell_10 : Cond.fieldLink RX10 10 "EggSpoons" "now" "LEggSpoons$Race;" ∈ wsX10_tell := by decide +kernel
theorem in_X10_tell_X5 : ∀ w ∈ wsX50, w ∈ wsX10_tell := by decide +kernel
theorem lk_X10_tell_126 : Cond.fieldLink RX10 126 "EggSpoons$Race" "row" "[LEggSpoons$Runner;" ∈ wsX10_tell := by decide +kernel
theorem hdV_X10_nextLook : yX10_nextLook.cls = RX10 ∧ yX10_nextLook.cls ≠ "java/lang/invoke/MethodHandle" ∧ yX10_nextLook.cls ≠ "java/lang/invoke/VarHandle" ∧ (parseMethodDescriptor yX10_nextLook.desc).map (fun d => d.parameters.length) = some 4 := by decide +kernel
theorem in_X10_look_X10 : ∀ w ∈ wsX100, w ∈ wsX10_look := by decide +kernel
theorem lk_X10_look_10 : Cond.fieldLink RX10 10 "EggSpoons" "now" "LEggSpoons$Race;" ∈ wsX10_look := by decide +kernel
theorem in_X10_look_X5 : ∀ w ∈ wsX50, w ∈ wsX10_look := by decide +kernel
theorem lk_X10_look_126 : Cond.fieldLink RX10 126 "EggSpoons$Race" "row" "[LEggSpoons$Runner;" ∈ wsX10_look := by decide +kernel
theorem in_X10_ask_X10 : ∀ w ∈ wsX100, w ∈ wsX10_ask := by decide +kernel
theorem lk_X10_ask_10 : Cond.fieldLink RX10 10 "EggSpoons" "now" "LEggSpoons$Race;" ∈ wsX10_ask := by decide +kernel
theorem in_X10_ask_X5 : ∀ w ∈ wsX50, w ∈ wsX10_ask := by decide +kernel
theorem lk_X10_ask_126 : Cond.fieldLink RX10 126 "EggSpoons$Race" "row" "[LEggSpoons$Runner;" ∈ wsX10_ask := by decide +kernel
theorem hdV_X10_areTwo : yX10_areTwo.cls = RX10 ∧ yX10_areTwo.cls ≠ "java/lang/invoke/MethodHandle" ∧ yX10_areTwo.cls ≠ "java/lang/invoke/VarHandle" ∧ (parseMethodDescriptor yX10_areTwo.desc).map (fun d => d.parameters.length) = some 2 := by decide +kernel
theorem in_X10_beats_X10 : ∀ w ∈ wsX100, w ∈ wsX10_beats := by decide +kernel
theorem lk_X10_beats_10 : Cond.fieldLink RX10 10 "EggSpoons" "now" "LEggSpoons$Race;" ∈ wsX10_beats := by decide +kernel
theorem in_X10_beats_X5 : ∀ w ∈ wsX50, w ∈ wsX10_beats := by decide +kernel
theorem lk_X10_beats_126 : Cond.fieldLink RX10 126 "EggSpoons$Race" "row" "[LEggSpoons$Runner;" ∈ wsX10_beats := by decide +kernel
theorem in_X10_beats_X8 : ∀ w ∈ wsX80, w ∈ wsX10_beats := by decide +kernel
theorem lk_X10_beats_137 : Cond.fieldLink RX10 137 "EggSpoons$Runner" "place" "I" ∈ wsX10_beats := by decide +kernel
theorem lk_X10_beats_140 : Cond.fieldLink RX10 140 "EggSpoons$Race" "length" "I" ∈ wsX10_beats := by decide +kernel
theorem lk_X10_beats_48 : Cond.fieldLink RX10 48 "EggSpoons" "ghost" "LEggSpoons$Runner;" ∈ wsX10_beats := by decide +kernel
theorem lk_X10_beats_110 : Cond.fieldLink RX10 110 "EggSpoons$Race" "tick" "I" ∈ wsX10_beats := by decide +kernel
set_option maxHeartbeats 4000000 in
set_option maxRecDepth 100000 in
/-- beats -/
theorem s_beats (l : Launch) (X : EX) (h0 : Nat) (nw : Nat) (sp : Nat) (xa : Nat → Nat) (la : Int64) (lb : Int64) (an : Nat → Nat) (sv : Nat → Int32) (dv : Nat → Int32) (n0 : Nat) (n1 : Nat) (n2 : Nat) (n3 : Nat) (n4 : Nat) (g0 : Nat → Int32) (gs : Nat → Int32) (gn : Nat → Int32) (gm : Nat → Int32) (ag : Nat → Int32) (dg : Nat → Int32) (fr : Nat → Int32) (x1 : Int32) (x2 : Int32) (hI_n0 : n0 ≤ 6) (hI_n1 : n1 ≤ 8) (hI_n2 : n2 ≤ 5) (hI_n3 : n3 ≤ 6) (hI_n4 : n4 ≤ 6) (sz : Nat) : Met l yX10_beats wsX10_beats ({ frames := 4, cells := 0, slots := 0, locals := 95 } : Room) (pE X [.ref h0, .int x1, .int x2] (@HAppend.hAppend va_W va_W va_W _ (xW h0 nw sp xa la lb) (@HAppend.hAppend va_W va_W va_W _ (rcV X nw an sv dv n0 n1 n2 n3 n4 g0 gs gn gm) (@HAppend.hAppend va_W va_W va_W _ (rnV (xa 8) ag dg) ([((xa 5), .inl (X.2.1, 3, .inl fr))])))) sz) (qI (fun (r : Int32) (u : (Nat → Int32) × (Nat → Int32) × (Nat → Int32)) => (True)) X (fun (u : (Nat → Int32) × (Nat → Int32) × (Nat → Int32)) => @HAppend.hAppend va_W va_W va_W _ (xW h0 nw sp xa la lb) (@HAppend.hAppend va_W va_W va_W _ (rcV X nw an sv dv n0 n1 n2 n3 n4 g0 gs gn gm) (@HAppend.hAppend va_W va_W va_W _ (rnV (xa 8) u.1 u.2.1) ([((xa 5), .inl (X.2.1, 3, .inl u.2.2))])))) (@HAppend.hAppend va_W va_W va_W _ (xW h0 nw sp xa la lb) (@HAppend.hAppend va_W va_W va_W _ (rcV X nw an sv dv n0 n1 n2 n3 n4 g0 gs gn gm) (@HAppend.hAppend va_W va_W va_W _ (rnV (xa 8) ag dg) ([((xa 5), .inl (X.2.1, 3, .inl fr))])))) sz) 0 0 (va_A (@HAppend.hAppend va_W va_W va_W _ (xW h0 nw sp xa la lb) (@HAppend.hAppend va_W va_W va_W _ (rcV X nw an sv dv n0 n1 n2 n3 n4 g0 gs gn gm) (@HAppend.hAppend va_W va_W va_W _ (rnV (xa 8) ag dg) ([((xa 5), .inl (X.2.1, 3, .inl fr))])))) sz) := by
  refine mk_met (B := (va_A (@HAppend.hAppend va_W va_W va_W _ (xW h0 nw sp xa la lb) (@HAppend.hAppend va_W va_W va_W _ (rcV X nw an sv dv n0 n1 n2 n3 n4 g0 gs gn gm) (@HAppend.hAppend va_W va_W va_W _ (rnV (xa 8) ag dg) ([((xa 5), .inl (X.2.1, 3, .inl fr))])))) sz)) (A := (va_A (@HAppend.hAppend va_W va_W va_W _ (xW h0 nw sp xa la lb) (@HAppend.hAppend va_W va_W va_W _ (rcV X nw an sv dv n0 n1 n2 n3 n4 g0 gs gn gm) (@HAppend.hAppend va_W va_W va_W _ (rnV (xa 8) ag dg) ([((xa 5), .inl (X.2.1, 3, .inl fr))])))) sz)) (cc := cX10_beats) (maxL := 7) (ret := (some .int)) (by decide) rfl (Nat.le_of_ble_eq_true rfl) k_w k_a (fun p e s m below meth c S zr zlk znm zsz G ls hl => ?_)
  have S : CallFix p m c cX10_beats 7 s _ wsX10_beats RX10 := S
  have zx := S.1
  have zb := S.2.1
  have hl : lv_has ls 7 [(0, .ref h0), (1, .int x1), (2, .int x2)] := hl
  refine lv_aload_n zx zb dX10_beats_0 rfl (lv_at hl 0 rfl) ?_
  refine lv_iload_n zx zb dX10_beats_1 rfl (lv_at hl 1 rfl) ?_
  refine lv_iload_n zx zb dX10_beats_2 rfl (lv_at hl 2 rfl) ?_
  refine o_ri (cells' := 0) (slots' := 0) G rfl rfl (n_V (As := [.int x1, .int x2]) (rest := []) (C := RX10) (T := TX10) (N := 14) (ci := 8) S G (s_areTwo l X h0 nw sp xa la lb an sv dv n0 n1 n2 n3 n4 g0 gs gn gm x1 x2 hI_n0 hI_n1 hI_n2 hI_n3 hI_n4 s.heap.size) gX10_beats_X10_areTwo rfl rfl rfl hdV_X10_areTwo ⟨Nat.le_of_ble_eq_true rfl, Nat.le_of_ble_eq_true rfl⟩ [0, 1, 2, 3, 4, 5, 6, 7, 8, 9, 10, 11, 12, 13, 14, 15, 16] rfl rfl 0 rfl rfl rfl hl.1 (Nat.le_of_ble_eq_true rfl) dX10_beats_3 ⟨Nat.le_of_ble_eq_true rfl, Nat.le_of_ble_eq_true rfl⟩) (fun r_1 u_1 H locs hp_1 G => ?_)
  have G : wd X (va_A (@HAppend.hAppend va_W va_W va_W _ (xW h0 nw sp xa la lb) (@HAppend.hAppend va_W va_W va_W _ (rcV X nw an sv dv n0 n1 n2 n3 n4 g0 gs gn gm) (@HAppend.hAppend va_W va_W va_W _ (rnV (xa 8) ag dg) ([((xa 5), .inl (X.2.1, 3, .inl fr))])))) sz) (va_A (@HAppend.hAppend va_W va_W va_W _ (xW h0 nw sp xa la lb) (@HAppend.hAppend va_W va_W va_W _ (rcV X nw an sv dv n0 n1 n2 n3 n4 g0 gs gn gm) (@HAppend.hAppend va_W va_W va_W _ (rnV (xa 8) ag dg) ([((xa 5), .inl (X.2.1, 3, .inl fr))])))) sz) s (@HAppend.hAppend va_W va_W va_W _ (xW h0 nw sp xa la lb) (@HAppend.hAppend va_W va_W va_W _ (rcV X nw an sv dv n0 n1 n2 n3 n4 g0 gs gn gm) (@HAppend.hAppend va_W va_W va_W _ (rnV (xa 8) ag dg) ([((xa 5), .inl (X.2.1, 3, .inl fr))])))) H locs := G
  rcases hp_1 with ⟨rfl, hj_1, hi_1⟩ | rfl
  · obtain ⟨j_1, hj_1, rfl⟩ := hj_1
    obtain ⟨i_1, hi_1, rfl⟩ := hi_1
    refine lv_if_ne (tgt := 16) zx zb dX10_beats_6 (by decide) (fun c_2 => ?_) (fun c_2 => absurd c_2 (by decide))
    refine lv_aload_n zx zb dX10_beats_16 rfl (lv_at hl 0 rfl) ?_
    refine r_get (C := RX10) (T := TX10) (N := 14) (ci := 8) (v := .ref nw) S in_X10_beats_X10 G 0 rfl rfl 0 (by decide) lk_X10_beats_10 rfl dX10_beats_17 ?_
    refine r_get (C := RX5) (T := TX5) (N := 8) (ci := 3) (v := .ref (an 0)) S in_X10_beats_X5 G 1 rfl rfl 3 (by decide) lk_X10_beats_126 rfl dX10_beats_20 ?_
    refine lv_iload_n zx zb dX10_beats_23 rfl (lv_at hl 1 rfl) ?_
    rcases k_6c (show j_1 < 6 by omega) with rfl | rfl | rfl | rfl | rfl | rfl
    · refine k_it (v := 0) rfl ?_
      refine r_aald (C := RX8) (b := (an 1)) S G 2 3 rfl rfl (k_vp (by decide)) rfl dX10_beats_24 ?_
      refine lv_astore_n (lv' := [(3, .ref (an 1)), (0, .ref h0), (1, .int 0), (2, .int (nI i_1))]) zx zb dX10_beats_25 rfl hl (by decide) rfl (fun ls hl => ?_)
      refine lv_aload_n zx zb dX10_beats_26 rfl (lv_at hl 0 rfl) ?_
      refine o_ri (cells' := 0) (slots' := 0) G rfl rfl (n_V (As := []) (rest := []) (C := RX8) (T := TX8) (N := 8) (ci := 6) S G (s_isHome l X (an 1) (fun k => sv (0 + k)) (fun k => dv (10 + k)) H.size) gX10_beats_X8_isHome rfl rfl rfl hdV_X8_isHome ⟨Nat.le_of_ble_eq_true rfl, Nat.le_of_ble_eq_true rfl⟩ [3] rfl rfl 3 rfl rfl rfl hl.1 (Nat.le_of_ble_eq_true rfl) dX10_beats_27 ⟨Nat.le_of_ble_eq_true rfl, Nat.le_of_ble_eq_true rfl⟩) (fun r_3 u_3 H locs hp_3 G => ?_)
      have G : wd X (va_A (@HAppend.hAppend va_W va_W va_W _ (xW h0 nw sp xa la lb) (@HAppend.hAppend va_W va_W va_W _ (rcV X nw an sv dv n0 n1 n2 n3 n4 g0 gs gn gm) (@HAppend.hAppend va_W va_W va_W _ (rnV (xa 8) ag dg) ([((xa 5), .inl (X.2.1, 3, .inl fr))])))) sz) (va_A (@HAppend.hAppend va_W va_W va_W _ (xW h0 nw sp xa la lb) (@HAppend.hAppend va_W va_W va_W _ (rcV X nw an sv dv n0 n1 n2 n3 n4 g0 gs gn gm) (@HAppend.hAppend va_W va_W va_W _ (rnV (xa 8) ag dg) ([((xa 5), .inl (X.2.1, 3, .inl fr))])))) sz) s (@HAppend.hAppend va_W va_W va_W _ (xW h0 nw sp xa la lb) (@HAppend.hAppend va_W va_W va_W _ (rcV X nw an sv dv n0 n1 n2 n3 n4 g0 gs gn gm) (@HAppend.hAppend va_W va_W va_W _ (rnV (xa 8) ag dg) ([((xa 5), .inl (X.2.1, 3, .inl fr))])))) H locs := G
      refine lv_if_ne (tgt := 48) zx zb dX10_beats_30 (by decide) (fun c_4 => ?_) (fun c_4 => ?_)
      · refine lv_iconst (v := (-1)) zx zb dX10_beats_48 (by decide) ?_
        exact e_int S zr zlk (vp_nar_int _) G (ag, dg, fr) [0, 1, 2, 3, 4, 5, 6, 7, 8, 9, 10, 11, 12, 13, 14, 15, 16, 17, 18] rfl rfl (Or.inr rfl) (trivial) dX10_beats_49
      · refine lv_aload_n zx zb dX10_beats_33 rfl (lv_at hl 1 rfl) ?_
        refine r_get (C := RX10) (T := TX10) (N := 14) (ci := 8) (v := .ref nw) S in_X10_beats_X10 G 0 rfl rfl 0 (by decide) lk_X10_beats_10 rfl dX10_beats_34 ?_
        refine r_get (C := RX5) (T := TX5) (N := 8) (ci := 3) (v := .ref (an 0)) S in_X10_beats_X5 G 1 rfl rfl 3 (by decide) lk_X10_beats_126 rfl dX10_beats_37 ?_
        refine lv_iload_n zx zb dX10_beats_40 rfl (lv_at hl 3 rfl) ?_
        refine k_cutW (PP := fun Wx => ∀ (x_5 : Int32) (H : Heap) (locs : List Loc) (ls : Array Slot), wd X (va_A (@HAppend.hAppend va_W va_W va_W _ (xW h0 nw sp xa la lb) (@HAppend.hAppend va_W va_W va_W _ (rcV X nw an sv dv n0 n1 n2 n3 n4 g0 gs gn gm) (@HAppend.hAppend va_W va_W va_W _ (rnV (xa 8) ag dg) ([((xa 5), .inl (X.2.1, 3, .inl fr))])))) sz) (va_A (@HAppend.hAppend va_W va_W va_W _ (xW h0 nw sp xa la lb) (@HAppend.hAppend va_W va_W va_W _ (rcV X nw an sv dv n0 n1 n2 n3 n4 g0 gs gn gm) (@HAppend.hAppend va_W va_W va_W _ (rnV (xa 8) ag dg) ([((xa 5), .inl (X.2.1, 3, .inl fr))])))) sz) s (@HAppend.hAppend va_W va_W va_W _ (xW h0 nw sp xa la lb) (@HAppend.hAppend va_W va_W va_W _ (rcV X nw an sv dv n0 n1 n2 n3 n4 g0 gs gn gm) (@HAppend.hAppend va_W va_W va_W _ (rnV (xa 8) ag dg) ([((xa 5), .inl (X.2.1, 3, .inl fr))])))) H locs → lv_has ls 7 [(3, .ref (an 1)), (0, .ref h0), (1, .int 0), (2, .int (nI i_1))] → Wx (F0 m 45 ls [.int x_5]) H locs) ?_ ?_
        · intro join_41
          rcases k_6c (show i_1 < 6 by omega) with q_6 | q_6 | q_6 | q_6 | q_6 | q_6
          · refine k_it (v := 0) (by rw [q_6]; rfl) ?_
            refine r_aald (C := RX8) (b := (an 1)) S G 2 3 rfl rfl (k_vp (by decide)) rfl dX10_beats_41 ?_
            refine o_ri (cells' := 0) (slots' := 0) G rfl rfl (n_V (As := []) (rest := []) (C := RX8) (T := TX8) (N := 8) (ci := 6) S G (s_isHome l X (an 1) (fun k => sv (0 + k)) (fun k => dv (10 + k)) H.size) gX10_beats_X8_isHome rfl rfl rfl hdV_X8_isHome ⟨Nat.le_of_ble_eq_true rfl, Nat.le_of_ble_eq_true rfl⟩ [3] rfl rfl 3 rfl rfl rfl hl.1 (Nat.le_of_ble_eq_true rfl) dX10_beats_42 ⟨Nat.le_of_ble_eq_true rfl, Nat.le_of_ble_eq_true rfl⟩) (fun r_7 u_7 H locs hp_7 G => ?_)
            have G : wd X (va_A (@HAppend.hAppend va_W va_W va_W _ (xW h0 nw sp xa la lb) (@HAppend.hAppend va_W va_W va_W _ (rcV X nw an sv dv n0 n1 n2 n3 n4 g0 gs gn gm) (@HAppend.hAppend va_W va_W va_W _ (rnV (xa 8) ag dg) ([((xa 5), .inl (X.2.1, 3, .inl fr))])))) sz) (va_A (@HAppend.hAppend va_W va_W va_W _ (xW h0 nw sp xa la lb) (@HAppend.hAppend va_W va_W va_W _ (rcV X nw an sv dv n0 n1 n2 n3 n4 g0 gs gn gm) (@HAppend.hAppend va_W va_W va_W _ (rnV (xa 8) ag dg) ([((xa 5), .inl (X.2.1, 3, .inl fr))])))) sz) s (@HAppend.hAppend va_W va_W va_W _ (xW h0 nw sp xa la lb) (@HAppend.hAppend va_W va_W va_W _ (rcV X nw an sv dv n0 n1 n2 n3 n4 g0 gs gn gm) (@HAppend.hAppend va_W va_W va_W _ (rnV (xa 8) ag dg) ([((xa 5), .inl (X.2.1, 3, .inl fr))])))) H locs := G
            exact join_41 r_7 _ _ _  G hl
          · refine k_it (v := 1) (by rw [q_6]; rfl) ?_
            refine r_aald (C := RX8) (b := (an 2)) S G 2 3 rfl rfl (k_vp (by decide)) rfl dX10_beats_41 ?_
            refine o_ri (cells' := 0) (slots' := 0) G rfl rfl (n_V (As := []) (rest := []) (C := RX8) (T := TX8) (N := 8) (ci := 6) S G (s_isHome l X (an 2) (fun k => sv (3 + k)) (fun k => dv (15 + k)) H.size) gX10_beats_X8_isHome rfl rfl rfl hdV_X8_isHome ⟨Nat.le_of_ble_eq_true rfl, Nat.le_of_ble_eq_true rfl⟩ [4] rfl rfl 4 rfl rfl rfl hl.1 (Nat.le_of_ble_eq_true rfl) dX10_beats_42 ⟨Nat.le_of_ble_eq_true rfl, Nat.le_of_ble_eq_true rfl⟩) (fun r_8 u_8 H locs hp_8 G => ?_)
            have G : wd X (va_A (@HAppend.hAppend va_W va_W va_W _ (xW h0 nw sp xa la lb) (@HAppend.hAppend va_W va_W va_W _ (rcV X nw an sv dv n0 n1 n2 n3 n4 g0 gs gn gm) (@HAppend.hAppend va_W va_W va_W _ (rnV (xa 8) ag dg) ([((xa 5), .inl (X.2.1, 3, .inl fr))])))) sz) (va_A (@HAppend.hAppend va_W va_W va_W _ (xW h0 nw sp xa la lb) (@HAppend.hAppend va_W va_W va_W _ (rcV X nw an sv dv n0 n1 n2 n3 n4 g0 gs gn gm) (@HAppend.hAppend va_W va_W va_W _ (rnV (xa 8) ag dg) ([((xa 5), .inl (X.2.1, 3, .inl fr))])))) sz) s (@HAppend.hAppend va_W va_W va_W _ (xW h0 nw sp xa la lb) (@HAppend.hAppend va_W va_W va_W _ (rcV X nw an sv dv n0 n1 n2 n3 n4 g0 gs gn gm) (@HAppend.hAppend va_W va_W va_W _ (rnV (xa 8) ag dg) ([((xa 5), .inl (X.2.1, 3, .inl fr))])))) H locs := G
            exact join_41 r_8 _ _ _  G hl
          · refine k_it (v := 2) (by rw [q_6]; rfl) ?_
            refine r_aald (C := RX8) (b := (an 3)) S G 2 3 rfl rfl (k_vp (by decide)) rfl dX10_beats_41 ?_
            refine o_ri (cells' := 0) (slots' := 0) G rfl rfl (n_V (As := []) (rest := []) (C := RX8) (T := TX8) (N := 8) (ci := 6) S G (s_isHome l X (an 3) (fun k => sv (6 + k)) (fun k => dv (20 + k)) H.size) gX10_beats_X8_isHome rfl rfl rfl hdV_X8_isHome ⟨Nat.le_of_ble_eq_true rfl, Nat.le_of_ble_eq_true rfl⟩ [5] rfl rfl 5 rfl rfl rfl hl.1 (Nat.le_of_ble_eq_true rfl) dX10_beats_42 ⟨Nat.le_of_ble_eq_true rfl, Nat.le_of_ble_eq_true rfl⟩) (fun r_9 u_9 H locs hp_9 G => ?_)
            have G : wd X (va_A (@HAppend.hAppend va_W va_W va_W _ (xW h0 nw sp xa la lb) (@HAppend.hAppend va_W va_W va_W _ (rcV X nw an sv dv n0 n1 n2 n3 n4 g0 gs gn gm) (@HAppend.hAppend va_W va_W va_W _ (rnV (xa 8) ag dg) ([((xa 5), .inl (X.2.1, 3, .inl fr))])))) sz) (va_A (@HAppend.hAppend va_W va_W va_W _ (xW h0 nw sp xa la lb) (@HAppend.hAppend va_W va_W va_W _ (rcV X nw an sv dv n0 n1 n2 n3 n4 g0 gs gn gm) (@HAppend.hAppend va_W va_W va_W _ (rnV (xa 8) ag dg) ([((xa 5), .inl (X.2.1, 3, .inl fr))])))) sz) s (@HAppend.hAppend va_W va_W va_W _ (xW h0 nw sp xa la lb) (@HAppend.hAppend va_W va_W va_W _ (rcV X nw an sv dv n0 n1 n2 n3 n4 g0 gs gn gm) (@HAppend.hAppend va_W va_W va_W _ (rnV (xa 8) ag dg) ([((xa 5), .inl (X.2.1, 3, .inl fr))])))) H locs := G
            exact join_41 r_9 _ _ _  G hl
          · refine k_it (v := 3) (by rw [q_6]; rfl) ?_
            refine r_aald (C := RX8) (b := (an 4)) S G 2 3 rfl rfl (k_vp (by decide)) rfl dX10_beats_41 ?_
            refine o_ri (cells' := 0) (slots' := 0) G rfl rfl (n_V (As := []) (rest := []) (C := RX8) (T := TX8) (N := 8) (ci := 6) S G (s_isHome l X (an 4) (fun k => sv (9 + k)) (fun k => dv (25 + k)) H.size) gX10_beats_X8_isHome rfl rfl rfl hdV_X8_isHome ⟨Nat.le_of_ble_eq_true rfl, Nat.le_of_ble_eq_true rfl⟩ [6] rfl rfl 6 rfl rfl rfl hl.1 (Nat.le_of_ble_eq_true rfl) dX10_beats_42 ⟨Nat.le_of_ble_eq_true rfl, Nat.le_of_ble_eq_true rfl⟩) (fun r_10 u_10 H locs hp_10 G => ?_)
            have G : wd X (va_A (@HAppend.hAppend va_W va_W va_W _ (xW h0 nw sp xa la lb) (@HAppend.hAppend va_W va_W va_W _ (rcV X nw an sv dv n0 n1 n2 n3 n4 g0 gs gn gm) (@HAppend.hAppend va_W va_W va_W _ (rnV (xa 8) ag dg) ([((xa 5), .inl (X.2.1, 3, .inl fr))])))) sz) (va_A (@HAppend.hAppend va_W va_W va_W _ (xW h0 nw sp xa la lb) (@HAppend.hAppend va_W va_W va_W _ (rcV X nw an sv dv n0 n1 n2 n3 n4 g0 gs gn gm) (@HAppend.hAppend va_W va_W va_W _ (rnV (xa 8) ag dg) ([((xa 5), .inl (X.2.1, 3, .inl fr))])))) sz) s (@HAppend.hAppend va_W va_W va_W _ (xW h0 nw sp xa la lb) (@HAppend.hAppend va_W va_W va_W _ (rcV X nw an sv dv n0 n1 n2 n3 n4 g0 gs gn gm) (@HAppend.hAppend va_W va_W va_W _ (rnV (xa 8) ag dg) ([((xa 5), .inl (X.2.1, 3, .inl fr))])))) H locs := G
            exact join_41 r_10 _ _ _  G hl
          · refine k_it (v := 4) (by rw [q_6]; rfl) ?_
            refine r_aald (C := RX8) (b := (an 5)) S G 2 3 rfl rfl (k_vp (by decide)) rfl dX10_beats_41 ?_
            refine o_ri (cells' := 0) (slots' := 0) G rfl rfl (n_V (As := []) (rest := []) (C := RX8) (T := TX8) (N := 8) (ci := 6) S G (s_isHome l X (an 5) (fun k => sv (12 + k)) (fun k => dv (30 + k)) H.size) gX10_beats_X8_isHome rfl rfl rfl hdV_X8_isHome ⟨Nat.le_of_ble_eq_true rfl, Nat.le_of_ble_eq_true rfl⟩ [7] rfl rfl 7 rfl rfl rfl hl.1 (Nat.le_of_ble_eq_true rfl) dX10_beats_42 ⟨Nat.le_of_ble_eq_true rfl, Nat.le_of_ble_eq_true rfl⟩) (fun r_11 u_11 H locs hp_11 G => ?_)
            have G : wd X (va_A (@HAppend.hAppend va_W va_W va_W _ (xW h0 nw sp xa la lb) (@HAppend.hAppend va_W va_W va_W _ (rcV X nw an sv dv n0 n1 n2 n3 n4 g0 gs gn gm) (@HAppend.hAppend va_W va_W va_W _ (rnV (xa 8) ag dg) ([((xa 5), .inl (X.2.1, 3, .inl fr))])))) sz) (va_A (@HAppend.hAppend va_W va_W va_W _ (xW h0 nw sp xa la lb) (@HAppend.hAppend va_W va_W va_W _ (rcV X nw an sv dv n0 n1 n2 n3 n4 g0 gs gn gm) (@HAppend.hAppend va_W va_W va_W _ (rnV (xa 8) ag dg) ([((xa 5), .inl (X.2.1, 3, .inl fr))])))) sz) s (@HAppend.hAppend va_W va_W va_W _ (xW h0 nw sp xa la lb) (@HAppend.hAppend va_W va_W va_W _ (rcV X nw an sv dv n0 n1 n2 n3 n4 g0 gs gn gm) (@HAppend.hAppend va_W va_W va_W _ (rnV (xa 8) ag dg) ([((xa 5), .inl (X.2.1, 3, .inl fr))])))) H locs := G
            exact join_41 r_11 _ _ _  G hl
          · refine k_it (v := 5) (by rw [q_6]; rfl) ?_
            refine r_aald (C := RX8) (b := (an 6)) S G 2 3 rfl rfl (k_vp (by decide)) rfl dX10_beats_41 ?_
            refine o_ri (cells' := 0) (slots' := 0) G rfl rfl (n_V (As := []) (rest := []) (C := RX8) (T := TX8) (N := 8) (ci := 6) S G (s_isHome l X (an 6) (fun k => sv (15 + k)) (fun k => dv (35 + k)) H.size) gX10_beats_X8_isHome rfl rfl rfl hdV_X8_isHome ⟨Nat.le_of_ble_eq_true rfl, Nat.le_of_ble_eq_true rfl⟩ [8] rfl rfl 8 rfl rfl rfl hl.1 (Nat.le_of_ble_eq_true rfl) dX10_beats_42 ⟨Nat.le_of_ble_eq_true rfl, Nat.le_of_ble_eq_true rfl⟩) (fun r_12 u_12 H locs hp_12 G => ?_)
            have G : wd X (va_A (@HAppend.hAppend va_W va_W va_W _ (xW h0 nw sp xa la lb) (@HAppend.hAppend va_W va_W va_W _ (rcV X nw an sv dv n0 n1 n2 n3 n4 g0 gs gn gm) (@HAppend.hAppend va_W va_W va_W _ (rnV (xa 8) ag dg) ([((xa 5), .inl (X.2.1, 3, .inl fr))])))) sz) (va_A (@HAppend.hAppend va_W va_W va_W _ (xW h0 nw sp xa la lb) (@HAppend.hAppend va_W va_W va_W _ (rcV X nw an sv dv n0 n1 n2 n3 n4 g0 gs gn gm) (@HAppend.hAppend va_W va_W va_W _ (rnV (xa 8) ag dg) ([((xa 5), .inl (X.2.1, 3, .inl fr))])))) sz) s (@HAppend.hAppend va_W va_W va_W _ (xW h0 nw sp xa la lb) (@HAppend.hAppend va_W va_W va_W _ (rcV X nw an sv dv n0 n1 n2 n3 n4 g0 gs gn gm) (@HAppend.hAppend va_W va_W va_W _ (rnV (xa 8) ag dg) ([((xa 5), .inl (X.2.1, 3, .inl fr))])))) H locs := G
            exact join_41 r_12 _ _ _  G hl
        · intro x_5 H locs ls  G hl
          refine lv_if_eq (tgt := 50) zx zb dX10_beats_45 (by decide) (fun c_13 => ?_) (fun c_13 => ?_)
          · refine lv_aload_n zx zb dX10_beats_50 rfl (lv_at hl 1 rfl) ?_
            refine lv_iload_n zx zb dX10_beats_51 rfl (lv_at hl 3 rfl) ?_
            refine lv_bipush (v := 60) zx zb dX10_beats_52 (by decide) ?_
            refine b_wi (cells' := 0) (slots' := 0) (wr := [((xa 5), .inl (X.2.1, 3, .inl fr))]) G rfl rfl [0, 1, 2, 3, 4, 5, 6, 7, 8, 9, 10, 11, 12, 13, 14, 15, 16, 17] [18] rfl rfl rfl rfl (n_V (As := [.int (nI i_1), .int 60]) (rest := []) (C := RX10) (T := TX10) (N := 14) (ci := 8) S G (s_homeBehind l X h0 nw sp xa la lb an sv dv n0 n1 n2 n3 n4 g0 gs gn gm ag dg i_1 60 hI_n0 hI_n1 hI_n2 hI_n3 hI_n4 (by omega) (by first | decide | assumption | exact k_60a (by assumption)) H.size) gX10_beats_X10_homeBehind rfl rfl rfl hdV_X10_homeBehind ⟨Nat.le_of_ble_eq_true rfl, Nat.le_of_ble_eq_true rfl⟩ [0, 1, 2, 3, 4, 5, 6, 7, 8, 9, 10, 11, 12, 13, 14, 15, 16, 17] rfl rfl 0 rfl rfl rfl hl.1 (Nat.le_of_ble_eq_true rfl) dX10_beats_54 ⟨Nat.le_of_ble_eq_true rfl, Nat.le_of_ble_eq_true rfl⟩) (fun r_14 u_14 H locs hp_14 G => ?_)
            obtain ⟨a_14a, d_14b⟩ := u_14
            have hq_14 := hp_14
            have G : wd X (va_A (@HAppend.hAppend va_W va_W va_W _ (xW h0 nw sp xa la lb) (@HAppend.hAppend va_W va_W va_W _ (rcV X nw an sv dv n0 n1 n2 n3 n4 g0 gs gn gm) (@HAppend.hAppend va_W va_W va_W _ (rnV (xa 8) ag dg) ([((xa 5), .inl (X.2.1, 3, .inl fr))])))) sz) (va_A (@HAppend.hAppend va_W va_W va_W _ (xW h0 nw sp xa la lb) (@HAppend.hAppend va_W va_W va_W _ (rcV X nw an sv dv n0 n1 n2 n3 n4 g0 gs gn gm) (@HAppend.hAppend va_W va_W va_W _ (rnV (xa 8) ag dg) ([((xa 5), .inl (X.2.1, 3, .inl fr))])))) sz) s (@HAppend.hAppend va_W va_W va_W _ ([((xa 5), .inl (X.2.1, 3, .inl fr))]) (@HAppend.hAppend va_W va_W va_W _ (xW h0 nw sp xa la lb) (@HAppend.hAppend va_W va_W va_W _ (rcV X nw an sv dv n0 n1 n2 n3 n4 g0 gs gn gm) (rnV (xa 8) a_14a d_14b)))) H locs := G
            refine lv_istore (lv' := [(4, .int r_14), (3, .ref (an 1)), (0, .ref h0), (1, .int 0), (2, .int (nI i_1))]) zx zb dX10_beats_57 hl (by decide) rfl (fun ls hl => ?_)
            refine lv_iload zx zb dX10_beats_59 (lv_at hl 0 rfl) ?_
            refine lv_iconst (v := (-1)) zx zb dX10_beats_61 (by decide) ?_
            refine k_cutW (PP := fun Wx => ∀ (x_16 : Int32) (H : Heap) (locs : List Loc) (ls : Array Slot), (x_16 ≤ 60) → wd X (va_A (@HAppend.hAppend va_W va_W va_W _ (xW h0 nw sp xa la lb) (@HAppend.hAppend va_W va_W va_W _ (rcV X nw an sv dv n0 n1 n2 n3 n4 g0 gs gn gm) (@HAppend.hAppend va_W va_W va_W _ (rnV (xa 8) ag dg) ([((xa 5), .inl (X.2.1, 3, .inl fr))])))) sz) (va_A (@HAppend.hAppend va_W va_W va_W _ (xW h0 nw sp xa la lb) (@HAppend.hAppend va_W va_W va_W _ (rcV X nw an sv dv n0 n1 n2 n3 n4 g0 gs gn gm) (@HAppend.hAppend va_W va_W va_W _ (rnV (xa 8) ag dg) ([((xa 5), .inl (X.2.1, 3, .inl fr))])))) sz) s (@HAppend.hAppend va_W va_W va_W _ ([((xa 5), .inl (X.2.1, 3, .inl fr))]) (@HAppend.hAppend va_W va_W va_W _ (xW h0 nw sp xa la lb) (@HAppend.hAppend va_W va_W va_W _ (rcV X nw an sv dv n0 n1 n2 n3 n4 g0 gs gn gm) (rnV (xa 8) a_14a d_14b)))) H locs → lv_has ls 7 [(4, .int r_14), (3, .ref (an 1)), (0, .ref h0), (1, .int 0), (2, .int (nI i_1))] → Wx (F0 m 74 ls [.int x_16]) H locs) ?_ ?_
            · intro join_62
              refine lv_icmp_ne (tgt := 70) zx zb dX10_beats_62 (by decide) (fun c_15 => ?_) (fun c_15 => ?_)
              · refine lv_iload zx zb dX10_beats_70 (lv_at hl 0 rfl) ?_
                refine lv_iconst (v := 1) zx zb dX10_beats_72 (by decide) ?_
                refine r_isub (v := (r_14 - 1)) S rfl dX10_beats_73 ?_
                exact join_62 (r_14 - 1) _ _ _ (by first | assumption | decide | exact k_m60 (by assumption)) G hl
              · refine lv_bipush (v := 60) zx zb dX10_beats_65 (by decide) ?_
                refine lv_goto (tgt := 74) zx zb dX10_beats_67 (by decide) ?_
                exact join_62 60 _ _ _ (by first | assumption | decide | exact k_m60 (by assumption)) G hl
            · intro x_16 H locs ls hk_x_16 G hl
              refine lv_istore (lv' := [(5, .int x_16), (4, .int r_14), (3, .ref (an 1)), (0, .ref h0), (1, .int 0), (2, .int (nI i_1))]) zx zb dX10_beats_74 hl (by decide) rfl (fun ls hl => ?_)
              refine lv_iconst (v := 0) zx zb dX10_beats_76 (by decide) ?_
              refine lv_istore (lv' := [(6, .int 0), (5, .int x_16), (4, .int r_14), (3, .ref (an 1)), (0, .ref h0), (1, .int 0), (2, .int (nI i_1))]) zx zb dX10_beats_77 hl (by decide) rfl (fun ls hl => ?_)
              refine k_loop (P := ∀ (zm : Nat) (k79 : Nat) (a79_3 : Nat → Int32) (d79_3 : Nat → Int32) (H : Heap) (locs : List Loc) (ls : Array Slot), 31 + 1 ≤ k79 + zm → (k79 ≤ 31) → wd X (va_A (@HAppend.hAppend va_W va_W va_W _ (xW h0 nw sp xa la lb) (@HAppend.hAppend va_W va_W va_W _ (rcV X nw an sv dv n0 n1 n2 n3 n4 g0 gs gn gm) (@HAppend.hAppend va_W va_W va_W _ (rnV (xa 8) ag dg) ([((xa 5), .inl (X.2.1, 3, .inl fr))])))) sz) (va_A (@HAppend.hAppend va_W va_W va_W _ (xW h0 nw sp xa la lb) (@HAppend.hAppend va_W va_W va_W _ (rcV X nw an sv dv n0 n1 n2 n3 n4 g0 gs gn gm) (@HAppend.hAppend va_W va_W va_W _ (rnV (xa 8) ag dg) ([((xa 5), .inl (X.2.1, 3, .inl fr))])))) sz) s (@HAppend.hAppend va_W va_W va_W _ ([((xa 5), .inl (X.2.1, 3, .inl fr))]) (@HAppend.hAppend va_W va_W va_W _ (xW h0 nw sp xa la lb) (@HAppend.hAppend va_W va_W va_W _ (rcV X nw an sv dv n0 n1 n2 n3 n4 g0 gs gn gm) (rnV (xa 8) a79_3 d79_3)))) H locs → lv_has ls 7 [(6, .int (nI k79)), (5, .int x_16), (4, .int r_14), (3, .ref (an 1)), (0, .ref h0), (1, .int 0), (2, .int (nI i_1))] → W p l e _ s m _ below meth c H locs _ _ _ (F0 m 79 ls [])) (fun loop => loop (31 + 1) 0 a_14a d_14b _ _ _ (by omega) (by omega) G hl) ?_
              intro zm
              induction zm with
              | zero => intro k79 a79_3 d79_3 H locs ls zz q_hk_k79 _ _; exact absurd zz (by omega)
              | succ zm ih79 =>
                intro k79 a79_3 d79_3 H locs ls zm_79 hk_k79 G hl
                refine lv_iload zx zb dX10_beats_79 (lv_at hl 0 rfl) ?_
                refine lv_bipush (v := 30) zx zb dX10_beats_81 (by decide) ?_
                refine lv_icmp_gt (tgt := 161) zx zb dX10_beats_83 (by decide) (fun c_17 => ?_) (fun c_17 => ?_)
                · have fc_17 := j_lt (a := 30) (b := k79) (by omega) (by omega) c_17
                  refine lv_iconst (v := (-1)) zx zb dX10_beats_161 (by decide) ?_
                  exact e_int S zr zlk (vp_nar_int _) G (a79_3, d79_3, fr) [1, 2, 3, 4, 5, 6, 7, 8, 9, 10, 11, 12, 13, 14, 15, 16, 17, 18, 0] rfl rfl (Or.inr rfl) (trivial) dX10_beats_162
                · have fc_17 := j_nlt (a := 30) (b := k79) (by omega) (by omega) c_17
                  refine lv_aload_n zx zb dX10_beats_86 rfl (lv_at hl 3 rfl) ?_
                  refine r_get (C := RX8) (T := TX8) (N := 8) (ci := 6) (v := .int (dv 11)) S in_X10_beats_X8 G 4 rfl rfl 4 (by decide) lk_X10_beats_137 rfl dX10_beats_87 ?_
                  refine lv_iload zx zb dX10_beats_90 (lv_at hl 0 rfl) ?_
                  refine r_iadd (v := ((dv 11) + (nI k79))) S rfl dX10_beats_92 ?_
                  refine lv_aload_n zx zb dX10_beats_93 rfl (lv_at hl 4 rfl) ?_
                  refine r_get (C := RX10) (T := TX10) (N := 14) (ci := 8) (v := .ref nw) S in_X10_beats_X10 G 1 rfl rfl 0 (by decide) lk_X10_beats_10 rfl dX10_beats_94 ?_
                  refine r_get (C := RX5) (T := TX5) (N := 8) (ci := 3) (v := .int (dv 0)) S in_X10_beats_X5 G 2 rfl rfl 0 (by decide) lk_X10_beats_140 rfl dX10_beats_97 ?_
                  refine lv_icmp_ge (tgt := 161) zx zb dX10_beats_100 (by decide) (fun c_18 => ?_) (fun c_18 => ?_)
                  · refine lv_iconst (v := (-1)) zx zb dX10_beats_161 (by decide) ?_
                    exact e_int S zr zlk (vp_nar_int _) G (a79_3, d79_3, fr) [1, 2, 3, 4, 5, 6, 7, 8, 9, 10, 11, 12, 13, 14, 15, 16, 17, 18, 0] rfl rfl (Or.inr rfl) (trivial) dX10_beats_162
                  · refine lv_aload_n zx zb dX10_beats_103 rfl (lv_at hl 4 rfl) ?_
                    refine r_get (C := RX10) (T := TX10) (N := 14) (ci := 8) (v := .ref (xa 8)) S in_X10_beats_X10 G 1 rfl rfl 8 (by decide) lk_X10_beats_48 rfl dX10_beats_104 ?_
                    refine lv_aload_n zx zb dX10_beats_107 rfl (lv_at hl 3 rfl) ?_
                    refine b_wv (cells' := 0) (slots' := 0) (wr := @HAppend.hAppend va_W va_W va_W _ ([((xa 5), .inl (X.2.1, 3, .inl fr))]) (@HAppend.hAppend va_W va_W va_W _ (xW h0 nw sp xa la lb) ([(nw, .inr (3, [.int (dv 0), .int (dv 1), .int (nI n0), .ref (an 0), .ref (an 7), .ref (an 9), .ref (an 11), .ref (an 13)])), ((an 0), .inl (X.2.2.2.2, 6, .inr (.inr (.inr (.inr (rowQ an)))))), ((an 2), .inr (6, [.int (sv 3), .int (sv 4), .int (sv 5), .int (dv 15), .int (dv 16), .int (dv 17), .int (dv 18), .int (dv 19)])), ((an 3), .inr (6, [.int (sv 6), .int (sv 7), .int (sv 8), .int (dv 20), .int (dv 21), .int (dv 22), .int (dv 23), .int (dv 24)])), ((an 4), .inr (6, [.int (sv 9), .int (sv 10), .int (sv 11), .int (dv 25), .int (dv 26), .int (dv 27), .int (dv 28), .int (dv 29)])), ((an 5), .inr (6, [.int (sv 12), .int (sv 13), .int (sv 14), .int (dv 30), .int (dv 31), .int (dv 32), .int (dv 33), .int (dv 34)])), ((an 6), .inr (6, [.int (sv 15), .int (sv 16), .int (sv 17), .int (dv 35), .int (dv 36), .int (dv 37), .int (dv 38), .int (dv 39)])), ((an 7), .inr (2, [.ref (an 8), .int (nI n1)])), ((an 8), .inl (X.2.1, 248, .inl g0)), ((an 9), .inr (5, [.int 5, .int 0, .int 1, .ref (an 10), .int (nI n2)])), ((an 10), .inl (X.2.1, 25, .inl gs)), ((an 11), .inr (5, [.int 6, .int 1, .int 1, .ref (an 12), .int (nI n3)])), ((an 12), .inl (X.2.1, 30, .inl gn)), ((an 13), .inr (5, [.int 6, .int 0, .int 0, .ref (an 14), .int (nI n4)])), ((an 14), .inl (X.2.1, 30, .inl gm))]))) G rfl rfl [18, 4] [0, 1, 2, 3, 5, 6, 7, 8, 9, 10, 11, 12, 13, 14, 15, 16, 17] rfl rfl rfl rfl (n_V (As := [.ref (an 1)]) (rest := []) (C := RX8) (T := TX8) (N := 8) (ci := 6) S G (s_rcopy l X (xa 8) a79_3 d79_3 (an 1) (fun k => sv (0 + k)) (fun k => dv (10 + k)) H.size) gX10_beats_X8_copyFrom rfl rfl rfl hdV_X8_copyFrom ⟨Nat.le_of_ble_eq_true rfl, Nat.le_of_ble_eq_true rfl⟩ [18, 4] rfl rfl 18 rfl rfl rfl hl.1 (Nat.le_of_ble_eq_true rfl) dX10_beats_108 ⟨Nat.le_of_ble_eq_true rfl, Nat.le_of_ble_eq_true rfl⟩) (fun u_19 H locs hp_19 G => ?_)
                    obtain ⟨a_19a, d_19b⟩ := u_19
                    have hq_19 := hp_19
                    have G : wd X (va_A (@HAppend.hAppend va_W va_W va_W _ (xW h0 nw sp xa la lb) (@HAppend.hAppend va_W va_W va_W _ (rcV X nw an sv dv n0 n1 n2 n3 n4 g0 gs gn gm) (@HAppend.hAppend va_W va_W va_W _ (rnV (xa 8) ag dg) ([((xa 5), .inl (X.2.1, 3, .inl fr))])))) sz) (va_A (@HAppend.hAppend va_W va_W va_W _ (xW h0 nw sp xa la lb) (@HAppend.hAppend va_W va_W va_W _ (rcV X nw an sv dv n0 n1 n2 n3 n4 g0 gs gn gm) (@HAppend.hAppend va_W va_W va_W _ (rnV (xa 8) ag dg) ([((xa 5), .inl (X.2.1, 3, .inl fr))])))) sz) s (@HAppend.hAppend va_W va_W va_W _ ([((xa 5), .inl (X.2.1, 3, .inl fr))]) (@HAppend.hAppend va_W va_W va_W _ (xW h0 nw sp xa la lb) (@HAppend.hAppend va_W va_W va_W _ (rcV X nw an sv dv n0 n1 n2 n3 n4 g0 gs gn gm) (rnV (xa 8) a_19a d_19b)))) H locs := wd_sub G [0, 1, 2, 3, 18, 4, 5, 6, 7, 8, 9, 10, 11, 12, 13, 14, 15, 16, 17] rfl rfl
                    refine lv_aload_n zx zb dX10_beats_111 rfl (lv_at hl 4 rfl) ?_
                    refine r_get (C := RX10) (T := TX10) (N := 14) (ci := 8) (v := .ref (xa 8)) S in_X10_beats_X10 G 1 rfl rfl 8 (by decide) lk_X10_beats_48 rfl dX10_beats_112 ?_
                    refine lv_dup zx zb dX10_beats_115 rfl ?_
                    refine r_get (C := RX8) (T := TX8) (N := 8) (ci := 6) (v := .int (d_19b 1)) S in_X10_beats_X8 G 18 rfl rfl 4 (by decide) lk_X10_beats_137 rfl dX10_beats_116 ?_
                    refine lv_iload zx zb dX10_beats_119 (lv_at hl 0 rfl) ?_
                    refine r_iadd (v := ((d_19b 1) + (nI k79))) S rfl dX10_beats_121 ?_
                    refine r_put (C := RX8) (T := TX8) (N := 8) (ci := 6) (v := .int ((d_19b 1) + (nI k79))) S in_X10_beats_X8 tyX8_ok nmX8 G 18 rfl rfl 4 (by decide) lk_X10_beats_137 rfl (vp_nar_int _) rfl (Nat.le_of_ble_eq_true rfl) dX10_beats_122 (fun H locs G => ?_)
                    obtain ⟨d_20, G⟩ : ∃ d_20 : Nat → Int32, wd X (va_A (@HAppend.hAppend va_W va_W va_W _ (xW h0 nw sp xa la lb) (@HAppend.hAppend va_W va_W va_W _ (rcV X nw an sv dv n0 n1 n2 n3 n4 g0 gs gn gm) (@HAppend.hAppend va_W va_W va_W _ (rnV (xa 8) ag dg) ([((xa 5), .inl (X.2.1, 3, .inl fr))])))) sz) (va_A (@HAppend.hAppend va_W va_W va_W _ (xW h0 nw sp xa la lb) (@HAppend.hAppend va_W va_W va_W _ (rcV X nw an sv dv n0 n1 n2 n3 n4 g0 gs gn gm) (@HAppend.hAppend va_W va_W va_W _ (rnV (xa 8) ag dg) ([((xa 5), .inl (X.2.1, 3, .inl fr))])))) sz) s (@HAppend.hAppend va_W va_W va_W _ ([((xa 5), .inl (X.2.1, 3, .inl fr))]) (@HAppend.hAppend va_W va_W va_W _ (xW h0 nw sp xa la lb) (@HAppend.hAppend va_W va_W va_W _ (rcV X nw an sv dv n0 n1 n2 n3 n4 g0 gs gn gm) (rnV (xa 8) a_19a d_20)))) H locs := ⟨upd d_19b 1 ((d_19b 1) + (nI k79)), G⟩
                    refine lv_aload_n zx zb dX10_beats_125 rfl (lv_at hl 4 rfl) ?_
                    refine r_get (C := RX10) (T := TX10) (N := 14) (ci := 8) (v := .ref (xa 8)) S in_X10_beats_X10 G 1 rfl rfl 8 (by decide) lk_X10_beats_48 rfl dX10_beats_126 ?_
                    refine lv_aload_n zx zb dX10_beats_129 rfl (lv_at hl 4 rfl) ?_
                    refine r_get (C := RX10) (T := TX10) (N := 14) (ci := 8) (v := .ref nw) S in_X10_beats_X10 G 1 rfl rfl 0 (by decide) lk_X10_beats_10 rfl dX10_beats_130 ?_
                    refine r_get (C := RX5) (T := TX5) (N := 8) (ci := 3) (v := .int (dv 1)) S in_X10_beats_X5 G 2 rfl rfl 1 (by decide) lk_X10_beats_110 rfl dX10_beats_133 ?_
                    refine lv_aload_n zx zb dX10_beats_136 rfl (lv_at hl 4 rfl) ?_
                    refine r_get (C := RX10) (T := TX10) (N := 14) (ci := 8) (v := .ref nw) S in_X10_beats_X10 G 1 rfl rfl 0 (by decide) lk_X10_beats_10 rfl dX10_beats_137 ?_
                    refine r_get (C := RX5) (T := TX5) (N := 8) (ci := 3) (v := .int (dv 0)) S in_X10_beats_X5 G 2 rfl rfl 0 (by decide) lk_X10_beats_140 rfl dX10_beats_140 ?_
                    refine lv_iload zx zb dX10_beats_143 (lv_at hl 1 rfl) ?_
                    refine b_wi (cells' := 0) (slots' := 0) (wr := @HAppend.hAppend va_W va_W va_W _ ([((xa 5), .inl (X.2.1, 3, .inl fr))]) (@HAppend.hAppend va_W va_W va_W _ (xW h0 nw sp xa la lb) (rcV X nw an sv dv n0 n1 n2 n3 n4 g0 gs gn gm))) G rfl rfl [18] [0, 1, 2, 3, 4, 5, 6, 7, 8, 9, 10, 11, 12, 13, 14, 15, 16, 17] rfl rfl rfl rfl (n_V (As := [.int (dv 1), .int (dv 0), .int x_16]) (rest := []) (C := RX8) (T := TX8) (N := 8) (ci := 6) S G (s_ticksToHome l X (xa 8) a_19a d_20 (dv 1) (dv 0) x_16 (by first | decide | assumption | exact k_60a (by assumption)) H.size) gX10_beats_X8_ticksToHome rfl rfl rfl hdV_X8_ticksToHome ⟨Nat.le_of_ble_eq_true rfl, Nat.le_of_ble_eq_true rfl⟩ [18] rfl rfl 18 rfl rfl rfl hl.1 (Nat.le_of_ble_eq_true rfl) dX10_beats_145 ⟨Nat.le_of_ble_eq_true rfl, Nat.le_of_ble_eq_true rfl⟩) (fun r_21 u_21 H locs hp_21 G => ?_)
                    obtain ⟨d_21, rfl⟩ : ∃ z, z = u_21 := ⟨_, rfl⟩
                    have hq_21 := hp_21
                    obtain ⟨hq_21, hs_21⟩ := hq_21
                    have G : wd X (va_A (@HAppend.hAppend va_W va_W va_W _ (xW h0 nw sp xa la lb) (@HAppend.hAppend va_W va_W va_W _ (rcV X nw an sv dv n0 n1 n2 n3 n4 g0 gs gn gm) (@HAppend.hAppend va_W va_W va_W _ (rnV (xa 8) ag dg) ([((xa 5), .inl (X.2.1, 3, .inl fr))])))) sz) (va_A (@HAppend.hAppend va_W va_W va_W _ (xW h0 nw sp xa la lb) (@HAppend.hAppend va_W va_W va_W _ (rcV X nw an sv dv n0 n1 n2 n3 n4 g0 gs gn gm) (@HAppend.hAppend va_W va_W va_W _ (rnV (xa 8) ag dg) ([((xa 5), .inl (X.2.1, 3, .inl fr))])))) sz) s (@HAppend.hAppend va_W va_W va_W _ ([((xa 5), .inl (X.2.1, 3, .inl fr))]) (@HAppend.hAppend va_W va_W va_W _ (xW h0 nw sp xa la lb) (@HAppend.hAppend va_W va_W va_W _ (rcV X nw an sv dv n0 n1 n2 n3 n4 g0 gs gn gm) (rnV (xa 8) a_19a d_21)))) H locs := G
                    refine lv_iconst (v := (-1)) zx zb dX10_beats_148 (by decide) ?_
                    refine lv_icmp_eq (tgt := 155) zx zb dX10_beats_149 (by decide) (fun c_22 => ?_) (fun c_22 => ?_)
                    · refine lv_iinc (v := (nI (k79 + 1))) (lv' := [(6, .int (nI (k79 + 1))), (5, .int x_16), (4, .int r_14), (3, .ref (an 1)), (0, .ref h0), (1, .int 0), (2, .int (nI i_1))]) zx zb dX10_beats_155 hl (k := 0) rfl (nI_add k79 1) (by decide) rfl (fun ls hl => ?_)
                      refine lv_goto (tgt := 79) zx zb dX10_beats_158 (by decide) ?_
                      exact ih79 (k79 + 1) a_19a d_21 _ _ _ (by omega) (by omega) G hl
                    · refine lv_iload zx zb dX10_beats_152 (lv_at hl 0 rfl) ?_
                      exact e_int S zr zlk (vp_nar_int _) G (a_19a, d_21, fr) [1, 2, 3, 4, 5, 6, 7, 8, 9, 10, 11, 12, 13, 14, 15, 16, 17, 18, 0] rfl rfl (Or.inr rfl) (trivial) dX10_beats_154
          · refine lv_iconst (v := (-1)) zx zb dX10_beats_48 (by decide) ?_
            exact e_int S zr zlk (vp_nar_int _) G (ag, dg, fr) [0, 1, 2, 3, 4, 5, 6, 7, 8, 9, 10, 11, 12, 13, 14, 15, 16, 17, 18] rfl rfl (Or.inr rfl) (trivial) dX10_beats_49
    · refine k_it (v := 1) rfl ?_
      refine r_aald (C := RX8) (b := (an 2)) S G 2 3 rfl rfl (k_vp (by decide)) rfl dX10_beats_24 ?_
      refine lv_astore_n (lv' := [(3, .ref (an 2)), (0, .ref h0), (1, .int 1), (2, .int (nI i_1))]) zx zb dX10_beats_25 rfl hl (by decide) rfl (fun ls hl => ?_)
      refine lv_aload_n zx zb dX10_beats_26 rfl (lv_at hl 0 rfl) ?_
      refine o_ri (cells' := 0) (slots' := 0) G rfl rfl (n_V (As := []) (rest := []) (C := RX8) (T := TX8) (N := 8) (ci := 6) S G (s_isHome l X (an 2) (fun k => sv (3 + k)) (fun k => dv (15 + k)) H.size) gX10_beats_X8_isHome rfl rfl rfl hdV_X8_isHome ⟨Nat.le_of_ble_eq_true rfl, Nat.le_of_ble_eq_true rfl⟩ [4] rfl rfl 4 rfl rfl rfl hl.1 (Nat.le_of_ble_eq_true rfl) dX10_beats_27 ⟨Nat.le_of_ble_eq_true rfl, Nat.le_of_ble_eq_true rfl⟩) (fun r_23 u_23 H locs hp_23 G => ?_)
      have G : wd X (va_A (@HAppend.hAppend va_W va_W va_W _ (xW h0 nw sp xa la lb) (@HAppend.hAppend va_W va_W va_W _ (rcV X nw an sv dv n0 n1 n2 n3 n4 g0 gs gn gm) (@HAppend.hAppend va_W va_W va_W _ (rnV (xa 8) ag dg) ([((xa 5), .inl (X.2.1, 3, .inl fr))])))) sz) (va_A (@HAppend.hAppend va_W va_W va_W _ (xW h0 nw sp xa la lb) (@HAppend.hAppend va_W va_W va_W _ (rcV X nw an sv dv n0 n1 n2 n3 n4 g0 gs gn gm) (@HAppend.hAppend va_W va_W va_W _ (rnV (xa 8) ag dg) ([((xa 5), .inl (X.2.1, 3, .inl fr))])))) sz) s (@HAppend.hAppend va_W va_W va_W _ (xW h0 nw sp xa la lb) (@HAppend.hAppend va_W va_W va_W _ (rcV X nw an sv dv n0 n1 n2 n3 n4 g0 gs gn gm) (@HAppend.hAppend va_W va_W va_W _ (rnV (xa 8) ag dg) ([((xa 5), .inl (X.2.1, 3, .inl fr))])))) H locs := G
      refine lv_if_ne (tgt := 48) zx zb dX10_beats_30 (by decide) (fun c_24 => ?_) (fun c_24 => ?_)
      · refine lv_iconst (v := (-1)) zx zb dX10_beats_48 (by decide) ?_
        exact e_int S zr zlk (vp_nar_int _) G (ag, dg, fr) [0, 1, 2, 3, 4, 5, 6, 7, 8, 9, 10, 11, 12, 13, 14, 15, 16, 17, 18] rfl rfl (Or.inr rfl) (trivial) dX10_beats_49
      · refine lv_aload_n zx zb dX10_beats_33 rfl (lv_at hl 1 rfl) ?_
        refine r_get (C := RX10) (T := TX10) (N := 14) (ci := 8) (v := .ref nw) S in_X10_beats_X10 G 0 rfl rfl 0 (by decide) lk_X10_beats_10 rfl dX10_beats_34 ?_
        refine r_get (C := RX5) (T := TX5) (N := 8) (ci := 3) (v := .ref (an 0)) S in_X10_beats_X5 G 1 rfl rfl 3 (by decide) lk_X10_beats_126 rfl dX10_beats_37 ?_
        refine lv_iload_n zx zb dX10_beats_40 rfl (lv_at hl 3 rfl) ?_
        refine k_cutW (PP := fun Wx => ∀ (x_25 : Int32) (H : Heap) (locs : List Loc) (ls : Array Slot), wd X (va_A (@HAppend.hAppend va_W va_W va_W _ (xW h0 nw sp xa la lb) (@HAppend.hAppend va_W va_W va_W _ (rcV X nw an sv dv n0 n1 n2 n3 n4 g0 gs gn gm) (@HAppend.hAppend va_W va_W va_W _ (rnV (xa 8) ag dg) ([((xa 5), .inl (X.2.1, 3, .inl fr))])))) sz) (va_A (@HAppend.hAppend va_W va_W va_W _ (xW h0 nw sp xa la lb) (@HAppend.hAppend va_W va_W va_W _ (rcV X nw an sv dv n0 n1 n2 n3 n4 g0 gs gn gm) (@HAppend.hAppend va_W va_W va_W _ (rnV (xa 8) ag dg) ([((xa 5), .inl (X.2.1, 3, .inl fr))])))) sz) s (@HAppend.hAppend va_W va_W va_W _ (xW h0 nw sp xa la lb) (@HAppend.hAppend va_W va_W va_W _ (rcV X nw an sv dv n0 n1 n2 n3 n4 g0 gs gn gm) (@HAppend.hAppend va_W va_W va_W _ (rnV (xa 8) ag dg) ([((xa 5), .inl (X.2.1, 3, .inl fr))])))) H locs → lv_has ls 7 [(3, .ref (an 2)), (0, .ref h0), (1, .int 1), (2, .int (nI i_1))] → Wx (F0 m 45 ls [.int x_25]) H locs) ?_ ?_
        · intro join_41
          rcases k_6c (show i_1 < 6 by omega) with q_26 | q_26 | q_26 | q_26 | q_26 | q_26
          · refine k_it (v := 0) (by rw [q_26]; rfl) ?_
            refine r_aald (C := RX8) (b := (an 1)) S G 2 3 rfl rfl (k_vp (by decide)) rfl dX10_beats_41 ?_
            refine o_ri (cells' := 0) (slots' := 0) G rfl rfl (n_V (As := []) (rest := []) (C := RX8) (T := TX8) (N := 8) (ci := 6) S G (s_isHome l X (an 1) (fun k => sv (0 + k)) (fun k => dv (10 + k)) H.size) gX10_beats_X8_isHome rfl rfl rfl hdV_X8_isHome ⟨Nat.le_of_ble_eq_true rfl, Nat.le_of_ble_eq_true rfl⟩ [3] rfl rfl 3 rfl rfl rfl hl.1 (Nat.le_of_ble_eq_true rfl) dX10_beats_42 ⟨Nat.le_of_ble_eq_true rfl, Nat.le_of_ble_eq_true rfl⟩) (fun r_27 u_27 H locs hp_27 G => ?_)
            have G : wd X (va_A (@HAppend.hAppend va_W va_W va_W _ (xW h0 nw sp xa la lb) (@HAppend.hAppend va_W va_W va_W _ (rcV X nw an sv dv n0 n1 n2 n3 n4 g0 gs gn gm) (@HAppend.hAppend va_W va_W va_W _ (rnV (xa 8) ag dg) ([((xa 5), .inl (X.2.1, 3, .inl fr))])))) sz) (va_A (@HAppend.hAppend va_W va_W va_W _ (xW h0 nw sp xa la lb) (@HAppend.hAppend va_W va_W va_W _ (rcV X nw an sv dv n0 n1 n2 n3 n4 g0 gs gn gm) (@HAppend.hAppend va_W va_W va_W _ (rnV (xa 8) ag dg) ([((xa 5), .inl (X.2.1, 3, .inl fr))])))) sz) s (@HAppend.hAppend va_W va_W va_W _ (xW h0 nw sp xa la lb) (@HAppend.hAppend va_W va_W va_W _ (rcV X nw an sv dv n0 n1 n2 n3 n4 g0 gs gn gm) (@HAppend.hAppend va_W va_W va_W _ (rnV (xa 8) ag dg) ([((xa 5), .inl (X.2.1, 3, .inl fr))])))) H locs := G
            exact join_41 r_27 _ _ _  G hl
          · refine k_it (v := 1) (by rw [q_26]; rfl) ?_
            refine r_aald (C := RX8) (b := (an 2)) S G 2 3 rfl rfl (k_vp (by decide)) rfl dX10_beats_41 ?_
            refine o_ri (cells' := 0) (slots' := 0) G rfl rfl (n_V (As := []) (rest := []) (C := RX8) (T := TX8) (N := 8) (ci := 6) S G (s_isHome l X (an 2) (fun k => sv (3 + k)) (fun k => dv (15 + k)) H.size) gX10_beats_X8_isHome rfl rfl rfl hdV_X8_isHome ⟨Nat.le_of_ble_eq_true rfl, Nat.le_of_ble_eq_true rfl⟩ [4] rfl rfl 4 rfl rfl rfl hl.1 (Nat.le_of_ble_eq_true rfl) dX10_beats_42 ⟨Nat.le_of_ble_eq_true rfl, Nat.le_of_ble_eq_true rfl⟩) (fun r_28 u_28 H locs hp_28 G => ?_)
            have G : wd X (va_A (@HAppend.hAppend va_W va_W va_W _ (xW h0 nw sp xa la lb) (@HAppend.hAppend va_W va_W va_W _ (rcV X nw an sv dv n0 n1 n2 n3 n4 g0 gs gn gm) (@HAppend.hAppend va_W va_W va_W _ (rnV (xa 8) ag dg) ([((xa 5), .inl (X.2.1, 3, .inl fr))])))) sz) (va_A (@HAppend.hAppend va_W va_W va_W _ (xW h0 nw sp xa la lb) (@HAppend.hAppend va_W va_W va_W _ (rcV X nw an sv dv n0 n1 n2 n3 n4 g0 gs gn gm) (@HAppend.hAppend va_W va_W va_W _ (rnV (xa 8) ag dg) ([((xa 5), .inl (X.2.1, 3, .inl fr))])))) sz) s (@HAppend.hAppend va_W va_W va_W _ (xW h0 nw sp xa la lb) (@HAppend.hAppend va_W va_W va_W _ (rcV X nw an sv dv n0 n1 n2 n3 n4 g0 gs gn gm) (@HAppend.hAppend va_W va_W va_W _ (rnV (xa 8) ag dg) ([((xa 5), .inl (X.2.1, 3, .inl fr))])))) H locs := G
            exact join_41 r_28 _ _ _  G hl
          · refine k_it (v := 2) (by rw [q_26]; rfl) ?_
            refine r_aald (C := RX8) (b := (an 3)) S G 2 3 rfl rfl (k_vp (by decide)) rfl dX10_beats_41 ?_
            refine o_ri (cells' := 0) (slots' := 0) G rfl rfl (n_V (As := []) (rest := []) (C := RX8) (T := TX8) (N := 8) (ci := 6) S G (s_isHome l X (an 3) (fun k => sv (6 + k)) (fun k => dv (20 + k)) H.size) gX10_beats_X8_isHome rfl rfl rfl hdV_X8_isHome ⟨Nat.le_of_ble_eq_true rfl, Nat.le_of_ble_eq_true rfl⟩ [5] rfl rfl 5 rfl rfl rfl hl.1 (Nat.le_of_ble_eq_true rfl) dX10_beats_42 ⟨Nat.le_of_ble_eq_true rfl, Nat.le_of_ble_eq_true rfl⟩) (fun r_29 u_29 H locs hp_29 G => ?_)
            have G : wd X (va_A (@HAppend.hAppend va_W va_W va_W _ (xW h0 nw sp xa la lb) (@HAppend.hAppend va_W va_W va_W _ (rcV X nw an sv dv n0 n1 n2 n3 n4 g0 gs gn gm) (@HAppend.hAppend va_W va_W va_W _ (rnV (xa 8) ag dg) ([((xa 5), .inl (X.2.1, 3, .inl fr))])))) sz) (va_A (@HAppend.hAppend va_W va_W va_W _ (xW h0 nw sp xa la lb) (@HAppend.hAppend va_W va_W va_W _ (rcV X nw an sv dv n0 n1 n2 n3 n4 g0 gs gn gm) (@HAppend.hAppend va_W va_W va_W _ (rnV (xa 8) ag dg) ([((xa 5), .inl (X.2.1, 3, .inl fr))])))) sz) s (@HAppend.hAppend va_W va_W va_W _ (xW h0 nw sp xa la lb) (@HAppend.hAppend va_W va_W va_W _ (rcV X nw an sv dv n0 n1 n2 n3 n4 g0 gs gn gm) (@HAppend.hAppend va_W va_W va_W _ (rnV (xa 8) ag dg) ([((xa 5), .inl (X.2.1, 3, .inl fr))])))) H locs := G
            exact join_41 r_29 _ _ _  G hl
          · refine k_it (v := 3) (by rw [q_26]; rfl) ?_
            refine r_aald (C := RX8) (b := (an 4)) S G 2 3 rfl rfl (k_vp (by decide)) rfl dX10_beats_41 ?_
            refine o_ri (cells' := 0) (slots' := 0) G rfl rfl (n_V (As := []) (rest := []) (C := RX8) (T := TX8) (N := 8) (ci := 6) S G (s_isHome l X (an 4) (fun k => sv (9 + k)) (fun k => dv (25 + k)) H.size) gX10_beats_X8_isHome rfl rfl rfl hdV_X8_isHome ⟨Nat.le_of_ble_eq_true rfl, Nat.le_of_ble_eq_true rfl⟩ [6] rfl rfl 6 rfl rfl rfl hl.1 (Nat.le_of_ble_eq_true rfl) dX10_beats_42 ⟨Nat.le_of_ble_eq_true rfl, Nat.le_of_ble_eq_true rfl⟩) (fun r_30 u_30 H locs hp_30 G => ?_)
            have G : wd X (va_A (@HAppend.hAppend va_W va_W va_W _ (xW h0 nw sp xa la lb) (@HAppend.hAppend va_W va_W va_W _ (rcV X nw an sv dv n0 n1 n2 n3 n4 g0 gs gn gm) (@HAppend.hAppend va_W va_W va_W _ (rnV (xa 8) ag dg) ([((xa 5), .inl (X.2.1, 3, .inl fr))])))) sz) (va_A (@HAppend.hAppend va_W va_W va_W _ (xW h0 nw sp xa la lb) (@HAppend.hAppend va_W va_W va_W _ (rcV X nw an sv dv n0 n1 n2 n3 n4 g0 gs gn gm) (@HAppend.hAppend va_W va_W va_W _ (rnV (xa 8) ag dg) ([((xa 5), .inl (X.2.1, 3, .inl fr))])))) sz) s (@HAppend.hAppend va_W va_W va_W _ (xW h0 nw sp xa la lb) (@HAppend.hAppend va_W va_W va_W _ (rcV X nw an sv dv n0 n1 n2 n3 n4 g0 gs gn gm) (@HAppend.hAppend va_W va_W va_W _ (rnV (xa 8) ag dg) ([((xa 5), .inl (X.2.1, 3, .inl fr))])))) H locs := G
            exact join_41 r_30 _ _ _  G hl
          · refine k_it (v := 4) (by rw [q_26]; rfl) ?_
            refine r_aald (C := RX8) (b := (an 5)) S G 2 3 rfl rfl (k_vp (by decide)) rfl dX10_beats_41 ?_
            refine o_ri (cells' := 0) (slots' := 0) G rfl rfl (n_V (As := []) (rest := []) (C := RX8) (T := TX8) (N := 8) (ci := 6) S G (s_isHome l X (an 5) (fun k => sv (12 + k)) (fun k => dv (30 + k)) H.size) gX10_beats_X8_isHome rfl rfl rfl hdV_X8_isHome ⟨Nat.le_of_ble_eq_true rfl, Nat.le_of_ble_eq_true rfl⟩ [7] rfl rfl 7 rfl rfl rfl hl.1 (Nat.le_of_ble_eq_true rfl) dX10_beats_42 ⟨Nat.le_of_ble_eq_true rfl, Nat.le_of_ble_eq_true rfl⟩) (fun r_31 u_31 H locs hp_31 G => ?_)
            have G : wd X (va_A (@HAppend.hAppend va_W va_W va_W _ (xW h0 nw sp xa la lb) (@HAppend.hAppend va_W va_W va_W _ (rcV X nw an sv dv n0 n1 n2 n3 n4 g0 gs gn gm) (@HAppend.hAppend va_W va_W va_W _ (rnV (xa 8) ag dg) ([((xa 5), .inl (X.2.1, 3, .inl fr))])))) sz) (va_A (@HAppend.hAppend va_W va_W va_W _ (xW h0 nw sp xa la lb) (@HAppend.hAppend va_W va_W va_W _ (rcV X nw an sv dv n0 n1 n2 n3 n4 g0 gs gn gm) (@HAppend.hAppend va_W va_W va_W _ (rnV (xa 8) ag dg) ([((xa 5), .inl (X.2.1, 3, .inl fr))])))) sz) s (@HAppend.hAppend va_W va_W va_W _ (xW h0 nw sp xa la lb) (@HAppend.hAppend va_W va_W va_W _ (rcV X nw an sv dv n0 n1 n2 n3 n4 g0 gs gn gm) (@HAppend.hAppend va_W va_W va_W _ (rnV (xa 8) ag dg) ([((xa 5), .inl (X.2.1, 3, .inl fr))])))) H locs := G
            exact join_41 r_31 _ _ _  G hl
          · refine k_it (v := 5) (by rw [q_26]; rfl) ?_
            refine r_aald (C := RX8) (b := (an 6)) S G 2 3 rfl rfl (k_vp (by decide)) rfl dX10_beats_41 ?_
            refine o_ri (cells' := 0) (slots' := 0) G rfl rfl (n_V (As := []) (rest := []) (C := RX8) (T := TX8) (N := 8) (ci := 6) S G (s_isHome l X (an 6) (fun k => sv (15 + k)) (fun k => dv (35 + k)) H.size) gX10_beats_X8_isHome rfl rfl rfl hdV_X8_isHome ⟨Nat.le_of_ble_eq_true rfl, Nat.le_of_ble_eq_true rfl⟩ [8] rfl rfl 8 rfl rfl rfl hl.1 (Nat.le_of_ble_eq_true rfl) dX10_beats_42 ⟨Nat.le_of_ble_eq_true rfl, Nat.le_of_ble_eq_true rfl⟩) (fun r_32 u_32 H locs hp_32 G => ?_)
            have G : wd X (va_A (@HAppend.hAppend va_W va_W va_W _ (xW h0 nw sp xa la lb) (@HAppend.hAppend va_W va_W va_W _ (rcV X nw an sv dv n0 n1 n2 n3 n4 g0 gs gn gm) (@HAppend.hAppend va_W va_W va_W _ (rnV (xa 8) ag dg) ([((xa 5), .inl (X.2.1, 3, .inl fr))])))) sz) (va_A (@HAppend.hAppend va_W va_W va_W _ (xW h0 nw sp xa la lb) (@HAppend.hAppend va_W va_W va_W _ (rcV X nw an sv dv n0 n1 n2 n3 n4 g0 gs gn gm) (@HAppend.hAppend va_W va_W va_W _ (rnV (xa 8) ag dg) ([((xa 5), .inl (X.2.1, 3, .inl fr))])))) sz) s (@HAppend.hAppend va_W va_W va_W _ (xW h0 nw sp xa la lb) (@HAppend.hAppend va_W va_W va_W _ (rcV X nw an sv dv n0 n1 n2 n3 n4 g0 gs gn gm) (@HAppend.hAppend va_W va_W va_W _ (rnV (xa 8) ag dg) ([((xa 5), .inl (X.2.1, 3, .inl fr))])))) H locs := G
            exact join_41 r_32 _ _ _  G hl
        · intro x_25 H locs ls  G hl
          refine lv_if_eq (tgt := 50) zx zb dX10_beats_45 (by decide) (fun c_33 => ?_) (fun c_33 => ?_)
          · refine lv_aload_n zx zb dX10_beats_50 rfl (lv_at hl 1 rfl) ?_
            refine lv_iload_n zx zb dX10_beats_51 rfl (lv_at hl 3 rfl) ?_
            refine lv_bipush (v := 60) zx zb dX10_beats_52 (by decide) ?_
            refine b_wi (cells' := 0) (slots' := 0) (wr := [((xa 5), .inl (X.2.1, 3, .inl fr))]) G rfl rfl [0, 1, 2, 3, 4, 5, 6, 7, 8, 9, 10, 11, 12, 13, 14, 15, 16, 17] [18] rfl rfl rfl rfl (n_V (As := [.int (nI i_1), .int 60]) (rest := []) (C := RX10) (T := TX10) (N := 14) (ci := 8) S G (s_homeBehind l X h0 nw sp xa la lb an sv dv n0 n1 n2 n3 n4 g0 gs gn gm ag dg i_1 60 hI_n0 hI_n1 hI_n2 hI_n3 hI_n4 (by omega) (by first | decide | assumption | exact k_60a (by assumption)) H.size) gX10_beats_X10_homeBehind rfl rfl rfl hdV_X10_homeBehind ⟨Nat.le_of_ble_eq_true rfl, Nat.le_of_ble_eq_true rfl⟩ [0, 1, 2, 3, 4, 5, 6, 7, 8, 9, 10, 11, 12, 13, 14, 15, 16, 17] rfl rfl 0 rfl rfl rfl hl.1 (Nat.le_of_ble_eq_true rfl) dX10_beats_54 ⟨Nat.le_of_ble_eq_true rfl, Nat.le_of_ble_eq_true rfl⟩) (fun r_34 u_34 H locs hp_34 G => ?_)
            obtain ⟨a_34a, d_34b⟩ := u_34
            have hq_34 := hp_34
            have G : wd X (va_A (@HAppend.hAppend va_W va_W va_W _ (xW h0 nw sp xa la lb) (@HAppend.hAppend va_W va_W va_W _ (rcV X nw an sv dv n0 n1 n2 n3 n4 g0 gs gn gm) (@HAppend.hAppend va_W va_W va_W _ (rnV (xa 8) ag dg) ([((xa 5), .inl (X.2.1, 3, .inl fr))])))) sz) (va_A (@HAppend.hAppend va_W va_W va_W _ (xW h0 nw sp xa la lb) (@HAppend.hAppend va_W va_W va_W _ (rcV X nw an sv dv n0 n1 n2 n3 n4 g0 gs gn gm) (@HAppend.hAppend va_W va_W va_W _ (rnV (xa 8) ag dg) ([((xa 5), .inl (X.2.1, 3, .inl fr))])))) sz) s (@HAppend.hAppend va_W va_W va_W _ ([((xa 5), .inl (X.2.1, 3, .inl fr))]) (@HAppend.hAppend va_W va_W va_W _ (xW h0 nw sp xa la lb) (@HAppend.hAppend va_W va_W va_W _ (rcV X nw an sv dv n0 n1 n2 n3 n4 g0 gs gn gm) (rnV (xa 8) a_34a d_34b)))) H locs := G
            refine lv_istore (lv' := [(4, .int r_34), (3, .ref (an 2)), (0, .ref h0), (1, .int 1), (2, .int (nI i_1))]) zx zb dX10_beats_57 hl (by decide) rfl (fun ls hl => ?_)
            refine lv_iload zx zb dX10_beats_59 (lv_at hl 0 rfl) ?_
            refine lv_iconst (v := (-1)) zx zb dX10_beats_61 (by decide) ?_
            refine k_cutW (PP := fun Wx => ∀ (x_36 : Int32) (H : Heap) (locs : List Loc) (ls : Array Slot), (x_36 ≤ 60) → wd X (va_A (@HAppend.hAppend va_W va_W va_W _ (xW h0 nw sp xa la lb) (@HAppend.hAppend va_W va_W va_W _ (rcV X nw an sv dv n0 n1 n2 n3 n4 g0 gs gn gm) (@HAppend.hAppend va_W va_W va_W _ (rnV (xa 8) ag dg) ([((xa 5), .inl (X.2.1, 3, .inl fr))])))) sz) (va_A (@HAppend.hAppend va_W va_W va_W _ (xW h0 nw sp xa la lb) (@HAppend.hAppend va_W va_W va_W _ (rcV X nw an sv dv n0 n1 n2 n3 n4 g0 gs gn gm) (@HAppend.hAppend va_W va_W va_W _ (rnV (xa 8) ag dg) ([((xa 5), .inl (X.2.1, 3, .inl fr))])))) sz) s (@HAppend.hAppend va_W va_W va_W _ ([((xa 5), .inl (X.2.1, 3, .inl fr))]) (@HAppend.hAppend va_W va_W va_W _ (xW h0 nw sp xa la lb) (@HAppend.hAppend va_W va_W va_W _ (rcV X nw an sv dv n0 n1 n2 n3 n4 g0 gs gn gm) (rnV (xa 8) a_34a d_34b)))) H locs → lv_has ls 7 [(4, .int r_34), (3, .ref (an 2)), (0, .ref h0), (1, .int 1), (2, .int (nI i_1))] → Wx (F0 m 74 ls [.int x_36]) H locs) ?_ ?_
            · intro join_62
              refine lv_icmp_ne (tgt := 70) zx zb dX10_beats_62 (by decide) (fun c_35 => ?_) (fun c_35 => ?_)
              · refine lv_iload zx zb dX10_beats_70 (lv_at hl 0 rfl) ?_
                refine lv_iconst (v := 1) zx zb dX10_beats_72 (by decide) ?_
                refine r_isub (v := (r_34 - 1)) S rfl dX10_beats_73 ?_
                exact join_62 (r_34 - 1) _ _ _ (by first | assumption | decide | exact k_m60 (by assumption)) G hl
              · refine lv_bipush (v := 60) zx zb dX10_beats_65 (by decide) ?_
                refine lv_goto (tgt := 74) zx zb dX10_beats_67 (by decide) ?_
                exact join_62 60 _ _ _ (by first | assumption | decide | exact k_m60 (by assumption)) G hl
            · intro x_36 H locs ls hk_x_36 G hl
              refine lv_istore (lv' := [(5, .int x_36), (4, .int r_34), (3, .ref (an 2)), (0, .ref h0), (1, .int 1), (2, .int (nI i_1))]) zx zb dX10_beats_74 hl (by decide) rfl (fun ls hl => ?_)
              refine lv_iconst (v := 0) zx zb dX10_beats_76 (by decide) ?_
              refine lv_istore (lv' := [(6, .int 0), (5, .int x_36), (4, .int r_34), (3, .ref (an 2)), (0, .ref h0), (1, .int 1), (2, .int (nI i_1))]) zx zb dX10_beats_77 hl (by decide) rfl (fun ls hl => ?_)
              refine k_loop (P := ∀ (zm : Nat) (k79 : Nat) (a79_3 : Nat → Int32) (d79_3 : Nat → Int32) (H : Heap) (locs : List Loc) (ls : Array Slot), 31 + 1 ≤ k79 + zm → (k79 ≤ 31) → wd X (va_A (@HAppend.hAppend va_W va_W va_W _ (xW h0 nw sp xa la lb) (@HAppend.hAppend va_W va_W va_W _ (rcV X nw an sv dv n0 n1 n2 n3 n4 g0 gs gn gm) (@HAppend.hAppend va_W va_W va_W _ (rnV (xa 8) ag dg) ([((xa 5), .inl (X.2.1, 3, .inl fr))])))) sz) (va_A (@HAppend.hAppend va_W va_W va_W _ (xW h0 nw sp xa la lb) (@HAppend.hAppend va_W va_W va_W _ (rcV X nw an sv dv n0 n1 n2 n3 n4 g0 gs gn gm) (@HAppend.hAppend va_W va_W va_W _ (rnV (xa 8) ag dg) ([((xa 5), .inl (X.2.1, 3, .inl fr))])))) sz) s (@HAppend.hAppend va_W va_W va_W _ ([((xa 5), .inl (X.2.1, 3, .inl fr))]) (@HAppend.hAppend va_W va_W va_W _ (xW h0 nw sp xa la lb) (@HAppend.hAppend va_W va_W va_W _ (rcV X nw an sv dv n0 n1 n2 n3 n4 g0 gs gn gm) (rnV (xa 8) a79_3 d79_3)))) H locs → lv_has ls 7 [(6, .int (nI k79)), (5, .int x_36), (4, .int r_34), (3, .ref (an 2)), (0, .ref h0), (1, .int 1), (2, .int (nI i_1))] → W p l e _ s m _ below meth c H locs _ _ _ (F0 m 79 ls [])) (fun loop => loop (31 + 1) 0 a_34a d_34b _ _ _ (by omega) (by omega) G hl) ?_
              intro zm
              induction zm with
              | zero => intro k79 a79_3 d79_3 H locs ls zz q_hk_k79 _ _; exact absurd zz (by omega)
              | succ zm ih79 =>
                intro k79 a79_3 d79_3 H locs ls zm_79 hk_k79 G hl
                refine lv_iload zx zb dX10_beats_79 (lv_at hl 0 rfl) ?_
                refine lv_bipush (v := 30) zx zb dX10_beats_81 (by decide) ?_
                refine lv_icmp_gt (tgt := 161) zx zb dX10_beats_83 (by decide) (fun c_37 => ?_) (fun c_37 => ?_)
                · have fc_37 := j_lt (a := 30) (b := k79) (by omega) (by omega) c_37
                  refine lv_iconst (v := (-1)) zx zb dX10_beats_161 (by decide) ?_
                  exact e_int S zr zlk (vp_nar_int _) G (a79_3, d79_3, fr) [1, 2, 3, 4, 5, 6, 7, 8, 9, 10, 11, 12, 13, 14, 15, 16, 17, 18, 0] rfl rfl (Or.inr rfl) (trivial) dX10_beats_162
                · have fc_37 := j_nlt (a := 30) (b := k79) (by omega) (by omega) c_37
                  refine lv_aload_n zx zb dX10_beats_86 rfl (lv_at hl 3 rfl) ?_
                  refine r_get (C := RX8) (T := TX8) (N := 8) (ci := 6) (v := .int (dv 16)) S in_X10_beats_X8 G 5 rfl rfl 4 (by decide) lk_X10_beats_137 rfl dX10_beats_87 ?_
                  refine lv_iload zx zb dX10_beats_90 (lv_at hl 0 rfl) ?_
                  refine r_iadd (v := ((dv 16) + (nI k79))) S rfl dX10_beats_92 ?_
                  refine lv_aload_n zx zb dX10_beats_93 rfl (lv_at hl 4 rfl) ?_
                  refine r_get (C := RX10) (T := TX10) (N := 14) (ci := 8) (v := .ref nw) S in_X10_beats_X10 G 1 rfl rfl 0 (by decide) lk_X10_beats_10 rfl dX10_beats_94 ?_
                  refine r_get (C := RX5) (T := TX5) (N := 8) (ci := 3) (v := .int (dv 0)) S in_X10_beats_X5 G 2 rfl rfl 0 (by decide) lk_X10_beats_140 rfl dX10_beats_97 ?_
                  refine lv_icmp_ge (tgt := 161) zx zb dX10_beats_100 (by decide) (fun c_38 => ?_) (fun c_38 => ?_)
                  · refine lv_iconst (v := (-1)) zx zb dX10_beats_161 (by decide) ?_
                    exact e_int S zr zlk (vp_nar_int _) G (a79_3, d79_3, fr) [1, 2, 3, 4, 5, 6, 7, 8, 9, 10, 11, 12, 13, 14, 15, 16, 17, 18, 0] rfl rfl (Or.inr rfl) (trivial) dX10_beats_162
                  · refine lv_aload_n zx zb dX10_beats_103 rfl (lv_at hl 4 rfl) ?_
                    refine r_get (C := RX10) (T := TX10) (N := 14) (ci := 8) (v := .ref (xa 8)) S in_X10_beats_X10 G 1 rfl rfl 8 (by decide) lk_X10_beats_48 rfl dX10_beats_104 ?_
                    refine lv_aload_n zx zb dX10_beats_107 rfl (lv_at hl 3 rfl) ?_
                    refine b_wv (cells' := 0) (slots' := 0) (wr := @HAppend.hAppend va_W va_W va_W _ ([((xa 5), .inl (X.2.1, 3, .inl fr))]) (@HAppend.hAppend va_W va_W va_W _ (xW h0 nw sp xa la lb) ([(nw, .inr (3, [.int (dv 0), .int (dv 1), .int (nI n0), .ref (an 0), .ref (an 7), .ref (an 9), .ref (an 11), .ref (an 13)])), ((an 0), .inl (X.2.2.2.2, 6, .inr (.inr (.inr (.inr (rowQ an)))))), ((an 1), .inr (6, [.int (sv 0), .int (sv 1), .int (sv 2), .int (dv 10), .int (dv 11), .int (dv 12), .int (dv 13), .int (dv 14)])), ((an 3), .inr (6, [.int (sv 6), .int (sv 7), .int (sv 8), .int (dv 20), .int (dv 21), .int (dv 22), .int (dv 23), .int (dv 24)])), ((an 4), .inr (6, [.int (sv 9), .int (sv 10), .int (sv 11), .int (dv 25), .int (dv 26), .int (dv 27), .int (dv 28), .int (dv 29)])), ((an 5), .inr (6, [.int (sv 12), .int (sv 13), .int (sv 14), .int (dv 30), .int (dv 31), .int (dv 32), .int (dv 33), .int (dv 34)])), ((an 6), .inr (6, [.int (sv 15), .int (sv 16), .int (sv 17), .int (dv 35), .int (dv 36), .int (dv 37), .int (dv 38), .int (dv 39)])), ((an 7), .inr (2, [.ref (an 8), .int (nI n1)])), ((an 8), .inl (X.2.1, 248, .inl g0)), ((an 9), .inr (5, [.int 5, .int 0, .int 1, .ref (an 10), .int (nI n2)])), ((an 10), .inl (X.2.1, 25, .inl gs)), ((an 11), .inr (5, [.int 6, .int 1, .int 1, .ref (an 12), .int (nI n3)])), ((an 12), .inl (X.2.1, 30, .inl gn)), ((an 13), .inr (5, [.int 6, .int 0, .int 0, .ref (an 14), .int (nI n4)])), ((an 14), .inl (X.2.1, 30, .inl gm))]))) G rfl rfl [18, 5] [0, 1, 2, 3, 4, 6, 7, 8, 9, 10, 11, 12, 13, 14, 15, 16, 17] rfl rfl rfl rfl (n_V (As := [.ref (an 2)]) (rest := []) (C := RX8) (T := TX8) (N := 8) (ci := 6) S G (s_rcopy l X (xa 8) a79_3 d79_3 (an 2) (fun k => sv (3 + k)) (fun k => dv (15 + k)) H.size) gX10_beats_X8_copyFrom rfl rfl rfl hdV_X8_copyFrom ⟨Nat.le_of_ble_eq_true rfl, Nat.le_of_ble_eq_true rfl⟩ [18, 5] rfl rfl 18 rfl rfl rfl hl.1 (Nat.le_of_ble_eq_true rfl) dX10_beats_108 ⟨Nat.le_of_ble_eq_true rfl, Nat.le_of_ble_eq_true rfl⟩) (fun u_39 H locs hp_39 G => ?_)
                    obtain ⟨a_39a, d_39b⟩ := u_39
                    have hq_39 := hp_39
                    have G : wd X (va_A (@HAppend.hAppend va_W va_W va_W _ (xW h0 nw sp xa la lb) (@HAppend.hAppend va_W va_W va_W _ (rcV X nw an sv dv n0 n1 n2 n3 n4 g0 gs gn gm) (@HAppend.hAppend va_W va_W va_W _ (rnV (xa 8) ag dg) ([((xa 5), .inl (X.2.1, 3, .inl fr))])))) sz) (va_A (@HAppend.hAppend va_W va_W va_W _ (xW h0 nw sp xa la lb) (@HAppend.hAppend va_W va_W va_W _ (rcV X nw an sv dv n0 n1 n2 n3 n4 g0 gs gn gm) (@HAppend.hAppend va_W va_W va_W _ (rnV (xa 8) ag dg) ([((xa 5), .inl (X.2.1, 3, .inl fr))])))) sz) s (@HAppend.hAppend va_W va_W va_W _ ([((xa 5), .inl (X.2.1, 3, .inl fr))]) (@HAppend.hAppend va_W va_W va_W _ (xW h0 nw sp xa la lb) (@HAppend.hAppend va_W va_W va_W _ (rcV X nw an sv dv n0 n1 n2 n3 n4 g0 gs gn gm) (rnV (xa 8) a_39a d_39b)))) H locs := wd_sub G [0, 1, 2, 3, 4, 18, 5, 6, 7, 8, 9, 10, 11, 12, 13, 14, 15, 16, 17] rfl rfl
                    refine lv_aload_n zx zb dX10_beats_111 rfl (lv_at hl 4 rfl) ?_
                    refine r_get (C := RX10) (T := TX10) (N := 14) (ci := 8) (v := .ref (xa 8)) S in_X10_beats_X10 G 1 rfl rfl 8 (by decide) lk_X10_beats_48 rfl dX10_beats_112 ?_
                    refine lv_dup zx zb dX10_beats_115 rfl ?_
                    refine r_get (C := RX8) (T := TX8) (N := 8) (ci := 6) (v := .int (d_39b 1)) S in_X10_beats_X8 G 18 rfl rfl 4 (by decide) lk_X10_beats_137 rfl dX10_beats_116 ?_
                    refine lv_iload zx zb dX10_beats_119 (lv_at hl 0 rfl) ?_
                    refine r_iadd (v := ((d_39b 1) + (nI k79))) S rfl dX10_beats_121 ?_
                    refine r_put (C := RX8) (T := TX8) (N := 8) (ci := 6) (v := .int ((d_39b 1) + (nI k79))) S in_X10_beats_X8 tyX8_ok nmX8 G 18 rfl rfl 4 (by decide) lk_X10_beats_137 rfl (vp_nar_int _) rfl (Nat.le_of_ble_eq_true rfl) dX10_beats_122 (fun H locs G => ?_)
                    obtain ⟨d_40, G⟩ : ∃ d_40 : Nat → Int32, wd X (va_A (@HAppend.hAppend va_W va_W va_W _ (xW h0 nw sp xa la lb) (@HAppend.hAppend va_W va_W va_W _ (rcV X nw an sv dv n0 n1 n2 n3 n4 g0 gs gn gm) (@HAppend.hAppend va_W va_W va_W _ (rnV (xa 8) ag dg) ([((xa 5), .inl (X.2.1, 3, .inl fr))])))) sz) (va_A (@HAppend.hAppend va_W va_W va_W _ (xW h0 nw sp xa la lb) (@HAppend.hAppend va_W va_W va_W _ (rcV X nw an sv dv n0 n1 n2 n3 n4 g0 gs gn gm) (@HAppend.hAppend va_W va_W va_W _ (rnV (xa 8) ag dg) ([((xa 5), .inl (X.2.1, 3, .inl fr))])))) sz) s (@HAppend.hAppend va_W va_W va_W _ ([((xa 5), .inl (X.2.1, 3, .inl fr))]) (@HAppend.hAppend va_W va_W va_W _ (xW h0 nw sp xa la lb) (@HAppend.hAppend va_W va_W va_W _ (rcV X nw an sv dv n0 n1 n2 n3 n4 g0 gs gn gm) (rnV (xa 8) a_39a d_40)))) H locs := ⟨upd d_39b 1 ((d_39b 1) + (nI k79)), G⟩
                    refine lv_aload_n zx zb dX10_beats_125 rfl (lv_at hl 4 rfl) ?_
                    refine r_get (C := RX10) (T := TX10) (N := 14) (ci := 8) (v := .ref (xa 8)) S in_X10_beats_X10 G 1 rfl rfl 8 (by decide) lk_X10_beats_48 rfl dX10_beats_126 ?_
                    refine lv_aload_n zx zb dX10_beats_129 rfl (lv_at hl 4 rfl) ?_
                    refine r_get (C := RX10) (T := TX10) (N := 14) (ci := 8) (v := .ref nw) S in_X10_beats_X10 G 1 rfl rfl 0 (by decide) lk_X10_beats_10 rfl dX10_beats_130 ?_
                    refine r_get (C := RX5) (T := TX5) (N := 8) (ci := 3) (v := .int (dv 1)) S in_X10_beats_X5 G 2 rfl rfl 1 (by decide) lk_X10_beats_110 rfl dX10_beats_133 ?_
                    refine lv_aload_n zx zb dX10_beats_136 rfl (lv_at hl 4 rfl) ?_
                    refine r_get (C := RX10) (T := TX10) (N := 14) (ci := 8) (v := .ref nw) S in_X10_beats_X10 G 1 rfl rfl 0 (by decide) lk_X10_beats_10 rfl dX10_beats_137 ?_
                    refine r_get (C := RX5) (T := TX5) (N := 8) (ci := 3) (v := .int (dv 0)) S in_X10_beats_X5 G 2 rfl rfl 0 (by decide) lk_X10_beats_140 rfl dX10_beats_140 ?_
                    refine lv_iload zx zb dX10_beats_143 (lv_at hl 1 rfl) ?_
                    refine b_wi (cells' := 0) (slots' := 0) (wr := @HAppend.hAppend va_W va_W va_W _ ([((xa 5), .inl (X.2.1, 3, .inl fr))]) (@HAppend.hAppend va_W va_W va_W _ (xW h0 nw sp xa la lb) (rcV X nw an sv dv n0 n1 n2 n3 n4 g0 gs gn gm))) G rfl rfl [18] [0, 1, 2, 3, 4, 5, 6, 7, 8, 9, 10, 11, 12, 13, 14, 15, 16, 17] rfl rfl rfl rfl (n_V (As := [.int (dv 1), .int (dv 0), .int x_36]) (rest := []) (C := RX8) (T := TX8) (N := 8) (ci := 6) S G (s_ticksToHome l X (xa 8) a_39a d_40 (dv 1) (dv 0) x_36 (by first | decide | assumption | exact k_60a (by assumption)) H.size) gX10_beats_X8_ticksToHome rfl rfl rfl hdV_X8_ticksToHome ⟨Nat.le_of_ble_eq_true rfl, Nat.le_of_ble_eq_true rfl⟩ [18] rfl rfl 18 rfl rfl rfl hl.1 (Nat.le_of_ble_eq_true rfl) dX10_beats_145 ⟨Nat.le_of_ble_eq_true rfl, Nat.le_of_ble_eq_true rfl⟩) (fun r_41 u_41 H locs hp_41 G => ?_)
                    obtain ⟨d_41, rfl⟩ : ∃ z, z = u_41 := ⟨_, rfl⟩
                    have hq_41 := hp_41
                    obtain ⟨hq_41, hs_41⟩ := hq_41
                    have G : wd X (va_A (@HAppend.hAppend va_W va_W va_W _ (xW h0 nw sp xa la lb) (@HAppend.hAppend va_W va_W va_W _ (rcV X nw an sv dv n0 n1 n2 n3 n4 g0 gs gn gm) (@HAppend.hAppend va_W va_W va_W _ (rnV (xa 8) ag dg) ([((xa 5), .inl (X.2.1, 3, .inl fr))])))) sz) (va_A (@HAppend.hAppend va_W va_W va_W _ (xW h0 nw sp xa la lb) (@HAppend.hAppend va_W va_W va_W _ (rcV X nw an sv dv n0 n1 n2 n3 n4 g0 gs gn gm) (@HAppend.hAppend va_W va_W va_W _ (rnV (xa 8) ag dg) ([((xa 5), .inl (X.2.1, 3, .inl fr))])))) sz) s (@HAppend.hAppend va_W va_W va_W _ ([((xa 5), .inl (X.2.1, 3, .inl fr))]) (@HAppend.hAppend va_W va_W va_W _ (xW h0 nw sp xa la lb) (@HAppend.hAppend va_W va_W va_W _ (rcV X nw an sv dv n0 n1 n2 n3 n4 g0 gs gn gm) (rnV (xa 8) a_39a d_41)))) H locs := G
                    refine lv_iconst (v := (-1)) zx zb dX10_beats_148 (by decide) ?_
                    refine lv_icmp_eq (tgt := 155) zx zb dX10_beats_149 (by decide) (fun c_42 => ?_) (fun c_42 => ?_)
                    · refine lv_iinc (v := (nI (k79 + 1))) (lv' := [(6, .int (nI (k79 + 1))), (5, .int x_36), (4, .int r_34), (3, .ref (an 2)), (0, .ref h0), (1, .int 1), (2, .int (nI i_1))]) zx zb dX10_beats_155 hl (k := 0) rfl (nI_add k79 1) (by decide) rfl (fun ls hl => ?_)
                      refine lv_goto (tgt := 79) zx zb dX10_beats_158 (by decide) ?_
                      exact ih79 (k79 + 1) a_39a d_41 _ _ _ (by omega) (by omega) G hl
                    · refine lv_iload zx zb dX10_beats_152 (lv_at hl 0 rfl) ?_
                      exact e_int S zr zlk (vp_nar_int _) G (a_39a, d_41, fr) [1, 2, 3, 4, 5, 6, 7, 8, 9, 10, 11, 12, 13, 14, 15, 16, 17, 18, 0] rfl rfl (Or.inr rfl) (trivial) dX10_beats_154
          · refine lv_iconst (v := (-1)) zx zb dX10_beats_48 (by decide) ?_
            exact e_int S zr zlk (vp_nar_int _) G (ag, dg, fr) [0, 1, 2, 3, 4, 5, 6, 7, 8, 9, 10, 11, 12, 13, 14, 15, 16, 17, 18] rfl rfl (Or.inr rfl) (trivial) dX10_beats_49
    · refine k_it (v := 2) rfl ?_
      refine r_aald (C := RX8) (b := (an 3)) S G 2 3 rfl rfl (k_vp (by decide)) rfl dX10_beats_24 ?_
      refine lv_astore_n (lv' := [(3, .ref (an 3)), (0, .ref h0), (1, .int 2), (2, .int (nI i_1))]) zx zb dX10_beats_25 rfl hl (by decide) rfl (fun ls hl => ?_)
      refine lv_aload_n zx zb dX10_beats_26 rfl (lv_at hl 0 rfl) ?_
      refine o_ri (cells' := 0) (slots' := 0) G rfl rfl (n_V (As := []) (rest := []) (C := RX8) (T := TX8) (N := 8) (ci := 6) S G (s_isHome l X (an 3) (fun k => sv (6 + k)) (fun k => dv (20 + k)) H.size) gX10_beats_X8_isHome rfl rfl rfl hdV_X8_isHome ⟨Nat.le_of_ble_eq_true rfl, Nat.le_of_ble_eq_true rfl⟩ [5] rfl rfl 5 rfl rfl rfl hl.1 (Nat.le_of_ble_eq_true rfl) dX10_beats_27 ⟨Nat.le_of_ble_eq_true rfl, Nat.le_of_ble_eq_true rfl⟩) (fun r_43 u_43 H locs hp_43 G => ?_)
      have G : wd X (va_A (@HAppend.hAppend va_W va_W va_W _ (xW h0 nw sp xa la lb) (@HAppend.hAppend va_W va_W va_W _ (rcV X nw an sv dv n0 n1 n2 n3 n4 g0 gs gn gm) (@HAppend.hAppend va_W va_W va_W _ (rnV (xa 8) ag dg) ([((xa 5), .inl (X.2.1, 3, .inl fr))])))) sz) (va_A (@HAppend.hAppend va_W va_W va_W _ (xW h0 nw sp xa la lb) (@HAppend.hAppend va_W va_W va_W _ (rcV X nw an sv dv n0 n1 n2 n3 n4 g0 gs gn gm) (@HAppend.hAppend va_W va_W va_W _ (rnV (xa 8) ag dg) ([((xa 5), .inl (X.2.1, 3, .inl fr))])))) sz) s (@HAppend.hAppend va_W va_W va_W _ (xW h0 nw sp xa la lb) (@HAppend.hAppend va_W va_W va_W _ (rcV X nw an sv dv n0 n1 n2 n3 n4 g0 gs gn gm) (@HAppend.hAppend va_W va_W va_W _ (rnV (xa 8) ag dg) ([((xa 5), .inl (X.2.1, 3, .inl fr))])))) H locs := G
      refine lv_if_ne (tgt := 48) zx zb dX10_beats_30 (by decide) (fun c_44 => ?_) (fun c_44 => ?_)
      · refine lv_iconst (v := (-1)) zx zb dX10_beats_48 (by decide) ?_
        exact e_int S zr zlk (vp_nar_int _) G (ag, dg, fr) [0, 1, 2, 3, 4, 5, 6, 7, 8, 9, 10, 11, 12, 13, 14, 15, 16, 17, 18] rfl rfl (Or.inr rfl) (trivial) dX10_beats_49
      · refine lv_aload_n zx zb dX10_beats_33 rfl (lv_at hl 1 rfl) ?_
        refine r_get (C := RX10) (T := TX10) (N := 14) (ci := 8) (v := .ref nw) S in_X10_beats_X10 G 0 rfl rfl 0 (by decide) lk_X10_beats_10 rfl dX10_beats_34 ?_
        refine r_get (C := RX5) (T := TX5) (N := 8) (ci := 3) (v := .ref (an 0)) S in_X10_beats_X5 G 1 rfl rfl 3 (by decide) lk_X10_beats_126 rfl dX10_beats_37 ?_
        refine lv_iload_n zx zb dX10_beats_40 rfl (lv_at hl 3 rfl) ?_
        refine k_cutW (PP := fun Wx => ∀ (x_45 : Int32) (H : Heap) (locs : List Loc) (ls : Array Slot), wd X (va_A (@HAppend.hAppend va_W va_W va_W _ (xW h0 nw sp xa la lb) (@HAppend.hAppend va_W va_W va_W _ (rcV X nw an sv dv n0 n1 n2 n3 n4 g0 gs gn gm) (@HAppend.hAppend va_W va_W va_W _ (rnV (xa 8) ag dg) ([((xa 5), .inl (X.2.1, 3, .inl fr))])))) sz) (va_A (@HAppend.hAppend va_W va_W va_W _ (xW h0 nw sp xa la lb) (@HAppend.hAppend va_W va_W va_W _ (rcV X nw an sv dv n0 n1 n2 n3 n4 g0 gs gn gm) (@HAppend.hAppend va_W va_W va_W _ (rnV (xa 8) ag dg) ([((xa 5), .inl (X.2.1, 3, .inl fr))])))) sz) s (@HAppend.hAppend va_W va_W va_W _ (xW h0 nw sp xa la lb) (@HAppend.hAppend va_W va_W va_W _ (rcV X nw an sv dv n0 n1 n2 n3 n4 g0 gs gn gm) (@HAppend.hAppend va_W va_W va_W _ (rnV (xa 8) ag dg) ([((xa 5), .inl (X.2.1, 3, .inl fr))])))) H locs → lv_has ls 7 [(3, .ref (an 3)), (0, .ref h0), (1, .int 2), (2, .int (nI i_1))] → Wx (F0 m 45 ls [.int x_45]) H locs) ?_ ?_
        · intro join_41
          rcases k_6c (show i_1 < 6 by omega) with q_46 | q_46 | q_46 | q_46 | q_46 | q_46
          · refine k_it (v := 0) (by rw [q_46]; rfl) ?_
            refine r_aald (C := RX8) (b := (an 1)) S G 2 3 rfl rfl (k_vp (by decide)) rfl dX10_beats_41 ?_
            refine o_ri (cells' := 0) (slots' := 0) G rfl rfl (n_V (As := []) (rest := []) (C := RX8) (T := TX8) (N := 8) (ci := 6) S G (s_isHome l X (an 1) (fun k => sv (0 + k)) (fun k => dv (10 + k)) H.size) gX10_beats_X8_isHome rfl rfl rfl hdV_X8_isHome ⟨Nat.le_of_ble_eq_true rfl, Nat.le_of_ble_eq_true rfl⟩ [3] rfl rfl 3 rfl rfl rfl hl.1 (Nat.le_of_ble_eq_true rfl) dX10_beats_42 ⟨Nat.le_of_ble_eq_true rfl, Nat.le_of_ble_eq_true rfl⟩) (fun r_47 u_47 H locs hp_47 G => ?_)
            have G : wd X (va_A (@HAppend.hAppend va_W va_W va_W _ (xW h0 nw sp xa la lb) (@HAppend.hAppend va_W va_W va_W _ (rcV X nw an sv dv n0 n1 n2 n3 n4 g0 gs gn gm) (@HAppend.hAppend va_W va_W va_W _ (rnV (xa 8) ag dg) ([((xa 5), .inl (X.2.1, 3, .inl fr))])))) sz) (va_A (@HAppend.hAppend va_W va_W va_W _ (xW h0 nw sp xa la lb) (@HAppend.hAppend va_W va_W va_W _ (rcV X nw an sv dv n0 n1 n2 n3 n4 g0 gs gn gm) (@HAppend.hAppend va_W va_W va_W _ (rnV (xa 8) ag dg) ([((xa 5), .inl (X.2.1, 3, .inl fr))])))) sz) s (@HAppend.hAppend va_W va_W va_W _ (xW h0 nw sp xa la lb) (@HAppend.hAppend va_W va_W va_W _ (rcV X nw an sv dv n0 n1 n2 n3 n4 g0 gs gn gm) (@HAppend.hAppend va_W va_W va_W _ (rnV (xa 8) ag dg) ([((xa 5), .inl (X.2.1, 3, .inl fr))])))) H locs := G
            exact join_41 r_47 _ _ _  G hl
          · refine k_it (v := 1) (by rw [q_46]; rfl) ?_
            refine r_aald (C := RX8) (b := (an 2)) S G 2 3 rfl rfl (k_vp (by decide)) rfl dX10_beats_41 ?_
            refine o_ri (cells' := 0) (slots' := 0) G rfl rfl (n_V (As := []) (rest := []) (C := RX8) (T := TX8) (N := 8) (ci := 6) S G (s_isHome l X (an 2) (fun k => sv (3 + k)) (fun k => dv (15 + k)) H.size) gX10_beats_X8_isHome rfl rfl rfl hdV_X8_isHome ⟨Nat.le_of_ble_eq_true rfl, Nat.le_of_ble_eq_true rfl⟩ [4] rfl rfl 4 rfl rfl rfl hl.1 (Nat.le_of_ble_eq_true rfl) dX10_beats_42 ⟨Nat.le_of_ble_eq_true rfl, Nat.le_of_ble_eq_true rfl⟩) (fun r_48 u_48 H locs hp_48 G => ?_)
            have G : wd X (va_A (@HAppend.hAppend va_W va_W va_W _ (xW h0 nw sp xa la lb) (@HAppend.hAppend va_W va_W va_W _ (rcV X nw an sv dv n0 n1 n2 n3 n4 g0 gs gn gm) (@HAppend.hAppend va_W va_W va_W _ (rnV (xa 8) ag dg) ([((xa 5), .inl (X.2.1, 3, .inl fr))])))) sz) (va_A (@HAppend.hAppend va_W va_W va_W _ (xW h0 nw sp xa la lb) (@HAppend.hAppend va_W va_W va_W _ (rcV X nw an sv dv n0 n1 n2 n3 n4 g0 gs gn gm) (@HAppend.hAppend va_W va_W va_W _ (rnV (xa 8) ag dg) ([((xa 5), .inl (X.2.1, 3, .inl fr))])))) sz) s (@HAppend.hAppend va_W va_W va_W _ (xW h0 nw sp xa la lb) (@HAppend.hAppend va_W va_W va_W _ (rcV X nw an sv dv n0 n1 n2 n3 n4 g0 gs gn gm) (@HAppend.hAppend va_W va_W va_W _ (rnV (xa 8) ag dg) ([((xa 5), .inl (X.2.1, 3, .inl fr))])))) H locs := G
            exact join_41 r_48 _ _ _  G hl
          · refine k_it (v := 2) (by rw [q_46]; rfl) ?_
            refine r_aald (C := RX8) (b := (an 3)) S G 2 3 rfl rfl (k_vp (by decide)) rfl dX10_beats_41 ?_
            refine o_ri (cells' := 0) (slots' := 0) G rfl rfl (n_V (As := []) (rest := []) (C := RX8) (T := TX8) (N := 8) (ci := 6) S G (s_isHome l X (an 3) (fun k => sv (6 + k)) (fun k => dv (20 + k)) H.size) gX10_beats_X8_isHome rfl rfl rfl hdV_X8_isHome ⟨Nat.le_of_ble_eq_true rfl, Nat.le_of_ble_eq_true rfl⟩ [5] rfl rfl 5 rfl rfl rfl hl.1 (Nat.le_of_ble_eq_true rfl) dX10_beats_42 ⟨Nat.le_of_ble_eq_true rfl, Nat.le_of_ble_eq_true rfl⟩) (fun r_49 u_49 H locs hp_49 G => ?_)
            have G : wd X (va_A (@HAppend.hAppend va_W va_W va_W _ (xW h0 nw sp xa la lb) (@HAppend.hAppend va_W va_W va_W _ (rcV X nw an sv dv n0 n1 n2 n3 n4 g0 gs gn gm) (@HAppend.hAppend va_W va_W va_W _ (rnV (xa 8) ag dg) ([((xa 5), .inl (X.2.1, 3, .inl fr))])))) sz) (va_A (@HAppend.hAppend va_W va_W va_W _ (xW h0 nw sp xa la lb) (@HAppend.hAppend va_W va_W va_W _ (rcV X nw an sv dv n0 n1 n2 n3 n4 g0 gs gn gm) (@HAppend.hAppend va_W va_W va_W _ (rnV (xa 8) ag dg) ([((xa 5), .inl (X.2.1, 3, .inl fr))])))) sz) s (@HAppend.hAppend va_W va_W va_W _ (xW h0 nw sp xa la lb) (@HAppend.hAppend va_W va_W va_W _ (rcV X nw an sv dv n0 n1 n2 n3 n4 g0 gs gn gm) (@HAppend.hAppend va_W va_W va_W _ (rnV (xa 8) ag dg) ([((xa 5), .inl (X.2.1, 3, .inl fr))])))) H locs := G
            exact join_41 r_49 _ _ _  G hl
          · refine k_it (v := 3) (by rw [q_46]; rfl) ?_
            refine r_aald (C := RX8) (b := (an 4)) S G 2 3 rfl rfl (k_vp (by decide)) rfl dX10_beats_41 ?_
            refine o_ri (cells' := 0) (slots' := 0) G rfl rfl (n_V (As := []) (rest := []) (C := RX8) (T := TX8) (N := 8) (ci := 6) S G (s_isHome l X (an 4) (fun k => sv (9 + k)) (fun k => dv (25 + k)) H.size) gX10_beats_X8_isHome rfl rfl rfl hdV_X8_isHome ⟨Nat.le_of_ble_eq_true rfl, Nat.le_of_ble_eq_true rfl⟩ [6] rfl rfl 6 rfl rfl rfl hl.1 (Nat.le_of_ble_eq_true rfl) dX10_beats_42 ⟨Nat.le_of_ble_eq_true rfl, Nat.le_of_ble_eq_true rfl⟩) (fun r_50 u_50 H locs hp_50 G => ?_)
            have G : wd X (va_A (@HAppend.hAppend va_W va_W va_W _ (xW h0 nw sp xa la lb) (@HAppend.hAppend va_W va_W va_W _ (rcV X nw an sv dv n0 n1 n2 n3 n4 g0 gs gn gm) (@HAppend.hAppend va_W va_W va_W _ (rnV (xa 8) ag dg) ([((xa 5), .inl (X.2.1, 3, .inl fr))])))) sz) (va_A (@HAppend.hAppend va_W va_W va_W _ (xW h0 nw sp xa la lb) (@HAppend.hAppend va_W va_W va_W _ (rcV X nw an sv dv n0 n1 n2 n3 n4 g0 gs gn gm) (@HAppend.hAppend va_W va_W va_W _ (rnV (xa 8) ag dg) ([((xa 5), .inl (X.2.1, 3, .inl fr))])))) sz) s (@HAppend.hAppend va_W va_W va_W _ (xW h0 nw sp xa la lb) (@HAppend.hAppend va_W va_W va_W _ (rcV X nw an sv dv n0 n1 n2 n3 n4 g0 gs gn gm) (@HAppend.hAppend va_W va_W va_W _ (rnV (xa 8) ag dg) ([((xa 5), .inl (X.2.1, 3, .inl fr))])))) H locs := G
            exact join_41 r_50 _ _ _  G hl
          · refine k_it (v := 4) (by rw [q_46]; rfl) ?_
            refine r_aald (C := RX8) (b := (an 5)) S G 2 3 rfl rfl (k_vp (by decide)) rfl dX10_beats_41 ?_
            refine o_ri (cells' := 0) (slots' := 0) G rfl rfl (n_V (As := []) (rest := []) (C := RX8) (T := TX8) (N := 8) (ci := 6) S G (s_isHome l X (an 5) (fun k => sv (12 + k)) (fun k => dv (30 + k)) H.size) gX10_beats_X8_isHome rfl rfl rfl hdV_X8_isHome ⟨Nat.le_of_ble_eq_true rfl, Nat.le_of_ble_eq_true rfl⟩ [7] rfl rfl 7 rfl rfl rfl hl.1 (Nat.le_of_ble_eq_true rfl) dX10_beats_42 ⟨Nat.le_of_ble_eq_true rfl, Nat.le_of_ble_eq_true rfl⟩) (fun r_51 u_51 H locs hp_51 G => ?_)
            have G : wd X (va_A (@HAppend.hAppend va_W va_W va_W _ (xW h0 nw sp xa la lb) (@HAppend.hAppend va_W va_W va_W _ (rcV X nw an sv dv n0 n1 n2 n3 n4 g0 gs gn gm) (@HAppend.hAppend va_W va_W va_W _ (rnV (xa 8) ag dg) ([((xa 5), .inl (X.2.1, 3, .inl fr))])))) sz) (va_A (@HAppend.hAppend va_W va_W va_W _ (xW h0 nw sp xa la lb) (@HAppend.hAppend va_W va_W va_W _ (rcV X nw an sv dv n0 n1 n2 n3 n4 g0 gs gn gm) (@HAppend.hAppend va_W va_W va_W _ (rnV (xa 8) ag dg) ([((xa 5), .inl (X.2.1, 3, .inl fr))])))) sz) s (@HAppend.hAppend va_W va_W va_W _ (xW h0 nw sp xa la lb) (@HAppend.hAppend va_W va_W va_W _ (rcV X nw an sv dv n0 n1 n2 n3 n4 g0 gs gn gm) (@HAppend.hAppend va_W va_W va_W _ (rnV (xa 8) ag dg) ([((xa 5), .inl (X.2.1, 3, .inl fr))])))) H locs := G
            exact join_41 r_51 _ _ _  G hl
          · refine k_it (v := 5) (by rw [q_46]; rfl) ?_
            refine r_aald (C := RX8) (b := (an 6)) S G 2 3 rfl rfl (k_vp (by decide)) rfl dX10_beats_41 ?_
            refine o_ri (cells' := 0) (slots' := 0) G rfl rfl (n_V (As := []) (rest := []) (C := RX8) (T := TX8) (N := 8) (ci := 6) S G (s_isHome l X (an 6) (fun k => sv (15 + k)) (fun k => dv (35 + k)) H.size) gX10_beats_X8_isHome rfl rfl rfl hdV_X8_isHome ⟨Nat.le_of_ble_eq_true rfl, Nat.le_of_ble_eq_true rfl⟩ [8] rfl rfl 8 rfl rfl rfl hl.1 (Nat.le_of_ble_eq_true rfl) dX10_beats_42 ⟨Nat.le_of_ble_eq_true rfl, Nat.le_of_ble_eq_true rfl⟩) (fun r_52 u_52 H locs hp_52 G => ?_)
            have G : wd X (va_A (@HAppend.hAppend va_W va_W va_W _ (xW h0 nw sp xa la lb) (@HAppend.hAppend va_W va_W va_W _ (rcV X nw an sv dv n0 n1 n2 n3 n4 g0 gs gn gm) (@HAppend.hAppend va_W va_W va_W _ (rnV (xa 8) ag dg) ([((xa 5), .inl (X.2.1, 3, .inl fr))])))) sz) (va_A (@HAppend.hAppend va_W va_W va_W _ (xW h0 nw sp xa la lb) (@HAppend.hAppend va_W va_W va_W _ (rcV X nw an sv dv n0 n1 n2 n3 n4 g0 gs gn gm) (@HAppend.hAppend va_W va_W va_W _ (rnV (xa 8) ag dg) ([((xa 5), .inl (X.2.1, 3, .inl fr))])))) sz) s (@HAppend.hAppend va_W va_W va_W _ (xW h0 nw sp xa la lb) (@HAppend.hAppend va_W va_W va_W _ (rcV X nw an sv dv n0 n1 n2 n3 n4 g0 gs gn gm) (@HAppend.hAppend va_W va_W va_W _ (rnV (xa 8) ag dg) ([((xa 5), .inl (X.2.1, 3, .inl fr))])))) H locs := G
            exact join_41 r_52 _ _ _  G hl
        · intro x_45 H locs ls  G hl
          refine lv_if_eq (tgt := 50) zx zb dX10_beats_45 (by decide) (fun c_53 => ?_) (fun c_53 => ?_)
          · refine lv_aload_n zx zb dX10_beats_50 rfl (lv_at hl 1 rfl) ?_
            refine lv_iload_n zx zb dX10_beats_51 rfl (lv_at hl 3 rfl) ?_
            refine lv_bipush (v := 60) zx zb dX10_beats_52 (by decide) ?_
            refine b_wi (cells' := 0) (slots' := 0) (wr := [((xa 5), .inl (X.2.1, 3, .inl fr))]) G rfl rfl [0, 1, 2, 3, 4, 5, 6, 7, 8, 9, 10, 11, 12, 13, 14, 15, 16, 17] [18] rfl rfl rfl rfl (n_V (As := [.int (nI i_1), .int 60]) (rest := []) (C := RX10) (T := TX10) (N := 14) (ci := 8) S G (s_homeBehind l X h0 nw sp xa la lb an sv dv n0 n1 n2 n3 n4 g0 gs gn gm ag dg i_1 60 hI_n0 hI_n1 hI_n2 hI_n3 hI_n4 (by omega) (by first | decide | assumption | exact k_60a (by assumption)) H.size) gX10_beats_X10_homeBehind rfl rfl rfl hdV_X10_homeBehind ⟨Nat.le_of_ble_eq_true rfl, Nat.le_of_ble_eq_true rfl⟩ [0, 1, 2, 3, 4, 5, 6, 7, 8, 9, 10, 11, 12, 13, 14, 15, 16, 17] rfl rfl 0 rfl rfl rfl hl.1 (Nat.le_of_ble_eq_true rfl) dX10_beats_54 ⟨Nat.le_of_ble_eq_true rfl, Nat.le_of_ble_eq_true rfl⟩) (fun r_54 u_54 H locs hp_54 G => ?_)
            obtain ⟨a_54a, d_54b⟩ := u_54
            have hq_54 := hp_54
            have G : wd X (va_A (@HAppend.hAppend va_W va_W va_W _ (xW h0 nw sp xa la lb) (@HAppend.hAppend va_W va_W va_W _ (rcV X nw an sv dv n0 n1 n2 n3 n4 g0 gs gn gm) (@HAppend.hAppend va_W va_W va_W _ (rnV (xa 8) ag dg) ([((xa 5), .inl (X.2.1, 3, .inl fr))])))) sz) (va_A (@HAppend.hAppend va_W va_W va_W _ (xW h0 nw sp xa la lb) (@HAppend.hAppend va_W va_W va_W _ (rcV X nw an sv dv n0 n1 n2 n3 n4 g0 gs gn gm) (@HAppend.hAppend va_W va_W va_W _ (rnV (xa 8) ag dg) ([((xa 5), .inl (X.2.1, 3, .inl fr))])))) sz) s (@HAppend.hAppend va_W va_W va_W _ ([((xa 5), .inl (X.2.1, 3, .inl fr))]) (@HAppend.hAppend va_W va_W va_W _ (xW h0 nw sp xa la lb) (@HAppend.hAppend va_W va_W va_W _ (rcV X nw an sv dv n0 n1 n2 n3 n4 g0 gs gn gm) (rnV (xa 8) a_54a d_54b)))) H locs := G
            refine lv_istore (lv' := [(4, .int r_54), (3, .ref (an 3)), (0, .ref h0), (1, .int 2), (2, .int (nI i_1))]) zx zb dX10_beats_57 hl (by decide) rfl (fun ls hl => ?_)
            refine lv_iload zx zb dX10_beats_59 (lv_at hl 0 rfl) ?_
            refine lv_iconst (v := (-1)) zx zb dX10_beats_61 (by decide) ?_
            refine k_cutW (PP := fun Wx => ∀ (x_56 : Int32) (H : Heap) (locs : List Loc) (ls : Array Slot), (x_56 ≤ 60) → wd X (va_A (@HAppend.hAppend va_W va_W va_W _ (xW h0 nw sp xa la lb) (@HAppend.hAppend va_W va_W va_W _ (rcV X nw an sv dv n0 n1 n2 n3 n4 g0 gs gn gm) (@HAppend.hAppend va_W va_W va_W _ (rnV (xa 8) ag dg) ([((xa 5), .inl (X.2.1, 3, .inl fr))])))) sz) (va_A (@HAppend.hAppend va_W va_W va_W _ (xW h0 nw sp xa la lb) (@HAppend.hAppend va_W va_W va_W _ (rcV X nw an sv dv n0 n1 n2 n3 n4 g0 gs gn gm) (@HAppend.hAppend va_W va_W va_W _ (rnV (xa 8) ag dg) ([((xa 5), .inl (X.2.1, 3, .inl fr))])))) sz) s (@HAppend.hAppend va_W va_W va_W _ ([((xa 5), .inl (X.2.1, 3, .inl fr))]) (@HAppend.hAppend va_W va_W va_W _ (xW h0 nw sp xa la lb) (@HAppend.hAppend va_W va_W va_W _ (rcV X nw an sv dv n0 n1 n2 n3 n4 g0 gs gn gm) (rnV (xa 8) a_54a d_54b)))) H locs → lv_has ls 7 [(4, .int r_54), (3, .ref (an 3)), (0, .ref h0), (1, .int 2), (2, .int (nI i_1))] → Wx (F0 m 74 ls [.int x_56]) H locs) ?_ ?_
            · intro join_62
              refine lv_icmp_ne (tgt := 70) zx zb dX10_beats_62 (by decide) (fun c_55 => ?_) (fun c_55 => ?_)
              · refine lv_iload zx zb dX10_beats_70 (lv_at hl 0 rfl) ?_
                refine lv_iconst (v := 1) zx zb dX10_beats_72 (by decide) ?_
                refine r_isub (v := (r_54 - 1)) S rfl dX10_beats_73 ?_
                exact join_62 (r_54 - 1) _ _ _ (by first | assumption | decide | exact k_m60 (by assumption)) G hl
              · refine lv_bipush (v := 60) zx zb dX10_beats_65 (by decide) ?_
                refine lv_goto (tgt := 74) zx zb dX10_beats_67 (by decide) ?_
                exact join_62 60 _ _ _ (by first | assumption | decide | exact k_m60 (by assumption)) G hl
            · intro x_56 H locs ls hk_x_56 G hl
              refine lv_istore (lv' := [(5, .int x_56), (4, .int r_54), (3, .ref (an 3)), (0, .ref h0), (1, .int 2), (2, .int (nI i_1))]) zx zb dX10_beats_74 hl (by decide) rfl (fun ls hl => ?_)
              refine lv_iconst (v := 0) zx zb dX10_beats_76 (by decide) ?_
              refine lv_istore (lv' := [(6, .int 0), (5, .int x_56), (4, .int r_54), (3, .ref (an 3)), (0, .ref h0), (1, .int 2), (2, .int (nI i_1))]) zx zb dX10_beats_77 hl (by decide) rfl (fun ls hl => ?_)
              refine k_loop (P := ∀ (zm : Nat) (k79 : Nat) (a79_3 : Nat → Int32) (d79_3 : Nat → Int32) (H : Heap) (locs : List Loc) (ls : Array Slot), 31 + 1 ≤ k79 + zm → (k79 ≤ 31) → wd X (va_A (@HAppend.hAppend va_W va_W va_W _ (xW h0 nw sp xa la lb) (@HAppend.hAppend va_W va_W va_W _ (rcV X nw an sv dv n0 n1 n2 n3 n4 g0 gs gn gm) (@HAppend.hAppend va_W va_W va_W _ (rnV (xa 8) ag dg) ([((xa 5), .inl (X.2.1, 3, .inl fr))])))) sz) (va_A (@HAppend.hAppend va_W va_W va_W _ (xW h0 nw sp xa la lb) (@HAppend.hAppend va_W va_W va_W _ (rcV X nw an sv dv n0 n1 n2 n3 n4 g0 gs gn gm) (@HAppend.hAppend va_W va_W va_W _ (rnV (xa 8) ag dg) ([((xa 5), .inl (X.2.1, 3, .inl fr))])))) sz) s (@HAppend.hAppend va_W va_W va_W _ ([((xa 5), .inl (X.2.1, 3, .inl fr))]) (@HAppend.hAppend va_W va_W va_W _ (xW h0 nw sp xa la lb) (@HAppend.hAppend va_W va_W va_W _ (rcV X nw an sv dv n0 n1 n2 n3 n4 g0 gs gn gm) (rnV (xa 8) a79_3 d79_3)))) H locs → lv_has ls 7 [(6, .int (nI k79)), (5, .int x_56), (4, .int r_54), (3, .ref (an 3)), (0, .ref h0), (1, .int 2), (2, .int (nI i_1))] → W p l e _ s m _ below meth c H locs _ _ _ (F0 m 79 ls [])) (fun loop => loop (31 + 1) 0 a_54a d_54b _ _ _ (by omega) (by omega) G hl) ?_
              intro zm
              induction zm with
              | zero => intro k79 a79_3 d79_3 H locs ls zz q_hk_k79 _ _; exact absurd zz (by omega)
              | succ zm ih79 =>
                intro k79 a79_3 d79_3 H locs ls zm_79 hk_k79 G hl
                refine lv_iload zx zb dX10_beats_79 (lv_at hl 0 rfl) ?_
                refine lv_bipush (v := 30) zx zb dX10_beats_81 (by decide) ?_
                refine lv_icmp_gt (tgt := 161) zx zb dX10_beats_83 (by decide) (fun c_57 => ?_) (fun c_57 => ?_)
                · have fc_57 := j_lt (a := 30) (b := k79) (by omega) (by omega) c_57
                  refine lv_iconst (v := (-1)) zx zb dX10_beats_161 (by decide) ?_
                  exact e_int S zr zlk (vp_nar_int _) G (a79_3, d79_3, fr) [1, 2, 3, 4, 5, 6, 7, 8, 9, 10, 11, 12, 13, 14, 15, 16, 17, 18, 0] rfl rfl (Or.inr rfl) (trivial) dX10_beats_162
                · have fc_57 := j_nlt (a := 30) (b := k79) (by omega) (by omega) c_57
                  refine lv_aload_n zx zb dX10_beats_86 rfl (lv_at hl 3 rfl) ?_
                  refine r_get (C := RX8) (T := TX8) (N := 8) (ci := 6) (v := .int (dv 21)) S in_X10_beats_X8 G 6 rfl rfl 4 (by decide) lk_X10_beats_137 rfl dX10_beats_87 ?_
                  refine lv_iload zx zb dX10_beats_90 (lv_at hl 0 rfl) ?_
                  refine r_iadd (v := ((dv 21) + (nI k79))) S rfl dX10_beats_92 ?_
                  refine lv_aload_n zx zb dX10_beats_93 rfl (lv_at hl 4 rfl) ?_
                  refine r_get (C := RX10) (T := TX10) (N := 14) (ci := 8) (v := .ref nw) S in_X10_beats_X10 G 1 rfl rfl 0 (by decide) lk_X10_beats_10 rfl dX10_beats_94 ?_
                  refine r_get (C := RX5) (T := TX5) (N := 8) (ci := 3) (v := .int (dv 0)) S in_X10_beats_X5 G 2 rfl rfl 0 (by decide) lk_X10_beats_140 rfl dX10_beats_97 ?_
                  refine lv_icmp_ge (tgt := 161) zx zb dX10_beats_100 (by decide) (fun c_58 => ?_) (fun c_58 => ?_)
                  · refine lv_iconst (v := (-1)) zx zb dX10_beats_161 (by decide) ?_
                    exact e_int S zr zlk (vp_nar_int _) G (a79_3, d79_3, fr) [1, 2, 3, 4, 5, 6, 7, 8, 9, 10, 11, 12, 13, 14, 15, 16, 17, 18, 0] rfl rfl (Or.inr rfl) (trivial) dX10_beats_162
                  · refine lv_aload_n zx zb dX10_beats_103 rfl (lv_at hl 4 rfl) ?_
                    refine r_get (C := RX10) (T := TX10) (N := 14) (ci := 8) (v := .ref (xa 8)) S in_X10_beats_X10 G 1 rfl rfl 8 (by decide) lk_X10_beats_48 rfl dX10_beats_104 ?_
                    refine lv_aload_n zx zb dX10_beats_107 rfl (lv_at hl 3 rfl) ?_
                    refine b_wv (cells' := 0) (slots' := 0) (wr := @HAppend.hAppend va_W va_W va_W _ ([((xa 5), .inl (X.2.1, 3, .inl fr))]) (@HAppend.hAppend va_W va_W va_W _ (xW h0 nw sp xa la lb) ([(nw, .inr (3, [.int (dv 0), .int (dv 1), .int (nI n0), .ref (an 0), .ref (an 7), .ref (an 9), .ref (an 11), .ref (an 13)])), ((an 0), .inl (X.2.2.2.2, 6, .inr (.inr (.inr (.inr (rowQ an)))))), ((an 1), .inr (6, [.int (sv 0), .int (sv 1), .int (sv 2), .int (dv 10), .int (dv 11), .int (dv 12), .int (dv 13), .int (dv 14)])), ((an 2), .inr (6, [.int (sv 3), .int (sv 4), .int (sv 5), .int (dv 15), .int (dv 16), .int (dv 17), .int (dv 18), .int (dv 19)])), ((an 4), .inr (6, [.int (sv 9), .int (sv 10), .int (sv 11), .int (dv 25), .int (dv 26), .int (dv 27), .int (dv 28), .int (dv 29)])), ((an 5), .inr (6, [.int (sv 12), .int (sv 13), .int (sv 14), .int (dv 30), .int (dv 31), .int (dv 32), .int (dv 33), .int (dv 34)])), ((an 6), .inr (6, [.int (sv 15), .int (sv 16), .int (sv 17), .int (dv 35), .int (dv 36), .int (dv 37), .int (dv 38), .int (dv 39)])), ((an 7), .inr (2, [.ref (an 8), .int (nI n1)])), ((an 8), .inl (X.2.1, 248, .inl g0)), ((an 9), .inr (5, [.int 5, .int 0, .int 1, .ref (an 10), .int (nI n2)])), ((an 10), .inl (X.2.1, 25, .inl gs)), ((an 11), .inr (5, [.int 6, .int 1, .int 1, .ref (an 12), .int (nI n3)])), ((an 12), .inl (X.2.1, 30, .inl gn)), ((an 13), .inr (5, [.int 6, .int 0, .int 0, .ref (an 14), .int (nI n4)])), ((an 14), .inl (X.2.1, 30, .inl gm))]))) G rfl rfl [18, 6] [0, 1, 2, 3, 4, 5, 7, 8, 9, 10, 11, 12, 13, 14, 15, 16, 17] rfl rfl rfl rfl (n_V (As := [.ref (an 3)]) (rest := []) (C := RX8) (T := TX8) (N := 8) (ci := 6) S G (s_rcopy l X (xa 8) a79_3 d79_3 (an 3) (fun k => sv (6 + k)) (fun k => dv (20 + k)) H.size) gX10_beats_X8_copyFrom rfl rfl rfl hdV_X8_copyFrom ⟨Nat.le_of_ble_eq_true rfl, Nat.le_of_ble_eq_true rfl⟩ [18, 6] rfl rfl 18 rfl rfl rfl hl.1 (Nat.le_of_ble_eq_true rfl) dX10_beats_108 ⟨Nat.le_of_ble_eq_true rfl, Nat.le_of_ble_eq_true rfl⟩) (fun u_59 H locs hp_59 G => ?_)
                    obtain ⟨a_59a, d_59b⟩ := u_59
                    have hq_59 := hp_59
                    have G : wd X (va_A (@HAppend.hAppend va_W va_W va_W _ (xW h0 nw sp xa la lb) (@HAppend.hAppend va_W va_W va_W _ (rcV X nw an sv dv n0 n1 n2 n3 n4 g0 gs gn gm) (@HAppend.hAppend va_W va_W va_W _ (rnV (xa 8) ag dg) ([((xa 5), .inl (X.2.1, 3, .inl fr))])))) sz) (va_A (@HAppend.hAppend va_W va_W va_W _ (xW h0 nw sp xa la lb) (@HAppend.hAppend va_W va_W va_W _ (rcV X nw an sv dv n0 n1 n2 n3 n4 g0 gs gn gm) (@HAppend.hAppend va_W va_W va_W _ (rnV (xa 8) ag dg) ([((xa 5), .inl (X.2.1, 3, .inl fr))])))) sz) s (@HAppend.hAppend va_W va_W va_W _ ([((xa 5), .inl (X.2.1, 3, .inl fr))]) (@HAppend.hAppend va_W va_W va_W _ (xW h0 nw sp xa la lb) (@HAppend.hAppend va_W va_W va_W _ (rcV X nw an sv dv n0 n1 n2 n3 n4 g0 gs gn gm) (rnV (xa 8) a_59a d_59b)))) H locs := wd_sub G [0, 1, 2, 3, 4, 5, 18, 6, 7, 8, 9, 10, 11, 12, 13, 14, 15, 16, 17] rfl rfl
                    refine lv_aload_n zx zb dX10_beats_111 rfl (lv_at hl 4 rfl) ?_
                    refine r_get (C := RX10) (T := TX10) (N := 14) (ci := 8) (v := .ref (xa 8)) S in_X10_beats_X10 G 1 rfl rfl 8 (by decide) lk_X10_beats_48 rfl dX10_beats_112 ?_
                    refine lv_dup zx zb dX10_beats_115 rfl ?_
                    refine r_get (C := RX8) (T := TX8) (N := 8) (ci := 6) (v := .int (d_59b 1)) S in_X10_beats_X8 G 18 rfl rfl 4 (by decide) lk_X10_beats_137 rfl dX10_beats_116 ?_
                    refine lv_iload zx zb dX10_beats_119 (lv_at hl 0 rfl) ?_
                    refine r_iadd (v := ((d_59b 1) + (nI k79))) S rfl dX10_beats_121 ?_
                    refine r_put (C := RX8) (T := TX8) (N := 8) (ci := 6) (v := .int ((d_59b 1) + (nI k79))) S in_X10_beats_X8 tyX8_ok nmX8 G 18 rfl rfl 4 (by decide) lk_X10_beats_137 rfl (vp_nar_int _) rfl (Nat.le_of_ble_eq_true rfl) dX10_beats_122 (fun H locs G => ?_)
                    obtain ⟨d_60, G⟩ : ∃ d_60 : Nat → Int32, wd X (va_A (@HAppend.hAppend va_W va_W va_W _ (xW h0 nw sp xa la lb) (@HAppend.hAppend va_W va_W va_W _ (rcV X nw an sv dv n0 n1 n2 n3 n4 g0 gs gn gm) (@HAppend.hAppend va_W va_W va_W _ (rnV (xa 8) ag dg) ([((xa 5), .inl (X.2.1, 3, .inl fr))])))) sz) (va_A (@HAppend.hAppend va_W va_W va_W _ (xW h0 nw sp xa la lb) (@HAppend.hAppend va_W va_W va_W _ (rcV X nw an sv dv n0 n1 n2 n3 n4 g0 gs gn gm) (@HAppend.hAppend va_W va_W va_W _ (rnV (xa 8) ag dg) ([((xa 5), .inl (X.2.1, 3, .inl fr))])))) sz) s (@HAppend.hAppend va_W va_W va_W _ ([((xa 5), .inl (X.2.1, 3, .inl fr))]) (@HAppend.hAppend va_W va_W va_W _ (xW h0 nw sp xa la lb) (@HAppend.hAppend va_W va_W va_W _ (rcV X nw an sv dv n0 n1 n2 n3 n4 g0 gs gn gm) (rnV (xa 8) a_59a d_60)))) H locs := ⟨upd d_59b 1 ((d_59b 1) + (nI k79)), G⟩
                    refine lv_aload_n zx zb dX10_beats_125 rfl (lv_at hl 4 rfl) ?_
                    refine r_get (C := RX10) (T := TX10) (N := 14) (ci := 8) (v := .ref (xa 8)) S in_X10_beats_X10 G 1 rfl rfl 8 (by decide) lk_X10_beats_48 rfl dX10_beats_126 ?_
                    refine lv_aload_n zx zb dX10_beats_129 rfl (lv_at hl 4 rfl) ?_
                    refine r_get (C := RX10) (T := TX10) (N := 14) (ci := 8) (v := .ref nw) S in_X10_beats_X10 G 1 rfl rfl 0 (by decide) lk_X10_beats_10 rfl dX10_beats_130 ?_
                    refine r_get (C := RX5) (T := TX5) (N := 8) (ci := 3) (v := .int (dv 1)) S in_X10_beats_X5 G 2 rfl rfl 1 (by decide) lk_X10_beats_110 rfl dX10_beats_133 ?_
                    refine lv_aload_n zx zb dX10_beats_136 rfl (lv_at hl 4 rfl) ?_
                    refine r_get (C := RX10) (T := TX10) (N := 14) (ci := 8) (v := .ref nw) S in_X10_beats_X10 G 1 rfl rfl 0 (by decide) lk_X10_beats_10 rfl dX10_beats_137 ?_
                    refine r_get (C := RX5) (T := TX5) (N := 8) (ci := 3) (v := .int (dv 0)) S in_X10_beats_X5 G 2 rfl rfl 0 (by decide) lk_X10_beats_140 rfl dX10_beats_140 ?_
                    refine lv_iload zx zb dX10_beats_143 (lv_at hl 1 rfl) ?_
                    refine b_wi (cells' := 0) (slots' := 0) (wr := @HAppend.hAppend va_W va_W va_W _ ([((xa 5), .inl (X.2.1, 3, .inl fr))]) (@HAppend.hAppend va_W va_W va_W _ (xW h0 nw sp xa la lb) (rcV X nw an sv dv n0 n1 n2 n3 n4 g0 gs gn gm))) G rfl rfl [18] [0, 1, 2, 3, 4, 5, 6, 7, 8, 9, 10, 11, 12, 13, 14, 15, 16, 17] rfl rfl rfl rfl (n_V (As := [.int (dv 1), .int (dv 0), .int x_56]) (rest := []) (C := RX8) (T := TX8) (N := 8) (ci := 6) S G (s_ticksToHome l X (xa 8) a_59a d_60 (dv 1) (dv 0) x_56 (by first | decide | assumption | exact k_60a (by assumption)) H.size) gX10_beats_X8_ticksToHome rfl rfl rfl hdV_X8_ticksToHome ⟨Nat.le_of_ble_eq_true rfl, Nat.le_of_ble_eq_true rfl⟩ [18] rfl rfl 18 rfl rfl rfl hl.1 (Nat.le_of_ble_eq_true rfl) dX10_beats_145 ⟨Nat.le_of_ble_eq_true rfl, Nat.le_of_ble_eq_true rfl⟩) (fun r_61 u_61 H locs hp_61 G => ?_)
                    obtain ⟨d_61, rfl⟩ : ∃ z, z = u_61 := ⟨_, rfl⟩
                    have hq_61 := hp_61
                    obtain ⟨hq_61, hs_61⟩ := hq_61
                    have G : wd X (va_A (@HAppend.hAppend va_W va_W va_W _ (xW h0 nw sp xa la lb) (@HAppend.hAppend va_W va_W va_W _ (rcV X nw an sv dv n0 n1 n2 n3 n4 g0 gs gn gm) (@HAppend.hAppend va_W va_W va_W _ (rnV (xa 8) ag dg) ([((xa 5), .inl (X.2.1, 3, .inl fr))])))) sz) (va_A (@HAppend.hAppend va_W va_W va_W _ (xW h0 nw sp xa la lb) (@HAppend.hAppend va_W va_W va_W _ (rcV X nw an sv dv n0 n1 n2 n3 n4 g0 gs gn gm) (@HAppend.hAppend va_W va_W va_W _ (rnV (xa 8) ag dg) ([((xa 5), .inl (X.2.1, 3, .inl fr))])))) sz) s (@HAppend.hAppend va_W va_W va_W _ ([((xa 5), .inl (X.2.1, 3, .inl fr))]) (@HAppend.hAppend va_W va_W va_W _ (xW h0 nw sp xa la lb) (@HAppend.hAppend va_W va_W va_W _ (rcV X nw an sv dv n0 n1 n2 n3 n4 g0 gs gn gm) (rnV (xa 8) a_59a d_61)))) H locs := G
                    refine lv_iconst (v := (-1)) zx zb dX10_beats_148 (by decide) ?_
                    refine lv_icmp_eq (tgt := 155) zx zb dX10_beats_149 (by decide) (fun c_62 => ?_) (fun c_62 => ?_)
                    · refine lv_iinc (v := (nI (k79 + 1))) (lv' := [(6, .int (nI (k79 + 1))), (5, .int x_56), (4, .int r_54), (3, .ref (an 3)), (0, .ref h0), (1, .int 2), (2, .int (nI i_1))]) zx zb dX10_beats_155 hl (k := 0) rfl (nI_add k79 1) (by decide) rfl (fun ls hl => ?_)
                      refine lv_goto (tgt := 79) zx zb dX10_beats_158 (by decide) ?_
                      exact ih79 (k79 + 1) a_59a d_61 _ _ _ (by omega) (by omega) G hl
                    · refine lv_iload zx zb dX10_beats_152 (lv_at hl 0 rfl) ?_
                      exact e_int S zr zlk (vp_nar_int _) G (a_59a, d_61, fr) [1, 2, 3, 4, 5, 6, 7, 8, 9, 10, 11, 12, 13, 14, 15, 16, 17, 18, 0] rfl rfl (Or.inr rfl) (trivial) dX10_beats_154
          · refine lv_iconst (v := (-1)) zx zb dX10_beats_48 (by decide) ?_
            exact e_int S zr zlk (vp_nar_int _) G (ag, dg, fr) [0, 1, 2, 3, 4, 5, 6, 7, 8, 9, 10, 11, 12, 13, 14, 15, 16, 17, 18] rfl rfl (Or.inr rfl) (trivial) dX10_beats_49
    · refine k_it (v := 3) rfl ?_
      refine r_aald (C := RX8) (b := (an 4)) S G 2 3 rfl rfl (k_vp (by decide)) rfl dX10_beats_24 ?_
      refine lv_astore_n (lv' := [(3, .ref (an 4)), (0, .ref h0), (1, .int 3), (2, .int (nI i_1))]) zx zb dX10_beats_25 rfl hl (by decide) rfl (fun ls hl => ?_)
      refine lv_aload_n zx zb dX10_beats_26 rfl (lv_at hl 0 rfl) ?_
      refine o_ri (cells' := 0) (slots' := 0) G rfl rfl (n_V (As := []) (rest := []) (C := RX8) (T := TX8) (N := 8) (ci := 6) S G (s_isHome l X (an 4) (fun k => sv (9 + k)) (fun k => dv (25 + k)) H.size) gX10_beats_X8_isHome rfl rfl rfl hdV_X8_isHome ⟨Nat.le_of_ble_eq_true rfl, Nat.le_of_ble_eq_true rfl⟩ [6] rfl rfl 6 rfl rfl rfl hl.1 (Nat.le_of_ble_eq_true rfl) dX10_beats_27 ⟨Nat.le_of_ble_eq_true rfl, Nat.le_of_ble_eq_true rfl⟩) (fun r_63 u_63 H locs hp_63 G => ?_)
      have G : wd X (va_A (@HAppend.hAppend va_W va_W va_W _ (xW h0 nw sp xa la lb) (@HAppend.hAppend va_W va_W va_W _ (rcV X nw an sv dv n0 n1 n2 n3 n4 g0 gs gn gm) (@HAppend.hAppend va_W va_W va_W _ (rnV (xa 8) ag dg) ([((xa 5), .inl (X.2.1, 3, .inl fr))])))) sz) (va_A (@HAppend.hAppend va_W va_W va_W _ (xW h0 nw sp xa la lb) (@HAppend.hAppend va_W va_W va_W _ (rcV X nw an sv dv n0 n1 n2 n3 n4 g0 gs gn gm) (@HAppend.hAppend va_W va_W va_W _ (rnV (xa 8) ag dg) ([((xa 5), .inl (X.2.1, 3, .inl fr))])))) sz) s (@HAppend.hAppend va_W va_W va_W _ (xW h0 nw sp xa la lb) (@HAppend.hAppend va_W va_W va_W _ (rcV X nw an sv dv n0 n1 n2 n3 n4 g0 gs gn gm) (@HAppend.hAppend va_W va_W va_W _ (rnV (xa 8) ag dg) ([((xa 5), .inl (X.2.1, 3, .inl fr))])))) H locs := G
      refine lv_if_ne (tgt := 48) zx zb dX10_beats_30 (by decide) (fun c_64 => ?_) (fun c_64 => ?_)
      · refine lv_iconst (v := (-1)) zx zb dX10_beats_48 (by decide) ?_
        exact e_int S zr zlk (vp_nar_int _) G (ag, dg, fr) [0, 1, 2, 3, 4, 5, 6, 7, 8, 9, 10, 11, 12, 13, 14, 15, 16, 17, 18] rfl rfl (Or.inr rfl) (trivial) dX10_beats_49
      · refine lv_aload_n zx zb dX10_beats_33 rfl (lv_at hl 1 rfl) ?_
        refine r_get (C := RX10) (T := TX10) (N := 14) (ci := 8) (v := .ref nw) S in_X10_beats_X10 G 0 rfl rfl 0 (by decide) lk_X10_beats_10 rfl dX10_beats_34 ?_
        refine r_get (C := RX5) (T := TX5) (N := 8) (ci := 3) (v := .ref (an 0)) S in_X10_beats_X5 G 1 rfl rfl 3 (by decide) lk_X10_beats_126 rfl dX10_beats_37 ?_
        refine lv_iload_n zx zb dX10_beats_40 rfl (lv_at hl 3 rfl) ?_
        refine k_cutW (PP := fun Wx => ∀ (x_65 : Int32) (H : Heap) (locs : List Loc) (ls : Array Slot), wd X (va_A (@HAppend.hAppend va_W va_W va_W _ (xW h0 nw sp xa la lb) (@HAppend.hAppend va_W va_W va_W _ (rcV X nw an sv dv n0 n1 n2 n3 n4 g0 gs gn gm) (@HAppend.hAppend va_W va_W va_W _ (rnV (xa 8) ag dg) ([((xa 5), .inl (X.2.1, 3, .inl fr))])))) sz) (va_A (@HAppend.hAppend va_W va_W va_W _ (xW h0 nw sp xa la lb) (@HAppend.hAppend va_W va_W va_W _ (rcV X nw an sv dv n0 n1 n2 n3 n4 g0 gs gn gm) (@HAppend.hAppend va_W va_W va_W _ (rnV (xa 8) ag dg) ([((xa 5), .inl (X.2.1, 3, .inl fr))])))) sz) s (@HAppend.hAppend va_W va_W va_W _ (xW h0 nw sp xa la lb) (@HAppend.hAppend va_W va_W va_W _ (rcV X nw an sv dv n0 n1 n2 n3 n4 g0 gs gn gm) (@HAppend.hAppend va_W va_W va_W _ (rnV (xa 8) ag dg) ([((xa 5), .inl (X.2.1, 3, .inl fr))])))) H locs → lv_has ls 7 [(3, .ref (an 4)), (0, .ref h0), (1, .int 3), (2, .int (nI i_1))] → Wx (F0 m 45 ls [.int x_65]) H locs) ?_ ?_
        · intro join_41
          rcases k_6c (show i_1 < 6 by omega) with q_66 | q_66 | q_66 | q_66 | q_66 | q_66
          · refine k_it (v := 0) (by rw [q_66]; rfl) ?_
            refine r_aald (C := RX8) (b := (an 1)) S G 2 3 rfl rfl (k_vp (by decide)) rfl dX10_beats_41 ?_
            refine o_ri (cells' := 0) (slots' := 0) G rfl rfl (n_V (As := []) (rest := []) (C := RX8) (T := TX8) (N := 8) (ci := 6) S G (s_isHome l X (an 1) (fun k => sv (0 + k)) (fun k => dv (10 + k)) H.size) gX10_beats_X8_isHome rfl rfl rfl hdV_X8_isHome ⟨Nat.le_of_ble_eq_true rfl, Nat.le_of_ble_eq_true rfl⟩ [3] rfl rfl 3 rfl rfl rfl hl.1 (Nat.le_of_ble_eq_true rfl) dX10_beats_42 ⟨Nat.le_of_ble_eq_true rfl, Nat.le_of_ble_eq_true rfl⟩) (fun r_67 u_67 H locs hp_67 G => ?_)
            have G : wd X (va_A (@HAppend.hAppend va_W va_W va_W _ (xW h0 nw sp xa la lb) (@HAppend.hAppend va_W va_W va_W _ (rcV X nw an sv dv n0 n1 n2 n3 n4 g0 gs gn gm) (@HAppend.hAppend va_W va_W va_W _ (rnV (xa 8) ag dg) ([((xa 5), .inl (X.2.1, 3, .inl fr))])))) sz) (va_A (@HAppend.hAppend va_W va_W va_W _ (xW h0 nw sp xa la lb) (@HAppend.hAppend va_W va_W va_W _ (rcV X nw an sv dv n0 n1 n2 n3 n4 g0 gs gn gm) (@HAppend.hAppend va_W va_W va_W _ (rnV (xa 8) ag dg) ([((xa 5), .inl (X.2.1, 3, .inl fr))])))) sz) s (@HAppend.hAppend va_W va_W va_W _ (xW h0 nw sp xa la lb) (@HAppend.hAppend va_W va_W va_W _ (rcV X nw an sv dv n0 n1 n2 n3 n4 g0 gs gn gm) (@HAppend.hAppend va_W va_W va_W _ (rnV (xa 8) ag dg) ([((xa 5), .inl (X.2.1, 3, .inl fr))])))) H locs := G
            exact join_41 r_67 _ _ _  G hl
          · refine k_it (v := 1) (by rw [q_66]; rfl) ?_
            refine r_aald (C := RX8) (b := (an 2)) S G 2 3 rfl rfl (k_vp (by decide)) rfl dX10_beats_41 ?_
            refine o_ri (cells' := 0) (slots' := 0) G rfl rfl (n_V (As := []) (rest := []) (C := RX8) (T := TX8) (N := 8) (ci := 6) S G (s_isHome l X (an 2) (fun k => sv (3 + k)) (fun k => dv (15 + k)) H.size) gX10_beats_X8_isHome rfl rfl rfl hdV_X8_isHome ⟨Nat.le_of_ble_eq_true rfl, Nat.le_of_ble_eq_true rfl⟩ [4] rfl rfl 4 rfl rfl rfl hl.1 (Nat.le_of_ble_eq_true rfl) dX10_beats_42 ⟨Nat.le_of_ble_eq_true rfl, Nat.le_of_ble_eq_true rfl⟩) (fun r_68 u_68 H locs hp_68 G => ?_)
            have G : wd X (va_A (@HAppend.hAppend va_W va_W va_W _ (xW h0 nw sp xa la lb) (@HAppend.hAppend va_W va_W va_W _ (rcV X nw an sv dv n0 n1 n2 n3 n4 g0 gs gn gm) (@HAppend.hAppend va_W va_W va_W _ (rnV (xa 8) ag dg) ([((xa 5), .inl (X.2.1, 3, .inl fr))])))) sz) (va_A (@HAppend.hAppend va_W va_W va_W _ (xW h0 nw sp xa la lb) (@HAppend.hAppend va_W va_W va_W _ (rcV X nw an sv dv n0 n1 n2 n3 n4 g0 gs gn gm) (@HAppend.hAppend va_W va_W va_W _ (rnV (xa 8) ag dg) ([((xa 5), .inl (X.2.1, 3, .inl fr))])))) sz) s (@HAppend.hAppend va_W va_W va_W _ (xW h0 nw sp xa la lb) (@HAppend.hAppend va_W va_W va_W _ (rcV X nw an sv dv n0 n1 n2 n3 n4 g0 gs gn gm) (@HAppend.hAppend va_W va_W va_W _ (rnV (xa 8) ag dg) ([((xa 5), .inl (X.2.1, 3, .inl fr))])))) H locs := G
            exact join_41 r_68 _ _ _  G hl
          · refine k_it (v := 2) (by rw [q_66]; rfl) ?_
            refine r_aald (C := RX8) (b := (an 3)) S G 2 3 rfl rfl (k_vp (by decide)) rfl dX10_beats_41 ?_
            refine o_ri (cells' := 0) (slots' := 0) G rfl rfl (n_V (As := []) (rest := []) (C := RX8) (T := TX8) (N := 8) (ci := 6) S G (s_isHome l X (an 3) (fun k => sv (6 + k)) (fun k => dv (20 + k)) H.size) gX10_beats_X8_isHome rfl rfl rfl hdV_X8_isHome ⟨Nat.le_of_ble_eq_true rfl, Nat.le_of_ble_eq_true rfl⟩ [5] rfl rfl 5 rfl rfl rfl hl.1 (Nat.le_of_ble_eq_true rfl) dX10_beats_42 ⟨Nat.le_of_ble_eq_true rfl, Nat.le_of_ble_eq_true rfl⟩) (fun r_69 u_69 H locs hp_69 G => ?_)
            have G : wd X (va_A (@HAppend.hAppend va_W va_W va_W _ (xW h0 nw sp xa la lb) (@HAppend.hAppend va_W va_W va_W _ (rcV X nw an sv dv n0 n1 n2 n3 n4 g0 gs gn gm) (@HAppend.hAppend va_W va_W va_W _ (rnV (xa 8) ag dg) ([((xa 5), .inl (X.2.1, 3, .inl fr))])))) sz) (va_A (@HAppend.hAppend va_W va_W va_W _ (xW h0 nw sp xa la lb) (@HAppend.hAppend va_W va_W va_W _ (rcV X nw an sv dv n0 n1 n2 n3 n4 g0 gs gn gm) (@HAppend.hAppend va_W va_W va_W _ (rnV (xa 8) ag dg) ([((xa 5), .inl (X.2.1, 3, .inl fr))])))) sz) s (@HAppend.hAppend va_W va_W va_W _ (xW h0 nw sp xa la lb) (@HAppend.hAppend va_W va_W va_W _ (rcV X nw an sv dv n0 n1 n2 n3 n4 g0 gs gn gm) (@HAppend.hAppend va_W va_W va_W _ (rnV (xa 8) ag dg) ([((xa 5), .inl (X.2.1, 3, .inl fr))])))) H locs := G
            exact join_41 r_69 _ _ _  G hl
          · refine k_it (v := 3) (by rw [q_66]; rfl) ?_
            refine r_aald (C := RX8) (b := (an 4)) S G 2 3 rfl rfl (k_vp (by decide)) rfl dX10_beats_41 ?_
            refine o_ri (cells' := 0) (slots' := 0) G rfl rfl (n_V (As := []) (rest := []) (C := RX8) (T := TX8) (N := 8) (ci := 6) S G (s_isHome l X (an 4) (fun k => sv (9 + k)) (fun k => dv (25 + k)) H.size) gX10_beats_X8_isHome rfl rfl rfl hdV_X8_isHome ⟨Nat.le_of_ble_eq_true rfl, Nat.le_of_ble_eq_true rfl⟩ [6] rfl rfl 6 rfl rfl rfl hl.1 (Nat.le_of_ble_eq_true rfl) dX10_beats_42 ⟨Nat.le_of_ble_eq_true rfl, Nat.le_of_ble_eq_true rfl⟩) (fun r_70 u_70 H locs hp_70 G => ?_)
            have G : wd X (va_A (@HAppend.hAppend va_W va_W va_W _ (xW h0 nw sp xa la lb) (@HAppend.hAppend va_W va_W va_W _ (rcV X nw an sv dv n0 n1 n2 n3 n4 g0 gs gn gm) (@HAppend.hAppend va_W va_W va_W _ (rnV (xa 8) ag dg) ([((xa 5), .inl (X.2.1, 3, .inl fr))])))) sz) (va_A (@HAppend.hAppend va_W va_W va_W _ (xW h0 nw sp xa la lb) (@HAppend.hAppend va_W va_W va_W _ (rcV X nw an sv dv n0 n1 n2 n3 n4 g0 gs gn gm) (@HAppend.hAppend va_W va_W va_W _ (rnV (xa 8) ag dg) ([((xa 5), .inl (X.2.1, 3, .inl fr))])))) sz) s (@HAppend.hAppend va_W va_W va_W _ (xW h0 nw sp xa la lb) (@HAppend.hAppend va_W va_W va_W _ (rcV X nw an sv dv n0 n1 n2 n3 n4 g0 gs gn gm) (@HAppend.hAppend va_W va_W va_W _ (rnV (xa 8) ag dg) ([((xa 5), .inl (X.2.1, 3, .inl fr))])))) H locs := G
            exact join_41 r_70 _ _ _  G hl
          · refine k_it (v := 4) (by rw [q_66]; rfl) ?_
            refine r_aald (C := RX8) (b := (an 5)) S G 2 3 rfl rfl (k_vp (by decide)) rfl dX10_beats_41 ?_
            refine o_ri (cells' := 0) (slots' := 0) G rfl rfl (n_V (As := []) (rest := []) (C := RX8) (T := TX8) (N := 8) (ci := 6) S G (s_isHome l X (an 5) (fun k => sv (12 + k)) (fun k => dv (30 + k)) H.size) gX10_beats_X8_isHome rfl rfl rfl hdV_X8_isHome ⟨Nat.le_of_ble_eq_true rfl, Nat.le_of_ble_eq_true rfl⟩ [7] rfl rfl 7 rfl rfl rfl hl.1 (Nat.le_of_ble_eq_true rfl) dX10_beats_42 ⟨Nat.le_of_ble_eq_true rfl, Nat.le_of_ble_eq_true rfl⟩) (fun r_71 u_71 H locs hp_71 G => ?_)
            have G : wd X (va_A (@HAppend.hAppend va_W va_W va_W _ (xW h0 nw sp xa la lb) (@HAppend.hAppend va_W va_W va_W _ (rcV X nw an sv dv n0 n1 n2 n3 n4 g0 gs gn gm) (@HAppend.hAppend va_W va_W va_W _ (rnV (xa 8) ag dg) ([((xa 5), .inl (X.2.1, 3, .inl fr))])))) sz) (va_A (@HAppend.hAppend va_W va_W va_W _ (xW h0 nw sp xa la lb) (@HAppend.hAppend va_W va_W va_W _ (rcV X nw an sv dv n0 n1 n2 n3 n4 g0 gs gn gm) (@HAppend.hAppend va_W va_W va_W _ (rnV (xa 8) ag dg) ([((xa 5), .inl (X.2.1, 3, .inl fr))])))) sz) s (@HAppend.hAppend va_W va_W va_W _ (xW h0 nw sp xa la lb) (@HAppend.hAppend va_W va_W va_W _ (rcV X nw an sv dv n0 n1 n2 n3 n4 g0 gs gn gm) (@HAppend.hAppend va_W va_W va_W _ (rnV (xa 8) ag dg) ([((xa 5), .inl (X.2.1, 3, .inl fr))])))) H locs := G
            exact join_41 r_71 _ _ _  G hl
          · refine k_it (v := 5) (by rw [q_66]; rfl) ?_
            refine r_aald (C := RX8) (b := (an 6)) S G 2 3 rfl rfl (k_vp (by decide)) rfl dX10_beats_41 ?_
            refine o_ri (cells' := 0) (slots' := 0) G rfl rfl (n_V (As := []) (rest := []) (C := RX8) (T := TX8) (N := 8) (ci := 6) S G (s_isHome l X (an 6) (fun k => sv (15 + k)) (fun k => dv (35 + k)) H.size) gX10_beats_X8_isHome rfl rfl rfl hdV_X8_isHome ⟨Nat.le_of_ble_eq_true rfl, Nat.le_of_ble_eq_true rfl⟩ [8] rfl rfl 8 rfl rfl rfl hl.1 (Nat.le_of_ble_eq_true rfl) dX10_beats_42 ⟨Nat.le_of_ble_eq_true rfl, Nat.le_of_ble_eq_true rfl⟩) (fun r_72 u_72 H locs hp_72 G => ?_)
            have G : wd X (va_A (@HAppend.hAppend va_W va_W va_W _ (xW h0 nw sp xa la lb) (@HAppend.hAppend va_W va_W va_W _ (rcV X nw an sv dv n0 n1 n2 n3 n4 g0 gs gn gm) (@HAppend.hAppend va_W va_W va_W _ (rnV (xa 8) ag dg) ([((xa 5), .inl (X.2.1, 3, .inl fr))])))) sz) (va_A (@HAppend.hAppend va_W va_W va_W _ (xW h0 nw sp xa la lb) (@HAppend.hAppend va_W va_W va_W _ (rcV X nw an sv dv n0 n1 n2 n3 n4 g0 gs gn gm) (@HAppend.hAppend va_W va_W va_W _ (rnV (xa 8) ag dg) ([((xa 5), .inl (X.2.1, 3, .inl fr))])))) sz) s (@HAppend.hAppend va_W va_W va_W _ (xW h0 nw sp xa la lb) (@HAppend.hAppend va_W va_W va_W _ (rcV X nw an sv dv n0 n1 n2 n3 n4 g0 gs gn gm) (@HAppend.hAppend va_W va_W va_W _ (rnV (xa 8) ag dg) ([((xa 5), .inl (X.2.1, 3, .inl fr))])))) H locs := G
            exact join_41 r_72 _ _ _  G hl
        · intro x_65 H locs ls  G hl
          refine lv_if_eq (tgt := 50) zx zb dX10_beats_45 (by decide) (fun c_73 => ?_) (fun c_73 => ?_)
          · refine lv_aload_n zx zb dX10_beats_50 rfl (lv_at hl 1 rfl) ?_
            refine lv_iload_n zx zb dX10_beats_51 rfl (lv_at hl 3 rfl) ?_
            refine lv_bipush (v := 60) zx zb dX10_beats_52 (by decide) ?_
            refine b_wi (cells' := 0) (slots' := 0) (wr := [((xa 5), .inl (X.2.1, 3, .inl fr))]) G rfl rfl [0, 1, 2, 3, 4, 5, 6, 7, 8, 9, 10, 11, 12, 13, 14, 15, 16, 17] [18] rfl rfl rfl rfl (n_V (As := [.int (nI i_1), .int 60]) (rest := []) (C := RX10) (T := TX10) (N := 14) (ci := 8) S G (s_homeBehind l X h0 nw sp xa la lb an sv dv n0 n1 n2 n3 n4 g0 gs gn gm ag dg i_1 60 hI_n0 hI_n1 hI_n2 hI_n3 hI_n4 (by omega) (by first | decide | assumption | exact k_60a (by assumption)) H.size) gX10_beats_X10_homeBehind rfl rfl rfl hdV_X10_homeBehind ⟨Nat.le_of_ble_eq_true rfl, Nat.le_of_ble_eq_true rfl⟩ [0, 1, 2, 3, 4, 5, 6, 7, 8, 9, 10, 11, 12, 13, 14, 15, 16, 17] rfl rfl 0 rfl rfl rfl hl.1 (Nat.le_of_ble_eq_true rfl) dX10_beats_54 ⟨Nat.le_of_ble_eq_true rfl, Nat.le_of_ble_eq_true rfl⟩) (fun r_74 u_74 H locs hp_74 G => ?_)
            obtain ⟨a_74a, d_74b⟩ := u_74
            have hq_74 := hp_74
            have G : wd X (va_A (@HAppend.hAppend va_W va_W va_W _ (xW h0 nw sp xa la lb) (@HAppend.hAppend va_W va_W va_W _ (rcV X nw an sv dv n0 n1 n2 n3 n4 g0 gs gn gm) (@HAppend.hAppend va_W va_W va_W _ (rnV (xa 8) ag dg) ([((xa 5), .inl (X.2.1, 3, .inl fr))])))) sz) (va_A (@HAppend.hAppend va_W va_W va_W _ (xW h0 nw sp xa la lb) (@HAppend.hAppend va_W va_W va_W _ (rcV X nw an sv dv n0 n1 n2 n3 n4 g0 gs gn gm) (@HAppend.hAppend va_W va_W va_W _ (rnV (xa 8) ag dg) ([((xa 5), .inl (X.2.1, 3, .inl fr))])))) sz) s (@HAppend.hAppend va_W va_W va_W _ ([((xa 5), .inl (X.2.1, 3, .inl fr))]) (@HAppend.hAppend va_W va_W va_W _ (xW h0 nw sp xa la lb) (@HAppend.hAppend va_W va_W va_W _ (rcV X nw an sv dv n0 n1 n2 n3 n4 g0 gs gn gm) (rnV (xa 8) a_74a d_74b)))) H locs := G
            refine lv_istore (lv' := [(4, .int r_74), (3, .ref (an 4)), (0, .ref h0), (1, .int 3), (2, .int (nI i_1))]) zx zb dX10_beats_57 hl (by decide) rfl (fun ls hl => ?_)
            refine lv_iload zx zb dX10_beats_59 (lv_at hl 0 rfl) ?_
            refine lv_iconst (v := (-1)) zx zb dX10_beats_61 (by decide) ?_
            refine k_cutW (PP := fun Wx => ∀ (x_76 : Int32) (H : Heap) (locs : List Loc) (ls : Array Slot), (x_76 ≤ 60) → wd X (va_A (@HAppend.hAppend va_W va_W va_W _ (xW h0 nw sp xa la lb) (@HAppend.hAppend va_W va_W va_W _ (rcV X nw an sv dv n0 n1 n2 n3 n4 g0 gs gn gm) (@HAppend.hAppend va_W va_W va_W _ (rnV (xa 8) ag dg) ([((xa 5), .inl (X.2.1, 3, .inl fr))])))) sz) (va_A (@HAppend.hAppend va_W va_W va_W _ (xW h0 nw sp xa la lb) (@HAppend.hAppend va_W va_W va_W _ (rcV X nw an sv dv n0 n1 n2 n3 n4 g0 gs gn gm) (@HAppend.hAppend va_W va_W va_W _ (rnV (xa 8) ag dg) ([((xa 5), .inl (X.2.1, 3, .inl fr))])))) sz) s (@HAppend.hAppend va_W va_W va_W _ ([((xa 5), .inl (X.2.1, 3, .inl fr))]) (@HAppend.hAppend va_W va_W va_W _ (xW h0 nw sp xa la lb) (@HAppend.hAppend va_W va_W va_W _ (rcV X nw an sv dv n0 n1 n2 n3 n4 g0 gs gn gm) (rnV (xa 8) a_74a d_74b)))) H locs → lv_has ls 7 [(4, .int r_74), (3, .ref (an 4)), (0, .ref h0), (1, .int 3), (2, .int (nI i_1))] → Wx (F0 m 74 ls [.int x_76]) H locs) ?_ ?_
            · intro join_62
              refine lv_icmp_ne (tgt := 70) zx zb dX10_beats_62 (by decide) (fun c_75 => ?_) (fun c_75 => ?_)
              · refine lv_iload zx zb dX10_beats_70 (lv_at hl 0 rfl) ?_
                refine lv_iconst (v := 1) zx zb dX10_beats_72 (by decide) ?_
                refine r_isub (v := (r_74 - 1)) S rfl dX10_beats_73 ?_
                exact join_62 (r_74 - 1) _ _ _ (by first | assumption | decide | exact k_m60 (by assumption)) G hl
              · refine lv_bipush (v := 60) zx zb dX10_beats_65 (by decide) ?_
                refine lv_goto (tgt := 74) zx zb dX10_beats_67 (by decide) ?_
                exact join_62 60 _ _ _ (by first | assumption | decide | exact k_m60 (by assumption)) G hl
            · intro x_76 H locs ls hk_x_76 G hl
              refine lv_istore (lv' := [(5, .int x_76), (4, .int r_74), (3, .ref (an 4)), (0, .ref h0), (1, .int 3), (2, .int (nI i_1))]) zx zb dX10_beats_74 hl (by decide) rfl (fun ls hl => ?_)
              refine lv_iconst (v := 0) zx zb dX10_beats_76 (by decide) ?_
              refine lv_istore (lv' := [(6, .int 0), (5, .int x_76), (4, .int r_74), (3, .ref (an 4)), (0, .ref h0), (1, .int 3), (2, .int (nI i_1))]) zx zb dX10_beats_77 hl (by decide) rfl (fun ls hl => ?_)
              refine k_loop (P := ∀ (zm : Nat) (k79 : Nat) (a79_3 : Nat → Int32) (d79_3 : Nat → Int32) (H : Heap) (locs : List Loc) (ls : Array Slot), 31 + 1 ≤ k79 + zm → (k79 ≤ 31) → wd X (va_A (@HAppend.hAppend va_W va_W va_W _ (xW h0 nw sp xa la lb) (@HAppend.hAppend va_W va_W va_W _ (rcV X nw an sv dv n0 n1 n2 n3 n4 g0 gs gn gm) (@HAppend.hAppend va_W va_W va_W _ (rnV (xa 8) ag dg) ([((xa 5), .inl (X.2.1, 3, .inl fr))])))) sz) (va_A (@HAppend.hAppend va_W va_W va_W _ (xW h0 nw sp xa la lb) (@HAppend.hAppend va_W va_W va_W _ (rcV X nw an sv dv n0 n1 n2 n3 n4 g0 gs gn gm) (@HAppend.hAppend va_W va_W va_W _ (rnV (xa 8) ag dg) ([((xa 5), .inl (X.2.1, 3, .inl fr))])))) sz) s (@HAppend.hAppend va_W va_W va_W _ ([((xa 5), .inl (X.2.1, 3, .inl fr))]) (@HAppend.hAppend va_W va_W va_W _ (xW h0 nw sp xa la lb) (@HAppend.hAppend va_W va_W va_W _ (rcV X nw an sv dv n0 n1 n2 n3 n4 g0 gs gn gm) (rnV (xa 8) a79_3 d79_3)))) H locs → lv_has ls 7 [(6, .int (nI k79)), (5, .int x_76), (4, .int r_74), (3, .ref (an 4)), (0, .ref h0), (1, .int 3), (2, .int (nI i_1))] → W p l e _ s m _ below meth c H locs _ _ _ (F0 m 79 ls [])) (fun loop => loop (31 + 1) 0 a_74a d_74b _ _ _ (by omega) (by omega) G hl) ?_
              intro zm
              induction zm with
              | zero => intro k79 a79_3 d79_3 H locs ls zz q_hk_k79 _ _; exact absurd zz (by omega)
              | succ zm ih79 =>
                intro k79 a79_3 d79_3 H locs ls zm_79 hk_k79 G hl
                refine lv_iload zx zb dX10_beats_79 (lv_at hl 0 rfl) ?_
                refine lv_bipush (v := 30) zx zb dX10_beats_81 (by decide) ?_
                refine lv_icmp_gt (tgt := 161) zx zb dX10_beats_83 (by decide) (fun c_77 => ?_) (fun c_77 => ?_)
                · have fc_77 := j_lt (a := 30) (b := k79) (by omega) (by omega) c_77
                  refine lv_iconst (v := (-1)) zx zb dX10_beats_161 (by decide) ?_
                  exact e_int S zr zlk (vp_nar_int _) G (a79_3, d79_3, fr) [1, 2, 3, 4, 5, 6, 7, 8, 9, 10, 11, 12, 13, 14, 15, 16, 17, 18, 0] rfl rfl (Or.inr rfl) (trivial) dX10_beats_162
                · have fc_77 := j_nlt (a := 30) (b := k79) (by omega) (by omega) c_77
                  refine lv_aload_n zx zb dX10_beats_86 rfl (lv_at hl 3 rfl) ?_
                  refine r_get (C := RX8) (T := TX8) (N := 8) (ci := 6) (v := .int (dv 26)) S in_X10_beats_X8 G 7 rfl rfl 4 (by decide) lk_X10_beats_137 rfl dX10_beats_87 ?_
                  refine lv_iload zx zb dX10_beats_90 (lv_at hl 0 rfl) ?_
                  refine r_iadd (v := ((dv 26) + (nI k79))) S rfl dX10_beats_92 ?_
                  refine lv_aload_n zx zb dX10_beats_93 rfl (lv_at hl 4 rfl) ?_
                  refine r_get (C := RX10) (T := TX10) (N := 14) (ci := 8) (v := .ref nw) S in_X10_beats_X10 G 1 rfl rfl 0 (by decide) lk_X10_beats_10 rfl dX10_beats_94 ?_
                  refine r_get (C := RX5) (T := TX5) (N := 8) (ci := 3) (v := .int (dv 0)) S in_X10_beats_X5 G 2 rfl rfl 0 (by decide) lk_X10_beats_140 rfl dX10_beats_97 ?_
                  refine lv_icmp_ge (tgt := 161) zx zb dX10_beats_100 (by decide) (fun c_78 => ?_) (fun c_78 => ?_)
                  · refine lv_iconst (v := (-1)) zx zb dX10_beats_161 (by decide) ?_
                    exact e_int S zr zlk (vp_nar_int _) G (a79_3, d79_3, fr) [1, 2, 3, 4, 5, 6, 7, 8, 9, 10, 11, 12, 13, 14, 15, 16, 17, 18, 0] rfl rfl (Or.inr rfl) (trivial) dX10_beats_162
                  · refine lv_aload_n zx zb dX10_beats_103 rfl (lv_at hl 4 rfl) ?_
                    refine r_get (C := RX10) (T := TX10) (N := 14) (ci := 8) (v := .ref (xa 8)) S in_X10_beats_X10 G 1 rfl rfl 8 (by decide) lk_X10_beats_48 rfl dX10_beats_104 ?_
                    refine lv_aload_n zx zb dX10_beats_107 rfl (lv_at hl 3 rfl) ?_
                    refine b_wv (cells' := 0) (slots' := 0) (wr := @HAppend.hAppend va_W va_W va_W _ ([((xa 5), .inl (X.2.1, 3, .inl fr))]) (@HAppend.hAppend va_W va_W va_W _ (xW h0 nw sp xa la lb) ([(nw, .inr (3, [.int (dv 0), .int (dv 1), .int (nI n0), .ref (an 0), .ref (an 7), .ref (an 9), .ref (an 11), .ref (an 13)])), ((an 0), .inl (X.2.2.2.2, 6, .inr (.inr (.inr (.inr (rowQ an)))))), ((an 1), .inr (6, [.int (sv 0), .int (sv 1), .int (sv 2), .int (dv 10), .int (dv 11), .int (dv 12), .int (dv 13), .int (dv 14)])), ((an 2), .inr (6, [.int (sv 3), .int (sv 4), .int (sv 5), .int (dv 15), .int (dv 16), .int (dv 17), .int (dv 18), .int (dv 19)])), ((an 3), .inr (6, [.int (sv 6), .int (sv 7), .int (sv 8), .int (dv 20), .int (dv 21), .int (dv 22), .int (dv 23), .int (dv 24)])), ((an 5), .inr (6, [.int (sv 12), .int (sv 13), .int (sv 14), .int (dv 30), .int (dv 31), .int (dv 32), .int (dv 33), .int (dv 34)])), ((an 6), .inr (6, [.int (sv 15), .int (sv 16), .int (sv 17), .int (dv 35), .int (dv 36), .int (dv 37), .int (dv 38), .int (dv 39)])), ((an 7), .inr (2, [.ref (an 8), .int (nI n1)])), ((an 8), .inl (X.2.1, 248, .inl g0)), ((an 9), .inr (5, [.int 5, .int 0, .int 1, .ref (an 10), .int (nI n2)])), ((an 10), .inl (X.2.1, 25, .inl gs)), ((an 11), .inr (5, [.int 6, .int 1, .int 1, .ref (an 12), .int (nI n3)])), ((an 12), .inl (X.2.1, 30, .inl gn)), ((an 13), .inr (5, [.int 6, .int 0, .int 0, .ref (an 14), .int (nI n4)])), ((an 14), .inl (X.2.1, 30, .inl gm))]))) G rfl rfl [18, 7] [0, 1, 2, 3, 4, 5, 6, 8, 9, 10, 11, 12, 13, 14, 15, 16, 17] rfl rfl rfl rfl (n_V (As := [.ref (an 4)]) (rest := []) (C := RX8) (T := TX8) (N := 8) (ci := 6) S G (s_rcopy l X (xa 8) a79_3 d79_3 (an 4) (fun k => sv (9 + k)) (fun k => dv (25 + k)) H.size) gX10_beats_X8_copyFrom rfl rfl rfl hdV_X8_copyFrom ⟨Nat.le_of_ble_eq_true rfl, Nat.le_of_ble_eq_true rfl⟩ [18, 7] rfl rfl 18 rfl rfl rfl hl.1 (Nat.le_of_ble_eq_true rfl) dX10_beats_108 ⟨Nat.le_of_ble_eq_true rfl, Nat.le_of_ble_eq_true rfl⟩) (fun u_79 H locs hp_79 G => ?_)
                    obtain ⟨a_79a, d_79b⟩ := u_79
                    have hq_79 := hp_79
                    have G : wd X (va_A (@HAppend.hAppend va_W va_W va_W _ (xW h0 nw sp xa la lb) (@HAppend.hAppend va_W va_W va_W _ (rcV X nw an sv dv n0 n1 n2 n3 n4 g0 gs gn gm) (@HAppend.hAppend va_W va_W va_W _ (rnV (xa 8) ag dg) ([((xa 5), .inl (X.2.1, 3, .inl fr))])))) sz) (va_A (@HAppend.hAppend va_W va_W va_W _ (xW h0 nw sp xa la lb) (@HAppend.hAppend va_W va_W va_W _ (rcV X nw an sv dv n0 n1 n2 n3 n4 g0 gs gn gm) (@HAppend.hAppend va_W va_W va_W _ (rnV (xa 8) ag dg) ([((xa 5), .inl (X.2.1, 3, .inl fr))])))) sz) s (@HAppend.hAppend va_W va_W va_W _ ([((xa 5), .inl (X.2.1, 3, .inl fr))]) (@HAppend.hAppend va_W va_W va_W _ (xW h0 nw sp xa la lb) (@HAppend.hAppend va_W va_W va_W _ (rcV X nw an sv dv n0 n1 n2 n3 n4 g0 gs gn gm) (rnV (xa 8) a_79a d_79b)))) H locs := wd_sub G [0, 1, 2, 3, 4, 5, 6, 18, 7, 8, 9, 10, 11, 12, 13, 14, 15, 16, 17] rfl rfl
                    refine lv_aload_n zx zb dX10_beats_111 rfl (lv_at hl 4 rfl) ?_
                    refine r_get (C := RX10) (T := TX10) (N := 14) (ci := 8) (v := .ref (xa 8)) S in_X10_beats_X10 G 1 rfl rfl 8 (by decide) lk_X10_beats_48 rfl dX10_beats_112 ?_
                    refine lv_dup zx zb dX10_beats_115 rfl ?_
                    refine r_get (C := RX8) (T := TX8) (N := 8) (ci := 6) (v := .int (d_79b 1)) S in_X10_beats_X8 G 18 rfl rfl 4 (by decide) lk_X10_beats_137 rfl dX10_beats_116 ?_
                    refine lv_iload zx zb dX10_beats_119 (lv_at hl 0 rfl) ?_
                    refine r_iadd (v := ((d_79b 1) + (nI k79))) S rfl dX10_beats_121 ?_
                    refine r_put (C := RX8) (T := TX8) (N := 8) (ci := 6) (v := .int ((d_79b 1) + (nI k79))) S in_X10_beats_X8 tyX8_ok nmX8 G 18 rfl rfl 4 (by decide) lk_X10_beats_137 rfl (vp_nar_int _) rfl (Nat.le_of_ble_eq_true rfl) dX10_beats_122 (fun H locs G => ?_)
                    obtain ⟨d_80, G⟩ : ∃ d_80 : Nat → Int32, wd X (va_A (@HAppend.hAppend va_W va_W va_W _ (xW h0 nw sp xa la lb) (@HAppend.hAppend va_W va_W va_W _ (rcV X nw an sv dv n0 n1 n2 n3 n4 g0 gs gn gm) (@HAppend.hAppend va_W va_W va_W _ (rnV (xa 8) ag dg) ([((xa 5), .inl (X.2.1, 3, .inl fr))])))) sz) (va_A (@HAppend.hAppend va_W va_W va_W _ (xW h0 nw sp xa la lb) (@HAppend.hAppend va_W va_W va_W _ (rcV X nw an sv dv n0 n1 n2 n3 n4 g0 gs gn gm) (@HAppend.hAppend va_W va_W va_W _ (rnV (xa 8) ag dg) ([((xa 5), .inl (X.2.1, 3, .inl fr))])))) sz) s (@HAppend.hAppend va_W va_W va_W _ ([((xa 5), .inl (X.2.1, 3, .inl fr))]) (@HAppend.hAppend va_W va_W va_W _ (xW h0 nw sp xa la lb) (@HAppend.hAppend va_W va_W va_W _ (rcV X nw an sv dv n0 n1 n2 n3 n4 g0 gs gn gm) (rnV (xa 8) a_79a d_80)))) H locs := ⟨upd d_79b 1 ((d_79b 1) + (nI k79)), G⟩
                    refine lv_aload_n zx zb dX10_beats_125 rfl (lv_at hl 4 rfl) ?_
                    refine r_get (C := RX10) (T := TX10) (N := 14) (ci := 8) (v := .ref (xa 8)) S in_X10_beats_X10 G 1 rfl rfl 8 (by decide) lk_X10_beats_48 rfl dX10_beats_126 ?_
                    refine lv_aload_n zx zb dX10_beats_129 rfl (lv_at hl 4 rfl) ?_
                    refine r_get (C := RX10) (T := TX10) (N := 14) (ci := 8) (v := .ref nw) S in_X10_beats_X10 G 1 rfl rfl 0 (by decide) lk_X10_beats_10 rfl dX10_beats_130 ?_
                    refine r_get (C := RX5) (T := TX5) (N := 8) (ci := 3) (v := .int (dv 1)) S in_X10_beats_X5 G 2 rfl rfl 1 (by decide) lk_X10_beats_110 rfl dX10_beats_133 ?_
                    refine lv_aload_n zx zb dX10_beats_136 rfl (lv_at hl 4 rfl) ?_
                    refine r_get (C := RX10) (T := TX10) (N := 14) (ci := 8) (v := .ref nw) S in_X10_beats_X10 G 1 rfl rfl 0 (by decide) lk_X10_beats_10 rfl dX10_beats_137 ?_
                    refine r_get (C := RX5) (T := TX5) (N := 8) (ci := 3) (v := .int (dv 0)) S in_X10_beats_X5 G 2 rfl rfl 0 (by decide) lk_X10_beats_140 rfl dX10_beats_140 ?_
                    refine lv_iload zx zb dX10_beats_143 (lv_at hl 1 rfl) ?_
                    refine b_wi (cells' := 0) (slots' := 0) (wr := @HAppend.hAppend va_W va_W va_W _ ([((xa 5), .inl (X.2.1, 3, .inl fr))]) (@HAppend.hAppend va_W va_W va_W _ (xW h0 nw sp xa la lb) (rcV X nw an sv dv n0 n1 n2 n3 n4 g0 gs gn gm))) G rfl rfl [18] [0, 1, 2, 3, 4, 5, 6, 7, 8, 9, 10, 11, 12, 13, 14, 15, 16, 17] rfl rfl rfl rfl (n_V (As := [.int (dv 1), .int (dv 0), .int x_76]) (rest := []) (C := RX8) (T := TX8) (N := 8) (ci := 6) S G (s_ticksToHome l X (xa 8) a_79a d_80 (dv 1) (dv 0) x_76 (by first | decide | assumption | exact k_60a (by assumption)) H.size) gX10_beats_X8_ticksToHome rfl rfl rfl hdV_X8_ticksToHome ⟨Nat.le_of_ble_eq_true rfl, Nat.le_of_ble_eq_true rfl⟩ [18] rfl rfl 18 rfl rfl rfl hl.1 (Nat.le_of_ble_eq_true rfl) dX10_beats_145 ⟨Nat.le_of_ble_eq_true rfl, Nat.le_of_ble_eq_true rfl⟩) (fun r_81 u_81 H locs hp_81 G => ?_)
                    obtain ⟨d_81, rfl⟩ : ∃ z, z = u_81 := ⟨_, rfl⟩
                    have hq_81 := hp_81
                    obtain ⟨hq_81, hs_81⟩ := hq_81
                    have G : wd X (va_A (@HAppend.hAppend va_W va_W va_W _ (xW h0 nw sp xa la lb) (@HAppend.hAppend va_W va_W va_W _ (rcV X nw an sv dv n0 n1 n2 n3 n4 g0 gs gn gm) (@HAppend.hAppend va_W va_W va_W _ (rnV (xa 8) ag dg) ([((xa 5), .inl (X.2.1, 3, .inl fr))])))) sz) (va_A (@HAppend.hAppend va_W va_W va_W _ (xW h0 nw sp xa la lb) (@HAppend.hAppend va_W va_W va_W _ (rcV X nw an sv dv n0 n1 n2 n3 n4 g0 gs gn gm) (@HAppend.hAppend va_W va_W va_W _ (rnV (xa 8) ag dg) ([((xa 5), .inl (X.2.1, 3, .inl fr))])))) sz) s (@HAppend.hAppend va_W va_W va_W _ ([((xa 5), .inl (X.2.1, 3, .inl fr))]) (@HAppend.hAppend va_W va_W va_W _ (xW h0 nw sp xa la lb) (@HAppend.hAppend va_W va_W va_W _ (rcV X nw an sv dv n0 n1 n2 n3 n4 g0 gs gn gm) (rnV (xa 8) a_79a d_81)))) H locs := G
                    refine lv_iconst (v := (-1)) zx zb dX10_beats_148 (by decide) ?_
                    refine lv_icmp_eq (tgt := 155) zx zb dX10_beats_149 (by decide) (fun c_82 => ?_) (fun c_82 => ?_)
                    · refine lv_iinc (v := (nI (k79 + 1))) (lv' := [(6, .int (nI (k79 + 1))), (5, .int x_76), (4, .int r_74), (3, .ref (an 4)), (0, .ref h0), (1, .int 3), (2, .int (nI i_1))]) zx zb dX10_beats_155 hl (k := 0) rfl (nI_add k79 1) (by decide) rfl (fun ls hl => ?_)
                      refine lv_goto (tgt := 79) zx zb dX10_beats_158 (by decide) ?_
                      exact ih79 (k79 + 1) a_79a d_81 _ _ _ (by omega) (by omega) G hl
                    · refine lv_iload zx zb dX10_beats_152 (lv_at hl 0 rfl) ?_
                      exact e_int S zr zlk (vp_nar_int _) G (a_79a, d_81, fr) [1, 2, 3, 4, 5, 6, 7, 8, 9, 10, 11, 12, 13, 14, 15, 16, 17, 18, 0] rfl rfl (Or.inr rfl) (trivial) dX10_beats_154
          · refine lv_iconst (v := (-1)) zx zb dX10_beats_48 (by decide) ?_
            exact e_int S zr zlk (vp_nar_int _) G (ag, dg, fr) [0, 1, 2, 3, 4, 5, 6, 7, 8, 9, 10, 11, 12, 13, 14, 15, 16, 17, 18] rfl rfl (Or.inr rfl) (trivial) dX10_beats_49
    · refine k_it (v := 4) rfl ?_
      refine r_aald (C := RX8) (b := (an 5)) S G 2 3 rfl rfl (k_vp (by decide)) rfl dX10_beats_24 ?_
      refine lv_astore_n (lv' := [(3, .ref (an 5)), (0, .ref h0), (1, .int 4), (2, .int (nI i_1))]) zx zb dX10_beats_25 rfl hl (by decide) rfl (fun ls hl => ?_)
      refine lv_aload_n zx zb dX10_beats_26 rfl (lv_at hl 0 rfl) ?_
      refine o_ri (cells' := 0) (slots' := 0) G rfl rfl (n_V (As := []) (rest := []) (C := RX8) (T := TX8) (N := 8) (ci := 6) S G (s_isHome l X (an 5) (fun k => sv (12 + k)) (fun k => dv (30 + k)) H.size) gX10_beats_X8_isHome rfl rfl rfl hdV_X8_isHome ⟨Nat.le_of_ble_eq_true rfl, Nat.le_of_ble_eq_true rfl⟩ [7] rfl rfl 7 rfl rfl rfl hl.1 (Nat.le_of_ble_eq_true rfl) dX10_beats_27 ⟨Nat.le_of_ble_eq_true rfl, Nat.le_of_ble_eq_true rfl⟩) (fun r_83 u_83 H locs hp_83 G => ?_)
      have G : wd X (va_A (@HAppend.hAppend va_W va_W va_W _ (xW h0 nw sp xa la lb) (@HAppend.hAppend va_W va_W va_W _ (rcV X nw an sv dv n0 n1 n2 n3 n4 g0 gs gn gm) (@HAppend.hAppend va_W va_W va_W _ (rnV (xa 8) ag dg) ([((xa 5), .inl (X.2.1, 3, .inl fr))])))) sz) (va_A (@HAppend.hAppend va_W va_W va_W _ (xW h0 nw sp xa la lb) (@HAppend.hAppend va_W va_W va_W _ (rcV X nw an sv dv n0 n1 n2 n3 n4 g0 gs gn gm) (@HAppend.hAppend va_W va_W va_W _ (rnV (xa 8) ag dg) ([((xa 5), .inl (X.2.1, 3, .inl fr))])))) sz) s (@HAppend.hAppend va_W va_W va_W _ (xW h0 nw sp xa la lb) (@HAppend.hAppend va_W va_W va_W _ (rcV X nw an sv dv n0 n1 n2 n3 n4 g0 gs gn gm) (@HAppend.hAppend va_W va_W va_W _ (rnV (xa 8) ag dg) ([((xa 5), .inl (X.2.1, 3, .inl fr))])))) H locs := G
      refine lv_if_ne (tgt := 48) zx zb dX10_beats_30 (by decide) (fun c_84 => ?_) (fun c_84 => ?_)
      · refine lv_iconst (v := (-1)) zx zb dX10_beats_48 (by decide) ?_
        exact e_int S zr zlk (vp_nar_int _) G (ag, dg, fr) [0, 1, 2, 3, 4, 5, 6, 7, 8, 9, 10, 11, 12, 13, 14, 15, 16, 17, 18] rfl rfl (Or.inr rfl) (trivial) dX10_beats_49
      · refine lv_aload_n zx zb dX10_beats_33 rfl (lv_at hl 1 rfl) ?_
        refine r_get (C := RX10) (T := TX10) (N := 14) (ci := 8) (v := .ref nw) S in_X10_beats_X10 G 0 rfl rfl 0 (by decide) lk_X10_beats_10 rfl dX10_beats_34 ?_
        refine r_get (C := RX5) (T := TX5) (N := 8) (ci := 3) (v := .ref (an 0)) S in_X10_beats_X5 G 1 rfl rfl 3 (by decide) lk_X10_beats_126 rfl dX10_beats_37 ?_
        refine lv_iload_n zx zb dX10_beats_40 rfl (lv_at hl 3 rfl) ?_
        refine k_cutW (PP := fun Wx => ∀ (x_85 : Int32) (H : Heap) (locs : List Loc) (ls : Array Slot), wd X (va_A (@HAppend.hAppend va_W va_W va_W _ (xW h0 nw sp xa la lb) (@HAppend.hAppend va_W va_W va_W _ (rcV X nw an sv dv n0 n1 n2 n3 n4 g0 gs gn gm) (@HAppend.hAppend va_W va_W va_W _ (rnV (xa 8) ag dg) ([((xa 5), .inl (X.2.1, 3, .inl fr))])))) sz) (va_A (@HAppend.hAppend va_W va_W va_W _ (xW h0 nw sp xa la lb) (@HAppend.hAppend va_W va_W va_W _ (rcV X nw an sv dv n0 n1 n2 n3 n4 g0 gs gn gm) (@HAppend.hAppend va_W va_W va_W _ (rnV (xa 8) ag dg) ([((xa 5), .inl (X.2.1, 3, .inl fr))])))) sz) s (@HAppend.hAppend va_W va_W va_W _ (xW h0 nw sp xa la lb) (@HAppend.hAppend va_W va_W va_W _ (rcV X nw an sv dv n0 n1 n2 n3 n4 g0 gs gn gm) (@HAppend.hAppend va_W va_W va_W _ (rnV (xa 8) ag dg) ([((xa 5), .inl (X.2.1, 3, .inl fr))])))) H locs → lv_has ls 7 [(3, .ref (an 5)), (0, .ref h0), (1, .int 4), (2, .int (nI i_1))] → Wx (F0 m 45 ls [.int x_85]) H locs) ?_ ?_
        · intro join_41
          rcases k_6c (show i_1 < 6 by omega) with q_86 | q_86 | q_86 | q_86 | q_86 | q_86
          · refine k_it (v := 0) (by rw [q_86]; rfl) ?_
            refine r_aald (C := RX8) (b := (an 1)) S G 2 3 rfl rfl (k_vp (by decide)) rfl dX10_beats_41 ?_
            refine o_ri (cells' := 0) (slots' := 0) G rfl rfl (n_V (As := []) (rest := []) (C := RX8) (T := TX8) (N := 8) (ci := 6) S G (s_isHome l X (an 1) (fun k => sv (0 + k)) (fun k => dv (10 + k)) H.size) gX10_beats_X8_isHome rfl rfl rfl hdV_X8_isHome ⟨Nat.le_of_ble_eq_true rfl, Nat.le_of_ble_eq_true rfl⟩ [3] rfl rfl 3 rfl rfl rfl hl.1 (Nat.le_of_ble_eq_true rfl) dX10_beats_42 ⟨Nat.le_of_ble_eq_true rfl, Nat.le_of_ble_eq_true rfl⟩) (fun r_87 u_87 H locs hp_87 G => ?_)
            have G : wd X (va_A (@HAppend.hAppend va_W va_W va_W _ (xW h0 nw sp xa la lb) (@HAppend.hAppend va_W va_W va_W _ (rcV X nw an sv dv n0 n1 n2 n3 n4 g0 gs gn gm) (@HAppend.hAppend va_W va_W va_W _ (rnV (xa 8) ag dg) ([((xa 5), .inl (X.2.1, 3, .inl fr))])))) sz) (va_A (@HAppend.hAppend va_W va_W va_W _ (xW h0 nw sp xa la lb) (@HAppend.hAppend va_W va_W va_W _ (rcV X nw an sv dv n0 n1 n2 n3 n4 g0 gs gn gm) (@HAppend.hAppend va_W va_W va_W _ (rnV (xa 8) ag dg) ([((xa 5), .inl (X.2.1, 3, .inl fr))])))) sz) s (@HAppend.hAppend va_W va_W va_W _ (xW h0 nw sp xa la lb) (@HAppend.hAppend va_W va_W va_W _ (rcV X nw an sv dv n0 n1 n2 n3 n4 g0 gs gn gm) (@HAppend.hAppend va_W va_W va_W _ (rnV (xa 8) ag dg) ([((xa 5), .inl (X.2.1, 3, .inl fr))])))) H locs := G
            exact join_41 r_87 _ _ _  G hl
          · refine k_it (v := 1) (by rw [q_86]; rfl) ?_
            refine r_aald (C := RX8) (b := (an 2)) S G 2 3 rfl rfl (k_vp (by decide)) rfl dX10_beats_41 ?_
            refine o_ri (cells' := 0) (slots' := 0) G rfl rfl (n_V (As := []) (rest := []) (C := RX8) (T := TX8) (N := 8) (ci := 6) S G (s_isHome l X (an 2) (fun k => sv (3 + k)) (fun k => dv (15 + k)) H.size) gX10_beats_X8_isHome rfl rfl rfl hdV_X8_isHome ⟨Nat.le_of_ble_eq_true rfl, Nat.le_of_ble_eq_true rfl⟩ [4] rfl rfl 4 rfl rfl rfl hl.1 (Nat.le_of_ble_eq_true rfl) dX10_beats_42 ⟨Nat.le_of_ble_eq_true rfl, Nat.le_of_ble_eq_true rfl⟩) (fun r_88 u_88 H locs hp_88 G => ?_)
            have G : wd X (va_A (@HAppend.hAppend va_W va_W va_W _ (xW h0 nw sp xa la lb) (@HAppend.hAppend va_W va_W va_W _ (rcV X nw an sv dv n0 n1 n2 n3 n4 g0 gs gn gm) (@HAppend.hAppend va_W va_W va_W _ (rnV (xa 8) ag dg) ([((xa 5), .inl (X.2.1, 3, .inl fr))])))) sz) (va_A (@HAppend.hAppend va_W va_W va_W _ (xW h0 nw sp xa la lb) (@HAppend.hAppend va_W va_W va_W _ (rcV X nw an sv dv n0 n1 n2 n3 n4 g0 gs gn gm) (@HAppend.hAppend va_W va_W va_W _ (rnV (xa 8) ag dg) ([((xa 5), .inl (X.2.1, 3, .inl fr))])))) sz) s (@HAppend.hAppend va_W va_W va_W _ (xW h0 nw sp xa la lb) (@HAppend.hAppend va_W va_W va_W _ (rcV X nw an sv dv n0 n1 n2 n3 n4 g0 gs gn gm) (@HAppend.hAppend va_W va_W va_W _ (rnV (xa 8) ag dg) ([((xa 5), .inl (X.2.1, 3, .inl fr))])))) H locs := G
            exact join_41 r_88 _ _ _  G hl
          · refine k_it (v := 2) (by rw [q_86]; rfl) ?_
            refine r_aald (C := RX8) (b := (an 3)) S G 2 3 rfl rfl (k_vp (by decide)) rfl dX10_beats_41 ?_
            refine o_ri (cells' := 0) (slots' := 0) G rfl rfl (n_V (As := []) (rest := []) (C := RX8) (T := TX8) (N := 8) (ci := 6) S G (s_isHome l X (an 3) (fun k => sv (6 + k)) (fun k => dv (20 + k)) H.size) gX10_beats_X8_isHome rfl rfl rfl hdV_X8_isHome ⟨Nat.le_of_ble_eq_true rfl, Nat.le_of_ble_eq_true rfl⟩ [5] rfl rfl 5 rfl rfl rfl hl.1 (Nat.le_of_ble_eq_true rfl) dX10_beats_42 ⟨Nat.le_of_ble_eq_true rfl, Nat.le_of_ble_eq_true rfl⟩) (fun r_89 u_89 H locs hp_89 G => ?_)
            have G : wd X (va_A (@HAppend.hAppend va_W va_W va_W _ (xW h0 nw sp xa la lb) (@HAppend.hAppend va_W va_W va_W _ (rcV X nw an sv dv n0 n1 n2 n3 n4 g0 gs gn gm) (@HAppend.hAppend va_W va_W va_W _ (rnV (xa 8) ag dg) ([((xa 5), .inl (X.2.1, 3, .inl fr))])))) sz) (va_A (@HAppend.hAppend va_W va_W va_W _ (xW h0 nw sp xa la lb) (@HAppend.hAppend va_W va_W va_W _ (rcV X nw an sv dv n0 n1 n2 n3 n4 g0 gs gn gm) (@HAppend.hAppend va_W va_W va_W _ (rnV (xa 8) ag dg) ([((xa 5), .inl (X.2.1, 3, .inl fr))])))) sz) s (@HAppend.hAppend va_W va_W va_W _ (xW h0 nw sp xa la lb) (@HAppend.hAppend va_W va_W va_W _ (rcV X nw an sv dv n0 n1 n2 n3 n4 g0 gs gn gm) (@HAppend.hAppend va_W va_W va_W _ (rnV (xa 8) ag dg) ([((xa 5), .inl (X.2.1, 3, .inl fr))])))) H locs := G
            exact join_41 r_89 _ _ _  G hl
          · refine k_it (v := 3) (by rw [q_86]; rfl) ?_
            refine r_aald (C := RX8) (b := (an 4)) S G 2 3 rfl rfl (k_vp (by decide)) rfl dX10_beats_41 ?_
            refine o_ri (cells' := 0) (slots' := 0) G rfl rfl (n_V (As := []) (rest := []) (C := RX8) (T := TX8) (N := 8) (ci := 6) S G (s_isHome l X (an 4) (fun k => sv (9 + k)) (fun k => dv (25 + k)) H.size) gX10_beats_X8_isHome rfl rfl rfl hdV_X8_isHome ⟨Nat.le_of_ble_eq_true rfl, Nat.le_of_ble_eq_true rfl⟩ [6] rfl rfl 6 rfl rfl rfl hl.1 (Nat.le_of_ble_eq_true rfl) dX10_beats_42 ⟨Nat.le_of_ble_eq_true rfl, Nat.le_of_ble_eq_true rfl⟩) (fun r_90 u_90 H locs hp_90 G => ?_)
            have G : wd X (va_A (@HAppend.hAppend va_W va_W va_W _ (xW h0 nw sp xa la lb) (@HAppend.hAppend va_W va_W va_W _ (rcV X nw an sv dv n0 n1 n2 n3 n4 g0 gs gn gm) (@HAppend.hAppend va_W va_W va_W _ (rnV (xa 8) ag dg) ([((xa 5), .inl (X.2.1, 3, .inl fr))])))) sz) (va_A (@HAppend.hAppend va_W va_W va_W _ (xW h0 nw sp xa la lb) (@HAppend.hAppend va_W va_W va_W _ (rcV X nw an sv dv n0 n1 n2 n3 n4 g0 gs gn gm) (@HAppend.hAppend va_W va_W va_W _ (rnV (xa 8) ag dg) ([((xa 5), .inl (X.2.1, 3, .inl fr))])))) sz) s (@HAppend.hAppend va_W va_W va_W _ (xW h0 nw sp xa la lb) (@HAppend.hAppend va_W va_W va_W _ (rcV X nw an sv dv n0 n1 n2 n3 n4 g0 gs gn gm) (@HAppend.hAppend va_W va_W va_W _ (rnV (xa 8) ag dg) ([((xa 5), .inl (X.2.1, 3, .inl fr))])))) H locs := G
            exact join_41 r_90 _ _ _  G hl
          · refine k_it (v := 4) (by rw [q_86]; rfl) ?_
            refine r_aald (C := RX8) (b := (an 5)) S G 2 3 rfl rfl (k_vp (by decide)) rfl dX10_beats_41 ?_
            refine o_ri (cells' := 0) (slots' := 0) G rfl rfl (n_V (As := []) (rest := []) (C := RX8) (T := TX8) (N := 8) (ci := 6) S G (s_isHome l X (an 5) (fun k => sv (12 + k)) (fun k => dv (30 + k)) H.size) gX10_beats_X8_isHome rfl rfl rfl hdV_X8_isHome ⟨Nat.le_of_ble_eq_true rfl, Nat.le_of_ble_eq_true rfl⟩ [7] rfl rfl 7 rfl rfl rfl hl.1 (Nat.le_of_ble_eq_true rfl) dX10_beats_42 ⟨Nat.le_of_ble_eq_true rfl, Nat.le_of_ble_eq_true rfl⟩) (fun r_91 u_91 H locs hp_91 G => ?_)
            have G : wd X (va_A (@HAppend.hAppend va_W va_W va_W _ (xW h0 nw sp xa la lb) (@HAppend.hAppend va_W va_W va_W _ (rcV X nw an sv dv n0 n1 n2 n3 n4 g0 gs gn gm) (@HAppend.hAppend va_W va_W va_W _ (rnV (xa 8) ag dg) ([((xa 5), .inl (X.2.1, 3, .inl fr))])))) sz) (va_A (@HAppend.hAppend va_W va_W va_W _ (xW h0 nw sp xa la lb) (@HAppend.hAppend va_W va_W va_W _ (rcV X nw an sv dv n0 n1 n2 n3 n4 g0 gs gn gm) (@HAppend.hAppend va_W va_W va_W _ (rnV (xa 8) ag dg) ([((xa 5), .inl (X.2.1, 3, .inl fr))])))) sz) s (@HAppend.hAppend va_W va_W va_W _ (xW h0 nw sp xa la lb) (@HAppend.hAppend va_W va_W va_W _ (rcV X nw an sv dv n0 n1 n2 n3 n4 g0 gs gn gm) (@HAppend.hAppend va_W va_W va_W _ (rnV (xa 8) ag dg) ([((xa 5), .inl (X.2.1, 3, .inl fr))])))) H locs := G
            exact join_41 r_91 _ _ _  G hl
          · refine k_it (v := 5) (by rw [q_86]; rfl) ?_
            refine r_aald (C := RX8) (b := (an 6)) S G 2 3 rfl rfl (k_vp (by decide)) rfl dX10_beats_41 ?_
            refine o_ri (cells' := 0) (slots' := 0) G rfl rfl (n_V (As := []) (rest := []) (C := RX8) (T := TX8) (N := 8) (ci := 6) S G (s_isHome l X (an 6) (fun k => sv (15 + k)) (fun k => dv (35 + k)) H.size) gX10_beats_X8_isHome rfl rfl rfl hdV_X8_isHome ⟨Nat.le_of_ble_eq_true rfl, Nat.le_of_ble_eq_true rfl⟩ [8] rfl rfl 8 rfl rfl rfl hl.1 (Nat.le_of_ble_eq_true rfl) dX10_beats_42 ⟨Nat.le_of_ble_eq_true rfl, Nat.le_of_ble_eq_true rfl⟩) (fun r_92 u_92 H locs hp_92 G => ?_)
            have G : wd X (va_A (@HAppend.hAppend va_W va_W va_W _ (xW h0 nw sp xa la lb) (@HAppend.hAppend va_W va_W va_W _ (rcV X nw an sv dv n0 n1 n2 n3 n4 g0 gs gn gm) (@HAppend.hAppend va_W va_W va_W _ (rnV (xa 8) ag dg) ([((xa 5), .inl (X.2.1, 3, .inl fr))])))) sz) (va_A (@HAppend.hAppend va_W va_W va_W _ (xW h0 nw sp xa la lb) (@HAppend.hAppend va_W va_W va_W _ (rcV X nw an sv dv n0 n1 n2 n3 n4 g0 gs gn gm) (@HAppend.hAppend va_W va_W va_W _ (rnV (xa 8) ag dg) ([((xa 5), .inl (X.2.1, 3, .inl fr))])))) sz) s (@HAppend.hAppend va_W va_W va_W _ (xW h0 nw sp xa la lb) (@HAppend.hAppend va_W va_W va_W _ (rcV X nw an sv dv n0 n1 n2 n3 n4 g0 gs gn gm) (@HAppend.hAppend va_W va_W va_W _ (rnV (xa 8) ag dg) ([((xa 5), .inl (X.2.1, 3, .inl fr))])))) H locs := G
            exact join_41 r_92 _ _ _  G hl
        · intro x_85 H locs ls  G hl
          refine lv_if_eq (tgt := 50) zx zb dX10_beats_45 (by decide) (fun c_93 => ?_) (fun c_93 => ?_)
          · refine lv_aload_n zx zb dX10_beats_50 rfl (lv_at hl 1 rfl) ?_
            refine lv_iload_n zx zb dX10_beats_51 rfl (lv_at hl 3 rfl) ?_
            refine lv_bipush (v := 60) zx zb dX10_beats_52 (by decide) ?_
            refine b_wi (cells' := 0) (slots' := 0) (wr := [((xa 5), .inl (X.2.1, 3, .inl fr))]) G rfl rfl [0, 1, 2, 3, 4, 5, 6, 7, 8, 9, 10, 11, 12, 13, 14, 15, 16, 17] [18] rfl rfl rfl rfl (n_V (As := [.int (nI i_1), .int 60]) (rest := []) (C := RX10) (T := TX10) (N := 14) (ci := 8) S G (s_homeBehind l X h0 nw sp xa la lb an sv dv n0 n1 n2 n3 n4 g0 gs gn gm ag dg i_1 60 hI_n0 hI_n1 hI_n2 hI_n3 hI_n4 (by omega) (by first | decide | assumption | exact k_60a (by assumption)) H.size) gX10_beats_X10_homeBehind rfl rfl rfl hdV_X10_homeBehind ⟨Nat.le_of_ble_eq_true rfl, Nat.le_of_ble_eq_true rfl⟩ [0, 1, 2, 3, 4, 5, 6, 7, 8, 9, 10, 11, 12, 13, 14, 15, 16, 17] rfl rfl 0 rfl rfl rfl hl.1 (Nat.le_of_ble_eq_true rfl) dX10_beats_54 ⟨Nat.le_of_ble_eq_true rfl, Nat.le_of_ble_eq_true rfl⟩) (fun r_94 u_94 H locs hp_94 G => ?_)
            obtain ⟨a_94a, d_94b⟩ := u_94
            have hq_94 := hp_94
            have G : wd X (va_A (@HAppend.hAppend va_W va_W va_W _ (xW h0 nw sp xa la lb) (@HAppend.hAppend va_W va_W va_W _ (rcV X nw an sv dv n0 n1 n2 n3 n4 g0 gs gn gm) (@HAppend.hAppend va_W va_W va_W _ (rnV (xa 8) ag dg) ([((xa 5), .inl (X.2.1, 3, .inl fr))])))) sz) (va_A (@HAppend.hAppend va_W va_W va_W _ (xW h0 nw sp xa la lb) (@HAppend.hAppend va_W va_W va_W _ (rcV X nw an sv dv n0 n1 n2 n3 n4 g0 gs gn gm) (@HAppend.hAppend va_W va_W va_W _ (rnV (xa 8) ag dg) ([((xa 5), .inl (X.2.1, 3, .inl fr))])))) sz) s (@HAppend.hAppend va_W va_W va_W _ ([((xa 5), .inl (X.2.1, 3, .inl fr))]) (@HAppend.hAppend va_W va_W va_W _ (xW h0 nw sp xa la lb) (@HAppend.hAppend va_W va_W va_W _ (rcV X nw an sv dv n0 n1 n2 n3 n4 g0 gs gn gm) (rnV (xa 8) a_94a d_94b)))) H locs := G
            refine lv_istore (lv' := [(4, .int r_94), (3, .ref (an 5)), (0, .ref h0), (1, .int 4), (2, .int (nI i_1))]) zx zb dX10_beats_57 hl (by decide) rfl (fun ls hl => ?_)
            refine lv_iload zx zb dX10_beats_59 (lv_at hl 0 rfl) ?_
            refine lv_iconst (v := (-1)) zx zb dX10_beats_61 (by decide) ?_
            refine k_cutW (PP := fun Wx => ∀ (x_96 : Int32) (H : Heap) (locs : List Loc) (ls : Array Slot), (x_96 ≤ 60) → wd X (va_A (@HAppend.hAppend va_W va_W va_W _ (xW h0 nw sp xa la lb) (@HAppend.hAppend va_W va_W va_W _ (rcV X nw an sv dv n0 n1 n2 n3 n4 g0 gs gn gm) (@HAppend.hAppend va_W va_W va_W _ (rnV (xa 8) ag dg) ([((xa 5), .inl (X.2.1, 3, .inl fr))])))) sz) (va_A (@HAppend.hAppend va_W va_W va_W _ (xW h0 nw sp xa la lb) (@HAppend.hAppend va_W va_W va_W _ (rcV X nw an sv dv n0 n1 n2 n3 n4 g0 gs gn gm) (@HAppend.hAppend va_W va_W va_W _ (rnV (xa 8) ag dg) ([((xa 5), .inl (X.2.1, 3, .inl fr))])))) sz) s (@HAppend.hAppend va_W va_W va_W _ ([((xa 5), .inl (X.2.1, 3, .inl fr))]) (@HAppend.hAppend va_W va_W va_W _ (xW h0 nw sp xa la lb) (@HAppend.hAppend va_W va_W va_W _ (rcV X nw an sv dv n0 n1 n2 n3 n4 g0 gs gn gm) (rnV (xa 8) a_94a d_94b)))) H locs → lv_has ls 7 [(4, .int r_94), (3, .ref (an 5)), (0, .ref h0), (1, .int 4), (2, .int (nI i_1))] → Wx (F0 m 74 ls [.int x_96]) H locs) ?_ ?_
            · intro join_62
              refine lv_icmp_ne (tgt := 70) zx zb dX10_beats_62 (by decide) (fun c_95 => ?_) (fun c_95 => ?_)
              · refine lv_iload zx zb dX10_beats_70 (lv_at hl 0 rfl) ?_
                refine lv_iconst (v := 1) zx zb dX10_beats_72 (by decide) ?_
                refine r_isub (v := (r_94 - 1)) S rfl dX10_beats_73 ?_
                exact join_62 (r_94 - 1) _ _ _ (by first | assumption | decide | exact k_m60 (by assumption)) G hl
              · refine lv_bipush (v := 60) zx zb dX10_beats_65 (by decide) ?_
                refine lv_goto (tgt := 74) zx zb dX10_beats_67 (by decide) ?_
                exact join_62 60 _ _ _ (by first | assumption | decide | exact k_m60 (by assumption)) G hl
            · intro x_96 H locs ls hk_x_96 G hl
              refine lv_istore (lv' := [(5, .int x_96), (4, .int r_94), (3, .ref (an 5)), (0, .ref h0), (1, .int 4), (2, .int (nI i_1))]) zx zb dX10_beats_74 hl (by decide) rfl (fun ls hl => ?_)
              refine lv_iconst (v := 0) zx zb dX10_beats_76 (by decide) ?_
              refine lv_istore (lv' := [(6, .int 0), (5, .int x_96), (4, .int r_94), (3, .ref (an 5)), (0, .ref h0), (1, .int 4), (2, .int (nI i_1))]) zx zb dX10_beats_77 hl (by decide) rfl (fun ls hl => ?_)
              refine k_loop (P := ∀ (zm : Nat) (k79 : Nat) (a79_3 : Nat → Int32) (d79_3 : Nat → Int32) (H : Heap) (locs : List Loc) (ls : Array Slot), 31 + 1 ≤ k79 + zm → (k79 ≤ 31) → wd X (va_A (@HAppend.hAppend va_W va_W va_W _ (xW h0 nw sp xa la lb) (@HAppend.hAppend va_W va_W va_W _ (rcV X nw an sv dv n0 n1 n2 n3 n4 g0 gs gn gm) (@HAppend.hAppend va_W va_W va_W _ (rnV (xa 8) ag dg) ([((xa 5), .inl (X.2.1, 3, .inl fr))])))) sz) (va_A (@HAppend.hAppend va_W va_W va_W _ (xW h0 nw sp xa la lb) (@HAppend.hAppend va_W va_W va_W _ (rcV X nw an sv dv n0 n1 n2 n3 n4 g0 gs gn gm) (@HAppend.hAppend va_W va_W va_W _ (rnV (xa 8) ag dg) ([((xa 5), .inl (X.2.1, 3, .inl fr))])))) sz) s (@HAppend.hAppend va_W va_W va_W _ ([((xa 5), .inl (X.2.1, 3, .inl fr))]) (@HAppend.hAppend va_W va_W va_W _ (xW h0 nw sp xa la lb) (@HAppend.hAppend va_W va_W va_W _ (rcV X nw an sv dv n0 n1 n2 n3 n4 g0 gs gn gm) (rnV (xa 8) a79_3 d79_3)))) H locs → lv_has ls 7 [(6, .int (nI k79)), (5, .int x_96), (4, .int r_94), (3, .ref (an 5)), (0, .ref h0), (1, .int 4), (2, .int (nI i_1))] → W p l e _ s m _ below meth c H locs _ _ _ (F0 m 79 ls [])) (fun loop => loop (31 + 1) 0 a_94a d_94b _ _ _ (by omega) (by omega) G hl) ?_
              intro zm
              induction zm with
              | zero => intro k79 a79_3 d79_3 H locs ls zz q_hk_k79 _ _; exact absurd zz (by omega)
              | succ zm ih79 =>
                intro k79 a79_3 d79_3 H locs ls zm_79 hk_k79 G hl
                refine lv_iload zx zb dX10_beats_79 (lv_at hl 0 rfl) ?_
                refine lv_bipush (v := 30) zx zb dX10_beats_81 (by decide) ?_
                refine lv_icmp_gt (tgt := 161) zx zb dX10_beats_83 (by decide) (fun c_97 => ?_) (fun c_97 => ?_)
                · have fc_97 := j_lt (a := 30) (b := k79) (by omega) (by omega) c_97
                  refine lv_iconst (v := (-1)) zx zb dX10_beats_161 (by decide) ?_
                  exact e_int S zr zlk (vp_nar_int _) G (a79_3, d79_3, fr) [1, 2, 3, 4, 5, 6, 7, 8, 9, 10, 11, 12, 13, 14, 15, 16, 17, 18, 0] rfl rfl (Or.inr rfl) (trivial) dX10_beats_162
                · have fc_97 := j_nlt (a := 30) (b := k79) (by omega) (by omega) c_97
                  refine lv_aload_n zx zb dX10_beats_86 rfl (lv_at hl 3 rfl) ?_
                  refine r_get (C := RX8) (T := TX8) (N := 8) (ci := 6) (v := .int (dv 31)) S in_X10_beats_X8 G 8 rfl rfl 4 (by decide) lk_X10_beats_137 rfl dX10_beats_87 ?_
                  refine lv_iload zx zb dX10_beats_90 (lv_at hl 0 rfl) ?_
                  refine r_iadd (v := ((dv 31) + (nI k79))) S rfl dX10_beats_92 ?_
                  refine lv_aload_n zx zb dX10_beats_93 rfl (lv_at hl 4 rfl) ?_
                  refine r_get (C := RX10) (T := TX10) (N := 14) (ci := 8) (v := .ref nw) S in_X10_beats_X10 G 1 rfl rfl 0 (by decide) lk_X10_beats_10 rfl dX10_beats_94 ?_
                  refine r_get (C := RX5) (T := TX5) (N := 8) (ci := 3) (v := .int (dv 0)) S in_X10_beats_X5 G 2 rfl rfl 0 (by decide) lk_X10_beats_140 rfl dX10_beats_97 ?_
                  refine lv_icmp_ge (tgt := 161) zx zb dX10_beats_100 (by decide) (fun c_98 => ?_) (fun c_98 => ?_)
                  · refine lv_iconst (v := (-1)) zx zb dX10_beats_161 (by decide) ?_
                    exact e_int S zr zlk (vp_nar_int _) G (a79_3, d79_3, fr) [1, 2, 3, 4, 5, 6, 7, 8, 9, 10, 11, 12, 13, 14, 15, 16, 17, 18, 0] rfl rfl (Or.inr rfl) (trivial) dX10_beats_162
                  · refine lv_aload_n zx zb dX10_beats_103 rfl (lv_at hl 4 rfl) ?_
                    refine r_get (C := RX10) (T := TX10) (N := 14) (ci := 8) (v := .ref (xa 8)) S in_X10_beats_X10 G 1 rfl rfl 8 (by decide) lk_X10_beats_48 rfl dX10_beats_104 ?_
                    refine lv_aload_n zx zb dX10_beats_107 rfl (lv_at hl 3 rfl) ?_
                    refine b_wv (cells' := 0) (slots' := 0) (wr := @HAppend.hAppend va_W va_W va_W _ ([((xa 5), .inl (X.2.1, 3, .inl fr))]) (@HAppend.hAppend va_W va_W va_W _ (xW h0 nw sp xa la lb) ([(nw, .inr (3, [.int (dv 0), .int (dv 1), .int (nI n0), .ref (an 0), .ref (an 7), .ref (an 9), .ref (an 11), .ref (an 13)])), ((an 0), .inl (X.2.2.2.2, 6, .inr (.inr (.inr (.inr (rowQ an)))))), ((an 1), .inr (6, [.int (sv 0), .int (sv 1), .int (sv 2), .int (dv 10), .int (dv 11), .int (dv 12), .int (dv 13), .int (dv 14)])), ((an 2), .inr (6, [.int (sv 3), .int (sv 4), .int (sv 5), .int (dv 15), .int (dv 16), .int (dv 17), .int (dv 18), .int (dv 19)])), ((an 3), .inr (6, [.int (sv 6), .int (sv 7), .int (sv 8), .int (dv 20), .int (dv 21), .int (dv 22), .int (dv 23), .int (dv 24)])), ((an 4), .inr (6, [.int (sv 9), .int (sv 10), .int (sv 11), .int (dv 25), .int (dv 26), .int (dv 27), .int (dv 28), .int (dv 29)])), ((an 6), .inr (6, [.int (sv 15), .int (sv 16), .int (sv 17), .int (dv 35), .int (dv 36), .int (dv 37), .int (dv 38), .int (dv 39)])), ((an 7), .inr (2, [.ref (an 8), .int (nI n1)])), ((an 8), .inl (X.2.1, 248, .inl g0)), ((an 9), .inr (5, [.int 5, .int 0, .int 1, .ref (an 10), .int (nI n2)])), ((an 10), .inl (X.2.1, 25, .inl gs)), ((an 11), .inr (5, [.int 6, .int 1, .int 1, .ref (an 12), .int (nI n3)])), ((an 12), .inl (X.2.1, 30, .inl gn)), ((an 13), .inr (5, [.int 6, .int 0, .int 0, .ref (an 14), .int (nI n4)])), ((an 14), .inl (X.2.1, 30, .inl gm))]))) G rfl rfl [18, 8] [0, 1, 2, 3, 4, 5, 6, 7, 9, 10, 11, 12, 13, 14, 15, 16, 17] rfl rfl rfl rfl (n_V (As := [.ref (an 5)]) (rest := []) (C := RX8) (T := TX8) (N := 8) (ci := 6) S G (s_rcopy l X (xa 8) a79_3 d79_3 (an 5) (fun k => sv (12 + k)) (fun k => dv (30 + k)) H.size) gX10_beats_X8_copyFrom rfl rfl rfl hdV_X8_copyFrom ⟨Nat.le_of_ble_eq_true rfl, Nat.le_of_ble_eq_true rfl⟩ [18, 8] rfl rfl 18 rfl rfl rfl hl.1 (Nat.le_of_ble_eq_true rfl) dX10_beats_108 ⟨Nat.le_of_ble_eq_true rfl, Nat.le_of_ble_eq_true rfl⟩) (fun u_99 H locs hp_99 G => ?_)
                    obtain ⟨a_99a, d_99b⟩ := u_99
                    have hq_99 := hp_99
                    have G : wd X (va_A (@HAppend.hAppend va_W va_W va_W _ (xW h0 nw sp xa la lb) (@HAppend.hAppend va_W va_W va_W _ (rcV X nw an sv dv n0 n1 n2 n3 n4 g0 gs gn gm) (@HAppend.hAppend va_W va_W va_W _ (rnV (xa 8) ag dg) ([((xa 5), .inl (X.2.1, 3, .inl fr))])))) sz) (va_A (@HAppend.hAppend va_W va_W va_W _ (xW h0 nw sp xa la lb) (@HAppend.hAppend va_W va_W va_W _ (rcV X nw an sv dv n0 n1 n2 n3 n4 g0 gs gn gm) (@HAppend.hAppend va_W va_W va_W _ (rnV (xa 8) ag dg) ([((xa 5), .inl (X.2.1, 3, .inl fr))])))) sz) s (@HAppend.hAppend va_W va_W va_W _ ([((xa 5), .inl (X.2.1, 3, .inl fr))]) (@HAppend.hAppend va_W va_W va_W _ (xW h0 nw sp xa la lb) (@HAppend.hAppend va_W va_W va_W _ (rcV X nw an sv dv n0 n1 n2 n3 n4 g0 gs gn gm) (rnV (xa 8) a_99a d_99b)))) H locs := wd_sub G [0, 1, 2, 3, 4, 5, 6, 7, 18, 8, 9, 10, 11, 12, 13, 14, 15, 16, 17] rfl rfl
                    refine lv_aload_n zx zb dX10_beats_111 rfl (lv_at hl 4 rfl) ?_
                    refine r_get (C := RX10) (T := TX10) (N := 14) (ci := 8) (v := .ref (xa 8)) S in_X10_beats_X10 G 1 rfl rfl 8 (by decide) lk_X10_beats_48 rfl dX10_beats_112 ?_
                    refine lv_dup zx zb dX10_beats_115 rfl ?_
                    refine r_get (C := RX8) (T := TX8) (N := 8) (ci := 6) (v := .int (d_99b 1)) S in_X10_beats_X8 G 18 rfl rfl 4 (by decide) lk_X10_beats_137 rfl dX10_beats_116 ?_
                    refine lv_iload zx zb dX10_beats_119 (lv_at hl 0 rfl) ?_
                    refine r_iadd (v := ((d_99b 1) + (nI k79))) S rfl dX10_beats_121 ?_
                    refine r_put (C := RX8) (T := TX8) (N := 8) (ci := 6) (v := .int ((d_99b 1) + (nI k79))) S in_X10_beats_X8 tyX8_ok nmX8 G 18 rfl rfl 4 (by decide) lk_X10_beats_137 rfl (vp_nar_int _) rfl (Nat.le_of_ble_eq_true rfl) dX10_beats_122 (fun H locs G => ?_)
                    obtain ⟨d_100, G⟩ : ∃ d_100 : Nat → Int32, wd X (va_A (@HAppend.hAppend va_W va_W va_W _ (xW h0 nw sp xa la lb) (@HAppend.hAppend va_W va_W va_W _ (rcV X nw an sv dv n0 n1 n2 n3 n4 g0 gs gn gm) (@HAppend.hAppend va_W va_W va_W _ (rnV (xa 8) ag dg) ([((xa 5), .inl (X.2.1, 3, .inl fr))])))) sz) (va_A (@HAppend.hAppend va_W va_W va_W _ (xW h0 nw sp xa la lb) (@HAppend.hAppend va_W va_W va_W _ (rcV X nw an sv dv n0 n1 n2 n3 n4 g0 gs gn gm) (@HAppend.hAppend va_W va_W va_W _ (rnV (xa 8) ag dg) ([((xa 5), .inl (X.2.1, 3, .inl fr))])))) sz) s (@HAppend.hAppend va_W va_W va_W _ ([((xa 5), .inl (X.2.1, 3, .inl fr))]) (@HAppend.hAppend va_W va_W va_W _ (xW h0 nw sp xa la lb) (@HAppend.hAppend va_W va_W va_W _ (rcV X nw an sv dv n0 n1 n2 n3 n4 g0 gs gn gm) (rnV (xa 8) a_99a d_100)))) H locs := ⟨upd d_99b 1 ((d_99b 1) + (nI k79)), G⟩
                    refine lv_aload_n zx zb dX10_beats_125 rfl (lv_at hl 4 rfl) ?_
                    refine r_get (C := RX10) (T := TX10) (N := 14) (ci := 8) (v := .ref (xa 8)) S in_X10_beats_X10 G 1 rfl rfl 8 (by decide) lk_X10_beats_48 rfl dX10_beats_126 ?_
                    refine lv_aload_n zx zb dX10_beats_129 rfl (lv_at hl 4 rfl) ?_
                    refine r_get (C := RX10) (T := TX10) (N := 14) (ci := 8) (v := .ref nw) S in_X10_beats_X10 G 1 rfl rfl 0 (by decide) lk_X10_beats_10 rfl dX10_beats_130 ?_
                    refine r_get (C := RX5) (T := TX5) (N := 8) (ci := 3) (v := .int (dv 1)) S in_X10_beats_X5 G 2 rfl rfl 1 (by decide) lk_X10_beats_110 rfl dX10_beats_133 ?_
                    refine lv_aload_n zx zb dX10_beats_136 rfl (lv_at hl 4 rfl) ?_
                    refine r_get (C := RX10) (T := TX10) (N := 14) (ci := 8) (v := .ref nw) S in_X10_beats_X10 G 1 rfl rfl 0 (by decide) lk_X10_beats_10 rfl dX10_beats_137 ?_
                    refine r_get (C := RX5) (T := TX5) (N := 8) (ci := 3) (v := .int (dv 0)) S in_X10_beats_X5 G 2 rfl rfl 0 (by decide) lk_X10_beats_140 rfl dX10_beats_140 ?_
                    refine lv_iload zx zb dX10_beats_143 (lv_at hl 1 rfl) ?_
                    refine b_wi (cells' := 0) (slots' := 0) (wr := @HAppend.hAppend va_W va_W va_W _ ([((xa 5), .inl (X.2.1, 3, .inl fr))]) (@HAppend.hAppend va_W va_W va_W _ (xW h0 nw sp xa la lb) (rcV X nw an sv dv n0 n1 n2 n3 n4 g0 gs gn gm))) G rfl rfl [18] [0, 1, 2, 3, 4, 5, 6, 7, 8, 9, 10, 11, 12, 13, 14, 15, 16, 17] rfl rfl rfl rfl (n_V (As := [.int (dv 1), .int (dv 0), .int x_96]) (rest := []) (C := RX8) (T := TX8) (N := 8) (ci := 6) S G (s_ticksToHome l X (xa 8) a_99a d_100 (dv 1) (dv 0) x_96 (by first | decide | assumption | exact k_60a (by assumption)) H.size) gX10_beats_X8_ticksToHome rfl rfl rfl hdV_X8_ticksToHome ⟨Nat.le_of_ble_eq_true rfl, Nat.le_of_ble_eq_true rfl⟩ [18] rfl rfl 18 rfl rfl rfl hl.1 (Nat.le_of_ble_eq_true rfl) dX10_beats_145 ⟨Nat.le_of_ble_eq_true rfl, Nat.le_of_ble_eq_true rfl⟩) (fun r_101 u_101 H locs hp_101 G => ?_)
                    obtain ⟨d_101, rfl⟩ : ∃ z, z = u_101 := ⟨_, rfl⟩
                    have hq_101 := hp_101
                    obtain ⟨hq_101, hs_101⟩ := hq_101
                    have G : wd X (va_A (@HAppend.hAppend va_W va_W va_W _ (xW h0 nw sp xa la lb) (@HAppend.hAppend va_W va_W va_W _ (rcV X nw an sv dv n0 n1 n2 n3 n4 g0 gs gn gm) (@HAppend.hAppend va_W va_W va_W _ (rnV (xa 8) ag dg) ([((xa 5), .inl (X.2.1, 3, .inl fr))])))) sz) (va_A (@HAppend.hAppend va_W va_W va_W _ (xW h0 nw sp xa la lb) (@HAppend.hAppend va_W va_W va_W _ (rcV X nw an sv dv n0 n1 n2 n3 n4 g0 gs gn gm) (@HAppend.hAppend va_W va_W va_W _ (rnV (xa 8) ag dg) ([((xa 5), .inl (X.2.1, 3, .inl fr))])))) sz) s (@HAppend.hAppend va_W va_W va_W _ ([((xa 5), .inl (X.2.1, 3, .inl fr))]) (@HAppend.hAppend va_W va_W va_W _ (xW h0 nw sp xa la lb) (@HAppend.hAppend va_W va_W va_W _ (rcV X nw an sv dv n0 n1 n2 n3 n4 g0 gs gn gm) (rnV (xa 8) a_99a d_101)))) H locs := G
                    refine lv_iconst (v := (-1)) zx zb dX10_beats_148 (by decide) ?_
                    refine lv_icmp_eq (tgt := 155) zx zb dX10_beats_149 (by decide) (fun c_102 => ?_) (fun c_102 => ?_)
                    · refine lv_iinc (v := (nI (k79 + 1))) (lv' := [(6, .int (nI (k79 + 1))), (5, .int x_96), (4, .int r_94), (3, .ref (an 5)), (0, .ref h0), (1, .int 4), (2, .int (nI i_1))]) zx zb dX10_beats_155 hl (k := 0) rfl (nI_add k79 1) (by decide) rfl (fun ls hl => ?_)
                      refine lv_goto (tgt := 79) zx zb dX10_beats_158 (by decide) ?_
                      exact ih79 (k79 + 1) a_99a d_101 _ _ _ (by omega) (by omega) G hl
                    · refine lv_iload zx zb dX10_beats_152 (lv_at hl 0 rfl) ?_
                      exact e_int S zr zlk (vp_nar_int _) G (a_99a, d_101, fr) [1, 2, 3, 4, 5, 6, 7, 8, 9, 10, 11, 12, 13, 14, 15, 16, 17, 18, 0] rfl rfl (Or.inr rfl) (trivial) dX10_beats_154
          · refine lv_iconst (v := (-1)) zx zb dX10_beats_48 (by decide) ?_
            exact e_int S zr zlk (vp_nar_int _) G (ag, dg, fr) [0, 1, 2, 3, 4, 5, 6, 7, 8, 9, 10, 11, 12, 13, 14, 15, 16, 17, 18] rfl rfl (Or.inr rfl) (trivial) dX10_beats_49
    · refine k_it (v := 5) rfl ?_
      refine r_aald (C := RX8) (b := (an 6)) S G 2 3 rfl rfl (k_vp (by decide)) rfl dX10_beats_24 ?_
      refine lv_astore_n (lv' := [(3, .ref (an 6)), (0, .ref h0), (1, .int 5), (2, .int (nI i_1))]) zx zb dX10_beats_25 rfl hl (by decide) rfl (fun ls hl => ?_)
      refine lv_aload_n zx zb dX10_beats_26 rfl (lv_at hl 0 rfl) ?_
      refine o_ri (cells' := 0) (slots' := 0) G rfl rfl (n_V (As := []) (rest := []) (C := RX8) (T := TX8) (N := 8) (ci := 6) S G (s_isHome l X (an 6) (fun k => sv (15 + k)) (fun k => dv (35 + k)) H.size) gX10_beats_X8_isHome rfl rfl rfl hdV_X8_isHome ⟨Nat.le_of_ble_eq_true rfl, Nat.le_of_ble_eq_true rfl⟩ [8] rfl rfl 8 rfl rfl rfl hl.1 (Nat.le_of_ble_eq_true rfl) dX10_beats_27 ⟨Nat.le_of_ble_eq_true rfl, Nat.le_of_ble_eq_true rfl⟩) (fun r_103 u_103 H locs hp_103 G => ?_)
      have G : wd X (va_A (@HAppend.hAppend va_W va_W va_W _ (xW h0 nw sp xa la lb) (@HAppend.hAppend va_W va_W va_W _ (rcV X nw an sv dv n0 n1 n2 n3 n4 g0 gs gn gm) (@HAppend.hAppend va_W va_W va_W _ (rnV (xa 8) ag dg) ([((xa 5), .inl (X.2.1, 3, .inl fr))])))) sz) (va_A (@HAppend.hAppend va_W va_W va_W _ (xW h0 nw sp xa la lb) (@HAppend.hAppend va_W va_W va_W _ (rcV X nw an sv dv n0 n1 n2 n3 n4 g0 gs gn gm) (@HAppend.hAppend va_W va_W va_W _ (rnV (xa 8) ag dg) ([((xa 5), .inl (X.2.1, 3, .inl fr))])))) sz) s (@HAppend.hAppend va_W va_W va_W _ (xW h0 nw sp xa la lb) (@HAppend.hAppend va_W va_W va_W _ (rcV X nw an sv dv n0 n1 n2 n3 n4 g0 gs gn gm) (@HAppend.hAppend va_W va_W va_W _ (rnV (xa 8) ag dg) ([((xa 5), .inl (X.2.1, 3, .inl fr))])))) H locs := G
      refine lv_if_ne (tgt := 48) zx zb dX10_beats_30 (by decide) (fun c_104 => ?_) (fun c_104 => ?_)
      · refine lv_iconst (v := (-1)) zx zb dX10_beats_48 (by decide) ?_
        exact e_int S zr zlk (vp_nar_int _) G (ag, dg, fr) [0, 1, 2, 3, 4, 5, 6, 7, 8, 9, 10, 11, 12, 13, 14, 15, 16, 17, 18] rfl rfl (Or.inr rfl) (trivial) dX10_beats_49
      · refine lv_aload_n zx zb dX10_beats_33 rfl (lv_at hl 1 rfl) ?_
        refine r_get (C := RX10) (T := TX10) (N := 14) (ci := 8) (v := .ref nw) S in_X10_beats_X10 G 0 rfl rfl 0 (by decide) lk_X10_beats_10 rfl dX10_beats_34 ?_
        refine r_get (C := RX5) (T := TX5) (N := 8) (ci := 3) (v := .ref (an 0)) S in_X10_beats_X5 G 1 rfl rfl 3 (by decide) lk_X10_beats_126 rfl dX10_beats_37 ?_
        refine lv_iload_n zx zb dX10_beats_40 rfl (lv_at hl 3 rfl) ?_
        refine k_cutW (PP := fun Wx => ∀ (x_105 : Int32) (H : Heap) (locs : List Loc) (ls : Array Slot), wd X (va_A (@HAppend.hAppend va_W va_W va_W _ (xW h0 nw sp xa la lb) (@HAppend.hAppend va_W va_W va_W _ (rcV X nw an sv dv n0 n1 n2 n3 n4 g0 gs gn gm) (@HAppend.hAppend va_W va_W va_W _ (rnV (xa 8) ag dg) ([((xa 5), .inl (X.2.1, 3, .inl fr))])))) sz) (va_A (@HAppend.hAppend va_W va_W va_W _ (xW h0 nw sp xa la lb) (@HAppend.hAppend va_W va_W va_W _ (rcV X nw an sv dv n0 n1 n2 n3 n4 g0 gs gn gm) (@HAppend.hAppend va_W va_W va_W _ (rnV (xa 8) ag dg) ([((xa 5), .inl (X.2.1, 3, .inl fr))])))) sz) s (@HAppend.hAppend va_W va_W va_W _ (xW h0 nw sp xa la lb) (@HAppend.hAppend va_W va_W va_W _ (rcV X nw an sv dv n0 n1 n2 n3 n4 g0 gs gn gm) (@HAppend.hAppend va_W va_W va_W _ (rnV (xa 8) ag dg) ([((xa 5), .inl (X.2.1, 3, .inl fr))])))) H locs → lv_has ls 7 [(3, .ref (an 6)), (0, .ref h0), (1, .int 5), (2, .int (nI i_1))] → Wx (F0 m 45 ls [.int x_105]) H locs) ?_ ?_
        · intro join_41
          rcases k_6c (show i_1 < 6 by omega) with q_106 | q_106 | q_106 | q_106 | q_106 | q_106
          · refine k_it (v := 0) (by rw [q_106]; rfl) ?_
            refine r_aald (C := RX8) (b := (an 1)) S G 2 3 rfl rfl (k_vp (by decide)) rfl dX10_beats_41 ?_
            refine o_ri (cells' := 0) (slots' := 0) G rfl rfl (n_V (As := []) (rest := []) (C := RX8) (T := TX8) (N := 8) (ci := 6) S G (s_isHome l X (an 1) (fun k => sv (0 + k)) (fun k => dv (10 + k)) H.size) gX10_beats_X8_isHome rfl rfl rfl hdV_X8_isHome ⟨Nat.le_of_ble_eq_true rfl, Nat.le_of_ble_eq_true rfl⟩ [3] rfl rfl 3 rfl rfl rfl hl.1 (Nat.le_of_ble_eq_true rfl) dX10_beats_42 ⟨Nat.le_of_ble_eq_true rfl, Nat.le_of_ble_eq_true rfl⟩) (fun r_107 u_107 H locs hp_107 G => ?_)
            have G : wd X (va_A (@HAppend.hAppend va_W va_W va_W _ (xW h0 nw sp xa la lb) (@HAppend.hAppend va_W va_W va_W _ (rcV X nw an sv dv n0 n1 n2 n3 n4 g0 gs gn gm) (@HAppend.hAppend va_W va_W va_W _ (rnV (xa 8) ag dg) ([((xa 5), .inl (X.2.1, 3, .inl fr))])))) sz) (va_A (@HAppend.hAppend va_W va_W va_W _ (xW h0 nw sp xa la lb) (@HAppend.hAppend va_W va_W va_W _ (rcV X nw an sv dv n0 n1 n2 n3 n4 g0 gs gn gm) (@HAppend.hAppend va_W va_W va_W _ (rnV (xa 8) ag dg) ([((xa 5), .inl (X.2.1, 3, .inl fr))])))) sz) s (@HAppend.hAppend va_W va_W va_W _ (xW h0 nw sp xa la lb) (@HAppend.hAppend va_W va_W va_W _ (rcV X nw an sv dv n0 n1 n2 n3 n4 g0 gs gn gm) (@HAppend.hAppend va_W va_W va_W _ (rnV (xa 8) ag dg) ([((xa 5), .inl (X.2.1, 3, .inl fr))])))) H locs := G
            exact join_41 r_107 _ _ _  G hl
          · refine k_it (v := 1) (by rw [q_106]; rfl) ?_
            refine r_aald (C := RX8) (b := (an 2)) S G 2 3 rfl rfl (k_vp (by decide)) rfl dX10_beats_41 ?_
            refine o_ri (cells' := 0) (slots' := 0) G rfl rfl (n_V (As := []) (rest := []) (C := RX8) (T := TX8) (N := 8) (ci := 6) S G (s_isHome l X (an 2) (fun k => sv (3 + k)) (fun k => dv (15 + k)) H.size) gX10_beats_X8_isHome rfl rfl rfl hdV_X8_isHome ⟨Nat.le_of_ble_eq_true rfl, Nat.le_of_ble_eq_true rfl⟩ [4] rfl rfl 4 rfl rfl rfl hl.1 (Nat.le_of_ble_eq_true rfl) dX10_beats_42 ⟨Nat.le_of_ble_eq_true rfl, Nat.le_of_ble_eq_true rfl⟩) (fun r_108 u_108 H locs hp_108 G => ?_)
            have G : wd X (va_A (@HAppend.hAppend va_W va_W va_W _ (xW h0 nw sp xa la lb) (@HAppend.hAppend va_W va_W va_W _ (rcV X nw an sv dv n0 n1 n2 n3 n4 g0 gs gn gm) (@HAppend.hAppend va_W va_W va_W _ (rnV (xa 8) ag dg) ([((xa 5), .inl (X.2.1, 3, .inl fr))])))) sz) (va_A (@HAppend.hAppend va_W va_W va_W _ (xW h0 nw sp xa la lb) (@HAppend.hAppend va_W va_W va_W _ (rcV X nw an sv dv n0 n1 n2 n3 n4 g0 gs gn gm) (@HAppend.hAppend va_W va_W va_W _ (rnV (xa 8) ag dg) ([((xa 5), .inl (X.2.1, 3, .inl fr))])))) sz) s (@HAppend.hAppend va_W va_W va_W _ (xW h0 nw sp xa la lb) (@HAppend.hAppend va_W va_W va_W _ (rcV X nw an sv dv n0 n1 n2 n3 n4 g0 gs gn gm) (@HAppend.hAppend va_W va_W va_W _ (rnV (xa 8) ag dg) ([((xa 5), .inl (X.2.1, 3, .inl fr))])))) H locs := G
            exact join_41 r_108 _ _ _  G hl
          · refine k_it (v := 2) (by rw [q_106]; rfl) ?_
            refine r_aald (C := RX8) (b := (an 3)) S G 2 3 rfl rfl (k_vp (by decide)) rfl dX10_beats_41 ?_
            refine o_ri (cells' := 0) (slots' := 0) G rfl rfl (n_V (As := []) (rest := []) (C := RX8) (T := TX8) (N := 8) (ci := 6) S G (s_isHome l X (an 3) (fun k => sv (6 + k)) (fun k => dv (20 + k)) H.size) gX10_beats_X8_isHome rfl rfl rfl hdV_X8_isHome ⟨Nat.le_of_ble_eq_true rfl, Nat.le_of_ble_eq_true rfl⟩ [5] rfl rfl 5 rfl rfl rfl hl.1 (Nat.le_of_ble_eq_true rfl) dX10_beats_42 ⟨Nat.le_of_ble_eq_true rfl, Nat.le_of_ble_eq_true rfl⟩) (fun r_109 u_109 H locs hp_109 G => ?_)
            have G : wd X (va_A (@HAppend.hAppend va_W va_W va_W _ (xW h0 nw sp xa la lb) (@HAppend.hAppend va_W va_W va_W _ (rcV X nw an sv dv n0 n1 n2 n3 n4 g0 gs gn gm) (@HAppend.hAppend va_W va_W va_W _ (rnV (xa 8) ag dg) ([((xa 5), .inl (X.2.1, 3, .inl fr))])))) sz) (va_A (@HAppend.hAppend va_W va_W va_W _ (xW h0 nw sp xa la lb) (@HAppend.hAppend va_W va_W va_W _ (rcV X nw an sv dv n0 n1 n2 n3 n4 g0 gs gn gm) (@HAppend.hAppend va_W va_W va_W _ (rnV (xa 8) ag dg) ([((xa 5), .inl (X.2.1, 3, .inl fr))])))) sz) s (@HAppend.hAppend va_W va_W va_W _ (xW h0 nw sp xa la lb) (@HAppend.hAppend va_W va_W va_W _ (rcV X nw an sv dv n0 n1 n2 n3 n4 g0 gs gn gm) (@HAppend.hAppend va_W va_W va_W _ (rnV (xa 8) ag dg) ([((xa 5), .inl (X.2.1, 3, .inl fr))])))) H locs := G
            exact join_41 r_109 _ _ _  G hl
          · refine k_it (v := 3) (by rw [q_106]; rfl) ?_
            refine r_aald (C := RX8) (b := (an 4)) S G 2 3 rfl rfl (k_vp (by decide)) rfl dX10_beats_41 ?_
            refine o_ri (cells' := 0) (slots' := 0) G rfl rfl (n_V (As := []) (rest := []) (C := RX8) (T := TX8) (N := 8) (ci := 6) S G (s_isHome l X (an 4) (fun k => sv (9 + k)) (fun k => dv (25 + k)) H.size) gX10_beats_X8_isHome rfl rfl rfl hdV_X8_isHome ⟨Nat.le_of_ble_eq_true rfl, Nat.le_of_ble_eq_true rfl⟩ [6] rfl rfl 6 rfl rfl rfl hl.1 (Nat.le_of_ble_eq_true rfl) dX10_beats_42 ⟨Nat.le_of_ble_eq_true rfl, Nat.le_of_ble_eq_true rfl⟩) (fun r_110 u_110 H locs hp_110 G => ?_)
            have G : wd X (va_A (@HAppend.hAppend va_W va_W va_W _ (xW h0 nw sp xa la lb) (@HAppend.hAppend va_W va_W va_W _ (rcV X nw an sv dv n0 n1 n2 n3 n4 g0 gs gn gm) (@HAppend.hAppend va_W va_W va_W _ (rnV (xa 8) ag dg) ([((xa 5), .inl (X.2.1, 3, .inl fr))])))) sz) (va_A (@HAppend.hAppend va_W va_W va_W _ (xW h0 nw sp xa la lb) (@HAppend.hAppend va_W va_W va_W _ (rcV X nw an sv dv n0 n1 n2 n3 n4 g0 gs gn gm) (@HAppend.hAppend va_W va_W va_W _ (rnV (xa 8) ag dg) ([((xa 5), .inl (X.2.1, 3, .inl fr))])))) sz) s (@HAppend.hAppend va_W va_W va_W _ (xW h0 nw sp xa la lb) (@HAppend.hAppend va_W va_W va_W _ (rcV X nw an sv dv n0 n1 n2 n3 n4 g0 gs gn gm) (@HAppend.hAppend va_W va_W va_W _ (rnV (xa 8) ag dg) ([((xa 5), .inl (X.2.1, 3, .inl fr))])))) H locs := G
            exact join_41 r_110 _ _ _  G hl
          · refine k_it (v := 4) (by rw [q_106]; rfl) ?_
            refine r_aald (C := RX8) (b := (an 5)) S G 2 3 rfl rfl (k_vp (by decide)) rfl dX10_beats_41 ?_
            refine o_ri (cells' := 0) (slots' := 0) G rfl rfl (n_V (As := []) (rest := []) (C := RX8) (T := TX8) (N := 8) (ci := 6) S G (s_isHome l X (an 5) (fun k => sv (12 + k)) (fun k => dv (30 + k)) H.size) gX10_beats_X8_isHome rfl rfl rfl hdV_X8_isHome ⟨Nat.le_of_ble_eq_true rfl, Nat.le_of_ble_eq_true rfl⟩ [7] rfl rfl 7 rfl rfl rfl hl.1 (Nat.le_of_ble_eq_true rfl) dX10_beats_42 ⟨Nat.le_of_ble_eq_true rfl, Nat.le_of_ble_eq_true rfl⟩) (fun r_111 u_111 H locs hp_111 G => ?_)
            have G : wd X (va_A (@HAppend.hAppend va_W va_W va_W _ (xW h0 nw sp xa la lb) (@HAppend.hAppend va_W va_W va_W _ (rcV X nw an sv dv n0 n1 n2 n3 n4 g0 gs gn gm) (@HAppend.hAppend va_W va_W va_W _ (rnV (xa 8) ag dg) ([((xa 5), .inl (X.2.1, 3, .inl fr))])))) sz) (va_A (@HAppend.hAppend va_W va_W va_W _ (xW h0 nw sp xa la lb) (@HAppend.hAppend va_W va_W va_W _ (rcV X nw an sv dv n0 n1 n2 n3 n4 g0 gs gn gm) (@HAppend.hAppend va_W va_W va_W _ (rnV (xa 8) ag dg) ([((xa 5), .inl (X.2.1, 3, .inl fr))])))) sz) s (@HAppend.hAppend va_W va_W va_W _ (xW h0 nw sp xa la lb) (@HAppend.hAppend va_W va_W va_W _ (rcV X nw an sv dv n0 n1 n2 n3 n4 g0 gs gn gm) (@HAppend.hAppend va_W va_W va_W _ (rnV (xa 8) ag dg) ([((xa 5), .inl (X.2.1, 3, .inl fr))])))) H locs := G
            exact join_41 r_111 _ _ _  G hl
          · refine k_it (v := 5) (by rw [q_106]; rfl) ?_
            refine r_aald (C := RX8) (b := (an 6)) S G 2 3 rfl rfl (k_vp (by decide)) rfl dX10_beats_41 ?_
            refine o_ri (cells' := 0) (slots' := 0) G rfl rfl (n_V (As := []) (rest := []) (C := RX8) (T := TX8) (N := 8) (ci := 6) S G (s_isHome l X (an 6) (fun k => sv (15 + k)) (fun k => dv (35 + k)) H.size) gX10_beats_X8_isHome rfl rfl rfl hdV_X8_isHome ⟨Nat.le_of_ble_eq_true rfl, Nat.le_of_ble_eq_true rfl⟩ [8] rfl rfl 8 rfl rfl rfl hl.1 (Nat.le_of_ble_eq_true rfl) dX10_beats_42 ⟨Nat.le_of_ble_eq_true rfl, Nat.le_of_ble_eq_true rfl⟩) (fun r_112 u_112 H locs hp_112 G => ?_)
            have G : wd X (va_A (@HAppend.hAppend va_W va_W va_W _ (xW h0 nw sp xa la lb) (@HAppend.hAppend va_W va_W va_W _ (rcV X nw an sv dv n0 n1 n2 n3 n4 g0 gs gn gm) (@HAppend.hAppend va_W va_W va_W _ (rnV (xa 8) ag dg) ([((xa 5), .inl (X.2.1, 3, .inl fr))])))) sz) (va_A (@HAppend.hAppend va_W va_W va_W _ (xW h0 nw sp xa la lb) (@HAppend.hAppend va_W va_W va_W _ (rcV X nw an sv dv n0 n1 n2 n3 n4 g0 gs gn gm) (@HAppend.hAppend va_W va_W va_W _ (rnV (xa 8) ag dg) ([((xa 5), .inl (X.2.1, 3, .inl fr))])))) sz) s (@HAppend.hAppend va_W va_W va_W _ (xW h0 nw sp xa la lb) (@HAppend.hAppend va_W va_W va_W _ (rcV X nw an sv dv n0 n1 n2 n3 n4 g0 gs gn gm) (@HAppend.hAppend va_W va_W va_W _ (rnV (xa 8) ag dg) ([((xa 5), .inl (X.2.1, 3, .inl fr))])))) H locs := G
            exact join_41 r_112 _ _ _  G hl
        · intro x_105 H locs ls  G hl
          refine lv_if_eq (tgt := 50) zx zb dX10_beats_45 (by decide) (fun c_113 => ?_) (fun c_113 => ?_)
          · refine lv_aload_n zx zb dX10_beats_50 rfl (lv_at hl 1 rfl) ?_
            refine lv_iload_n zx zb dX10_beats_51 rfl (lv_at hl 3 rfl) ?_
            refine lv_bipush (v := 60) zx zb dX10_beats_52 (by decide) ?_
            refine b_wi (cells' := 0) (slots' := 0) (wr := [((xa 5), .inl (X.2.1, 3, .inl fr))]) G rfl rfl [0, 1, 2, 3, 4, 5, 6, 7, 8, 9, 10, 11, 12, 13, 14, 15, 16, 17] [18] rfl rfl rfl rfl (n_V (As := [.int (nI i_1), .int 60]) (rest := []) (C := RX10) (T := TX10) (N := 14) (ci := 8) S G (s_homeBehind l X h0 nw sp xa la lb an sv dv n0 n1 n2 n3 n4 g0 gs gn gm ag dg i_1 60 hI_n0 hI_n1 hI_n2 hI_n3 hI_n4 (by omega) (by first | decide | assumption | exact k_60a (by assumption)) H.size) gX10_beats_X10_homeBehind rfl rfl rfl hdV_X10_homeBehind ⟨Nat.le_of_ble_eq_true rfl, Nat.le_of_ble_eq_true rfl⟩ [0, 1, 2, 3, 4, 5, 6, 7, 8, 9, 10, 11, 12, 13, 14, 15, 16, 17] rfl rfl 0 rfl rfl rfl hl.1 (Nat.le_of_ble_eq_true rfl) dX10_beats_54 ⟨Nat.le_of_ble_eq_true rfl, Nat.le_of_ble_eq_true rfl⟩) (fun r_114 u_114 H locs hp_114 G => ?_)
            obtain ⟨a_114a, d_114b⟩ := u_114
            have hq_114 := hp_114
            have G : wd X (va_A (@HAppend.hAppend va_W va_W va_W _ (xW h0 nw sp xa la lb) (@HAppend.hAppend va_W va_W va_W _ (rcV X nw an sv dv n0 n1 n2 n3 n4 g0 gs gn gm) (@HAppend.hAppend va_W va_W va_W _ (rnV (xa 8) ag dg) ([((xa 5), .inl (X.2.1, 3, .inl fr))])))) sz) (va_A (@HAppend.hAppend va_W va_W va_W _ (xW h0 nw sp xa la lb) (@HAppend.hAppend va_W va_W va_W _ (rcV X nw an sv dv n0 n1 n2 n3 n4 g0 gs gn gm) (@HAppend.hAppend va_W va_W va_W _ (rnV (xa 8) ag dg) ([((xa 5), .inl (X.2.1, 3, .inl fr))])))) sz) s (@HAppend.hAppend va_W va_W va_W _ ([((xa 5), .inl (X.2.1, 3, .inl fr))]) (@HAppend.hAppend va_W va_W va_W _ (xW h0 nw sp xa la lb) (@HAppend.hAppend va_W va_W va_W _ (rcV X nw an sv dv n0 n1 n2 n3 n4 g0 gs gn gm) (rnV (xa 8) a_114a d_114b)))) H locs := G
            refine lv_istore (lv' := [(4, .int r_114), (3, .ref (an 6)), (0, .ref h0), (1, .int 5), (2, .int (nI i_1))]) zx zb dX10_beats_57 hl (by decide) rfl (fun ls hl => ?_)
            refine lv_iload zx zb dX10_beats_59 (lv_at hl 0 rfl) ?_
            refine lv_iconst (v := (-1)) zx zb dX10_beats_61 (by decide) ?_
            refine k_cutW (PP := fun Wx => ∀ (x_116 : Int32) (H : Heap) (locs : List Loc) (ls : Array Slot), (x_116 ≤ 60) → wd X (va_A (@HAppend.hAppend va_W va_W va_W _ (xW h0 nw sp xa la lb) (@HAppend.hAppend va_W va_W va_W _ (rcV X nw an sv dv n0 n1 n2 n3 n4 g0 gs gn gm) (@HAppend.hAppend va_W va_W va_W _ (rnV (xa 8) ag dg) ([((xa 5), .inl (X.2.1, 3, .inl fr))])))) sz) (va_A (@HAppend.hAppend va_W va_W va_W _ (xW h0 nw sp xa la lb) (@HAppend.hAppend va_W va_W va_W _ (rcV X nw an sv dv n0 n1 n2 n3 n4 g0 gs gn gm) (@HAppend.hAppend va_W va_W va_W _ (rnV (xa 8) ag dg) ([((xa 5), .inl (X.2.1, 3, .inl fr))])))) sz) s (@HAppend.hAppend va_W va_W va_W _ ([((xa 5), .inl (X.2.1, 3, .inl fr))]) (@HAppend.hAppend va_W va_W va_W _ (xW h0 nw sp xa la lb) (@HAppend.hAppend va_W va_W va_W _ (rcV X nw an sv dv n0 n1 n2 n3 n4 g0 gs gn gm) (rnV (xa 8) a_114a d_114b)))) H locs → lv_has ls 7 [(4, .int r_114), (3, .ref (an 6)), (0, .ref h0), (1, .int 5), (2, .int (nI i_1))] → Wx (F0 m 74 ls [.int x_116]) H locs) ?_ ?_
            · intro join_62
              refine lv_icmp_ne (tgt := 70) zx zb dX10_beats_62 (by decide) (fun c_115 => ?_) (fun c_115 => ?_)
              · refine lv_iload zx zb dX10_beats_70 (lv_at hl 0 rfl) ?_
                refine lv_iconst (v := 1) zx zb dX10_beats_72 (by decide) ?_
                refine r_isub (v := (r_114 - 1)) S rfl dX10_beats_73 ?_
                exact join_62 (r_114 - 1) _ _ _ (by first | assumption | decide | exact k_m60 (by assumption)) G hl
              · refine lv_bipush (v := 60) zx zb dX10_beats_65 (by decide) ?_
                refine lv_goto (tgt := 74) zx zb dX10_beats_67 (by decide) ?_
                exact join_62 60 _ _ _ (by first | assumption | decide | exact k_m60 (by assumption)) G hl
            · intro x_116 H locs ls hk_x_116 G hl
              refine lv_istore (lv' := [(5, .int x_116), (4, .int r_114), (3, .ref (an 6)), (0, .ref h0), (1, .int 5), (2, .int (nI i_1))]) zx zb dX10_beats_74 hl (by decide) rfl (fun ls hl => ?_)
              refine lv_iconst (v := 0) zx zb dX10_beats_76 (by decide) ?_
              refine lv_istore (lv' := [(6, .int 0), (5, .int x_116), (4, .int r_114), (3, .ref (an 6)), (0, .ref h0), (1, .int 5), (2, .int (nI i_1))]) zx zb dX10_beats_77 hl (by decide) rfl (fun ls hl => ?_)
              refine k_loop (P := ∀ (zm : Nat) (k79 : Nat) (a79_3 : Nat → Int32) (d79_3 : Nat → Int32) (H : Heap) (locs : List Loc) (ls : Array Slot), 31 + 1 ≤ k79 + zm → (k79 ≤ 31) → wd X (va_A (@HAppend.hAppend va_W va_W va_W _ (xW h0 nw sp xa la lb) (@HAppend.hAppend va_W va_W va_W _ (rcV X nw an sv dv n0 n1 n2 n3 n4 g0 gs gn gm) (@HAppend.hAppend va_W va_W va_W _ (rnV (xa 8) ag dg) ([((xa 5), .inl (X.2.1, 3, .inl fr))])))) sz) (va_A (@HAppend.hAppend va_W va_W va_W _ (xW h0 nw sp xa la lb) (@HAppend.hAppend va_W va_W va_W _ (rcV X nw an sv dv n0 n1 n2 n3 n4 g0 gs gn gm) (@HAppend.hAppend va_W va_W va_W _ (rnV (xa 8) ag dg) ([((xa 5), .inl (X.2.1, 3, .inl fr))])))) sz) s (@HAppend.hAppend va_W va_W va_W _ ([((xa 5), .inl (X.2.1, 3, .inl fr))]) (@HAppend.hAppend va_W va_W va_W _ (xW h0 nw sp xa la lb) (@HAppend.hAppend va_W va_W va_W _ (rcV X nw an sv dv n0 n1 n2 n3 n4 g0 gs gn gm) (rnV (xa 8) a79_3 d79_3)))) H locs → lv_has ls 7 [(6, .int (nI k79)), (5, .int x_116), (4, .int r_114), (3, .ref (an 6)), (0, .ref h0), (1, .int 5), (2, .int (nI i_1))] → W p l e _ s m _ below meth c H locs _ _ _ (F0 m 79 ls [])) (fun loop => loop (31 + 1) 0 a_114a d_114b _ _ _ (by omega) (by omega) G hl) ?_
              intro zm
              induction zm with
              | zero => intro k79 a79_3 d79_3 H locs ls zz q_hk_k79 _ _; exact absurd zz (by omega)
              | succ zm ih79 =>
                intro k79 a79_3 d79_3 H locs ls zm_79 hk_k79 G hl
                refine lv_iload zx zb dX10_beats_79 (lv_at hl 0 rfl) ?_
                refine lv_bipush (v := 30) zx zb dX10_beats_81 (by decide) ?_
                refine lv_icmp_gt (tgt := 161) zx zb dX10_beats_83 (by decide) (fun c_117 => ?_) (fun c_117 => ?_)
                · have fc_117 := j_lt (a := 30) (b := k79) (by omega) (by omega) c_117
                  refine lv_iconst (v := (-1)) zx zb dX10_beats_161 (by decide) ?_
                  exact e_int S zr zlk (vp_nar_int _) G (a79_3, d79_3, fr) [1, 2, 3, 4, 5, 6, 7, 8, 9, 10, 11, 12, 13, 14, 15, 16, 17, 18, 0] rfl rfl (Or.inr rfl) (trivial) dX10_beats_162
                · have fc_117 := j_nlt (a := 30) (b := k79) (by omega) (by omega) c_117
                  refine lv_aload_n zx zb dX10_beats_86 rfl (lv_at hl 3 rfl) ?_
                  refine r_get (C := RX8) (T := TX8) (N := 8) (ci := 6) (v := .int (dv 36)) S in_X10_beats_X8 G 9 rfl rfl 4 (by decide) lk_X10_beats_137 rfl dX10_beats_87 ?_
                  refine lv_iload zx zb dX10_beats_90 (lv_at hl 0 rfl) ?_
                  refine r_iadd (v := ((dv 36) + (nI k79))) S rfl dX10_beats_92 ?_
                  refine lv_aload_n zx zb dX10_beats_93 rfl (lv_at hl 4 rfl) ?_
                  refine r_get (C := RX10) (T := TX10) (N := 14) (ci := 8) (v := .ref nw) S in_X10_beats_X10 G 1 rfl rfl 0 (by decide) lk_X10_beats_10 rfl dX10_beats_94 ?_
                  refine r_get (C := RX5) (T := TX5) (N := 8) (ci := 3) (v := .int (dv 0)) S in_X10_beats_X5 G 2 rfl rfl 0 (by decide) lk_X10_beats_140 rfl dX10_beats_97 ?_
                  refine lv_icmp_ge (tgt := 161) zx zb dX10_beats_100 (by decide) (fun c_118 => ?_) (fun c_118 => ?_)
                  · refine lv_iconst (v := (-1)) zx zb dX10_beats_161 (by decide) ?_
                    exact e_int S zr zlk (vp_nar_int _) G (a79_3, d79_3, fr) [1, 2, 3, 4, 5, 6, 7, 8, 9, 10, 11, 12, 13, 14, 15, 16, 17, 18, 0] rfl rfl (Or.inr rfl) (trivial) dX10_beats_162
                  · refine lv_aload_n zx zb dX10_beats_103 rfl (lv_at hl 4 rfl) ?_
                    refine r_get (C := RX10) (T := TX10) (N := 14) (ci := 8) (v := .ref (xa 8)) S in_X10_beats_X10 G 1 rfl rfl 8 (by decide) lk_X10_beats_48 rfl dX10_beats_104 ?_
                    refine lv_aload_n zx zb dX10_beats_107 rfl (lv_at hl 3 rfl) ?_
                    refine b_wv (cells' := 0) (slots' := 0) (wr := @HAppend.hAppend va_W va_W va_W _ ([((xa 5), .inl (X.2.1, 3, .inl fr))]) (@HAppend.hAppend va_W va_W va_W _ (xW h0 nw sp xa la lb) ([(nw, .inr (3, [.int (dv 0), .int (dv 1), .int (nI n0), .ref (an 0), .ref (an 7), .ref (an 9), .ref (an 11), .ref (an 13)])), ((an 0), .inl (X.2.2.2.2, 6, .inr (.inr (.inr (.inr (rowQ an)))))), ((an 1), .inr (6, [.int (sv 0), .int (sv 1), .int (sv 2), .int (dv 10), .int (dv 11), .int (dv 12), .int (dv 13), .int (dv 14)])), ((an 2), .inr (6, [.int (sv 3), .int (sv 4), .int (sv 5), .int (dv 15), .int (dv 16), .int (dv 17), .int (dv 18), .int (dv 19)])), ((an 3), .inr (6, [.int (sv 6), .int (sv 7), .int (sv 8), .int (dv 20), .int (dv 21), .int (dv 22), .int (dv 23), .int (dv 24)])), ((an 4), .inr (6, [.int (sv 9), .int (sv 10), .int (sv 11), .int (dv 25), .int (dv 26), .int (dv 27), .int (dv 28), .int (dv 29)])), ((an 5), .inr (6, [.int (sv 12), .int (sv 13), .int (sv 14), .int (dv 30), .int (dv 31), .int (dv 32), .int (dv 33), .int (dv 34)])), ((an 7), .inr (2, [.ref (an 8), .int (nI n1)])), ((an 8), .inl (X.2.1, 248, .inl g0)), ((an 9), .inr (5, [.int 5, .int 0, .int 1, .ref (an 10), .int (nI n2)])), ((an 10), .inl (X.2.1, 25, .inl gs)), ((an 11), .inr (5, [.int 6, .int 1, .int 1, .ref (an 12), .int (nI n3)])), ((an 12), .inl (X.2.1, 30, .inl gn)), ((an 13), .inr (5, [.int 6, .int 0, .int 0, .ref (an 14), .int (nI n4)])), ((an 14), .inl (X.2.1, 30, .inl gm))]))) G rfl rfl [18, 9] [0, 1, 2, 3, 4, 5, 6, 7, 8, 10, 11, 12, 13, 14, 15, 16, 17] rfl rfl rfl rfl (n_V (As := [.ref (an 6)]) (rest := []) (C := RX8) (T := TX8) (N := 8) (ci := 6) S G (s_rcopy l X (xa 8) a79_3 d79_3 (an 6) (fun k => sv (15 + k)) (fun k => dv (35 + k)) H.size) gX10_beats_X8_copyFrom rfl rfl rfl hdV_X8_copyFrom ⟨Nat.le_of_ble_eq_true rfl, Nat.le_of_ble_eq_true rfl⟩ [18, 9] rfl rfl 18 rfl rfl rfl hl.1 (Nat.le_of_ble_eq_true rfl) dX10_beats_108 ⟨Nat.le_of_ble_eq_true rfl, Nat.le_of_ble_eq_true rfl⟩) (fun u_119 H locs hp_119 G => ?_)
                    obtain ⟨a_119a, d_119b⟩ := u_119
                    have hq_119 := hp_119
                    have G : wd X (va_A (@HAppend.hAppend va_W va_W va_W _ (xW h0 nw sp xa la lb) (@HAppend.hAppend va_W va_W va_W _ (rcV X nw an sv dv n0 n1 n2 n3 n4 g0 gs gn gm) (@HAppend.hAppend va_W va_W va_W _ (rnV (xa 8) ag dg) ([((xa 5), .inl (X.2.1, 3, .inl fr))])))) sz) (va_A (@HAppend.hAppend va_W va_W va_W _ (xW h0 nw sp xa la lb) (@HAppend.hAppend va_W va_W va_W _ (rcV X nw an sv dv n0 n1 n2 n3 n4 g0 gs gn gm) (@HAppend.hAppend va_W va_W va_W _ (rnV (xa 8) ag dg) ([((xa 5), .inl (X.2.1, 3, .inl fr))])))) sz) s (@HAppend.hAppend va_W va_W va_W _ ([((xa 5), .inl (X.2.1, 3, .inl fr))]) (@HAppend.hAppend va_W va_W va_W _ (xW h0 nw sp xa la lb) (@HAppend.hAppend va_W va_W va_W _ (rcV X nw an sv dv n0 n1 n2 n3 n4 g0 gs gn gm) (rnV (xa 8) a_119a d_119b)))) H locs := wd_sub G [0, 1, 2, 3, 4, 5, 6, 7, 8, 18, 9, 10, 11, 12, 13, 14, 15, 16, 17] rfl rfl
                    refine lv_aload_n zx zb dX10_beats_111 rfl (lv_at hl 4 rfl) ?_
                    refine r_get (C := RX10) (T := TX10) (N := 14) (ci := 8) (v := .ref (xa 8)) S in_X10_beats_X10 G 1 rfl rfl 8 (by decide) lk_X10_beats_48 rfl dX10_beats_112 ?_
                    refine lv_dup zx zb dX10_beats_115 rfl ?_
                    refine r_get (C := RX8) (T := TX8) (N := 8) (ci := 6) (v := .int (d_119b 1)) S in_X10_beats_X8 G 18 rfl rfl 4 (by decide) lk_X10_beats_137 rfl dX10_beats_116 ?_
                    refine lv_iload zx zb dX10_beats_119 (lv_at hl 0 rfl) ?_
                    refine r_iadd (v := ((d_119b 1) + (nI k79))) S rfl dX10_beats_121 ?_
                    refine r_put (C := RX8) (T := TX8) (N := 8) (ci := 6) (v := .int ((d_119b 1) + (nI k79))) S in_X10_beats_X8 tyX8_ok nmX8 G 18 rfl rfl 4 (by decide) lk_X10_beats_137 rfl (vp_nar_int _) rfl (Nat.le_of_ble_eq_true rfl) dX10_beats_122 (fun H locs G => ?_)
                    obtain ⟨d_120, G⟩ : ∃ d_120 : Nat → Int32, wd X (va_A (@HAppend.hAppend va_W va_W va_W _ (xW h0 nw sp xa la lb) (@HAppend.hAppend va_W va_W va_W _ (rcV X nw an sv dv n0 n1 n2 n3 n4 g0 gs gn gm) (@HAppend.hAppend va_W va_W va_W _ (rnV (xa 8) ag dg) ([((xa 5), .inl (X.2.1, 3, .inl fr))])))) sz) (va_A (@HAppend.hAppend va_W va_W va_W _ (xW h0 nw sp xa la lb) (@HAppend.hAppend va_W va_W va_W _ (rcV X nw an sv dv n0 n1 n2 n3 n4 g0 gs gn gm) (@HAppend.hAppend va_W va_W va_W _ (rnV (xa 8) ag dg) ([((xa 5), .inl (X.2.1, 3, .inl fr))])))) sz) s (@HAppend.hAppend va_W va_W va_W _ ([((xa 5), .inl (X.2.1, 3, .inl fr))]) (@HAppend.hAppend va_W va_W va_W _ (xW h0 nw sp xa la lb) (@HAppend.hAppend va_W va_W va_W _ (rcV X nw an sv dv n0 n1 n2 n3 n4 g0 gs gn gm) (rnV (xa 8) a_119a d_120)))) H locs := ⟨upd d_119b 1 ((d_119b 1) + (nI k79)), G⟩
                    refine lv_aload_n zx zb dX10_beats_125 rfl (lv_at hl 4 rfl) ?_
                    refine r_get (C := RX10) (T := TX10) (N := 14) (ci := 8) (v := .ref (xa 8)) S in_X10_beats_X10 G 1 rfl rfl 8 (by decide) lk_X10_beats_48 rfl dX10_beats_126 ?_
                    refine lv_aload_n zx zb dX10_beats_129 rfl (lv_at hl 4 rfl) ?_
                    refine r_get (C := RX10) (T := TX10) (N := 14) (ci := 8) (v := .ref nw) S in_X10_beats_X10 G 1 rfl rfl 0 (by decide) lk_X10_beats_10 rfl dX10_beats_130 ?_
                    refine r_get (C := RX5) (T := TX5) (N := 8) (ci := 3) (v := .int (dv 1)) S in_X10_beats_X5 G 2 rfl rfl 1 (by decide) lk_X10_beats_110 rfl dX10_beats_133 ?_
                    refine lv_aload_n zx zb dX10_beats_136 rfl (lv_at hl 4 rfl) ?_
                    refine r_get (C := RX10) (T := TX10) (N := 14) (ci := 8) (v := .ref nw) S in_X10_beats_X10 G 1 rfl rfl 0 (by decide) lk_X10_beats_10 rfl dX10_beats_137 ?_
                    refine r_get (C := RX5) (T := TX5) (N := 8) (ci := 3) (v := .int (dv 0)) S in_X10_beats_X5 G 2 rfl rfl 0 (by decide) lk_X10_beats_140 rfl dX10_beats_140 ?_
                    refine lv_iload zx zb dX10_beats_143 (lv_at hl 1 rfl) ?_
                    refine b_wi (cells' := 0) (slots' := 0) (wr := @HAppend.hAppend va_W va_W va_W _ ([((xa 5), .inl (X.2.1, 3, .inl fr))]) (@HAppend.hAppend va_W va_W va_W _ (xW h0 nw sp xa la lb) (rcV X nw an sv dv n0 n1 n2 n3 n4 g0 gs gn gm))) G rfl rfl [18] [0, 1, 2, 3, 4, 5, 6, 7, 8, 9, 10, 11, 12, 13, 14, 15, 16, 17] rfl rfl rfl rfl (n_V (As := [.int (dv 1), .int (dv 0), .int x_116]) (rest := []) (C := RX8) (T := TX8) (N := 8) (ci := 6) S G (s_ticksToHome l X (xa 8) a_119a d_120 (dv 1) (dv 0) x_116 (by first | decide | assumption | exact k_60a (by assumption)) H.size) gX10_beats_X8_ticksToHome rfl rfl rfl hdV_X8_ticksToHome ⟨Nat.le_of_ble_eq_true rfl, Nat.le_of_ble_eq_true rfl⟩ [18] rfl rfl 18 rfl rfl rfl hl.1 (Nat.le_of_ble_eq_true rfl) dX10_beats_145 ⟨Nat.le_of_ble_eq_true rfl, Nat.le_of_ble_eq_true rfl⟩) (fun r_121 u_121 H locs hp_121 G => ?_)
                    obtain ⟨d_121, rfl⟩ : ∃ z, z = u_121 := ⟨_, rfl⟩
                    have hq_121 := hp_121
                    obtain ⟨hq_121, hs_121⟩ := hq_121
                    have G : wd X (va_A (@HAppend.hAppend va_W va_W va_W _ (xW h0 nw sp xa la lb) (@HAppend.hAppend va_W va_W va_W _ (rcV X nw an sv dv n0 n1 n2 n3 n4 g0 gs gn gm) (@HAppend.hAppend va_W va_W va_W _ (rnV (xa 8) ag dg) ([((xa 5), .inl (X.2.1, 3, .inl fr))])))) sz) (va_A (@HAppend.hAppend va_W va_W va_W _ (xW h0 nw sp xa la lb) (@HAppend.hAppend va_W va_W va_W _ (rcV X nw an sv dv n0 n1 n2 n3 n4 g0 gs gn gm) (@HAppend.hAppend va_W va_W va_W _ (rnV (xa 8) ag dg) ([((xa 5), .inl (X.2.1, 3, .inl fr))])))) sz) s (@HAppend.hAppend va_W va_W va_W _ ([((xa 5), .inl (X.2.1, 3, .inl fr))]) (@HAppend.hAppend va_W va_W va_W _ (xW h0 nw sp xa la lb) (@HAppend.hAppend va_W va_W va_W _ (rcV X nw an sv dv n0 n1 n2 n3 n4 g0 gs gn gm) (rnV (xa 8) a_119a d_121)))) H locs := G
                    refine lv_iconst (v := (-1)) zx zb dX10_beats_148 (by decide) ?_
                    refine lv_icmp_eq (tgt := 155) zx zb dX10_beats_149 (by decide) (fun c_122 => ?_) (fun c_122 => ?_)
                    · refine lv_iinc (v := (nI (k79 + 1))) (lv' := [(6, .int (nI (k79 + 1))), (5, .int x_116), (4, .int r_114), (3, .ref (an 6)), (0, .ref h0), (1, .int 5), (2, .int (nI i_1))]) zx zb dX10_beats_155 hl (k := 0) rfl (nI_add k79 1) (by decide) rfl (fun ls hl => ?_)
                      refine lv_goto (tgt := 79) zx zb dX10_beats_158 (by decide) ?_
                      exact ih79 (k79 + 1) a_119a d_121 _ _ _ (by omega) (by omega) G hl
                    · refine lv_iload zx zb dX10_beats_152 (lv_at hl 0 rfl) ?_
                      exact e_int S zr zlk (vp_nar_int _) G (a_119a, d_121, fr) [1, 2, 3, 4, 5, 6, 7, 8, 9, 10, 11, 12, 13, 14, 15, 16, 17, 18, 0] rfl rfl (Or.inr rfl) (trivial) dX10_beats_154
          · refine lv_iconst (v := (-1)) zx zb dX10_beats_48 (by decide) ?_
            exact e_int S zr zlk (vp_nar_int _) G (ag, dg, fr) [0, 1, 2, 3, 4, 5, 6, 7, 8, 9, 10, 11, 12, 13, 14, 15, 16, 17, 18] rfl rfl (Or.inr rfl) (trivial) dX10_beats_49
  · refine lv_if_ne (tgt := 16) zx zb dX10_beats_6 (by decide) (fun c_123 => absurd (by decide) c_123) (fun c_123 => ?_)
    refine lv_aload_n zx zb dX10_beats_9 rfl (lv_at hl 0 rfl) ?_
    refine lv_bipush (v := (-2)) zx zb dX10_beats_10 (by decide) ?_
    refine b_wi (cells' := 0) (slots' := 0) (wr := @HAppend.hAppend va_W va_W va_W _ (rcV X nw an sv dv n0 n1 n2 n3 n4 g0 gs gn gm) (rnV (xa 8) ag dg)) G rfl rfl [0, 18] [1, 2, 3, 4, 5, 6, 7, 8, 9, 10, 11, 12, 13, 14, 15, 16, 17] rfl rfl rfl rfl (n_V (As := [.int (-2)]) (rest := []) (C := RX10) (T := TX10) (N := 14) (ci := 8) S G (s_refuse l X h0 nw sp xa la lb fr (-2) H.size) gX10_beats_X10_refuse rfl rfl rfl hdV_X10_refuse ⟨Nat.le_of_ble_eq_true rfl, Nat.le_of_ble_eq_true rfl⟩ [0, 18] rfl rfl 0 rfl rfl rfl hl.1 (Nat.le_of_ble_eq_true rfl) dX10_beats_12 ⟨Nat.le_of_ble_eq_true rfl, Nat.le_of_ble_eq_true rfl⟩) (fun r_124 u_124 H locs hp_124 G => ?_)
    obtain ⟨f_124, rfl⟩ : ∃ z, z = u_124 := ⟨_, rfl⟩
    have hq_124 := hp_124
    have G : wd X (va_A (@HAppend.hAppend va_W va_W va_W _ (xW h0 nw sp xa la lb) (@HAppend.hAppend va_W va_W va_W _ (rcV X nw an sv dv n0 n1 n2 n3 n4 g0 gs gn gm) (@HAppend.hAppend va_W va_W va_W _ (rnV (xa 8) ag dg) ([((xa 5), .inl (X.2.1, 3, .inl fr))])))) sz) (va_A (@HAppend.hAppend va_W va_W va_W _ (xW h0 nw sp xa la lb) (@HAppend.hAppend va_W va_W va_W _ (rcV X nw an sv dv n0 n1 n2 n3 n4 g0 gs gn gm) (@HAppend.hAppend va_W va_W va_W _ (rnV (xa 8) ag dg) ([((xa 5), .inl (X.2.1, 3, .inl fr))])))) sz) s (@HAppend.hAppend va_W va_W va_W _ (rcV X nw an sv dv n0 n1 n2 n3 n4 g0 gs gn gm) (@HAppend.hAppend va_W va_W va_W _ (rnV (xa 8) ag dg) (@HAppend.hAppend va_W va_W va_W _ (xW h0 nw sp xa la lb) ([((xa 5), .inl (X.2.1, 3, .inl f_124))])))) H locs := G
    exact e_int S zr zlk (vp_nar_int _) G (ag, dg, f_124) [17, 0, 1, 2, 3, 4, 5, 6, 7, 8, 9, 10, 11, 12, 13, 14, 15, 16, 18] rfl rfl (Or.inr rfl) (trivial) dX10_beats_15
