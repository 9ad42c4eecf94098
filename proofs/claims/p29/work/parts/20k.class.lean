set_option maxRecDepth 20000 in
theorem ggX6_takeItem_X6_nextToken : GoodIn wsX6_takeItem wsX6_nextToken := goodIn_r _ [9, 10, 2, 11, 1, 12, 13, 14, 15, 8, 16, 17, 18, 19, 20, 21, 22, 23, 24, 25, 26, 27, 28, 29, 30, 31, 174, 175, 176, 177, 178, 179, 180] rfl (by decide +kernel)
set_option maxRecDepth 20000 in
theorem gX6_takeItem_X6_nextToken : GoodIn wsX6_takeItem (wsV RX6 41 RX6 yX6_nextToken wsX6_nextToken) := goodIn_app (goodIn_of _ (by decide +kernel)) ggX6_takeItem_X6_nextToken
set_option maxRecDepth 20000 in
theorem ggX6_takeItem_X6_spells : GoodIn wsX6_takeItem wsX6_spells := goodIn_r _ [35, 10, 2, 12, 36, 37, 38, 39, 40, 41, 42, 43, 44, 45, 46, 47, 48, 49, 50, 51, 52, 53, 54, 55, 56, 57, 58, 59, 60, 61, 62, 63, 64, 65, 66, 67, 68, 69, 70, 71, 72, 73, 74, 75, 76, 77, 78, 79, 80, 81, 82, 83, 84, 174, 175, 176, 177, 178, 179, 180] rfl (by decide +kernel)
set_option maxRecDepth 20000 in
theorem gX6_takeItem_X6_spells : GoodIn wsX6_takeItem (wsV RX6 46 RX6 yX6_spells wsX6_spells) := goodIn_app (goodIn_of _ (by decide +kernel)) ggX6_takeItem_X6_spells
set_option maxRecDepth 20000 in
theorem ggX6_takeItem_X6_takeLength : GoodIn wsX6_takeItem wsX6_takeLength := goodIn_r _ [88, 89, 90, 91, 8, 92, 3, 1, 31, 2, 5, 6, 7, 9, 10, 11, 12, 13, 14, 15, 16, 17, 18, 19, 20, 21, 22, 23, 24, 25, 26, 27, 28, 29, 30, 93, 94, 95, 96, 97, 98, 99, 100, 101, 102, 103, 104, 105, 106, 107, 108, 109, 110, 174, 175, 176, 177, 178, 179, 180, 181, 182, 183, 184, 185, 186, 187, 188, 189, 190, 191, 192, 193, 194, 195] rfl (by decide +kernel)
set_option maxRecDepth 20000 in
theorem gX6_takeItem_X6_takeLength : GoodIn wsX6_takeItem (wsV RX6 50 RX6 yX6_takeLength wsX6_takeLength) := goodIn_app (goodIn_of _ (by decide +kernel)) ggX6_takeItem_X6_takeLength
set_option maxRecDepth 20000 in
theorem ggX6_takeItem_X6_takeRunner : GoodIn wsX6_takeItem wsX6_takeRunner := goodIn_r _ [114, 89, 90, 91, 8, 92, 3, 1, 31, 2, 5, 6, 7, 9, 10, 11, 12, 13, 14, 15, 16, 17, 18, 19, 20, 21, 22, 23, 24, 25, 26, 27, 28, 29, 30, 93, 94, 95, 96, 115, 116, 117, 100, 118, 104, 119, 105, 106, 120, 121, 122, 123, 124, 125, 126, 127, 128, 129, 130, 131, 132, 174, 175, 176, 177, 178, 179, 180, 181, 182, 183, 184, 185, 186, 187, 188, 189, 190, 196, 197, 198, 199, 200, 201, 202, 203] rfl (by decide +kernel)
set_option maxRecDepth 20000 in
theorem gX6_takeItem_X6_takeRunner : GoodIn wsX6_takeItem (wsV RX6 61 RX6 yX6_takeRunner wsX6_takeRunner) := goodIn_app (goodIn_of _ (by decide +kernel)) ggX6_takeItem_X6_takeRunner
set_option maxRecDepth 20000 in
theorem ggX6_takeItem_X6_takeSpeed : GoodIn wsX6_takeItem wsX6_takeSpeed := goodIn_r _ [136, 4, 137, 138, 89, 90, 91, 8, 92, 3, 1, 31, 2, 5, 6, 7, 9, 10, 11, 12, 13, 14, 15, 16, 17, 18, 19, 20, 21, 22, 23, 24, 25, 26, 27, 28, 29, 30, 93, 94, 95, 96, 181, 182, 183, 184, 185, 186, 187, 188, 196, 197, 198, 199, 200, 201, 202, 203, 174, 175, 176, 177, 178, 179, 180] rfl (by decide +kernel)
set_option maxRecDepth 20000 in
theorem gX6_takeItem_X6_takeSpeed : GoodIn wsX6_takeItem (wsV RX6 66 RX6 yX6_takeSpeed wsX6_takeSpeed) := goodIn_app (goodIn_of _ (by decide +kernel)) ggX6_takeItem_X6_takeSpeed
set_option maxRecDepth 20000 in
theorem ggX6_takeItem_X6_takeStart : GoodIn wsX6_takeItem wsX6_takeStart := goodIn_r _ [142, 4, 137, 2, 3, 143, 144, 145, 146, 147, 148, 89, 90, 91, 8, 92, 1, 31, 5, 6, 7, 9, 10, 11, 12, 13, 14, 15, 16, 17, 18, 19, 20, 21, 22, 23, 24, 25, 26, 27, 28, 29, 30, 149, 150, 151, 123, 152, 132, 93, 94, 95, 96, 181, 182, 183, 184, 185, 186, 187, 188, 174, 175, 176, 177, 178, 179, 180, 196, 197, 198, 199, 200, 201, 202, 203] rfl (by decide +kernel)
set_option maxRecDepth 20000 in
theorem gX6_takeItem_X6_takeStart : GoodIn wsX6_takeItem (wsV RX6 71 RX6 yX6_takeStart wsX6_takeStart) := goodIn_app (goodIn_of _ (by decide +kernel)) ggX6_takeItem_X6_takeStart
set_option maxRecDepth 20000 in
theorem ggX6_takeItem_X6_takeTicks : GoodIn wsX6_takeItem wsX6_takeTicks := goodIn_r _ [156, 89, 90, 91, 8, 92, 3, 1, 31, 2, 5, 6, 7, 9, 10, 11, 12, 13, 14, 15, 16, 17, 18, 19, 20, 21, 22, 23, 24, 25, 26, 27, 28, 29, 30, 93, 94, 95, 96, 157, 158, 159, 100, 160, 103, 104, 119, 102, 161, 162, 163, 123, 164, 131, 125, 126, 128, 127, 130, 129, 132, 165, 150, 151, 152, 166, 167, 168, 169, 170, 171, 172, 173, 174, 175, 176, 177, 178, 179, 180, 181, 182, 183, 184, 185, 186, 187, 188, 196, 197, 198, 199, 200, 201, 202, 203] rfl (by decide +kernel)
set_option maxRecDepth 20000 in
theorem gX6_takeItem_X6_takeTicks : GoodIn wsX6_takeItem (wsV RX6 76 RX6 yX6_takeTicks wsX6_takeTicks) := goodIn_app (goodIn_of _ (by decide +kernel)) ggX6_takeItem_X6_takeTicks
set_option maxRecDepth 20000 in
theorem ggX6_takeStart_X6_ended : GoodIn wsX6_takeStart wsX6_ended := goodIn_r _ [52, 4, 16, 3, 18, 19, 20, 14, 21, 22, 23, 24, 25, 26, 27, 28, 29, 30, 31, 32, 33, 34, 35, 36, 37, 38, 39, 40, 41, 42, 17, 61, 62, 63, 64, 65, 66, 67] rfl (by decide +kernel)
set_option maxRecDepth 20000 in
theorem gX6_takeStart_X6_ended : GoodIn wsX6_takeStart (wsV RX6 83 RX6 yX6_ended wsX6_ended) := goodIn_app (goodIn_of _ (by decide +kernel)) ggX6_takeStart_X6_ended
set_option maxRecDepth 20000 in
theorem ggX6_takeStart_X6_number : GoodIn wsX6_takeStart wsX6_number := goodIn_r _ [15, 4, 16, 17, 3, 18, 19, 20, 14, 21, 22, 23, 24, 25, 26, 27, 28, 29, 30, 31, 32, 33, 34, 35, 36, 37, 38, 39, 40, 41, 42, 61, 62, 63, 64, 65, 66, 67] rfl (by decide +kernel)
set_option maxRecDepth 20000 in
theorem gX6_takeStart_X6_number : GoodIn wsX6_takeStart (wsV RX6 79 RX6 yX6_number wsX6_number) := goodIn_app (goodIn_of _ (by decide +kernel)) ggX6_takeStart_X6_number
set_option maxRecDepth 20000 in
theorem ggX6_takeStart_X8_isHome : GoodIn wsX6_takeStart wsX8_isHome := goodIn_r _ [47, 48, 68, 69, 70, 71, 72, 73, 74, 75] rfl (by decide +kernel)
set_option maxRecDepth 20000 in
theorem gX6_takeStart_X8_isHome : GoodIn wsX6_takeStart (wsV RX6 103 RX8 yX8_isHome wsX8_isHome) := goodIn_app (goodIn_of _ (by decide +kernel)) ggX6_takeStart_X8_isHome
set_option maxRecDepth 20000 in
theorem ggX6_takeTicks_X5_goOn : GoodIn wsX6_takeTicks wsX5_goOn := goodIn_r _ [43, 44, 45, 46, 47, 48, 49, 50, 51, 52, 53, 54, 55, 56, 57, 58, 59, 60, 61, 62, 63, 64, 65, 66, 67, 68, 69, 70, 71, 72, 80, 81, 82, 83, 84, 85, 86, 87, 88, 89, 90, 91, 92, 93, 94, 95] rfl (by decide +kernel)
set_option maxRecDepth 20000 in
theorem gX6_takeTicks_X5_goOn : GoodIn wsX6_takeTicks (wsV RX6 115 RX5 yX5_goOn wsX5_goOn) := goodIn_app (goodIn_of _ (by decide +kernel)) ggX6_takeTicks_X5_goOn
set_option maxRecDepth 20000 in
theorem ggX6_takeTicks_X6_ended : GoodIn wsX6_takeTicks wsX6_ended := goodIn_r _ [38, 6, 7, 9, 10, 11, 12, 4, 13, 14, 15, 16, 17, 18, 19, 20, 21, 22, 23, 24, 25, 26, 27, 28, 29, 30, 31, 32, 33, 34, 8, 73, 74, 75, 76, 77, 78, 79] rfl (by decide +kernel)
set_option maxRecDepth 20000 in
theorem gX6_takeTicks_X6_ended : GoodIn wsX6_takeTicks (wsV RX6 83 RX6 yX6_ended wsX6_ended) := goodIn_app (goodIn_of _ (by decide +kernel)) ggX6_takeTicks_X6_ended
set_option maxRecDepth 20000 in
theorem ggX6_takeTicks_X6_number : GoodIn wsX6_takeTicks wsX6_number := goodIn_r _ [5, 6, 7, 8, 9, 10, 11, 12, 4, 13, 14, 15, 16, 17, 18, 19, 20, 21, 22, 23, 24, 25, 26, 27, 28, 29, 30, 31, 32, 33, 34, 73, 74, 75, 76, 77, 78, 79] rfl (by decide +kernel)
set_option maxRecDepth 20000 in
theorem gX6_takeTicks_X6_number : GoodIn wsX6_takeTicks (wsV RX6 79 RX6 yX6_number wsX6_number) := goodIn_app (goodIn_of _ (by decide +kernel)) ggX6_takeTicks_X6_number
theorem dX6_takeItem_0 : decode cX6_takeItem 0 = .ok (.aload_n 0, 1) := by decide +kernel
theorem dX6_takeItem_1 : decode cX6_takeItem 1 = .ok (.invokevirtual 41, 3) := by decide +kernel
theorem dX6_takeItem_102 : decode cX6_takeItem 102 = .ok (.goto 28, 3) := by decide +kernel
theorem dX6_takeItem_105 : decode cX6_takeItem 105 = .ok (.aload_n 0, 1) := by decide +kernel
theorem dX6_takeItem_106 : decode cX6_takeItem 106 = .ok (.ldc 74, 2) := by decide +kernel
theorem dX6_takeItem_108 : decode cX6_takeItem 108 = .ok (.invokevirtual 46, 3) := by decide +kernel
theorem dX6_takeItem_111 : decode cX6_takeItem 111 = .ok (.ifCond .eq 11, 3) := by decide +kernel
theorem dX6_takeItem_114 : decode cX6_takeItem 114 = .ok (.aload_n 0, 1) := by decide +kernel
theorem dX6_takeItem_115 : decode cX6_takeItem 115 = .ok (.aload_n 1, 1) := by decide +kernel
theorem dX6_takeItem_116 : decode cX6_takeItem 116 = .ok (.invokevirtual 76, 3) := by decide +kernel
theorem dX6_takeItem_119 : decode cX6_takeItem 119 = .ok (.goto 11, 3) := by decide +kernel
theorem dX6_takeItem_12 : decode cX6_takeItem 12 = .ok (.aload_n 0, 1) := by decide +kernel
theorem dX6_takeItem_122 : decode cX6_takeItem 122 = .ok (.aload_n 0, 1) := by decide +kernel
theorem dX6_takeItem_123 : decode cX6_takeItem 123 = .ok (.aload_n 0, 1) := by decide +kernel
theorem dX6_takeItem_124 : decode cX6_takeItem 124 = .ok (.getfield 22, 3) := by decide +kernel
theorem dX6_takeItem_127 : decode cX6_takeItem 127 = .ok (.putfield 31, 3) := by decide +kernel
theorem dX6_takeItem_13 : decode cX6_takeItem 13 = .ok (.ldc 44, 2) := by decide +kernel
theorem dX6_takeItem_130 : decode cX6_takeItem 130 = .ok (.return_, 1) := by decide +kernel
theorem dX6_takeItem_15 : decode cX6_takeItem 15 = .ok (.invokevirtual 46, 3) := by decide +kernel
theorem dX6_takeItem_18 : decode cX6_takeItem 18 = .ok (.iload_n 2, 1) := by decide +kernel
theorem dX6_takeItem_19 : decode cX6_takeItem 19 = .ok (.if_icmp .eq 14, 3) := by decide +kernel
theorem dX6_takeItem_22 : decode cX6_takeItem 22 = .ok (.aload_n 0, 1) := by decide +kernel
theorem dX6_takeItem_23 : decode cX6_takeItem 23 = .ok (.aload_n 0, 1) := by decide +kernel
theorem dX6_takeItem_24 : decode cX6_takeItem 24 = .ok (.getfield 22, 3) := by decide +kernel
theorem dX6_takeItem_27 : decode cX6_takeItem 27 = .ok (.putfield 31, 3) := by decide +kernel
theorem dX6_takeItem_30 : decode cX6_takeItem 30 = .ok (.goto 100, 3) := by decide +kernel
theorem dX6_takeItem_33 : decode cX6_takeItem 33 = .ok (.iload_n 2, 1) := by decide +kernel
theorem dX6_takeItem_34 : decode cX6_takeItem 34 = .ok (.ifCond .eq 11, 3) := by decide +kernel
theorem dX6_takeItem_37 : decode cX6_takeItem 37 = .ok (.aload_n 0, 1) := by decide +kernel
theorem dX6_takeItem_38 : decode cX6_takeItem 38 = .ok (.aload_n 1, 1) := by decide +kernel
theorem dX6_takeItem_39 : decode cX6_takeItem 39 = .ok (.invokevirtual 50, 3) := by decide +kernel
theorem dX6_takeItem_4 : decode cX6_takeItem 4 = .ok (.aload_n 0, 1) := by decide +kernel
theorem dX6_takeItem_42 : decode cX6_takeItem 42 = .ok (.goto 88, 3) := by decide +kernel
theorem dX6_takeItem_45 : decode cX6_takeItem 45 = .ok (.aload_n 0, 1) := by decide +kernel
theorem dX6_takeItem_46 : decode cX6_takeItem 46 = .ok (.ldc 54, 2) := by decide +kernel
theorem dX6_takeItem_48 : decode cX6_takeItem 48 = .ok (.invokevirtual 46, 3) := by decide +kernel
theorem dX6_takeItem_5 : decode cX6_takeItem 5 = .ok (.getfield 25, 3) := by decide +kernel
theorem dX6_takeItem_51 : decode cX6_takeItem 51 = .ok (.ifCond .eq 20, 3) := by decide +kernel
theorem dX6_takeItem_54 : decode cX6_takeItem 54 = .ok (.aload_n 1, 1) := by decide +kernel
theorem dX6_takeItem_55 : decode cX6_takeItem 55 = .ok (.getfield 56, 3) := by decide +kernel
theorem dX6_takeItem_58 : decode cX6_takeItem 58 = .ok (.bipush 6, 2) := by decide +kernel
theorem dX6_takeItem_60 : decode cX6_takeItem 60 = .ok (.if_icmp .ge 11, 3) := by decide +kernel
theorem dX6_takeItem_63 : decode cX6_takeItem 63 = .ok (.aload_n 0, 1) := by decide +kernel
theorem dX6_takeItem_64 : decode cX6_takeItem 64 = .ok (.aload_n 1, 1) := by decide +kernel
theorem dX6_takeItem_65 : decode cX6_takeItem 65 = .ok (.invokevirtual 61, 3) := by decide +kernel
theorem dX6_takeItem_68 : decode cX6_takeItem 68 = .ok (.goto 62, 3) := by decide +kernel
theorem dX6_takeItem_71 : decode cX6_takeItem 71 = .ok (.aload_n 0, 1) := by decide +kernel
theorem dX6_takeItem_72 : decode cX6_takeItem 72 = .ok (.ldc 64, 2) := by decide +kernel
theorem dX6_takeItem_74 : decode cX6_takeItem 74 = .ok (.invokevirtual 46, 3) := by decide +kernel
theorem dX6_takeItem_77 : decode cX6_takeItem 77 = .ok (.ifCond .eq 11, 3) := by decide +kernel
theorem dX6_takeItem_8 : decode cX6_takeItem 8 = .ok (.iconst 1, 1) := by decide +kernel
theorem dX6_takeItem_80 : decode cX6_takeItem 80 = .ok (.aload_n 0, 1) := by decide +kernel
theorem dX6_takeItem_81 : decode cX6_takeItem 81 = .ok (.aload_n 1, 1) := by decide +kernel
theorem dX6_takeItem_82 : decode cX6_takeItem 82 = .ok (.invokevirtual 66, 3) := by decide +kernel
theorem dX6_takeItem_85 : decode cX6_takeItem 85 = .ok (.goto 45, 3) := by decide +kernel
theorem dX6_takeItem_88 : decode cX6_takeItem 88 = .ok (.aload_n 0, 1) := by decide +kernel
theorem dX6_takeItem_89 : decode cX6_takeItem 89 = .ok (.ldc 69, 2) := by decide +kernel
theorem dX6_takeItem_9 : decode cX6_takeItem 9 = .ok (.if_icmp .ne 13, 3) := by decide +kernel
theorem dX6_takeItem_91 : decode cX6_takeItem 91 = .ok (.invokevirtual 46, 3) := by decide +kernel
theorem dX6_takeItem_94 : decode cX6_takeItem 94 = .ok (.ifCond .eq 11, 3) := by decide +kernel
theorem dX6_takeItem_97 : decode cX6_takeItem 97 = .ok (.aload_n 0, 1) := by decide +kernel
theorem dX6_takeItem_98 : decode cX6_takeItem 98 = .ok (.aload_n 1, 1) := by decide +kernel
theorem dX6_takeItem_99 : decode cX6_takeItem 99 = .ok (.invokevirtual 71, 3) := by decide +kernel
theorem dX6_takeStart_0 : decode cX6_takeStart 0 = .ok (.aload_n 0, 1) := by decide +kernel
theorem dX6_takeStart_1 : decode cX6_takeStart 1 = .ok (.iconst 0, 1) := by decide +kernel
theorem dX6_takeStart_11 : decode cX6_takeStart 11 = .ok (.istore_n 2, 1) := by decide +kernel
theorem dX6_takeStart_12 : decode cX6_takeStart 12 = .ok (.iload_n 2, 1) := by decide +kernel
theorem dX6_takeStart_13 : decode cX6_takeStart 13 = .ok (.ifCond .lt 15, 3) := by decide +kernel
theorem dX6_takeStart_16 : decode cX6_takeStart 16 = .ok (.iload_n 2, 1) := by decide +kernel
theorem dX6_takeStart_17 : decode cX6_takeStart 17 = .ok (.aload_n 1, 1) := by decide +kernel
theorem dX6_takeStart_18 : decode cX6_takeStart 18 = .ok (.getfield 56, 3) := by decide +kernel
theorem dX6_takeStart_2 : decode cX6_takeStart 2 = .ok (.aload_n 1, 1) := by decide +kernel
theorem dX6_takeStart_21 : decode cX6_takeStart 21 = .ok (.if_icmp .ge 7, 3) := by decide +kernel
theorem dX6_takeStart_24 : decode cX6_takeStart 24 = .ok (.iconst 1, 1) := by decide +kernel
theorem dX6_takeStart_25 : decode cX6_takeStart 25 = .ok (.goto 4, 3) := by decide +kernel
theorem dX6_takeStart_28 : decode cX6_takeStart 28 = .ok (.iconst 0, 1) := by decide +kernel
theorem dX6_takeStart_29 : decode cX6_takeStart 29 = .ok (.istore_n 3, 1) := by decide +kernel
theorem dX6_takeStart_3 : decode cX6_takeStart 3 = .ok (.getfield 56, 3) := by decide +kernel
theorem dX6_takeStart_30 : decode cX6_takeStart 30 = .ok (.iload_n 3, 1) := by decide +kernel
theorem dX6_takeStart_31 : decode cX6_takeStart 31 = .ok (.ifCond .eq 23, 3) := by decide +kernel
theorem dX6_takeStart_34 : decode cX6_takeStart 34 = .ok (.aload_n 1, 1) := by decide +kernel
theorem dX6_takeStart_35 : decode cX6_takeStart 35 = .ok (.getfield 95, 3) := by decide +kernel
theorem dX6_takeStart_38 : decode cX6_takeStart 38 = .ok (.iload_n 2, 1) := by decide +kernel
theorem dX6_takeStart_39 : decode cX6_takeStart 39 = .ok (.aaload, 1) := by decide +kernel
theorem dX6_takeStart_40 : decode cX6_takeStart 40 = .ok (.invokevirtual 103, 3) := by decide +kernel
theorem dX6_takeStart_43 : decode cX6_takeStart 43 = .ok (.ifCond .eq 11, 3) := by decide +kernel
theorem dX6_takeStart_46 : decode cX6_takeStart 46 = .ok (.aload_n 0, 1) := by decide +kernel
theorem dX6_takeStart_47 : decode cX6_takeStart 47 = .ok (.aload_n 0, 1) := by decide +kernel
theorem dX6_takeStart_48 : decode cX6_takeStart 48 = .ok (.getfield 22, 3) := by decide +kernel
theorem dX6_takeStart_51 : decode cX6_takeStart 51 = .ok (.putfield 31, 3) := by decide +kernel
theorem dX6_takeStart_54 : decode cX6_takeStart 54 = .ok (.aload_n 0, 1) := by decide +kernel
theorem dX6_takeStart_55 : decode cX6_takeStart 55 = .ok (.iconst 0, 1) := by decide +kernel
theorem dX6_takeStart_56 : decode cX6_takeStart 56 = .ok (.bipush 30, 2) := by decide +kernel
theorem dX6_takeStart_58 : decode cX6_takeStart 58 = .ok (.aload_n 1, 1) := by decide +kernel
theorem dX6_takeStart_59 : decode cX6_takeStart 59 = .ok (.getfield 106, 3) := by decide +kernel
theorem dX6_takeStart_6 : decode cX6_takeStart 6 = .ok (.iconst 1, 1) := by decide +kernel
theorem dX6_takeStart_62 : decode cX6_takeStart 62 = .ok (.iconst 1, 1) := by decide +kernel
theorem dX6_takeStart_63 : decode cX6_takeStart 63 = .ok (.isub, 1) := by decide +kernel
theorem dX6_takeStart_64 : decode cX6_takeStart 64 = .ok (.invokestatic 107, 3) := by decide +kernel
theorem dX6_takeStart_67 : decode cX6_takeStart 67 = .ok (.invokevirtual 79, 3) := by decide +kernel
theorem dX6_takeStart_7 : decode cX6_takeStart 7 = .ok (.isub, 1) := by decide +kernel
theorem dX6_takeStart_70 : decode cX6_takeStart 70 = .ok (.istore 4, 2) := by decide +kernel
theorem dX6_takeStart_72 : decode cX6_takeStart 72 = .ok (.aload_n 0, 1) := by decide +kernel
theorem dX6_takeStart_73 : decode cX6_takeStart 73 = .ok (.invokevirtual 83, 3) := by decide +kernel
theorem dX6_takeStart_76 : decode cX6_takeStart 76 = .ok (.ifCond .eq 18, 3) := by decide +kernel
theorem dX6_takeStart_79 : decode cX6_takeStart 79 = .ok (.iload_n 3, 1) := by decide +kernel
theorem dX6_takeStart_8 : decode cX6_takeStart 8 = .ok (.invokevirtual 79, 3) := by decide +kernel
theorem dX6_takeStart_80 : decode cX6_takeStart 80 = .ok (.ifCond .eq 14, 3) := by decide +kernel
theorem dX6_takeStart_83 : decode cX6_takeStart 83 = .ok (.aload_n 1, 1) := by decide +kernel
theorem dX6_takeStart_84 : decode cX6_takeStart 84 = .ok (.getfield 95, 3) := by decide +kernel
theorem dX6_takeStart_87 : decode cX6_takeStart 87 = .ok (.iload_n 2, 1) := by decide +kernel
theorem dX6_takeStart_88 : decode cX6_takeStart 88 = .ok (.aaload, 1) := by decide +kernel
theorem dX6_takeStart_89 : decode cX6_takeStart 89 = .ok (.iload 4, 2) := by decide +kernel
theorem dX6_takeStart_91 : decode cX6_takeStart 91 = .ok (.putfield 112, 3) := by decide +kernel
theorem dX6_takeStart_94 : decode cX6_takeStart 94 = .ok (.return_, 1) := by decide +kernel
theorem dX6_takeTicks_0 : decode cX6_takeTicks 0 = .ok (.aload_n 0, 1) := by decide +kernel
theorem dX6_takeTicks_1 : decode cX6_takeTicks 1 = .ok (.iconst 1, 1) := by decide +kernel
theorem dX6_takeTicks_12 : decode cX6_takeTicks 12 = .ok (.ifCond .eq 20, 3) := by decide +kernel
theorem dX6_takeTicks_15 : decode cX6_takeTicks 15 = .ok (.iconst 0, 1) := by decide +kernel
theorem dX6_takeTicks_16 : decode cX6_takeTicks 16 = .ok (.istore_n 3, 1) := by decide +kernel
theorem dX6_takeTicks_17 : decode cX6_takeTicks 17 = .ok (.iload_n 3, 1) := by decide +kernel
theorem dX6_takeTicks_18 : decode cX6_takeTicks 18 = .ok (.iload_n 2, 1) := by decide +kernel
theorem dX6_takeTicks_19 : decode cX6_takeTicks 19 = .ok (.if_icmp .ge 13, 3) := by decide +kernel
theorem dX6_takeTicks_2 : decode cX6_takeTicks 2 = .ok (.bipush 99, 2) := by decide +kernel
theorem dX6_takeTicks_22 : decode cX6_takeTicks 22 = .ok (.aload_n 1, 1) := by decide +kernel
theorem dX6_takeTicks_23 : decode cX6_takeTicks 23 = .ok (.invokevirtual 115, 3) := by decide +kernel
theorem dX6_takeTicks_26 : decode cX6_takeTicks 26 = .ok (.iinc 3 1, 3) := by decide +kernel
theorem dX6_takeTicks_29 : decode cX6_takeTicks 29 = .ok (.goto (-12), 3) := by decide +kernel
theorem dX6_takeTicks_32 : decode cX6_takeTicks 32 = .ok (.return_, 1) := by decide +kernel
theorem dX6_takeTicks_4 : decode cX6_takeTicks 4 = .ok (.invokevirtual 79, 3) := by decide +kernel
theorem dX6_takeTicks_7 : decode cX6_takeTicks 7 = .ok (.istore_n 2, 1) := by decide +kernel
theorem dX6_takeTicks_8 : decode cX6_takeTicks 8 = .ok (.aload_n 0, 1) := by decide +kernel
theorem dX6_takeTicks_9 : decode cX6_takeTicks 9 = .ok (.invokevirtual 83, 3) := by decide +kernel
set_option maxHeartbeats 4000000 in
set_option maxRecDepth 100000 in
theorem x_takeStart (l : Launch) (X : EX) (h0 : Nat) (hb : Nat) (n : Nat) (bd : Nat → Nat) (vd : Nat → Int32) (fd : Nat → Int32) (s0 : Nat) (hn : Nat) (an : Nat → Nat) (sv : Nat → Int32) (dv : Nat → Int32) (n0 : Nat) (n1 : Nat) (n2 : Nat) (n3 : Nat) (n4 : Nat) (g0 : Nat → Int32) (gs : Nat → Int32) (gn : Nat → Int32) (gm : Nat → Int32) (hI_n : n ≤ 150) (hI_bd : InP bd) (hI_n0 : n0 ≤ 6) (hI_n1 : n1 ≤ 8) (hI_n2 : n2 ≤ 5) (hI_n3 : n3 ≤ 6) (hI_n4 : n4 ≤ 6) (hP : s0 ≤ n) (hA : bd 0 = tE fd n s0) (hF : vd 2 = -1) (sz : Nat) : Met l yX6_takeStart wsX6_takeStart ({ frames := 4, cells := 0, slots := 0, locals := 82 } : Room) (pE X [.ref h0, .ref hn] (@HAppend.hAppend va_W va_W va_W _ (rdV X h0 hb n bd vd fd) (rcV X hn an sv dv n0 n1 n2 n3 n4 g0 gs gn gm)) sz) (qV (fun (u : (Nat → Nat) × (Nat → Int32) × (Nat → Int32)) => InP u.1 ∧ ((staC fd n s0 n0 dv = none ∧ u.2.2 = upd dv (11 + 5 * (tV fd n (tN fd n s0)).toNatClampNeg) (tV fd n (t2 fd n s0)) ∧ u.2.1 2 = -1 ∧ u.1 0 = tE fd n (t3 fd n s0)) ∨ (∃ p : Nat, staC fd n s0 n0 dv = some p ∧ u.2.1 2 = nI p ∧ p ≤ n))) X (fun (u : (Nat → Nat) × (Nat → Int32) × (Nat → Int32)) => @HAppend.hAppend va_W va_W va_W _ (rdV X h0 hb n u.1 u.2.1 fd) (rcV X hn an sv u.2.2 n0 n1 n2 n3 n4 g0 gs gn gm)) (@HAppend.hAppend va_W va_W va_W _ (rdV X h0 hb n bd vd fd) (rcV X hn an sv dv n0 n1 n2 n3 n4 g0 gs gn gm)) sz) 0 0 (va_A (@HAppend.hAppend va_W va_W va_W _ (rdV X h0 hb n bd vd fd) (rcV X hn an sv dv n0 n1 n2 n3 n4 g0 gs gn gm)) sz) := by
  refine mk_met (B := (va_A (@HAppend.hAppend va_W va_W va_W _ (rdV X h0 hb n bd vd fd) (rcV X hn an sv dv n0 n1 n2 n3 n4 g0 gs gn gm)) sz)) (A := (va_A (@HAppend.hAppend va_W va_W va_W _ (rdV X h0 hb n bd vd fd) (rcV X hn an sv dv n0 n1 n2 n3 n4 g0 gs gn gm)) sz)) (cc := cX6_takeStart) (maxL := 5) (ret := none) (by decide) rfl (Nat.le_of_ble_eq_true rfl) k_w k_a (fun p e s m below meth c S zr zlk znm zsz G ls hl => ?_)
  have S : CallFix p m c cX6_takeStart 5 s _ wsX6_takeStart RX6 := S
  have zx := S.1
  have zb := S.2.1
  have hl : lv_has ls 5 [(0, .ref h0), (1, .ref hn)] := hl
  have hO_bd := hI_bd
  obtain ⟨hd0_bd, hd1_bd⟩ := hO_bd
  have hTs := tE_le (T := fd) (n := n) (s := s0) hP
  have hT0 := tN_le (T := fd) (n := n) (s := s0) hP
  have hT1 : tE fd n (tN fd n s0) ≤ t2 fd n s0 ∧ t2 fd n s0 ≤ n := tN_le hT0.2
  have hT2 : tE fd n (t2 fd n s0) ≤ t3 fd n s0 ∧ t3 fd n s0 ≤ n := tN_le hT1.2
  have hT3 : tE fd n (t3 fd n s0) ≤ t4 fd n s0 ∧ t4 fd n s0 ≤ n := tN_le hT2.2
  have hU0 := tE_le (T := fd) (n := n) (s := tN fd n s0) hT0.2
  have hU1 := tE_le (T := fd) (n := n) (s := t2 fd n s0) hT1.2
  have hU2 := tE_le (T := fd) (n := n) (s := t3 fd n s0) hT2.2
  have hU3 := tE_le (T := fd) (n := n) (s := t4 fd n s0) hT3.2
  refine lv_aload_n zx zb dX6_takeStart_0 rfl (lv_at hl 0 rfl) ?_
  refine lv_iconst (v := 0) zx zb dX6_takeStart_1 (by decide) ?_
  refine lv_aload_n zx zb dX6_takeStart_2 rfl (lv_at hl 1 rfl) ?_
  refine r_get (C := RX5) (T := TX5) (N := 8) (ci := 3) (v := .int (nI n0)) S in_X6_takeStart_X5 G 2 rfl rfl 2 (by decide) lk_X6_takeStart_56 rfl dX6_takeStart_3 ?_
  refine lv_iconst (v := 1) zx zb dX6_takeStart_6 (by decide) ?_
  refine r_isub (v := ((nI n0) - 1)) S rfl dX6_takeStart_7 ?_
  refine b_wi (cells' := 0) (slots' := 0) (wr := rcV X hn an sv dv n0 n1 n2 n3 n4 g0 gs gn gm) G rfl rfl [0, 1] [2, 3, 4, 5, 6, 7, 8, 9, 10, 11, 12, 13, 14, 15, 16, 17] rfl rfl rfl rfl (n_V (As := [.int 0, .int ((nI n0) - 1)]) (rest := []) (C := RX6) (T := TX6) (N := 7) (ci := 4) S G (x_numN l X h0 hb n bd vd fd 0 ((nI n0) - 1) hI_n hI_bd (by have := hT0; have := hT1; have := hT2; have := hT3; omega) hF s.heap.size) gX6_takeStart_X6_number rfl rfl rfl hdV_X6_number ⟨Nat.le_of_ble_eq_true rfl, Nat.le_of_ble_eq_true rfl⟩ [0, 1] rfl rfl 0 rfl rfl rfl hl.1 (Nat.le_of_ble_eq_true rfl) dX6_takeStart_8 ⟨Nat.le_of_ble_eq_true rfl, Nat.le_of_ble_eq_true rfl⟩) (fun r_1 u_1 H locs hp_1 G => ?_)
  obtain ⟨b_1a, v_1b⟩ := u_1
  try dsimp only at hp_1
  obtain ⟨hI_b_1a, hq_1⟩ := hp_1
  have hO_b_1a := hI_b_1a
  obtain ⟨hd0_b_1a, hd1_b_1a⟩ := hO_b_1a
  have G : wd X (va_A (@HAppend.hAppend va_W va_W va_W _ (rdV X h0 hb n bd vd fd) (rcV X hn an sv dv n0 n1 n2 n3 n4 g0 gs gn gm)) sz) (va_A (@HAppend.hAppend va_W va_W va_W _ (rdV X h0 hb n bd vd fd) (rcV X hn an sv dv n0 n1 n2 n3 n4 g0 gs gn gm)) sz) s (@HAppend.hAppend va_W va_W va_W _ (rcV X hn an sv dv n0 n1 n2 n3 n4 g0 gs gn gm) (rdV X h0 hb n b_1a v_1b fd)) H locs := G
  have ht_1 : scanP qB fd n (bd 0) = tN fd n s0 := by rw [hA]; rfl
  rw [ht_1] at hq_1
  obtain ⟨⟨hy0_1, hy1_1⟩, hr_1⟩ := hq_1
  rcases hr_1 with ⟨hn_1, hv_1, hf_1⟩ | ⟨hn_1, hv_1, hf_1⟩
  · refine lv_istore_n (lv' := [(2, .int r_1), (0, .ref h0), (1, .ref hn)]) zx zb dX6_takeStart_11 rfl hl (by decide) rfl (fun ls hl => ?_)
    obtain ⟨jx, hjx, ejx⟩ := k_one (n := n0) (by omega) hn_1.2
    have er := hv_1.trans ejx
    subst er
    have hl : lv_has ls 5 [(2, .int (nI jx)), (0, .ref h0), (1, .ref hn)] := hl
    refine lv_iload_n zx zb dX6_takeStart_12 rfl (lv_at hl 0 rfl) ?_
    refine lv_if_lt (tgt := 28) zx zb dX6_takeStart_13 (by decide) (fun c_2 => absurd c_2 (nI_pos (by omega))) (fun c_2 => ?_)
    refine lv_iload_n zx zb dX6_takeStart_16 rfl (lv_at hl 0 rfl) ?_
    refine lv_aload_n zx zb dX6_takeStart_17 rfl (lv_at hl 2 rfl) ?_
    refine r_get (C := RX5) (T := TX5) (N := 8) (ci := 3) (v := .int (nI n0)) S in_X6_takeStart_X5 G 0 rfl rfl 2 (by decide) lk_X6_takeStart_56 rfl dX6_takeStart_18 ?_
    refine lv_icmp_ge (tgt := 28) zx zb dX6_takeStart_21 (by decide) (fun c_3 => absurd c_3 (fun q => absurd (j_le (by omega) (by omega) q) (by omega))) (fun c_3 => ?_)
    refine lv_iconst (v := 1) zx zb dX6_takeStart_24 (by decide) ?_
    refine lv_goto (tgt := 29) zx zb dX6_takeStart_25 (by decide) ?_
    refine lv_istore_n (lv' := [(3, .int 1), (2, .int (nI jx)), (0, .ref h0), (1, .ref hn)]) zx zb dX6_takeStart_29 rfl hl (by decide) rfl (fun ls hl => ?_)
    refine lv_iload_n zx zb dX6_takeStart_30 rfl (lv_at hl 0 rfl) ?_
    refine lv_if_eq (tgt := 54) zx zb dX6_takeStart_31 (by decide) (fun c_4 => absurd c_4 (by decide)) (fun c_4 => ?_)
    refine lv_aload_n zx zb dX6_takeStart_34 rfl (lv_at hl 3 rfl) ?_
    refine r_get (C := RX5) (T := TX5) (N := 8) (ci := 3) (v := .ref (an 0)) S in_X6_takeStart_X5 G 0 rfl rfl 3 (by decide) lk_X6_takeStart_95 rfl dX6_takeStart_35 ?_
    refine lv_iload_n zx zb dX6_takeStart_38 rfl (lv_at hl 1 rfl) ?_
    rcases k_6c (show jx < 6 by omega) with rfl | rfl | rfl | rfl | rfl | rfl
    · refine k_it (v := 0) rfl ?_
      refine r_aald (C := RX8) (b := (an 1)) S G 1 3 rfl rfl (k_vp (by decide)) rfl dX6_takeStart_39 ?_
      refine o_ri (cells' := 0) (slots' := 0) G rfl rfl (n_V (As := []) (rest := []) (C := RX8) (T := TX8) (N := 8) (ci := 6) S G (x_isHome l X (an 1) (fun k => sv (0 + k)) (fun k => dv (10 + k)) H.size) gX6_takeStart_X8_isHome rfl rfl rfl hdV_X8_isHome ⟨Nat.le_of_ble_eq_true rfl, Nat.le_of_ble_eq_true rfl⟩ [2] rfl rfl 2 rfl rfl rfl hl.1 (Nat.le_of_ble_eq_true rfl) dX6_takeStart_40 ⟨Nat.le_of_ble_eq_true rfl, Nat.le_of_ble_eq_true rfl⟩) (fun r_5 u_5 H locs hp_5 G => ?_)
      have G : wd X (va_A (@HAppend.hAppend va_W va_W va_W _ (rdV X h0 hb n bd vd fd) (rcV X hn an sv dv n0 n1 n2 n3 n4 g0 gs gn gm)) sz) (va_A (@HAppend.hAppend va_W va_W va_W _ (rdV X h0 hb n bd vd fd) (rcV X hn an sv dv n0 n1 n2 n3 n4 g0 gs gn gm)) sz) s (@HAppend.hAppend va_W va_W va_W _ (rcV X hn an sv dv n0 n1 n2 n3 n4 g0 gs gn gm) (rdV X h0 hb n b_1a v_1b fd)) H locs := G
      rcases hp_5 with ⟨rfl, hh_5⟩ | ⟨rfl, hh_5⟩
      · refine lv_if_eq (tgt := 54) zx zb dX6_takeStart_43 (by decide) (fun c_6 => ?_) (fun c_6 => absurd (by decide) c_6)
        refine lv_aload_n zx zb dX6_takeStart_54 rfl (lv_at hl 2 rfl) ?_
        refine lv_iconst (v := 0) zx zb dX6_takeStart_55 (by decide) ?_
        refine lv_bipush (v := 30) zx zb dX6_takeStart_56 (by decide) ?_
        refine lv_aload_n zx zb dX6_takeStart_58 rfl (lv_at hl 3 rfl) ?_
        refine r_get (C := RX5) (T := TX5) (N := 8) (ci := 3) (v := .int (dv 0)) S in_X6_takeStart_X5 G 0 rfl rfl 0 (by decide) lk_X6_takeStart_106 rfl dX6_takeStart_59 ?_
        refine lv_iconst (v := 1) zx zb dX6_takeStart_62 (by decide) ?_
        refine r_isub (v := ((dv 0) - 1)) S rfl dX6_takeStart_63 ?_
        refine r_mmin (v := mstP dv) S hl.1 mm_X6_takeStart_ml107 mm_X6_takeStart_msmin mm_X6_takeStart_mi mm_X6_takeStart_mcmin (Nat.le_of_ble_eq_true rfl) (Nat.le_of_ble_eq_true rfl) (Nat.zero_le _) (Nat.zero_le _) rfl dX6_takeStart_64 ?_
        refine b_wi (cells' := 0) (slots' := 0) (wr := rcV X hn an sv dv n0 n1 n2 n3 n4 g0 gs gn gm) G rfl rfl [16, 17] [0, 1, 2, 3, 4, 5, 6, 7, 8, 9, 10, 11, 12, 13, 14, 15] rfl rfl rfl rfl (n_V (As := [.int 0, .int (mstP dv)]) (rest := []) (C := RX6) (T := TX6) (N := 7) (ci := 4) S G (x_numN l X h0 hb n b_1a v_1b fd 0 (mstP dv) hI_n hI_b_1a (by have := hT0; have := hT1; have := hT2; have := hT3; omega) hf_1 H.size) gX6_takeStart_X6_number rfl rfl rfl hdV_X6_number ⟨Nat.le_of_ble_eq_true rfl, Nat.le_of_ble_eq_true rfl⟩ [16, 17] rfl rfl 16 rfl rfl rfl hl.1 (Nat.le_of_ble_eq_true rfl) dX6_takeStart_67 ⟨Nat.le_of_ble_eq_true rfl, Nat.le_of_ble_eq_true rfl⟩) (fun r_7 u_7 H locs hp_7 G => ?_)
        obtain ⟨b_7a, v_7b⟩ := u_7
        try dsimp only at hp_7
        obtain ⟨hI_b_7a, hq_7⟩ := hp_7
        have hO_b_7a := hI_b_7a
        obtain ⟨hd0_b_7a, hd1_b_7a⟩ := hO_b_7a
        have G : wd X (va_A (@HAppend.hAppend va_W va_W va_W _ (rdV X h0 hb n bd vd fd) (rcV X hn an sv dv n0 n1 n2 n3 n4 g0 gs gn gm)) sz) (va_A (@HAppend.hAppend va_W va_W va_W _ (rdV X h0 hb n bd vd fd) (rcV X hn an sv dv n0 n1 n2 n3 n4 g0 gs gn gm)) sz) s (@HAppend.hAppend va_W va_W va_W _ (rcV X hn an sv dv n0 n1 n2 n3 n4 g0 gs gn gm) (rdV X h0 hb n b_7a v_7b fd)) H locs := G
        have ht_7 : scanP qB fd n (b_1a 0) = t2 fd n s0 := by rw [hy1_1]; rfl
        rw [ht_7] at hq_7
        obtain ⟨⟨hy0_7, hy1_7⟩, hr_7⟩ := hq_7
        rcases hr_7 with ⟨hn_7, hv_7, hf_7⟩ | ⟨hn_7, hv_7, hf_7⟩
        · refine lv_istore (lv' := [(4, .int r_7), (3, .int 1), (2, .int 0), (0, .ref h0), (1, .ref hn)]) zx zb dX6_takeStart_70 hl (by decide) rfl (fun ls hl => ?_)
          refine lv_aload_n zx zb dX6_takeStart_72 rfl (lv_at hl 3 rfl) ?_
          refine b_wi (cells' := 0) (slots' := 0) (wr := rcV X hn an sv dv n0 n1 n2 n3 n4 g0 gs gn gm) G rfl rfl [16, 17] [0, 1, 2, 3, 4, 5, 6, 7, 8, 9, 10, 11, 12, 13, 14, 15] rfl rfl rfl rfl (n_V (As := []) (rest := []) (C := RX6) (T := TX6) (N := 7) (ci := 4) S G (x_endN l X h0 hb n b_7a v_7b fd hI_n hI_b_7a (by have := hT0; have := hT1; have := hT2; have := hT3; omega) hf_7 H.size) gX6_takeStart_X6_ended rfl rfl rfl hdV_X6_ended ⟨Nat.le_of_ble_eq_true rfl, Nat.le_of_ble_eq_true rfl⟩ [16, 17] rfl rfl 16 rfl rfl rfl hl.1 (Nat.le_of_ble_eq_true rfl) dX6_takeStart_73 ⟨Nat.le_of_ble_eq_true rfl, Nat.le_of_ble_eq_true rfl⟩) (fun r_8 u_8 H locs hp_8 G => ?_)
          obtain ⟨b_8a, v_8b⟩ := u_8
          try dsimp only at hp_8
          obtain ⟨hI_b_8a, hq_8⟩ := hp_8
          have hO_b_8a := hI_b_8a
          obtain ⟨hd0_b_8a, hd1_b_8a⟩ := hO_b_8a
          have G : wd X (va_A (@HAppend.hAppend va_W va_W va_W _ (rdV X h0 hb n bd vd fd) (rcV X hn an sv dv n0 n1 n2 n3 n4 g0 gs gn gm)) sz) (va_A (@HAppend.hAppend va_W va_W va_W _ (rdV X h0 hb n bd vd fd) (rcV X hn an sv dv n0 n1 n2 n3 n4 g0 gs gn gm)) sz) s (@HAppend.hAppend va_W va_W va_W _ (rcV X hn an sv dv n0 n1 n2 n3 n4 g0 gs gn gm) (rdV X h0 hb n b_8a v_8b fd)) H locs := G
          have ht_8 : scanP qB fd n (b_7a 0) = t3 fd n s0 := by rw [hy1_7]; rfl
          rw [ht_8] at hq_8
          obtain ⟨⟨hy0_8, hy1_8⟩, hr_8⟩ := hq_8
          rcases hr_8 with ⟨hn_8, hv_8, hf_8⟩ | ⟨hn_8, hv_8, hf_8⟩
          · obtain rfl := hv_8
            refine lv_if_eq (tgt := 94) zx zb dX6_takeStart_76 (by decide) (fun c_9 => absurd c_9 (by decide)) (fun c_9 => ?_)
            refine lv_iload_n zx zb dX6_takeStart_79 rfl (lv_at hl 1 rfl) ?_
            refine lv_if_eq (tgt := 94) zx zb dX6_takeStart_80 (by decide) (fun c_10 => absurd c_10 (by decide)) (fun c_10 => ?_)
            refine lv_aload_n zx zb dX6_takeStart_83 rfl (lv_at hl 4 rfl) ?_
            refine r_get (C := RX5) (T := TX5) (N := 8) (ci := 3) (v := .ref (an 0)) S in_X6_takeStart_X5 G 0 rfl rfl 3 (by decide) lk_X6_takeStart_95 rfl dX6_takeStart_84 ?_
            refine lv_iload_n zx zb dX6_takeStart_87 rfl (lv_at hl 2 rfl) ?_
            refine r_aald (C := RX8) (b := (an 1)) S G 1 3 rfl rfl (k_vp (by decide)) rfl dX6_takeStart_88 ?_
            refine lv_iload zx zb dX6_takeStart_89 (lv_at hl 0 rfl) ?_
            refine r_put (C := RX8) (T := TX8) (N := 8) (ci := 6) (v := .int r_7) S in_X6_takeStart_X8 tyX8_ok nmX8 G 2 rfl rfl 4 (by decide) lk_X6_takeStart_112 rfl (vp_nar_int _) rfl (Nat.le_of_ble_eq_true rfl) dX6_takeStart_91 (fun H locs G => ?_)
            have G : wd X (va_A (@HAppend.hAppend va_W va_W va_W _ (rdV X h0 hb n bd vd fd) (rcV X hn an sv dv n0 n1 n2 n3 n4 g0 gs gn gm)) sz) (va_A (@HAppend.hAppend va_W va_W va_W _ (rdV X h0 hb n bd vd fd) (rcV X hn an sv dv n0 n1 n2 n3 n4 g0 gs gn gm)) sz) s (@HAppend.hAppend va_W va_W va_W _ (rcV X hn an sv (upd dv 11 r_7) n0 n1 n2 n3 n4 g0 gs gn gm) (rdV X h0 hb n b_8a v_8b fd)) H locs := G
            exact e_void S zr zlk G (b_8a, v_8b, (upd dv 11 r_7)) [16, 17, 0, 1, 2, 3, 4, 5, 6, 7, 8, 9, 10, 11, 12, 13, 14, 15] rfl rfl (Or.inr rfl) (⟨hI_b_8a, Or.inl ⟨by rw [staC, chk_t (numB_t.mpr hn_1), chk_t (decide_eq_true (show dv (14 + 5 * (tV fd n (tN fd n s0)).toNatClampNeg) = -1 from by rw [ejx]; exact hh_5)), chk_t (numB_t.mpr hn_7), chk_t (stpB_t hn_8)]; rfl, by rw [ejx, ← hv_7]; rfl, hf_8, hy1_8⟩⟩) dX6_takeStart_94
          · obtain rfl := hv_8
            refine lv_if_eq (tgt := 94) zx zb dX6_takeStart_76 (by decide) (fun c_11 => ?_) (fun c_11 => absurd (by decide) c_11)
            exact e_void S zr zlk G (b_8a, v_8b, dv) [16, 17, 0, 1, 2, 3, 4, 5, 6, 7, 8, 9, 10, 11, 12, 13, 14, 15] rfl rfl (Or.inr rfl) (⟨hI_b_8a, Or.inr ⟨_, by rw [staC, chk_t (numB_t.mpr hn_1), chk_t (decide_eq_true (show dv (14 + 5 * (tV fd n (tN fd n s0)).toNatClampNeg) = -1 from by rw [ejx]; exact hh_5)), chk_t (numB_t.mpr hn_7), chk_f (stpB_f hn_8)], hf_8, by first | omega | (dsimp only; omega)⟩⟩) dX6_takeStart_94
        · obtain rfl := hv_7
          refine lv_istore (lv' := [(4, .int (-1)), (3, .int 1), (2, .int 0), (0, .ref h0), (1, .ref hn)]) zx zb dX6_takeStart_70 hl (by decide) rfl (fun ls hl => ?_)
          refine lv_aload_n zx zb dX6_takeStart_72 rfl (lv_at hl 3 rfl) ?_
          refine o_ri (cells' := 0) (slots' := 0) G rfl rfl (n_V (As := []) (rest := []) (C := RX6) (T := TX6) (N := 7) (ci := 4) S G (x_endF l X h0 hb n b_7a v_7b fd hI_n hI_b_7a (k_nf hf_7 (by have := hT1; omega)) H.size) gX6_takeStart_X6_ended rfl rfl rfl hdV_X6_ended ⟨Nat.le_of_ble_eq_true rfl, Nat.le_of_ble_eq_true rfl⟩ [16, 17] rfl rfl 16 rfl rfl rfl hl.1 (Nat.le_of_ble_eq_true rfl) dX6_takeStart_73 ⟨Nat.le_of_ble_eq_true rfl, Nat.le_of_ble_eq_true rfl⟩) (fun r_12 u_12 H locs hp_12 G => ?_)
          have G : wd X (va_A (@HAppend.hAppend va_W va_W va_W _ (rdV X h0 hb n bd vd fd) (rcV X hn an sv dv n0 n1 n2 n3 n4 g0 gs gn gm)) sz) (va_A (@HAppend.hAppend va_W va_W va_W _ (rdV X h0 hb n bd vd fd) (rcV X hn an sv dv n0 n1 n2 n3 n4 g0 gs gn gm)) sz) s (@HAppend.hAppend va_W va_W va_W _ (rcV X hn an sv dv n0 n1 n2 n3 n4 g0 gs gn gm) (rdV X h0 hb n b_7a v_7b fd)) H locs := G
          obtain rfl := hp_12
          refine lv_if_eq (tgt := 94) zx zb dX6_takeStart_76 (by decide) (fun c_13 => ?_) (fun c_13 => absurd (by decide) c_13)
          exact e_void S zr zlk G (b_7a, v_7b, dv) [16, 17, 0, 1, 2, 3, 4, 5, 6, 7, 8, 9, 10, 11, 12, 13, 14, 15] rfl rfl (Or.inr rfl) (⟨hI_b_7a, Or.inr ⟨_, by rw [staC, chk_t (numB_t.mpr hn_1), chk_t (decide_eq_true (show dv (14 + 5 * (tV fd n (tN fd n s0)).toNatClampNeg) = -1 from by rw [ejx]; exact hh_5)), chk_f (numB_f hn_7)], hf_7, by first | omega | (dsimp only; omega)⟩⟩) dX6_takeStart_94
      · refine lv_if_eq (tgt := 54) zx zb dX6_takeStart_43 (by decide) (fun c_14 => absurd c_14 (by decide)) (fun c_14 => ?_)
        refine lv_aload_n zx zb dX6_takeStart_46 rfl (lv_at hl 2 rfl) ?_
        refine lv_aload_n zx zb dX6_takeStart_47 rfl (lv_at hl 2 rfl) ?_
        refine r_get (C := RX6) (T := TX6) (N := 7) (ci := 4) (v := .int (nI (b_1a 1))) S in_X6_takeStart_X6 G 16 rfl rfl 3 (by decide) lk_X6_takeStart_22 rfl dX6_takeStart_48 ?_
        refine r_put (C := RX6) (T := TX6) (N := 7) (ci := 4) (v := .int (nI (b_1a 1))) S in_X6_takeStart_X6 tyX6_ok nmX6 G 16 rfl rfl 6 (by decide) lk_X6_takeStart_31 rfl (vp_nar_int _) rfl (Nat.le_of_ble_eq_true rfl) dX6_takeStart_51 (fun H locs G => ?_)
        obtain ⟨v_15, ⟨hE_v_15_2, hE_v_15_0, hE_v_15_1⟩, G⟩ : ∃ v_15 : Nat → Int32, (v_15 2 = (nI (b_1a 1)) ∧ v_15 0 = v_1b 0 ∧ v_15 1 = v_1b 1) ∧ wd X (va_A (@HAppend.hAppend va_W va_W va_W _ (rdV X h0 hb n bd vd fd) (rcV X hn an sv dv n0 n1 n2 n3 n4 g0 gs gn gm)) sz) (va_A (@HAppend.hAppend va_W va_W va_W _ (rdV X h0 hb n bd vd fd) (rcV X hn an sv dv n0 n1 n2 n3 n4 g0 gs gn gm)) sz) s (@HAppend.hAppend va_W va_W va_W _ (rcV X hn an sv dv n0 n1 n2 n3 n4 g0 gs gn gm) (rdV X h0 hb n b_1a v_15 fd)) H locs := ⟨upd v_1b 2 (nI (b_1a 1)), ⟨rfl, rfl, rfl⟩, G⟩
        refine lv_aload_n zx zb dX6_takeStart_54 rfl (lv_at hl 2 rfl) ?_
        refine lv_iconst (v := 0) zx zb dX6_takeStart_55 (by decide) ?_
        refine lv_bipush (v := 30) zx zb dX6_takeStart_56 (by decide) ?_
        refine lv_aload_n zx zb dX6_takeStart_58 rfl (lv_at hl 3 rfl) ?_
        refine r_get (C := RX5) (T := TX5) (N := 8) (ci := 3) (v := .int (dv 0)) S in_X6_takeStart_X5 G 0 rfl rfl 0 (by decide) lk_X6_takeStart_106 rfl dX6_takeStart_59 ?_
        refine lv_iconst (v := 1) zx zb dX6_takeStart_62 (by decide) ?_
        refine r_isub (v := ((dv 0) - 1)) S rfl dX6_takeStart_63 ?_
        refine r_mmin (v := mstP dv) S hl.1 mm_X6_takeStart_ml107 mm_X6_takeStart_msmin mm_X6_takeStart_mi mm_X6_takeStart_mcmin (Nat.le_of_ble_eq_true rfl) (Nat.le_of_ble_eq_true rfl) (Nat.zero_le _) (Nat.zero_le _) rfl dX6_takeStart_64 ?_
        refine o_ri (cells' := 0) (slots' := 0) G rfl rfl (n_V (As := [.int 0, .int (mstP dv)]) (rest := []) (C := RX6) (T := TX6) (N := 7) (ci := 4) S G (x_numF l X h0 hb n b_1a v_15 fd 0 (mstP dv) hI_n hI_b_1a (k_nf (hE_v_15_2.trans (congrArg nI hy0_1)) (by omega)) H.size) gX6_takeStart_X6_number rfl rfl rfl hdV_X6_number ⟨Nat.le_of_ble_eq_true rfl, Nat.le_of_ble_eq_true rfl⟩ [16, 17] rfl rfl 16 rfl rfl rfl hl.1 (Nat.le_of_ble_eq_true rfl) dX6_takeStart_67 ⟨Nat.le_of_ble_eq_true rfl, Nat.le_of_ble_eq_true rfl⟩) (fun r_16 u_16 H locs hp_16 G => ?_)
        have G : wd X (va_A (@HAppend.hAppend va_W va_W va_W _ (rdV X h0 hb n bd vd fd) (rcV X hn an sv dv n0 n1 n2 n3 n4 g0 gs gn gm)) sz) (va_A (@HAppend.hAppend va_W va_W va_W _ (rdV X h0 hb n bd vd fd) (rcV X hn an sv dv n0 n1 n2 n3 n4 g0 gs gn gm)) sz) s (@HAppend.hAppend va_W va_W va_W _ (rcV X hn an sv dv n0 n1 n2 n3 n4 g0 gs gn gm) (rdV X h0 hb n b_1a v_15 fd)) H locs := G
        obtain rfl := hp_16
        refine lv_istore (lv' := [(4, .int (-1)), (3, .int 1), (2, .int 0), (0, .ref h0), (1, .ref hn)]) zx zb dX6_takeStart_70 hl (by decide) rfl (fun ls hl => ?_)
        refine lv_aload_n zx zb dX6_takeStart_72 rfl (lv_at hl 3 rfl) ?_
        refine o_ri (cells' := 0) (slots' := 0) G rfl rfl (n_V (As := []) (rest := []) (C := RX6) (T := TX6) (N := 7) (ci := 4) S G (x_endF l X h0 hb n b_1a v_15 fd hI_n hI_b_1a (k_nf (hE_v_15_2.trans (congrArg nI hy0_1)) (by omega)) H.size) gX6_takeStart_X6_ended rfl rfl rfl hdV_X6_ended ⟨Nat.le_of_ble_eq_true rfl, Nat.le_of_ble_eq_true rfl⟩ [16, 17] rfl rfl 16 rfl rfl rfl hl.1 (Nat.le_of_ble_eq_true rfl) dX6_takeStart_73 ⟨Nat.le_of_ble_eq_true rfl, Nat.le_of_ble_eq_true rfl⟩) (fun r_17 u_17 H locs hp_17 G => ?_)
        have G : wd X (va_A (@HAppend.hAppend va_W va_W va_W _ (rdV X h0 hb n bd vd fd) (rcV X hn an sv dv n0 n1 n2 n3 n4 g0 gs gn gm)) sz) (va_A (@HAppend.hAppend va_W va_W va_W _ (rdV X h0 hb n bd vd fd) (rcV X hn an sv dv n0 n1 n2 n3 n4 g0 gs gn gm)) sz) s (@HAppend.hAppend va_W va_W va_W _ (rcV X hn an sv dv n0 n1 n2 n3 n4 g0 gs gn gm) (rdV X h0 hb n b_1a v_15 fd)) H locs := G
        obtain rfl := hp_17
        refine lv_if_eq (tgt := 94) zx zb dX6_takeStart_76 (by decide) (fun c_18 => ?_) (fun c_18 => absurd (by decide) c_18)
        exact e_void S zr zlk G (b_1a, v_15, dv) [16, 17, 0, 1, 2, 3, 4, 5, 6, 7, 8, 9, 10, 11, 12, 13, 14, 15] rfl rfl (Or.inr rfl) (⟨hI_b_1a, Or.inr ⟨_, by rw [staC, chk_t (numB_t.mpr hn_1), chk_f (decide_eq_false (show ¬ dv (14 + 5 * (tV fd n (tN fd n s0)).toNatClampNeg) = -1 from by rw [ejx]; exact hh_5))], hE_v_15_2.trans (congrArg nI hy0_1), by first | omega | (dsimp only; omega)⟩⟩) dX6_takeStart_94
    · refine k_it (v := 1) rfl ?_
      refine r_aald (C := RX8) (b := (an 2)) S G 1 3 rfl rfl (k_vp (by decide)) rfl dX6_takeStart_39 ?_
      refine o_ri (cells' := 0) (slots' := 0) G rfl rfl (n_V (As := []) (rest := []) (C := RX8) (T := TX8) (N := 8) (ci := 6) S G (x_isHome l X (an 2) (fun k => sv (3 + k)) (fun k => dv (15 + k)) H.size) gX6_takeStart_X8_isHome rfl rfl rfl hdV_X8_isHome ⟨Nat.le_of_ble_eq_true rfl, Nat.le_of_ble_eq_true rfl⟩ [3] rfl rfl 3 rfl rfl rfl hl.1 (Nat.le_of_ble_eq_true rfl) dX6_takeStart_40 ⟨Nat.le_of_ble_eq_true rfl, Nat.le_of_ble_eq_true rfl⟩) (fun r_19 u_19 H locs hp_19 G => ?_)
      have G : wd X (va_A (@HAppend.hAppend va_W va_W va_W _ (rdV X h0 hb n bd vd fd) (rcV X hn an sv dv n0 n1 n2 n3 n4 g0 gs gn gm)) sz) (va_A (@HAppend.hAppend va_W va_W va_W _ (rdV X h0 hb n bd vd fd) (rcV X hn an sv dv n0 n1 n2 n3 n4 g0 gs gn gm)) sz) s (@HAppend.hAppend va_W va_W va_W _ (rcV X hn an sv dv n0 n1 n2 n3 n4 g0 gs gn gm) (rdV X h0 hb n b_1a v_1b fd)) H locs := G
      rcases hp_19 with ⟨rfl, hh_19⟩ | ⟨rfl, hh_19⟩
      · refine lv_if_eq (tgt := 54) zx zb dX6_takeStart_43 (by decide) (fun c_20 => ?_) (fun c_20 => absurd (by decide) c_20)
        refine lv_aload_n zx zb dX6_takeStart_54 rfl (lv_at hl 2 rfl) ?_
        refine lv_iconst (v := 0) zx zb dX6_takeStart_55 (by decide) ?_
        refine lv_bipush (v := 30) zx zb dX6_takeStart_56 (by decide) ?_
        refine lv_aload_n zx zb dX6_takeStart_58 rfl (lv_at hl 3 rfl) ?_
        refine r_get (C := RX5) (T := TX5) (N := 8) (ci := 3) (v := .int (dv 0)) S in_X6_takeStart_X5 G 0 rfl rfl 0 (by decide) lk_X6_takeStart_106 rfl dX6_takeStart_59 ?_
        refine lv_iconst (v := 1) zx zb dX6_takeStart_62 (by decide) ?_
        refine r_isub (v := ((dv 0) - 1)) S rfl dX6_takeStart_63 ?_
        refine r_mmin (v := mstP dv) S hl.1 mm_X6_takeStart_ml107 mm_X6_takeStart_msmin mm_X6_takeStart_mi mm_X6_takeStart_mcmin (Nat.le_of_ble_eq_true rfl) (Nat.le_of_ble_eq_true rfl) (Nat.zero_le _) (Nat.zero_le _) rfl dX6_takeStart_64 ?_
        refine b_wi (cells' := 0) (slots' := 0) (wr := rcV X hn an sv dv n0 n1 n2 n3 n4 g0 gs gn gm) G rfl rfl [16, 17] [0, 1, 2, 3, 4, 5, 6, 7, 8, 9, 10, 11, 12, 13, 14, 15] rfl rfl rfl rfl (n_V (As := [.int 0, .int (mstP dv)]) (rest := []) (C := RX6) (T := TX6) (N := 7) (ci := 4) S G (x_numN l X h0 hb n b_1a v_1b fd 0 (mstP dv) hI_n hI_b_1a (by have := hT0; have := hT1; have := hT2; have := hT3; omega) hf_1 H.size) gX6_takeStart_X6_number rfl rfl rfl hdV_X6_number ⟨Nat.le_of_ble_eq_true rfl, Nat.le_of_ble_eq_true rfl⟩ [16, 17] rfl rfl 16 rfl rfl rfl hl.1 (Nat.le_of_ble_eq_true rfl) dX6_takeStart_67 ⟨Nat.le_of_ble_eq_true rfl, Nat.le_of_ble_eq_true rfl⟩) (fun r_21 u_21 H locs hp_21 G => ?_)
        obtain ⟨b_21a, v_21b⟩ := u_21
        try dsimp only at hp_21
        obtain ⟨hI_b_21a, hq_21⟩ := hp_21
        have hO_b_21a := hI_b_21a
        obtain ⟨hd0_b_21a, hd1_b_21a⟩ := hO_b_21a
        have G : wd X (va_A (@HAppend.hAppend va_W va_W va_W _ (rdV X h0 hb n bd vd fd) (rcV X hn an sv dv n0 n1 n2 n3 n4 g0 gs gn gm)) sz) (va_A (@HAppend.hAppend va_W va_W va_W _ (rdV X h0 hb n bd vd fd) (rcV X hn an sv dv n0 n1 n2 n3 n4 g0 gs gn gm)) sz) s (@HAppend.hAppend va_W va_W va_W _ (rcV X hn an sv dv n0 n1 n2 n3 n4 g0 gs gn gm) (rdV X h0 hb n b_21a v_21b fd)) H locs := G
        have ht_21 : scanP qB fd n (b_1a 0) = t2 fd n s0 := by rw [hy1_1]; rfl
        rw [ht_21] at hq_21
        obtain ⟨⟨hy0_21, hy1_21⟩, hr_21⟩ := hq_21
        rcases hr_21 with ⟨hn_21, hv_21, hf_21⟩ | ⟨hn_21, hv_21, hf_21⟩
        · refine lv_istore (lv' := [(4, .int r_21), (3, .int 1), (2, .int 1), (0, .ref h0), (1, .ref hn)]) zx zb dX6_takeStart_70 hl (by decide) rfl (fun ls hl => ?_)
          refine lv_aload_n zx zb dX6_takeStart_72 rfl (lv_at hl 3 rfl) ?_
          refine b_wi (cells' := 0) (slots' := 0) (wr := rcV X hn an sv dv n0 n1 n2 n3 n4 g0 gs gn gm) G rfl rfl [16, 17] [0, 1, 2, 3, 4, 5, 6, 7, 8, 9, 10, 11, 12, 13, 14, 15] rfl rfl rfl rfl (n_V (As := []) (rest := []) (C := RX6) (T := TX6) (N := 7) (ci := 4) S G (x_endN l X h0 hb n b_21a v_21b fd hI_n hI_b_21a (by have := hT0; have := hT1; have := hT2; have := hT3; omega) hf_21 H.size) gX6_takeStart_X6_ended rfl rfl rfl hdV_X6_ended ⟨Nat.le_of_ble_eq_true rfl, Nat.le_of_ble_eq_true rfl⟩ [16, 17] rfl rfl 16 rfl rfl rfl hl.1 (Nat.le_of_ble_eq_true rfl) dX6_takeStart_73 ⟨Nat.le_of_ble_eq_true rfl, Nat.le_of_ble_eq_true rfl⟩) (fun r_22 u_22 H locs hp_22 G => ?_)
          obtain ⟨b_22a, v_22b⟩ := u_22
          try dsimp only at hp_22
          obtain ⟨hI_b_22a, hq_22⟩ := hp_22
          have hO_b_22a := hI_b_22a
          obtain ⟨hd0_b_22a, hd1_b_22a⟩ := hO_b_22a
          have G : wd X (va_A (@HAppend.hAppend va_W va_W va_W _ (rdV X h0 hb n bd vd fd) (rcV X hn an sv dv n0 n1 n2 n3 n4 g0 gs gn gm)) sz) (va_A (@HAppend.hAppend va_W va_W va_W _ (rdV X h0 hb n bd vd fd) (rcV X hn an sv dv n0 n1 n2 n3 n4 g0 gs gn gm)) sz) s (@HAppend.hAppend va_W va_W va_W _ (rcV X hn an sv dv n0 n1 n2 n3 n4 g0 gs gn gm) (rdV X h0 hb n b_22a v_22b fd)) H locs := G
          have ht_22 : scanP qB fd n (b_21a 0) = t3 fd n s0 := by rw [hy1_21]; rfl
          rw [ht_22] at hq_22
          obtain ⟨⟨hy0_22, hy1_22⟩, hr_22⟩ := hq_22
          rcases hr_22 with ⟨hn_22, hv_22, hf_22⟩ | ⟨hn_22, hv_22, hf_22⟩
          · obtain rfl := hv_22
            refine lv_if_eq (tgt := 94) zx zb dX6_takeStart_76 (by decide) (fun c_23 => absurd c_23 (by decide)) (fun c_23 => ?_)
            refine lv_iload_n zx zb dX6_takeStart_79 rfl (lv_at hl 1 rfl) ?_
            refine lv_if_eq (tgt := 94) zx zb dX6_takeStart_80 (by decide) (fun c_24 => absurd c_24 (by decide)) (fun c_24 => ?_)
            refine lv_aload_n zx zb dX6_takeStart_83 rfl (lv_at hl 4 rfl) ?_
            refine r_get (C := RX5) (T := TX5) (N := 8) (ci := 3) (v := .ref (an 0)) S in_X6_takeStart_X5 G 0 rfl rfl 3 (by decide) lk_X6_takeStart_95 rfl dX6_takeStart_84 ?_
            refine lv_iload_n zx zb dX6_takeStart_87 rfl (lv_at hl 2 rfl) ?_
            refine r_aald (C := RX8) (b := (an 2)) S G 1 3 rfl rfl (k_vp (by decide)) rfl dX6_takeStart_88 ?_
            refine lv_iload zx zb dX6_takeStart_89 (lv_at hl 0 rfl) ?_
            refine r_put (C := RX8) (T := TX8) (N := 8) (ci := 6) (v := .int r_21) S in_X6_takeStart_X8 tyX8_ok nmX8 G 3 rfl rfl 4 (by decide) lk_X6_takeStart_112 rfl (vp_nar_int _) rfl (Nat.le_of_ble_eq_true rfl) dX6_takeStart_91 (fun H locs G => ?_)
            have G : wd X (va_A (@HAppend.hAppend va_W va_W va_W _ (rdV X h0 hb n bd vd fd) (rcV X hn an sv dv n0 n1 n2 n3 n4 g0 gs gn gm)) sz) (va_A (@HAppend.hAppend va_W va_W va_W _ (rdV X h0 hb n bd vd fd) (rcV X hn an sv dv n0 n1 n2 n3 n4 g0 gs gn gm)) sz) s (@HAppend.hAppend va_W va_W va_W _ (rcV X hn an sv (upd dv 16 r_21) n0 n1 n2 n3 n4 g0 gs gn gm) (rdV X h0 hb n b_22a v_22b fd)) H locs := G
            exact e_void S zr zlk G (b_22a, v_22b, (upd dv 16 r_21)) [16, 17, 0, 1, 2, 3, 4, 5, 6, 7, 8, 9, 10, 11, 12, 13, 14, 15] rfl rfl (Or.inr rfl) (⟨hI_b_22a, Or.inl ⟨by rw [staC, chk_t (numB_t.mpr hn_1), chk_t (decide_eq_true (show dv (14 + 5 * (tV fd n (tN fd n s0)).toNatClampNeg) = -1 from by rw [ejx]; exact hh_19)), chk_t (numB_t.mpr hn_21), chk_t (stpB_t hn_22)]; rfl, by rw [ejx, ← hv_21]; rfl, hf_22, hy1_22⟩⟩) dX6_takeStart_94
          · obtain rfl := hv_22
            refine lv_if_eq (tgt := 94) zx zb dX6_takeStart_76 (by decide) (fun c_25 => ?_) (fun c_25 => absurd (by decide) c_25)
            exact e_void S zr zlk G (b_22a, v_22b, dv) [16, 17, 0, 1, 2, 3, 4, 5, 6, 7, 8, 9, 10, 11, 12, 13, 14, 15] rfl rfl (Or.inr rfl) (⟨hI_b_22a, Or.inr ⟨_, by rw [staC, chk_t (numB_t.mpr hn_1), chk_t (decide_eq_true (show dv (14 + 5 * (tV fd n (tN fd n s0)).toNatClampNeg) = -1 from by rw [ejx]; exact hh_19)), chk_t (numB_t.mpr hn_21), chk_f (stpB_f hn_22)], hf_22, by first | omega | (dsimp only; omega)⟩⟩) dX6_takeStart_94
        · obtain rfl := hv_21
          refine lv_istore (lv' := [(4, .int (-1)), (3, .int 1), (2, .int 1), (0, .ref h0), (1, .ref hn)]) zx zb dX6_takeStart_70 hl (by decide) rfl (fun ls hl => ?_)
          refine lv_aload_n zx zb dX6_takeStart_72 rfl (lv_at hl 3 rfl) ?_
          refine o_ri (cells' := 0) (slots' := 0) G rfl rfl (n_V (As := []) (rest := []) (C := RX6) (T := TX6) (N := 7) (ci := 4) S G (x_endF l X h0 hb n b_21a v_21b fd hI_n hI_b_21a (k_nf hf_21 (by have := hT1; omega)) H.size) gX6_takeStart_X6_ended rfl rfl rfl hdV_X6_ended ⟨Nat.le_of_ble_eq_true rfl, Nat.le_of_ble_eq_true rfl⟩ [16, 17] rfl rfl 16 rfl rfl rfl hl.1 (Nat.le_of_ble_eq_true rfl) dX6_takeStart_73 ⟨Nat.le_of_ble_eq_true rfl, Nat.le_of_ble_eq_true rfl⟩) (fun r_26 u_26 H locs hp_26 G => ?_)
          have G : wd X (va_A (@HAppend.hAppend va_W va_W va_W _ (rdV X h0 hb n bd vd fd) (rcV X hn an sv dv n0 n1 n2 n3 n4 g0 gs gn gm)) sz) (va_A (@HAppend.hAppend va_W va_W va_W _ (rdV X h0 hb n bd vd fd) (rcV X hn an sv dv n0 n1 n2 n3 n4 g0 gs gn gm)) sz) s (@HAppend.hAppend va_W va_W va_W _ (rcV X hn an sv dv n0 n1 n2 n3 n4 g0 gs gn gm) (rdV X h0 hb n b_21a v_21b fd)) H locs := G
          obtain rfl := hp_26
          refine lv_if_eq (tgt := 94) zx zb dX6_takeStart_76 (by decide) (fun c_27 => ?_) (fun c_27 => absurd (by decide) c_27)
          exact e_void S zr zlk G (b_21a, v_21b, dv) [16, 17, 0, 1, 2, 3, 4, 5, 6, 7, 8, 9, 10, 11, 12, 13, 14, 15] rfl rfl (Or.inr rfl) (⟨hI_b_21a, Or.inr ⟨_, by rw [staC, chk_t (numB_t.mpr hn_1), chk_t (decide_eq_true (show dv (14 + 5 * (tV fd n (tN fd n s0)).toNatClampNeg) = -1 from by rw [ejx]; exact hh_19)), chk_f (numB_f hn_21)], hf_21, by first | omega | (dsimp only; omega)⟩⟩) dX6_takeStart_94
      · refine lv_if_eq (tgt := 54) zx zb dX6_takeStart_43 (by decide) (fun c_28 => absurd c_28 (by decide)) (fun c_28 => ?_)
        refine lv_aload_n zx zb dX6_takeStart_46 rfl (lv_at hl 2 rfl) ?_
        refine lv_aload_n zx zb dX6_takeStart_47 rfl (lv_at hl 2 rfl) ?_
        refine r_get (C := RX6) (T := TX6) (N := 7) (ci := 4) (v := .int (nI (b_1a 1))) S in_X6_takeStart_X6 G 16 rfl rfl 3 (by decide) lk_X6_takeStart_22 rfl dX6_takeStart_48 ?_
        refine r_put (C := RX6) (T := TX6) (N := 7) (ci := 4) (v := .int (nI (b_1a 1))) S in_X6_takeStart_X6 tyX6_ok nmX6 G 16 rfl rfl 6 (by decide) lk_X6_takeStart_31 rfl (vp_nar_int _) rfl (Nat.le_of_ble_eq_true rfl) dX6_takeStart_51 (fun H locs G => ?_)
        obtain ⟨v_29, ⟨hE_v_29_2, hE_v_29_0, hE_v_29_1⟩, G⟩ : ∃ v_29 : Nat → Int32, (v_29 2 = (nI (b_1a 1)) ∧ v_29 0 = v_1b 0 ∧ v_29 1 = v_1b 1) ∧ wd X (va_A (@HAppend.hAppend va_W va_W va_W _ (rdV X h0 hb n bd vd fd) (rcV X hn an sv dv n0 n1 n2 n3 n4 g0 gs gn gm)) sz) (va_A (@HAppend.hAppend va_W va_W va_W _ (rdV X h0 hb n bd vd fd) (rcV X hn an sv dv n0 n1 n2 n3 n4 g0 gs gn gm)) sz) s (@HAppend.hAppend va_W va_W va_W _ (rcV X hn an sv dv n0 n1 n2 n3 n4 g0 gs gn gm) (rdV X h0 hb n b_1a v_29 fd)) H locs := ⟨upd v_1b 2 (nI (b_1a 1)), ⟨rfl, rfl, rfl⟩, G⟩
        refine lv_aload_n zx zb dX6_takeStart_54 rfl (lv_at hl 2 rfl) ?_
        refine lv_iconst (v := 0) zx zb dX6_takeStart_55 (by decide) ?_
        refine lv_bipush (v := 30) zx zb dX6_takeStart_56 (by decide) ?_
        refine lv_aload_n zx zb dX6_takeStart_58 rfl (lv_at hl 3 rfl) ?_
        refine r_get (C := RX5) (T := TX5) (N := 8) (ci := 3) (v := .int (dv 0)) S in_X6_takeStart_X5 G 0 rfl rfl 0 (by decide) lk_X6_takeStart_106 rfl dX6_takeStart_59 ?_
        refine lv_iconst (v := 1) zx zb dX6_takeStart_62 (by decide) ?_
        refine r_isub (v := ((dv 0) - 1)) S rfl dX6_takeStart_63 ?_
        refine r_mmin (v := mstP dv) S hl.1 mm_X6_takeStart_ml107 mm_X6_takeStart_msmin mm_X6_takeStart_mi mm_X6_takeStart_mcmin (Nat.le_of_ble_eq_true rfl) (Nat.le_of_ble_eq_true rfl) (Nat.zero_le _) (Nat.zero_le _) rfl dX6_takeStart_64 ?_
        refine o_ri (cells' := 0) (slots' := 0) G rfl rfl (n_V (As := [.int 0, .int (mstP dv)]) (rest := []) (C := RX6) (T := TX6) (N := 7) (ci := 4) S G (x_numF l X h0 hb n b_1a v_29 fd 0 (mstP dv) hI_n hI_b_1a (k_nf (hE_v_29_2.trans (congrArg nI hy0_1)) (by omega)) H.size) gX6_takeStart_X6_number rfl rfl rfl hdV_X6_number ⟨Nat.le_of_ble_eq_true rfl, Nat.le_of_ble_eq_true rfl⟩ [16, 17] rfl rfl 16 rfl rfl rfl hl.1 (Nat.le_of_ble_eq_true rfl) dX6_takeStart_67 ⟨Nat.le_of_ble_eq_true rfl, Nat.le_of_ble_eq_true rfl⟩) (fun r_30 u_30 H locs hp_30 G => ?_)
        have G : wd X (va_A (@HAppend.hAppend va_W va_W va_W _ (rdV X h0 hb n bd vd fd) (rcV X hn an sv dv n0 n1 n2 n3 n4 g0 gs gn gm)) sz) (va_A (@HAppend.hAppend va_W va_W va_W _ (rdV X h0 hb n bd vd fd) (rcV X hn an sv dv n0 n1 n2 n3 n4 g0 gs gn gm)) sz) s (@HAppend.hAppend va_W va_W va_W _ (rcV X hn an sv dv n0 n1 n2 n3 n4 g0 gs gn gm) (rdV X h0 hb n b_1a v_29 fd)) H locs := G
        obtain rfl := hp_30
        refine lv_istore (lv' := [(4, .int (-1)), (3, .int 1), (2, .int 1), (0, .ref h0), (1, .ref hn)]) zx zb dX6_takeStart_70 hl (by decide) rfl (fun ls hl => ?_)
        refine lv_aload_n zx zb dX6_takeStart_72 rfl (lv_at hl 3 rfl) ?_
        refine o_ri (cells' := 0) (slots' := 0) G rfl rfl (n_V (As := []) (rest := []) (C := RX6) (T := TX6) (N := 7) (ci := 4) S G (x_endF l X h0 hb n b_1a v_29 fd hI_n hI_b_1a (k_nf (hE_v_29_2.trans (congrArg nI hy0_1)) (by omega)) H.size) gX6_takeStart_X6_ended rfl rfl rfl hdV_X6_ended ⟨Nat.le_of_ble_eq_true rfl, Nat.le_of_ble_eq_true rfl⟩ [16, 17] rfl rfl 16 rfl rfl rfl hl.1 (Nat.le_of_ble_eq_true rfl) dX6_takeStart_73 ⟨Nat.le_of_ble_eq_true rfl, Nat.le_of_ble_eq_true rfl⟩) (fun r_31 u_31 H locs hp_31 G => ?_)
        have G : wd X (va_A (@HAppend.hAppend va_W va_W va_W _ (rdV X h0 hb n bd vd fd) (rcV X hn an sv dv n0 n1 n2 n3 n4 g0 gs gn gm)) sz) (va_A (@HAppend.hAppend va_W va_W va_W _ (rdV X h0 hb n bd vd fd) (rcV X hn an sv dv n0 n1 n2 n3 n4 g0 gs gn gm)) sz) s (@HAppend.hAppend va_W va_W va_W _ (rcV X hn an sv dv n0 n1 n2 n3 n4 g0 gs gn gm) (rdV X h0 hb n b_1a v_29 fd)) H locs := G
        obtain rfl := hp_31
        refine lv_if_eq (tgt := 94) zx zb dX6_takeStart_76 (by decide) (fun c_32 => ?_) (fun c_32 => absurd (by decide) c_32)
        exact e_void S zr zlk G (b_1a, v_29, dv) [16, 17, 0, 1, 2, 3, 4, 5, 6, 7, 8, 9, 10, 11, 12, 13, 14, 15] rfl rfl (Or.inr rfl) (⟨hI_b_1a, Or.inr ⟨_, by rw [staC, chk_t (numB_t.mpr hn_1), chk_f (decide_eq_false (show ¬ dv (14 + 5 * (tV fd n (tN fd n s0)).toNatClampNeg) = -1 from by rw [ejx]; exact hh_19))], hE_v_29_2.trans (congrArg nI hy0_1), by first | omega | (dsimp only; omega)⟩⟩) dX6_takeStart_94
    · refine k_it (v := 2) rfl ?_
      refine r_aald (C := RX8) (b := (an 3)) S G 1 3 rfl rfl (k_vp (by decide)) rfl dX6_takeStart_39 ?_
      refine o_ri (cells' := 0) (slots' := 0) G rfl rfl (n_V (As := []) (rest := []) (C := RX8) (T := TX8) (N := 8) (ci := 6) S G (x_isHome l X (an 3) (fun k => sv (6 + k)) (fun k => dv (20 + k)) H.size) gX6_takeStart_X8_isHome rfl rfl rfl hdV_X8_isHome ⟨Nat.le_of_ble_eq_true rfl, Nat.le_of_ble_eq_true rfl⟩ [4] rfl rfl 4 rfl rfl rfl hl.1 (Nat.le_of_ble_eq_true rfl) dX6_takeStart_40 ⟨Nat.le_of_ble_eq_true rfl, Nat.le_of_ble_eq_true rfl⟩) (fun r_33 u_33 H locs hp_33 G => ?_)
      have G : wd X (va_A (@HAppend.hAppend va_W va_W va_W _ (rdV X h0 hb n bd vd fd) (rcV X hn an sv dv n0 n1 n2 n3 n4 g0 gs gn gm)) sz) (va_A (@HAppend.hAppend va_W va_W va_W _ (rdV X h0 hb n bd vd fd) (rcV X hn an sv dv n0 n1 n2 n3 n4 g0 gs gn gm)) sz) s (@HAppend.hAppend va_W va_W va_W _ (rcV X hn an sv dv n0 n1 n2 n3 n4 g0 gs gn gm) (rdV X h0 hb n b_1a v_1b fd)) H locs := G
      rcases hp_33 with ⟨rfl, hh_33⟩ | ⟨rfl, hh_33⟩
      · refine lv_if_eq (tgt := 54) zx zb dX6_takeStart_43 (by decide) (fun c_34 => ?_) (fun c_34 => absurd (by decide) c_34)
        refine lv_aload_n zx zb dX6_takeStart_54 rfl (lv_at hl 2 rfl) ?_
        refine lv_iconst (v := 0) zx zb dX6_takeStart_55 (by decide) ?_
        refine lv_bipush (v := 30) zx zb dX6_takeStart_56 (by decide) ?_
        refine lv_aload_n zx zb dX6_takeStart_58 rfl (lv_at hl 3 rfl) ?_
        refine r_get (C := RX5) (T := TX5) (N := 8) (ci := 3) (v := .int (dv 0)) S in_X6_takeStart_X5 G 0 rfl rfl 0 (by decide) lk_X6_takeStart_106 rfl dX6_takeStart_59 ?_
        refine lv_iconst (v := 1) zx zb dX6_takeStart_62 (by decide) ?_
        refine r_isub (v := ((dv 0) - 1)) S rfl dX6_takeStart_63 ?_
        refine r_mmin (v := mstP dv) S hl.1 mm_X6_takeStart_ml107 mm_X6_takeStart_msmin mm_X6_takeStart_mi mm_X6_takeStart_mcmin (Nat.le_of_ble_eq_true rfl) (Nat.le_of_ble_eq_true rfl) (Nat.zero_le _) (Nat.zero_le _) rfl dX6_takeStart_64 ?_
        refine b_wi (cells' := 0) (slots' := 0) (wr := rcV X hn an sv dv n0 n1 n2 n3 n4 g0 gs gn gm) G rfl rfl [16, 17] [0, 1, 2, 3, 4, 5, 6, 7, 8, 9, 10, 11, 12, 13, 14, 15] rfl rfl rfl rfl (n_V (As := [.int 0, .int (mstP dv)]) (rest := []) (C := RX6) (T := TX6) (N := 7) (ci := 4) S G (x_numN l X h0 hb n b_1a v_1b fd 0 (mstP dv) hI_n hI_b_1a (by have := hT0; have := hT1; have := hT2; have := hT3; omega) hf_1 H.size) gX6_takeStart_X6_number rfl rfl rfl hdV_X6_number ⟨Nat.le_of_ble_eq_true rfl, Nat.le_of_ble_eq_true rfl⟩ [16, 17] rfl rfl 16 rfl rfl rfl hl.1 (Nat.le_of_ble_eq_true rfl) dX6_takeStart_67 ⟨Nat.le_of_ble_eq_true rfl, Nat.le_of_ble_eq_true rfl⟩) (fun r_35 u_35 H locs hp_35 G => ?_)
        obtain ⟨b_35a, v_35b⟩ := u_35
        try dsimp only at hp_35
        obtain ⟨hI_b_35a, hq_35⟩ := hp_35
        have hO_b_35a := hI_b_35a
        obtain ⟨hd0_b_35a, hd1_b_35a⟩ := hO_b_35a
        have G : wd X (va_A (@HAppend.hAppend va_W va_W va_W _ (rdV X h0 hb n bd vd fd) (rcV X hn an sv dv n0 n1 n2 n3 n4 g0 gs gn gm)) sz) (va_A (@HAppend.hAppend va_W va_W va_W _ (rdV X h0 hb n bd vd fd) (rcV X hn an sv dv n0 n1 n2 n3 n4 g0 gs gn gm)) sz) s (@HAppend.hAppend va_W va_W va_W _ (rcV X hn an sv dv n0 n1 n2 n3 n4 g0 gs gn gm) (rdV X h0 hb n b_35a v_35b fd)) H locs := G
        have ht_35 : scanP qB fd n (b_1a 0) = t2 fd n s0 := by rw [hy1_1]; rfl
        rw [ht_35] at hq_35
        obtain ⟨⟨hy0_35, hy1_35⟩, hr_35⟩ := hq_35
        rcases hr_35 with ⟨hn_35, hv_35, hf_35⟩ | ⟨hn_35, hv_35, hf_35⟩
        · refine lv_istore (lv' := [(4, .int r_35), (3, .int 1), (2, .int 2), (0, .ref h0), (1, .ref hn)]) zx zb dX6_takeStart_70 hl (by decide) rfl (fun ls hl => ?_)
          refine lv_aload_n zx zb dX6_takeStart_72 rfl (lv_at hl 3 rfl) ?_
          refine b_wi (cells' := 0) (slots' := 0) (wr := rcV X hn an sv dv n0 n1 n2 n3 n4 g0 gs gn gm) G rfl rfl [16, 17] [0, 1, 2, 3, 4, 5, 6, 7, 8, 9, 10, 11, 12, 13, 14, 15] rfl rfl rfl rfl (n_V (As := []) (rest := []) (C := RX6) (T := TX6) (N := 7) (ci := 4) S G (x_endN l X h0 hb n b_35a v_35b fd hI_n hI_b_35a (by have := hT0; have := hT1; have := hT2; have := hT3; omega) hf_35 H.size) gX6_takeStart_X6_ended rfl rfl rfl hdV_X6_ended ⟨Nat.le_of_ble_eq_true rfl, Nat.le_of_ble_eq_true rfl⟩ [16, 17] rfl rfl 16 rfl rfl rfl hl.1 (Nat.le_of_ble_eq_true rfl) dX6_takeStart_73 ⟨Nat.le_of_ble_eq_true rfl, Nat.le_of_ble_eq_true rfl⟩) (fun r_36 u_36 H locs hp_36 G => ?_)
          obtain ⟨b_36a, v_36b⟩ := u_36
          try dsimp only at hp_36
          obtain ⟨hI_b_36a, hq_36⟩ := hp_36
          have hO_b_36a := hI_b_36a
          obtain ⟨hd0_b_36a, hd1_b_36a⟩ := hO_b_36a
          have G : wd X (va_A (@HAppend.hAppend va_W va_W va_W _ (rdV X h0 hb n bd vd fd) (rcV X hn an sv dv n0 n1 n2 n3 n4 g0 gs gn gm)) sz) (va_A (@HAppend.hAppend va_W va_W va_W _ (rdV X h0 hb n bd vd fd) (rcV X hn an sv dv n0 n1 n2 n3 n4 g0 gs gn gm)) sz) s (@HAppend.hAppend va_W va_W va_W _ (rcV X hn an sv dv n0 n1 n2 n3 n4 g0 gs gn gm) (rdV X h0 hb n b_36a v_36b fd)) H locs := G
          have ht_36 : scanP qB fd n (b_35a 0) = t3 fd n s0 := by rw [hy1_35]; rfl
          rw [ht_36] at hq_36
          obtain ⟨⟨hy0_36, hy1_36⟩, hr_36⟩ := hq_36
          rcases hr_36 with ⟨hn_36, hv_36, hf_36⟩ | ⟨hn_36, hv_36, hf_36⟩
          · obtain rfl := hv_36
            refine lv_if_eq (tgt := 94) zx zb dX6_takeStart_76 (by decide) (fun c_37 => absurd c_37 (by decide)) (fun c_37 => ?_)
            refine lv_iload_n zx zb dX6_takeStart_79 rfl (lv_at hl 1 rfl) ?_
            refine lv_if_eq (tgt := 94) zx zb dX6_takeStart_80 (by decide) (fun c_38 => absurd c_38 (by decide)) (fun c_38 => ?_)
            refine lv_aload_n zx zb dX6_takeStart_83 rfl (lv_at hl 4 rfl) ?_
            refine r_get (C := RX5) (T := TX5) (N := 8) (ci := 3) (v := .ref (an 0)) S in_X6_takeStart_X5 G 0 rfl rfl 3 (by decide) lk_X6_takeStart_95 rfl dX6_takeStart_84 ?_
            refine lv_iload_n zx zb dX6_takeStart_87 rfl (lv_at hl 2 rfl) ?_
            refine r_aald (C := RX8) (b := (an 3)) S G 1 3 rfl rfl (k_vp (by decide)) rfl dX6_takeStart_88 ?_
            refine lv_iload zx zb dX6_takeStart_89 (lv_at hl 0 rfl) ?_
            refine r_put (C := RX8) (T := TX8) (N := 8) (ci := 6) (v := .int r_35) S in_X6_takeStart_X8 tyX8_ok nmX8 G 4 rfl rfl 4 (by decide) lk_X6_takeStart_112 rfl (vp_nar_int _) rfl (Nat.le_of_ble_eq_true rfl) dX6_takeStart_91 (fun H locs G => ?_)
            have G : wd X (va_A (@HAppend.hAppend va_W va_W va_W _ (rdV X h0 hb n bd vd fd) (rcV X hn an sv dv n0 n1 n2 n3 n4 g0 gs gn gm)) sz) (va_A (@HAppend.hAppend va_W va_W va_W _ (rdV X h0 hb n bd vd fd) (rcV X hn an sv dv n0 n1 n2 n3 n4 g0 gs gn gm)) sz) s (@HAppend.hAppend va_W va_W va_W _ (rcV X hn an sv (upd dv 21 r_35) n0 n1 n2 n3 n4 g0 gs gn gm) (rdV X h0 hb n b_36a v_36b fd)) H locs := G
            exact e_void S zr zlk G (b_36a, v_36b, (upd dv 21 r_35)) [16, 17, 0, 1, 2, 3, 4, 5, 6, 7, 8, 9, 10, 11, 12, 13, 14, 15] rfl rfl (Or.inr rfl) (⟨hI_b_36a, Or.inl ⟨by rw [staC, chk_t (numB_t.mpr hn_1), chk_t (decide_eq_true (show dv (14 + 5 * (tV fd n (tN fd n s0)).toNatClampNeg) = -1 from by rw [ejx]; exact hh_33)), chk_t (numB_t.mpr hn_35), chk_t (stpB_t hn_36)]; rfl, by rw [ejx, ← hv_35]; rfl, hf_36, hy1_36⟩⟩) dX6_takeStart_94
          · obtain rfl := hv_36
            refine lv_if_eq (tgt := 94) zx zb dX6_takeStart_76 (by decide) (fun c_39 => ?_) (fun c_39 => absurd (by decide) c_39)
            exact e_void S zr zlk G (b_36a, v_36b, dv) [16, 17, 0, 1, 2, 3, 4, 5, 6, 7, 8, 9, 10, 11, 12, 13, 14, 15] rfl rfl (Or.inr rfl) (⟨hI_b_36a, Or.inr ⟨_, by rw [staC, chk_t (numB_t.mpr hn_1), chk_t (decide_eq_true (show dv (14 + 5 * (tV fd n (tN fd n s0)).toNatClampNeg) = -1 from by rw [ejx]; exact hh_33)), chk_t (numB_t.mpr hn_35), chk_f (stpB_f hn_36)], hf_36, by first | omega | (dsimp only; omega)⟩⟩) dX6_takeStart_94
        · obtain rfl := hv_35
          refine lv_istore (lv' := [(4, .int (-1)), (3, .int 1), (2, .int 2), (0, .ref h0), (1, .ref hn)]) zx zb dX6_takeStart_70 hl (by decide) rfl (fun ls hl => ?_)
          refine lv_aload_n zx zb dX6_takeStart_72 rfl (lv_at hl 3 rfl) ?_
          refine o_ri (cells' := 0) (slots' := 0) G rfl rfl (n_V (As := []) (rest := []) (C := RX6) (T := TX6) (N := 7) (ci := 4) S G (x_endF l X h0 hb n b_35a v_35b fd hI_n hI_b_35a (k_nf hf_35 (by have := hT1; omega)) H.size) gX6_takeStart_X6_ended rfl rfl rfl hdV_X6_ended ⟨Nat.le_of_ble_eq_true rfl, Nat.le_of_ble_eq_true rfl⟩ [16, 17] rfl rfl 16 rfl rfl rfl hl.1 (Nat.le_of_ble_eq_true rfl) dX6_takeStart_73 ⟨Nat.le_of_ble_eq_true rfl, Nat.le_of_ble_eq_true rfl⟩) (fun r_40 u_40 H locs hp_40 G => ?_)
          have G : wd X (va_A (@HAppend.hAppend va_W va_W va_W _ (rdV X h0 hb n bd vd fd) (rcV X hn an sv dv n0 n1 n2 n3 n4 g0 gs gn gm)) sz) (va_A (@HAppend.hAppend va_W va_W va_W _ (rdV X h0 hb n bd vd fd) (rcV X hn an sv dv n0 n1 n2 n3 n4 g0 gs gn gm)) sz) s (@HAppend.hAppend va_W va_W va_W _ (rcV X hn an sv dv n0 n1 n2 n3 n4 g0 gs gn gm) (rdV X h0 hb n b_35a v_35b fd)) H locs := G
          obtain rfl := hp_40
          refine lv_if_eq (tgt := 94) zx zb dX6_takeStart_76 (by decide) (fun c_41 => ?_) (fun c_41 => absurd (by decide) c_41)
          exact e_void S zr zlk G (b_35a, v_35b, dv) [16, 17, 0, 1, 2, 3, 4, 5, 6, 7, 8, 9, 10, 11, 12, 13, 14, 15] rfl rfl (Or.inr rfl) (⟨hI_b_35a, Or.inr ⟨_, by rw [staC, chk_t (numB_t.mpr hn_1), chk_t (decide_eq_true (show dv (14 + 5 * (tV fd n (tN fd n s0)).toNatClampNeg) = -1 from by rw [ejx]; exact hh_33)), chk_f (numB_f hn_35)], hf_35, by first | omega | (dsimp only; omega)⟩⟩) dX6_takeStart_94
      · refine lv_if_eq (tgt := 54) zx zb dX6_takeStart_43 (by decide) (fun c_42 => absurd c_42 (by decide)) (fun c_42 => ?_)
        refine lv_aload_n zx zb dX6_takeStart_46 rfl (lv_at hl 2 rfl) ?_
        refine lv_aload_n zx zb dX6_takeStart_47 rfl (lv_at hl 2 rfl) ?_
        refine r_get (C := RX6) (T := TX6) (N := 7) (ci := 4) (v := .int (nI (b_1a 1))) S in_X6_takeStart_X6 G 16 rfl rfl 3 (by decide) lk_X6_takeStart_22 rfl dX6_takeStart_48 ?_
        refine r_put (C := RX6) (T := TX6) (N := 7) (ci := 4) (v := .int (nI (b_1a 1))) S in_X6_takeStart_X6 tyX6_ok nmX6 G 16 rfl rfl 6 (by decide) lk_X6_takeStart_31 rfl (vp_nar_int _) rfl (Nat.le_of_ble_eq_true rfl) dX6_takeStart_51 (fun H locs G => ?_)
        obtain ⟨v_43, ⟨hE_v_43_2, hE_v_43_0, hE_v_43_1⟩, G⟩ : ∃ v_43 : Nat → Int32, (v_43 2 = (nI (b_1a 1)) ∧ v_43 0 = v_1b 0 ∧ v_43 1 = v_1b 1) ∧ wd X (va_A (@HAppend.hAppend va_W va_W va_W _ (rdV X h0 hb n bd vd fd) (rcV X hn an sv dv n0 n1 n2 n3 n4 g0 gs gn gm)) sz) (va_A (@HAppend.hAppend va_W va_W va_W _ (rdV X h0 hb n bd vd fd) (rcV X hn an sv dv n0 n1 n2 n3 n4 g0 gs gn gm)) sz) s (@HAppend.hAppend va_W va_W va_W _ (rcV X hn an sv dv n0 n1 n2 n3 n4 g0 gs gn gm) (rdV X h0 hb n b_1a v_43 fd)) H locs := ⟨upd v_1b 2 (nI (b_1a 1)), ⟨rfl, rfl, rfl⟩, G⟩
        refine lv_aload_n zx zb dX6_takeStart_54 rfl (lv_at hl 2 rfl) ?_
        refine lv_iconst (v := 0) zx zb dX6_takeStart_55 (by decide) ?_
        refine lv_bipush (v := 30) zx zb dX6_takeStart_56 (by decide) ?_
        refine lv_aload_n zx zb dX6_takeStart_58 rfl (lv_at hl 3 rfl) ?_
        refine r_get (C := RX5) (T := TX5) (N := 8) (ci := 3) (v := .int (dv 0)) S in_X6_takeStart_X5 G 0 rfl rfl 0 (by decide) lk_X6_takeStart_106 rfl dX6_takeStart_59 ?_
        refine lv_iconst (v := 1) zx zb dX6_takeStart_62 (by decide) ?_
        refine r_isub (v := ((dv 0) - 1)) S rfl dX6_takeStart_63 ?_
        refine r_mmin (v := mstP dv) S hl.1 mm_X6_takeStart_ml107 mm_X6_takeStart_msmin mm_X6_takeStart_mi mm_X6_takeStart_mcmin (Nat.le_of_ble_eq_true rfl) (Nat.le_of_ble_eq_true rfl) (Nat.zero_le _) (Nat.zero_le _) rfl dX6_takeStart_64 ?_
        refine o_ri (cells' := 0) (slots' := 0) G rfl rfl (n_V (As := [.int 0, .int (mstP dv)]) (rest := []) (C := RX6) (T := TX6) (N := 7) (ci := 4) S G (x_numF l X h0 hb n b_1a v_43 fd 0 (mstP dv) hI_n hI_b_1a (k_nf (hE_v_43_2.trans (congrArg nI hy0_1)) (by omega)) H.size) gX6_takeStart_X6_number rfl rfl rfl hdV_X6_number ⟨Nat.le_of_ble_eq_true rfl, Nat.le_of_ble_eq_true rfl⟩ [16, 17] rfl rfl 16 rfl rfl rfl hl.1 (Nat.le_of_ble_eq_true rfl) dX6_takeStart_67 ⟨Nat.le_of_ble_eq_true rfl, Nat.le_of_ble_eq_true rfl⟩) (fun r_44 u_44 H locs hp_44 G => ?_)
        have G : wd X (va_A (@HAppend.hAppend va_W va_W va_W _ (rdV X h0 hb n bd vd fd) (rcV X hn an sv dv n0 n1 n2 n3 n4 g0 gs gn gm)) sz) (va_A (@HAppend.hAppend va_W va_W va_W _ (rdV X h0 hb n bd vd fd) (rcV X hn an sv dv n0 n1 n2 n3 n4 g0 gs gn gm)) sz) s (@HAppend.hAppend va_W va_W va_W _ (rcV X hn an sv dv n0 n1 n2 n3 n4 g0 gs gn gm) (rdV X h0 hb n b_1a v_43 fd)) H locs := G
        obtain rfl := hp_44
        refine lv_istore (lv' := [(4, .int (-1)), (3, .int 1), (2, .int 2), (0, .ref h0), (1, .ref hn)]) zx zb dX6_takeStart_70 hl (by decide) rfl (fun ls hl => ?_)
        refine lv_aload_n zx zb dX6_takeStart_72 rfl (lv_at hl 3 rfl) ?_
        refine o_ri (cells' := 0) (slots' := 0) G rfl rfl (n_V (As := []) (rest := []) (C := RX6) (T := TX6) (N := 7) (ci := 4) S G (x_endF l X h0 hb n b_1a v_43 fd hI_n hI_b_1a (k_nf (hE_v_43_2.trans (congrArg nI hy0_1)) (by omega)) H.size) gX6_takeStart_X6_ended rfl rfl rfl hdV_X6_ended ⟨Nat.le_of_ble_eq_true rfl, Nat.le_of_ble_eq_true rfl⟩ [16, 17] rfl rfl 16 rfl rfl rfl hl.1 (Nat.le_of_ble_eq_true rfl) dX6_takeStart_73 ⟨Nat.le_of_ble_eq_true rfl, Nat.le_of_ble_eq_true rfl⟩) (fun r_45 u_45 H locs hp_45 G => ?_)
        have G : wd X (va_A (@HAppend.hAppend va_W va_W va_W _ (rdV X h0 hb n bd vd fd) (rcV X hn an sv dv n0 n1 n2 n3 n4 g0 gs gn gm)) sz) (va_A (@HAppend.hAppend va_W va_W va_W _ (rdV X h0 hb n bd vd fd) (rcV X hn an sv dv n0 n1 n2 n3 n4 g0 gs gn gm)) sz) s (@HAppend.hAppend va_W va_W va_W _ (rcV X hn an sv dv n0 n1 n2 n3 n4 g0 gs gn gm) (rdV X h0 hb n b_1a v_43 fd)) H locs := G
        obtain rfl := hp_45
        refine lv_if_eq (tgt := 94) zx zb dX6_takeStart_76 (by decide) (fun c_46 => ?_) (fun c_46 => absurd (by decide) c_46)
        exact e_void S zr zlk G (b_1a, v_43, dv) [16, 17, 0, 1, 2, 3, 4, 5, 6, 7, 8, 9, 10, 11, 12, 13, 14, 15] rfl rfl (Or.inr rfl) (⟨hI_b_1a, Or.inr ⟨_, by rw [staC, chk_t (numB_t.mpr hn_1), chk_f (decide_eq_false (show ¬ dv (14 + 5 * (tV fd n (tN fd n s0)).toNatClampNeg) = -1 from by rw [ejx]; exact hh_33))], hE_v_43_2.trans (congrArg nI hy0_1), by first | omega | (dsimp only; omega)⟩⟩) dX6_takeStart_94
    · refine k_it (v := 3) rfl ?_
      refine r_aald (C := RX8) (b := (an 4)) S G 1 3 rfl rfl (k_vp (by decide)) rfl dX6_takeStart_39 ?_
      refine o_ri (cells' := 0) (slots' := 0) G rfl rfl (n_V (As := []) (rest := []) (C := RX8) (T := TX8) (N := 8) (ci := 6) S G (x_isHome l X (an 4) (fun k => sv (9 + k)) (fun k => dv (25 + k)) H.size) gX6_takeStart_X8_isHome rfl rfl rfl hdV_X8_isHome ⟨Nat.le_of_ble_eq_true rfl, Nat.le_of_ble_eq_true rfl⟩ [5] rfl rfl 5 rfl rfl rfl hl.1 (Nat.le_of_ble_eq_true rfl) dX6_takeStart_40 ⟨Nat.le_of_ble_eq_true rfl, Nat.le_of_ble_eq_true rfl⟩) (fun r_47 u_47 H locs hp_47 G => ?_)
      have G : wd X (va_A (@HAppend.hAppend va_W va_W va_W _ (rdV X h0 hb n bd vd fd) (rcV X hn an sv dv n0 n1 n2 n3 n4 g0 gs gn gm)) sz) (va_A (@HAppend.hAppend va_W va_W va_W _ (rdV X h0 hb n bd vd fd) (rcV X hn an sv dv n0 n1 n2 n3 n4 g0 gs gn gm)) sz) s (@HAppend.hAppend va_W va_W va_W _ (rcV X hn an sv dv n0 n1 n2 n3 n4 g0 gs gn gm) (rdV X h0 hb n b_1a v_1b fd)) H locs := G
      rcases hp_47 with ⟨rfl, hh_47⟩ | ⟨rfl, hh_47⟩
      · refine lv_if_eq (tgt := 54) zx zb dX6_takeStart_43 (by decide) (fun c_48 => ?_) (fun c_48 => absurd (by decide) c_48)
        refine lv_aload_n zx zb dX6_takeStart_54 rfl (lv_at hl 2 rfl) ?_
        refine lv_iconst (v := 0) zx zb dX6_takeStart_55 (by decide) ?_
        refine lv_bipush (v := 30) zx zb dX6_takeStart_56 (by decide) ?_
        refine lv_aload_n zx zb dX6_takeStart_58 rfl (lv_at hl 3 rfl) ?_
        refine r_get (C := RX5) (T := TX5) (N := 8) (ci := 3) (v := .int (dv 0)) S in_X6_takeStart_X5 G 0 rfl rfl 0 (by decide) lk_X6_takeStart_106 rfl dX6_takeStart_59 ?_
        refine lv_iconst (v := 1) zx zb dX6_takeStart_62 (by decide) ?_
        refine r_isub (v := ((dv 0) - 1)) S rfl dX6_takeStart_63 ?_
        refine r_mmin (v := mstP dv) S hl.1 mm_X6_takeStart_ml107 mm_X6_takeStart_msmin mm_X6_takeStart_mi mm_X6_takeStart_mcmin (Nat.le_of_ble_eq_true rfl) (Nat.le_of_ble_eq_true rfl) (Nat.zero_le _) (Nat.zero_le _) rfl dX6_takeStart_64 ?_
        refine b_wi (cells' := 0) (slots' := 0) (wr := rcV X hn an sv dv n0 n1 n2 n3 n4 g0 gs gn gm) G rfl rfl [16, 17] [0, 1, 2, 3, 4, 5, 6, 7, 8, 9, 10, 11, 12, 13, 14, 15] rfl rfl rfl rfl (n_V (As := [.int 0, .int (mstP dv)]) (rest := []) (C := RX6) (T := TX6) (N := 7) (ci := 4) S G (x_numN l X h0 hb n b_1a v_1b fd 0 (mstP dv) hI_n hI_b_1a (by have := hT0; have := hT1; have := hT2; have := hT3; omega) hf_1 H.size) gX6_takeStart_X6_number rfl rfl rfl hdV_X6_number ⟨Nat.le_of_ble_eq_true rfl, Nat.le_of_ble_eq_true rfl⟩ [16, 17] rfl rfl 16 rfl rfl rfl hl.1 (Nat.le_of_ble_eq_true rfl) dX6_takeStart_67 ⟨Nat.le_of_ble_eq_true rfl, Nat.le_of_ble_eq_true rfl⟩) (fun r_49 u_49 H locs hp_49 G => ?_)
        obtain ⟨b_49a, v_49b⟩ := u_49
        try dsimp only at hp_49
        obtain ⟨hI_b_49a, hq_49⟩ := hp_49
        have hO_b_49a := hI_b_49a
        obtain ⟨hd0_b_49a, hd1_b_49a⟩ := hO_b_49a
        have G : wd X (va_A (@HAppend.hAppend va_W va_W va_W _ (rdV X h0 hb n bd vd fd) (rcV X hn an sv dv n0 n1 n2 n3 n4 g0 gs gn gm)) sz) (va_A (@HAppend.hAppend va_W va_W va_W _ (rdV X h0 hb n bd vd fd) (rcV X hn an sv dv n0 n1 n2 n3 n4 g0 gs gn gm)) sz) s (@HAppend.hAppend va_W va_W va_W _ (rcV X hn an sv dv n0 n1 n2 n3 n4 g0 gs gn gm) (rdV X h0 hb n b_49a v_49b fd)) H locs := G
        have ht_49 : scanP qB fd n (b_1a 0) = t2 fd n s0 := by rw [hy1_1]; rfl
        rw [ht_49] at hq_49
        obtain ⟨⟨hy0_49, hy1_49⟩, hr_49⟩ := hq_49
        rcases hr_49 with ⟨hn_49, hv_49, hf_49⟩ | ⟨hn_49, hv_49, hf_49⟩
        · refine lv_istore (lv' := [(4, .int r_49), (3, .int 1), (2, .int 3), (0, .ref h0), (1, .ref hn)]) zx zb dX6_takeStart_70 hl (by decide) rfl (fun ls hl => ?_)
          refine lv_aload_n zx zb dX6_takeStart_72 rfl (lv_at hl 3 rfl) ?_
          refine b_wi (cells' := 0) (slots' := 0) (wr := rcV X hn an sv dv n0 n1 n2 n3 n4 g0 gs gn gm) G rfl rfl [16, 17] [0, 1, 2, 3, 4, 5, 6, 7, 8, 9, 10, 11, 12, 13, 14, 15] rfl rfl rfl rfl (n_V (As := []) (rest := []) (C := RX6) (T := TX6) (N := 7) (ci := 4) S G (x_endN l X h0 hb n b_49a v_49b fd hI_n hI_b_49a (by have := hT0; have := hT1; have := hT2; have := hT3; omega) hf_49 H.size) gX6_takeStart_X6_ended rfl rfl rfl hdV_X6_ended ⟨Nat.le_of_ble_eq_true rfl, Nat.le_of_ble_eq_true rfl⟩ [16, 17] rfl rfl 16 rfl rfl rfl hl.1 (Nat.le_of_ble_eq_true rfl) dX6_takeStart_73 ⟨Nat.le_of_ble_eq_true rfl, Nat.le_of_ble_eq_true rfl⟩) (fun r_50 u_50 H locs hp_50 G => ?_)
          obtain ⟨b_50a, v_50b⟩ := u_50
          try dsimp only at hp_50
          obtain ⟨hI_b_50a, hq_50⟩ := hp_50
          have hO_b_50a := hI_b_50a
          obtain ⟨hd0_b_50a, hd1_b_50a⟩ := hO_b_50a
          have G : wd X (va_A (@HAppend.hAppend va_W va_W va_W _ (rdV X h0 hb n bd vd fd) (rcV X hn an sv dv n0 n1 n2 n3 n4 g0 gs gn gm)) sz) (va_A (@HAppend.hAppend va_W va_W va_W _ (rdV X h0 hb n bd vd fd) (rcV X hn an sv dv n0 n1 n2 n3 n4 g0 gs gn gm)) sz) s (@HAppend.hAppend va_W va_W va_W _ (rcV X hn an sv dv n0 n1 n2 n3 n4 g0 gs gn gm) (rdV X h0 hb n b_50a v_50b fd)) H locs := G
          have ht_50 : scanP qB fd n (b_49a 0) = t3 fd n s0 := by rw [hy1_49]; rfl
          rw [ht_50] at hq_50
          obtain ⟨⟨hy0_50, hy1_50⟩, hr_50⟩ := hq_50
          rcases hr_50 with ⟨hn_50, hv_50, hf_50⟩ | ⟨hn_50, hv_50, hf_50⟩
          · obtain rfl := hv_50
            refine lv_if_eq (tgt := 94) zx zb dX6_takeStart_76 (by decide) (fun c_51 => absurd c_51 (by decide)) (fun c_51 => ?_)
            refine lv_iload_n zx zb dX6_takeStart_79 rfl (lv_at hl 1 rfl) ?_
            refine lv_if_eq (tgt := 94) zx zb dX6_takeStart_80 (by decide) (fun c_52 => absurd c_52 (by decide)) (fun c_52 => ?_)
            refine lv_aload_n zx zb dX6_takeStart_83 rfl (lv_at hl 4 rfl) ?_
            refine r_get (C := RX5) (T := TX5) (N := 8) (ci := 3) (v := .ref (an 0)) S in_X6_takeStart_X5 G 0 rfl rfl 3 (by decide) lk_X6_takeStart_95 rfl dX6_takeStart_84 ?_
            refine lv_iload_n zx zb dX6_takeStart_87 rfl (lv_at hl 2 rfl) ?_
            refine r_aald (C := RX8) (b := (an 4)) S G 1 3 rfl rfl (k_vp (by decide)) rfl dX6_takeStart_88 ?_
            refine lv_iload zx zb dX6_takeStart_89 (lv_at hl 0 rfl) ?_
            refine r_put (C := RX8) (T := TX8) (N := 8) (ci := 6) (v := .int r_49) S in_X6_takeStart_X8 tyX8_ok nmX8 G 5 rfl rfl 4 (by decide) lk_X6_takeStart_112 rfl (vp_nar_int _) rfl (Nat.le_of_ble_eq_true rfl) dX6_takeStart_91 (fun H locs G => ?_)
            have G : wd X (va_A (@HAppend.hAppend va_W va_W va_W _ (rdV X h0 hb n bd vd fd) (rcV X hn an sv dv n0 n1 n2 n3 n4 g0 gs gn gm)) sz) (va_A (@HAppend.hAppend va_W va_W va_W _ (rdV X h0 hb n bd vd fd) (rcV X hn an sv dv n0 n1 n2 n3 n4 g0 gs gn gm)) sz) s (@HAppend.hAppend va_W va_W va_W _ (rcV X hn an sv (upd dv 26 r_49) n0 n1 n2 n3 n4 g0 gs gn gm) (rdV X h0 hb n b_50a v_50b fd)) H locs := G
            exact e_void S zr zlk G (b_50a, v_50b, (upd dv 26 r_49)) [16, 17, 0, 1, 2, 3, 4, 5, 6, 7, 8, 9, 10, 11, 12, 13, 14, 15] rfl rfl (Or.inr rfl) (⟨hI_b_50a, Or.inl ⟨by rw [staC, chk_t (numB_t.mpr hn_1), chk_t (decide_eq_true (show dv (14 + 5 * (tV fd n (tN fd n s0)).toNatClampNeg) = -1 from by rw [ejx]; exact hh_47)), chk_t (numB_t.mpr hn_49), chk_t (stpB_t hn_50)]; rfl, by rw [ejx, ← hv_49]; rfl, hf_50, hy1_50⟩⟩) dX6_takeStart_94
          · obtain rfl := hv_50
            refine lv_if_eq (tgt := 94) zx zb dX6_takeStart_76 (by decide) (fun c_53 => ?_) (fun c_53 => absurd (by decide) c_53)
            exact e_void S zr zlk G (b_50a, v_50b, dv) [16, 17, 0, 1, 2, 3, 4, 5, 6, 7, 8, 9, 10, 11, 12, 13, 14, 15] rfl rfl (Or.inr rfl) (⟨hI_b_50a, Or.inr ⟨_, by rw [staC, chk_t (numB_t.mpr hn_1), chk_t (decide_eq_true (show dv (14 + 5 * (tV fd n (tN fd n s0)).toNatClampNeg) = -1 from by rw [ejx]; exact hh_47)), chk_t (numB_t.mpr hn_49), chk_f (stpB_f hn_50)], hf_50, by first | omega | (dsimp only; omega)⟩⟩) dX6_takeStart_94
        · obtain rfl := hv_49
          refine lv_istore (lv' := [(4, .int (-1)), (3, .int 1), (2, .int 3), (0, .ref h0), (1, .ref hn)]) zx zb dX6_takeStart_70 hl (by decide) rfl (fun ls hl => ?_)
          refine lv_aload_n zx zb dX6_takeStart_72 rfl (lv_at hl 3 rfl) ?_
          refine o_ri (cells' := 0) (slots' := 0) G rfl rfl (n_V (As := []) (rest := []) (C := RX6) (T := TX6) (N := 7) (ci := 4) S G (x_endF l X h0 hb n b_49a v_49b fd hI_n hI_b_49a (k_nf hf_49 (by have := hT1; omega)) H.size) gX6_takeStart_X6_ended rfl rfl rfl hdV_X6_ended ⟨Nat.le_of_ble_eq_true rfl, Nat.le_of_ble_eq_true rfl⟩ [16, 17] rfl rfl 16 rfl rfl rfl hl.1 (Nat.le_of_ble_eq_true rfl) dX6_takeStart_73 ⟨Nat.le_of_ble_eq_true rfl, Nat.le_of_ble_eq_true rfl⟩) (fun r_54 u_54 H locs hp_54 G => ?_)
          have G : wd X (va_A (@HAppend.hAppend va_W va_W va_W _ (rdV X h0 hb n bd vd fd) (rcV X hn an sv dv n0 n1 n2 n3 n4 g0 gs gn gm)) sz) (va_A (@HAppend.hAppend va_W va_W va_W _ (rdV X h0 hb n bd vd fd) (rcV X hn an sv dv n0 n1 n2 n3 n4 g0 gs gn gm)) sz) s (@HAppend.hAppend va_W va_W va_W _ (rcV X hn an sv dv n0 n1 n2 n3 n4 g0 gs gn gm) (rdV X h0 hb n b_49a v_49b fd)) H locs := G
          obtain rfl := hp_54
          refine lv_if_eq (tgt := 94) zx zb dX6_takeStart_76 (by decide) (fun c_55 => ?_) (fun c_55 => absurd (by decide) c_55)
          exact e_void S zr zlk G (b_49a, v_49b, dv) [16, 17, 0, 1, 2, 3, 4, 5, 6, 7, 8, 9, 10, 11, 12, 13, 14, 15] rfl rfl (Or.inr rfl) (⟨hI_b_49a, Or.inr ⟨_, by rw [staC, chk_t (numB_t.mpr hn_1), chk_t (decide_eq_true (show dv (14 + 5 * (tV fd n (tN fd n s0)).toNatClampNeg) = -1 from by rw [ejx]; exact hh_47)), chk_f (numB_f hn_49)], hf_49, by first | omega | (dsimp only; omega)⟩⟩) dX6_takeStart_94
      · refine lv_if_eq (tgt := 54) zx zb dX6_takeStart_43 (by decide) (fun c_56 => absurd c_56 (by decide)) (fun c_56 => ?_)
        refine lv_aload_n zx zb dX6_takeStart_46 rfl (lv_at hl 2 rfl) ?_
        refine lv_aload_n zx zb dX6_takeStart_47 rfl (lv_at hl 2 rfl) ?_
        refine r_get (C := RX6) (T := TX6) (N := 7) (ci := 4) (v := .int (nI (b_1a 1))) S in_X6_takeStart_X6 G 16 rfl rfl 3 (by decide) lk_X6_takeStart_22 rfl dX6_takeStart_48 ?_
        refine r_put (C := RX6) (T := TX6) (N := 7) (ci := 4) (v := .int (nI (b_1a 1))) S in_X6_takeStart_X6 tyX6_ok nmX6 G 16 rfl rfl 6 (by decide) lk_X6_takeStart_31 rfl (vp_nar_int _) rfl (Nat.le_of_ble_eq_true rfl) dX6_takeStart_51 (fun H locs G => ?_)
        obtain ⟨v_57, ⟨hE_v_57_2, hE_v_57_0, hE_v_57_1⟩, G⟩ : ∃ v_57 : Nat → Int32, (v_57 2 = (nI (b_1a 1)) ∧ v_57 0 = v_1b 0 ∧ v_57 1 = v_1b 1) ∧ wd X (va_A (@HAppend.hAppend va_W va_W va_W _ (rdV X h0 hb n bd vd fd) (rcV X hn an sv dv n0 n1 n2 n3 n4 g0 gs gn gm)) sz) (va_A (@HAppend.hAppend va_W va_W va_W _ (rdV X h0 hb n bd vd fd) (rcV X hn an sv dv n0 n1 n2 n3 n4 g0 gs gn gm)) sz) s (@HAppend.hAppend va_W va_W va_W _ (rcV X hn an sv dv n0 n1 n2 n3 n4 g0 gs gn gm) (rdV X h0 hb n b_1a v_57 fd)) H locs := ⟨upd v_1b 2 (nI (b_1a 1)), ⟨rfl, rfl, rfl⟩, G⟩
        refine lv_aload_n zx zb dX6_takeStart_54 rfl (lv_at hl 2 rfl) ?_
        refine lv_iconst (v := 0) zx zb dX6_takeStart_55 (by decide) ?_
        refine lv_bipush (v := 30) zx zb dX6_takeStart_56 (by decide) ?_
        refine lv_aload_n zx zb dX6_takeStart_58 rfl (lv_at hl 3 rfl) ?_
        refine r_get (C := RX5) (T := TX5) (N := 8) (ci := 3) (v := .int (dv 0)) S in_X6_takeStart_X5 G 0 rfl rfl 0 (by decide) lk_X6_takeStart_106 rfl dX6_takeStart_59 ?_
        refine lv_iconst (v := 1) zx zb dX6_takeStart_62 (by decide) ?_
        refine r_isub (v := ((dv 0) - 1)) S rfl dX6_takeStart_63 ?_
        refine r_mmin (v := mstP dv) S hl.1 mm_X6_takeStart_ml107 mm_X6_takeStart_msmin mm_X6_takeStart_mi mm_X6_takeStart_mcmin (Nat.le_of_ble_eq_true rfl) (Nat.le_of_ble_eq_true rfl) (Nat.zero_le _) (Nat.zero_le _) rfl dX6_takeStart_64 ?_
        refine o_ri (cells' := 0) (slots' := 0) G rfl rfl (n_V (As := [.int 0, .int (mstP dv)]) (rest := []) (C := RX6) (T := TX6) (N := 7) (ci := 4) S G (x_numF l X h0 hb n b_1a v_57 fd 0 (mstP dv) hI_n hI_b_1a (k_nf (hE_v_57_2.trans (congrArg nI hy0_1)) (by omega)) H.size) gX6_takeStart_X6_number rfl rfl rfl hdV_X6_number ⟨Nat.le_of_ble_eq_true rfl, Nat.le_of_ble_eq_true rfl⟩ [16, 17] rfl rfl 16 rfl rfl rfl hl.1 (Nat.le_of_ble_eq_true rfl) dX6_takeStart_67 ⟨Nat.le_of_ble_eq_true rfl, Nat.le_of_ble_eq_true rfl⟩) (fun r_58 u_58 H locs hp_58 G => ?_)
        have G : wd X (va_A (@HAppend.hAppend va_W va_W va_W _ (rdV X h0 hb n bd vd fd) (rcV X hn an sv dv n0 n1 n2 n3 n4 g0 gs gn gm)) sz) (va_A (@HAppend.hAppend va_W va_W va_W _ (rdV X h0 hb n bd vd fd) (rcV X hn an sv dv n0 n1 n2 n3 n4 g0 gs gn gm)) sz) s (@HAppend.hAppend va_W va_W va_W _ (rcV X hn an sv dv n0 n1 n2 n3 n4 g0 gs gn gm) (rdV X h0 hb n b_1a v_57 fd)) H locs := G
        obtain rfl := hp_58
        refine lv_istore (lv' := [(4, .int (-1)), (3, .int 1), (2, .int 3), (0, .ref h0), (1, .ref hn)]) zx zb dX6_takeStart_70 hl (by decide) rfl (fun ls hl => ?_)
        refine lv_aload_n zx zb dX6_takeStart_72 rfl (lv_at hl 3 rfl) ?_
        refine o_ri (cells' := 0) (slots' := 0) G rfl rfl (n_V (As := []) (rest := []) (C := RX6) (T := TX6) (N := 7) (ci := 4) S G (x_endF l X h0 hb n b_1a v_57 fd hI_n hI_b_1a (k_nf (hE_v_57_2.trans (congrArg nI hy0_1)) (by omega)) H.size) gX6_takeStart_X6_ended rfl rfl rfl hdV_X6_ended ⟨Nat.le_of_ble_eq_true rfl, Nat.le_of_ble_eq_true rfl⟩ [16, 17] rfl rfl 16 rfl rfl rfl hl.1 (Nat.le_of_ble_eq_true rfl) dX6_takeStart_73 ⟨Nat.le_of_ble_eq_true rfl, Nat.le_of_ble_eq_true rfl⟩) (fun r_59 u_59 H locs hp_59 G => ?_)
        have G : wd X (va_A (@HAppend.hAppend va_W va_W va_W _ (rdV X h0 hb n bd vd fd) (rcV X hn an sv dv n0 n1 n2 n3 n4 g0 gs gn gm)) sz) (va_A (@HAppend.hAppend va_W va_W va_W _ (rdV X h0 hb n bd vd fd) (rcV X hn an sv dv n0 n1 n2 n3 n4 g0 gs gn gm)) sz) s (@HAppend.hAppend va_W va_W va_W _ (rcV X hn an sv dv n0 n1 n2 n3 n4 g0 gs gn gm) (rdV X h0 hb n b_1a v_57 fd)) H locs := G
        obtain rfl := hp_59
        refine lv_if_eq (tgt := 94) zx zb dX6_takeStart_76 (by decide) (fun c_60 => ?_) (fun c_60 => absurd (by decide) c_60)
        exact e_void S zr zlk G (b_1a, v_57, dv) [16, 17, 0, 1, 2, 3, 4, 5, 6, 7, 8, 9, 10, 11, 12, 13, 14, 15] rfl rfl (Or.inr rfl) (⟨hI_b_1a, Or.inr ⟨_, by rw [staC, chk_t (numB_t.mpr hn_1), chk_f (decide_eq_false (show ¬ dv (14 + 5 * (tV fd n (tN fd n s0)).toNatClampNeg) = -1 from by rw [ejx]; exact hh_47))], hE_v_57_2.trans (congrArg nI hy0_1), by first | omega | (dsimp only; omega)⟩⟩) dX6_takeStart_94
    · refine k_it (v := 4) rfl ?_
      refine r_aald (C := RX8) (b := (an 5)) S G 1 3 rfl rfl (k_vp (by decide)) rfl dX6_takeStart_39 ?_
      refine o_ri (cells' := 0) (slots' := 0) G rfl rfl (n_V (As := []) (rest := []) (C := RX8) (T := TX8) (N := 8) (ci := 6) S G (x_isHome l X (an 5) (fun k => sv (12 + k)) (fun k => dv (30 + k)) H.size) gX6_takeStart_X8_isHome rfl rfl rfl hdV_X8_isHome ⟨Nat.le_of_ble_eq_true rfl, Nat.le_of_ble_eq_true rfl⟩ [6] rfl rfl 6 rfl rfl rfl hl.1 (Nat.le_of_ble_eq_true rfl) dX6_takeStart_40 ⟨Nat.le_of_ble_eq_true rfl, Nat.le_of_ble_eq_true rfl⟩) (fun r_61 u_61 H locs hp_61 G => ?_)
      have G : wd X (va_A (@HAppend.hAppend va_W va_W va_W _ (rdV X h0 hb n bd vd fd) (rcV X hn an sv dv n0 n1 n2 n3 n4 g0 gs gn gm)) sz) (va_A (@HAppend.hAppend va_W va_W va_W _ (rdV X h0 hb n bd vd fd) (rcV X hn an sv dv n0 n1 n2 n3 n4 g0 gs gn gm)) sz) s (@HAppend.hAppend va_W va_W va_W _ (rcV X hn an sv dv n0 n1 n2 n3 n4 g0 gs gn gm) (rdV X h0 hb n b_1a v_1b fd)) H locs := G
      rcases hp_61 with ⟨rfl, hh_61⟩ | ⟨rfl, hh_61⟩
      · refine lv_if_eq (tgt := 54) zx zb dX6_takeStart_43 (by decide) (fun c_62 => ?_) (fun c_62 => absurd (by decide) c_62)
        refine lv_aload_n zx zb dX6_takeStart_54 rfl (lv_at hl 2 rfl) ?_
        refine lv_iconst (v := 0) zx zb dX6_takeStart_55 (by decide) ?_
        refine lv_bipush (v := 30) zx zb dX6_takeStart_56 (by decide) ?_
        refine lv_aload_n zx zb dX6_takeStart_58 rfl (lv_at hl 3 rfl) ?_
        refine r_get (C := RX5) (T := TX5) (N := 8) (ci := 3) (v := .int (dv 0)) S in_X6_takeStart_X5 G 0 rfl rfl 0 (by decide) lk_X6_takeStart_106 rfl dX6_takeStart_59 ?_
        refine lv_iconst (v := 1) zx zb dX6_takeStart_62 (by decide) ?_
        refine r_isub (v := ((dv 0) - 1)) S rfl dX6_takeStart_63 ?_
        refine r_mmin (v := mstP dv) S hl.1 mm_X6_takeStart_ml107 mm_X6_takeStart_msmin mm_X6_takeStart_mi mm_X6_takeStart_mcmin (Nat.le_of_ble_eq_true rfl) (Nat.le_of_ble_eq_true rfl) (Nat.zero_le _) (Nat.zero_le _) rfl dX6_takeStart_64 ?_
        refine b_wi (cells' := 0) (slots' := 0) (wr := rcV X hn an sv dv n0 n1 n2 n3 n4 g0 gs gn gm) G rfl rfl [16, 17] [0, 1, 2, 3, 4, 5, 6, 7, 8, 9, 10, 11, 12, 13, 14, 15] rfl rfl rfl rfl (n_V (As := [.int 0, .int (mstP dv)]) (rest := []) (C := RX6) (T := TX6) (N := 7) (ci := 4) S G (x_numN l X h0 hb n b_1a v_1b fd 0 (mstP dv) hI_n hI_b_1a (by have := hT0; have := hT1; have := hT2; have := hT3; omega) hf_1 H.size) gX6_takeStart_X6_number rfl rfl rfl hdV_X6_number ⟨Nat.le_of_ble_eq_true rfl, Nat.le_of_ble_eq_true rfl⟩ [16, 17] rfl rfl 16 rfl rfl rfl hl.1 (Nat.le_of_ble_eq_true rfl) dX6_takeStart_67 ⟨Nat.le_of_ble_eq_true rfl, Nat.le_of_ble_eq_true rfl⟩) (fun r_63 u_63 H locs hp_63 G => ?_)
        obtain ⟨b_63a, v_63b⟩ := u_63
        try dsimp only at hp_63
        obtain ⟨hI_b_63a, hq_63⟩ := hp_63
        have hO_b_63a := hI_b_63a
        obtain ⟨hd0_b_63a, hd1_b_63a⟩ := hO_b_63a
        have G : wd X (va_A (@HAppend.hAppend va_W va_W va_W _ (rdV X h0 hb n bd vd fd) (rcV X hn an sv dv n0 n1 n2 n3 n4 g0 gs gn gm)) sz) (va_A (@HAppend.hAppend va_W va_W va_W _ (rdV X h0 hb n bd vd fd) (rcV X hn an sv dv n0 n1 n2 n3 n4 g0 gs gn gm)) sz) s (@HAppend.hAppend va_W va_W va_W _ (rcV X hn an sv dv n0 n1 n2 n3 n4 g0 gs gn gm) (rdV X h0 hb n b_63a v_63b fd)) H locs := G
        have ht_63 : scanP qB fd n (b_1a 0) = t2 fd n s0 := by rw [hy1_1]; rfl
        rw [ht_63] at hq_63
        obtain ⟨⟨hy0_63, hy1_63⟩, hr_63⟩ := hq_63
        rcases hr_63 with ⟨hn_63, hv_63, hf_63⟩ | ⟨hn_63, hv_63, hf_63⟩
        · refine lv_istore (lv' := [(4, .int r_63), (3, .int 1), (2, .int 4), (0, .ref h0), (1, .ref hn)]) zx zb dX6_takeStart_70 hl (by decide) rfl (fun ls hl => ?_)
          refine lv_aload_n zx zb dX6_takeStart_72 rfl (lv_at hl 3 rfl) ?_
          refine b_wi (cells' := 0) (slots' := 0) (wr := rcV X hn an sv dv n0 n1 n2 n3 n4 g0 gs gn gm) G rfl rfl [16, 17] [0, 1, 2, 3, 4, 5, 6, 7, 8, 9, 10, 11, 12, 13, 14, 15] rfl rfl rfl rfl (n_V (As := []) (rest := []) (C := RX6) (T := TX6) (N := 7) (ci := 4) S G (x_endN l X h0 hb n b_63a v_63b fd hI_n hI_b_63a (by have := hT0; have := hT1; have := hT2; have := hT3; omega) hf_63 H.size) gX6_takeStart_X6_ended rfl rfl rfl hdV_X6_ended ⟨Nat.le_of_ble_eq_true rfl, Nat.le_of_ble_eq_true rfl⟩ [16, 17] rfl rfl 16 rfl rfl rfl hl.1 (Nat.le_of_ble_eq_true rfl) dX6_takeStart_73 ⟨Nat.le_of_ble_eq_true rfl, Nat.le_of_ble_eq_true rfl⟩) (fun r_64 u_64 H locs hp_64 G => ?_)
          obtain ⟨b_64a, v_64b⟩ := u_64
          try dsimp only at hp_64
          obtain ⟨hI_b_64a, hq_64⟩ := hp_64
          have hO_b_64a := hI_b_64a
          obtain ⟨hd0_b_64a, hd1_b_64a⟩ := hO_b_64a
          have G : wd X (va_A (@HAppend.hAppend va_W va_W va_W _ (rdV X h0 hb n bd vd fd) (rcV X hn an sv dv n0 n1 n2 n3 n4 g0 gs gn gm)) sz) (va_A (@HAppend.hAppend va_W va_W va_W _ (rdV X h0 hb n bd vd fd) (rcV X hn an sv dv n0 n1 n2 n3 n4 g0 gs gn gm)) sz) s (@HAppend.hAppend va_W va_W va_W _ (rcV X hn an sv dv n0 n1 n2 n3 n4 g0 gs gn gm) (rdV X h0 hb n b_64a v_64b fd)) H locs := G
          have ht_64 : scanP qB fd n (b_63a 0) = t3 fd n s0 := by rw [hy1_63]; rfl
          rw [ht_64] at hq_64
          obtain ⟨⟨hy0_64, hy1_64⟩, hr_64⟩ := hq_64
          rcases hr_64 with ⟨hn_64, hv_64, hf_64⟩ | ⟨hn_64, hv_64, hf_64⟩
          · obtain rfl := hv_64
            refine lv_if_eq (tgt := 94) zx zb dX6_takeStart_76 (by decide) (fun c_65 => absurd c_65 (by decide)) (fun c_65 => ?_)
            refine lv_iload_n zx zb dX6_takeStart_79 rfl (lv_at hl 1 rfl) ?_
            refine lv_if_eq (tgt := 94) zx zb dX6_takeStart_80 (by decide) (fun c_66 => absurd c_66 (by decide)) (fun c_66 => ?_)
            refine lv_aload_n zx zb dX6_takeStart_83 rfl (lv_at hl 4 rfl) ?_
            refine r_get (C := RX5) (T := TX5) (N := 8) (ci := 3) (v := .ref (an 0)) S in_X6_takeStart_X5 G 0 rfl rfl 3 (by decide) lk_X6_takeStart_95 rfl dX6_takeStart_84 ?_
            refine lv_iload_n zx zb dX6_takeStart_87 rfl (lv_at hl 2 rfl) ?_
            refine r_aald (C := RX8) (b := (an 5)) S G 1 3 rfl rfl (k_vp (by decide)) rfl dX6_takeStart_88 ?_
            refine lv_iload zx zb dX6_takeStart_89 (lv_at hl 0 rfl) ?_
            refine r_put (C := RX8) (T := TX8) (N := 8) (ci := 6) (v := .int r_63) S in_X6_takeStart_X8 tyX8_ok nmX8 G 6 rfl rfl 4 (by decide) lk_X6_takeStart_112 rfl (vp_nar_int _) rfl (Nat.le_of_ble_eq_true rfl) dX6_takeStart_91 (fun H locs G => ?_)
            have G : wd X (va_A (@HAppend.hAppend va_W va_W va_W _ (rdV X h0 hb n bd vd fd) (rcV X hn an sv dv n0 n1 n2 n3 n4 g0 gs gn gm)) sz) (va_A (@HAppend.hAppend va_W va_W va_W _ (rdV X h0 hb n bd vd fd) (rcV X hn an sv dv n0 n1 n2 n3 n4 g0 gs gn gm)) sz) s (@HAppend.hAppend va_W va_W va_W _ (rcV X hn an sv (upd dv 31 r_63) n0 n1 n2 n3 n4 g0 gs gn gm) (rdV X h0 hb n b_64a v_64b fd)) H locs := G
            exact e_void S zr zlk G (b_64a, v_64b, (upd dv 31 r_63)) [16, 17, 0, 1, 2, 3, 4, 5, 6, 7, 8, 9, 10, 11, 12, 13, 14, 15] rfl rfl (Or.inr rfl) (⟨hI_b_64a, Or.inl ⟨by rw [staC, chk_t (numB_t.mpr hn_1), chk_t (decide_eq_true (show dv (14 + 5 * (tV fd n (tN fd n s0)).toNatClampNeg) = -1 from by rw [ejx]; exact hh_61)), chk_t (numB_t.mpr hn_63), chk_t (stpB_t hn_64)]; rfl, by rw [ejx, ← hv_63]; rfl, hf_64, hy1_64⟩⟩) dX6_takeStart_94
          · obtain rfl := hv_64
            refine lv_if_eq (tgt := 94) zx zb dX6_takeStart_76 (by decide) (fun c_67 => ?_) (fun c_67 => absurd (by decide) c_67)
            exact e_void S zr zlk G (b_64a, v_64b, dv) [16, 17, 0, 1, 2, 3, 4, 5, 6, 7, 8, 9, 10, 11, 12, 13, 14, 15] rfl rfl (Or.inr rfl) (⟨hI_b_64a, Or.inr ⟨_, by rw [staC, chk_t (numB_t.mpr hn_1), chk_t (decide_eq_true (show dv (14 + 5 * (tV fd n (tN fd n s0)).toNatClampNeg) = -1 from by rw [ejx]; exact hh_61)), chk_t (numB_t.mpr hn_63), chk_f (stpB_f hn_64)], hf_64, by first | omega | (dsimp only; omega)⟩⟩) dX6_takeStart_94
        · obtain rfl := hv_63
          refine lv_istore (lv' := [(4, .int (-1)), (3, .int 1), (2, .int 4), (0, .ref h0), (1, .ref hn)]) zx zb dX6_takeStart_70 hl (by decide) rfl (fun ls hl => ?_)
          refine lv_aload_n zx zb dX6_takeStart_72 rfl (lv_at hl 3 rfl) ?_
          refine o_ri (cells' := 0) (slots' := 0) G rfl rfl (n_V (As := []) (rest := []) (C := RX6) (T := TX6) (N := 7) (ci := 4) S G (x_endF l X h0 hb n b_63a v_63b fd hI_n hI_b_63a (k_nf hf_63 (by have := hT1; omega)) H.size) gX6_takeStart_X6_ended rfl rfl rfl hdV_X6_ended ⟨Nat.le_of_ble_eq_true rfl, Nat.le_of_ble_eq_true rfl⟩ [16, 17] rfl rfl 16 rfl rfl rfl hl.1 (Nat.le_of_ble_eq_true rfl) dX6_takeStart_73 ⟨Nat.le_of_ble_eq_true rfl, Nat.le_of_ble_eq_true rfl⟩) (fun r_68 u_68 H locs hp_68 G => ?_)
          have G : wd X (va_A (@HAppend.hAppend va_W va_W va_W _ (rdV X h0 hb n bd vd fd) (rcV X hn an sv dv n0 n1 n2 n3 n4 g0 gs gn gm)) sz) (va_A (@HAppend.hAppend va_W va_W va_W _ (rdV X h0 hb n bd vd fd) (rcV X hn an sv dv n0 n1 n2 n3 n4 g0 gs gn gm)) sz) s (@HAppend.hAppend va_W va_W va_W _ (rcV X hn an sv dv n0 n1 n2 n3 n4 g0 gs gn gm) (rdV X h0 hb n b_63a v_63b fd)) H locs := G
          obtain rfl := hp_68
          refine lv_if_eq (tgt := 94) zx zb dX6_takeStart_76 (by decide) (fun c_69 => ?_) (fun c_69 => absurd (by decide) c_69)
          exact e_void S zr zlk G (b_63a, v_63b, dv) [16, 17, 0, 1, 2, 3, 4, 5, 6, 7, 8, 9, 10, 11, 12, 13, 14, 15] rfl rfl (Or.inr rfl) (⟨hI_b_63a, Or.inr ⟨_, by rw [staC, chk_t (numB_t.mpr hn_1), chk_t (decide_eq_true (show dv (14 + 5 * (tV fd n (tN fd n s0)).toNatClampNeg) = -1 from by rw [ejx]; exact hh_61)), chk_f (numB_f hn_63)], hf_63, by first | omega | (dsimp only; omega)⟩⟩) dX6_takeStart_94
      · refine lv_if_eq (tgt := 54) zx zb dX6_takeStart_43 (by decide) (fun c_70 => absurd c_70 (by decide)) (fun c_70 => ?_)
        refine lv_aload_n zx zb dX6_takeStart_46 rfl (lv_at hl 2 rfl) ?_
        refine lv_aload_n zx zb dX6_takeStart_47 rfl (lv_at hl 2 rfl) ?_
        refine r_get (C := RX6) (T := TX6) (N := 7) (ci := 4) (v := .int (nI (b_1a 1))) S in_X6_takeStart_X6 G 16 rfl rfl 3 (by decide) lk_X6_takeStart_22 rfl dX6_takeStart_48 ?_
        refine r_put (C := RX6) (T := TX6) (N := 7) (ci := 4) (v := .int (nI (b_1a 1))) S in_X6_takeStart_X6 tyX6_ok nmX6 G 16 rfl rfl 6 (by decide) lk_X6_takeStart_31 rfl (vp_nar_int _) rfl (Nat.le_of_ble_eq_true rfl) dX6_takeStart_51 (fun H locs G => ?_)
        obtain ⟨v_71, ⟨hE_v_71_2, hE_v_71_0, hE_v_71_1⟩, G⟩ : ∃ v_71 : Nat → Int32, (v_71 2 = (nI (b_1a 1)) ∧ v_71 0 = v_1b 0 ∧ v_71 1 = v_1b 1) ∧ wd X (va_A (@HAppend.hAppend va_W va_W va_W _ (rdV X h0 hb n bd vd fd) (rcV X hn an sv dv n0 n1 n2 n3 n4 g0 gs gn gm)) sz) (va_A (@HAppend.hAppend va_W va_W va_W _ (rdV X h0 hb n bd vd fd) (rcV X hn an sv dv n0 n1 n2 n3 n4 g0 gs gn gm)) sz) s (@HAppend.hAppend va_W va_W va_W _ (rcV X hn an sv dv n0 n1 n2 n3 n4 g0 gs gn gm) (rdV X h0 hb n b_1a v_71 fd)) H locs := ⟨upd v_1b 2 (nI (b_1a 1)), ⟨rfl, rfl, rfl⟩, G⟩
        refine lv_aload_n zx zb dX6_takeStart_54 rfl (lv_at hl 2 rfl) ?_
        refine lv_iconst (v := 0) zx zb dX6_takeStart_55 (by decide) ?_
        refine lv_bipush (v := 30) zx zb dX6_takeStart_56 (by decide) ?_
        refine lv_aload_n zx zb dX6_takeStart_58 rfl (lv_at hl 3 rfl) ?_
        refine r_get (C := RX5) (T := TX5) (N := 8) (ci := 3) (v := .int (dv 0)) S in_X6_takeStart_X5 G 0 rfl rfl 0 (by decide) lk_X6_takeStart_106 rfl dX6_takeStart_59 ?_
        refine lv_iconst (v := 1) zx zb dX6_takeStart_62 (by decide) ?_
        refine r_isub (v := ((dv 0) - 1)) S rfl dX6_takeStart_63 ?_
        refine r_mmin (v := mstP dv) S hl.1 mm_X6_takeStart_ml107 mm_X6_takeStart_msmin mm_X6_takeStart_mi mm_X6_takeStart_mcmin (Nat.le_of_ble_eq_true rfl) (Nat.le_of_ble_eq_true rfl) (Nat.zero_le _) (Nat.zero_le _) rfl dX6_takeStart_64 ?_
        refine o_ri (cells' := 0) (slots' := 0) G rfl rfl (n_V (As := [.int 0, .int (mstP dv)]) (rest := []) (C := RX6) (T := TX6) (N := 7) (ci := 4) S G (x_numF l X h0 hb n b_1a v_71 fd 0 (mstP dv) hI_n hI_b_1a (k_nf (hE_v_71_2.trans (congrArg nI hy0_1)) (by omega)) H.size) gX6_takeStart_X6_number rfl rfl rfl hdV_X6_number ⟨Nat.le_of_ble_eq_true rfl, Nat.le_of_ble_eq_true rfl⟩ [16, 17] rfl rfl 16 rfl rfl rfl hl.1 (Nat.le_of_ble_eq_true rfl) dX6_takeStart_67 ⟨Nat.le_of_ble_eq_true rfl, Nat.le_of_ble_eq_true rfl⟩) (fun r_72 u_72 H locs hp_72 G => ?_)
        have G : wd X (va_A (@HAppend.hAppend va_W va_W va_W _ (rdV X h0 hb n bd vd fd) (rcV X hn an sv dv n0 n1 n2 n3 n4 g0 gs gn gm)) sz) (va_A (@HAppend.hAppend va_W va_W va_W _ (rdV X h0 hb n bd vd fd) (rcV X hn an sv dv n0 n1 n2 n3 n4 g0 gs gn gm)) sz) s (@HAppend.hAppend va_W va_W va_W _ (rcV X hn an sv dv n0 n1 n2 n3 n4 g0 gs gn gm) (rdV X h0 hb n b_1a v_71 fd)) H locs := G
        obtain rfl := hp_72
        refine lv_istore (lv' := [(4, .int (-1)), (3, .int 1), (2, .int 4), (0, .ref h0), (1, .ref hn)]) zx zb dX6_takeStart_70 hl (by decide) rfl (fun ls hl => ?_)
        refine lv_aload_n zx zb dX6_takeStart_72 rfl (lv_at hl 3 rfl) ?_
        refine o_ri (cells' := 0) (slots' := 0) G rfl rfl (n_V (As := []) (rest := []) (C := RX6) (T := TX6) (N := 7) (ci := 4) S G (x_endF l X h0 hb n b_1a v_71 fd hI_n hI_b_1a (k_nf (hE_v_71_2.trans (congrArg nI hy0_1)) (by omega)) H.size) gX6_takeStart_X6_ended rfl rfl rfl hdV_X6_ended ⟨Nat.le_of_ble_eq_true rfl, Nat.le_of_ble_eq_true rfl⟩ [16, 17] rfl rfl 16 rfl rfl rfl hl.1 (Nat.le_of_ble_eq_true rfl) dX6_takeStart_73 ⟨Nat.le_of_ble_eq_true rfl, Nat.le_of_ble_eq_true rfl⟩) (fun r_73 u_73 H locs hp_73 G => ?_)
        have G : wd X (va_A (@HAppend.hAppend va_W va_W va_W _ (rdV X h0 hb n bd vd fd) (rcV X hn an sv dv n0 n1 n2 n3 n4 g0 gs gn gm)) sz) (va_A (@HAppend.hAppend va_W va_W va_W _ (rdV X h0 hb n bd vd fd) (rcV X hn an sv dv n0 n1 n2 n3 n4 g0 gs gn gm)) sz) s (@HAppend.hAppend va_W va_W va_W _ (rcV X hn an sv dv n0 n1 n2 n3 n4 g0 gs gn gm) (rdV X h0 hb n b_1a v_71 fd)) H locs := G
        obtain rfl := hp_73
        refine lv_if_eq (tgt := 94) zx zb dX6_takeStart_76 (by decide) (fun c_74 => ?_) (fun c_74 => absurd (by decide) c_74)
        exact e_void S zr zlk G (b_1a, v_71, dv) [16, 17, 0, 1, 2, 3, 4, 5, 6, 7, 8, 9, 10, 11, 12, 13, 14, 15] rfl rfl (Or.inr rfl) (⟨hI_b_1a, Or.inr ⟨_, by rw [staC, chk_t (numB_t.mpr hn_1), chk_f (decide_eq_false (show ¬ dv (14 + 5 * (tV fd n (tN fd n s0)).toNatClampNeg) = -1 from by rw [ejx]; exact hh_61))], hE_v_71_2.trans (congrArg nI hy0_1), by first | omega | (dsimp only; omega)⟩⟩) dX6_takeStart_94
    · refine k_it (v := 5) rfl ?_
      refine r_aald (C := RX8) (b := (an 6)) S G 1 3 rfl rfl (k_vp (by decide)) rfl dX6_takeStart_39 ?_
      refine o_ri (cells' := 0) (slots' := 0) G rfl rfl (n_V (As := []) (rest := []) (C := RX8) (T := TX8) (N := 8) (ci := 6) S G (x_isHome l X (an 6) (fun k => sv (15 + k)) (fun k => dv (35 + k)) H.size) gX6_takeStart_X8_isHome rfl rfl rfl hdV_X8_isHome ⟨Nat.le_of_ble_eq_true rfl, Nat.le_of_ble_eq_true rfl⟩ [7] rfl rfl 7 rfl rfl rfl hl.1 (Nat.le_of_ble_eq_true rfl) dX6_takeStart_40 ⟨Nat.le_of_ble_eq_true rfl, Nat.le_of_ble_eq_true rfl⟩) (fun r_75 u_75 H locs hp_75 G => ?_)
      have G : wd X (va_A (@HAppend.hAppend va_W va_W va_W _ (rdV X h0 hb n bd vd fd) (rcV X hn an sv dv n0 n1 n2 n3 n4 g0 gs gn gm)) sz) (va_A (@HAppend.hAppend va_W va_W va_W _ (rdV X h0 hb n bd vd fd) (rcV X hn an sv dv n0 n1 n2 n3 n4 g0 gs gn gm)) sz) s (@HAppend.hAppend va_W va_W va_W _ (rcV X hn an sv dv n0 n1 n2 n3 n4 g0 gs gn gm) (rdV X h0 hb n b_1a v_1b fd)) H locs := G
      rcases hp_75 with ⟨rfl, hh_75⟩ | ⟨rfl, hh_75⟩
      · refine lv_if_eq (tgt := 54) zx zb dX6_takeStart_43 (by decide) (fun c_76 => ?_) (fun c_76 => absurd (by decide) c_76)
        refine lv_aload_n zx zb dX6_takeStart_54 rfl (lv_at hl 2 rfl) ?_
        refine lv_iconst (v := 0) zx zb dX6_takeStart_55 (by decide) ?_
        refine lv_bipush (v := 30) zx zb dX6_takeStart_56 (by decide) ?_
        refine lv_aload_n zx zb dX6_takeStart_58 rfl (lv_at hl 3 rfl) ?_
        refine r_get (C := RX5) (T := TX5) (N := 8) (ci := 3) (v := .int (dv 0)) S in_X6_takeStart_X5 G 0 rfl rfl 0 (by decide) lk_X6_takeStart_106 rfl dX6_takeStart_59 ?_
        refine lv_iconst (v := 1) zx zb dX6_takeStart_62 (by decide) ?_
        refine r_isub (v := ((dv 0) - 1)) S rfl dX6_takeStart_63 ?_
        refine r_mmin (v := mstP dv) S hl.1 mm_X6_takeStart_ml107 mm_X6_takeStart_msmin mm_X6_takeStart_mi mm_X6_takeStart_mcmin (Nat.le_of_ble_eq_true rfl) (Nat.le_of_ble_eq_true rfl) (Nat.zero_le _) (Nat.zero_le _) rfl dX6_takeStart_64 ?_
        refine b_wi (cells' := 0) (slots' := 0) (wr := rcV X hn an sv dv n0 n1 n2 n3 n4 g0 gs gn gm) G rfl rfl [16, 17] [0, 1, 2, 3, 4, 5, 6, 7, 8, 9, 10, 11, 12, 13, 14, 15] rfl rfl rfl rfl (n_V (As := [.int 0, .int (mstP dv)]) (rest := []) (C := RX6) (T := TX6) (N := 7) (ci := 4) S G (x_numN l X h0 hb n b_1a v_1b fd 0 (mstP dv) hI_n hI_b_1a (by have := hT0; have := hT1; have := hT2; have := hT3; omega) hf_1 H.size) gX6_takeStart_X6_number rfl rfl rfl hdV_X6_number ⟨Nat.le_of_ble_eq_true rfl, Nat.le_of_ble_eq_true rfl⟩ [16, 17] rfl rfl 16 rfl rfl rfl hl.1 (Nat.le_of_ble_eq_true rfl) dX6_takeStart_67 ⟨Nat.le_of_ble_eq_true rfl, Nat.le_of_ble_eq_true rfl⟩) (fun r_77 u_77 H locs hp_77 G => ?_)
        obtain ⟨b_77a, v_77b⟩ := u_77
        try dsimp only at hp_77
        obtain ⟨hI_b_77a, hq_77⟩ := hp_77
        have hO_b_77a := hI_b_77a
        obtain ⟨hd0_b_77a, hd1_b_77a⟩ := hO_b_77a
        have G : wd X (va_A (@HAppend.hAppend va_W va_W va_W _ (rdV X h0 hb n bd vd fd) (rcV X hn an sv dv n0 n1 n2 n3 n4 g0 gs gn gm)) sz) (va_A (@HAppend.hAppend va_W va_W va_W _ (rdV X h0 hb n bd vd fd) (rcV X hn an sv dv n0 n1 n2 n3 n4 g0 gs gn gm)) sz) s (@HAppend.hAppend va_W va_W va_W _ (rcV X hn an sv dv n0 n1 n2 n3 n4 g0 gs gn gm) (rdV X h0 hb n b_77a v_77b fd)) H locs := G
        have ht_77 : scanP qB fd n (b_1a 0) = t2 fd n s0 := by rw [hy1_1]; rfl
        rw [ht_77] at hq_77
        obtain ⟨⟨hy0_77, hy1_77⟩, hr_77⟩ := hq_77
        rcases hr_77 with ⟨hn_77, hv_77, hf_77⟩ | ⟨hn_77, hv_77, hf_77⟩
        · refine lv_istore (lv' := [(4, .int r_77), (3, .int 1), (2, .int 5), (0, .ref h0), (1, .ref hn)]) zx zb dX6_takeStart_70 hl (by decide) rfl (fun ls hl => ?_)
          refine lv_aload_n zx zb dX6_takeStart_72 rfl (lv_at hl 3 rfl) ?_
          refine b_wi (cells' := 0) (slots' := 0) (wr := rcV X hn an sv dv n0 n1 n2 n3 n4 g0 gs gn gm) G rfl rfl [16, 17] [0, 1, 2, 3, 4, 5, 6, 7, 8, 9, 10, 11, 12, 13, 14, 15] rfl rfl rfl rfl (n_V (As := []) (rest := []) (C := RX6) (T := TX6) (N := 7) (ci := 4) S G (x_endN l X h0 hb n b_77a v_77b fd hI_n hI_b_77a (by have := hT0; have := hT1; have := hT2; have := hT3; omega) hf_77 H.size) gX6_takeStart_X6_ended rfl rfl rfl hdV_X6_ended ⟨Nat.le_of_ble_eq_true rfl, Nat.le_of_ble_eq_true rfl⟩ [16, 17] rfl rfl 16 rfl rfl rfl hl.1 (Nat.le_of_ble_eq_true rfl) dX6_takeStart_73 ⟨Nat.le_of_ble_eq_true rfl, Nat.le_of_ble_eq_true rfl⟩) (fun r_78 u_78 H locs hp_78 G => ?_)
          obtain ⟨b_78a, v_78b⟩ := u_78
          try dsimp only at hp_78
          obtain ⟨hI_b_78a, hq_78⟩ := hp_78
          have hO_b_78a := hI_b_78a
          obtain ⟨hd0_b_78a, hd1_b_78a⟩ := hO_b_78a
          have G : wd X (va_A (@HAppend.hAppend va_W va_W va_W _ (rdV X h0 hb n bd vd fd) (rcV X hn an sv dv n0 n1 n2 n3 n4 g0 gs gn gm)) sz) (va_A (@HAppend.hAppend va_W va_W va_W _ (rdV X h0 hb n bd vd fd) (rcV X hn an sv dv n0 n1 n2 n3 n4 g0 gs gn gm)) sz) s (@HAppend.hAppend va_W va_W va_W _ (rcV X hn an sv dv n0 n1 n2 n3 n4 g0 gs gn gm) (rdV X h0 hb n b_78a v_78b fd)) H locs := G
          have ht_78 : scanP qB fd n (b_77a 0) = t3 fd n s0 := by rw [hy1_77]; rfl
          rw [ht_78] at hq_78
          obtain ⟨⟨hy0_78, hy1_78⟩, hr_78⟩ := hq_78
          rcases hr_78 with ⟨hn_78, hv_78, hf_78⟩ | ⟨hn_78, hv_78, hf_78⟩
          · obtain rfl := hv_78
            refine lv_if_eq (tgt := 94) zx zb dX6_takeStart_76 (by decide) (fun c_79 => absurd c_79 (by decide)) (fun c_79 => ?_)
            refine lv_iload_n zx zb dX6_takeStart_79 rfl (lv_at hl 1 rfl) ?_
            refine lv_if_eq (tgt := 94) zx zb dX6_takeStart_80 (by decide) (fun c_80 => absurd c_80 (by decide)) (fun c_80 => ?_)
            refine lv_aload_n zx zb dX6_takeStart_83 rfl (lv_at hl 4 rfl) ?_
            refine r_get (C := RX5) (T := TX5) (N := 8) (ci := 3) (v := .ref (an 0)) S in_X6_takeStart_X5 G 0 rfl rfl 3 (by decide) lk_X6_takeStart_95 rfl dX6_takeStart_84 ?_
            refine lv_iload_n zx zb dX6_takeStart_87 rfl (lv_at hl 2 rfl) ?_
            refine r_aald (C := RX8) (b := (an 6)) S G 1 3 rfl rfl (k_vp (by decide)) rfl dX6_takeStart_88 ?_
            refine lv_iload zx zb dX6_takeStart_89 (lv_at hl 0 rfl) ?_
            refine r_put (C := RX8) (T := TX8) (N := 8) (ci := 6) (v := .int r_77) S in_X6_takeStart_X8 tyX8_ok nmX8 G 7 rfl rfl 4 (by decide) lk_X6_takeStart_112 rfl (vp_nar_int _) rfl (Nat.le_of_ble_eq_true rfl) dX6_takeStart_91 (fun H locs G => ?_)
            have G : wd X (va_A (@HAppend.hAppend va_W va_W va_W _ (rdV X h0 hb n bd vd fd) (rcV X hn an sv dv n0 n1 n2 n3 n4 g0 gs gn gm)) sz) (va_A (@HAppend.hAppend va_W va_W va_W _ (rdV X h0 hb n bd vd fd) (rcV X hn an sv dv n0 n1 n2 n3 n4 g0 gs gn gm)) sz) s (@HAppend.hAppend va_W va_W va_W _ (rcV X hn an sv (upd dv 36 r_77) n0 n1 n2 n3 n4 g0 gs gn gm) (rdV X h0 hb n b_78a v_78b fd)) H locs := G
            exact e_void S zr zlk G (b_78a, v_78b, (upd dv 36 r_77)) [16, 17, 0, 1, 2, 3, 4, 5, 6, 7, 8, 9, 10, 11, 12, 13, 14, 15] rfl rfl (Or.inr rfl) (⟨hI_b_78a, Or.inl ⟨by rw [staC, chk_t (numB_t.mpr hn_1), chk_t (decide_eq_true (show dv (14 + 5 * (tV fd n (tN fd n s0)).toNatClampNeg) = -1 from by rw [ejx]; exact hh_75)), chk_t (numB_t.mpr hn_77), chk_t (stpB_t hn_78)]; rfl, by rw [ejx, ← hv_77]; rfl, hf_78, hy1_78⟩⟩) dX6_takeStart_94
          · obtain rfl := hv_78
            refine lv_if_eq (tgt := 94) zx zb dX6_takeStart_76 (by decide) (fun c_81 => ?_) (fun c_81 => absurd (by decide) c_81)
            exact e_void S zr zlk G (b_78a, v_78b, dv) [16, 17, 0, 1, 2, 3, 4, 5, 6, 7, 8, 9, 10, 11, 12, 13, 14, 15] rfl rfl (Or.inr rfl) (⟨hI_b_78a, Or.inr ⟨_, by rw [staC, chk_t (numB_t.mpr hn_1), chk_t (decide_eq_true (show dv (14 + 5 * (tV fd n (tN fd n s0)).toNatClampNeg) = -1 from by rw [ejx]; exact hh_75)), chk_t (numB_t.mpr hn_77), chk_f (stpB_f hn_78)], hf_78, by first | omega | (dsimp only; omega)⟩⟩) dX6_takeStart_94
        · obtain rfl := hv_77
          refine lv_istore (lv' := [(4, .int (-1)), (3, .int 1), (2, .int 5), (0, .ref h0), (1, .ref hn)]) zx zb dX6_takeStart_70 hl (by decide) rfl (fun ls hl => ?_)
          refine lv_aload_n zx zb dX6_takeStart_72 rfl (lv_at hl 3 rfl) ?_
          refine o_ri (cells' := 0) (slots' := 0) G rfl rfl (n_V (As := []) (rest := []) (C := RX6) (T := TX6) (N := 7) (ci := 4) S G (x_endF l X h0 hb n b_77a v_77b fd hI_n hI_b_77a (k_nf hf_77 (by have := hT1; omega)) H.size) gX6_takeStart_X6_ended rfl rfl rfl hdV_X6_ended ⟨Nat.le_of_ble_eq_true rfl, Nat.le_of_ble_eq_true rfl⟩ [16, 17] rfl rfl 16 rfl rfl rfl hl.1 (Nat.le_of_ble_eq_true rfl) dX6_takeStart_73 ⟨Nat.le_of_ble_eq_true rfl, Nat.le_of_ble_eq_true rfl⟩) (fun r_82 u_82 H locs hp_82 G => ?_)
          have G : wd X (va_A (@HAppend.hAppend va_W va_W va_W _ (rdV X h0 hb n bd vd fd) (rcV X hn an sv dv n0 n1 n2 n3 n4 g0 gs gn gm)) sz) (va_A (@HAppend.hAppend va_W va_W va_W _ (rdV X h0 hb n bd vd fd) (rcV X hn an sv dv n0 n1 n2 n3 n4 g0 gs gn gm)) sz) s (@HAppend.hAppend va_W va_W va_W _ (rcV X hn an sv dv n0 n1 n2 n3 n4 g0 gs gn gm) (rdV X h0 hb n b_77a v_77b fd)) H locs := G
          obtain rfl := hp_82
          refine lv_if_eq (tgt := 94) zx zb dX6_takeStart_76 (by decide) (fun c_83 => ?_) (fun c_83 => absurd (by decide) c_83)
          exact e_void S zr zlk G (b_77a, v_77b, dv) [16, 17, 0, 1, 2, 3, 4, 5, 6, 7, 8, 9, 10, 11, 12, 13, 14, 15] rfl rfl (Or.inr rfl) (⟨hI_b_77a, Or.inr ⟨_, by rw [staC, chk_t (numB_t.mpr hn_1), chk_t (decide_eq_true (show dv (14 + 5 * (tV fd n (tN fd n s0)).toNatClampNeg) = -1 from by rw [ejx]; exact hh_75)), chk_f (numB_f hn_77)], hf_77, by first | omega | (dsimp only; omega)⟩⟩) dX6_takeStart_94
      · refine lv_if_eq (tgt := 54) zx zb dX6_takeStart_43 (by decide) (fun c_84 => absurd c_84 (by decide)) (fun c_84 => ?_)
        refine lv_aload_n zx zb dX6_takeStart_46 rfl (lv_at hl 2 rfl) ?_
        refine lv_aload_n zx zb dX6_takeStart_47 rfl (lv_at hl 2 rfl) ?_
        refine r_get (C := RX6) (T := TX6) (N := 7) (ci := 4) (v := .int (nI (b_1a 1))) S in_X6_takeStart_X6 G 16 rfl rfl 3 (by decide) lk_X6_takeStart_22 rfl dX6_takeStart_48 ?_
        refine r_put (C := RX6) (T := TX6) (N := 7) (ci := 4) (v := .int (nI (b_1a 1))) S in_X6_takeStart_X6 tyX6_ok nmX6 G 16 rfl rfl 6 (by decide) lk_X6_takeStart_31 rfl (vp_nar_int _) rfl (Nat.le_of_ble_eq_true rfl) dX6_takeStart_51 (fun H locs G => ?_)
        obtain ⟨v_85, ⟨hE_v_85_2, hE_v_85_0, hE_v_85_1⟩, G⟩ : ∃ v_85 : Nat → Int32, (v_85 2 = (nI (b_1a 1)) ∧ v_85 0 = v_1b 0 ∧ v_85 1 = v_1b 1) ∧ wd X (va_A (@HAppend.hAppend va_W va_W va_W _ (rdV X h0 hb n bd vd fd) (rcV X hn an sv dv n0 n1 n2 n3 n4 g0 gs gn gm)) sz) (va_A (@HAppend.hAppend va_W va_W va_W _ (rdV X h0 hb n bd vd fd) (rcV X hn an sv dv n0 n1 n2 n3 n4 g0 gs gn gm)) sz) s (@HAppend.hAppend va_W va_W va_W _ (rcV X hn an sv dv n0 n1 n2 n3 n4 g0 gs gn gm) (rdV X h0 hb n b_1a v_85 fd)) H locs := ⟨upd v_1b 2 (nI (b_1a 1)), ⟨rfl, rfl, rfl⟩, G⟩
        refine lv_aload_n zx zb dX6_takeStart_54 rfl (lv_at hl 2 rfl) ?_
        refine lv_iconst (v := 0) zx zb dX6_takeStart_55 (by decide) ?_
        refine lv_bipush (v := 30) zx zb dX6_takeStart_56 (by decide) ?_
        refine lv_aload_n zx zb dX6_takeStart_58 rfl (lv_at hl 3 rfl) ?_
        refine r_get (C := RX5) (T := TX5) (N := 8) (ci := 3) (v := .int (dv 0)) S in_X6_takeStart_X5 G 0 rfl rfl 0 (by decide) lk_X6_takeStart_106 rfl dX6_takeStart_59 ?_
        refine lv_iconst (v := 1) zx zb dX6_takeStart_62 (by decide) ?_
        refine r_isub (v := ((dv 0) - 1)) S rfl dX6_takeStart_63 ?_
        refine r_mmin (v := mstP dv) S hl.1 mm_X6_takeStart_ml107 mm_X6_takeStart_msmin mm_X6_takeStart_mi mm_X6_takeStart_mcmin (Nat.le_of_ble_eq_true rfl) (Nat.le_of_ble_eq_true rfl) (Nat.zero_le _) (Nat.zero_le _) rfl dX6_takeStart_64 ?_
        refine o_ri (cells' := 0) (slots' := 0) G rfl rfl (n_V (As := [.int 0, .int (mstP dv)]) (rest := []) (C := RX6) (T := TX6) (N := 7) (ci := 4) S G (x_numF l X h0 hb n b_1a v_85 fd 0 (mstP dv) hI_n hI_b_1a (k_nf (hE_v_85_2.trans (congrArg nI hy0_1)) (by omega)) H.size) gX6_takeStart_X6_number rfl rfl rfl hdV_X6_number ⟨Nat.le_of_ble_eq_true rfl, Nat.le_of_ble_eq_true rfl⟩ [16, 17] rfl rfl 16 rfl rfl rfl hl.1 (Nat.le_of_ble_eq_true rfl) dX6_takeStart_67 ⟨Nat.le_of_ble_eq_true rfl, Nat.le_of_ble_eq_true rfl⟩) (fun r_86 u_86 H locs hp_86 G => ?_)
        have G : wd X (va_A (@HAppend.hAppend va_W va_W va_W _ (rdV X h0 hb n bd vd fd) (rcV X hn an sv dv n0 n1 n2 n3 n4 g0 gs gn gm)) sz) (va_A (@HAppend.hAppend va_W va_W va_W _ (rdV X h0 hb n bd vd fd) (rcV X hn an sv dv n0 n1 n2 n3 n4 g0 gs gn gm)) sz) s (@HAppend.hAppend va_W va_W va_W _ (rcV X hn an sv dv n0 n1 n2 n3 n4 g0 gs gn gm) (rdV X h0 hb n b_1a v_85 fd)) H locs := G
        obtain rfl := hp_86
        refine lv_istore (lv' := [(4, .int (-1)), (3, .int 1), (2, .int 5), (0, .ref h0), (1, .ref hn)]) zx zb dX6_takeStart_70 hl (by decide) rfl (fun ls hl => ?_)
        refine lv_aload_n zx zb dX6_takeStart_72 rfl (lv_at hl 3 rfl) ?_
        refine o_ri (cells' := 0) (slots' := 0) G rfl rfl (n_V (As := []) (rest := []) (C := RX6) (T := TX6) (N := 7) (ci := 4) S G (x_endF l X h0 hb n b_1a v_85 fd hI_n hI_b_1a (k_nf (hE_v_85_2.trans (congrArg nI hy0_1)) (by omega)) H.size) gX6_takeStart_X6_ended rfl rfl rfl hdV_X6_ended ⟨Nat.le_of_ble_eq_true rfl, Nat.le_of_ble_eq_true rfl⟩ [16, 17] rfl rfl 16 rfl rfl rfl hl.1 (Nat.le_of_ble_eq_true rfl) dX6_takeStart_73 ⟨Nat.le_of_ble_eq_true rfl, Nat.le_of_ble_eq_true rfl⟩) (fun r_87 u_87 H locs hp_87 G => ?_)
        have G : wd X (va_A (@HAppend.hAppend va_W va_W va_W _ (rdV X h0 hb n bd vd fd) (rcV X hn an sv dv n0 n1 n2 n3 n4 g0 gs gn gm)) sz) (va_A (@HAppend.hAppend va_W va_W va_W _ (rdV X h0 hb n bd vd fd) (rcV X hn an sv dv n0 n1 n2 n3 n4 g0 gs gn gm)) sz) s (@HAppend.hAppend va_W va_W va_W _ (rcV X hn an sv dv n0 n1 n2 n3 n4 g0 gs gn gm) (rdV X h0 hb n b_1a v_85 fd)) H locs := G
        obtain rfl := hp_87
        refine lv_if_eq (tgt := 94) zx zb dX6_takeStart_76 (by decide) (fun c_88 => ?_) (fun c_88 => absurd (by decide) c_88)
        exact e_void S zr zlk G (b_1a, v_85, dv) [16, 17, 0, 1, 2, 3, 4, 5, 6, 7, 8, 9, 10, 11, 12, 13, 14, 15] rfl rfl (Or.inr rfl) (⟨hI_b_1a, Or.inr ⟨_, by rw [staC, chk_t (numB_t.mpr hn_1), chk_f (decide_eq_false (show ¬ dv (14 + 5 * (tV fd n (tN fd n s0)).toNatClampNeg) = -1 from by rw [ejx]; exact hh_75))], hE_v_85_2.trans (congrArg nI hy0_1), by first | omega | (dsimp only; omega)⟩⟩) dX6_takeStart_94
  · obtain rfl := hv_1
    refine lv_istore_n (lv' := [(2, .int (-1)), (0, .ref h0), (1, .ref hn)]) zx zb dX6_takeStart_11 rfl hl (by decide) rfl (fun ls hl => ?_)
    refine lv_iload_n zx zb dX6_takeStart_12 rfl (lv_at hl 0 rfl) ?_
    refine lv_if_lt (tgt := 28) zx zb dX6_takeStart_13 (by decide) (fun c_89 => ?_) (fun c_89 => absurd (by decide) c_89)
    refine lv_iconst (v := 0) zx zb dX6_takeStart_28 (by decide) ?_
    refine lv_istore_n (lv' := [(3, .int 0), (2, .int (-1)), (0, .ref h0), (1, .ref hn)]) zx zb dX6_takeStart_29 rfl hl (by decide) rfl (fun ls hl => ?_)
    refine lv_iload_n zx zb dX6_takeStart_30 rfl (lv_at hl 0 rfl) ?_
    refine lv_if_eq (tgt := 54) zx zb dX6_takeStart_31 (by decide) (fun c_90 => ?_) (fun c_90 => absurd (by decide) c_90)
    refine lv_aload_n zx zb dX6_takeStart_54 rfl (lv_at hl 2 rfl) ?_
    refine lv_iconst (v := 0) zx zb dX6_takeStart_55 (by decide) ?_
    refine lv_bipush (v := 30) zx zb dX6_takeStart_56 (by decide) ?_
    refine lv_aload_n zx zb dX6_takeStart_58 rfl (lv_at hl 3 rfl) ?_
    refine r_get (C := RX5) (T := TX5) (N := 8) (ci := 3) (v := .int (dv 0)) S in_X6_takeStart_X5 G 0 rfl rfl 0 (by decide) lk_X6_takeStart_106 rfl dX6_takeStart_59 ?_
    refine lv_iconst (v := 1) zx zb dX6_takeStart_62 (by decide) ?_
    refine r_isub (v := ((dv 0) - 1)) S rfl dX6_takeStart_63 ?_
    refine r_mmin (v := mstP dv) S hl.1 mm_X6_takeStart_ml107 mm_X6_takeStart_msmin mm_X6_takeStart_mi mm_X6_takeStart_mcmin (Nat.le_of_ble_eq_true rfl) (Nat.le_of_ble_eq_true rfl) (Nat.zero_le _) (Nat.zero_le _) rfl dX6_takeStart_64 ?_
    refine o_ri (cells' := 0) (slots' := 0) G rfl rfl (n_V (As := [.int 0, .int (mstP dv)]) (rest := []) (C := RX6) (T := TX6) (N := 7) (ci := 4) S G (x_numF l X h0 hb n b_1a v_1b fd 0 (mstP dv) hI_n hI_b_1a (k_nf hf_1 (by have := hT0; omega)) H.size) gX6_takeStart_X6_number rfl rfl rfl hdV_X6_number ⟨Nat.le_of_ble_eq_true rfl, Nat.le_of_ble_eq_true rfl⟩ [16, 17] rfl rfl 16 rfl rfl rfl hl.1 (Nat.le_of_ble_eq_true rfl) dX6_takeStart_67 ⟨Nat.le_of_ble_eq_true rfl, Nat.le_of_ble_eq_true rfl⟩) (fun r_91 u_91 H locs hp_91 G => ?_)
    have G : wd X (va_A (@HAppend.hAppend va_W va_W va_W _ (rdV X h0 hb n bd vd fd) (rcV X hn an sv dv n0 n1 n2 n3 n4 g0 gs gn gm)) sz) (va_A (@HAppend.hAppend va_W va_W va_W _ (rdV X h0 hb n bd vd fd) (rcV X hn an sv dv n0 n1 n2 n3 n4 g0 gs gn gm)) sz) s (@HAppend.hAppend va_W va_W va_W _ (rcV X hn an sv dv n0 n1 n2 n3 n4 g0 gs gn gm) (rdV X h0 hb n b_1a v_1b fd)) H locs := G
    obtain rfl := hp_91
    refine lv_istore (lv' := [(4, .int (-1)), (3, .int 0), (2, .int (-1)), (0, .ref h0), (1, .ref hn)]) zx zb dX6_takeStart_70 hl (by decide) rfl (fun ls hl => ?_)
    refine lv_aload_n zx zb dX6_takeStart_72 rfl (lv_at hl 3 rfl) ?_
    refine o_ri (cells' := 0) (slots' := 0) G rfl rfl (n_V (As := []) (rest := []) (C := RX6) (T := TX6) (N := 7) (ci := 4) S G (x_endF l X h0 hb n b_1a v_1b fd hI_n hI_b_1a (k_nf hf_1 (by have := hT0; omega)) H.size) gX6_takeStart_X6_ended rfl rfl rfl hdV_X6_ended ⟨Nat.le_of_ble_eq_true rfl, Nat.le_of_ble_eq_true rfl⟩ [16, 17] rfl rfl 16 rfl rfl rfl hl.1 (Nat.le_of_ble_eq_true rfl) dX6_takeStart_73 ⟨Nat.le_of_ble_eq_true rfl, Nat.le_of_ble_eq_true rfl⟩) (fun r_92 u_92 H locs hp_92 G => ?_)
    have G : wd X (va_A (@HAppend.hAppend va_W va_W va_W _ (rdV X h0 hb n bd vd fd) (rcV X hn an sv dv n0 n1 n2 n3 n4 g0 gs gn gm)) sz) (va_A (@HAppend.hAppend va_W va_W va_W _ (rdV X h0 hb n bd vd fd) (rcV X hn an sv dv n0 n1 n2 n3 n4 g0 gs gn gm)) sz) s (@HAppend.hAppend va_W va_W va_W _ (rcV X hn an sv dv n0 n1 n2 n3 n4 g0 gs gn gm) (rdV X h0 hb n b_1a v_1b fd)) H locs := G
    obtain rfl := hp_92
    refine lv_if_eq (tgt := 94) zx zb dX6_takeStart_76 (by decide) (fun c_93 => ?_) (fun c_93 => absurd (by decide) c_93)
    exact e_void S zr zlk G (b_1a, v_1b, dv) [16, 17, 0, 1, 2, 3, 4, 5, 6, 7, 8, 9, 10, 11, 12, 13, 14, 15] rfl rfl (Or.inr rfl) (⟨hI_b_1a, Or.inr ⟨_, by rw [staC, chk_f (numB_f hn_1)], hf_1, by first | omega | (dsimp only; omega)⟩⟩) dX6_takeStart_94
set_option maxHeartbeats 4000000 in
set_option maxRecDepth 100000 in
theorem x_takeTicks (l : Launch) (X : EX) (h0 : Nat) (hb : Nat) (n : Nat) (bd : Nat → Nat) (vd : Nat → Int32) (fd : Nat → Int32) (s0 : Nat) (hn : Nat) (an : Nat → Nat) (sv : Nat → Int32) (dv : Nat → Int32) (n0 : Nat) (n1 : Nat) (n2 : Nat) (n3 : Nat) (n4 : Nat) (g0 : Nat → Int32) (gs : Nat → Int32) (gn : Nat → Int32) (gm : Nat → Int32) (hI_n : n ≤ 150) (hI_bd : InP bd) (hI_n0 : n0 ≤ 6) (hI_n1 : n1 ≤ 8) (hI_n2 : n2 ≤ 5) (hI_n3 : n3 ≤ 6) (hI_n4 : n4 ≤ 6) (hP : s0 ≤ n) (hA : bd 0 = tE fd n s0) (hF : vd 2 = -1) (sz : Nat) : Met l yX6_takeTicks wsX6_takeTicks ({ frames := 4, cells := 0, slots := 0, locals := 82 } : Room) (pE X [.ref h0, .ref hn] (@HAppend.hAppend va_W va_W va_W _ (rdV X h0 hb n bd vd fd) (rcV X hn an sv dv n0 n1 n2 n3 n4 g0 gs gn gm)) sz) (qV (fun (u : (Nat → Nat) × (Nat → Int32) × (Nat → Int32)) => InP u.1 ∧ ((goC fd n s0 = none ∧ u.2.2 = gI sv n0 dv (tV fd n (tN fd n s0)).toNatClampNeg ∧ u.2.1 2 = -1 ∧ u.1 0 = tE fd n (t2 fd n s0)) ∨ (∃ p : Nat, goC fd n s0 = some p ∧ u.2.1 2 = nI p ∧ p ≤ n))) X (fun (u : (Nat → Nat) × (Nat → Int32) × (Nat → Int32)) => @HAppend.hAppend va_W va_W va_W _ (rdV X h0 hb n u.1 u.2.1 fd) (rcV X hn an sv u.2.2 n0 n1 n2 n3 n4 g0 gs gn gm)) (@HAppend.hAppend va_W va_W va_W _ (rdV X h0 hb n bd vd fd) (rcV X hn an sv dv n0 n1 n2 n3 n4 g0 gs gn gm)) sz) 0 0 (va_A (@HAppend.hAppend va_W va_W va_W _ (rdV X h0 hb n bd vd fd) (rcV X hn an sv dv n0 n1 n2 n3 n4 g0 gs gn gm)) sz) := by
  refine mk_met (B := (va_A (@HAppend.hAppend va_W va_W va_W _ (rdV X h0 hb n bd vd fd) (rcV X hn an sv dv n0 n1 n2 n3 n4 g0 gs gn gm)) sz)) (A := (va_A (@HAppend.hAppend va_W va_W va_W _ (rdV X h0 hb n bd vd fd) (rcV X hn an sv dv n0 n1 n2 n3 n4 g0 gs gn gm)) sz)) (cc := cX6_takeTicks) (maxL := 4) (ret := none) (by decide) rfl (Nat.le_of_ble_eq_true rfl) k_w k_a (fun p e s m below meth c S zr zlk znm zsz G ls hl => ?_)
  have S : CallFix p m c cX6_takeTicks 4 s _ wsX6_takeTicks RX6 := S
  have zx := S.1
  have zb := S.2.1
  have hl : lv_has ls 4 [(0, .ref h0), (1, .ref hn)] := hl
  have hO_bd := hI_bd
  obtain ⟨hd0_bd, hd1_bd⟩ := hO_bd
  have hTs := tE_le (T := fd) (n := n) (s := s0) hP
  have hT0 := tN_le (T := fd) (n := n) (s := s0) hP
  have hT1 : tE fd n (tN fd n s0) ≤ t2 fd n s0 ∧ t2 fd n s0 ≤ n := tN_le hT0.2
  have hT2 : tE fd n (t2 fd n s0) ≤ t3 fd n s0 ∧ t3 fd n s0 ≤ n := tN_le hT1.2
  have hT3 : tE fd n (t3 fd n s0) ≤ t4 fd n s0 ∧ t4 fd n s0 ≤ n := tN_le hT2.2
  have hU0 := tE_le (T := fd) (n := n) (s := tN fd n s0) hT0.2
  have hU1 := tE_le (T := fd) (n := n) (s := t2 fd n s0) hT1.2
  have hU2 := tE_le (T := fd) (n := n) (s := t3 fd n s0) hT2.2
  have hU3 := tE_le (T := fd) (n := n) (s := t4 fd n s0) hT3.2
  refine lv_aload_n zx zb dX6_takeTicks_0 rfl (lv_at hl 0 rfl) ?_
  refine lv_iconst (v := 1) zx zb dX6_takeTicks_1 (by decide) ?_
  refine lv_bipush (v := 99) zx zb dX6_takeTicks_2 (by decide) ?_
  refine b_wi (cells' := 0) (slots' := 0) (wr := rcV X hn an sv dv n0 n1 n2 n3 n4 g0 gs gn gm) G rfl rfl [0, 1] [2, 3, 4, 5, 6, 7, 8, 9, 10, 11, 12, 13, 14, 15, 16, 17] rfl rfl rfl rfl (n_V (As := [.int 1, .int 99]) (rest := []) (C := RX6) (T := TX6) (N := 7) (ci := 4) S G (x_numN l X h0 hb n bd vd fd 1 99 hI_n hI_bd (by have := hT0; have := hT1; have := hT2; have := hT3; omega) hF s.heap.size) gX6_takeTicks_X6_number rfl rfl rfl hdV_X6_number ⟨Nat.le_of_ble_eq_true rfl, Nat.le_of_ble_eq_true rfl⟩ [0, 1] rfl rfl 0 rfl rfl rfl hl.1 (Nat.le_of_ble_eq_true rfl) dX6_takeTicks_4 ⟨Nat.le_of_ble_eq_true rfl, Nat.le_of_ble_eq_true rfl⟩) (fun r_1 u_1 H locs hp_1 G => ?_)
  obtain ⟨b_1a, v_1b⟩ := u_1
  try dsimp only at hp_1
  obtain ⟨hI_b_1a, hq_1⟩ := hp_1
  have hO_b_1a := hI_b_1a
  obtain ⟨hd0_b_1a, hd1_b_1a⟩ := hO_b_1a
  have G : wd X (va_A (@HAppend.hAppend va_W va_W va_W _ (rdV X h0 hb n bd vd fd) (rcV X hn an sv dv n0 n1 n2 n3 n4 g0 gs gn gm)) sz) (va_A (@HAppend.hAppend va_W va_W va_W _ (rdV X h0 hb n bd vd fd) (rcV X hn an sv dv n0 n1 n2 n3 n4 g0 gs gn gm)) sz) s (@HAppend.hAppend va_W va_W va_W _ (rcV X hn an sv dv n0 n1 n2 n3 n4 g0 gs gn gm) (rdV X h0 hb n b_1a v_1b fd)) H locs := G
  have ht_1 : scanP qB fd n (bd 0) = tN fd n s0 := by rw [hA]; rfl
  rw [ht_1] at hq_1
  obtain ⟨⟨hy0_1, hy1_1⟩, hr_1⟩ := hq_1
  rcases hr_1 with ⟨hn_1, hv_1, hf_1⟩ | ⟨hn_1, hv_1, hf_1⟩
  · refine lv_istore_n (lv' := [(2, .int r_1), (0, .ref h0), (1, .ref hn)]) zx zb dX6_takeTicks_7 rfl hl (by decide) rfl (fun ls hl => ?_)
    refine lv_aload_n zx zb dX6_takeTicks_8 rfl (lv_at hl 1 rfl) ?_
    refine b_wi (cells' := 0) (slots' := 0) (wr := rcV X hn an sv dv n0 n1 n2 n3 n4 g0 gs gn gm) G rfl rfl [16, 17] [0, 1, 2, 3, 4, 5, 6, 7, 8, 9, 10, 11, 12, 13, 14, 15] rfl rfl rfl rfl (n_V (As := []) (rest := []) (C := RX6) (T := TX6) (N := 7) (ci := 4) S G (x_endN l X h0 hb n b_1a v_1b fd hI_n hI_b_1a (by have := hT0; have := hT1; have := hT2; have := hT3; omega) hf_1 H.size) gX6_takeTicks_X6_ended rfl rfl rfl hdV_X6_ended ⟨Nat.le_of_ble_eq_true rfl, Nat.le_of_ble_eq_true rfl⟩ [16, 17] rfl rfl 16 rfl rfl rfl hl.1 (Nat.le_of_ble_eq_true rfl) dX6_takeTicks_9 ⟨Nat.le_of_ble_eq_true rfl, Nat.le_of_ble_eq_true rfl⟩) (fun r_2 u_2 H locs hp_2 G => ?_)
    obtain ⟨b_2a, v_2b⟩ := u_2
    try dsimp only at hp_2
    obtain ⟨hI_b_2a, hq_2⟩ := hp_2
    have hO_b_2a := hI_b_2a
    obtain ⟨hd0_b_2a, hd1_b_2a⟩ := hO_b_2a
    have G : wd X (va_A (@HAppend.hAppend va_W va_W va_W _ (rdV X h0 hb n bd vd fd) (rcV X hn an sv dv n0 n1 n2 n3 n4 g0 gs gn gm)) sz) (va_A (@HAppend.hAppend va_W va_W va_W _ (rdV X h0 hb n bd vd fd) (rcV X hn an sv dv n0 n1 n2 n3 n4 g0 gs gn gm)) sz) s (@HAppend.hAppend va_W va_W va_W _ (rcV X hn an sv dv n0 n1 n2 n3 n4 g0 gs gn gm) (rdV X h0 hb n b_2a v_2b fd)) H locs := G
    have ht_2 : scanP qB fd n (b_1a 0) = t2 fd n s0 := by rw [hy1_1]; rfl
    rw [ht_2] at hq_2
    obtain ⟨⟨hy0_2, hy1_2⟩, hr_2⟩ := hq_2
    rcases hr_2 with ⟨hn_2, hv_2, hf_2⟩ | ⟨hn_2, hv_2, hf_2⟩
    · obtain rfl := hv_2
      refine lv_if_eq (tgt := 32) zx zb dX6_takeTicks_12 (by decide) (fun c_3 => absurd c_3 (by decide)) (fun c_3 => ?_)
      obtain ⟨mx, ⟨hma, hmb⟩, emx⟩ := k_natR (a := 1) (b := 99) hn_1.2 rfl rfl (by decide) (by decide)
      have er := hv_1.trans emx
      subst er
      have hl : lv_has ls 4 [(2, .int (nI mx)), (0, .ref h0), (1, .ref hn)] := hl
      refine lv_iconst (v := 0) zx zb dX6_takeTicks_15 (by decide) ?_
      refine lv_istore_n (lv' := [(3, .int 0), (2, .int (nI mx)), (0, .ref h0), (1, .ref hn)]) zx zb dX6_takeTicks_16 rfl hl (by decide) rfl (fun ls hl => ?_)
      refine k_loop (P := ∀ (zm : Nat) (n17_3 : Nat) (dv17_0 : Nat → Int32) (H : Heap) (locs : List Loc) (ls : Array Slot), ((99 - n17_3) < zm) → (n17_3 ≤ mx ∧ dv17_0 = gI sv n0 dv n17_3) → (n17_3 ≤ 99) → wd X (va_A (@HAppend.hAppend va_W va_W va_W _ (rdV X h0 hb n bd vd fd) (rcV X hn an sv dv n0 n1 n2 n3 n4 g0 gs gn gm)) sz) (va_A (@HAppend.hAppend va_W va_W va_W _ (rdV X h0 hb n bd vd fd) (rcV X hn an sv dv n0 n1 n2 n3 n4 g0 gs gn gm)) sz) s (@HAppend.hAppend va_W va_W va_W _ (rcV X hn an sv dv17_0 n0 n1 n2 n3 n4 g0 gs gn gm) (rdV X h0 hb n b_2a v_2b fd)) H locs → lv_has ls 4 [(3, .int (nI n17_3)), (2, .int (nI mx)), (0, .ref h0), (1, .ref hn)] → W p l e _ s m _ below meth c H locs _ _ _ (F0 m 17 ls [])) (fun loop => loop ((99 - 0) + 1) 0 dv _ _ _ (by omega) ⟨by omega, rfl⟩ (by omega) G hl) ?_
      intro zm
      induction zm with
      | zero => intro n17_3 dv17_0 H locs ls zz q_x0 q_hk_n17_3 _ _; exact absurd zz (by omega)
      | succ zm ih17 =>
        intro n17_3 dv17_0 H locs ls zm_17 hx17_0 hk_n17_3 G hl
        refine lv_iload_n zx zb dX6_takeTicks_17 rfl (lv_at hl 0 rfl) ?_
        refine lv_iload_n zx zb dX6_takeTicks_18 rfl (lv_at hl 1 rfl) ?_
        refine lv_icmp_ge (tgt := 32) zx zb dX6_takeTicks_19 (by decide) (fun c_4 => ?_) (fun c_4 => ?_)
        · have fc_4 := j_le (a := mx) (b := n17_3) (by omega) (by omega) c_4
          exact e_void S zr zlk G (b_2a, v_2b, dv17_0) [16, 17, 0, 1, 2, 3, 4, 5, 6, 7, 8, 9, 10, 11, 12, 13, 14, 15] rfl rfl (Or.inr rfl) (⟨hI_b_2a, Or.inl ⟨by rw [goC, chk_t (numB_t.mpr hn_1), chk_t (stpB_t hn_2)]; rfl, by rw [hx17_0.2, emx, nI_clamp (by first | omega | (dsimp only; omega)), show n17_3 = mx from by first | omega | (dsimp only; omega)], hf_2, hy1_2⟩⟩) dX6_takeTicks_32
        · have fc_4 := j_nle (a := mx) (b := n17_3) (by omega) (by omega) c_4
          refine lv_aload_n zx zb dX6_takeTicks_22 rfl (lv_at hl 3 rfl) ?_
          refine b_wv (cells' := 0) (slots' := 0) (wr := rdV X h0 hb n b_2a v_2b fd) G rfl rfl [0, 1, 2, 3, 4, 5, 6, 7, 8, 9, 10, 11, 12, 13, 14, 15] [16, 17] rfl rfl rfl rfl (n_V (As := []) (rest := []) (C := RX5) (T := TX5) (N := 8) (ci := 3) S G (x_goOn l X hn an sv dv17_0 n0 n1 n2 n3 n4 g0 gs gn gm hI_n0 hI_n1 hI_n2 hI_n3 hI_n4 H.size) gX6_takeTicks_X5_goOn rfl rfl rfl hdV_X5_goOn ⟨Nat.le_of_ble_eq_true rfl, Nat.le_of_ble_eq_true rfl⟩ [0, 1, 2, 3, 4, 5, 6, 7, 8, 9, 10, 11, 12, 13, 14, 15] rfl rfl 0 rfl rfl rfl hl.1 (Nat.le_of_ble_eq_true rfl) dX6_takeTicks_23 ⟨Nat.le_of_ble_eq_true rfl, Nat.le_of_ble_eq_true rfl⟩) (fun u_5 H locs hp_5 G => ?_)
          obtain ⟨dv_5, rfl⟩ : ∃ z, z = u_5 := ⟨_, rfl⟩
          have hq_5 := hp_5
          have G : wd X (va_A (@HAppend.hAppend va_W va_W va_W _ (rdV X h0 hb n bd vd fd) (rcV X hn an sv dv n0 n1 n2 n3 n4 g0 gs gn gm)) sz) (va_A (@HAppend.hAppend va_W va_W va_W _ (rdV X h0 hb n bd vd fd) (rcV X hn an sv dv n0 n1 n2 n3 n4 g0 gs gn gm)) sz) s (@HAppend.hAppend va_W va_W va_W _ (rdV X h0 hb n b_2a v_2b fd) (rcV X hn an sv dv_5 n0 n1 n2 n3 n4 g0 gs gn gm)) H locs := G
          refine lv_iinc (v := (nI (n17_3 + 1))) (lv' := [(3, .int (nI (n17_3 + 1))), (2, .int (nI mx)), (0, .ref h0), (1, .ref hn)]) zx zb dX6_takeTicks_26 hl (k := 0) rfl (nI_add n17_3 1) (by decide) rfl (fun ls hl => ?_)
          refine lv_goto (tgt := 17) zx zb dX6_takeTicks_29 (by decide) ?_
          have G : wd X (va_A (@HAppend.hAppend va_W va_W va_W _ (rdV X h0 hb n bd vd fd) (rcV X hn an sv dv n0 n1 n2 n3 n4 g0 gs gn gm)) sz) (va_A (@HAppend.hAppend va_W va_W va_W _ (rdV X h0 hb n bd vd fd) (rcV X hn an sv dv n0 n1 n2 n3 n4 g0 gs gn gm)) sz) s (@HAppend.hAppend va_W va_W va_W _ (rcV X hn an sv dv_5 n0 n1 n2 n3 n4 g0 gs gn gm) (rdV X h0 hb n b_2a v_2b fd)) H locs := wd_sub G [2, 3, 4, 5, 6, 7, 8, 9, 10, 11, 12, 13, 14, 15, 16, 17, 0, 1] rfl rfl
          exact ih17 (n17_3 + 1) dv_5 _ _ _ (by omega) ⟨by omega, by rw [hq_5, hx17_0.2]; rfl⟩ (by omega) G hl
    · obtain rfl := hv_2
      refine lv_if_eq (tgt := 32) zx zb dX6_takeTicks_12 (by decide) (fun c_6 => ?_) (fun c_6 => absurd (by decide) c_6)
      exact e_void S zr zlk G (b_2a, v_2b, dv) [16, 17, 0, 1, 2, 3, 4, 5, 6, 7, 8, 9, 10, 11, 12, 13, 14, 15] rfl rfl (Or.inr rfl) (⟨hI_b_2a, Or.inr ⟨_, by rw [goC, chk_t (numB_t.mpr hn_1), chk_f (stpB_f hn_2)], hf_2, by first | omega | (dsimp only; omega)⟩⟩) dX6_takeTicks_32
  · obtain rfl := hv_1
    refine lv_istore_n (lv' := [(2, .int (-1)), (0, .ref h0), (1, .ref hn)]) zx zb dX6_takeTicks_7 rfl hl (by decide) rfl (fun ls hl => ?_)
    refine lv_aload_n zx zb dX6_takeTicks_8 rfl (lv_at hl 1 rfl) ?_
    refine o_ri (cells' := 0) (slots' := 0) G rfl rfl (n_V (As := []) (rest := []) (C := RX6) (T := TX6) (N := 7) (ci := 4) S G (x_endF l X h0 hb n b_1a v_1b fd hI_n hI_b_1a (k_nf hf_1 (by have := hT0; omega)) H.size) gX6_takeTicks_X6_ended rfl rfl rfl hdV_X6_ended ⟨Nat.le_of_ble_eq_true rfl, Nat.le_of_ble_eq_true rfl⟩ [16, 17] rfl rfl 16 rfl rfl rfl hl.1 (Nat.le_of_ble_eq_true rfl) dX6_takeTicks_9 ⟨Nat.le_of_ble_eq_true rfl, Nat.le_of_ble_eq_true rfl⟩) (fun r_7 u_7 H locs hp_7 G => ?_)
    have G : wd X (va_A (@HAppend.hAppend va_W va_W va_W _ (rdV X h0 hb n bd vd fd) (rcV X hn an sv dv n0 n1 n2 n3 n4 g0 gs gn gm)) sz) (va_A (@HAppend.hAppend va_W va_W va_W _ (rdV X h0 hb n bd vd fd) (rcV X hn an sv dv n0 n1 n2 n3 n4 g0 gs gn gm)) sz) s (@HAppend.hAppend va_W va_W va_W _ (rcV X hn an sv dv n0 n1 n2 n3 n4 g0 gs gn gm) (rdV X h0 hb n b_1a v_1b fd)) H locs := G
    obtain rfl := hp_7
    refine lv_if_eq (tgt := 32) zx zb dX6_takeTicks_12 (by decide) (fun c_8 => ?_) (fun c_8 => absurd (by decide) c_8)
    exact e_void S zr zlk G (b_1a, v_1b, dv) [16, 17, 0, 1, 2, 3, 4, 5, 6, 7, 8, 9, 10, 11, 12, 13, 14, 15] rfl rfl (Or.inr rfl) (⟨hI_b_1a, Or.inr ⟨_, by rw [goC, chk_f (numB_f hn_1)], hf_1, by first | omega | (dsimp only; omega)⟩⟩) dX6_takeTicks_32
set_option maxHeartbeats 4000000 in
set_option maxRecDepth 100000 in
theorem x_takeItem (l : Launch) (X : EX) (K : SK) (h0 : Nat) (hb : Nat) (n : Nat) (bd : Nat → Nat) (vd : Nat → Int32) (fd : Nat → Int32) (s0 : Nat) (hn : Nat) (an : Nat → Nat) (sv : Nat → Int32) (dv : Nat → Int32) (n0 : Nat) (n1 : Nat) (n2 : Nat) (n3 : Nat) (n4 : Nat) (g0 : Nat → Int32) (gs : Nat → Int32) (gn : Nat → Int32) (gm : Nat → Int32) (hI_n : n ≤ 150) (hI_bd : InP bd) (hI_n0 : n0 ≤ 6) (hI_n1 : n1 ≤ 8) (hI_n2 : n2 ≤ 5) (hI_n3 : n3 ≤ 6) (hI_n4 : n4 ≤ 6) (hP : bd 0 ≤ n) (hA : scanP qB fd n (bd 0) = s0) (hF : vd 2 = -1) (sz : Nat) : Met l yX6_takeItem wsX6_takeItem ({ frames := 5, cells := 0, slots := 0, locals := 107 } : Room) (pS X K [.ref h0, .ref hn, .int 0] (@HAppend.hAppend va_W va_W va_W _ (rdV X h0 hb n bd vd fd) (rcV X hn an sv dv n0 n1 n2 n3 n4 g0 gs gn gm)) sz) (qV (fun (u : (Nat → Nat) × (Nat → Int32) × (Nat → Int32) × (Nat → Int32) × (Nat) × (Nat)) => InP u.1 ∧ u.2.2.2.2.1 ≤ 6 ∧ u.2.2.2.2.2 ≤ 8 ∧ ((itF fd n s0 n0 dv = none ∧ (u.2.2.2.2.1 = itN fd n s0 n0 ∧ u.2.2.1 = itS fd n s0 n0 sv ∧ u.2.2.2.1 = itD fd n s0 n0 sv dv) ∧ u.2.1 2 = -1 ∧ u.1 0 = tE fd n (itT fd n s0 n0)) ∨ (∃ p : Nat, itF fd n s0 n0 dv = some p ∧ u.2.1 2 = nI p ∧ p ≤ n))) X (fun (u : (Nat → Nat) × (Nat → Int32) × (Nat → Int32) × (Nat → Int32) × (Nat) × (Nat)) => @HAppend.hAppend va_W va_W va_W _ (rdV X h0 hb n u.1 u.2.1 fd) (rcV X hn an u.2.2.1 u.2.2.2.1 u.2.2.2.2.1 u.2.2.2.2.2 n2 n3 n4 g0 gs gn gm)) (@HAppend.hAppend va_W va_W va_W _ (rdV X h0 hb n bd vd fd) (rcV X hn an sv dv n0 n1 n2 n3 n4 g0 gs gn gm)) sz) 0 0 (va_A (@HAppend.hAppend va_W va_W va_W _ (rdV X h0 hb n bd vd fd) (rcV X hn an sv dv n0 n1 n2 n3 n4 g0 gs gn gm)) sz) := by
  refine mk_metS (B := (va_A (@HAppend.hAppend va_W va_W va_W _ (rdV X h0 hb n bd vd fd) (rcV X hn an sv dv n0 n1 n2 n3 n4 g0 gs gn gm)) sz)) (A := (va_A (@HAppend.hAppend va_W va_W va_W _ (rdV X h0 hb n bd vd fd) (rcV X hn an sv dv n0 n1 n2 n3 n4 g0 gs gn gm)) sz)) (cc := cX6_takeItem) (maxL := 3) (ret := none) (by decide) rfl (Nat.le_of_ble_eq_true rfl) k_w k_a (fun p e s m below meth c S zr zlk znm zsz G hZ ls hl => ?_)
  have S : CallFix p m c cX6_takeItem 3 s _ wsX6_takeItem RX6 := S
  have zx := S.1
  have zb := S.2.1
  have hl : lv_has ls 3 [(0, .ref h0), (1, .ref hn), (2, .int 0)] := hl
  have hO_bd := hI_bd
  obtain ⟨hd0_bd, hd1_bd⟩ := hO_bd
  refine lv_aload_n zx zb dX6_takeItem_0 rfl (lv_at hl 0 rfl) ?_
  refine b_wv (cells' := 0) (slots' := 0) (wr := rcV X hn an sv dv n0 n1 n2 n3 n4 g0 gs gn gm) G rfl rfl [0, 1] [2, 3, 4, 5, 6, 7, 8, 9, 10, 11, 12, 13, 14, 15, 16, 17] rfl rfl rfl rfl (n_V (As := []) (rest := []) (C := RX6) (T := TX6) (N := 7) (ci := 4) S G (x_nextToken l X h0 hb n bd vd fd hI_n hI_bd (by omega) s.heap.size) gX6_takeItem_X6_nextToken rfl rfl rfl hdV_X6_nextToken ⟨Nat.le_of_ble_eq_true rfl, Nat.le_of_ble_eq_true rfl⟩ [0, 1] rfl rfl 0 rfl rfl rfl hl.1 (Nat.le_of_ble_eq_true rfl) dX6_takeItem_1 ⟨Nat.le_of_ble_eq_true rfl, Nat.le_of_ble_eq_true rfl⟩) (fun u_1 H locs hp_1 G => ?_)
  obtain ⟨b_1a, v_1b⟩ := u_1
  try dsimp only at hp_1
  obtain ⟨hI_b_1a, hq_1⟩ := hp_1
  have hO_b_1a := hI_b_1a
  obtain ⟨hd0_b_1a, hd1_b_1a⟩ := hO_b_1a
  have G : wd X (va_A (@HAppend.hAppend va_W va_W va_W _ (rdV X h0 hb n bd vd fd) (rcV X hn an sv dv n0 n1 n2 n3 n4 g0 gs gn gm)) sz) (va_A (@HAppend.hAppend va_W va_W va_W _ (rdV X h0 hb n bd vd fd) (rcV X hn an sv dv n0 n1 n2 n3 n4 g0 gs gn gm)) sz) s (@HAppend.hAppend va_W va_W va_W _ (rcV X hn an sv dv n0 n1 n2 n3 n4 g0 gs gn gm) (rdV X h0 hb n b_1a v_1b fd)) H locs := G
  obtain ⟨hz0_1, hz1_1, hz2_1, hz3_1, hz4_1⟩ := hq_1
  rw [hA] at hz0_1 hz1_1 hz2_1
  have hs0 := scan_le (q := qB) (T := fd) (n := n) (a := bd 0) hP
  rw [hA] at hs0
  have hTs := tE_le (T := fd) (n := n) (s := s0) hs0.2
  refine lv_aload_n zx zb dX6_takeItem_4 rfl (lv_at hl 0 rfl) ?_
  refine r_get (C := RX6) (T := TX6) (N := 7) (ci := 4) (v := .int (v_1b 0)) S in_X6_takeItem_X6 G 16 rfl rfl 4 (by decide) lk_X6_takeItem_25 rfl dX6_takeItem_5 ?_
  refine lv_iconst (v := 1) zx zb dX6_takeItem_8 (by decide) ?_
  refine lv_icmp_ne (tgt := 22) zx zb dX6_takeItem_9 (by decide) (fun c_2 => ?_) (fun c_2 => ?_)
  · refine lv_aload_n zx zb dX6_takeItem_22 rfl (lv_at hl 0 rfl) ?_
    refine lv_aload_n zx zb dX6_takeItem_23 rfl (lv_at hl 0 rfl) ?_
    refine r_get (C := RX6) (T := TX6) (N := 7) (ci := 4) (v := .int (nI (b_1a 1))) S in_X6_takeItem_X6 G 16 rfl rfl 3 (by decide) lk_X6_takeItem_22 rfl dX6_takeItem_24 ?_
    refine r_put (C := RX6) (T := TX6) (N := 7) (ci := 4) (v := .int (nI (b_1a 1))) S in_X6_takeItem_X6 tyX6_ok nmX6 G 16 rfl rfl 6 (by decide) lk_X6_takeItem_31 rfl (vp_nar_int _) rfl (Nat.le_of_ble_eq_true rfl) dX6_takeItem_27 (fun H locs G => ?_)
    obtain ⟨v_3, ⟨hE_v_3_2, hE_v_3_0, hE_v_3_1⟩, G⟩ : ∃ v_3 : Nat → Int32, (v_3 2 = (nI (b_1a 1)) ∧ v_3 0 = v_1b 0 ∧ v_3 1 = v_1b 1) ∧ wd X (va_A (@HAppend.hAppend va_W va_W va_W _ (rdV X h0 hb n bd vd fd) (rcV X hn an sv dv n0 n1 n2 n3 n4 g0 gs gn gm)) sz) (va_A (@HAppend.hAppend va_W va_W va_W _ (rdV X h0 hb n bd vd fd) (rcV X hn an sv dv n0 n1 n2 n3 n4 g0 gs gn gm)) sz) s (@HAppend.hAppend va_W va_W va_W _ (rcV X hn an sv dv n0 n1 n2 n3 n4 g0 gs gn gm) (rdV X h0 hb n b_1a v_3 fd)) H locs := ⟨upd v_1b 2 (nI (b_1a 1)), ⟨rfl, rfl, rfl⟩, G⟩
    refine lv_goto (tgt := 130) zx zb dX6_takeItem_30 (by decide) ?_
    exact e_void S zr zlk G (b_1a, v_3, sv, dv, n0, n1) [16, 17, 0, 1, 2, 3, 4, 5, 6, 7, 8, 9, 10, 11, 12, 13, 14, 15] rfl rfl (Or.inr rfl) (⟨hI_b_1a, hI_n0, hI_n1, by have hk : kindI fd n s0 n0 = 0 := (kI_0 (fun h => c_2 (hz2_1.trans h.1))); exact Or.inr ⟨s0, it_0 hk, hE_v_3_2.trans (congrArg nI hz0_1), by first | omega | (dsimp only; omega)⟩⟩) dX6_takeItem_130
  · refine lv_aload_n zx zb dX6_takeItem_12 rfl (lv_at hl 0 rfl) ?_
    refine va_ldcS zx zb S.2.2.2.1 hZ.2.1 dX6_takeItem_13 ?_
    refine o_ri (cells' := 0) (slots' := 0) G rfl rfl (n_VS (As := [.ref (K.1 0)]) (rest := []) (C := RX6) (T := TX6) (N := 7) (ci := 4) S G hZ (x_spells l X K h0 hb n b_1a v_1b fd 0 hI_n hI_b_1a ⟨by omega, by omega⟩ (by omega) H.size) gX6_takeItem_X6_spells rfl rfl rfl hdV_X6_spells ⟨Nat.le_of_ble_eq_true rfl, Nat.le_of_ble_eq_true rfl⟩ [16, 17] rfl rfl 16 rfl rfl rfl hl.1 (Nat.le_of_ble_eq_true rfl) dX6_takeItem_15 ⟨Nat.le_of_ble_eq_true rfl, Nat.le_of_ble_eq_true rfl⟩) (fun r_4 u_4 H locs hp_4 G => ?_)
    have G : wd X (va_A (@HAppend.hAppend va_W va_W va_W _ (rdV X h0 hb n bd vd fd) (rcV X hn an sv dv n0 n1 n2 n3 n4 g0 gs gn gm)) sz) (va_A (@HAppend.hAppend va_W va_W va_W _ (rdV X h0 hb n bd vd fd) (rcV X hn an sv dv n0 n1 n2 n3 n4 g0 gs gn gm)) sz) s (@HAppend.hAppend va_W va_W va_W _ (rcV X hn an sv dv n0 n1 n2 n3 n4 g0 gs gn gm) (rdV X h0 hb n b_1a v_1b fd)) H locs := G
    rcases hp_4 with ⟨rfl, hw_4⟩ | ⟨rfl, hw_4⟩
    · refine lv_iload_n zx zb dX6_takeItem_18 rfl (lv_at hl 2 rfl) ?_
      refine lv_icmp_eq (tgt := 33) zx zb dX6_takeItem_19 (by decide) (fun c_5 => absurd c_5 (by decide)) (fun c_5 => ?_)
      refine lv_aload_n zx zb dX6_takeItem_22 rfl (lv_at hl 0 rfl) ?_
      refine lv_aload_n zx zb dX6_takeItem_23 rfl (lv_at hl 0 rfl) ?_
      refine r_get (C := RX6) (T := TX6) (N := 7) (ci := 4) (v := .int (nI (b_1a 1))) S in_X6_takeItem_X6 G 16 rfl rfl 3 (by decide) lk_X6_takeItem_22 rfl dX6_takeItem_24 ?_
      refine r_put (C := RX6) (T := TX6) (N := 7) (ci := 4) (v := .int (nI (b_1a 1))) S in_X6_takeItem_X6 tyX6_ok nmX6 G 16 rfl rfl 6 (by decide) lk_X6_takeItem_31 rfl (vp_nar_int _) rfl (Nat.le_of_ble_eq_true rfl) dX6_takeItem_27 (fun H locs G => ?_)
      obtain ⟨v_6, ⟨hE_v_6_2, hE_v_6_0, hE_v_6_1⟩, G⟩ : ∃ v_6 : Nat → Int32, (v_6 2 = (nI (b_1a 1)) ∧ v_6 0 = v_1b 0 ∧ v_6 1 = v_1b 1) ∧ wd X (va_A (@HAppend.hAppend va_W va_W va_W _ (rdV X h0 hb n bd vd fd) (rcV X hn an sv dv n0 n1 n2 n3 n4 g0 gs gn gm)) sz) (va_A (@HAppend.hAppend va_W va_W va_W _ (rdV X h0 hb n bd vd fd) (rcV X hn an sv dv n0 n1 n2 n3 n4 g0 gs gn gm)) sz) s (@HAppend.hAppend va_W va_W va_W _ (rcV X hn an sv dv n0 n1 n2 n3 n4 g0 gs gn gm) (rdV X h0 hb n b_1a v_6 fd)) H locs := ⟨upd v_1b 2 (nI (b_1a 1)), ⟨rfl, rfl, rfl⟩, G⟩
      refine lv_goto (tgt := 130) zx zb dX6_takeItem_30 (by decide) ?_
      exact e_void S zr zlk G (b_1a, v_6, sv, dv, n0, n1) [16, 17, 0, 1, 2, 3, 4, 5, 6, 7, 8, 9, 10, 11, 12, 13, 14, 15] rfl rfl (Or.inr rfl) (⟨hI_b_1a, hI_n0, hI_n1, by have hk : kindI fd n s0 n0 = 0 := (kI_0 (fun h => absurd ((wrdB_t.mpr (show wrdP fd s0 (tE fd n s0) 0 from by rw [← hz1_1, ← hz0_1]; exact hw_4)).symm.trans h.2) (by decide))); exact Or.inr ⟨s0, it_0 hk, hE_v_6_2.trans (congrArg nI hz0_1), by first | omega | (dsimp only; omega)⟩⟩) dX6_takeItem_130
    · refine lv_iload_n zx zb dX6_takeItem_18 rfl (lv_at hl 2 rfl) ?_
      refine lv_icmp_eq (tgt := 33) zx zb dX6_takeItem_19 (by decide) (fun c_7 => ?_) (fun c_7 => absurd (by decide) c_7)
      refine lv_iload_n zx zb dX6_takeItem_33 rfl (lv_at hl 2 rfl) ?_
      refine lv_if_eq (tgt := 45) zx zb dX6_takeItem_34 (by decide) (fun c_8 => ?_) (fun c_8 => absurd (by decide) c_8)
      refine lv_aload_n zx zb dX6_takeItem_45 rfl (lv_at hl 0 rfl) ?_
      refine va_ldcS zx zb S.2.2.2.1 hZ.2.2.1 dX6_takeItem_46 ?_
      refine o_ri (cells' := 0) (slots' := 0) G rfl rfl (n_VS (As := [.ref (K.1 1)]) (rest := []) (C := RX6) (T := TX6) (N := 7) (ci := 4) S G hZ (x_spells l X K h0 hb n b_1a v_1b fd 1 hI_n hI_b_1a ⟨by omega, by omega⟩ (by omega) H.size) gX6_takeItem_X6_spells rfl rfl rfl hdV_X6_spells ⟨Nat.le_of_ble_eq_true rfl, Nat.le_of_ble_eq_true rfl⟩ [16, 17] rfl rfl 16 rfl rfl rfl hl.1 (Nat.le_of_ble_eq_true rfl) dX6_takeItem_48 ⟨Nat.le_of_ble_eq_true rfl, Nat.le_of_ble_eq_true rfl⟩) (fun r_9 u_9 H locs hp_9 G => ?_)
      have G : wd X (va_A (@HAppend.hAppend va_W va_W va_W _ (rdV X h0 hb n bd vd fd) (rcV X hn an sv dv n0 n1 n2 n3 n4 g0 gs gn gm)) sz) (va_A (@HAppend.hAppend va_W va_W va_W _ (rdV X h0 hb n bd vd fd) (rcV X hn an sv dv n0 n1 n2 n3 n4 g0 gs gn gm)) sz) s (@HAppend.hAppend va_W va_W va_W _ (rcV X hn an sv dv n0 n1 n2 n3 n4 g0 gs gn gm) (rdV X h0 hb n b_1a v_1b fd)) H locs := G
      rcases hp_9 with ⟨rfl, hw_9⟩ | ⟨rfl, hw_9⟩
      · refine lv_if_eq (tgt := 71) zx zb dX6_takeItem_51 (by decide) (fun c_10 => absurd c_10 (by decide)) (fun c_10 => ?_)
        refine lv_aload_n zx zb dX6_takeItem_54 rfl (lv_at hl 1 rfl) ?_
        refine r_get (C := RX5) (T := TX5) (N := 8) (ci := 3) (v := .int (nI n0)) S in_X6_takeItem_X5 G 0 rfl rfl 2 (by decide) lk_X6_takeItem_56 rfl dX6_takeItem_55 ?_
        refine lv_bipush (v := 6) zx zb dX6_takeItem_58 (by decide) ?_
        refine lv_icmp_ge (tgt := 71) zx zb dX6_takeItem_60 (by decide) (fun c_11 => ?_) (fun c_11 => ?_)
        · have fc_11 := j_le (a := 6) (b := n0) (by omega) (by omega) c_11
          refine lv_aload_n zx zb dX6_takeItem_71 rfl (lv_at hl 0 rfl) ?_
          refine va_ldcS zx zb S.2.2.2.1 hZ.2.2.2.1 dX6_takeItem_72 ?_
          refine o_ri (cells' := 0) (slots' := 0) G rfl rfl (n_VS (As := [.ref (K.1 2)]) (rest := []) (C := RX6) (T := TX6) (N := 7) (ci := 4) S G hZ (x_spells l X K h0 hb n b_1a v_1b fd 2 hI_n hI_b_1a ⟨by omega, by omega⟩ (by omega) H.size) gX6_takeItem_X6_spells rfl rfl rfl hdV_X6_spells ⟨Nat.le_of_ble_eq_true rfl, Nat.le_of_ble_eq_true rfl⟩ [16, 17] rfl rfl 16 rfl rfl rfl hl.1 (Nat.le_of_ble_eq_true rfl) dX6_takeItem_74 ⟨Nat.le_of_ble_eq_true rfl, Nat.le_of_ble_eq_true rfl⟩) (fun r_12 u_12 H locs hp_12 G => ?_)
          have G : wd X (va_A (@HAppend.hAppend va_W va_W va_W _ (rdV X h0 hb n bd vd fd) (rcV X hn an sv dv n0 n1 n2 n3 n4 g0 gs gn gm)) sz) (va_A (@HAppend.hAppend va_W va_W va_W _ (rdV X h0 hb n bd vd fd) (rcV X hn an sv dv n0 n1 n2 n3 n4 g0 gs gn gm)) sz) s (@HAppend.hAppend va_W va_W va_W _ (rcV X hn an sv dv n0 n1 n2 n3 n4 g0 gs gn gm) (rdV X h0 hb n b_1a v_1b fd)) H locs := G
          rcases hp_12 with ⟨rfl, hw_12⟩ | ⟨rfl, hw_12⟩
          · refine lv_if_eq (tgt := 88) zx zb dX6_takeItem_77 (by decide) (fun c_13 => absurd c_13 (by decide)) (fun c_13 => ?_)
            refine lv_aload_n zx zb dX6_takeItem_80 rfl (lv_at hl 0 rfl) ?_
            refine lv_aload_n zx zb dX6_takeItem_81 rfl (lv_at hl 1 rfl) ?_
            refine b_wv (cells' := 0) (slots' := 0) (wr := []) G rfl rfl [16, 17, 0, 1, 2, 3, 4, 5, 6, 7, 8, 9, 10, 11, 12, 13, 14, 15] [] rfl rfl rfl rfl (n_V (As := [.ref hn]) (rest := []) (C := RX6) (T := TX6) (N := 7) (ci := 4) S G (x_takeSpeed l X h0 hb n b_1a v_1b fd s0 hn an sv dv n0 n1 n2 n3 n4 g0 gs gn gm hI_n hI_b_1a hI_n0 hI_n1 hI_n2 hI_n3 hI_n4 (by omega) hz1_1 (hz4_1.trans hF) H.size) gX6_takeItem_X6_takeSpeed rfl rfl rfl hdV_X6_takeSpeed ⟨Nat.le_of_ble_eq_true rfl, Nat.le_of_ble_eq_true rfl⟩ [16, 17, 0, 1, 2, 3, 4, 5, 6, 7, 8, 9, 10, 11, 12, 13, 14, 15] rfl rfl 16 rfl rfl rfl hl.1 (Nat.le_of_ble_eq_true rfl) dX6_takeItem_82 ⟨Nat.le_of_ble_eq_true rfl, Nat.le_of_ble_eq_true rfl⟩) (fun u_14 H locs hp_14 G => ?_)
            obtain ⟨b_14a, v_14b, dv_14c⟩ := u_14
            try dsimp only at hp_14
            obtain ⟨hI_b_14a, hq_14⟩ := hp_14
            have hO_b_14a := hI_b_14a
            obtain ⟨hd0_b_14a, hd1_b_14a⟩ := hO_b_14a
            have G : wd X (va_A (@HAppend.hAppend va_W va_W va_W _ (rdV X h0 hb n bd vd fd) (rcV X hn an sv dv n0 n1 n2 n3 n4 g0 gs gn gm)) sz) (va_A (@HAppend.hAppend va_W va_W va_W _ (rdV X h0 hb n bd vd fd) (rcV X hn an sv dv n0 n1 n2 n3 n4 g0 gs gn gm)) sz) s (@HAppend.hAppend va_W va_W va_W _ (rdV X h0 hb n b_14a v_14b fd) (rcV X hn an sv dv_14c n0 n1 n2 n3 n4 g0 gs gn gm)) H locs := G
            rcases hq_14 with ⟨hi0_14, hi1_14, hi2_14, hi3_14⟩ | ⟨pp_14, hi0_14, hi1_14, hi2_14⟩
            · refine lv_goto (tgt := 130) zx zb dX6_takeItem_85 (by decide) ?_
              exact e_void S zr zlk G (b_14a, v_14b, sv, dv_14c, n0, n1) [0, 1, 2, 3, 4, 5, 6, 7, 8, 9, 10, 11, 12, 13, 14, 15, 16, 17] rfl rfl (Or.inr rfl) (⟨hI_b_14a, hI_n0, hI_n1, by have hk : kindI fd n s0 n0 = 2 := (kI_2 (hz2_1.symm.trans c_2) (wrdB_f (show ¬ wrdP fd s0 (tE fd n s0) 0 from by rw [← hz1_1, ← hz0_1]; exact hw_4)) (fun h => absurd h.2 (by first | omega | (dsimp only; omega))) (wrdB_t.mpr (show wrdP fd s0 (tE fd n s0) 2 from by rw [← hz1_1, ← hz0_1]; exact hw_12))); exact Or.inl ⟨(it_2 (sv := sv) (dv := dv) hk).1.trans hi0_14, ⟨(it_2 (sv := sv) (dv := dv) hk).2.2.1.symm, (it_2 (sv := sv) (dv := dv) hk).2.2.2.1.symm, hi1_14.trans (it_2 (sv := sv) (dv := dv) hk).2.2.2.2.symm⟩, hi2_14, hi3_14.trans (congrArg (tE fd n) (it_2 (sv := sv) (dv := dv) hk).2.1.symm)⟩⟩) dX6_takeItem_130
            · refine lv_goto (tgt := 130) zx zb dX6_takeItem_85 (by decide) ?_
              exact e_void S zr zlk G (b_14a, v_14b, sv, dv_14c, n0, n1) [0, 1, 2, 3, 4, 5, 6, 7, 8, 9, 10, 11, 12, 13, 14, 15, 16, 17] rfl rfl (Or.inr rfl) (⟨hI_b_14a, hI_n0, hI_n1, by have hk : kindI fd n s0 n0 = 2 := (kI_2 (hz2_1.symm.trans c_2) (wrdB_f (show ¬ wrdP fd s0 (tE fd n s0) 0 from by rw [← hz1_1, ← hz0_1]; exact hw_4)) (fun h => absurd h.2 (by first | omega | (dsimp only; omega))) (wrdB_t.mpr (show wrdP fd s0 (tE fd n s0) 2 from by rw [← hz1_1, ← hz0_1]; exact hw_12))); exact Or.inr ⟨pp_14, (it_2 (sv := sv) hk).1.trans hi0_14, hi1_14, by first | omega | (dsimp only; omega)⟩⟩) dX6_takeItem_130
          · refine lv_if_eq (tgt := 88) zx zb dX6_takeItem_77 (by decide) (fun c_15 => ?_) (fun c_15 => absurd (by decide) c_15)
            refine lv_aload_n zx zb dX6_takeItem_88 rfl (lv_at hl 0 rfl) ?_
            refine va_ldcS zx zb S.2.2.2.1 hZ.2.2.2.2.1 dX6_takeItem_89 ?_
            refine o_ri (cells' := 0) (slots' := 0) G rfl rfl (n_VS (As := [.ref (K.1 3)]) (rest := []) (C := RX6) (T := TX6) (N := 7) (ci := 4) S G hZ (x_spells l X K h0 hb n b_1a v_1b fd 3 hI_n hI_b_1a ⟨by omega, by omega⟩ (by omega) H.size) gX6_takeItem_X6_spells rfl rfl rfl hdV_X6_spells ⟨Nat.le_of_ble_eq_true rfl, Nat.le_of_ble_eq_true rfl⟩ [16, 17] rfl rfl 16 rfl rfl rfl hl.1 (Nat.le_of_ble_eq_true rfl) dX6_takeItem_91 ⟨Nat.le_of_ble_eq_true rfl, Nat.le_of_ble_eq_true rfl⟩) (fun r_16 u_16 H locs hp_16 G => ?_)
            have G : wd X (va_A (@HAppend.hAppend va_W va_W va_W _ (rdV X h0 hb n bd vd fd) (rcV X hn an sv dv n0 n1 n2 n3 n4 g0 gs gn gm)) sz) (va_A (@HAppend.hAppend va_W va_W va_W _ (rdV X h0 hb n bd vd fd) (rcV X hn an sv dv n0 n1 n2 n3 n4 g0 gs gn gm)) sz) s (@HAppend.hAppend va_W va_W va_W _ (rcV X hn an sv dv n0 n1 n2 n3 n4 g0 gs gn gm) (rdV X h0 hb n b_1a v_1b fd)) H locs := G
            rcases hp_16 with ⟨rfl, hw_16⟩ | ⟨rfl, hw_16⟩
            · refine lv_if_eq (tgt := 105) zx zb dX6_takeItem_94 (by decide) (fun c_17 => absurd c_17 (by decide)) (fun c_17 => ?_)
              refine lv_aload_n zx zb dX6_takeItem_97 rfl (lv_at hl 0 rfl) ?_
              refine lv_aload_n zx zb dX6_takeItem_98 rfl (lv_at hl 1 rfl) ?_
              refine b_wv (cells' := 0) (slots' := 0) (wr := []) G rfl rfl [16, 17, 0, 1, 2, 3, 4, 5, 6, 7, 8, 9, 10, 11, 12, 13, 14, 15] [] rfl rfl rfl rfl (n_V (As := [.ref hn]) (rest := []) (C := RX6) (T := TX6) (N := 7) (ci := 4) S G (x_takeStart l X h0 hb n b_1a v_1b fd s0 hn an sv dv n0 n1 n2 n3 n4 g0 gs gn gm hI_n hI_b_1a hI_n0 hI_n1 hI_n2 hI_n3 hI_n4 (by omega) hz1_1 (hz4_1.trans hF) H.size) gX6_takeItem_X6_takeStart rfl rfl rfl hdV_X6_takeStart ⟨Nat.le_of_ble_eq_true rfl, Nat.le_of_ble_eq_true rfl⟩ [16, 17, 0, 1, 2, 3, 4, 5, 6, 7, 8, 9, 10, 11, 12, 13, 14, 15] rfl rfl 16 rfl rfl rfl hl.1 (Nat.le_of_ble_eq_true rfl) dX6_takeItem_99 ⟨Nat.le_of_ble_eq_true rfl, Nat.le_of_ble_eq_true rfl⟩) (fun u_18 H locs hp_18 G => ?_)
              obtain ⟨b_18a, v_18b, dv_18c⟩ := u_18
              try dsimp only at hp_18
              obtain ⟨hI_b_18a, hq_18⟩ := hp_18
              have hO_b_18a := hI_b_18a
              obtain ⟨hd0_b_18a, hd1_b_18a⟩ := hO_b_18a
              have G : wd X (va_A (@HAppend.hAppend va_W va_W va_W _ (rdV X h0 hb n bd vd fd) (rcV X hn an sv dv n0 n1 n2 n3 n4 g0 gs gn gm)) sz) (va_A (@HAppend.hAppend va_W va_W va_W _ (rdV X h0 hb n bd vd fd) (rcV X hn an sv dv n0 n1 n2 n3 n4 g0 gs gn gm)) sz) s (@HAppend.hAppend va_W va_W va_W _ (rdV X h0 hb n b_18a v_18b fd) (rcV X hn an sv dv_18c n0 n1 n2 n3 n4 g0 gs gn gm)) H locs := G
              rcases hq_18 with ⟨hi0_18, hi1_18, hi2_18, hi3_18⟩ | ⟨pp_18, hi0_18, hi1_18, hi2_18⟩
              · refine lv_goto (tgt := 130) zx zb dX6_takeItem_102 (by decide) ?_
                exact e_void S zr zlk G (b_18a, v_18b, sv, dv_18c, n0, n1) [0, 1, 2, 3, 4, 5, 6, 7, 8, 9, 10, 11, 12, 13, 14, 15, 16, 17] rfl rfl (Or.inr rfl) (⟨hI_b_18a, hI_n0, hI_n1, by have hk : kindI fd n s0 n0 = 3 := (kI_3 (hz2_1.symm.trans c_2) (wrdB_f (show ¬ wrdP fd s0 (tE fd n s0) 0 from by rw [← hz1_1, ← hz0_1]; exact hw_4)) (fun h => absurd h.2 (by first | omega | (dsimp only; omega))) (fun h => absurd (h.symm.trans (wrdB_f (show ¬ wrdP fd s0 (tE fd n s0) 2 from by rw [← hz1_1, ← hz0_1]; exact hw_12))) (by decide)) (wrdB_t.mpr (show wrdP fd s0 (tE fd n s0) 3 from by rw [← hz1_1, ← hz0_1]; exact hw_16))); exact Or.inl ⟨(it_3 (sv := sv) (dv := dv) hk).1.trans hi0_18, ⟨(it_3 (sv := sv) (dv := dv) hk).2.2.1.symm, (it_3 (sv := sv) (dv := dv) hk).2.2.2.1.symm, hi1_18.trans (it_3 (sv := sv) (dv := dv) hk).2.2.2.2.symm⟩, hi2_18, hi3_18.trans (congrArg (tE fd n) (it_3 (sv := sv) (dv := dv) hk).2.1.symm)⟩⟩) dX6_takeItem_130
              · refine lv_goto (tgt := 130) zx zb dX6_takeItem_102 (by decide) ?_
                exact e_void S zr zlk G (b_18a, v_18b, sv, dv_18c, n0, n1) [0, 1, 2, 3, 4, 5, 6, 7, 8, 9, 10, 11, 12, 13, 14, 15, 16, 17] rfl rfl (Or.inr rfl) (⟨hI_b_18a, hI_n0, hI_n1, by have hk : kindI fd n s0 n0 = 3 := (kI_3 (hz2_1.symm.trans c_2) (wrdB_f (show ¬ wrdP fd s0 (tE fd n s0) 0 from by rw [← hz1_1, ← hz0_1]; exact hw_4)) (fun h => absurd h.2 (by first | omega | (dsimp only; omega))) (fun h => absurd (h.symm.trans (wrdB_f (show ¬ wrdP fd s0 (tE fd n s0) 2 from by rw [← hz1_1, ← hz0_1]; exact hw_12))) (by decide)) (wrdB_t.mpr (show wrdP fd s0 (tE fd n s0) 3 from by rw [← hz1_1, ← hz0_1]; exact hw_16))); exact Or.inr ⟨pp_18, (it_3 (sv := sv) hk).1.trans hi0_18, hi1_18, by first | omega | (dsimp only; omega)⟩⟩) dX6_takeItem_130
            · refine lv_if_eq (tgt := 105) zx zb dX6_takeItem_94 (by decide) (fun c_19 => ?_) (fun c_19 => absurd (by decide) c_19)
              refine lv_aload_n zx zb dX6_takeItem_105 rfl (lv_at hl 0 rfl) ?_
              refine va_ldcS zx zb S.2.2.2.1 hZ.2.2.2.2.2 dX6_takeItem_106 ?_
              refine o_ri (cells' := 0) (slots' := 0) G rfl rfl (n_VS (As := [.ref (K.1 4)]) (rest := []) (C := RX6) (T := TX6) (N := 7) (ci := 4) S G hZ (x_spells l X K h0 hb n b_1a v_1b fd 4 hI_n hI_b_1a ⟨by omega, by omega⟩ (by omega) H.size) gX6_takeItem_X6_spells rfl rfl rfl hdV_X6_spells ⟨Nat.le_of_ble_eq_true rfl, Nat.le_of_ble_eq_true rfl⟩ [16, 17] rfl rfl 16 rfl rfl rfl hl.1 (Nat.le_of_ble_eq_true rfl) dX6_takeItem_108 ⟨Nat.le_of_ble_eq_true rfl, Nat.le_of_ble_eq_true rfl⟩) (fun r_20 u_20 H locs hp_20 G => ?_)
              have G : wd X (va_A (@HAppend.hAppend va_W va_W va_W _ (rdV X h0 hb n bd vd fd) (rcV X hn an sv dv n0 n1 n2 n3 n4 g0 gs gn gm)) sz) (va_A (@HAppend.hAppend va_W va_W va_W _ (rdV X h0 hb n bd vd fd) (rcV X hn an sv dv n0 n1 n2 n3 n4 g0 gs gn gm)) sz) s (@HAppend.hAppend va_W va_W va_W _ (rcV X hn an sv dv n0 n1 n2 n3 n4 g0 gs gn gm) (rdV X h0 hb n b_1a v_1b fd)) H locs := G
              rcases hp_20 with ⟨rfl, hw_20⟩ | ⟨rfl, hw_20⟩
              · refine lv_if_eq (tgt := 122) zx zb dX6_takeItem_111 (by decide) (fun c_21 => absurd c_21 (by decide)) (fun c_21 => ?_)
                refine lv_aload_n zx zb dX6_takeItem_114 rfl (lv_at hl 0 rfl) ?_
                refine lv_aload_n zx zb dX6_takeItem_115 rfl (lv_at hl 1 rfl) ?_
                refine b_wv (cells' := 0) (slots' := 0) (wr := []) G rfl rfl [16, 17, 0, 1, 2, 3, 4, 5, 6, 7, 8, 9, 10, 11, 12, 13, 14, 15] [] rfl rfl rfl rfl (n_V (As := [.ref hn]) (rest := []) (C := RX6) (T := TX6) (N := 7) (ci := 4) S G (x_takeTicks l X h0 hb n b_1a v_1b fd s0 hn an sv dv n0 n1 n2 n3 n4 g0 gs gn gm hI_n hI_b_1a hI_n0 hI_n1 hI_n2 hI_n3 hI_n4 (by omega) hz1_1 (hz4_1.trans hF) H.size) gX6_takeItem_X6_takeTicks rfl rfl rfl hdV_X6_takeTicks ⟨Nat.le_of_ble_eq_true rfl, Nat.le_of_ble_eq_true rfl⟩ [16, 17, 0, 1, 2, 3, 4, 5, 6, 7, 8, 9, 10, 11, 12, 13, 14, 15] rfl rfl 16 rfl rfl rfl hl.1 (Nat.le_of_ble_eq_true rfl) dX6_takeItem_116 ⟨Nat.le_of_ble_eq_true rfl, Nat.le_of_ble_eq_true rfl⟩) (fun u_22 H locs hp_22 G => ?_)
                obtain ⟨b_22a, v_22b, dv_22c⟩ := u_22
                try dsimp only at hp_22
                obtain ⟨hI_b_22a, hq_22⟩ := hp_22
                have hO_b_22a := hI_b_22a
                obtain ⟨hd0_b_22a, hd1_b_22a⟩ := hO_b_22a
                have G : wd X (va_A (@HAppend.hAppend va_W va_W va_W _ (rdV X h0 hb n bd vd fd) (rcV X hn an sv dv n0 n1 n2 n3 n4 g0 gs gn gm)) sz) (va_A (@HAppend.hAppend va_W va_W va_W _ (rdV X h0 hb n bd vd fd) (rcV X hn an sv dv n0 n1 n2 n3 n4 g0 gs gn gm)) sz) s (@HAppend.hAppend va_W va_W va_W _ (rdV X h0 hb n b_22a v_22b fd) (rcV X hn an sv dv_22c n0 n1 n2 n3 n4 g0 gs gn gm)) H locs := G
                rcases hq_22 with ⟨hi0_22, hi1_22, hi2_22, hi3_22⟩ | ⟨pp_22, hi0_22, hi1_22, hi2_22⟩
                · refine lv_goto (tgt := 130) zx zb dX6_takeItem_119 (by decide) ?_
                  exact e_void S zr zlk G (b_22a, v_22b, sv, dv_22c, n0, n1) [0, 1, 2, 3, 4, 5, 6, 7, 8, 9, 10, 11, 12, 13, 14, 15, 16, 17] rfl rfl (Or.inr rfl) (⟨hI_b_22a, hI_n0, hI_n1, by have hk : kindI fd n s0 n0 = 4 := (kI_4 (hz2_1.symm.trans c_2) (wrdB_f (show ¬ wrdP fd s0 (tE fd n s0) 0 from by rw [← hz1_1, ← hz0_1]; exact hw_4)) (fun h => absurd h.2 (by first | omega | (dsimp only; omega))) (fun h => absurd (h.symm.trans (wrdB_f (show ¬ wrdP fd s0 (tE fd n s0) 2 from by rw [← hz1_1, ← hz0_1]; exact hw_12))) (by decide)) (fun h => absurd (h.symm.trans (wrdB_f (show ¬ wrdP fd s0 (tE fd n s0) 3 from by rw [← hz1_1, ← hz0_1]; exact hw_16))) (by decide)) (wrdB_t.mpr (show wrdP fd s0 (tE fd n s0) 4 from by rw [← hz1_1, ← hz0_1]; exact hw_20))); exact Or.inl ⟨(it_4 (sv := sv) (dv := dv) hk).1.trans hi0_22, ⟨(it_4 (sv := sv) (dv := dv) hk).2.2.1.symm, (it_4 (sv := sv) (dv := dv) hk).2.2.2.1.symm, hi1_22.trans (it_4 (sv := sv) (dv := dv) hk).2.2.2.2.symm⟩, hi2_22, hi3_22.trans (congrArg (tE fd n) (it_4 (sv := sv) (dv := dv) hk).2.1.symm)⟩⟩) dX6_takeItem_130
                · refine lv_goto (tgt := 130) zx zb dX6_takeItem_119 (by decide) ?_
                  exact e_void S zr zlk G (b_22a, v_22b, sv, dv_22c, n0, n1) [0, 1, 2, 3, 4, 5, 6, 7, 8, 9, 10, 11, 12, 13, 14, 15, 16, 17] rfl rfl (Or.inr rfl) (⟨hI_b_22a, hI_n0, hI_n1, by have hk : kindI fd n s0 n0 = 4 := (kI_4 (hz2_1.symm.trans c_2) (wrdB_f (show ¬ wrdP fd s0 (tE fd n s0) 0 from by rw [← hz1_1, ← hz0_1]; exact hw_4)) (fun h => absurd h.2 (by first | omega | (dsimp only; omega))) (fun h => absurd (h.symm.trans (wrdB_f (show ¬ wrdP fd s0 (tE fd n s0) 2 from by rw [← hz1_1, ← hz0_1]; exact hw_12))) (by decide)) (fun h => absurd (h.symm.trans (wrdB_f (show ¬ wrdP fd s0 (tE fd n s0) 3 from by rw [← hz1_1, ← hz0_1]; exact hw_16))) (by decide)) (wrdB_t.mpr (show wrdP fd s0 (tE fd n s0) 4 from by rw [← hz1_1, ← hz0_1]; exact hw_20))); exact Or.inr ⟨pp_22, (it_4 (sv := sv) hk).1.trans hi0_22, hi1_22, by first | omega | (dsimp only; omega)⟩⟩) dX6_takeItem_130
              · refine lv_if_eq (tgt := 122) zx zb dX6_takeItem_111 (by decide) (fun c_23 => ?_) (fun c_23 => absurd (by decide) c_23)
                refine lv_aload_n zx zb dX6_takeItem_122 rfl (lv_at hl 0 rfl) ?_
                refine lv_aload_n zx zb dX6_takeItem_123 rfl (lv_at hl 0 rfl) ?_
                refine r_get (C := RX6) (T := TX6) (N := 7) (ci := 4) (v := .int (nI (b_1a 1))) S in_X6_takeItem_X6 G 16 rfl rfl 3 (by decide) lk_X6_takeItem_22 rfl dX6_takeItem_124 ?_
                refine r_put (C := RX6) (T := TX6) (N := 7) (ci := 4) (v := .int (nI (b_1a 1))) S in_X6_takeItem_X6 tyX6_ok nmX6 G 16 rfl rfl 6 (by decide) lk_X6_takeItem_31 rfl (vp_nar_int _) rfl (Nat.le_of_ble_eq_true rfl) dX6_takeItem_127 (fun H locs G => ?_)
                obtain ⟨v_24, ⟨hE_v_24_2, hE_v_24_0, hE_v_24_1⟩, G⟩ : ∃ v_24 : Nat → Int32, (v_24 2 = (nI (b_1a 1)) ∧ v_24 0 = v_1b 0 ∧ v_24 1 = v_1b 1) ∧ wd X (va_A (@HAppend.hAppend va_W va_W va_W _ (rdV X h0 hb n bd vd fd) (rcV X hn an sv dv n0 n1 n2 n3 n4 g0 gs gn gm)) sz) (va_A (@HAppend.hAppend va_W va_W va_W _ (rdV X h0 hb n bd vd fd) (rcV X hn an sv dv n0 n1 n2 n3 n4 g0 gs gn gm)) sz) s (@HAppend.hAppend va_W va_W va_W _ (rcV X hn an sv dv n0 n1 n2 n3 n4 g0 gs gn gm) (rdV X h0 hb n b_1a v_24 fd)) H locs := ⟨upd v_1b 2 (nI (b_1a 1)), ⟨rfl, rfl, rfl⟩, G⟩
                exact e_void S zr zlk G (b_1a, v_24, sv, dv, n0, n1) [16, 17, 0, 1, 2, 3, 4, 5, 6, 7, 8, 9, 10, 11, 12, 13, 14, 15] rfl rfl (Or.inr rfl) (⟨hI_b_1a, hI_n0, hI_n1, by have hk : kindI fd n s0 n0 = 0 := (kI_5 (hz2_1.symm.trans c_2) (wrdB_f (show ¬ wrdP fd s0 (tE fd n s0) 0 from by rw [← hz1_1, ← hz0_1]; exact hw_4)) (fun h => absurd h.2 (by first | omega | (dsimp only; omega))) (fun h => absurd (h.symm.trans (wrdB_f (show ¬ wrdP fd s0 (tE fd n s0) 2 from by rw [← hz1_1, ← hz0_1]; exact hw_12))) (by decide)) (fun h => absurd (h.symm.trans (wrdB_f (show ¬ wrdP fd s0 (tE fd n s0) 3 from by rw [← hz1_1, ← hz0_1]; exact hw_16))) (by decide)) (fun h => absurd (h.symm.trans (wrdB_f (show ¬ wrdP fd s0 (tE fd n s0) 4 from by rw [← hz1_1, ← hz0_1]; exact hw_20))) (by decide))); exact Or.inr ⟨s0, it_0 hk, hE_v_24_2.trans (congrArg nI hz0_1), by first | omega | (dsimp only; omega)⟩⟩) dX6_takeItem_130
        · have fc_11 := j_nle (a := 6) (b := n0) (by omega) (by omega) c_11
          refine lv_aload_n zx zb dX6_takeItem_63 rfl (lv_at hl 0 rfl) ?_
          refine lv_aload_n zx zb dX6_takeItem_64 rfl (lv_at hl 1 rfl) ?_
          refine b_wv (cells' := 0) (slots' := 0) (wr := []) G rfl rfl [16, 17, 0, 1, 2, 3, 4, 5, 6, 7, 8, 9, 10, 11, 12, 13, 14, 15] [] rfl rfl rfl rfl (n_V (As := [.ref hn]) (rest := []) (C := RX6) (T := TX6) (N := 7) (ci := 4) S G (x_takeRunner l X h0 hb n b_1a v_1b fd s0 hn an sv dv n0 n1 n2 n3 n4 g0 gs gn gm hI_n hI_b_1a hI_n0 hI_n1 hI_n2 hI_n3 hI_n4 (by omega) hz1_1 (hz4_1.trans hF) (by omega) H.size) gX6_takeItem_X6_takeRunner rfl rfl rfl hdV_X6_takeRunner ⟨Nat.le_of_ble_eq_true rfl, Nat.le_of_ble_eq_true rfl⟩ [16, 17, 0, 1, 2, 3, 4, 5, 6, 7, 8, 9, 10, 11, 12, 13, 14, 15] rfl rfl 16 rfl rfl rfl hl.1 (Nat.le_of_ble_eq_true rfl) dX6_takeItem_65 ⟨Nat.le_of_ble_eq_true rfl, Nat.le_of_ble_eq_true rfl⟩) (fun u_25 H locs hp_25 G => ?_)
          obtain ⟨b_25a, v_25b, sv_25c, dv_25d, n0_25e, n1_25f⟩ := u_25
          try dsimp only at hp_25
          obtain ⟨hI_b_25a, hI_n0_25e, hI_n1_25f, hq_25⟩ := hp_25
          have hO_b_25a := hI_b_25a
          obtain ⟨hd0_b_25a, hd1_b_25a⟩ := hO_b_25a
          have G : wd X (va_A (@HAppend.hAppend va_W va_W va_W _ (rdV X h0 hb n bd vd fd) (rcV X hn an sv dv n0 n1 n2 n3 n4 g0 gs gn gm)) sz) (va_A (@HAppend.hAppend va_W va_W va_W _ (rdV X h0 hb n bd vd fd) (rcV X hn an sv dv n0 n1 n2 n3 n4 g0 gs gn gm)) sz) s (@HAppend.hAppend va_W va_W va_W _ (rdV X h0 hb n b_25a v_25b fd) (rcV X hn an sv_25c dv_25d n0_25e n1_25f n2 n3 n4 g0 gs gn gm)) H locs := G
          rcases hq_25 with ⟨hi0_25, hi1a_25, hi1b_25, hi1c_25, hi2_25, hi3_25⟩ | ⟨pp_25, hi0_25, hi1_25, hi2_25⟩
          · refine lv_goto (tgt := 130) zx zb dX6_takeItem_68 (by decide) ?_
            exact e_void S zr zlk G (b_25a, v_25b, sv_25c, dv_25d, n0_25e, n1_25f) [0, 1, 2, 3, 4, 5, 6, 7, 8, 9, 10, 11, 12, 13, 14, 15, 16, 17] rfl rfl (Or.inr rfl) (⟨hI_b_25a, hI_n0_25e, hI_n1_25f, by have hk : kindI fd n s0 n0 = 1 := (kI_1 (hz2_1.symm.trans c_2) (wrdB_f (show ¬ wrdP fd s0 (tE fd n s0) 0 from by rw [← hz1_1, ← hz0_1]; exact hw_4)) (wrdB_t.mpr (show wrdP fd s0 (tE fd n s0) 1 from by rw [← hz1_1, ← hz0_1]; exact hw_9)) (by first | omega | (dsimp only; omega))); exact Or.inl ⟨(it_1 (sv := sv) (dv := dv) hk).1.trans hi0_25, ⟨hi1a_25.trans (it_1 (sv := sv) (dv := dv) hk).2.2.1.symm, hi1b_25.trans (it_1 (sv := sv) (dv := dv) hk).2.2.2.1.symm, hi1c_25.trans (it_1 (sv := sv) (dv := dv) hk).2.2.2.2.symm⟩, hi2_25, hi3_25.trans (congrArg (tE fd n) (it_1 (sv := sv) (dv := dv) hk).2.1.symm)⟩⟩) dX6_takeItem_130
          · refine lv_goto (tgt := 130) zx zb dX6_takeItem_68 (by decide) ?_
            exact e_void S zr zlk G (b_25a, v_25b, sv_25c, dv_25d, n0_25e, n1_25f) [0, 1, 2, 3, 4, 5, 6, 7, 8, 9, 10, 11, 12, 13, 14, 15, 16, 17] rfl rfl (Or.inr rfl) (⟨hI_b_25a, hI_n0_25e, hI_n1_25f, by have hk : kindI fd n s0 n0 = 1 := (kI_1 (hz2_1.symm.trans c_2) (wrdB_f (show ¬ wrdP fd s0 (tE fd n s0) 0 from by rw [← hz1_1, ← hz0_1]; exact hw_4)) (wrdB_t.mpr (show wrdP fd s0 (tE fd n s0) 1 from by rw [← hz1_1, ← hz0_1]; exact hw_9)) (by first | omega | (dsimp only; omega))); exact Or.inr ⟨pp_25, (it_1 (sv := sv) hk).1.trans hi0_25, hi1_25, by first | omega | (dsimp only; omega)⟩⟩) dX6_takeItem_130
      · refine lv_if_eq (tgt := 71) zx zb dX6_takeItem_51 (by decide) (fun c_26 => ?_) (fun c_26 => absurd (by decide) c_26)
        refine lv_aload_n zx zb dX6_takeItem_71 rfl (lv_at hl 0 rfl) ?_
        refine va_ldcS zx zb S.2.2.2.1 hZ.2.2.2.1 dX6_takeItem_72 ?_
        refine o_ri (cells' := 0) (slots' := 0) G rfl rfl (n_VS (As := [.ref (K.1 2)]) (rest := []) (C := RX6) (T := TX6) (N := 7) (ci := 4) S G hZ (x_spells l X K h0 hb n b_1a v_1b fd 2 hI_n hI_b_1a ⟨by omega, by omega⟩ (by omega) H.size) gX6_takeItem_X6_spells rfl rfl rfl hdV_X6_spells ⟨Nat.le_of_ble_eq_true rfl, Nat.le_of_ble_eq_true rfl⟩ [16, 17] rfl rfl 16 rfl rfl rfl hl.1 (Nat.le_of_ble_eq_true rfl) dX6_takeItem_74 ⟨Nat.le_of_ble_eq_true rfl, Nat.le_of_ble_eq_true rfl⟩) (fun r_27 u_27 H locs hp_27 G => ?_)
        have G : wd X (va_A (@HAppend.hAppend va_W va_W va_W _ (rdV X h0 hb n bd vd fd) (rcV X hn an sv dv n0 n1 n2 n3 n4 g0 gs gn gm)) sz) (va_A (@HAppend.hAppend va_W va_W va_W _ (rdV X h0 hb n bd vd fd) (rcV X hn an sv dv n0 n1 n2 n3 n4 g0 gs gn gm)) sz) s (@HAppend.hAppend va_W va_W va_W _ (rcV X hn an sv dv n0 n1 n2 n3 n4 g0 gs gn gm) (rdV X h0 hb n b_1a v_1b fd)) H locs := G
        rcases hp_27 with ⟨rfl, hw_27⟩ | ⟨rfl, hw_27⟩
        · refine lv_if_eq (tgt := 88) zx zb dX6_takeItem_77 (by decide) (fun c_28 => absurd c_28 (by decide)) (fun c_28 => ?_)
          refine lv_aload_n zx zb dX6_takeItem_80 rfl (lv_at hl 0 rfl) ?_
          refine lv_aload_n zx zb dX6_takeItem_81 rfl (lv_at hl 1 rfl) ?_
          refine b_wv (cells' := 0) (slots' := 0) (wr := []) G rfl rfl [16, 17, 0, 1, 2, 3, 4, 5, 6, 7, 8, 9, 10, 11, 12, 13, 14, 15] [] rfl rfl rfl rfl (n_V (As := [.ref hn]) (rest := []) (C := RX6) (T := TX6) (N := 7) (ci := 4) S G (x_takeSpeed l X h0 hb n b_1a v_1b fd s0 hn an sv dv n0 n1 n2 n3 n4 g0 gs gn gm hI_n hI_b_1a hI_n0 hI_n1 hI_n2 hI_n3 hI_n4 (by omega) hz1_1 (hz4_1.trans hF) H.size) gX6_takeItem_X6_takeSpeed rfl rfl rfl hdV_X6_takeSpeed ⟨Nat.le_of_ble_eq_true rfl, Nat.le_of_ble_eq_true rfl⟩ [16, 17, 0, 1, 2, 3, 4, 5, 6, 7, 8, 9, 10, 11, 12, 13, 14, 15] rfl rfl 16 rfl rfl rfl hl.1 (Nat.le_of_ble_eq_true rfl) dX6_takeItem_82 ⟨Nat.le_of_ble_eq_true rfl, Nat.le_of_ble_eq_true rfl⟩) (fun u_29 H locs hp_29 G => ?_)
          obtain ⟨b_29a, v_29b, dv_29c⟩ := u_29
          try dsimp only at hp_29
          obtain ⟨hI_b_29a, hq_29⟩ := hp_29
          have hO_b_29a := hI_b_29a
          obtain ⟨hd0_b_29a, hd1_b_29a⟩ := hO_b_29a
          have G : wd X (va_A (@HAppend.hAppend va_W va_W va_W _ (rdV X h0 hb n bd vd fd) (rcV X hn an sv dv n0 n1 n2 n3 n4 g0 gs gn gm)) sz) (va_A (@HAppend.hAppend va_W va_W va_W _ (rdV X h0 hb n bd vd fd) (rcV X hn an sv dv n0 n1 n2 n3 n4 g0 gs gn gm)) sz) s (@HAppend.hAppend va_W va_W va_W _ (rdV X h0 hb n b_29a v_29b fd) (rcV X hn an sv dv_29c n0 n1 n2 n3 n4 g0 gs gn gm)) H locs := G
          rcases hq_29 with ⟨hi0_29, hi1_29, hi2_29, hi3_29⟩ | ⟨pp_29, hi0_29, hi1_29, hi2_29⟩
          · refine lv_goto (tgt := 130) zx zb dX6_takeItem_85 (by decide) ?_
            exact e_void S zr zlk G (b_29a, v_29b, sv, dv_29c, n0, n1) [0, 1, 2, 3, 4, 5, 6, 7, 8, 9, 10, 11, 12, 13, 14, 15, 16, 17] rfl rfl (Or.inr rfl) (⟨hI_b_29a, hI_n0, hI_n1, by have hk : kindI fd n s0 n0 = 2 := (kI_2 (hz2_1.symm.trans c_2) (wrdB_f (show ¬ wrdP fd s0 (tE fd n s0) 0 from by rw [← hz1_1, ← hz0_1]; exact hw_4)) (fun h => absurd (h.1.symm.trans (wrdB_f (show ¬ wrdP fd s0 (tE fd n s0) 1 from by rw [← hz1_1, ← hz0_1]; exact hw_9))) (by decide)) (wrdB_t.mpr (show wrdP fd s0 (tE fd n s0) 2 from by rw [← hz1_1, ← hz0_1]; exact hw_27))); exact Or.inl ⟨(it_2 (sv := sv) (dv := dv) hk).1.trans hi0_29, ⟨(it_2 (sv := sv) (dv := dv) hk).2.2.1.symm, (it_2 (sv := sv) (dv := dv) hk).2.2.2.1.symm, hi1_29.trans (it_2 (sv := sv) (dv := dv) hk).2.2.2.2.symm⟩, hi2_29, hi3_29.trans (congrArg (tE fd n) (it_2 (sv := sv) (dv := dv) hk).2.1.symm)⟩⟩) dX6_takeItem_130
          · refine lv_goto (tgt := 130) zx zb dX6_takeItem_85 (by decide) ?_
            exact e_void S zr zlk G (b_29a, v_29b, sv, dv_29c, n0, n1) [0, 1, 2, 3, 4, 5, 6, 7, 8, 9, 10, 11, 12, 13, 14, 15, 16, 17] rfl rfl (Or.inr rfl) (⟨hI_b_29a, hI_n0, hI_n1, by have hk : kindI fd n s0 n0 = 2 := (kI_2 (hz2_1.symm.trans c_2) (wrdB_f (show ¬ wrdP fd s0 (tE fd n s0) 0 from by rw [← hz1_1, ← hz0_1]; exact hw_4)) (fun h => absurd (h.1.symm.trans (wrdB_f (show ¬ wrdP fd s0 (tE fd n s0) 1 from by rw [← hz1_1, ← hz0_1]; exact hw_9))) (by decide)) (wrdB_t.mpr (show wrdP fd s0 (tE fd n s0) 2 from by rw [← hz1_1, ← hz0_1]; exact hw_27))); exact Or.inr ⟨pp_29, (it_2 (sv := sv) hk).1.trans hi0_29, hi1_29, by first | omega | (dsimp only; omega)⟩⟩) dX6_takeItem_130
        · refine lv_if_eq (tgt := 88) zx zb dX6_takeItem_77 (by decide) (fun c_30 => ?_) (fun c_30 => absurd (by decide) c_30)
          refine lv_aload_n zx zb dX6_takeItem_88 rfl (lv_at hl 0 rfl) ?_
          refine va_ldcS zx zb S.2.2.2.1 hZ.2.2.2.2.1 dX6_takeItem_89 ?_
          refine o_ri (cells' := 0) (slots' := 0) G rfl rfl (n_VS (As := [.ref (K.1 3)]) (rest := []) (C := RX6) (T := TX6) (N := 7) (ci := 4) S G hZ (x_spells l X K h0 hb n b_1a v_1b fd 3 hI_n hI_b_1a ⟨by omega, by omega⟩ (by omega) H.size) gX6_takeItem_X6_spells rfl rfl rfl hdV_X6_spells ⟨Nat.le_of_ble_eq_true rfl, Nat.le_of_ble_eq_true rfl⟩ [16, 17] rfl rfl 16 rfl rfl rfl hl.1 (Nat.le_of_ble_eq_true rfl) dX6_takeItem_91 ⟨Nat.le_of_ble_eq_true rfl, Nat.le_of_ble_eq_true rfl⟩) (fun r_31 u_31 H locs hp_31 G => ?_)
          have G : wd X (va_A (@HAppend.hAppend va_W va_W va_W _ (rdV X h0 hb n bd vd fd) (rcV X hn an sv dv n0 n1 n2 n3 n4 g0 gs gn gm)) sz) (va_A (@HAppend.hAppend va_W va_W va_W _ (rdV X h0 hb n bd vd fd) (rcV X hn an sv dv n0 n1 n2 n3 n4 g0 gs gn gm)) sz) s (@HAppend.hAppend va_W va_W va_W _ (rcV X hn an sv dv n0 n1 n2 n3 n4 g0 gs gn gm) (rdV X h0 hb n b_1a v_1b fd)) H locs := G
          rcases hp_31 with ⟨rfl, hw_31⟩ | ⟨rfl, hw_31⟩
          · refine lv_if_eq (tgt := 105) zx zb dX6_takeItem_94 (by decide) (fun c_32 => absurd c_32 (by decide)) (fun c_32 => ?_)
            refine lv_aload_n zx zb dX6_takeItem_97 rfl (lv_at hl 0 rfl) ?_
            refine lv_aload_n zx zb dX6_takeItem_98 rfl (lv_at hl 1 rfl) ?_
            refine b_wv (cells' := 0) (slots' := 0) (wr := []) G rfl rfl [16, 17, 0, 1, 2, 3, 4, 5, 6, 7, 8, 9, 10, 11, 12, 13, 14, 15] [] rfl rfl rfl rfl (n_V (As := [.ref hn]) (rest := []) (C := RX6) (T := TX6) (N := 7) (ci := 4) S G (x_takeStart l X h0 hb n b_1a v_1b fd s0 hn an sv dv n0 n1 n2 n3 n4 g0 gs gn gm hI_n hI_b_1a hI_n0 hI_n1 hI_n2 hI_n3 hI_n4 (by omega) hz1_1 (hz4_1.trans hF) H.size) gX6_takeItem_X6_takeStart rfl rfl rfl hdV_X6_takeStart ⟨Nat.le_of_ble_eq_true rfl, Nat.le_of_ble_eq_true rfl⟩ [16, 17, 0, 1, 2, 3, 4, 5, 6, 7, 8, 9, 10, 11, 12, 13, 14, 15] rfl rfl 16 rfl rfl rfl hl.1 (Nat.le_of_ble_eq_true rfl) dX6_takeItem_99 ⟨Nat.le_of_ble_eq_true rfl, Nat.le_of_ble_eq_true rfl⟩) (fun u_33 H locs hp_33 G => ?_)
            obtain ⟨b_33a, v_33b, dv_33c⟩ := u_33
            try dsimp only at hp_33
            obtain ⟨hI_b_33a, hq_33⟩ := hp_33
            have hO_b_33a := hI_b_33a
            obtain ⟨hd0_b_33a, hd1_b_33a⟩ := hO_b_33a
            have G : wd X (va_A (@HAppend.hAppend va_W va_W va_W _ (rdV X h0 hb n bd vd fd) (rcV X hn an sv dv n0 n1 n2 n3 n4 g0 gs gn gm)) sz) (va_A (@HAppend.hAppend va_W va_W va_W _ (rdV X h0 hb n bd vd fd) (rcV X hn an sv dv n0 n1 n2 n3 n4 g0 gs gn gm)) sz) s (@HAppend.hAppend va_W va_W va_W _ (rdV X h0 hb n b_33a v_33b fd) (rcV X hn an sv dv_33c n0 n1 n2 n3 n4 g0 gs gn gm)) H locs := G
            rcases hq_33 with ⟨hi0_33, hi1_33, hi2_33, hi3_33⟩ | ⟨pp_33, hi0_33, hi1_33, hi2_33⟩
            · refine lv_goto (tgt := 130) zx zb dX6_takeItem_102 (by decide) ?_
              exact e_void S zr zlk G (b_33a, v_33b, sv, dv_33c, n0, n1) [0, 1, 2, 3, 4, 5, 6, 7, 8, 9, 10, 11, 12, 13, 14, 15, 16, 17] rfl rfl (Or.inr rfl) (⟨hI_b_33a, hI_n0, hI_n1, by have hk : kindI fd n s0 n0 = 3 := (kI_3 (hz2_1.symm.trans c_2) (wrdB_f (show ¬ wrdP fd s0 (tE fd n s0) 0 from by rw [← hz1_1, ← hz0_1]; exact hw_4)) (fun h => absurd (h.1.symm.trans (wrdB_f (show ¬ wrdP fd s0 (tE fd n s0) 1 from by rw [← hz1_1, ← hz0_1]; exact hw_9))) (by decide)) (fun h => absurd (h.symm.trans (wrdB_f (show ¬ wrdP fd s0 (tE fd n s0) 2 from by rw [← hz1_1, ← hz0_1]; exact hw_27))) (by decide)) (wrdB_t.mpr (show wrdP fd s0 (tE fd n s0) 3 from by rw [← hz1_1, ← hz0_1]; exact hw_31))); exact Or.inl ⟨(it_3 (sv := sv) (dv := dv) hk).1.trans hi0_33, ⟨(it_3 (sv := sv) (dv := dv) hk).2.2.1.symm, (it_3 (sv := sv) (dv := dv) hk).2.2.2.1.symm, hi1_33.trans (it_3 (sv := sv) (dv := dv) hk).2.2.2.2.symm⟩, hi2_33, hi3_33.trans (congrArg (tE fd n) (it_3 (sv := sv) (dv := dv) hk).2.1.symm)⟩⟩) dX6_takeItem_130
            · refine lv_goto (tgt := 130) zx zb dX6_takeItem_102 (by decide) ?_
              exact e_void S zr zlk G (b_33a, v_33b, sv, dv_33c, n0, n1) [0, 1, 2, 3, 4, 5, 6, 7, 8, 9, 10, 11, 12, 13, 14, 15, 16, 17] rfl rfl (Or.inr rfl) (⟨hI_b_33a, hI_n0, hI_n1, by have hk : kindI fd n s0 n0 = 3 := (kI_3 (hz2_1.symm.trans c_2) (wrdB_f (show ¬ wrdP fd s0 (tE fd n s0) 0 from by rw [← hz1_1, ← hz0_1]; exact hw_4)) (fun h => absurd (h.1.symm.trans (wrdB_f (show ¬ wrdP fd s0 (tE fd n s0) 1 from by rw [← hz1_1, ← hz0_1]; exact hw_9))) (by decide)) (fun h => absurd (h.symm.trans (wrdB_f (show ¬ wrdP fd s0 (tE fd n s0) 2 from by rw [← hz1_1, ← hz0_1]; exact hw_27))) (by decide)) (wrdB_t.mpr (show wrdP fd s0 (tE fd n s0) 3 from by rw [← hz1_1, ← hz0_1]; exact hw_31))); exact Or.inr ⟨pp_33, (it_3 (sv := sv) hk).1.trans hi0_33, hi1_33, by first | omega | (dsimp only; omega)⟩⟩) dX6_takeItem_130
          · refine lv_if_eq (tgt := 105) zx zb dX6_takeItem_94 (by decide) (fun c_34 => ?_) (fun c_34 => absurd (by decide) c_34)
            refine lv_aload_n zx zb dX6_takeItem_105 rfl (lv_at hl 0 rfl) ?_
            refine va_ldcS zx zb S.2.2.2.1 hZ.2.2.2.2.2 dX6_takeItem_106 ?_
            refine o_ri (cells' := 0) (slots' := 0) G rfl rfl (n_VS (As := [.ref (K.1 4)]) (rest := []) (C := RX6) (T := TX6) (N := 7) (ci := 4) S G hZ (x_spells l X K h0 hb n b_1a v_1b fd 4 hI_n hI_b_1a ⟨by omega, by omega⟩ (by omega) H.size) gX6_takeItem_X6_spells rfl rfl rfl hdV_X6_spells ⟨Nat.le_of_ble_eq_true rfl, Nat.le_of_ble_eq_true rfl⟩ [16, 17] rfl rfl 16 rfl rfl rfl hl.1 (Nat.le_of_ble_eq_true rfl) dX6_takeItem_108 ⟨Nat.le_of_ble_eq_true rfl, Nat.le_of_ble_eq_true rfl⟩) (fun r_35 u_35 H locs hp_35 G => ?_)
            have G : wd X (va_A (@HAppend.hAppend va_W va_W va_W _ (rdV X h0 hb n bd vd fd) (rcV X hn an sv dv n0 n1 n2 n3 n4 g0 gs gn gm)) sz) (va_A (@HAppend.hAppend va_W va_W va_W _ (rdV X h0 hb n bd vd fd) (rcV X hn an sv dv n0 n1 n2 n3 n4 g0 gs gn gm)) sz) s (@HAppend.hAppend va_W va_W va_W _ (rcV X hn an sv dv n0 n1 n2 n3 n4 g0 gs gn gm) (rdV X h0 hb n b_1a v_1b fd)) H locs := G
            rcases hp_35 with ⟨rfl, hw_35⟩ | ⟨rfl, hw_35⟩
            · refine lv_if_eq (tgt := 122) zx zb dX6_takeItem_111 (by decide) (fun c_36 => absurd c_36 (by decide)) (fun c_36 => ?_)
              refine lv_aload_n zx zb dX6_takeItem_114 rfl (lv_at hl 0 rfl) ?_
              refine lv_aload_n zx zb dX6_takeItem_115 rfl (lv_at hl 1 rfl) ?_
              refine b_wv (cells' := 0) (slots' := 0) (wr := []) G rfl rfl [16, 17, 0, 1, 2, 3, 4, 5, 6, 7, 8, 9, 10, 11, 12, 13, 14, 15] [] rfl rfl rfl rfl (n_V (As := [.ref hn]) (rest := []) (C := RX6) (T := TX6) (N := 7) (ci := 4) S G (x_takeTicks l X h0 hb n b_1a v_1b fd s0 hn an sv dv n0 n1 n2 n3 n4 g0 gs gn gm hI_n hI_b_1a hI_n0 hI_n1 hI_n2 hI_n3 hI_n4 (by omega) hz1_1 (hz4_1.trans hF) H.size) gX6_takeItem_X6_takeTicks rfl rfl rfl hdV_X6_takeTicks ⟨Nat.le_of_ble_eq_true rfl, Nat.le_of_ble_eq_true rfl⟩ [16, 17, 0, 1, 2, 3, 4, 5, 6, 7, 8, 9, 10, 11, 12, 13, 14, 15] rfl rfl 16 rfl rfl rfl hl.1 (Nat.le_of_ble_eq_true rfl) dX6_takeItem_116 ⟨Nat.le_of_ble_eq_true rfl, Nat.le_of_ble_eq_true rfl⟩) (fun u_37 H locs hp_37 G => ?_)
              obtain ⟨b_37a, v_37b, dv_37c⟩ := u_37
              try dsimp only at hp_37
              obtain ⟨hI_b_37a, hq_37⟩ := hp_37
              have hO_b_37a := hI_b_37a
              obtain ⟨hd0_b_37a, hd1_b_37a⟩ := hO_b_37a
              have G : wd X (va_A (@HAppend.hAppend va_W va_W va_W _ (rdV X h0 hb n bd vd fd) (rcV X hn an sv dv n0 n1 n2 n3 n4 g0 gs gn gm)) sz) (va_A (@HAppend.hAppend va_W va_W va_W _ (rdV X h0 hb n bd vd fd) (rcV X hn an sv dv n0 n1 n2 n3 n4 g0 gs gn gm)) sz) s (@HAppend.hAppend va_W va_W va_W _ (rdV X h0 hb n b_37a v_37b fd) (rcV X hn an sv dv_37c n0 n1 n2 n3 n4 g0 gs gn gm)) H locs := G
              rcases hq_37 with ⟨hi0_37, hi1_37, hi2_37, hi3_37⟩ | ⟨pp_37, hi0_37, hi1_37, hi2_37⟩
              · refine lv_goto (tgt := 130) zx zb dX6_takeItem_119 (by decide) ?_
                exact e_void S zr zlk G (b_37a, v_37b, sv, dv_37c, n0, n1) [0, 1, 2, 3, 4, 5, 6, 7, 8, 9, 10, 11, 12, 13, 14, 15, 16, 17] rfl rfl (Or.inr rfl) (⟨hI_b_37a, hI_n0, hI_n1, by have hk : kindI fd n s0 n0 = 4 := (kI_4 (hz2_1.symm.trans c_2) (wrdB_f (show ¬ wrdP fd s0 (tE fd n s0) 0 from by rw [← hz1_1, ← hz0_1]; exact hw_4)) (fun h => absurd (h.1.symm.trans (wrdB_f (show ¬ wrdP fd s0 (tE fd n s0) 1 from by rw [← hz1_1, ← hz0_1]; exact hw_9))) (by decide)) (fun h => absurd (h.symm.trans (wrdB_f (show ¬ wrdP fd s0 (tE fd n s0) 2 from by rw [← hz1_1, ← hz0_1]; exact hw_27))) (by decide)) (fun h => absurd (h.symm.trans (wrdB_f (show ¬ wrdP fd s0 (tE fd n s0) 3 from by rw [← hz1_1, ← hz0_1]; exact hw_31))) (by decide)) (wrdB_t.mpr (show wrdP fd s0 (tE fd n s0) 4 from by rw [← hz1_1, ← hz0_1]; exact hw_35))); exact Or.inl ⟨(it_4 (sv := sv) (dv := dv) hk).1.trans hi0_37, ⟨(it_4 (sv := sv) (dv := dv) hk).2.2.1.symm, (it_4 (sv := sv) (dv := dv) hk).2.2.2.1.symm, hi1_37.trans (it_4 (sv := sv) (dv := dv) hk).2.2.2.2.symm⟩, hi2_37, hi3_37.trans (congrArg (tE fd n) (it_4 (sv := sv) (dv := dv) hk).2.1.symm)⟩⟩) dX6_takeItem_130
              · refine lv_goto (tgt := 130) zx zb dX6_takeItem_119 (by decide) ?_
                exact e_void S zr zlk G (b_37a, v_37b, sv, dv_37c, n0, n1) [0, 1, 2, 3, 4, 5, 6, 7, 8, 9, 10, 11, 12, 13, 14, 15, 16, 17] rfl rfl (Or.inr rfl) (⟨hI_b_37a, hI_n0, hI_n1, by have hk : kindI fd n s0 n0 = 4 := (kI_4 (hz2_1.symm.trans c_2) (wrdB_f (show ¬ wrdP fd s0 (tE fd n s0) 0 from by rw [← hz1_1, ← hz0_1]; exact hw_4)) (fun h => absurd (h.1.symm.trans (wrdB_f (show ¬ wrdP fd s0 (tE fd n s0) 1 from by rw [← hz1_1, ← hz0_1]; exact hw_9))) (by decide)) (fun h => absurd (h.symm.trans (wrdB_f (show ¬ wrdP fd s0 (tE fd n s0) 2 from by rw [← hz1_1, ← hz0_1]; exact hw_27))) (by decide)) (fun h => absurd (h.symm.trans (wrdB_f (show ¬ wrdP fd s0 (tE fd n s0) 3 from by rw [← hz1_1, ← hz0_1]; exact hw_31))) (by decide)) (wrdB_t.mpr (show wrdP fd s0 (tE fd n s0) 4 from by rw [← hz1_1, ← hz0_1]; exact hw_35))); exact Or.inr ⟨pp_37, (it_4 (sv := sv) hk).1.trans hi0_37, hi1_37, by first | omega | (dsimp only; omega)⟩⟩) dX6_takeItem_130
            · refine lv_if_eq (tgt := 122) zx zb dX6_takeItem_111 (by decide) (fun c_38 => ?_) (fun c_38 => absurd (by decide) c_38)
              refine lv_aload_n zx zb dX6_takeItem_122 rfl (lv_at hl 0 rfl) ?_
              refine lv_aload_n zx zb dX6_takeItem_123 rfl (lv_at hl 0 rfl) ?_
              refine r_get (C := RX6) (T := TX6) (N := 7) (ci := 4) (v := .int (nI (b_1a 1))) S in_X6_takeItem_X6 G 16 rfl rfl 3 (by decide) lk_X6_takeItem_22 rfl dX6_takeItem_124 ?_
              refine r_put (C := RX6) (T := TX6) (N := 7) (ci := 4) (v := .int (nI (b_1a 1))) S in_X6_takeItem_X6 tyX6_ok nmX6 G 16 rfl rfl 6 (by decide) lk_X6_takeItem_31 rfl (vp_nar_int _) rfl (Nat.le_of_ble_eq_true rfl) dX6_takeItem_127 (fun H locs G => ?_)
              obtain ⟨v_39, ⟨hE_v_39_2, hE_v_39_0, hE_v_39_1⟩, G⟩ : ∃ v_39 : Nat → Int32, (v_39 2 = (nI (b_1a 1)) ∧ v_39 0 = v_1b 0 ∧ v_39 1 = v_1b 1) ∧ wd X (va_A (@HAppend.hAppend va_W va_W va_W _ (rdV X h0 hb n bd vd fd) (rcV X hn an sv dv n0 n1 n2 n3 n4 g0 gs gn gm)) sz) (va_A (@HAppend.hAppend va_W va_W va_W _ (rdV X h0 hb n bd vd fd) (rcV X hn an sv dv n0 n1 n2 n3 n4 g0 gs gn gm)) sz) s (@HAppend.hAppend va_W va_W va_W _ (rcV X hn an sv dv n0 n1 n2 n3 n4 g0 gs gn gm) (rdV X h0 hb n b_1a v_39 fd)) H locs := ⟨upd v_1b 2 (nI (b_1a 1)), ⟨rfl, rfl, rfl⟩, G⟩
              exact e_void S zr zlk G (b_1a, v_39, sv, dv, n0, n1) [16, 17, 0, 1, 2, 3, 4, 5, 6, 7, 8, 9, 10, 11, 12, 13, 14, 15] rfl rfl (Or.inr rfl) (⟨hI_b_1a, hI_n0, hI_n1, by have hk : kindI fd n s0 n0 = 0 := (kI_5 (hz2_1.symm.trans c_2) (wrdB_f (show ¬ wrdP fd s0 (tE fd n s0) 0 from by rw [← hz1_1, ← hz0_1]; exact hw_4)) (fun h => absurd (h.1.symm.trans (wrdB_f (show ¬ wrdP fd s0 (tE fd n s0) 1 from by rw [← hz1_1, ← hz0_1]; exact hw_9))) (by decide)) (fun h => absurd (h.symm.trans (wrdB_f (show ¬ wrdP fd s0 (tE fd n s0) 2 from by rw [← hz1_1, ← hz0_1]; exact hw_27))) (by decide)) (fun h => absurd (h.symm.trans (wrdB_f (show ¬ wrdP fd s0 (tE fd n s0) 3 from by rw [← hz1_1, ← hz0_1]; exact hw_31))) (by decide)) (fun h => absurd (h.symm.trans (wrdB_f (show ¬ wrdP fd s0 (tE fd n s0) 4 from by rw [← hz1_1, ← hz0_1]; exact hw_35))) (by decide))); exact Or.inr ⟨s0, it_0 hk, hE_v_39_2.trans (congrArg nI hz0_1), by first | omega | (dsimp only; omega)⟩⟩) dX6_takeItem_130
set_option maxHeartbeats 4000000 in
set_option maxRecDepth 100000 in
theorem x_takeItem1 (l : Launch) (X : EX) (K : SK) (h0 : Nat) (hb : Nat) (n : Nat) (bd : Nat → Nat) (vd : Nat → Int32) (fd : Nat → Int32) (s0 : Nat) (hn : Nat) (an : Nat → Nat) (sv : Nat → Int32) (dv : Nat → Int32) (n0 : Nat) (n1 : Nat) (n2 : Nat) (n3 : Nat) (n4 : Nat) (g0 : Nat → Int32) (gs : Nat → Int32) (gn : Nat → Int32) (gm : Nat → Int32) (hI_n : n ≤ 150) (hI_bd : InP bd) (hI_n0 : n0 ≤ 6) (hI_n1 : n1 ≤ 8) (hI_n2 : n2 ≤ 5) (hI_n3 : n3 ≤ 6) (hI_n4 : n4 ≤ 6) (hP : bd 0 ≤ n) (hA : scanP qB fd n (bd 0) = s0) (hF : vd 2 = -1) (sz : Nat) : Met l yX6_takeItem wsX6_takeItem ({ frames := 5, cells := 0, slots := 0, locals := 107 } : Room) (pS X K [.ref h0, .ref hn, .int 1] (@HAppend.hAppend va_W va_W va_W _ (rdV X h0 hb n bd vd fd) (rcV X hn an sv dv n0 n1 n2 n3 n4 g0 gs gn gm)) sz) (qV (fun (u : (Nat → Nat) × (Nat → Int32) × (Nat → Int32) × (Nat) × (Nat) × (Nat) × (Nat) × (Nat)) => InP u.1 ∧ u.2.2.2.1 ≤ 6 ∧ u.2.2.2.2.1 ≤ 8 ∧ u.2.2.2.2.2.1 ≤ 5 ∧ u.2.2.2.2.2.2.1 ≤ 6 ∧ u.2.2.2.2.2.2.2 ≤ 6 ∧ ((tK fd n s0 = 1 ∧ wrdB fd n s0 0 = true ∧ racC fd n s0 = none ∧ (u.2.2.1 = upd (upd dv 0 (tV fd n (tN fd n s0))) 1 0 ∧ u.2.2.2.1 = 0 ∧ u.2.2.2.2.2.1 = 0 ∧ u.2.2.2.2.2.2.1 = 0 ∧ u.2.2.2.2.2.2.2 = 0) ∧ u.2.1 2 = -1 ∧ u.1 0 = tE fd n (t2 fd n s0)) ∨ (∃ p : Nat, ((¬ (tK fd n s0 = 1 ∧ wrdB fd n s0 0 = true) ∧ p = s0) ∨ ((tK fd n s0 = 1 ∧ wrdB fd n s0 0 = true) ∧ racC fd n s0 = some p)) ∧ u.2.1 2 = nI p ∧ p ≤ n))) X (fun (u : (Nat → Nat) × (Nat → Int32) × (Nat → Int32) × (Nat) × (Nat) × (Nat) × (Nat) × (Nat)) => @HAppend.hAppend va_W va_W va_W _ (rdV X h0 hb n u.1 u.2.1 fd) (rcV X hn an sv u.2.2.1 u.2.2.2.1 u.2.2.2.2.1 u.2.2.2.2.2.1 u.2.2.2.2.2.2.1 u.2.2.2.2.2.2.2 g0 gs gn gm)) (@HAppend.hAppend va_W va_W va_W _ (rdV X h0 hb n bd vd fd) (rcV X hn an sv dv n0 n1 n2 n3 n4 g0 gs gn gm)) sz) 0 0 (va_A (@HAppend.hAppend va_W va_W va_W _ (rdV X h0 hb n bd vd fd) (rcV X hn an sv dv n0 n1 n2 n3 n4 g0 gs gn gm)) sz) := by
  refine mk_metS (B := (va_A (@HAppend.hAppend va_W va_W va_W _ (rdV X h0 hb n bd vd fd) (rcV X hn an sv dv n0 n1 n2 n3 n4 g0 gs gn gm)) sz)) (A := (va_A (@HAppend.hAppend va_W va_W va_W _ (rdV X h0 hb n bd vd fd) (rcV X hn an sv dv n0 n1 n2 n3 n4 g0 gs gn gm)) sz)) (cc := cX6_takeItem) (maxL := 3) (ret := none) (by decide) rfl (Nat.le_of_ble_eq_true rfl) k_w k_a (fun p e s m below meth c S zr zlk znm zsz G hZ ls hl => ?_)
  have S : CallFix p m c cX6_takeItem 3 s _ wsX6_takeItem RX6 := S
  have zx := S.1
  have zb := S.2.1
  have hl : lv_has ls 3 [(0, .ref h0), (1, .ref hn), (2, .int 1)] := hl
  have hO_bd := hI_bd
  obtain ⟨hd0_bd, hd1_bd⟩ := hO_bd
  refine lv_aload_n zx zb dX6_takeItem_0 rfl (lv_at hl 0 rfl) ?_
  refine b_wv (cells' := 0) (slots' := 0) (wr := rcV X hn an sv dv n0 n1 n2 n3 n4 g0 gs gn gm) G rfl rfl [0, 1] [2, 3, 4, 5, 6, 7, 8, 9, 10, 11, 12, 13, 14, 15, 16, 17] rfl rfl rfl rfl (n_V (As := []) (rest := []) (C := RX6) (T := TX6) (N := 7) (ci := 4) S G (x_nextToken l X h0 hb n bd vd fd hI_n hI_bd (by omega) s.heap.size) gX6_takeItem_X6_nextToken rfl rfl rfl hdV_X6_nextToken ⟨Nat.le_of_ble_eq_true rfl, Nat.le_of_ble_eq_true rfl⟩ [0, 1] rfl rfl 0 rfl rfl rfl hl.1 (Nat.le_of_ble_eq_true rfl) dX6_takeItem_1 ⟨Nat.le_of_ble_eq_true rfl, Nat.le_of_ble_eq_true rfl⟩) (fun u_1 H locs hp_1 G => ?_)
  obtain ⟨b_1a, v_1b⟩ := u_1
  try dsimp only at hp_1
  obtain ⟨hI_b_1a, hq_1⟩ := hp_1
  have hO_b_1a := hI_b_1a
  obtain ⟨hd0_b_1a, hd1_b_1a⟩ := hO_b_1a
  have G : wd X (va_A (@HAppend.hAppend va_W va_W va_W _ (rdV X h0 hb n bd vd fd) (rcV X hn an sv dv n0 n1 n2 n3 n4 g0 gs gn gm)) sz) (va_A (@HAppend.hAppend va_W va_W va_W _ (rdV X h0 hb n bd vd fd) (rcV X hn an sv dv n0 n1 n2 n3 n4 g0 gs gn gm)) sz) s (@HAppend.hAppend va_W va_W va_W _ (rcV X hn an sv dv n0 n1 n2 n3 n4 g0 gs gn gm) (rdV X h0 hb n b_1a v_1b fd)) H locs := G
  obtain ⟨hz0_1, hz1_1, hz2_1, hz3_1, hz4_1⟩ := hq_1
  rw [hA] at hz0_1 hz1_1 hz2_1
  have hs0 := scan_le (q := qB) (T := fd) (n := n) (a := bd 0) hP
  rw [hA] at hs0
  have hTs := tE_le (T := fd) (n := n) (s := s0) hs0.2
  refine lv_aload_n zx zb dX6_takeItem_4 rfl (lv_at hl 0 rfl) ?_
  refine r_get (C := RX6) (T := TX6) (N := 7) (ci := 4) (v := .int (v_1b 0)) S in_X6_takeItem_X6 G 16 rfl rfl 4 (by decide) lk_X6_takeItem_25 rfl dX6_takeItem_5 ?_
  refine lv_iconst (v := 1) zx zb dX6_takeItem_8 (by decide) ?_
  refine lv_icmp_ne (tgt := 22) zx zb dX6_takeItem_9 (by decide) (fun c_2 => ?_) (fun c_2 => ?_)
  · refine lv_aload_n zx zb dX6_takeItem_22 rfl (lv_at hl 0 rfl) ?_
    refine lv_aload_n zx zb dX6_takeItem_23 rfl (lv_at hl 0 rfl) ?_
    refine r_get (C := RX6) (T := TX6) (N := 7) (ci := 4) (v := .int (nI (b_1a 1))) S in_X6_takeItem_X6 G 16 rfl rfl 3 (by decide) lk_X6_takeItem_22 rfl dX6_takeItem_24 ?_
    refine r_put (C := RX6) (T := TX6) (N := 7) (ci := 4) (v := .int (nI (b_1a 1))) S in_X6_takeItem_X6 tyX6_ok nmX6 G 16 rfl rfl 6 (by decide) lk_X6_takeItem_31 rfl (vp_nar_int _) rfl (Nat.le_of_ble_eq_true rfl) dX6_takeItem_27 (fun H locs G => ?_)
    obtain ⟨v_3, ⟨hE_v_3_2, hE_v_3_0, hE_v_3_1⟩, G⟩ : ∃ v_3 : Nat → Int32, (v_3 2 = (nI (b_1a 1)) ∧ v_3 0 = v_1b 0 ∧ v_3 1 = v_1b 1) ∧ wd X (va_A (@HAppend.hAppend va_W va_W va_W _ (rdV X h0 hb n bd vd fd) (rcV X hn an sv dv n0 n1 n2 n3 n4 g0 gs gn gm)) sz) (va_A (@HAppend.hAppend va_W va_W va_W _ (rdV X h0 hb n bd vd fd) (rcV X hn an sv dv n0 n1 n2 n3 n4 g0 gs gn gm)) sz) s (@HAppend.hAppend va_W va_W va_W _ (rcV X hn an sv dv n0 n1 n2 n3 n4 g0 gs gn gm) (rdV X h0 hb n b_1a v_3 fd)) H locs := ⟨upd v_1b 2 (nI (b_1a 1)), ⟨rfl, rfl, rfl⟩, G⟩
    refine lv_goto (tgt := 130) zx zb dX6_takeItem_30 (by decide) ?_
    exact e_void S zr zlk G (b_1a, v_3, dv, n0, n1, n2, n3, n4) [16, 17, 0, 1, 2, 3, 4, 5, 6, 7, 8, 9, 10, 11, 12, 13, 14, 15] rfl rfl (Or.inr rfl) (⟨hI_b_1a, hI_n0, hI_n1, hI_n2, hI_n3, hI_n4, Or.inr ⟨s0, Or.inl ⟨fun h => c_2 (hz2_1.trans h.1), rfl⟩, hE_v_3_2.trans (congrArg nI hz0_1), by first | omega | (dsimp only; omega)⟩⟩) dX6_takeItem_130
  · refine lv_aload_n zx zb dX6_takeItem_12 rfl (lv_at hl 0 rfl) ?_
    refine va_ldcS zx zb S.2.2.2.1 hZ.2.1 dX6_takeItem_13 ?_
    refine o_ri (cells' := 0) (slots' := 0) G rfl rfl (n_VS (As := [.ref (K.1 0)]) (rest := []) (C := RX6) (T := TX6) (N := 7) (ci := 4) S G hZ (x_spells l X K h0 hb n b_1a v_1b fd 0 hI_n hI_b_1a ⟨by omega, by omega⟩ (by omega) H.size) gX6_takeItem_X6_spells rfl rfl rfl hdV_X6_spells ⟨Nat.le_of_ble_eq_true rfl, Nat.le_of_ble_eq_true rfl⟩ [16, 17] rfl rfl 16 rfl rfl rfl hl.1 (Nat.le_of_ble_eq_true rfl) dX6_takeItem_15 ⟨Nat.le_of_ble_eq_true rfl, Nat.le_of_ble_eq_true rfl⟩) (fun r_4 u_4 H locs hp_4 G => ?_)
    have G : wd X (va_A (@HAppend.hAppend va_W va_W va_W _ (rdV X h0 hb n bd vd fd) (rcV X hn an sv dv n0 n1 n2 n3 n4 g0 gs gn gm)) sz) (va_A (@HAppend.hAppend va_W va_W va_W _ (rdV X h0 hb n bd vd fd) (rcV X hn an sv dv n0 n1 n2 n3 n4 g0 gs gn gm)) sz) s (@HAppend.hAppend va_W va_W va_W _ (rcV X hn an sv dv n0 n1 n2 n3 n4 g0 gs gn gm) (rdV X h0 hb n b_1a v_1b fd)) H locs := G
    rcases hp_4 with ⟨rfl, hw_4⟩ | ⟨rfl, hw_4⟩
    · refine lv_iload_n zx zb dX6_takeItem_18 rfl (lv_at hl 2 rfl) ?_
      refine lv_icmp_eq (tgt := 33) zx zb dX6_takeItem_19 (by decide) (fun c_5 => ?_) (fun c_5 => absurd (by decide) c_5)
      refine lv_iload_n zx zb dX6_takeItem_33 rfl (lv_at hl 2 rfl) ?_
      refine lv_if_eq (tgt := 45) zx zb dX6_takeItem_34 (by decide) (fun c_6 => absurd c_6 (by decide)) (fun c_6 => ?_)
      refine lv_aload_n zx zb dX6_takeItem_37 rfl (lv_at hl 0 rfl) ?_
      refine lv_aload_n zx zb dX6_takeItem_38 rfl (lv_at hl 1 rfl) ?_
      refine b_wv (cells' := 0) (slots' := 0) (wr := []) G rfl rfl [16, 17, 0, 1, 2, 3, 4, 5, 6, 7, 8, 9, 10, 11, 12, 13, 14, 15] [] rfl rfl rfl rfl (n_V (As := [.ref hn]) (rest := []) (C := RX6) (T := TX6) (N := 7) (ci := 4) S G (x_takeLength l X h0 hb n b_1a v_1b fd s0 hn an sv dv n0 n1 n2 n3 n4 g0 gs gn gm hI_n hI_b_1a hI_n0 hI_n1 hI_n2 hI_n3 hI_n4 (by omega) hz1_1 (hz4_1.trans hF) H.size) gX6_takeItem_X6_takeLength rfl rfl rfl hdV_X6_takeLength ⟨Nat.le_of_ble_eq_true rfl, Nat.le_of_ble_eq_true rfl⟩ [16, 17, 0, 1, 2, 3, 4, 5, 6, 7, 8, 9, 10, 11, 12, 13, 14, 15] rfl rfl 16 rfl rfl rfl hl.1 (Nat.le_of_ble_eq_true rfl) dX6_takeItem_39 ⟨Nat.le_of_ble_eq_true rfl, Nat.le_of_ble_eq_true rfl⟩) (fun u_7 H locs hp_7 G => ?_)
      obtain ⟨b_7a, v_7b, dv_7c, n0_7d, n1_7e, n2_7f, n3_7g, n4_7h⟩ := u_7
      try dsimp only at hp_7
      obtain ⟨hI_b_7a, hI_n0_7d, hI_n1_7e, hI_n2_7f, hI_n3_7g, hI_n4_7h, hq_7⟩ := hp_7
      have hO_b_7a := hI_b_7a
      obtain ⟨hd0_b_7a, hd1_b_7a⟩ := hO_b_7a
      have G : wd X (va_A (@HAppend.hAppend va_W va_W va_W _ (rdV X h0 hb n bd vd fd) (rcV X hn an sv dv n0 n1 n2 n3 n4 g0 gs gn gm)) sz) (va_A (@HAppend.hAppend va_W va_W va_W _ (rdV X h0 hb n bd vd fd) (rcV X hn an sv dv n0 n1 n2 n3 n4 g0 gs gn gm)) sz) s (@HAppend.hAppend va_W va_W va_W _ (rdV X h0 hb n b_7a v_7b fd) (rcV X hn an sv dv_7c n0_7d n1_7e n2_7f n3_7g n4_7h g0 gs gn gm)) H locs := G
      rcases hq_7 with ⟨hi0_7, hi1_7, hi2_7, hi3_7⟩ | ⟨pp_7, hi0_7, hi1_7, hi2_7⟩
      · refine lv_goto (tgt := 130) zx zb dX6_takeItem_42 (by decide) ?_
        exact e_void S zr zlk G (b_7a, v_7b, dv_7c, n0_7d, n1_7e, n2_7f, n3_7g, n4_7h) [0, 1, 2, 3, 4, 5, 6, 7, 8, 9, 10, 11, 12, 13, 14, 15, 16, 17] rfl rfl (Or.inr rfl) (⟨hI_b_7a, hI_n0_7d, hI_n1_7e, hI_n2_7f, hI_n3_7g, hI_n4_7h, Or.inl ⟨(hz2_1.symm.trans c_2), (wrdB_t.mpr (show wrdP fd s0 (tE fd n s0) 0 from by rw [← hz1_1, ← hz0_1]; exact hw_4)), hi0_7, hi1_7, hi2_7, hi3_7⟩⟩) dX6_takeItem_130
      · refine lv_goto (tgt := 130) zx zb dX6_takeItem_42 (by decide) ?_
        exact e_void S zr zlk G (b_7a, v_7b, dv_7c, n0_7d, n1_7e, n2_7f, n3_7g, n4_7h) [0, 1, 2, 3, 4, 5, 6, 7, 8, 9, 10, 11, 12, 13, 14, 15, 16, 17] rfl rfl (Or.inr rfl) (⟨hI_b_7a, hI_n0_7d, hI_n1_7e, hI_n2_7f, hI_n3_7g, hI_n4_7h, Or.inr ⟨pp_7, Or.inr ⟨⟨(hz2_1.symm.trans c_2), (wrdB_t.mpr (show wrdP fd s0 (tE fd n s0) 0 from by rw [← hz1_1, ← hz0_1]; exact hw_4))⟩, hi0_7⟩, hi1_7, by first | omega | (dsimp only; omega)⟩⟩) dX6_takeItem_130
    · refine lv_iload_n zx zb dX6_takeItem_18 rfl (lv_at hl 2 rfl) ?_
      refine lv_icmp_eq (tgt := 33) zx zb dX6_takeItem_19 (by decide) (fun c_8 => absurd c_8 (by decide)) (fun c_8 => ?_)
      refine lv_aload_n zx zb dX6_takeItem_22 rfl (lv_at hl 0 rfl) ?_
      refine lv_aload_n zx zb dX6_takeItem_23 rfl (lv_at hl 0 rfl) ?_
      refine r_get (C := RX6) (T := TX6) (N := 7) (ci := 4) (v := .int (nI (b_1a 1))) S in_X6_takeItem_X6 G 16 rfl rfl 3 (by decide) lk_X6_takeItem_22 rfl dX6_takeItem_24 ?_
      refine r_put (C := RX6) (T := TX6) (N := 7) (ci := 4) (v := .int (nI (b_1a 1))) S in_X6_takeItem_X6 tyX6_ok nmX6 G 16 rfl rfl 6 (by decide) lk_X6_takeItem_31 rfl (vp_nar_int _) rfl (Nat.le_of_ble_eq_true rfl) dX6_takeItem_27 (fun H locs G => ?_)
      obtain ⟨v_9, ⟨hE_v_9_2, hE_v_9_0, hE_v_9_1⟩, G⟩ : ∃ v_9 : Nat → Int32, (v_9 2 = (nI (b_1a 1)) ∧ v_9 0 = v_1b 0 ∧ v_9 1 = v_1b 1) ∧ wd X (va_A (@HAppend.hAppend va_W va_W va_W _ (rdV X h0 hb n bd vd fd) (rcV X hn an sv dv n0 n1 n2 n3 n4 g0 gs gn gm)) sz) (va_A (@HAppend.hAppend va_W va_W va_W _ (rdV X h0 hb n bd vd fd) (rcV X hn an sv dv n0 n1 n2 n3 n4 g0 gs gn gm)) sz) s (@HAppend.hAppend va_W va_W va_W _ (rcV X hn an sv dv n0 n1 n2 n3 n4 g0 gs gn gm) (rdV X h0 hb n b_1a v_9 fd)) H locs := ⟨upd v_1b 2 (nI (b_1a 1)), ⟨rfl, rfl, rfl⟩, G⟩
      refine lv_goto (tgt := 130) zx zb dX6_takeItem_30 (by decide) ?_
      exact e_void S zr zlk G (b_1a, v_9, dv, n0, n1, n2, n3, n4) [16, 17, 0, 1, 2, 3, 4, 5, 6, 7, 8, 9, 10, 11, 12, 13, 14, 15] rfl rfl (Or.inr rfl) (⟨hI_b_1a, hI_n0, hI_n1, hI_n2, hI_n3, hI_n4, Or.inr ⟨s0, Or.inl ⟨fun h => absurd (h.2.symm.trans (wrdB_f (show ¬ wrdP fd s0 (tE fd n s0) 0 from by rw [← hz1_1, ← hz0_1]; exact hw_4))) (by decide), rfl⟩, hE_v_9_2.trans (congrArg nI hz0_1), by first | omega | (dsimp only; omega)⟩⟩) dX6_takeItem_130
