set_option maxRecDepth 20000 in
theorem ggX10_farBy_X1_limit : GoodIn wsX10_farBy wsX1_limit := goodIn_r _ [10] rfl (by decide +kernel)
set_option maxRecDepth 20000 in
theorem gX10_farBy_X1_limit : GoodIn wsX10_farBy (va_wsS RX10 331 yX1_limit wsX1_limit) := goodIn_app (goodIn_of _ (by decide +kernel)) ggX10_farBy_X1_limit
set_option maxRecDepth 20000 in
theorem ggX10_farBy_X2_reach : GoodIn wsX10_farBy wsX2_reach := goodIn_r _ [6] rfl (by decide +kernel)
set_option maxRecDepth 20000 in
theorem gX10_farBy_X2_reach : GoodIn wsX10_farBy (va_wsS RX10 323 yX2_reach wsX2_reach) := goodIn_app (goodIn_of _ (by decide +kernel)) ggX10_farBy_X2_reach
set_option maxRecDepth 20000 in
theorem ggX10_forget_X10_refuse : GoodIn wsX10_forget wsX10_refuse := goodIn_r _ [13, 14, 15, 16, 17, 18, 19, 20, 21, 22, 23, 24, 25, 26, 27, 28] rfl (by decide +kernel)
set_option maxRecDepth 20000 in
theorem gX10_forget_X10_refuse : GoodIn wsX10_forget (wsV RX10 83 RX10 yX10_refuse wsX10_refuse) := goodIn_app (goodIn_of _ (by decide +kernel)) ggX10_forget_X10_refuse
set_option maxRecDepth 20000 in
theorem ggX10_forget_X10_within : GoodIn wsX10_forget wsX10_within := goodIn_r _ [9] rfl (by decide +kernel)
set_option maxRecDepth 20000 in
theorem gX10_forget_X10_within : GoodIn wsX10_forget (va_wsS RX10 79 yX10_within wsX10_within) := goodIn_app (goodIn_of _ (by decide +kernel)) ggX10_forget_X10_within
set_option maxRecDepth 20000 in
theorem ggX10_mostAlike_X10_farBy : GoodIn wsX10_mostAlike wsX10_farBy := goodIn_r _ [16, 17, 18, 19, 20, 21, 22, 23, 24, 25, 26, 51, 52, 53, 54, 55, 56, 57, 58] rfl (by decide +kernel)
set_option maxRecDepth 20000 in
theorem gX10_mostAlike_X10_farBy : GoodIn wsX10_mostAlike (va_wsS RX10 311 yX10_farBy wsX10_farBy) := goodIn_app (goodIn_of _ (by decide +kernel)) ggX10_mostAlike_X10_farBy
set_option maxRecDepth 20000 in
theorem ggX10_mostAlike_X10_hasBit : GoodIn wsX10_mostAlike wsX10_hasBit := goodIn_r _ [13] rfl (by decide +kernel)
set_option maxRecDepth 20000 in
theorem gX10_mostAlike_X10_hasBit : GoodIn wsX10_mostAlike (va_wsS RX10 205 yX10_hasBit wsX10_hasBit) := goodIn_app (goodIn_of _ (by decide +kernel)) ggX10_mostAlike_X10_hasBit
set_option maxRecDepth 20000 in
theorem ggX10_mostAlike_X9_restart : GoodIn wsX10_mostAlike wsX9_restart := goodIn_r _ [7, 8, 9, 49, 50] rfl (by decide +kernel)
set_option maxRecDepth 20000 in
theorem gX10_mostAlike_X9_restart : GoodIn wsX10_mostAlike (wsV RX10 309 RX9 yX9_restart wsX9_restart) := goodIn_app (goodIn_of _ (by decide +kernel)) ggX10_mostAlike_X9_restart
set_option maxRecDepth 20000 in
theorem ggX10_mostAlike_X9_see : GoodIn wsX10_mostAlike wsX9_see := goodIn_r _ [30, 8, 9, 31, 32, 33, 34, 49, 50] rfl (by decide +kernel)
set_option maxRecDepth 20000 in
theorem gX10_mostAlike_X9_see : GoodIn wsX10_mostAlike (wsV RX10 314 RX9 yX9_see wsX9_see) := goodIn_app (goodIn_of _ (by decide +kernel)) ggX10_mostAlike_X9_see
set_option maxRecDepth 20000 in
theorem ggX10_part_X10_refuse : GoodIn wsX10_part wsX10_refuse := goodIn_r _ [10, 11, 12, 13, 14, 15, 16, 17, 18, 19, 20, 21, 22, 23, 24, 25] rfl (by decide +kernel)
set_option maxRecDepth 20000 in
theorem gX10_part_X10_refuse : GoodIn wsX10_part (wsV RX10 83 RX10 yX10_refuse wsX10_refuse) := goodIn_app (goodIn_of _ (by decide +kernel)) ggX10_part_X10_refuse
set_option maxRecDepth 20000 in
theorem ggX10_part_X10_within : GoodIn wsX10_part wsX10_within := goodIn_r _ [6] rfl (by decide +kernel)
set_option maxRecDepth 20000 in
theorem gX10_part_X10_within : GoodIn wsX10_part (va_wsS RX10 79 yX10_within wsX10_within) := goodIn_app (goodIn_of _ (by decide +kernel)) ggX10_part_X10_within
set_option maxRecDepth 20000 in
theorem ggX10_races_X10_refuse : GoodIn wsX10_races wsX10_refuse := goodIn_r _ [21, 22, 70, 71, 72, 73, 74, 75, 76, 77, 78, 79, 80, 81, 82, 83] rfl (by decide +kernel)
set_option maxRecDepth 20000 in
theorem gX10_races_X10_refuse : GoodIn wsX10_races (wsV RX10 83 RX10 yX10_refuse wsX10_refuse) := goodIn_app (goodIn_of _ (by decide +kernel)) ggX10_races_X10_refuse
set_option maxRecDepth 20000 in
theorem ggX10_races_X10_within : GoodIn wsX10_races wsX10_within := goodIn_r _ [17] rfl (by decide +kernel)
set_option maxRecDepth 20000 in
theorem gX10_races_X10_within : GoodIn wsX10_races (va_wsS RX10 79 yX10_within wsX10_within) := goodIn_app (goodIn_of _ (by decide +kernel)) ggX10_races_X10_within
set_option maxRecDepth 20000 in
theorem ggX10_races_X5_copyLine : GoodIn wsX10_races wsX5_copyLine := goodIn_r _ [27, 28, 29, 30, 31, 32, 33, 34, 35, 36, 37, 38, 39, 40, 41, 42, 43, 44, 84, 85, 86, 87, 88, 89, 90, 91, 92, 93, 94, 95, 96, 97, 98, 99] rfl (by decide +kernel)
set_option maxRecDepth 20000 in
theorem gX10_races_X5_copyLine : GoodIn wsX10_races (wsV RX10 256 RX5 yX5_copyLine wsX5_copyLine) := goodIn_app (goodIn_of _ (by decide +kernel)) ggX10_races_X5_copyLine
set_option maxRecDepth 20000 in
theorem ggX10_races_X5_goOn : GoodIn wsX10_races wsX5_goOn := goodIn_r _ [48, 29, 30, 31, 28, 49, 50, 51, 35, 52, 43, 37, 38, 40, 39, 42, 41, 44, 53, 54, 55, 56, 57, 58, 59, 60, 61, 62, 63, 64, 84, 85, 86, 87, 88, 89, 90, 91, 92, 93, 94, 95, 96, 97, 98, 99] rfl (by decide +kernel)
set_option maxRecDepth 20000 in
theorem gX10_races_X5_goOn : GoodIn wsX10_races (wsV RX10 116 RX5 yX5_goOn wsX5_goOn) := goodIn_app (goodIn_of _ (by decide +kernel)) ggX10_races_X5_goOn
set_option maxRecDepth 20000 in
theorem ggX10_races_X5_homes : GoodIn wsX10_races wsX5_homes := goodIn_r _ [68, 30, 31, 69, 54, 55, 35, 56, 44, 84, 85, 86, 87, 88, 89, 90, 91, 92, 93, 94, 95, 96, 97, 98, 99] rfl (by decide +kernel)
set_option maxRecDepth 20000 in
theorem gX10_races_X5_homes : GoodIn wsX10_races (wsV RX10 119 RX5 yX5_homes wsX5_homes) := goodIn_app (goodIn_of _ (by decide +kernel)) ggX10_races_X5_homes
set_option maxRecDepth 20000 in
theorem ggX10_status_X10_refuse : GoodIn wsX10_status wsX10_refuse := goodIn_r _ [9, 1, 10, 11, 12, 13, 14, 15, 16, 17, 18, 19, 20, 21, 22, 23] rfl (by decide +kernel)
set_option maxRecDepth 20000 in
theorem gX10_status_X10_refuse : GoodIn wsX10_status (wsV RX10 83 RX10 yX10_refuse wsX10_refuse) := goodIn_app (goodIn_of _ (by decide +kernel)) ggX10_status_X10_refuse
set_option maxRecDepth 20000 in
theorem ggX10_status_X10_within : GoodIn wsX10_status wsX10_within := goodIn_r _ [5] rfl (by decide +kernel)
set_option maxRecDepth 20000 in
theorem gX10_status_X10_within : GoodIn wsX10_status (va_wsS RX10 79 yX10_within wsX10_within) := goodIn_app (goodIn_of _ (by decide +kernel)) ggX10_status_X10_within
set_option maxRecDepth 20000 in
theorem ggX10_ticks_X10_refuse : GoodIn wsX10_ticks wsX10_refuse := goodIn_r _ [10, 11, 72, 73, 74, 75, 76, 77, 78, 79, 80, 81, 82, 83, 84, 85] rfl (by decide +kernel)
set_option maxRecDepth 20000 in
theorem gX10_ticks_X10_refuse : GoodIn wsX10_ticks (wsV RX10 83 RX10 yX10_refuse wsX10_refuse) := goodIn_app (goodIn_of _ (by decide +kernel)) ggX10_ticks_X10_refuse
set_option maxRecDepth 20000 in
theorem ggX10_ticks_X10_within : GoodIn wsX10_ticks wsX10_within := goodIn_r _ [6] rfl (by decide +kernel)
set_option maxRecDepth 20000 in
theorem gX10_ticks_X10_within : GoodIn wsX10_ticks (va_wsS RX10 79 yX10_within wsX10_within) := goodIn_app (goodIn_of _ (by decide +kernel)) ggX10_ticks_X10_within
set_option maxRecDepth 20000 in
theorem ggX10_ticks_X5_goOn : GoodIn wsX10_ticks wsX5_goOn := goodIn_r _ [39, 18, 40, 19, 41, 42, 43, 44, 45, 46, 47, 48, 49, 50, 51, 52, 53, 54, 55, 56, 57, 58, 59, 60, 61, 62, 63, 64, 65, 66, 86, 87, 88, 89, 90, 91, 92, 93, 96, 97, 98, 99, 100, 101, 102, 103] rfl (by decide +kernel)
set_option maxRecDepth 20000 in
theorem gX10_ticks_X5_goOn : GoodIn wsX10_ticks (wsV RX10 116 RX5 yX5_goOn wsX5_goOn) := goodIn_app (goodIn_of _ (by decide +kernel)) ggX10_ticks_X5_goOn
set_option maxRecDepth 20000 in
theorem ggX10_ticks_X5_homes : GoodIn wsX10_ticks wsX5_homes := goodIn_r _ [70, 40, 19, 71, 56, 57, 45, 58, 54, 86, 87, 88, 89, 90, 91, 92, 93, 96, 97, 98, 99, 100, 101, 102, 103] rfl (by decide +kernel)
set_option maxRecDepth 20000 in
theorem gX10_ticks_X5_homes : GoodIn wsX10_ticks (wsV RX10 119 RX5 yX5_homes wsX5_homes) := goodIn_app (goodIn_of _ (by decide +kernel)) ggX10_ticks_X5_homes
set_option maxRecDepth 20000 in
theorem ggX10_ticks_X5_keep : GoodIn wsX10_ticks wsX5_keep := goodIn_r _ [16, 17, 18, 19, 20, 21, 22, 23, 24, 25, 26, 27, 28, 29, 30, 31, 32, 33, 34, 35, 86, 87, 88, 89, 90, 91, 92, 93, 94, 95, 96, 97, 98, 99, 100, 101, 102, 103] rfl (by decide +kernel)
set_option maxRecDepth 20000 in
theorem gX10_ticks_X5_keep : GoodIn wsX10_ticks (wsV RX10 113 RX5 yX5_keep wsX5_keep) := goodIn_app (goodIn_of _ (by decide +kernel)) ggX10_ticks_X5_keep
set_option maxRecDepth 20000 in
theorem ggX5_copyLine_X8_copyFrom : GoodIn wsX5_copyLine wsX8_copyFrom := goodIn_r _ [9, 10, 11, 12, 13, 14, 15, 16, 17, 26, 27, 28, 29, 30, 31, 32, 33] rfl (by decide +kernel)
set_option maxRecDepth 20000 in
theorem gX5_copyLine_X8_copyFrom : GoodIn wsX5_copyLine (wsV RX5 58 RX8 yX8_copyFrom wsX8_copyFrom) := goodIn_app (goodIn_of _ (by decide +kernel)) ggX5_copyLine_X8_copyFrom
theorem dJ6_bitCount_0f7a4_0 : decode cJ6_bitCount_0f7a4 0 = .ok (.iload_n 0, 1) := by decide +kernel
theorem dJ6_bitCount_0f7a4_1 : decode cJ6_bitCount_0f7a4 1 = .ok (.iload_n 0, 1) := by decide +kernel
theorem dJ6_bitCount_0f7a4_10 : decode cJ6_bitCount_0f7a4 10 = .ok (.iload_n 0, 1) := by decide +kernel
theorem dJ6_bitCount_0f7a4_11 : decode cJ6_bitCount_0f7a4 11 = .ok (.ldc_w 266, 3) := by decide +kernel
theorem dJ6_bitCount_0f7a4_14 : decode cJ6_bitCount_0f7a4 14 = .ok (.iand, 1) := by decide +kernel
theorem dJ6_bitCount_0f7a4_15 : decode cJ6_bitCount_0f7a4 15 = .ok (.iload_n 0, 1) := by decide +kernel
theorem dJ6_bitCount_0f7a4_16 : decode cJ6_bitCount_0f7a4 16 = .ok (.iconst 2, 1) := by decide +kernel
theorem dJ6_bitCount_0f7a4_17 : decode cJ6_bitCount_0f7a4 17 = .ok (.iushr, 1) := by decide +kernel
theorem dJ6_bitCount_0f7a4_18 : decode cJ6_bitCount_0f7a4 18 = .ok (.ldc_w 266, 3) := by decide +kernel
theorem dJ6_bitCount_0f7a4_2 : decode cJ6_bitCount_0f7a4 2 = .ok (.iconst 1, 1) := by decide +kernel
theorem dJ6_bitCount_0f7a4_21 : decode cJ6_bitCount_0f7a4 21 = .ok (.iand, 1) := by decide +kernel
theorem dJ6_bitCount_0f7a4_22 : decode cJ6_bitCount_0f7a4 22 = .ok (.iadd, 1) := by decide +kernel
theorem dJ6_bitCount_0f7a4_23 : decode cJ6_bitCount_0f7a4 23 = .ok (.istore_n 0, 1) := by decide +kernel
theorem dJ6_bitCount_0f7a4_24 : decode cJ6_bitCount_0f7a4 24 = .ok (.iload_n 0, 1) := by decide +kernel
theorem dJ6_bitCount_0f7a4_25 : decode cJ6_bitCount_0f7a4 25 = .ok (.iload_n 0, 1) := by decide +kernel
theorem dJ6_bitCount_0f7a4_26 : decode cJ6_bitCount_0f7a4 26 = .ok (.iconst 4, 1) := by decide +kernel
theorem dJ6_bitCount_0f7a4_27 : decode cJ6_bitCount_0f7a4 27 = .ok (.iushr, 1) := by decide +kernel
theorem dJ6_bitCount_0f7a4_28 : decode cJ6_bitCount_0f7a4 28 = .ok (.iadd, 1) := by decide +kernel
theorem dJ6_bitCount_0f7a4_29 : decode cJ6_bitCount_0f7a4 29 = .ok (.ldc_w 267, 3) := by decide +kernel
theorem dJ6_bitCount_0f7a4_3 : decode cJ6_bitCount_0f7a4 3 = .ok (.iushr, 1) := by decide +kernel
theorem dJ6_bitCount_0f7a4_32 : decode cJ6_bitCount_0f7a4 32 = .ok (.iand, 1) := by decide +kernel
theorem dJ6_bitCount_0f7a4_33 : decode cJ6_bitCount_0f7a4 33 = .ok (.istore_n 0, 1) := by decide +kernel
theorem dJ6_bitCount_0f7a4_34 : decode cJ6_bitCount_0f7a4 34 = .ok (.iload_n 0, 1) := by decide +kernel
theorem dJ6_bitCount_0f7a4_35 : decode cJ6_bitCount_0f7a4 35 = .ok (.iload_n 0, 1) := by decide +kernel
theorem dJ6_bitCount_0f7a4_36 : decode cJ6_bitCount_0f7a4 36 = .ok (.bipush 8, 2) := by decide +kernel
theorem dJ6_bitCount_0f7a4_38 : decode cJ6_bitCount_0f7a4 38 = .ok (.iushr, 1) := by decide +kernel
theorem dJ6_bitCount_0f7a4_39 : decode cJ6_bitCount_0f7a4 39 = .ok (.iadd, 1) := by decide +kernel
theorem dJ6_bitCount_0f7a4_4 : decode cJ6_bitCount_0f7a4 4 = .ok (.ldc_w 265, 3) := by decide +kernel
theorem dJ6_bitCount_0f7a4_40 : decode cJ6_bitCount_0f7a4 40 = .ok (.istore_n 0, 1) := by decide +kernel
theorem dJ6_bitCount_0f7a4_41 : decode cJ6_bitCount_0f7a4 41 = .ok (.iload_n 0, 1) := by decide +kernel
theorem dJ6_bitCount_0f7a4_42 : decode cJ6_bitCount_0f7a4 42 = .ok (.iload_n 0, 1) := by decide +kernel
theorem dJ6_bitCount_0f7a4_43 : decode cJ6_bitCount_0f7a4 43 = .ok (.bipush 16, 2) := by decide +kernel
theorem dJ6_bitCount_0f7a4_45 : decode cJ6_bitCount_0f7a4 45 = .ok (.iushr, 1) := by decide +kernel
theorem dJ6_bitCount_0f7a4_46 : decode cJ6_bitCount_0f7a4 46 = .ok (.iadd, 1) := by decide +kernel
theorem dJ6_bitCount_0f7a4_47 : decode cJ6_bitCount_0f7a4 47 = .ok (.istore_n 0, 1) := by decide +kernel
theorem dJ6_bitCount_0f7a4_48 : decode cJ6_bitCount_0f7a4 48 = .ok (.iload_n 0, 1) := by decide +kernel
theorem dJ6_bitCount_0f7a4_49 : decode cJ6_bitCount_0f7a4 49 = .ok (.bipush 63, 2) := by decide +kernel
theorem dJ6_bitCount_0f7a4_51 : decode cJ6_bitCount_0f7a4 51 = .ok (.iand, 1) := by decide +kernel
theorem dJ6_bitCount_0f7a4_52 : decode cJ6_bitCount_0f7a4 52 = .ok (.ireturn, 1) := by decide +kernel
theorem dJ6_bitCount_0f7a4_7 : decode cJ6_bitCount_0f7a4 7 = .ok (.iand, 1) := by decide +kernel
theorem dJ6_bitCount_0f7a4_8 : decode cJ6_bitCount_0f7a4 8 = .ok (.isub, 1) := by decide +kernel
theorem dJ6_bitCount_0f7a4_9 : decode cJ6_bitCount_0f7a4 9 = .ok (.istore_n 0, 1) := by decide +kernel
theorem dX10_farBy_0 : decode cX10_farBy 0 = .ok (.iload_n 1, 1) := by decide +kernel
theorem dX10_farBy_1 : decode cX10_farBy 1 = .ok (.lookupswitch 61 #[(0, 27), (1, 44)], 27) := by decide +kernel
theorem dX10_farBy_28 : decode cX10_farBy 28 = .ok (.aload_n 0, 1) := by decide +kernel
theorem dX10_farBy_29 : decode cX10_farBy 29 = .ok (.getfield 320, 3) := by decide +kernel
theorem dX10_farBy_32 : decode cX10_farBy 32 = .ok (.iload_n 2, 1) := by decide +kernel
theorem dX10_farBy_33 : decode cX10_farBy 33 = .ok (.iload_n 3, 1) := by decide +kernel
theorem dX10_farBy_34 : decode cX10_farBy 34 = .ok (.bipush 10, 2) := by decide +kernel
theorem dX10_farBy_36 : decode cX10_farBy 36 = .ok (.idiv, 1) := by decide +kernel
theorem dX10_farBy_37 : decode cX10_farBy 37 = .ok (.iload_n 3, 1) := by decide +kernel
theorem dX10_farBy_38 : decode cX10_farBy 38 = .ok (.bipush 10, 2) := by decide +kernel
theorem dX10_farBy_40 : decode cX10_farBy 40 = .ok (.irem, 1) := by decide +kernel
theorem dX10_farBy_41 : decode cX10_farBy 41 = .ok (.invokestatic 323, 3) := by decide +kernel
theorem dX10_farBy_44 : decode cX10_farBy 44 = .ok (.ireturn, 1) := by decide +kernel
theorem dX10_farBy_45 : decode cX10_farBy 45 = .ok (.iload_n 2, 1) := by decide +kernel
theorem dX10_farBy_46 : decode cX10_farBy 46 = .ok (.aload_n 0, 1) := by decide +kernel
theorem dX10_farBy_47 : decode cX10_farBy 47 = .ok (.getfield 328, 3) := by decide +kernel
theorem dX10_farBy_50 : decode cX10_farBy 50 = .ok (.iload_n 3, 1) := by decide +kernel
theorem dX10_farBy_51 : decode cX10_farBy 51 = .ok (.bipush 10, 2) := by decide +kernel
theorem dX10_farBy_53 : decode cX10_farBy 53 = .ok (.idiv, 1) := by decide +kernel
theorem dX10_farBy_54 : decode cX10_farBy 54 = .ok (.iload_n 3, 1) := by decide +kernel
theorem dX10_farBy_55 : decode cX10_farBy 55 = .ok (.bipush 10, 2) := by decide +kernel
theorem dX10_farBy_57 : decode cX10_farBy 57 = .ok (.irem, 1) := by decide +kernel
theorem dX10_farBy_58 : decode cX10_farBy 58 = .ok (.invokestatic 323, 3) := by decide +kernel
theorem dX10_farBy_61 : decode cX10_farBy 61 = .ok (.ireturn, 1) := by decide +kernel
theorem dX10_farBy_62 : decode cX10_farBy 62 = .ok (.iload_n 2, 1) := by decide +kernel
theorem dX10_farBy_63 : decode cX10_farBy 63 = .ok (.iload_n 3, 1) := by decide +kernel
theorem dX10_farBy_64 : decode cX10_farBy 64 = .ok (.invokestatic 331, 3) := by decide +kernel
theorem dX10_farBy_67 : decode cX10_farBy 67 = .ok (.ireturn, 1) := by decide +kernel
theorem dX10_forget_0 : decode cX10_forget 0 = .ok (.iload_n 1, 1) := by decide +kernel
theorem dX10_forget_1 : decode cX10_forget 1 = .ok (.iconst 0, 1) := by decide +kernel
theorem dX10_forget_10 : decode cX10_forget 10 = .ok (.bipush (-2), 2) := by decide +kernel
theorem dX10_forget_12 : decode cX10_forget 12 = .ok (.invokevirtual 83, 3) := by decide +kernel
theorem dX10_forget_15 : decode cX10_forget 15 = .ok (.ireturn, 1) := by decide +kernel
theorem dX10_forget_16 : decode cX10_forget 16 = .ok (.iload_n 1, 1) := by decide +kernel
theorem dX10_forget_17 : decode cX10_forget 17 = .ok (.ifCond .ne 13, 3) := by decide +kernel
theorem dX10_forget_2 : decode cX10_forget 2 = .ok (.iconst 2, 1) := by decide +kernel
theorem dX10_forget_20 : decode cX10_forget 20 = .ok (.aload_n 0, 1) := by decide +kernel
theorem dX10_forget_21 : decode cX10_forget 21 = .ok (.getfield 10, 3) := by decide +kernel
theorem dX10_forget_24 : decode cX10_forget 24 = .ok (.getfield 185, 3) := by decide +kernel
theorem dX10_forget_27 : decode cX10_forget 27 = .ok (.goto 25, 3) := by decide +kernel
theorem dX10_forget_3 : decode cX10_forget 3 = .ok (.invokestatic 79, 3) := by decide +kernel
theorem dX10_forget_30 : decode cX10_forget 30 = .ok (.iload_n 1, 1) := by decide +kernel
theorem dX10_forget_31 : decode cX10_forget 31 = .ok (.iconst 1, 1) := by decide +kernel
theorem dX10_forget_32 : decode cX10_forget 32 = .ok (.if_icmp .ne 13, 3) := by decide +kernel
theorem dX10_forget_35 : decode cX10_forget 35 = .ok (.aload_n 0, 1) := by decide +kernel
theorem dX10_forget_36 : decode cX10_forget 36 = .ok (.getfield 10, 3) := by decide +kernel
theorem dX10_forget_39 : decode cX10_forget 39 = .ok (.getfield 212, 3) := by decide +kernel
theorem dX10_forget_42 : decode cX10_forget 42 = .ok (.goto 10, 3) := by decide +kernel
theorem dX10_forget_45 : decode cX10_forget 45 = .ok (.aload_n 0, 1) := by decide +kernel
theorem dX10_forget_46 : decode cX10_forget 46 = .ok (.getfield 10, 3) := by decide +kernel
theorem dX10_forget_49 : decode cX10_forget 49 = .ok (.getfield 215, 3) := by decide +kernel
theorem dX10_forget_52 : decode cX10_forget 52 = .ok (.astore_n 2, 1) := by decide +kernel
theorem dX10_forget_53 : decode cX10_forget 53 = .ok (.aload_n 2, 1) := by decide +kernel
theorem dX10_forget_54 : decode cX10_forget 54 = .ok (.getfield 194, 3) := by decide +kernel
theorem dX10_forget_57 : decode cX10_forget 57 = .ok (.istore_n 3, 1) := by decide +kernel
theorem dX10_forget_58 : decode cX10_forget 58 = .ok (.aload_n 2, 1) := by decide +kernel
theorem dX10_forget_59 : decode cX10_forget 59 = .ok (.iconst 0, 1) := by decide +kernel
theorem dX10_forget_6 : decode cX10_forget 6 = .ok (.ifCond .ne 10, 3) := by decide +kernel
theorem dX10_forget_60 : decode cX10_forget 60 = .ok (.putfield 194, 3) := by decide +kernel
theorem dX10_forget_63 : decode cX10_forget 63 = .ok (.iload_n 3, 1) := by decide +kernel
theorem dX10_forget_64 : decode cX10_forget 64 = .ok (.ireturn, 1) := by decide +kernel
theorem dX10_forget_9 : decode cX10_forget 9 = .ok (.aload_n 0, 1) := by decide +kernel
theorem dX10_hasBit_0 : decode cX10_hasBit 0 = .ok (.iload_n 0, 1) := by decide +kernel
theorem dX10_hasBit_1 : decode cX10_hasBit 1 = .ok (.iload_n 1, 1) := by decide +kernel
theorem dX10_hasBit_10 : decode cX10_hasBit 10 = .ok (.goto 4, 3) := by decide +kernel
theorem dX10_hasBit_13 : decode cX10_hasBit 13 = .ok (.iconst 0, 1) := by decide +kernel
theorem dX10_hasBit_14 : decode cX10_hasBit 14 = .ok (.ireturn, 1) := by decide +kernel
theorem dX10_hasBit_2 : decode cX10_hasBit 2 = .ok (.ishr, 1) := by decide +kernel
theorem dX10_hasBit_3 : decode cX10_hasBit 3 = .ok (.iconst 1, 1) := by decide +kernel
theorem dX10_hasBit_4 : decode cX10_hasBit 4 = .ok (.iand, 1) := by decide +kernel
theorem dX10_hasBit_5 : decode cX10_hasBit 5 = .ok (.iconst 1, 1) := by decide +kernel
theorem dX10_hasBit_6 : decode cX10_hasBit 6 = .ok (.if_icmp .ne 7, 3) := by decide +kernel
theorem dX10_hasBit_9 : decode cX10_hasBit 9 = .ok (.iconst 1, 1) := by decide +kernel
theorem dX10_mostAlike_0 : decode cX10_mostAlike 0 = .ok (.aload_n 0, 1) := by decide +kernel
theorem dX10_mostAlike_1 : decode cX10_mostAlike 1 = .ok (.getfield 58, 3) := by decide +kernel
theorem dX10_mostAlike_10 : decode cX10_mostAlike 10 = .ok (.iload 5, 2) := by decide +kernel
theorem dX10_mostAlike_12 : decode cX10_mostAlike 12 = .ok (.bipush 9, 2) := by decide +kernel
theorem dX10_mostAlike_14 : decode cX10_mostAlike 14 = .ok (.if_icmp .gt 34, 3) := by decide +kernel
theorem dX10_mostAlike_17 : decode cX10_mostAlike 17 = .ok (.iload_n 3, 1) := by decide +kernel
theorem dX10_mostAlike_18 : decode cX10_mostAlike 18 = .ok (.iload 5, 2) := by decide +kernel
theorem dX10_mostAlike_20 : decode cX10_mostAlike 20 = .ok (.invokestatic 205, 3) := by decide +kernel
theorem dX10_mostAlike_23 : decode cX10_mostAlike 23 = .ok (.ifCond .eq 19, 3) := by decide +kernel
theorem dX10_mostAlike_26 : decode cX10_mostAlike 26 = .ok (.aload_n 0, 1) := by decide +kernel
theorem dX10_mostAlike_27 : decode cX10_mostAlike 27 = .ok (.getfield 58, 3) := by decide +kernel
theorem dX10_mostAlike_30 : decode cX10_mostAlike 30 = .ok (.aload_n 1, 1) := by decide +kernel
theorem dX10_mostAlike_31 : decode cX10_mostAlike 31 = .ok (.iload_n 2, 1) := by decide +kernel
theorem dX10_mostAlike_32 : decode cX10_mostAlike 32 = .ok (.iload 5, 2) := by decide +kernel
theorem dX10_mostAlike_34 : decode cX10_mostAlike 34 = .ok (.iload 4, 2) := by decide +kernel
theorem dX10_mostAlike_36 : decode cX10_mostAlike 36 = .ok (.invokestatic 311, 3) := by decide +kernel
theorem dX10_mostAlike_39 : decode cX10_mostAlike 39 = .ok (.invokevirtual 314, 3) := by decide +kernel
theorem dX10_mostAlike_4 : decode cX10_mostAlike 4 = .ok (.invokevirtual 309, 3) := by decide +kernel
theorem dX10_mostAlike_42 : decode cX10_mostAlike 42 = .ok (.iinc 5 1, 3) := by decide +kernel
theorem dX10_mostAlike_45 : decode cX10_mostAlike 45 = .ok (.goto (-35), 3) := by decide +kernel
theorem dX10_mostAlike_48 : decode cX10_mostAlike 48 = .ok (.aload_n 0, 1) := by decide +kernel
theorem dX10_mostAlike_49 : decode cX10_mostAlike 49 = .ok (.getfield 58, 3) := by decide +kernel
theorem dX10_mostAlike_52 : decode cX10_mostAlike 52 = .ok (.getfield 317, 3) := by decide +kernel
theorem dX10_mostAlike_55 : decode cX10_mostAlike 55 = .ok (.ireturn, 1) := by decide +kernel
theorem dX10_mostAlike_7 : decode cX10_mostAlike 7 = .ok (.iconst 0, 1) := by decide +kernel
theorem dX10_mostAlike_8 : decode cX10_mostAlike 8 = .ok (.istore 5, 2) := by decide +kernel
theorem dX10_part_0 : decode cX10_part 0 = .ok (.iload_n 1, 1) := by decide +kernel
theorem dX10_part_1 : decode cX10_part 1 = .ok (.iconst 0, 1) := by decide +kernel
theorem dX10_part_10 : decode cX10_part 10 = .ok (.bipush (-2), 2) := by decide +kernel
theorem dX10_part_12 : decode cX10_part 12 = .ok (.invokevirtual 83, 3) := by decide +kernel
theorem dX10_part_15 : decode cX10_part 15 = .ok (.i2l, 1) := by decide +kernel
theorem dX10_part_16 : decode cX10_part 16 = .ok (.lreturn, 1) := by decide +kernel
theorem dX10_part_17 : decode cX10_part 17 = .ok (.iload_n 1, 1) := by decide +kernel
theorem dX10_part_18 : decode cX10_part 18 = .ok (.ifCond .ne 10, 3) := by decide +kernel
theorem dX10_part_2 : decode cX10_part 2 = .ok (.iconst 1, 1) := by decide +kernel
theorem dX10_part_21 : decode cX10_part 21 = .ok (.aload_n 0, 1) := by decide +kernel
theorem dX10_part_22 : decode cX10_part 22 = .ok (.getfield 38, 3) := by decide +kernel
theorem dX10_part_25 : decode cX10_part 25 = .ok (.goto 7, 3) := by decide +kernel
theorem dX10_part_28 : decode cX10_part 28 = .ok (.aload_n 0, 1) := by decide +kernel
theorem dX10_part_29 : decode cX10_part 29 = .ok (.getfield 42, 3) := by decide +kernel
theorem dX10_part_3 : decode cX10_part 3 = .ok (.invokestatic 79, 3) := by decide +kernel
theorem dX10_part_32 : decode cX10_part 32 = .ok (.lreturn, 1) := by decide +kernel
theorem dX10_part_6 : decode cX10_part 6 = .ok (.ifCond .ne 11, 3) := by decide +kernel
theorem dX10_part_9 : decode cX10_part 9 = .ok (.aload_n 0, 1) := by decide +kernel
theorem dX10_races_0 : decode cX10_races 0 = .ok (.iload_n 1, 1) := by decide +kernel
theorem dX10_races_1 : decode cX10_races 1 = .ok (.iconst 0, 1) := by decide +kernel
theorem dX10_races_10 : decode cX10_races 10 = .ok (.iload_n 2, 1) := by decide +kernel
theorem dX10_races_102 : decode cX10_races 102 = .ok (.ldiv, 1) := by decide +kernel
theorem dX10_races_103 : decode cX10_races 103 = .ok (.ldc2_w 272, 3) := by decide +kernel
theorem dX10_races_106 : decode cX10_races 106 = .ok (.lrem, 1) := by decide +kernel
theorem dX10_races_107 : decode cX10_races 107 = .ok (.l2i, 1) := by decide +kernel
theorem dX10_races_108 : decode cX10_races 108 = .ok (.putfield 130, 3) := by decide +kernel
theorem dX10_races_11 : decode cX10_races 11 = .ok (.iconst 0, 1) := by decide +kernel
theorem dX10_races_111 : decode cX10_races 111 = .ok (.aload_n 0, 1) := by decide +kernel
theorem dX10_races_112 : decode cX10_races 112 = .ok (.getfield 16, 3) := by decide +kernel
theorem dX10_races_115 : decode cX10_races 115 = .ok (.invokevirtual 116, 3) := by decide +kernel
theorem dX10_races_118 : decode cX10_races 118 = .ok (.iinc 5 1, 3) := by decide +kernel
theorem dX10_races_12 : decode cX10_races 12 = .ok (.bipush 60, 2) := by decide +kernel
theorem dX10_races_121 : decode cX10_races 121 = .ok (.goto (-77), 3) := by decide +kernel
theorem dX10_races_124 : decode cX10_races 124 = .ok (.aload_n 0, 1) := by decide +kernel
theorem dX10_races_125 : decode cX10_races 125 = .ok (.getfield 16, 3) := by decide +kernel
theorem dX10_races_128 : decode cX10_races 128 = .ok (.invokevirtual 119, 3) := by decide +kernel
theorem dX10_races_131 : decode cX10_races 131 = .ok (.ireturn, 1) := by decide +kernel
theorem dX10_races_14 : decode cX10_races 14 = .ok (.invokestatic 79, 3) := by decide +kernel
theorem dX10_races_17 : decode cX10_races 17 = .ok (.ifCond .ne 10, 3) := by decide +kernel
theorem dX10_races_2 : decode cX10_races 2 = .ok (.ldc 255, 2) := by decide +kernel
theorem dX10_races_20 : decode cX10_races 20 = .ok (.aload_n 0, 1) := by decide +kernel
theorem dX10_races_21 : decode cX10_races 21 = .ok (.bipush (-2), 2) := by decide +kernel
theorem dX10_races_23 : decode cX10_races 23 = .ok (.invokevirtual 83, 3) := by decide +kernel
theorem dX10_races_26 : decode cX10_races 26 = .ok (.ireturn, 1) := by decide +kernel
theorem dX10_races_27 : decode cX10_races 27 = .ok (.aload_n 0, 1) := by decide +kernel
theorem dX10_races_28 : decode cX10_races 28 = .ok (.getfield 16, 3) := by decide +kernel
theorem dX10_races_31 : decode cX10_races 31 = .ok (.aload_n 0, 1) := by decide +kernel
theorem dX10_races_32 : decode cX10_races 32 = .ok (.getfield 10, 3) := by decide +kernel
theorem dX10_races_35 : decode cX10_races 35 = .ok (.invokevirtual 256, 3) := by decide +kernel
theorem dX10_races_38 : decode cX10_races 38 = .ok (.iload_n 1, 1) := by decide +kernel
theorem dX10_races_39 : decode cX10_races 39 = .ok (.i2l, 1) := by decide +kernel
theorem dX10_races_4 : decode cX10_races 4 = .ok (.invokestatic 79, 3) := by decide +kernel
theorem dX10_races_40 : decode cX10_races 40 = .ok (.lstore_n 3, 1) := by decide +kernel
theorem dX10_races_41 : decode cX10_races 41 = .ok (.iconst 0, 1) := by decide +kernel
theorem dX10_races_42 : decode cX10_races 42 = .ok (.istore 5, 2) := by decide +kernel
theorem dX10_races_44 : decode cX10_races 44 = .ok (.iload 5, 2) := by decide +kernel
theorem dX10_races_46 : decode cX10_races 46 = .ok (.iload_n 2, 1) := by decide +kernel
theorem dX10_races_47 : decode cX10_races 47 = .ok (.if_icmp .ge 77, 3) := by decide +kernel
theorem dX10_races_50 : decode cX10_races 50 = .ok (.lload_n 3, 1) := by decide +kernel
theorem dX10_races_51 : decode cX10_races 51 = .ok (.ldc2_w 260, 3) := by decide +kernel
theorem dX10_races_54 : decode cX10_races 54 = .ok (.lmul, 1) := by decide +kernel
theorem dX10_races_55 : decode cX10_races 55 = .ok (.ldc2_w 262, 3) := by decide +kernel
theorem dX10_races_58 : decode cX10_races 58 = .ok (.ladd, 1) := by decide +kernel
theorem dX10_races_59 : decode cX10_races 59 = .ok (.ldc2_w 264, 3) := by decide +kernel
theorem dX10_races_62 : decode cX10_races 62 = .ok (.lrem, 1) := by decide +kernel
theorem dX10_races_63 : decode cX10_races 63 = .ok (.lstore_n 3, 1) := by decide +kernel
theorem dX10_races_64 : decode cX10_races 64 = .ok (.lload_n 3, 1) := by decide +kernel
theorem dX10_races_65 : decode cX10_races 65 = .ok (.ldc2_w 266, 3) := by decide +kernel
theorem dX10_races_68 : decode cX10_races 68 = .ok (.ldiv, 1) := by decide +kernel
theorem dX10_races_69 : decode cX10_races 69 = .ok (.ldc2_w 268, 3) := by decide +kernel
theorem dX10_races_7 : decode cX10_races 7 = .ok (.ifCond .eq 13, 3) := by decide +kernel
theorem dX10_races_72 : decode cX10_races 72 = .ok (.lrem, 1) := by decide +kernel
theorem dX10_races_73 : decode cX10_races 73 = .ok (.l2i, 1) := by decide +kernel
theorem dX10_races_74 : decode cX10_races 74 = .ok (.istore 6, 2) := by decide +kernel
theorem dX10_races_76 : decode cX10_races 76 = .ok (.iload 6, 2) := by decide +kernel
theorem dX10_races_78 : decode cX10_races 78 = .ok (.aload_n 0, 1) := by decide +kernel
theorem dX10_races_79 : decode cX10_races 79 = .ok (.getfield 16, 3) := by decide +kernel
theorem dX10_races_82 : decode cX10_races 82 = .ok (.getfield 87, 3) := by decide +kernel
theorem dX10_races_85 : decode cX10_races 85 = .ok (.if_icmp .ge 26, 3) := by decide +kernel
theorem dX10_races_88 : decode cX10_races 88 = .ok (.aload_n 0, 1) := by decide +kernel
theorem dX10_races_89 : decode cX10_races 89 = .ok (.getfield 16, 3) := by decide +kernel
theorem dX10_races_92 : decode cX10_races 92 = .ok (.getfield 126, 3) := by decide +kernel
theorem dX10_races_95 : decode cX10_races 95 = .ok (.iload 6, 2) := by decide +kernel
theorem dX10_races_97 : decode cX10_races 97 = .ok (.aaload, 1) := by decide +kernel
theorem dX10_races_98 : decode cX10_races 98 = .ok (.lload_n 3, 1) := by decide +kernel
theorem dX10_races_99 : decode cX10_races 99 = .ok (.ldc2_w 270, 3) := by decide +kernel
theorem dX10_status_0 : decode cX10_status 0 = .ok (.iload_n 1, 1) := by decide +kernel
theorem dX10_status_1 : decode cX10_status 1 = .ok (.iconst 0, 1) := by decide +kernel
theorem dX10_status_10 : decode cX10_status 10 = .ok (.bipush (-2), 2) := by decide +kernel
theorem dX10_status_12 : decode cX10_status 12 = .ok (.invokevirtual 83, 3) := by decide +kernel
theorem dX10_status_15 : decode cX10_status 15 = .ok (.pop, 1) := by decide +kernel
theorem dX10_status_16 : decode cX10_status 16 = .ok (.iconst (-1), 1) := by decide +kernel
theorem dX10_status_17 : decode cX10_status 17 = .ok (.ireturn, 1) := by decide +kernel
theorem dX10_status_18 : decode cX10_status 18 = .ok (.aload_n 0, 1) := by decide +kernel
theorem dX10_status_19 : decode cX10_status 19 = .ok (.getfield 34, 3) := by decide +kernel
theorem dX10_status_2 : decode cX10_status 2 = .ok (.iconst 2, 1) := by decide +kernel
theorem dX10_status_22 : decode cX10_status 22 = .ok (.iload_n 1, 1) := by decide +kernel
theorem dX10_status_23 : decode cX10_status 23 = .ok (.iaload, 1) := by decide +kernel
theorem dX10_status_24 : decode cX10_status 24 = .ok (.ireturn, 1) := by decide +kernel
theorem dX10_status_3 : decode cX10_status 3 = .ok (.invokestatic 79, 3) := by decide +kernel
theorem dX10_status_6 : decode cX10_status 6 = .ok (.ifCond .ne 12, 3) := by decide +kernel
theorem dX10_status_9 : decode cX10_status 9 = .ok (.aload_n 0, 1) := by decide +kernel
theorem dX10_ticks_0 : decode cX10_ticks 0 = .ok (.iload_n 1, 1) := by decide +kernel
theorem dX10_ticks_1 : decode cX10_ticks 1 = .ok (.iconst 1, 1) := by decide +kernel
theorem dX10_ticks_10 : decode cX10_ticks 10 = .ok (.aload_n 0, 1) := by decide +kernel
theorem dX10_ticks_11 : decode cX10_ticks 11 = .ok (.bipush (-2), 2) := by decide +kernel
theorem dX10_ticks_13 : decode cX10_ticks 13 = .ok (.invokevirtual 83, 3) := by decide +kernel
theorem dX10_ticks_16 : decode cX10_ticks 16 = .ok (.ireturn, 1) := by decide +kernel
theorem dX10_ticks_17 : decode cX10_ticks 17 = .ok (.aload_n 0, 1) := by decide +kernel
theorem dX10_ticks_18 : decode cX10_ticks 18 = .ok (.getfield 10, 3) := by decide +kernel
theorem dX10_ticks_2 : decode cX10_ticks 2 = .ok (.bipush 60, 2) := by decide +kernel
theorem dX10_ticks_21 : decode cX10_ticks 21 = .ok (.getfield 110, 3) := by decide +kernel
theorem dX10_ticks_24 : decode cX10_ticks 24 = .ok (.sipush 9999, 3) := by decide +kernel
theorem dX10_ticks_27 : decode cX10_ticks 27 = .ok (.if_icmp .ge 10, 3) := by decide +kernel
theorem dX10_ticks_30 : decode cX10_ticks 30 = .ok (.aload_n 0, 1) := by decide +kernel
theorem dX10_ticks_31 : decode cX10_ticks 31 = .ok (.getfield 10, 3) := by decide +kernel
theorem dX10_ticks_34 : decode cX10_ticks 34 = .ok (.invokevirtual 113, 3) := by decide +kernel
theorem dX10_ticks_37 : decode cX10_ticks 37 = .ok (.iconst 0, 1) := by decide +kernel
theorem dX10_ticks_38 : decode cX10_ticks 38 = .ok (.istore_n 2, 1) := by decide +kernel
theorem dX10_ticks_39 : decode cX10_ticks 39 = .ok (.iload_n 2, 1) := by decide +kernel
theorem dX10_ticks_4 : decode cX10_ticks 4 = .ok (.invokestatic 79, 3) := by decide +kernel
theorem dX10_ticks_40 : decode cX10_ticks 40 = .ok (.iload_n 1, 1) := by decide +kernel
theorem dX10_ticks_41 : decode cX10_ticks 41 = .ok (.if_icmp .ge 29, 3) := by decide +kernel
theorem dX10_ticks_44 : decode cX10_ticks 44 = .ok (.aload_n 0, 1) := by decide +kernel
theorem dX10_ticks_45 : decode cX10_ticks 45 = .ok (.getfield 10, 3) := by decide +kernel
theorem dX10_ticks_48 : decode cX10_ticks 48 = .ok (.getfield 110, 3) := by decide +kernel
theorem dX10_ticks_51 : decode cX10_ticks 51 = .ok (.sipush 9999, 3) := by decide +kernel
theorem dX10_ticks_54 : decode cX10_ticks 54 = .ok (.if_icmp .ge 16, 3) := by decide +kernel
theorem dX10_ticks_57 : decode cX10_ticks 57 = .ok (.aload_n 0, 1) := by decide +kernel
theorem dX10_ticks_58 : decode cX10_ticks 58 = .ok (.getfield 10, 3) := by decide +kernel
theorem dX10_ticks_61 : decode cX10_ticks 61 = .ok (.invokevirtual 116, 3) := by decide +kernel
theorem dX10_ticks_64 : decode cX10_ticks 64 = .ok (.iinc 2 1, 3) := by decide +kernel
theorem dX10_ticks_67 : decode cX10_ticks 67 = .ok (.goto (-28), 3) := by decide +kernel
theorem dX10_ticks_7 : decode cX10_ticks 7 = .ok (.ifCond .ne 10, 3) := by decide +kernel
theorem dX10_ticks_70 : decode cX10_ticks 70 = .ok (.aload_n 0, 1) := by decide +kernel
theorem dX10_ticks_71 : decode cX10_ticks 71 = .ok (.getfield 10, 3) := by decide +kernel
theorem dX10_ticks_74 : decode cX10_ticks 74 = .ok (.invokevirtual 119, 3) := by decide +kernel
theorem dX10_ticks_77 : decode cX10_ticks 77 = .ok (.ireturn, 1) := by decide +kernel
theorem dX4_copyFrom_0 : decode cX4_copyFrom 0 = .ok (.aload_n 0, 1) := by decide +kernel
theorem dX4_copyFrom_1 : decode cX4_copyFrom 1 = .ok (.aload_n 1, 1) := by decide +kernel
theorem dX4_copyFrom_12 : decode cX4_copyFrom 12 = .ok (.iconst 0, 1) := by decide +kernel
theorem dX4_copyFrom_13 : decode cX4_copyFrom 13 = .ok (.aload_n 0, 1) := by decide +kernel
theorem dX4_copyFrom_14 : decode cX4_copyFrom 14 = .ok (.getfield 11, 3) := by decide +kernel
theorem dX4_copyFrom_17 : decode cX4_copyFrom 17 = .ok (.iconst 0, 1) := by decide +kernel
theorem dX4_copyFrom_18 : decode cX4_copyFrom 18 = .ok (.aload_n 1, 1) := by decide +kernel
theorem dX4_copyFrom_19 : decode cX4_copyFrom 19 = .ok (.getfield 15, 3) := by decide +kernel
theorem dX4_copyFrom_2 : decode cX4_copyFrom 2 = .ok (.getfield 15, 3) := by decide +kernel
theorem dX4_copyFrom_22 : decode cX4_copyFrom 22 = .ok (.bipush 31, 2) := by decide +kernel
theorem dX4_copyFrom_24 : decode cX4_copyFrom 24 = .ok (.imul, 1) := by decide +kernel
theorem dX4_copyFrom_25 : decode cX4_copyFrom 25 = .ok (.invokestatic 19, 3) := by decide +kernel
theorem dX4_copyFrom_28 : decode cX4_copyFrom 28 = .ok (.return_, 1) := by decide +kernel
theorem dX4_copyFrom_5 : decode cX4_copyFrom 5 = .ok (.putfield 15, 3) := by decide +kernel
theorem dX4_copyFrom_8 : decode cX4_copyFrom 8 = .ok (.aload_n 1, 1) := by decide +kernel
theorem dX4_copyFrom_9 : decode cX4_copyFrom 9 = .ok (.getfield 11, 3) := by decide +kernel
theorem dX5_copyLine_0 : decode cX5_copyLine 0 = .ok (.aload_n 0, 1) := by decide +kernel
theorem dX5_copyLine_1 : decode cX5_copyLine 1 = .ok (.aload_n 1, 1) := by decide +kernel
theorem dX5_copyLine_10 : decode cX5_copyLine 10 = .ok (.getfield 15, 3) := by decide +kernel
theorem dX5_copyLine_13 : decode cX5_copyLine 13 = .ok (.putfield 15, 3) := by decide +kernel
theorem dX5_copyLine_16 : decode cX5_copyLine 16 = .ok (.aload_n 0, 1) := by decide +kernel
theorem dX5_copyLine_17 : decode cX5_copyLine 17 = .ok (.aload_n 1, 1) := by decide +kernel
theorem dX5_copyLine_18 : decode cX5_copyLine 18 = .ok (.getfield 18, 3) := by decide +kernel
theorem dX5_copyLine_2 : decode cX5_copyLine 2 = .ok (.getfield 9, 3) := by decide +kernel
theorem dX5_copyLine_21 : decode cX5_copyLine 21 = .ok (.putfield 18, 3) := by decide +kernel
theorem dX5_copyLine_24 : decode cX5_copyLine 24 = .ok (.iconst 0, 1) := by decide +kernel
theorem dX5_copyLine_25 : decode cX5_copyLine 25 = .ok (.istore_n 2, 1) := by decide +kernel
theorem dX5_copyLine_26 : decode cX5_copyLine 26 = .ok (.iload_n 2, 1) := by decide +kernel
theorem dX5_copyLine_27 : decode cX5_copyLine 27 = .ok (.bipush 6, 2) := by decide +kernel
theorem dX5_copyLine_29 : decode cX5_copyLine 29 = .ok (.if_icmp .ge 24, 3) := by decide +kernel
theorem dX5_copyLine_32 : decode cX5_copyLine 32 = .ok (.aload_n 0, 1) := by decide +kernel
theorem dX5_copyLine_33 : decode cX5_copyLine 33 = .ok (.getfield 23, 3) := by decide +kernel
theorem dX5_copyLine_36 : decode cX5_copyLine 36 = .ok (.iload_n 2, 1) := by decide +kernel
theorem dX5_copyLine_37 : decode cX5_copyLine 37 = .ok (.aaload, 1) := by decide +kernel
theorem dX5_copyLine_38 : decode cX5_copyLine 38 = .ok (.aload_n 1, 1) := by decide +kernel
theorem dX5_copyLine_39 : decode cX5_copyLine 39 = .ok (.getfield 23, 3) := by decide +kernel
theorem dX5_copyLine_42 : decode cX5_copyLine 42 = .ok (.iload_n 2, 1) := by decide +kernel
theorem dX5_copyLine_43 : decode cX5_copyLine 43 = .ok (.aaload, 1) := by decide +kernel
theorem dX5_copyLine_44 : decode cX5_copyLine 44 = .ok (.invokevirtual 58, 3) := by decide +kernel
theorem dX5_copyLine_47 : decode cX5_copyLine 47 = .ok (.iinc 2 1, 3) := by decide +kernel
theorem dX5_copyLine_5 : decode cX5_copyLine 5 = .ok (.putfield 9, 3) := by decide +kernel
theorem dX5_copyLine_50 : decode cX5_copyLine 50 = .ok (.goto (-24), 3) := by decide +kernel
theorem dX5_copyLine_53 : decode cX5_copyLine 53 = .ok (.return_, 1) := by decide +kernel
theorem dX5_copyLine_8 : decode cX5_copyLine 8 = .ok (.aload_n 0, 1) := by decide +kernel
theorem dX5_copyLine_9 : decode cX5_copyLine 9 = .ok (.aload_n 1, 1) := by decide +kernel
theorem dX9_restart_0 : decode cX9_restart 0 = .ok (.iconst 0, 1) := by decide +kernel
theorem dX9_restart_1 : decode cX9_restart 1 = .ok (.istore_n 1, 1) := by decide +kernel
theorem dX9_restart_11 : decode cX9_restart 11 = .ok (.aload_n 0, 1) := by decide +kernel
theorem dX9_restart_12 : decode cX9_restart 12 = .ok (.getfield 9, 3) := by decide +kernel
theorem dX9_restart_15 : decode cX9_restart 15 = .ok (.iload_n 1, 1) := by decide +kernel
theorem dX9_restart_16 : decode cX9_restart 16 = .ok (.iconst 0, 1) := by decide +kernel
theorem dX9_restart_17 : decode cX9_restart 17 = .ok (.iastore, 1) := by decide +kernel
theorem dX9_restart_18 : decode cX9_restart 18 = .ok (.iinc 1 1, 3) := by decide +kernel
theorem dX9_restart_2 : decode cX9_restart 2 = .ok (.iload_n 1, 1) := by decide +kernel
theorem dX9_restart_21 : decode cX9_restart 21 = .ok (.goto (-19), 3) := by decide +kernel
theorem dX9_restart_24 : decode cX9_restart 24 = .ok (.aload_n 0, 1) := by decide +kernel
theorem dX9_restart_25 : decode cX9_restart 25 = .ok (.iconst 0, 1) := by decide +kernel
theorem dX9_restart_26 : decode cX9_restart 26 = .ok (.putfield 15, 3) := by decide +kernel
theorem dX9_restart_29 : decode cX9_restart 29 = .ok (.return_, 1) := by decide +kernel
theorem dX9_restart_3 : decode cX9_restart 3 = .ok (.aload_n 0, 1) := by decide +kernel
theorem dX9_restart_4 : decode cX9_restart 4 = .ok (.getfield 9, 3) := by decide +kernel
theorem dX9_restart_7 : decode cX9_restart 7 = .ok (.arraylength, 1) := by decide +kernel
theorem dX9_restart_8 : decode cX9_restart 8 = .ok (.if_icmp .ge 16, 3) := by decide +kernel
theorem dX9_see_0 : decode cX9_see 0 = .ok (.iload_n 1, 1) := by decide +kernel
theorem dX9_see_1 : decode cX9_see 1 = .ok (.ifCond .lt 39, 3) := by decide +kernel
theorem dX9_see_10 : decode cX9_see 10 = .ok (.if_icmp .ge 30, 3) := by decide +kernel
theorem dX9_see_13 : decode cX9_see 13 = .ok (.aload_n 0, 1) := by decide +kernel
theorem dX9_see_14 : decode cX9_see 14 = .ok (.getfield 9, 3) := by decide +kernel
theorem dX9_see_17 : decode cX9_see 17 = .ok (.iload_n 1, 1) := by decide +kernel
theorem dX9_see_18 : decode cX9_see 18 = .ok (.dup2, 1) := by decide +kernel
theorem dX9_see_19 : decode cX9_see 19 = .ok (.iaload, 1) := by decide +kernel
theorem dX9_see_20 : decode cX9_see 20 = .ok (.iconst 1, 1) := by decide +kernel
theorem dX9_see_21 : decode cX9_see 21 = .ok (.iadd, 1) := by decide +kernel
theorem dX9_see_22 : decode cX9_see 22 = .ok (.iastore, 1) := by decide +kernel
theorem dX9_see_23 : decode cX9_see 23 = .ok (.aload_n 0, 1) := by decide +kernel
theorem dX9_see_24 : decode cX9_see 24 = .ok (.aload_n 0, 1) := by decide +kernel
theorem dX9_see_25 : decode cX9_see 25 = .ok (.getfield 15, 3) := by decide +kernel
theorem dX9_see_28 : decode cX9_see 28 = .ok (.aload_n 0, 1) := by decide +kernel
theorem dX9_see_29 : decode cX9_see 29 = .ok (.getfield 9, 3) := by decide +kernel
theorem dX9_see_32 : decode cX9_see 32 = .ok (.iload_n 1, 1) := by decide +kernel
theorem dX9_see_33 : decode cX9_see 33 = .ok (.iaload, 1) := by decide +kernel
theorem dX9_see_34 : decode cX9_see 34 = .ok (.invokestatic 19, 3) := by decide +kernel
theorem dX9_see_37 : decode cX9_see 37 = .ok (.putfield 15, 3) := by decide +kernel
theorem dX9_see_4 : decode cX9_see 4 = .ok (.iload_n 1, 1) := by decide +kernel
theorem dX9_see_40 : decode cX9_see 40 = .ok (.return_, 1) := by decide +kernel
theorem dX9_see_5 : decode cX9_see 5 = .ok (.aload_n 0, 1) := by decide +kernel
theorem dX9_see_6 : decode cX9_see 6 = .ok (.getfield 9, 3) := by decide +kernel
theorem dX9_see_9 : decode cX9_see 9 = .ok (.arraylength, 1) := by decide +kernel
theorem in_X9_restart_X9 : ∀ w ∈ wsX90, w ∈ wsX9_restart := by decide +kernel
theorem lk_X9_restart_9 : Cond.fieldLink RX9 9 "EggSpoons$Tally" "counts" "[I" ∈ wsX9_restart := by decide +kernel
theorem lk_X9_restart_15 : Cond.fieldLink RX9 15 "EggSpoons$Tally" "most" "I" ∈ wsX9_restart := by decide +kernel
set_option maxHeartbeats 4000000 in
set_option maxRecDepth 100000 in
/-- Tally.restart -/
theorem s_trestart (l : Launch) (X : EX) (ht : Nat) (hc : Nat) (tm : Int32) (tf : Nat → Int32) (sz : Nat) : Met l yX9_restart wsX9_restart ({ frames := 0, cells := 0, slots := 0, locals := 0 } : Room) (pE X [.ref ht] ([(ht, .inr (7, [.ref hc, .int tm])), (hc, .inl (X.2.1, 16, .inl tf))]) sz) (qV (fun (u : (Int32) × (Nat → Int32)) => (True)) X (fun (u : (Int32) × (Nat → Int32)) => [(ht, .inr (7, [.ref hc, .int u.1])), (hc, .inl (X.2.1, 16, .inl u.2))]) ([(ht, .inr (7, [.ref hc, .int tm])), (hc, .inl (X.2.1, 16, .inl tf))]) sz) 0 0 (va_A ([(ht, .inr (7, [.ref hc, .int tm])), (hc, .inl (X.2.1, 16, .inl tf))]) sz) := by
  refine mk_met (B := (va_A ([(ht, .inr (7, [.ref hc, .int tm])), (hc, .inl (X.2.1, 16, .inl tf))]) sz)) (A := (va_A ([(ht, .inr (7, [.ref hc, .int tm])), (hc, .inl (X.2.1, 16, .inl tf))]) sz)) (cc := cX9_restart) (maxL := 2) (ret := none) (by decide) rfl (Nat.le_of_ble_eq_true rfl) k_w k_a (fun p e s m below meth c S zr zlk znm zsz G ls hl => ?_)
  have S : CallFix p m c cX9_restart 2 s _ wsX9_restart RX9 := S
  have zx := S.1
  have zb := S.2.1
  have hl : lv_has ls 2 [(0, .ref ht)] := hl
  refine lv_iconst (v := 0) zx zb dX9_restart_0 (by decide) ?_
  refine lv_istore_n (lv' := [(1, .int 0), (0, .ref ht)]) zx zb dX9_restart_1 rfl hl (by decide) rfl (fun ls hl => ?_)
  refine k_loop (P := ∀ (zm : Nat) (k2 : Nat) (f2_0 : Nat → Int32) (H : Heap) (locs : List Loc) (ls : Array Slot), 16 + 1 ≤ k2 + zm → (k2 ≤ 16) → wd X (va_A ([(ht, .inr (7, [.ref hc, .int tm])), (hc, .inl (X.2.1, 16, .inl tf))]) sz) (va_A ([(ht, .inr (7, [.ref hc, .int tm])), (hc, .inl (X.2.1, 16, .inl tf))]) sz) s ([(ht, .inr (7, [.ref hc, .int tm])), (hc, .inl (X.2.1, 16, .inl f2_0))]) H locs → lv_has ls 2 [(1, .int (nI k2)), (0, .ref ht)] → W p l e _ s m _ below meth c H locs _ _ _ (F0 m 2 ls [])) (fun loop => loop (16 + 1) 0 tf _ _ _ (by omega) (by omega) G hl) ?_
  intro zm
  induction zm with
  | zero => intro k2 f2_0 H locs ls zz q_hk_k2 _ _; exact absurd zz (by omega)
  | succ zm ih2 =>
    intro k2 f2_0 H locs ls zm_2 hk_k2 G hl
    refine lv_iload_n zx zb dX9_restart_2 rfl (lv_at hl 0 rfl) ?_
    refine lv_aload_n zx zb dX9_restart_3 rfl (lv_at hl 1 rfl) ?_
    refine r_get (C := RX9) (T := TX9) (N := 2) (ci := 7) (v := .ref hc) S in_X9_restart_X9 G 0 rfl rfl 0 (by decide) lk_X9_restart_9 rfl dX9_restart_4 ?_
    refine r_alen (v := 16) S G 1 0 rfl rfl rfl dX9_restart_7 ?_
    refine lv_icmp_ge (tgt := 24) zx zb dX9_restart_8 (by decide) (fun c_1 => ?_) (fun c_1 => ?_)
    · have fc_1 := j_le (a := 16) (b := k2) (by omega) (by omega) c_1
      refine lv_aload_n zx zb dX9_restart_24 rfl (lv_at hl 1 rfl) ?_
      refine lv_iconst (v := 0) zx zb dX9_restart_25 (by decide) ?_
      refine r_put (C := RX9) (T := TX9) (N := 2) (ci := 7) (v := .int 0) S in_X9_restart_X9 tyX9_ok nmX9 G 0 rfl rfl 1 (by decide) lk_X9_restart_15 rfl (vp_nar_int _) rfl (Nat.le_of_ble_eq_true rfl) dX9_restart_26 (fun H locs G => ?_)
      obtain ⟨m_2, G⟩ : ∃ m_2 : Int32, wd X (va_A ([(ht, .inr (7, [.ref hc, .int tm])), (hc, .inl (X.2.1, 16, .inl tf))]) sz) (va_A ([(ht, .inr (7, [.ref hc, .int tm])), (hc, .inl (X.2.1, 16, .inl tf))]) sz) s ([(ht, .inr (7, [.ref hc, .int m_2])), (hc, .inl (X.2.1, 16, .inl f2_0))]) H locs := ⟨_, G⟩
      exact e_void S zr zlk G (m_2, f2_0) [0, 1] rfl rfl (Or.inr rfl) (trivial) dX9_restart_29
    · have fc_1 := j_nle (a := 16) (b := k2) (by omega) (by omega) c_1
      refine lv_aload_n zx zb dX9_restart_11 rfl (lv_at hl 1 rfl) ?_
      refine r_get (C := RX9) (T := TX9) (N := 2) (ci := 7) (v := .ref hc) S in_X9_restart_X9 G 0 rfl rfl 0 (by decide) lk_X9_restart_9 rfl dX9_restart_12 ?_
      refine lv_iload_n zx zb dX9_restart_15 rfl (lv_at hl 0 rfl) ?_
      refine lv_iconst (v := 0) zx zb dX9_restart_16 (by decide) ?_
      refine r_iast S G 1 rfl (vp_in_nI (by omega) (by decide)) dX9_restart_17 (fun H locs G => ?_)
      obtain ⟨f_3, G⟩ : ∃ f_3 : Nat → Int32, wd X (va_A ([(ht, .inr (7, [.ref hc, .int tm])), (hc, .inl (X.2.1, 16, .inl tf))]) sz) (va_A ([(ht, .inr (7, [.ref hc, .int tm])), (hc, .inl (X.2.1, 16, .inl tf))]) sz) s ([(ht, .inr (7, [.ref hc, .int tm])), (hc, .inl (X.2.1, 16, .inl f_3))]) H locs := ⟨_, G⟩
      refine lv_iinc (v := (nI (k2 + 1))) (lv' := [(1, .int (nI (k2 + 1))), (0, .ref ht)]) zx zb dX9_restart_18 hl (k := 0) rfl (nI_add k2 1) (by decide) rfl (fun ls hl => ?_)
      refine lv_goto (tgt := 2) zx zb dX9_restart_21 (by decide) ?_
      exact ih2 (k2 + 1) f_3 _ _ _ (by omega) (by omega) G hl
theorem in_X9_see_X9 : ∀ w ∈ wsX90, w ∈ wsX9_see := by decide +kernel
theorem lk_X9_see_9 : Cond.fieldLink RX9 9 "EggSpoons$Tally" "counts" "[I" ∈ wsX9_see := by decide +kernel
theorem lk_X9_see_15 : Cond.fieldLink RX9 15 "EggSpoons$Tally" "most" "I" ∈ wsX9_see := by decide +kernel
theorem mm_X9_see_ml19 : Cond.methodLink RX9 19 Lib.Math.max.name ∈ wsX9_see := by decide +kernel
theorem mm_X9_see_msmax : Cond.static Lib.Math.max.name ∈ wsX9_see := by decide +kernel
theorem mm_X9_see_mi : Cond.initialized "java/lang/Math" ∈ wsX9_see := by decide +kernel
theorem mm_X9_see_mcmax : Cond.code Lib.Math.max.name Lib.Math.max.code 2 (some .int) ∈ wsX9_see := by decide +kernel
set_option maxHeartbeats 4000000 in
set_option maxRecDepth 100000 in
/-- see -/
theorem s_see (l : Launch) (X : EX) (ht : Nat) (hc : Nat) (tm : Int32) (tf : Nat → Int32) (x1 : Int32) (sz : Nat) : Met l yX9_see wsX9_see ({ frames := 1, cells := 0, slots := 0, locals := 14 } : Room) (pE X [.ref ht, .int x1] ([(ht, .inr (7, [.ref hc, .int tm])), (hc, .inl (X.2.1, 16, .inl tf))]) sz) (qV (fun (u : (Int32) × (Nat → Int32)) => (True)) X (fun (u : (Int32) × (Nat → Int32)) => [(ht, .inr (7, [.ref hc, .int u.1])), (hc, .inl (X.2.1, 16, .inl u.2))]) ([(ht, .inr (7, [.ref hc, .int tm])), (hc, .inl (X.2.1, 16, .inl tf))]) sz) 0 0 (va_A ([(ht, .inr (7, [.ref hc, .int tm])), (hc, .inl (X.2.1, 16, .inl tf))]) sz) := by
  refine mk_met (B := (va_A ([(ht, .inr (7, [.ref hc, .int tm])), (hc, .inl (X.2.1, 16, .inl tf))]) sz)) (A := (va_A ([(ht, .inr (7, [.ref hc, .int tm])), (hc, .inl (X.2.1, 16, .inl tf))]) sz)) (cc := cX9_see) (maxL := 2) (ret := none) (by decide) rfl (Nat.le_of_ble_eq_true rfl) k_w k_a (fun p e s m below meth c S zr zlk znm zsz G ls hl => ?_)
  have S : CallFix p m c cX9_see 2 s _ wsX9_see RX9 := S
  have zx := S.1
  have zb := S.2.1
  have hl : lv_has ls 2 [(0, .ref ht), (1, .int x1)] := hl
  refine lv_iload_n zx zb dX9_see_0 rfl (lv_at hl 1 rfl) ?_
  refine k_cutW (PP := fun Wx => ∀ (m_2 : Int32) (f_3 : Nat → Int32) (H : Heap) (locs : List Loc) (ls : Array Slot), wd X (va_A ([(ht, .inr (7, [.ref hc, .int tm])), (hc, .inl (X.2.1, 16, .inl tf))]) sz) (va_A ([(ht, .inr (7, [.ref hc, .int tm])), (hc, .inl (X.2.1, 16, .inl tf))]) sz) s ([(ht, .inr (7, [.ref hc, .int m_2])), (hc, .inl (X.2.1, 16, .inl f_3))]) H locs → lv_has ls 2 [(0, .ref ht), (1, .int x1)] → Wx (F0 m 40 ls []) H locs) ?_ ?_
  · intro join_1
    refine lv_if_lt (tgt := 40) zx zb dX9_see_1 (by decide) (fun c_1 => ?_) (fun c_1 => ?_)
    · exact join_1 tm tf _ _ _  G hl
    · refine lv_iload_n zx zb dX9_see_4 rfl (lv_at hl 1 rfl) ?_
      refine lv_aload_n zx zb dX9_see_5 rfl (lv_at hl 0 rfl) ?_
      refine r_get (C := RX9) (T := TX9) (N := 2) (ci := 7) (v := .ref hc) S in_X9_see_X9 G 0 rfl rfl 0 (by decide) lk_X9_see_9 rfl dX9_see_6 ?_
      refine r_alen (v := 16) S G 1 0 rfl rfl rfl dX9_see_9 ?_
      refine lv_icmp_ge (tgt := 40) zx zb dX9_see_10 (by decide) (fun c_4 => ?_) (fun c_4 => ?_)
      · exact join_1 tm tf _ _ _  G hl
      · refine lv_aload_n zx zb dX9_see_13 rfl (lv_at hl 0 rfl) ?_
        refine r_get (C := RX9) (T := TX9) (N := 2) (ci := 7) (v := .ref hc) S in_X9_see_X9 G 0 rfl rfl 0 (by decide) lk_X9_see_9 rfl dX9_see_14 ?_
        refine lv_iload_n zx zb dX9_see_17 rfl (lv_at hl 1 rfl) ?_
        refine lv_dup2_11 zx zb dX9_see_18 rfl rfl ?_
        refine r_iald S G 1 rfl (k_in (by decide) c_1 c_4) rfl dX9_see_19 ?_
        refine k_itE (fun y_5 => ?_)
        refine lv_iconst (v := 1) zx zb dX9_see_20 (by decide) ?_
        refine r_iadd (v := (y_5 + 1)) S rfl dX9_see_21 ?_
        refine r_iast S G 1 rfl (k_in (by decide) c_1 c_4) dX9_see_22 (fun H locs G => ?_)
        obtain ⟨f_6, G⟩ : ∃ f_6 : Nat → Int32, wd X (va_A ([(ht, .inr (7, [.ref hc, .int tm])), (hc, .inl (X.2.1, 16, .inl tf))]) sz) (va_A ([(ht, .inr (7, [.ref hc, .int tm])), (hc, .inl (X.2.1, 16, .inl tf))]) sz) s ([(ht, .inr (7, [.ref hc, .int tm])), (hc, .inl (X.2.1, 16, .inl f_6))]) H locs := ⟨_, G⟩
        refine lv_aload_n zx zb dX9_see_23 rfl (lv_at hl 0 rfl) ?_
        refine lv_aload_n zx zb dX9_see_24 rfl (lv_at hl 0 rfl) ?_
        refine r_get (C := RX9) (T := TX9) (N := 2) (ci := 7) (v := .int tm) S in_X9_see_X9 G 0 rfl rfl 1 (by decide) lk_X9_see_15 rfl dX9_see_25 ?_
        refine lv_aload_n zx zb dX9_see_28 rfl (lv_at hl 0 rfl) ?_
        refine r_get (C := RX9) (T := TX9) (N := 2) (ci := 7) (v := .ref hc) S in_X9_see_X9 G 0 rfl rfl 0 (by decide) lk_X9_see_9 rfl dX9_see_29 ?_
        refine lv_iload_n zx zb dX9_see_32 rfl (lv_at hl 1 rfl) ?_
        refine r_iald S G 1 rfl (k_in (by decide) c_1 c_4) rfl dX9_see_33 ?_
        refine k_itE (fun y_7 => ?_)
        refine r_mmaxE S hl.1 mm_X9_see_ml19 mm_X9_see_msmax mm_X9_see_mi mm_X9_see_mcmax (Nat.le_of_ble_eq_true rfl) (Nat.le_of_ble_eq_true rfl) (Nat.zero_le _) (Nat.zero_le _) dX9_see_34 (fun y_8 => ?_)
        refine r_put (C := RX9) (T := TX9) (N := 2) (ci := 7) (v := .int y_8) S in_X9_see_X9 tyX9_ok nmX9 G 0 rfl rfl 1 (by decide) lk_X9_see_15 rfl (vp_nar_int _) rfl (Nat.le_of_ble_eq_true rfl) dX9_see_37 (fun H locs G => ?_)
        obtain ⟨m_9, G⟩ : ∃ m_9 : Int32, wd X (va_A ([(ht, .inr (7, [.ref hc, .int tm])), (hc, .inl (X.2.1, 16, .inl tf))]) sz) (va_A ([(ht, .inr (7, [.ref hc, .int tm])), (hc, .inl (X.2.1, 16, .inl tf))]) sz) s ([(ht, .inr (7, [.ref hc, .int m_9])), (hc, .inl (X.2.1, 16, .inl f_6))]) H locs := ⟨_, G⟩
        exact join_1 m_9 f_6 _ _ _  G hl
  · intro m_2 f_3 H locs ls  G hl
    exact e_void S zr zlk G (m_2, f_3) [0, 1] rfl rfl (Or.inr rfl) (trivial) dX9_see_40
set_option maxHeartbeats 4000000 in
set_option maxRecDepth 100000 in
/-- hasBit -/
theorem s_hasBit (l : Launch) (X : EX) (x1 : Int32) (x2 : Int32) (sz : Nat) : Met l yX10_hasBit wsX10_hasBit ({ frames := 0, cells := 0, slots := 0, locals := 0 } : Room) (pE X [.int x1, .int x2] ([]) sz) (qI (fun (r : Int32) (u : Unit) => r = 0 ∨ r = 1) X (fun (u : Unit) => []) [] sz) 0 0 (va_A [] sz) := by
  refine mk_met (B := (fun _ => True)) (A := (va_A [] sz)) (cc := cX10_hasBit) (maxL := 2) (ret := (some .boolean)) (by decide) rfl (Nat.le_of_ble_eq_true rfl) k_ro k_a (fun p e s m below meth c S zr zlk znm zsz G ls hl => ?_)
  have S : CallFix p m c cX10_hasBit 2 s _ wsX10_hasBit RX10 := S
  have zx := S.1
  have zb := S.2.1
  have hl : lv_has ls 2 [(0, .int x1), (1, .int x2)] := hl
  refine lv_iload_n zx zb dX10_hasBit_0 rfl (lv_at hl 0 rfl) ?_
  refine lv_iload_n zx zb dX10_hasBit_1 rfl (lv_at hl 1 rfl) ?_
  refine lv_ishr zx zb dX10_hasBit_2 ?_
  refine k_itE (fun y_1 => ?_)
  refine lv_iconst (v := 1) zx zb dX10_hasBit_3 (by decide) ?_
  refine lv_iand zx zb dX10_hasBit_4 ?_
  refine k_itE (fun y_2 => ?_)
  refine lv_iconst (v := 1) zx zb dX10_hasBit_5 (by decide) ?_
  refine lv_icmp_ne (tgt := 13) zx zb dX10_hasBit_6 (by decide) (fun c_3 => ?_) (fun c_3 => ?_)
  · refine lv_iconst (v := 0) zx zb dX10_hasBit_13 (by decide) ?_
    exact e_int S zr zlk (by decide) G () [] rfl rfl (Or.inl rfl) (by first | exact Or.inl rfl | exact Or.inr rfl) dX10_hasBit_14
  · refine lv_iconst (v := 1) zx zb dX10_hasBit_9 (by decide) ?_
    refine lv_goto (tgt := 14) zx zb dX10_hasBit_10 (by decide) ?_
    exact e_int S zr zlk (by decide) G () [] rfl rfl (Or.inl rfl) (by first | exact Or.inl rfl | exact Or.inr rfl) dX10_hasBit_14
theorem mm_J6_bitCount_0f7a4_c265 : Cond.constant RJ6 265 (1431655765) ∈ wsJ6_bitCount_0f7a4 := by decide +kernel
theorem mm_J6_bitCount_0f7a4_c266 : Cond.constant RJ6 266 (858993459) ∈ wsJ6_bitCount_0f7a4 := by decide +kernel
theorem mm_J6_bitCount_0f7a4_c267 : Cond.constant RJ6 267 (252645135) ∈ wsJ6_bitCount_0f7a4 := by decide +kernel
set_option maxHeartbeats 4000000 in
set_option maxRecDepth 100000 in
/-- bitCount -/
theorem s_bitCount (l : Launch) (X : EX) (x1 : Int32) (sz : Nat) : Met l yJ6_bitCount_0f7a4 wsJ6_bitCount_0f7a4 ({ frames := 0, cells := 0, slots := 0, locals := 0 } : Room) (pE X [.int x1] ([]) sz) (qI (fun (r : Int32) (u : Unit) => True) X (fun (u : Unit) => []) [] sz) 0 0 (va_A [] sz) := by
  refine mk_met (B := (fun _ => True)) (A := (va_A [] sz)) (cc := cJ6_bitCount_0f7a4) (maxL := 1) (ret := (some .int)) (by decide) rfl (Nat.le_of_ble_eq_true rfl) k_ro k_a (fun p e s m below meth c S zr zlk znm zsz G ls hl => ?_)
  have S : CallFix p m c cJ6_bitCount_0f7a4 1 s _ wsJ6_bitCount_0f7a4 RJ6 := S
  have zx := S.1
  have zb := S.2.1
  have hl : lv_has ls 1 [(0, .int x1)] := hl
  refine lv_iload_n zx zb dJ6_bitCount_0f7a4_0 rfl (lv_at hl 0 rfl) ?_
  refine lv_iload_n zx zb dJ6_bitCount_0f7a4_1 rfl (lv_at hl 0 rfl) ?_
  refine lv_iconst (v := 1) zx zb dJ6_bitCount_0f7a4_2 (by decide) ?_
  refine lv_iushr zx zb dJ6_bitCount_0f7a4_3 rfl ?_
  refine k_itE (fun y_1 => ?_)
  refine lv_ldcw zx zb S.2.2.2.1 (S.2.2.2.2 _ mm_J6_bitCount_0f7a4_c265) dJ6_bitCount_0f7a4_4 ?_
  refine lv_iand zx zb dJ6_bitCount_0f7a4_7 ?_
  refine k_itE (fun y_3 => ?_)
  refine r_isub (v := (x1 - y_3)) S rfl dJ6_bitCount_0f7a4_8 ?_
  refine lv_istore_n (lv' := [(0, .int (x1 - y_3))]) zx zb dJ6_bitCount_0f7a4_9 rfl hl (by decide) rfl (fun ls hl => ?_)
  refine lv_iload_n zx zb dJ6_bitCount_0f7a4_10 rfl (lv_at hl 0 rfl) ?_
  refine lv_ldcw zx zb S.2.2.2.1 (S.2.2.2.2 _ mm_J6_bitCount_0f7a4_c266) dJ6_bitCount_0f7a4_11 ?_
  refine lv_iand zx zb dJ6_bitCount_0f7a4_14 ?_
  refine k_itE (fun y_5 => ?_)
  refine lv_iload_n zx zb dJ6_bitCount_0f7a4_15 rfl (lv_at hl 0 rfl) ?_
  refine lv_iconst (v := 2) zx zb dJ6_bitCount_0f7a4_16 (by decide) ?_
  refine lv_iushr zx zb dJ6_bitCount_0f7a4_17 rfl ?_
  refine k_itE (fun y_6 => ?_)
  refine lv_ldcw zx zb S.2.2.2.1 (S.2.2.2.2 _ mm_J6_bitCount_0f7a4_c266) dJ6_bitCount_0f7a4_18 ?_
  refine lv_iand zx zb dJ6_bitCount_0f7a4_21 ?_
  refine k_itE (fun y_8 => ?_)
  refine r_iadd (v := (y_5 + y_8)) S rfl dJ6_bitCount_0f7a4_22 ?_
  refine lv_istore_n (lv' := [(0, .int (y_5 + y_8))]) zx zb dJ6_bitCount_0f7a4_23 rfl hl (by decide) rfl (fun ls hl => ?_)
  refine lv_iload_n zx zb dJ6_bitCount_0f7a4_24 rfl (lv_at hl 0 rfl) ?_
  refine lv_iload_n zx zb dJ6_bitCount_0f7a4_25 rfl (lv_at hl 0 rfl) ?_
  refine lv_iconst (v := 4) zx zb dJ6_bitCount_0f7a4_26 (by decide) ?_
  refine lv_iushr zx zb dJ6_bitCount_0f7a4_27 rfl ?_
  refine k_itE (fun y_9 => ?_)
  refine r_iadd (v := ((y_5 + y_8) + y_9)) S rfl dJ6_bitCount_0f7a4_28 ?_
  refine lv_ldcw zx zb S.2.2.2.1 (S.2.2.2.2 _ mm_J6_bitCount_0f7a4_c267) dJ6_bitCount_0f7a4_29 ?_
  refine lv_iand zx zb dJ6_bitCount_0f7a4_32 ?_
  refine k_itE (fun y_11 => ?_)
  refine lv_istore_n (lv' := [(0, .int y_11)]) zx zb dJ6_bitCount_0f7a4_33 rfl hl (by decide) rfl (fun ls hl => ?_)
  refine lv_iload_n zx zb dJ6_bitCount_0f7a4_34 rfl (lv_at hl 0 rfl) ?_
  refine lv_iload_n zx zb dJ6_bitCount_0f7a4_35 rfl (lv_at hl 0 rfl) ?_
  refine lv_bipush (v := 8) zx zb dJ6_bitCount_0f7a4_36 (by decide) ?_
  refine lv_iushr zx zb dJ6_bitCount_0f7a4_38 rfl ?_
  refine k_itE (fun y_12 => ?_)
  refine r_iadd (v := (y_11 + y_12)) S rfl dJ6_bitCount_0f7a4_39 ?_
  refine lv_istore_n (lv' := [(0, .int (y_11 + y_12))]) zx zb dJ6_bitCount_0f7a4_40 rfl hl (by decide) rfl (fun ls hl => ?_)
  refine lv_iload_n zx zb dJ6_bitCount_0f7a4_41 rfl (lv_at hl 0 rfl) ?_
  refine lv_iload_n zx zb dJ6_bitCount_0f7a4_42 rfl (lv_at hl 0 rfl) ?_
  refine lv_bipush (v := 16) zx zb dJ6_bitCount_0f7a4_43 (by decide) ?_
  refine lv_iushr zx zb dJ6_bitCount_0f7a4_45 rfl ?_
  refine k_itE (fun y_13 => ?_)
  refine r_iadd (v := ((y_11 + y_12) + y_13)) S rfl dJ6_bitCount_0f7a4_46 ?_
  refine lv_istore_n (lv' := [(0, .int ((y_11 + y_12) + y_13))]) zx zb dJ6_bitCount_0f7a4_47 rfl hl (by decide) rfl (fun ls hl => ?_)
  refine lv_iload_n zx zb dJ6_bitCount_0f7a4_48 rfl (lv_at hl 0 rfl) ?_
  refine lv_bipush (v := 63) zx zb dJ6_bitCount_0f7a4_49 (by decide) ?_
  refine lv_iand zx zb dJ6_bitCount_0f7a4_51 ?_
  refine k_itE (fun y_14 => ?_)
  exact e_int S zr zlk (vp_nar_int _) G () [] rfl rfl (Or.inl rfl) (trivial) dJ6_bitCount_0f7a4_52
theorem in_X10_farBy_X8 : ∀ w ∈ wsX80, w ∈ wsX10_farBy := by decide +kernel
theorem lk_X10_farBy_320 : Cond.fieldLink RX10 320 "EggSpoons$Runner" "kind" "I" ∈ wsX10_farBy := by decide +kernel
set_option maxHeartbeats 4000000 in
set_option maxRecDepth 100000 in
/-- farBy -/
theorem s_farBy0 (l : Launch) (X : EX) (h0 : Nat) (a : Nat → Int32) (d : Nat → Int32) (x2 : Int32) (x3 : Int32) (sz : Nat) : Met l yX10_farBy wsX10_farBy ({ frames := 1, cells := 0, slots := 0, locals := 26 } : Room) (pE X [.ref h0, .int 0, .int x2, .int x3] (rnV h0 a d) sz) (qI (fun (r : Int32) (u : Unit) => True) X (fun (u : Unit) => []) [] sz) 0 0 (va_A [] sz) := by
  refine mk_met (B := (fun _ => True)) (A := (va_A [] sz)) (cc := cX10_farBy) (maxL := 4) (ret := (some .int)) (by decide) rfl (Nat.le_of_ble_eq_true rfl) k_ro k_a (fun p e s m below meth c S zr zlk znm zsz G ls hl => ?_)
  have S : CallFix p m c cX10_farBy 4 s _ wsX10_farBy RX10 := S
  have zx := S.1
  have zb := S.2.1
  have hl : lv_has ls 4 [(0, .ref h0), (1, .int 0), (2, .int x2), (3, .int x3)] := hl
  refine lv_iload_n zx zb dX10_farBy_0 rfl (lv_at hl 1 rfl) ?_
  refine lv_lookup (off := 27) (tgt := 28) zx zb dX10_farBy_1 rfl (by decide) (by decide) ?_
  refine lv_aload_n zx zb dX10_farBy_28 rfl (lv_at hl 0 rfl) ?_
  refine r_get (C := RX8) (T := TX8) (N := 8) (ci := 6) (v := .int (a 0)) S in_X10_farBy_X8 G 0 rfl rfl 0 (by decide) lk_X10_farBy_320 rfl dX10_farBy_29 ?_
  refine lv_iload_n zx zb dX10_farBy_32 rfl (lv_at hl 2 rfl) ?_
  refine lv_iload_n zx zb dX10_farBy_33 rfl (lv_at hl 3 rfl) ?_
  refine lv_bipush (v := 10) zx zb dX10_farBy_34 (by decide) ?_
  refine lv_idiv zx zb dX10_farBy_36 (by decide) ?_
  refine k_itE (fun y_1 => ?_)
  refine lv_iload_n zx zb dX10_farBy_37 rfl (lv_at hl 3 rfl) ?_
  refine lv_bipush (v := 10) zx zb dX10_farBy_38 (by decide) ?_
  refine lv_irem zx zb dX10_farBy_40 (by decide) ?_
  refine k_itE (fun y_2 => ?_)
  refine o_ri (cells' := 0) (slots' := 0) G rfl rfl (n_S (As := [.int (a 0), .int x2, .int y_1, .int y_2]) (rest := []) S G (s_reach l X (a 0) x2 y_1 y_2 s.heap.size) gX10_farBy_X2_reach rfl rfl rfl hdS_X2_reach ⟨Nat.le_of_ble_eq_true rfl, Nat.le_of_ble_eq_true rfl⟩ [] rfl rfl rfl hl.1 (Nat.le_of_ble_eq_true rfl) dX10_farBy_41 ⟨Nat.le_of_ble_eq_true rfl, Nat.le_of_ble_eq_true rfl⟩) (fun r_3 u_3 H locs hp_3 G => ?_)
  have G : wd X (fun _ => True) (va_A [] sz) s (rnV h0 a d) H locs := G
  exact e_int S zr zlk (vp_nar_int _) G () [] rfl rfl (Or.inl rfl) (trivial) dX10_farBy_44
theorem lk_X10_farBy_328 : Cond.fieldLink RX10 328 "EggSpoons$Runner" "legs" "I" ∈ wsX10_farBy := by decide +kernel
set_option maxHeartbeats 4000000 in
set_option maxRecDepth 100000 in
/-- farBy -/
theorem s_farBy1 (l : Launch) (X : EX) (h0 : Nat) (a : Nat → Int32) (d : Nat → Int32) (x2 : Int32) (x3 : Int32) (sz : Nat) : Met l yX10_farBy wsX10_farBy ({ frames := 1, cells := 0, slots := 0, locals := 26 } : Room) (pE X [.ref h0, .int 1, .int x2, .int x3] (rnV h0 a d) sz) (qI (fun (r : Int32) (u : Unit) => True) X (fun (u : Unit) => []) [] sz) 0 0 (va_A [] sz) := by
  refine mk_met (B := (fun _ => True)) (A := (va_A [] sz)) (cc := cX10_farBy) (maxL := 4) (ret := (some .int)) (by decide) rfl (Nat.le_of_ble_eq_true rfl) k_ro k_a (fun p e s m below meth c S zr zlk znm zsz G ls hl => ?_)
  have S : CallFix p m c cX10_farBy 4 s _ wsX10_farBy RX10 := S
  have zx := S.1
  have zb := S.2.1
  have hl : lv_has ls 4 [(0, .ref h0), (1, .int 1), (2, .int x2), (3, .int x3)] := hl
  refine lv_iload_n zx zb dX10_farBy_0 rfl (lv_at hl 1 rfl) ?_
  refine lv_lookup (off := 44) (tgt := 45) zx zb dX10_farBy_1 rfl (by decide) (by decide) ?_
  refine lv_iload_n zx zb dX10_farBy_45 rfl (lv_at hl 2 rfl) ?_
  refine lv_aload_n zx zb dX10_farBy_46 rfl (lv_at hl 0 rfl) ?_
  refine r_get (C := RX8) (T := TX8) (N := 8) (ci := 6) (v := .int (a 1)) S in_X10_farBy_X8 G 0 rfl rfl 1 (by decide) lk_X10_farBy_328 rfl dX10_farBy_47 ?_
  refine lv_iload_n zx zb dX10_farBy_50 rfl (lv_at hl 3 rfl) ?_
  refine lv_bipush (v := 10) zx zb dX10_farBy_51 (by decide) ?_
  refine lv_idiv zx zb dX10_farBy_53 (by decide) ?_
  refine k_itE (fun y_1 => ?_)
  refine lv_iload_n zx zb dX10_farBy_54 rfl (lv_at hl 3 rfl) ?_
  refine lv_bipush (v := 10) zx zb dX10_farBy_55 (by decide) ?_
  refine lv_irem zx zb dX10_farBy_57 (by decide) ?_
  refine k_itE (fun y_2 => ?_)
  refine o_ri (cells' := 0) (slots' := 0) G rfl rfl (n_S (As := [.int x2, .int (a 1), .int y_1, .int y_2]) (rest := []) S G (s_reach l X x2 (a 1) y_1 y_2 s.heap.size) gX10_farBy_X2_reach rfl rfl rfl hdS_X2_reach ⟨Nat.le_of_ble_eq_true rfl, Nat.le_of_ble_eq_true rfl⟩ [] rfl rfl rfl hl.1 (Nat.le_of_ble_eq_true rfl) dX10_farBy_58 ⟨Nat.le_of_ble_eq_true rfl, Nat.le_of_ble_eq_true rfl⟩) (fun r_3 u_3 H locs hp_3 G => ?_)
  have G : wd X (fun _ => True) (va_A [] sz) s (rnV h0 a d) H locs := G
  exact e_int S zr zlk (vp_nar_int _) G () [] rfl rfl (Or.inl rfl) (trivial) dX10_farBy_61
set_option maxHeartbeats 4000000 in
set_option maxRecDepth 100000 in
/-- farBy -/
theorem s_farBy2 (l : Launch) (X : EX) (h0 : Nat) (a : Nat → Int32) (d : Nat → Int32) (x2 : Int32) (x3 : Int32) (sz : Nat) : Met l yX10_farBy wsX10_farBy ({ frames := 1, cells := 0, slots := 0, locals := 24 } : Room) (pE X [.ref h0, .int 2, .int x2, .int x3] (rnV h0 a d) sz) (qI (fun (r : Int32) (u : Unit) => True) X (fun (u : Unit) => []) [] sz) 0 0 (va_A [] sz) := by
  refine mk_met (B := (fun _ => True)) (A := (va_A [] sz)) (cc := cX10_farBy) (maxL := 4) (ret := (some .int)) (by decide) rfl (Nat.le_of_ble_eq_true rfl) k_ro k_a (fun p e s m below meth c S zr zlk znm zsz G ls hl => ?_)
  have S : CallFix p m c cX10_farBy 4 s _ wsX10_farBy RX10 := S
  have zx := S.1
  have zb := S.2.1
  have hl : lv_has ls 4 [(0, .ref h0), (1, .int 2), (2, .int x2), (3, .int x3)] := hl
  refine lv_iload_n zx zb dX10_farBy_0 rfl (lv_at hl 1 rfl) ?_
  refine lv_lookup (off := 61) (tgt := 62) zx zb dX10_farBy_1 rfl (by decide) (by decide) ?_
  refine lv_iload_n zx zb dX10_farBy_62 rfl (lv_at hl 2 rfl) ?_
  refine lv_iload_n zx zb dX10_farBy_63 rfl (lv_at hl 3 rfl) ?_
  refine o_ri (cells' := 0) (slots' := 0) G rfl rfl (n_S (As := [.int x2, .int x3]) (rest := []) S G (s_limit l X x2 x3 s.heap.size) gX10_farBy_X1_limit rfl rfl rfl hdS_X1_limit ⟨Nat.le_of_ble_eq_true rfl, Nat.le_of_ble_eq_true rfl⟩ [] rfl rfl rfl hl.1 (Nat.le_of_ble_eq_true rfl) dX10_farBy_64 ⟨Nat.le_of_ble_eq_true rfl, Nat.le_of_ble_eq_true rfl⟩) (fun r_1 u_1 H locs hp_1 G => ?_)
  have G : wd X (fun _ => True) (va_A [] sz) s (rnV h0 a d) H locs := G
  exact e_int S zr zlk (vp_nar_int _) G () [] rfl rfl (Or.inl rfl) (trivial) dX10_farBy_67
theorem in_X10_seen_X10 : ∀ w ∈ wsX100, w ∈ wsX10_seen := by decide +kernel
theorem lk_X10_seen_10 : Cond.fieldLink RX10 10 "EggSpoons" "now" "LEggSpoons$Race;" ∈ wsX10_seen := by decide +kernel
theorem in_X10_seen_X5 : ∀ w ∈ wsX50, w ∈ wsX10_seen := by decide +kernel
theorem lk_X10_seen_185 : Cond.fieldLink RX10 185 "EggSpoons$Race" "seenRows" "LEggSpoons$Rows;" ∈ wsX10_seen := by decide +kernel
theorem hdV_X7_append : yX7_append.cls = RX7 ∧ yX7_append.cls ≠ "java/lang/invoke/MethodHandle" ∧ yX7_append.cls ≠ "java/lang/invoke/VarHandle" ∧ (parseMethodDescriptor yX7_append.desc).map (fun d => d.parameters.length) = some 5 := by decide +kernel
theorem in_X10_seen_X7 : ∀ w ∈ wsX70, w ∈ wsX10_seen := by decide +kernel
theorem lk_X10_seen_194 : Cond.fieldLink RX10 194 "EggSpoons$Rows" "size" "I" ∈ wsX10_seen := by decide +kernel
theorem in_X10_note_X10 : ∀ w ∈ wsX100, w ∈ wsX10_note := by decide +kernel
theorem lk_X10_note_10 : Cond.fieldLink RX10 10 "EggSpoons" "now" "LEggSpoons$Race;" ∈ wsX10_note := by decide +kernel
theorem in_X10_note_X5 : ∀ w ∈ wsX50, w ∈ wsX10_note := by decide +kernel
theorem lk_X10_note_212 : Cond.fieldLink RX10 212 "EggSpoons$Race" "noteRows" "LEggSpoons$Rows;" ∈ wsX10_note := by decide +kernel
theorem in_X10_note_X7 : ∀ w ∈ wsX70, w ∈ wsX10_note := by decide +kernel
theorem lk_X10_note_194 : Cond.fieldLink RX10 194 "EggSpoons$Rows" "size" "I" ∈ wsX10_note := by decide +kernel
theorem in_X10_mark_X10 : ∀ w ∈ wsX100, w ∈ wsX10_mark := by decide +kernel
theorem lk_X10_mark_10 : Cond.fieldLink RX10 10 "EggSpoons" "now" "LEggSpoons$Race;" ∈ wsX10_mark := by decide +kernel
theorem in_X10_mark_X5 : ∀ w ∈ wsX50, w ∈ wsX10_mark := by decide +kernel
theorem lk_X10_mark_215 : Cond.fieldLink RX10 215 "EggSpoons$Race" "markRows" "LEggSpoons$Rows;" ∈ wsX10_mark := by decide +kernel
theorem in_X10_mark_X7 : ∀ w ∈ wsX70, w ∈ wsX10_mark := by decide +kernel
theorem lk_X10_mark_194 : Cond.fieldLink RX10 194 "EggSpoons$Rows" "size" "I" ∈ wsX10_mark := by decide +kernel
theorem in_X10_forget_X10 : ∀ w ∈ wsX100, w ∈ wsX10_forget := by decide +kernel
theorem lk_X10_forget_10 : Cond.fieldLink RX10 10 "EggSpoons" "now" "LEggSpoons$Race;" ∈ wsX10_forget := by decide +kernel
theorem in_X10_forget_X5 : ∀ w ∈ wsX50, w ∈ wsX10_forget := by decide +kernel
theorem lk_X10_forget_215 : Cond.fieldLink RX10 215 "EggSpoons$Race" "markRows" "LEggSpoons$Rows;" ∈ wsX10_forget := by decide +kernel
theorem in_X10_forget_X7 : ∀ w ∈ wsX70, w ∈ wsX10_forget := by decide +kernel
theorem lk_X10_forget_194 : Cond.fieldLink RX10 194 "EggSpoons$Rows" "size" "I" ∈ wsX10_forget := by decide +kernel
theorem lk_X10_forget_212 : Cond.fieldLink RX10 212 "EggSpoons$Race" "noteRows" "LEggSpoons$Rows;" ∈ wsX10_forget := by decide +kernel
theorem lk_X10_forget_185 : Cond.fieldLink RX10 185 "EggSpoons$Race" "seenRows" "LEggSpoons$Rows;" ∈ wsX10_forget := by decide +kernel
set_option maxHeartbeats 4000000 in
set_option maxRecDepth 100000 in
/-- forget -/
theorem s_forget (l : Launch) (X : EX) (h0 : Nat) (nw : Nat) (sp : Nat) (xa : Nat → Nat) (la : Int64) (lb : Int64) (an : Nat → Nat) (sv : Nat → Int32) (dv : Nat → Int32) (n0 : Nat) (n1 : Nat) (n2 : Nat) (n3 : Nat) (n4 : Nat) (g0 : Nat → Int32) (gs : Nat → Int32) (gn : Nat → Int32) (gm : Nat → Int32) (fr : Nat → Int32) (x1 : Int32) (hI_n0 : n0 ≤ 6) (hI_n1 : n1 ≤ 8) (hI_n2 : n2 ≤ 5) (hI_n3 : n3 ≤ 6) (hI_n4 : n4 ≤ 6) (sz : Nat) : Met l yX10_forget wsX10_forget ({ frames := 1, cells := 0, slots := 0, locals := 22 } : Room) (pE X [.ref h0, .int x1] (@HAppend.hAppend va_W va_W va_W _ (xW h0 nw sp xa la lb) (@HAppend.hAppend va_W va_W va_W _ (rcV X nw an sv dv n0 n1 n2 n3 n4 g0 gs gn gm) ([((xa 5), .inl (X.2.1, 3, .inl fr))]))) sz) (qI (fun (r : Int32) (u : (Nat) × (Nat) × (Nat) × (Nat → Int32)) => u.1 ≤ 5 ∧ u.2.1 ≤ 6 ∧ u.2.2.1 ≤ 6 ∧ ((r, (u.1, u.2.1, u.2.2.1)) = forF x1 n2 n3 n4)) X (fun (u : (Nat) × (Nat) × (Nat) × (Nat → Int32)) => @HAppend.hAppend va_W va_W va_W _ (xW h0 nw sp xa la lb) (@HAppend.hAppend va_W va_W va_W _ (rcV X nw an sv dv n0 n1 u.1 u.2.1 u.2.2.1 g0 gs gn gm) ([((xa 5), .inl (X.2.1, 3, .inl u.2.2.2))]))) (@HAppend.hAppend va_W va_W va_W _ (xW h0 nw sp xa la lb) (@HAppend.hAppend va_W va_W va_W _ (rcV X nw an sv dv n0 n1 n2 n3 n4 g0 gs gn gm) ([((xa 5), .inl (X.2.1, 3, .inl fr))]))) sz) 0 0 (va_A (@HAppend.hAppend va_W va_W va_W _ (xW h0 nw sp xa la lb) (@HAppend.hAppend va_W va_W va_W _ (rcV X nw an sv dv n0 n1 n2 n3 n4 g0 gs gn gm) ([((xa 5), .inl (X.2.1, 3, .inl fr))]))) sz) := by
  refine mk_met (B := (va_A (@HAppend.hAppend va_W va_W va_W _ (xW h0 nw sp xa la lb) (@HAppend.hAppend va_W va_W va_W _ (rcV X nw an sv dv n0 n1 n2 n3 n4 g0 gs gn gm) ([((xa 5), .inl (X.2.1, 3, .inl fr))]))) sz)) (A := (va_A (@HAppend.hAppend va_W va_W va_W _ (xW h0 nw sp xa la lb) (@HAppend.hAppend va_W va_W va_W _ (rcV X nw an sv dv n0 n1 n2 n3 n4 g0 gs gn gm) ([((xa 5), .inl (X.2.1, 3, .inl fr))]))) sz)) (cc := cX10_forget) (maxL := 4) (ret := (some .int)) (by decide) rfl (Nat.le_of_ble_eq_true rfl) k_w k_a (fun p e s m below meth c S zr zlk znm zsz G ls hl => ?_)
  have S : CallFix p m c cX10_forget 4 s _ wsX10_forget RX10 := S
  have zx := S.1
  have zb := S.2.1
  have hl : lv_has ls 4 [(0, .ref h0), (1, .int x1)] := hl
  refine lv_iload_n zx zb dX10_forget_0 rfl (lv_at hl 1 rfl) ?_
  refine lv_iconst (v := 0) zx zb dX10_forget_1 (by decide) ?_
  refine lv_iconst (v := 2) zx zb dX10_forget_2 (by decide) ?_
  refine o_ri (cells' := 0) (slots' := 0) G rfl rfl (n_S (As := [.int x1, .int 0, .int 2]) (rest := []) S G (s_within l X x1 0 2 s.heap.size) gX10_forget_X10_within rfl rfl rfl hdS_X10_within ⟨Nat.le_of_ble_eq_true rfl, Nat.le_of_ble_eq_true rfl⟩ [] rfl rfl rfl hl.1 (Nat.le_of_ble_eq_true rfl) dX10_forget_3 ⟨Nat.le_of_ble_eq_true rfl, Nat.le_of_ble_eq_true rfl⟩) (fun r_1 u_1 H locs hp_1 G => ?_)
  have G : wd X (va_A (@HAppend.hAppend va_W va_W va_W _ (xW h0 nw sp xa la lb) (@HAppend.hAppend va_W va_W va_W _ (rcV X nw an sv dv n0 n1 n2 n3 n4 g0 gs gn gm) ([((xa 5), .inl (X.2.1, 3, .inl fr))]))) sz) (va_A (@HAppend.hAppend va_W va_W va_W _ (xW h0 nw sp xa la lb) (@HAppend.hAppend va_W va_W va_W _ (rcV X nw an sv dv n0 n1 n2 n3 n4 g0 gs gn gm) ([((xa 5), .inl (X.2.1, 3, .inl fr))]))) sz) s (@HAppend.hAppend va_W va_W va_W _ (xW h0 nw sp xa la lb) (@HAppend.hAppend va_W va_W va_W _ (rcV X nw an sv dv n0 n1 n2 n3 n4 g0 gs gn gm) ([((xa 5), .inl (X.2.1, 3, .inl fr))]))) H locs := G
  rcases hp_1 with ⟨rfl, hw_1⟩ | ⟨rfl, hw_1⟩
  · refine lv_if_ne (tgt := 16) zx zb dX10_forget_6 (by decide) (fun c_2 => ?_) (fun c_2 => absurd c_2 (by decide))
    refine lv_iload_n zx zb dX10_forget_16 rfl (lv_at hl 1 rfl) ?_
    refine lv_if_ne (tgt := 30) zx zb dX10_forget_17 (by decide) (fun c_3 => ?_) (fun c_3 => ?_)
    · refine lv_iload_n zx zb dX10_forget_30 rfl (lv_at hl 1 rfl) ?_
      refine lv_iconst (v := 1) zx zb dX10_forget_31 (by decide) ?_
      refine lv_icmp_ne (tgt := 45) zx zb dX10_forget_32 (by decide) (fun c_4 => ?_) (fun c_4 => ?_)
      · refine lv_aload_n zx zb dX10_forget_45 rfl (lv_at hl 0 rfl) ?_
        refine r_get (C := RX10) (T := TX10) (N := 14) (ci := 8) (v := .ref nw) S in_X10_forget_X10 G 0 rfl rfl 0 (by decide) lk_X10_forget_10 rfl dX10_forget_46 ?_
        refine r_get (C := RX5) (T := TX5) (N := 8) (ci := 3) (v := .ref (an 13)) S in_X10_forget_X5 G 1 rfl rfl 7 (by decide) lk_X10_forget_215 rfl dX10_forget_49 ?_
        refine lv_astore_n (lv' := [(2, .ref (an 13)), (0, .ref h0), (1, .int x1)]) zx zb dX10_forget_52 rfl hl (by decide) rfl (fun ls hl => ?_)
        refine lv_aload_n zx zb dX10_forget_53 rfl (lv_at hl 0 rfl) ?_
        refine r_get (C := RX7) (T := TX7) (N := 5) (ci := 5) (v := .int (nI n4)) S in_X10_forget_X7 G 15 rfl rfl 4 (by decide) lk_X10_forget_194 rfl dX10_forget_54 ?_
        refine lv_istore_n (lv' := [(3, .int (nI n4)), (2, .ref (an 13)), (0, .ref h0), (1, .int x1)]) zx zb dX10_forget_57 rfl hl (by decide) rfl (fun ls hl => ?_)
        refine lv_aload_n zx zb dX10_forget_58 rfl (lv_at hl 1 rfl) ?_
        refine lv_iconst (v := 0) zx zb dX10_forget_59 (by decide) ?_
        refine r_put (C := RX7) (T := TX7) (N := 5) (ci := 5) (v := .int 0) S in_X10_forget_X7 tyX7_ok nmX7 G 15 rfl rfl 4 (by decide) lk_X10_forget_194 rfl (vp_nar_int _) rfl (Nat.le_of_ble_eq_true rfl) dX10_forget_60 (fun H locs G => ?_)
        obtain ⟨n_5, hI_n_5, hE_n_5, G⟩ : ∃ n_5 : Nat, n_5 ≤ 6 ∧ n_5 = 0 ∧ wd X (va_A (@HAppend.hAppend va_W va_W va_W _ (xW h0 nw sp xa la lb) (@HAppend.hAppend va_W va_W va_W _ (rcV X nw an sv dv n0 n1 n2 n3 n4 g0 gs gn gm) ([((xa 5), .inl (X.2.1, 3, .inl fr))]))) sz) (va_A (@HAppend.hAppend va_W va_W va_W _ (xW h0 nw sp xa la lb) (@HAppend.hAppend va_W va_W va_W _ (rcV X nw an sv dv n0 n1 n2 n3 n4 g0 gs gn gm) ([((xa 5), .inl (X.2.1, 3, .inl fr))]))) sz) s (@HAppend.hAppend va_W va_W va_W _ (xW h0 nw sp xa la lb) (@HAppend.hAppend va_W va_W va_W _ (rcV X nw an sv dv n0 n1 n2 n3 n_5 g0 gs gn gm) ([((xa 5), .inl (X.2.1, 3, .inl fr))]))) H locs := ⟨0, by omega, rfl, G⟩
        refine lv_iload_n zx zb dX10_forget_63 rfl (lv_at hl 0 rfl) ?_
        have hzF : ((nI n4), (n2, n3, n_5)) = forF x1 n2 n3 n4 := by rw [forF_2 (k_is2 hw_1 c_3 c_4), hE_n_5]
        exact e_int S zr zlk (vp_nar_int _) G (n2, n3, n_5, fr) [0, 1, 2, 3, 4, 5, 6, 7, 8, 9, 10, 11, 12, 13, 14, 15, 16, 17] rfl rfl (Or.inr rfl) (⟨hI_n2, hI_n3, hI_n_5, hzF⟩) dX10_forget_64
      · refine lv_aload_n zx zb dX10_forget_35 rfl (lv_at hl 0 rfl) ?_
        refine r_get (C := RX10) (T := TX10) (N := 14) (ci := 8) (v := .ref nw) S in_X10_forget_X10 G 0 rfl rfl 0 (by decide) lk_X10_forget_10 rfl dX10_forget_36 ?_
        refine r_get (C := RX5) (T := TX5) (N := 8) (ci := 3) (v := .ref (an 11)) S in_X10_forget_X5 G 1 rfl rfl 6 (by decide) lk_X10_forget_212 rfl dX10_forget_39 ?_
        refine lv_goto (tgt := 52) zx zb dX10_forget_42 (by decide) ?_
        refine lv_astore_n (lv' := [(2, .ref (an 11)), (0, .ref h0), (1, .int x1)]) zx zb dX10_forget_52 rfl hl (by decide) rfl (fun ls hl => ?_)
        refine lv_aload_n zx zb dX10_forget_53 rfl (lv_at hl 0 rfl) ?_
        refine r_get (C := RX7) (T := TX7) (N := 5) (ci := 5) (v := .int (nI n3)) S in_X10_forget_X7 G 13 rfl rfl 4 (by decide) lk_X10_forget_194 rfl dX10_forget_54 ?_
        refine lv_istore_n (lv' := [(3, .int (nI n3)), (2, .ref (an 11)), (0, .ref h0), (1, .int x1)]) zx zb dX10_forget_57 rfl hl (by decide) rfl (fun ls hl => ?_)
        refine lv_aload_n zx zb dX10_forget_58 rfl (lv_at hl 1 rfl) ?_
        refine lv_iconst (v := 0) zx zb dX10_forget_59 (by decide) ?_
        refine r_put (C := RX7) (T := TX7) (N := 5) (ci := 5) (v := .int 0) S in_X10_forget_X7 tyX7_ok nmX7 G 13 rfl rfl 4 (by decide) lk_X10_forget_194 rfl (vp_nar_int _) rfl (Nat.le_of_ble_eq_true rfl) dX10_forget_60 (fun H locs G => ?_)
        obtain ⟨n_6, hI_n_6, hE_n_6, G⟩ : ∃ n_6 : Nat, n_6 ≤ 6 ∧ n_6 = 0 ∧ wd X (va_A (@HAppend.hAppend va_W va_W va_W _ (xW h0 nw sp xa la lb) (@HAppend.hAppend va_W va_W va_W _ (rcV X nw an sv dv n0 n1 n2 n3 n4 g0 gs gn gm) ([((xa 5), .inl (X.2.1, 3, .inl fr))]))) sz) (va_A (@HAppend.hAppend va_W va_W va_W _ (xW h0 nw sp xa la lb) (@HAppend.hAppend va_W va_W va_W _ (rcV X nw an sv dv n0 n1 n2 n3 n4 g0 gs gn gm) ([((xa 5), .inl (X.2.1, 3, .inl fr))]))) sz) s (@HAppend.hAppend va_W va_W va_W _ (xW h0 nw sp xa la lb) (@HAppend.hAppend va_W va_W va_W _ (rcV X nw an sv dv n0 n1 n2 n_6 n4 g0 gs gn gm) ([((xa 5), .inl (X.2.1, 3, .inl fr))]))) H locs := ⟨0, by omega, rfl, G⟩
        refine lv_iload_n zx zb dX10_forget_63 rfl (lv_at hl 0 rfl) ?_
        have hzF : ((nI n3), (n2, n_6, n4)) = forF x1 n2 n3 n4 := by rw [forF_1 c_4, hE_n_6]
        exact e_int S zr zlk (vp_nar_int _) G (n2, n_6, n4, fr) [0, 1, 2, 3, 4, 5, 6, 7, 8, 9, 10, 11, 12, 13, 14, 15, 16, 17] rfl rfl (Or.inr rfl) (⟨hI_n2, hI_n_6, hI_n4, hzF⟩) dX10_forget_64
    · refine lv_aload_n zx zb dX10_forget_20 rfl (lv_at hl 0 rfl) ?_
      refine r_get (C := RX10) (T := TX10) (N := 14) (ci := 8) (v := .ref nw) S in_X10_forget_X10 G 0 rfl rfl 0 (by decide) lk_X10_forget_10 rfl dX10_forget_21 ?_
      refine r_get (C := RX5) (T := TX5) (N := 8) (ci := 3) (v := .ref (an 9)) S in_X10_forget_X5 G 1 rfl rfl 5 (by decide) lk_X10_forget_185 rfl dX10_forget_24 ?_
      refine lv_goto (tgt := 52) zx zb dX10_forget_27 (by decide) ?_
      refine lv_astore_n (lv' := [(2, .ref (an 9)), (0, .ref h0), (1, .int x1)]) zx zb dX10_forget_52 rfl hl (by decide) rfl (fun ls hl => ?_)
      refine lv_aload_n zx zb dX10_forget_53 rfl (lv_at hl 0 rfl) ?_
      refine r_get (C := RX7) (T := TX7) (N := 5) (ci := 5) (v := .int (nI n2)) S in_X10_forget_X7 G 11 rfl rfl 4 (by decide) lk_X10_forget_194 rfl dX10_forget_54 ?_
      refine lv_istore_n (lv' := [(3, .int (nI n2)), (2, .ref (an 9)), (0, .ref h0), (1, .int x1)]) zx zb dX10_forget_57 rfl hl (by decide) rfl (fun ls hl => ?_)
      refine lv_aload_n zx zb dX10_forget_58 rfl (lv_at hl 1 rfl) ?_
      refine lv_iconst (v := 0) zx zb dX10_forget_59 (by decide) ?_
      refine r_put (C := RX7) (T := TX7) (N := 5) (ci := 5) (v := .int 0) S in_X10_forget_X7 tyX7_ok nmX7 G 11 rfl rfl 4 (by decide) lk_X10_forget_194 rfl (vp_nar_int _) rfl (Nat.le_of_ble_eq_true rfl) dX10_forget_60 (fun H locs G => ?_)
      obtain ⟨n_7, hI_n_7, hE_n_7, G⟩ : ∃ n_7 : Nat, n_7 ≤ 5 ∧ n_7 = 0 ∧ wd X (va_A (@HAppend.hAppend va_W va_W va_W _ (xW h0 nw sp xa la lb) (@HAppend.hAppend va_W va_W va_W _ (rcV X nw an sv dv n0 n1 n2 n3 n4 g0 gs gn gm) ([((xa 5), .inl (X.2.1, 3, .inl fr))]))) sz) (va_A (@HAppend.hAppend va_W va_W va_W _ (xW h0 nw sp xa la lb) (@HAppend.hAppend va_W va_W va_W _ (rcV X nw an sv dv n0 n1 n2 n3 n4 g0 gs gn gm) ([((xa 5), .inl (X.2.1, 3, .inl fr))]))) sz) s (@HAppend.hAppend va_W va_W va_W _ (xW h0 nw sp xa la lb) (@HAppend.hAppend va_W va_W va_W _ (rcV X nw an sv dv n0 n1 n_7 n3 n4 g0 gs gn gm) ([((xa 5), .inl (X.2.1, 3, .inl fr))]))) H locs := ⟨0, by omega, rfl, G⟩
      refine lv_iload_n zx zb dX10_forget_63 rfl (lv_at hl 0 rfl) ?_
      have hzF : ((nI n2), (n_7, n3, n4)) = forF x1 n2 n3 n4 := by rw [forF_0 c_3, hE_n_7]
      exact e_int S zr zlk (vp_nar_int _) G (n_7, n3, n4, fr) [0, 1, 2, 3, 4, 5, 6, 7, 8, 9, 10, 11, 12, 13, 14, 15, 16, 17] rfl rfl (Or.inr rfl) (⟨hI_n_7, hI_n3, hI_n4, hzF⟩) dX10_forget_64
  · refine lv_if_ne (tgt := 16) zx zb dX10_forget_6 (by decide) (fun c_8 => absurd (by decide) c_8) (fun c_8 => ?_)
    refine lv_aload_n zx zb dX10_forget_9 rfl (lv_at hl 0 rfl) ?_
    refine lv_bipush (v := (-2)) zx zb dX10_forget_10 (by decide) ?_
    refine b_wi (cells' := 0) (slots' := 0) (wr := rcV X nw an sv dv n0 n1 n2 n3 n4 g0 gs gn gm) G rfl rfl [0, 17] [1, 2, 3, 4, 5, 6, 7, 8, 9, 10, 11, 12, 13, 14, 15, 16] rfl rfl rfl rfl (n_V (As := [.int (-2)]) (rest := []) (C := RX10) (T := TX10) (N := 14) (ci := 8) S G (s_refuse l X h0 nw sp xa la lb fr (-2) H.size) gX10_forget_X10_refuse rfl rfl rfl hdV_X10_refuse ⟨Nat.le_of_ble_eq_true rfl, Nat.le_of_ble_eq_true rfl⟩ [0, 17] rfl rfl 0 rfl rfl rfl hl.1 (Nat.le_of_ble_eq_true rfl) dX10_forget_12 ⟨Nat.le_of_ble_eq_true rfl, Nat.le_of_ble_eq_true rfl⟩) (fun r_9 u_9 H locs hp_9 G => ?_)
    obtain ⟨f_9, rfl⟩ : ∃ z, z = u_9 := ⟨_, rfl⟩
    have hq_9 := hp_9
    have G : wd X (va_A (@HAppend.hAppend va_W va_W va_W _ (xW h0 nw sp xa la lb) (@HAppend.hAppend va_W va_W va_W _ (rcV X nw an sv dv n0 n1 n2 n3 n4 g0 gs gn gm) ([((xa 5), .inl (X.2.1, 3, .inl fr))]))) sz) (va_A (@HAppend.hAppend va_W va_W va_W _ (xW h0 nw sp xa la lb) (@HAppend.hAppend va_W va_W va_W _ (rcV X nw an sv dv n0 n1 n2 n3 n4 g0 gs gn gm) ([((xa 5), .inl (X.2.1, 3, .inl fr))]))) sz) s (@HAppend.hAppend va_W va_W va_W _ (rcV X nw an sv dv n0 n1 n2 n3 n4 g0 gs gn gm) (@HAppend.hAppend va_W va_W va_W _ (xW h0 nw sp xa la lb) ([((xa 5), .inl (X.2.1, 3, .inl f_9))]))) H locs := G
    have hzF : (r_9, (n2, n3, n4)) = forF x1 n2 n3 n4 := by rw [forF_n (fun h => hw_1 h), hq_9]
    exact e_int S zr zlk (vp_nar_int _) G (n2, n3, n4, f_9) [16, 0, 1, 2, 3, 4, 5, 6, 7, 8, 9, 10, 11, 12, 13, 14, 15, 17] rfl rfl (Or.inr rfl) (⟨hI_n2, hI_n3, hI_n4, hzF⟩) dX10_forget_15
theorem in_X10_is_X10 : ∀ w ∈ wsX100, w ∈ wsX10_is := by decide +kernel
theorem lk_X10_is_10 : Cond.fieldLink RX10 10 "EggSpoons" "now" "LEggSpoons$Race;" ∈ wsX10_is := by decide +kernel
theorem hdV_X5_kindsThatFit : yX5_kindsThatFit.cls = RX5 ∧ yX5_kindsThatFit.cls ≠ "java/lang/invoke/MethodHandle" ∧ yX5_kindsThatFit.cls ≠ "java/lang/invoke/VarHandle" ∧ (parseMethodDescriptor yX5_kindsThatFit.desc).map (fun d => d.parameters.length) = some 1 := by decide +kernel
theorem in_X10_kinds_X10 : ∀ w ∈ wsX100, w ∈ wsX10_kinds := by decide +kernel
theorem lk_X10_kinds_10 : Cond.fieldLink RX10 10 "EggSpoons" "now" "LEggSpoons$Race;" ∈ wsX10_kinds := by decide +kernel
theorem hdV_X5_eggsThatFit : yX5_eggsThatFit.cls = RX5 ∧ yX5_eggsThatFit.cls ≠ "java/lang/invoke/MethodHandle" ∧ yX5_eggsThatFit.cls ≠ "java/lang/invoke/VarHandle" ∧ (parseMethodDescriptor yX5_eggsThatFit.desc).map (fun d => d.parameters.length) = some 1 := by decide +kernel
theorem in_X10_strong_X10 : ∀ w ∈ wsX100, w ∈ wsX10_strong := by decide +kernel
theorem lk_X10_strong_10 : Cond.fieldLink RX10 10 "EggSpoons" "now" "LEggSpoons$Race;" ∈ wsX10_strong := by decide +kernel
theorem hdV_X5_legsThatFit : yX5_legsThatFit.cls = RX5 ∧ yX5_legsThatFit.cls ≠ "java/lang/invoke/MethodHandle" ∧ yX5_legsThatFit.cls ≠ "java/lang/invoke/VarHandle" ∧ (parseMethodDescriptor yX5_legsThatFit.desc).map (fun d => d.parameters.length) = some 1 := by decide +kernel
theorem hdS_X10_hasBit : yX10_hasBit.cls ≠ "java/lang/invoke/MethodHandle" ∧ yX10_hasBit.cls ≠ "java/lang/invoke/VarHandle" ∧ (parseMethodDescriptor yX10_hasBit.desc).map (fun d => d.parameters.length) = some 2 := by decide +kernel
theorem hdS_J6_bitCount_0f7a4 : yJ6_bitCount_0f7a4.cls ≠ "java/lang/invoke/MethodHandle" ∧ yJ6_bitCount_0f7a4.cls ≠ "java/lang/invoke/VarHandle" ∧ (parseMethodDescriptor yJ6_bitCount_0f7a4.desc).map (fun d => d.parameters.length) = some 1 := by decide +kernel
theorem in_X10_part_X10 : ∀ w ∈ wsX100, w ∈ wsX10_part := by decide +kernel
theorem lk_X10_part_42 : Cond.fieldLink RX10 42 "EggSpoons" "below" "J" ∈ wsX10_part := by decide +kernel
theorem lk_X10_part_38 : Cond.fieldLink RX10 38 "EggSpoons" "above" "J" ∈ wsX10_part := by decide +kernel
set_option maxHeartbeats 4000000 in
set_option maxRecDepth 100000 in
/-- part -/
theorem s_part (l : Launch) (X : EX) (h0 : Nat) (nw : Nat) (sp : Nat) (xa : Nat → Nat) (la : Int64) (lb : Int64) (fr : Nat → Int32) (x1 : Int32) (sz : Nat) : Met l yX10_part wsX10_part ({ frames := 1, cells := 0, slots := 0, locals := 22 } : Room) (pE X [.ref h0, .int x1] (@HAppend.hAppend va_W va_W va_W _ (xW h0 nw sp xa la lb) ([((xa 5), .inl (X.2.1, 3, .inl fr))])) sz) (qL (fun (r : Int64) (u : (Nat → Int32)) => (True)) X (fun (u : (Nat → Int32)) => @HAppend.hAppend va_W va_W va_W _ (xW h0 nw sp xa la lb) ([((xa 5), .inl (X.2.1, 3, .inl u))])) (@HAppend.hAppend va_W va_W va_W _ (xW h0 nw sp xa la lb) ([((xa 5), .inl (X.2.1, 3, .inl fr))])) sz) 0 0 (va_A (@HAppend.hAppend va_W va_W va_W _ (xW h0 nw sp xa la lb) ([((xa 5), .inl (X.2.1, 3, .inl fr))])) sz) := by
  refine mk_met (B := (va_A (@HAppend.hAppend va_W va_W va_W _ (xW h0 nw sp xa la lb) ([((xa 5), .inl (X.2.1, 3, .inl fr))])) sz)) (A := (va_A (@HAppend.hAppend va_W va_W va_W _ (xW h0 nw sp xa la lb) ([((xa 5), .inl (X.2.1, 3, .inl fr))])) sz)) (cc := cX10_part) (maxL := 2) (ret := (some .long)) (by decide) rfl (Nat.le_of_ble_eq_true rfl) k_w k_a (fun p e s m below meth c S zr zlk znm zsz G ls hl => ?_)
  have S : CallFix p m c cX10_part 2 s _ wsX10_part RX10 := S
  have zx := S.1
  have zb := S.2.1
  have hl : lv_has ls 2 [(0, .ref h0), (1, .int x1)] := hl
  refine lv_iload_n zx zb dX10_part_0 rfl (lv_at hl 1 rfl) ?_
  refine lv_iconst (v := 0) zx zb dX10_part_1 (by decide) ?_
  refine lv_iconst (v := 1) zx zb dX10_part_2 (by decide) ?_
  refine o_ri (cells' := 0) (slots' := 0) G rfl rfl (n_S (As := [.int x1, .int 0, .int 1]) (rest := []) S G (s_within l X x1 0 1 s.heap.size) gX10_part_X10_within rfl rfl rfl hdS_X10_within ⟨Nat.le_of_ble_eq_true rfl, Nat.le_of_ble_eq_true rfl⟩ [] rfl rfl rfl hl.1 (Nat.le_of_ble_eq_true rfl) dX10_part_3 ⟨Nat.le_of_ble_eq_true rfl, Nat.le_of_ble_eq_true rfl⟩) (fun r_1 u_1 H locs hp_1 G => ?_)
  have G : wd X (va_A (@HAppend.hAppend va_W va_W va_W _ (xW h0 nw sp xa la lb) ([((xa 5), .inl (X.2.1, 3, .inl fr))])) sz) (va_A (@HAppend.hAppend va_W va_W va_W _ (xW h0 nw sp xa la lb) ([((xa 5), .inl (X.2.1, 3, .inl fr))])) sz) s (@HAppend.hAppend va_W va_W va_W _ (xW h0 nw sp xa la lb) ([((xa 5), .inl (X.2.1, 3, .inl fr))])) H locs := G
  rcases hp_1 with ⟨rfl, hw_1⟩ | ⟨rfl, hw_1⟩
  · refine lv_if_ne (tgt := 17) zx zb dX10_part_6 (by decide) (fun c_2 => ?_) (fun c_2 => absurd c_2 (by decide))
    refine lv_iload_n zx zb dX10_part_17 rfl (lv_at hl 1 rfl) ?_
    refine k_cutW (PP := fun Wx => ∀ (x_4 : Int64) (H : Heap) (locs : List Loc) (ls : Array Slot), wd X (va_A (@HAppend.hAppend va_W va_W va_W _ (xW h0 nw sp xa la lb) ([((xa 5), .inl (X.2.1, 3, .inl fr))])) sz) (va_A (@HAppend.hAppend va_W va_W va_W _ (xW h0 nw sp xa la lb) ([((xa 5), .inl (X.2.1, 3, .inl fr))])) sz) s (@HAppend.hAppend va_W va_W va_W _ (xW h0 nw sp xa la lb) ([((xa 5), .inl (X.2.1, 3, .inl fr))])) H locs → lv_has ls 2 [(0, .ref h0), (1, .int x1)] → Wx (F0 m 32 ls [.long x_4]) H locs) ?_ ?_
    · intro join_18
      refine lv_if_ne (tgt := 28) zx zb dX10_part_18 (by decide) (fun c_3 => ?_) (fun c_3 => ?_)
      · refine lv_aload_n zx zb dX10_part_28 rfl (lv_at hl 0 rfl) ?_
        refine r_get (C := RX10) (T := TX10) (N := 14) (ci := 8) (v := .long lb) S in_X10_part_X10 G 0 rfl rfl 7 (by decide) lk_X10_part_42 rfl dX10_part_29 ?_
        exact join_18 lb _ _ _  G hl
      · refine lv_aload_n zx zb dX10_part_21 rfl (lv_at hl 0 rfl) ?_
        refine r_get (C := RX10) (T := TX10) (N := 14) (ci := 8) (v := .long la) S in_X10_part_X10 G 0 rfl rfl 6 (by decide) lk_X10_part_38 rfl dX10_part_22 ?_
        refine lv_goto (tgt := 32) zx zb dX10_part_25 (by decide) ?_
        exact join_18 la _ _ _  G hl
    · intro x_4 H locs ls  G hl
      exact e_long S zr zlk G (fr) [0, 1] rfl rfl (Or.inr rfl) (trivial) dX10_part_32
  · refine lv_if_ne (tgt := 17) zx zb dX10_part_6 (by decide) (fun c_5 => absurd (by decide) c_5) (fun c_5 => ?_)
    refine lv_aload_n zx zb dX10_part_9 rfl (lv_at hl 0 rfl) ?_
    refine lv_bipush (v := (-2)) zx zb dX10_part_10 (by decide) ?_
    refine b_wi (cells' := 0) (slots' := 0) (wr := []) G rfl rfl [0, 1] [] rfl rfl rfl rfl (n_V (As := [.int (-2)]) (rest := []) (C := RX10) (T := TX10) (N := 14) (ci := 8) S G (s_refuse l X h0 nw sp xa la lb fr (-2) H.size) gX10_part_X10_refuse rfl rfl rfl hdV_X10_refuse ⟨Nat.le_of_ble_eq_true rfl, Nat.le_of_ble_eq_true rfl⟩ [0, 1] rfl rfl 0 rfl rfl rfl hl.1 (Nat.le_of_ble_eq_true rfl) dX10_part_12 ⟨Nat.le_of_ble_eq_true rfl, Nat.le_of_ble_eq_true rfl⟩) (fun r_6 u_6 H locs hp_6 G => ?_)
    obtain ⟨f_6, rfl⟩ : ∃ z, z = u_6 := ⟨_, rfl⟩
    have hq_6 := hp_6
    have G : wd X (va_A (@HAppend.hAppend va_W va_W va_W _ (xW h0 nw sp xa la lb) ([((xa 5), .inl (X.2.1, 3, .inl fr))])) sz) (va_A (@HAppend.hAppend va_W va_W va_W _ (xW h0 nw sp xa la lb) ([((xa 5), .inl (X.2.1, 3, .inl fr))])) sz) s (@HAppend.hAppend va_W va_W va_W _ (xW h0 nw sp xa la lb) ([((xa 5), .inl (X.2.1, 3, .inl f_6))])) H locs := G
    refine lv_i2l (v := (Int32.toInt64 r_6)) zx zb dX10_part_15 rfl ?_
    exact e_long S zr zlk G (f_6) [0, 1] rfl rfl (Or.inr rfl) (trivial) dX10_part_16
theorem in_X10_status_X10 : ∀ w ∈ wsX100, w ∈ wsX10_status := by decide +kernel
theorem lk_X10_status_34 : Cond.fieldLink RX10 34 "EggSpoons" "refused" "[I" ∈ wsX10_status := by decide +kernel
set_option maxHeartbeats 4000000 in
set_option maxRecDepth 100000 in
/-- status -/
theorem s_status (l : Launch) (X : EX) (h0 : Nat) (nw : Nat) (sp : Nat) (xa : Nat → Nat) (la : Int64) (lb : Int64) (fr : Nat → Int32) (x1 : Int32) (sz : Nat) : Met l yX10_status wsX10_status ({ frames := 1, cells := 0, slots := 0, locals := 22 } : Room) (pE X [.ref h0, .int x1] (@HAppend.hAppend va_W va_W va_W _ (xW h0 nw sp xa la lb) ([((xa 5), .inl (X.2.1, 3, .inl fr))])) sz) (qI (fun (r : Int32) (u : (Nat → Int32)) => (True)) X (fun (u : (Nat → Int32)) => @HAppend.hAppend va_W va_W va_W _ (xW h0 nw sp xa la lb) ([((xa 5), .inl (X.2.1, 3, .inl u))])) (@HAppend.hAppend va_W va_W va_W _ (xW h0 nw sp xa la lb) ([((xa 5), .inl (X.2.1, 3, .inl fr))])) sz) 0 0 (va_A (@HAppend.hAppend va_W va_W va_W _ (xW h0 nw sp xa la lb) ([((xa 5), .inl (X.2.1, 3, .inl fr))])) sz) := by
  refine mk_met (B := (va_A (@HAppend.hAppend va_W va_W va_W _ (xW h0 nw sp xa la lb) ([((xa 5), .inl (X.2.1, 3, .inl fr))])) sz)) (A := (va_A (@HAppend.hAppend va_W va_W va_W _ (xW h0 nw sp xa la lb) ([((xa 5), .inl (X.2.1, 3, .inl fr))])) sz)) (cc := cX10_status) (maxL := 2) (ret := (some .int)) (by decide) rfl (Nat.le_of_ble_eq_true rfl) k_w k_a (fun p e s m below meth c S zr zlk znm zsz G ls hl => ?_)
  have S : CallFix p m c cX10_status 2 s _ wsX10_status RX10 := S
  have zx := S.1
  have zb := S.2.1
  have hl : lv_has ls 2 [(0, .ref h0), (1, .int x1)] := hl
  refine lv_iload_n zx zb dX10_status_0 rfl (lv_at hl 1 rfl) ?_
  refine lv_iconst (v := 0) zx zb dX10_status_1 (by decide) ?_
  refine lv_iconst (v := 2) zx zb dX10_status_2 (by decide) ?_
  refine o_ri (cells' := 0) (slots' := 0) G rfl rfl (n_S (As := [.int x1, .int 0, .int 2]) (rest := []) S G (s_within l X x1 0 2 s.heap.size) gX10_status_X10_within rfl rfl rfl hdS_X10_within ⟨Nat.le_of_ble_eq_true rfl, Nat.le_of_ble_eq_true rfl⟩ [] rfl rfl rfl hl.1 (Nat.le_of_ble_eq_true rfl) dX10_status_3 ⟨Nat.le_of_ble_eq_true rfl, Nat.le_of_ble_eq_true rfl⟩) (fun r_1 u_1 H locs hp_1 G => ?_)
  have G : wd X (va_A (@HAppend.hAppend va_W va_W va_W _ (xW h0 nw sp xa la lb) ([((xa 5), .inl (X.2.1, 3, .inl fr))])) sz) (va_A (@HAppend.hAppend va_W va_W va_W _ (xW h0 nw sp xa la lb) ([((xa 5), .inl (X.2.1, 3, .inl fr))])) sz) s (@HAppend.hAppend va_W va_W va_W _ (xW h0 nw sp xa la lb) ([((xa 5), .inl (X.2.1, 3, .inl fr))])) H locs := G
  rcases hp_1 with ⟨rfl, hw_1⟩ | ⟨rfl, hw_1⟩
  · refine lv_if_ne (tgt := 18) zx zb dX10_status_6 (by decide) (fun c_2 => ?_) (fun c_2 => absurd c_2 (by decide))
    refine lv_aload_n zx zb dX10_status_18 rfl (lv_at hl 0 rfl) ?_
    refine r_get (C := RX10) (T := TX10) (N := 14) (ci := 8) (v := .ref (xa 5)) S in_X10_status_X10 G 0 rfl rfl 5 (by decide) lk_X10_status_34 rfl dX10_status_19 ?_
    refine lv_iload_n zx zb dX10_status_22 rfl (lv_at hl 1 rfl) ?_
    refine r_iald S G 1 rfl (k_in02 hw_1) rfl dX10_status_23 ?_
    refine k_itE (fun y_3 => ?_)
    exact e_int S zr zlk (vp_nar_int _) G (fr) [0, 1] rfl rfl (Or.inr rfl) (trivial) dX10_status_24
  · refine lv_if_ne (tgt := 18) zx zb dX10_status_6 (by decide) (fun c_4 => absurd (by decide) c_4) (fun c_4 => ?_)
    refine lv_aload_n zx zb dX10_status_9 rfl (lv_at hl 0 rfl) ?_
    refine lv_bipush (v := (-2)) zx zb dX10_status_10 (by decide) ?_
    refine b_wi (cells' := 0) (slots' := 0) (wr := []) G rfl rfl [0, 1] [] rfl rfl rfl rfl (n_V (As := [.int (-2)]) (rest := []) (C := RX10) (T := TX10) (N := 14) (ci := 8) S G (s_refuse l X h0 nw sp xa la lb fr (-2) H.size) gX10_status_X10_refuse rfl rfl rfl hdV_X10_refuse ⟨Nat.le_of_ble_eq_true rfl, Nat.le_of_ble_eq_true rfl⟩ [0, 1] rfl rfl 0 rfl rfl rfl hl.1 (Nat.le_of_ble_eq_true rfl) dX10_status_12 ⟨Nat.le_of_ble_eq_true rfl, Nat.le_of_ble_eq_true rfl⟩) (fun r_5 u_5 H locs hp_5 G => ?_)
    obtain ⟨f_5, rfl⟩ : ∃ z, z = u_5 := ⟨_, rfl⟩
    have hq_5 := hp_5
    have G : wd X (va_A (@HAppend.hAppend va_W va_W va_W _ (xW h0 nw sp xa la lb) ([((xa 5), .inl (X.2.1, 3, .inl fr))])) sz) (va_A (@HAppend.hAppend va_W va_W va_W _ (xW h0 nw sp xa la lb) ([((xa 5), .inl (X.2.1, 3, .inl fr))])) sz) s (@HAppend.hAppend va_W va_W va_W _ (xW h0 nw sp xa la lb) ([((xa 5), .inl (X.2.1, 3, .inl f_5))])) H locs := G
    refine lv_pop zx zb dX10_status_15 rfl ?_
    refine lv_iconst (v := (-1)) zx zb dX10_status_16 (by decide) ?_
    exact e_int S zr zlk (vp_nar_int _) G (f_5) [0, 1] rfl rfl (Or.inr rfl) (trivial) dX10_status_17
theorem in_X10_ticks_X10 : ∀ w ∈ wsX100, w ∈ wsX10_ticks := by decide +kernel
theorem lk_X10_ticks_10 : Cond.fieldLink RX10 10 "EggSpoons" "now" "LEggSpoons$Race;" ∈ wsX10_ticks := by decide +kernel
theorem in_X10_ticks_X5 : ∀ w ∈ wsX50, w ∈ wsX10_ticks := by decide +kernel
theorem lk_X10_ticks_110 : Cond.fieldLink RX10 110 "EggSpoons$Race" "tick" "I" ∈ wsX10_ticks := by decide +kernel
theorem hdV_X5_goOn : yX5_goOn.cls = RX5 ∧ yX5_goOn.cls ≠ "java/lang/invoke/MethodHandle" ∧ yX5_goOn.cls ≠ "java/lang/invoke/VarHandle" ∧ (parseMethodDescriptor yX5_goOn.desc).map (fun d => d.parameters.length) = some 0 := by decide +kernel
theorem hdV_X5_homes : yX5_homes.cls = RX5 ∧ yX5_homes.cls ≠ "java/lang/invoke/MethodHandle" ∧ yX5_homes.cls ≠ "java/lang/invoke/VarHandle" ∧ (parseMethodDescriptor yX5_homes.desc).map (fun d => d.parameters.length) = some 0 := by decide +kernel
set_option maxHeartbeats 4000000 in
set_option maxRecDepth 100000 in
/-- ticks -/
theorem s_ticks (l : Launch) (X : EX) (h0 : Nat) (nw : Nat) (sp : Nat) (xa : Nat → Nat) (la : Int64) (lb : Int64) (an : Nat → Nat) (sv : Nat → Int32) (dv : Nat → Int32) (n0 : Nat) (n1 : Nat) (n2 : Nat) (n3 : Nat) (n4 : Nat) (g0 : Nat → Int32) (gs : Nat → Int32) (gn : Nat → Int32) (gm : Nat → Int32) (fr : Nat → Int32) (x1 : Int32) (hI_n0 : n0 ≤ 6) (hI_n1 : n1 ≤ 8) (hI_n2 : n2 ≤ 5) (hI_n3 : n3 ≤ 6) (hI_n4 : n4 ≤ 6) (sz : Nat) : Met l yX10_ticks wsX10_ticks ({ frames := 3, cells := 0, slots := 0, locals := 105 } : Room) (pE X [.ref h0, .int x1] (@HAppend.hAppend va_W va_W va_W _ (xW h0 nw sp xa la lb) (@HAppend.hAppend va_W va_W va_W _ (rcV X nw an sv dv n0 n1 n2 n3 n4 g0 gs gn gm) ([((xa 5), .inl (X.2.1, 3, .inl fr))]))) sz) (qI (fun (r : Int32) (u : (Nat → Int32) × (Nat) × (Nat → Int32) × (Nat → Int32)) => u.2.1 ≤ 8 ∧ (True)) X (fun (u : (Nat → Int32) × (Nat) × (Nat → Int32) × (Nat → Int32)) => @HAppend.hAppend va_W va_W va_W _ (xW h0 nw sp xa la lb) (@HAppend.hAppend va_W va_W va_W _ (rcV X nw an sv u.1 n0 u.2.1 n2 n3 n4 u.2.2.1 gs gn gm) ([((xa 5), .inl (X.2.1, 3, .inl u.2.2.2))]))) (@HAppend.hAppend va_W va_W va_W _ (xW h0 nw sp xa la lb) (@HAppend.hAppend va_W va_W va_W _ (rcV X nw an sv dv n0 n1 n2 n3 n4 g0 gs gn gm) ([((xa 5), .inl (X.2.1, 3, .inl fr))]))) sz) 0 0 (va_A (@HAppend.hAppend va_W va_W va_W _ (xW h0 nw sp xa la lb) (@HAppend.hAppend va_W va_W va_W _ (rcV X nw an sv dv n0 n1 n2 n3 n4 g0 gs gn gm) ([((xa 5), .inl (X.2.1, 3, .inl fr))]))) sz) := by
  refine mk_met (B := (va_A (@HAppend.hAppend va_W va_W va_W _ (xW h0 nw sp xa la lb) (@HAppend.hAppend va_W va_W va_W _ (rcV X nw an sv dv n0 n1 n2 n3 n4 g0 gs gn gm) ([((xa 5), .inl (X.2.1, 3, .inl fr))]))) sz)) (A := (va_A (@HAppend.hAppend va_W va_W va_W _ (xW h0 nw sp xa la lb) (@HAppend.hAppend va_W va_W va_W _ (rcV X nw an sv dv n0 n1 n2 n3 n4 g0 gs gn gm) ([((xa 5), .inl (X.2.1, 3, .inl fr))]))) sz)) (cc := cX10_ticks) (maxL := 3) (ret := (some .int)) (by decide) rfl (Nat.le_of_ble_eq_true rfl) k_w k_a (fun p e s m below meth c S zr zlk znm zsz G ls hl => ?_)
  have S : CallFix p m c cX10_ticks 3 s _ wsX10_ticks RX10 := S
  have zx := S.1
  have zb := S.2.1
  have hl : lv_has ls 3 [(0, .ref h0), (1, .int x1)] := hl
  refine lv_iload_n zx zb dX10_ticks_0 rfl (lv_at hl 1 rfl) ?_
  refine lv_iconst (v := 1) zx zb dX10_ticks_1 (by decide) ?_
  refine lv_bipush (v := 60) zx zb dX10_ticks_2 (by decide) ?_
  refine o_ri (cells' := 0) (slots' := 0) G rfl rfl (n_S (As := [.int x1, .int 1, .int 60]) (rest := []) S G (s_within l X x1 1 60 s.heap.size) gX10_ticks_X10_within rfl rfl rfl hdS_X10_within ⟨Nat.le_of_ble_eq_true rfl, Nat.le_of_ble_eq_true rfl⟩ [] rfl rfl rfl hl.1 (Nat.le_of_ble_eq_true rfl) dX10_ticks_4 ⟨Nat.le_of_ble_eq_true rfl, Nat.le_of_ble_eq_true rfl⟩) (fun r_1 u_1 H locs hp_1 G => ?_)
  have G : wd X (va_A (@HAppend.hAppend va_W va_W va_W _ (xW h0 nw sp xa la lb) (@HAppend.hAppend va_W va_W va_W _ (rcV X nw an sv dv n0 n1 n2 n3 n4 g0 gs gn gm) ([((xa 5), .inl (X.2.1, 3, .inl fr))]))) sz) (va_A (@HAppend.hAppend va_W va_W va_W _ (xW h0 nw sp xa la lb) (@HAppend.hAppend va_W va_W va_W _ (rcV X nw an sv dv n0 n1 n2 n3 n4 g0 gs gn gm) ([((xa 5), .inl (X.2.1, 3, .inl fr))]))) sz) s (@HAppend.hAppend va_W va_W va_W _ (xW h0 nw sp xa la lb) (@HAppend.hAppend va_W va_W va_W _ (rcV X nw an sv dv n0 n1 n2 n3 n4 g0 gs gn gm) ([((xa 5), .inl (X.2.1, 3, .inl fr))]))) H locs := G
  rcases hp_1 with ⟨rfl, hw_1⟩ | ⟨rfl, hw_1⟩
  · refine lv_if_ne (tgt := 17) zx zb dX10_ticks_7 (by decide) (fun c_2 => ?_) (fun c_2 => absurd c_2 (by decide))
    refine lv_aload_n zx zb dX10_ticks_17 rfl (lv_at hl 0 rfl) ?_
    refine r_get (C := RX10) (T := TX10) (N := 14) (ci := 8) (v := .ref nw) S in_X10_ticks_X10 G 0 rfl rfl 0 (by decide) lk_X10_ticks_10 rfl dX10_ticks_18 ?_
    refine r_get (C := RX5) (T := TX5) (N := 8) (ci := 3) (v := .int (dv 1)) S in_X10_ticks_X5 G 1 rfl rfl 1 (by decide) lk_X10_ticks_110 rfl dX10_ticks_21 ?_
    refine lv_sipush (v := 9999) zx zb dX10_ticks_24 (by decide) ?_
    refine k_cutW (PP := fun Wx => ∀ (n1_4 : Nat) (g0_5 : Nat → Int32) (H : Heap) (locs : List Loc) (ls : Array Slot), n1_4 ≤ 8 → wd X (va_A (@HAppend.hAppend va_W va_W va_W _ (xW h0 nw sp xa la lb) (@HAppend.hAppend va_W va_W va_W _ (rcV X nw an sv dv n0 n1 n2 n3 n4 g0 gs gn gm) ([((xa 5), .inl (X.2.1, 3, .inl fr))]))) sz) (va_A (@HAppend.hAppend va_W va_W va_W _ (xW h0 nw sp xa la lb) (@HAppend.hAppend va_W va_W va_W _ (rcV X nw an sv dv n0 n1 n2 n3 n4 g0 gs gn gm) ([((xa 5), .inl (X.2.1, 3, .inl fr))]))) sz) s (@HAppend.hAppend va_W va_W va_W _ (xW h0 nw sp xa la lb) (@HAppend.hAppend va_W va_W va_W _ (rcV X nw an sv dv n0 n1_4 n2 n3 n4 g0_5 gs gn gm) ([((xa 5), .inl (X.2.1, 3, .inl fr))]))) H locs → lv_has ls 3 [(0, .ref h0), (1, .int x1)] → Wx (F0 m 37 ls []) H locs) ?_ ?_
    · intro join_27
      refine lv_icmp_ge (tgt := 37) zx zb dX10_ticks_27 (by decide) (fun c_3 => ?_) (fun c_3 => ?_)
      · exact join_27 n1 g0 _ _ _ hI_n1 G hl
      · refine lv_aload_n zx zb dX10_ticks_30 rfl (lv_at hl 0 rfl) ?_
        refine r_get (C := RX10) (T := TX10) (N := 14) (ci := 8) (v := .ref nw) S in_X10_ticks_X10 G 0 rfl rfl 0 (by decide) lk_X10_ticks_10 rfl dX10_ticks_31 ?_
        refine b_wv (cells' := 0) (slots' := 0) (wr := @HAppend.hAppend va_W va_W va_W _ (xW h0 nw sp xa la lb) ([((xa 5), .inl (X.2.1, 3, .inl fr))])) G rfl rfl [1, 2, 3, 4, 5, 6, 7, 8, 9, 10, 11, 12, 13, 14, 15, 16] [0, 17] rfl rfl rfl rfl (n_V (As := []) (rest := []) (C := RX5) (T := TX5) (N := 8) (ci := 3) S G (s_keep l X nw an sv dv n0 n1 n2 n3 n4 g0 gs gn gm hI_n0 hI_n1 hI_n2 hI_n3 hI_n4 H.size) gX10_ticks_X5_keep rfl rfl rfl hdV_X5_keep ⟨Nat.le_of_ble_eq_true rfl, Nat.le_of_ble_eq_true rfl⟩ [1, 2, 3, 4, 5, 6, 7, 8, 9, 10, 11, 12, 13, 14, 15, 16] rfl rfl 1 rfl rfl rfl hl.1 (Nat.le_of_ble_eq_true rfl) dX10_ticks_34 ⟨Nat.le_of_ble_eq_true rfl, Nat.le_of_ble_eq_true rfl⟩) (fun u_6 H locs hp_6 G => ?_)
        obtain ⟨n1_6a, g0_6b⟩ := u_6
        try dsimp only at hp_6
        obtain ⟨hI_n1_6a, hq_6⟩ := hp_6
        have G : wd X (va_A (@HAppend.hAppend va_W va_W va_W _ (xW h0 nw sp xa la lb) (@HAppend.hAppend va_W va_W va_W _ (rcV X nw an sv dv n0 n1 n2 n3 n4 g0 gs gn gm) ([((xa 5), .inl (X.2.1, 3, .inl fr))]))) sz) (va_A (@HAppend.hAppend va_W va_W va_W _ (xW h0 nw sp xa la lb) (@HAppend.hAppend va_W va_W va_W _ (rcV X nw an sv dv n0 n1 n2 n3 n4 g0 gs gn gm) ([((xa 5), .inl (X.2.1, 3, .inl fr))]))) sz) s (@HAppend.hAppend va_W va_W va_W _ (xW h0 nw sp xa la lb) (@HAppend.hAppend va_W va_W va_W _ ([((xa 5), .inl (X.2.1, 3, .inl fr))]) (rcV X nw an sv dv n0 n1_6a n2 n3 n4 g0_6b gs gn gm))) H locs := G
        have G : wd X (va_A (@HAppend.hAppend va_W va_W va_W _ (xW h0 nw sp xa la lb) (@HAppend.hAppend va_W va_W va_W _ (rcV X nw an sv dv n0 n1 n2 n3 n4 g0 gs gn gm) ([((xa 5), .inl (X.2.1, 3, .inl fr))]))) sz) (va_A (@HAppend.hAppend va_W va_W va_W _ (xW h0 nw sp xa la lb) (@HAppend.hAppend va_W va_W va_W _ (rcV X nw an sv dv n0 n1 n2 n3 n4 g0 gs gn gm) ([((xa 5), .inl (X.2.1, 3, .inl fr))]))) sz) s (@HAppend.hAppend va_W va_W va_W _ (xW h0 nw sp xa la lb) (@HAppend.hAppend va_W va_W va_W _ (rcV X nw an sv dv n0 n1_6a n2 n3 n4 g0_6b gs gn gm) ([((xa 5), .inl (X.2.1, 3, .inl fr))]))) H locs := wd_sub G [0, 2, 3, 4, 5, 6, 7, 8, 9, 10, 11, 12, 13, 14, 15, 16, 17, 1] rfl rfl
        exact join_27 n1_6a g0_6b _ _ _ hI_n1_6a G hl
    · intro n1_4 g0_5 H locs ls hI_n1_4 G hl
      refine lv_iconst (v := 0) zx zb dX10_ticks_37 (by decide) ?_
      refine lv_istore_n (lv' := [(2, .int 0), (0, .ref h0), (1, .int x1)]) zx zb dX10_ticks_38 rfl hl (by decide) rfl (fun ls hl => ?_)
      refine k_loop (P := ∀ (zm : Nat) (k39 : Nat) (dv39_1 : Nat → Int32) (H : Heap) (locs : List Loc) (ls : Array Slot), 61 + 1 ≤ k39 + zm → (k39 ≤ 61) → wd X (va_A (@HAppend.hAppend va_W va_W va_W _ (xW h0 nw sp xa la lb) (@HAppend.hAppend va_W va_W va_W _ (rcV X nw an sv dv n0 n1 n2 n3 n4 g0 gs gn gm) ([((xa 5), .inl (X.2.1, 3, .inl fr))]))) sz) (va_A (@HAppend.hAppend va_W va_W va_W _ (xW h0 nw sp xa la lb) (@HAppend.hAppend va_W va_W va_W _ (rcV X nw an sv dv n0 n1 n2 n3 n4 g0 gs gn gm) ([((xa 5), .inl (X.2.1, 3, .inl fr))]))) sz) s (@HAppend.hAppend va_W va_W va_W _ (xW h0 nw sp xa la lb) (@HAppend.hAppend va_W va_W va_W _ (rcV X nw an sv dv39_1 n0 n1_4 n2 n3 n4 g0_5 gs gn gm) ([((xa 5), .inl (X.2.1, 3, .inl fr))]))) H locs → lv_has ls 3 [(2, .int (nI k39)), (0, .ref h0), (1, .int x1)] → W p l e _ s m _ below meth c H locs _ _ _ (F0 m 39 ls [])) (fun loop => loop (61 + 1) 0 dv _ _ _ (by omega) (by omega) G hl) ?_
      intro zm
      induction zm with
      | zero => intro k39 dv39_1 H locs ls zz q_hk_k39 _ _; exact absurd zz (by omega)
      | succ zm ih39 =>
        intro k39 dv39_1 H locs ls zm_39 hk_k39 G hl
        refine lv_iload_n zx zb dX10_ticks_39 rfl (lv_at hl 0 rfl) ?_
        refine lv_iload_n zx zb dX10_ticks_40 rfl (lv_at hl 2 rfl) ?_
        refine k_cutW (PP := fun Wx => ∀ (H : Heap) (locs : List Loc) (ls : Array Slot), wd X (va_A (@HAppend.hAppend va_W va_W va_W _ (xW h0 nw sp xa la lb) (@HAppend.hAppend va_W va_W va_W _ (rcV X nw an sv dv n0 n1 n2 n3 n4 g0 gs gn gm) ([((xa 5), .inl (X.2.1, 3, .inl fr))]))) sz) (va_A (@HAppend.hAppend va_W va_W va_W _ (xW h0 nw sp xa la lb) (@HAppend.hAppend va_W va_W va_W _ (rcV X nw an sv dv n0 n1 n2 n3 n4 g0 gs gn gm) ([((xa 5), .inl (X.2.1, 3, .inl fr))]))) sz) s (@HAppend.hAppend va_W va_W va_W _ (xW h0 nw sp xa la lb) (@HAppend.hAppend va_W va_W va_W _ (rcV X nw an sv dv39_1 n0 n1_4 n2 n3 n4 g0_5 gs gn gm) ([((xa 5), .inl (X.2.1, 3, .inl fr))]))) H locs → lv_has ls 3 [(2, .int (nI k39)), (0, .ref h0), (1, .int x1)] → Wx (F0 m 70 ls []) H locs) ?_ ?_
        · intro join_41
          refine lv_icmp_ge (tgt := 70) zx zb dX10_ticks_41 (by decide) (fun c_7 => ?_) (fun c_7 => ?_)
          · exact join_41  _ _ _  G hl
          · have fk_c_7 := k_lt60 (Int32.not_le.mp c_7) hw_1.2 (by omega)
            refine lv_aload_n zx zb dX10_ticks_44 rfl (lv_at hl 1 rfl) ?_
            refine r_get (C := RX10) (T := TX10) (N := 14) (ci := 8) (v := .ref nw) S in_X10_ticks_X10 G 0 rfl rfl 0 (by decide) lk_X10_ticks_10 rfl dX10_ticks_45 ?_
            refine r_get (C := RX5) (T := TX5) (N := 8) (ci := 3) (v := .int (dv39_1 1)) S in_X10_ticks_X5 G 1 rfl rfl 1 (by decide) lk_X10_ticks_110 rfl dX10_ticks_48 ?_
            refine lv_sipush (v := 9999) zx zb dX10_ticks_51 (by decide) ?_
            refine lv_icmp_ge (tgt := 70) zx zb dX10_ticks_54 (by decide) (fun c_8 => ?_) (fun c_8 => ?_)
            · exact join_41  _ _ _  G hl
            · refine lv_aload_n zx zb dX10_ticks_57 rfl (lv_at hl 1 rfl) ?_
              refine r_get (C := RX10) (T := TX10) (N := 14) (ci := 8) (v := .ref nw) S in_X10_ticks_X10 G 0 rfl rfl 0 (by decide) lk_X10_ticks_10 rfl dX10_ticks_58 ?_
              refine b_wv (cells' := 0) (slots' := 0) (wr := @HAppend.hAppend va_W va_W va_W _ (xW h0 nw sp xa la lb) ([((xa 5), .inl (X.2.1, 3, .inl fr))])) G rfl rfl [1, 2, 3, 4, 5, 6, 7, 8, 9, 10, 11, 12, 13, 14, 15, 16] [0, 17] rfl rfl rfl rfl (n_V (As := []) (rest := []) (C := RX5) (T := TX5) (N := 8) (ci := 3) S G (s_goOn l X nw an sv dv39_1 n0 n1_4 n2 n3 n4 g0_5 gs gn gm hI_n0 hI_n1_4 hI_n2 hI_n3 hI_n4 H.size) gX10_ticks_X5_goOn rfl rfl rfl hdV_X5_goOn ⟨Nat.le_of_ble_eq_true rfl, Nat.le_of_ble_eq_true rfl⟩ [1, 2, 3, 4, 5, 6, 7, 8, 9, 10, 11, 12, 13, 14, 15, 16] rfl rfl 1 rfl rfl rfl hl.1 (Nat.le_of_ble_eq_true rfl) dX10_ticks_61 ⟨Nat.le_of_ble_eq_true rfl, Nat.le_of_ble_eq_true rfl⟩) (fun u_9 H locs hp_9 G => ?_)
              obtain ⟨dv_9, rfl⟩ : ∃ z, z = u_9 := ⟨_, rfl⟩
              have hq_9 := hp_9
              have G : wd X (va_A (@HAppend.hAppend va_W va_W va_W _ (xW h0 nw sp xa la lb) (@HAppend.hAppend va_W va_W va_W _ (rcV X nw an sv dv n0 n1 n2 n3 n4 g0 gs gn gm) ([((xa 5), .inl (X.2.1, 3, .inl fr))]))) sz) (va_A (@HAppend.hAppend va_W va_W va_W _ (xW h0 nw sp xa la lb) (@HAppend.hAppend va_W va_W va_W _ (rcV X nw an sv dv n0 n1 n2 n3 n4 g0 gs gn gm) ([((xa 5), .inl (X.2.1, 3, .inl fr))]))) sz) s (@HAppend.hAppend va_W va_W va_W _ (xW h0 nw sp xa la lb) (@HAppend.hAppend va_W va_W va_W _ ([((xa 5), .inl (X.2.1, 3, .inl fr))]) (rcV X nw an sv dv_9 n0 n1_4 n2 n3 n4 g0_5 gs gn gm))) H locs := G
              refine lv_iinc (v := (nI (k39 + 1))) (lv' := [(2, .int (nI (k39 + 1))), (0, .ref h0), (1, .int x1)]) zx zb dX10_ticks_64 hl (k := 0) rfl (nI_add k39 1) (by decide) rfl (fun ls hl => ?_)
              refine lv_goto (tgt := 39) zx zb dX10_ticks_67 (by decide) ?_
              have G : wd X (va_A (@HAppend.hAppend va_W va_W va_W _ (xW h0 nw sp xa la lb) (@HAppend.hAppend va_W va_W va_W _ (rcV X nw an sv dv n0 n1 n2 n3 n4 g0 gs gn gm) ([((xa 5), .inl (X.2.1, 3, .inl fr))]))) sz) (va_A (@HAppend.hAppend va_W va_W va_W _ (xW h0 nw sp xa la lb) (@HAppend.hAppend va_W va_W va_W _ (rcV X nw an sv dv n0 n1 n2 n3 n4 g0 gs gn gm) ([((xa 5), .inl (X.2.1, 3, .inl fr))]))) sz) s (@HAppend.hAppend va_W va_W va_W _ (xW h0 nw sp xa la lb) (@HAppend.hAppend va_W va_W va_W _ (rcV X nw an sv dv_9 n0 n1_4 n2 n3 n4 g0_5 gs gn gm) ([((xa 5), .inl (X.2.1, 3, .inl fr))]))) H locs := wd_sub G [0, 2, 3, 4, 5, 6, 7, 8, 9, 10, 11, 12, 13, 14, 15, 16, 17, 1] rfl rfl
              exact ih39 (k39 + 1) dv_9 _ _ _ (by omega) (by omega) G hl
        · intro  H locs ls  G hl
          refine lv_aload_n zx zb dX10_ticks_70 rfl (lv_at hl 1 rfl) ?_
          refine r_get (C := RX10) (T := TX10) (N := 14) (ci := 8) (v := .ref nw) S in_X10_ticks_X10 G 0 rfl rfl 0 (by decide) lk_X10_ticks_10 rfl dX10_ticks_71 ?_
          refine o_ri (cells' := 0) (slots' := 0) G rfl rfl (n_V (As := []) (rest := []) (C := RX5) (T := TX5) (N := 8) (ci := 3) S G (s_homes l X nw an sv dv39_1 n0 n1_4 n2 n3 n4 g0_5 gs gn gm hI_n0 hI_n1_4 hI_n2 hI_n3 hI_n4 H.size) gX10_ticks_X5_homes rfl rfl rfl hdV_X5_homes ⟨Nat.le_of_ble_eq_true rfl, Nat.le_of_ble_eq_true rfl⟩ [1, 2, 3, 4, 5, 6, 7, 8, 9, 10, 11, 12, 13, 14, 15, 16] rfl rfl 1 rfl rfl rfl hl.1 (Nat.le_of_ble_eq_true rfl) dX10_ticks_74 ⟨Nat.le_of_ble_eq_true rfl, Nat.le_of_ble_eq_true rfl⟩) (fun r_10 u_10 H locs hp_10 G => ?_)
          have G : wd X (va_A (@HAppend.hAppend va_W va_W va_W _ (xW h0 nw sp xa la lb) (@HAppend.hAppend va_W va_W va_W _ (rcV X nw an sv dv n0 n1 n2 n3 n4 g0 gs gn gm) ([((xa 5), .inl (X.2.1, 3, .inl fr))]))) sz) (va_A (@HAppend.hAppend va_W va_W va_W _ (xW h0 nw sp xa la lb) (@HAppend.hAppend va_W va_W va_W _ (rcV X nw an sv dv n0 n1 n2 n3 n4 g0 gs gn gm) ([((xa 5), .inl (X.2.1, 3, .inl fr))]))) sz) s (@HAppend.hAppend va_W va_W va_W _ (xW h0 nw sp xa la lb) (@HAppend.hAppend va_W va_W va_W _ (rcV X nw an sv dv39_1 n0 n1_4 n2 n3 n4 g0_5 gs gn gm) ([((xa 5), .inl (X.2.1, 3, .inl fr))]))) H locs := G
          exact e_int S zr zlk (vp_nar_int _) G (dv39_1, n1_4, g0_5, fr) [0, 1, 2, 3, 4, 5, 6, 7, 8, 9, 10, 11, 12, 13, 14, 15, 16, 17] rfl rfl (Or.inr rfl) (⟨hI_n1_4, trivial⟩) dX10_ticks_77
  · refine lv_if_ne (tgt := 17) zx zb dX10_ticks_7 (by decide) (fun c_11 => absurd (by decide) c_11) (fun c_11 => ?_)
    refine lv_aload_n zx zb dX10_ticks_10 rfl (lv_at hl 0 rfl) ?_
    refine lv_bipush (v := (-2)) zx zb dX10_ticks_11 (by decide) ?_
    refine b_wi (cells' := 0) (slots' := 0) (wr := rcV X nw an sv dv n0 n1 n2 n3 n4 g0 gs gn gm) G rfl rfl [0, 17] [1, 2, 3, 4, 5, 6, 7, 8, 9, 10, 11, 12, 13, 14, 15, 16] rfl rfl rfl rfl (n_V (As := [.int (-2)]) (rest := []) (C := RX10) (T := TX10) (N := 14) (ci := 8) S G (s_refuse l X h0 nw sp xa la lb fr (-2) H.size) gX10_ticks_X10_refuse rfl rfl rfl hdV_X10_refuse ⟨Nat.le_of_ble_eq_true rfl, Nat.le_of_ble_eq_true rfl⟩ [0, 17] rfl rfl 0 rfl rfl rfl hl.1 (Nat.le_of_ble_eq_true rfl) dX10_ticks_13 ⟨Nat.le_of_ble_eq_true rfl, Nat.le_of_ble_eq_true rfl⟩) (fun r_12 u_12 H locs hp_12 G => ?_)
    obtain ⟨f_12, rfl⟩ : ∃ z, z = u_12 := ⟨_, rfl⟩
    have hq_12 := hp_12
    have G : wd X (va_A (@HAppend.hAppend va_W va_W va_W _ (xW h0 nw sp xa la lb) (@HAppend.hAppend va_W va_W va_W _ (rcV X nw an sv dv n0 n1 n2 n3 n4 g0 gs gn gm) ([((xa 5), .inl (X.2.1, 3, .inl fr))]))) sz) (va_A (@HAppend.hAppend va_W va_W va_W _ (xW h0 nw sp xa la lb) (@HAppend.hAppend va_W va_W va_W _ (rcV X nw an sv dv n0 n1 n2 n3 n4 g0 gs gn gm) ([((xa 5), .inl (X.2.1, 3, .inl fr))]))) sz) s (@HAppend.hAppend va_W va_W va_W _ (rcV X nw an sv dv n0 n1 n2 n3 n4 g0 gs gn gm) (@HAppend.hAppend va_W va_W va_W _ (xW h0 nw sp xa la lb) ([((xa 5), .inl (X.2.1, 3, .inl f_12))]))) H locs := G
    exact e_int S zr zlk (vp_nar_int _) G (dv, n1, g0, f_12) [16, 0, 1, 2, 3, 4, 5, 6, 7, 8, 9, 10, 11, 12, 13, 14, 15, 17] rfl rfl (Or.inr rfl) (⟨hI_n1, trivial⟩) dX10_ticks_16
theorem in_X4_copyFrom_X4 : ∀ w ∈ wsX40, w ∈ wsX4_copyFrom := by decide +kernel
theorem lk_X4_copyFrom_15 : Cond.fieldLink RX4 15 "EggSpoons$Past" "size" "I" ∈ wsX4_copyFrom := by decide +kernel
theorem lk_X4_copyFrom_11 : Cond.fieldLink RX4 11 "EggSpoons$Past" "cells" "[I" ∈ wsX4_copyFrom := by decide +kernel
theorem mm_X4_copyFrom_ml19 : Cond.methodLink RX4 19 arraycopyName ∈ wsX4_copyFrom := by decide +kernel
theorem mm_X4_copyFrom_cn : Cond.native arraycopyName ∈ wsX4_copyFrom := by decide +kernel
theorem mm_X4_copyFrom_cs : Cond.static arraycopyName ∈ wsX4_copyFrom := by decide +kernel
theorem mm_X4_copyFrom_ci : Cond.initialized "java/lang/System" ∈ wsX4_copyFrom := by decide +kernel
set_option maxHeartbeats 4000000 in
set_option maxRecDepth 100000 in
/-- Past.copyFrom -/
theorem s_pcopy (l : Launch) (X : EX) (h0 : Nat) (c0 : Nat) (k0 : Nat) (f0 : Nat → Int32) (h1 : Nat) (c1 : Nat) (k1 : Nat) (f1 : Nat → Int32) (hI_k0 : k0 ≤ 8) (hI_k1 : k1 ≤ 8) (sz : Nat) : Met l yX4_copyFrom wsX4_copyFrom ({ frames := 1, cells := 0, slots := 0, locals := 60 } : Room) (pE X [.ref h0, .ref h1] (@HAppend.hAppend va_W va_W va_W _ ([(h0, .inr (2, [.ref c0, .int (nI k0)])), (c0, .inl (X.2.1, 248, .inl f0))]) ([(h1, .inr (2, [.ref c1, .int (nI k1)])), (c1, .inl (X.2.1, 248, .inl f1))])) sz) (qV (fun (u : (Nat) × (Nat → Int32)) => u.1 ≤ 8 ∧ (True)) X (fun (u : (Nat) × (Nat → Int32)) => @HAppend.hAppend va_W va_W va_W _ ([(h0, .inr (2, [.ref c0, .int (nI u.1)])), (c0, .inl (X.2.1, 248, .inl u.2))]) ([(h1, .inr (2, [.ref c1, .int (nI k1)])), (c1, .inl (X.2.1, 248, .inl f1))])) (@HAppend.hAppend va_W va_W va_W _ ([(h0, .inr (2, [.ref c0, .int (nI k0)])), (c0, .inl (X.2.1, 248, .inl f0))]) ([(h1, .inr (2, [.ref c1, .int (nI k1)])), (c1, .inl (X.2.1, 248, .inl f1))])) sz) 0 0 (va_A (@HAppend.hAppend va_W va_W va_W _ ([(h0, .inr (2, [.ref c0, .int (nI k0)])), (c0, .inl (X.2.1, 248, .inl f0))]) ([(h1, .inr (2, [.ref c1, .int (nI k1)])), (c1, .inl (X.2.1, 248, .inl f1))])) sz) := by
  refine mk_met (B := (va_A (@HAppend.hAppend va_W va_W va_W _ ([(h0, .inr (2, [.ref c0, .int (nI k0)])), (c0, .inl (X.2.1, 248, .inl f0))]) ([(h1, .inr (2, [.ref c1, .int (nI k1)])), (c1, .inl (X.2.1, 248, .inl f1))])) sz)) (A := (va_A (@HAppend.hAppend va_W va_W va_W _ ([(h0, .inr (2, [.ref c0, .int (nI k0)])), (c0, .inl (X.2.1, 248, .inl f0))]) ([(h1, .inr (2, [.ref c1, .int (nI k1)])), (c1, .inl (X.2.1, 248, .inl f1))])) sz)) (cc := cX4_copyFrom) (maxL := 2) (ret := none) (by decide) rfl (Nat.le_of_ble_eq_true rfl) k_w k_a (fun p e s m below meth c S zr zlk znm zsz G ls hl => ?_)
  have S : CallFix p m c cX4_copyFrom 2 s _ wsX4_copyFrom RX4 := S
  have zx := S.1
  have zb := S.2.1
  have hl : lv_has ls 2 [(0, .ref h0), (1, .ref h1)] := hl
  refine lv_aload_n zx zb dX4_copyFrom_0 rfl (lv_at hl 0 rfl) ?_
  refine lv_aload_n zx zb dX4_copyFrom_1 rfl (lv_at hl 1 rfl) ?_
  refine r_get (C := RX4) (T := TX4) (N := 2) (ci := 2) (v := .int (nI k1)) S in_X4_copyFrom_X4 G 2 rfl rfl 1 (by decide) lk_X4_copyFrom_15 rfl dX4_copyFrom_2 ?_
  refine r_put (C := RX4) (T := TX4) (N := 2) (ci := 2) (v := .int (nI k1)) S in_X4_copyFrom_X4 tyX4_ok nmX4 G 0 rfl rfl 1 (by decide) lk_X4_copyFrom_15 rfl (vp_nar_int _) rfl (Nat.le_of_ble_eq_true rfl) dX4_copyFrom_5 (fun H locs G => ?_)
  obtain ⟨n_1, hI_n_1, hE_n_1, G⟩ : ∃ n_1 : Nat, n_1 ≤ 8 ∧ n_1 = k1 ∧ wd X (va_A (@HAppend.hAppend va_W va_W va_W _ ([(h0, .inr (2, [.ref c0, .int (nI k0)])), (c0, .inl (X.2.1, 248, .inl f0))]) ([(h1, .inr (2, [.ref c1, .int (nI k1)])), (c1, .inl (X.2.1, 248, .inl f1))])) sz) (va_A (@HAppend.hAppend va_W va_W va_W _ ([(h0, .inr (2, [.ref c0, .int (nI k0)])), (c0, .inl (X.2.1, 248, .inl f0))]) ([(h1, .inr (2, [.ref c1, .int (nI k1)])), (c1, .inl (X.2.1, 248, .inl f1))])) sz) s (@HAppend.hAppend va_W va_W va_W _ ([(h0, .inr (2, [.ref c0, .int (nI n_1)])), (c0, .inl (X.2.1, 248, .inl f0))]) ([(h1, .inr (2, [.ref c1, .int (nI k1)])), (c1, .inl (X.2.1, 248, .inl f1))])) H locs := ⟨k1, by omega, rfl, G⟩
  refine lv_aload_n zx zb dX4_copyFrom_8 rfl (lv_at hl 1 rfl) ?_
  refine r_get (C := RX4) (T := TX4) (N := 2) (ci := 2) (v := .ref c1) S in_X4_copyFrom_X4 G 2 rfl rfl 0 (by decide) lk_X4_copyFrom_11 rfl dX4_copyFrom_9 ?_
  refine lv_iconst (v := 0) zx zb dX4_copyFrom_12 (by decide) ?_
  refine lv_aload_n zx zb dX4_copyFrom_13 rfl (lv_at hl 0 rfl) ?_
  refine r_get (C := RX4) (T := TX4) (N := 2) (ci := 2) (v := .ref c0) S in_X4_copyFrom_X4 G 0 rfl rfl 0 (by decide) lk_X4_copyFrom_11 rfl dX4_copyFrom_14 ?_
  refine lv_iconst (v := 0) zx zb dX4_copyFrom_17 (by decide) ?_
  refine lv_aload_n zx zb dX4_copyFrom_18 rfl (lv_at hl 1 rfl) ?_
  refine r_get (C := RX4) (T := TX4) (N := 2) (ci := 2) (v := .int (nI k1)) S in_X4_copyFrom_X4 G 2 rfl rfl 1 (by decide) lk_X4_copyFrom_15 rfl dX4_copyFrom_19 ?_
  refine lv_bipush (v := 31) zx zb dX4_copyFrom_22 (by decide) ?_
  refine r_imul (v := (nI (k1 * 31))) S (pk_mul k1 31) dX4_copyFrom_24 ?_
  refine r_copyN (sp := 0) (dp := 0) (n := (k1 * 31)) S hl.1 G mm_X4_copyFrom_ml19 mm_X4_copyFrom_cn mm_X4_copyFrom_cs mm_X4_copyFrom_ci 3 1 rfl rfl (by omega) (by omega) (by omega) (by omega) (by omega) (Nat.le_of_ble_eq_true rfl) (Nat.le_of_ble_eq_true rfl) dX4_copyFrom_25 (fun cw H locs G => ?_)
  obtain ⟨f_2, G⟩ : ∃ f_2 : Nat → Int32, wd X (va_A (@HAppend.hAppend va_W va_W va_W _ ([(h0, .inr (2, [.ref c0, .int (nI k0)])), (c0, .inl (X.2.1, 248, .inl f0))]) ([(h1, .inr (2, [.ref c1, .int (nI k1)])), (c1, .inl (X.2.1, 248, .inl f1))])) sz) (va_A (@HAppend.hAppend va_W va_W va_W _ ([(h0, .inr (2, [.ref c0, .int (nI k0)])), (c0, .inl (X.2.1, 248, .inl f0))]) ([(h1, .inr (2, [.ref c1, .int (nI k1)])), (c1, .inl (X.2.1, 248, .inl f1))])) sz) s (@HAppend.hAppend va_W va_W va_W _ ([(h0, .inr (2, [.ref c0, .int (nI n_1)])), (c0, .inl (X.2.1, 248, .inl f_2))]) ([(h1, .inr (2, [.ref c1, .int (nI k1)])), (c1, .inl (X.2.1, 248, .inl f1))])) H locs := ⟨_, G⟩
  exact e_void S zr zlk G (n_1, f_2) [0, 1, 2, 3] rfl rfl (Or.inr rfl) (⟨hI_n_1, trivial⟩) dX4_copyFrom_28
theorem in_X7_copyFrom_X7 : ∀ w ∈ wsX70, w ∈ wsX7_copyFrom := by decide +kernel
theorem lk_X7_copyFrom_7 : Cond.fieldLink RX7 7 "EggSpoons$Rows" "size" "I" ∈ wsX7_copyFrom := by decide +kernel
theorem lk_X7_copyFrom_23 : Cond.fieldLink RX7 23 "EggSpoons$Rows" "cells" "[I" ∈ wsX7_copyFrom := by decide +kernel
theorem mm_X7_copyFrom_ml27 : Cond.methodLink RX7 27 Lib.Math.min.name ∈ wsX7_copyFrom := by decide +kernel
theorem mm_X7_copyFrom_msmin : Cond.static Lib.Math.min.name ∈ wsX7_copyFrom := by decide +kernel
theorem mm_X7_copyFrom_mi : Cond.initialized "java/lang/Math" ∈ wsX7_copyFrom := by decide +kernel
theorem mm_X7_copyFrom_mcmin : Cond.code Lib.Math.min.name Lib.Math.min.code 2 (some .int) ∈ wsX7_copyFrom := by decide +kernel
theorem mm_X7_copyFrom_ml33 : Cond.methodLink RX7 33 arraycopyName ∈ wsX7_copyFrom := by decide +kernel
theorem mm_X7_copyFrom_cn : Cond.native arraycopyName ∈ wsX7_copyFrom := by decide +kernel
theorem mm_X7_copyFrom_cs : Cond.static arraycopyName ∈ wsX7_copyFrom := by decide +kernel
theorem mm_X7_copyFrom_ci : Cond.initialized "java/lang/System" ∈ wsX7_copyFrom := by decide +kernel
theorem in_X5_copyLine_X5 : ∀ w ∈ wsX50, w ∈ wsX5_copyLine := by decide +kernel
theorem lk_X5_copyLine_9 : Cond.fieldLink RX5 9 "EggSpoons$Race" "length" "I" ∈ wsX5_copyLine := by decide +kernel
theorem lk_X5_copyLine_15 : Cond.fieldLink RX5 15 "EggSpoons$Race" "tick" "I" ∈ wsX5_copyLine := by decide +kernel
theorem lk_X5_copyLine_18 : Cond.fieldLink RX5 18 "EggSpoons$Race" "runners" "I" ∈ wsX5_copyLine := by decide +kernel
theorem lk_X5_copyLine_23 : Cond.fieldLink RX5 23 "EggSpoons$Race" "row" "[LEggSpoons$Runner;" ∈ wsX5_copyLine := by decide +kernel
set_option maxHeartbeats 4000000 in
set_option maxRecDepth 100000 in
/-- copyLine -/
theorem s_copyLine (l : Launch) (X : EX) (h0 : Nat) (adp : Nat → Nat) (svp : Nat → Int32) (dvp : Nat → Int32) (n0p : Nat) (n1p : Nat) (n2p : Nat) (n3p : Nat) (n4p : Nat) (g0p : Nat → Int32) (gsp : Nat → Int32) (gnp : Nat → Int32) (gmp : Nat → Int32) (h1 : Nat) (adq : Nat → Nat) (svq : Nat → Int32) (dvq : Nat → Int32) (n0q : Nat) (n1q : Nat) (n2q : Nat) (n3q : Nat) (n4q : Nat) (g0q : Nat → Int32) (gsq : Nat → Int32) (gnq : Nat → Int32) (gmq : Nat → Int32) (hI_n0p : n0p ≤ 6) (hI_n1p : n1p ≤ 8) (hI_n2p : n2p ≤ 5) (hI_n3p : n3p ≤ 6) (hI_n4p : n4p ≤ 6) (hI_n0q : n0q ≤ 6) (hI_n1q : n1q ≤ 8) (hI_n2q : n2q ≤ 5) (hI_n3q : n3q ≤ 6) (hI_n4q : n4q ≤ 6) (sz : Nat) : Met l yX5_copyLine wsX5_copyLine ({ frames := 1, cells := 0, slots := 0, locals := 21 } : Room) (pE X [.ref h0, .ref h1] (@HAppend.hAppend va_W va_W va_W _ (rcV X h0 adp svp dvp n0p n1p n2p n3p n4p g0p gsp gnp gmp) (rcV X h1 adq svq dvq n0q n1q n2q n3q n4q g0q gsq gnq gmq)) sz) (qV (fun (u : (Nat → Int32) × (Nat → Int32) × (Nat)) => u.2.2 ≤ 6 ∧ (u.2.2 = n0q)) X (fun (u : (Nat → Int32) × (Nat → Int32) × (Nat)) => @HAppend.hAppend va_W va_W va_W _ (rcV X h0 adp u.1 u.2.1 u.2.2 n1p n2p n3p n4p g0p gsp gnp gmp) (rcV X h1 adq svq dvq n0q n1q n2q n3q n4q g0q gsq gnq gmq)) (@HAppend.hAppend va_W va_W va_W _ (rcV X h0 adp svp dvp n0p n1p n2p n3p n4p g0p gsp gnp gmp) (rcV X h1 adq svq dvq n0q n1q n2q n3q n4q g0q gsq gnq gmq)) sz) 0 0 (va_A (@HAppend.hAppend va_W va_W va_W _ (rcV X h0 adp svp dvp n0p n1p n2p n3p n4p g0p gsp gnp gmp) (rcV X h1 adq svq dvq n0q n1q n2q n3q n4q g0q gsq gnq gmq)) sz) := by
  refine mk_met (B := (va_A (@HAppend.hAppend va_W va_W va_W _ (rcV X h0 adp svp dvp n0p n1p n2p n3p n4p g0p gsp gnp gmp) (rcV X h1 adq svq dvq n0q n1q n2q n3q n4q g0q gsq gnq gmq)) sz)) (A := (va_A (@HAppend.hAppend va_W va_W va_W _ (rcV X h0 adp svp dvp n0p n1p n2p n3p n4p g0p gsp gnp gmp) (rcV X h1 adq svq dvq n0q n1q n2q n3q n4q g0q gsq gnq gmq)) sz)) (cc := cX5_copyLine) (maxL := 3) (ret := none) (by decide) rfl (Nat.le_of_ble_eq_true rfl) k_w k_a (fun p e s m below meth c S zr zlk znm zsz G ls hl => ?_)
  have S : CallFix p m c cX5_copyLine 3 s _ wsX5_copyLine RX5 := S
  have zx := S.1
  have zb := S.2.1
  have hl : lv_has ls 3 [(0, .ref h0), (1, .ref h1)] := hl
  refine lv_aload_n zx zb dX5_copyLine_0 rfl (lv_at hl 0 rfl) ?_
  refine lv_aload_n zx zb dX5_copyLine_1 rfl (lv_at hl 1 rfl) ?_
  refine r_get (C := RX5) (T := TX5) (N := 8) (ci := 3) (v := .int (dvq 0)) S in_X5_copyLine_X5 G 16 rfl rfl 0 (by decide) lk_X5_copyLine_9 rfl dX5_copyLine_2 ?_
  refine r_put (C := RX5) (T := TX5) (N := 8) (ci := 3) (v := .int (dvq 0)) S in_X5_copyLine_X5 tyX5_ok nmX5 G 0 rfl rfl 0 (by decide) lk_X5_copyLine_9 rfl (vp_nar_int _) rfl (Nat.le_of_ble_eq_true rfl) dX5_copyLine_5 (fun H locs G => ?_)
  obtain ⟨dv_1, G⟩ : ∃ dv_1 : Nat → Int32, wd X (va_A (@HAppend.hAppend va_W va_W va_W _ (rcV X h0 adp svp dvp n0p n1p n2p n3p n4p g0p gsp gnp gmp) (rcV X h1 adq svq dvq n0q n1q n2q n3q n4q g0q gsq gnq gmq)) sz) (va_A (@HAppend.hAppend va_W va_W va_W _ (rcV X h0 adp svp dvp n0p n1p n2p n3p n4p g0p gsp gnp gmp) (rcV X h1 adq svq dvq n0q n1q n2q n3q n4q g0q gsq gnq gmq)) sz) s (@HAppend.hAppend va_W va_W va_W _ (rcV X h0 adp svp dv_1 n0p n1p n2p n3p n4p g0p gsp gnp gmp) (rcV X h1 adq svq dvq n0q n1q n2q n3q n4q g0q gsq gnq gmq)) H locs := ⟨upd dvp 0 (dvq 0), G⟩
  refine lv_aload_n zx zb dX5_copyLine_8 rfl (lv_at hl 0 rfl) ?_
  refine lv_aload_n zx zb dX5_copyLine_9 rfl (lv_at hl 1 rfl) ?_
  refine r_get (C := RX5) (T := TX5) (N := 8) (ci := 3) (v := .int (dvq 1)) S in_X5_copyLine_X5 G 16 rfl rfl 1 (by decide) lk_X5_copyLine_15 rfl dX5_copyLine_10 ?_
  refine r_put (C := RX5) (T := TX5) (N := 8) (ci := 3) (v := .int (dvq 1)) S in_X5_copyLine_X5 tyX5_ok nmX5 G 0 rfl rfl 1 (by decide) lk_X5_copyLine_15 rfl (vp_nar_int _) rfl (Nat.le_of_ble_eq_true rfl) dX5_copyLine_13 (fun H locs G => ?_)
  obtain ⟨dv_2, G⟩ : ∃ dv_2 : Nat → Int32, wd X (va_A (@HAppend.hAppend va_W va_W va_W _ (rcV X h0 adp svp dvp n0p n1p n2p n3p n4p g0p gsp gnp gmp) (rcV X h1 adq svq dvq n0q n1q n2q n3q n4q g0q gsq gnq gmq)) sz) (va_A (@HAppend.hAppend va_W va_W va_W _ (rcV X h0 adp svp dvp n0p n1p n2p n3p n4p g0p gsp gnp gmp) (rcV X h1 adq svq dvq n0q n1q n2q n3q n4q g0q gsq gnq gmq)) sz) s (@HAppend.hAppend va_W va_W va_W _ (rcV X h0 adp svp dv_2 n0p n1p n2p n3p n4p g0p gsp gnp gmp) (rcV X h1 adq svq dvq n0q n1q n2q n3q n4q g0q gsq gnq gmq)) H locs := ⟨upd dv_1 1 (dvq 1), G⟩
  refine lv_aload_n zx zb dX5_copyLine_16 rfl (lv_at hl 0 rfl) ?_
  refine lv_aload_n zx zb dX5_copyLine_17 rfl (lv_at hl 1 rfl) ?_
  refine r_get (C := RX5) (T := TX5) (N := 8) (ci := 3) (v := .int (nI n0q)) S in_X5_copyLine_X5 G 16 rfl rfl 2 (by decide) lk_X5_copyLine_18 rfl dX5_copyLine_18 ?_
  refine r_put (C := RX5) (T := TX5) (N := 8) (ci := 3) (v := .int (nI n0q)) S in_X5_copyLine_X5 tyX5_ok nmX5 G 0 rfl rfl 2 (by decide) lk_X5_copyLine_18 rfl (vp_nar_int _) rfl (Nat.le_of_ble_eq_true rfl) dX5_copyLine_21 (fun H locs G => ?_)
  obtain ⟨n_3, hI_n_3, hE_n_3, G⟩ : ∃ n_3 : Nat, n_3 ≤ 6 ∧ n_3 = n0q ∧ wd X (va_A (@HAppend.hAppend va_W va_W va_W _ (rcV X h0 adp svp dvp n0p n1p n2p n3p n4p g0p gsp gnp gmp) (rcV X h1 adq svq dvq n0q n1q n2q n3q n4q g0q gsq gnq gmq)) sz) (va_A (@HAppend.hAppend va_W va_W va_W _ (rcV X h0 adp svp dvp n0p n1p n2p n3p n4p g0p gsp gnp gmp) (rcV X h1 adq svq dvq n0q n1q n2q n3q n4q g0q gsq gnq gmq)) sz) s (@HAppend.hAppend va_W va_W va_W _ (rcV X h0 adp svp dv_2 n_3 n1p n2p n3p n4p g0p gsp gnp gmp) (rcV X h1 adq svq dvq n0q n1q n2q n3q n4q g0q gsq gnq gmq)) H locs := ⟨n0q, by omega, rfl, G⟩
  refine lv_iconst (v := 0) zx zb dX5_copyLine_24 (by decide) ?_
  refine lv_istore_n (lv' := [(2, .int 0), (0, .ref h0), (1, .ref h1)]) zx zb dX5_copyLine_25 rfl hl (by decide) rfl (fun ls hl => ?_)
  refine k_loop (P := ∀ (zm : Nat) (k26 : Nat) (sv26_0 : Nat → Int32) (dv26_0 : Nat → Int32) (H : Heap) (locs : List Loc) (ls : Array Slot), 6 + 1 ≤ k26 + zm → (k26 ≤ 6) → wd X (va_A (@HAppend.hAppend va_W va_W va_W _ (rcV X h0 adp svp dvp n0p n1p n2p n3p n4p g0p gsp gnp gmp) (rcV X h1 adq svq dvq n0q n1q n2q n3q n4q g0q gsq gnq gmq)) sz) (va_A (@HAppend.hAppend va_W va_W va_W _ (rcV X h0 adp svp dvp n0p n1p n2p n3p n4p g0p gsp gnp gmp) (rcV X h1 adq svq dvq n0q n1q n2q n3q n4q g0q gsq gnq gmq)) sz) s (@HAppend.hAppend va_W va_W va_W _ (rcV X h0 adp sv26_0 dv26_0 n_3 n1p n2p n3p n4p g0p gsp gnp gmp) (rcV X h1 adq svq dvq n0q n1q n2q n3q n4q g0q gsq gnq gmq)) H locs → lv_has ls 3 [(2, .int (nI k26)), (0, .ref h0), (1, .ref h1)] → W p l e _ s m _ below meth c H locs _ _ _ (F0 m 26 ls [])) (fun loop => loop (6 + 1) 0 svp dv_2 _ _ _ (by omega) (by omega) G hl) ?_
  intro zm
  induction zm with
  | zero => intro k26 sv26_0 dv26_0 H locs ls zz q_hk_k26 _ _; exact absurd zz (by omega)
  | succ zm ih26 =>
    intro k26 sv26_0 dv26_0 H locs ls zm_26 hk_k26 G hl
    refine lv_iload_n zx zb dX5_copyLine_26 rfl (lv_at hl 0 rfl) ?_
    refine lv_bipush (v := 6) zx zb dX5_copyLine_27 (by decide) ?_
    refine lv_icmp_ge (tgt := 53) zx zb dX5_copyLine_29 (by decide) (fun c_4 => ?_) (fun c_4 => ?_)
    · have fc_4 := j_le (a := 6) (b := k26) (by omega) (by omega) c_4
      exact e_void S zr zlk G (sv26_0, dv26_0, n_3) [0, 1, 2, 3, 4, 5, 6, 7, 8, 9, 10, 11, 12, 13, 14, 15, 16, 17, 18, 19, 20, 21, 22, 23, 24, 25, 26, 27, 28, 29, 30, 31] rfl rfl (Or.inr rfl) (⟨hI_n_3, by first | omega | (dsimp only; omega)⟩) dX5_copyLine_53
    · have fc_4 := j_nle (a := 6) (b := k26) (by omega) (by omega) c_4
      refine lv_aload_n zx zb dX5_copyLine_32 rfl (lv_at hl 1 rfl) ?_
      refine r_get (C := RX5) (T := TX5) (N := 8) (ci := 3) (v := .ref (adp 0)) S in_X5_copyLine_X5 G 0 rfl rfl 3 (by decide) lk_X5_copyLine_23 rfl dX5_copyLine_33 ?_
      refine lv_iload_n zx zb dX5_copyLine_36 rfl (lv_at hl 0 rfl) ?_
      rcases k_6c (show k26 < 6 by omega) with rfl | rfl | rfl | rfl | rfl | rfl
      · refine k_it (v := 0) rfl ?_
        refine r_aald (C := RX8) (b := (adp 1)) S G 1 3 rfl rfl (k_vp (by decide)) rfl dX5_copyLine_37 ?_
        refine lv_aload_n zx zb dX5_copyLine_38 rfl (lv_at hl 2 rfl) ?_
        refine r_get (C := RX5) (T := TX5) (N := 8) (ci := 3) (v := .ref (adq 0)) S in_X5_copyLine_X5 G 16 rfl rfl 3 (by decide) lk_X5_copyLine_23 rfl dX5_copyLine_39 ?_
        refine lv_iload_n zx zb dX5_copyLine_42 rfl (lv_at hl 0 rfl) ?_
        refine r_aald (C := RX8) (b := (adq 1)) S G 17 3 rfl rfl (k_vp (by decide)) rfl dX5_copyLine_43 ?_
        refine b_wv (cells' := 0) (slots' := 0) (wr := @HAppend.hAppend va_W va_W va_W _ ([(h0, .inr (3, [.int (dv26_0 0), .int (dv26_0 1), .int (nI n_3), .ref (adp 0), .ref (adp 7), .ref (adp 9), .ref (adp 11), .ref (adp 13)])), ((adp 0), .inl (X.2.2.2.2, 6, .inr (.inr (.inr (.inr (rowQ adp)))))), ((adp 2), .inr (6, [.int (sv26_0 3), .int (sv26_0 4), .int (sv26_0 5), .int (dv26_0 15), .int (dv26_0 16), .int (dv26_0 17), .int (dv26_0 18), .int (dv26_0 19)])), ((adp 3), .inr (6, [.int (sv26_0 6), .int (sv26_0 7), .int (sv26_0 8), .int (dv26_0 20), .int (dv26_0 21), .int (dv26_0 22), .int (dv26_0 23), .int (dv26_0 24)])), ((adp 4), .inr (6, [.int (sv26_0 9), .int (sv26_0 10), .int (sv26_0 11), .int (dv26_0 25), .int (dv26_0 26), .int (dv26_0 27), .int (dv26_0 28), .int (dv26_0 29)])), ((adp 5), .inr (6, [.int (sv26_0 12), .int (sv26_0 13), .int (sv26_0 14), .int (dv26_0 30), .int (dv26_0 31), .int (dv26_0 32), .int (dv26_0 33), .int (dv26_0 34)])), ((adp 6), .inr (6, [.int (sv26_0 15), .int (sv26_0 16), .int (sv26_0 17), .int (dv26_0 35), .int (dv26_0 36), .int (dv26_0 37), .int (dv26_0 38), .int (dv26_0 39)])), ((adp 7), .inr (2, [.ref (adp 8), .int (nI n1p)])), ((adp 8), .inl (X.2.1, 248, .inl g0p)), ((adp 9), .inr (5, [.int 5, .int 0, .int 1, .ref (adp 10), .int (nI n2p)])), ((adp 10), .inl (X.2.1, 25, .inl gsp)), ((adp 11), .inr (5, [.int 6, .int 1, .int 1, .ref (adp 12), .int (nI n3p)])), ((adp 12), .inl (X.2.1, 30, .inl gnp)), ((adp 13), .inr (5, [.int 6, .int 0, .int 0, .ref (adp 14), .int (nI n4p)])), ((adp 14), .inl (X.2.1, 30, .inl gmp))]) ([(h1, .inr (3, [.int (dvq 0), .int (dvq 1), .int (nI n0q), .ref (adq 0), .ref (adq 7), .ref (adq 9), .ref (adq 11), .ref (adq 13)])), ((adq 0), .inl (X.2.2.2.2, 6, .inr (.inr (.inr (.inr (rowQ adq)))))), ((adq 2), .inr (6, [.int (svq 3), .int (svq 4), .int (svq 5), .int (dvq 15), .int (dvq 16), .int (dvq 17), .int (dvq 18), .int (dvq 19)])), ((adq 3), .inr (6, [.int (svq 6), .int (svq 7), .int (svq 8), .int (dvq 20), .int (dvq 21), .int (dvq 22), .int (dvq 23), .int (dvq 24)])), ((adq 4), .inr (6, [.int (svq 9), .int (svq 10), .int (svq 11), .int (dvq 25), .int (dvq 26), .int (dvq 27), .int (dvq 28), .int (dvq 29)])), ((adq 5), .inr (6, [.int (svq 12), .int (svq 13), .int (svq 14), .int (dvq 30), .int (dvq 31), .int (dvq 32), .int (dvq 33), .int (dvq 34)])), ((adq 6), .inr (6, [.int (svq 15), .int (svq 16), .int (svq 17), .int (dvq 35), .int (dvq 36), .int (dvq 37), .int (dvq 38), .int (dvq 39)])), ((adq 7), .inr (2, [.ref (adq 8), .int (nI n1q)])), ((adq 8), .inl (X.2.1, 248, .inl g0q)), ((adq 9), .inr (5, [.int 5, .int 0, .int 1, .ref (adq 10), .int (nI n2q)])), ((adq 10), .inl (X.2.1, 25, .inl gsq)), ((adq 11), .inr (5, [.int 6, .int 1, .int 1, .ref (adq 12), .int (nI n3q)])), ((adq 12), .inl (X.2.1, 30, .inl gnq)), ((adq 13), .inr (5, [.int 6, .int 0, .int 0, .ref (adq 14), .int (nI n4q)])), ((adq 14), .inl (X.2.1, 30, .inl gmq))])) G rfl rfl [2, 18] [0, 1, 3, 4, 5, 6, 7, 8, 9, 10, 11, 12, 13, 14, 15, 16, 17, 19, 20, 21, 22, 23, 24, 25, 26, 27, 28, 29, 30, 31] rfl rfl rfl rfl (n_V (As := [.ref (adq 1)]) (rest := []) (C := RX8) (T := TX8) (N := 8) (ci := 6) S G (s_rcopy l X (adp 1) (fun k => sv26_0 (0 + k)) (fun k => dv26_0 (10 + k)) (adq 1) (fun k => svq (0 + k)) (fun k => dvq (10 + k)) H.size) gX5_copyLine_X8_copyFrom rfl rfl rfl hdV_X8_copyFrom ⟨Nat.le_of_ble_eq_true rfl, Nat.le_of_ble_eq_true rfl⟩ [2, 18] rfl rfl 2 rfl rfl rfl hl.1 (Nat.le_of_ble_eq_true rfl) dX5_copyLine_44 ⟨Nat.le_of_ble_eq_true rfl, Nat.le_of_ble_eq_true rfl⟩) (fun u_5 H locs hp_5 G => ?_)
        obtain ⟨a_5a, d_5b⟩ := u_5
        have hq_5 := hp_5
        obtain ⟨sv_6, dv_7, G⟩ : ∃ (sv_6 : Nat → Int32) (dv_7 : Nat → Int32), wd X (va_A (@HAppend.hAppend va_W va_W va_W _ (rcV X h0 adp svp dvp n0p n1p n2p n3p n4p g0p gsp gnp gmp) (rcV X h1 adq svq dvq n0q n1q n2q n3q n4q g0q gsq gnq gmq)) sz) (va_A (@HAppend.hAppend va_W va_W va_W _ (rcV X h0 adp svp dvp n0p n1p n2p n3p n4p g0p gsp gnp gmp) (rcV X h1 adq svq dvq n0q n1q n2q n3q n4q g0q gsq gnq gmq)) sz) s (@HAppend.hAppend va_W va_W va_W _ (rcV X h0 adp sv_6 dv_7 n_3 n1p n2p n3p n4p g0p gsp gnp gmp) (rcV X h1 adq svq dvq n0q n1q n2q n3q n4q g0q gsq gnq gmq)) H locs := ⟨(ovr sv26_0 0 3 a_5a), (ovr dv26_0 10 5 d_5b), wd_sub G [0, 1, 30, 2, 3, 4, 5, 6, 7, 8, 9, 10, 11, 12, 13, 14, 15, 16, 31, 17, 18, 19, 20, 21, 22, 23, 24, 25, 26, 27, 28, 29] rfl rfl⟩
        refine lv_iinc (v := 1) (lv' := [(2, .int 1), (0, .ref h0), (1, .ref h1)]) zx zb dX5_copyLine_47 hl (k := 0) rfl (by decide) (by decide) rfl (fun ls hl => ?_)
        refine lv_goto (tgt := 26) zx zb dX5_copyLine_50 (by decide) ?_
        exact ih26 1 sv_6 dv_7 _ _ _ (by omega) (by omega) G hl
      · refine k_it (v := 1) rfl ?_
        refine r_aald (C := RX8) (b := (adp 2)) S G 1 3 rfl rfl (k_vp (by decide)) rfl dX5_copyLine_37 ?_
        refine lv_aload_n zx zb dX5_copyLine_38 rfl (lv_at hl 2 rfl) ?_
        refine r_get (C := RX5) (T := TX5) (N := 8) (ci := 3) (v := .ref (adq 0)) S in_X5_copyLine_X5 G 16 rfl rfl 3 (by decide) lk_X5_copyLine_23 rfl dX5_copyLine_39 ?_
        refine lv_iload_n zx zb dX5_copyLine_42 rfl (lv_at hl 0 rfl) ?_
        refine r_aald (C := RX8) (b := (adq 2)) S G 17 3 rfl rfl (k_vp (by decide)) rfl dX5_copyLine_43 ?_
        refine b_wv (cells' := 0) (slots' := 0) (wr := @HAppend.hAppend va_W va_W va_W _ ([(h0, .inr (3, [.int (dv26_0 0), .int (dv26_0 1), .int (nI n_3), .ref (adp 0), .ref (adp 7), .ref (adp 9), .ref (adp 11), .ref (adp 13)])), ((adp 0), .inl (X.2.2.2.2, 6, .inr (.inr (.inr (.inr (rowQ adp)))))), ((adp 1), .inr (6, [.int (sv26_0 0), .int (sv26_0 1), .int (sv26_0 2), .int (dv26_0 10), .int (dv26_0 11), .int (dv26_0 12), .int (dv26_0 13), .int (dv26_0 14)])), ((adp 3), .inr (6, [.int (sv26_0 6), .int (sv26_0 7), .int (sv26_0 8), .int (dv26_0 20), .int (dv26_0 21), .int (dv26_0 22), .int (dv26_0 23), .int (dv26_0 24)])), ((adp 4), .inr (6, [.int (sv26_0 9), .int (sv26_0 10), .int (sv26_0 11), .int (dv26_0 25), .int (dv26_0 26), .int (dv26_0 27), .int (dv26_0 28), .int (dv26_0 29)])), ((adp 5), .inr (6, [.int (sv26_0 12), .int (sv26_0 13), .int (sv26_0 14), .int (dv26_0 30), .int (dv26_0 31), .int (dv26_0 32), .int (dv26_0 33), .int (dv26_0 34)])), ((adp 6), .inr (6, [.int (sv26_0 15), .int (sv26_0 16), .int (sv26_0 17), .int (dv26_0 35), .int (dv26_0 36), .int (dv26_0 37), .int (dv26_0 38), .int (dv26_0 39)])), ((adp 7), .inr (2, [.ref (adp 8), .int (nI n1p)])), ((adp 8), .inl (X.2.1, 248, .inl g0p)), ((adp 9), .inr (5, [.int 5, .int 0, .int 1, .ref (adp 10), .int (nI n2p)])), ((adp 10), .inl (X.2.1, 25, .inl gsp)), ((adp 11), .inr (5, [.int 6, .int 1, .int 1, .ref (adp 12), .int (nI n3p)])), ((adp 12), .inl (X.2.1, 30, .inl gnp)), ((adp 13), .inr (5, [.int 6, .int 0, .int 0, .ref (adp 14), .int (nI n4p)])), ((adp 14), .inl (X.2.1, 30, .inl gmp))]) ([(h1, .inr (3, [.int (dvq 0), .int (dvq 1), .int (nI n0q), .ref (adq 0), .ref (adq 7), .ref (adq 9), .ref (adq 11), .ref (adq 13)])), ((adq 0), .inl (X.2.2.2.2, 6, .inr (.inr (.inr (.inr (rowQ adq)))))), ((adq 1), .inr (6, [.int (svq 0), .int (svq 1), .int (svq 2), .int (dvq 10), .int (dvq 11), .int (dvq 12), .int (dvq 13), .int (dvq 14)])), ((adq 3), .inr (6, [.int (svq 6), .int (svq 7), .int (svq 8), .int (dvq 20), .int (dvq 21), .int (dvq 22), .int (dvq 23), .int (dvq 24)])), ((adq 4), .inr (6, [.int (svq 9), .int (svq 10), .int (svq 11), .int (dvq 25), .int (dvq 26), .int (dvq 27), .int (dvq 28), .int (dvq 29)])), ((adq 5), .inr (6, [.int (svq 12), .int (svq 13), .int (svq 14), .int (dvq 30), .int (dvq 31), .int (dvq 32), .int (dvq 33), .int (dvq 34)])), ((adq 6), .inr (6, [.int (svq 15), .int (svq 16), .int (svq 17), .int (dvq 35), .int (dvq 36), .int (dvq 37), .int (dvq 38), .int (dvq 39)])), ((adq 7), .inr (2, [.ref (adq 8), .int (nI n1q)])), ((adq 8), .inl (X.2.1, 248, .inl g0q)), ((adq 9), .inr (5, [.int 5, .int 0, .int 1, .ref (adq 10), .int (nI n2q)])), ((adq 10), .inl (X.2.1, 25, .inl gsq)), ((adq 11), .inr (5, [.int 6, .int 1, .int 1, .ref (adq 12), .int (nI n3q)])), ((adq 12), .inl (X.2.1, 30, .inl gnq)), ((adq 13), .inr (5, [.int 6, .int 0, .int 0, .ref (adq 14), .int (nI n4q)])), ((adq 14), .inl (X.2.1, 30, .inl gmq))])) G rfl rfl [3, 19] [0, 1, 2, 4, 5, 6, 7, 8, 9, 10, 11, 12, 13, 14, 15, 16, 17, 18, 20, 21, 22, 23, 24, 25, 26, 27, 28, 29, 30, 31] rfl rfl rfl rfl (n_V (As := [.ref (adq 2)]) (rest := []) (C := RX8) (T := TX8) (N := 8) (ci := 6) S G (s_rcopy l X (adp 2) (fun k => sv26_0 (3 + k)) (fun k => dv26_0 (15 + k)) (adq 2) (fun k => svq (3 + k)) (fun k => dvq (15 + k)) H.size) gX5_copyLine_X8_copyFrom rfl rfl rfl hdV_X8_copyFrom ⟨Nat.le_of_ble_eq_true rfl, Nat.le_of_ble_eq_true rfl⟩ [3, 19] rfl rfl 3 rfl rfl rfl hl.1 (Nat.le_of_ble_eq_true rfl) dX5_copyLine_44 ⟨Nat.le_of_ble_eq_true rfl, Nat.le_of_ble_eq_true rfl⟩) (fun u_8 H locs hp_8 G => ?_)
        obtain ⟨a_8a, d_8b⟩ := u_8
        have hq_8 := hp_8
        obtain ⟨sv_9, dv_10, G⟩ : ∃ (sv_9 : Nat → Int32) (dv_10 : Nat → Int32), wd X (va_A (@HAppend.hAppend va_W va_W va_W _ (rcV X h0 adp svp dvp n0p n1p n2p n3p n4p g0p gsp gnp gmp) (rcV X h1 adq svq dvq n0q n1q n2q n3q n4q g0q gsq gnq gmq)) sz) (va_A (@HAppend.hAppend va_W va_W va_W _ (rcV X h0 adp svp dvp n0p n1p n2p n3p n4p g0p gsp gnp gmp) (rcV X h1 adq svq dvq n0q n1q n2q n3q n4q g0q gsq gnq gmq)) sz) s (@HAppend.hAppend va_W va_W va_W _ (rcV X h0 adp sv_9 dv_10 n_3 n1p n2p n3p n4p g0p gsp gnp gmp) (rcV X h1 adq svq dvq n0q n1q n2q n3q n4q g0q gsq gnq gmq)) H locs := ⟨(ovr sv26_0 3 3 a_8a), (ovr dv26_0 15 5 d_8b), wd_sub G [0, 1, 2, 30, 3, 4, 5, 6, 7, 8, 9, 10, 11, 12, 13, 14, 15, 16, 17, 31, 18, 19, 20, 21, 22, 23, 24, 25, 26, 27, 28, 29] rfl rfl⟩
        refine lv_iinc (v := 2) (lv' := [(2, .int 2), (0, .ref h0), (1, .ref h1)]) zx zb dX5_copyLine_47 hl (k := 0) rfl (by decide) (by decide) rfl (fun ls hl => ?_)
        refine lv_goto (tgt := 26) zx zb dX5_copyLine_50 (by decide) ?_
        exact ih26 2 sv_9 dv_10 _ _ _ (by omega) (by omega) G hl
      · refine k_it (v := 2) rfl ?_
        refine r_aald (C := RX8) (b := (adp 3)) S G 1 3 rfl rfl (k_vp (by decide)) rfl dX5_copyLine_37 ?_
        refine lv_aload_n zx zb dX5_copyLine_38 rfl (lv_at hl 2 rfl) ?_
        refine r_get (C := RX5) (T := TX5) (N := 8) (ci := 3) (v := .ref (adq 0)) S in_X5_copyLine_X5 G 16 rfl rfl 3 (by decide) lk_X5_copyLine_23 rfl dX5_copyLine_39 ?_
        refine lv_iload_n zx zb dX5_copyLine_42 rfl (lv_at hl 0 rfl) ?_
        refine r_aald (C := RX8) (b := (adq 3)) S G 17 3 rfl rfl (k_vp (by decide)) rfl dX5_copyLine_43 ?_
        refine b_wv (cells' := 0) (slots' := 0) (wr := @HAppend.hAppend va_W va_W va_W _ ([(h0, .inr (3, [.int (dv26_0 0), .int (dv26_0 1), .int (nI n_3), .ref (adp 0), .ref (adp 7), .ref (adp 9), .ref (adp 11), .ref (adp 13)])), ((adp 0), .inl (X.2.2.2.2, 6, .inr (.inr (.inr (.inr (rowQ adp)))))), ((adp 1), .inr (6, [.int (sv26_0 0), .int (sv26_0 1), .int (sv26_0 2), .int (dv26_0 10), .int (dv26_0 11), .int (dv26_0 12), .int (dv26_0 13), .int (dv26_0 14)])), ((adp 2), .inr (6, [.int (sv26_0 3), .int (sv26_0 4), .int (sv26_0 5), .int (dv26_0 15), .int (dv26_0 16), .int (dv26_0 17), .int (dv26_0 18), .int (dv26_0 19)])), ((adp 4), .inr (6, [.int (sv26_0 9), .int (sv26_0 10), .int (sv26_0 11), .int (dv26_0 25), .int (dv26_0 26), .int (dv26_0 27), .int (dv26_0 28), .int (dv26_0 29)])), ((adp 5), .inr (6, [.int (sv26_0 12), .int (sv26_0 13), .int (sv26_0 14), .int (dv26_0 30), .int (dv26_0 31), .int (dv26_0 32), .int (dv26_0 33), .int (dv26_0 34)])), ((adp 6), .inr (6, [.int (sv26_0 15), .int (sv26_0 16), .int (sv26_0 17), .int (dv26_0 35), .int (dv26_0 36), .int (dv26_0 37), .int (dv26_0 38), .int (dv26_0 39)])), ((adp 7), .inr (2, [.ref (adp 8), .int (nI n1p)])), ((adp 8), .inl (X.2.1, 248, .inl g0p)), ((adp 9), .inr (5, [.int 5, .int 0, .int 1, .ref (adp 10), .int (nI n2p)])), ((adp 10), .inl (X.2.1, 25, .inl gsp)), ((adp 11), .inr (5, [.int 6, .int 1, .int 1, .ref (adp 12), .int (nI n3p)])), ((adp 12), .inl (X.2.1, 30, .inl gnp)), ((adp 13), .inr (5, [.int 6, .int 0, .int 0, .ref (adp 14), .int (nI n4p)])), ((adp 14), .inl (X.2.1, 30, .inl gmp))]) ([(h1, .inr (3, [.int (dvq 0), .int (dvq 1), .int (nI n0q), .ref (adq 0), .ref (adq 7), .ref (adq 9), .ref (adq 11), .ref (adq 13)])), ((adq 0), .inl (X.2.2.2.2, 6, .inr (.inr (.inr (.inr (rowQ adq)))))), ((adq 1), .inr (6, [.int (svq 0), .int (svq 1), .int (svq 2), .int (dvq 10), .int (dvq 11), .int (dvq 12), .int (dvq 13), .int (dvq 14)])), ((adq 2), .inr (6, [.int (svq 3), .int (svq 4), .int (svq 5), .int (dvq 15), .int (dvq 16), .int (dvq 17), .int (dvq 18), .int (dvq 19)])), ((adq 4), .inr (6, [.int (svq 9), .int (svq 10), .int (svq 11), .int (dvq 25), .int (dvq 26), .int (dvq 27), .int (dvq 28), .int (dvq 29)])), ((adq 5), .inr (6, [.int (svq 12), .int (svq 13), .int (svq 14), .int (dvq 30), .int (dvq 31), .int (dvq 32), .int (dvq 33), .int (dvq 34)])), ((adq 6), .inr (6, [.int (svq 15), .int (svq 16), .int (svq 17), .int (dvq 35), .int (dvq 36), .int (dvq 37), .int (dvq 38), .int (dvq 39)])), ((adq 7), .inr (2, [.ref (adq 8), .int (nI n1q)])), ((adq 8), .inl (X.2.1, 248, .inl g0q)), ((adq 9), .inr (5, [.int 5, .int 0, .int 1, .ref (adq 10), .int (nI n2q)])), ((adq 10), .inl (X.2.1, 25, .inl gsq)), ((adq 11), .inr (5, [.int 6, .int 1, .int 1, .ref (adq 12), .int (nI n3q)])), ((adq 12), .inl (X.2.1, 30, .inl gnq)), ((adq 13), .inr (5, [.int 6, .int 0, .int 0, .ref (adq 14), .int (nI n4q)])), ((adq 14), .inl (X.2.1, 30, .inl gmq))])) G rfl rfl [4, 20] [0, 1, 2, 3, 5, 6, 7, 8, 9, 10, 11, 12, 13, 14, 15, 16, 17, 18, 19, 21, 22, 23, 24, 25, 26, 27, 28, 29, 30, 31] rfl rfl rfl rfl (n_V (As := [.ref (adq 3)]) (rest := []) (C := RX8) (T := TX8) (N := 8) (ci := 6) S G (s_rcopy l X (adp 3) (fun k => sv26_0 (6 + k)) (fun k => dv26_0 (20 + k)) (adq 3) (fun k => svq (6 + k)) (fun k => dvq (20 + k)) H.size) gX5_copyLine_X8_copyFrom rfl rfl rfl hdV_X8_copyFrom ⟨Nat.le_of_ble_eq_true rfl, Nat.le_of_ble_eq_true rfl⟩ [4, 20] rfl rfl 4 rfl rfl rfl hl.1 (Nat.le_of_ble_eq_true rfl) dX5_copyLine_44 ⟨Nat.le_of_ble_eq_true rfl, Nat.le_of_ble_eq_true rfl⟩) (fun u_11 H locs hp_11 G => ?_)
        obtain ⟨a_11a, d_11b⟩ := u_11
        have hq_11 := hp_11
        obtain ⟨sv_12, dv_13, G⟩ : ∃ (sv_12 : Nat → Int32) (dv_13 : Nat → Int32), wd X (va_A (@HAppend.hAppend va_W va_W va_W _ (rcV X h0 adp svp dvp n0p n1p n2p n3p n4p g0p gsp gnp gmp) (rcV X h1 adq svq dvq n0q n1q n2q n3q n4q g0q gsq gnq gmq)) sz) (va_A (@HAppend.hAppend va_W va_W va_W _ (rcV X h0 adp svp dvp n0p n1p n2p n3p n4p g0p gsp gnp gmp) (rcV X h1 adq svq dvq n0q n1q n2q n3q n4q g0q gsq gnq gmq)) sz) s (@HAppend.hAppend va_W va_W va_W _ (rcV X h0 adp sv_12 dv_13 n_3 n1p n2p n3p n4p g0p gsp gnp gmp) (rcV X h1 adq svq dvq n0q n1q n2q n3q n4q g0q gsq gnq gmq)) H locs := ⟨(ovr sv26_0 6 3 a_11a), (ovr dv26_0 20 5 d_11b), wd_sub G [0, 1, 2, 3, 30, 4, 5, 6, 7, 8, 9, 10, 11, 12, 13, 14, 15, 16, 17, 18, 31, 19, 20, 21, 22, 23, 24, 25, 26, 27, 28, 29] rfl rfl⟩
        refine lv_iinc (v := 3) (lv' := [(2, .int 3), (0, .ref h0), (1, .ref h1)]) zx zb dX5_copyLine_47 hl (k := 0) rfl (by decide) (by decide) rfl (fun ls hl => ?_)
        refine lv_goto (tgt := 26) zx zb dX5_copyLine_50 (by decide) ?_
        exact ih26 3 sv_12 dv_13 _ _ _ (by omega) (by omega) G hl
      · refine k_it (v := 3) rfl ?_
        refine r_aald (C := RX8) (b := (adp 4)) S G 1 3 rfl rfl (k_vp (by decide)) rfl dX5_copyLine_37 ?_
        refine lv_aload_n zx zb dX5_copyLine_38 rfl (lv_at hl 2 rfl) ?_
        refine r_get (C := RX5) (T := TX5) (N := 8) (ci := 3) (v := .ref (adq 0)) S in_X5_copyLine_X5 G 16 rfl rfl 3 (by decide) lk_X5_copyLine_23 rfl dX5_copyLine_39 ?_
        refine lv_iload_n zx zb dX5_copyLine_42 rfl (lv_at hl 0 rfl) ?_
        refine r_aald (C := RX8) (b := (adq 4)) S G 17 3 rfl rfl (k_vp (by decide)) rfl dX5_copyLine_43 ?_
        refine b_wv (cells' := 0) (slots' := 0) (wr := @HAppend.hAppend va_W va_W va_W _ ([(h0, .inr (3, [.int (dv26_0 0), .int (dv26_0 1), .int (nI n_3), .ref (adp 0), .ref (adp 7), .ref (adp 9), .ref (adp 11), .ref (adp 13)])), ((adp 0), .inl (X.2.2.2.2, 6, .inr (.inr (.inr (.inr (rowQ adp)))))), ((adp 1), .inr (6, [.int (sv26_0 0), .int (sv26_0 1), .int (sv26_0 2), .int (dv26_0 10), .int (dv26_0 11), .int (dv26_0 12), .int (dv26_0 13), .int (dv26_0 14)])), ((adp 2), .inr (6, [.int (sv26_0 3), .int (sv26_0 4), .int (sv26_0 5), .int (dv26_0 15), .int (dv26_0 16), .int (dv26_0 17), .int (dv26_0 18), .int (dv26_0 19)])), ((adp 3), .inr (6, [.int (sv26_0 6), .int (sv26_0 7), .int (sv26_0 8), .int (dv26_0 20), .int (dv26_0 21), .int (dv26_0 22), .int (dv26_0 23), .int (dv26_0 24)])), ((adp 5), .inr (6, [.int (sv26_0 12), .int (sv26_0 13), .int (sv26_0 14), .int (dv26_0 30), .int (dv26_0 31), .int (dv26_0 32), .int (dv26_0 33), .int (dv26_0 34)])), ((adp 6), .inr (6, [.int (sv26_0 15), .int (sv26_0 16), .int (sv26_0 17), .int (dv26_0 35), .int (dv26_0 36), .int (dv26_0 37), .int (dv26_0 38), .int (dv26_0 39)])), ((adp 7), .inr (2, [.ref (adp 8), .int (nI n1p)])), ((adp 8), .inl (X.2.1, 248, .inl g0p)), ((adp 9), .inr (5, [.int 5, .int 0, .int 1, .ref (adp 10), .int (nI n2p)])), ((adp 10), .inl (X.2.1, 25, .inl gsp)), ((adp 11), .inr (5, [.int 6, .int 1, .int 1, .ref (adp 12), .int (nI n3p)])), ((adp 12), .inl (X.2.1, 30, .inl gnp)), ((adp 13), .inr (5, [.int 6, .int 0, .int 0, .ref (adp 14), .int (nI n4p)])), ((adp 14), .inl (X.2.1, 30, .inl gmp))]) ([(h1, .inr (3, [.int (dvq 0), .int (dvq 1), .int (nI n0q), .ref (adq 0), .ref (adq 7), .ref (adq 9), .ref (adq 11), .ref (adq 13)])), ((adq 0), .inl (X.2.2.2.2, 6, .inr (.inr (.inr (.inr (rowQ adq)))))), ((adq 1), .inr (6, [.int (svq 0), .int (svq 1), .int (svq 2), .int (dvq 10), .int (dvq 11), .int (dvq 12), .int (dvq 13), .int (dvq 14)])), ((adq 2), .inr (6, [.int (svq 3), .int (svq 4), .int (svq 5), .int (dvq 15), .int (dvq 16), .int (dvq 17), .int (dvq 18), .int (dvq 19)])), ((adq 3), .inr (6, [.int (svq 6), .int (svq 7), .int (svq 8), .int (dvq 20), .int (dvq 21), .int (dvq 22), .int (dvq 23), .int (dvq 24)])), ((adq 5), .inr (6, [.int (svq 12), .int (svq 13), .int (svq 14), .int (dvq 30), .int (dvq 31), .int (dvq 32), .int (dvq 33), .int (dvq 34)])), ((adq 6), .inr (6, [.int (svq 15), .int (svq 16), .int (svq 17), .int (dvq 35), .int (dvq 36), .int (dvq 37), .int (dvq 38), .int (dvq 39)])), ((adq 7), .inr (2, [.ref (adq 8), .int (nI n1q)])), ((adq 8), .inl (X.2.1, 248, .inl g0q)), ((adq 9), .inr (5, [.int 5, .int 0, .int 1, .ref (adq 10), .int (nI n2q)])), ((adq 10), .inl (X.2.1, 25, .inl gsq)), ((adq 11), .inr (5, [.int 6, .int 1, .int 1, .ref (adq 12), .int (nI n3q)])), ((adq 12), .inl (X.2.1, 30, .inl gnq)), ((adq 13), .inr (5, [.int 6, .int 0, .int 0, .ref (adq 14), .int (nI n4q)])), ((adq 14), .inl (X.2.1, 30, .inl gmq))])) G rfl rfl [5, 21] [0, 1, 2, 3, 4, 6, 7, 8, 9, 10, 11, 12, 13, 14, 15, 16, 17, 18, 19, 20, 22, 23, 24, 25, 26, 27, 28, 29, 30, 31] rfl rfl rfl rfl (n_V (As := [.ref (adq 4)]) (rest := []) (C := RX8) (T := TX8) (N := 8) (ci := 6) S G (s_rcopy l X (adp 4) (fun k => sv26_0 (9 + k)) (fun k => dv26_0 (25 + k)) (adq 4) (fun k => svq (9 + k)) (fun k => dvq (25 + k)) H.size) gX5_copyLine_X8_copyFrom rfl rfl rfl hdV_X8_copyFrom ⟨Nat.le_of_ble_eq_true rfl, Nat.le_of_ble_eq_true rfl⟩ [5, 21] rfl rfl 5 rfl rfl rfl hl.1 (Nat.le_of_ble_eq_true rfl) dX5_copyLine_44 ⟨Nat.le_of_ble_eq_true rfl, Nat.le_of_ble_eq_true rfl⟩) (fun u_14 H locs hp_14 G => ?_)
        obtain ⟨a_14a, d_14b⟩ := u_14
        have hq_14 := hp_14
        obtain ⟨sv_15, dv_16, G⟩ : ∃ (sv_15 : Nat → Int32) (dv_16 : Nat → Int32), wd X (va_A (@HAppend.hAppend va_W va_W va_W _ (rcV X h0 adp svp dvp n0p n1p n2p n3p n4p g0p gsp gnp gmp) (rcV X h1 adq svq dvq n0q n1q n2q n3q n4q g0q gsq gnq gmq)) sz) (va_A (@HAppend.hAppend va_W va_W va_W _ (rcV X h0 adp svp dvp n0p n1p n2p n3p n4p g0p gsp gnp gmp) (rcV X h1 adq svq dvq n0q n1q n2q n3q n4q g0q gsq gnq gmq)) sz) s (@HAppend.hAppend va_W va_W va_W _ (rcV X h0 adp sv_15 dv_16 n_3 n1p n2p n3p n4p g0p gsp gnp gmp) (rcV X h1 adq svq dvq n0q n1q n2q n3q n4q g0q gsq gnq gmq)) H locs := ⟨(ovr sv26_0 9 3 a_14a), (ovr dv26_0 25 5 d_14b), wd_sub G [0, 1, 2, 3, 4, 30, 5, 6, 7, 8, 9, 10, 11, 12, 13, 14, 15, 16, 17, 18, 19, 31, 20, 21, 22, 23, 24, 25, 26, 27, 28, 29] rfl rfl⟩
        refine lv_iinc (v := 4) (lv' := [(2, .int 4), (0, .ref h0), (1, .ref h1)]) zx zb dX5_copyLine_47 hl (k := 0) rfl (by decide) (by decide) rfl (fun ls hl => ?_)
        refine lv_goto (tgt := 26) zx zb dX5_copyLine_50 (by decide) ?_
        exact ih26 4 sv_15 dv_16 _ _ _ (by omega) (by omega) G hl
      · refine k_it (v := 4) rfl ?_
        refine r_aald (C := RX8) (b := (adp 5)) S G 1 3 rfl rfl (k_vp (by decide)) rfl dX5_copyLine_37 ?_
        refine lv_aload_n zx zb dX5_copyLine_38 rfl (lv_at hl 2 rfl) ?_
        refine r_get (C := RX5) (T := TX5) (N := 8) (ci := 3) (v := .ref (adq 0)) S in_X5_copyLine_X5 G 16 rfl rfl 3 (by decide) lk_X5_copyLine_23 rfl dX5_copyLine_39 ?_
        refine lv_iload_n zx zb dX5_copyLine_42 rfl (lv_at hl 0 rfl) ?_
        refine r_aald (C := RX8) (b := (adq 5)) S G 17 3 rfl rfl (k_vp (by decide)) rfl dX5_copyLine_43 ?_
        refine b_wv (cells' := 0) (slots' := 0) (wr := @HAppend.hAppend va_W va_W va_W _ ([(h0, .inr (3, [.int (dv26_0 0), .int (dv26_0 1), .int (nI n_3), .ref (adp 0), .ref (adp 7), .ref (adp 9), .ref (adp 11), .ref (adp 13)])), ((adp 0), .inl (X.2.2.2.2, 6, .inr (.inr (.inr (.inr (rowQ adp)))))), ((adp 1), .inr (6, [.int (sv26_0 0), .int (sv26_0 1), .int (sv26_0 2), .int (dv26_0 10), .int (dv26_0 11), .int (dv26_0 12), .int (dv26_0 13), .int (dv26_0 14)])), ((adp 2), .inr (6, [.int (sv26_0 3), .int (sv26_0 4), .int (sv26_0 5), .int (dv26_0 15), .int (dv26_0 16), .int (dv26_0 17), .int (dv26_0 18), .int (dv26_0 19)])), ((adp 3), .inr (6, [.int (sv26_0 6), .int (sv26_0 7), .int (sv26_0 8), .int (dv26_0 20), .int (dv26_0 21), .int (dv26_0 22), .int (dv26_0 23), .int (dv26_0 24)])), ((adp 4), .inr (6, [.int (sv26_0 9), .int (sv26_0 10), .int (sv26_0 11), .int (dv26_0 25), .int (dv26_0 26), .int (dv26_0 27), .int (dv26_0 28), .int (dv26_0 29)])), ((adp 6), .inr (6, [.int (sv26_0 15), .int (sv26_0 16), .int (sv26_0 17), .int (dv26_0 35), .int (dv26_0 36), .int (dv26_0 37), .int (dv26_0 38), .int (dv26_0 39)])), ((adp 7), .inr (2, [.ref (adp 8), .int (nI n1p)])), ((adp 8), .inl (X.2.1, 248, .inl g0p)), ((adp 9), .inr (5, [.int 5, .int 0, .int 1, .ref (adp 10), .int (nI n2p)])), ((adp 10), .inl (X.2.1, 25, .inl gsp)), ((adp 11), .inr (5, [.int 6, .int 1, .int 1, .ref (adp 12), .int (nI n3p)])), ((adp 12), .inl (X.2.1, 30, .inl gnp)), ((adp 13), .inr (5, [.int 6, .int 0, .int 0, .ref (adp 14), .int (nI n4p)])), ((adp 14), .inl (X.2.1, 30, .inl gmp))]) ([(h1, .inr (3, [.int (dvq 0), .int (dvq 1), .int (nI n0q), .ref (adq 0), .ref (adq 7), .ref (adq 9), .ref (adq 11), .ref (adq 13)])), ((adq 0), .inl (X.2.2.2.2, 6, .inr (.inr (.inr (.inr (rowQ adq)))))), ((adq 1), .inr (6, [.int (svq 0), .int (svq 1), .int (svq 2), .int (dvq 10), .int (dvq 11), .int (dvq 12), .int (dvq 13), .int (dvq 14)])), ((adq 2), .inr (6, [.int (svq 3), .int (svq 4), .int (svq 5), .int (dvq 15), .int (dvq 16), .int (dvq 17), .int (dvq 18), .int (dvq 19)])), ((adq 3), .inr (6, [.int (svq 6), .int (svq 7), .int (svq 8), .int (dvq 20), .int (dvq 21), .int (dvq 22), .int (dvq 23), .int (dvq 24)])), ((adq 4), .inr (6, [.int (svq 9), .int (svq 10), .int (svq 11), .int (dvq 25), .int (dvq 26), .int (dvq 27), .int (dvq 28), .int (dvq 29)])), ((adq 6), .inr (6, [.int (svq 15), .int (svq 16), .int (svq 17), .int (dvq 35), .int (dvq 36), .int (dvq 37), .int (dvq 38), .int (dvq 39)])), ((adq 7), .inr (2, [.ref (adq 8), .int (nI n1q)])), ((adq 8), .inl (X.2.1, 248, .inl g0q)), ((adq 9), .inr (5, [.int 5, .int 0, .int 1, .ref (adq 10), .int (nI n2q)])), ((adq 10), .inl (X.2.1, 25, .inl gsq)), ((adq 11), .inr (5, [.int 6, .int 1, .int 1, .ref (adq 12), .int (nI n3q)])), ((adq 12), .inl (X.2.1, 30, .inl gnq)), ((adq 13), .inr (5, [.int 6, .int 0, .int 0, .ref (adq 14), .int (nI n4q)])), ((adq 14), .inl (X.2.1, 30, .inl gmq))])) G rfl rfl [6, 22] [0, 1, 2, 3, 4, 5, 7, 8, 9, 10, 11, 12, 13, 14, 15, 16, 17, 18, 19, 20, 21, 23, 24, 25, 26, 27, 28, 29, 30, 31] rfl rfl rfl rfl (n_V (As := [.ref (adq 5)]) (rest := []) (C := RX8) (T := TX8) (N := 8) (ci := 6) S G (s_rcopy l X (adp 5) (fun k => sv26_0 (12 + k)) (fun k => dv26_0 (30 + k)) (adq 5) (fun k => svq (12 + k)) (fun k => dvq (30 + k)) H.size) gX5_copyLine_X8_copyFrom rfl rfl rfl hdV_X8_copyFrom ⟨Nat.le_of_ble_eq_true rfl, Nat.le_of_ble_eq_true rfl⟩ [6, 22] rfl rfl 6 rfl rfl rfl hl.1 (Nat.le_of_ble_eq_true rfl) dX5_copyLine_44 ⟨Nat.le_of_ble_eq_true rfl, Nat.le_of_ble_eq_true rfl⟩) (fun u_17 H locs hp_17 G => ?_)
        obtain ⟨a_17a, d_17b⟩ := u_17
        have hq_17 := hp_17
        obtain ⟨sv_18, dv_19, G⟩ : ∃ (sv_18 : Nat → Int32) (dv_19 : Nat → Int32), wd X (va_A (@HAppend.hAppend va_W va_W va_W _ (rcV X h0 adp svp dvp n0p n1p n2p n3p n4p g0p gsp gnp gmp) (rcV X h1 adq svq dvq n0q n1q n2q n3q n4q g0q gsq gnq gmq)) sz) (va_A (@HAppend.hAppend va_W va_W va_W _ (rcV X h0 adp svp dvp n0p n1p n2p n3p n4p g0p gsp gnp gmp) (rcV X h1 adq svq dvq n0q n1q n2q n3q n4q g0q gsq gnq gmq)) sz) s (@HAppend.hAppend va_W va_W va_W _ (rcV X h0 adp sv_18 dv_19 n_3 n1p n2p n3p n4p g0p gsp gnp gmp) (rcV X h1 adq svq dvq n0q n1q n2q n3q n4q g0q gsq gnq gmq)) H locs := ⟨(ovr sv26_0 12 3 a_17a), (ovr dv26_0 30 5 d_17b), wd_sub G [0, 1, 2, 3, 4, 5, 30, 6, 7, 8, 9, 10, 11, 12, 13, 14, 15, 16, 17, 18, 19, 20, 31, 21, 22, 23, 24, 25, 26, 27, 28, 29] rfl rfl⟩
        refine lv_iinc (v := 5) (lv' := [(2, .int 5), (0, .ref h0), (1, .ref h1)]) zx zb dX5_copyLine_47 hl (k := 0) rfl (by decide) (by decide) rfl (fun ls hl => ?_)
        refine lv_goto (tgt := 26) zx zb dX5_copyLine_50 (by decide) ?_
        exact ih26 5 sv_18 dv_19 _ _ _ (by omega) (by omega) G hl
      · refine k_it (v := 5) rfl ?_
        refine r_aald (C := RX8) (b := (adp 6)) S G 1 3 rfl rfl (k_vp (by decide)) rfl dX5_copyLine_37 ?_
        refine lv_aload_n zx zb dX5_copyLine_38 rfl (lv_at hl 2 rfl) ?_
        refine r_get (C := RX5) (T := TX5) (N := 8) (ci := 3) (v := .ref (adq 0)) S in_X5_copyLine_X5 G 16 rfl rfl 3 (by decide) lk_X5_copyLine_23 rfl dX5_copyLine_39 ?_
        refine lv_iload_n zx zb dX5_copyLine_42 rfl (lv_at hl 0 rfl) ?_
        refine r_aald (C := RX8) (b := (adq 6)) S G 17 3 rfl rfl (k_vp (by decide)) rfl dX5_copyLine_43 ?_
        refine b_wv (cells' := 0) (slots' := 0) (wr := @HAppend.hAppend va_W va_W va_W _ ([(h0, .inr (3, [.int (dv26_0 0), .int (dv26_0 1), .int (nI n_3), .ref (adp 0), .ref (adp 7), .ref (adp 9), .ref (adp 11), .ref (adp 13)])), ((adp 0), .inl (X.2.2.2.2, 6, .inr (.inr (.inr (.inr (rowQ adp)))))), ((adp 1), .inr (6, [.int (sv26_0 0), .int (sv26_0 1), .int (sv26_0 2), .int (dv26_0 10), .int (dv26_0 11), .int (dv26_0 12), .int (dv26_0 13), .int (dv26_0 14)])), ((adp 2), .inr (6, [.int (sv26_0 3), .int (sv26_0 4), .int (sv26_0 5), .int (dv26_0 15), .int (dv26_0 16), .int (dv26_0 17), .int (dv26_0 18), .int (dv26_0 19)])), ((adp 3), .inr (6, [.int (sv26_0 6), .int (sv26_0 7), .int (sv26_0 8), .int (dv26_0 20), .int (dv26_0 21), .int (dv26_0 22), .int (dv26_0 23), .int (dv26_0 24)])), ((adp 4), .inr (6, [.int (sv26_0 9), .int (sv26_0 10), .int (sv26_0 11), .int (dv26_0 25), .int (dv26_0 26), .int (dv26_0 27), .int (dv26_0 28), .int (dv26_0 29)])), ((adp 5), .inr (6, [.int (sv26_0 12), .int (sv26_0 13), .int (sv26_0 14), .int (dv26_0 30), .int (dv26_0 31), .int (dv26_0 32), .int (dv26_0 33), .int (dv26_0 34)])), ((adp 7), .inr (2, [.ref (adp 8), .int (nI n1p)])), ((adp 8), .inl (X.2.1, 248, .inl g0p)), ((adp 9), .inr (5, [.int 5, .int 0, .int 1, .ref (adp 10), .int (nI n2p)])), ((adp 10), .inl (X.2.1, 25, .inl gsp)), ((adp 11), .inr (5, [.int 6, .int 1, .int 1, .ref (adp 12), .int (nI n3p)])), ((adp 12), .inl (X.2.1, 30, .inl gnp)), ((adp 13), .inr (5, [.int 6, .int 0, .int 0, .ref (adp 14), .int (nI n4p)])), ((adp 14), .inl (X.2.1, 30, .inl gmp))]) ([(h1, .inr (3, [.int (dvq 0), .int (dvq 1), .int (nI n0q), .ref (adq 0), .ref (adq 7), .ref (adq 9), .ref (adq 11), .ref (adq 13)])), ((adq 0), .inl (X.2.2.2.2, 6, .inr (.inr (.inr (.inr (rowQ adq)))))), ((adq 1), .inr (6, [.int (svq 0), .int (svq 1), .int (svq 2), .int (dvq 10), .int (dvq 11), .int (dvq 12), .int (dvq 13), .int (dvq 14)])), ((adq 2), .inr (6, [.int (svq 3), .int (svq 4), .int (svq 5), .int (dvq 15), .int (dvq 16), .int (dvq 17), .int (dvq 18), .int (dvq 19)])), ((adq 3), .inr (6, [.int (svq 6), .int (svq 7), .int (svq 8), .int (dvq 20), .int (dvq 21), .int (dvq 22), .int (dvq 23), .int (dvq 24)])), ((adq 4), .inr (6, [.int (svq 9), .int (svq 10), .int (svq 11), .int (dvq 25), .int (dvq 26), .int (dvq 27), .int (dvq 28), .int (dvq 29)])), ((adq 5), .inr (6, [.int (svq 12), .int (svq 13), .int (svq 14), .int (dvq 30), .int (dvq 31), .int (dvq 32), .int (dvq 33), .int (dvq 34)])), ((adq 7), .inr (2, [.ref (adq 8), .int (nI n1q)])), ((adq 8), .inl (X.2.1, 248, .inl g0q)), ((adq 9), .inr (5, [.int 5, .int 0, .int 1, .ref (adq 10), .int (nI n2q)])), ((adq 10), .inl (X.2.1, 25, .inl gsq)), ((adq 11), .inr (5, [.int 6, .int 1, .int 1, .ref (adq 12), .int (nI n3q)])), ((adq 12), .inl (X.2.1, 30, .inl gnq)), ((adq 13), .inr (5, [.int 6, .int 0, .int 0, .ref (adq 14), .int (nI n4q)])), ((adq 14), .inl (X.2.1, 30, .inl gmq))])) G rfl rfl [7, 23] [0, 1, 2, 3, 4, 5, 6, 8, 9, 10, 11, 12, 13, 14, 15, 16, 17, 18, 19, 20, 21, 22, 24, 25, 26, 27, 28, 29, 30, 31] rfl rfl rfl rfl (n_V (As := [.ref (adq 6)]) (rest := []) (C := RX8) (T := TX8) (N := 8) (ci := 6) S G (s_rcopy l X (adp 6) (fun k => sv26_0 (15 + k)) (fun k => dv26_0 (35 + k)) (adq 6) (fun k => svq (15 + k)) (fun k => dvq (35 + k)) H.size) gX5_copyLine_X8_copyFrom rfl rfl rfl hdV_X8_copyFrom ⟨Nat.le_of_ble_eq_true rfl, Nat.le_of_ble_eq_true rfl⟩ [7, 23] rfl rfl 7 rfl rfl rfl hl.1 (Nat.le_of_ble_eq_true rfl) dX5_copyLine_44 ⟨Nat.le_of_ble_eq_true rfl, Nat.le_of_ble_eq_true rfl⟩) (fun u_20 H locs hp_20 G => ?_)
        obtain ⟨a_20a, d_20b⟩ := u_20
        have hq_20 := hp_20
        obtain ⟨sv_21, dv_22, G⟩ : ∃ (sv_21 : Nat → Int32) (dv_22 : Nat → Int32), wd X (va_A (@HAppend.hAppend va_W va_W va_W _ (rcV X h0 adp svp dvp n0p n1p n2p n3p n4p g0p gsp gnp gmp) (rcV X h1 adq svq dvq n0q n1q n2q n3q n4q g0q gsq gnq gmq)) sz) (va_A (@HAppend.hAppend va_W va_W va_W _ (rcV X h0 adp svp dvp n0p n1p n2p n3p n4p g0p gsp gnp gmp) (rcV X h1 adq svq dvq n0q n1q n2q n3q n4q g0q gsq gnq gmq)) sz) s (@HAppend.hAppend va_W va_W va_W _ (rcV X h0 adp sv_21 dv_22 n_3 n1p n2p n3p n4p g0p gsp gnp gmp) (rcV X h1 adq svq dvq n0q n1q n2q n3q n4q g0q gsq gnq gmq)) H locs := ⟨(ovr sv26_0 15 3 a_20a), (ovr dv26_0 35 5 d_20b), wd_sub G [0, 1, 2, 3, 4, 5, 6, 30, 7, 8, 9, 10, 11, 12, 13, 14, 15, 16, 17, 18, 19, 20, 21, 31, 22, 23, 24, 25, 26, 27, 28, 29] rfl rfl⟩
        refine lv_iinc (v := 6) (lv' := [(2, .int 6), (0, .ref h0), (1, .ref h1)]) zx zb dX5_copyLine_47 hl (k := 0) rfl (by decide) (by decide) rfl (fun ls hl => ?_)
        refine lv_goto (tgt := 26) zx zb dX5_copyLine_50 (by decide) ?_
        exact ih26 6 sv_21 dv_22 _ _ _ (by omega) (by omega) G hl
theorem hdV_X5_copyLine : yX5_copyLine.cls = RX5 ∧ yX5_copyLine.cls ≠ "java/lang/invoke/MethodHandle" ∧ yX5_copyLine.cls ≠ "java/lang/invoke/VarHandle" ∧ (parseMethodDescriptor yX5_copyLine.desc).map (fun d => d.parameters.length) = some 1 := by decide +kernel
theorem in_X5_copyFrom_X5 : ∀ w ∈ wsX50, w ∈ wsX5_copyFrom := by decide +kernel
theorem lk_X5_copyFrom_30 : Cond.fieldLink RX5 30 "EggSpoons$Race" "past" "LEggSpoons$Past;" ∈ wsX5_copyFrom := by decide +kernel
theorem hdV_X4_copyFrom : yX4_copyFrom.cls = RX4 ∧ yX4_copyFrom.cls ≠ "java/lang/invoke/MethodHandle" ∧ yX4_copyFrom.cls ≠ "java/lang/invoke/VarHandle" ∧ (parseMethodDescriptor yX4_copyFrom.desc).map (fun d => d.parameters.length) = some 1 := by decide +kernel
theorem lk_X5_copyFrom_39 : Cond.fieldLink RX5 39 "EggSpoons$Race" "seenRows" "LEggSpoons$Rows;" ∈ wsX5_copyFrom := by decide +kernel
theorem hdV_X7_copyFrom : yX7_copyFrom.cls = RX7 ∧ yX7_copyFrom.cls ≠ "java/lang/invoke/MethodHandle" ∧ yX7_copyFrom.cls ≠ "java/lang/invoke/VarHandle" ∧ (parseMethodDescriptor yX7_copyFrom.desc).map (fun d => d.parameters.length) = some 1 := by decide +kernel
theorem lk_X5_copyFrom_43 : Cond.fieldLink RX5 43 "EggSpoons$Race" "noteRows" "LEggSpoons$Rows;" ∈ wsX5_copyFrom := by decide +kernel
theorem lk_X5_copyFrom_46 : Cond.fieldLink RX5 46 "EggSpoons$Race" "markRows" "LEggSpoons$Rows;" ∈ wsX5_copyFrom := by decide +kernel
theorem mm_X10_races_c255 : Cond.constant RX10 255 (999999) ∈ wsX10_races := by decide +kernel
theorem in_X10_races_X10 : ∀ w ∈ wsX100, w ∈ wsX10_races := by decide +kernel
theorem lk_X10_races_16 : Cond.fieldLink RX10 16 "EggSpoons" "spare" "LEggSpoons$Race;" ∈ wsX10_races := by decide +kernel
theorem lk_X10_races_10 : Cond.fieldLink RX10 10 "EggSpoons" "now" "LEggSpoons$Race;" ∈ wsX10_races := by decide +kernel
theorem mm_X10_races_c260 : Cond.constantLong RX10 260 (1103515245) ∈ wsX10_races := by decide +kernel
theorem mm_X10_races_c262 : Cond.constantLong RX10 262 (12345) ∈ wsX10_races := by decide +kernel
theorem mm_X10_races_c264 : Cond.constantLong RX10 264 (2147483648) ∈ wsX10_races := by decide +kernel
theorem mm_X10_races_c266 : Cond.constantLong RX10 266 (65536) ∈ wsX10_races := by decide +kernel
theorem mm_X10_races_c268 : Cond.constantLong RX10 268 (6) ∈ wsX10_races := by decide +kernel
theorem in_X10_races_X5 : ∀ w ∈ wsX50, w ∈ wsX10_races := by decide +kernel
theorem lk_X10_races_87 : Cond.fieldLink RX10 87 "EggSpoons$Race" "runners" "I" ∈ wsX10_races := by decide +kernel
theorem lk_X10_races_126 : Cond.fieldLink RX10 126 "EggSpoons$Race" "row" "[LEggSpoons$Runner;" ∈ wsX10_races := by decide +kernel
theorem mm_X10_races_c270 : Cond.constantLong RX10 270 (1048576) ∈ wsX10_races := by decide +kernel
theorem mm_X10_races_c272 : Cond.constantLong RX10 272 (10) ∈ wsX10_races := by decide +kernel
theorem in_X10_races_X8 : ∀ w ∈ wsX80, w ∈ wsX10_races := by decide +kernel
theorem lk_X10_races_130 : Cond.fieldLink RX10 130 "EggSpoons$Runner" "speed" "I" ∈ wsX10_races := by decide +kernel
set_option maxHeartbeats 4000000 in
set_option maxRecDepth 100000 in
/-- races -/
theorem s_races (l : Launch) (X : EX) (h0 : Nat) (nw : Nat) (sp : Nat) (xa : Nat → Nat) (la : Int64) (lb : Int64) (an : Nat → Nat) (sv : Nat → Int32) (dv : Nat → Int32) (n0 : Nat) (n1 : Nat) (n2 : Nat) (n3 : Nat) (n4 : Nat) (g0 : Nat → Int32) (gs : Nat → Int32) (gn : Nat → Int32) (gm : Nat → Int32) (adp : Nat → Nat) (svp : Nat → Int32) (dvp : Nat → Int32) (n0p : Nat) (n1p : Nat) (n2p : Nat) (n3p : Nat) (n4p : Nat) (g0p : Nat → Int32) (gsp : Nat → Int32) (gnp : Nat → Int32) (gmp : Nat → Int32) (fr : Nat → Int32) (x1 : Int32) (x2 : Int32) (hI_n0 : n0 ≤ 6) (hI_n1 : n1 ≤ 8) (hI_n2 : n2 ≤ 5) (hI_n3 : n3 ≤ 6) (hI_n4 : n4 ≤ 6) (hI_n0p : n0p ≤ 6) (hI_n1p : n1p ≤ 8) (hI_n2p : n2p ≤ 5) (hI_n3p : n3p ≤ 6) (hI_n4p : n4p ≤ 6) (sz : Nat) : Met l yX10_races wsX10_races ({ frames := 3, cells := 0, slots := 0, locals := 70 } : Room) (pE X [.ref h0, .int x1, .int x2] (@HAppend.hAppend va_W va_W va_W _ (xW h0 nw sp xa la lb) (@HAppend.hAppend va_W va_W va_W _ (rcV X nw an sv dv n0 n1 n2 n3 n4 g0 gs gn gm) (@HAppend.hAppend va_W va_W va_W _ (rcV X sp adp svp dvp n0p n1p n2p n3p n4p g0p gsp gnp gmp) ([((xa 5), .inl (X.2.1, 3, .inl fr))])))) sz) (qI (fun (r : Int32) (u : (Nat → Int32) × (Nat → Int32) × (Nat) × (Nat → Int32)) => u.2.2.1 ≤ 6 ∧ (True)) X (fun (u : (Nat → Int32) × (Nat → Int32) × (Nat) × (Nat → Int32)) => @HAppend.hAppend va_W va_W va_W _ (xW h0 nw sp xa la lb) (@HAppend.hAppend va_W va_W va_W _ (rcV X nw an sv dv n0 n1 n2 n3 n4 g0 gs gn gm) (@HAppend.hAppend va_W va_W va_W _ (rcV X sp adp u.1 u.2.1 u.2.2.1 n1p n2p n3p n4p g0p gsp gnp gmp) ([((xa 5), .inl (X.2.1, 3, .inl u.2.2.2))])))) (@HAppend.hAppend va_W va_W va_W _ (xW h0 nw sp xa la lb) (@HAppend.hAppend va_W va_W va_W _ (rcV X nw an sv dv n0 n1 n2 n3 n4 g0 gs gn gm) (@HAppend.hAppend va_W va_W va_W _ (rcV X sp adp svp dvp n0p n1p n2p n3p n4p g0p gsp gnp gmp) ([((xa 5), .inl (X.2.1, 3, .inl fr))])))) sz) 0 0 (va_A (@HAppend.hAppend va_W va_W va_W _ (xW h0 nw sp xa la lb) (@HAppend.hAppend va_W va_W va_W _ (rcV X nw an sv dv n0 n1 n2 n3 n4 g0 gs gn gm) (@HAppend.hAppend va_W va_W va_W _ (rcV X sp adp svp dvp n0p n1p n2p n3p n4p g0p gsp gnp gmp) ([((xa 5), .inl (X.2.1, 3, .inl fr))])))) sz) := by
  refine mk_met (B := (va_A (@HAppend.hAppend va_W va_W va_W _ (xW h0 nw sp xa la lb) (@HAppend.hAppend va_W va_W va_W _ (rcV X nw an sv dv n0 n1 n2 n3 n4 g0 gs gn gm) (@HAppend.hAppend va_W va_W va_W _ (rcV X sp adp svp dvp n0p n1p n2p n3p n4p g0p gsp gnp gmp) ([((xa 5), .inl (X.2.1, 3, .inl fr))])))) sz)) (A := (va_A (@HAppend.hAppend va_W va_W va_W _ (xW h0 nw sp xa la lb) (@HAppend.hAppend va_W va_W va_W _ (rcV X nw an sv dv n0 n1 n2 n3 n4 g0 gs gn gm) (@HAppend.hAppend va_W va_W va_W _ (rcV X sp adp svp dvp n0p n1p n2p n3p n4p g0p gsp gnp gmp) ([((xa 5), .inl (X.2.1, 3, .inl fr))])))) sz)) (cc := cX10_races) (maxL := 7) (ret := (some .int)) (by decide) rfl (Nat.le_of_ble_eq_true rfl) k_w k_a (fun p e s m below meth c S zr zlk znm zsz G ls hl => ?_)
  have S : CallFix p m c cX10_races 7 s _ wsX10_races RX10 := S
  have zx := S.1
  have zb := S.2.1
  have hl : lv_has ls 7 [(0, .ref h0), (1, .int x1), (2, .int x2)] := hl
  refine lv_iload_n zx zb dX10_races_0 rfl (lv_at hl 1 rfl) ?_
  refine lv_iconst (v := 0) zx zb dX10_races_1 (by decide) ?_
  refine lv_ldc zx zb S.2.2.2.1 (S.2.2.2.2 _ mm_X10_races_c255) dX10_races_2 ?_
  refine o_ri (cells' := 0) (slots' := 0) G rfl rfl (n_S (As := [.int x1, .int 0, .int 999999]) (rest := []) S G (s_within l X x1 0 999999 s.heap.size) gX10_races_X10_within rfl rfl rfl hdS_X10_within ⟨Nat.le_of_ble_eq_true rfl, Nat.le_of_ble_eq_true rfl⟩ [] rfl rfl rfl hl.1 (Nat.le_of_ble_eq_true rfl) dX10_races_4 ⟨Nat.le_of_ble_eq_true rfl, Nat.le_of_ble_eq_true rfl⟩) (fun r_1 u_1 H locs hp_1 G => ?_)
  have G : wd X (va_A (@HAppend.hAppend va_W va_W va_W _ (xW h0 nw sp xa la lb) (@HAppend.hAppend va_W va_W va_W _ (rcV X nw an sv dv n0 n1 n2 n3 n4 g0 gs gn gm) (@HAppend.hAppend va_W va_W va_W _ (rcV X sp adp svp dvp n0p n1p n2p n3p n4p g0p gsp gnp gmp) ([((xa 5), .inl (X.2.1, 3, .inl fr))])))) sz) (va_A (@HAppend.hAppend va_W va_W va_W _ (xW h0 nw sp xa la lb) (@HAppend.hAppend va_W va_W va_W _ (rcV X nw an sv dv n0 n1 n2 n3 n4 g0 gs gn gm) (@HAppend.hAppend va_W va_W va_W _ (rcV X sp adp svp dvp n0p n1p n2p n3p n4p g0p gsp gnp gmp) ([((xa 5), .inl (X.2.1, 3, .inl fr))])))) sz) s (@HAppend.hAppend va_W va_W va_W _ (xW h0 nw sp xa la lb) (@HAppend.hAppend va_W va_W va_W _ (rcV X nw an sv dv n0 n1 n2 n3 n4 g0 gs gn gm) (@HAppend.hAppend va_W va_W va_W _ (rcV X sp adp svp dvp n0p n1p n2p n3p n4p g0p gsp gnp gmp) ([((xa 5), .inl (X.2.1, 3, .inl fr))])))) H locs := G
  rcases hp_1 with ⟨rfl, hw_1⟩ | ⟨rfl, hw_1⟩
  · refine lv_if_eq (tgt := 20) zx zb dX10_races_7 (by decide) (fun c_2 => absurd c_2 (by decide)) (fun c_2 => ?_)
    refine lv_iload_n zx zb dX10_races_10 rfl (lv_at hl 2 rfl) ?_
    refine lv_iconst (v := 0) zx zb dX10_races_11 (by decide) ?_
    refine lv_bipush (v := 60) zx zb dX10_races_12 (by decide) ?_
    refine o_ri (cells' := 0) (slots' := 0) G rfl rfl (n_S (As := [.int x2, .int 0, .int 60]) (rest := []) S G (s_within l X x2 0 60 H.size) gX10_races_X10_within rfl rfl rfl hdS_X10_within ⟨Nat.le_of_ble_eq_true rfl, Nat.le_of_ble_eq_true rfl⟩ [] rfl rfl rfl hl.1 (Nat.le_of_ble_eq_true rfl) dX10_races_14 ⟨Nat.le_of_ble_eq_true rfl, Nat.le_of_ble_eq_true rfl⟩) (fun r_3 u_3 H locs hp_3 G => ?_)
    have G : wd X (va_A (@HAppend.hAppend va_W va_W va_W _ (xW h0 nw sp xa la lb) (@HAppend.hAppend va_W va_W va_W _ (rcV X nw an sv dv n0 n1 n2 n3 n4 g0 gs gn gm) (@HAppend.hAppend va_W va_W va_W _ (rcV X sp adp svp dvp n0p n1p n2p n3p n4p g0p gsp gnp gmp) ([((xa 5), .inl (X.2.1, 3, .inl fr))])))) sz) (va_A (@HAppend.hAppend va_W va_W va_W _ (xW h0 nw sp xa la lb) (@HAppend.hAppend va_W va_W va_W _ (rcV X nw an sv dv n0 n1 n2 n3 n4 g0 gs gn gm) (@HAppend.hAppend va_W va_W va_W _ (rcV X sp adp svp dvp n0p n1p n2p n3p n4p g0p gsp gnp gmp) ([((xa 5), .inl (X.2.1, 3, .inl fr))])))) sz) s (@HAppend.hAppend va_W va_W va_W _ (xW h0 nw sp xa la lb) (@HAppend.hAppend va_W va_W va_W _ (rcV X nw an sv dv n0 n1 n2 n3 n4 g0 gs gn gm) (@HAppend.hAppend va_W va_W va_W _ (rcV X sp adp svp dvp n0p n1p n2p n3p n4p g0p gsp gnp gmp) ([((xa 5), .inl (X.2.1, 3, .inl fr))])))) H locs := G
    rcases hp_3 with ⟨rfl, hw_3⟩ | ⟨rfl, hw_3⟩
    · refine lv_if_ne (tgt := 27) zx zb dX10_races_17 (by decide) (fun c_4 => ?_) (fun c_4 => absurd c_4 (by decide))
      obtain ⟨z0, hz0, rfl⟩ := k_seed hw_1
      refine lv_aload_n zx zb dX10_races_27 rfl (lv_at hl 0 rfl) ?_
      refine r_get (C := RX10) (T := TX10) (N := 14) (ci := 8) (v := .ref sp) S in_X10_races_X10 G 0 rfl rfl 1 (by decide) lk_X10_races_16 rfl dX10_races_28 ?_
      refine lv_aload_n zx zb dX10_races_31 rfl (lv_at hl 0 rfl) ?_
      refine r_get (C := RX10) (T := TX10) (N := 14) (ci := 8) (v := .ref nw) S in_X10_races_X10 G 0 rfl rfl 0 (by decide) lk_X10_races_10 rfl dX10_races_32 ?_
      refine b_wv (cells' := 0) (slots' := 0) (wr := @HAppend.hAppend va_W va_W va_W _ (xW h0 nw sp xa la lb) ([((xa 5), .inl (X.2.1, 3, .inl fr))])) G rfl rfl [17, 18, 19, 20, 21, 22, 23, 24, 25, 26, 27, 28, 29, 30, 31, 32, 1, 2, 3, 4, 5, 6, 7, 8, 9, 10, 11, 12, 13, 14, 15, 16] [0, 33] rfl rfl rfl rfl (n_V (As := [.ref nw]) (rest := []) (C := RX5) (T := TX5) (N := 8) (ci := 3) S G (s_copyLine l X sp adp svp dvp n0p n1p n2p n3p n4p g0p gsp gnp gmp nw an sv dv n0 n1 n2 n3 n4 g0 gs gn gm hI_n0p hI_n1p hI_n2p hI_n3p hI_n4p hI_n0 hI_n1 hI_n2 hI_n3 hI_n4 H.size) gX10_races_X5_copyLine rfl rfl rfl hdV_X5_copyLine ⟨Nat.le_of_ble_eq_true rfl, Nat.le_of_ble_eq_true rfl⟩ [17, 18, 19, 20, 21, 22, 23, 24, 25, 26, 27, 28, 29, 30, 31, 32, 1, 2, 3, 4, 5, 6, 7, 8, 9, 10, 11, 12, 13, 14, 15, 16] rfl rfl 17 rfl rfl rfl hl.1 (Nat.le_of_ble_eq_true rfl) dX10_races_35 ⟨Nat.le_of_ble_eq_true rfl, Nat.le_of_ble_eq_true rfl⟩) (fun u_5 H locs hp_5 G => ?_)
      obtain ⟨sv_5a, dv_5b, n0_5c⟩ := u_5
      try dsimp only at hp_5
      obtain ⟨hI_n0_5c, hq_5⟩ := hp_5
      have G : wd X (va_A (@HAppend.hAppend va_W va_W va_W _ (xW h0 nw sp xa la lb) (@HAppend.hAppend va_W va_W va_W _ (rcV X nw an sv dv n0 n1 n2 n3 n4 g0 gs gn gm) (@HAppend.hAppend va_W va_W va_W _ (rcV X sp adp svp dvp n0p n1p n2p n3p n4p g0p gsp gnp gmp) ([((xa 5), .inl (X.2.1, 3, .inl fr))])))) sz) (va_A (@HAppend.hAppend va_W va_W va_W _ (xW h0 nw sp xa la lb) (@HAppend.hAppend va_W va_W va_W _ (rcV X nw an sv dv n0 n1 n2 n3 n4 g0 gs gn gm) (@HAppend.hAppend va_W va_W va_W _ (rcV X sp adp svp dvp n0p n1p n2p n3p n4p g0p gsp gnp gmp) ([((xa 5), .inl (X.2.1, 3, .inl fr))])))) sz) s (@HAppend.hAppend va_W va_W va_W _ (xW h0 nw sp xa la lb) (@HAppend.hAppend va_W va_W va_W _ ([((xa 5), .inl (X.2.1, 3, .inl fr))]) (@HAppend.hAppend va_W va_W va_W _ (rcV X sp adp sv_5a dv_5b n0_5c n1p n2p n3p n4p g0p gsp gnp gmp) (rcV X nw an sv dv n0 n1 n2 n3 n4 g0 gs gn gm)))) H locs := G
      refine lv_iload_n zx zb dX10_races_38 rfl (lv_at hl 1 rfl) ?_
      refine lv_i2l (v := (Int32.toInt64 (nI z0))) zx zb dX10_races_39 rfl ?_
      refine k_ld (nI_l (by omega)) ?_
      refine lv_lstore_n (lv' := [(3, .long (lN z0)), (0, .ref h0), (1, .int (nI z0)), (2, .int x2)]) zx zb dX10_races_40 rfl hl (by decide) rfl (fun ls hl => ?_)
      refine lv_iconst (v := 0) zx zb dX10_races_41 (by decide) ?_
      refine lv_istore (lv' := [(5, .int 0), (3, .long (lN z0)), (0, .ref h0), (1, .int (nI z0)), (2, .int x2)]) zx zb dX10_races_42 hl (by decide) rfl (fun ls hl => ?_)
      refine k_loop (P := ∀ (zm : Nat) (k44 : Nat) (x44_3 : Int64) (dv44_2 : Nat → Int32) (H : Heap) (locs : List Loc) (ls : Array Slot), 61 + 1 ≤ k44 + zm → (k44 ≤ 61) → (∃ q : Nat, q < 2147483648 ∧ x44_3 = lN q) → wd X (va_A (@HAppend.hAppend va_W va_W va_W _ (xW h0 nw sp xa la lb) (@HAppend.hAppend va_W va_W va_W _ (rcV X nw an sv dv n0 n1 n2 n3 n4 g0 gs gn gm) (@HAppend.hAppend va_W va_W va_W _ (rcV X sp adp svp dvp n0p n1p n2p n3p n4p g0p gsp gnp gmp) ([((xa 5), .inl (X.2.1, 3, .inl fr))])))) sz) (va_A (@HAppend.hAppend va_W va_W va_W _ (xW h0 nw sp xa la lb) (@HAppend.hAppend va_W va_W va_W _ (rcV X nw an sv dv n0 n1 n2 n3 n4 g0 gs gn gm) (@HAppend.hAppend va_W va_W va_W _ (rcV X sp adp svp dvp n0p n1p n2p n3p n4p g0p gsp gnp gmp) ([((xa 5), .inl (X.2.1, 3, .inl fr))])))) sz) s (@HAppend.hAppend va_W va_W va_W _ (xW h0 nw sp xa la lb) (@HAppend.hAppend va_W va_W va_W _ ([((xa 5), .inl (X.2.1, 3, .inl fr))]) (@HAppend.hAppend va_W va_W va_W _ (rcV X sp adp sv_5a dv44_2 n0_5c n1p n2p n3p n4p g0p gsp gnp gmp) (rcV X nw an sv dv n0 n1 n2 n3 n4 g0 gs gn gm)))) H locs → lv_has ls 7 [(5, .int (nI k44)), (3, .long x44_3), (0, .ref h0), (1, .int (nI z0)), (2, .int x2)] → W p l e _ s m _ below meth c H locs _ _ _ (F0 m 44 ls [])) (fun loop => loop (61 + 1) 0 (lN z0) dv_5b _ _ _ (by omega) (by omega) (by first | assumption | exact ⟨_, hz0, rfl⟩ | exact ⟨_, hz1, rfl⟩) G hl) ?_
      intro zm
      induction zm with
      | zero => intro k44 x44_3 dv44_2 H locs ls zz q_hk_k44 q_hk_x44_3 _ _; exact absurd zz (by omega)
      | succ zm ih44 =>
        intro k44 x44_3 dv44_2 H locs ls zm_44 hk_k44 hk_x44_3 G hl
        refine lv_iload zx zb dX10_races_44 (lv_at hl 0 rfl) ?_
        refine lv_iload_n zx zb dX10_races_46 rfl (lv_at hl 4 rfl) ?_
        refine lv_icmp_ge (tgt := 124) zx zb dX10_races_47 (by decide) (fun c_6 => ?_) (fun c_6 => ?_)
        · refine lv_aload_n zx zb dX10_races_124 rfl (lv_at hl 2 rfl) ?_
          refine r_get (C := RX10) (T := TX10) (N := 14) (ci := 8) (v := .ref sp) S in_X10_races_X10 G 0 rfl rfl 1 (by decide) lk_X10_races_16 rfl dX10_races_125 ?_
          refine o_ri (cells' := 0) (slots' := 0) G rfl rfl (n_V (As := []) (rest := []) (C := RX5) (T := TX5) (N := 8) (ci := 3) S G (s_homes l X sp adp sv_5a dv44_2 n0_5c n1p n2p n3p n4p g0p gsp gnp gmp hI_n0_5c hI_n1p hI_n2p hI_n3p hI_n4p H.size) gX10_races_X5_homes rfl rfl rfl hdV_X5_homes ⟨Nat.le_of_ble_eq_true rfl, Nat.le_of_ble_eq_true rfl⟩ [2, 3, 4, 5, 6, 7, 8, 9, 10, 11, 12, 13, 14, 15, 16, 17] rfl rfl 2 rfl rfl rfl hl.1 (Nat.le_of_ble_eq_true rfl) dX10_races_128 ⟨Nat.le_of_ble_eq_true rfl, Nat.le_of_ble_eq_true rfl⟩) (fun r_7 u_7 H locs hp_7 G => ?_)
          have G : wd X (va_A (@HAppend.hAppend va_W va_W va_W _ (xW h0 nw sp xa la lb) (@HAppend.hAppend va_W va_W va_W _ (rcV X nw an sv dv n0 n1 n2 n3 n4 g0 gs gn gm) (@HAppend.hAppend va_W va_W va_W _ (rcV X sp adp svp dvp n0p n1p n2p n3p n4p g0p gsp gnp gmp) ([((xa 5), .inl (X.2.1, 3, .inl fr))])))) sz) (va_A (@HAppend.hAppend va_W va_W va_W _ (xW h0 nw sp xa la lb) (@HAppend.hAppend va_W va_W va_W _ (rcV X nw an sv dv n0 n1 n2 n3 n4 g0 gs gn gm) (@HAppend.hAppend va_W va_W va_W _ (rcV X sp adp svp dvp n0p n1p n2p n3p n4p g0p gsp gnp gmp) ([((xa 5), .inl (X.2.1, 3, .inl fr))])))) sz) s (@HAppend.hAppend va_W va_W va_W _ (xW h0 nw sp xa la lb) (@HAppend.hAppend va_W va_W va_W _ ([((xa 5), .inl (X.2.1, 3, .inl fr))]) (@HAppend.hAppend va_W va_W va_W _ (rcV X sp adp sv_5a dv44_2 n0_5c n1p n2p n3p n4p g0p gsp gnp gmp) (rcV X nw an sv dv n0 n1 n2 n3 n4 g0 gs gn gm)))) H locs := G
          exact e_int S zr zlk (vp_nar_int _) G (sv_5a, dv44_2, n0_5c, fr) [0, 18, 19, 20, 21, 22, 23, 24, 25, 26, 27, 28, 29, 30, 31, 32, 33, 2, 3, 4, 5, 6, 7, 8, 9, 10, 11, 12, 13, 14, 15, 16, 17, 1] rfl rfl (Or.inr rfl) (⟨hI_n0_5c, trivial⟩) dX10_races_131
        · have fk_c_6 := k_lt60 (Int32.not_le.mp c_6) hw_3.2 (by omega)
          obtain ⟨z, zz, rfl⟩ := hk_x44_3
          refine lv_lload_n zx zb dX10_races_50 rfl (lv_at hl 1 rfl) ?_
          refine lv_ldc2 zx zb S.2.2.2.1 (S.2.2.2.2 _ mm_X10_races_c260) dX10_races_51 ?_
          refine k_ld (v := (Int32.toInt64 1103515245)) (by decide) ?_
          refine r_lmul (v := ((lN z) * (Int32.toInt64 1103515245))) S rfl dX10_races_54 ?_
          refine lv_ldc2 zx zb S.2.2.2.1 (S.2.2.2.2 _ mm_X10_races_c262) dX10_races_55 ?_
          refine k_ld (v := (Int32.toInt64 12345)) (by decide) ?_
          refine r_ladd (v := (((lN z) * (Int32.toInt64 1103515245)) + (Int32.toInt64 12345))) S rfl dX10_races_58 ?_
          refine lv_ldc2 zx zb S.2.2.2.1 (S.2.2.2.2 _ mm_X10_races_c264) dX10_races_59 ?_
          refine lv_lrem zx zb dX10_races_62 (by decide) ?_
          obtain ⟨z1, hz1, ez1⟩ := k_rx zz
          refine k_ld ez1 ?_
          refine lv_lstore_n (lv' := [(3, .long (lN z1)), (5, .int (nI k44)), (0, .ref h0), (1, .int (nI z0)), (2, .int x2)]) zx zb dX10_races_63 rfl hl (by decide) rfl (fun ls hl => ?_)
          refine lv_lload_n zx zb dX10_races_64 rfl (lv_at hl 0 rfl) ?_
          refine lv_ldc2 zx zb S.2.2.2.1 (S.2.2.2.2 _ mm_X10_races_c266) dX10_races_65 ?_
          refine k_ld (v := (Int32.toInt64 65536)) (by decide) ?_
          refine lv_ldiv zx zb dX10_races_68 (by decide) ?_
          refine lv_ldc2 zx zb S.2.2.2.1 (S.2.2.2.2 _ mm_X10_races_c268) dX10_races_69 ?_
          refine k_ld (v := (Int32.toInt64 6)) (by decide) ?_
          refine lv_lrem zx zb dX10_races_72 (by decide) ?_
          refine lv_l2i (v := (Int64.toInt32 (((lN z1) / (Int32.toInt64 65536)) - ((lN z1) / (Int32.toInt64 65536)) / (Int32.toInt64 6) * (Int32.toInt64 6)))) zx zb dX10_races_73 rfl ?_
          obtain ⟨j, hj, ej⟩ := k_ri hz1
          refine k_it ej ?_
          refine lv_istore (lv' := [(6, .int (nI j)), (3, .long (lN z1)), (5, .int (nI k44)), (0, .ref h0), (1, .int (nI z0)), (2, .int x2)]) zx zb dX10_races_74 hl (by decide) rfl (fun ls hl => ?_)
          refine lv_iload zx zb dX10_races_76 (lv_at hl 0 rfl) ?_
          refine lv_aload_n zx zb dX10_races_78 rfl (lv_at hl 3 rfl) ?_
          refine r_get (C := RX10) (T := TX10) (N := 14) (ci := 8) (v := .ref sp) S in_X10_races_X10 G 0 rfl rfl 1 (by decide) lk_X10_races_16 rfl dX10_races_79 ?_
          refine r_get (C := RX5) (T := TX5) (N := 8) (ci := 3) (v := .int (nI n0_5c)) S in_X10_races_X5 G 2 rfl rfl 2 (by decide) lk_X10_races_87 rfl dX10_races_82 ?_
          refine k_cutW (PP := fun Wx => ∀ (dv_9 : Nat → Int32) (H : Heap) (locs : List Loc) (ls : Array Slot), wd X (va_A (@HAppend.hAppend va_W va_W va_W _ (xW h0 nw sp xa la lb) (@HAppend.hAppend va_W va_W va_W _ (rcV X nw an sv dv n0 n1 n2 n3 n4 g0 gs gn gm) (@HAppend.hAppend va_W va_W va_W _ (rcV X sp adp svp dvp n0p n1p n2p n3p n4p g0p gsp gnp gmp) ([((xa 5), .inl (X.2.1, 3, .inl fr))])))) sz) (va_A (@HAppend.hAppend va_W va_W va_W _ (xW h0 nw sp xa la lb) (@HAppend.hAppend va_W va_W va_W _ (rcV X nw an sv dv n0 n1 n2 n3 n4 g0 gs gn gm) (@HAppend.hAppend va_W va_W va_W _ (rcV X sp adp svp dvp n0p n1p n2p n3p n4p g0p gsp gnp gmp) ([((xa 5), .inl (X.2.1, 3, .inl fr))])))) sz) s (@HAppend.hAppend va_W va_W va_W _ (xW h0 nw sp xa la lb) (@HAppend.hAppend va_W va_W va_W _ ([((xa 5), .inl (X.2.1, 3, .inl fr))]) (@HAppend.hAppend va_W va_W va_W _ (rcV X sp adp sv_5a dv_9 n0_5c n1p n2p n3p n4p g0p gsp gnp gmp) (rcV X nw an sv dv n0 n1 n2 n3 n4 g0 gs gn gm)))) H locs → lv_has ls 7 [(6, .int (nI j)), (3, .long (lN z1)), (5, .int (nI k44)), (0, .ref h0), (1, .int (nI z0)), (2, .int x2)] → Wx (F0 m 111 ls []) H locs) ?_ ?_
          · intro join_85
            refine lv_icmp_ge (tgt := 111) zx zb dX10_races_85 (by decide) (fun c_8 => ?_) (fun c_8 => ?_)
            · have fc_8 := j_le (a := n0_5c) (b := j) (by omega) (by omega) c_8
              exact join_85 dv44_2 _ _ _  G hl
            · have fc_8 := j_nle (a := n0_5c) (b := j) (by omega) (by omega) c_8
              refine lv_aload_n zx zb dX10_races_88 rfl (lv_at hl 3 rfl) ?_
              refine r_get (C := RX10) (T := TX10) (N := 14) (ci := 8) (v := .ref sp) S in_X10_races_X10 G 0 rfl rfl 1 (by decide) lk_X10_races_16 rfl dX10_races_89 ?_
              refine r_get (C := RX5) (T := TX5) (N := 8) (ci := 3) (v := .ref (adp 0)) S in_X10_races_X5 G 2 rfl rfl 3 (by decide) lk_X10_races_126 rfl dX10_races_92 ?_
              refine lv_iload zx zb dX10_races_95 (lv_at hl 0 rfl) ?_
              rcases k_6c (show j < 6 by omega) with rfl | rfl | rfl | rfl | rfl | rfl
              · refine k_it (v := 0) rfl ?_
                refine r_aald (C := RX8) (b := (adp 1)) S G 3 3 rfl rfl (k_vp (by decide)) rfl dX10_races_97 ?_
                refine lv_lload_n zx zb dX10_races_98 rfl (lv_at hl 1 rfl) ?_
                refine lv_ldc2 zx zb S.2.2.2.1 (S.2.2.2.2 _ mm_X10_races_c270) dX10_races_99 ?_
                refine k_ld (v := (Int32.toInt64 1048576)) (by decide) ?_
                refine lv_ldiv zx zb dX10_races_102 (by decide) ?_
                refine k_ldE (fun y_10 => ?_)
                refine lv_ldc2 zx zb S.2.2.2.1 (S.2.2.2.2 _ mm_X10_races_c272) dX10_races_103 ?_
                refine k_ld (v := (Int32.toInt64 10)) (by decide) ?_
                refine lv_lrem zx zb dX10_races_106 (by decide) ?_
                refine k_ldE (fun y_11 => ?_)
                refine lv_l2i (v := (Int64.toInt32 y_11)) zx zb dX10_races_107 rfl ?_
                refine r_put (C := RX8) (T := TX8) (N := 8) (ci := 6) (v := .int (Int64.toInt32 y_11)) S in_X10_races_X8 tyX8_ok nmX8 G 4 rfl rfl 3 (by decide) lk_X10_races_130 rfl (vp_nar_int _) rfl (Nat.le_of_ble_eq_true rfl) dX10_races_108 (fun H locs G => ?_)
                obtain ⟨dv_12, G⟩ : ∃ dv_12 : Nat → Int32, wd X (va_A (@HAppend.hAppend va_W va_W va_W _ (xW h0 nw sp xa la lb) (@HAppend.hAppend va_W va_W va_W _ (rcV X nw an sv dv n0 n1 n2 n3 n4 g0 gs gn gm) (@HAppend.hAppend va_W va_W va_W _ (rcV X sp adp svp dvp n0p n1p n2p n3p n4p g0p gsp gnp gmp) ([((xa 5), .inl (X.2.1, 3, .inl fr))])))) sz) (va_A (@HAppend.hAppend va_W va_W va_W _ (xW h0 nw sp xa la lb) (@HAppend.hAppend va_W va_W va_W _ (rcV X nw an sv dv n0 n1 n2 n3 n4 g0 gs gn gm) (@HAppend.hAppend va_W va_W va_W _ (rcV X sp adp svp dvp n0p n1p n2p n3p n4p g0p gsp gnp gmp) ([((xa 5), .inl (X.2.1, 3, .inl fr))])))) sz) s (@HAppend.hAppend va_W va_W va_W _ (xW h0 nw sp xa la lb) (@HAppend.hAppend va_W va_W va_W _ ([((xa 5), .inl (X.2.1, 3, .inl fr))]) (@HAppend.hAppend va_W va_W va_W _ (rcV X sp adp sv_5a dv_12 n0_5c n1p n2p n3p n4p g0p gsp gnp gmp) (rcV X nw an sv dv n0 n1 n2 n3 n4 g0 gs gn gm)))) H locs := ⟨upd dv44_2 10 (Int64.toInt32 y_11), G⟩
                exact join_85 dv_12 _ _ _  G hl
              · refine k_it (v := 1) rfl ?_
                refine r_aald (C := RX8) (b := (adp 2)) S G 3 3 rfl rfl (k_vp (by decide)) rfl dX10_races_97 ?_
                refine lv_lload_n zx zb dX10_races_98 rfl (lv_at hl 1 rfl) ?_
                refine lv_ldc2 zx zb S.2.2.2.1 (S.2.2.2.2 _ mm_X10_races_c270) dX10_races_99 ?_
                refine k_ld (v := (Int32.toInt64 1048576)) (by decide) ?_
                refine lv_ldiv zx zb dX10_races_102 (by decide) ?_
                refine k_ldE (fun y_13 => ?_)
                refine lv_ldc2 zx zb S.2.2.2.1 (S.2.2.2.2 _ mm_X10_races_c272) dX10_races_103 ?_
                refine k_ld (v := (Int32.toInt64 10)) (by decide) ?_
                refine lv_lrem zx zb dX10_races_106 (by decide) ?_
                refine k_ldE (fun y_14 => ?_)
                refine lv_l2i (v := (Int64.toInt32 y_14)) zx zb dX10_races_107 rfl ?_
                refine r_put (C := RX8) (T := TX8) (N := 8) (ci := 6) (v := .int (Int64.toInt32 y_14)) S in_X10_races_X8 tyX8_ok nmX8 G 5 rfl rfl 3 (by decide) lk_X10_races_130 rfl (vp_nar_int _) rfl (Nat.le_of_ble_eq_true rfl) dX10_races_108 (fun H locs G => ?_)
                obtain ⟨dv_15, G⟩ : ∃ dv_15 : Nat → Int32, wd X (va_A (@HAppend.hAppend va_W va_W va_W _ (xW h0 nw sp xa la lb) (@HAppend.hAppend va_W va_W va_W _ (rcV X nw an sv dv n0 n1 n2 n3 n4 g0 gs gn gm) (@HAppend.hAppend va_W va_W va_W _ (rcV X sp adp svp dvp n0p n1p n2p n3p n4p g0p gsp gnp gmp) ([((xa 5), .inl (X.2.1, 3, .inl fr))])))) sz) (va_A (@HAppend.hAppend va_W va_W va_W _ (xW h0 nw sp xa la lb) (@HAppend.hAppend va_W va_W va_W _ (rcV X nw an sv dv n0 n1 n2 n3 n4 g0 gs gn gm) (@HAppend.hAppend va_W va_W va_W _ (rcV X sp adp svp dvp n0p n1p n2p n3p n4p g0p gsp gnp gmp) ([((xa 5), .inl (X.2.1, 3, .inl fr))])))) sz) s (@HAppend.hAppend va_W va_W va_W _ (xW h0 nw sp xa la lb) (@HAppend.hAppend va_W va_W va_W _ ([((xa 5), .inl (X.2.1, 3, .inl fr))]) (@HAppend.hAppend va_W va_W va_W _ (rcV X sp adp sv_5a dv_15 n0_5c n1p n2p n3p n4p g0p gsp gnp gmp) (rcV X nw an sv dv n0 n1 n2 n3 n4 g0 gs gn gm)))) H locs := ⟨upd dv44_2 15 (Int64.toInt32 y_14), G⟩
                exact join_85 dv_15 _ _ _  G hl
              · refine k_it (v := 2) rfl ?_
                refine r_aald (C := RX8) (b := (adp 3)) S G 3 3 rfl rfl (k_vp (by decide)) rfl dX10_races_97 ?_
                refine lv_lload_n zx zb dX10_races_98 rfl (lv_at hl 1 rfl) ?_
                refine lv_ldc2 zx zb S.2.2.2.1 (S.2.2.2.2 _ mm_X10_races_c270) dX10_races_99 ?_
                refine k_ld (v := (Int32.toInt64 1048576)) (by decide) ?_
                refine lv_ldiv zx zb dX10_races_102 (by decide) ?_
                refine k_ldE (fun y_16 => ?_)
                refine lv_ldc2 zx zb S.2.2.2.1 (S.2.2.2.2 _ mm_X10_races_c272) dX10_races_103 ?_
                refine k_ld (v := (Int32.toInt64 10)) (by decide) ?_
                refine lv_lrem zx zb dX10_races_106 (by decide) ?_
                refine k_ldE (fun y_17 => ?_)
                refine lv_l2i (v := (Int64.toInt32 y_17)) zx zb dX10_races_107 rfl ?_
                refine r_put (C := RX8) (T := TX8) (N := 8) (ci := 6) (v := .int (Int64.toInt32 y_17)) S in_X10_races_X8 tyX8_ok nmX8 G 6 rfl rfl 3 (by decide) lk_X10_races_130 rfl (vp_nar_int _) rfl (Nat.le_of_ble_eq_true rfl) dX10_races_108 (fun H locs G => ?_)
                obtain ⟨dv_18, G⟩ : ∃ dv_18 : Nat → Int32, wd X (va_A (@HAppend.hAppend va_W va_W va_W _ (xW h0 nw sp xa la lb) (@HAppend.hAppend va_W va_W va_W _ (rcV X nw an sv dv n0 n1 n2 n3 n4 g0 gs gn gm) (@HAppend.hAppend va_W va_W va_W _ (rcV X sp adp svp dvp n0p n1p n2p n3p n4p g0p gsp gnp gmp) ([((xa 5), .inl (X.2.1, 3, .inl fr))])))) sz) (va_A (@HAppend.hAppend va_W va_W va_W _ (xW h0 nw sp xa la lb) (@HAppend.hAppend va_W va_W va_W _ (rcV X nw an sv dv n0 n1 n2 n3 n4 g0 gs gn gm) (@HAppend.hAppend va_W va_W va_W _ (rcV X sp adp svp dvp n0p n1p n2p n3p n4p g0p gsp gnp gmp) ([((xa 5), .inl (X.2.1, 3, .inl fr))])))) sz) s (@HAppend.hAppend va_W va_W va_W _ (xW h0 nw sp xa la lb) (@HAppend.hAppend va_W va_W va_W _ ([((xa 5), .inl (X.2.1, 3, .inl fr))]) (@HAppend.hAppend va_W va_W va_W _ (rcV X sp adp sv_5a dv_18 n0_5c n1p n2p n3p n4p g0p gsp gnp gmp) (rcV X nw an sv dv n0 n1 n2 n3 n4 g0 gs gn gm)))) H locs := ⟨upd dv44_2 20 (Int64.toInt32 y_17), G⟩
                exact join_85 dv_18 _ _ _  G hl
              · refine k_it (v := 3) rfl ?_
                refine r_aald (C := RX8) (b := (adp 4)) S G 3 3 rfl rfl (k_vp (by decide)) rfl dX10_races_97 ?_
                refine lv_lload_n zx zb dX10_races_98 rfl (lv_at hl 1 rfl) ?_
                refine lv_ldc2 zx zb S.2.2.2.1 (S.2.2.2.2 _ mm_X10_races_c270) dX10_races_99 ?_
                refine k_ld (v := (Int32.toInt64 1048576)) (by decide) ?_
                refine lv_ldiv zx zb dX10_races_102 (by decide) ?_
                refine k_ldE (fun y_19 => ?_)
                refine lv_ldc2 zx zb S.2.2.2.1 (S.2.2.2.2 _ mm_X10_races_c272) dX10_races_103 ?_
                refine k_ld (v := (Int32.toInt64 10)) (by decide) ?_
                refine lv_lrem zx zb dX10_races_106 (by decide) ?_
                refine k_ldE (fun y_20 => ?_)
                refine lv_l2i (v := (Int64.toInt32 y_20)) zx zb dX10_races_107 rfl ?_
                refine r_put (C := RX8) (T := TX8) (N := 8) (ci := 6) (v := .int (Int64.toInt32 y_20)) S in_X10_races_X8 tyX8_ok nmX8 G 7 rfl rfl 3 (by decide) lk_X10_races_130 rfl (vp_nar_int _) rfl (Nat.le_of_ble_eq_true rfl) dX10_races_108 (fun H locs G => ?_)
                obtain ⟨dv_21, G⟩ : ∃ dv_21 : Nat → Int32, wd X (va_A (@HAppend.hAppend va_W va_W va_W _ (xW h0 nw sp xa la lb) (@HAppend.hAppend va_W va_W va_W _ (rcV X nw an sv dv n0 n1 n2 n3 n4 g0 gs gn gm) (@HAppend.hAppend va_W va_W va_W _ (rcV X sp adp svp dvp n0p n1p n2p n3p n4p g0p gsp gnp gmp) ([((xa 5), .inl (X.2.1, 3, .inl fr))])))) sz) (va_A (@HAppend.hAppend va_W va_W va_W _ (xW h0 nw sp xa la lb) (@HAppend.hAppend va_W va_W va_W _ (rcV X nw an sv dv n0 n1 n2 n3 n4 g0 gs gn gm) (@HAppend.hAppend va_W va_W va_W _ (rcV X sp adp svp dvp n0p n1p n2p n3p n4p g0p gsp gnp gmp) ([((xa 5), .inl (X.2.1, 3, .inl fr))])))) sz) s (@HAppend.hAppend va_W va_W va_W _ (xW h0 nw sp xa la lb) (@HAppend.hAppend va_W va_W va_W _ ([((xa 5), .inl (X.2.1, 3, .inl fr))]) (@HAppend.hAppend va_W va_W va_W _ (rcV X sp adp sv_5a dv_21 n0_5c n1p n2p n3p n4p g0p gsp gnp gmp) (rcV X nw an sv dv n0 n1 n2 n3 n4 g0 gs gn gm)))) H locs := ⟨upd dv44_2 25 (Int64.toInt32 y_20), G⟩
                exact join_85 dv_21 _ _ _  G hl
              · refine k_it (v := 4) rfl ?_
                refine r_aald (C := RX8) (b := (adp 5)) S G 3 3 rfl rfl (k_vp (by decide)) rfl dX10_races_97 ?_
                refine lv_lload_n zx zb dX10_races_98 rfl (lv_at hl 1 rfl) ?_
                refine lv_ldc2 zx zb S.2.2.2.1 (S.2.2.2.2 _ mm_X10_races_c270) dX10_races_99 ?_
                refine k_ld (v := (Int32.toInt64 1048576)) (by decide) ?_
                refine lv_ldiv zx zb dX10_races_102 (by decide) ?_
                refine k_ldE (fun y_22 => ?_)
                refine lv_ldc2 zx zb S.2.2.2.1 (S.2.2.2.2 _ mm_X10_races_c272) dX10_races_103 ?_
                refine k_ld (v := (Int32.toInt64 10)) (by decide) ?_
                refine lv_lrem zx zb dX10_races_106 (by decide) ?_
                refine k_ldE (fun y_23 => ?_)
                refine lv_l2i (v := (Int64.toInt32 y_23)) zx zb dX10_races_107 rfl ?_
                refine r_put (C := RX8) (T := TX8) (N := 8) (ci := 6) (v := .int (Int64.toInt32 y_23)) S in_X10_races_X8 tyX8_ok nmX8 G 8 rfl rfl 3 (by decide) lk_X10_races_130 rfl (vp_nar_int _) rfl (Nat.le_of_ble_eq_true rfl) dX10_races_108 (fun H locs G => ?_)
                obtain ⟨dv_24, G⟩ : ∃ dv_24 : Nat → Int32, wd X (va_A (@HAppend.hAppend va_W va_W va_W _ (xW h0 nw sp xa la lb) (@HAppend.hAppend va_W va_W va_W _ (rcV X nw an sv dv n0 n1 n2 n3 n4 g0 gs gn gm) (@HAppend.hAppend va_W va_W va_W _ (rcV X sp adp svp dvp n0p n1p n2p n3p n4p g0p gsp gnp gmp) ([((xa 5), .inl (X.2.1, 3, .inl fr))])))) sz) (va_A (@HAppend.hAppend va_W va_W va_W _ (xW h0 nw sp xa la lb) (@HAppend.hAppend va_W va_W va_W _ (rcV X nw an sv dv n0 n1 n2 n3 n4 g0 gs gn gm) (@HAppend.hAppend va_W va_W va_W _ (rcV X sp adp svp dvp n0p n1p n2p n3p n4p g0p gsp gnp gmp) ([((xa 5), .inl (X.2.1, 3, .inl fr))])))) sz) s (@HAppend.hAppend va_W va_W va_W _ (xW h0 nw sp xa la lb) (@HAppend.hAppend va_W va_W va_W _ ([((xa 5), .inl (X.2.1, 3, .inl fr))]) (@HAppend.hAppend va_W va_W va_W _ (rcV X sp adp sv_5a dv_24 n0_5c n1p n2p n3p n4p g0p gsp gnp gmp) (rcV X nw an sv dv n0 n1 n2 n3 n4 g0 gs gn gm)))) H locs := ⟨upd dv44_2 30 (Int64.toInt32 y_23), G⟩
                exact join_85 dv_24 _ _ _  G hl
              · refine k_it (v := 5) rfl ?_
                refine r_aald (C := RX8) (b := (adp 6)) S G 3 3 rfl rfl (k_vp (by decide)) rfl dX10_races_97 ?_
                refine lv_lload_n zx zb dX10_races_98 rfl (lv_at hl 1 rfl) ?_
                refine lv_ldc2 zx zb S.2.2.2.1 (S.2.2.2.2 _ mm_X10_races_c270) dX10_races_99 ?_
                refine k_ld (v := (Int32.toInt64 1048576)) (by decide) ?_
                refine lv_ldiv zx zb dX10_races_102 (by decide) ?_
                refine k_ldE (fun y_25 => ?_)
                refine lv_ldc2 zx zb S.2.2.2.1 (S.2.2.2.2 _ mm_X10_races_c272) dX10_races_103 ?_
                refine k_ld (v := (Int32.toInt64 10)) (by decide) ?_
                refine lv_lrem zx zb dX10_races_106 (by decide) ?_
                refine k_ldE (fun y_26 => ?_)
                refine lv_l2i (v := (Int64.toInt32 y_26)) zx zb dX10_races_107 rfl ?_
                refine r_put (C := RX8) (T := TX8) (N := 8) (ci := 6) (v := .int (Int64.toInt32 y_26)) S in_X10_races_X8 tyX8_ok nmX8 G 9 rfl rfl 3 (by decide) lk_X10_races_130 rfl (vp_nar_int _) rfl (Nat.le_of_ble_eq_true rfl) dX10_races_108 (fun H locs G => ?_)
                obtain ⟨dv_27, G⟩ : ∃ dv_27 : Nat → Int32, wd X (va_A (@HAppend.hAppend va_W va_W va_W _ (xW h0 nw sp xa la lb) (@HAppend.hAppend va_W va_W va_W _ (rcV X nw an sv dv n0 n1 n2 n3 n4 g0 gs gn gm) (@HAppend.hAppend va_W va_W va_W _ (rcV X sp adp svp dvp n0p n1p n2p n3p n4p g0p gsp gnp gmp) ([((xa 5), .inl (X.2.1, 3, .inl fr))])))) sz) (va_A (@HAppend.hAppend va_W va_W va_W _ (xW h0 nw sp xa la lb) (@HAppend.hAppend va_W va_W va_W _ (rcV X nw an sv dv n0 n1 n2 n3 n4 g0 gs gn gm) (@HAppend.hAppend va_W va_W va_W _ (rcV X sp adp svp dvp n0p n1p n2p n3p n4p g0p gsp gnp gmp) ([((xa 5), .inl (X.2.1, 3, .inl fr))])))) sz) s (@HAppend.hAppend va_W va_W va_W _ (xW h0 nw sp xa la lb) (@HAppend.hAppend va_W va_W va_W _ ([((xa 5), .inl (X.2.1, 3, .inl fr))]) (@HAppend.hAppend va_W va_W va_W _ (rcV X sp adp sv_5a dv_27 n0_5c n1p n2p n3p n4p g0p gsp gnp gmp) (rcV X nw an sv dv n0 n1 n2 n3 n4 g0 gs gn gm)))) H locs := ⟨upd dv44_2 35 (Int64.toInt32 y_26), G⟩
                exact join_85 dv_27 _ _ _  G hl
          · intro dv_9 H locs ls  G hl
            refine lv_aload_n zx zb dX10_races_111 rfl (lv_at hl 3 rfl) ?_
            refine r_get (C := RX10) (T := TX10) (N := 14) (ci := 8) (v := .ref sp) S in_X10_races_X10 G 0 rfl rfl 1 (by decide) lk_X10_races_16 rfl dX10_races_112 ?_
            refine b_wv (cells' := 0) (slots' := 0) (wr := @HAppend.hAppend va_W va_W va_W _ (xW h0 nw sp xa la lb) (@HAppend.hAppend va_W va_W va_W _ ([((xa 5), .inl (X.2.1, 3, .inl fr))]) (rcV X nw an sv dv n0 n1 n2 n3 n4 g0 gs gn gm))) G rfl rfl [2, 3, 4, 5, 6, 7, 8, 9, 10, 11, 12, 13, 14, 15, 16, 17] [0, 1, 18, 19, 20, 21, 22, 23, 24, 25, 26, 27, 28, 29, 30, 31, 32, 33] rfl rfl rfl rfl (n_V (As := []) (rest := []) (C := RX5) (T := TX5) (N := 8) (ci := 3) S G (s_goOn l X sp adp sv_5a dv_9 n0_5c n1p n2p n3p n4p g0p gsp gnp gmp hI_n0_5c hI_n1p hI_n2p hI_n3p hI_n4p H.size) gX10_races_X5_goOn rfl rfl rfl hdV_X5_goOn ⟨Nat.le_of_ble_eq_true rfl, Nat.le_of_ble_eq_true rfl⟩ [2, 3, 4, 5, 6, 7, 8, 9, 10, 11, 12, 13, 14, 15, 16, 17] rfl rfl 2 rfl rfl rfl hl.1 (Nat.le_of_ble_eq_true rfl) dX10_races_115 ⟨Nat.le_of_ble_eq_true rfl, Nat.le_of_ble_eq_true rfl⟩) (fun u_28 H locs hp_28 G => ?_)
            obtain ⟨dv_28, rfl⟩ : ∃ z, z = u_28 := ⟨_, rfl⟩
            have hq_28 := hp_28
            have G : wd X (va_A (@HAppend.hAppend va_W va_W va_W _ (xW h0 nw sp xa la lb) (@HAppend.hAppend va_W va_W va_W _ (rcV X nw an sv dv n0 n1 n2 n3 n4 g0 gs gn gm) (@HAppend.hAppend va_W va_W va_W _ (rcV X sp adp svp dvp n0p n1p n2p n3p n4p g0p gsp gnp gmp) ([((xa 5), .inl (X.2.1, 3, .inl fr))])))) sz) (va_A (@HAppend.hAppend va_W va_W va_W _ (xW h0 nw sp xa la lb) (@HAppend.hAppend va_W va_W va_W _ (rcV X nw an sv dv n0 n1 n2 n3 n4 g0 gs gn gm) (@HAppend.hAppend va_W va_W va_W _ (rcV X sp adp svp dvp n0p n1p n2p n3p n4p g0p gsp gnp gmp) ([((xa 5), .inl (X.2.1, 3, .inl fr))])))) sz) s (@HAppend.hAppend va_W va_W va_W _ (xW h0 nw sp xa la lb) (@HAppend.hAppend va_W va_W va_W _ ([((xa 5), .inl (X.2.1, 3, .inl fr))]) (@HAppend.hAppend va_W va_W va_W _ (rcV X nw an sv dv n0 n1 n2 n3 n4 g0 gs gn gm) (rcV X sp adp sv_5a dv_28 n0_5c n1p n2p n3p n4p g0p gsp gnp gmp)))) H locs := G
            refine lv_iinc (v := (nI (k44 + 1))) (lv' := [(5, .int (nI (k44 + 1))), (6, .int (nI j)), (3, .long (lN z1)), (0, .ref h0), (1, .int (nI z0)), (2, .int x2)]) zx zb dX10_races_118 hl (k := 2) rfl (nI_add k44 1) (by decide) rfl (fun ls hl => ?_)
            refine lv_goto (tgt := 44) zx zb dX10_races_121 (by decide) ?_
            have G : wd X (va_A (@HAppend.hAppend va_W va_W va_W _ (xW h0 nw sp xa la lb) (@HAppend.hAppend va_W va_W va_W _ (rcV X nw an sv dv n0 n1 n2 n3 n4 g0 gs gn gm) (@HAppend.hAppend va_W va_W va_W _ (rcV X sp adp svp dvp n0p n1p n2p n3p n4p g0p gsp gnp gmp) ([((xa 5), .inl (X.2.1, 3, .inl fr))])))) sz) (va_A (@HAppend.hAppend va_W va_W va_W _ (xW h0 nw sp xa la lb) (@HAppend.hAppend va_W va_W va_W _ (rcV X nw an sv dv n0 n1 n2 n3 n4 g0 gs gn gm) (@HAppend.hAppend va_W va_W va_W _ (rcV X sp adp svp dvp n0p n1p n2p n3p n4p g0p gsp gnp gmp) ([((xa 5), .inl (X.2.1, 3, .inl fr))])))) sz) s (@HAppend.hAppend va_W va_W va_W _ (xW h0 nw sp xa la lb) (@HAppend.hAppend va_W va_W va_W _ ([((xa 5), .inl (X.2.1, 3, .inl fr))]) (@HAppend.hAppend va_W va_W va_W _ (rcV X sp adp sv_5a dv_28 n0_5c n1p n2p n3p n4p g0p gsp gnp gmp) (rcV X nw an sv dv n0 n1 n2 n3 n4 g0 gs gn gm)))) H locs := wd_sub G [0, 1, 18, 19, 20, 21, 22, 23, 24, 25, 26, 27, 28, 29, 30, 31, 32, 33, 2, 3, 4, 5, 6, 7, 8, 9, 10, 11, 12, 13, 14, 15, 16, 17] rfl rfl
            have hl := lv_sub hl (l' := [(5, .int (nI (k44 + 1))), (3, .long (lN z1)), (0, .ref h0), (1, .int (nI z0)), (2, .int x2)]) [0, 2, 3, 4, 5] rfl
            exact ih44 (k44 + 1) (lN z1) dv_28 _ _ _ (by omega) (by omega) (by first | assumption | exact ⟨_, hz0, rfl⟩ | exact ⟨_, hz1, rfl⟩) G hl
    · refine lv_if_ne (tgt := 27) zx zb dX10_races_17 (by decide) (fun c_29 => absurd (by decide) c_29) (fun c_29 => ?_)
      refine lv_aload_n zx zb dX10_races_20 rfl (lv_at hl 0 rfl) ?_
      refine lv_bipush (v := (-2)) zx zb dX10_races_21 (by decide) ?_
      refine b_wi (cells' := 0) (slots' := 0) (wr := @HAppend.hAppend va_W va_W va_W _ (rcV X nw an sv dv n0 n1 n2 n3 n4 g0 gs gn gm) (rcV X sp adp svp dvp n0p n1p n2p n3p n4p g0p gsp gnp gmp)) G rfl rfl [0, 33] [1, 2, 3, 4, 5, 6, 7, 8, 9, 10, 11, 12, 13, 14, 15, 16, 17, 18, 19, 20, 21, 22, 23, 24, 25, 26, 27, 28, 29, 30, 31, 32] rfl rfl rfl rfl (n_V (As := [.int (-2)]) (rest := []) (C := RX10) (T := TX10) (N := 14) (ci := 8) S G (s_refuse l X h0 nw sp xa la lb fr (-2) H.size) gX10_races_X10_refuse rfl rfl rfl hdV_X10_refuse ⟨Nat.le_of_ble_eq_true rfl, Nat.le_of_ble_eq_true rfl⟩ [0, 33] rfl rfl 0 rfl rfl rfl hl.1 (Nat.le_of_ble_eq_true rfl) dX10_races_23 ⟨Nat.le_of_ble_eq_true rfl, Nat.le_of_ble_eq_true rfl⟩) (fun r_30 u_30 H locs hp_30 G => ?_)
      obtain ⟨f_30, rfl⟩ : ∃ z, z = u_30 := ⟨_, rfl⟩
      have hq_30 := hp_30
      have G : wd X (va_A (@HAppend.hAppend va_W va_W va_W _ (xW h0 nw sp xa la lb) (@HAppend.hAppend va_W va_W va_W _ (rcV X nw an sv dv n0 n1 n2 n3 n4 g0 gs gn gm) (@HAppend.hAppend va_W va_W va_W _ (rcV X sp adp svp dvp n0p n1p n2p n3p n4p g0p gsp gnp gmp) ([((xa 5), .inl (X.2.1, 3, .inl fr))])))) sz) (va_A (@HAppend.hAppend va_W va_W va_W _ (xW h0 nw sp xa la lb) (@HAppend.hAppend va_W va_W va_W _ (rcV X nw an sv dv n0 n1 n2 n3 n4 g0 gs gn gm) (@HAppend.hAppend va_W va_W va_W _ (rcV X sp adp svp dvp n0p n1p n2p n3p n4p g0p gsp gnp gmp) ([((xa 5), .inl (X.2.1, 3, .inl fr))])))) sz) s (@HAppend.hAppend va_W va_W va_W _ (rcV X nw an sv dv n0 n1 n2 n3 n4 g0 gs gn gm) (@HAppend.hAppend va_W va_W va_W _ (rcV X sp adp svp dvp n0p n1p n2p n3p n4p g0p gsp gnp gmp) (@HAppend.hAppend va_W va_W va_W _ (xW h0 nw sp xa la lb) ([((xa 5), .inl (X.2.1, 3, .inl f_30))])))) H locs := G
      exact e_int S zr zlk (vp_nar_int _) G (svp, dvp, n0p, f_30) [32, 0, 1, 2, 3, 4, 5, 6, 7, 8, 9, 10, 11, 12, 13, 14, 15, 16, 17, 18, 19, 20, 21, 22, 23, 24, 25, 26, 27, 28, 29, 30, 31, 33] rfl rfl (Or.inr rfl) (⟨hI_n0p, trivial⟩) dX10_races_26
  · refine lv_if_eq (tgt := 20) zx zb dX10_races_7 (by decide) (fun c_31 => ?_) (fun c_31 => absurd (by decide) c_31)
    refine lv_aload_n zx zb dX10_races_20 rfl (lv_at hl 0 rfl) ?_
    refine lv_bipush (v := (-2)) zx zb dX10_races_21 (by decide) ?_
    refine b_wi (cells' := 0) (slots' := 0) (wr := @HAppend.hAppend va_W va_W va_W _ (rcV X nw an sv dv n0 n1 n2 n3 n4 g0 gs gn gm) (rcV X sp adp svp dvp n0p n1p n2p n3p n4p g0p gsp gnp gmp)) G rfl rfl [0, 33] [1, 2, 3, 4, 5, 6, 7, 8, 9, 10, 11, 12, 13, 14, 15, 16, 17, 18, 19, 20, 21, 22, 23, 24, 25, 26, 27, 28, 29, 30, 31, 32] rfl rfl rfl rfl (n_V (As := [.int (-2)]) (rest := []) (C := RX10) (T := TX10) (N := 14) (ci := 8) S G (s_refuse l X h0 nw sp xa la lb fr (-2) H.size) gX10_races_X10_refuse rfl rfl rfl hdV_X10_refuse ⟨Nat.le_of_ble_eq_true rfl, Nat.le_of_ble_eq_true rfl⟩ [0, 33] rfl rfl 0 rfl rfl rfl hl.1 (Nat.le_of_ble_eq_true rfl) dX10_races_23 ⟨Nat.le_of_ble_eq_true rfl, Nat.le_of_ble_eq_true rfl⟩) (fun r_32 u_32 H locs hp_32 G => ?_)
    obtain ⟨f_32, rfl⟩ : ∃ z, z = u_32 := ⟨_, rfl⟩
    have hq_32 := hp_32
    have G : wd X (va_A (@HAppend.hAppend va_W va_W va_W _ (xW h0 nw sp xa la lb) (@HAppend.hAppend va_W va_W va_W _ (rcV X nw an sv dv n0 n1 n2 n3 n4 g0 gs gn gm) (@HAppend.hAppend va_W va_W va_W _ (rcV X sp adp svp dvp n0p n1p n2p n3p n4p g0p gsp gnp gmp) ([((xa 5), .inl (X.2.1, 3, .inl fr))])))) sz) (va_A (@HAppend.hAppend va_W va_W va_W _ (xW h0 nw sp xa la lb) (@HAppend.hAppend va_W va_W va_W _ (rcV X nw an sv dv n0 n1 n2 n3 n4 g0 gs gn gm) (@HAppend.hAppend va_W va_W va_W _ (rcV X sp adp svp dvp n0p n1p n2p n3p n4p g0p gsp gnp gmp) ([((xa 5), .inl (X.2.1, 3, .inl fr))])))) sz) s (@HAppend.hAppend va_W va_W va_W _ (rcV X nw an sv dv n0 n1 n2 n3 n4 g0 gs gn gm) (@HAppend.hAppend va_W va_W va_W _ (rcV X sp adp svp dvp n0p n1p n2p n3p n4p g0p gsp gnp gmp) (@HAppend.hAppend va_W va_W va_W _ (xW h0 nw sp xa la lb) ([((xa 5), .inl (X.2.1, 3, .inl f_32))])))) H locs := G
    exact e_int S zr zlk (vp_nar_int _) G (svp, dvp, n0p, f_32) [32, 0, 1, 2, 3, 4, 5, 6, 7, 8, 9, 10, 11, 12, 13, 14, 15, 16, 17, 18, 19, 20, 21, 22, 23, 24, 25, 26, 27, 28, 29, 30, 31, 33] rfl rfl (Or.inr rfl) (⟨hI_n0p, trivial⟩) dX10_races_26
theorem in_X10_mostAlike_X10 : ∀ w ∈ wsX100, w ∈ wsX10_mostAlike := by decide +kernel
theorem lk_X10_mostAlike_58 : Cond.fieldLink RX10 58 "EggSpoons" "tally" "LEggSpoons$Tally;" ∈ wsX10_mostAlike := by decide +kernel
theorem hdV_X9_restart : yX9_restart.cls = RX9 ∧ yX9_restart.cls ≠ "java/lang/invoke/MethodHandle" ∧ yX9_restart.cls ≠ "java/lang/invoke/VarHandle" ∧ (parseMethodDescriptor yX9_restart.desc).map (fun d => d.parameters.length) = some 0 := by decide +kernel
theorem hdS_X10_farBy : yX10_farBy.cls ≠ "java/lang/invoke/MethodHandle" ∧ yX10_farBy.cls ≠ "java/lang/invoke/VarHandle" ∧ (parseMethodDescriptor yX10_farBy.desc).map (fun d => d.parameters.length) = some 4 := by decide +kernel
theorem hdV_X9_see : yX9_see.cls = RX9 ∧ yX9_see.cls ≠ "java/lang/invoke/MethodHandle" ∧ yX9_see.cls ≠ "java/lang/invoke/VarHandle" ∧ (parseMethodDescriptor yX9_see.desc).map (fun d => d.parameters.length) = some 1 := by decide +kernel
theorem in_X10_mostAlike_X9 : ∀ w ∈ wsX90, w ∈ wsX10_mostAlike := by decide +kernel
theorem lk_X10_mostAlike_317 : Cond.fieldLink RX10 317 "EggSpoons$Tally" "most" "I" ∈ wsX10_mostAlike := by decide +kernel
set_option maxHeartbeats 4000000 in
set_option maxRecDepth 100000 in
/-- mostAlike -/
theorem s_mostAlike0 (l : Launch) (X : EX) (h0 : Nat) (nw : Nat) (sp : Nat) (xa : Nat → Nat) (la : Int64) (lb : Int64) (hc : Nat) (tm : Int32) (tf : Nat → Int32) (hr : Nat) (ar : Nat → Int32) (dr : Nat → Int32) (x3 : Int32) (x4 : Int32) (sz : Nat) : Met l yX10_mostAlike wsX10_mostAlike ({ frames := 2, cells := 0, slots := 0, locals := 49 } : Room) (pE X [.ref h0, .ref hr, .int 0, .int x3, .int x4] (@HAppend.hAppend va_W va_W va_W _ (xW h0 nw sp xa la lb) (@HAppend.hAppend va_W va_W va_W _ ([((xa 10), .inr (7, [.ref hc, .int tm])), (hc, .inl (X.2.1, 16, .inl tf))]) (rnV hr ar dr))) sz) (qI (fun (r : Int32) (u : (Int32) × (Nat → Int32)) => (True)) X (fun (u : (Int32) × (Nat → Int32)) => @HAppend.hAppend va_W va_W va_W _ (xW h0 nw sp xa la lb) (@HAppend.hAppend va_W va_W va_W _ ([((xa 10), .inr (7, [.ref hc, .int u.1])), (hc, .inl (X.2.1, 16, .inl u.2))]) (rnV hr ar dr))) (@HAppend.hAppend va_W va_W va_W _ (xW h0 nw sp xa la lb) (@HAppend.hAppend va_W va_W va_W _ ([((xa 10), .inr (7, [.ref hc, .int tm])), (hc, .inl (X.2.1, 16, .inl tf))]) (rnV hr ar dr))) sz) 0 0 (va_A (@HAppend.hAppend va_W va_W va_W _ (xW h0 nw sp xa la lb) (@HAppend.hAppend va_W va_W va_W _ ([((xa 10), .inr (7, [.ref hc, .int tm])), (hc, .inl (X.2.1, 16, .inl tf))]) (rnV hr ar dr))) sz) := by
  refine mk_met (B := (va_A (@HAppend.hAppend va_W va_W va_W _ (xW h0 nw sp xa la lb) (@HAppend.hAppend va_W va_W va_W _ ([((xa 10), .inr (7, [.ref hc, .int tm])), (hc, .inl (X.2.1, 16, .inl tf))]) (rnV hr ar dr))) sz)) (A := (va_A (@HAppend.hAppend va_W va_W va_W _ (xW h0 nw sp xa la lb) (@HAppend.hAppend va_W va_W va_W _ ([((xa 10), .inr (7, [.ref hc, .int tm])), (hc, .inl (X.2.1, 16, .inl tf))]) (rnV hr ar dr))) sz)) (cc := cX10_mostAlike) (maxL := 6) (ret := (some .int)) (by decide) rfl (Nat.le_of_ble_eq_true rfl) k_w k_a (fun p e s m below meth c S zr zlk znm zsz G ls hl => ?_)
  have S : CallFix p m c cX10_mostAlike 6 s _ wsX10_mostAlike RX10 := S
  have zx := S.1
  have zb := S.2.1
  have hl : lv_has ls 6 [(0, .ref h0), (1, .ref hr), (2, .int 0), (3, .int x3), (4, .int x4)] := hl
  refine lv_aload_n zx zb dX10_mostAlike_0 rfl (lv_at hl 0 rfl) ?_
  refine r_get (C := RX10) (T := TX10) (N := 14) (ci := 8) (v := .ref (xa 10)) S in_X10_mostAlike_X10 G 0 rfl rfl 10 (by decide) lk_X10_mostAlike_58 rfl dX10_mostAlike_1 ?_
  refine b_wv (cells' := 0) (slots' := 0) (wr := @HAppend.hAppend va_W va_W va_W _ (xW h0 nw sp xa la lb) (rnV hr ar dr)) G rfl rfl [1, 2] [0, 3] rfl rfl rfl rfl (n_V (As := []) (rest := []) (C := RX9) (T := TX9) (N := 2) (ci := 7) S G (s_trestart l X (xa 10) hc tm tf s.heap.size) gX10_mostAlike_X9_restart rfl rfl rfl hdV_X9_restart ⟨Nat.le_of_ble_eq_true rfl, Nat.le_of_ble_eq_true rfl⟩ [1, 2] rfl rfl 1 rfl rfl rfl hl.1 (Nat.le_of_ble_eq_true rfl) dX10_mostAlike_4 ⟨Nat.le_of_ble_eq_true rfl, Nat.le_of_ble_eq_true rfl⟩) (fun u_1 H locs hp_1 G => ?_)
  obtain ⟨m_1a, f_1b⟩ := u_1
  have hq_1 := hp_1
  have G : wd X (va_A (@HAppend.hAppend va_W va_W va_W _ (xW h0 nw sp xa la lb) (@HAppend.hAppend va_W va_W va_W _ ([((xa 10), .inr (7, [.ref hc, .int tm])), (hc, .inl (X.2.1, 16, .inl tf))]) (rnV hr ar dr))) sz) (va_A (@HAppend.hAppend va_W va_W va_W _ (xW h0 nw sp xa la lb) (@HAppend.hAppend va_W va_W va_W _ ([((xa 10), .inr (7, [.ref hc, .int tm])), (hc, .inl (X.2.1, 16, .inl tf))]) (rnV hr ar dr))) sz) s (@HAppend.hAppend va_W va_W va_W _ (xW h0 nw sp xa la lb) (@HAppend.hAppend va_W va_W va_W _ (rnV hr ar dr) ([((xa 10), .inr (7, [.ref hc, .int m_1a])), (hc, .inl (X.2.1, 16, .inl f_1b))]))) H locs := G
  refine lv_iconst (v := 0) zx zb dX10_mostAlike_7 (by decide) ?_
  refine lv_istore (lv' := [(5, .int 0), (0, .ref h0), (1, .ref hr), (2, .int 0), (3, .int x3), (4, .int x4)]) zx zb dX10_mostAlike_8 hl (by decide) rfl (fun ls hl => ?_)
  refine k_loop (P := ∀ (zm : Nat) (k10 : Nat) (m10_2 : Int32) (f10_2 : Nat → Int32) (H : Heap) (locs : List Loc) (ls : Array Slot), 10 + 1 ≤ k10 + zm → (k10 ≤ 10) → wd X (va_A (@HAppend.hAppend va_W va_W va_W _ (xW h0 nw sp xa la lb) (@HAppend.hAppend va_W va_W va_W _ ([((xa 10), .inr (7, [.ref hc, .int tm])), (hc, .inl (X.2.1, 16, .inl tf))]) (rnV hr ar dr))) sz) (va_A (@HAppend.hAppend va_W va_W va_W _ (xW h0 nw sp xa la lb) (@HAppend.hAppend va_W va_W va_W _ ([((xa 10), .inr (7, [.ref hc, .int tm])), (hc, .inl (X.2.1, 16, .inl tf))]) (rnV hr ar dr))) sz) s (@HAppend.hAppend va_W va_W va_W _ (xW h0 nw sp xa la lb) (@HAppend.hAppend va_W va_W va_W _ (rnV hr ar dr) ([((xa 10), .inr (7, [.ref hc, .int m10_2])), (hc, .inl (X.2.1, 16, .inl f10_2))]))) H locs → lv_has ls 6 [(5, .int (nI k10)), (0, .ref h0), (1, .ref hr), (2, .int 0), (3, .int x3), (4, .int x4)] → W p l e _ s m _ below meth c H locs _ _ _ (F0 m 10 ls [])) (fun loop => loop (10 + 1) 0 m_1a f_1b _ _ _ (by omega) (by omega) G hl) ?_
  intro zm
  induction zm with
  | zero => intro k10 m10_2 f10_2 H locs ls zz q_hk_k10 _ _; exact absurd zz (by omega)
  | succ zm ih10 =>
    intro k10 m10_2 f10_2 H locs ls zm_10 hk_k10 G hl
    refine lv_iload zx zb dX10_mostAlike_10 (lv_at hl 0 rfl) ?_
    refine lv_bipush (v := 9) zx zb dX10_mostAlike_12 (by decide) ?_
    refine lv_icmp_gt (tgt := 48) zx zb dX10_mostAlike_14 (by decide) (fun c_2 => ?_) (fun c_2 => ?_)
    · have fc_2 := j_lt (a := 9) (b := k10) (by omega) (by omega) c_2
      refine lv_aload_n zx zb dX10_mostAlike_48 rfl (lv_at hl 1 rfl) ?_
      refine r_get (C := RX10) (T := TX10) (N := 14) (ci := 8) (v := .ref (xa 10)) S in_X10_mostAlike_X10 G 0 rfl rfl 10 (by decide) lk_X10_mostAlike_58 rfl dX10_mostAlike_49 ?_
      refine r_get (C := RX9) (T := TX9) (N := 2) (ci := 7) (v := .int m10_2) S in_X10_mostAlike_X9 G 2 rfl rfl 1 (by decide) lk_X10_mostAlike_317 rfl dX10_mostAlike_52 ?_
      exact e_int S zr zlk (vp_nar_int _) G (m10_2, f10_2) [0, 2, 3, 1] rfl rfl (Or.inr rfl) (trivial) dX10_mostAlike_55
    · have fc_2 := j_nlt (a := 9) (b := k10) (by omega) (by omega) c_2
      refine lv_iload_n zx zb dX10_mostAlike_17 rfl (lv_at hl 4 rfl) ?_
      refine lv_iload zx zb dX10_mostAlike_18 (lv_at hl 0 rfl) ?_
      refine o_ri (cells' := 0) (slots' := 0) G rfl rfl (n_S (As := [.int x3, .int (nI k10)]) (rest := []) S G (s_hasBit l X x3 (nI k10) H.size) gX10_mostAlike_X10_hasBit rfl rfl rfl hdS_X10_hasBit ⟨Nat.le_of_ble_eq_true rfl, Nat.le_of_ble_eq_true rfl⟩ [] rfl rfl rfl hl.1 (Nat.le_of_ble_eq_true rfl) dX10_mostAlike_20 ⟨Nat.le_of_ble_eq_true rfl, Nat.le_of_ble_eq_true rfl⟩) (fun r_3 u_3 H locs hp_3 G => ?_)
      have G : wd X (va_A (@HAppend.hAppend va_W va_W va_W _ (xW h0 nw sp xa la lb) (@HAppend.hAppend va_W va_W va_W _ ([((xa 10), .inr (7, [.ref hc, .int tm])), (hc, .inl (X.2.1, 16, .inl tf))]) (rnV hr ar dr))) sz) (va_A (@HAppend.hAppend va_W va_W va_W _ (xW h0 nw sp xa la lb) (@HAppend.hAppend va_W va_W va_W _ ([((xa 10), .inr (7, [.ref hc, .int tm])), (hc, .inl (X.2.1, 16, .inl tf))]) (rnV hr ar dr))) sz) s (@HAppend.hAppend va_W va_W va_W _ (xW h0 nw sp xa la lb) (@HAppend.hAppend va_W va_W va_W _ (rnV hr ar dr) ([((xa 10), .inr (7, [.ref hc, .int m10_2])), (hc, .inl (X.2.1, 16, .inl f10_2))]))) H locs := G
      refine k_cutW (PP := fun Wx => ∀ (m_5 : Int32) (f_6 : Nat → Int32) (H : Heap) (locs : List Loc) (ls : Array Slot), wd X (va_A (@HAppend.hAppend va_W va_W va_W _ (xW h0 nw sp xa la lb) (@HAppend.hAppend va_W va_W va_W _ ([((xa 10), .inr (7, [.ref hc, .int tm])), (hc, .inl (X.2.1, 16, .inl tf))]) (rnV hr ar dr))) sz) (va_A (@HAppend.hAppend va_W va_W va_W _ (xW h0 nw sp xa la lb) (@HAppend.hAppend va_W va_W va_W _ ([((xa 10), .inr (7, [.ref hc, .int tm])), (hc, .inl (X.2.1, 16, .inl tf))]) (rnV hr ar dr))) sz) s (@HAppend.hAppend va_W va_W va_W _ (xW h0 nw sp xa la lb) (@HAppend.hAppend va_W va_W va_W _ (rnV hr ar dr) ([((xa 10), .inr (7, [.ref hc, .int m_5])), (hc, .inl (X.2.1, 16, .inl f_6))]))) H locs → lv_has ls 6 [(5, .int (nI k10)), (0, .ref h0), (1, .ref hr), (2, .int 0), (3, .int x3), (4, .int x4)] → Wx (F0 m 42 ls []) H locs) ?_ ?_
      · intro join_23
        refine lv_if_eq (tgt := 42) zx zb dX10_mostAlike_23 (by decide) (fun c_4 => ?_) (fun c_4 => ?_)
        · exact join_23 m10_2 f10_2 _ _ _  G hl
        · refine lv_aload_n zx zb dX10_mostAlike_26 rfl (lv_at hl 1 rfl) ?_
          refine r_get (C := RX10) (T := TX10) (N := 14) (ci := 8) (v := .ref (xa 10)) S in_X10_mostAlike_X10 G 0 rfl rfl 10 (by decide) lk_X10_mostAlike_58 rfl dX10_mostAlike_27 ?_
          refine lv_aload_n zx zb dX10_mostAlike_30 rfl (lv_at hl 2 rfl) ?_
          refine lv_iload_n zx zb dX10_mostAlike_31 rfl (lv_at hl 3 rfl) ?_
          refine lv_iload zx zb dX10_mostAlike_32 (lv_at hl 0 rfl) ?_
          refine lv_iload zx zb dX10_mostAlike_34 (lv_at hl 5 rfl) ?_
          refine o_ri (cells' := 0) (slots' := 0) G rfl rfl (n_S (As := [.ref hr, .int 0, .int (nI k10), .int x4]) (rest := [.ref (xa 10)]) S G (s_farBy0 l X hr ar dr (nI k10) x4 H.size) gX10_mostAlike_X10_farBy rfl rfl rfl hdS_X10_farBy ⟨Nat.le_of_ble_eq_true rfl, Nat.le_of_ble_eq_true rfl⟩ [1] rfl rfl rfl hl.1 (Nat.le_of_ble_eq_true rfl) dX10_mostAlike_36 ⟨Nat.le_of_ble_eq_true rfl, Nat.le_of_ble_eq_true rfl⟩) (fun r_7 u_7 H locs hp_7 G => ?_)
          have G : wd X (va_A (@HAppend.hAppend va_W va_W va_W _ (xW h0 nw sp xa la lb) (@HAppend.hAppend va_W va_W va_W _ ([((xa 10), .inr (7, [.ref hc, .int tm])), (hc, .inl (X.2.1, 16, .inl tf))]) (rnV hr ar dr))) sz) (va_A (@HAppend.hAppend va_W va_W va_W _ (xW h0 nw sp xa la lb) (@HAppend.hAppend va_W va_W va_W _ ([((xa 10), .inr (7, [.ref hc, .int tm])), (hc, .inl (X.2.1, 16, .inl tf))]) (rnV hr ar dr))) sz) s (@HAppend.hAppend va_W va_W va_W _ (xW h0 nw sp xa la lb) (@HAppend.hAppend va_W va_W va_W _ (rnV hr ar dr) ([((xa 10), .inr (7, [.ref hc, .int m10_2])), (hc, .inl (X.2.1, 16, .inl f10_2))]))) H locs := G
          refine b_wv (cells' := 0) (slots' := 0) (wr := @HAppend.hAppend va_W va_W va_W _ (xW h0 nw sp xa la lb) (rnV hr ar dr)) G rfl rfl [2, 3] [0, 1] rfl rfl rfl rfl (n_V (As := [.int r_7]) (rest := []) (C := RX9) (T := TX9) (N := 2) (ci := 7) S G (s_see l X (xa 10) hc m10_2 f10_2 r_7 H.size) gX10_mostAlike_X9_see rfl rfl rfl hdV_X9_see ⟨Nat.le_of_ble_eq_true rfl, Nat.le_of_ble_eq_true rfl⟩ [2, 3] rfl rfl 2 rfl rfl rfl hl.1 (Nat.le_of_ble_eq_true rfl) dX10_mostAlike_39 ⟨Nat.le_of_ble_eq_true rfl, Nat.le_of_ble_eq_true rfl⟩) (fun u_8 H locs hp_8 G => ?_)
          obtain ⟨m_8a, f_8b⟩ := u_8
          have hq_8 := hp_8
          have G : wd X (va_A (@HAppend.hAppend va_W va_W va_W _ (xW h0 nw sp xa la lb) (@HAppend.hAppend va_W va_W va_W _ ([((xa 10), .inr (7, [.ref hc, .int tm])), (hc, .inl (X.2.1, 16, .inl tf))]) (rnV hr ar dr))) sz) (va_A (@HAppend.hAppend va_W va_W va_W _ (xW h0 nw sp xa la lb) (@HAppend.hAppend va_W va_W va_W _ ([((xa 10), .inr (7, [.ref hc, .int tm])), (hc, .inl (X.2.1, 16, .inl tf))]) (rnV hr ar dr))) sz) s (@HAppend.hAppend va_W va_W va_W _ (xW h0 nw sp xa la lb) (@HAppend.hAppend va_W va_W va_W _ (rnV hr ar dr) ([((xa 10), .inr (7, [.ref hc, .int m_8a])), (hc, .inl (X.2.1, 16, .inl f_8b))]))) H locs := G
          exact join_23 m_8a f_8b _ _ _  G hl
      · intro m_5 f_6 H locs ls  G hl
        refine lv_iinc (v := (nI (k10 + 1))) (lv' := [(5, .int (nI (k10 + 1))), (0, .ref h0), (1, .ref hr), (2, .int 0), (3, .int x3), (4, .int x4)]) zx zb dX10_mostAlike_42 hl (k := 0) rfl (nI_add k10 1) (by decide) rfl (fun ls hl => ?_)
        refine lv_goto (tgt := 10) zx zb dX10_mostAlike_45 (by decide) ?_
        exact ih10 (k10 + 1) m_5 f_6 _ _ _ (by omega) (by omega) G hl
