set_option maxRecDepth 20000 in
theorem ggX10_farBy_X1_limit : GoodIn wsX10_farBy wsX1_limit := goodIn_r _ [10] rfl (by decide +kernel)
set_option maxRecDepth 20000 in
theorem gX10_farBy_X1_limit : GoodIn wsX10_farBy (va_wsS RX10 331 yX1_limit wsX1_limit) := goodIn_app (goodIn_of _ (by decide +kernel)) ggX10_farBy_X1_limit
set_option maxRecDepth 20000 in
theorem ggX10_farBy_X2_reach : GoodIn wsX10_farBy wsX2_reach := goodIn_r _ [6] rfl (by decide +kernel)
set_option maxRecDepth 20000 in
theorem gX10_farBy_X2_reach : GoodIn wsX10_farBy (va_wsS RX10 323 yX2_reach wsX2_reach) := goodIn_app (goodIn_of _ (by decide +kernel)) ggX10_farBy_X2_reach
set_option maxRecDepth 20000 in
theorem ggX10_homeTurning_X10_homeBehind : GoodIn wsX10_homeTurning wsX10_homeBehind := goodIn_r _ [14, 5, 7, 15, 8, 9, 16, 17, 18, 19, 20, 21, 22, 23, 24, 25, 26, 27, 28, 29, 30, 31, 32, 33, 34, 35, 36, 37, 38, 39, 40, 41, 42, 43, 44, 45, 46, 47, 48, 49, 50, 51, 52, 53, 54, 55, 56, 57, 58, 59, 60, 61, 62, 71, 72, 73, 74, 75, 76, 77, 78, 63, 64, 65, 66, 67, 68, 69, 70] rfl (by decide +kernel)
set_option maxRecDepth 20000 in
theorem gX10_homeTurning_X10_homeBehind : GoodIn wsX10_homeTurning (wsV RX10 156 RX10 yX10_homeBehind wsX10_homeBehind) := goodIn_app (goodIn_of _ (by decide +kernel)) ggX10_homeTurning_X10_homeBehind
set_option maxRecDepth 20000 in
theorem ggX10_homeTurning_X8_ticksToHome : GoodIn wsX10_homeTurning wsX8_ticksToHome := goodIn_r _ [32, 33, 34, 35, 19, 36, 28, 37, 38, 39, 40, 27, 21, 22, 24, 23, 26, 25, 41, 42, 43, 44, 45, 46, 47, 48, 63, 64, 65, 66, 67, 68, 69, 70] rfl (by decide +kernel)
set_option maxRecDepth 20000 in
theorem gX10_homeTurning_X8_ticksToHome : GoodIn wsX10_homeTurning (wsV RX10 165 RX8 yX8_ticksToHome wsX8_ticksToHome) := goodIn_app (goodIn_of _ (by decide +kernel)) ggX10_homeTurning_X8_ticksToHome
set_option maxRecDepth 20000 in
theorem ggX10_note_X10_refuse : GoodIn wsX10_note wsX10_refuse := goodIn_r _ [16, 17, 26, 27, 28, 29, 30, 31, 32, 33, 34, 35, 36, 37, 38, 39] rfl (by decide +kernel)
set_option maxRecDepth 20000 in
theorem gX10_note_X10_refuse : GoodIn wsX10_note (wsV RX10 83 RX10 yX10_refuse wsX10_refuse) := goodIn_app (goodIn_of _ (by decide +kernel)) ggX10_note_X10_refuse
set_option maxRecDepth 20000 in
theorem ggX10_note_X10_there : GoodIn wsX10_note wsX10_there := goodIn_r _ [8, 1, 9, 26, 27, 28, 29, 30, 31, 32, 33, 34, 35, 36, 37, 38, 39, 40, 41, 42, 43, 44, 45, 46, 47] rfl (by decide +kernel)
set_option maxRecDepth 20000 in
theorem gX10_note_X10_there : GoodIn wsX10_note (wsV RX10 123 RX10 yX10_there wsX10_there) := goodIn_app (goodIn_of _ (by decide +kernel)) ggX10_note_X10_there
set_option maxRecDepth 20000 in
theorem ggX10_note_X10_within : GoodIn wsX10_note wsX10_within := goodIn_r _ [12] rfl (by decide +kernel)
set_option maxRecDepth 20000 in
theorem gX10_note_X10_within : GoodIn wsX10_note (va_wsS RX10 79 yX10_within wsX10_within) := goodIn_app (goodIn_of _ (by decide +kernel)) ggX10_note_X10_within
set_option maxRecDepth 20000 in
theorem ggX10_note_X7_append : GoodIn wsX10_note wsX7_append := goodIn_r _ [22, 23, 24, 25, 48, 49, 50, 51, 52] rfl (by decide +kernel)
set_option maxRecDepth 20000 in
theorem gX10_note_X7_append : GoodIn wsX10_note (wsV RX10 189 RX7 yX7_append wsX7_append) := goodIn_app (goodIn_of _ (by decide +kernel)) ggX10_note_X7_append
set_option maxRecDepth 20000 in
theorem ggX10_seen_X10_refuse : GoodIn wsX10_seen wsX10_refuse := goodIn_r _ [16, 17, 26, 27, 28, 29, 30, 31, 32, 33, 34, 35, 36, 37, 38, 39] rfl (by decide +kernel)
set_option maxRecDepth 20000 in
theorem gX10_seen_X10_refuse : GoodIn wsX10_seen (wsV RX10 83 RX10 yX10_refuse wsX10_refuse) := goodIn_app (goodIn_of _ (by decide +kernel)) ggX10_seen_X10_refuse
set_option maxRecDepth 20000 in
theorem ggX10_seen_X10_there : GoodIn wsX10_seen wsX10_there := goodIn_r _ [8, 1, 9, 26, 27, 28, 29, 30, 31, 32, 33, 34, 35, 36, 37, 38, 39, 40, 41, 42, 43, 44, 45, 46, 47] rfl (by decide +kernel)
set_option maxRecDepth 20000 in
theorem gX10_seen_X10_there : GoodIn wsX10_seen (wsV RX10 123 RX10 yX10_there wsX10_there) := goodIn_app (goodIn_of _ (by decide +kernel)) ggX10_seen_X10_there
set_option maxRecDepth 20000 in
theorem ggX10_seen_X10_within : GoodIn wsX10_seen wsX10_within := goodIn_r _ [12] rfl (by decide +kernel)
set_option maxRecDepth 20000 in
theorem gX10_seen_X10_within : GoodIn wsX10_seen (va_wsS RX10 79 yX10_within wsX10_within) := goodIn_app (goodIn_of _ (by decide +kernel)) ggX10_seen_X10_within
set_option maxRecDepth 20000 in
theorem ggX10_seen_X7_append : GoodIn wsX10_seen wsX7_append := goodIn_r _ [22, 23, 24, 25, 48, 49, 50, 51, 52] rfl (by decide +kernel)
set_option maxRecDepth 20000 in
theorem gX10_seen_X7_append : GoodIn wsX10_seen (wsV RX10 189 RX7 yX7_append wsX7_append) := goodIn_app (goodIn_of _ (by decide +kernel)) ggX10_seen_X7_append
set_option maxRecDepth 20000 in
theorem ggX10_turn_X10_homeTurning : GoodIn wsX10_turn wsX10_homeTurning := goodIn_r _ [26, 27, 28, 29, 30, 31, 32, 1, 33, 34, 35, 36, 37, 6, 38, 2, 39, 40, 41, 20, 42, 43, 44, 45, 46, 47, 48, 49, 22, 50, 51, 52, 53, 54, 18, 19, 21, 55, 56, 57, 58, 59, 60, 61, 62, 63, 64, 65, 66, 67, 68, 69, 70, 71, 72, 73, 74, 75, 76, 77, 78, 79, 80, 89, 90, 91, 92, 93, 94, 95, 96, 81, 82, 83, 84, 85, 86, 87, 88] rfl (by decide +kernel)
set_option maxRecDepth 20000 in
theorem gX10_turn_X10_homeTurning : GoodIn wsX10_turn (wsV RX10 168 RX10 yX10_homeTurning wsX10_homeTurning) := goodIn_app (goodIn_of _ (by decide +kernel)) ggX10_turn_X10_homeTurning
set_option maxRecDepth 20000 in
theorem ggX10_turn_X10_refuse : GoodIn wsX10_turn wsX10_refuse := goodIn_r _ [15, 16, 67, 68, 69, 70, 71, 72, 73, 74, 75, 76, 77, 78, 79, 80] rfl (by decide +kernel)
set_option maxRecDepth 20000 in
theorem gX10_turn_X10_refuse : GoodIn wsX10_turn (wsV RX10 83 RX10 yX10_refuse wsX10_refuse) := goodIn_app (goodIn_of _ (by decide +kernel)) ggX10_turn_X10_refuse
set_option maxRecDepth 20000 in
theorem ggX10_turn_X10_there : GoodIn wsX10_turn wsX10_there := goodIn_r _ [7, 1, 8, 67, 68, 69, 70, 71, 72, 73, 74, 75, 76, 77, 78, 79, 80, 81, 82, 83, 84, 85, 86, 87, 88] rfl (by decide +kernel)
set_option maxRecDepth 20000 in
theorem gX10_turn_X10_there : GoodIn wsX10_turn (wsV RX10 123 RX10 yX10_there wsX10_there) := goodIn_app (goodIn_of _ (by decide +kernel)) ggX10_turn_X10_there
set_option maxRecDepth 20000 in
theorem ggX10_turn_X10_within : GoodIn wsX10_turn wsX10_within := goodIn_r _ [11] rfl (by decide +kernel)
set_option maxRecDepth 20000 in
theorem gX10_turn_X10_within : GoodIn wsX10_turn (va_wsS RX10 79 yX10_within wsX10_within) := goodIn_app (goodIn_of _ (by decide +kernel)) ggX10_turn_X10_within
set_option maxRecDepth 20000 in
theorem ggX10_turn_X8_isHome : GoodIn wsX10_turn wsX8_isHome := goodIn_r _ [21, 22, 89, 90, 91, 92, 93, 94, 95, 96] rfl (by decide +kernel)
set_option maxRecDepth 20000 in
theorem gX10_turn_X8_isHome : GoodIn wsX10_turn (wsV RX10 133 RX8 yX8_isHome wsX8_isHome) := goodIn_app (goodIn_of _ (by decide +kernel)) ggX10_turn_X8_isHome
theorem dJ6_bitCount_0f7a4_0 : decode cJ6_bitCount_0f7a4 0 = .ok (.iload_n 0, 1) := by decide +kernel
theorem dJ6_bitCount_0f7a4_1 : decode cJ6_bitCount_0f7a4 1 = .ok (.iload_n 0, 1) := by decide +kernel
theorem dJ6_bitCount_0f7a4_10 : decode cJ6_bitCount_0f7a4 10 = .ok (.iload_n 0, 1) := by decide +kernel
theorem dJ6_bitCount_0f7a4_11 : decode cJ6_bitCount_0f7a4 11 = .ok (.ldc_w 266, 3) := by decide +kernel
theorem dJ6_bitCount_0f7a4_14 : decode cJ6_bitCount_0f7a4 14 = .ok (.iand, 1) := by decide +kernel
theorem dJ6_bitCount_0f7a4_15 : decode cJ6_bitCount_0f7a4 15 = .ok (.iload_n 0, 1) := by decide +kernel
theorem dJ6_bitCount_0f7a4_16 : decode cJ6_bitCount_0f7a4 16 = .ok (.iconst 2, 1) := by decide +kernel
theorem dJ6_bitCount_0f7a4_17 : decode cJ6_bitCount_0f7a4 17 = .ok (.iushr, 1) := by decide +kernel
theorem dJ6_bitCount_0f7a4_18 : decode cJ6_bitCount_0f7a4 18 = .ok (.ldc_w 266, 3) := by decide +kernel
theorem dJ6_bitCount_0f7a4_2 : decode cJ6_bitCount_0f7a4 2 = .ok (.iconst 1, 1) := by decide +kernel
theorem dJ6_bitCount_0f7a4_21 : decode cJ6_bitCount_0f7a4 21 = .ok (.iand, 1) := by decide +kernel
theorem dJ6_bitCount_0f7a4_22 : decode cJ6_bitCount_0f7a4 22 = .ok (.iadd, 1) := by decide +kernel
theorem dJ6_bitCount_0f7a4_23 : decode cJ6_bitCount_0f7a4 23 = .ok (.istore_n 0, 1) := by decide +kernel
theorem dJ6_bitCount_0f7a4_24 : decode cJ6_bitCount_0f7a4 24 = .ok (.iload_n 0, 1) := by decide +kernel
theorem dJ6_bitCount_0f7a4_25 : decode cJ6_bitCount_0f7a4 25 = .ok (.iload_n 0, 1) := by decide +kernel
theorem dJ6_bitCount_0f7a4_26 : decode cJ6_bitCount_0f7a4 26 = .ok (.iconst 4, 1) := by decide +kernel
theorem dJ6_bitCount_0f7a4_27 : decode cJ6_bitCount_0f7a4 27 = .ok (.iushr, 1) := by decide +kernel
theorem dJ6_bitCount_0f7a4_28 : decode cJ6_bitCount_0f7a4 28 = .ok (.iadd, 1) := by decide +kernel
theorem dJ6_bitCount_0f7a4_29 : decode cJ6_bitCount_0f7a4 29 = .ok (.ldc_w 267, 3) := by decide +kernel
theorem dJ6_bitCount_0f7a4_3 : decode cJ6_bitCount_0f7a4 3 = .ok (.iushr, 1) := by decide +kernel
theorem dJ6_bitCount_0f7a4_32 : decode cJ6_bitCount_0f7a4 32 = .ok (.iand, 1) := by decide +kernel
theorem dJ6_bitCount_0f7a4_33 : decode cJ6_bitCount_0f7a4 33 = .ok (.istore_n 0, 1) := by decide +kernel
theorem dJ6_bitCount_0f7a4_34 : decode cJ6_bitCount_0f7a4 34 = .ok (.iload_n 0, 1) := by decide +kernel
theorem dJ6_bitCount_0f7a4_35 : decode cJ6_bitCount_0f7a4 35 = .ok (.iload_n 0, 1) := by decide +kernel
theorem dJ6_bitCount_0f7a4_36 : decode cJ6_bitCount_0f7a4 36 = .ok (.bipush 8, 2) := by decide +kernel
theorem dJ6_bitCount_0f7a4_38 : decode cJ6_bitCount_0f7a4 38 = .ok (.iushr, 1) := by decide +kernel
theorem dJ6_bitCount_0f7a4_39 : decode cJ6_bitCount_0f7a4 39 = .ok (.iadd, 1) := by decide +kernel
theorem dJ6_bitCount_0f7a4_4 : decode cJ6_bitCount_0f7a4 4 = .ok (.ldc_w 265, 3) := by decide +kernel
theorem dJ6_bitCount_0f7a4_40 : decode cJ6_bitCount_0f7a4 40 = .ok (.istore_n 0, 1) := by decide +kernel
theorem dJ6_bitCount_0f7a4_41 : decode cJ6_bitCount_0f7a4 41 = .ok (.iload_n 0, 1) := by decide +kernel
theorem dJ6_bitCount_0f7a4_42 : decode cJ6_bitCount_0f7a4 42 = .ok (.iload_n 0, 1) := by decide +kernel
theorem dJ6_bitCount_0f7a4_43 : decode cJ6_bitCount_0f7a4 43 = .ok (.bipush 16, 2) := by decide +kernel
theorem dJ6_bitCount_0f7a4_45 : decode cJ6_bitCount_0f7a4 45 = .ok (.iushr, 1) := by decide +kernel
theorem dJ6_bitCount_0f7a4_46 : decode cJ6_bitCount_0f7a4 46 = .ok (.iadd, 1) := by decide +kernel
theorem dJ6_bitCount_0f7a4_47 : decode cJ6_bitCount_0f7a4 47 = .ok (.istore_n 0, 1) := by decide +kernel
theorem dJ6_bitCount_0f7a4_48 : decode cJ6_bitCount_0f7a4 48 = .ok (.iload_n 0, 1) := by decide +kernel
theorem dJ6_bitCount_0f7a4_49 : decode cJ6_bitCount_0f7a4 49 = .ok (.bipush 63, 2) := by decide +kernel
theorem dJ6_bitCount_0f7a4_51 : decode cJ6_bitCount_0f7a4 51 = .ok (.iand, 1) := by decide +kernel
theorem dJ6_bitCount_0f7a4_52 : decode cJ6_bitCount_0f7a4 52 = .ok (.ireturn, 1) := by decide +kernel
theorem dJ6_bitCount_0f7a4_7 : decode cJ6_bitCount_0f7a4 7 = .ok (.iand, 1) := by decide +kernel
theorem dJ6_bitCount_0f7a4_8 : decode cJ6_bitCount_0f7a4 8 = .ok (.isub, 1) := by decide +kernel
theorem dJ6_bitCount_0f7a4_9 : decode cJ6_bitCount_0f7a4 9 = .ok (.istore_n 0, 1) := by decide +kernel
theorem dX10_farBy_0 : decode cX10_farBy 0 = .ok (.iload_n 1, 1) := by decide +kernel
theorem dX10_farBy_1 : decode cX10_farBy 1 = .ok (.lookupswitch 61 #[(0, 27), (1, 44)], 27) := by decide +kernel
theorem dX10_farBy_28 : decode cX10_farBy 28 = .ok (.aload_n 0, 1) := by decide +kernel
theorem dX10_farBy_29 : decode cX10_farBy 29 = .ok (.getfield 320, 3) := by decide +kernel
theorem dX10_farBy_32 : decode cX10_farBy 32 = .ok (.iload_n 2, 1) := by decide +kernel
theorem dX10_farBy_33 : decode cX10_farBy 33 = .ok (.iload_n 3, 1) := by decide +kernel
theorem dX10_farBy_34 : decode cX10_farBy 34 = .ok (.bipush 10, 2) := by decide +kernel
theorem dX10_farBy_36 : decode cX10_farBy 36 = .ok (.idiv, 1) := by decide +kernel
theorem dX10_farBy_37 : decode cX10_farBy 37 = .ok (.iload_n 3, 1) := by decide +kernel
theorem dX10_farBy_38 : decode cX10_farBy 38 = .ok (.bipush 10, 2) := by decide +kernel
theorem dX10_farBy_40 : decode cX10_farBy 40 = .ok (.irem, 1) := by decide +kernel
theorem dX10_farBy_41 : decode cX10_farBy 41 = .ok (.invokestatic 323, 3) := by decide +kernel
theorem dX10_farBy_44 : decode cX10_farBy 44 = .ok (.ireturn, 1) := by decide +kernel
theorem dX10_farBy_45 : decode cX10_farBy 45 = .ok (.iload_n 2, 1) := by decide +kernel
theorem dX10_farBy_46 : decode cX10_farBy 46 = .ok (.aload_n 0, 1) := by decide +kernel
theorem dX10_farBy_47 : decode cX10_farBy 47 = .ok (.getfield 328, 3) := by decide +kernel
theorem dX10_farBy_50 : decode cX10_farBy 50 = .ok (.iload_n 3, 1) := by decide +kernel
theorem dX10_farBy_51 : decode cX10_farBy 51 = .ok (.bipush 10, 2) := by decide +kernel
theorem dX10_farBy_53 : decode cX10_farBy 53 = .ok (.idiv, 1) := by decide +kernel
theorem dX10_farBy_54 : decode cX10_farBy 54 = .ok (.iload_n 3, 1) := by decide +kernel
theorem dX10_farBy_55 : decode cX10_farBy 55 = .ok (.bipush 10, 2) := by decide +kernel
theorem dX10_farBy_57 : decode cX10_farBy 57 = .ok (.irem, 1) := by decide +kernel
theorem dX10_farBy_58 : decode cX10_farBy 58 = .ok (.invokestatic 323, 3) := by decide +kernel
theorem dX10_farBy_61 : decode cX10_farBy 61 = .ok (.ireturn, 1) := by decide +kernel
theorem dX10_farBy_62 : decode cX10_farBy 62 = .ok (.iload_n 2, 1) := by decide +kernel
theorem dX10_farBy_63 : decode cX10_farBy 63 = .ok (.iload_n 3, 1) := by decide +kernel
theorem dX10_farBy_64 : decode cX10_farBy 64 = .ok (.invokestatic 331, 3) := by decide +kernel
theorem dX10_farBy_67 : decode cX10_farBy 67 = .ok (.ireturn, 1) := by decide +kernel
theorem dX10_hasBit_0 : decode cX10_hasBit 0 = .ok (.iload_n 0, 1) := by decide +kernel
theorem dX10_hasBit_1 : decode cX10_hasBit 1 = .ok (.iload_n 1, 1) := by decide +kernel
theorem dX10_hasBit_10 : decode cX10_hasBit 10 = .ok (.goto 4, 3) := by decide +kernel
theorem dX10_hasBit_13 : decode cX10_hasBit 13 = .ok (.iconst 0, 1) := by decide +kernel
theorem dX10_hasBit_14 : decode cX10_hasBit 14 = .ok (.ireturn, 1) := by decide +kernel
theorem dX10_hasBit_2 : decode cX10_hasBit 2 = .ok (.ishr, 1) := by decide +kernel
theorem dX10_hasBit_3 : decode cX10_hasBit 3 = .ok (.iconst 1, 1) := by decide +kernel
theorem dX10_hasBit_4 : decode cX10_hasBit 4 = .ok (.iand, 1) := by decide +kernel
theorem dX10_hasBit_5 : decode cX10_hasBit 5 = .ok (.iconst 1, 1) := by decide +kernel
theorem dX10_hasBit_6 : decode cX10_hasBit 6 = .ok (.if_icmp .ne 7, 3) := by decide +kernel
theorem dX10_hasBit_9 : decode cX10_hasBit 9 = .ok (.iconst 1, 1) := by decide +kernel
theorem dX10_homeTurning_0 : decode cX10_homeTurning 0 = .ok (.aload_n 0, 1) := by decide +kernel
theorem dX10_homeTurning_1 : decode cX10_homeTurning 1 = .ok (.iload_n 1, 1) := by decide +kernel
theorem dX10_homeTurning_11 : decode cX10_homeTurning 11 = .ok (.istore 5, 2) := by decide +kernel
theorem dX10_homeTurning_13 : decode cX10_homeTurning 13 = .ok (.iload 5, 2) := by decide +kernel
theorem dX10_homeTurning_15 : decode cX10_homeTurning 15 = .ok (.iconst (-1), 1) := by decide +kernel
theorem dX10_homeTurning_16 : decode cX10_homeTurning 16 = .ok (.if_icmp .ne 9, 3) := by decide +kernel
theorem dX10_homeTurning_19 : decode cX10_homeTurning 19 = .ok (.iload_n 3, 1) := by decide +kernel
theorem dX10_homeTurning_2 : decode cX10_homeTurning 2 = .ok (.iload_n 3, 1) := by decide +kernel
theorem dX10_homeTurning_20 : decode cX10_homeTurning 20 = .ok (.iload 4, 2) := by decide +kernel
theorem dX10_homeTurning_22 : decode cX10_homeTurning 22 = .ok (.if_icmp .lt 6, 3) := by decide +kernel
theorem dX10_homeTurning_25 : decode cX10_homeTurning 25 = .ok (.iload 5, 2) := by decide +kernel
theorem dX10_homeTurning_27 : decode cX10_homeTurning 27 = .ok (.ireturn, 1) := by decide +kernel
theorem dX10_homeTurning_28 : decode cX10_homeTurning 28 = .ok (.aload_n 0, 1) := by decide +kernel
theorem dX10_homeTurning_29 : decode cX10_homeTurning 29 = .ok (.getfield 48, 3) := by decide +kernel
theorem dX10_homeTurning_3 : decode cX10_homeTurning 3 = .ok (.iload 4, 2) := by decide +kernel
theorem dX10_homeTurning_32 : decode cX10_homeTurning 32 = .ok (.iload_n 2, 1) := by decide +kernel
theorem dX10_homeTurning_33 : decode cX10_homeTurning 33 = .ok (.putfield 130, 3) := by decide +kernel
theorem dX10_homeTurning_36 : decode cX10_homeTurning 36 = .ok (.aload_n 0, 1) := by decide +kernel
theorem dX10_homeTurning_37 : decode cX10_homeTurning 37 = .ok (.getfield 48, 3) := by decide +kernel
theorem dX10_homeTurning_40 : decode cX10_homeTurning 40 = .ok (.aload_n 0, 1) := by decide +kernel
theorem dX10_homeTurning_41 : decode cX10_homeTurning 41 = .ok (.getfield 10, 3) := by decide +kernel
theorem dX10_homeTurning_44 : decode cX10_homeTurning 44 = .ok (.getfield 110, 3) := by decide +kernel
theorem dX10_homeTurning_47 : decode cX10_homeTurning 47 = .ok (.iload_n 3, 1) := by decide +kernel
theorem dX10_homeTurning_48 : decode cX10_homeTurning 48 = .ok (.iadd, 1) := by decide +kernel
theorem dX10_homeTurning_49 : decode cX10_homeTurning 49 = .ok (.aload_n 0, 1) := by decide +kernel
theorem dX10_homeTurning_5 : decode cX10_homeTurning 5 = .ok (.invokestatic 300, 3) := by decide +kernel
theorem dX10_homeTurning_50 : decode cX10_homeTurning 50 = .ok (.getfield 10, 3) := by decide +kernel
theorem dX10_homeTurning_53 : decode cX10_homeTurning 53 = .ok (.getfield 140, 3) := by decide +kernel
theorem dX10_homeTurning_56 : decode cX10_homeTurning 56 = .ok (.iload 4, 2) := by decide +kernel
theorem dX10_homeTurning_58 : decode cX10_homeTurning 58 = .ok (.iload_n 3, 1) := by decide +kernel
theorem dX10_homeTurning_59 : decode cX10_homeTurning 59 = .ok (.isub, 1) := by decide +kernel
theorem dX10_homeTurning_60 : decode cX10_homeTurning 60 = .ok (.invokevirtual 165, 3) := by decide +kernel
theorem dX10_homeTurning_63 : decode cX10_homeTurning 63 = .ok (.istore 6, 2) := by decide +kernel
theorem dX10_homeTurning_65 : decode cX10_homeTurning 65 = .ok (.iload 6, 2) := by decide +kernel
theorem dX10_homeTurning_67 : decode cX10_homeTurning 67 = .ok (.iconst (-1), 1) := by decide +kernel
theorem dX10_homeTurning_68 : decode cX10_homeTurning 68 = .ok (.if_icmp .ne 7, 3) := by decide +kernel
theorem dX10_homeTurning_71 : decode cX10_homeTurning 71 = .ok (.iconst (-1), 1) := by decide +kernel
theorem dX10_homeTurning_72 : decode cX10_homeTurning 72 = .ok (.goto 7, 3) := by decide +kernel
theorem dX10_homeTurning_75 : decode cX10_homeTurning 75 = .ok (.iload_n 3, 1) := by decide +kernel
theorem dX10_homeTurning_76 : decode cX10_homeTurning 76 = .ok (.iload 6, 2) := by decide +kernel
theorem dX10_homeTurning_78 : decode cX10_homeTurning 78 = .ok (.iadd, 1) := by decide +kernel
theorem dX10_homeTurning_79 : decode cX10_homeTurning 79 = .ok (.ireturn, 1) := by decide +kernel
theorem dX10_homeTurning_8 : decode cX10_homeTurning 8 = .ok (.invokevirtual 156, 3) := by decide +kernel
theorem dX10_note_0 : decode cX10_note 0 = .ok (.aload_n 0, 1) := by decide +kernel
theorem dX10_note_1 : decode cX10_note 1 = .ok (.iload_n 1, 1) := by decide +kernel
theorem dX10_note_10 : decode cX10_note 10 = .ok (.bipush 9, 2) := by decide +kernel
theorem dX10_note_12 : decode cX10_note 12 = .ok (.invokestatic 79, 3) := by decide +kernel
theorem dX10_note_15 : decode cX10_note 15 = .ok (.ifCond .eq 35, 3) := by decide +kernel
theorem dX10_note_18 : decode cX10_note 18 = .ok (.iload_n 3, 1) := by decide +kernel
theorem dX10_note_19 : decode cX10_note 19 = .ok (.iconst 0, 1) := by decide +kernel
theorem dX10_note_2 : decode cX10_note 2 = .ok (.invokevirtual 123, 3) := by decide +kernel
theorem dX10_note_20 : decode cX10_note 20 = .ok (.bipush 99, 2) := by decide +kernel
theorem dX10_note_22 : decode cX10_note 22 = .ok (.invokestatic 79, 3) := by decide +kernel
theorem dX10_note_25 : decode cX10_note 25 = .ok (.ifCond .eq 25, 3) := by decide +kernel
theorem dX10_note_28 : decode cX10_note 28 = .ok (.iload 4, 2) := by decide +kernel
theorem dX10_note_30 : decode cX10_note 30 = .ok (.iconst 0, 1) := by decide +kernel
theorem dX10_note_31 : decode cX10_note 31 = .ok (.bipush 9, 2) := by decide +kernel
theorem dX10_note_33 : decode cX10_note 33 = .ok (.invokestatic 79, 3) := by decide +kernel
theorem dX10_note_36 : decode cX10_note 36 = .ok (.ifCond .eq 14, 3) := by decide +kernel
theorem dX10_note_39 : decode cX10_note 39 = .ok (.iload 5, 2) := by decide +kernel
theorem dX10_note_41 : decode cX10_note 41 = .ok (.iconst 0, 1) := by decide +kernel
theorem dX10_note_42 : decode cX10_note 42 = .ok (.bipush 15, 2) := by decide +kernel
theorem dX10_note_44 : decode cX10_note 44 = .ok (.invokestatic 79, 3) := by decide +kernel
theorem dX10_note_47 : decode cX10_note 47 = .ok (.ifCond .ne 10, 3) := by decide +kernel
theorem dX10_note_5 : decode cX10_note 5 = .ok (.ifCond .eq 45, 3) := by decide +kernel
theorem dX10_note_50 : decode cX10_note 50 = .ok (.aload_n 0, 1) := by decide +kernel
theorem dX10_note_51 : decode cX10_note 51 = .ok (.bipush (-2), 2) := by decide +kernel
theorem dX10_note_53 : decode cX10_note 53 = .ok (.invokevirtual 83, 3) := by decide +kernel
theorem dX10_note_56 : decode cX10_note 56 = .ok (.ireturn, 1) := by decide +kernel
theorem dX10_note_57 : decode cX10_note 57 = .ok (.aload_n 0, 1) := by decide +kernel
theorem dX10_note_58 : decode cX10_note 58 = .ok (.getfield 10, 3) := by decide +kernel
theorem dX10_note_61 : decode cX10_note 61 = .ok (.getfield 212, 3) := by decide +kernel
theorem dX10_note_64 : decode cX10_note 64 = .ok (.iload_n 1, 1) := by decide +kernel
theorem dX10_note_65 : decode cX10_note 65 = .ok (.iload_n 2, 1) := by decide +kernel
theorem dX10_note_66 : decode cX10_note 66 = .ok (.iload_n 3, 1) := by decide +kernel
theorem dX10_note_67 : decode cX10_note 67 = .ok (.iload 4, 2) := by decide +kernel
theorem dX10_note_69 : decode cX10_note 69 = .ok (.iload 5, 2) := by decide +kernel
theorem dX10_note_71 : decode cX10_note 71 = .ok (.invokevirtual 189, 3) := by decide +kernel
theorem dX10_note_74 : decode cX10_note 74 = .ok (.ifCond .eq 16, 3) := by decide +kernel
theorem dX10_note_77 : decode cX10_note 77 = .ok (.aload_n 0, 1) := by decide +kernel
theorem dX10_note_78 : decode cX10_note 78 = .ok (.getfield 10, 3) := by decide +kernel
theorem dX10_note_8 : decode cX10_note 8 = .ok (.iload_n 2, 1) := by decide +kernel
theorem dX10_note_81 : decode cX10_note 81 = .ok (.getfield 212, 3) := by decide +kernel
theorem dX10_note_84 : decode cX10_note 84 = .ok (.getfield 194, 3) := by decide +kernel
theorem dX10_note_87 : decode cX10_note 87 = .ok (.goto 9, 3) := by decide +kernel
theorem dX10_note_9 : decode cX10_note 9 = .ok (.iconst 1, 1) := by decide +kernel
theorem dX10_note_90 : decode cX10_note 90 = .ok (.aload_n 0, 1) := by decide +kernel
theorem dX10_note_91 : decode cX10_note 91 = .ok (.bipush (-4), 2) := by decide +kernel
theorem dX10_note_93 : decode cX10_note 93 = .ok (.invokevirtual 83, 3) := by decide +kernel
theorem dX10_note_96 : decode cX10_note 96 = .ok (.ireturn, 1) := by decide +kernel
theorem dX10_seen_0 : decode cX10_seen 0 = .ok (.aload_n 0, 1) := by decide +kernel
theorem dX10_seen_1 : decode cX10_seen 1 = .ok (.iload_n 1, 1) := by decide +kernel
theorem dX10_seen_10 : decode cX10_seen 10 = .ok (.bipush 99, 2) := by decide +kernel
theorem dX10_seen_12 : decode cX10_seen 12 = .ok (.invokestatic 79, 3) := by decide +kernel
theorem dX10_seen_15 : decode cX10_seen 15 = .ok (.ifCond .eq 24, 3) := by decide +kernel
theorem dX10_seen_18 : decode cX10_seen 18 = .ok (.iload_n 3, 1) := by decide +kernel
theorem dX10_seen_19 : decode cX10_seen 19 = .ok (.iconst 0, 1) := by decide +kernel
theorem dX10_seen_2 : decode cX10_seen 2 = .ok (.invokevirtual 123, 3) := by decide +kernel
theorem dX10_seen_20 : decode cX10_seen 20 = .ok (.bipush 9, 2) := by decide +kernel
theorem dX10_seen_22 : decode cX10_seen 22 = .ok (.invokestatic 79, 3) := by decide +kernel
theorem dX10_seen_25 : decode cX10_seen 25 = .ok (.ifCond .eq 14, 3) := by decide +kernel
theorem dX10_seen_28 : decode cX10_seen 28 = .ok (.iload 4, 2) := by decide +kernel
theorem dX10_seen_30 : decode cX10_seen 30 = .ok (.iconst 0, 1) := by decide +kernel
theorem dX10_seen_31 : decode cX10_seen 31 = .ok (.bipush 15, 2) := by decide +kernel
theorem dX10_seen_33 : decode cX10_seen 33 = .ok (.invokestatic 79, 3) := by decide +kernel
theorem dX10_seen_36 : decode cX10_seen 36 = .ok (.ifCond .ne 10, 3) := by decide +kernel
theorem dX10_seen_39 : decode cX10_seen 39 = .ok (.aload_n 0, 1) := by decide +kernel
theorem dX10_seen_40 : decode cX10_seen 40 = .ok (.bipush (-2), 2) := by decide +kernel
theorem dX10_seen_42 : decode cX10_seen 42 = .ok (.invokevirtual 83, 3) := by decide +kernel
theorem dX10_seen_45 : decode cX10_seen 45 = .ok (.ireturn, 1) := by decide +kernel
theorem dX10_seen_46 : decode cX10_seen 46 = .ok (.aload_n 0, 1) := by decide +kernel
theorem dX10_seen_47 : decode cX10_seen 47 = .ok (.getfield 10, 3) := by decide +kernel
theorem dX10_seen_5 : decode cX10_seen 5 = .ok (.ifCond .eq 34, 3) := by decide +kernel
theorem dX10_seen_50 : decode cX10_seen 50 = .ok (.getfield 185, 3) := by decide +kernel
theorem dX10_seen_53 : decode cX10_seen 53 = .ok (.iload_n 1, 1) := by decide +kernel
theorem dX10_seen_54 : decode cX10_seen 54 = .ok (.iconst 0, 1) := by decide +kernel
theorem dX10_seen_55 : decode cX10_seen 55 = .ok (.iload_n 2, 1) := by decide +kernel
theorem dX10_seen_56 : decode cX10_seen 56 = .ok (.iload_n 3, 1) := by decide +kernel
theorem dX10_seen_57 : decode cX10_seen 57 = .ok (.iload 4, 2) := by decide +kernel
theorem dX10_seen_59 : decode cX10_seen 59 = .ok (.invokevirtual 189, 3) := by decide +kernel
theorem dX10_seen_62 : decode cX10_seen 62 = .ok (.ifCond .eq 16, 3) := by decide +kernel
theorem dX10_seen_65 : decode cX10_seen 65 = .ok (.aload_n 0, 1) := by decide +kernel
theorem dX10_seen_66 : decode cX10_seen 66 = .ok (.getfield 10, 3) := by decide +kernel
theorem dX10_seen_69 : decode cX10_seen 69 = .ok (.getfield 185, 3) := by decide +kernel
theorem dX10_seen_72 : decode cX10_seen 72 = .ok (.getfield 194, 3) := by decide +kernel
theorem dX10_seen_75 : decode cX10_seen 75 = .ok (.goto 9, 3) := by decide +kernel
theorem dX10_seen_78 : decode cX10_seen 78 = .ok (.aload_n 0, 1) := by decide +kernel
theorem dX10_seen_79 : decode cX10_seen 79 = .ok (.bipush (-4), 2) := by decide +kernel
theorem dX10_seen_8 : decode cX10_seen 8 = .ok (.iload_n 2, 1) := by decide +kernel
theorem dX10_seen_81 : decode cX10_seen 81 = .ok (.invokevirtual 83, 3) := by decide +kernel
theorem dX10_seen_84 : decode cX10_seen 84 = .ok (.ireturn, 1) := by decide +kernel
theorem dX10_seen_9 : decode cX10_seen 9 = .ok (.iconst 0, 1) := by decide +kernel
theorem dX10_turn_0 : decode cX10_turn 0 = .ok (.aload_n 0, 1) := by decide +kernel
theorem dX10_turn_1 : decode cX10_turn 1 = .ok (.iload_n 1, 1) := by decide +kernel
theorem dX10_turn_10 : decode cX10_turn 10 = .ok (.bipush 9, 2) := by decide +kernel
theorem dX10_turn_100 : decode cX10_turn 100 = .ok (.isub, 1) := by decide +kernel
theorem dX10_turn_101 : decode cX10_turn 101 = .ok (.istore 6, 2) := by decide +kernel
theorem dX10_turn_103 : decode cX10_turn 103 = .ok (.iinc 7 1, 3) := by decide +kernel
theorem dX10_turn_106 : decode cX10_turn 106 = .ok (.goto (-42), 3) := by decide +kernel
theorem dX10_turn_109 : decode cX10_turn 109 = .ok (.iload_n 3, 1) := by decide +kernel
theorem dX10_turn_110 : decode cX10_turn 110 = .ok (.ifCond .ne 8, 3) := by decide +kernel
theorem dX10_turn_113 : decode cX10_turn 113 = .ok (.iload 4, 2) := by decide +kernel
theorem dX10_turn_115 : decode cX10_turn 115 = .ok (.goto 5, 3) := by decide +kernel
theorem dX10_turn_118 : decode cX10_turn 118 = .ok (.iload 5, 2) := by decide +kernel
theorem dX10_turn_12 : decode cX10_turn 12 = .ok (.invokestatic 79, 3) := by decide +kernel
theorem dX10_turn_120 : decode cX10_turn 120 = .ok (.ireturn, 1) := by decide +kernel
theorem dX10_turn_15 : decode cX10_turn 15 = .ok (.ifCond .eq 12, 3) := by decide +kernel
theorem dX10_turn_18 : decode cX10_turn 18 = .ok (.iload_n 3, 1) := by decide +kernel
theorem dX10_turn_19 : decode cX10_turn 19 = .ok (.iconst 0, 1) := by decide +kernel
theorem dX10_turn_2 : decode cX10_turn 2 = .ok (.invokevirtual 123, 3) := by decide +kernel
theorem dX10_turn_20 : decode cX10_turn 20 = .ok (.iconst 1, 1) := by decide +kernel
theorem dX10_turn_21 : decode cX10_turn 21 = .ok (.invokestatic 79, 3) := by decide +kernel
theorem dX10_turn_24 : decode cX10_turn 24 = .ok (.ifCond .ne 10, 3) := by decide +kernel
theorem dX10_turn_27 : decode cX10_turn 27 = .ok (.aload_n 0, 1) := by decide +kernel
theorem dX10_turn_28 : decode cX10_turn 28 = .ok (.bipush (-2), 2) := by decide +kernel
theorem dX10_turn_30 : decode cX10_turn 30 = .ok (.invokevirtual 83, 3) := by decide +kernel
theorem dX10_turn_33 : decode cX10_turn 33 = .ok (.ireturn, 1) := by decide +kernel
theorem dX10_turn_34 : decode cX10_turn 34 = .ok (.aload_n 0, 1) := by decide +kernel
theorem dX10_turn_35 : decode cX10_turn 35 = .ok (.getfield 10, 3) := by decide +kernel
theorem dX10_turn_38 : decode cX10_turn 38 = .ok (.getfield 126, 3) := by decide +kernel
theorem dX10_turn_41 : decode cX10_turn 41 = .ok (.iload_n 1, 1) := by decide +kernel
theorem dX10_turn_42 : decode cX10_turn 42 = .ok (.aaload, 1) := by decide +kernel
theorem dX10_turn_43 : decode cX10_turn 43 = .ok (.invokevirtual 133, 3) := by decide +kernel
theorem dX10_turn_46 : decode cX10_turn 46 = .ok (.ifCond .eq 5, 3) := by decide +kernel
theorem dX10_turn_49 : decode cX10_turn 49 = .ok (.iconst (-1), 1) := by decide +kernel
theorem dX10_turn_5 : decode cX10_turn 5 = .ok (.ifCond .eq 22, 3) := by decide +kernel
theorem dX10_turn_50 : decode cX10_turn 50 = .ok (.ireturn, 1) := by decide +kernel
theorem dX10_turn_51 : decode cX10_turn 51 = .ok (.iconst (-1), 1) := by decide +kernel
theorem dX10_turn_52 : decode cX10_turn 52 = .ok (.istore 4, 2) := by decide +kernel
theorem dX10_turn_54 : decode cX10_turn 54 = .ok (.iconst (-1), 1) := by decide +kernel
theorem dX10_turn_55 : decode cX10_turn 55 = .ok (.istore 5, 2) := by decide +kernel
theorem dX10_turn_57 : decode cX10_turn 57 = .ok (.bipush 60, 2) := by decide +kernel
theorem dX10_turn_59 : decode cX10_turn 59 = .ok (.istore 6, 2) := by decide +kernel
theorem dX10_turn_61 : decode cX10_turn 61 = .ok (.iconst 0, 1) := by decide +kernel
theorem dX10_turn_62 : decode cX10_turn 62 = .ok (.istore 7, 2) := by decide +kernel
theorem dX10_turn_64 : decode cX10_turn 64 = .ok (.iload 7, 2) := by decide +kernel
theorem dX10_turn_66 : decode cX10_turn 66 = .ok (.bipush 30, 2) := by decide +kernel
theorem dX10_turn_68 : decode cX10_turn 68 = .ok (.if_icmp .gt 41, 3) := by decide +kernel
theorem dX10_turn_71 : decode cX10_turn 71 = .ok (.aload_n 0, 1) := by decide +kernel
theorem dX10_turn_72 : decode cX10_turn 72 = .ok (.iload_n 1, 1) := by decide +kernel
theorem dX10_turn_73 : decode cX10_turn 73 = .ok (.iload_n 2, 1) := by decide +kernel
theorem dX10_turn_74 : decode cX10_turn 74 = .ok (.iload 7, 2) := by decide +kernel
theorem dX10_turn_76 : decode cX10_turn 76 = .ok (.iload 6, 2) := by decide +kernel
theorem dX10_turn_78 : decode cX10_turn 78 = .ok (.invokevirtual 168, 3) := by decide +kernel
theorem dX10_turn_8 : decode cX10_turn 8 = .ok (.iload_n 2, 1) := by decide +kernel
theorem dX10_turn_81 : decode cX10_turn 81 = .ok (.istore 8, 2) := by decide +kernel
theorem dX10_turn_83 : decode cX10_turn 83 = .ok (.iload 8, 2) := by decide +kernel
theorem dX10_turn_85 : decode cX10_turn 85 = .ok (.iconst (-1), 1) := by decide +kernel
theorem dX10_turn_86 : decode cX10_turn 86 = .ok (.if_icmp .eq 17, 3) := by decide +kernel
theorem dX10_turn_89 : decode cX10_turn 89 = .ok (.iload 7, 2) := by decide +kernel
theorem dX10_turn_9 : decode cX10_turn 9 = .ok (.iconst 0, 1) := by decide +kernel
theorem dX10_turn_91 : decode cX10_turn 91 = .ok (.istore 4, 2) := by decide +kernel
theorem dX10_turn_93 : decode cX10_turn 93 = .ok (.iload 8, 2) := by decide +kernel
theorem dX10_turn_95 : decode cX10_turn 95 = .ok (.istore 5, 2) := by decide +kernel
theorem dX10_turn_97 : decode cX10_turn 97 = .ok (.iload 8, 2) := by decide +kernel
theorem dX10_turn_99 : decode cX10_turn 99 = .ok (.iconst 1, 1) := by decide +kernel
theorem dX9_restart_0 : decode cX9_restart 0 = .ok (.iconst 0, 1) := by decide +kernel
theorem dX9_restart_1 : decode cX9_restart 1 = .ok (.istore_n 1, 1) := by decide +kernel
theorem dX9_restart_11 : decode cX9_restart 11 = .ok (.aload_n 0, 1) := by decide +kernel
theorem dX9_restart_12 : decode cX9_restart 12 = .ok (.getfield 9, 3) := by decide +kernel
theorem dX9_restart_15 : decode cX9_restart 15 = .ok (.iload_n 1, 1) := by decide +kernel
theorem dX9_restart_16 : decode cX9_restart 16 = .ok (.iconst 0, 1) := by decide +kernel
theorem dX9_restart_17 : decode cX9_restart 17 = .ok (.iastore, 1) := by decide +kernel
theorem dX9_restart_18 : decode cX9_restart 18 = .ok (.iinc 1 1, 3) := by decide +kernel
theorem dX9_restart_2 : decode cX9_restart 2 = .ok (.iload_n 1, 1) := by decide +kernel
theorem dX9_restart_21 : decode cX9_restart 21 = .ok (.goto (-19), 3) := by decide +kernel
theorem dX9_restart_24 : decode cX9_restart 24 = .ok (.aload_n 0, 1) := by decide +kernel
theorem dX9_restart_25 : decode cX9_restart 25 = .ok (.iconst 0, 1) := by decide +kernel
theorem dX9_restart_26 : decode cX9_restart 26 = .ok (.putfield 15, 3) := by decide +kernel
theorem dX9_restart_29 : decode cX9_restart 29 = .ok (.return_, 1) := by decide +kernel
theorem dX9_restart_3 : decode cX9_restart 3 = .ok (.aload_n 0, 1) := by decide +kernel
theorem dX9_restart_4 : decode cX9_restart 4 = .ok (.getfield 9, 3) := by decide +kernel
theorem dX9_restart_7 : decode cX9_restart 7 = .ok (.arraylength, 1) := by decide +kernel
theorem dX9_restart_8 : decode cX9_restart 8 = .ok (.if_icmp .ge 16, 3) := by decide +kernel
theorem dX9_see_0 : decode cX9_see 0 = .ok (.iload_n 1, 1) := by decide +kernel
theorem dX9_see_1 : decode cX9_see 1 = .ok (.ifCond .lt 39, 3) := by decide +kernel
theorem dX9_see_10 : decode cX9_see 10 = .ok (.if_icmp .ge 30, 3) := by decide +kernel
theorem dX9_see_13 : decode cX9_see 13 = .ok (.aload_n 0, 1) := by decide +kernel
theorem dX9_see_14 : decode cX9_see 14 = .ok (.getfield 9, 3) := by decide +kernel
theorem dX9_see_17 : decode cX9_see 17 = .ok (.iload_n 1, 1) := by decide +kernel
theorem dX9_see_18 : decode cX9_see 18 = .ok (.dup2, 1) := by decide +kernel
theorem dX9_see_19 : decode cX9_see 19 = .ok (.iaload, 1) := by decide +kernel
theorem dX9_see_20 : decode cX9_see 20 = .ok (.iconst 1, 1) := by decide +kernel
theorem dX9_see_21 : decode cX9_see 21 = .ok (.iadd, 1) := by decide +kernel
theorem dX9_see_22 : decode cX9_see 22 = .ok (.iastore, 1) := by decide +kernel
theorem dX9_see_23 : decode cX9_see 23 = .ok (.aload_n 0, 1) := by decide +kernel
theorem dX9_see_24 : decode cX9_see 24 = .ok (.aload_n 0, 1) := by decide +kernel
theorem dX9_see_25 : decode cX9_see 25 = .ok (.getfield 15, 3) := by decide +kernel
theorem dX9_see_28 : decode cX9_see 28 = .ok (.aload_n 0, 1) := by decide +kernel
theorem dX9_see_29 : decode cX9_see 29 = .ok (.getfield 9, 3) := by decide +kernel
theorem dX9_see_32 : decode cX9_see 32 = .ok (.iload_n 1, 1) := by decide +kernel
theorem dX9_see_33 : decode cX9_see 33 = .ok (.iaload, 1) := by decide +kernel
theorem dX9_see_34 : decode cX9_see 34 = .ok (.invokestatic 19, 3) := by decide +kernel
theorem dX9_see_37 : decode cX9_see 37 = .ok (.putfield 15, 3) := by decide +kernel
theorem dX9_see_4 : decode cX9_see 4 = .ok (.iload_n 1, 1) := by decide +kernel
theorem dX9_see_40 : decode cX9_see 40 = .ok (.return_, 1) := by decide +kernel
theorem dX9_see_5 : decode cX9_see 5 = .ok (.aload_n 0, 1) := by decide +kernel
theorem dX9_see_6 : decode cX9_see 6 = .ok (.getfield 9, 3) := by decide +kernel
theorem dX9_see_9 : decode cX9_see 9 = .ok (.arraylength, 1) := by decide +kernel
theorem mm_X10_homeTurning_ml300 : Cond.methodLink RX10 300 Lib.Math.min.name ∈ wsX10_homeTurning := by decide +kernel
theorem mm_X10_homeTurning_msmin : Cond.static Lib.Math.min.name ∈ wsX10_homeTurning := by decide +kernel
theorem mm_X10_homeTurning_mi : Cond.initialized "java/lang/Math" ∈ wsX10_homeTurning := by decide +kernel
theorem mm_X10_homeTurning_mcmin : Cond.code Lib.Math.min.name Lib.Math.min.code 2 (some .int) ∈ wsX10_homeTurning := by decide +kernel
theorem in_X10_homeTurning_X10 : ∀ w ∈ wsX100, w ∈ wsX10_homeTurning := by decide +kernel
theorem lk_X10_homeTurning_48 : Cond.fieldLink RX10 48 "EggSpoons" "ghost" "LEggSpoons$Runner;" ∈ wsX10_homeTurning := by decide +kernel
theorem in_X10_homeTurning_X8 : ∀ w ∈ wsX80, w ∈ wsX10_homeTurning := by decide +kernel
theorem lk_X10_homeTurning_130 : Cond.fieldLink RX10 130 "EggSpoons$Runner" "speed" "I" ∈ wsX10_homeTurning := by decide +kernel
theorem lk_X10_homeTurning_10 : Cond.fieldLink RX10 10 "EggSpoons" "now" "LEggSpoons$Race;" ∈ wsX10_homeTurning := by decide +kernel
theorem in_X10_homeTurning_X5 : ∀ w ∈ wsX50, w ∈ wsX10_homeTurning := by decide +kernel
theorem lk_X10_homeTurning_110 : Cond.fieldLink RX10 110 "EggSpoons$Race" "tick" "I" ∈ wsX10_homeTurning := by decide +kernel
theorem lk_X10_homeTurning_140 : Cond.fieldLink RX10 140 "EggSpoons$Race" "length" "I" ∈ wsX10_homeTurning := by decide +kernel
set_option maxHeartbeats 4000000 in
set_option maxRecDepth 100000 in
/-- homeTurning -/
theorem s_homeTurning (l : Launch) (X : EX) (h0 : Nat) (nw : Nat) (sp : Nat) (xa : Nat → Nat) (la : Int64) (lb : Int64) (an : Nat → Nat) (sv : Nat → Int32) (dv : Nat → Int32) (n0 : Nat) (n1 : Nat) (n2 : Nat) (n3 : Nat) (n4 : Nat) (g0 : Nat → Int32) (gs : Nat → Int32) (gn : Nat → Int32) (gm : Nat → Int32) (ag : Nat → Int32) (dg : Nat → Int32) (i : Nat) (x2 : Int32) (k : Nat) (x4 : Int32) (hI_n0 : n0 ≤ 6) (hI_n1 : n1 ≤ 8) (hI_n2 : n2 ≤ 5) (hI_n3 : n3 ≤ 6) (hI_n4 : n4 ≤ 6) (hi6 : i < 6) (hk3 : k ≤ 30) (hl6 : x4 ≤ 60) (sz : Nat) : Met l yX10_homeTurning wsX10_homeTurning ({ frames := 4, cells := 0, slots := 0, locals := 95 } : Room) (pE X [.ref h0, .int (nI i), .int x2, .int (nI k), .int x4] (@HAppend.hAppend va_W va_W va_W _ (xW h0 nw sp xa la lb) (@HAppend.hAppend va_W va_W va_W _ (rcV X nw an sv dv n0 n1 n2 n3 n4 g0 gs gn gm) (rnV (xa 8) ag dg))) sz) (qI (fun (r : Int32) (u : (Nat → Int32) × (Nat → Int32)) => ((-1 : Int32) ≤ r ∧ r ≤ 60)) X (fun (u : (Nat → Int32) × (Nat → Int32)) => @HAppend.hAppend va_W va_W va_W _ (xW h0 nw sp xa la lb) (@HAppend.hAppend va_W va_W va_W _ (rcV X nw an sv dv n0 n1 n2 n3 n4 g0 gs gn gm) (rnV (xa 8) u.1 u.2))) (@HAppend.hAppend va_W va_W va_W _ (xW h0 nw sp xa la lb) (@HAppend.hAppend va_W va_W va_W _ (rcV X nw an sv dv n0 n1 n2 n3 n4 g0 gs gn gm) (rnV (xa 8) ag dg))) sz) 0 0 (va_A (@HAppend.hAppend va_W va_W va_W _ (xW h0 nw sp xa la lb) (@HAppend.hAppend va_W va_W va_W _ (rcV X nw an sv dv n0 n1 n2 n3 n4 g0 gs gn gm) (rnV (xa 8) ag dg))) sz) := by
  refine mk_met (B := (va_A (@HAppend.hAppend va_W va_W va_W _ (xW h0 nw sp xa la lb) (@HAppend.hAppend va_W va_W va_W _ (rcV X nw an sv dv n0 n1 n2 n3 n4 g0 gs gn gm) (rnV (xa 8) ag dg))) sz)) (A := (va_A (@HAppend.hAppend va_W va_W va_W _ (xW h0 nw sp xa la lb) (@HAppend.hAppend va_W va_W va_W _ (rcV X nw an sv dv n0 n1 n2 n3 n4 g0 gs gn gm) (rnV (xa 8) ag dg))) sz)) (cc := cX10_homeTurning) (maxL := 7) (ret := (some .int)) (by decide) rfl (Nat.le_of_ble_eq_true rfl) k_w k_a (fun p e s m below meth c S zr zlk znm zsz G ls hl => ?_)
  have S : CallFix p m c cX10_homeTurning 7 s _ wsX10_homeTurning RX10 := S
  have zx := S.1
  have zb := S.2.1
  have hl : lv_has ls 7 [(0, .ref h0), (1, .int (nI i)), (2, .int x2), (3, .int (nI k)), (4, .int x4)] := hl
  refine lv_aload_n zx zb dX10_homeTurning_0 rfl (lv_at hl 0 rfl) ?_
  refine lv_iload_n zx zb dX10_homeTurning_1 rfl (lv_at hl 1 rfl) ?_
  refine lv_iload_n zx zb dX10_homeTurning_2 rfl (lv_at hl 3 rfl) ?_
  refine lv_iload zx zb dX10_homeTurning_3 (lv_at hl 4 rfl) ?_
  refine r_mminP S hl.1 mm_X10_homeTurning_ml300 mm_X10_homeTurning_msmin mm_X10_homeTurning_mi mm_X10_homeTurning_mcmin (Nat.le_of_ble_eq_true rfl) (Nat.le_of_ble_eq_true rfl) (Nat.zero_le _) (Nat.zero_le _) dX10_homeTurning_5 (by first | decide | assumption) (fun y_1 h_y_1 => ?_)
  refine b_wi (cells' := 0) (slots' := 0) (wr := []) G rfl rfl [0, 1, 2, 3, 4, 5, 6, 7, 8, 9, 10, 11, 12, 13, 14, 15, 16, 17] [] rfl rfl rfl rfl (n_V (As := [.int (nI i), .int y_1]) (rest := []) (C := RX10) (T := TX10) (N := 14) (ci := 8) S G (s_homeBehind l X h0 nw sp xa la lb an sv dv n0 n1 n2 n3 n4 g0 gs gn gm ag dg i y_1 hI_n0 hI_n1 hI_n2 hI_n3 hI_n4 (by omega) (by first | decide | assumption | exact k_60a (by assumption)) s.heap.size) gX10_homeTurning_X10_homeBehind rfl rfl rfl hdV_X10_homeBehind ⟨Nat.le_of_ble_eq_true rfl, Nat.le_of_ble_eq_true rfl⟩ [0, 1, 2, 3, 4, 5, 6, 7, 8, 9, 10, 11, 12, 13, 14, 15, 16, 17] rfl rfl 0 rfl rfl rfl hl.1 (Nat.le_of_ble_eq_true rfl) dX10_homeTurning_8 ⟨Nat.le_of_ble_eq_true rfl, Nat.le_of_ble_eq_true rfl⟩) (fun r_2 u_2 H locs hp_2 G => ?_)
  obtain ⟨a_2a, d_2b⟩ := u_2
  have hq_2 := hp_2
  have G : wd X (va_A (@HAppend.hAppend va_W va_W va_W _ (xW h0 nw sp xa la lb) (@HAppend.hAppend va_W va_W va_W _ (rcV X nw an sv dv n0 n1 n2 n3 n4 g0 gs gn gm) (rnV (xa 8) ag dg))) sz) (va_A (@HAppend.hAppend va_W va_W va_W _ (xW h0 nw sp xa la lb) (@HAppend.hAppend va_W va_W va_W _ (rcV X nw an sv dv n0 n1 n2 n3 n4 g0 gs gn gm) (rnV (xa 8) ag dg))) sz) s (@HAppend.hAppend va_W va_W va_W _ (xW h0 nw sp xa la lb) (@HAppend.hAppend va_W va_W va_W _ (rcV X nw an sv dv n0 n1 n2 n3 n4 g0 gs gn gm) (rnV (xa 8) a_2a d_2b))) H locs := G
  refine lv_istore (lv' := [(5, .int r_2), (0, .ref h0), (1, .int (nI i)), (2, .int x2), (3, .int (nI k)), (4, .int x4)]) zx zb dX10_homeTurning_11 hl (by decide) rfl (fun ls hl => ?_)
  refine lv_iload zx zb dX10_homeTurning_13 (lv_at hl 0 rfl) ?_
  refine lv_iconst (v := (-1)) zx zb dX10_homeTurning_15 (by decide) ?_
  refine lv_icmp_ne (tgt := 25) zx zb dX10_homeTurning_16 (by decide) (fun c_3 => ?_) (fun c_3 => ?_)
  · refine lv_iload zx zb dX10_homeTurning_25 (lv_at hl 0 rfl) ?_
    exact e_int S zr zlk (vp_nar_int _) G (a_2a, d_2b) [0, 1, 2, 3, 4, 5, 6, 7, 8, 9, 10, 11, 12, 13, 14, 15, 16, 17] rfl rfl (Or.inr rfl) (by first | assumption | decide | exact k_tu hk3 hl6 (by assumption) (by assumption) (by assumption)) dX10_homeTurning_27
  · refine lv_iload_n zx zb dX10_homeTurning_19 rfl (lv_at hl 4 rfl) ?_
    refine lv_iload zx zb dX10_homeTurning_20 (lv_at hl 5 rfl) ?_
    refine lv_icmp_lt (tgt := 28) zx zb dX10_homeTurning_22 (by decide) (fun c_4 => ?_) (fun c_4 => ?_)
    · refine lv_aload_n zx zb dX10_homeTurning_28 rfl (lv_at hl 1 rfl) ?_
      refine r_get (C := RX10) (T := TX10) (N := 14) (ci := 8) (v := .ref (xa 8)) S in_X10_homeTurning_X10 G 0 rfl rfl 8 (by decide) lk_X10_homeTurning_48 rfl dX10_homeTurning_29 ?_
      refine lv_iload_n zx zb dX10_homeTurning_32 rfl (lv_at hl 3 rfl) ?_
      refine r_put (C := RX8) (T := TX8) (N := 8) (ci := 6) (v := .int x2) S in_X10_homeTurning_X8 tyX8_ok nmX8 G 17 rfl rfl 3 (by decide) lk_X10_homeTurning_130 rfl (vp_nar_int _) rfl (Nat.le_of_ble_eq_true rfl) dX10_homeTurning_33 (fun H locs G => ?_)
      obtain ⟨d_5, G⟩ : ∃ d_5 : Nat → Int32, wd X (va_A (@HAppend.hAppend va_W va_W va_W _ (xW h0 nw sp xa la lb) (@HAppend.hAppend va_W va_W va_W _ (rcV X nw an sv dv n0 n1 n2 n3 n4 g0 gs gn gm) (rnV (xa 8) ag dg))) sz) (va_A (@HAppend.hAppend va_W va_W va_W _ (xW h0 nw sp xa la lb) (@HAppend.hAppend va_W va_W va_W _ (rcV X nw an sv dv n0 n1 n2 n3 n4 g0 gs gn gm) (rnV (xa 8) ag dg))) sz) s (@HAppend.hAppend va_W va_W va_W _ (xW h0 nw sp xa la lb) (@HAppend.hAppend va_W va_W va_W _ (rcV X nw an sv dv n0 n1 n2 n3 n4 g0 gs gn gm) (rnV (xa 8) a_2a d_5))) H locs := ⟨upd d_2b 0 x2, G⟩
      refine lv_aload_n zx zb dX10_homeTurning_36 rfl (lv_at hl 1 rfl) ?_
      refine r_get (C := RX10) (T := TX10) (N := 14) (ci := 8) (v := .ref (xa 8)) S in_X10_homeTurning_X10 G 0 rfl rfl 8 (by decide) lk_X10_homeTurning_48 rfl dX10_homeTurning_37 ?_
      refine lv_aload_n zx zb dX10_homeTurning_40 rfl (lv_at hl 1 rfl) ?_
      refine r_get (C := RX10) (T := TX10) (N := 14) (ci := 8) (v := .ref nw) S in_X10_homeTurning_X10 G 0 rfl rfl 0 (by decide) lk_X10_homeTurning_10 rfl dX10_homeTurning_41 ?_
      refine r_get (C := RX5) (T := TX5) (N := 8) (ci := 3) (v := .int (dv 1)) S in_X10_homeTurning_X5 G 1 rfl rfl 1 (by decide) lk_X10_homeTurning_110 rfl dX10_homeTurning_44 ?_
      refine lv_iload_n zx zb dX10_homeTurning_47 rfl (lv_at hl 4 rfl) ?_
      refine r_iadd (v := ((dv 1) + (nI k))) S rfl dX10_homeTurning_48 ?_
      refine lv_aload_n zx zb dX10_homeTurning_49 rfl (lv_at hl 1 rfl) ?_
      refine r_get (C := RX10) (T := TX10) (N := 14) (ci := 8) (v := .ref nw) S in_X10_homeTurning_X10 G 0 rfl rfl 0 (by decide) lk_X10_homeTurning_10 rfl dX10_homeTurning_50 ?_
      refine r_get (C := RX5) (T := TX5) (N := 8) (ci := 3) (v := .int (dv 0)) S in_X10_homeTurning_X5 G 1 rfl rfl 0 (by decide) lk_X10_homeTurning_140 rfl dX10_homeTurning_53 ?_
      refine lv_iload zx zb dX10_homeTurning_56 (lv_at hl 5 rfl) ?_
      refine lv_iload_n zx zb dX10_homeTurning_58 rfl (lv_at hl 4 rfl) ?_
      refine r_isub (v := (x4 - (nI k))) S rfl dX10_homeTurning_59 ?_
      refine b_wi (cells' := 0) (slots' := 0) (wr := @HAppend.hAppend va_W va_W va_W _ (xW h0 nw sp xa la lb) (rcV X nw an sv dv n0 n1 n2 n3 n4 g0 gs gn gm)) G rfl rfl [17] [0, 1, 2, 3, 4, 5, 6, 7, 8, 9, 10, 11, 12, 13, 14, 15, 16] rfl rfl rfl rfl (n_V (As := [.int ((dv 1) + (nI k)), .int (dv 0), .int (x4 - (nI k))]) (rest := []) (C := RX8) (T := TX8) (N := 8) (ci := 6) S G (s_ticksToHome l X (xa 8) a_2a d_5 ((dv 1) + (nI k)) (dv 0) (x4 - (nI k)) (by first | decide | assumption | exact k_60a (by assumption) | exact k_s60 hk3 hl6 (by assumption)) H.size) gX10_homeTurning_X8_ticksToHome rfl rfl rfl hdV_X8_ticksToHome ⟨Nat.le_of_ble_eq_true rfl, Nat.le_of_ble_eq_true rfl⟩ [17] rfl rfl 17 rfl rfl rfl hl.1 (Nat.le_of_ble_eq_true rfl) dX10_homeTurning_60 ⟨Nat.le_of_ble_eq_true rfl, Nat.le_of_ble_eq_true rfl⟩) (fun r_6 u_6 H locs hp_6 G => ?_)
      obtain ⟨d_6, rfl⟩ : ∃ z, z = u_6 := ⟨_, rfl⟩
      have hq_6 := hp_6
      obtain ⟨hq_6, hs_6⟩ := hq_6
      have G : wd X (va_A (@HAppend.hAppend va_W va_W va_W _ (xW h0 nw sp xa la lb) (@HAppend.hAppend va_W va_W va_W _ (rcV X nw an sv dv n0 n1 n2 n3 n4 g0 gs gn gm) (rnV (xa 8) ag dg))) sz) (va_A (@HAppend.hAppend va_W va_W va_W _ (xW h0 nw sp xa la lb) (@HAppend.hAppend va_W va_W va_W _ (rcV X nw an sv dv n0 n1 n2 n3 n4 g0 gs gn gm) (rnV (xa 8) ag dg))) sz) s (@HAppend.hAppend va_W va_W va_W _ (xW h0 nw sp xa la lb) (@HAppend.hAppend va_W va_W va_W _ (rcV X nw an sv dv n0 n1 n2 n3 n4 g0 gs gn gm) (rnV (xa 8) a_2a d_6))) H locs := G
      refine lv_istore (lv' := [(6, .int r_6), (5, .int r_2), (0, .ref h0), (1, .int (nI i)), (2, .int x2), (3, .int (nI k)), (4, .int x4)]) zx zb dX10_homeTurning_63 hl (by decide) rfl (fun ls hl => ?_)
      refine lv_iload zx zb dX10_homeTurning_65 (lv_at hl 0 rfl) ?_
      refine lv_iconst (v := (-1)) zx zb dX10_homeTurning_67 (by decide) ?_
      refine lv_icmp_ne (tgt := 75) zx zb dX10_homeTurning_68 (by decide) (fun c_7 => ?_) (fun c_7 => ?_)
      · refine lv_iload_n zx zb dX10_homeTurning_75 rfl (lv_at hl 5 rfl) ?_
        refine lv_iload zx zb dX10_homeTurning_76 (lv_at hl 0 rfl) ?_
        refine r_iadd (v := ((nI k) + r_6)) S rfl dX10_homeTurning_78 ?_
        exact e_int S zr zlk (vp_nar_int _) G (a_2a, d_6) [0, 1, 2, 3, 4, 5, 6, 7, 8, 9, 10, 11, 12, 13, 14, 15, 16, 17] rfl rfl (Or.inr rfl) (by first | assumption | decide | exact k_tu hk3 hl6 (by assumption) (by assumption) (by assumption)) dX10_homeTurning_79
      · refine lv_iconst (v := (-1)) zx zb dX10_homeTurning_71 (by decide) ?_
        refine lv_goto (tgt := 79) zx zb dX10_homeTurning_72 (by decide) ?_
        exact e_int S zr zlk (vp_nar_int _) G (a_2a, d_6) [0, 1, 2, 3, 4, 5, 6, 7, 8, 9, 10, 11, 12, 13, 14, 15, 16, 17] rfl rfl (Or.inr rfl) (by first | assumption | decide | exact k_tu hk3 hl6 (by assumption) (by assumption) (by assumption)) dX10_homeTurning_79
    · refine lv_iload zx zb dX10_homeTurning_25 (lv_at hl 0 rfl) ?_
      exact e_int S zr zlk (vp_nar_int _) G (a_2a, d_2b) [0, 1, 2, 3, 4, 5, 6, 7, 8, 9, 10, 11, 12, 13, 14, 15, 16, 17] rfl rfl (Or.inr rfl) (by first | assumption | decide | exact k_tu hk3 hl6 (by assumption) (by assumption) (by assumption)) dX10_homeTurning_27
theorem in_X10_turn_X10 : ∀ w ∈ wsX100, w ∈ wsX10_turn := by decide +kernel
theorem lk_X10_turn_10 : Cond.fieldLink RX10 10 "EggSpoons" "now" "LEggSpoons$Race;" ∈ wsX10_turn := by decide +kernel
theorem in_X10_turn_X5 : ∀ w ∈ wsX50, w ∈ wsX10_turn := by decide +kernel
theorem lk_X10_turn_126 : Cond.fieldLink RX10 126 "EggSpoons$Race" "row" "[LEggSpoons$Runner;" ∈ wsX10_turn := by decide +kernel
theorem hdV_X10_homeTurning : yX10_homeTurning.cls = RX10 ∧ yX10_homeTurning.cls ≠ "java/lang/invoke/MethodHandle" ∧ yX10_homeTurning.cls ≠ "java/lang/invoke/VarHandle" ∧ (parseMethodDescriptor yX10_homeTurning.desc).map (fun d => d.parameters.length) = some 4 := by decide +kernel
set_option maxHeartbeats 4000000 in
set_option maxRecDepth 100000 in
/-- turn -/
theorem s_turn (l : Launch) (X : EX) (h0 : Nat) (nw : Nat) (sp : Nat) (xa : Nat → Nat) (la : Int64) (lb : Int64) (an : Nat → Nat) (sv : Nat → Int32) (dv : Nat → Int32) (n0 : Nat) (n1 : Nat) (n2 : Nat) (n3 : Nat) (n4 : Nat) (g0 : Nat → Int32) (gs : Nat → Int32) (gn : Nat → Int32) (gm : Nat → Int32) (ag : Nat → Int32) (dg : Nat → Int32) (fr : Nat → Int32) (x1 : Int32) (x2 : Int32) (x3 : Int32) (hI_n0 : n0 ≤ 6) (hI_n1 : n1 ≤ 8) (hI_n2 : n2 ≤ 5) (hI_n3 : n3 ≤ 6) (hI_n4 : n4 ≤ 6) (sz : Nat) : Met l yX10_turn wsX10_turn ({ frames := 5, cells := 0, slots := 0, locals := 121 } : Room) (pE X [.ref h0, .int x1, .int x2, .int x3] (@HAppend.hAppend va_W va_W va_W _ (xW h0 nw sp xa la lb) (@HAppend.hAppend va_W va_W va_W _ (rcV X nw an sv dv n0 n1 n2 n3 n4 g0 gs gn gm) (@HAppend.hAppend va_W va_W va_W _ (rnV (xa 8) ag dg) ([((xa 5), .inl (X.2.1, 3, .inl fr))])))) sz) (qI (fun (r : Int32) (u : (Nat → Int32) × (Nat → Int32) × (Nat → Int32)) => (True)) X (fun (u : (Nat → Int32) × (Nat → Int32) × (Nat → Int32)) => @HAppend.hAppend va_W va_W va_W _ (xW h0 nw sp xa la lb) (@HAppend.hAppend va_W va_W va_W _ (rcV X nw an sv dv n0 n1 n2 n3 n4 g0 gs gn gm) (@HAppend.hAppend va_W va_W va_W _ (rnV (xa 8) u.1 u.2.1) ([((xa 5), .inl (X.2.1, 3, .inl u.2.2))])))) (@HAppend.hAppend va_W va_W va_W _ (xW h0 nw sp xa la lb) (@HAppend.hAppend va_W va_W va_W _ (rcV X nw an sv dv n0 n1 n2 n3 n4 g0 gs gn gm) (@HAppend.hAppend va_W va_W va_W _ (rnV (xa 8) ag dg) ([((xa 5), .inl (X.2.1, 3, .inl fr))])))) sz) 0 0 (va_A (@HAppend.hAppend va_W va_W va_W _ (xW h0 nw sp xa la lb) (@HAppend.hAppend va_W va_W va_W _ (rcV X nw an sv dv n0 n1 n2 n3 n4 g0 gs gn gm) (@HAppend.hAppend va_W va_W va_W _ (rnV (xa 8) ag dg) ([((xa 5), .inl (X.2.1, 3, .inl fr))])))) sz) := by
  refine mk_met (B := (va_A (@HAppend.hAppend va_W va_W va_W _ (xW h0 nw sp xa la lb) (@HAppend.hAppend va_W va_W va_W _ (rcV X nw an sv dv n0 n1 n2 n3 n4 g0 gs gn gm) (@HAppend.hAppend va_W va_W va_W _ (rnV (xa 8) ag dg) ([((xa 5), .inl (X.2.1, 3, .inl fr))])))) sz)) (A := (va_A (@HAppend.hAppend va_W va_W va_W _ (xW h0 nw sp xa la lb) (@HAppend.hAppend va_W va_W va_W _ (rcV X nw an sv dv n0 n1 n2 n3 n4 g0 gs gn gm) (@HAppend.hAppend va_W va_W va_W _ (rnV (xa 8) ag dg) ([((xa 5), .inl (X.2.1, 3, .inl fr))])))) sz)) (cc := cX10_turn) (maxL := 9) (ret := (some .int)) (by decide) rfl (Nat.le_of_ble_eq_true rfl) k_w k_a (fun p e s m below meth c S zr zlk znm zsz G ls hl => ?_)
  have S : CallFix p m c cX10_turn 9 s _ wsX10_turn RX10 := S
  have zx := S.1
  have zb := S.2.1
  have hl : lv_has ls 9 [(0, .ref h0), (1, .int x1), (2, .int x2), (3, .int x3)] := hl
  refine lv_aload_n zx zb dX10_turn_0 rfl (lv_at hl 0 rfl) ?_
  refine lv_iload_n zx zb dX10_turn_1 rfl (lv_at hl 1 rfl) ?_
  refine o_ri (cells' := 0) (slots' := 0) G rfl rfl (n_V (As := [.int x1]) (rest := []) (C := RX10) (T := TX10) (N := 14) (ci := 8) S G (s_there l X h0 nw sp xa la lb an sv dv n0 n1 n2 n3 n4 g0 gs gn gm x1 hI_n0 hI_n1 hI_n2 hI_n3 hI_n4 s.heap.size) gX10_turn_X10_there rfl rfl rfl hdV_X10_there ⟨Nat.le_of_ble_eq_true rfl, Nat.le_of_ble_eq_true rfl⟩ [0, 1, 2, 3, 4, 5, 6, 7, 8, 9, 10, 11, 12, 13, 14, 15, 16] rfl rfl 0 rfl rfl rfl hl.1 (Nat.le_of_ble_eq_true rfl) dX10_turn_2 ⟨Nat.le_of_ble_eq_true rfl, Nat.le_of_ble_eq_true rfl⟩) (fun r_1 u_1 H locs hp_1 G => ?_)
  have G : wd X (va_A (@HAppend.hAppend va_W va_W va_W _ (xW h0 nw sp xa la lb) (@HAppend.hAppend va_W va_W va_W _ (rcV X nw an sv dv n0 n1 n2 n3 n4 g0 gs gn gm) (@HAppend.hAppend va_W va_W va_W _ (rnV (xa 8) ag dg) ([((xa 5), .inl (X.2.1, 3, .inl fr))])))) sz) (va_A (@HAppend.hAppend va_W va_W va_W _ (xW h0 nw sp xa la lb) (@HAppend.hAppend va_W va_W va_W _ (rcV X nw an sv dv n0 n1 n2 n3 n4 g0 gs gn gm) (@HAppend.hAppend va_W va_W va_W _ (rnV (xa 8) ag dg) ([((xa 5), .inl (X.2.1, 3, .inl fr))])))) sz) s (@HAppend.hAppend va_W va_W va_W _ (xW h0 nw sp xa la lb) (@HAppend.hAppend va_W va_W va_W _ (rcV X nw an sv dv n0 n1 n2 n3 n4 g0 gs gn gm) (@HAppend.hAppend va_W va_W va_W _ (rnV (xa 8) ag dg) ([((xa 5), .inl (X.2.1, 3, .inl fr))])))) H locs := G
  rcases hp_1 with ⟨rfl, hj_1⟩ | ⟨rfl, hj_1⟩
  · obtain ⟨j_1, hj_1, rfl⟩ := hj_1
    refine lv_if_eq (tgt := 27) zx zb dX10_turn_5 (by decide) (fun c_2 => absurd c_2 (by decide)) (fun c_2 => ?_)
    refine lv_iload_n zx zb dX10_turn_8 rfl (lv_at hl 2 rfl) ?_
    refine lv_iconst (v := 0) zx zb dX10_turn_9 (by decide) ?_
    refine lv_bipush (v := 9) zx zb dX10_turn_10 (by decide) ?_
    refine o_ri (cells' := 0) (slots' := 0) G rfl rfl (n_S (As := [.int x2, .int 0, .int 9]) (rest := []) S G (s_within l X x2 0 9 H.size) gX10_turn_X10_within rfl rfl rfl hdS_X10_within ⟨Nat.le_of_ble_eq_true rfl, Nat.le_of_ble_eq_true rfl⟩ [] rfl rfl rfl hl.1 (Nat.le_of_ble_eq_true rfl) dX10_turn_12 ⟨Nat.le_of_ble_eq_true rfl, Nat.le_of_ble_eq_true rfl⟩) (fun r_3 u_3 H locs hp_3 G => ?_)
    have G : wd X (va_A (@HAppend.hAppend va_W va_W va_W _ (xW h0 nw sp xa la lb) (@HAppend.hAppend va_W va_W va_W _ (rcV X nw an sv dv n0 n1 n2 n3 n4 g0 gs gn gm) (@HAppend.hAppend va_W va_W va_W _ (rnV (xa 8) ag dg) ([((xa 5), .inl (X.2.1, 3, .inl fr))])))) sz) (va_A (@HAppend.hAppend va_W va_W va_W _ (xW h0 nw sp xa la lb) (@HAppend.hAppend va_W va_W va_W _ (rcV X nw an sv dv n0 n1 n2 n3 n4 g0 gs gn gm) (@HAppend.hAppend va_W va_W va_W _ (rnV (xa 8) ag dg) ([((xa 5), .inl (X.2.1, 3, .inl fr))])))) sz) s (@HAppend.hAppend va_W va_W va_W _ (xW h0 nw sp xa la lb) (@HAppend.hAppend va_W va_W va_W _ (rcV X nw an sv dv n0 n1 n2 n3 n4 g0 gs gn gm) (@HAppend.hAppend va_W va_W va_W _ (rnV (xa 8) ag dg) ([((xa 5), .inl (X.2.1, 3, .inl fr))])))) H locs := G
    rcases hp_3 with ⟨rfl, hw_3⟩ | ⟨rfl, hw_3⟩
    · refine lv_if_eq (tgt := 27) zx zb dX10_turn_15 (by decide) (fun c_4 => absurd c_4 (by decide)) (fun c_4 => ?_)
      refine lv_iload_n zx zb dX10_turn_18 rfl (lv_at hl 3 rfl) ?_
      refine lv_iconst (v := 0) zx zb dX10_turn_19 (by decide) ?_
      refine lv_iconst (v := 1) zx zb dX10_turn_20 (by decide) ?_
      refine o_ri (cells' := 0) (slots' := 0) G rfl rfl (n_S (As := [.int x3, .int 0, .int 1]) (rest := []) S G (s_within l X x3 0 1 H.size) gX10_turn_X10_within rfl rfl rfl hdS_X10_within ⟨Nat.le_of_ble_eq_true rfl, Nat.le_of_ble_eq_true rfl⟩ [] rfl rfl rfl hl.1 (Nat.le_of_ble_eq_true rfl) dX10_turn_21 ⟨Nat.le_of_ble_eq_true rfl, Nat.le_of_ble_eq_true rfl⟩) (fun r_5 u_5 H locs hp_5 G => ?_)
      have G : wd X (va_A (@HAppend.hAppend va_W va_W va_W _ (xW h0 nw sp xa la lb) (@HAppend.hAppend va_W va_W va_W _ (rcV X nw an sv dv n0 n1 n2 n3 n4 g0 gs gn gm) (@HAppend.hAppend va_W va_W va_W _ (rnV (xa 8) ag dg) ([((xa 5), .inl (X.2.1, 3, .inl fr))])))) sz) (va_A (@HAppend.hAppend va_W va_W va_W _ (xW h0 nw sp xa la lb) (@HAppend.hAppend va_W va_W va_W _ (rcV X nw an sv dv n0 n1 n2 n3 n4 g0 gs gn gm) (@HAppend.hAppend va_W va_W va_W _ (rnV (xa 8) ag dg) ([((xa 5), .inl (X.2.1, 3, .inl fr))])))) sz) s (@HAppend.hAppend va_W va_W va_W _ (xW h0 nw sp xa la lb) (@HAppend.hAppend va_W va_W va_W _ (rcV X nw an sv dv n0 n1 n2 n3 n4 g0 gs gn gm) (@HAppend.hAppend va_W va_W va_W _ (rnV (xa 8) ag dg) ([((xa 5), .inl (X.2.1, 3, .inl fr))])))) H locs := G
      rcases hp_5 with ⟨rfl, hw_5⟩ | ⟨rfl, hw_5⟩
      · refine lv_if_ne (tgt := 34) zx zb dX10_turn_24 (by decide) (fun c_6 => ?_) (fun c_6 => absurd c_6 (by decide))
        refine lv_aload_n zx zb dX10_turn_34 rfl (lv_at hl 0 rfl) ?_
        refine r_get (C := RX10) (T := TX10) (N := 14) (ci := 8) (v := .ref nw) S in_X10_turn_X10 G 0 rfl rfl 0 (by decide) lk_X10_turn_10 rfl dX10_turn_35 ?_
        refine r_get (C := RX5) (T := TX5) (N := 8) (ci := 3) (v := .ref (an 0)) S in_X10_turn_X5 G 1 rfl rfl 3 (by decide) lk_X10_turn_126 rfl dX10_turn_38 ?_
        refine lv_iload_n zx zb dX10_turn_41 rfl (lv_at hl 1 rfl) ?_
        rcases k_6c (show j_1 < 6 by omega) with rfl | rfl | rfl | rfl | rfl | rfl
        · refine k_it (v := 0) rfl ?_
          refine r_aald (C := RX8) (b := (an 1)) S G 2 3 rfl rfl (k_vp (by decide)) rfl dX10_turn_42 ?_
          refine o_ri (cells' := 0) (slots' := 0) G rfl rfl (n_V (As := []) (rest := []) (C := RX8) (T := TX8) (N := 8) (ci := 6) S G (s_isHome l X (an 1) (fun k => sv (0 + k)) (fun k => dv (10 + k)) H.size) gX10_turn_X8_isHome rfl rfl rfl hdV_X8_isHome ⟨Nat.le_of_ble_eq_true rfl, Nat.le_of_ble_eq_true rfl⟩ [3] rfl rfl 3 rfl rfl rfl hl.1 (Nat.le_of_ble_eq_true rfl) dX10_turn_43 ⟨Nat.le_of_ble_eq_true rfl, Nat.le_of_ble_eq_true rfl⟩) (fun r_7 u_7 H locs hp_7 G => ?_)
          have G : wd X (va_A (@HAppend.hAppend va_W va_W va_W _ (xW h0 nw sp xa la lb) (@HAppend.hAppend va_W va_W va_W _ (rcV X nw an sv dv n0 n1 n2 n3 n4 g0 gs gn gm) (@HAppend.hAppend va_W va_W va_W _ (rnV (xa 8) ag dg) ([((xa 5), .inl (X.2.1, 3, .inl fr))])))) sz) (va_A (@HAppend.hAppend va_W va_W va_W _ (xW h0 nw sp xa la lb) (@HAppend.hAppend va_W va_W va_W _ (rcV X nw an sv dv n0 n1 n2 n3 n4 g0 gs gn gm) (@HAppend.hAppend va_W va_W va_W _ (rnV (xa 8) ag dg) ([((xa 5), .inl (X.2.1, 3, .inl fr))])))) sz) s (@HAppend.hAppend va_W va_W va_W _ (xW h0 nw sp xa la lb) (@HAppend.hAppend va_W va_W va_W _ (rcV X nw an sv dv n0 n1 n2 n3 n4 g0 gs gn gm) (@HAppend.hAppend va_W va_W va_W _ (rnV (xa 8) ag dg) ([((xa 5), .inl (X.2.1, 3, .inl fr))])))) H locs := G
          refine lv_if_eq (tgt := 51) zx zb dX10_turn_46 (by decide) (fun c_8 => ?_) (fun c_8 => ?_)
          · refine lv_iconst (v := (-1)) zx zb dX10_turn_51 (by decide) ?_
            refine lv_istore (lv' := [(4, .int (-1)), (0, .ref h0), (1, .int 0), (2, .int x2), (3, .int x3)]) zx zb dX10_turn_52 hl (by decide) rfl (fun ls hl => ?_)
            refine lv_iconst (v := (-1)) zx zb dX10_turn_54 (by decide) ?_
            refine lv_istore (lv' := [(5, .int (-1)), (4, .int (-1)), (0, .ref h0), (1, .int 0), (2, .int x2), (3, .int x3)]) zx zb dX10_turn_55 hl (by decide) rfl (fun ls hl => ?_)
            refine lv_bipush (v := 60) zx zb dX10_turn_57 (by decide) ?_
            refine lv_istore (lv' := [(6, .int 60), (5, .int (-1)), (4, .int (-1)), (0, .ref h0), (1, .int 0), (2, .int x2), (3, .int x3)]) zx zb dX10_turn_59 hl (by decide) rfl (fun ls hl => ?_)
            refine lv_iconst (v := 0) zx zb dX10_turn_61 (by decide) ?_
            refine lv_istore (lv' := [(7, .int 0), (6, .int 60), (5, .int (-1)), (4, .int (-1)), (0, .ref h0), (1, .int 0), (2, .int x2), (3, .int x3)]) zx zb dX10_turn_62 hl (by decide) rfl (fun ls hl => ?_)
            refine k_loop (P := ∀ (zm : Nat) (k64 : Nat) (x64_6 : Int32) (x64_5 : Int32) (x64_4 : Int32) (a64_2 : Nat → Int32) (d64_2 : Nat → Int32) (H : Heap) (locs : List Loc) (ls : Array Slot), 31 + 1 ≤ k64 + zm → (k64 ≤ 31) → (x64_6 ≤ 60) → wd X (va_A (@HAppend.hAppend va_W va_W va_W _ (xW h0 nw sp xa la lb) (@HAppend.hAppend va_W va_W va_W _ (rcV X nw an sv dv n0 n1 n2 n3 n4 g0 gs gn gm) (@HAppend.hAppend va_W va_W va_W _ (rnV (xa 8) ag dg) ([((xa 5), .inl (X.2.1, 3, .inl fr))])))) sz) (va_A (@HAppend.hAppend va_W va_W va_W _ (xW h0 nw sp xa la lb) (@HAppend.hAppend va_W va_W va_W _ (rcV X nw an sv dv n0 n1 n2 n3 n4 g0 gs gn gm) (@HAppend.hAppend va_W va_W va_W _ (rnV (xa 8) ag dg) ([((xa 5), .inl (X.2.1, 3, .inl fr))])))) sz) s (@HAppend.hAppend va_W va_W va_W _ (xW h0 nw sp xa la lb) (@HAppend.hAppend va_W va_W va_W _ (rcV X nw an sv dv n0 n1 n2 n3 n4 g0 gs gn gm) (@HAppend.hAppend va_W va_W va_W _ (rnV (xa 8) a64_2 d64_2) ([((xa 5), .inl (X.2.1, 3, .inl fr))])))) H locs → lv_has ls 9 [(7, .int (nI k64)), (6, .int x64_6), (5, .int x64_5), (4, .int x64_4), (0, .ref h0), (1, .int 0), (2, .int x2), (3, .int x3)] → W p l e _ s m _ below meth c H locs _ _ _ (F0 m 64 ls [])) (fun loop => loop (31 + 1) 0 60 (-1) (-1) ag dg _ _ _ (by omega) (by omega) (by first | assumption | decide | exact k_m60 (by assumption)) G hl) ?_
            intro zm
            induction zm with
            | zero => intro k64 x64_6 x64_5 x64_4 a64_2 d64_2 H locs ls zz q_hk_k64 q_hk_x64_6 _ _; exact absurd zz (by omega)
            | succ zm ih64 =>
              intro k64 x64_6 x64_5 x64_4 a64_2 d64_2 H locs ls zm_64 hk_k64 hk_x64_6 G hl
              refine lv_iload zx zb dX10_turn_64 (lv_at hl 0 rfl) ?_
              refine lv_bipush (v := 30) zx zb dX10_turn_66 (by decide) ?_
              refine lv_icmp_gt (tgt := 109) zx zb dX10_turn_68 (by decide) (fun c_9 => ?_) (fun c_9 => ?_)
              · have fc_9 := j_lt (a := 30) (b := k64) (by omega) (by omega) c_9
                refine lv_iload_n zx zb dX10_turn_109 rfl (lv_at hl 7 rfl) ?_
                refine k_cutW (PP := fun Wx => ∀ (x_11 : Int32) (H : Heap) (locs : List Loc) (ls : Array Slot), wd X (va_A (@HAppend.hAppend va_W va_W va_W _ (xW h0 nw sp xa la lb) (@HAppend.hAppend va_W va_W va_W _ (rcV X nw an sv dv n0 n1 n2 n3 n4 g0 gs gn gm) (@HAppend.hAppend va_W va_W va_W _ (rnV (xa 8) ag dg) ([((xa 5), .inl (X.2.1, 3, .inl fr))])))) sz) (va_A (@HAppend.hAppend va_W va_W va_W _ (xW h0 nw sp xa la lb) (@HAppend.hAppend va_W va_W va_W _ (rcV X nw an sv dv n0 n1 n2 n3 n4 g0 gs gn gm) (@HAppend.hAppend va_W va_W va_W _ (rnV (xa 8) ag dg) ([((xa 5), .inl (X.2.1, 3, .inl fr))])))) sz) s (@HAppend.hAppend va_W va_W va_W _ (xW h0 nw sp xa la lb) (@HAppend.hAppend va_W va_W va_W _ (rcV X nw an sv dv n0 n1 n2 n3 n4 g0 gs gn gm) (@HAppend.hAppend va_W va_W va_W _ (rnV (xa 8) a64_2 d64_2) ([((xa 5), .inl (X.2.1, 3, .inl fr))])))) H locs → lv_has ls 9 [(7, .int (nI k64)), (6, .int x64_6), (5, .int x64_5), (4, .int x64_4), (0, .ref h0), (1, .int 0), (2, .int x2), (3, .int x3)] → Wx (F0 m 120 ls [.int x_11]) H locs) ?_ ?_
                · intro join_110
                  refine lv_if_ne (tgt := 118) zx zb dX10_turn_110 (by decide) (fun c_10 => ?_) (fun c_10 => ?_)
                  · refine lv_iload zx zb dX10_turn_118 (lv_at hl 2 rfl) ?_
                    exact join_110 x64_5 _ _ _  G hl
                  · refine lv_iload zx zb dX10_turn_113 (lv_at hl 3 rfl) ?_
                    refine lv_goto (tgt := 120) zx zb dX10_turn_115 (by decide) ?_
                    exact join_110 x64_4 _ _ _  G hl
                · intro x_11 H locs ls  G hl
                  exact e_int S zr zlk (vp_nar_int _) G (a64_2, d64_2, fr) [0, 1, 2, 3, 4, 5, 6, 7, 8, 9, 10, 11, 12, 13, 14, 15, 16, 17, 18] rfl rfl (Or.inr rfl) (trivial) dX10_turn_120
              · have fc_9 := j_nlt (a := 30) (b := k64) (by omega) (by omega) c_9
                refine lv_aload_n zx zb dX10_turn_71 rfl (lv_at hl 4 rfl) ?_
                refine lv_iload_n zx zb dX10_turn_72 rfl (lv_at hl 5 rfl) ?_
                refine lv_iload_n zx zb dX10_turn_73 rfl (lv_at hl 6 rfl) ?_
                refine lv_iload zx zb dX10_turn_74 (lv_at hl 0 rfl) ?_
                refine lv_iload zx zb dX10_turn_76 (lv_at hl 1 rfl) ?_
                refine b_wi (cells' := 0) (slots' := 0) (wr := [((xa 5), .inl (X.2.1, 3, .inl fr))]) G rfl rfl [0, 1, 2, 3, 4, 5, 6, 7, 8, 9, 10, 11, 12, 13, 14, 15, 16, 17] [18] rfl rfl rfl rfl (n_V (As := [.int 0, .int x2, .int (nI k64), .int x64_6]) (rest := []) (C := RX10) (T := TX10) (N := 14) (ci := 8) S G (s_homeTurning l X h0 nw sp xa la lb an sv dv n0 n1 n2 n3 n4 g0 gs gn gm a64_2 d64_2 0 x2 k64 x64_6 hI_n0 hI_n1 hI_n2 hI_n3 hI_n4 (by omega) (by omega) (by first | decide | assumption | exact k_60a (by assumption)) H.size) gX10_turn_X10_homeTurning rfl rfl rfl hdV_X10_homeTurning ⟨Nat.le_of_ble_eq_true rfl, Nat.le_of_ble_eq_true rfl⟩ [0, 1, 2, 3, 4, 5, 6, 7, 8, 9, 10, 11, 12, 13, 14, 15, 16, 17] rfl rfl 0 rfl rfl rfl hl.1 (Nat.le_of_ble_eq_true rfl) dX10_turn_78 ⟨Nat.le_of_ble_eq_true rfl, Nat.le_of_ble_eq_true rfl⟩) (fun r_12 u_12 H locs hp_12 G => ?_)
                obtain ⟨a_12a, d_12b⟩ := u_12
                have hq_12 := hp_12
                have G : wd X (va_A (@HAppend.hAppend va_W va_W va_W _ (xW h0 nw sp xa la lb) (@HAppend.hAppend va_W va_W va_W _ (rcV X nw an sv dv n0 n1 n2 n3 n4 g0 gs gn gm) (@HAppend.hAppend va_W va_W va_W _ (rnV (xa 8) ag dg) ([((xa 5), .inl (X.2.1, 3, .inl fr))])))) sz) (va_A (@HAppend.hAppend va_W va_W va_W _ (xW h0 nw sp xa la lb) (@HAppend.hAppend va_W va_W va_W _ (rcV X nw an sv dv n0 n1 n2 n3 n4 g0 gs gn gm) (@HAppend.hAppend va_W va_W va_W _ (rnV (xa 8) ag dg) ([((xa 5), .inl (X.2.1, 3, .inl fr))])))) sz) s (@HAppend.hAppend va_W va_W va_W _ ([((xa 5), .inl (X.2.1, 3, .inl fr))]) (@HAppend.hAppend va_W va_W va_W _ (xW h0 nw sp xa la lb) (@HAppend.hAppend va_W va_W va_W _ (rcV X nw an sv dv n0 n1 n2 n3 n4 g0 gs gn gm) (rnV (xa 8) a_12a d_12b)))) H locs := G
                refine lv_istore (lv' := [(8, .int r_12), (7, .int (nI k64)), (6, .int x64_6), (5, .int x64_5), (4, .int x64_4), (0, .ref h0), (1, .int 0), (2, .int x2), (3, .int x3)]) zx zb dX10_turn_81 hl (by decide) rfl (fun ls hl => ?_)
                refine lv_iload zx zb dX10_turn_83 (lv_at hl 0 rfl) ?_
                refine lv_iconst (v := (-1)) zx zb dX10_turn_85 (by decide) ?_
                refine k_cutW (PP := fun Wx => ∀ (x_14 : Int32) (x_15 : Int32) (x_16 : Int32) (H : Heap) (locs : List Loc) (ls : Array Slot), (x_14 ≤ 60) → wd X (va_A (@HAppend.hAppend va_W va_W va_W _ (xW h0 nw sp xa la lb) (@HAppend.hAppend va_W va_W va_W _ (rcV X nw an sv dv n0 n1 n2 n3 n4 g0 gs gn gm) (@HAppend.hAppend va_W va_W va_W _ (rnV (xa 8) ag dg) ([((xa 5), .inl (X.2.1, 3, .inl fr))])))) sz) (va_A (@HAppend.hAppend va_W va_W va_W _ (xW h0 nw sp xa la lb) (@HAppend.hAppend va_W va_W va_W _ (rcV X nw an sv dv n0 n1 n2 n3 n4 g0 gs gn gm) (@HAppend.hAppend va_W va_W va_W _ (rnV (xa 8) ag dg) ([((xa 5), .inl (X.2.1, 3, .inl fr))])))) sz) s (@HAppend.hAppend va_W va_W va_W _ ([((xa 5), .inl (X.2.1, 3, .inl fr))]) (@HAppend.hAppend va_W va_W va_W _ (xW h0 nw sp xa la lb) (@HAppend.hAppend va_W va_W va_W _ (rcV X nw an sv dv n0 n1 n2 n3 n4 g0 gs gn gm) (rnV (xa 8) a_12a d_12b)))) H locs → lv_has ls 9 [(8, .int r_12), (7, .int (nI k64)), (6, .int x_14), (5, .int x_15), (4, .int x_16), (0, .ref h0), (1, .int 0), (2, .int x2), (3, .int x3)] → Wx (F0 m 103 ls []) H locs) ?_ ?_
                · intro join_86
                  refine lv_icmp_eq (tgt := 103) zx zb dX10_turn_86 (by decide) (fun c_13 => ?_) (fun c_13 => ?_)
                  · exact join_86 x64_6 x64_5 x64_4 _ _ _ (by first | assumption | decide | exact k_m60 (by assumption)) G hl
                  · refine lv_iload zx zb dX10_turn_89 (lv_at hl 1 rfl) ?_
                    refine lv_istore (lv' := [(4, .int (nI k64)), (8, .int r_12), (7, .int (nI k64)), (6, .int x64_6), (5, .int x64_5), (0, .ref h0), (1, .int 0), (2, .int x2), (3, .int x3)]) zx zb dX10_turn_91 hl (by decide) rfl (fun ls hl => ?_)
                    refine lv_iload zx zb dX10_turn_93 (lv_at hl 1 rfl) ?_
                    refine lv_istore (lv' := [(5, .int r_12), (4, .int (nI k64)), (8, .int r_12), (7, .int (nI k64)), (6, .int x64_6), (0, .ref h0), (1, .int 0), (2, .int x2), (3, .int x3)]) zx zb dX10_turn_95 hl (by decide) rfl (fun ls hl => ?_)
                    refine lv_iload zx zb dX10_turn_97 (lv_at hl 2 rfl) ?_
                    refine lv_iconst (v := 1) zx zb dX10_turn_99 (by decide) ?_
                    refine r_isub (v := (r_12 - 1)) S rfl dX10_turn_100 ?_
                    refine lv_istore (lv' := [(6, .int (r_12 - 1)), (5, .int r_12), (4, .int (nI k64)), (8, .int r_12), (7, .int (nI k64)), (0, .ref h0), (1, .int 0), (2, .int x2), (3, .int x3)]) zx zb dX10_turn_101 hl (by decide) rfl (fun ls hl => ?_)
                    have hl := lv_sub hl (l' := [(8, .int r_12), (7, .int (nI k64)), (6, .int (r_12 - 1)), (5, .int r_12), (4, .int (nI k64)), (0, .ref h0), (1, .int 0), (2, .int x2), (3, .int x3)]) [3, 4, 0, 1, 2, 5, 6, 7, 8] rfl
                    exact join_86 (r_12 - 1) r_12 (nI k64) _ _ _ (by first | assumption | decide | exact k_m60 (by assumption)) G hl
                · intro x_14 x_15 x_16 H locs ls hk_x_14 G hl
                  refine lv_iinc (v := (nI (k64 + 1))) (lv' := [(7, .int (nI (k64 + 1))), (8, .int r_12), (6, .int x_14), (5, .int x_15), (4, .int x_16), (0, .ref h0), (1, .int 0), (2, .int x2), (3, .int x3)]) zx zb dX10_turn_103 hl (k := 1) rfl (nI_add k64 1) (by decide) rfl (fun ls hl => ?_)
                  refine lv_goto (tgt := 64) zx zb dX10_turn_106 (by decide) ?_
                  have G : wd X (va_A (@HAppend.hAppend va_W va_W va_W _ (xW h0 nw sp xa la lb) (@HAppend.hAppend va_W va_W va_W _ (rcV X nw an sv dv n0 n1 n2 n3 n4 g0 gs gn gm) (@HAppend.hAppend va_W va_W va_W _ (rnV (xa 8) ag dg) ([((xa 5), .inl (X.2.1, 3, .inl fr))])))) sz) (va_A (@HAppend.hAppend va_W va_W va_W _ (xW h0 nw sp xa la lb) (@HAppend.hAppend va_W va_W va_W _ (rcV X nw an sv dv n0 n1 n2 n3 n4 g0 gs gn gm) (@HAppend.hAppend va_W va_W va_W _ (rnV (xa 8) ag dg) ([((xa 5), .inl (X.2.1, 3, .inl fr))])))) sz) s (@HAppend.hAppend va_W va_W va_W _ (xW h0 nw sp xa la lb) (@HAppend.hAppend va_W va_W va_W _ (rcV X nw an sv dv n0 n1 n2 n3 n4 g0 gs gn gm) (@HAppend.hAppend va_W va_W va_W _ (rnV (xa 8) a_12a d_12b) ([((xa 5), .inl (X.2.1, 3, .inl fr))])))) H locs := wd_sub G [1, 2, 3, 4, 5, 6, 7, 8, 9, 10, 11, 12, 13, 14, 15, 16, 17, 18, 0] rfl rfl
                  have hl := lv_sub hl (l' := [(7, .int (nI (k64 + 1))), (6, .int x_14), (5, .int x_15), (4, .int x_16), (0, .ref h0), (1, .int 0), (2, .int x2), (3, .int x3)]) [0, 2, 3, 4, 5, 6, 7, 8] rfl
                  exact ih64 (k64 + 1) x_14 x_15 x_16 a_12a d_12b _ _ _ (by omega) (by omega) (by first | assumption | decide | exact k_m60 (by assumption)) G hl
          · refine lv_iconst (v := (-1)) zx zb dX10_turn_49 (by decide) ?_
            exact e_int S zr zlk (vp_nar_int _) G (ag, dg, fr) [0, 1, 2, 3, 4, 5, 6, 7, 8, 9, 10, 11, 12, 13, 14, 15, 16, 17, 18] rfl rfl (Or.inr rfl) (trivial) dX10_turn_50
        · refine k_it (v := 1) rfl ?_
          refine r_aald (C := RX8) (b := (an 2)) S G 2 3 rfl rfl (k_vp (by decide)) rfl dX10_turn_42 ?_
          refine o_ri (cells' := 0) (slots' := 0) G rfl rfl (n_V (As := []) (rest := []) (C := RX8) (T := TX8) (N := 8) (ci := 6) S G (s_isHome l X (an 2) (fun k => sv (3 + k)) (fun k => dv (15 + k)) H.size) gX10_turn_X8_isHome rfl rfl rfl hdV_X8_isHome ⟨Nat.le_of_ble_eq_true rfl, Nat.le_of_ble_eq_true rfl⟩ [4] rfl rfl 4 rfl rfl rfl hl.1 (Nat.le_of_ble_eq_true rfl) dX10_turn_43 ⟨Nat.le_of_ble_eq_true rfl, Nat.le_of_ble_eq_true rfl⟩) (fun r_17 u_17 H locs hp_17 G => ?_)
          have G : wd X (va_A (@HAppend.hAppend va_W va_W va_W _ (xW h0 nw sp xa la lb) (@HAppend.hAppend va_W va_W va_W _ (rcV X nw an sv dv n0 n1 n2 n3 n4 g0 gs gn gm) (@HAppend.hAppend va_W va_W va_W _ (rnV (xa 8) ag dg) ([((xa 5), .inl (X.2.1, 3, .inl fr))])))) sz) (va_A (@HAppend.hAppend va_W va_W va_W _ (xW h0 nw sp xa la lb) (@HAppend.hAppend va_W va_W va_W _ (rcV X nw an sv dv n0 n1 n2 n3 n4 g0 gs gn gm) (@HAppend.hAppend va_W va_W va_W _ (rnV (xa 8) ag dg) ([((xa 5), .inl (X.2.1, 3, .inl fr))])))) sz) s (@HAppend.hAppend va_W va_W va_W _ (xW h0 nw sp xa la lb) (@HAppend.hAppend va_W va_W va_W _ (rcV X nw an sv dv n0 n1 n2 n3 n4 g0 gs gn gm) (@HAppend.hAppend va_W va_W va_W _ (rnV (xa 8) ag dg) ([((xa 5), .inl (X.2.1, 3, .inl fr))])))) H locs := G
          refine lv_if_eq (tgt := 51) zx zb dX10_turn_46 (by decide) (fun c_18 => ?_) (fun c_18 => ?_)
          · refine lv_iconst (v := (-1)) zx zb dX10_turn_51 (by decide) ?_
            refine lv_istore (lv' := [(4, .int (-1)), (0, .ref h0), (1, .int 1), (2, .int x2), (3, .int x3)]) zx zb dX10_turn_52 hl (by decide) rfl (fun ls hl => ?_)
            refine lv_iconst (v := (-1)) zx zb dX10_turn_54 (by decide) ?_
            refine lv_istore (lv' := [(5, .int (-1)), (4, .int (-1)), (0, .ref h0), (1, .int 1), (2, .int x2), (3, .int x3)]) zx zb dX10_turn_55 hl (by decide) rfl (fun ls hl => ?_)
            refine lv_bipush (v := 60) zx zb dX10_turn_57 (by decide) ?_
            refine lv_istore (lv' := [(6, .int 60), (5, .int (-1)), (4, .int (-1)), (0, .ref h0), (1, .int 1), (2, .int x2), (3, .int x3)]) zx zb dX10_turn_59 hl (by decide) rfl (fun ls hl => ?_)
            refine lv_iconst (v := 0) zx zb dX10_turn_61 (by decide) ?_
            refine lv_istore (lv' := [(7, .int 0), (6, .int 60), (5, .int (-1)), (4, .int (-1)), (0, .ref h0), (1, .int 1), (2, .int x2), (3, .int x3)]) zx zb dX10_turn_62 hl (by decide) rfl (fun ls hl => ?_)
            refine k_loop (P := ∀ (zm : Nat) (k64 : Nat) (x64_6 : Int32) (x64_5 : Int32) (x64_4 : Int32) (a64_2 : Nat → Int32) (d64_2 : Nat → Int32) (H : Heap) (locs : List Loc) (ls : Array Slot), 31 + 1 ≤ k64 + zm → (k64 ≤ 31) → (x64_6 ≤ 60) → wd X (va_A (@HAppend.hAppend va_W va_W va_W _ (xW h0 nw sp xa la lb) (@HAppend.hAppend va_W va_W va_W _ (rcV X nw an sv dv n0 n1 n2 n3 n4 g0 gs gn gm) (@HAppend.hAppend va_W va_W va_W _ (rnV (xa 8) ag dg) ([((xa 5), .inl (X.2.1, 3, .inl fr))])))) sz) (va_A (@HAppend.hAppend va_W va_W va_W _ (xW h0 nw sp xa la lb) (@HAppend.hAppend va_W va_W va_W _ (rcV X nw an sv dv n0 n1 n2 n3 n4 g0 gs gn gm) (@HAppend.hAppend va_W va_W va_W _ (rnV (xa 8) ag dg) ([((xa 5), .inl (X.2.1, 3, .inl fr))])))) sz) s (@HAppend.hAppend va_W va_W va_W _ (xW h0 nw sp xa la lb) (@HAppend.hAppend va_W va_W va_W _ (rcV X nw an sv dv n0 n1 n2 n3 n4 g0 gs gn gm) (@HAppend.hAppend va_W va_W va_W _ (rnV (xa 8) a64_2 d64_2) ([((xa 5), .inl (X.2.1, 3, .inl fr))])))) H locs → lv_has ls 9 [(7, .int (nI k64)), (6, .int x64_6), (5, .int x64_5), (4, .int x64_4), (0, .ref h0), (1, .int 1), (2, .int x2), (3, .int x3)] → W p l e _ s m _ below meth c H locs _ _ _ (F0 m 64 ls [])) (fun loop => loop (31 + 1) 0 60 (-1) (-1) ag dg _ _ _ (by omega) (by omega) (by first | assumption | decide | exact k_m60 (by assumption)) G hl) ?_
            intro zm
            induction zm with
            | zero => intro k64 x64_6 x64_5 x64_4 a64_2 d64_2 H locs ls zz q_hk_k64 q_hk_x64_6 _ _; exact absurd zz (by omega)
            | succ zm ih64 =>
              intro k64 x64_6 x64_5 x64_4 a64_2 d64_2 H locs ls zm_64 hk_k64 hk_x64_6 G hl
              refine lv_iload zx zb dX10_turn_64 (lv_at hl 0 rfl) ?_
              refine lv_bipush (v := 30) zx zb dX10_turn_66 (by decide) ?_
              refine lv_icmp_gt (tgt := 109) zx zb dX10_turn_68 (by decide) (fun c_19 => ?_) (fun c_19 => ?_)
              · have fc_19 := j_lt (a := 30) (b := k64) (by omega) (by omega) c_19
                refine lv_iload_n zx zb dX10_turn_109 rfl (lv_at hl 7 rfl) ?_
                refine k_cutW (PP := fun Wx => ∀ (x_21 : Int32) (H : Heap) (locs : List Loc) (ls : Array Slot), wd X (va_A (@HAppend.hAppend va_W va_W va_W _ (xW h0 nw sp xa la lb) (@HAppend.hAppend va_W va_W va_W _ (rcV X nw an sv dv n0 n1 n2 n3 n4 g0 gs gn gm) (@HAppend.hAppend va_W va_W va_W _ (rnV (xa 8) ag dg) ([((xa 5), .inl (X.2.1, 3, .inl fr))])))) sz) (va_A (@HAppend.hAppend va_W va_W va_W _ (xW h0 nw sp xa la lb) (@HAppend.hAppend va_W va_W va_W _ (rcV X nw an sv dv n0 n1 n2 n3 n4 g0 gs gn gm) (@HAppend.hAppend va_W va_W va_W _ (rnV (xa 8) ag dg) ([((xa 5), .inl (X.2.1, 3, .inl fr))])))) sz) s (@HAppend.hAppend va_W va_W va_W _ (xW h0 nw sp xa la lb) (@HAppend.hAppend va_W va_W va_W _ (rcV X nw an sv dv n0 n1 n2 n3 n4 g0 gs gn gm) (@HAppend.hAppend va_W va_W va_W _ (rnV (xa 8) a64_2 d64_2) ([((xa 5), .inl (X.2.1, 3, .inl fr))])))) H locs → lv_has ls 9 [(7, .int (nI k64)), (6, .int x64_6), (5, .int x64_5), (4, .int x64_4), (0, .ref h0), (1, .int 1), (2, .int x2), (3, .int x3)] → Wx (F0 m 120 ls [.int x_21]) H locs) ?_ ?_
                · intro join_110
                  refine lv_if_ne (tgt := 118) zx zb dX10_turn_110 (by decide) (fun c_20 => ?_) (fun c_20 => ?_)
                  · refine lv_iload zx zb dX10_turn_118 (lv_at hl 2 rfl) ?_
                    exact join_110 x64_5 _ _ _  G hl
                  · refine lv_iload zx zb dX10_turn_113 (lv_at hl 3 rfl) ?_
                    refine lv_goto (tgt := 120) zx zb dX10_turn_115 (by decide) ?_
                    exact join_110 x64_4 _ _ _  G hl
                · intro x_21 H locs ls  G hl
                  exact e_int S zr zlk (vp_nar_int _) G (a64_2, d64_2, fr) [0, 1, 2, 3, 4, 5, 6, 7, 8, 9, 10, 11, 12, 13, 14, 15, 16, 17, 18] rfl rfl (Or.inr rfl) (trivial) dX10_turn_120
              · have fc_19 := j_nlt (a := 30) (b := k64) (by omega) (by omega) c_19
                refine lv_aload_n zx zb dX10_turn_71 rfl (lv_at hl 4 rfl) ?_
                refine lv_iload_n zx zb dX10_turn_72 rfl (lv_at hl 5 rfl) ?_
                refine lv_iload_n zx zb dX10_turn_73 rfl (lv_at hl 6 rfl) ?_
                refine lv_iload zx zb dX10_turn_74 (lv_at hl 0 rfl) ?_
                refine lv_iload zx zb dX10_turn_76 (lv_at hl 1 rfl) ?_
                refine b_wi (cells' := 0) (slots' := 0) (wr := [((xa 5), .inl (X.2.1, 3, .inl fr))]) G rfl rfl [0, 1, 2, 3, 4, 5, 6, 7, 8, 9, 10, 11, 12, 13, 14, 15, 16, 17] [18] rfl rfl rfl rfl (n_V (As := [.int 1, .int x2, .int (nI k64), .int x64_6]) (rest := []) (C := RX10) (T := TX10) (N := 14) (ci := 8) S G (s_homeTurning l X h0 nw sp xa la lb an sv dv n0 n1 n2 n3 n4 g0 gs gn gm a64_2 d64_2 1 x2 k64 x64_6 hI_n0 hI_n1 hI_n2 hI_n3 hI_n4 (by omega) (by omega) (by first | decide | assumption | exact k_60a (by assumption)) H.size) gX10_turn_X10_homeTurning rfl rfl rfl hdV_X10_homeTurning ⟨Nat.le_of_ble_eq_true rfl, Nat.le_of_ble_eq_true rfl⟩ [0, 1, 2, 3, 4, 5, 6, 7, 8, 9, 10, 11, 12, 13, 14, 15, 16, 17] rfl rfl 0 rfl rfl rfl hl.1 (Nat.le_of_ble_eq_true rfl) dX10_turn_78 ⟨Nat.le_of_ble_eq_true rfl, Nat.le_of_ble_eq_true rfl⟩) (fun r_22 u_22 H locs hp_22 G => ?_)
                obtain ⟨a_22a, d_22b⟩ := u_22
                have hq_22 := hp_22
                have G : wd X (va_A (@HAppend.hAppend va_W va_W va_W _ (xW h0 nw sp xa la lb) (@HAppend.hAppend va_W va_W va_W _ (rcV X nw an sv dv n0 n1 n2 n3 n4 g0 gs gn gm) (@HAppend.hAppend va_W va_W va_W _ (rnV (xa 8) ag dg) ([((xa 5), .inl (X.2.1, 3, .inl fr))])))) sz) (va_A (@HAppend.hAppend va_W va_W va_W _ (xW h0 nw sp xa la lb) (@HAppend.hAppend va_W va_W va_W _ (rcV X nw an sv dv n0 n1 n2 n3 n4 g0 gs gn gm) (@HAppend.hAppend va_W va_W va_W _ (rnV (xa 8) ag dg) ([((xa 5), .inl (X.2.1, 3, .inl fr))])))) sz) s (@HAppend.hAppend va_W va_W va_W _ ([((xa 5), .inl (X.2.1, 3, .inl fr))]) (@HAppend.hAppend va_W va_W va_W _ (xW h0 nw sp xa la lb) (@HAppend.hAppend va_W va_W va_W _ (rcV X nw an sv dv n0 n1 n2 n3 n4 g0 gs gn gm) (rnV (xa 8) a_22a d_22b)))) H locs := G
                refine lv_istore (lv' := [(8, .int r_22), (7, .int (nI k64)), (6, .int x64_6), (5, .int x64_5), (4, .int x64_4), (0, .ref h0), (1, .int 1), (2, .int x2), (3, .int x3)]) zx zb dX10_turn_81 hl (by decide) rfl (fun ls hl => ?_)
                refine lv_iload zx zb dX10_turn_83 (lv_at hl 0 rfl) ?_
                refine lv_iconst (v := (-1)) zx zb dX10_turn_85 (by decide) ?_
                refine k_cutW (PP := fun Wx => ∀ (x_24 : Int32) (x_25 : Int32) (x_26 : Int32) (H : Heap) (locs : List Loc) (ls : Array Slot), (x_24 ≤ 60) → wd X (va_A (@HAppend.hAppend va_W va_W va_W _ (xW h0 nw sp xa la lb) (@HAppend.hAppend va_W va_W va_W _ (rcV X nw an sv dv n0 n1 n2 n3 n4 g0 gs gn gm) (@HAppend.hAppend va_W va_W va_W _ (rnV (xa 8) ag dg) ([((xa 5), .inl (X.2.1, 3, .inl fr))])))) sz) (va_A (@HAppend.hAppend va_W va_W va_W _ (xW h0 nw sp xa la lb) (@HAppend.hAppend va_W va_W va_W _ (rcV X nw an sv dv n0 n1 n2 n3 n4 g0 gs gn gm) (@HAppend.hAppend va_W va_W va_W _ (rnV (xa 8) ag dg) ([((xa 5), .inl (X.2.1, 3, .inl fr))])))) sz) s (@HAppend.hAppend va_W va_W va_W _ ([((xa 5), .inl (X.2.1, 3, .inl fr))]) (@HAppend.hAppend va_W va_W va_W _ (xW h0 nw sp xa la lb) (@HAppend.hAppend va_W va_W va_W _ (rcV X nw an sv dv n0 n1 n2 n3 n4 g0 gs gn gm) (rnV (xa 8) a_22a d_22b)))) H locs → lv_has ls 9 [(8, .int r_22), (7, .int (nI k64)), (6, .int x_24), (5, .int x_25), (4, .int x_26), (0, .ref h0), (1, .int 1), (2, .int x2), (3, .int x3)] → Wx (F0 m 103 ls []) H locs) ?_ ?_
                · intro join_86
                  refine lv_icmp_eq (tgt := 103) zx zb dX10_turn_86 (by decide) (fun c_23 => ?_) (fun c_23 => ?_)
                  · exact join_86 x64_6 x64_5 x64_4 _ _ _ (by first | assumption | decide | exact k_m60 (by assumption)) G hl
                  · refine lv_iload zx zb dX10_turn_89 (lv_at hl 1 rfl) ?_
                    refine lv_istore (lv' := [(4, .int (nI k64)), (8, .int r_22), (7, .int (nI k64)), (6, .int x64_6), (5, .int x64_5), (0, .ref h0), (1, .int 1), (2, .int x2), (3, .int x3)]) zx zb dX10_turn_91 hl (by decide) rfl (fun ls hl => ?_)
                    refine lv_iload zx zb dX10_turn_93 (lv_at hl 1 rfl) ?_
                    refine lv_istore (lv' := [(5, .int r_22), (4, .int (nI k64)), (8, .int r_22), (7, .int (nI k64)), (6, .int x64_6), (0, .ref h0), (1, .int 1), (2, .int x2), (3, .int x3)]) zx zb dX10_turn_95 hl (by decide) rfl (fun ls hl => ?_)
                    refine lv_iload zx zb dX10_turn_97 (lv_at hl 2 rfl) ?_
                    refine lv_iconst (v := 1) zx zb dX10_turn_99 (by decide) ?_
                    refine r_isub (v := (r_22 - 1)) S rfl dX10_turn_100 ?_
                    refine lv_istore (lv' := [(6, .int (r_22 - 1)), (5, .int r_22), (4, .int (nI k64)), (8, .int r_22), (7, .int (nI k64)), (0, .ref h0), (1, .int 1), (2, .int x2), (3, .int x3)]) zx zb dX10_turn_101 hl (by decide) rfl (fun ls hl => ?_)
                    have hl := lv_sub hl (l' := [(8, .int r_22), (7, .int (nI k64)), (6, .int (r_22 - 1)), (5, .int r_22), (4, .int (nI k64)), (0, .ref h0), (1, .int 1), (2, .int x2), (3, .int x3)]) [3, 4, 0, 1, 2, 5, 6, 7, 8] rfl
                    exact join_86 (r_22 - 1) r_22 (nI k64) _ _ _ (by first | assumption | decide | exact k_m60 (by assumption)) G hl
                · intro x_24 x_25 x_26 H locs ls hk_x_24 G hl
                  refine lv_iinc (v := (nI (k64 + 1))) (lv' := [(7, .int (nI (k64 + 1))), (8, .int r_22), (6, .int x_24), (5, .int x_25), (4, .int x_26), (0, .ref h0), (1, .int 1), (2, .int x2), (3, .int x3)]) zx zb dX10_turn_103 hl (k := 1) rfl (nI_add k64 1) (by decide) rfl (fun ls hl => ?_)
                  refine lv_goto (tgt := 64) zx zb dX10_turn_106 (by decide) ?_
                  have G : wd X (va_A (@HAppend.hAppend va_W va_W va_W _ (xW h0 nw sp xa la lb) (@HAppend.hAppend va_W va_W va_W _ (rcV X nw an sv dv n0 n1 n2 n3 n4 g0 gs gn gm) (@HAppend.hAppend va_W va_W va_W _ (rnV (xa 8) ag dg) ([((xa 5), .inl (X.2.1, 3, .inl fr))])))) sz) (va_A (@HAppend.hAppend va_W va_W va_W _ (xW h0 nw sp xa la lb) (@HAppend.hAppend va_W va_W va_W _ (rcV X nw an sv dv n0 n1 n2 n3 n4 g0 gs gn gm) (@HAppend.hAppend va_W va_W va_W _ (rnV (xa 8) ag dg) ([((xa 5), .inl (X.2.1, 3, .inl fr))])))) sz) s (@HAppend.hAppend va_W va_W va_W _ (xW h0 nw sp xa la lb) (@HAppend.hAppend va_W va_W va_W _ (rcV X nw an sv dv n0 n1 n2 n3 n4 g0 gs gn gm) (@HAppend.hAppend va_W va_W va_W _ (rnV (xa 8) a_22a d_22b) ([((xa 5), .inl (X.2.1, 3, .inl fr))])))) H locs := wd_sub G [1, 2, 3, 4, 5, 6, 7, 8, 9, 10, 11, 12, 13, 14, 15, 16, 17, 18, 0] rfl rfl
                  have hl := lv_sub hl (l' := [(7, .int (nI (k64 + 1))), (6, .int x_24), (5, .int x_25), (4, .int x_26), (0, .ref h0), (1, .int 1), (2, .int x2), (3, .int x3)]) [0, 2, 3, 4, 5, 6, 7, 8] rfl
                  exact ih64 (k64 + 1) x_24 x_25 x_26 a_22a d_22b _ _ _ (by omega) (by omega) (by first | assumption | decide | exact k_m60 (by assumption)) G hl
          · refine lv_iconst (v := (-1)) zx zb dX10_turn_49 (by decide) ?_
            exact e_int S zr zlk (vp_nar_int _) G (ag, dg, fr) [0, 1, 2, 3, 4, 5, 6, 7, 8, 9, 10, 11, 12, 13, 14, 15, 16, 17, 18] rfl rfl (Or.inr rfl) (trivial) dX10_turn_50
        · refine k_it (v := 2) rfl ?_
          refine r_aald (C := RX8) (b := (an 3)) S G 2 3 rfl rfl (k_vp (by decide)) rfl dX10_turn_42 ?_
          refine o_ri (cells' := 0) (slots' := 0) G rfl rfl (n_V (As := []) (rest := []) (C := RX8) (T := TX8) (N := 8) (ci := 6) S G (s_isHome l X (an 3) (fun k => sv (6 + k)) (fun k => dv (20 + k)) H.size) gX10_turn_X8_isHome rfl rfl rfl hdV_X8_isHome ⟨Nat.le_of_ble_eq_true rfl, Nat.le_of_ble_eq_true rfl⟩ [5] rfl rfl 5 rfl rfl rfl hl.1 (Nat.le_of_ble_eq_true rfl) dX10_turn_43 ⟨Nat.le_of_ble_eq_true rfl, Nat.le_of_ble_eq_true rfl⟩) (fun r_27 u_27 H locs hp_27 G => ?_)
          have G : wd X (va_A (@HAppend.hAppend va_W va_W va_W _ (xW h0 nw sp xa la lb) (@HAppend.hAppend va_W va_W va_W _ (rcV X nw an sv dv n0 n1 n2 n3 n4 g0 gs gn gm) (@HAppend.hAppend va_W va_W va_W _ (rnV (xa 8) ag dg) ([((xa 5), .inl (X.2.1, 3, .inl fr))])))) sz) (va_A (@HAppend.hAppend va_W va_W va_W _ (xW h0 nw sp xa la lb) (@HAppend.hAppend va_W va_W va_W _ (rcV X nw an sv dv n0 n1 n2 n3 n4 g0 gs gn gm) (@HAppend.hAppend va_W va_W va_W _ (rnV (xa 8) ag dg) ([((xa 5), .inl (X.2.1, 3, .inl fr))])))) sz) s (@HAppend.hAppend va_W va_W va_W _ (xW h0 nw sp xa la lb) (@HAppend.hAppend va_W va_W va_W _ (rcV X nw an sv dv n0 n1 n2 n3 n4 g0 gs gn gm) (@HAppend.hAppend va_W va_W va_W _ (rnV (xa 8) ag dg) ([((xa 5), .inl (X.2.1, 3, .inl fr))])))) H locs := G
          refine lv_if_eq (tgt := 51) zx zb dX10_turn_46 (by decide) (fun c_28 => ?_) (fun c_28 => ?_)
          · refine lv_iconst (v := (-1)) zx zb dX10_turn_51 (by decide) ?_
            refine lv_istore (lv' := [(4, .int (-1)), (0, .ref h0), (1, .int 2), (2, .int x2), (3, .int x3)]) zx zb dX10_turn_52 hl (by decide) rfl (fun ls hl => ?_)
            refine lv_iconst (v := (-1)) zx zb dX10_turn_54 (by decide) ?_
            refine lv_istore (lv' := [(5, .int (-1)), (4, .int (-1)), (0, .ref h0), (1, .int 2), (2, .int x2), (3, .int x3)]) zx zb dX10_turn_55 hl (by decide) rfl (fun ls hl => ?_)
            refine lv_bipush (v := 60) zx zb dX10_turn_57 (by decide) ?_
            refine lv_istore (lv' := [(6, .int 60), (5, .int (-1)), (4, .int (-1)), (0, .ref h0), (1, .int 2), (2, .int x2), (3, .int x3)]) zx zb dX10_turn_59 hl (by decide) rfl (fun ls hl => ?_)
            refine lv_iconst (v := 0) zx zb dX10_turn_61 (by decide) ?_
            refine lv_istore (lv' := [(7, .int 0), (6, .int 60), (5, .int (-1)), (4, .int (-1)), (0, .ref h0), (1, .int 2), (2, .int x2), (3, .int x3)]) zx zb dX10_turn_62 hl (by decide) rfl (fun ls hl => ?_)
            refine k_loop (P := ∀ (zm : Nat) (k64 : Nat) (x64_6 : Int32) (x64_5 : Int32) (x64_4 : Int32) (a64_2 : Nat → Int32) (d64_2 : Nat → Int32) (H : Heap) (locs : List Loc) (ls : Array Slot), 31 + 1 ≤ k64 + zm → (k64 ≤ 31) → (x64_6 ≤ 60) → wd X (va_A (@HAppend.hAppend va_W va_W va_W _ (xW h0 nw sp xa la lb) (@HAppend.hAppend va_W va_W va_W _ (rcV X nw an sv dv n0 n1 n2 n3 n4 g0 gs gn gm) (@HAppend.hAppend va_W va_W va_W _ (rnV (xa 8) ag dg) ([((xa 5), .inl (X.2.1, 3, .inl fr))])))) sz) (va_A (@HAppend.hAppend va_W va_W va_W _ (xW h0 nw sp xa la lb) (@HAppend.hAppend va_W va_W va_W _ (rcV X nw an sv dv n0 n1 n2 n3 n4 g0 gs gn gm) (@HAppend.hAppend va_W va_W va_W _ (rnV (xa 8) ag dg) ([((xa 5), .inl (X.2.1, 3, .inl fr))])))) sz) s (@HAppend.hAppend va_W va_W va_W _ (xW h0 nw sp xa la lb) (@HAppend.hAppend va_W va_W va_W _ (rcV X nw an sv dv n0 n1 n2 n3 n4 g0 gs gn gm) (@HAppend.hAppend va_W va_W va_W _ (rnV (xa 8) a64_2 d64_2) ([((xa 5), .inl (X.2.1, 3, .inl fr))])))) H locs → lv_has ls 9 [(7, .int (nI k64)), (6, .int x64_6), (5, .int x64_5), (4, .int x64_4), (0, .ref h0), (1, .int 2), (2, .int x2), (3, .int x3)] → W p l e _ s m _ below meth c H locs _ _ _ (F0 m 64 ls [])) (fun loop => loop (31 + 1) 0 60 (-1) (-1) ag dg _ _ _ (by omega) (by omega) (by first | assumption | decide | exact k_m60 (by assumption)) G hl) ?_
            intro zm
            induction zm with
            | zero => intro k64 x64_6 x64_5 x64_4 a64_2 d64_2 H locs ls zz q_hk_k64 q_hk_x64_6 _ _; exact absurd zz (by omega)
            | succ zm ih64 =>
              intro k64 x64_6 x64_5 x64_4 a64_2 d64_2 H locs ls zm_64 hk_k64 hk_x64_6 G hl
              refine lv_iload zx zb dX10_turn_64 (lv_at hl 0 rfl) ?_
              refine lv_bipush (v := 30) zx zb dX10_turn_66 (by decide) ?_
              refine lv_icmp_gt (tgt := 109) zx zb dX10_turn_68 (by decide) (fun c_29 => ?_) (fun c_29 => ?_)
              · have fc_29 := j_lt (a := 30) (b := k64) (by omega) (by omega) c_29
                refine lv_iload_n zx zb dX10_turn_109 rfl (lv_at hl 7 rfl) ?_
                refine k_cutW (PP := fun Wx => ∀ (x_31 : Int32) (H : Heap) (locs : List Loc) (ls : Array Slot), wd X (va_A (@HAppend.hAppend va_W va_W va_W _ (xW h0 nw sp xa la lb) (@HAppend.hAppend va_W va_W va_W _ (rcV X nw an sv dv n0 n1 n2 n3 n4 g0 gs gn gm) (@HAppend.hAppend va_W va_W va_W _ (rnV (xa 8) ag dg) ([((xa 5), .inl (X.2.1, 3, .inl fr))])))) sz) (va_A (@HAppend.hAppend va_W va_W va_W _ (xW h0 nw sp xa la lb) (@HAppend.hAppend va_W va_W va_W _ (rcV X nw an sv dv n0 n1 n2 n3 n4 g0 gs gn gm) (@HAppend.hAppend va_W va_W va_W _ (rnV (xa 8) ag dg) ([((xa 5), .inl (X.2.1, 3, .inl fr))])))) sz) s (@HAppend.hAppend va_W va_W va_W _ (xW h0 nw sp xa la lb) (@HAppend.hAppend va_W va_W va_W _ (rcV X nw an sv dv n0 n1 n2 n3 n4 g0 gs gn gm) (@HAppend.hAppend va_W va_W va_W _ (rnV (xa 8) a64_2 d64_2) ([((xa 5), .inl (X.2.1, 3, .inl fr))])))) H locs → lv_has ls 9 [(7, .int (nI k64)), (6, .int x64_6), (5, .int x64_5), (4, .int x64_4), (0, .ref h0), (1, .int 2), (2, .int x2), (3, .int x3)] → Wx (F0 m 120 ls [.int x_31]) H locs) ?_ ?_
                · intro join_110
                  refine lv_if_ne (tgt := 118) zx zb dX10_turn_110 (by decide) (fun c_30 => ?_) (fun c_30 => ?_)
                  · refine lv_iload zx zb dX10_turn_118 (lv_at hl 2 rfl) ?_
                    exact join_110 x64_5 _ _ _  G hl
                  · refine lv_iload zx zb dX10_turn_113 (lv_at hl 3 rfl) ?_
                    refine lv_goto (tgt := 120) zx zb dX10_turn_115 (by decide) ?_
                    exact join_110 x64_4 _ _ _  G hl
                · intro x_31 H locs ls  G hl
                  exact e_int S zr zlk (vp_nar_int _) G (a64_2, d64_2, fr) [0, 1, 2, 3, 4, 5, 6, 7, 8, 9, 10, 11, 12, 13, 14, 15, 16, 17, 18] rfl rfl (Or.inr rfl) (trivial) dX10_turn_120
              · have fc_29 := j_nlt (a := 30) (b := k64) (by omega) (by omega) c_29
                refine lv_aload_n zx zb dX10_turn_71 rfl (lv_at hl 4 rfl) ?_
                refine lv_iload_n zx zb dX10_turn_72 rfl (lv_at hl 5 rfl) ?_
                refine lv_iload_n zx zb dX10_turn_73 rfl (lv_at hl 6 rfl) ?_
                refine lv_iload zx zb dX10_turn_74 (lv_at hl 0 rfl) ?_
                refine lv_iload zx zb dX10_turn_76 (lv_at hl 1 rfl) ?_
                refine b_wi (cells' := 0) (slots' := 0) (wr := [((xa 5), .inl (X.2.1, 3, .inl fr))]) G rfl rfl [0, 1, 2, 3, 4, 5, 6, 7, 8, 9, 10, 11, 12, 13, 14, 15, 16, 17] [18] rfl rfl rfl rfl (n_V (As := [.int 2, .int x2, .int (nI k64), .int x64_6]) (rest := []) (C := RX10) (T := TX10) (N := 14) (ci := 8) S G (s_homeTurning l X h0 nw sp xa la lb an sv dv n0 n1 n2 n3 n4 g0 gs gn gm a64_2 d64_2 2 x2 k64 x64_6 hI_n0 hI_n1 hI_n2 hI_n3 hI_n4 (by omega) (by omega) (by first | decide | assumption | exact k_60a (by assumption)) H.size) gX10_turn_X10_homeTurning rfl rfl rfl hdV_X10_homeTurning ⟨Nat.le_of_ble_eq_true rfl, Nat.le_of_ble_eq_true rfl⟩ [0, 1, 2, 3, 4, 5, 6, 7, 8, 9, 10, 11, 12, 13, 14, 15, 16, 17] rfl rfl 0 rfl rfl rfl hl.1 (Nat.le_of_ble_eq_true rfl) dX10_turn_78 ⟨Nat.le_of_ble_eq_true rfl, Nat.le_of_ble_eq_true rfl⟩) (fun r_32 u_32 H locs hp_32 G => ?_)
                obtain ⟨a_32a, d_32b⟩ := u_32
                have hq_32 := hp_32
                have G : wd X (va_A (@HAppend.hAppend va_W va_W va_W _ (xW h0 nw sp xa la lb) (@HAppend.hAppend va_W va_W va_W _ (rcV X nw an sv dv n0 n1 n2 n3 n4 g0 gs gn gm) (@HAppend.hAppend va_W va_W va_W _ (rnV (xa 8) ag dg) ([((xa 5), .inl (X.2.1, 3, .inl fr))])))) sz) (va_A (@HAppend.hAppend va_W va_W va_W _ (xW h0 nw sp xa la lb) (@HAppend.hAppend va_W va_W va_W _ (rcV X nw an sv dv n0 n1 n2 n3 n4 g0 gs gn gm) (@HAppend.hAppend va_W va_W va_W _ (rnV (xa 8) ag dg) ([((xa 5), .inl (X.2.1, 3, .inl fr))])))) sz) s (@HAppend.hAppend va_W va_W va_W _ ([((xa 5), .inl (X.2.1, 3, .inl fr))]) (@HAppend.hAppend va_W va_W va_W _ (xW h0 nw sp xa la lb) (@HAppend.hAppend va_W va_W va_W _ (rcV X nw an sv dv n0 n1 n2 n3 n4 g0 gs gn gm) (rnV (xa 8) a_32a d_32b)))) H locs := G
                refine lv_istore (lv' := [(8, .int r_32), (7, .int (nI k64)), (6, .int x64_6), (5, .int x64_5), (4, .int x64_4), (0, .ref h0), (1, .int 2), (2, .int x2), (3, .int x3)]) zx zb dX10_turn_81 hl (by decide) rfl (fun ls hl => ?_)
                refine lv_iload zx zb dX10_turn_83 (lv_at hl 0 rfl) ?_
                refine lv_iconst (v := (-1)) zx zb dX10_turn_85 (by decide) ?_
                refine k_cutW (PP := fun Wx => ∀ (x_34 : Int32) (x_35 : Int32) (x_36 : Int32) (H : Heap) (locs : List Loc) (ls : Array Slot), (x_34 ≤ 60) → wd X (va_A (@HAppend.hAppend va_W va_W va_W _ (xW h0 nw sp xa la lb) (@HAppend.hAppend va_W va_W va_W _ (rcV X nw an sv dv n0 n1 n2 n3 n4 g0 gs gn gm) (@HAppend.hAppend va_W va_W va_W _ (rnV (xa 8) ag dg) ([((xa 5), .inl (X.2.1, 3, .inl fr))])))) sz) (va_A (@HAppend.hAppend va_W va_W va_W _ (xW h0 nw sp xa la lb) (@HAppend.hAppend va_W va_W va_W _ (rcV X nw an sv dv n0 n1 n2 n3 n4 g0 gs gn gm) (@HAppend.hAppend va_W va_W va_W _ (rnV (xa 8) ag dg) ([((xa 5), .inl (X.2.1, 3, .inl fr))])))) sz) s (@HAppend.hAppend va_W va_W va_W _ ([((xa 5), .inl (X.2.1, 3, .inl fr))]) (@HAppend.hAppend va_W va_W va_W _ (xW h0 nw sp xa la lb) (@HAppend.hAppend va_W va_W va_W _ (rcV X nw an sv dv n0 n1 n2 n3 n4 g0 gs gn gm) (rnV (xa 8) a_32a d_32b)))) H locs → lv_has ls 9 [(8, .int r_32), (7, .int (nI k64)), (6, .int x_34), (5, .int x_35), (4, .int x_36), (0, .ref h0), (1, .int 2), (2, .int x2), (3, .int x3)] → Wx (F0 m 103 ls []) H locs) ?_ ?_
                · intro join_86
                  refine lv_icmp_eq (tgt := 103) zx zb dX10_turn_86 (by decide) (fun c_33 => ?_) (fun c_33 => ?_)
                  · exact join_86 x64_6 x64_5 x64_4 _ _ _ (by first | assumption | decide | exact k_m60 (by assumption)) G hl
                  · refine lv_iload zx zb dX10_turn_89 (lv_at hl 1 rfl) ?_
                    refine lv_istore (lv' := [(4, .int (nI k64)), (8, .int r_32), (7, .int (nI k64)), (6, .int x64_6), (5, .int x64_5), (0, .ref h0), (1, .int 2), (2, .int x2), (3, .int x3)]) zx zb dX10_turn_91 hl (by decide) rfl (fun ls hl => ?_)
                    refine lv_iload zx zb dX10_turn_93 (lv_at hl 1 rfl) ?_
                    refine lv_istore (lv' := [(5, .int r_32), (4, .int (nI k64)), (8, .int r_32), (7, .int (nI k64)), (6, .int x64_6), (0, .ref h0), (1, .int 2), (2, .int x2), (3, .int x3)]) zx zb dX10_turn_95 hl (by decide) rfl (fun ls hl => ?_)
                    refine lv_iload zx zb dX10_turn_97 (lv_at hl 2 rfl) ?_
                    refine lv_iconst (v := 1) zx zb dX10_turn_99 (by decide) ?_
                    refine r_isub (v := (r_32 - 1)) S rfl dX10_turn_100 ?_
                    refine lv_istore (lv' := [(6, .int (r_32 - 1)), (5, .int r_32), (4, .int (nI k64)), (8, .int r_32), (7, .int (nI k64)), (0, .ref h0), (1, .int 2), (2, .int x2), (3, .int x3)]) zx zb dX10_turn_101 hl (by decide) rfl (fun ls hl => ?_)
                    have hl := lv_sub hl (l' := [(8, .int r_32), (7, .int (nI k64)), (6, .int (r_32 - 1)), (5, .int r_32), (4, .int (nI k64)), (0, .ref h0), (1, .int 2), (2, .int x2), (3, .int x3)]) [3, 4, 0, 1, 2, 5, 6, 7, 8] rfl
                    exact join_86 (r_32 - 1) r_32 (nI k64) _ _ _ (by first | assumption | decide | exact k_m60 (by assumption)) G hl
                · intro x_34 x_35 x_36 H locs ls hk_x_34 G hl
                  refine lv_iinc (v := (nI (k64 + 1))) (lv' := [(7, .int (nI (k64 + 1))), (8, .int r_32), (6, .int x_34), (5, .int x_35), (4, .int x_36), (0, .ref h0), (1, .int 2), (2, .int x2), (3, .int x3)]) zx zb dX10_turn_103 hl (k := 1) rfl (nI_add k64 1) (by decide) rfl (fun ls hl => ?_)
                  refine lv_goto (tgt := 64) zx zb dX10_turn_106 (by decide) ?_
                  have G : wd X (va_A (@HAppend.hAppend va_W va_W va_W _ (xW h0 nw sp xa la lb) (@HAppend.hAppend va_W va_W va_W _ (rcV X nw an sv dv n0 n1 n2 n3 n4 g0 gs gn gm) (@HAppend.hAppend va_W va_W va_W _ (rnV (xa 8) ag dg) ([((xa 5), .inl (X.2.1, 3, .inl fr))])))) sz) (va_A (@HAppend.hAppend va_W va_W va_W _ (xW h0 nw sp xa la lb) (@HAppend.hAppend va_W va_W va_W _ (rcV X nw an sv dv n0 n1 n2 n3 n4 g0 gs gn gm) (@HAppend.hAppend va_W va_W va_W _ (rnV (xa 8) ag dg) ([((xa 5), .inl (X.2.1, 3, .inl fr))])))) sz) s (@HAppend.hAppend va_W va_W va_W _ (xW h0 nw sp xa la lb) (@HAppend.hAppend va_W va_W va_W _ (rcV X nw an sv dv n0 n1 n2 n3 n4 g0 gs gn gm) (@HAppend.hAppend va_W va_W va_W _ (rnV (xa 8) a_32a d_32b) ([((xa 5), .inl (X.2.1, 3, .inl fr))])))) H locs := wd_sub G [1, 2, 3, 4, 5, 6, 7, 8, 9, 10, 11, 12, 13, 14, 15, 16, 17, 18, 0] rfl rfl
                  have hl := lv_sub hl (l' := [(7, .int (nI (k64 + 1))), (6, .int x_34), (5, .int x_35), (4, .int x_36), (0, .ref h0), (1, .int 2), (2, .int x2), (3, .int x3)]) [0, 2, 3, 4, 5, 6, 7, 8] rfl
                  exact ih64 (k64 + 1) x_34 x_35 x_36 a_32a d_32b _ _ _ (by omega) (by omega) (by first | assumption | decide | exact k_m60 (by assumption)) G hl
          · refine lv_iconst (v := (-1)) zx zb dX10_turn_49 (by decide) ?_
            exact e_int S zr zlk (vp_nar_int _) G (ag, dg, fr) [0, 1, 2, 3, 4, 5, 6, 7, 8, 9, 10, 11, 12, 13, 14, 15, 16, 17, 18] rfl rfl (Or.inr rfl) (trivial) dX10_turn_50
        · refine k_it (v := 3) rfl ?_
          refine r_aald (C := RX8) (b := (an 4)) S G 2 3 rfl rfl (k_vp (by decide)) rfl dX10_turn_42 ?_
          refine o_ri (cells' := 0) (slots' := 0) G rfl rfl (n_V (As := []) (rest := []) (C := RX8) (T := TX8) (N := 8) (ci := 6) S G (s_isHome l X (an 4) (fun k => sv (9 + k)) (fun k => dv (25 + k)) H.size) gX10_turn_X8_isHome rfl rfl rfl hdV_X8_isHome ⟨Nat.le_of_ble_eq_true rfl, Nat.le_of_ble_eq_true rfl⟩ [6] rfl rfl 6 rfl rfl rfl hl.1 (Nat.le_of_ble_eq_true rfl) dX10_turn_43 ⟨Nat.le_of_ble_eq_true rfl, Nat.le_of_ble_eq_true rfl⟩) (fun r_37 u_37 H locs hp_37 G => ?_)
          have G : wd X (va_A (@HAppend.hAppend va_W va_W va_W _ (xW h0 nw sp xa la lb) (@HAppend.hAppend va_W va_W va_W _ (rcV X nw an sv dv n0 n1 n2 n3 n4 g0 gs gn gm) (@HAppend.hAppend va_W va_W va_W _ (rnV (xa 8) ag dg) ([((xa 5), .inl (X.2.1, 3, .inl fr))])))) sz) (va_A (@HAppend.hAppend va_W va_W va_W _ (xW h0 nw sp xa la lb) (@HAppend.hAppend va_W va_W va_W _ (rcV X nw an sv dv n0 n1 n2 n3 n4 g0 gs gn gm) (@HAppend.hAppend va_W va_W va_W _ (rnV (xa 8) ag dg) ([((xa 5), .inl (X.2.1, 3, .inl fr))])))) sz) s (@HAppend.hAppend va_W va_W va_W _ (xW h0 nw sp xa la lb) (@HAppend.hAppend va_W va_W va_W _ (rcV X nw an sv dv n0 n1 n2 n3 n4 g0 gs gn gm) (@HAppend.hAppend va_W va_W va_W _ (rnV (xa 8) ag dg) ([((xa 5), .inl (X.2.1, 3, .inl fr))])))) H locs := G
          refine lv_if_eq (tgt := 51) zx zb dX10_turn_46 (by decide) (fun c_38 => ?_) (fun c_38 => ?_)
          · refine lv_iconst (v := (-1)) zx zb dX10_turn_51 (by decide) ?_
            refine lv_istore (lv' := [(4, .int (-1)), (0, .ref h0), (1, .int 3), (2, .int x2), (3, .int x3)]) zx zb dX10_turn_52 hl (by decide) rfl (fun ls hl => ?_)
            refine lv_iconst (v := (-1)) zx zb dX10_turn_54 (by decide) ?_
            refine lv_istore (lv' := [(5, .int (-1)), (4, .int (-1)), (0, .ref h0), (1, .int 3), (2, .int x2), (3, .int x3)]) zx zb dX10_turn_55 hl (by decide) rfl (fun ls hl => ?_)
            refine lv_bipush (v := 60) zx zb dX10_turn_57 (by decide) ?_
            refine lv_istore (lv' := [(6, .int 60), (5, .int (-1)), (4, .int (-1)), (0, .ref h0), (1, .int 3), (2, .int x2), (3, .int x3)]) zx zb dX10_turn_59 hl (by decide) rfl (fun ls hl => ?_)
            refine lv_iconst (v := 0) zx zb dX10_turn_61 (by decide) ?_
            refine lv_istore (lv' := [(7, .int 0), (6, .int 60), (5, .int (-1)), (4, .int (-1)), (0, .ref h0), (1, .int 3), (2, .int x2), (3, .int x3)]) zx zb dX10_turn_62 hl (by decide) rfl (fun ls hl => ?_)
            refine k_loop (P := ∀ (zm : Nat) (k64 : Nat) (x64_6 : Int32) (x64_5 : Int32) (x64_4 : Int32) (a64_2 : Nat → Int32) (d64_2 : Nat → Int32) (H : Heap) (locs : List Loc) (ls : Array Slot), 31 + 1 ≤ k64 + zm → (k64 ≤ 31) → (x64_6 ≤ 60) → wd X (va_A (@HAppend.hAppend va_W va_W va_W _ (xW h0 nw sp xa la lb) (@HAppend.hAppend va_W va_W va_W _ (rcV X nw an sv dv n0 n1 n2 n3 n4 g0 gs gn gm) (@HAppend.hAppend va_W va_W va_W _ (rnV (xa 8) ag dg) ([((xa 5), .inl (X.2.1, 3, .inl fr))])))) sz) (va_A (@HAppend.hAppend va_W va_W va_W _ (xW h0 nw sp xa la lb) (@HAppend.hAppend va_W va_W va_W _ (rcV X nw an sv dv n0 n1 n2 n3 n4 g0 gs gn gm) (@HAppend.hAppend va_W va_W va_W _ (rnV (xa 8) ag dg) ([((xa 5), .inl (X.2.1, 3, .inl fr))])))) sz) s (@HAppend.hAppend va_W va_W va_W _ (xW h0 nw sp xa la lb) (@HAppend.hAppend va_W va_W va_W _ (rcV X nw an sv dv n0 n1 n2 n3 n4 g0 gs gn gm) (@HAppend.hAppend va_W va_W va_W _ (rnV (xa 8) a64_2 d64_2) ([((xa 5), .inl (X.2.1, 3, .inl fr))])))) H locs → lv_has ls 9 [(7, .int (nI k64)), (6, .int x64_6), (5, .int x64_5), (4, .int x64_4), (0, .ref h0), (1, .int 3), (2, .int x2), (3, .int x3)] → W p l e _ s m _ below meth c H locs _ _ _ (F0 m 64 ls [])) (fun loop => loop (31 + 1) 0 60 (-1) (-1) ag dg _ _ _ (by omega) (by omega) (by first | assumption | decide | exact k_m60 (by assumption)) G hl) ?_
            intro zm
            induction zm with
            | zero => intro k64 x64_6 x64_5 x64_4 a64_2 d64_2 H locs ls zz q_hk_k64 q_hk_x64_6 _ _; exact absurd zz (by omega)
            | succ zm ih64 =>
              intro k64 x64_6 x64_5 x64_4 a64_2 d64_2 H locs ls zm_64 hk_k64 hk_x64_6 G hl
              refine lv_iload zx zb dX10_turn_64 (lv_at hl 0 rfl) ?_
              refine lv_bipush (v := 30) zx zb dX10_turn_66 (by decide) ?_
              refine lv_icmp_gt (tgt := 109) zx zb dX10_turn_68 (by decide) (fun c_39 => ?_) (fun c_39 => ?_)
              · have fc_39 := j_lt (a := 30) (b := k64) (by omega) (by omega) c_39
                refine lv_iload_n zx zb dX10_turn_109 rfl (lv_at hl 7 rfl) ?_
                refine k_cutW (PP := fun Wx => ∀ (x_41 : Int32) (H : Heap) (locs : List Loc) (ls : Array Slot), wd X (va_A (@HAppend.hAppend va_W va_W va_W _ (xW h0 nw sp xa la lb) (@HAppend.hAppend va_W va_W va_W _ (rcV X nw an sv dv n0 n1 n2 n3 n4 g0 gs gn gm) (@HAppend.hAppend va_W va_W va_W _ (rnV (xa 8) ag dg) ([((xa 5), .inl (X.2.1, 3, .inl fr))])))) sz) (va_A (@HAppend.hAppend va_W va_W va_W _ (xW h0 nw sp xa la lb) (@HAppend.hAppend va_W va_W va_W _ (rcV X nw an sv dv n0 n1 n2 n3 n4 g0 gs gn gm) (@HAppend.hAppend va_W va_W va_W _ (rnV (xa 8) ag dg) ([((xa 5), .inl (X.2.1, 3, .inl fr))])))) sz) s (@HAppend.hAppend va_W va_W va_W _ (xW h0 nw sp xa la lb) (@HAppend.hAppend va_W va_W va_W _ (rcV X nw an sv dv n0 n1 n2 n3 n4 g0 gs gn gm) (@HAppend.hAppend va_W va_W va_W _ (rnV (xa 8) a64_2 d64_2) ([((xa 5), .inl (X.2.1, 3, .inl fr))])))) H locs → lv_has ls 9 [(7, .int (nI k64)), (6, .int x64_6), (5, .int x64_5), (4, .int x64_4), (0, .ref h0), (1, .int 3), (2, .int x2), (3, .int x3)] → Wx (F0 m 120 ls [.int x_41]) H locs) ?_ ?_
                · intro join_110
                  refine lv_if_ne (tgt := 118) zx zb dX10_turn_110 (by decide) (fun c_40 => ?_) (fun c_40 => ?_)
                  · refine lv_iload zx zb dX10_turn_118 (lv_at hl 2 rfl) ?_
                    exact join_110 x64_5 _ _ _  G hl
                  · refine lv_iload zx zb dX10_turn_113 (lv_at hl 3 rfl) ?_
                    refine lv_goto (tgt := 120) zx zb dX10_turn_115 (by decide) ?_
                    exact join_110 x64_4 _ _ _  G hl
                · intro x_41 H locs ls  G hl
                  exact e_int S zr zlk (vp_nar_int _) G (a64_2, d64_2, fr) [0, 1, 2, 3, 4, 5, 6, 7, 8, 9, 10, 11, 12, 13, 14, 15, 16, 17, 18] rfl rfl (Or.inr rfl) (trivial) dX10_turn_120
              · have fc_39 := j_nlt (a := 30) (b := k64) (by omega) (by omega) c_39
                refine lv_aload_n zx zb dX10_turn_71 rfl (lv_at hl 4 rfl) ?_
                refine lv_iload_n zx zb dX10_turn_72 rfl (lv_at hl 5 rfl) ?_
                refine lv_iload_n zx zb dX10_turn_73 rfl (lv_at hl 6 rfl) ?_
                refine lv_iload zx zb dX10_turn_74 (lv_at hl 0 rfl) ?_
                refine lv_iload zx zb dX10_turn_76 (lv_at hl 1 rfl) ?_
                refine b_wi (cells' := 0) (slots' := 0) (wr := [((xa 5), .inl (X.2.1, 3, .inl fr))]) G rfl rfl [0, 1, 2, 3, 4, 5, 6, 7, 8, 9, 10, 11, 12, 13, 14, 15, 16, 17] [18] rfl rfl rfl rfl (n_V (As := [.int 3, .int x2, .int (nI k64), .int x64_6]) (rest := []) (C := RX10) (T := TX10) (N := 14) (ci := 8) S G (s_homeTurning l X h0 nw sp xa la lb an sv dv n0 n1 n2 n3 n4 g0 gs gn gm a64_2 d64_2 3 x2 k64 x64_6 hI_n0 hI_n1 hI_n2 hI_n3 hI_n4 (by omega) (by omega) (by first | decide | assumption | exact k_60a (by assumption)) H.size) gX10_turn_X10_homeTurning rfl rfl rfl hdV_X10_homeTurning ⟨Nat.le_of_ble_eq_true rfl, Nat.le_of_ble_eq_true rfl⟩ [0, 1, 2, 3, 4, 5, 6, 7, 8, 9, 10, 11, 12, 13, 14, 15, 16, 17] rfl rfl 0 rfl rfl rfl hl.1 (Nat.le_of_ble_eq_true rfl) dX10_turn_78 ⟨Nat.le_of_ble_eq_true rfl, Nat.le_of_ble_eq_true rfl⟩) (fun r_42 u_42 H locs hp_42 G => ?_)
                obtain ⟨a_42a, d_42b⟩ := u_42
                have hq_42 := hp_42
                have G : wd X (va_A (@HAppend.hAppend va_W va_W va_W _ (xW h0 nw sp xa la lb) (@HAppend.hAppend va_W va_W va_W _ (rcV X nw an sv dv n0 n1 n2 n3 n4 g0 gs gn gm) (@HAppend.hAppend va_W va_W va_W _ (rnV (xa 8) ag dg) ([((xa 5), .inl (X.2.1, 3, .inl fr))])))) sz) (va_A (@HAppend.hAppend va_W va_W va_W _ (xW h0 nw sp xa la lb) (@HAppend.hAppend va_W va_W va_W _ (rcV X nw an sv dv n0 n1 n2 n3 n4 g0 gs gn gm) (@HAppend.hAppend va_W va_W va_W _ (rnV (xa 8) ag dg) ([((xa 5), .inl (X.2.1, 3, .inl fr))])))) sz) s (@HAppend.hAppend va_W va_W va_W _ ([((xa 5), .inl (X.2.1, 3, .inl fr))]) (@HAppend.hAppend va_W va_W va_W _ (xW h0 nw sp xa la lb) (@HAppend.hAppend va_W va_W va_W _ (rcV X nw an sv dv n0 n1 n2 n3 n4 g0 gs gn gm) (rnV (xa 8) a_42a d_42b)))) H locs := G
                refine lv_istore (lv' := [(8, .int r_42), (7, .int (nI k64)), (6, .int x64_6), (5, .int x64_5), (4, .int x64_4), (0, .ref h0), (1, .int 3), (2, .int x2), (3, .int x3)]) zx zb dX10_turn_81 hl (by decide) rfl (fun ls hl => ?_)
                refine lv_iload zx zb dX10_turn_83 (lv_at hl 0 rfl) ?_
                refine lv_iconst (v := (-1)) zx zb dX10_turn_85 (by decide) ?_
                refine k_cutW (PP := fun Wx => ∀ (x_44 : Int32) (x_45 : Int32) (x_46 : Int32) (H : Heap) (locs : List Loc) (ls : Array Slot), (x_44 ≤ 60) → wd X (va_A (@HAppend.hAppend va_W va_W va_W _ (xW h0 nw sp xa la lb) (@HAppend.hAppend va_W va_W va_W _ (rcV X nw an sv dv n0 n1 n2 n3 n4 g0 gs gn gm) (@HAppend.hAppend va_W va_W va_W _ (rnV (xa 8) ag dg) ([((xa 5), .inl (X.2.1, 3, .inl fr))])))) sz) (va_A (@HAppend.hAppend va_W va_W va_W _ (xW h0 nw sp xa la lb) (@HAppend.hAppend va_W va_W va_W _ (rcV X nw an sv dv n0 n1 n2 n3 n4 g0 gs gn gm) (@HAppend.hAppend va_W va_W va_W _ (rnV (xa 8) ag dg) ([((xa 5), .inl (X.2.1, 3, .inl fr))])))) sz) s (@HAppend.hAppend va_W va_W va_W _ ([((xa 5), .inl (X.2.1, 3, .inl fr))]) (@HAppend.hAppend va_W va_W va_W _ (xW h0 nw sp xa la lb) (@HAppend.hAppend va_W va_W va_W _ (rcV X nw an sv dv n0 n1 n2 n3 n4 g0 gs gn gm) (rnV (xa 8) a_42a d_42b)))) H locs → lv_has ls 9 [(8, .int r_42), (7, .int (nI k64)), (6, .int x_44), (5, .int x_45), (4, .int x_46), (0, .ref h0), (1, .int 3), (2, .int x2), (3, .int x3)] → Wx (F0 m 103 ls []) H locs) ?_ ?_
                · intro join_86
                  refine lv_icmp_eq (tgt := 103) zx zb dX10_turn_86 (by decide) (fun c_43 => ?_) (fun c_43 => ?_)
                  · exact join_86 x64_6 x64_5 x64_4 _ _ _ (by first | assumption | decide | exact k_m60 (by assumption)) G hl
                  · refine lv_iload zx zb dX10_turn_89 (lv_at hl 1 rfl) ?_
                    refine lv_istore (lv' := [(4, .int (nI k64)), (8, .int r_42), (7, .int (nI k64)), (6, .int x64_6), (5, .int x64_5), (0, .ref h0), (1, .int 3), (2, .int x2), (3, .int x3)]) zx zb dX10_turn_91 hl (by decide) rfl (fun ls hl => ?_)
                    refine lv_iload zx zb dX10_turn_93 (lv_at hl 1 rfl) ?_
                    refine lv_istore (lv' := [(5, .int r_42), (4, .int (nI k64)), (8, .int r_42), (7, .int (nI k64)), (6, .int x64_6), (0, .ref h0), (1, .int 3), (2, .int x2), (3, .int x3)]) zx zb dX10_turn_95 hl (by decide) rfl (fun ls hl => ?_)
                    refine lv_iload zx zb dX10_turn_97 (lv_at hl 2 rfl) ?_
                    refine lv_iconst (v := 1) zx zb dX10_turn_99 (by decide) ?_
                    refine r_isub (v := (r_42 - 1)) S rfl dX10_turn_100 ?_
                    refine lv_istore (lv' := [(6, .int (r_42 - 1)), (5, .int r_42), (4, .int (nI k64)), (8, .int r_42), (7, .int (nI k64)), (0, .ref h0), (1, .int 3), (2, .int x2), (3, .int x3)]) zx zb dX10_turn_101 hl (by decide) rfl (fun ls hl => ?_)
                    have hl := lv_sub hl (l' := [(8, .int r_42), (7, .int (nI k64)), (6, .int (r_42 - 1)), (5, .int r_42), (4, .int (nI k64)), (0, .ref h0), (1, .int 3), (2, .int x2), (3, .int x3)]) [3, 4, 0, 1, 2, 5, 6, 7, 8] rfl
                    exact join_86 (r_42 - 1) r_42 (nI k64) _ _ _ (by first | assumption | decide | exact k_m60 (by assumption)) G hl
                · intro x_44 x_45 x_46 H locs ls hk_x_44 G hl
                  refine lv_iinc (v := (nI (k64 + 1))) (lv' := [(7, .int (nI (k64 + 1))), (8, .int r_42), (6, .int x_44), (5, .int x_45), (4, .int x_46), (0, .ref h0), (1, .int 3), (2, .int x2), (3, .int x3)]) zx zb dX10_turn_103 hl (k := 1) rfl (nI_add k64 1) (by decide) rfl (fun ls hl => ?_)
                  refine lv_goto (tgt := 64) zx zb dX10_turn_106 (by decide) ?_
                  have G : wd X (va_A (@HAppend.hAppend va_W va_W va_W _ (xW h0 nw sp xa la lb) (@HAppend.hAppend va_W va_W va_W _ (rcV X nw an sv dv n0 n1 n2 n3 n4 g0 gs gn gm) (@HAppend.hAppend va_W va_W va_W _ (rnV (xa 8) ag dg) ([((xa 5), .inl (X.2.1, 3, .inl fr))])))) sz) (va_A (@HAppend.hAppend va_W va_W va_W _ (xW h0 nw sp xa la lb) (@HAppend.hAppend va_W va_W va_W _ (rcV X nw an sv dv n0 n1 n2 n3 n4 g0 gs gn gm) (@HAppend.hAppend va_W va_W va_W _ (rnV (xa 8) ag dg) ([((xa 5), .inl (X.2.1, 3, .inl fr))])))) sz) s (@HAppend.hAppend va_W va_W va_W _ (xW h0 nw sp xa la lb) (@HAppend.hAppend va_W va_W va_W _ (rcV X nw an sv dv n0 n1 n2 n3 n4 g0 gs gn gm) (@HAppend.hAppend va_W va_W va_W _ (rnV (xa 8) a_42a d_42b) ([((xa 5), .inl (X.2.1, 3, .inl fr))])))) H locs := wd_sub G [1, 2, 3, 4, 5, 6, 7, 8, 9, 10, 11, 12, 13, 14, 15, 16, 17, 18, 0] rfl rfl
                  have hl := lv_sub hl (l' := [(7, .int (nI (k64 + 1))), (6, .int x_44), (5, .int x_45), (4, .int x_46), (0, .ref h0), (1, .int 3), (2, .int x2), (3, .int x3)]) [0, 2, 3, 4, 5, 6, 7, 8] rfl
                  exact ih64 (k64 + 1) x_44 x_45 x_46 a_42a d_42b _ _ _ (by omega) (by omega) (by first | assumption | decide | exact k_m60 (by assumption)) G hl
          · refine lv_iconst (v := (-1)) zx zb dX10_turn_49 (by decide) ?_
            exact e_int S zr zlk (vp_nar_int _) G (ag, dg, fr) [0, 1, 2, 3, 4, 5, 6, 7, 8, 9, 10, 11, 12, 13, 14, 15, 16, 17, 18] rfl rfl (Or.inr rfl) (trivial) dX10_turn_50
        · refine k_it (v := 4) rfl ?_
          refine r_aald (C := RX8) (b := (an 5)) S G 2 3 rfl rfl (k_vp (by decide)) rfl dX10_turn_42 ?_
          refine o_ri (cells' := 0) (slots' := 0) G rfl rfl (n_V (As := []) (rest := []) (C := RX8) (T := TX8) (N := 8) (ci := 6) S G (s_isHome l X (an 5) (fun k => sv (12 + k)) (fun k => dv (30 + k)) H.size) gX10_turn_X8_isHome rfl rfl rfl hdV_X8_isHome ⟨Nat.le_of_ble_eq_true rfl, Nat.le_of_ble_eq_true rfl⟩ [7] rfl rfl 7 rfl rfl rfl hl.1 (Nat.le_of_ble_eq_true rfl) dX10_turn_43 ⟨Nat.le_of_ble_eq_true rfl, Nat.le_of_ble_eq_true rfl⟩) (fun r_47 u_47 H locs hp_47 G => ?_)
          have G : wd X (va_A (@HAppend.hAppend va_W va_W va_W _ (xW h0 nw sp xa la lb) (@HAppend.hAppend va_W va_W va_W _ (rcV X nw an sv dv n0 n1 n2 n3 n4 g0 gs gn gm) (@HAppend.hAppend va_W va_W va_W _ (rnV (xa 8) ag dg) ([((xa 5), .inl (X.2.1, 3, .inl fr))])))) sz) (va_A (@HAppend.hAppend va_W va_W va_W _ (xW h0 nw sp xa la lb) (@HAppend.hAppend va_W va_W va_W _ (rcV X nw an sv dv n0 n1 n2 n3 n4 g0 gs gn gm) (@HAppend.hAppend va_W va_W va_W _ (rnV (xa 8) ag dg) ([((xa 5), .inl (X.2.1, 3, .inl fr))])))) sz) s (@HAppend.hAppend va_W va_W va_W _ (xW h0 nw sp xa la lb) (@HAppend.hAppend va_W va_W va_W _ (rcV X nw an sv dv n0 n1 n2 n3 n4 g0 gs gn gm) (@HAppend.hAppend va_W va_W va_W _ (rnV (xa 8) ag dg) ([((xa 5), .inl (X.2.1, 3, .inl fr))])))) H locs := G
          refine lv_if_eq (tgt := 51) zx zb dX10_turn_46 (by decide) (fun c_48 => ?_) (fun c_48 => ?_)
          · refine lv_iconst (v := (-1)) zx zb dX10_turn_51 (by decide) ?_
            refine lv_istore (lv' := [(4, .int (-1)), (0, .ref h0), (1, .int 4), (2, .int x2), (3, .int x3)]) zx zb dX10_turn_52 hl (by decide) rfl (fun ls hl => ?_)
            refine lv_iconst (v := (-1)) zx zb dX10_turn_54 (by decide) ?_
            refine lv_istore (lv' := [(5, .int (-1)), (4, .int (-1)), (0, .ref h0), (1, .int 4), (2, .int x2), (3, .int x3)]) zx zb dX10_turn_55 hl (by decide) rfl (fun ls hl => ?_)
            refine lv_bipush (v := 60) zx zb dX10_turn_57 (by decide) ?_
            refine lv_istore (lv' := [(6, .int 60), (5, .int (-1)), (4, .int (-1)), (0, .ref h0), (1, .int 4), (2, .int x2), (3, .int x3)]) zx zb dX10_turn_59 hl (by decide) rfl (fun ls hl => ?_)
            refine lv_iconst (v := 0) zx zb dX10_turn_61 (by decide) ?_
            refine lv_istore (lv' := [(7, .int 0), (6, .int 60), (5, .int (-1)), (4, .int (-1)), (0, .ref h0), (1, .int 4), (2, .int x2), (3, .int x3)]) zx zb dX10_turn_62 hl (by decide) rfl (fun ls hl => ?_)
            refine k_loop (P := ∀ (zm : Nat) (k64 : Nat) (x64_6 : Int32) (x64_5 : Int32) (x64_4 : Int32) (a64_2 : Nat → Int32) (d64_2 : Nat → Int32) (H : Heap) (locs : List Loc) (ls : Array Slot), 31 + 1 ≤ k64 + zm → (k64 ≤ 31) → (x64_6 ≤ 60) → wd X (va_A (@HAppend.hAppend va_W va_W va_W _ (xW h0 nw sp xa la lb) (@HAppend.hAppend va_W va_W va_W _ (rcV X nw an sv dv n0 n1 n2 n3 n4 g0 gs gn gm) (@HAppend.hAppend va_W va_W va_W _ (rnV (xa 8) ag dg) ([((xa 5), .inl (X.2.1, 3, .inl fr))])))) sz) (va_A (@HAppend.hAppend va_W va_W va_W _ (xW h0 nw sp xa la lb) (@HAppend.hAppend va_W va_W va_W _ (rcV X nw an sv dv n0 n1 n2 n3 n4 g0 gs gn gm) (@HAppend.hAppend va_W va_W va_W _ (rnV (xa 8) ag dg) ([((xa 5), .inl (X.2.1, 3, .inl fr))])))) sz) s (@HAppend.hAppend va_W va_W va_W _ (xW h0 nw sp xa la lb) (@HAppend.hAppend va_W va_W va_W _ (rcV X nw an sv dv n0 n1 n2 n3 n4 g0 gs gn gm) (@HAppend.hAppend va_W va_W va_W _ (rnV (xa 8) a64_2 d64_2) ([((xa 5), .inl (X.2.1, 3, .inl fr))])))) H locs → lv_has ls 9 [(7, .int (nI k64)), (6, .int x64_6), (5, .int x64_5), (4, .int x64_4), (0, .ref h0), (1, .int 4), (2, .int x2), (3, .int x3)] → W p l e _ s m _ below meth c H locs _ _ _ (F0 m 64 ls [])) (fun loop => loop (31 + 1) 0 60 (-1) (-1) ag dg _ _ _ (by omega) (by omega) (by first | assumption | decide | exact k_m60 (by assumption)) G hl) ?_
            intro zm
            induction zm with
            | zero => intro k64 x64_6 x64_5 x64_4 a64_2 d64_2 H locs ls zz q_hk_k64 q_hk_x64_6 _ _; exact absurd zz (by omega)
            | succ zm ih64 =>
              intro k64 x64_6 x64_5 x64_4 a64_2 d64_2 H locs ls zm_64 hk_k64 hk_x64_6 G hl
              refine lv_iload zx zb dX10_turn_64 (lv_at hl 0 rfl) ?_
              refine lv_bipush (v := 30) zx zb dX10_turn_66 (by decide) ?_
              refine lv_icmp_gt (tgt := 109) zx zb dX10_turn_68 (by decide) (fun c_49 => ?_) (fun c_49 => ?_)
              · have fc_49 := j_lt (a := 30) (b := k64) (by omega) (by omega) c_49
                refine lv_iload_n zx zb dX10_turn_109 rfl (lv_at hl 7 rfl) ?_
                refine k_cutW (PP := fun Wx => ∀ (x_51 : Int32) (H : Heap) (locs : List Loc) (ls : Array Slot), wd X (va_A (@HAppend.hAppend va_W va_W va_W _ (xW h0 nw sp xa la lb) (@HAppend.hAppend va_W va_W va_W _ (rcV X nw an sv dv n0 n1 n2 n3 n4 g0 gs gn gm) (@HAppend.hAppend va_W va_W va_W _ (rnV (xa 8) ag dg) ([((xa 5), .inl (X.2.1, 3, .inl fr))])))) sz) (va_A (@HAppend.hAppend va_W va_W va_W _ (xW h0 nw sp xa la lb) (@HAppend.hAppend va_W va_W va_W _ (rcV X nw an sv dv n0 n1 n2 n3 n4 g0 gs gn gm) (@HAppend.hAppend va_W va_W va_W _ (rnV (xa 8) ag dg) ([((xa 5), .inl (X.2.1, 3, .inl fr))])))) sz) s (@HAppend.hAppend va_W va_W va_W _ (xW h0 nw sp xa la lb) (@HAppend.hAppend va_W va_W va_W _ (rcV X nw an sv dv n0 n1 n2 n3 n4 g0 gs gn gm) (@HAppend.hAppend va_W va_W va_W _ (rnV (xa 8) a64_2 d64_2) ([((xa 5), .inl (X.2.1, 3, .inl fr))])))) H locs → lv_has ls 9 [(7, .int (nI k64)), (6, .int x64_6), (5, .int x64_5), (4, .int x64_4), (0, .ref h0), (1, .int 4), (2, .int x2), (3, .int x3)] → Wx (F0 m 120 ls [.int x_51]) H locs) ?_ ?_
                · intro join_110
                  refine lv_if_ne (tgt := 118) zx zb dX10_turn_110 (by decide) (fun c_50 => ?_) (fun c_50 => ?_)
                  · refine lv_iload zx zb dX10_turn_118 (lv_at hl 2 rfl) ?_
                    exact join_110 x64_5 _ _ _  G hl
                  · refine lv_iload zx zb dX10_turn_113 (lv_at hl 3 rfl) ?_
                    refine lv_goto (tgt := 120) zx zb dX10_turn_115 (by decide) ?_
                    exact join_110 x64_4 _ _ _  G hl
                · intro x_51 H locs ls  G hl
                  exact e_int S zr zlk (vp_nar_int _) G (a64_2, d64_2, fr) [0, 1, 2, 3, 4, 5, 6, 7, 8, 9, 10, 11, 12, 13, 14, 15, 16, 17, 18] rfl rfl (Or.inr rfl) (trivial) dX10_turn_120
              · have fc_49 := j_nlt (a := 30) (b := k64) (by omega) (by omega) c_49
                refine lv_aload_n zx zb dX10_turn_71 rfl (lv_at hl 4 rfl) ?_
                refine lv_iload_n zx zb dX10_turn_72 rfl (lv_at hl 5 rfl) ?_
                refine lv_iload_n zx zb dX10_turn_73 rfl (lv_at hl 6 rfl) ?_
                refine lv_iload zx zb dX10_turn_74 (lv_at hl 0 rfl) ?_
                refine lv_iload zx zb dX10_turn_76 (lv_at hl 1 rfl) ?_
                refine b_wi (cells' := 0) (slots' := 0) (wr := [((xa 5), .inl (X.2.1, 3, .inl fr))]) G rfl rfl [0, 1, 2, 3, 4, 5, 6, 7, 8, 9, 10, 11, 12, 13, 14, 15, 16, 17] [18] rfl rfl rfl rfl (n_V (As := [.int 4, .int x2, .int (nI k64), .int x64_6]) (rest := []) (C := RX10) (T := TX10) (N := 14) (ci := 8) S G (s_homeTurning l X h0 nw sp xa la lb an sv dv n0 n1 n2 n3 n4 g0 gs gn gm a64_2 d64_2 4 x2 k64 x64_6 hI_n0 hI_n1 hI_n2 hI_n3 hI_n4 (by omega) (by omega) (by first | decide | assumption | exact k_60a (by assumption)) H.size) gX10_turn_X10_homeTurning rfl rfl rfl hdV_X10_homeTurning ⟨Nat.le_of_ble_eq_true rfl, Nat.le_of_ble_eq_true rfl⟩ [0, 1, 2, 3, 4, 5, 6, 7, 8, 9, 10, 11, 12, 13, 14, 15, 16, 17] rfl rfl 0 rfl rfl rfl hl.1 (Nat.le_of_ble_eq_true rfl) dX10_turn_78 ⟨Nat.le_of_ble_eq_true rfl, Nat.le_of_ble_eq_true rfl⟩) (fun r_52 u_52 H locs hp_52 G => ?_)
                obtain ⟨a_52a, d_52b⟩ := u_52
                have hq_52 := hp_52
                have G : wd X (va_A (@HAppend.hAppend va_W va_W va_W _ (xW h0 nw sp xa la lb) (@HAppend.hAppend va_W va_W va_W _ (rcV X nw an sv dv n0 n1 n2 n3 n4 g0 gs gn gm) (@HAppend.hAppend va_W va_W va_W _ (rnV (xa 8) ag dg) ([((xa 5), .inl (X.2.1, 3, .inl fr))])))) sz) (va_A (@HAppend.hAppend va_W va_W va_W _ (xW h0 nw sp xa la lb) (@HAppend.hAppend va_W va_W va_W _ (rcV X nw an sv dv n0 n1 n2 n3 n4 g0 gs gn gm) (@HAppend.hAppend va_W va_W va_W _ (rnV (xa 8) ag dg) ([((xa 5), .inl (X.2.1, 3, .inl fr))])))) sz) s (@HAppend.hAppend va_W va_W va_W _ ([((xa 5), .inl (X.2.1, 3, .inl fr))]) (@HAppend.hAppend va_W va_W va_W _ (xW h0 nw sp xa la lb) (@HAppend.hAppend va_W va_W va_W _ (rcV X nw an sv dv n0 n1 n2 n3 n4 g0 gs gn gm) (rnV (xa 8) a_52a d_52b)))) H locs := G
                refine lv_istore (lv' := [(8, .int r_52), (7, .int (nI k64)), (6, .int x64_6), (5, .int x64_5), (4, .int x64_4), (0, .ref h0), (1, .int 4), (2, .int x2), (3, .int x3)]) zx zb dX10_turn_81 hl (by decide) rfl (fun ls hl => ?_)
                refine lv_iload zx zb dX10_turn_83 (lv_at hl 0 rfl) ?_
                refine lv_iconst (v := (-1)) zx zb dX10_turn_85 (by decide) ?_
                refine k_cutW (PP := fun Wx => ∀ (x_54 : Int32) (x_55 : Int32) (x_56 : Int32) (H : Heap) (locs : List Loc) (ls : Array Slot), (x_54 ≤ 60) → wd X (va_A (@HAppend.hAppend va_W va_W va_W _ (xW h0 nw sp xa la lb) (@HAppend.hAppend va_W va_W va_W _ (rcV X nw an sv dv n0 n1 n2 n3 n4 g0 gs gn gm) (@HAppend.hAppend va_W va_W va_W _ (rnV (xa 8) ag dg) ([((xa 5), .inl (X.2.1, 3, .inl fr))])))) sz) (va_A (@HAppend.hAppend va_W va_W va_W _ (xW h0 nw sp xa la lb) (@HAppend.hAppend va_W va_W va_W _ (rcV X nw an sv dv n0 n1 n2 n3 n4 g0 gs gn gm) (@HAppend.hAppend va_W va_W va_W _ (rnV (xa 8) ag dg) ([((xa 5), .inl (X.2.1, 3, .inl fr))])))) sz) s (@HAppend.hAppend va_W va_W va_W _ ([((xa 5), .inl (X.2.1, 3, .inl fr))]) (@HAppend.hAppend va_W va_W va_W _ (xW h0 nw sp xa la lb) (@HAppend.hAppend va_W va_W va_W _ (rcV X nw an sv dv n0 n1 n2 n3 n4 g0 gs gn gm) (rnV (xa 8) a_52a d_52b)))) H locs → lv_has ls 9 [(8, .int r_52), (7, .int (nI k64)), (6, .int x_54), (5, .int x_55), (4, .int x_56), (0, .ref h0), (1, .int 4), (2, .int x2), (3, .int x3)] → Wx (F0 m 103 ls []) H locs) ?_ ?_
                · intro join_86
                  refine lv_icmp_eq (tgt := 103) zx zb dX10_turn_86 (by decide) (fun c_53 => ?_) (fun c_53 => ?_)
                  · exact join_86 x64_6 x64_5 x64_4 _ _ _ (by first | assumption | decide | exact k_m60 (by assumption)) G hl
                  · refine lv_iload zx zb dX10_turn_89 (lv_at hl 1 rfl) ?_
                    refine lv_istore (lv' := [(4, .int (nI k64)), (8, .int r_52), (7, .int (nI k64)), (6, .int x64_6), (5, .int x64_5), (0, .ref h0), (1, .int 4), (2, .int x2), (3, .int x3)]) zx zb dX10_turn_91 hl (by decide) rfl (fun ls hl => ?_)
                    refine lv_iload zx zb dX10_turn_93 (lv_at hl 1 rfl) ?_
                    refine lv_istore (lv' := [(5, .int r_52), (4, .int (nI k64)), (8, .int r_52), (7, .int (nI k64)), (6, .int x64_6), (0, .ref h0), (1, .int 4), (2, .int x2), (3, .int x3)]) zx zb dX10_turn_95 hl (by decide) rfl (fun ls hl => ?_)
                    refine lv_iload zx zb dX10_turn_97 (lv_at hl 2 rfl) ?_
                    refine lv_iconst (v := 1) zx zb dX10_turn_99 (by decide) ?_
                    refine r_isub (v := (r_52 - 1)) S rfl dX10_turn_100 ?_
                    refine lv_istore (lv' := [(6, .int (r_52 - 1)), (5, .int r_52), (4, .int (nI k64)), (8, .int r_52), (7, .int (nI k64)), (0, .ref h0), (1, .int 4), (2, .int x2), (3, .int x3)]) zx zb dX10_turn_101 hl (by decide) rfl (fun ls hl => ?_)
                    have hl := lv_sub hl (l' := [(8, .int r_52), (7, .int (nI k64)), (6, .int (r_52 - 1)), (5, .int r_52), (4, .int (nI k64)), (0, .ref h0), (1, .int 4), (2, .int x2), (3, .int x3)]) [3, 4, 0, 1, 2, 5, 6, 7, 8] rfl
                    exact join_86 (r_52 - 1) r_52 (nI k64) _ _ _ (by first | assumption | decide | exact k_m60 (by assumption)) G hl
                · intro x_54 x_55 x_56 H locs ls hk_x_54 G hl
                  refine lv_iinc (v := (nI (k64 + 1))) (lv' := [(7, .int (nI (k64 + 1))), (8, .int r_52), (6, .int x_54), (5, .int x_55), (4, .int x_56), (0, .ref h0), (1, .int 4), (2, .int x2), (3, .int x3)]) zx zb dX10_turn_103 hl (k := 1) rfl (nI_add k64 1) (by decide) rfl (fun ls hl => ?_)
                  refine lv_goto (tgt := 64) zx zb dX10_turn_106 (by decide) ?_
                  have G : wd X (va_A (@HAppend.hAppend va_W va_W va_W _ (xW h0 nw sp xa la lb) (@HAppend.hAppend va_W va_W va_W _ (rcV X nw an sv dv n0 n1 n2 n3 n4 g0 gs gn gm) (@HAppend.hAppend va_W va_W va_W _ (rnV (xa 8) ag dg) ([((xa 5), .inl (X.2.1, 3, .inl fr))])))) sz) (va_A (@HAppend.hAppend va_W va_W va_W _ (xW h0 nw sp xa la lb) (@HAppend.hAppend va_W va_W va_W _ (rcV X nw an sv dv n0 n1 n2 n3 n4 g0 gs gn gm) (@HAppend.hAppend va_W va_W va_W _ (rnV (xa 8) ag dg) ([((xa 5), .inl (X.2.1, 3, .inl fr))])))) sz) s (@HAppend.hAppend va_W va_W va_W _ (xW h0 nw sp xa la lb) (@HAppend.hAppend va_W va_W va_W _ (rcV X nw an sv dv n0 n1 n2 n3 n4 g0 gs gn gm) (@HAppend.hAppend va_W va_W va_W _ (rnV (xa 8) a_52a d_52b) ([((xa 5), .inl (X.2.1, 3, .inl fr))])))) H locs := wd_sub G [1, 2, 3, 4, 5, 6, 7, 8, 9, 10, 11, 12, 13, 14, 15, 16, 17, 18, 0] rfl rfl
                  have hl := lv_sub hl (l' := [(7, .int (nI (k64 + 1))), (6, .int x_54), (5, .int x_55), (4, .int x_56), (0, .ref h0), (1, .int 4), (2, .int x2), (3, .int x3)]) [0, 2, 3, 4, 5, 6, 7, 8] rfl
                  exact ih64 (k64 + 1) x_54 x_55 x_56 a_52a d_52b _ _ _ (by omega) (by omega) (by first | assumption | decide | exact k_m60 (by assumption)) G hl
          · refine lv_iconst (v := (-1)) zx zb dX10_turn_49 (by decide) ?_
            exact e_int S zr zlk (vp_nar_int _) G (ag, dg, fr) [0, 1, 2, 3, 4, 5, 6, 7, 8, 9, 10, 11, 12, 13, 14, 15, 16, 17, 18] rfl rfl (Or.inr rfl) (trivial) dX10_turn_50
        · refine k_it (v := 5) rfl ?_
          refine r_aald (C := RX8) (b := (an 6)) S G 2 3 rfl rfl (k_vp (by decide)) rfl dX10_turn_42 ?_
          refine o_ri (cells' := 0) (slots' := 0) G rfl rfl (n_V (As := []) (rest := []) (C := RX8) (T := TX8) (N := 8) (ci := 6) S G (s_isHome l X (an 6) (fun k => sv (15 + k)) (fun k => dv (35 + k)) H.size) gX10_turn_X8_isHome rfl rfl rfl hdV_X8_isHome ⟨Nat.le_of_ble_eq_true rfl, Nat.le_of_ble_eq_true rfl⟩ [8] rfl rfl 8 rfl rfl rfl hl.1 (Nat.le_of_ble_eq_true rfl) dX10_turn_43 ⟨Nat.le_of_ble_eq_true rfl, Nat.le_of_ble_eq_true rfl⟩) (fun r_57 u_57 H locs hp_57 G => ?_)
          have G : wd X (va_A (@HAppend.hAppend va_W va_W va_W _ (xW h0 nw sp xa la lb) (@HAppend.hAppend va_W va_W va_W _ (rcV X nw an sv dv n0 n1 n2 n3 n4 g0 gs gn gm) (@HAppend.hAppend va_W va_W va_W _ (rnV (xa 8) ag dg) ([((xa 5), .inl (X.2.1, 3, .inl fr))])))) sz) (va_A (@HAppend.hAppend va_W va_W va_W _ (xW h0 nw sp xa la lb) (@HAppend.hAppend va_W va_W va_W _ (rcV X nw an sv dv n0 n1 n2 n3 n4 g0 gs gn gm) (@HAppend.hAppend va_W va_W va_W _ (rnV (xa 8) ag dg) ([((xa 5), .inl (X.2.1, 3, .inl fr))])))) sz) s (@HAppend.hAppend va_W va_W va_W _ (xW h0 nw sp xa la lb) (@HAppend.hAppend va_W va_W va_W _ (rcV X nw an sv dv n0 n1 n2 n3 n4 g0 gs gn gm) (@HAppend.hAppend va_W va_W va_W _ (rnV (xa 8) ag dg) ([((xa 5), .inl (X.2.1, 3, .inl fr))])))) H locs := G
          refine lv_if_eq (tgt := 51) zx zb dX10_turn_46 (by decide) (fun c_58 => ?_) (fun c_58 => ?_)
          · refine lv_iconst (v := (-1)) zx zb dX10_turn_51 (by decide) ?_
            refine lv_istore (lv' := [(4, .int (-1)), (0, .ref h0), (1, .int 5), (2, .int x2), (3, .int x3)]) zx zb dX10_turn_52 hl (by decide) rfl (fun ls hl => ?_)
            refine lv_iconst (v := (-1)) zx zb dX10_turn_54 (by decide) ?_
            refine lv_istore (lv' := [(5, .int (-1)), (4, .int (-1)), (0, .ref h0), (1, .int 5), (2, .int x2), (3, .int x3)]) zx zb dX10_turn_55 hl (by decide) rfl (fun ls hl => ?_)
            refine lv_bipush (v := 60) zx zb dX10_turn_57 (by decide) ?_
            refine lv_istore (lv' := [(6, .int 60), (5, .int (-1)), (4, .int (-1)), (0, .ref h0), (1, .int 5), (2, .int x2), (3, .int x3)]) zx zb dX10_turn_59 hl (by decide) rfl (fun ls hl => ?_)
            refine lv_iconst (v := 0) zx zb dX10_turn_61 (by decide) ?_
            refine lv_istore (lv' := [(7, .int 0), (6, .int 60), (5, .int (-1)), (4, .int (-1)), (0, .ref h0), (1, .int 5), (2, .int x2), (3, .int x3)]) zx zb dX10_turn_62 hl (by decide) rfl (fun ls hl => ?_)
            refine k_loop (P := ∀ (zm : Nat) (k64 : Nat) (x64_6 : Int32) (x64_5 : Int32) (x64_4 : Int32) (a64_2 : Nat → Int32) (d64_2 : Nat → Int32) (H : Heap) (locs : List Loc) (ls : Array Slot), 31 + 1 ≤ k64 + zm → (k64 ≤ 31) → (x64_6 ≤ 60) → wd X (va_A (@HAppend.hAppend va_W va_W va_W _ (xW h0 nw sp xa la lb) (@HAppend.hAppend va_W va_W va_W _ (rcV X nw an sv dv n0 n1 n2 n3 n4 g0 gs gn gm) (@HAppend.hAppend va_W va_W va_W _ (rnV (xa 8) ag dg) ([((xa 5), .inl (X.2.1, 3, .inl fr))])))) sz) (va_A (@HAppend.hAppend va_W va_W va_W _ (xW h0 nw sp xa la lb) (@HAppend.hAppend va_W va_W va_W _ (rcV X nw an sv dv n0 n1 n2 n3 n4 g0 gs gn gm) (@HAppend.hAppend va_W va_W va_W _ (rnV (xa 8) ag dg) ([((xa 5), .inl (X.2.1, 3, .inl fr))])))) sz) s (@HAppend.hAppend va_W va_W va_W _ (xW h0 nw sp xa la lb) (@HAppend.hAppend va_W va_W va_W _ (rcV X nw an sv dv n0 n1 n2 n3 n4 g0 gs gn gm) (@HAppend.hAppend va_W va_W va_W _ (rnV (xa 8) a64_2 d64_2) ([((xa 5), .inl (X.2.1, 3, .inl fr))])))) H locs → lv_has ls 9 [(7, .int (nI k64)), (6, .int x64_6), (5, .int x64_5), (4, .int x64_4), (0, .ref h0), (1, .int 5), (2, .int x2), (3, .int x3)] → W p l e _ s m _ below meth c H locs _ _ _ (F0 m 64 ls [])) (fun loop => loop (31 + 1) 0 60 (-1) (-1) ag dg _ _ _ (by omega) (by omega) (by first | assumption | decide | exact k_m60 (by assumption)) G hl) ?_
            intro zm
            induction zm with
            | zero => intro k64 x64_6 x64_5 x64_4 a64_2 d64_2 H locs ls zz q_hk_k64 q_hk_x64_6 _ _; exact absurd zz (by omega)
            | succ zm ih64 =>
              intro k64 x64_6 x64_5 x64_4 a64_2 d64_2 H locs ls zm_64 hk_k64 hk_x64_6 G hl
              refine lv_iload zx zb dX10_turn_64 (lv_at hl 0 rfl) ?_
              refine lv_bipush (v := 30) zx zb dX10_turn_66 (by decide) ?_
              refine lv_icmp_gt (tgt := 109) zx zb dX10_turn_68 (by decide) (fun c_59 => ?_) (fun c_59 => ?_)
              · have fc_59 := j_lt (a := 30) (b := k64) (by omega) (by omega) c_59
                refine lv_iload_n zx zb dX10_turn_109 rfl (lv_at hl 7 rfl) ?_
                refine k_cutW (PP := fun Wx => ∀ (x_61 : Int32) (H : Heap) (locs : List Loc) (ls : Array Slot), wd X (va_A (@HAppend.hAppend va_W va_W va_W _ (xW h0 nw sp xa la lb) (@HAppend.hAppend va_W va_W va_W _ (rcV X nw an sv dv n0 n1 n2 n3 n4 g0 gs gn gm) (@HAppend.hAppend va_W va_W va_W _ (rnV (xa 8) ag dg) ([((xa 5), .inl (X.2.1, 3, .inl fr))])))) sz) (va_A (@HAppend.hAppend va_W va_W va_W _ (xW h0 nw sp xa la lb) (@HAppend.hAppend va_W va_W va_W _ (rcV X nw an sv dv n0 n1 n2 n3 n4 g0 gs gn gm) (@HAppend.hAppend va_W va_W va_W _ (rnV (xa 8) ag dg) ([((xa 5), .inl (X.2.1, 3, .inl fr))])))) sz) s (@HAppend.hAppend va_W va_W va_W _ (xW h0 nw sp xa la lb) (@HAppend.hAppend va_W va_W va_W _ (rcV X nw an sv dv n0 n1 n2 n3 n4 g0 gs gn gm) (@HAppend.hAppend va_W va_W va_W _ (rnV (xa 8) a64_2 d64_2) ([((xa 5), .inl (X.2.1, 3, .inl fr))])))) H locs → lv_has ls 9 [(7, .int (nI k64)), (6, .int x64_6), (5, .int x64_5), (4, .int x64_4), (0, .ref h0), (1, .int 5), (2, .int x2), (3, .int x3)] → Wx (F0 m 120 ls [.int x_61]) H locs) ?_ ?_
                · intro join_110
                  refine lv_if_ne (tgt := 118) zx zb dX10_turn_110 (by decide) (fun c_60 => ?_) (fun c_60 => ?_)
                  · refine lv_iload zx zb dX10_turn_118 (lv_at hl 2 rfl) ?_
                    exact join_110 x64_5 _ _ _  G hl
                  · refine lv_iload zx zb dX10_turn_113 (lv_at hl 3 rfl) ?_
                    refine lv_goto (tgt := 120) zx zb dX10_turn_115 (by decide) ?_
                    exact join_110 x64_4 _ _ _  G hl
                · intro x_61 H locs ls  G hl
                  exact e_int S zr zlk (vp_nar_int _) G (a64_2, d64_2, fr) [0, 1, 2, 3, 4, 5, 6, 7, 8, 9, 10, 11, 12, 13, 14, 15, 16, 17, 18] rfl rfl (Or.inr rfl) (trivial) dX10_turn_120
              · have fc_59 := j_nlt (a := 30) (b := k64) (by omega) (by omega) c_59
                refine lv_aload_n zx zb dX10_turn_71 rfl (lv_at hl 4 rfl) ?_
                refine lv_iload_n zx zb dX10_turn_72 rfl (lv_at hl 5 rfl) ?_
                refine lv_iload_n zx zb dX10_turn_73 rfl (lv_at hl 6 rfl) ?_
                refine lv_iload zx zb dX10_turn_74 (lv_at hl 0 rfl) ?_
                refine lv_iload zx zb dX10_turn_76 (lv_at hl 1 rfl) ?_
                refine b_wi (cells' := 0) (slots' := 0) (wr := [((xa 5), .inl (X.2.1, 3, .inl fr))]) G rfl rfl [0, 1, 2, 3, 4, 5, 6, 7, 8, 9, 10, 11, 12, 13, 14, 15, 16, 17] [18] rfl rfl rfl rfl (n_V (As := [.int 5, .int x2, .int (nI k64), .int x64_6]) (rest := []) (C := RX10) (T := TX10) (N := 14) (ci := 8) S G (s_homeTurning l X h0 nw sp xa la lb an sv dv n0 n1 n2 n3 n4 g0 gs gn gm a64_2 d64_2 5 x2 k64 x64_6 hI_n0 hI_n1 hI_n2 hI_n3 hI_n4 (by omega) (by omega) (by first | decide | assumption | exact k_60a (by assumption)) H.size) gX10_turn_X10_homeTurning rfl rfl rfl hdV_X10_homeTurning ⟨Nat.le_of_ble_eq_true rfl, Nat.le_of_ble_eq_true rfl⟩ [0, 1, 2, 3, 4, 5, 6, 7, 8, 9, 10, 11, 12, 13, 14, 15, 16, 17] rfl rfl 0 rfl rfl rfl hl.1 (Nat.le_of_ble_eq_true rfl) dX10_turn_78 ⟨Nat.le_of_ble_eq_true rfl, Nat.le_of_ble_eq_true rfl⟩) (fun r_62 u_62 H locs hp_62 G => ?_)
                obtain ⟨a_62a, d_62b⟩ := u_62
                have hq_62 := hp_62
                have G : wd X (va_A (@HAppend.hAppend va_W va_W va_W _ (xW h0 nw sp xa la lb) (@HAppend.hAppend va_W va_W va_W _ (rcV X nw an sv dv n0 n1 n2 n3 n4 g0 gs gn gm) (@HAppend.hAppend va_W va_W va_W _ (rnV (xa 8) ag dg) ([((xa 5), .inl (X.2.1, 3, .inl fr))])))) sz) (va_A (@HAppend.hAppend va_W va_W va_W _ (xW h0 nw sp xa la lb) (@HAppend.hAppend va_W va_W va_W _ (rcV X nw an sv dv n0 n1 n2 n3 n4 g0 gs gn gm) (@HAppend.hAppend va_W va_W va_W _ (rnV (xa 8) ag dg) ([((xa 5), .inl (X.2.1, 3, .inl fr))])))) sz) s (@HAppend.hAppend va_W va_W va_W _ ([((xa 5), .inl (X.2.1, 3, .inl fr))]) (@HAppend.hAppend va_W va_W va_W _ (xW h0 nw sp xa la lb) (@HAppend.hAppend va_W va_W va_W _ (rcV X nw an sv dv n0 n1 n2 n3 n4 g0 gs gn gm) (rnV (xa 8) a_62a d_62b)))) H locs := G
                refine lv_istore (lv' := [(8, .int r_62), (7, .int (nI k64)), (6, .int x64_6), (5, .int x64_5), (4, .int x64_4), (0, .ref h0), (1, .int 5), (2, .int x2), (3, .int x3)]) zx zb dX10_turn_81 hl (by decide) rfl (fun ls hl => ?_)
                refine lv_iload zx zb dX10_turn_83 (lv_at hl 0 rfl) ?_
                refine lv_iconst (v := (-1)) zx zb dX10_turn_85 (by decide) ?_
                refine k_cutW (PP := fun Wx => ∀ (x_64 : Int32) (x_65 : Int32) (x_66 : Int32) (H : Heap) (locs : List Loc) (ls : Array Slot), (x_64 ≤ 60) → wd X (va_A (@HAppend.hAppend va_W va_W va_W _ (xW h0 nw sp xa la lb) (@HAppend.hAppend va_W va_W va_W _ (rcV X nw an sv dv n0 n1 n2 n3 n4 g0 gs gn gm) (@HAppend.hAppend va_W va_W va_W _ (rnV (xa 8) ag dg) ([((xa 5), .inl (X.2.1, 3, .inl fr))])))) sz) (va_A (@HAppend.hAppend va_W va_W va_W _ (xW h0 nw sp xa la lb) (@HAppend.hAppend va_W va_W va_W _ (rcV X nw an sv dv n0 n1 n2 n3 n4 g0 gs gn gm) (@HAppend.hAppend va_W va_W va_W _ (rnV (xa 8) ag dg) ([((xa 5), .inl (X.2.1, 3, .inl fr))])))) sz) s (@HAppend.hAppend va_W va_W va_W _ ([((xa 5), .inl (X.2.1, 3, .inl fr))]) (@HAppend.hAppend va_W va_W va_W _ (xW h0 nw sp xa la lb) (@HAppend.hAppend va_W va_W va_W _ (rcV X nw an sv dv n0 n1 n2 n3 n4 g0 gs gn gm) (rnV (xa 8) a_62a d_62b)))) H locs → lv_has ls 9 [(8, .int r_62), (7, .int (nI k64)), (6, .int x_64), (5, .int x_65), (4, .int x_66), (0, .ref h0), (1, .int 5), (2, .int x2), (3, .int x3)] → Wx (F0 m 103 ls []) H locs) ?_ ?_
                · intro join_86
                  refine lv_icmp_eq (tgt := 103) zx zb dX10_turn_86 (by decide) (fun c_63 => ?_) (fun c_63 => ?_)
                  · exact join_86 x64_6 x64_5 x64_4 _ _ _ (by first | assumption | decide | exact k_m60 (by assumption)) G hl
                  · refine lv_iload zx zb dX10_turn_89 (lv_at hl 1 rfl) ?_
                    refine lv_istore (lv' := [(4, .int (nI k64)), (8, .int r_62), (7, .int (nI k64)), (6, .int x64_6), (5, .int x64_5), (0, .ref h0), (1, .int 5), (2, .int x2), (3, .int x3)]) zx zb dX10_turn_91 hl (by decide) rfl (fun ls hl => ?_)
                    refine lv_iload zx zb dX10_turn_93 (lv_at hl 1 rfl) ?_
                    refine lv_istore (lv' := [(5, .int r_62), (4, .int (nI k64)), (8, .int r_62), (7, .int (nI k64)), (6, .int x64_6), (0, .ref h0), (1, .int 5), (2, .int x2), (3, .int x3)]) zx zb dX10_turn_95 hl (by decide) rfl (fun ls hl => ?_)
                    refine lv_iload zx zb dX10_turn_97 (lv_at hl 2 rfl) ?_
                    refine lv_iconst (v := 1) zx zb dX10_turn_99 (by decide) ?_
                    refine r_isub (v := (r_62 - 1)) S rfl dX10_turn_100 ?_
                    refine lv_istore (lv' := [(6, .int (r_62 - 1)), (5, .int r_62), (4, .int (nI k64)), (8, .int r_62), (7, .int (nI k64)), (0, .ref h0), (1, .int 5), (2, .int x2), (3, .int x3)]) zx zb dX10_turn_101 hl (by decide) rfl (fun ls hl => ?_)
                    have hl := lv_sub hl (l' := [(8, .int r_62), (7, .int (nI k64)), (6, .int (r_62 - 1)), (5, .int r_62), (4, .int (nI k64)), (0, .ref h0), (1, .int 5), (2, .int x2), (3, .int x3)]) [3, 4, 0, 1, 2, 5, 6, 7, 8] rfl
                    exact join_86 (r_62 - 1) r_62 (nI k64) _ _ _ (by first | assumption | decide | exact k_m60 (by assumption)) G hl
                · intro x_64 x_65 x_66 H locs ls hk_x_64 G hl
                  refine lv_iinc (v := (nI (k64 + 1))) (lv' := [(7, .int (nI (k64 + 1))), (8, .int r_62), (6, .int x_64), (5, .int x_65), (4, .int x_66), (0, .ref h0), (1, .int 5), (2, .int x2), (3, .int x3)]) zx zb dX10_turn_103 hl (k := 1) rfl (nI_add k64 1) (by decide) rfl (fun ls hl => ?_)
                  refine lv_goto (tgt := 64) zx zb dX10_turn_106 (by decide) ?_
                  have G : wd X (va_A (@HAppend.hAppend va_W va_W va_W _ (xW h0 nw sp xa la lb) (@HAppend.hAppend va_W va_W va_W _ (rcV X nw an sv dv n0 n1 n2 n3 n4 g0 gs gn gm) (@HAppend.hAppend va_W va_W va_W _ (rnV (xa 8) ag dg) ([((xa 5), .inl (X.2.1, 3, .inl fr))])))) sz) (va_A (@HAppend.hAppend va_W va_W va_W _ (xW h0 nw sp xa la lb) (@HAppend.hAppend va_W va_W va_W _ (rcV X nw an sv dv n0 n1 n2 n3 n4 g0 gs gn gm) (@HAppend.hAppend va_W va_W va_W _ (rnV (xa 8) ag dg) ([((xa 5), .inl (X.2.1, 3, .inl fr))])))) sz) s (@HAppend.hAppend va_W va_W va_W _ (xW h0 nw sp xa la lb) (@HAppend.hAppend va_W va_W va_W _ (rcV X nw an sv dv n0 n1 n2 n3 n4 g0 gs gn gm) (@HAppend.hAppend va_W va_W va_W _ (rnV (xa 8) a_62a d_62b) ([((xa 5), .inl (X.2.1, 3, .inl fr))])))) H locs := wd_sub G [1, 2, 3, 4, 5, 6, 7, 8, 9, 10, 11, 12, 13, 14, 15, 16, 17, 18, 0] rfl rfl
                  have hl := lv_sub hl (l' := [(7, .int (nI (k64 + 1))), (6, .int x_64), (5, .int x_65), (4, .int x_66), (0, .ref h0), (1, .int 5), (2, .int x2), (3, .int x3)]) [0, 2, 3, 4, 5, 6, 7, 8] rfl
                  exact ih64 (k64 + 1) x_64 x_65 x_66 a_62a d_62b _ _ _ (by omega) (by omega) (by first | assumption | decide | exact k_m60 (by assumption)) G hl
          · refine lv_iconst (v := (-1)) zx zb dX10_turn_49 (by decide) ?_
            exact e_int S zr zlk (vp_nar_int _) G (ag, dg, fr) [0, 1, 2, 3, 4, 5, 6, 7, 8, 9, 10, 11, 12, 13, 14, 15, 16, 17, 18] rfl rfl (Or.inr rfl) (trivial) dX10_turn_50
      · refine lv_if_ne (tgt := 34) zx zb dX10_turn_24 (by decide) (fun c_67 => absurd (by decide) c_67) (fun c_67 => ?_)
        refine lv_aload_n zx zb dX10_turn_27 rfl (lv_at hl 0 rfl) ?_
        refine lv_bipush (v := (-2)) zx zb dX10_turn_28 (by decide) ?_
        refine b_wi (cells' := 0) (slots' := 0) (wr := @HAppend.hAppend va_W va_W va_W _ (rcV X nw an sv dv n0 n1 n2 n3 n4 g0 gs gn gm) (rnV (xa 8) ag dg)) G rfl rfl [0, 18] [1, 2, 3, 4, 5, 6, 7, 8, 9, 10, 11, 12, 13, 14, 15, 16, 17] rfl rfl rfl rfl (n_V (As := [.int (-2)]) (rest := []) (C := RX10) (T := TX10) (N := 14) (ci := 8) S G (s_refuse l X h0 nw sp xa la lb fr (-2) H.size) gX10_turn_X10_refuse rfl rfl rfl hdV_X10_refuse ⟨Nat.le_of_ble_eq_true rfl, Nat.le_of_ble_eq_true rfl⟩ [0, 18] rfl rfl 0 rfl rfl rfl hl.1 (Nat.le_of_ble_eq_true rfl) dX10_turn_30 ⟨Nat.le_of_ble_eq_true rfl, Nat.le_of_ble_eq_true rfl⟩) (fun r_68 u_68 H locs hp_68 G => ?_)
        obtain ⟨f_68, rfl⟩ : ∃ z, z = u_68 := ⟨_, rfl⟩
        have hq_68 := hp_68
        have G : wd X (va_A (@HAppend.hAppend va_W va_W va_W _ (xW h0 nw sp xa la lb) (@HAppend.hAppend va_W va_W va_W _ (rcV X nw an sv dv n0 n1 n2 n3 n4 g0 gs gn gm) (@HAppend.hAppend va_W va_W va_W _ (rnV (xa 8) ag dg) ([((xa 5), .inl (X.2.1, 3, .inl fr))])))) sz) (va_A (@HAppend.hAppend va_W va_W va_W _ (xW h0 nw sp xa la lb) (@HAppend.hAppend va_W va_W va_W _ (rcV X nw an sv dv n0 n1 n2 n3 n4 g0 gs gn gm) (@HAppend.hAppend va_W va_W va_W _ (rnV (xa 8) ag dg) ([((xa 5), .inl (X.2.1, 3, .inl fr))])))) sz) s (@HAppend.hAppend va_W va_W va_W _ (rcV X nw an sv dv n0 n1 n2 n3 n4 g0 gs gn gm) (@HAppend.hAppend va_W va_W va_W _ (rnV (xa 8) ag dg) (@HAppend.hAppend va_W va_W va_W _ (xW h0 nw sp xa la lb) ([((xa 5), .inl (X.2.1, 3, .inl f_68))])))) H locs := G
        exact e_int S zr zlk (vp_nar_int _) G (ag, dg, f_68) [17, 0, 1, 2, 3, 4, 5, 6, 7, 8, 9, 10, 11, 12, 13, 14, 15, 16, 18] rfl rfl (Or.inr rfl) (trivial) dX10_turn_33
    · refine lv_if_eq (tgt := 27) zx zb dX10_turn_15 (by decide) (fun c_69 => ?_) (fun c_69 => absurd (by decide) c_69)
      refine lv_aload_n zx zb dX10_turn_27 rfl (lv_at hl 0 rfl) ?_
      refine lv_bipush (v := (-2)) zx zb dX10_turn_28 (by decide) ?_
      refine b_wi (cells' := 0) (slots' := 0) (wr := @HAppend.hAppend va_W va_W va_W _ (rcV X nw an sv dv n0 n1 n2 n3 n4 g0 gs gn gm) (rnV (xa 8) ag dg)) G rfl rfl [0, 18] [1, 2, 3, 4, 5, 6, 7, 8, 9, 10, 11, 12, 13, 14, 15, 16, 17] rfl rfl rfl rfl (n_V (As := [.int (-2)]) (rest := []) (C := RX10) (T := TX10) (N := 14) (ci := 8) S G (s_refuse l X h0 nw sp xa la lb fr (-2) H.size) gX10_turn_X10_refuse rfl rfl rfl hdV_X10_refuse ⟨Nat.le_of_ble_eq_true rfl, Nat.le_of_ble_eq_true rfl⟩ [0, 18] rfl rfl 0 rfl rfl rfl hl.1 (Nat.le_of_ble_eq_true rfl) dX10_turn_30 ⟨Nat.le_of_ble_eq_true rfl, Nat.le_of_ble_eq_true rfl⟩) (fun r_70 u_70 H locs hp_70 G => ?_)
      obtain ⟨f_70, rfl⟩ : ∃ z, z = u_70 := ⟨_, rfl⟩
      have hq_70 := hp_70
      have G : wd X (va_A (@HAppend.hAppend va_W va_W va_W _ (xW h0 nw sp xa la lb) (@HAppend.hAppend va_W va_W va_W _ (rcV X nw an sv dv n0 n1 n2 n3 n4 g0 gs gn gm) (@HAppend.hAppend va_W va_W va_W _ (rnV (xa 8) ag dg) ([((xa 5), .inl (X.2.1, 3, .inl fr))])))) sz) (va_A (@HAppend.hAppend va_W va_W va_W _ (xW h0 nw sp xa la lb) (@HAppend.hAppend va_W va_W va_W _ (rcV X nw an sv dv n0 n1 n2 n3 n4 g0 gs gn gm) (@HAppend.hAppend va_W va_W va_W _ (rnV (xa 8) ag dg) ([((xa 5), .inl (X.2.1, 3, .inl fr))])))) sz) s (@HAppend.hAppend va_W va_W va_W _ (rcV X nw an sv dv n0 n1 n2 n3 n4 g0 gs gn gm) (@HAppend.hAppend va_W va_W va_W _ (rnV (xa 8) ag dg) (@HAppend.hAppend va_W va_W va_W _ (xW h0 nw sp xa la lb) ([((xa 5), .inl (X.2.1, 3, .inl f_70))])))) H locs := G
      exact e_int S zr zlk (vp_nar_int _) G (ag, dg, f_70) [17, 0, 1, 2, 3, 4, 5, 6, 7, 8, 9, 10, 11, 12, 13, 14, 15, 16, 18] rfl rfl (Or.inr rfl) (trivial) dX10_turn_33
  · refine lv_if_eq (tgt := 27) zx zb dX10_turn_5 (by decide) (fun c_71 => ?_) (fun c_71 => absurd (by decide) c_71)
    refine lv_aload_n zx zb dX10_turn_27 rfl (lv_at hl 0 rfl) ?_
    refine lv_bipush (v := (-2)) zx zb dX10_turn_28 (by decide) ?_
    refine b_wi (cells' := 0) (slots' := 0) (wr := @HAppend.hAppend va_W va_W va_W _ (rcV X nw an sv dv n0 n1 n2 n3 n4 g0 gs gn gm) (rnV (xa 8) ag dg)) G rfl rfl [0, 18] [1, 2, 3, 4, 5, 6, 7, 8, 9, 10, 11, 12, 13, 14, 15, 16, 17] rfl rfl rfl rfl (n_V (As := [.int (-2)]) (rest := []) (C := RX10) (T := TX10) (N := 14) (ci := 8) S G (s_refuse l X h0 nw sp xa la lb fr (-2) H.size) gX10_turn_X10_refuse rfl rfl rfl hdV_X10_refuse ⟨Nat.le_of_ble_eq_true rfl, Nat.le_of_ble_eq_true rfl⟩ [0, 18] rfl rfl 0 rfl rfl rfl hl.1 (Nat.le_of_ble_eq_true rfl) dX10_turn_30 ⟨Nat.le_of_ble_eq_true rfl, Nat.le_of_ble_eq_true rfl⟩) (fun r_72 u_72 H locs hp_72 G => ?_)
    obtain ⟨f_72, rfl⟩ : ∃ z, z = u_72 := ⟨_, rfl⟩
    have hq_72 := hp_72
    have G : wd X (va_A (@HAppend.hAppend va_W va_W va_W _ (xW h0 nw sp xa la lb) (@HAppend.hAppend va_W va_W va_W _ (rcV X nw an sv dv n0 n1 n2 n3 n4 g0 gs gn gm) (@HAppend.hAppend va_W va_W va_W _ (rnV (xa 8) ag dg) ([((xa 5), .inl (X.2.1, 3, .inl fr))])))) sz) (va_A (@HAppend.hAppend va_W va_W va_W _ (xW h0 nw sp xa la lb) (@HAppend.hAppend va_W va_W va_W _ (rcV X nw an sv dv n0 n1 n2 n3 n4 g0 gs gn gm) (@HAppend.hAppend va_W va_W va_W _ (rnV (xa 8) ag dg) ([((xa 5), .inl (X.2.1, 3, .inl fr))])))) sz) s (@HAppend.hAppend va_W va_W va_W _ (rcV X nw an sv dv n0 n1 n2 n3 n4 g0 gs gn gm) (@HAppend.hAppend va_W va_W va_W _ (rnV (xa 8) ag dg) (@HAppend.hAppend va_W va_W va_W _ (xW h0 nw sp xa la lb) ([((xa 5), .inl (X.2.1, 3, .inl f_72))])))) H locs := G
    exact e_int S zr zlk (vp_nar_int _) G (ag, dg, f_72) [17, 0, 1, 2, 3, 4, 5, 6, 7, 8, 9, 10, 11, 12, 13, 14, 15, 16, 18] rfl rfl (Or.inr rfl) (trivial) dX10_turn_33
theorem in_X9_restart_X9 : ∀ w ∈ wsX90, w ∈ wsX9_restart := by decide +kernel
theorem lk_X9_restart_9 : Cond.fieldLink RX9 9 "EggSpoons$Tally" "counts" "[I" ∈ wsX9_restart := by decide +kernel
theorem lk_X9_restart_15 : Cond.fieldLink RX9 15 "EggSpoons$Tally" "most" "I" ∈ wsX9_restart := by decide +kernel
set_option maxHeartbeats 4000000 in
set_option maxRecDepth 100000 in
/-- Tally.restart -/
theorem s_trestart (l : Launch) (X : EX) (ht : Nat) (hc : Nat) (tm : Int32) (tf : Nat → Int32) (sz : Nat) : Met l yX9_restart wsX9_restart ({ frames := 0, cells := 0, slots := 0, locals := 0 } : Room) (pE X [.ref ht] ([(ht, .inr (7, [.ref hc, .int tm])), (hc, .inl (X.2.1, 16, .inl tf))]) sz) (qV (fun (u : (Int32) × (Nat → Int32)) => (True)) X (fun (u : (Int32) × (Nat → Int32)) => [(ht, .inr (7, [.ref hc, .int u.1])), (hc, .inl (X.2.1, 16, .inl u.2))]) ([(ht, .inr (7, [.ref hc, .int tm])), (hc, .inl (X.2.1, 16, .inl tf))]) sz) 0 0 (va_A ([(ht, .inr (7, [.ref hc, .int tm])), (hc, .inl (X.2.1, 16, .inl tf))]) sz) := by
  refine mk_met (B := (va_A ([(ht, .inr (7, [.ref hc, .int tm])), (hc, .inl (X.2.1, 16, .inl tf))]) sz)) (A := (va_A ([(ht, .inr (7, [.ref hc, .int tm])), (hc, .inl (X.2.1, 16, .inl tf))]) sz)) (cc := cX9_restart) (maxL := 2) (ret := none) (by decide) rfl (Nat.le_of_ble_eq_true rfl) k_w k_a (fun p e s m below meth c S zr zlk znm zsz G ls hl => ?_)
  have S : CallFix p m c cX9_restart 2 s _ wsX9_restart RX9 := S
  have zx := S.1
  have zb := S.2.1
  have hl : lv_has ls 2 [(0, .ref ht)] := hl
  refine lv_iconst (v := 0) zx zb dX9_restart_0 (by decide) ?_
  refine lv_istore_n (lv' := [(1, .int 0), (0, .ref ht)]) zx zb dX9_restart_1 rfl hl (by decide) rfl (fun ls hl => ?_)
  refine k_loop (P := ∀ (zm : Nat) (k2 : Nat) (f2_0 : Nat → Int32) (H : Heap) (locs : List Loc) (ls : Array Slot), 16 + 1 ≤ k2 + zm → (k2 ≤ 16) → wd X (va_A ([(ht, .inr (7, [.ref hc, .int tm])), (hc, .inl (X.2.1, 16, .inl tf))]) sz) (va_A ([(ht, .inr (7, [.ref hc, .int tm])), (hc, .inl (X.2.1, 16, .inl tf))]) sz) s ([(ht, .inr (7, [.ref hc, .int tm])), (hc, .inl (X.2.1, 16, .inl f2_0))]) H locs → lv_has ls 2 [(1, .int (nI k2)), (0, .ref ht)] → W p l e _ s m _ below meth c H locs _ _ _ (F0 m 2 ls [])) (fun loop => loop (16 + 1) 0 tf _ _ _ (by omega) (by omega) G hl) ?_
  intro zm
  induction zm with
  | zero => intro k2 f2_0 H locs ls zz q_hk_k2 _ _; exact absurd zz (by omega)
  | succ zm ih2 =>
    intro k2 f2_0 H locs ls zm_2 hk_k2 G hl
    refine lv_iload_n zx zb dX9_restart_2 rfl (lv_at hl 0 rfl) ?_
    refine lv_aload_n zx zb dX9_restart_3 rfl (lv_at hl 1 rfl) ?_
    refine r_get (C := RX9) (T := TX9) (N := 2) (ci := 7) (v := .ref hc) S in_X9_restart_X9 G 0 rfl rfl 0 (by decide) lk_X9_restart_9 rfl dX9_restart_4 ?_
    refine r_alen (v := 16) S G 1 0 rfl rfl rfl dX9_restart_7 ?_
    refine lv_icmp_ge (tgt := 24) zx zb dX9_restart_8 (by decide) (fun c_1 => ?_) (fun c_1 => ?_)
    · have fc_1 := j_le (a := 16) (b := k2) (by omega) (by omega) c_1
      refine lv_aload_n zx zb dX9_restart_24 rfl (lv_at hl 1 rfl) ?_
      refine lv_iconst (v := 0) zx zb dX9_restart_25 (by decide) ?_
      refine r_put (C := RX9) (T := TX9) (N := 2) (ci := 7) (v := .int 0) S in_X9_restart_X9 tyX9_ok nmX9 G 0 rfl rfl 1 (by decide) lk_X9_restart_15 rfl (vp_nar_int _) rfl (Nat.le_of_ble_eq_true rfl) dX9_restart_26 (fun H locs G => ?_)
      obtain ⟨m_2, G⟩ : ∃ m_2 : Int32, wd X (va_A ([(ht, .inr (7, [.ref hc, .int tm])), (hc, .inl (X.2.1, 16, .inl tf))]) sz) (va_A ([(ht, .inr (7, [.ref hc, .int tm])), (hc, .inl (X.2.1, 16, .inl tf))]) sz) s ([(ht, .inr (7, [.ref hc, .int m_2])), (hc, .inl (X.2.1, 16, .inl f2_0))]) H locs := ⟨_, G⟩
      exact e_void S zr zlk G (m_2, f2_0) [0, 1] rfl rfl (Or.inr rfl) (trivial) dX9_restart_29
    · have fc_1 := j_nle (a := 16) (b := k2) (by omega) (by omega) c_1
      refine lv_aload_n zx zb dX9_restart_11 rfl (lv_at hl 1 rfl) ?_
      refine r_get (C := RX9) (T := TX9) (N := 2) (ci := 7) (v := .ref hc) S in_X9_restart_X9 G 0 rfl rfl 0 (by decide) lk_X9_restart_9 rfl dX9_restart_12 ?_
      refine lv_iload_n zx zb dX9_restart_15 rfl (lv_at hl 0 rfl) ?_
      refine lv_iconst (v := 0) zx zb dX9_restart_16 (by decide) ?_
      refine r_iast S G 1 rfl (vp_in_nI (by omega) (by decide)) dX9_restart_17 (fun H locs G => ?_)
      obtain ⟨f_3, G⟩ : ∃ f_3 : Nat → Int32, wd X (va_A ([(ht, .inr (7, [.ref hc, .int tm])), (hc, .inl (X.2.1, 16, .inl tf))]) sz) (va_A ([(ht, .inr (7, [.ref hc, .int tm])), (hc, .inl (X.2.1, 16, .inl tf))]) sz) s ([(ht, .inr (7, [.ref hc, .int tm])), (hc, .inl (X.2.1, 16, .inl f_3))]) H locs := ⟨_, G⟩
      refine lv_iinc (v := (nI (k2 + 1))) (lv' := [(1, .int (nI (k2 + 1))), (0, .ref ht)]) zx zb dX9_restart_18 hl (k := 0) rfl (nI_add k2 1) (by decide) rfl (fun ls hl => ?_)
      refine lv_goto (tgt := 2) zx zb dX9_restart_21 (by decide) ?_
      exact ih2 (k2 + 1) f_3 _ _ _ (by omega) (by omega) G hl
theorem in_X9_see_X9 : ∀ w ∈ wsX90, w ∈ wsX9_see := by decide +kernel
theorem lk_X9_see_9 : Cond.fieldLink RX9 9 "EggSpoons$Tally" "counts" "[I" ∈ wsX9_see := by decide +kernel
theorem lk_X9_see_15 : Cond.fieldLink RX9 15 "EggSpoons$Tally" "most" "I" ∈ wsX9_see := by decide +kernel
theorem mm_X9_see_ml19 : Cond.methodLink RX9 19 Lib.Math.max.name ∈ wsX9_see := by decide +kernel
theorem mm_X9_see_msmax : Cond.static Lib.Math.max.name ∈ wsX9_see := by decide +kernel
theorem mm_X9_see_mi : Cond.initialized "java/lang/Math" ∈ wsX9_see := by decide +kernel
theorem mm_X9_see_mcmax : Cond.code Lib.Math.max.name Lib.Math.max.code 2 (some .int) ∈ wsX9_see := by decide +kernel
set_option maxHeartbeats 4000000 in
set_option maxRecDepth 100000 in
/-- see -/
theorem s_see (l : Launch) (X : EX) (ht : Nat) (hc : Nat) (tm : Int32) (tf : Nat → Int32) (x1 : Int32) (sz : Nat) : Met l yX9_see wsX9_see ({ frames := 1, cells := 0, slots := 0, locals := 14 } : Room) (pE X [.ref ht, .int x1] ([(ht, .inr (7, [.ref hc, .int tm])), (hc, .inl (X.2.1, 16, .inl tf))]) sz) (qV (fun (u : (Int32) × (Nat → Int32)) => (True)) X (fun (u : (Int32) × (Nat → Int32)) => [(ht, .inr (7, [.ref hc, .int u.1])), (hc, .inl (X.2.1, 16, .inl u.2))]) ([(ht, .inr (7, [.ref hc, .int tm])), (hc, .inl (X.2.1, 16, .inl tf))]) sz) 0 0 (va_A ([(ht, .inr (7, [.ref hc, .int tm])), (hc, .inl (X.2.1, 16, .inl tf))]) sz) := by
  refine mk_met (B := (va_A ([(ht, .inr (7, [.ref hc, .int tm])), (hc, .inl (X.2.1, 16, .inl tf))]) sz)) (A := (va_A ([(ht, .inr (7, [.ref hc, .int tm])), (hc, .inl (X.2.1, 16, .inl tf))]) sz)) (cc := cX9_see) (maxL := 2) (ret := none) (by decide) rfl (Nat.le_of_ble_eq_true rfl) k_w k_a (fun p e s m below meth c S zr zlk znm zsz G ls hl => ?_)
  have S : CallFix p m c cX9_see 2 s _ wsX9_see RX9 := S
  have zx := S.1
  have zb := S.2.1
  have hl : lv_has ls 2 [(0, .ref ht), (1, .int x1)] := hl
  refine lv_iload_n zx zb dX9_see_0 rfl (lv_at hl 1 rfl) ?_
  refine k_cutW (PP := fun Wx => ∀ (m_2 : Int32) (f_3 : Nat → Int32) (H : Heap) (locs : List Loc) (ls : Array Slot), wd X (va_A ([(ht, .inr (7, [.ref hc, .int tm])), (hc, .inl (X.2.1, 16, .inl tf))]) sz) (va_A ([(ht, .inr (7, [.ref hc, .int tm])), (hc, .inl (X.2.1, 16, .inl tf))]) sz) s ([(ht, .inr (7, [.ref hc, .int m_2])), (hc, .inl (X.2.1, 16, .inl f_3))]) H locs → lv_has ls 2 [(0, .ref ht), (1, .int x1)] → Wx (F0 m 40 ls []) H locs) ?_ ?_
  · intro join_1
    refine lv_if_lt (tgt := 40) zx zb dX9_see_1 (by decide) (fun c_1 => ?_) (fun c_1 => ?_)
    · exact join_1 tm tf _ _ _  G hl
    · refine lv_iload_n zx zb dX9_see_4 rfl (lv_at hl 1 rfl) ?_
      refine lv_aload_n zx zb dX9_see_5 rfl (lv_at hl 0 rfl) ?_
      refine r_get (C := RX9) (T := TX9) (N := 2) (ci := 7) (v := .ref hc) S in_X9_see_X9 G 0 rfl rfl 0 (by decide) lk_X9_see_9 rfl dX9_see_6 ?_
      refine r_alen (v := 16) S G 1 0 rfl rfl rfl dX9_see_9 ?_
      refine lv_icmp_ge (tgt := 40) zx zb dX9_see_10 (by decide) (fun c_4 => ?_) (fun c_4 => ?_)
      · exact join_1 tm tf _ _ _  G hl
      · refine lv_aload_n zx zb dX9_see_13 rfl (lv_at hl 0 rfl) ?_
        refine r_get (C := RX9) (T := TX9) (N := 2) (ci := 7) (v := .ref hc) S in_X9_see_X9 G 0 rfl rfl 0 (by decide) lk_X9_see_9 rfl dX9_see_14 ?_
        refine lv_iload_n zx zb dX9_see_17 rfl (lv_at hl 1 rfl) ?_
        refine lv_dup2_11 zx zb dX9_see_18 rfl rfl ?_
        refine r_iald S G 1 rfl (k_in (by decide) c_1 c_4) rfl dX9_see_19 ?_
        refine k_itE (fun y_5 => ?_)
        refine lv_iconst (v := 1) zx zb dX9_see_20 (by decide) ?_
        refine r_iadd (v := (y_5 + 1)) S rfl dX9_see_21 ?_
        refine r_iast S G 1 rfl (k_in (by decide) c_1 c_4) dX9_see_22 (fun H locs G => ?_)
        obtain ⟨f_6, G⟩ : ∃ f_6 : Nat → Int32, wd X (va_A ([(ht, .inr (7, [.ref hc, .int tm])), (hc, .inl (X.2.1, 16, .inl tf))]) sz) (va_A ([(ht, .inr (7, [.ref hc, .int tm])), (hc, .inl (X.2.1, 16, .inl tf))]) sz) s ([(ht, .inr (7, [.ref hc, .int tm])), (hc, .inl (X.2.1, 16, .inl f_6))]) H locs := ⟨_, G⟩
        refine lv_aload_n zx zb dX9_see_23 rfl (lv_at hl 0 rfl) ?_
        refine lv_aload_n zx zb dX9_see_24 rfl (lv_at hl 0 rfl) ?_
        refine r_get (C := RX9) (T := TX9) (N := 2) (ci := 7) (v := .int tm) S in_X9_see_X9 G 0 rfl rfl 1 (by decide) lk_X9_see_15 rfl dX9_see_25 ?_
        refine lv_aload_n zx zb dX9_see_28 rfl (lv_at hl 0 rfl) ?_
        refine r_get (C := RX9) (T := TX9) (N := 2) (ci := 7) (v := .ref hc) S in_X9_see_X9 G 0 rfl rfl 0 (by decide) lk_X9_see_9 rfl dX9_see_29 ?_
        refine lv_iload_n zx zb dX9_see_32 rfl (lv_at hl 1 rfl) ?_
        refine r_iald S G 1 rfl (k_in (by decide) c_1 c_4) rfl dX9_see_33 ?_
        refine k_itE (fun y_7 => ?_)
        refine r_mmaxE S hl.1 mm_X9_see_ml19 mm_X9_see_msmax mm_X9_see_mi mm_X9_see_mcmax (Nat.le_of_ble_eq_true rfl) (Nat.le_of_ble_eq_true rfl) (Nat.zero_le _) (Nat.zero_le _) dX9_see_34 (fun y_8 => ?_)
        refine r_put (C := RX9) (T := TX9) (N := 2) (ci := 7) (v := .int y_8) S in_X9_see_X9 tyX9_ok nmX9 G 0 rfl rfl 1 (by decide) lk_X9_see_15 rfl (vp_nar_int _) rfl (Nat.le_of_ble_eq_true rfl) dX9_see_37 (fun H locs G => ?_)
        obtain ⟨m_9, G⟩ : ∃ m_9 : Int32, wd X (va_A ([(ht, .inr (7, [.ref hc, .int tm])), (hc, .inl (X.2.1, 16, .inl tf))]) sz) (va_A ([(ht, .inr (7, [.ref hc, .int tm])), (hc, .inl (X.2.1, 16, .inl tf))]) sz) s ([(ht, .inr (7, [.ref hc, .int m_9])), (hc, .inl (X.2.1, 16, .inl f_6))]) H locs := ⟨_, G⟩
        exact join_1 m_9 f_6 _ _ _  G hl
  · intro m_2 f_3 H locs ls  G hl
    exact e_void S zr zlk G (m_2, f_3) [0, 1] rfl rfl (Or.inr rfl) (trivial) dX9_see_40
set_option maxHeartbeats 4000000 in
set_option maxRecDepth 100000 in
/-- hasBit -/
theorem s_hasBit (l : Launch) (X : EX) (x1 : Int32) (x2 : Int32) (sz : Nat) : Met l yX10_hasBit wsX10_hasBit ({ frames := 0, cells := 0, slots := 0, locals := 0 } : Room) (pE X [.int x1, .int x2] ([]) sz) (qI (fun (r : Int32) (u : Unit) => r = 0 ∨ r = 1) X (fun (u : Unit) => []) [] sz) 0 0 (va_A [] sz) := by
  refine mk_met (B := (fun _ => True)) (A := (va_A [] sz)) (cc := cX10_hasBit) (maxL := 2) (ret := (some .boolean)) (by decide) rfl (Nat.le_of_ble_eq_true rfl) k_ro k_a (fun p e s m below meth c S zr zlk znm zsz G ls hl => ?_)
  have S : CallFix p m c cX10_hasBit 2 s _ wsX10_hasBit RX10 := S
  have zx := S.1
  have zb := S.2.1
  have hl : lv_has ls 2 [(0, .int x1), (1, .int x2)] := hl
  refine lv_iload_n zx zb dX10_hasBit_0 rfl (lv_at hl 0 rfl) ?_
  refine lv_iload_n zx zb dX10_hasBit_1 rfl (lv_at hl 1 rfl) ?_
  refine lv_ishr zx zb dX10_hasBit_2 ?_
  refine k_itE (fun y_1 => ?_)
  refine lv_iconst (v := 1) zx zb dX10_hasBit_3 (by decide) ?_
  refine lv_iand zx zb dX10_hasBit_4 ?_
  refine k_itE (fun y_2 => ?_)
  refine lv_iconst (v := 1) zx zb dX10_hasBit_5 (by decide) ?_
  refine lv_icmp_ne (tgt := 13) zx zb dX10_hasBit_6 (by decide) (fun c_3 => ?_) (fun c_3 => ?_)
  · refine lv_iconst (v := 0) zx zb dX10_hasBit_13 (by decide) ?_
    exact e_int S zr zlk (by decide) G () [] rfl rfl (Or.inl rfl) (by first | exact Or.inl rfl | exact Or.inr rfl) dX10_hasBit_14
  · refine lv_iconst (v := 1) zx zb dX10_hasBit_9 (by decide) ?_
    refine lv_goto (tgt := 14) zx zb dX10_hasBit_10 (by decide) ?_
    exact e_int S zr zlk (by decide) G () [] rfl rfl (Or.inl rfl) (by first | exact Or.inl rfl | exact Or.inr rfl) dX10_hasBit_14
theorem mm_J6_bitCount_0f7a4_c265 : Cond.constant RJ6 265 (1431655765) ∈ wsJ6_bitCount_0f7a4 := by decide +kernel
theorem mm_J6_bitCount_0f7a4_c266 : Cond.constant RJ6 266 (858993459) ∈ wsJ6_bitCount_0f7a4 := by decide +kernel
theorem mm_J6_bitCount_0f7a4_c267 : Cond.constant RJ6 267 (252645135) ∈ wsJ6_bitCount_0f7a4 := by decide +kernel
set_option maxHeartbeats 4000000 in
set_option maxRecDepth 100000 in
/-- bitCount -/
theorem s_bitCount (l : Launch) (X : EX) (x1 : Int32) (sz : Nat) : Met l yJ6_bitCount_0f7a4 wsJ6_bitCount_0f7a4 ({ frames := 0, cells := 0, slots := 0, locals := 0 } : Room) (pE X [.int x1] ([]) sz) (qI (fun (r : Int32) (u : Unit) => True) X (fun (u : Unit) => []) [] sz) 0 0 (va_A [] sz) := by
  refine mk_met (B := (fun _ => True)) (A := (va_A [] sz)) (cc := cJ6_bitCount_0f7a4) (maxL := 1) (ret := (some .int)) (by decide) rfl (Nat.le_of_ble_eq_true rfl) k_ro k_a (fun p e s m below meth c S zr zlk znm zsz G ls hl => ?_)
  have S : CallFix p m c cJ6_bitCount_0f7a4 1 s _ wsJ6_bitCount_0f7a4 RJ6 := S
  have zx := S.1
  have zb := S.2.1
  have hl : lv_has ls 1 [(0, .int x1)] := hl
  refine lv_iload_n zx zb dJ6_bitCount_0f7a4_0 rfl (lv_at hl 0 rfl) ?_
  refine lv_iload_n zx zb dJ6_bitCount_0f7a4_1 rfl (lv_at hl 0 rfl) ?_
  refine lv_iconst (v := 1) zx zb dJ6_bitCount_0f7a4_2 (by decide) ?_
  refine lv_iushr zx zb dJ6_bitCount_0f7a4_3 rfl ?_
  refine k_itE (fun y_1 => ?_)
  refine lv_ldcw zx zb S.2.2.2.1 (S.2.2.2.2 _ mm_J6_bitCount_0f7a4_c265) dJ6_bitCount_0f7a4_4 ?_
  refine lv_iand zx zb dJ6_bitCount_0f7a4_7 ?_
  refine k_itE (fun y_3 => ?_)
  refine r_isub (v := (x1 - y_3)) S rfl dJ6_bitCount_0f7a4_8 ?_
  refine lv_istore_n (lv' := [(0, .int (x1 - y_3))]) zx zb dJ6_bitCount_0f7a4_9 rfl hl (by decide) rfl (fun ls hl => ?_)
  refine lv_iload_n zx zb dJ6_bitCount_0f7a4_10 rfl (lv_at hl 0 rfl) ?_
  refine lv_ldcw zx zb S.2.2.2.1 (S.2.2.2.2 _ mm_J6_bitCount_0f7a4_c266) dJ6_bitCount_0f7a4_11 ?_
  refine lv_iand zx zb dJ6_bitCount_0f7a4_14 ?_
  refine k_itE (fun y_5 => ?_)
  refine lv_iload_n zx zb dJ6_bitCount_0f7a4_15 rfl (lv_at hl 0 rfl) ?_
  refine lv_iconst (v := 2) zx zb dJ6_bitCount_0f7a4_16 (by decide) ?_
  refine lv_iushr zx zb dJ6_bitCount_0f7a4_17 rfl ?_
  refine k_itE (fun y_6 => ?_)
  refine lv_ldcw zx zb S.2.2.2.1 (S.2.2.2.2 _ mm_J6_bitCount_0f7a4_c266) dJ6_bitCount_0f7a4_18 ?_
  refine lv_iand zx zb dJ6_bitCount_0f7a4_21 ?_
  refine k_itE (fun y_8 => ?_)
  refine r_iadd (v := (y_5 + y_8)) S rfl dJ6_bitCount_0f7a4_22 ?_
  refine lv_istore_n (lv' := [(0, .int (y_5 + y_8))]) zx zb dJ6_bitCount_0f7a4_23 rfl hl (by decide) rfl (fun ls hl => ?_)
  refine lv_iload_n zx zb dJ6_bitCount_0f7a4_24 rfl (lv_at hl 0 rfl) ?_
  refine lv_iload_n zx zb dJ6_bitCount_0f7a4_25 rfl (lv_at hl 0 rfl) ?_
  refine lv_iconst (v := 4) zx zb dJ6_bitCount_0f7a4_26 (by decide) ?_
  refine lv_iushr zx zb dJ6_bitCount_0f7a4_27 rfl ?_
  refine k_itE (fun y_9 => ?_)
  refine r_iadd (v := ((y_5 + y_8) + y_9)) S rfl dJ6_bitCount_0f7a4_28 ?_
  refine lv_ldcw zx zb S.2.2.2.1 (S.2.2.2.2 _ mm_J6_bitCount_0f7a4_c267) dJ6_bitCount_0f7a4_29 ?_
  refine lv_iand zx zb dJ6_bitCount_0f7a4_32 ?_
  refine k_itE (fun y_11 => ?_)
  refine lv_istore_n (lv' := [(0, .int y_11)]) zx zb dJ6_bitCount_0f7a4_33 rfl hl (by decide) rfl (fun ls hl => ?_)
  refine lv_iload_n zx zb dJ6_bitCount_0f7a4_34 rfl (lv_at hl 0 rfl) ?_
  refine lv_iload_n zx zb dJ6_bitCount_0f7a4_35 rfl (lv_at hl 0 rfl) ?_
  refine lv_bipush (v := 8) zx zb dJ6_bitCount_0f7a4_36 (by decide) ?_
  refine lv_iushr zx zb dJ6_bitCount_0f7a4_38 rfl ?_
  refine k_itE (fun y_12 => ?_)
  refine r_iadd (v := (y_11 + y_12)) S rfl dJ6_bitCount_0f7a4_39 ?_
  refine lv_istore_n (lv' := [(0, .int (y_11 + y_12))]) zx zb dJ6_bitCount_0f7a4_40 rfl hl (by decide) rfl (fun ls hl => ?_)
  refine lv_iload_n zx zb dJ6_bitCount_0f7a4_41 rfl (lv_at hl 0 rfl) ?_
  refine lv_iload_n zx zb dJ6_bitCount_0f7a4_42 rfl (lv_at hl 0 rfl) ?_
  refine lv_bipush (v := 16) zx zb dJ6_bitCount_0f7a4_43 (by decide) ?_
  refine lv_iushr zx zb dJ6_bitCount_0f7a4_45 rfl ?_
  refine k_itE (fun y_13 => ?_)
  refine r_iadd (v := ((y_11 + y_12) + y_13)) S rfl dJ6_bitCount_0f7a4_46 ?_
  refine lv_istore_n (lv' := [(0, .int ((y_11 + y_12) + y_13))]) zx zb dJ6_bitCount_0f7a4_47 rfl hl (by decide) rfl (fun ls hl => ?_)
  refine lv_iload_n zx zb dJ6_bitCount_0f7a4_48 rfl (lv_at hl 0 rfl) ?_
  refine lv_bipush (v := 63) zx zb dJ6_bitCount_0f7a4_49 (by decide) ?_
  refine lv_iand zx zb dJ6_bitCount_0f7a4_51 ?_
  refine k_itE (fun y_14 => ?_)
  exact e_int S zr zlk (vp_nar_int _) G () [] rfl rfl (Or.inl rfl) (trivial) dJ6_bitCount_0f7a4_52
theorem in_X10_farBy_X8 : ∀ w ∈ wsX80, w ∈ wsX10_farBy := by decide +kernel
theorem lk_X10_farBy_320 : Cond.fieldLink RX10 320 "EggSpoons$Runner" "kind" "I" ∈ wsX10_farBy := by decide +kernel
set_option maxHeartbeats 4000000 in
set_option maxRecDepth 100000 in
/-- farBy -/
theorem s_farBy0 (l : Launch) (X : EX) (h0 : Nat) (a : Nat → Int32) (d : Nat → Int32) (x2 : Int32) (x3 : Int32) (sz : Nat) : Met l yX10_farBy wsX10_farBy ({ frames := 1, cells := 0, slots := 0, locals := 26 } : Room) (pE X [.ref h0, .int 0, .int x2, .int x3] (rnV h0 a d) sz) (qI (fun (r : Int32) (u : Unit) => True) X (fun (u : Unit) => []) [] sz) 0 0 (va_A [] sz) := by
  refine mk_met (B := (fun _ => True)) (A := (va_A [] sz)) (cc := cX10_farBy) (maxL := 4) (ret := (some .int)) (by decide) rfl (Nat.le_of_ble_eq_true rfl) k_ro k_a (fun p e s m below meth c S zr zlk znm zsz G ls hl => ?_)
  have S : CallFix p m c cX10_farBy 4 s _ wsX10_farBy RX10 := S
  have zx := S.1
  have zb := S.2.1
  have hl : lv_has ls 4 [(0, .ref h0), (1, .int 0), (2, .int x2), (3, .int x3)] := hl
  refine lv_iload_n zx zb dX10_farBy_0 rfl (lv_at hl 1 rfl) ?_
  refine lv_lookup (off := 27) (tgt := 28) zx zb dX10_farBy_1 rfl (by decide) (by decide) ?_
  refine lv_aload_n zx zb dX10_farBy_28 rfl (lv_at hl 0 rfl) ?_
  refine r_get (C := RX8) (T := TX8) (N := 8) (ci := 6) (v := .int (a 0)) S in_X10_farBy_X8 G 0 rfl rfl 0 (by decide) lk_X10_farBy_320 rfl dX10_farBy_29 ?_
  refine lv_iload_n zx zb dX10_farBy_32 rfl (lv_at hl 2 rfl) ?_
  refine lv_iload_n zx zb dX10_farBy_33 rfl (lv_at hl 3 rfl) ?_
  refine lv_bipush (v := 10) zx zb dX10_farBy_34 (by decide) ?_
  refine lv_idiv zx zb dX10_farBy_36 (by decide) ?_
  refine k_itE (fun y_1 => ?_)
  refine lv_iload_n zx zb dX10_farBy_37 rfl (lv_at hl 3 rfl) ?_
  refine lv_bipush (v := 10) zx zb dX10_farBy_38 (by decide) ?_
  refine lv_irem zx zb dX10_farBy_40 (by decide) ?_
  refine k_itE (fun y_2 => ?_)
  refine o_ri (cells' := 0) (slots' := 0) G rfl rfl (n_S (As := [.int (a 0), .int x2, .int y_1, .int y_2]) (rest := []) S G (s_reach l X (a 0) x2 y_1 y_2 s.heap.size) gX10_farBy_X2_reach rfl rfl rfl hdS_X2_reach ⟨Nat.le_of_ble_eq_true rfl, Nat.le_of_ble_eq_true rfl⟩ [] rfl rfl rfl hl.1 (Nat.le_of_ble_eq_true rfl) dX10_farBy_41 ⟨Nat.le_of_ble_eq_true rfl, Nat.le_of_ble_eq_true rfl⟩) (fun r_3 u_3 H locs hp_3 G => ?_)
  have G : wd X (fun _ => True) (va_A [] sz) s (rnV h0 a d) H locs := G
  exact e_int S zr zlk (vp_nar_int _) G () [] rfl rfl (Or.inl rfl) (trivial) dX10_farBy_44
theorem lk_X10_farBy_328 : Cond.fieldLink RX10 328 "EggSpoons$Runner" "legs" "I" ∈ wsX10_farBy := by decide +kernel
set_option maxHeartbeats 4000000 in
set_option maxRecDepth 100000 in
/-- farBy -/
theorem s_farBy1 (l : Launch) (X : EX) (h0 : Nat) (a : Nat → Int32) (d : Nat → Int32) (x2 : Int32) (x3 : Int32) (sz : Nat) : Met l yX10_farBy wsX10_farBy ({ frames := 1, cells := 0, slots := 0, locals := 26 } : Room) (pE X [.ref h0, .int 1, .int x2, .int x3] (rnV h0 a d) sz) (qI (fun (r : Int32) (u : Unit) => True) X (fun (u : Unit) => []) [] sz) 0 0 (va_A [] sz) := by
  refine mk_met (B := (fun _ => True)) (A := (va_A [] sz)) (cc := cX10_farBy) (maxL := 4) (ret := (some .int)) (by decide) rfl (Nat.le_of_ble_eq_true rfl) k_ro k_a (fun p e s m below meth c S zr zlk znm zsz G ls hl => ?_)
  have S : CallFix p m c cX10_farBy 4 s _ wsX10_farBy RX10 := S
  have zx := S.1
  have zb := S.2.1
  have hl : lv_has ls 4 [(0, .ref h0), (1, .int 1), (2, .int x2), (3, .int x3)] := hl
  refine lv_iload_n zx zb dX10_farBy_0 rfl (lv_at hl 1 rfl) ?_
  refine lv_lookup (off := 44) (tgt := 45) zx zb dX10_farBy_1 rfl (by decide) (by decide) ?_
  refine lv_iload_n zx zb dX10_farBy_45 rfl (lv_at hl 2 rfl) ?_
  refine lv_aload_n zx zb dX10_farBy_46 rfl (lv_at hl 0 rfl) ?_
  refine r_get (C := RX8) (T := TX8) (N := 8) (ci := 6) (v := .int (a 1)) S in_X10_farBy_X8 G 0 rfl rfl 1 (by decide) lk_X10_farBy_328 rfl dX10_farBy_47 ?_
  refine lv_iload_n zx zb dX10_farBy_50 rfl (lv_at hl 3 rfl) ?_
  refine lv_bipush (v := 10) zx zb dX10_farBy_51 (by decide) ?_
  refine lv_idiv zx zb dX10_farBy_53 (by decide) ?_
  refine k_itE (fun y_1 => ?_)
  refine lv_iload_n zx zb dX10_farBy_54 rfl (lv_at hl 3 rfl) ?_
  refine lv_bipush (v := 10) zx zb dX10_farBy_55 (by decide) ?_
  refine lv_irem zx zb dX10_farBy_57 (by decide) ?_
  refine k_itE (fun y_2 => ?_)
  refine o_ri (cells' := 0) (slots' := 0) G rfl rfl (n_S (As := [.int x2, .int (a 1), .int y_1, .int y_2]) (rest := []) S G (s_reach l X x2 (a 1) y_1 y_2 s.heap.size) gX10_farBy_X2_reach rfl rfl rfl hdS_X2_reach ⟨Nat.le_of_ble_eq_true rfl, Nat.le_of_ble_eq_true rfl⟩ [] rfl rfl rfl hl.1 (Nat.le_of_ble_eq_true rfl) dX10_farBy_58 ⟨Nat.le_of_ble_eq_true rfl, Nat.le_of_ble_eq_true rfl⟩) (fun r_3 u_3 H locs hp_3 G => ?_)
  have G : wd X (fun _ => True) (va_A [] sz) s (rnV h0 a d) H locs := G
  exact e_int S zr zlk (vp_nar_int _) G () [] rfl rfl (Or.inl rfl) (trivial) dX10_farBy_61
set_option maxHeartbeats 4000000 in
set_option maxRecDepth 100000 in
/-- farBy -/
theorem s_farBy2 (l : Launch) (X : EX) (h0 : Nat) (a : Nat → Int32) (d : Nat → Int32) (x2 : Int32) (x3 : Int32) (sz : Nat) : Met l yX10_farBy wsX10_farBy ({ frames := 1, cells := 0, slots := 0, locals := 24 } : Room) (pE X [.ref h0, .int 2, .int x2, .int x3] (rnV h0 a d) sz) (qI (fun (r : Int32) (u : Unit) => True) X (fun (u : Unit) => []) [] sz) 0 0 (va_A [] sz) := by
  refine mk_met (B := (fun _ => True)) (A := (va_A [] sz)) (cc := cX10_farBy) (maxL := 4) (ret := (some .int)) (by decide) rfl (Nat.le_of_ble_eq_true rfl) k_ro k_a (fun p e s m below meth c S zr zlk znm zsz G ls hl => ?_)
  have S : CallFix p m c cX10_farBy 4 s _ wsX10_farBy RX10 := S
  have zx := S.1
  have zb := S.2.1
  have hl : lv_has ls 4 [(0, .ref h0), (1, .int 2), (2, .int x2), (3, .int x3)] := hl
  refine lv_iload_n zx zb dX10_farBy_0 rfl (lv_at hl 1 rfl) ?_
  refine lv_lookup (off := 61) (tgt := 62) zx zb dX10_farBy_1 rfl (by decide) (by decide) ?_
  refine lv_iload_n zx zb dX10_farBy_62 rfl (lv_at hl 2 rfl) ?_
  refine lv_iload_n zx zb dX10_farBy_63 rfl (lv_at hl 3 rfl) ?_
  refine o_ri (cells' := 0) (slots' := 0) G rfl rfl (n_S (As := [.int x2, .int x3]) (rest := []) S G (s_limit l X x2 x3 s.heap.size) gX10_farBy_X1_limit rfl rfl rfl hdS_X1_limit ⟨Nat.le_of_ble_eq_true rfl, Nat.le_of_ble_eq_true rfl⟩ [] rfl rfl rfl hl.1 (Nat.le_of_ble_eq_true rfl) dX10_farBy_64 ⟨Nat.le_of_ble_eq_true rfl, Nat.le_of_ble_eq_true rfl⟩) (fun r_1 u_1 H locs hp_1 G => ?_)
  have G : wd X (fun _ => True) (va_A [] sz) s (rnV h0 a d) H locs := G
  exact e_int S zr zlk (vp_nar_int _) G () [] rfl rfl (Or.inl rfl) (trivial) dX10_farBy_67
theorem in_X10_seen_X10 : ∀ w ∈ wsX100, w ∈ wsX10_seen := by decide +kernel
theorem lk_X10_seen_10 : Cond.fieldLink RX10 10 "EggSpoons" "now" "LEggSpoons$Race;" ∈ wsX10_seen := by decide +kernel
theorem in_X10_seen_X5 : ∀ w ∈ wsX50, w ∈ wsX10_seen := by decide +kernel
theorem lk_X10_seen_185 : Cond.fieldLink RX10 185 "EggSpoons$Race" "seenRows" "LEggSpoons$Rows;" ∈ wsX10_seen := by decide +kernel
theorem hdV_X7_append : yX7_append.cls = RX7 ∧ yX7_append.cls ≠ "java/lang/invoke/MethodHandle" ∧ yX7_append.cls ≠ "java/lang/invoke/VarHandle" ∧ (parseMethodDescriptor yX7_append.desc).map (fun d => d.parameters.length) = some 5 := by decide +kernel
theorem in_X10_seen_X7 : ∀ w ∈ wsX70, w ∈ wsX10_seen := by decide +kernel
theorem lk_X10_seen_194 : Cond.fieldLink RX10 194 "EggSpoons$Rows" "size" "I" ∈ wsX10_seen := by decide +kernel
set_option maxHeartbeats 4000000 in
set_option maxRecDepth 100000 in
/-- seen -/
theorem s_seen (l : Launch) (X : EX) (h0 : Nat) (nw : Nat) (sp : Nat) (xa : Nat → Nat) (la : Int64) (lb : Int64) (an : Nat → Nat) (sv : Nat → Int32) (dv : Nat → Int32) (n0 : Nat) (n1 : Nat) (n2 : Nat) (n3 : Nat) (n4 : Nat) (g0 : Nat → Int32) (gs : Nat → Int32) (gn : Nat → Int32) (gm : Nat → Int32) (fr : Nat → Int32) (x1 : Int32) (x2 : Int32) (x3 : Int32) (x4 : Int32) (hI_n0 : n0 ≤ 6) (hI_n1 : n1 ≤ 8) (hI_n2 : n2 ≤ 5) (hI_n3 : n3 ≤ 6) (hI_n4 : n4 ≤ 6) (sz : Nat) : Met l yX10_seen wsX10_seen ({ frames := 1, cells := 0, slots := 0, locals := 26 } : Room) (pE X [.ref h0, .int x1, .int x2, .int x3, .int x4] (@HAppend.hAppend va_W va_W va_W _ (xW h0 nw sp xa la lb) (@HAppend.hAppend va_W va_W va_W _ (rcV X nw an sv dv n0 n1 n2 n3 n4 g0 gs gn gm) ([((xa 5), .inl (X.2.1, 3, .inl fr))]))) sz) (qI (fun (r : Int32) (u : (Nat) × (Nat → Int32) × (Nat → Int32)) => u.1 ≤ 5 ∧ ((r, u.1) = appF (thP n0 x1 ∧ ((0 : Int32) ≤ x2 ∧ x2 ≤ 99) ∧ ((0 : Int32) ≤ x3 ∧ x3 ≤ 9) ∧ ((0 : Int32) ≤ x4 ∧ x4 ≤ 15)) 5 n2)) X (fun (u : (Nat) × (Nat → Int32) × (Nat → Int32)) => @HAppend.hAppend va_W va_W va_W _ (xW h0 nw sp xa la lb) (@HAppend.hAppend va_W va_W va_W _ (rcV X nw an sv dv n0 n1 u.1 n3 n4 g0 u.2.1 gn gm) ([((xa 5), .inl (X.2.1, 3, .inl u.2.2))]))) (@HAppend.hAppend va_W va_W va_W _ (xW h0 nw sp xa la lb) (@HAppend.hAppend va_W va_W va_W _ (rcV X nw an sv dv n0 n1 n2 n3 n4 g0 gs gn gm) ([((xa 5), .inl (X.2.1, 3, .inl fr))]))) sz) 0 0 (va_A (@HAppend.hAppend va_W va_W va_W _ (xW h0 nw sp xa la lb) (@HAppend.hAppend va_W va_W va_W _ (rcV X nw an sv dv n0 n1 n2 n3 n4 g0 gs gn gm) ([((xa 5), .inl (X.2.1, 3, .inl fr))]))) sz) := by
  refine mk_met (B := (va_A (@HAppend.hAppend va_W va_W va_W _ (xW h0 nw sp xa la lb) (@HAppend.hAppend va_W va_W va_W _ (rcV X nw an sv dv n0 n1 n2 n3 n4 g0 gs gn gm) ([((xa 5), .inl (X.2.1, 3, .inl fr))]))) sz)) (A := (va_A (@HAppend.hAppend va_W va_W va_W _ (xW h0 nw sp xa la lb) (@HAppend.hAppend va_W va_W va_W _ (rcV X nw an sv dv n0 n1 n2 n3 n4 g0 gs gn gm) ([((xa 5), .inl (X.2.1, 3, .inl fr))]))) sz)) (cc := cX10_seen) (maxL := 5) (ret := (some .int)) (by decide) rfl (Nat.le_of_ble_eq_true rfl) k_w k_a (fun p e s m below meth c S zr zlk znm zsz G ls hl => ?_)
  have S : CallFix p m c cX10_seen 5 s _ wsX10_seen RX10 := S
  have zx := S.1
  have zb := S.2.1
  have hl : lv_has ls 5 [(0, .ref h0), (1, .int x1), (2, .int x2), (3, .int x3), (4, .int x4)] := hl
  refine lv_aload_n zx zb dX10_seen_0 rfl (lv_at hl 0 rfl) ?_
  refine lv_iload_n zx zb dX10_seen_1 rfl (lv_at hl 1 rfl) ?_
  refine o_ri (cells' := 0) (slots' := 0) G rfl rfl (n_V (As := [.int x1]) (rest := []) (C := RX10) (T := TX10) (N := 14) (ci := 8) S G (s_there l X h0 nw sp xa la lb an sv dv n0 n1 n2 n3 n4 g0 gs gn gm x1 hI_n0 hI_n1 hI_n2 hI_n3 hI_n4 s.heap.size) gX10_seen_X10_there rfl rfl rfl hdV_X10_there ⟨Nat.le_of_ble_eq_true rfl, Nat.le_of_ble_eq_true rfl⟩ [0, 1, 2, 3, 4, 5, 6, 7, 8, 9, 10, 11, 12, 13, 14, 15, 16] rfl rfl 0 rfl rfl rfl hl.1 (Nat.le_of_ble_eq_true rfl) dX10_seen_2 ⟨Nat.le_of_ble_eq_true rfl, Nat.le_of_ble_eq_true rfl⟩) (fun r_1 u_1 H locs hp_1 G => ?_)
  have G : wd X (va_A (@HAppend.hAppend va_W va_W va_W _ (xW h0 nw sp xa la lb) (@HAppend.hAppend va_W va_W va_W _ (rcV X nw an sv dv n0 n1 n2 n3 n4 g0 gs gn gm) ([((xa 5), .inl (X.2.1, 3, .inl fr))]))) sz) (va_A (@HAppend.hAppend va_W va_W va_W _ (xW h0 nw sp xa la lb) (@HAppend.hAppend va_W va_W va_W _ (rcV X nw an sv dv n0 n1 n2 n3 n4 g0 gs gn gm) ([((xa 5), .inl (X.2.1, 3, .inl fr))]))) sz) s (@HAppend.hAppend va_W va_W va_W _ (xW h0 nw sp xa la lb) (@HAppend.hAppend va_W va_W va_W _ (rcV X nw an sv dv n0 n1 n2 n3 n4 g0 gs gn gm) ([((xa 5), .inl (X.2.1, 3, .inl fr))]))) H locs := G
  rcases hp_1 with ⟨rfl, hj_1⟩ | ⟨rfl, hj_1⟩
  · obtain ⟨j_1, hj_1, rfl⟩ := hj_1
    refine lv_if_eq (tgt := 39) zx zb dX10_seen_5 (by decide) (fun c_2 => absurd c_2 (by decide)) (fun c_2 => ?_)
    refine lv_iload_n zx zb dX10_seen_8 rfl (lv_at hl 2 rfl) ?_
    refine lv_iconst (v := 0) zx zb dX10_seen_9 (by decide) ?_
    refine lv_bipush (v := 99) zx zb dX10_seen_10 (by decide) ?_
    refine o_ri (cells' := 0) (slots' := 0) G rfl rfl (n_S (As := [.int x2, .int 0, .int 99]) (rest := []) S G (s_within l X x2 0 99 H.size) gX10_seen_X10_within rfl rfl rfl hdS_X10_within ⟨Nat.le_of_ble_eq_true rfl, Nat.le_of_ble_eq_true rfl⟩ [] rfl rfl rfl hl.1 (Nat.le_of_ble_eq_true rfl) dX10_seen_12 ⟨Nat.le_of_ble_eq_true rfl, Nat.le_of_ble_eq_true rfl⟩) (fun r_3 u_3 H locs hp_3 G => ?_)
    have G : wd X (va_A (@HAppend.hAppend va_W va_W va_W _ (xW h0 nw sp xa la lb) (@HAppend.hAppend va_W va_W va_W _ (rcV X nw an sv dv n0 n1 n2 n3 n4 g0 gs gn gm) ([((xa 5), .inl (X.2.1, 3, .inl fr))]))) sz) (va_A (@HAppend.hAppend va_W va_W va_W _ (xW h0 nw sp xa la lb) (@HAppend.hAppend va_W va_W va_W _ (rcV X nw an sv dv n0 n1 n2 n3 n4 g0 gs gn gm) ([((xa 5), .inl (X.2.1, 3, .inl fr))]))) sz) s (@HAppend.hAppend va_W va_W va_W _ (xW h0 nw sp xa la lb) (@HAppend.hAppend va_W va_W va_W _ (rcV X nw an sv dv n0 n1 n2 n3 n4 g0 gs gn gm) ([((xa 5), .inl (X.2.1, 3, .inl fr))]))) H locs := G
    rcases hp_3 with ⟨rfl, hw_3⟩ | ⟨rfl, hw_3⟩
    · refine lv_if_eq (tgt := 39) zx zb dX10_seen_15 (by decide) (fun c_4 => absurd c_4 (by decide)) (fun c_4 => ?_)
      refine lv_iload_n zx zb dX10_seen_18 rfl (lv_at hl 3 rfl) ?_
      refine lv_iconst (v := 0) zx zb dX10_seen_19 (by decide) ?_
      refine lv_bipush (v := 9) zx zb dX10_seen_20 (by decide) ?_
      refine o_ri (cells' := 0) (slots' := 0) G rfl rfl (n_S (As := [.int x3, .int 0, .int 9]) (rest := []) S G (s_within l X x3 0 9 H.size) gX10_seen_X10_within rfl rfl rfl hdS_X10_within ⟨Nat.le_of_ble_eq_true rfl, Nat.le_of_ble_eq_true rfl⟩ [] rfl rfl rfl hl.1 (Nat.le_of_ble_eq_true rfl) dX10_seen_22 ⟨Nat.le_of_ble_eq_true rfl, Nat.le_of_ble_eq_true rfl⟩) (fun r_5 u_5 H locs hp_5 G => ?_)
      have G : wd X (va_A (@HAppend.hAppend va_W va_W va_W _ (xW h0 nw sp xa la lb) (@HAppend.hAppend va_W va_W va_W _ (rcV X nw an sv dv n0 n1 n2 n3 n4 g0 gs gn gm) ([((xa 5), .inl (X.2.1, 3, .inl fr))]))) sz) (va_A (@HAppend.hAppend va_W va_W va_W _ (xW h0 nw sp xa la lb) (@HAppend.hAppend va_W va_W va_W _ (rcV X nw an sv dv n0 n1 n2 n3 n4 g0 gs gn gm) ([((xa 5), .inl (X.2.1, 3, .inl fr))]))) sz) s (@HAppend.hAppend va_W va_W va_W _ (xW h0 nw sp xa la lb) (@HAppend.hAppend va_W va_W va_W _ (rcV X nw an sv dv n0 n1 n2 n3 n4 g0 gs gn gm) ([((xa 5), .inl (X.2.1, 3, .inl fr))]))) H locs := G
      rcases hp_5 with ⟨rfl, hw_5⟩ | ⟨rfl, hw_5⟩
      · refine lv_if_eq (tgt := 39) zx zb dX10_seen_25 (by decide) (fun c_6 => absurd c_6 (by decide)) (fun c_6 => ?_)
        refine lv_iload zx zb dX10_seen_28 (lv_at hl 4 rfl) ?_
        refine lv_iconst (v := 0) zx zb dX10_seen_30 (by decide) ?_
        refine lv_bipush (v := 15) zx zb dX10_seen_31 (by decide) ?_
        refine o_ri (cells' := 0) (slots' := 0) G rfl rfl (n_S (As := [.int x4, .int 0, .int 15]) (rest := []) S G (s_within l X x4 0 15 H.size) gX10_seen_X10_within rfl rfl rfl hdS_X10_within ⟨Nat.le_of_ble_eq_true rfl, Nat.le_of_ble_eq_true rfl⟩ [] rfl rfl rfl hl.1 (Nat.le_of_ble_eq_true rfl) dX10_seen_33 ⟨Nat.le_of_ble_eq_true rfl, Nat.le_of_ble_eq_true rfl⟩) (fun r_7 u_7 H locs hp_7 G => ?_)
        have G : wd X (va_A (@HAppend.hAppend va_W va_W va_W _ (xW h0 nw sp xa la lb) (@HAppend.hAppend va_W va_W va_W _ (rcV X nw an sv dv n0 n1 n2 n3 n4 g0 gs gn gm) ([((xa 5), .inl (X.2.1, 3, .inl fr))]))) sz) (va_A (@HAppend.hAppend va_W va_W va_W _ (xW h0 nw sp xa la lb) (@HAppend.hAppend va_W va_W va_W _ (rcV X nw an sv dv n0 n1 n2 n3 n4 g0 gs gn gm) ([((xa 5), .inl (X.2.1, 3, .inl fr))]))) sz) s (@HAppend.hAppend va_W va_W va_W _ (xW h0 nw sp xa la lb) (@HAppend.hAppend va_W va_W va_W _ (rcV X nw an sv dv n0 n1 n2 n3 n4 g0 gs gn gm) ([((xa 5), .inl (X.2.1, 3, .inl fr))]))) H locs := G
        rcases hp_7 with ⟨rfl, hw_7⟩ | ⟨rfl, hw_7⟩
        · refine lv_if_ne (tgt := 46) zx zb dX10_seen_36 (by decide) (fun c_8 => ?_) (fun c_8 => absurd c_8 (by decide))
          refine lv_aload_n zx zb dX10_seen_46 rfl (lv_at hl 0 rfl) ?_
          refine r_get (C := RX10) (T := TX10) (N := 14) (ci := 8) (v := .ref nw) S in_X10_seen_X10 G 0 rfl rfl 0 (by decide) lk_X10_seen_10 rfl dX10_seen_47 ?_
          refine r_get (C := RX5) (T := TX5) (N := 8) (ci := 3) (v := .ref (an 9)) S in_X10_seen_X5 G 1 rfl rfl 5 (by decide) lk_X10_seen_185 rfl dX10_seen_50 ?_
          refine lv_iload_n zx zb dX10_seen_53 rfl (lv_at hl 1 rfl) ?_
          refine lv_iconst (v := 0) zx zb dX10_seen_54 (by decide) ?_
          refine lv_iload_n zx zb dX10_seen_55 rfl (lv_at hl 2 rfl) ?_
          refine lv_iload_n zx zb dX10_seen_56 rfl (lv_at hl 3 rfl) ?_
          refine lv_iload zx zb dX10_seen_57 (lv_at hl 4 rfl) ?_
          refine b_wi (cells' := 0) (slots' := 0) (wr := @HAppend.hAppend va_W va_W va_W _ (xW h0 nw sp xa la lb) (@HAppend.hAppend va_W va_W va_W _ ([(nw, .inr (3, [.int (dv 0), .int (dv 1), .int (nI n0), .ref (an 0), .ref (an 7), .ref (an 9), .ref (an 11), .ref (an 13)])), ((an 0), .inl (X.2.2.2.2, 6, .inr (.inr (.inr (.inr (rowQ an)))))), ((an 1), .inr (6, [.int (sv 0), .int (sv 1), .int (sv 2), .int (dv 10), .int (dv 11), .int (dv 12), .int (dv 13), .int (dv 14)])), ((an 2), .inr (6, [.int (sv 3), .int (sv 4), .int (sv 5), .int (dv 15), .int (dv 16), .int (dv 17), .int (dv 18), .int (dv 19)])), ((an 3), .inr (6, [.int (sv 6), .int (sv 7), .int (sv 8), .int (dv 20), .int (dv 21), .int (dv 22), .int (dv 23), .int (dv 24)])), ((an 4), .inr (6, [.int (sv 9), .int (sv 10), .int (sv 11), .int (dv 25), .int (dv 26), .int (dv 27), .int (dv 28), .int (dv 29)])), ((an 5), .inr (6, [.int (sv 12), .int (sv 13), .int (sv 14), .int (dv 30), .int (dv 31), .int (dv 32), .int (dv 33), .int (dv 34)])), ((an 6), .inr (6, [.int (sv 15), .int (sv 16), .int (sv 17), .int (dv 35), .int (dv 36), .int (dv 37), .int (dv 38), .int (dv 39)])), ((an 7), .inr (2, [.ref (an 8), .int (nI n1)])), ((an 8), .inl (X.2.1, 248, .inl g0)), ((an 11), .inr (5, [.int 6, .int 1, .int 1, .ref (an 12), .int (nI n3)])), ((an 12), .inl (X.2.1, 30, .inl gn)), ((an 13), .inr (5, [.int 6, .int 0, .int 0, .ref (an 14), .int (nI n4)])), ((an 14), .inl (X.2.1, 30, .inl gm))]) ([((xa 5), .inl (X.2.1, 3, .inl fr))]))) G rfl rfl [11, 12] [0, 1, 2, 3, 4, 5, 6, 7, 8, 9, 10, 13, 14, 15, 16, 17] rfl rfl rfl rfl (n_V (As := [.int (nI j_1), .int 0, .int x2, .int x3, .int x4]) (rest := []) (C := RX7) (T := TX7) (N := 5) (ci := 5) S G (s_append0 l X (an 9) (an 10) n2 gs (nI j_1) 0 x2 x3 x4 hI_n2 H.size) gX10_seen_X7_append rfl rfl rfl hdV_X7_append ⟨Nat.le_of_ble_eq_true rfl, Nat.le_of_ble_eq_true rfl⟩ [11, 12] rfl rfl 11 rfl rfl rfl hl.1 (Nat.le_of_ble_eq_true rfl) dX10_seen_59 ⟨Nat.le_of_ble_eq_true rfl, Nat.le_of_ble_eq_true rfl⟩) (fun r_9 u_9 H locs hp_9 G => ?_)
          obtain ⟨n_9a, f_9b⟩ := u_9
          try dsimp only at hp_9
          obtain ⟨hI_n_9a, hq_9⟩ := hp_9
          have G : wd X (va_A (@HAppend.hAppend va_W va_W va_W _ (xW h0 nw sp xa la lb) (@HAppend.hAppend va_W va_W va_W _ (rcV X nw an sv dv n0 n1 n2 n3 n4 g0 gs gn gm) ([((xa 5), .inl (X.2.1, 3, .inl fr))]))) sz) (va_A (@HAppend.hAppend va_W va_W va_W _ (xW h0 nw sp xa la lb) (@HAppend.hAppend va_W va_W va_W _ (rcV X nw an sv dv n0 n1 n2 n3 n4 g0 gs gn gm) ([((xa 5), .inl (X.2.1, 3, .inl fr))]))) sz) s (@HAppend.hAppend va_W va_W va_W _ (xW h0 nw sp xa la lb) (@HAppend.hAppend va_W va_W va_W _ (rcV X nw an sv dv n0 n1 n_9a n3 n4 g0 f_9b gn gm) ([((xa 5), .inl (X.2.1, 3, .inl fr))]))) H locs := wd_sub G [0, 1, 2, 3, 4, 5, 6, 7, 8, 9, 10, 16, 17, 11, 12, 13, 14, 15] rfl rfl
          rcases hq_9 with ⟨rfl, ha_9, hn_9⟩ | ⟨rfl, ha_9, hn_9⟩
          · refine lv_if_eq (tgt := 78) zx zb dX10_seen_62 (by decide) (fun c_10 => ?_) (fun c_10 => absurd (by decide) c_10)
            refine lv_aload_n zx zb dX10_seen_78 rfl (lv_at hl 0 rfl) ?_
            refine lv_bipush (v := (-4)) zx zb dX10_seen_79 (by decide) ?_
            refine b_wi (cells' := 0) (slots' := 0) (wr := rcV X nw an sv dv n0 n1 n_9a n3 n4 g0 f_9b gn gm) G rfl rfl [0, 17] [1, 2, 3, 4, 5, 6, 7, 8, 9, 10, 11, 12, 13, 14, 15, 16] rfl rfl rfl rfl (n_V (As := [.int (-4)]) (rest := []) (C := RX10) (T := TX10) (N := 14) (ci := 8) S G (s_refuse l X h0 nw sp xa la lb fr (-4) H.size) gX10_seen_X10_refuse rfl rfl rfl hdV_X10_refuse ⟨Nat.le_of_ble_eq_true rfl, Nat.le_of_ble_eq_true rfl⟩ [0, 17] rfl rfl 0 rfl rfl rfl hl.1 (Nat.le_of_ble_eq_true rfl) dX10_seen_81 ⟨Nat.le_of_ble_eq_true rfl, Nat.le_of_ble_eq_true rfl⟩) (fun r_11 u_11 H locs hp_11 G => ?_)
            obtain ⟨f_11, rfl⟩ : ∃ z, z = u_11 := ⟨_, rfl⟩
            have hq_11 := hp_11
            have G : wd X (va_A (@HAppend.hAppend va_W va_W va_W _ (xW h0 nw sp xa la lb) (@HAppend.hAppend va_W va_W va_W _ (rcV X nw an sv dv n0 n1 n2 n3 n4 g0 gs gn gm) ([((xa 5), .inl (X.2.1, 3, .inl fr))]))) sz) (va_A (@HAppend.hAppend va_W va_W va_W _ (xW h0 nw sp xa la lb) (@HAppend.hAppend va_W va_W va_W _ (rcV X nw an sv dv n0 n1 n2 n3 n4 g0 gs gn gm) ([((xa 5), .inl (X.2.1, 3, .inl fr))]))) sz) s (@HAppend.hAppend va_W va_W va_W _ (rcV X nw an sv dv n0 n1 n_9a n3 n4 g0 f_9b gn gm) (@HAppend.hAppend va_W va_W va_W _ (xW h0 nw sp xa la lb) ([((xa 5), .inl (X.2.1, 3, .inl f_11))]))) H locs := G
            have hzF : (r_11, n_9a) = appF (thP n0 (nI j_1) ∧ ((0 : Int32) ≤ x2 ∧ x2 ≤ 99) ∧ ((0 : Int32) ≤ x3 ∧ x3 ≤ 9) ∧ ((0 : Int32) ≤ x4 ∧ x4 ≤ 15)) 5 n2 := by rw [appF_f ⟨⟨_, hj_1, rfl⟩, hw_3, hw_5, hw_7⟩ (by omega), hq_11, show n_9a = n2 from by omega]
            exact e_int S zr zlk (vp_nar_int _) G (n_9a, f_9b, f_11) [16, 0, 1, 2, 3, 4, 5, 6, 7, 8, 9, 10, 11, 12, 13, 14, 15, 17] rfl rfl (Or.inr rfl) (⟨hI_n_9a, hzF⟩) dX10_seen_84
          · refine lv_if_eq (tgt := 78) zx zb dX10_seen_62 (by decide) (fun c_12 => absurd c_12 (by decide)) (fun c_12 => ?_)
            refine lv_aload_n zx zb dX10_seen_65 rfl (lv_at hl 0 rfl) ?_
            refine r_get (C := RX10) (T := TX10) (N := 14) (ci := 8) (v := .ref nw) S in_X10_seen_X10 G 0 rfl rfl 0 (by decide) lk_X10_seen_10 rfl dX10_seen_66 ?_
            refine r_get (C := RX5) (T := TX5) (N := 8) (ci := 3) (v := .ref (an 9)) S in_X10_seen_X5 G 1 rfl rfl 5 (by decide) lk_X10_seen_185 rfl dX10_seen_69 ?_
            refine r_get (C := RX7) (T := TX7) (N := 5) (ci := 5) (v := .int (nI n_9a)) S in_X10_seen_X7 G 11 rfl rfl 4 (by decide) lk_X10_seen_194 rfl dX10_seen_72 ?_
            refine lv_goto (tgt := 84) zx zb dX10_seen_75 (by decide) ?_
            have hzF : ((nI n_9a), n_9a) = appF (thP n0 (nI j_1) ∧ ((0 : Int32) ≤ x2 ∧ x2 ≤ 99) ∧ ((0 : Int32) ≤ x3 ∧ x3 ≤ 9) ∧ ((0 : Int32) ≤ x4 ∧ x4 ≤ 15)) 5 n2 := by rw [appF_p ⟨⟨_, hj_1, rfl⟩, hw_3, hw_5, hw_7⟩ (by omega), show n_9a = n2 + 1 from by omega]
            exact e_int S zr zlk (vp_nar_int _) G (n_9a, f_9b, fr) [0, 1, 2, 3, 4, 5, 6, 7, 8, 9, 10, 11, 12, 13, 14, 15, 16, 17] rfl rfl (Or.inr rfl) (⟨hI_n_9a, hzF⟩) dX10_seen_84
        · refine lv_if_ne (tgt := 46) zx zb dX10_seen_36 (by decide) (fun c_13 => absurd (by decide) c_13) (fun c_13 => ?_)
          refine lv_aload_n zx zb dX10_seen_39 rfl (lv_at hl 0 rfl) ?_
          refine lv_bipush (v := (-2)) zx zb dX10_seen_40 (by decide) ?_
          refine b_wi (cells' := 0) (slots' := 0) (wr := rcV X nw an sv dv n0 n1 n2 n3 n4 g0 gs gn gm) G rfl rfl [0, 17] [1, 2, 3, 4, 5, 6, 7, 8, 9, 10, 11, 12, 13, 14, 15, 16] rfl rfl rfl rfl (n_V (As := [.int (-2)]) (rest := []) (C := RX10) (T := TX10) (N := 14) (ci := 8) S G (s_refuse l X h0 nw sp xa la lb fr (-2) H.size) gX10_seen_X10_refuse rfl rfl rfl hdV_X10_refuse ⟨Nat.le_of_ble_eq_true rfl, Nat.le_of_ble_eq_true rfl⟩ [0, 17] rfl rfl 0 rfl rfl rfl hl.1 (Nat.le_of_ble_eq_true rfl) dX10_seen_42 ⟨Nat.le_of_ble_eq_true rfl, Nat.le_of_ble_eq_true rfl⟩) (fun r_14 u_14 H locs hp_14 G => ?_)
          obtain ⟨f_14, rfl⟩ : ∃ z, z = u_14 := ⟨_, rfl⟩
          have hq_14 := hp_14
          have G : wd X (va_A (@HAppend.hAppend va_W va_W va_W _ (xW h0 nw sp xa la lb) (@HAppend.hAppend va_W va_W va_W _ (rcV X nw an sv dv n0 n1 n2 n3 n4 g0 gs gn gm) ([((xa 5), .inl (X.2.1, 3, .inl fr))]))) sz) (va_A (@HAppend.hAppend va_W va_W va_W _ (xW h0 nw sp xa la lb) (@HAppend.hAppend va_W va_W va_W _ (rcV X nw an sv dv n0 n1 n2 n3 n4 g0 gs gn gm) ([((xa 5), .inl (X.2.1, 3, .inl fr))]))) sz) s (@HAppend.hAppend va_W va_W va_W _ (rcV X nw an sv dv n0 n1 n2 n3 n4 g0 gs gn gm) (@HAppend.hAppend va_W va_W va_W _ (xW h0 nw sp xa la lb) ([((xa 5), .inl (X.2.1, 3, .inl f_14))]))) H locs := G
          have hzF : (r_14, n2) = appF (thP n0 (nI j_1) ∧ ((0 : Int32) ≤ x2 ∧ x2 ≤ 99) ∧ ((0 : Int32) ≤ x3 ∧ x3 ≤ 9) ∧ ((0 : Int32) ≤ x4 ∧ x4 ≤ 15)) 5 n2 := by rw [appF_n (fun h => hw_7 h.2.2.2), hq_14]
          exact e_int S zr zlk (vp_nar_int _) G (n2, gs, f_14) [16, 0, 1, 2, 3, 4, 5, 6, 7, 8, 9, 10, 11, 12, 13, 14, 15, 17] rfl rfl (Or.inr rfl) (⟨hI_n2, hzF⟩) dX10_seen_45
      · refine lv_if_eq (tgt := 39) zx zb dX10_seen_25 (by decide) (fun c_15 => ?_) (fun c_15 => absurd (by decide) c_15)
        refine lv_aload_n zx zb dX10_seen_39 rfl (lv_at hl 0 rfl) ?_
        refine lv_bipush (v := (-2)) zx zb dX10_seen_40 (by decide) ?_
        refine b_wi (cells' := 0) (slots' := 0) (wr := rcV X nw an sv dv n0 n1 n2 n3 n4 g0 gs gn gm) G rfl rfl [0, 17] [1, 2, 3, 4, 5, 6, 7, 8, 9, 10, 11, 12, 13, 14, 15, 16] rfl rfl rfl rfl (n_V (As := [.int (-2)]) (rest := []) (C := RX10) (T := TX10) (N := 14) (ci := 8) S G (s_refuse l X h0 nw sp xa la lb fr (-2) H.size) gX10_seen_X10_refuse rfl rfl rfl hdV_X10_refuse ⟨Nat.le_of_ble_eq_true rfl, Nat.le_of_ble_eq_true rfl⟩ [0, 17] rfl rfl 0 rfl rfl rfl hl.1 (Nat.le_of_ble_eq_true rfl) dX10_seen_42 ⟨Nat.le_of_ble_eq_true rfl, Nat.le_of_ble_eq_true rfl⟩) (fun r_16 u_16 H locs hp_16 G => ?_)
        obtain ⟨f_16, rfl⟩ : ∃ z, z = u_16 := ⟨_, rfl⟩
        have hq_16 := hp_16
        have G : wd X (va_A (@HAppend.hAppend va_W va_W va_W _ (xW h0 nw sp xa la lb) (@HAppend.hAppend va_W va_W va_W _ (rcV X nw an sv dv n0 n1 n2 n3 n4 g0 gs gn gm) ([((xa 5), .inl (X.2.1, 3, .inl fr))]))) sz) (va_A (@HAppend.hAppend va_W va_W va_W _ (xW h0 nw sp xa la lb) (@HAppend.hAppend va_W va_W va_W _ (rcV X nw an sv dv n0 n1 n2 n3 n4 g0 gs gn gm) ([((xa 5), .inl (X.2.1, 3, .inl fr))]))) sz) s (@HAppend.hAppend va_W va_W va_W _ (rcV X nw an sv dv n0 n1 n2 n3 n4 g0 gs gn gm) (@HAppend.hAppend va_W va_W va_W _ (xW h0 nw sp xa la lb) ([((xa 5), .inl (X.2.1, 3, .inl f_16))]))) H locs := G
        have hzF : (r_16, n2) = appF (thP n0 (nI j_1) ∧ ((0 : Int32) ≤ x2 ∧ x2 ≤ 99) ∧ ((0 : Int32) ≤ x3 ∧ x3 ≤ 9) ∧ ((0 : Int32) ≤ x4 ∧ x4 ≤ 15)) 5 n2 := by rw [appF_n (fun h => hw_5 h.2.2.1), hq_16]
        exact e_int S zr zlk (vp_nar_int _) G (n2, gs, f_16) [16, 0, 1, 2, 3, 4, 5, 6, 7, 8, 9, 10, 11, 12, 13, 14, 15, 17] rfl rfl (Or.inr rfl) (⟨hI_n2, hzF⟩) dX10_seen_45
    · refine lv_if_eq (tgt := 39) zx zb dX10_seen_15 (by decide) (fun c_17 => ?_) (fun c_17 => absurd (by decide) c_17)
      refine lv_aload_n zx zb dX10_seen_39 rfl (lv_at hl 0 rfl) ?_
      refine lv_bipush (v := (-2)) zx zb dX10_seen_40 (by decide) ?_
      refine b_wi (cells' := 0) (slots' := 0) (wr := rcV X nw an sv dv n0 n1 n2 n3 n4 g0 gs gn gm) G rfl rfl [0, 17] [1, 2, 3, 4, 5, 6, 7, 8, 9, 10, 11, 12, 13, 14, 15, 16] rfl rfl rfl rfl (n_V (As := [.int (-2)]) (rest := []) (C := RX10) (T := TX10) (N := 14) (ci := 8) S G (s_refuse l X h0 nw sp xa la lb fr (-2) H.size) gX10_seen_X10_refuse rfl rfl rfl hdV_X10_refuse ⟨Nat.le_of_ble_eq_true rfl, Nat.le_of_ble_eq_true rfl⟩ [0, 17] rfl rfl 0 rfl rfl rfl hl.1 (Nat.le_of_ble_eq_true rfl) dX10_seen_42 ⟨Nat.le_of_ble_eq_true rfl, Nat.le_of_ble_eq_true rfl⟩) (fun r_18 u_18 H locs hp_18 G => ?_)
      obtain ⟨f_18, rfl⟩ : ∃ z, z = u_18 := ⟨_, rfl⟩
      have hq_18 := hp_18
      have G : wd X (va_A (@HAppend.hAppend va_W va_W va_W _ (xW h0 nw sp xa la lb) (@HAppend.hAppend va_W va_W va_W _ (rcV X nw an sv dv n0 n1 n2 n3 n4 g0 gs gn gm) ([((xa 5), .inl (X.2.1, 3, .inl fr))]))) sz) (va_A (@HAppend.hAppend va_W va_W va_W _ (xW h0 nw sp xa la lb) (@HAppend.hAppend va_W va_W va_W _ (rcV X nw an sv dv n0 n1 n2 n3 n4 g0 gs gn gm) ([((xa 5), .inl (X.2.1, 3, .inl fr))]))) sz) s (@HAppend.hAppend va_W va_W va_W _ (rcV X nw an sv dv n0 n1 n2 n3 n4 g0 gs gn gm) (@HAppend.hAppend va_W va_W va_W _ (xW h0 nw sp xa la lb) ([((xa 5), .inl (X.2.1, 3, .inl f_18))]))) H locs := G
      have hzF : (r_18, n2) = appF (thP n0 (nI j_1) ∧ ((0 : Int32) ≤ x2 ∧ x2 ≤ 99) ∧ ((0 : Int32) ≤ x3 ∧ x3 ≤ 9) ∧ ((0 : Int32) ≤ x4 ∧ x4 ≤ 15)) 5 n2 := by rw [appF_n (fun h => hw_3 h.2.1), hq_18]
      exact e_int S zr zlk (vp_nar_int _) G (n2, gs, f_18) [16, 0, 1, 2, 3, 4, 5, 6, 7, 8, 9, 10, 11, 12, 13, 14, 15, 17] rfl rfl (Or.inr rfl) (⟨hI_n2, hzF⟩) dX10_seen_45
  · refine lv_if_eq (tgt := 39) zx zb dX10_seen_5 (by decide) (fun c_19 => ?_) (fun c_19 => absurd (by decide) c_19)
    refine lv_aload_n zx zb dX10_seen_39 rfl (lv_at hl 0 rfl) ?_
    refine lv_bipush (v := (-2)) zx zb dX10_seen_40 (by decide) ?_
    refine b_wi (cells' := 0) (slots' := 0) (wr := rcV X nw an sv dv n0 n1 n2 n3 n4 g0 gs gn gm) G rfl rfl [0, 17] [1, 2, 3, 4, 5, 6, 7, 8, 9, 10, 11, 12, 13, 14, 15, 16] rfl rfl rfl rfl (n_V (As := [.int (-2)]) (rest := []) (C := RX10) (T := TX10) (N := 14) (ci := 8) S G (s_refuse l X h0 nw sp xa la lb fr (-2) H.size) gX10_seen_X10_refuse rfl rfl rfl hdV_X10_refuse ⟨Nat.le_of_ble_eq_true rfl, Nat.le_of_ble_eq_true rfl⟩ [0, 17] rfl rfl 0 rfl rfl rfl hl.1 (Nat.le_of_ble_eq_true rfl) dX10_seen_42 ⟨Nat.le_of_ble_eq_true rfl, Nat.le_of_ble_eq_true rfl⟩) (fun r_20 u_20 H locs hp_20 G => ?_)
    obtain ⟨f_20, rfl⟩ : ∃ z, z = u_20 := ⟨_, rfl⟩
    have hq_20 := hp_20
    have G : wd X (va_A (@HAppend.hAppend va_W va_W va_W _ (xW h0 nw sp xa la lb) (@HAppend.hAppend va_W va_W va_W _ (rcV X nw an sv dv n0 n1 n2 n3 n4 g0 gs gn gm) ([((xa 5), .inl (X.2.1, 3, .inl fr))]))) sz) (va_A (@HAppend.hAppend va_W va_W va_W _ (xW h0 nw sp xa la lb) (@HAppend.hAppend va_W va_W va_W _ (rcV X nw an sv dv n0 n1 n2 n3 n4 g0 gs gn gm) ([((xa 5), .inl (X.2.1, 3, .inl fr))]))) sz) s (@HAppend.hAppend va_W va_W va_W _ (rcV X nw an sv dv n0 n1 n2 n3 n4 g0 gs gn gm) (@HAppend.hAppend va_W va_W va_W _ (xW h0 nw sp xa la lb) ([((xa 5), .inl (X.2.1, 3, .inl f_20))]))) H locs := G
    have hzF : (r_20, n2) = appF (thP n0 x1 ∧ ((0 : Int32) ≤ x2 ∧ x2 ≤ 99) ∧ ((0 : Int32) ≤ x3 ∧ x3 ≤ 9) ∧ ((0 : Int32) ≤ x4 ∧ x4 ≤ 15)) 5 n2 := by rw [appF_n (fun h => hj_1 h.1), hq_20]
    exact e_int S zr zlk (vp_nar_int _) G (n2, gs, f_20) [16, 0, 1, 2, 3, 4, 5, 6, 7, 8, 9, 10, 11, 12, 13, 14, 15, 17] rfl rfl (Or.inr rfl) (⟨hI_n2, hzF⟩) dX10_seen_45
theorem in_X10_note_X10 : ∀ w ∈ wsX100, w ∈ wsX10_note := by decide +kernel
theorem lk_X10_note_10 : Cond.fieldLink RX10 10 "EggSpoons" "now" "LEggSpoons$Race;" ∈ wsX10_note := by decide +kernel
theorem in_X10_note_X5 : ∀ w ∈ wsX50, w ∈ wsX10_note := by decide +kernel
theorem lk_X10_note_212 : Cond.fieldLink RX10 212 "EggSpoons$Race" "noteRows" "LEggSpoons$Rows;" ∈ wsX10_note := by decide +kernel
theorem in_X10_note_X7 : ∀ w ∈ wsX70, w ∈ wsX10_note := by decide +kernel
theorem lk_X10_note_194 : Cond.fieldLink RX10 194 "EggSpoons$Rows" "size" "I" ∈ wsX10_note := by decide +kernel
set_option maxHeartbeats 4000000 in
set_option maxRecDepth 100000 in
/-- note -/
theorem s_note (l : Launch) (X : EX) (h0 : Nat) (nw : Nat) (sp : Nat) (xa : Nat → Nat) (la : Int64) (lb : Int64) (an : Nat → Nat) (sv : Nat → Int32) (dv : Nat → Int32) (n0 : Nat) (n1 : Nat) (n2 : Nat) (n3 : Nat) (n4 : Nat) (g0 : Nat → Int32) (gs : Nat → Int32) (gn : Nat → Int32) (gm : Nat → Int32) (fr : Nat → Int32) (x1 : Int32) (x2 : Int32) (x3 : Int32) (x4 : Int32) (x5 : Int32) (hI_n0 : n0 ≤ 6) (hI_n1 : n1 ≤ 8) (hI_n2 : n2 ≤ 5) (hI_n3 : n3 ≤ 6) (hI_n4 : n4 ≤ 6) (sz : Nat) : Met l yX10_note wsX10_note ({ frames := 1, cells := 0, slots := 0, locals := 26 } : Room) (pE X [.ref h0, .int x1, .int x2, .int x3, .int x4, .int x5] (@HAppend.hAppend va_W va_W va_W _ (xW h0 nw sp xa la lb) (@HAppend.hAppend va_W va_W va_W _ (rcV X nw an sv dv n0 n1 n2 n3 n4 g0 gs gn gm) ([((xa 5), .inl (X.2.1, 3, .inl fr))]))) sz) (qI (fun (r : Int32) (u : (Nat) × (Nat → Int32) × (Nat → Int32)) => u.1 ≤ 6 ∧ ((r, u.1) = appF (thP n0 x1 ∧ ((1 : Int32) ≤ x2 ∧ x2 ≤ 9) ∧ ((0 : Int32) ≤ x3 ∧ x3 ≤ 99) ∧ ((0 : Int32) ≤ x4 ∧ x4 ≤ 9) ∧ ((0 : Int32) ≤ x5 ∧ x5 ≤ 15)) 6 n3)) X (fun (u : (Nat) × (Nat → Int32) × (Nat → Int32)) => @HAppend.hAppend va_W va_W va_W _ (xW h0 nw sp xa la lb) (@HAppend.hAppend va_W va_W va_W _ (rcV X nw an sv dv n0 n1 n2 u.1 n4 g0 gs u.2.1 gm) ([((xa 5), .inl (X.2.1, 3, .inl u.2.2))]))) (@HAppend.hAppend va_W va_W va_W _ (xW h0 nw sp xa la lb) (@HAppend.hAppend va_W va_W va_W _ (rcV X nw an sv dv n0 n1 n2 n3 n4 g0 gs gn gm) ([((xa 5), .inl (X.2.1, 3, .inl fr))]))) sz) 0 0 (va_A (@HAppend.hAppend va_W va_W va_W _ (xW h0 nw sp xa la lb) (@HAppend.hAppend va_W va_W va_W _ (rcV X nw an sv dv n0 n1 n2 n3 n4 g0 gs gn gm) ([((xa 5), .inl (X.2.1, 3, .inl fr))]))) sz) := by
  refine mk_met (B := (va_A (@HAppend.hAppend va_W va_W va_W _ (xW h0 nw sp xa la lb) (@HAppend.hAppend va_W va_W va_W _ (rcV X nw an sv dv n0 n1 n2 n3 n4 g0 gs gn gm) ([((xa 5), .inl (X.2.1, 3, .inl fr))]))) sz)) (A := (va_A (@HAppend.hAppend va_W va_W va_W _ (xW h0 nw sp xa la lb) (@HAppend.hAppend va_W va_W va_W _ (rcV X nw an sv dv n0 n1 n2 n3 n4 g0 gs gn gm) ([((xa 5), .inl (X.2.1, 3, .inl fr))]))) sz)) (cc := cX10_note) (maxL := 6) (ret := (some .int)) (by decide) rfl (Nat.le_of_ble_eq_true rfl) k_w k_a (fun p e s m below meth c S zr zlk znm zsz G ls hl => ?_)
  have S : CallFix p m c cX10_note 6 s _ wsX10_note RX10 := S
  have zx := S.1
  have zb := S.2.1
  have hl : lv_has ls 6 [(0, .ref h0), (1, .int x1), (2, .int x2), (3, .int x3), (4, .int x4), (5, .int x5)] := hl
  refine lv_aload_n zx zb dX10_note_0 rfl (lv_at hl 0 rfl) ?_
  refine lv_iload_n zx zb dX10_note_1 rfl (lv_at hl 1 rfl) ?_
  refine o_ri (cells' := 0) (slots' := 0) G rfl rfl (n_V (As := [.int x1]) (rest := []) (C := RX10) (T := TX10) (N := 14) (ci := 8) S G (s_there l X h0 nw sp xa la lb an sv dv n0 n1 n2 n3 n4 g0 gs gn gm x1 hI_n0 hI_n1 hI_n2 hI_n3 hI_n4 s.heap.size) gX10_note_X10_there rfl rfl rfl hdV_X10_there ⟨Nat.le_of_ble_eq_true rfl, Nat.le_of_ble_eq_true rfl⟩ [0, 1, 2, 3, 4, 5, 6, 7, 8, 9, 10, 11, 12, 13, 14, 15, 16] rfl rfl 0 rfl rfl rfl hl.1 (Nat.le_of_ble_eq_true rfl) dX10_note_2 ⟨Nat.le_of_ble_eq_true rfl, Nat.le_of_ble_eq_true rfl⟩) (fun r_1 u_1 H locs hp_1 G => ?_)
  have G : wd X (va_A (@HAppend.hAppend va_W va_W va_W _ (xW h0 nw sp xa la lb) (@HAppend.hAppend va_W va_W va_W _ (rcV X nw an sv dv n0 n1 n2 n3 n4 g0 gs gn gm) ([((xa 5), .inl (X.2.1, 3, .inl fr))]))) sz) (va_A (@HAppend.hAppend va_W va_W va_W _ (xW h0 nw sp xa la lb) (@HAppend.hAppend va_W va_W va_W _ (rcV X nw an sv dv n0 n1 n2 n3 n4 g0 gs gn gm) ([((xa 5), .inl (X.2.1, 3, .inl fr))]))) sz) s (@HAppend.hAppend va_W va_W va_W _ (xW h0 nw sp xa la lb) (@HAppend.hAppend va_W va_W va_W _ (rcV X nw an sv dv n0 n1 n2 n3 n4 g0 gs gn gm) ([((xa 5), .inl (X.2.1, 3, .inl fr))]))) H locs := G
  rcases hp_1 with ⟨rfl, hj_1⟩ | ⟨rfl, hj_1⟩
  · obtain ⟨j_1, hj_1, rfl⟩ := hj_1
    refine lv_if_eq (tgt := 50) zx zb dX10_note_5 (by decide) (fun c_2 => absurd c_2 (by decide)) (fun c_2 => ?_)
    refine lv_iload_n zx zb dX10_note_8 rfl (lv_at hl 2 rfl) ?_
    refine lv_iconst (v := 1) zx zb dX10_note_9 (by decide) ?_
    refine lv_bipush (v := 9) zx zb dX10_note_10 (by decide) ?_
    refine o_ri (cells' := 0) (slots' := 0) G rfl rfl (n_S (As := [.int x2, .int 1, .int 9]) (rest := []) S G (s_within l X x2 1 9 H.size) gX10_note_X10_within rfl rfl rfl hdS_X10_within ⟨Nat.le_of_ble_eq_true rfl, Nat.le_of_ble_eq_true rfl⟩ [] rfl rfl rfl hl.1 (Nat.le_of_ble_eq_true rfl) dX10_note_12 ⟨Nat.le_of_ble_eq_true rfl, Nat.le_of_ble_eq_true rfl⟩) (fun r_3 u_3 H locs hp_3 G => ?_)
    have G : wd X (va_A (@HAppend.hAppend va_W va_W va_W _ (xW h0 nw sp xa la lb) (@HAppend.hAppend va_W va_W va_W _ (rcV X nw an sv dv n0 n1 n2 n3 n4 g0 gs gn gm) ([((xa 5), .inl (X.2.1, 3, .inl fr))]))) sz) (va_A (@HAppend.hAppend va_W va_W va_W _ (xW h0 nw sp xa la lb) (@HAppend.hAppend va_W va_W va_W _ (rcV X nw an sv dv n0 n1 n2 n3 n4 g0 gs gn gm) ([((xa 5), .inl (X.2.1, 3, .inl fr))]))) sz) s (@HAppend.hAppend va_W va_W va_W _ (xW h0 nw sp xa la lb) (@HAppend.hAppend va_W va_W va_W _ (rcV X nw an sv dv n0 n1 n2 n3 n4 g0 gs gn gm) ([((xa 5), .inl (X.2.1, 3, .inl fr))]))) H locs := G
    rcases hp_3 with ⟨rfl, hw_3⟩ | ⟨rfl, hw_3⟩
    · refine lv_if_eq (tgt := 50) zx zb dX10_note_15 (by decide) (fun c_4 => absurd c_4 (by decide)) (fun c_4 => ?_)
      refine lv_iload_n zx zb dX10_note_18 rfl (lv_at hl 3 rfl) ?_
      refine lv_iconst (v := 0) zx zb dX10_note_19 (by decide) ?_
      refine lv_bipush (v := 99) zx zb dX10_note_20 (by decide) ?_
      refine o_ri (cells' := 0) (slots' := 0) G rfl rfl (n_S (As := [.int x3, .int 0, .int 99]) (rest := []) S G (s_within l X x3 0 99 H.size) gX10_note_X10_within rfl rfl rfl hdS_X10_within ⟨Nat.le_of_ble_eq_true rfl, Nat.le_of_ble_eq_true rfl⟩ [] rfl rfl rfl hl.1 (Nat.le_of_ble_eq_true rfl) dX10_note_22 ⟨Nat.le_of_ble_eq_true rfl, Nat.le_of_ble_eq_true rfl⟩) (fun r_5 u_5 H locs hp_5 G => ?_)
      have G : wd X (va_A (@HAppend.hAppend va_W va_W va_W _ (xW h0 nw sp xa la lb) (@HAppend.hAppend va_W va_W va_W _ (rcV X nw an sv dv n0 n1 n2 n3 n4 g0 gs gn gm) ([((xa 5), .inl (X.2.1, 3, .inl fr))]))) sz) (va_A (@HAppend.hAppend va_W va_W va_W _ (xW h0 nw sp xa la lb) (@HAppend.hAppend va_W va_W va_W _ (rcV X nw an sv dv n0 n1 n2 n3 n4 g0 gs gn gm) ([((xa 5), .inl (X.2.1, 3, .inl fr))]))) sz) s (@HAppend.hAppend va_W va_W va_W _ (xW h0 nw sp xa la lb) (@HAppend.hAppend va_W va_W va_W _ (rcV X nw an sv dv n0 n1 n2 n3 n4 g0 gs gn gm) ([((xa 5), .inl (X.2.1, 3, .inl fr))]))) H locs := G
      rcases hp_5 with ⟨rfl, hw_5⟩ | ⟨rfl, hw_5⟩
      · refine lv_if_eq (tgt := 50) zx zb dX10_note_25 (by decide) (fun c_6 => absurd c_6 (by decide)) (fun c_6 => ?_)
        refine lv_iload zx zb dX10_note_28 (lv_at hl 4 rfl) ?_
        refine lv_iconst (v := 0) zx zb dX10_note_30 (by decide) ?_
        refine lv_bipush (v := 9) zx zb dX10_note_31 (by decide) ?_
        refine o_ri (cells' := 0) (slots' := 0) G rfl rfl (n_S (As := [.int x4, .int 0, .int 9]) (rest := []) S G (s_within l X x4 0 9 H.size) gX10_note_X10_within rfl rfl rfl hdS_X10_within ⟨Nat.le_of_ble_eq_true rfl, Nat.le_of_ble_eq_true rfl⟩ [] rfl rfl rfl hl.1 (Nat.le_of_ble_eq_true rfl) dX10_note_33 ⟨Nat.le_of_ble_eq_true rfl, Nat.le_of_ble_eq_true rfl⟩) (fun r_7 u_7 H locs hp_7 G => ?_)
        have G : wd X (va_A (@HAppend.hAppend va_W va_W va_W _ (xW h0 nw sp xa la lb) (@HAppend.hAppend va_W va_W va_W _ (rcV X nw an sv dv n0 n1 n2 n3 n4 g0 gs gn gm) ([((xa 5), .inl (X.2.1, 3, .inl fr))]))) sz) (va_A (@HAppend.hAppend va_W va_W va_W _ (xW h0 nw sp xa la lb) (@HAppend.hAppend va_W va_W va_W _ (rcV X nw an sv dv n0 n1 n2 n3 n4 g0 gs gn gm) ([((xa 5), .inl (X.2.1, 3, .inl fr))]))) sz) s (@HAppend.hAppend va_W va_W va_W _ (xW h0 nw sp xa la lb) (@HAppend.hAppend va_W va_W va_W _ (rcV X nw an sv dv n0 n1 n2 n3 n4 g0 gs gn gm) ([((xa 5), .inl (X.2.1, 3, .inl fr))]))) H locs := G
        rcases hp_7 with ⟨rfl, hw_7⟩ | ⟨rfl, hw_7⟩
        · refine lv_if_eq (tgt := 50) zx zb dX10_note_36 (by decide) (fun c_8 => absurd c_8 (by decide)) (fun c_8 => ?_)
          refine lv_iload zx zb dX10_note_39 (lv_at hl 5 rfl) ?_
          refine lv_iconst (v := 0) zx zb dX10_note_41 (by decide) ?_
          refine lv_bipush (v := 15) zx zb dX10_note_42 (by decide) ?_
          refine o_ri (cells' := 0) (slots' := 0) G rfl rfl (n_S (As := [.int x5, .int 0, .int 15]) (rest := []) S G (s_within l X x5 0 15 H.size) gX10_note_X10_within rfl rfl rfl hdS_X10_within ⟨Nat.le_of_ble_eq_true rfl, Nat.le_of_ble_eq_true rfl⟩ [] rfl rfl rfl hl.1 (Nat.le_of_ble_eq_true rfl) dX10_note_44 ⟨Nat.le_of_ble_eq_true rfl, Nat.le_of_ble_eq_true rfl⟩) (fun r_9 u_9 H locs hp_9 G => ?_)
          have G : wd X (va_A (@HAppend.hAppend va_W va_W va_W _ (xW h0 nw sp xa la lb) (@HAppend.hAppend va_W va_W va_W _ (rcV X nw an sv dv n0 n1 n2 n3 n4 g0 gs gn gm) ([((xa 5), .inl (X.2.1, 3, .inl fr))]))) sz) (va_A (@HAppend.hAppend va_W va_W va_W _ (xW h0 nw sp xa la lb) (@HAppend.hAppend va_W va_W va_W _ (rcV X nw an sv dv n0 n1 n2 n3 n4 g0 gs gn gm) ([((xa 5), .inl (X.2.1, 3, .inl fr))]))) sz) s (@HAppend.hAppend va_W va_W va_W _ (xW h0 nw sp xa la lb) (@HAppend.hAppend va_W va_W va_W _ (rcV X nw an sv dv n0 n1 n2 n3 n4 g0 gs gn gm) ([((xa 5), .inl (X.2.1, 3, .inl fr))]))) H locs := G
          rcases hp_9 with ⟨rfl, hw_9⟩ | ⟨rfl, hw_9⟩
          · refine lv_if_ne (tgt := 57) zx zb dX10_note_47 (by decide) (fun c_10 => ?_) (fun c_10 => absurd c_10 (by decide))
            refine lv_aload_n zx zb dX10_note_57 rfl (lv_at hl 0 rfl) ?_
            refine r_get (C := RX10) (T := TX10) (N := 14) (ci := 8) (v := .ref nw) S in_X10_note_X10 G 0 rfl rfl 0 (by decide) lk_X10_note_10 rfl dX10_note_58 ?_
            refine r_get (C := RX5) (T := TX5) (N := 8) (ci := 3) (v := .ref (an 11)) S in_X10_note_X5 G 1 rfl rfl 6 (by decide) lk_X10_note_212 rfl dX10_note_61 ?_
            refine lv_iload_n zx zb dX10_note_64 rfl (lv_at hl 1 rfl) ?_
            refine lv_iload_n zx zb dX10_note_65 rfl (lv_at hl 2 rfl) ?_
            refine lv_iload_n zx zb dX10_note_66 rfl (lv_at hl 3 rfl) ?_
            refine lv_iload zx zb dX10_note_67 (lv_at hl 4 rfl) ?_
            refine lv_iload zx zb dX10_note_69 (lv_at hl 5 rfl) ?_
            refine b_wi (cells' := 0) (slots' := 0) (wr := @HAppend.hAppend va_W va_W va_W _ (xW h0 nw sp xa la lb) (@HAppend.hAppend va_W va_W va_W _ ([(nw, .inr (3, [.int (dv 0), .int (dv 1), .int (nI n0), .ref (an 0), .ref (an 7), .ref (an 9), .ref (an 11), .ref (an 13)])), ((an 0), .inl (X.2.2.2.2, 6, .inr (.inr (.inr (.inr (rowQ an)))))), ((an 1), .inr (6, [.int (sv 0), .int (sv 1), .int (sv 2), .int (dv 10), .int (dv 11), .int (dv 12), .int (dv 13), .int (dv 14)])), ((an 2), .inr (6, [.int (sv 3), .int (sv 4), .int (sv 5), .int (dv 15), .int (dv 16), .int (dv 17), .int (dv 18), .int (dv 19)])), ((an 3), .inr (6, [.int (sv 6), .int (sv 7), .int (sv 8), .int (dv 20), .int (dv 21), .int (dv 22), .int (dv 23), .int (dv 24)])), ((an 4), .inr (6, [.int (sv 9), .int (sv 10), .int (sv 11), .int (dv 25), .int (dv 26), .int (dv 27), .int (dv 28), .int (dv 29)])), ((an 5), .inr (6, [.int (sv 12), .int (sv 13), .int (sv 14), .int (dv 30), .int (dv 31), .int (dv 32), .int (dv 33), .int (dv 34)])), ((an 6), .inr (6, [.int (sv 15), .int (sv 16), .int (sv 17), .int (dv 35), .int (dv 36), .int (dv 37), .int (dv 38), .int (dv 39)])), ((an 7), .inr (2, [.ref (an 8), .int (nI n1)])), ((an 8), .inl (X.2.1, 248, .inl g0)), ((an 9), .inr (5, [.int 5, .int 0, .int 1, .ref (an 10), .int (nI n2)])), ((an 10), .inl (X.2.1, 25, .inl gs)), ((an 13), .inr (5, [.int 6, .int 0, .int 0, .ref (an 14), .int (nI n4)])), ((an 14), .inl (X.2.1, 30, .inl gm))]) ([((xa 5), .inl (X.2.1, 3, .inl fr))]))) G rfl rfl [13, 14] [0, 1, 2, 3, 4, 5, 6, 7, 8, 9, 10, 11, 12, 15, 16, 17] rfl rfl rfl rfl (n_V (As := [.int (nI j_1), .int x2, .int x3, .int x4, .int x5]) (rest := []) (C := RX7) (T := TX7) (N := 5) (ci := 5) S G (s_append1 l X (an 11) (an 12) n3 gn (nI j_1) x2 x3 x4 x5 hI_n3 H.size) gX10_note_X7_append rfl rfl rfl hdV_X7_append ⟨Nat.le_of_ble_eq_true rfl, Nat.le_of_ble_eq_true rfl⟩ [13, 14] rfl rfl 13 rfl rfl rfl hl.1 (Nat.le_of_ble_eq_true rfl) dX10_note_71 ⟨Nat.le_of_ble_eq_true rfl, Nat.le_of_ble_eq_true rfl⟩) (fun r_11 u_11 H locs hp_11 G => ?_)
            obtain ⟨n_11a, f_11b⟩ := u_11
            try dsimp only at hp_11
            obtain ⟨hI_n_11a, hq_11⟩ := hp_11
            have G : wd X (va_A (@HAppend.hAppend va_W va_W va_W _ (xW h0 nw sp xa la lb) (@HAppend.hAppend va_W va_W va_W _ (rcV X nw an sv dv n0 n1 n2 n3 n4 g0 gs gn gm) ([((xa 5), .inl (X.2.1, 3, .inl fr))]))) sz) (va_A (@HAppend.hAppend va_W va_W va_W _ (xW h0 nw sp xa la lb) (@HAppend.hAppend va_W va_W va_W _ (rcV X nw an sv dv n0 n1 n2 n3 n4 g0 gs gn gm) ([((xa 5), .inl (X.2.1, 3, .inl fr))]))) sz) s (@HAppend.hAppend va_W va_W va_W _ (xW h0 nw sp xa la lb) (@HAppend.hAppend va_W va_W va_W _ (rcV X nw an sv dv n0 n1 n2 n_11a n4 g0 gs f_11b gm) ([((xa 5), .inl (X.2.1, 3, .inl fr))]))) H locs := wd_sub G [0, 1, 2, 3, 4, 5, 6, 7, 8, 9, 10, 11, 12, 16, 17, 13, 14, 15] rfl rfl
            rcases hq_11 with ⟨rfl, ha_11, hn_11⟩ | ⟨rfl, ha_11, hn_11⟩
            · refine lv_if_eq (tgt := 90) zx zb dX10_note_74 (by decide) (fun c_12 => ?_) (fun c_12 => absurd (by decide) c_12)
              refine lv_aload_n zx zb dX10_note_90 rfl (lv_at hl 0 rfl) ?_
              refine lv_bipush (v := (-4)) zx zb dX10_note_91 (by decide) ?_
              refine b_wi (cells' := 0) (slots' := 0) (wr := rcV X nw an sv dv n0 n1 n2 n_11a n4 g0 gs f_11b gm) G rfl rfl [0, 17] [1, 2, 3, 4, 5, 6, 7, 8, 9, 10, 11, 12, 13, 14, 15, 16] rfl rfl rfl rfl (n_V (As := [.int (-4)]) (rest := []) (C := RX10) (T := TX10) (N := 14) (ci := 8) S G (s_refuse l X h0 nw sp xa la lb fr (-4) H.size) gX10_note_X10_refuse rfl rfl rfl hdV_X10_refuse ⟨Nat.le_of_ble_eq_true rfl, Nat.le_of_ble_eq_true rfl⟩ [0, 17] rfl rfl 0 rfl rfl rfl hl.1 (Nat.le_of_ble_eq_true rfl) dX10_note_93 ⟨Nat.le_of_ble_eq_true rfl, Nat.le_of_ble_eq_true rfl⟩) (fun r_13 u_13 H locs hp_13 G => ?_)
              obtain ⟨f_13, rfl⟩ : ∃ z, z = u_13 := ⟨_, rfl⟩
              have hq_13 := hp_13
              have G : wd X (va_A (@HAppend.hAppend va_W va_W va_W _ (xW h0 nw sp xa la lb) (@HAppend.hAppend va_W va_W va_W _ (rcV X nw an sv dv n0 n1 n2 n3 n4 g0 gs gn gm) ([((xa 5), .inl (X.2.1, 3, .inl fr))]))) sz) (va_A (@HAppend.hAppend va_W va_W va_W _ (xW h0 nw sp xa la lb) (@HAppend.hAppend va_W va_W va_W _ (rcV X nw an sv dv n0 n1 n2 n3 n4 g0 gs gn gm) ([((xa 5), .inl (X.2.1, 3, .inl fr))]))) sz) s (@HAppend.hAppend va_W va_W va_W _ (rcV X nw an sv dv n0 n1 n2 n_11a n4 g0 gs f_11b gm) (@HAppend.hAppend va_W va_W va_W _ (xW h0 nw sp xa la lb) ([((xa 5), .inl (X.2.1, 3, .inl f_13))]))) H locs := G
              have hzF : (r_13, n_11a) = appF (thP n0 (nI j_1) ∧ ((1 : Int32) ≤ x2 ∧ x2 ≤ 9) ∧ ((0 : Int32) ≤ x3 ∧ x3 ≤ 99) ∧ ((0 : Int32) ≤ x4 ∧ x4 ≤ 9) ∧ ((0 : Int32) ≤ x5 ∧ x5 ≤ 15)) 6 n3 := by rw [appF_f ⟨⟨_, hj_1, rfl⟩, hw_3, hw_5, hw_7, hw_9⟩ (by omega), hq_13, show n_11a = n3 from by omega]
              exact e_int S zr zlk (vp_nar_int _) G (n_11a, f_11b, f_13) [16, 0, 1, 2, 3, 4, 5, 6, 7, 8, 9, 10, 11, 12, 13, 14, 15, 17] rfl rfl (Or.inr rfl) (⟨hI_n_11a, hzF⟩) dX10_note_96
            · refine lv_if_eq (tgt := 90) zx zb dX10_note_74 (by decide) (fun c_14 => absurd c_14 (by decide)) (fun c_14 => ?_)
              refine lv_aload_n zx zb dX10_note_77 rfl (lv_at hl 0 rfl) ?_
              refine r_get (C := RX10) (T := TX10) (N := 14) (ci := 8) (v := .ref nw) S in_X10_note_X10 G 0 rfl rfl 0 (by decide) lk_X10_note_10 rfl dX10_note_78 ?_
              refine r_get (C := RX5) (T := TX5) (N := 8) (ci := 3) (v := .ref (an 11)) S in_X10_note_X5 G 1 rfl rfl 6 (by decide) lk_X10_note_212 rfl dX10_note_81 ?_
              refine r_get (C := RX7) (T := TX7) (N := 5) (ci := 5) (v := .int (nI n_11a)) S in_X10_note_X7 G 13 rfl rfl 4 (by decide) lk_X10_note_194 rfl dX10_note_84 ?_
              refine lv_goto (tgt := 96) zx zb dX10_note_87 (by decide) ?_
              have hzF : ((nI n_11a), n_11a) = appF (thP n0 (nI j_1) ∧ ((1 : Int32) ≤ x2 ∧ x2 ≤ 9) ∧ ((0 : Int32) ≤ x3 ∧ x3 ≤ 99) ∧ ((0 : Int32) ≤ x4 ∧ x4 ≤ 9) ∧ ((0 : Int32) ≤ x5 ∧ x5 ≤ 15)) 6 n3 := by rw [appF_p ⟨⟨_, hj_1, rfl⟩, hw_3, hw_5, hw_7, hw_9⟩ (by omega), show n_11a = n3 + 1 from by omega]
              exact e_int S zr zlk (vp_nar_int _) G (n_11a, f_11b, fr) [0, 1, 2, 3, 4, 5, 6, 7, 8, 9, 10, 11, 12, 13, 14, 15, 16, 17] rfl rfl (Or.inr rfl) (⟨hI_n_11a, hzF⟩) dX10_note_96
          · refine lv_if_ne (tgt := 57) zx zb dX10_note_47 (by decide) (fun c_15 => absurd (by decide) c_15) (fun c_15 => ?_)
            refine lv_aload_n zx zb dX10_note_50 rfl (lv_at hl 0 rfl) ?_
            refine lv_bipush (v := (-2)) zx zb dX10_note_51 (by decide) ?_
            refine b_wi (cells' := 0) (slots' := 0) (wr := rcV X nw an sv dv n0 n1 n2 n3 n4 g0 gs gn gm) G rfl rfl [0, 17] [1, 2, 3, 4, 5, 6, 7, 8, 9, 10, 11, 12, 13, 14, 15, 16] rfl rfl rfl rfl (n_V (As := [.int (-2)]) (rest := []) (C := RX10) (T := TX10) (N := 14) (ci := 8) S G (s_refuse l X h0 nw sp xa la lb fr (-2) H.size) gX10_note_X10_refuse rfl rfl rfl hdV_X10_refuse ⟨Nat.le_of_ble_eq_true rfl, Nat.le_of_ble_eq_true rfl⟩ [0, 17] rfl rfl 0 rfl rfl rfl hl.1 (Nat.le_of_ble_eq_true rfl) dX10_note_53 ⟨Nat.le_of_ble_eq_true rfl, Nat.le_of_ble_eq_true rfl⟩) (fun r_16 u_16 H locs hp_16 G => ?_)
            obtain ⟨f_16, rfl⟩ : ∃ z, z = u_16 := ⟨_, rfl⟩
            have hq_16 := hp_16
            have G : wd X (va_A (@HAppend.hAppend va_W va_W va_W _ (xW h0 nw sp xa la lb) (@HAppend.hAppend va_W va_W va_W _ (rcV X nw an sv dv n0 n1 n2 n3 n4 g0 gs gn gm) ([((xa 5), .inl (X.2.1, 3, .inl fr))]))) sz) (va_A (@HAppend.hAppend va_W va_W va_W _ (xW h0 nw sp xa la lb) (@HAppend.hAppend va_W va_W va_W _ (rcV X nw an sv dv n0 n1 n2 n3 n4 g0 gs gn gm) ([((xa 5), .inl (X.2.1, 3, .inl fr))]))) sz) s (@HAppend.hAppend va_W va_W va_W _ (rcV X nw an sv dv n0 n1 n2 n3 n4 g0 gs gn gm) (@HAppend.hAppend va_W va_W va_W _ (xW h0 nw sp xa la lb) ([((xa 5), .inl (X.2.1, 3, .inl f_16))]))) H locs := G
            have hzF : (r_16, n3) = appF (thP n0 (nI j_1) ∧ ((1 : Int32) ≤ x2 ∧ x2 ≤ 9) ∧ ((0 : Int32) ≤ x3 ∧ x3 ≤ 99) ∧ ((0 : Int32) ≤ x4 ∧ x4 ≤ 9) ∧ ((0 : Int32) ≤ x5 ∧ x5 ≤ 15)) 6 n3 := by rw [appF_n (fun h => hw_9 h.2.2.2.2), hq_16]
            exact e_int S zr zlk (vp_nar_int _) G (n3, gn, f_16) [16, 0, 1, 2, 3, 4, 5, 6, 7, 8, 9, 10, 11, 12, 13, 14, 15, 17] rfl rfl (Or.inr rfl) (⟨hI_n3, hzF⟩) dX10_note_56
        · refine lv_if_eq (tgt := 50) zx zb dX10_note_36 (by decide) (fun c_17 => ?_) (fun c_17 => absurd (by decide) c_17)
          refine lv_aload_n zx zb dX10_note_50 rfl (lv_at hl 0 rfl) ?_
          refine lv_bipush (v := (-2)) zx zb dX10_note_51 (by decide) ?_
          refine b_wi (cells' := 0) (slots' := 0) (wr := rcV X nw an sv dv n0 n1 n2 n3 n4 g0 gs gn gm) G rfl rfl [0, 17] [1, 2, 3, 4, 5, 6, 7, 8, 9, 10, 11, 12, 13, 14, 15, 16] rfl rfl rfl rfl (n_V (As := [.int (-2)]) (rest := []) (C := RX10) (T := TX10) (N := 14) (ci := 8) S G (s_refuse l X h0 nw sp xa la lb fr (-2) H.size) gX10_note_X10_refuse rfl rfl rfl hdV_X10_refuse ⟨Nat.le_of_ble_eq_true rfl, Nat.le_of_ble_eq_true rfl⟩ [0, 17] rfl rfl 0 rfl rfl rfl hl.1 (Nat.le_of_ble_eq_true rfl) dX10_note_53 ⟨Nat.le_of_ble_eq_true rfl, Nat.le_of_ble_eq_true rfl⟩) (fun r_18 u_18 H locs hp_18 G => ?_)
          obtain ⟨f_18, rfl⟩ : ∃ z, z = u_18 := ⟨_, rfl⟩
          have hq_18 := hp_18
          have G : wd X (va_A (@HAppend.hAppend va_W va_W va_W _ (xW h0 nw sp xa la lb) (@HAppend.hAppend va_W va_W va_W _ (rcV X nw an sv dv n0 n1 n2 n3 n4 g0 gs gn gm) ([((xa 5), .inl (X.2.1, 3, .inl fr))]))) sz) (va_A (@HAppend.hAppend va_W va_W va_W _ (xW h0 nw sp xa la lb) (@HAppend.hAppend va_W va_W va_W _ (rcV X nw an sv dv n0 n1 n2 n3 n4 g0 gs gn gm) ([((xa 5), .inl (X.2.1, 3, .inl fr))]))) sz) s (@HAppend.hAppend va_W va_W va_W _ (rcV X nw an sv dv n0 n1 n2 n3 n4 g0 gs gn gm) (@HAppend.hAppend va_W va_W va_W _ (xW h0 nw sp xa la lb) ([((xa 5), .inl (X.2.1, 3, .inl f_18))]))) H locs := G
          have hzF : (r_18, n3) = appF (thP n0 (nI j_1) ∧ ((1 : Int32) ≤ x2 ∧ x2 ≤ 9) ∧ ((0 : Int32) ≤ x3 ∧ x3 ≤ 99) ∧ ((0 : Int32) ≤ x4 ∧ x4 ≤ 9) ∧ ((0 : Int32) ≤ x5 ∧ x5 ≤ 15)) 6 n3 := by rw [appF_n (fun h => hw_7 h.2.2.2.1), hq_18]
          exact e_int S zr zlk (vp_nar_int _) G (n3, gn, f_18) [16, 0, 1, 2, 3, 4, 5, 6, 7, 8, 9, 10, 11, 12, 13, 14, 15, 17] rfl rfl (Or.inr rfl) (⟨hI_n3, hzF⟩) dX10_note_56
      · refine lv_if_eq (tgt := 50) zx zb dX10_note_25 (by decide) (fun c_19 => ?_) (fun c_19 => absurd (by decide) c_19)
        refine lv_aload_n zx zb dX10_note_50 rfl (lv_at hl 0 rfl) ?_
        refine lv_bipush (v := (-2)) zx zb dX10_note_51 (by decide) ?_
        refine b_wi (cells' := 0) (slots' := 0) (wr := rcV X nw an sv dv n0 n1 n2 n3 n4 g0 gs gn gm) G rfl rfl [0, 17] [1, 2, 3, 4, 5, 6, 7, 8, 9, 10, 11, 12, 13, 14, 15, 16] rfl rfl rfl rfl (n_V (As := [.int (-2)]) (rest := []) (C := RX10) (T := TX10) (N := 14) (ci := 8) S G (s_refuse l X h0 nw sp xa la lb fr (-2) H.size) gX10_note_X10_refuse rfl rfl rfl hdV_X10_refuse ⟨Nat.le_of_ble_eq_true rfl, Nat.le_of_ble_eq_true rfl⟩ [0, 17] rfl rfl 0 rfl rfl rfl hl.1 (Nat.le_of_ble_eq_true rfl) dX10_note_53 ⟨Nat.le_of_ble_eq_true rfl, Nat.le_of_ble_eq_true rfl⟩) (fun r_20 u_20 H locs hp_20 G => ?_)
        obtain ⟨f_20, rfl⟩ : ∃ z, z = u_20 := ⟨_, rfl⟩
        have hq_20 := hp_20
        have G : wd X (va_A (@HAppend.hAppend va_W va_W va_W _ (xW h0 nw sp xa la lb) (@HAppend.hAppend va_W va_W va_W _ (rcV X nw an sv dv n0 n1 n2 n3 n4 g0 gs gn gm) ([((xa 5), .inl (X.2.1, 3, .inl fr))]))) sz) (va_A (@HAppend.hAppend va_W va_W va_W _ (xW h0 nw sp xa la lb) (@HAppend.hAppend va_W va_W va_W _ (rcV X nw an sv dv n0 n1 n2 n3 n4 g0 gs gn gm) ([((xa 5), .inl (X.2.1, 3, .inl fr))]))) sz) s (@HAppend.hAppend va_W va_W va_W _ (rcV X nw an sv dv n0 n1 n2 n3 n4 g0 gs gn gm) (@HAppend.hAppend va_W va_W va_W _ (xW h0 nw sp xa la lb) ([((xa 5), .inl (X.2.1, 3, .inl f_20))]))) H locs := G
        have hzF : (r_20, n3) = appF (thP n0 (nI j_1) ∧ ((1 : Int32) ≤ x2 ∧ x2 ≤ 9) ∧ ((0 : Int32) ≤ x3 ∧ x3 ≤ 99) ∧ ((0 : Int32) ≤ x4 ∧ x4 ≤ 9) ∧ ((0 : Int32) ≤ x5 ∧ x5 ≤ 15)) 6 n3 := by rw [appF_n (fun h => hw_5 h.2.2.1), hq_20]
        exact e_int S zr zlk (vp_nar_int _) G (n3, gn, f_20) [16, 0, 1, 2, 3, 4, 5, 6, 7, 8, 9, 10, 11, 12, 13, 14, 15, 17] rfl rfl (Or.inr rfl) (⟨hI_n3, hzF⟩) dX10_note_56
    · refine lv_if_eq (tgt := 50) zx zb dX10_note_15 (by decide) (fun c_21 => ?_) (fun c_21 => absurd (by decide) c_21)
      refine lv_aload_n zx zb dX10_note_50 rfl (lv_at hl 0 rfl) ?_
      refine lv_bipush (v := (-2)) zx zb dX10_note_51 (by decide) ?_
      refine b_wi (cells' := 0) (slots' := 0) (wr := rcV X nw an sv dv n0 n1 n2 n3 n4 g0 gs gn gm) G rfl rfl [0, 17] [1, 2, 3, 4, 5, 6, 7, 8, 9, 10, 11, 12, 13, 14, 15, 16] rfl rfl rfl rfl (n_V (As := [.int (-2)]) (rest := []) (C := RX10) (T := TX10) (N := 14) (ci := 8) S G (s_refuse l X h0 nw sp xa la lb fr (-2) H.size) gX10_note_X10_refuse rfl rfl rfl hdV_X10_refuse ⟨Nat.le_of_ble_eq_true rfl, Nat.le_of_ble_eq_true rfl⟩ [0, 17] rfl rfl 0 rfl rfl rfl hl.1 (Nat.le_of_ble_eq_true rfl) dX10_note_53 ⟨Nat.le_of_ble_eq_true rfl, Nat.le_of_ble_eq_true rfl⟩) (fun r_22 u_22 H locs hp_22 G => ?_)
      obtain ⟨f_22, rfl⟩ : ∃ z, z = u_22 := ⟨_, rfl⟩
      have hq_22 := hp_22
      have G : wd X (va_A (@HAppend.hAppend va_W va_W va_W _ (xW h0 nw sp xa la lb) (@HAppend.hAppend va_W va_W va_W _ (rcV X nw an sv dv n0 n1 n2 n3 n4 g0 gs gn gm) ([((xa 5), .inl (X.2.1, 3, .inl fr))]))) sz) (va_A (@HAppend.hAppend va_W va_W va_W _ (xW h0 nw sp xa la lb) (@HAppend.hAppend va_W va_W va_W _ (rcV X nw an sv dv n0 n1 n2 n3 n4 g0 gs gn gm) ([((xa 5), .inl (X.2.1, 3, .inl fr))]))) sz) s (@HAppend.hAppend va_W va_W va_W _ (rcV X nw an sv dv n0 n1 n2 n3 n4 g0 gs gn gm) (@HAppend.hAppend va_W va_W va_W _ (xW h0 nw sp xa la lb) ([((xa 5), .inl (X.2.1, 3, .inl f_22))]))) H locs := G
      have hzF : (r_22, n3) = appF (thP n0 (nI j_1) ∧ ((1 : Int32) ≤ x2 ∧ x2 ≤ 9) ∧ ((0 : Int32) ≤ x3 ∧ x3 ≤ 99) ∧ ((0 : Int32) ≤ x4 ∧ x4 ≤ 9) ∧ ((0 : Int32) ≤ x5 ∧ x5 ≤ 15)) 6 n3 := by rw [appF_n (fun h => hw_3 h.2.1), hq_22]
      exact e_int S zr zlk (vp_nar_int _) G (n3, gn, f_22) [16, 0, 1, 2, 3, 4, 5, 6, 7, 8, 9, 10, 11, 12, 13, 14, 15, 17] rfl rfl (Or.inr rfl) (⟨hI_n3, hzF⟩) dX10_note_56
  · refine lv_if_eq (tgt := 50) zx zb dX10_note_5 (by decide) (fun c_23 => ?_) (fun c_23 => absurd (by decide) c_23)
    refine lv_aload_n zx zb dX10_note_50 rfl (lv_at hl 0 rfl) ?_
    refine lv_bipush (v := (-2)) zx zb dX10_note_51 (by decide) ?_
    refine b_wi (cells' := 0) (slots' := 0) (wr := rcV X nw an sv dv n0 n1 n2 n3 n4 g0 gs gn gm) G rfl rfl [0, 17] [1, 2, 3, 4, 5, 6, 7, 8, 9, 10, 11, 12, 13, 14, 15, 16] rfl rfl rfl rfl (n_V (As := [.int (-2)]) (rest := []) (C := RX10) (T := TX10) (N := 14) (ci := 8) S G (s_refuse l X h0 nw sp xa la lb fr (-2) H.size) gX10_note_X10_refuse rfl rfl rfl hdV_X10_refuse ⟨Nat.le_of_ble_eq_true rfl, Nat.le_of_ble_eq_true rfl⟩ [0, 17] rfl rfl 0 rfl rfl rfl hl.1 (Nat.le_of_ble_eq_true rfl) dX10_note_53 ⟨Nat.le_of_ble_eq_true rfl, Nat.le_of_ble_eq_true rfl⟩) (fun r_24 u_24 H locs hp_24 G => ?_)
    obtain ⟨f_24, rfl⟩ : ∃ z, z = u_24 := ⟨_, rfl⟩
    have hq_24 := hp_24
    have G : wd X (va_A (@HAppend.hAppend va_W va_W va_W _ (xW h0 nw sp xa la lb) (@HAppend.hAppend va_W va_W va_W _ (rcV X nw an sv dv n0 n1 n2 n3 n4 g0 gs gn gm) ([((xa 5), .inl (X.2.1, 3, .inl fr))]))) sz) (va_A (@HAppend.hAppend va_W va_W va_W _ (xW h0 nw sp xa la lb) (@HAppend.hAppend va_W va_W va_W _ (rcV X nw an sv dv n0 n1 n2 n3 n4 g0 gs gn gm) ([((xa 5), .inl (X.2.1, 3, .inl fr))]))) sz) s (@HAppend.hAppend va_W va_W va_W _ (rcV X nw an sv dv n0 n1 n2 n3 n4 g0 gs gn gm) (@HAppend.hAppend va_W va_W va_W _ (xW h0 nw sp xa la lb) ([((xa 5), .inl (X.2.1, 3, .inl f_24))]))) H locs := G
    have hzF : (r_24, n3) = appF (thP n0 x1 ∧ ((1 : Int32) ≤ x2 ∧ x2 ≤ 9) ∧ ((0 : Int32) ≤ x3 ∧ x3 ≤ 99) ∧ ((0 : Int32) ≤ x4 ∧ x4 ≤ 9) ∧ ((0 : Int32) ≤ x5 ∧ x5 ≤ 15)) 6 n3 := by rw [appF_n (fun h => hj_1 h.1), hq_24]
    exact e_int S zr zlk (vp_nar_int _) G (n3, gn, f_24) [16, 0, 1, 2, 3, 4, 5, 6, 7, 8, 9, 10, 11, 12, 13, 14, 15, 17] rfl rfl (Or.inr rfl) (⟨hI_n3, hzF⟩) dX10_note_56
