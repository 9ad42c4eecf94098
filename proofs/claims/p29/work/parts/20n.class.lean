set_option maxRecDepth 20000 in
theorem ggX10_farBy_X1_limit : GoodIn wsX10_farBy wsX1_limit := goodIn_r _ [10] rfl (by decide +kernel)
set_option maxRecDepth 20000 in
theorem gX10_farBy_X1_limit : GoodIn wsX10_farBy (va_wsS RX10 331 yX1_limit wsX1_limit) := goodIn_app (goodIn_of _ (by decide +kernel)) ggX10_farBy_X1_limit
set_option maxRecDepth 20000 in
theorem ggX10_farBy_X2_reach : GoodIn wsX10_farBy wsX2_reach := goodIn_r _ [6] rfl (by decide +kernel)
set_option maxRecDepth 20000 in
theorem gX10_farBy_X2_reach : GoodIn wsX10_farBy (va_wsS RX10 323 yX2_reach wsX2_reach) := goodIn_app (goodIn_of _ (by decide +kernel)) ggX10_farBy_X2_reach
set_option maxRecDepth 20000 in
theorem ggX10_from_X10_refuse : GoodIn wsX10_from wsX10_refuse := goodIn_r _ [11, 12, 66, 67, 68, 69, 70, 71, 72, 73, 74, 75, 76, 77, 78, 79] rfl (by decide +kernel)
set_option maxRecDepth 20000 in
theorem gX10_from_X10_refuse : GoodIn wsX10_from (wsV RX10 83 RX10 yX10_refuse wsX10_refuse) := goodIn_app (goodIn_of _ (by decide +kernel)) ggX10_from_X10_refuse
set_option maxRecDepth 20000 in
theorem ggX10_from_X10_within : GoodIn wsX10_from wsX10_within := goodIn_r _ [7] rfl (by decide +kernel)
set_option maxRecDepth 20000 in
theorem gX10_from_X10_within : GoodIn wsX10_from (va_wsS RX10 79 yX10_within wsX10_within) := goodIn_app (goodIn_of _ (by decide +kernel)) ggX10_from_X10_within
set_option maxRecDepth 20000 in
theorem ggX10_from_X5_copyFrom : GoodIn wsX10_from wsX5_copyFrom := goodIn_r _ [17, 18, 19, 20, 21, 22, 23, 24, 16, 25, 26, 27, 28, 29, 30, 31, 32, 33, 34, 35, 36, 37, 38, 39, 40, 41, 42, 43, 44, 45, 46, 47, 48, 49, 50, 51, 52, 53, 54, 55, 56, 57, 58, 59, 60, 61, 62, 63, 64, 65, 80, 81, 82, 83, 84, 85, 86, 87, 88, 89, 90, 91, 92, 93, 94, 95, 96, 97, 98, 99, 100, 101, 102] rfl (by decide +kernel)
set_option maxRecDepth 20000 in
theorem gX10_from_X5_copyFrom : GoodIn wsX10_from (wsV RX10 274 RX5 yX5_copyFrom wsX5_copyFrom) := goodIn_app (goodIn_of _ (by decide +kernel)) ggX10_from_X5_copyFrom
set_option maxRecDepth 20000 in
theorem ggX10_image_X10_refuse : GoodIn wsX10_image wsX10_refuse := goodIn_r _ [11, 12, 66, 67, 68, 69, 70, 71, 72, 73, 74, 75, 76, 77, 78, 79] rfl (by decide +kernel)
set_option maxRecDepth 20000 in
theorem gX10_image_X10_refuse : GoodIn wsX10_image (wsV RX10 83 RX10 yX10_refuse wsX10_refuse) := goodIn_app (goodIn_of _ (by decide +kernel)) ggX10_image_X10_refuse
set_option maxRecDepth 20000 in
theorem ggX10_image_X10_within : GoodIn wsX10_image wsX10_within := goodIn_r _ [7] rfl (by decide +kernel)
set_option maxRecDepth 20000 in
theorem gX10_image_X10_within : GoodIn wsX10_image (va_wsS RX10 79 yX10_within wsX10_within) := goodIn_app (goodIn_of _ (by decide +kernel)) ggX10_image_X10_within
set_option maxRecDepth 20000 in
theorem ggX10_image_X5_copyFrom : GoodIn wsX10_image wsX5_copyFrom := goodIn_r _ [17, 18, 19, 20, 21, 22, 23, 24, 16, 25, 26, 27, 28, 29, 30, 31, 32, 33, 34, 35, 36, 37, 38, 39, 40, 41, 42, 43, 44, 45, 46, 47, 48, 49, 50, 51, 52, 53, 54, 55, 56, 57, 58, 59, 60, 61, 62, 63, 64, 65, 80, 81, 82, 83, 84, 85, 86, 87, 88, 89, 90, 91, 92, 93, 94, 95, 96, 97, 98, 99, 100, 101, 102] rfl (by decide +kernel)
set_option maxRecDepth 20000 in
theorem gX10_image_X5_copyFrom : GoodIn wsX10_image (wsV RX10 274 RX5 yX5_copyFrom wsX5_copyFrom) := goodIn_app (goodIn_of _ (by decide +kernel)) ggX10_image_X5_copyFrom
set_option maxRecDepth 20000 in
theorem ggX10_mostAlike_X10_farBy : GoodIn wsX10_mostAlike wsX10_farBy := goodIn_r _ [16, 17, 18, 19, 20, 21, 22, 23, 24, 25, 26, 51, 52, 53, 54, 55, 56, 57, 58] rfl (by decide +kernel)
set_option maxRecDepth 20000 in
theorem gX10_mostAlike_X10_farBy : GoodIn wsX10_mostAlike (va_wsS RX10 311 yX10_farBy wsX10_farBy) := goodIn_app (goodIn_of _ (by decide +kernel)) ggX10_mostAlike_X10_farBy
set_option maxRecDepth 20000 in
theorem ggX10_mostAlike_X10_hasBit : GoodIn wsX10_mostAlike wsX10_hasBit := goodIn_r _ [13] rfl (by decide +kernel)
set_option maxRecDepth 20000 in
theorem gX10_mostAlike_X10_hasBit : GoodIn wsX10_mostAlike (va_wsS RX10 205 yX10_hasBit wsX10_hasBit) := goodIn_app (goodIn_of _ (by decide +kernel)) ggX10_mostAlike_X10_hasBit
set_option maxRecDepth 20000 in
theorem ggX10_mostAlike_X9_restart : GoodIn wsX10_mostAlike wsX9_restart := goodIn_r _ [7, 8, 9, 49, 50] rfl (by decide +kernel)
set_option maxRecDepth 20000 in
theorem gX10_mostAlike_X9_restart : GoodIn wsX10_mostAlike (wsV RX10 309 RX9 yX9_restart wsX9_restart) := goodIn_app (goodIn_of _ (by decide +kernel)) ggX10_mostAlike_X9_restart
set_option maxRecDepth 20000 in
theorem ggX10_mostAlike_X9_see : GoodIn wsX10_mostAlike wsX9_see := goodIn_r _ [30, 8, 9, 31, 32, 33, 34, 49, 50] rfl (by decide +kernel)
set_option maxRecDepth 20000 in
theorem gX10_mostAlike_X9_see : GoodIn wsX10_mostAlike (wsV RX10 314 RX9 yX9_see wsX9_see) := goodIn_app (goodIn_of _ (by decide +kernel)) ggX10_mostAlike_X9_see
set_option maxRecDepth 20000 in
theorem ggX10_nextLook_J6_bitCount_0f7a4 : GoodIn wsX10_nextLook wsJ6_bitCount_0f7a4 := goodIn_r _ [4, 5, 6, 7] rfl (by decide +kernel)
set_option maxRecDepth 20000 in
theorem gX10_nextLook_J6_bitCount_0f7a4 : GoodIn wsX10_nextLook (va_wsS RX10 200 yJ6_bitCount_0f7a4 wsJ6_bitCount_0f7a4) := goodIn_app (goodIn_of _ (by decide +kernel)) ggX10_nextLook_J6_bitCount_0f7a4
set_option maxRecDepth 20000 in
theorem ggX10_nextLook_X10_mostAlike : GoodIn wsX10_nextLook wsX10_mostAlike := goodIn_r _ [12, 13, 14, 15, 16, 17, 18, 19, 20, 21, 22, 23, 11, 24, 25, 26, 27, 28, 29, 30, 31, 32, 33, 34, 35, 36, 37, 38, 39, 40, 41, 42, 43, 44, 45, 46, 47, 48, 49, 50, 51, 52, 53, 54, 55, 56, 57, 58, 59, 60, 61, 62, 63, 64, 65, 66, 67, 68, 69] rfl (by decide +kernel)
set_option maxRecDepth 20000 in
theorem gX10_nextLook_X10_mostAlike : GoodIn wsX10_nextLook (wsV RX10 306 RX10 yX10_mostAlike wsX10_mostAlike) := goodIn_app (goodIn_of _ (by decide +kernel)) ggX10_nextLook_X10_mostAlike
set_option maxRecDepth 20000 in
theorem ggX10_strong_J6_bitCount_0f7a4 : GoodIn wsX10_strong wsJ6_bitCount_0f7a4 := goodIn_r _ [39, 40, 41, 42] rfl (by decide +kernel)
set_option maxRecDepth 20000 in
theorem gX10_strong_J6_bitCount_0f7a4 : GoodIn wsX10_strong (va_wsS RX10 200 yJ6_bitCount_0f7a4 wsJ6_bitCount_0f7a4) := goodIn_app (goodIn_of _ (by decide +kernel)) ggX10_strong_J6_bitCount_0f7a4
set_option maxRecDepth 20000 in
theorem ggX10_strong_X10_hasBit : GoodIn wsX10_strong wsX10_hasBit := goodIn_r _ [45] rfl (by decide +kernel)
set_option maxRecDepth 20000 in
theorem gX10_strong_X10_hasBit : GoodIn wsX10_strong (va_wsS RX10 205 yX10_hasBit wsX10_hasBit) := goodIn_app (goodIn_of _ (by decide +kernel)) ggX10_strong_X10_hasBit
set_option maxRecDepth 20000 in
theorem ggX10_strong_X10_refuse : GoodIn wsX10_strong wsX10_refuse := goodIn_r _ [14, 15, 46, 47, 48, 49, 50, 51, 52, 53, 54, 55, 56, 57, 58, 59] rfl (by decide +kernel)
set_option maxRecDepth 20000 in
theorem gX10_strong_X10_refuse : GoodIn wsX10_strong (wsV RX10 83 RX10 yX10_refuse wsX10_refuse) := goodIn_app (goodIn_of _ (by decide +kernel)) ggX10_strong_X10_refuse
set_option maxRecDepth 20000 in
theorem ggX10_strong_X10_there : GoodIn wsX10_strong wsX10_there := goodIn_r _ [6, 1, 7, 46, 47, 48, 49, 50, 51, 52, 53, 54, 55, 56, 57, 58, 59, 60, 61, 62, 63, 64, 65, 66, 67] rfl (by decide +kernel)
set_option maxRecDepth 20000 in
theorem gX10_strong_X10_there : GoodIn wsX10_strong (wsV RX10 123 RX10 yX10_there wsX10_there) := goodIn_app (goodIn_of _ (by decide +kernel)) ggX10_strong_X10_there
set_option maxRecDepth 20000 in
theorem ggX10_strong_X10_within : GoodIn wsX10_strong wsX10_within := goodIn_r _ [10] rfl (by decide +kernel)
set_option maxRecDepth 20000 in
theorem gX10_strong_X10_within : GoodIn wsX10_strong (va_wsS RX10 79 yX10_within wsX10_within) := goodIn_app (goodIn_of _ (by decide +kernel)) ggX10_strong_X10_within
set_option maxRecDepth 20000 in
theorem ggX10_strong_X5_legsThatFit : GoodIn wsX10_strong wsX5_legsThatFit := goodIn_r _ [20, 21, 22, 23, 24, 25, 26, 27, 28, 29, 30, 31, 32, 33, 34, 35, 60, 61, 62, 63, 64, 65, 66, 67, 68, 69, 70, 71, 72, 73, 74, 75, 76, 77, 78, 79, 80] rfl (by decide +kernel)
set_option maxRecDepth 20000 in
theorem gX10_strong_X5_legsThatFit : GoodIn wsX10_strong (wsV RX10 197 RX5 yX5_legsThatFit wsX5_legsThatFit) := goodIn_app (goodIn_of _ (by decide +kernel)) ggX10_strong_X5_legsThatFit
theorem dJ6_bitCount_0f7a4_0 : decode cJ6_bitCount_0f7a4 0 = .ok (.iload_n 0, 1) := by decide +kernel
theorem dJ6_bitCount_0f7a4_1 : decode cJ6_bitCount_0f7a4 1 = .ok (.iload_n 0, 1) := by decide +kernel
theorem dJ6_bitCount_0f7a4_10 : decode cJ6_bitCount_0f7a4 10 = .ok (.iload_n 0, 1) := by decide +kernel
theorem dJ6_bitCount_0f7a4_11 : decode cJ6_bitCount_0f7a4 11 = .ok (.ldc_w 266, 3) := by decide +kernel
theorem dJ6_bitCount_0f7a4_14 : decode cJ6_bitCount_0f7a4 14 = .ok (.iand, 1) := by decide +kernel
theorem dJ6_bitCount_0f7a4_15 : decode cJ6_bitCount_0f7a4 15 = .ok (.iload_n 0, 1) := by decide +kernel
theorem dJ6_bitCount_0f7a4_16 : decode cJ6_bitCount_0f7a4 16 = .ok (.iconst 2, 1) := by decide +kernel
theorem dJ6_bitCount_0f7a4_17 : decode cJ6_bitCount_0f7a4 17 = .ok (.iushr, 1) := by decide +kernel
theorem dJ6_bitCount_0f7a4_18 : decode cJ6_bitCount_0f7a4 18 = .ok (.ldc_w 266, 3) := by decide +kernel
theorem dJ6_bitCount_0f7a4_2 : decode cJ6_bitCount_0f7a4 2 = .ok (.iconst 1, 1) := by decide +kernel
theorem dJ6_bitCount_0f7a4_21 : decode cJ6_bitCount_0f7a4 21 = .ok (.iand, 1) := by decide +kernel
theorem dJ6_bitCount_0f7a4_22 : decode cJ6_bitCount_0f7a4 22 = .ok (.iadd, 1) := by decide +kernel
theorem dJ6_bitCount_0f7a4_23 : decode cJ6_bitCount_0f7a4 23 = .ok (.istore_n 0, 1) := by decide +kernel
theorem dJ6_bitCount_0f7a4_24 : decode cJ6_bitCount_0f7a4 24 = .ok (.iload_n 0, 1) := by decide +kernel
theorem dJ6_bitCount_0f7a4_25 : decode cJ6_bitCount_0f7a4 25 = .ok (.iload_n 0, 1) := by decide +kernel
theorem dJ6_bitCount_0f7a4_26 : decode cJ6_bitCount_0f7a4 26 = .ok (.iconst 4, 1) := by decide +kernel
theorem dJ6_bitCount_0f7a4_27 : decode cJ6_bitCount_0f7a4 27 = .ok (.iushr, 1) := by decide +kernel
theorem dJ6_bitCount_0f7a4_28 : decode cJ6_bitCount_0f7a4 28 = .ok (.iadd, 1) := by decide +kernel
theorem dJ6_bitCount_0f7a4_29 : decode cJ6_bitCount_0f7a4 29 = .ok (.ldc_w 267, 3) := by decide +kernel
theorem dJ6_bitCount_0f7a4_3 : decode cJ6_bitCount_0f7a4 3 = .ok (.iushr, 1) := by decide +kernel
theorem dJ6_bitCount_0f7a4_32 : decode cJ6_bitCount_0f7a4 32 = .ok (.iand, 1) := by decide +kernel
theorem dJ6_bitCount_0f7a4_33 : decode cJ6_bitCount_0f7a4 33 = .ok (.istore_n 0, 1) := by decide +kernel
theorem dJ6_bitCount_0f7a4_34 : decode cJ6_bitCount_0f7a4 34 = .ok (.iload_n 0, 1) := by decide +kernel
theorem dJ6_bitCount_0f7a4_35 : decode cJ6_bitCount_0f7a4 35 = .ok (.iload_n 0, 1) := by decide +kernel
theorem dJ6_bitCount_0f7a4_36 : decode cJ6_bitCount_0f7a4 36 = .ok (.bipush 8, 2) := by decide +kernel
theorem dJ6_bitCount_0f7a4_38 : decode cJ6_bitCount_0f7a4 38 = .ok (.iushr, 1) := by decide +kernel
theorem dJ6_bitCount_0f7a4_39 : decode cJ6_bitCount_0f7a4 39 = .ok (.iadd, 1) := by decide +kernel
theorem dJ6_bitCount_0f7a4_4 : decode cJ6_bitCount_0f7a4 4 = .ok (.ldc_w 265, 3) := by decide +kernel
theorem dJ6_bitCount_0f7a4_40 : decode cJ6_bitCount_0f7a4 40 = .ok (.istore_n 0, 1) := by decide +kernel
theorem dJ6_bitCount_0f7a4_41 : decode cJ6_bitCount_0f7a4 41 = .ok (.iload_n 0, 1) := by decide +kernel
theorem dJ6_bitCount_0f7a4_42 : decode cJ6_bitCount_0f7a4 42 = .ok (.iload_n 0, 1) := by decide +kernel
theorem dJ6_bitCount_0f7a4_43 : decode cJ6_bitCount_0f7a4 43 = .ok (.bipush 16, 2) := by decide +kernel
theorem dJ6_bitCount_0f7a4_45 : decode cJ6_bitCount_0f7a4 45 = .ok (.iushr, 1) := by decide +kernel
theorem dJ6_bitCount_0f7a4_46 : decode cJ6_bitCount_0f7a4 46 = .ok (.iadd, 1) := by decide +kernel
theorem dJ6_bitCount_0f7a4_47 : decode cJ6_bitCount_0f7a4 47 = .ok (.istore_n 0, 1) := by decide +kernel
theorem dJ6_bitCount_0f7a4_48 : decode cJ6_bitCount_0f7a4 48 = .ok (.iload_n 0, 1) := by decide +kernel
theorem dJ6_bitCount_0f7a4_49 : decode cJ6_bitCount_0f7a4 49 = .ok (.bipush 63, 2) := by decide +kernel
theorem dJ6_bitCount_0f7a4_51 : decode cJ6_bitCount_0f7a4 51 = .ok (.iand, 1) := by decide +kernel
theorem dJ6_bitCount_0f7a4_52 : decode cJ6_bitCount_0f7a4 52 = .ok (.ireturn, 1) := by decide +kernel
theorem dJ6_bitCount_0f7a4_7 : decode cJ6_bitCount_0f7a4 7 = .ok (.iand, 1) := by decide +kernel
theorem dJ6_bitCount_0f7a4_8 : decode cJ6_bitCount_0f7a4 8 = .ok (.isub, 1) := by decide +kernel
theorem dJ6_bitCount_0f7a4_9 : decode cJ6_bitCount_0f7a4 9 = .ok (.istore_n 0, 1) := by decide +kernel
theorem dX10_farBy_0 : decode cX10_farBy 0 = .ok (.iload_n 1, 1) := by decide +kernel
theorem dX10_farBy_1 : decode cX10_farBy 1 = .ok (.lookupswitch 61 #[(0, 27), (1, 44)], 27) := by decide +kernel
theorem dX10_farBy_28 : decode cX10_farBy 28 = .ok (.aload_n 0, 1) := by decide +kernel
theorem dX10_farBy_29 : decode cX10_farBy 29 = .ok (.getfield 320, 3) := by decide +kernel
theorem dX10_farBy_32 : decode cX10_farBy 32 = .ok (.iload_n 2, 1) := by decide +kernel
theorem dX10_farBy_33 : decode cX10_farBy 33 = .ok (.iload_n 3, 1) := by decide +kernel
theorem dX10_farBy_34 : decode cX10_farBy 34 = .ok (.bipush 10, 2) := by decide +kernel
theorem dX10_farBy_36 : decode cX10_farBy 36 = .ok (.idiv, 1) := by decide +kernel
theorem dX10_farBy_37 : decode cX10_farBy 37 = .ok (.iload_n 3, 1) := by decide +kernel
theorem dX10_farBy_38 : decode cX10_farBy 38 = .ok (.bipush 10, 2) := by decide +kernel
theorem dX10_farBy_40 : decode cX10_farBy 40 = .ok (.irem, 1) := by decide +kernel
theorem dX10_farBy_41 : decode cX10_farBy 41 = .ok (.invokestatic 323, 3) := by decide +kernel
theorem dX10_farBy_44 : decode cX10_farBy 44 = .ok (.ireturn, 1) := by decide +kernel
theorem dX10_farBy_45 : decode cX10_farBy 45 = .ok (.iload_n 2, 1) := by decide +kernel
theorem dX10_farBy_46 : decode cX10_farBy 46 = .ok (.aload_n 0, 1) := by decide +kernel
theorem dX10_farBy_47 : decode cX10_farBy 47 = .ok (.getfield 328, 3) := by decide +kernel
theorem dX10_farBy_50 : decode cX10_farBy 50 = .ok (.iload_n 3, 1) := by decide +kernel
theorem dX10_farBy_51 : decode cX10_farBy 51 = .ok (.bipush 10, 2) := by decide +kernel
theorem dX10_farBy_53 : decode cX10_farBy 53 = .ok (.idiv, 1) := by decide +kernel
theorem dX10_farBy_54 : decode cX10_farBy 54 = .ok (.iload_n 3, 1) := by decide +kernel
theorem dX10_farBy_55 : decode cX10_farBy 55 = .ok (.bipush 10, 2) := by decide +kernel
theorem dX10_farBy_57 : decode cX10_farBy 57 = .ok (.irem, 1) := by decide +kernel
theorem dX10_farBy_58 : decode cX10_farBy 58 = .ok (.invokestatic 323, 3) := by decide +kernel
theorem dX10_farBy_61 : decode cX10_farBy 61 = .ok (.ireturn, 1) := by decide +kernel
theorem dX10_farBy_62 : decode cX10_farBy 62 = .ok (.iload_n 2, 1) := by decide +kernel
theorem dX10_farBy_63 : decode cX10_farBy 63 = .ok (.iload_n 3, 1) := by decide +kernel
theorem dX10_farBy_64 : decode cX10_farBy 64 = .ok (.invokestatic 331, 3) := by decide +kernel
theorem dX10_farBy_67 : decode cX10_farBy 67 = .ok (.ireturn, 1) := by decide +kernel
theorem dX10_from_0 : decode cX10_from 0 = .ok (.iload_n 1, 1) := by decide +kernel
theorem dX10_from_1 : decode cX10_from 1 = .ok (.iconst 0, 1) := by decide +kernel
theorem dX10_from_10 : decode cX10_from 10 = .ok (.bipush (-2), 2) := by decide +kernel
theorem dX10_from_12 : decode cX10_from 12 = .ok (.invokevirtual 83, 3) := by decide +kernel
theorem dX10_from_15 : decode cX10_from 15 = .ok (.ireturn, 1) := by decide +kernel
theorem dX10_from_16 : decode cX10_from 16 = .ok (.aload_n 0, 1) := by decide +kernel
theorem dX10_from_17 : decode cX10_from 17 = .ok (.getfield 23, 3) := by decide +kernel
theorem dX10_from_2 : decode cX10_from 2 = .ok (.iconst 1, 1) := by decide +kernel
theorem dX10_from_20 : decode cX10_from 20 = .ok (.iload_n 1, 1) := by decide +kernel
theorem dX10_from_21 : decode cX10_from 21 = .ok (.baload, 1) := by decide +kernel
theorem dX10_from_22 : decode cX10_from 22 = .ok (.ifCond .ne 10, 3) := by decide +kernel
theorem dX10_from_25 : decode cX10_from 25 = .ok (.aload_n 0, 1) := by decide +kernel
theorem dX10_from_26 : decode cX10_from 26 = .ok (.bipush (-3), 2) := by decide +kernel
theorem dX10_from_28 : decode cX10_from 28 = .ok (.invokevirtual 83, 3) := by decide +kernel
theorem dX10_from_3 : decode cX10_from 3 = .ok (.invokestatic 79, 3) := by decide +kernel
theorem dX10_from_31 : decode cX10_from 31 = .ok (.ireturn, 1) := by decide +kernel
theorem dX10_from_32 : decode cX10_from 32 = .ok (.aload_n 0, 1) := by decide +kernel
theorem dX10_from_33 : decode cX10_from 33 = .ok (.getfield 10, 3) := by decide +kernel
theorem dX10_from_36 : decode cX10_from 36 = .ok (.aload_n 0, 1) := by decide +kernel
theorem dX10_from_37 : decode cX10_from 37 = .ok (.getfield 19, 3) := by decide +kernel
theorem dX10_from_40 : decode cX10_from 40 = .ok (.iload_n 1, 1) := by decide +kernel
theorem dX10_from_41 : decode cX10_from 41 = .ok (.aaload, 1) := by decide +kernel
theorem dX10_from_42 : decode cX10_from 42 = .ok (.invokevirtual 274, 3) := by decide +kernel
theorem dX10_from_45 : decode cX10_from 45 = .ok (.iconst 1, 1) := by decide +kernel
theorem dX10_from_46 : decode cX10_from 46 = .ok (.ireturn, 1) := by decide +kernel
theorem dX10_from_6 : decode cX10_from 6 = .ok (.ifCond .ne 10, 3) := by decide +kernel
theorem dX10_from_9 : decode cX10_from 9 = .ok (.aload_n 0, 1) := by decide +kernel
theorem dX10_hasBit_0 : decode cX10_hasBit 0 = .ok (.iload_n 0, 1) := by decide +kernel
theorem dX10_hasBit_1 : decode cX10_hasBit 1 = .ok (.iload_n 1, 1) := by decide +kernel
theorem dX10_hasBit_10 : decode cX10_hasBit 10 = .ok (.goto 4, 3) := by decide +kernel
theorem dX10_hasBit_13 : decode cX10_hasBit 13 = .ok (.iconst 0, 1) := by decide +kernel
theorem dX10_hasBit_14 : decode cX10_hasBit 14 = .ok (.ireturn, 1) := by decide +kernel
theorem dX10_hasBit_2 : decode cX10_hasBit 2 = .ok (.ishr, 1) := by decide +kernel
theorem dX10_hasBit_3 : decode cX10_hasBit 3 = .ok (.iconst 1, 1) := by decide +kernel
theorem dX10_hasBit_4 : decode cX10_hasBit 4 = .ok (.iand, 1) := by decide +kernel
theorem dX10_hasBit_5 : decode cX10_hasBit 5 = .ok (.iconst 1, 1) := by decide +kernel
theorem dX10_hasBit_6 : decode cX10_hasBit 6 = .ok (.if_icmp .ne 7, 3) := by decide +kernel
theorem dX10_hasBit_9 : decode cX10_hasBit 9 = .ok (.iconst 1, 1) := by decide +kernel
theorem dX10_image_0 : decode cX10_image 0 = .ok (.iload_n 1, 1) := by decide +kernel
theorem dX10_image_1 : decode cX10_image 1 = .ok (.iconst 0, 1) := by decide +kernel
theorem dX10_image_10 : decode cX10_image 10 = .ok (.bipush (-2), 2) := by decide +kernel
theorem dX10_image_12 : decode cX10_image 12 = .ok (.invokevirtual 83, 3) := by decide +kernel
theorem dX10_image_15 : decode cX10_image 15 = .ok (.ireturn, 1) := by decide +kernel
theorem dX10_image_16 : decode cX10_image 16 = .ok (.aload_n 0, 1) := by decide +kernel
theorem dX10_image_17 : decode cX10_image 17 = .ok (.getfield 19, 3) := by decide +kernel
theorem dX10_image_2 : decode cX10_image 2 = .ok (.iconst 1, 1) := by decide +kernel
theorem dX10_image_20 : decode cX10_image 20 = .ok (.iload_n 1, 1) := by decide +kernel
theorem dX10_image_21 : decode cX10_image 21 = .ok (.aaload, 1) := by decide +kernel
theorem dX10_image_22 : decode cX10_image 22 = .ok (.aload_n 0, 1) := by decide +kernel
theorem dX10_image_23 : decode cX10_image 23 = .ok (.getfield 10, 3) := by decide +kernel
theorem dX10_image_26 : decode cX10_image 26 = .ok (.invokevirtual 274, 3) := by decide +kernel
theorem dX10_image_29 : decode cX10_image 29 = .ok (.aload_n 0, 1) := by decide +kernel
theorem dX10_image_3 : decode cX10_image 3 = .ok (.invokestatic 79, 3) := by decide +kernel
theorem dX10_image_30 : decode cX10_image 30 = .ok (.getfield 23, 3) := by decide +kernel
theorem dX10_image_33 : decode cX10_image 33 = .ok (.iload_n 1, 1) := by decide +kernel
theorem dX10_image_34 : decode cX10_image 34 = .ok (.iconst 1, 1) := by decide +kernel
theorem dX10_image_35 : decode cX10_image 35 = .ok (.bastore, 1) := by decide +kernel
theorem dX10_image_36 : decode cX10_image 36 = .ok (.iconst 1, 1) := by decide +kernel
theorem dX10_image_37 : decode cX10_image 37 = .ok (.ireturn, 1) := by decide +kernel
theorem dX10_image_6 : decode cX10_image 6 = .ok (.ifCond .ne 10, 3) := by decide +kernel
theorem dX10_image_9 : decode cX10_image 9 = .ok (.aload_n 0, 1) := by decide +kernel
theorem dX10_mostAlike_0 : decode cX10_mostAlike 0 = .ok (.aload_n 0, 1) := by decide +kernel
theorem dX10_mostAlike_1 : decode cX10_mostAlike 1 = .ok (.getfield 58, 3) := by decide +kernel
theorem dX10_mostAlike_10 : decode cX10_mostAlike 10 = .ok (.iload 5, 2) := by decide +kernel
theorem dX10_mostAlike_12 : decode cX10_mostAlike 12 = .ok (.bipush 9, 2) := by decide +kernel
theorem dX10_mostAlike_14 : decode cX10_mostAlike 14 = .ok (.if_icmp .gt 34, 3) := by decide +kernel
theorem dX10_mostAlike_17 : decode cX10_mostAlike 17 = .ok (.iload_n 3, 1) := by decide +kernel
theorem dX10_mostAlike_18 : decode cX10_mostAlike 18 = .ok (.iload 5, 2) := by decide +kernel
theorem dX10_mostAlike_20 : decode cX10_mostAlike 20 = .ok (.invokestatic 205, 3) := by decide +kernel
theorem dX10_mostAlike_23 : decode cX10_mostAlike 23 = .ok (.ifCond .eq 19, 3) := by decide +kernel
theorem dX10_mostAlike_26 : decode cX10_mostAlike 26 = .ok (.aload_n 0, 1) := by decide +kernel
theorem dX10_mostAlike_27 : decode cX10_mostAlike 27 = .ok (.getfield 58, 3) := by decide +kernel
theorem dX10_mostAlike_30 : decode cX10_mostAlike 30 = .ok (.aload_n 1, 1) := by decide +kernel
theorem dX10_mostAlike_31 : decode cX10_mostAlike 31 = .ok (.iload_n 2, 1) := by decide +kernel
theorem dX10_mostAlike_32 : decode cX10_mostAlike 32 = .ok (.iload 5, 2) := by decide +kernel
theorem dX10_mostAlike_34 : decode cX10_mostAlike 34 = .ok (.iload 4, 2) := by decide +kernel
theorem dX10_mostAlike_36 : decode cX10_mostAlike 36 = .ok (.invokestatic 311, 3) := by decide +kernel
theorem dX10_mostAlike_39 : decode cX10_mostAlike 39 = .ok (.invokevirtual 314, 3) := by decide +kernel
theorem dX10_mostAlike_4 : decode cX10_mostAlike 4 = .ok (.invokevirtual 309, 3) := by decide +kernel
theorem dX10_mostAlike_42 : decode cX10_mostAlike 42 = .ok (.iinc 5 1, 3) := by decide +kernel
theorem dX10_mostAlike_45 : decode cX10_mostAlike 45 = .ok (.goto (-35), 3) := by decide +kernel
theorem dX10_mostAlike_48 : decode cX10_mostAlike 48 = .ok (.aload_n 0, 1) := by decide +kernel
theorem dX10_mostAlike_49 : decode cX10_mostAlike 49 = .ok (.getfield 58, 3) := by decide +kernel
theorem dX10_mostAlike_52 : decode cX10_mostAlike 52 = .ok (.getfield 317, 3) := by decide +kernel
theorem dX10_mostAlike_55 : decode cX10_mostAlike 55 = .ok (.ireturn, 1) := by decide +kernel
theorem dX10_mostAlike_7 : decode cX10_mostAlike 7 = .ok (.iconst 0, 1) := by decide +kernel
theorem dX10_mostAlike_8 : decode cX10_mostAlike 8 = .ok (.istore 5, 2) := by decide +kernel
theorem dX10_nextLook_0 : decode cX10_nextLook 0 = .ok (.iconst (-1), 1) := by decide +kernel
theorem dX10_nextLook_1 : decode cX10_nextLook 1 = .ok (.istore 5, 2) := by decide +kernel
theorem dX10_nextLook_11 : decode cX10_nextLook 11 = .ok (.iconst 0, 1) := by decide +kernel
theorem dX10_nextLook_12 : decode cX10_nextLook 12 = .ok (.istore 7, 2) := by decide +kernel
theorem dX10_nextLook_14 : decode cX10_nextLook 14 = .ok (.iload 7, 2) := by decide +kernel
theorem dX10_nextLook_16 : decode cX10_nextLook 16 = .ok (.iload 4, 2) := by decide +kernel
theorem dX10_nextLook_18 : decode cX10_nextLook 18 = .ok (.if_icmp .ge 41, 3) := by decide +kernel
theorem dX10_nextLook_21 : decode cX10_nextLook 21 = .ok (.iload 6, 2) := by decide +kernel
theorem dX10_nextLook_23 : decode cX10_nextLook 23 = .ok (.iconst 1, 1) := by decide +kernel
theorem dX10_nextLook_24 : decode cX10_nextLook 24 = .ok (.if_icmp .le 35, 3) := by decide +kernel
theorem dX10_nextLook_27 : decode cX10_nextLook 27 = .ok (.aload_n 0, 1) := by decide +kernel
theorem dX10_nextLook_28 : decode cX10_nextLook 28 = .ok (.aload_n 1, 1) := by decide +kernel
theorem dX10_nextLook_29 : decode cX10_nextLook 29 = .ok (.iload_n 2, 1) := by decide +kernel
theorem dX10_nextLook_3 : decode cX10_nextLook 3 = .ok (.iload_n 3, 1) := by decide +kernel
theorem dX10_nextLook_30 : decode cX10_nextLook 30 = .ok (.iload_n 3, 1) := by decide +kernel
theorem dX10_nextLook_31 : decode cX10_nextLook 31 = .ok (.iload 7, 2) := by decide +kernel
theorem dX10_nextLook_33 : decode cX10_nextLook 33 = .ok (.invokevirtual 306, 3) := by decide +kernel
theorem dX10_nextLook_36 : decode cX10_nextLook 36 = .ok (.istore 8, 2) := by decide +kernel
theorem dX10_nextLook_38 : decode cX10_nextLook 38 = .ok (.iload 8, 2) := by decide +kernel
theorem dX10_nextLook_4 : decode cX10_nextLook 4 = .ok (.invokestatic 200, 3) := by decide +kernel
theorem dX10_nextLook_40 : decode cX10_nextLook 40 = .ok (.iload 6, 2) := by decide +kernel
theorem dX10_nextLook_42 : decode cX10_nextLook 42 = .ok (.if_icmp .ge 11, 3) := by decide +kernel
theorem dX10_nextLook_45 : decode cX10_nextLook 45 = .ok (.iload 8, 2) := by decide +kernel
theorem dX10_nextLook_47 : decode cX10_nextLook 47 = .ok (.istore 6, 2) := by decide +kernel
theorem dX10_nextLook_49 : decode cX10_nextLook 49 = .ok (.iload 7, 2) := by decide +kernel
theorem dX10_nextLook_51 : decode cX10_nextLook 51 = .ok (.istore 5, 2) := by decide +kernel
theorem dX10_nextLook_53 : decode cX10_nextLook 53 = .ok (.iinc 7 1, 3) := by decide +kernel
theorem dX10_nextLook_56 : decode cX10_nextLook 56 = .ok (.goto (-42), 3) := by decide +kernel
theorem dX10_nextLook_59 : decode cX10_nextLook 59 = .ok (.iload 5, 2) := by decide +kernel
theorem dX10_nextLook_61 : decode cX10_nextLook 61 = .ok (.ireturn, 1) := by decide +kernel
theorem dX10_nextLook_7 : decode cX10_nextLook 7 = .ok (.iconst 1, 1) := by decide +kernel
theorem dX10_nextLook_8 : decode cX10_nextLook 8 = .ok (.iadd, 1) := by decide +kernel
theorem dX10_nextLook_9 : decode cX10_nextLook 9 = .ok (.istore 6, 2) := by decide +kernel
theorem dX10_strong_0 : decode cX10_strong 0 = .ok (.aload_n 0, 1) := by decide +kernel
theorem dX10_strong_1 : decode cX10_strong 1 = .ok (.iload_n 1, 1) := by decide +kernel
theorem dX10_strong_10 : decode cX10_strong 10 = .ok (.iconst 2, 1) := by decide +kernel
theorem dX10_strong_11 : decode cX10_strong 11 = .ok (.invokestatic 79, 3) := by decide +kernel
theorem dX10_strong_14 : decode cX10_strong 14 = .ok (.ifCond .ne 10, 3) := by decide +kernel
theorem dX10_strong_17 : decode cX10_strong 17 = .ok (.aload_n 0, 1) := by decide +kernel
theorem dX10_strong_18 : decode cX10_strong 18 = .ok (.bipush (-2), 2) := by decide +kernel
theorem dX10_strong_2 : decode cX10_strong 2 = .ok (.invokevirtual 123, 3) := by decide +kernel
theorem dX10_strong_20 : decode cX10_strong 20 = .ok (.invokevirtual 83, 3) := by decide +kernel
theorem dX10_strong_23 : decode cX10_strong 23 = .ok (.ireturn, 1) := by decide +kernel
theorem dX10_strong_24 : decode cX10_strong 24 = .ok (.aload_n 0, 1) := by decide +kernel
theorem dX10_strong_25 : decode cX10_strong 25 = .ok (.getfield 10, 3) := by decide +kernel
theorem dX10_strong_28 : decode cX10_strong 28 = .ok (.iload_n 1, 1) := by decide +kernel
theorem dX10_strong_29 : decode cX10_strong 29 = .ok (.invokevirtual 197, 3) := by decide +kernel
theorem dX10_strong_32 : decode cX10_strong 32 = .ok (.istore_n 3, 1) := by decide +kernel
theorem dX10_strong_33 : decode cX10_strong 33 = .ok (.iload_n 2, 1) := by decide +kernel
theorem dX10_strong_34 : decode cX10_strong 34 = .ok (.ifCond .ne 8, 3) := by decide +kernel
theorem dX10_strong_37 : decode cX10_strong 37 = .ok (.iload_n 3, 1) := by decide +kernel
theorem dX10_strong_38 : decode cX10_strong 38 = .ok (.invokestatic 200, 3) := by decide +kernel
theorem dX10_strong_41 : decode cX10_strong 41 = .ok (.ireturn, 1) := by decide +kernel
theorem dX10_strong_42 : decode cX10_strong 42 = .ok (.iconst (-1), 1) := by decide +kernel
theorem dX10_strong_43 : decode cX10_strong 43 = .ok (.istore 4, 2) := by decide +kernel
theorem dX10_strong_45 : decode cX10_strong 45 = .ok (.iconst 1, 1) := by decide +kernel
theorem dX10_strong_46 : decode cX10_strong 46 = .ok (.istore 5, 2) := by decide +kernel
theorem dX10_strong_48 : decode cX10_strong 48 = .ok (.iload 5, 2) := by decide +kernel
theorem dX10_strong_5 : decode cX10_strong 5 = .ok (.ifCond .eq 12, 3) := by decide +kernel
theorem dX10_strong_50 : decode cX10_strong 50 = .ok (.bipush 9, 2) := by decide +kernel
theorem dX10_strong_52 : decode cX10_strong 52 = .ok (.if_icmp .gt 33, 3) := by decide +kernel
theorem dX10_strong_55 : decode cX10_strong 55 = .ok (.iload_n 3, 1) := by decide +kernel
theorem dX10_strong_56 : decode cX10_strong 56 = .ok (.iload 5, 2) := by decide +kernel
theorem dX10_strong_58 : decode cX10_strong 58 = .ok (.invokestatic 205, 3) := by decide +kernel
theorem dX10_strong_61 : decode cX10_strong 61 = .ok (.ifCond .eq 18, 3) := by decide +kernel
theorem dX10_strong_64 : decode cX10_strong 64 = .ok (.iload_n 2, 1) := by decide +kernel
theorem dX10_strong_65 : decode cX10_strong 65 = .ok (.iconst 2, 1) := by decide +kernel
theorem dX10_strong_66 : decode cX10_strong 66 = .ok (.if_icmp .eq 9, 3) := by decide +kernel
theorem dX10_strong_69 : decode cX10_strong 69 = .ok (.iload 4, 2) := by decide +kernel
theorem dX10_strong_71 : decode cX10_strong 71 = .ok (.iconst (-1), 1) := by decide +kernel
theorem dX10_strong_72 : decode cX10_strong 72 = .ok (.if_icmp .ne 7, 3) := by decide +kernel
theorem dX10_strong_75 : decode cX10_strong 75 = .ok (.iload 5, 2) := by decide +kernel
theorem dX10_strong_77 : decode cX10_strong 77 = .ok (.istore 4, 2) := by decide +kernel
theorem dX10_strong_79 : decode cX10_strong 79 = .ok (.iinc 5 1, 3) := by decide +kernel
theorem dX10_strong_8 : decode cX10_strong 8 = .ok (.iload_n 2, 1) := by decide +kernel
theorem dX10_strong_82 : decode cX10_strong 82 = .ok (.goto (-34), 3) := by decide +kernel
theorem dX10_strong_85 : decode cX10_strong 85 = .ok (.iload 4, 2) := by decide +kernel
theorem dX10_strong_87 : decode cX10_strong 87 = .ok (.ireturn, 1) := by decide +kernel
theorem dX10_strong_9 : decode cX10_strong 9 = .ok (.iconst 0, 1) := by decide +kernel
theorem dX9_restart_0 : decode cX9_restart 0 = .ok (.iconst 0, 1) := by decide +kernel
theorem dX9_restart_1 : decode cX9_restart 1 = .ok (.istore_n 1, 1) := by decide +kernel
theorem dX9_restart_11 : decode cX9_restart 11 = .ok (.aload_n 0, 1) := by decide +kernel
theorem dX9_restart_12 : decode cX9_restart 12 = .ok (.getfield 9, 3) := by decide +kernel
theorem dX9_restart_15 : decode cX9_restart 15 = .ok (.iload_n 1, 1) := by decide +kernel
theorem dX9_restart_16 : decode cX9_restart 16 = .ok (.iconst 0, 1) := by decide +kernel
theorem dX9_restart_17 : decode cX9_restart 17 = .ok (.iastore, 1) := by decide +kernel
theorem dX9_restart_18 : decode cX9_restart 18 = .ok (.iinc 1 1, 3) := by decide +kernel
theorem dX9_restart_2 : decode cX9_restart 2 = .ok (.iload_n 1, 1) := by decide +kernel
theorem dX9_restart_21 : decode cX9_restart 21 = .ok (.goto (-19), 3) := by decide +kernel
theorem dX9_restart_24 : decode cX9_restart 24 = .ok (.aload_n 0, 1) := by decide +kernel
theorem dX9_restart_25 : decode cX9_restart 25 = .ok (.iconst 0, 1) := by decide +kernel
theorem dX9_restart_26 : decode cX9_restart 26 = .ok (.putfield 15, 3) := by decide +kernel
theorem dX9_restart_29 : decode cX9_restart 29 = .ok (.return_, 1) := by decide +kernel
theorem dX9_restart_3 : decode cX9_restart 3 = .ok (.aload_n 0, 1) := by decide +kernel
theorem dX9_restart_4 : decode cX9_restart 4 = .ok (.getfield 9, 3) := by decide +kernel
theorem dX9_restart_7 : decode cX9_restart 7 = .ok (.arraylength, 1) := by decide +kernel
theorem dX9_restart_8 : decode cX9_restart 8 = .ok (.if_icmp .ge 16, 3) := by decide +kernel
theorem dX9_see_0 : decode cX9_see 0 = .ok (.iload_n 1, 1) := by decide +kernel
theorem dX9_see_1 : decode cX9_see 1 = .ok (.ifCond .lt 39, 3) := by decide +kernel
theorem dX9_see_10 : decode cX9_see 10 = .ok (.if_icmp .ge 30, 3) := by decide +kernel
theorem dX9_see_13 : decode cX9_see 13 = .ok (.aload_n 0, 1) := by decide +kernel
theorem dX9_see_14 : decode cX9_see 14 = .ok (.getfield 9, 3) := by decide +kernel
theorem dX9_see_17 : decode cX9_see 17 = .ok (.iload_n 1, 1) := by decide +kernel
theorem dX9_see_18 : decode cX9_see 18 = .ok (.dup2, 1) := by decide +kernel
theorem dX9_see_19 : decode cX9_see 19 = .ok (.iaload, 1) := by decide +kernel
theorem dX9_see_20 : decode cX9_see 20 = .ok (.iconst 1, 1) := by decide +kernel
theorem dX9_see_21 : decode cX9_see 21 = .ok (.iadd, 1) := by decide +kernel
theorem dX9_see_22 : decode cX9_see 22 = .ok (.iastore, 1) := by decide +kernel
theorem dX9_see_23 : decode cX9_see 23 = .ok (.aload_n 0, 1) := by decide +kernel
theorem dX9_see_24 : decode cX9_see 24 = .ok (.aload_n 0, 1) := by decide +kernel
theorem dX9_see_25 : decode cX9_see 25 = .ok (.getfield 15, 3) := by decide +kernel
theorem dX9_see_28 : decode cX9_see 28 = .ok (.aload_n 0, 1) := by decide +kernel
theorem dX9_see_29 : decode cX9_see 29 = .ok (.getfield 9, 3) := by decide +kernel
theorem dX9_see_32 : decode cX9_see 32 = .ok (.iload_n 1, 1) := by decide +kernel
theorem dX9_see_33 : decode cX9_see 33 = .ok (.iaload, 1) := by decide +kernel
theorem dX9_see_34 : decode cX9_see 34 = .ok (.invokestatic 19, 3) := by decide +kernel
theorem dX9_see_37 : decode cX9_see 37 = .ok (.putfield 15, 3) := by decide +kernel
theorem dX9_see_4 : decode cX9_see 4 = .ok (.iload_n 1, 1) := by decide +kernel
theorem dX9_see_40 : decode cX9_see 40 = .ok (.return_, 1) := by decide +kernel
theorem dX9_see_5 : decode cX9_see 5 = .ok (.aload_n 0, 1) := by decide +kernel
theorem dX9_see_6 : decode cX9_see 6 = .ok (.getfield 9, 3) := by decide +kernel
theorem dX9_see_9 : decode cX9_see 9 = .ok (.arraylength, 1) := by decide +kernel
set_option maxHeartbeats 4000000 in
set_option maxRecDepth 100000 in
theorem x_image (l : Launch) (X : EX) (h0 : Nat) (nw : Nat) (sp : Nat) (xa : Nat → Nat) (la : Int64) (lb : Int64) (an : Nat → Nat) (sv : Nat → Int32) (dv : Nat → Int32) (n0 : Nat) (n1 : Nat) (n2 : Nat) (n3 : Nat) (n4 : Nat) (g0 : Nat → Int32) (gs : Nat → Int32) (gn : Nat → Int32) (gm : Nat → Int32) (i0 : Nat) (i1 : Nat) (adp : Nat → Nat) (svp : Nat → Int32) (dvp : Nat → Int32) (n0p : Nat) (n1p : Nat) (n2p : Nat) (n3p : Nat) (n4p : Nat) (g0p : Nat → Int32) (gsp : Nat → Int32) (gnp : Nat → Int32) (gmp : Nat → Int32) (adq : Nat → Nat) (svq : Nat → Int32) (dvq : Nat → Int32) (n0q : Nat) (n1q : Nat) (n2q : Nat) (n3q : Nat) (n4q : Nat) (g0q : Nat → Int32) (gsq : Nat → Int32) (gnq : Nat → Int32) (gmq : Nat → Int32) (fz : Nat → Int32) (fr : Nat → Int32) (x1 : Int32) (hI_n0 : n0 ≤ 6) (hI_n1 : n1 ≤ 8) (hI_n2 : n2 ≤ 5) (hI_n3 : n3 ≤ 6) (hI_n4 : n4 ≤ 6) (hI_n0p : n0p ≤ 6) (hI_n1p : n1p ≤ 8) (hI_n2p : n2p ≤ 5) (hI_n3p : n3p ≤ 6) (hI_n4p : n4p ≤ 6) (hI_n0q : n0q ≤ 6) (hI_n1q : n1q ≤ 8) (hI_n2q : n2q ≤ 5) (hI_n3q : n3q ≤ 6) (hI_n4q : n4q ≤ 6) (sz : Nat) : Met l yX10_image wsX10_image ({ frames := 3, cells := 0, slots := 0, locals := 102 } : Room) (pE X [.ref h0, .int x1] (@HAppend.hAppend va_W va_W va_W _ (xW h0 nw sp xa la lb) (@HAppend.hAppend va_W va_W va_W _ (rcV X nw an sv dv n0 n1 n2 n3 n4 g0 gs gn gm) (@HAppend.hAppend va_W va_W va_W _ ([((xa 2), .inl (X.2.2.2.1, 2, .inr (.inr (.inr (.inr (imQ i0 i1))))))]) (@HAppend.hAppend va_W va_W va_W _ (rcV X i0 adp svp dvp n0p n1p n2p n3p n4p g0p gsp gnp gmp) (@HAppend.hAppend va_W va_W va_W _ (rcV X i1 adq svq dvq n0q n1q n2q n3q n4q g0q gsq gnq gmq) (@HAppend.hAppend va_W va_W va_W _ ([((xa 3), .inl (X.2.2.1, 2, .inl fz))]) ([((xa 5), .inl (X.2.1, 3, .inl fr))]))))))) sz) (qI (fun (r : Int32) (u : (Nat → Int32) × (Nat → Int32) × (Nat) × (Nat) × (Nat) × (Nat) × (Nat) × (Nat → Int32) × (Nat → Int32) × (Nat → Int32) × (Nat → Int32) × (Nat → Int32) × (Nat → Int32) × (Nat) × (Nat) × (Nat) × (Nat) × (Nat) × (Nat → Int32) × (Nat → Int32) × (Nat → Int32) × (Nat → Int32) × (Nat → Int32) × (Nat → Int32)) => u.2.2.1 ≤ 6 ∧ u.2.2.2.1 ≤ 8 ∧ u.2.2.2.2.1 ≤ 5 ∧ u.2.2.2.2.2.1 ≤ 6 ∧ u.2.2.2.2.2.2.1 ≤ 6 ∧ u.2.2.2.2.2.2.2.2.2.2.2.2.2.1 ≤ 6 ∧ u.2.2.2.2.2.2.2.2.2.2.2.2.2.2.1 ≤ 8 ∧ u.2.2.2.2.2.2.2.2.2.2.2.2.2.2.2.1 ≤ 5 ∧ u.2.2.2.2.2.2.2.2.2.2.2.2.2.2.2.2.1 ≤ 6 ∧ u.2.2.2.2.2.2.2.2.2.2.2.2.2.2.2.2.2.1 ≤ 6 ∧ (((r, (u.2.2.2.2.2.2.2.2.2.2.2.2.2.2.2.2.2.2.2.2.2.2.1, ((u.2.2.1, u.2.2.2.2.1, u.2.2.2.2.2.1, u.2.2.2.2.2.2.1), (u.2.2.2.2.2.2.2.2.2.2.2.2.2.1, u.2.2.2.2.2.2.2.2.2.2.2.2.2.2.2.1, u.2.2.2.2.2.2.2.2.2.2.2.2.2.2.2.2.1, u.2.2.2.2.2.2.2.2.2.2.2.2.2.2.2.2.2.1)))) = imgF x1 fz (n0, n2, n3, n4) (n0p, n2p, n3p, n4p) (n0q, n2q, n3q, n4q)) ∧ (x1 = 0 → cpyP u.1 u.2.2.2.2.2.2.2.2.1 u.2.2.2.2.2.2.2.2.2.1 u.2.2.2.2.2.2.2.2.2.2.1 sv gs gn gm n2 n3 n4 ∧ samP u.2.2.2.2.2.2.2.2.2.2.2.1 u.2.2.2.2.2.2.2.2.2.2.2.2.2.2.2.2.2.2.2.1 u.2.2.2.2.2.2.2.2.2.2.2.2.2.2.2.2.2.2.2.2.1 u.2.2.2.2.2.2.2.2.2.2.2.2.2.2.2.2.2.2.2.2.2.1 svq gsq gnq gmq) ∧ (x1 = 1 → cpyP u.2.2.2.2.2.2.2.2.2.2.2.1 u.2.2.2.2.2.2.2.2.2.2.2.2.2.2.2.2.2.2.2.1 u.2.2.2.2.2.2.2.2.2.2.2.2.2.2.2.2.2.2.2.2.1 u.2.2.2.2.2.2.2.2.2.2.2.2.2.2.2.2.2.2.2.2.2.1 sv gs gn gm n2 n3 n4 ∧ samP u.1 u.2.2.2.2.2.2.2.2.1 u.2.2.2.2.2.2.2.2.2.1 u.2.2.2.2.2.2.2.2.2.2.1 svp gsp gnp gmp) ∧ (¬ ((0 : Int32) ≤ x1 ∧ x1 ≤ 1) → samP u.1 u.2.2.2.2.2.2.2.2.1 u.2.2.2.2.2.2.2.2.2.1 u.2.2.2.2.2.2.2.2.2.2.1 svp gsp gnp gmp ∧ samP u.2.2.2.2.2.2.2.2.2.2.2.1 u.2.2.2.2.2.2.2.2.2.2.2.2.2.2.2.2.2.2.2.1 u.2.2.2.2.2.2.2.2.2.2.2.2.2.2.2.2.2.2.2.2.1 u.2.2.2.2.2.2.2.2.2.2.2.2.2.2.2.2.2.2.2.2.2.1 svq gsq gnq gmq))) X (fun (u : (Nat → Int32) × (Nat → Int32) × (Nat) × (Nat) × (Nat) × (Nat) × (Nat) × (Nat → Int32) × (Nat → Int32) × (Nat → Int32) × (Nat → Int32) × (Nat → Int32) × (Nat → Int32) × (Nat) × (Nat) × (Nat) × (Nat) × (Nat) × (Nat → Int32) × (Nat → Int32) × (Nat → Int32) × (Nat → Int32) × (Nat → Int32) × (Nat → Int32)) => @HAppend.hAppend va_W va_W va_W _ (xW h0 nw sp xa la lb) (@HAppend.hAppend va_W va_W va_W _ (rcV X nw an sv dv n0 n1 n2 n3 n4 g0 gs gn gm) (@HAppend.hAppend va_W va_W va_W _ ([((xa 2), .inl (X.2.2.2.1, 2, .inr (.inr (.inr (.inr (imQ i0 i1))))))]) (@HAppend.hAppend va_W va_W va_W _ (rcV X i0 adp u.1 u.2.1 u.2.2.1 u.2.2.2.1 u.2.2.2.2.1 u.2.2.2.2.2.1 u.2.2.2.2.2.2.1 u.2.2.2.2.2.2.2.1 u.2.2.2.2.2.2.2.2.1 u.2.2.2.2.2.2.2.2.2.1 u.2.2.2.2.2.2.2.2.2.2.1) (@HAppend.hAppend va_W va_W va_W _ (rcV X i1 adq u.2.2.2.2.2.2.2.2.2.2.2.1 u.2.2.2.2.2.2.2.2.2.2.2.2.1 u.2.2.2.2.2.2.2.2.2.2.2.2.2.1 u.2.2.2.2.2.2.2.2.2.2.2.2.2.2.1 u.2.2.2.2.2.2.2.2.2.2.2.2.2.2.2.1 u.2.2.2.2.2.2.2.2.2.2.2.2.2.2.2.2.1 u.2.2.2.2.2.2.2.2.2.2.2.2.2.2.2.2.2.1 u.2.2.2.2.2.2.2.2.2.2.2.2.2.2.2.2.2.2.1 u.2.2.2.2.2.2.2.2.2.2.2.2.2.2.2.2.2.2.2.1 u.2.2.2.2.2.2.2.2.2.2.2.2.2.2.2.2.2.2.2.2.1 u.2.2.2.2.2.2.2.2.2.2.2.2.2.2.2.2.2.2.2.2.2.1) (@HAppend.hAppend va_W va_W va_W _ ([((xa 3), .inl (X.2.2.1, 2, .inl u.2.2.2.2.2.2.2.2.2.2.2.2.2.2.2.2.2.2.2.2.2.2.1))]) ([((xa 5), .inl (X.2.1, 3, .inl u.2.2.2.2.2.2.2.2.2.2.2.2.2.2.2.2.2.2.2.2.2.2.2))]))))))) (@HAppend.hAppend va_W va_W va_W _ (xW h0 nw sp xa la lb) (@HAppend.hAppend va_W va_W va_W _ (rcV X nw an sv dv n0 n1 n2 n3 n4 g0 gs gn gm) (@HAppend.hAppend va_W va_W va_W _ ([((xa 2), .inl (X.2.2.2.1, 2, .inr (.inr (.inr (.inr (imQ i0 i1))))))]) (@HAppend.hAppend va_W va_W va_W _ (rcV X i0 adp svp dvp n0p n1p n2p n3p n4p g0p gsp gnp gmp) (@HAppend.hAppend va_W va_W va_W _ (rcV X i1 adq svq dvq n0q n1q n2q n3q n4q g0q gsq gnq gmq) (@HAppend.hAppend va_W va_W va_W _ ([((xa 3), .inl (X.2.2.1, 2, .inl fz))]) ([((xa 5), .inl (X.2.1, 3, .inl fr))]))))))) sz) 0 0 (va_A (@HAppend.hAppend va_W va_W va_W _ (xW h0 nw sp xa la lb) (@HAppend.hAppend va_W va_W va_W _ (rcV X nw an sv dv n0 n1 n2 n3 n4 g0 gs gn gm) (@HAppend.hAppend va_W va_W va_W _ ([((xa 2), .inl (X.2.2.2.1, 2, .inr (.inr (.inr (.inr (imQ i0 i1))))))]) (@HAppend.hAppend va_W va_W va_W _ (rcV X i0 adp svp dvp n0p n1p n2p n3p n4p g0p gsp gnp gmp) (@HAppend.hAppend va_W va_W va_W _ (rcV X i1 adq svq dvq n0q n1q n2q n3q n4q g0q gsq gnq gmq) (@HAppend.hAppend va_W va_W va_W _ ([((xa 3), .inl (X.2.2.1, 2, .inl fz))]) ([((xa 5), .inl (X.2.1, 3, .inl fr))]))))))) sz) := by
  refine mk_met (B := (va_A (@HAppend.hAppend va_W va_W va_W _ (xW h0 nw sp xa la lb) (@HAppend.hAppend va_W va_W va_W _ (rcV X nw an sv dv n0 n1 n2 n3 n4 g0 gs gn gm) (@HAppend.hAppend va_W va_W va_W _ ([((xa 2), .inl (X.2.2.2.1, 2, .inr (.inr (.inr (.inr (imQ i0 i1))))))]) (@HAppend.hAppend va_W va_W va_W _ (rcV X i0 adp svp dvp n0p n1p n2p n3p n4p g0p gsp gnp gmp) (@HAppend.hAppend va_W va_W va_W _ (rcV X i1 adq svq dvq n0q n1q n2q n3q n4q g0q gsq gnq gmq) (@HAppend.hAppend va_W va_W va_W _ ([((xa 3), .inl (X.2.2.1, 2, .inl fz))]) ([((xa 5), .inl (X.2.1, 3, .inl fr))]))))))) sz)) (A := (va_A (@HAppend.hAppend va_W va_W va_W _ (xW h0 nw sp xa la lb) (@HAppend.hAppend va_W va_W va_W _ (rcV X nw an sv dv n0 n1 n2 n3 n4 g0 gs gn gm) (@HAppend.hAppend va_W va_W va_W _ ([((xa 2), .inl (X.2.2.2.1, 2, .inr (.inr (.inr (.inr (imQ i0 i1))))))]) (@HAppend.hAppend va_W va_W va_W _ (rcV X i0 adp svp dvp n0p n1p n2p n3p n4p g0p gsp gnp gmp) (@HAppend.hAppend va_W va_W va_W _ (rcV X i1 adq svq dvq n0q n1q n2q n3q n4q g0q gsq gnq gmq) (@HAppend.hAppend va_W va_W va_W _ ([((xa 3), .inl (X.2.2.1, 2, .inl fz))]) ([((xa 5), .inl (X.2.1, 3, .inl fr))]))))))) sz)) (cc := cX10_image) (maxL := 2) (ret := (some .int)) (by decide) rfl (Nat.le_of_ble_eq_true rfl) k_w k_a (fun p e s m below meth c S zr zlk znm zsz G ls hl => ?_)
  have S : CallFix p m c cX10_image 2 s _ wsX10_image RX10 := S
  have zx := S.1
  have zb := S.2.1
  have hl : lv_has ls 2 [(0, .ref h0), (1, .int x1)] := hl
  refine lv_iload_n zx zb dX10_image_0 rfl (lv_at hl 1 rfl) ?_
  refine lv_iconst (v := 0) zx zb dX10_image_1 (by decide) ?_
  refine lv_iconst (v := 1) zx zb dX10_image_2 (by decide) ?_
  refine o_ri (cells' := 0) (slots' := 0) G rfl rfl (n_S (As := [.int x1, .int 0, .int 1]) (rest := []) S G (s_within l X x1 0 1 s.heap.size) gX10_image_X10_within rfl rfl rfl hdS_X10_within ⟨Nat.le_of_ble_eq_true rfl, Nat.le_of_ble_eq_true rfl⟩ [] rfl rfl rfl hl.1 (Nat.le_of_ble_eq_true rfl) dX10_image_3 ⟨Nat.le_of_ble_eq_true rfl, Nat.le_of_ble_eq_true rfl⟩) (fun r_1 u_1 H locs hp_1 G => ?_)
  have G : wd X (va_A (@HAppend.hAppend va_W va_W va_W _ (xW h0 nw sp xa la lb) (@HAppend.hAppend va_W va_W va_W _ (rcV X nw an sv dv n0 n1 n2 n3 n4 g0 gs gn gm) (@HAppend.hAppend va_W va_W va_W _ ([((xa 2), .inl (X.2.2.2.1, 2, .inr (.inr (.inr (.inr (imQ i0 i1))))))]) (@HAppend.hAppend va_W va_W va_W _ (rcV X i0 adp svp dvp n0p n1p n2p n3p n4p g0p gsp gnp gmp) (@HAppend.hAppend va_W va_W va_W _ (rcV X i1 adq svq dvq n0q n1q n2q n3q n4q g0q gsq gnq gmq) (@HAppend.hAppend va_W va_W va_W _ ([((xa 3), .inl (X.2.2.1, 2, .inl fz))]) ([((xa 5), .inl (X.2.1, 3, .inl fr))]))))))) sz) (va_A (@HAppend.hAppend va_W va_W va_W _ (xW h0 nw sp xa la lb) (@HAppend.hAppend va_W va_W va_W _ (rcV X nw an sv dv n0 n1 n2 n3 n4 g0 gs gn gm) (@HAppend.hAppend va_W va_W va_W _ ([((xa 2), .inl (X.2.2.2.1, 2, .inr (.inr (.inr (.inr (imQ i0 i1))))))]) (@HAppend.hAppend va_W va_W va_W _ (rcV X i0 adp svp dvp n0p n1p n2p n3p n4p g0p gsp gnp gmp) (@HAppend.hAppend va_W va_W va_W _ (rcV X i1 adq svq dvq n0q n1q n2q n3q n4q g0q gsq gnq gmq) (@HAppend.hAppend va_W va_W va_W _ ([((xa 3), .inl (X.2.2.1, 2, .inl fz))]) ([((xa 5), .inl (X.2.1, 3, .inl fr))]))))))) sz) s (@HAppend.hAppend va_W va_W va_W _ (xW h0 nw sp xa la lb) (@HAppend.hAppend va_W va_W va_W _ (rcV X nw an sv dv n0 n1 n2 n3 n4 g0 gs gn gm) (@HAppend.hAppend va_W va_W va_W _ ([((xa 2), .inl (X.2.2.2.1, 2, .inr (.inr (.inr (.inr (imQ i0 i1))))))]) (@HAppend.hAppend va_W va_W va_W _ (rcV X i0 adp svp dvp n0p n1p n2p n3p n4p g0p gsp gnp gmp) (@HAppend.hAppend va_W va_W va_W _ (rcV X i1 adq svq dvq n0q n1q n2q n3q n4q g0q gsq gnq gmq) (@HAppend.hAppend va_W va_W va_W _ ([((xa 3), .inl (X.2.2.1, 2, .inl fz))]) ([((xa 5), .inl (X.2.1, 3, .inl fr))]))))))) H locs := G
  rcases hp_1 with ⟨rfl, hw_1⟩ | ⟨rfl, hw_1⟩
  · refine lv_if_ne (tgt := 16) zx zb dX10_image_6 (by decide) (fun c_2 => ?_) (fun c_2 => absurd c_2 (by decide))
    obtain ⟨j0, hj0, rfl⟩ := k_nat01 hw_1
    refine lv_aload_n zx zb dX10_image_16 rfl (lv_at hl 0 rfl) ?_
    refine r_get (C := RX10) (T := TX10) (N := 14) (ci := 8) (v := .ref (xa 2)) S in_X10_image_X10 G 0 rfl rfl 2 (by decide) lk_X10_image_19 rfl dX10_image_17 ?_
    refine lv_iload_n zx zb dX10_image_20 rfl (lv_at hl 1 rfl) ?_
    rcases k_2c (show j0 < 2 by omega) with rfl | rfl
    · refine k_it (v := 0) rfl ?_
      refine r_aald (C := RX5) (b := i0) S G 17 2 rfl rfl (k_vp (by decide)) rfl dX10_image_21 ?_
      refine lv_aload_n zx zb dX10_image_22 rfl (lv_at hl 0 rfl) ?_
      refine r_get (C := RX10) (T := TX10) (N := 14) (ci := 8) (v := .ref nw) S in_X10_image_X10 G 0 rfl rfl 0 (by decide) lk_X10_image_10 rfl dX10_image_23 ?_
      refine b_wv (cells' := 0) (slots' := 0) (wr := @HAppend.hAppend va_W va_W va_W _ (xW h0 nw sp xa la lb) (@HAppend.hAppend va_W va_W va_W _ ([((xa 2), .inl (X.2.2.2.1, 2, .inr (.inr (.inr (.inr (imQ i0 i1))))))]) (@HAppend.hAppend va_W va_W va_W _ (rcV X i1 adq svq dvq n0q n1q n2q n3q n4q g0q gsq gnq gmq) (@HAppend.hAppend va_W va_W va_W _ ([((xa 3), .inl (X.2.2.1, 2, .inl fz))]) ([((xa 5), .inl (X.2.1, 3, .inl fr))]))))) G rfl rfl [18, 19, 20, 21, 22, 23, 24, 25, 26, 27, 28, 29, 30, 31, 32, 33, 1, 2, 3, 4, 5, 6, 7, 8, 9, 10, 11, 12, 13, 14, 15, 16] [0, 17, 34, 35, 36, 37, 38, 39, 40, 41, 42, 43, 44, 45, 46, 47, 48, 49, 50, 51] rfl rfl rfl rfl (n_V (As := [.ref nw]) (rest := []) (C := RX5) (T := TX5) (N := 8) (ci := 3) S G (x_copyFrom l X i0 adp svp dvp n0p n1p n2p n3p n4p g0p gsp gnp gmp nw an sv dv n0 n1 n2 n3 n4 g0 gs gn gm hI_n0p hI_n1p hI_n2p hI_n3p hI_n4p hI_n0 hI_n1 hI_n2 hI_n3 hI_n4 H.size) gX10_image_X5_copyFrom rfl rfl rfl hdV_X5_copyFrom ⟨Nat.le_of_ble_eq_true rfl, Nat.le_of_ble_eq_true rfl⟩ [18, 19, 20, 21, 22, 23, 24, 25, 26, 27, 28, 29, 30, 31, 32, 33, 1, 2, 3, 4, 5, 6, 7, 8, 9, 10, 11, 12, 13, 14, 15, 16] rfl rfl 18 rfl rfl rfl hl.1 (Nat.le_of_ble_eq_true rfl) dX10_image_26 ⟨Nat.le_of_ble_eq_true rfl, Nat.le_of_ble_eq_true rfl⟩) (fun u_3 H locs hp_3 G => ?_)
      obtain ⟨sv_3a, dv_3b, n0_3c, n1_3d, n2_3e, n3_3f, n4_3g, g0_3h, gs_3i, gn_3j, gm_3k⟩ := u_3
      try dsimp only at hp_3
      obtain ⟨hI_n0_3c, hI_n1_3d, hI_n2_3e, hI_n3_3f, hI_n4_3g, hq_3⟩ := hp_3
      have G : wd X (va_A (@HAppend.hAppend va_W va_W va_W _ (xW h0 nw sp xa la lb) (@HAppend.hAppend va_W va_W va_W _ (rcV X nw an sv dv n0 n1 n2 n3 n4 g0 gs gn gm) (@HAppend.hAppend va_W va_W va_W _ ([((xa 2), .inl (X.2.2.2.1, 2, .inr (.inr (.inr (.inr (imQ i0 i1))))))]) (@HAppend.hAppend va_W va_W va_W _ (rcV X i0 adp svp dvp n0p n1p n2p n3p n4p g0p gsp gnp gmp) (@HAppend.hAppend va_W va_W va_W _ (rcV X i1 adq svq dvq n0q n1q n2q n3q n4q g0q gsq gnq gmq) (@HAppend.hAppend va_W va_W va_W _ ([((xa 3), .inl (X.2.2.1, 2, .inl fz))]) ([((xa 5), .inl (X.2.1, 3, .inl fr))]))))))) sz) (va_A (@HAppend.hAppend va_W va_W va_W _ (xW h0 nw sp xa la lb) (@HAppend.hAppend va_W va_W va_W _ (rcV X nw an sv dv n0 n1 n2 n3 n4 g0 gs gn gm) (@HAppend.hAppend va_W va_W va_W _ ([((xa 2), .inl (X.2.2.2.1, 2, .inr (.inr (.inr (.inr (imQ i0 i1))))))]) (@HAppend.hAppend va_W va_W va_W _ (rcV X i0 adp svp dvp n0p n1p n2p n3p n4p g0p gsp gnp gmp) (@HAppend.hAppend va_W va_W va_W _ (rcV X i1 adq svq dvq n0q n1q n2q n3q n4q g0q gsq gnq gmq) (@HAppend.hAppend va_W va_W va_W _ ([((xa 3), .inl (X.2.2.1, 2, .inl fz))]) ([((xa 5), .inl (X.2.1, 3, .inl fr))]))))))) sz) s (@HAppend.hAppend va_W va_W va_W _ (xW h0 nw sp xa la lb) (@HAppend.hAppend va_W va_W va_W _ ([((xa 2), .inl (X.2.2.2.1, 2, .inr (.inr (.inr (.inr (imQ i0 i1))))))]) (@HAppend.hAppend va_W va_W va_W _ (rcV X i1 adq svq dvq n0q n1q n2q n3q n4q g0q gsq gnq gmq) (@HAppend.hAppend va_W va_W va_W _ ([((xa 3), .inl (X.2.2.1, 2, .inl fz))]) (@HAppend.hAppend va_W va_W va_W _ ([((xa 5), .inl (X.2.1, 3, .inl fr))]) (@HAppend.hAppend va_W va_W va_W _ (rcV X i0 adp sv_3a dv_3b n0_3c n1_3d n2_3e n3_3f n4_3g g0_3h gs_3i gn_3j gm_3k) (rcV X nw an sv dv n0 n1 n2 n3 n4 g0 gs gn gm))))))) H locs := G
      refine lv_aload_n zx zb dX10_image_29 rfl (lv_at hl 0 rfl) ?_
      refine r_get (C := RX10) (T := TX10) (N := 14) (ci := 8) (v := .ref (xa 3)) S in_X10_image_X10 G 0 rfl rfl 3 (by decide) lk_X10_image_23 rfl dX10_image_30 ?_
      refine lv_iload_n zx zb dX10_image_33 rfl (lv_at hl 1 rfl) ?_
      refine lv_iconst (v := 1) zx zb dX10_image_34 (by decide) ?_
      refine r_zast S G 18 rfl (k_vp (by decide)) dX10_image_35 (fun H locs G => ?_)
      obtain ⟨f_4, hE_f_4, G⟩ : ∃ f_4 : Nat → Int32, f_4 = upd fz (0 : Int32).toNatClampNeg 1 ∧ wd X (va_A (@HAppend.hAppend va_W va_W va_W _ (xW h0 nw sp xa la lb) (@HAppend.hAppend va_W va_W va_W _ (rcV X nw an sv dv n0 n1 n2 n3 n4 g0 gs gn gm) (@HAppend.hAppend va_W va_W va_W _ ([((xa 2), .inl (X.2.2.2.1, 2, .inr (.inr (.inr (.inr (imQ i0 i1))))))]) (@HAppend.hAppend va_W va_W va_W _ (rcV X i0 adp svp dvp n0p n1p n2p n3p n4p g0p gsp gnp gmp) (@HAppend.hAppend va_W va_W va_W _ (rcV X i1 adq svq dvq n0q n1q n2q n3q n4q g0q gsq gnq gmq) (@HAppend.hAppend va_W va_W va_W _ ([((xa 3), .inl (X.2.2.1, 2, .inl fz))]) ([((xa 5), .inl (X.2.1, 3, .inl fr))]))))))) sz) (va_A (@HAppend.hAppend va_W va_W va_W _ (xW h0 nw sp xa la lb) (@HAppend.hAppend va_W va_W va_W _ (rcV X nw an sv dv n0 n1 n2 n3 n4 g0 gs gn gm) (@HAppend.hAppend va_W va_W va_W _ ([((xa 2), .inl (X.2.2.2.1, 2, .inr (.inr (.inr (.inr (imQ i0 i1))))))]) (@HAppend.hAppend va_W va_W va_W _ (rcV X i0 adp svp dvp n0p n1p n2p n3p n4p g0p gsp gnp gmp) (@HAppend.hAppend va_W va_W va_W _ (rcV X i1 adq svq dvq n0q n1q n2q n3q n4q g0q gsq gnq gmq) (@HAppend.hAppend va_W va_W va_W _ ([((xa 3), .inl (X.2.2.1, 2, .inl fz))]) ([((xa 5), .inl (X.2.1, 3, .inl fr))]))))))) sz) s (@HAppend.hAppend va_W va_W va_W _ (xW h0 nw sp xa la lb) (@HAppend.hAppend va_W va_W va_W _ ([((xa 2), .inl (X.2.2.2.1, 2, .inr (.inr (.inr (.inr (imQ i0 i1))))))]) (@HAppend.hAppend va_W va_W va_W _ (rcV X i1 adq svq dvq n0q n1q n2q n3q n4q g0q gsq gnq gmq) (@HAppend.hAppend va_W va_W va_W _ ([((xa 3), .inl (X.2.2.1, 2, .inl f_4))]) (@HAppend.hAppend va_W va_W va_W _ ([((xa 5), .inl (X.2.1, 3, .inl fr))]) (@HAppend.hAppend va_W va_W va_W _ (rcV X i0 adp sv_3a dv_3b n0_3c n1_3d n2_3e n3_3f n4_3g g0_3h gs_3i gn_3j gm_3k) (rcV X nw an sv dv n0 n1 n2 n3 n4 g0 gs gn gm))))))) H locs := ⟨_, rfl, G⟩
      refine lv_iconst (v := 1) zx zb dX10_image_36 (by decide) ?_
      have hzA : (1, (f_4, ((n0_3c, n2_3e, n3_3f, n4_3g), (n0q, n2q, n3q, n4q)))) = imgF 0 fz (n0, n2, n3, n4) (n0p, n2p, n3p, n4p) (n0q, n2q, n3q, n4q) := by rw [hE_f_4, hq_3.1.1, hq_3.1.2.1, hq_3.1.2.2.1, hq_3.1.2.2.2]; rfl
      have hzB : ((0 : Int32) = 0 → cpyP sv_3a gs_3i gn_3j gm_3k sv gs gn gm n2 n3 n4 ∧ samP svq gsq gnq gmq svq gsq gnq gmq) ∧ ((0 : Int32) = 1 → cpyP svq gsq gnq gmq sv gs gn gm n2 n3 n4 ∧ samP sv_3a gs_3i gn_3j gm_3k svp gsp gnp gmp) ∧ (¬ ((0 : Int32) ≤ (0 : Int32) ∧ (0 : Int32) ≤ 1) → samP sv_3a gs_3i gn_3j gm_3k svp gsp gnp gmp ∧ samP svq gsq gnq gmq svq gsq gnq gmq) := ⟨fun _ => ⟨hq_3.2, samP_r⟩, fun e => absurd e (by decide), fun h => absurd (by decide) h⟩
      exact e_int S zr zlk (vp_nar_int _) G (sv_3a, dv_3b, n0_3c, n1_3d, n2_3e, n3_3f, n4_3g, g0_3h, gs_3i, gn_3j, gm_3k, svq, dvq, n0q, n1q, n2q, n3q, n4q, g0q, gsq, gnq, gmq, f_4, fr) [0, 36, 37, 38, 39, 40, 41, 42, 43, 44, 45, 46, 47, 48, 49, 50, 51, 1, 20, 21, 22, 23, 24, 25, 26, 27, 28, 29, 30, 31, 32, 33, 34, 35, 2, 3, 4, 5, 6, 7, 8, 9, 10, 11, 12, 13, 14, 15, 16, 17, 18, 19] rfl rfl (Or.inr rfl) (⟨hI_n0_3c, hI_n1_3d, hI_n2_3e, hI_n3_3f, hI_n4_3g, hI_n0q, hI_n1q, hI_n2q, hI_n3q, hI_n4q, ⟨hzA, hzB⟩⟩) dX10_image_37
    · refine k_it (v := 1) rfl ?_
      refine r_aald (C := RX5) (b := i1) S G 17 2 rfl rfl (k_vp (by decide)) rfl dX10_image_21 ?_
      refine lv_aload_n zx zb dX10_image_22 rfl (lv_at hl 0 rfl) ?_
      refine r_get (C := RX10) (T := TX10) (N := 14) (ci := 8) (v := .ref nw) S in_X10_image_X10 G 0 rfl rfl 0 (by decide) lk_X10_image_10 rfl dX10_image_23 ?_
      refine b_wv (cells' := 0) (slots' := 0) (wr := @HAppend.hAppend va_W va_W va_W _ (xW h0 nw sp xa la lb) (@HAppend.hAppend va_W va_W va_W _ ([((xa 2), .inl (X.2.2.2.1, 2, .inr (.inr (.inr (.inr (imQ i0 i1))))))]) (@HAppend.hAppend va_W va_W va_W _ (rcV X i0 adp svp dvp n0p n1p n2p n3p n4p g0p gsp gnp gmp) (@HAppend.hAppend va_W va_W va_W _ ([((xa 3), .inl (X.2.2.1, 2, .inl fz))]) ([((xa 5), .inl (X.2.1, 3, .inl fr))]))))) G rfl rfl [34, 35, 36, 37, 38, 39, 40, 41, 42, 43, 44, 45, 46, 47, 48, 49, 1, 2, 3, 4, 5, 6, 7, 8, 9, 10, 11, 12, 13, 14, 15, 16] [0, 17, 18, 19, 20, 21, 22, 23, 24, 25, 26, 27, 28, 29, 30, 31, 32, 33, 50, 51] rfl rfl rfl rfl (n_V (As := [.ref nw]) (rest := []) (C := RX5) (T := TX5) (N := 8) (ci := 3) S G (x_copyFrom l X i1 adq svq dvq n0q n1q n2q n3q n4q g0q gsq gnq gmq nw an sv dv n0 n1 n2 n3 n4 g0 gs gn gm hI_n0q hI_n1q hI_n2q hI_n3q hI_n4q hI_n0 hI_n1 hI_n2 hI_n3 hI_n4 H.size) gX10_image_X5_copyFrom rfl rfl rfl hdV_X5_copyFrom ⟨Nat.le_of_ble_eq_true rfl, Nat.le_of_ble_eq_true rfl⟩ [34, 35, 36, 37, 38, 39, 40, 41, 42, 43, 44, 45, 46, 47, 48, 49, 1, 2, 3, 4, 5, 6, 7, 8, 9, 10, 11, 12, 13, 14, 15, 16] rfl rfl 34 rfl rfl rfl hl.1 (Nat.le_of_ble_eq_true rfl) dX10_image_26 ⟨Nat.le_of_ble_eq_true rfl, Nat.le_of_ble_eq_true rfl⟩) (fun u_5 H locs hp_5 G => ?_)
      obtain ⟨sv_5a, dv_5b, n0_5c, n1_5d, n2_5e, n3_5f, n4_5g, g0_5h, gs_5i, gn_5j, gm_5k⟩ := u_5
      try dsimp only at hp_5
      obtain ⟨hI_n0_5c, hI_n1_5d, hI_n2_5e, hI_n3_5f, hI_n4_5g, hq_5⟩ := hp_5
      have G : wd X (va_A (@HAppend.hAppend va_W va_W va_W _ (xW h0 nw sp xa la lb) (@HAppend.hAppend va_W va_W va_W _ (rcV X nw an sv dv n0 n1 n2 n3 n4 g0 gs gn gm) (@HAppend.hAppend va_W va_W va_W _ ([((xa 2), .inl (X.2.2.2.1, 2, .inr (.inr (.inr (.inr (imQ i0 i1))))))]) (@HAppend.hAppend va_W va_W va_W _ (rcV X i0 adp svp dvp n0p n1p n2p n3p n4p g0p gsp gnp gmp) (@HAppend.hAppend va_W va_W va_W _ (rcV X i1 adq svq dvq n0q n1q n2q n3q n4q g0q gsq gnq gmq) (@HAppend.hAppend va_W va_W va_W _ ([((xa 3), .inl (X.2.2.1, 2, .inl fz))]) ([((xa 5), .inl (X.2.1, 3, .inl fr))]))))))) sz) (va_A (@HAppend.hAppend va_W va_W va_W _ (xW h0 nw sp xa la lb) (@HAppend.hAppend va_W va_W va_W _ (rcV X nw an sv dv n0 n1 n2 n3 n4 g0 gs gn gm) (@HAppend.hAppend va_W va_W va_W _ ([((xa 2), .inl (X.2.2.2.1, 2, .inr (.inr (.inr (.inr (imQ i0 i1))))))]) (@HAppend.hAppend va_W va_W va_W _ (rcV X i0 adp svp dvp n0p n1p n2p n3p n4p g0p gsp gnp gmp) (@HAppend.hAppend va_W va_W va_W _ (rcV X i1 adq svq dvq n0q n1q n2q n3q n4q g0q gsq gnq gmq) (@HAppend.hAppend va_W va_W va_W _ ([((xa 3), .inl (X.2.2.1, 2, .inl fz))]) ([((xa 5), .inl (X.2.1, 3, .inl fr))]))))))) sz) s (@HAppend.hAppend va_W va_W va_W _ (xW h0 nw sp xa la lb) (@HAppend.hAppend va_W va_W va_W _ ([((xa 2), .inl (X.2.2.2.1, 2, .inr (.inr (.inr (.inr (imQ i0 i1))))))]) (@HAppend.hAppend va_W va_W va_W _ (rcV X i0 adp svp dvp n0p n1p n2p n3p n4p g0p gsp gnp gmp) (@HAppend.hAppend va_W va_W va_W _ ([((xa 3), .inl (X.2.2.1, 2, .inl fz))]) (@HAppend.hAppend va_W va_W va_W _ ([((xa 5), .inl (X.2.1, 3, .inl fr))]) (@HAppend.hAppend va_W va_W va_W _ (rcV X i1 adq sv_5a dv_5b n0_5c n1_5d n2_5e n3_5f n4_5g g0_5h gs_5i gn_5j gm_5k) (rcV X nw an sv dv n0 n1 n2 n3 n4 g0 gs gn gm))))))) H locs := G
      refine lv_aload_n zx zb dX10_image_29 rfl (lv_at hl 0 rfl) ?_
      refine r_get (C := RX10) (T := TX10) (N := 14) (ci := 8) (v := .ref (xa 3)) S in_X10_image_X10 G 0 rfl rfl 3 (by decide) lk_X10_image_23 rfl dX10_image_30 ?_
      refine lv_iload_n zx zb dX10_image_33 rfl (lv_at hl 1 rfl) ?_
      refine lv_iconst (v := 1) zx zb dX10_image_34 (by decide) ?_
      refine r_zast S G 18 rfl (k_vp (by decide)) dX10_image_35 (fun H locs G => ?_)
      obtain ⟨f_6, hE_f_6, G⟩ : ∃ f_6 : Nat → Int32, f_6 = upd fz (1 : Int32).toNatClampNeg 1 ∧ wd X (va_A (@HAppend.hAppend va_W va_W va_W _ (xW h0 nw sp xa la lb) (@HAppend.hAppend va_W va_W va_W _ (rcV X nw an sv dv n0 n1 n2 n3 n4 g0 gs gn gm) (@HAppend.hAppend va_W va_W va_W _ ([((xa 2), .inl (X.2.2.2.1, 2, .inr (.inr (.inr (.inr (imQ i0 i1))))))]) (@HAppend.hAppend va_W va_W va_W _ (rcV X i0 adp svp dvp n0p n1p n2p n3p n4p g0p gsp gnp gmp) (@HAppend.hAppend va_W va_W va_W _ (rcV X i1 adq svq dvq n0q n1q n2q n3q n4q g0q gsq gnq gmq) (@HAppend.hAppend va_W va_W va_W _ ([((xa 3), .inl (X.2.2.1, 2, .inl fz))]) ([((xa 5), .inl (X.2.1, 3, .inl fr))]))))))) sz) (va_A (@HAppend.hAppend va_W va_W va_W _ (xW h0 nw sp xa la lb) (@HAppend.hAppend va_W va_W va_W _ (rcV X nw an sv dv n0 n1 n2 n3 n4 g0 gs gn gm) (@HAppend.hAppend va_W va_W va_W _ ([((xa 2), .inl (X.2.2.2.1, 2, .inr (.inr (.inr (.inr (imQ i0 i1))))))]) (@HAppend.hAppend va_W va_W va_W _ (rcV X i0 adp svp dvp n0p n1p n2p n3p n4p g0p gsp gnp gmp) (@HAppend.hAppend va_W va_W va_W _ (rcV X i1 adq svq dvq n0q n1q n2q n3q n4q g0q gsq gnq gmq) (@HAppend.hAppend va_W va_W va_W _ ([((xa 3), .inl (X.2.2.1, 2, .inl fz))]) ([((xa 5), .inl (X.2.1, 3, .inl fr))]))))))) sz) s (@HAppend.hAppend va_W va_W va_W _ (xW h0 nw sp xa la lb) (@HAppend.hAppend va_W va_W va_W _ ([((xa 2), .inl (X.2.2.2.1, 2, .inr (.inr (.inr (.inr (imQ i0 i1))))))]) (@HAppend.hAppend va_W va_W va_W _ (rcV X i0 adp svp dvp n0p n1p n2p n3p n4p g0p gsp gnp gmp) (@HAppend.hAppend va_W va_W va_W _ ([((xa 3), .inl (X.2.2.1, 2, .inl f_6))]) (@HAppend.hAppend va_W va_W va_W _ ([((xa 5), .inl (X.2.1, 3, .inl fr))]) (@HAppend.hAppend va_W va_W va_W _ (rcV X i1 adq sv_5a dv_5b n0_5c n1_5d n2_5e n3_5f n4_5g g0_5h gs_5i gn_5j gm_5k) (rcV X nw an sv dv n0 n1 n2 n3 n4 g0 gs gn gm))))))) H locs := ⟨_, rfl, G⟩
      refine lv_iconst (v := 1) zx zb dX10_image_36 (by decide) ?_
      have hzA : (1, (f_6, ((n0p, n2p, n3p, n4p), (n0_5c, n2_5e, n3_5f, n4_5g)))) = imgF 1 fz (n0, n2, n3, n4) (n0p, n2p, n3p, n4p) (n0q, n2q, n3q, n4q) := by rw [hE_f_6, hq_5.1.1, hq_5.1.2.1, hq_5.1.2.2.1, hq_5.1.2.2.2]; rfl
      have hzB : ((1 : Int32) = 0 → cpyP svp gsp gnp gmp sv gs gn gm n2 n3 n4 ∧ samP sv_5a gs_5i gn_5j gm_5k svq gsq gnq gmq) ∧ ((1 : Int32) = 1 → cpyP sv_5a gs_5i gn_5j gm_5k sv gs gn gm n2 n3 n4 ∧ samP svp gsp gnp gmp svp gsp gnp gmp) ∧ (¬ ((0 : Int32) ≤ (1 : Int32) ∧ (1 : Int32) ≤ 1) → samP svp gsp gnp gmp svp gsp gnp gmp ∧ samP sv_5a gs_5i gn_5j gm_5k svq gsq gnq gmq) := ⟨fun e => absurd e (by decide), fun _ => ⟨hq_5.2, samP_r⟩, fun h => absurd (by decide) h⟩
      exact e_int S zr zlk (vp_nar_int _) G (svp, dvp, n0p, n1p, n2p, n3p, n4p, g0p, gsp, gnp, gmp, sv_5a, dv_5b, n0_5c, n1_5d, n2_5e, n3_5f, n4_5g, g0_5h, gs_5i, gn_5j, gm_5k, f_6, fr) [0, 36, 37, 38, 39, 40, 41, 42, 43, 44, 45, 46, 47, 48, 49, 50, 51, 1, 2, 3, 4, 5, 6, 7, 8, 9, 10, 11, 12, 13, 14, 15, 16, 17, 20, 21, 22, 23, 24, 25, 26, 27, 28, 29, 30, 31, 32, 33, 34, 35, 18, 19] rfl rfl (Or.inr rfl) (⟨hI_n0p, hI_n1p, hI_n2p, hI_n3p, hI_n4p, hI_n0_5c, hI_n1_5d, hI_n2_5e, hI_n3_5f, hI_n4_5g, ⟨hzA, hzB⟩⟩) dX10_image_37
  · refine lv_if_ne (tgt := 16) zx zb dX10_image_6 (by decide) (fun c_7 => absurd (by decide) c_7) (fun c_7 => ?_)
    refine lv_aload_n zx zb dX10_image_9 rfl (lv_at hl 0 rfl) ?_
    refine lv_bipush (v := (-2)) zx zb dX10_image_10 (by decide) ?_
    refine b_wi (cells' := 0) (slots' := 0) (wr := @HAppend.hAppend va_W va_W va_W _ (rcV X nw an sv dv n0 n1 n2 n3 n4 g0 gs gn gm) (@HAppend.hAppend va_W va_W va_W _ ([((xa 2), .inl (X.2.2.2.1, 2, .inr (.inr (.inr (.inr (imQ i0 i1))))))]) (@HAppend.hAppend va_W va_W va_W _ (rcV X i0 adp svp dvp n0p n1p n2p n3p n4p g0p gsp gnp gmp) (@HAppend.hAppend va_W va_W va_W _ (rcV X i1 adq svq dvq n0q n1q n2q n3q n4q g0q gsq gnq gmq) ([((xa 3), .inl (X.2.2.1, 2, .inl fz))]))))) G rfl rfl [0, 51] [1, 2, 3, 4, 5, 6, 7, 8, 9, 10, 11, 12, 13, 14, 15, 16, 17, 18, 19, 20, 21, 22, 23, 24, 25, 26, 27, 28, 29, 30, 31, 32, 33, 34, 35, 36, 37, 38, 39, 40, 41, 42, 43, 44, 45, 46, 47, 48, 49, 50] rfl rfl rfl rfl (n_V (As := [.int (-2)]) (rest := []) (C := RX10) (T := TX10) (N := 14) (ci := 8) S G (s_refuse l X h0 nw sp xa la lb fr (-2) H.size) gX10_image_X10_refuse rfl rfl rfl hdV_X10_refuse ⟨Nat.le_of_ble_eq_true rfl, Nat.le_of_ble_eq_true rfl⟩ [0, 51] rfl rfl 0 rfl rfl rfl hl.1 (Nat.le_of_ble_eq_true rfl) dX10_image_12 ⟨Nat.le_of_ble_eq_true rfl, Nat.le_of_ble_eq_true rfl⟩) (fun r_8 u_8 H locs hp_8 G => ?_)
    obtain ⟨f_8, rfl⟩ : ∃ z, z = u_8 := ⟨_, rfl⟩
    have hq_8 := hp_8
    have G : wd X (va_A (@HAppend.hAppend va_W va_W va_W _ (xW h0 nw sp xa la lb) (@HAppend.hAppend va_W va_W va_W _ (rcV X nw an sv dv n0 n1 n2 n3 n4 g0 gs gn gm) (@HAppend.hAppend va_W va_W va_W _ ([((xa 2), .inl (X.2.2.2.1, 2, .inr (.inr (.inr (.inr (imQ i0 i1))))))]) (@HAppend.hAppend va_W va_W va_W _ (rcV X i0 adp svp dvp n0p n1p n2p n3p n4p g0p gsp gnp gmp) (@HAppend.hAppend va_W va_W va_W _ (rcV X i1 adq svq dvq n0q n1q n2q n3q n4q g0q gsq gnq gmq) (@HAppend.hAppend va_W va_W va_W _ ([((xa 3), .inl (X.2.2.1, 2, .inl fz))]) ([((xa 5), .inl (X.2.1, 3, .inl fr))]))))))) sz) (va_A (@HAppend.hAppend va_W va_W va_W _ (xW h0 nw sp xa la lb) (@HAppend.hAppend va_W va_W va_W _ (rcV X nw an sv dv n0 n1 n2 n3 n4 g0 gs gn gm) (@HAppend.hAppend va_W va_W va_W _ ([((xa 2), .inl (X.2.2.2.1, 2, .inr (.inr (.inr (.inr (imQ i0 i1))))))]) (@HAppend.hAppend va_W va_W va_W _ (rcV X i0 adp svp dvp n0p n1p n2p n3p n4p g0p gsp gnp gmp) (@HAppend.hAppend va_W va_W va_W _ (rcV X i1 adq svq dvq n0q n1q n2q n3q n4q g0q gsq gnq gmq) (@HAppend.hAppend va_W va_W va_W _ ([((xa 3), .inl (X.2.2.1, 2, .inl fz))]) ([((xa 5), .inl (X.2.1, 3, .inl fr))]))))))) sz) s (@HAppend.hAppend va_W va_W va_W _ (rcV X nw an sv dv n0 n1 n2 n3 n4 g0 gs gn gm) (@HAppend.hAppend va_W va_W va_W _ ([((xa 2), .inl (X.2.2.2.1, 2, .inr (.inr (.inr (.inr (imQ i0 i1))))))]) (@HAppend.hAppend va_W va_W va_W _ (rcV X i0 adp svp dvp n0p n1p n2p n3p n4p g0p gsp gnp gmp) (@HAppend.hAppend va_W va_W va_W _ (rcV X i1 adq svq dvq n0q n1q n2q n3q n4q g0q gsq gnq gmq) (@HAppend.hAppend va_W va_W va_W _ ([((xa 3), .inl (X.2.2.1, 2, .inl fz))]) (@HAppend.hAppend va_W va_W va_W _ (xW h0 nw sp xa la lb) ([((xa 5), .inl (X.2.1, 3, .inl f_8))]))))))) H locs := G
    have hzA : (r_8, (fz, ((n0p, n2p, n3p, n4p), (n0q, n2q, n3q, n4q)))) = imgF x1 fz (n0, n2, n3, n4) (n0p, n2p, n3p, n4p) (n0q, n2q, n3q, n4q) := by rw [imgF_n (fun h => hw_1 h), hq_8]
    have hzB : (x1 = 0 → cpyP svp gsp gnp gmp sv gs gn gm n2 n3 n4 ∧ samP svq gsq gnq gmq svq gsq gnq gmq) ∧ (x1 = 1 → cpyP svq gsq gnq gmq sv gs gn gm n2 n3 n4 ∧ samP svp gsp gnp gmp svp gsp gnp gmp) ∧ (¬ ((0 : Int32) ≤ x1 ∧ x1 ≤ 1) → samP svp gsp gnp gmp svp gsp gnp gmp ∧ samP svq gsq gnq gmq svq gsq gnq gmq) := ⟨(k_no01 (fun h => hw_1 h)).1, (k_no01 (fun h => hw_1 h)).2, fun _ => ⟨samP_r, samP_r⟩⟩
    exact e_int S zr zlk (vp_nar_int _) G (svp, dvp, n0p, n1p, n2p, n3p, n4p, g0p, gsp, gnp, gmp, svq, dvq, n0q, n1q, n2q, n3q, n4q, g0q, gsq, gnq, gmq, fz, f_8) [50, 0, 1, 2, 3, 4, 5, 6, 7, 8, 9, 10, 11, 12, 13, 14, 15, 16, 17, 18, 19, 20, 21, 22, 23, 24, 25, 26, 27, 28, 29, 30, 31, 32, 33, 34, 35, 36, 37, 38, 39, 40, 41, 42, 43, 44, 45, 46, 47, 48, 49, 51] rfl rfl (Or.inr rfl) (⟨hI_n0p, hI_n1p, hI_n2p, hI_n3p, hI_n4p, hI_n0q, hI_n1q, hI_n2q, hI_n3q, hI_n4q, ⟨hzA, hzB⟩⟩) dX10_image_15
set_option maxHeartbeats 4000000 in
set_option maxRecDepth 100000 in
theorem x_from (l : Launch) (X : EX) (h0 : Nat) (nw : Nat) (sp : Nat) (xa : Nat → Nat) (la : Int64) (lb : Int64) (an : Nat → Nat) (sv : Nat → Int32) (dv : Nat → Int32) (n0 : Nat) (n1 : Nat) (n2 : Nat) (n3 : Nat) (n4 : Nat) (g0 : Nat → Int32) (gs : Nat → Int32) (gn : Nat → Int32) (gm : Nat → Int32) (i0 : Nat) (i1 : Nat) (adp : Nat → Nat) (svp : Nat → Int32) (dvp : Nat → Int32) (n0p : Nat) (n1p : Nat) (n2p : Nat) (n3p : Nat) (n4p : Nat) (g0p : Nat → Int32) (gsp : Nat → Int32) (gnp : Nat → Int32) (gmp : Nat → Int32) (adq : Nat → Nat) (svq : Nat → Int32) (dvq : Nat → Int32) (n0q : Nat) (n1q : Nat) (n2q : Nat) (n3q : Nat) (n4q : Nat) (g0q : Nat → Int32) (gsq : Nat → Int32) (gnq : Nat → Int32) (gmq : Nat → Int32) (fz : Nat → Int32) (fr : Nat → Int32) (x1 : Int32) (hI_n0 : n0 ≤ 6) (hI_n1 : n1 ≤ 8) (hI_n2 : n2 ≤ 5) (hI_n3 : n3 ≤ 6) (hI_n4 : n4 ≤ 6) (hI_n0p : n0p ≤ 6) (hI_n1p : n1p ≤ 8) (hI_n2p : n2p ≤ 5) (hI_n3p : n3p ≤ 6) (hI_n4p : n4p ≤ 6) (hI_n0q : n0q ≤ 6) (hI_n1q : n1q ≤ 8) (hI_n2q : n2q ≤ 5) (hI_n3q : n3q ≤ 6) (hI_n4q : n4q ≤ 6) (sz : Nat) : Met l yX10_from wsX10_from ({ frames := 3, cells := 0, slots := 0, locals := 102 } : Room) (pE X [.ref h0, .int x1] (@HAppend.hAppend va_W va_W va_W _ (xW h0 nw sp xa la lb) (@HAppend.hAppend va_W va_W va_W _ (rcV X nw an sv dv n0 n1 n2 n3 n4 g0 gs gn gm) (@HAppend.hAppend va_W va_W va_W _ ([((xa 2), .inl (X.2.2.2.1, 2, .inr (.inr (.inr (.inr (imQ i0 i1))))))]) (@HAppend.hAppend va_W va_W va_W _ (rcV X i0 adp svp dvp n0p n1p n2p n3p n4p g0p gsp gnp gmp) (@HAppend.hAppend va_W va_W va_W _ (rcV X i1 adq svq dvq n0q n1q n2q n3q n4q g0q gsq gnq gmq) (@HAppend.hAppend va_W va_W va_W _ ([((xa 3), .inl (X.2.2.1, 2, .inl fz))]) ([((xa 5), .inl (X.2.1, 3, .inl fr))]))))))) sz) (qI (fun (r : Int32) (u : (Nat → Int32) × (Nat → Int32) × (Nat) × (Nat) × (Nat) × (Nat) × (Nat) × (Nat → Int32) × (Nat → Int32) × (Nat → Int32) × (Nat → Int32) × (Nat → Int32)) => u.2.2.1 ≤ 6 ∧ u.2.2.2.1 ≤ 8 ∧ u.2.2.2.2.1 ≤ 5 ∧ u.2.2.2.2.2.1 ≤ 6 ∧ u.2.2.2.2.2.2.1 ≤ 6 ∧ (((r, (u.2.2.1, u.2.2.2.2.1, u.2.2.2.2.2.1, u.2.2.2.2.2.2.1)) = frmF x1 fz (n0, n2, n3, n4) (n0p, n2p, n3p, n4p) (n0q, n2q, n3q, n4q)) ∧ (x1 = 0 → ¬ fz 0 = 0 → cpyP u.1 u.2.2.2.2.2.2.2.2.1 u.2.2.2.2.2.2.2.2.2.1 u.2.2.2.2.2.2.2.2.2.2.1 svp gsp gnp gmp n2p n3p n4p) ∧ (x1 = 1 → ¬ fz 1 = 0 → cpyP u.1 u.2.2.2.2.2.2.2.2.1 u.2.2.2.2.2.2.2.2.2.1 u.2.2.2.2.2.2.2.2.2.2.1 svq gsq gnq gmq n2q n3q n4q) ∧ ((¬ ((0 : Int32) ≤ x1 ∧ x1 ≤ 1) ∨ (x1 = 0 ∧ fz 0 = 0) ∨ (x1 = 1 ∧ fz 1 = 0)) → samP u.1 u.2.2.2.2.2.2.2.2.1 u.2.2.2.2.2.2.2.2.2.1 u.2.2.2.2.2.2.2.2.2.2.1 sv gs gn gm))) X (fun (u : (Nat → Int32) × (Nat → Int32) × (Nat) × (Nat) × (Nat) × (Nat) × (Nat) × (Nat → Int32) × (Nat → Int32) × (Nat → Int32) × (Nat → Int32) × (Nat → Int32)) => @HAppend.hAppend va_W va_W va_W _ (xW h0 nw sp xa la lb) (@HAppend.hAppend va_W va_W va_W _ (rcV X nw an u.1 u.2.1 u.2.2.1 u.2.2.2.1 u.2.2.2.2.1 u.2.2.2.2.2.1 u.2.2.2.2.2.2.1 u.2.2.2.2.2.2.2.1 u.2.2.2.2.2.2.2.2.1 u.2.2.2.2.2.2.2.2.2.1 u.2.2.2.2.2.2.2.2.2.2.1) (@HAppend.hAppend va_W va_W va_W _ ([((xa 2), .inl (X.2.2.2.1, 2, .inr (.inr (.inr (.inr (imQ i0 i1))))))]) (@HAppend.hAppend va_W va_W va_W _ (rcV X i0 adp svp dvp n0p n1p n2p n3p n4p g0p gsp gnp gmp) (@HAppend.hAppend va_W va_W va_W _ (rcV X i1 adq svq dvq n0q n1q n2q n3q n4q g0q gsq gnq gmq) (@HAppend.hAppend va_W va_W va_W _ ([((xa 3), .inl (X.2.2.1, 2, .inl fz))]) ([((xa 5), .inl (X.2.1, 3, .inl u.2.2.2.2.2.2.2.2.2.2.2))]))))))) (@HAppend.hAppend va_W va_W va_W _ (xW h0 nw sp xa la lb) (@HAppend.hAppend va_W va_W va_W _ (rcV X nw an sv dv n0 n1 n2 n3 n4 g0 gs gn gm) (@HAppend.hAppend va_W va_W va_W _ ([((xa 2), .inl (X.2.2.2.1, 2, .inr (.inr (.inr (.inr (imQ i0 i1))))))]) (@HAppend.hAppend va_W va_W va_W _ (rcV X i0 adp svp dvp n0p n1p n2p n3p n4p g0p gsp gnp gmp) (@HAppend.hAppend va_W va_W va_W _ (rcV X i1 adq svq dvq n0q n1q n2q n3q n4q g0q gsq gnq gmq) (@HAppend.hAppend va_W va_W va_W _ ([((xa 3), .inl (X.2.2.1, 2, .inl fz))]) ([((xa 5), .inl (X.2.1, 3, .inl fr))]))))))) sz) 0 0 (va_A (@HAppend.hAppend va_W va_W va_W _ (xW h0 nw sp xa la lb) (@HAppend.hAppend va_W va_W va_W _ (rcV X nw an sv dv n0 n1 n2 n3 n4 g0 gs gn gm) (@HAppend.hAppend va_W va_W va_W _ ([((xa 2), .inl (X.2.2.2.1, 2, .inr (.inr (.inr (.inr (imQ i0 i1))))))]) (@HAppend.hAppend va_W va_W va_W _ (rcV X i0 adp svp dvp n0p n1p n2p n3p n4p g0p gsp gnp gmp) (@HAppend.hAppend va_W va_W va_W _ (rcV X i1 adq svq dvq n0q n1q n2q n3q n4q g0q gsq gnq gmq) (@HAppend.hAppend va_W va_W va_W _ ([((xa 3), .inl (X.2.2.1, 2, .inl fz))]) ([((xa 5), .inl (X.2.1, 3, .inl fr))]))))))) sz) := by
  refine mk_met (B := (va_A (@HAppend.hAppend va_W va_W va_W _ (xW h0 nw sp xa la lb) (@HAppend.hAppend va_W va_W va_W _ (rcV X nw an sv dv n0 n1 n2 n3 n4 g0 gs gn gm) (@HAppend.hAppend va_W va_W va_W _ ([((xa 2), .inl (X.2.2.2.1, 2, .inr (.inr (.inr (.inr (imQ i0 i1))))))]) (@HAppend.hAppend va_W va_W va_W _ (rcV X i0 adp svp dvp n0p n1p n2p n3p n4p g0p gsp gnp gmp) (@HAppend.hAppend va_W va_W va_W _ (rcV X i1 adq svq dvq n0q n1q n2q n3q n4q g0q gsq gnq gmq) (@HAppend.hAppend va_W va_W va_W _ ([((xa 3), .inl (X.2.2.1, 2, .inl fz))]) ([((xa 5), .inl (X.2.1, 3, .inl fr))]))))))) sz)) (A := (va_A (@HAppend.hAppend va_W va_W va_W _ (xW h0 nw sp xa la lb) (@HAppend.hAppend va_W va_W va_W _ (rcV X nw an sv dv n0 n1 n2 n3 n4 g0 gs gn gm) (@HAppend.hAppend va_W va_W va_W _ ([((xa 2), .inl (X.2.2.2.1, 2, .inr (.inr (.inr (.inr (imQ i0 i1))))))]) (@HAppend.hAppend va_W va_W va_W _ (rcV X i0 adp svp dvp n0p n1p n2p n3p n4p g0p gsp gnp gmp) (@HAppend.hAppend va_W va_W va_W _ (rcV X i1 adq svq dvq n0q n1q n2q n3q n4q g0q gsq gnq gmq) (@HAppend.hAppend va_W va_W va_W _ ([((xa 3), .inl (X.2.2.1, 2, .inl fz))]) ([((xa 5), .inl (X.2.1, 3, .inl fr))]))))))) sz)) (cc := cX10_from) (maxL := 2) (ret := (some .int)) (by decide) rfl (Nat.le_of_ble_eq_true rfl) k_w k_a (fun p e s m below meth c S zr zlk znm zsz G ls hl => ?_)
  have S : CallFix p m c cX10_from 2 s _ wsX10_from RX10 := S
  have zx := S.1
  have zb := S.2.1
  have hl : lv_has ls 2 [(0, .ref h0), (1, .int x1)] := hl
  refine lv_iload_n zx zb dX10_from_0 rfl (lv_at hl 1 rfl) ?_
  refine lv_iconst (v := 0) zx zb dX10_from_1 (by decide) ?_
  refine lv_iconst (v := 1) zx zb dX10_from_2 (by decide) ?_
  refine o_ri (cells' := 0) (slots' := 0) G rfl rfl (n_S (As := [.int x1, .int 0, .int 1]) (rest := []) S G (s_within l X x1 0 1 s.heap.size) gX10_from_X10_within rfl rfl rfl hdS_X10_within ⟨Nat.le_of_ble_eq_true rfl, Nat.le_of_ble_eq_true rfl⟩ [] rfl rfl rfl hl.1 (Nat.le_of_ble_eq_true rfl) dX10_from_3 ⟨Nat.le_of_ble_eq_true rfl, Nat.le_of_ble_eq_true rfl⟩) (fun r_1 u_1 H locs hp_1 G => ?_)
  have G : wd X (va_A (@HAppend.hAppend va_W va_W va_W _ (xW h0 nw sp xa la lb) (@HAppend.hAppend va_W va_W va_W _ (rcV X nw an sv dv n0 n1 n2 n3 n4 g0 gs gn gm) (@HAppend.hAppend va_W va_W va_W _ ([((xa 2), .inl (X.2.2.2.1, 2, .inr (.inr (.inr (.inr (imQ i0 i1))))))]) (@HAppend.hAppend va_W va_W va_W _ (rcV X i0 adp svp dvp n0p n1p n2p n3p n4p g0p gsp gnp gmp) (@HAppend.hAppend va_W va_W va_W _ (rcV X i1 adq svq dvq n0q n1q n2q n3q n4q g0q gsq gnq gmq) (@HAppend.hAppend va_W va_W va_W _ ([((xa 3), .inl (X.2.2.1, 2, .inl fz))]) ([((xa 5), .inl (X.2.1, 3, .inl fr))]))))))) sz) (va_A (@HAppend.hAppend va_W va_W va_W _ (xW h0 nw sp xa la lb) (@HAppend.hAppend va_W va_W va_W _ (rcV X nw an sv dv n0 n1 n2 n3 n4 g0 gs gn gm) (@HAppend.hAppend va_W va_W va_W _ ([((xa 2), .inl (X.2.2.2.1, 2, .inr (.inr (.inr (.inr (imQ i0 i1))))))]) (@HAppend.hAppend va_W va_W va_W _ (rcV X i0 adp svp dvp n0p n1p n2p n3p n4p g0p gsp gnp gmp) (@HAppend.hAppend va_W va_W va_W _ (rcV X i1 adq svq dvq n0q n1q n2q n3q n4q g0q gsq gnq gmq) (@HAppend.hAppend va_W va_W va_W _ ([((xa 3), .inl (X.2.2.1, 2, .inl fz))]) ([((xa 5), .inl (X.2.1, 3, .inl fr))]))))))) sz) s (@HAppend.hAppend va_W va_W va_W _ (xW h0 nw sp xa la lb) (@HAppend.hAppend va_W va_W va_W _ (rcV X nw an sv dv n0 n1 n2 n3 n4 g0 gs gn gm) (@HAppend.hAppend va_W va_W va_W _ ([((xa 2), .inl (X.2.2.2.1, 2, .inr (.inr (.inr (.inr (imQ i0 i1))))))]) (@HAppend.hAppend va_W va_W va_W _ (rcV X i0 adp svp dvp n0p n1p n2p n3p n4p g0p gsp gnp gmp) (@HAppend.hAppend va_W va_W va_W _ (rcV X i1 adq svq dvq n0q n1q n2q n3q n4q g0q gsq gnq gmq) (@HAppend.hAppend va_W va_W va_W _ ([((xa 3), .inl (X.2.2.1, 2, .inl fz))]) ([((xa 5), .inl (X.2.1, 3, .inl fr))]))))))) H locs := G
  rcases hp_1 with ⟨rfl, hw_1⟩ | ⟨rfl, hw_1⟩
  · refine lv_if_ne (tgt := 16) zx zb dX10_from_6 (by decide) (fun c_2 => ?_) (fun c_2 => absurd c_2 (by decide))
    obtain ⟨j0, hj0, rfl⟩ := k_nat01 hw_1
    rcases k_2c hj0 with rfl | rfl
    · have hl : lv_has ls 2 [(0, .ref h0), (1, .int 0)] := hl
      refine lv_aload_n zx zb dX10_from_16 rfl (lv_at hl 0 rfl) ?_
      refine r_get (C := RX10) (T := TX10) (N := 14) (ci := 8) (v := .ref (xa 3)) S in_X10_from_X10 G 0 rfl rfl 3 (by decide) lk_X10_from_23 rfl dX10_from_17 ?_
      refine lv_iload_n zx zb dX10_from_20 rfl (lv_at hl 1 rfl) ?_
      refine r_zald (v := (fz (0 : Int32).toNatClampNeg)) S G 50 rfl (k_vp (by decide)) rfl dX10_from_21 ?_
      refine lv_if_ne (tgt := 32) zx zb dX10_from_22 (by decide) (fun c_4 => ?_) (fun c_4 => ?_)
      · refine lv_aload_n zx zb dX10_from_32 rfl (lv_at hl 0 rfl) ?_
        refine r_get (C := RX10) (T := TX10) (N := 14) (ci := 8) (v := .ref nw) S in_X10_from_X10 G 0 rfl rfl 0 (by decide) lk_X10_from_10 rfl dX10_from_33 ?_
        refine lv_aload_n zx zb dX10_from_36 rfl (lv_at hl 0 rfl) ?_
        refine r_get (C := RX10) (T := TX10) (N := 14) (ci := 8) (v := .ref (xa 2)) S in_X10_from_X10 G 0 rfl rfl 2 (by decide) lk_X10_from_19 rfl dX10_from_37 ?_
        refine lv_iload_n zx zb dX10_from_40 rfl (lv_at hl 1 rfl) ?_
        refine r_aald (C := RX5) (b := i0) S G 17 2 rfl rfl (k_vp (by decide)) rfl dX10_from_41 ?_
        refine b_wv (cells' := 0) (slots' := 0) (wr := @HAppend.hAppend va_W va_W va_W _ (xW h0 nw sp xa la lb) (@HAppend.hAppend va_W va_W va_W _ ([((xa 2), .inl (X.2.2.2.1, 2, .inr (.inr (.inr (.inr (imQ i0 i1))))))]) (@HAppend.hAppend va_W va_W va_W _ (rcV X i1 adq svq dvq n0q n1q n2q n3q n4q g0q gsq gnq gmq) (@HAppend.hAppend va_W va_W va_W _ ([((xa 3), .inl (X.2.2.1, 2, .inl fz))]) ([((xa 5), .inl (X.2.1, 3, .inl fr))]))))) G rfl rfl [1, 2, 3, 4, 5, 6, 7, 8, 9, 10, 11, 12, 13, 14, 15, 16, 18, 19, 20, 21, 22, 23, 24, 25, 26, 27, 28, 29, 30, 31, 32, 33] [0, 17, 34, 35, 36, 37, 38, 39, 40, 41, 42, 43, 44, 45, 46, 47, 48, 49, 50, 51] rfl rfl rfl rfl (n_V (As := [.ref i0]) (rest := []) (C := RX5) (T := TX5) (N := 8) (ci := 3) S G (x_copyFrom l X nw an sv dv n0 n1 n2 n3 n4 g0 gs gn gm i0 adp svp dvp n0p n1p n2p n3p n4p g0p gsp gnp gmp hI_n0 hI_n1 hI_n2 hI_n3 hI_n4 hI_n0p hI_n1p hI_n2p hI_n3p hI_n4p H.size) gX10_from_X5_copyFrom rfl rfl rfl hdV_X5_copyFrom ⟨Nat.le_of_ble_eq_true rfl, Nat.le_of_ble_eq_true rfl⟩ [1, 2, 3, 4, 5, 6, 7, 8, 9, 10, 11, 12, 13, 14, 15, 16, 18, 19, 20, 21, 22, 23, 24, 25, 26, 27, 28, 29, 30, 31, 32, 33] rfl rfl 1 rfl rfl rfl hl.1 (Nat.le_of_ble_eq_true rfl) dX10_from_42 ⟨Nat.le_of_ble_eq_true rfl, Nat.le_of_ble_eq_true rfl⟩) (fun u_5 H locs hp_5 G => ?_)
        obtain ⟨sv_5a, dv_5b, n0_5c, n1_5d, n2_5e, n3_5f, n4_5g, g0_5h, gs_5i, gn_5j, gm_5k⟩ := u_5
        try dsimp only at hp_5
        obtain ⟨hI_n0_5c, hI_n1_5d, hI_n2_5e, hI_n3_5f, hI_n4_5g, hq_5⟩ := hp_5
        have G : wd X (va_A (@HAppend.hAppend va_W va_W va_W _ (xW h0 nw sp xa la lb) (@HAppend.hAppend va_W va_W va_W _ (rcV X nw an sv dv n0 n1 n2 n3 n4 g0 gs gn gm) (@HAppend.hAppend va_W va_W va_W _ ([((xa 2), .inl (X.2.2.2.1, 2, .inr (.inr (.inr (.inr (imQ i0 i1))))))]) (@HAppend.hAppend va_W va_W va_W _ (rcV X i0 adp svp dvp n0p n1p n2p n3p n4p g0p gsp gnp gmp) (@HAppend.hAppend va_W va_W va_W _ (rcV X i1 adq svq dvq n0q n1q n2q n3q n4q g0q gsq gnq gmq) (@HAppend.hAppend va_W va_W va_W _ ([((xa 3), .inl (X.2.2.1, 2, .inl fz))]) ([((xa 5), .inl (X.2.1, 3, .inl fr))]))))))) sz) (va_A (@HAppend.hAppend va_W va_W va_W _ (xW h0 nw sp xa la lb) (@HAppend.hAppend va_W va_W va_W _ (rcV X nw an sv dv n0 n1 n2 n3 n4 g0 gs gn gm) (@HAppend.hAppend va_W va_W va_W _ ([((xa 2), .inl (X.2.2.2.1, 2, .inr (.inr (.inr (.inr (imQ i0 i1))))))]) (@HAppend.hAppend va_W va_W va_W _ (rcV X i0 adp svp dvp n0p n1p n2p n3p n4p g0p gsp gnp gmp) (@HAppend.hAppend va_W va_W va_W _ (rcV X i1 adq svq dvq n0q n1q n2q n3q n4q g0q gsq gnq gmq) (@HAppend.hAppend va_W va_W va_W _ ([((xa 3), .inl (X.2.2.1, 2, .inl fz))]) ([((xa 5), .inl (X.2.1, 3, .inl fr))]))))))) sz) s (@HAppend.hAppend va_W va_W va_W _ (xW h0 nw sp xa la lb) (@HAppend.hAppend va_W va_W va_W _ ([((xa 2), .inl (X.2.2.2.1, 2, .inr (.inr (.inr (.inr (imQ i0 i1))))))]) (@HAppend.hAppend va_W va_W va_W _ (rcV X i1 adq svq dvq n0q n1q n2q n3q n4q g0q gsq gnq gmq) (@HAppend.hAppend va_W va_W va_W _ ([((xa 3), .inl (X.2.2.1, 2, .inl fz))]) (@HAppend.hAppend va_W va_W va_W _ ([((xa 5), .inl (X.2.1, 3, .inl fr))]) (@HAppend.hAppend va_W va_W va_W _ (rcV X nw an sv_5a dv_5b n0_5c n1_5d n2_5e n3_5f n4_5g g0_5h gs_5i gn_5j gm_5k) (rcV X i0 adp svp dvp n0p n1p n2p n3p n4p g0p gsp gnp gmp))))))) H locs := G
        refine lv_iconst (v := 1) zx zb dX10_from_45 (by decide) ?_
        have hzA : (1, (n0_5c, n2_5e, n3_5f, n4_5g)) = frmF 0 fz (n0, n2, n3, n4) (n0p, n2p, n3p, n4p) (n0q, n2q, n3q, n4q) := by rw [hq_5.1.1, hq_5.1.2.1, hq_5.1.2.2.1, hq_5.1.2.2.2]; exact (frmF_0p c_4).symm
        have hzB : ((0 : Int32) = 0 → ¬ fz 0 = 0 → cpyP sv_5a gs_5i gn_5j gm_5k svp gsp gnp gmp n2p n3p n4p) ∧ ((0 : Int32) = 1 → ¬ fz 1 = 0 → cpyP sv_5a gs_5i gn_5j gm_5k svq gsq gnq gmq n2q n3q n4q) ∧ ((¬ ((0 : Int32) ≤ (0 : Int32) ∧ (0 : Int32) ≤ 1) ∨ ((0 : Int32) = 0 ∧ fz 0 = 0) ∨ ((0 : Int32) = 1 ∧ fz 1 = 0)) → samP sv_5a gs_5i gn_5j gm_5k sv gs gn gm) := ⟨fun _ _ => hq_5.2, fun e => absurd e (by decide), fun h => by rcases h with h | h | h; exact absurd (by decide) h; exact absurd h.2 c_4; exact absurd h.1 (by decide)⟩
        exact e_int S zr zlk (vp_nar_int _) G (sv_5a, dv_5b, n0_5c, n1_5d, n2_5e, n3_5f, n4_5g, g0_5h, gs_5i, gn_5j, gm_5k, fr) [0, 20, 21, 22, 23, 24, 25, 26, 27, 28, 29, 30, 31, 32, 33, 34, 35, 1, 36, 37, 38, 39, 40, 41, 42, 43, 44, 45, 46, 47, 48, 49, 50, 51, 2, 3, 4, 5, 6, 7, 8, 9, 10, 11, 12, 13, 14, 15, 16, 17, 18, 19] rfl rfl (Or.inr rfl) (⟨hI_n0_5c, hI_n1_5d, hI_n2_5e, hI_n3_5f, hI_n4_5g, ⟨hzA, hzB⟩⟩) dX10_from_46
      · refine lv_aload_n zx zb dX10_from_25 rfl (lv_at hl 0 rfl) ?_
        refine lv_bipush (v := (-3)) zx zb dX10_from_26 (by decide) ?_
        refine b_wi (cells' := 0) (slots' := 0) (wr := @HAppend.hAppend va_W va_W va_W _ (rcV X nw an sv dv n0 n1 n2 n3 n4 g0 gs gn gm) (@HAppend.hAppend va_W va_W va_W _ ([((xa 2), .inl (X.2.2.2.1, 2, .inr (.inr (.inr (.inr (imQ i0 i1))))))]) (@HAppend.hAppend va_W va_W va_W _ (rcV X i0 adp svp dvp n0p n1p n2p n3p n4p g0p gsp gnp gmp) (@HAppend.hAppend va_W va_W va_W _ (rcV X i1 adq svq dvq n0q n1q n2q n3q n4q g0q gsq gnq gmq) ([((xa 3), .inl (X.2.2.1, 2, .inl fz))]))))) G rfl rfl [0, 51] [1, 2, 3, 4, 5, 6, 7, 8, 9, 10, 11, 12, 13, 14, 15, 16, 17, 18, 19, 20, 21, 22, 23, 24, 25, 26, 27, 28, 29, 30, 31, 32, 33, 34, 35, 36, 37, 38, 39, 40, 41, 42, 43, 44, 45, 46, 47, 48, 49, 50] rfl rfl rfl rfl (n_V (As := [.int (-3)]) (rest := []) (C := RX10) (T := TX10) (N := 14) (ci := 8) S G (s_refuse l X h0 nw sp xa la lb fr (-3) H.size) gX10_from_X10_refuse rfl rfl rfl hdV_X10_refuse ⟨Nat.le_of_ble_eq_true rfl, Nat.le_of_ble_eq_true rfl⟩ [0, 51] rfl rfl 0 rfl rfl rfl hl.1 (Nat.le_of_ble_eq_true rfl) dX10_from_28 ⟨Nat.le_of_ble_eq_true rfl, Nat.le_of_ble_eq_true rfl⟩) (fun r_6 u_6 H locs hp_6 G => ?_)
        obtain ⟨f_6, rfl⟩ : ∃ z, z = u_6 := ⟨_, rfl⟩
        have hq_6 := hp_6
        have G : wd X (va_A (@HAppend.hAppend va_W va_W va_W _ (xW h0 nw sp xa la lb) (@HAppend.hAppend va_W va_W va_W _ (rcV X nw an sv dv n0 n1 n2 n3 n4 g0 gs gn gm) (@HAppend.hAppend va_W va_W va_W _ ([((xa 2), .inl (X.2.2.2.1, 2, .inr (.inr (.inr (.inr (imQ i0 i1))))))]) (@HAppend.hAppend va_W va_W va_W _ (rcV X i0 adp svp dvp n0p n1p n2p n3p n4p g0p gsp gnp gmp) (@HAppend.hAppend va_W va_W va_W _ (rcV X i1 adq svq dvq n0q n1q n2q n3q n4q g0q gsq gnq gmq) (@HAppend.hAppend va_W va_W va_W _ ([((xa 3), .inl (X.2.2.1, 2, .inl fz))]) ([((xa 5), .inl (X.2.1, 3, .inl fr))]))))))) sz) (va_A (@HAppend.hAppend va_W va_W va_W _ (xW h0 nw sp xa la lb) (@HAppend.hAppend va_W va_W va_W _ (rcV X nw an sv dv n0 n1 n2 n3 n4 g0 gs gn gm) (@HAppend.hAppend va_W va_W va_W _ ([((xa 2), .inl (X.2.2.2.1, 2, .inr (.inr (.inr (.inr (imQ i0 i1))))))]) (@HAppend.hAppend va_W va_W va_W _ (rcV X i0 adp svp dvp n0p n1p n2p n3p n4p g0p gsp gnp gmp) (@HAppend.hAppend va_W va_W va_W _ (rcV X i1 adq svq dvq n0q n1q n2q n3q n4q g0q gsq gnq gmq) (@HAppend.hAppend va_W va_W va_W _ ([((xa 3), .inl (X.2.2.1, 2, .inl fz))]) ([((xa 5), .inl (X.2.1, 3, .inl fr))]))))))) sz) s (@HAppend.hAppend va_W va_W va_W _ (rcV X nw an sv dv n0 n1 n2 n3 n4 g0 gs gn gm) (@HAppend.hAppend va_W va_W va_W _ ([((xa 2), .inl (X.2.2.2.1, 2, .inr (.inr (.inr (.inr (imQ i0 i1))))))]) (@HAppend.hAppend va_W va_W va_W _ (rcV X i0 adp svp dvp n0p n1p n2p n3p n4p g0p gsp gnp gmp) (@HAppend.hAppend va_W va_W va_W _ (rcV X i1 adq svq dvq n0q n1q n2q n3q n4q g0q gsq gnq gmq) (@HAppend.hAppend va_W va_W va_W _ ([((xa 3), .inl (X.2.2.1, 2, .inl fz))]) (@HAppend.hAppend va_W va_W va_W _ (xW h0 nw sp xa la lb) ([((xa 5), .inl (X.2.1, 3, .inl f_6))]))))))) H locs := G
        have hzA : (r_6, (n0, n2, n3, n4)) = frmF 0 fz (n0, n2, n3, n4) (n0p, n2p, n3p, n4p) (n0q, n2q, n3q, n4q) := by rw [hq_6]; exact (frmF_0n c_4).symm
        have hzB : ((0 : Int32) = 0 → ¬ fz 0 = 0 → cpyP sv gs gn gm svp gsp gnp gmp n2p n3p n4p) ∧ ((0 : Int32) = 1 → ¬ fz 1 = 0 → cpyP sv gs gn gm svq gsq gnq gmq n2q n3q n4q) ∧ ((¬ ((0 : Int32) ≤ (0 : Int32) ∧ (0 : Int32) ≤ 1) ∨ ((0 : Int32) = 0 ∧ fz 0 = 0) ∨ ((0 : Int32) = 1 ∧ fz 1 = 0)) → samP sv gs gn gm sv gs gn gm) := ⟨fun _ z => absurd c_4 z, fun e => absurd e (by decide), fun _ => samP_r⟩
        exact e_int S zr zlk (vp_nar_int _) G (sv, dv, n0, n1, n2, n3, n4, g0, gs, gn, gm, f_6) [50, 0, 1, 2, 3, 4, 5, 6, 7, 8, 9, 10, 11, 12, 13, 14, 15, 16, 17, 18, 19, 20, 21, 22, 23, 24, 25, 26, 27, 28, 29, 30, 31, 32, 33, 34, 35, 36, 37, 38, 39, 40, 41, 42, 43, 44, 45, 46, 47, 48, 49, 51] rfl rfl (Or.inr rfl) (⟨hI_n0, hI_n1, hI_n2, hI_n3, hI_n4, ⟨hzA, hzB⟩⟩) dX10_from_31
    · have hl : lv_has ls 2 [(0, .ref h0), (1, .int 1)] := hl
      refine lv_aload_n zx zb dX10_from_16 rfl (lv_at hl 0 rfl) ?_
      refine r_get (C := RX10) (T := TX10) (N := 14) (ci := 8) (v := .ref (xa 3)) S in_X10_from_X10 G 0 rfl rfl 3 (by decide) lk_X10_from_23 rfl dX10_from_17 ?_
      refine lv_iload_n zx zb dX10_from_20 rfl (lv_at hl 1 rfl) ?_
      refine r_zald (v := (fz (1 : Int32).toNatClampNeg)) S G 50 rfl (k_vp (by decide)) rfl dX10_from_21 ?_
      refine lv_if_ne (tgt := 32) zx zb dX10_from_22 (by decide) (fun c_8 => ?_) (fun c_8 => ?_)
      · refine lv_aload_n zx zb dX10_from_32 rfl (lv_at hl 0 rfl) ?_
        refine r_get (C := RX10) (T := TX10) (N := 14) (ci := 8) (v := .ref nw) S in_X10_from_X10 G 0 rfl rfl 0 (by decide) lk_X10_from_10 rfl dX10_from_33 ?_
        refine lv_aload_n zx zb dX10_from_36 rfl (lv_at hl 0 rfl) ?_
        refine r_get (C := RX10) (T := TX10) (N := 14) (ci := 8) (v := .ref (xa 2)) S in_X10_from_X10 G 0 rfl rfl 2 (by decide) lk_X10_from_19 rfl dX10_from_37 ?_
        refine lv_iload_n zx zb dX10_from_40 rfl (lv_at hl 1 rfl) ?_
        refine r_aald (C := RX5) (b := i1) S G 17 2 rfl rfl (k_vp (by decide)) rfl dX10_from_41 ?_
        refine b_wv (cells' := 0) (slots' := 0) (wr := @HAppend.hAppend va_W va_W va_W _ (xW h0 nw sp xa la lb) (@HAppend.hAppend va_W va_W va_W _ ([((xa 2), .inl (X.2.2.2.1, 2, .inr (.inr (.inr (.inr (imQ i0 i1))))))]) (@HAppend.hAppend va_W va_W va_W _ (rcV X i0 adp svp dvp n0p n1p n2p n3p n4p g0p gsp gnp gmp) (@HAppend.hAppend va_W va_W va_W _ ([((xa 3), .inl (X.2.2.1, 2, .inl fz))]) ([((xa 5), .inl (X.2.1, 3, .inl fr))]))))) G rfl rfl [1, 2, 3, 4, 5, 6, 7, 8, 9, 10, 11, 12, 13, 14, 15, 16, 34, 35, 36, 37, 38, 39, 40, 41, 42, 43, 44, 45, 46, 47, 48, 49] [0, 17, 18, 19, 20, 21, 22, 23, 24, 25, 26, 27, 28, 29, 30, 31, 32, 33, 50, 51] rfl rfl rfl rfl (n_V (As := [.ref i1]) (rest := []) (C := RX5) (T := TX5) (N := 8) (ci := 3) S G (x_copyFrom l X nw an sv dv n0 n1 n2 n3 n4 g0 gs gn gm i1 adq svq dvq n0q n1q n2q n3q n4q g0q gsq gnq gmq hI_n0 hI_n1 hI_n2 hI_n3 hI_n4 hI_n0q hI_n1q hI_n2q hI_n3q hI_n4q H.size) gX10_from_X5_copyFrom rfl rfl rfl hdV_X5_copyFrom ⟨Nat.le_of_ble_eq_true rfl, Nat.le_of_ble_eq_true rfl⟩ [1, 2, 3, 4, 5, 6, 7, 8, 9, 10, 11, 12, 13, 14, 15, 16, 34, 35, 36, 37, 38, 39, 40, 41, 42, 43, 44, 45, 46, 47, 48, 49] rfl rfl 1 rfl rfl rfl hl.1 (Nat.le_of_ble_eq_true rfl) dX10_from_42 ⟨Nat.le_of_ble_eq_true rfl, Nat.le_of_ble_eq_true rfl⟩) (fun u_9 H locs hp_9 G => ?_)
        obtain ⟨sv_9a, dv_9b, n0_9c, n1_9d, n2_9e, n3_9f, n4_9g, g0_9h, gs_9i, gn_9j, gm_9k⟩ := u_9
        try dsimp only at hp_9
        obtain ⟨hI_n0_9c, hI_n1_9d, hI_n2_9e, hI_n3_9f, hI_n4_9g, hq_9⟩ := hp_9
        have G : wd X (va_A (@HAppend.hAppend va_W va_W va_W _ (xW h0 nw sp xa la lb) (@HAppend.hAppend va_W va_W va_W _ (rcV X nw an sv dv n0 n1 n2 n3 n4 g0 gs gn gm) (@HAppend.hAppend va_W va_W va_W _ ([((xa 2), .inl (X.2.2.2.1, 2, .inr (.inr (.inr (.inr (imQ i0 i1))))))]) (@HAppend.hAppend va_W va_W va_W _ (rcV X i0 adp svp dvp n0p n1p n2p n3p n4p g0p gsp gnp gmp) (@HAppend.hAppend va_W va_W va_W _ (rcV X i1 adq svq dvq n0q n1q n2q n3q n4q g0q gsq gnq gmq) (@HAppend.hAppend va_W va_W va_W _ ([((xa 3), .inl (X.2.2.1, 2, .inl fz))]) ([((xa 5), .inl (X.2.1, 3, .inl fr))]))))))) sz) (va_A (@HAppend.hAppend va_W va_W va_W _ (xW h0 nw sp xa la lb) (@HAppend.hAppend va_W va_W va_W _ (rcV X nw an sv dv n0 n1 n2 n3 n4 g0 gs gn gm) (@HAppend.hAppend va_W va_W va_W _ ([((xa 2), .inl (X.2.2.2.1, 2, .inr (.inr (.inr (.inr (imQ i0 i1))))))]) (@HAppend.hAppend va_W va_W va_W _ (rcV X i0 adp svp dvp n0p n1p n2p n3p n4p g0p gsp gnp gmp) (@HAppend.hAppend va_W va_W va_W _ (rcV X i1 adq svq dvq n0q n1q n2q n3q n4q g0q gsq gnq gmq) (@HAppend.hAppend va_W va_W va_W _ ([((xa 3), .inl (X.2.2.1, 2, .inl fz))]) ([((xa 5), .inl (X.2.1, 3, .inl fr))]))))))) sz) s (@HAppend.hAppend va_W va_W va_W _ (xW h0 nw sp xa la lb) (@HAppend.hAppend va_W va_W va_W _ ([((xa 2), .inl (X.2.2.2.1, 2, .inr (.inr (.inr (.inr (imQ i0 i1))))))]) (@HAppend.hAppend va_W va_W va_W _ (rcV X i0 adp svp dvp n0p n1p n2p n3p n4p g0p gsp gnp gmp) (@HAppend.hAppend va_W va_W va_W _ ([((xa 3), .inl (X.2.2.1, 2, .inl fz))]) (@HAppend.hAppend va_W va_W va_W _ ([((xa 5), .inl (X.2.1, 3, .inl fr))]) (@HAppend.hAppend va_W va_W va_W _ (rcV X nw an sv_9a dv_9b n0_9c n1_9d n2_9e n3_9f n4_9g g0_9h gs_9i gn_9j gm_9k) (rcV X i1 adq svq dvq n0q n1q n2q n3q n4q g0q gsq gnq gmq))))))) H locs := G
        refine lv_iconst (v := 1) zx zb dX10_from_45 (by decide) ?_
        have hzA : (1, (n0_9c, n2_9e, n3_9f, n4_9g)) = frmF 1 fz (n0, n2, n3, n4) (n0p, n2p, n3p, n4p) (n0q, n2q, n3q, n4q) := by rw [hq_9.1.1, hq_9.1.2.1, hq_9.1.2.2.1, hq_9.1.2.2.2]; exact (frmF_1p c_8).symm
        have hzB : ((1 : Int32) = 0 → ¬ fz 0 = 0 → cpyP sv_9a gs_9i gn_9j gm_9k svp gsp gnp gmp n2p n3p n4p) ∧ ((1 : Int32) = 1 → ¬ fz 1 = 0 → cpyP sv_9a gs_9i gn_9j gm_9k svq gsq gnq gmq n2q n3q n4q) ∧ ((¬ ((0 : Int32) ≤ (1 : Int32) ∧ (1 : Int32) ≤ 1) ∨ ((1 : Int32) = 0 ∧ fz 0 = 0) ∨ ((1 : Int32) = 1 ∧ fz 1 = 0)) → samP sv_9a gs_9i gn_9j gm_9k sv gs gn gm) := ⟨fun e => absurd e (by decide), fun _ _ => hq_9.2, fun h => by rcases h with h | h | h; exact absurd (by decide) h; exact absurd h.1 (by decide); exact absurd h.2 c_8⟩
        exact e_int S zr zlk (vp_nar_int _) G (sv_9a, dv_9b, n0_9c, n1_9d, n2_9e, n3_9f, n4_9g, g0_9h, gs_9i, gn_9j, gm_9k, fr) [0, 20, 21, 22, 23, 24, 25, 26, 27, 28, 29, 30, 31, 32, 33, 34, 35, 1, 2, 3, 4, 5, 6, 7, 8, 9, 10, 11, 12, 13, 14, 15, 16, 17, 36, 37, 38, 39, 40, 41, 42, 43, 44, 45, 46, 47, 48, 49, 50, 51, 18, 19] rfl rfl (Or.inr rfl) (⟨hI_n0_9c, hI_n1_9d, hI_n2_9e, hI_n3_9f, hI_n4_9g, ⟨hzA, hzB⟩⟩) dX10_from_46
      · refine lv_aload_n zx zb dX10_from_25 rfl (lv_at hl 0 rfl) ?_
        refine lv_bipush (v := (-3)) zx zb dX10_from_26 (by decide) ?_
        refine b_wi (cells' := 0) (slots' := 0) (wr := @HAppend.hAppend va_W va_W va_W _ (rcV X nw an sv dv n0 n1 n2 n3 n4 g0 gs gn gm) (@HAppend.hAppend va_W va_W va_W _ ([((xa 2), .inl (X.2.2.2.1, 2, .inr (.inr (.inr (.inr (imQ i0 i1))))))]) (@HAppend.hAppend va_W va_W va_W _ (rcV X i0 adp svp dvp n0p n1p n2p n3p n4p g0p gsp gnp gmp) (@HAppend.hAppend va_W va_W va_W _ (rcV X i1 adq svq dvq n0q n1q n2q n3q n4q g0q gsq gnq gmq) ([((xa 3), .inl (X.2.2.1, 2, .inl fz))]))))) G rfl rfl [0, 51] [1, 2, 3, 4, 5, 6, 7, 8, 9, 10, 11, 12, 13, 14, 15, 16, 17, 18, 19, 20, 21, 22, 23, 24, 25, 26, 27, 28, 29, 30, 31, 32, 33, 34, 35, 36, 37, 38, 39, 40, 41, 42, 43, 44, 45, 46, 47, 48, 49, 50] rfl rfl rfl rfl (n_V (As := [.int (-3)]) (rest := []) (C := RX10) (T := TX10) (N := 14) (ci := 8) S G (s_refuse l X h0 nw sp xa la lb fr (-3) H.size) gX10_from_X10_refuse rfl rfl rfl hdV_X10_refuse ⟨Nat.le_of_ble_eq_true rfl, Nat.le_of_ble_eq_true rfl⟩ [0, 51] rfl rfl 0 rfl rfl rfl hl.1 (Nat.le_of_ble_eq_true rfl) dX10_from_28 ⟨Nat.le_of_ble_eq_true rfl, Nat.le_of_ble_eq_true rfl⟩) (fun r_10 u_10 H locs hp_10 G => ?_)
        obtain ⟨f_10, rfl⟩ : ∃ z, z = u_10 := ⟨_, rfl⟩
        have hq_10 := hp_10
        have G : wd X (va_A (@HAppend.hAppend va_W va_W va_W _ (xW h0 nw sp xa la lb) (@HAppend.hAppend va_W va_W va_W _ (rcV X nw an sv dv n0 n1 n2 n3 n4 g0 gs gn gm) (@HAppend.hAppend va_W va_W va_W _ ([((xa 2), .inl (X.2.2.2.1, 2, .inr (.inr (.inr (.inr (imQ i0 i1))))))]) (@HAppend.hAppend va_W va_W va_W _ (rcV X i0 adp svp dvp n0p n1p n2p n3p n4p g0p gsp gnp gmp) (@HAppend.hAppend va_W va_W va_W _ (rcV X i1 adq svq dvq n0q n1q n2q n3q n4q g0q gsq gnq gmq) (@HAppend.hAppend va_W va_W va_W _ ([((xa 3), .inl (X.2.2.1, 2, .inl fz))]) ([((xa 5), .inl (X.2.1, 3, .inl fr))]))))))) sz) (va_A (@HAppend.hAppend va_W va_W va_W _ (xW h0 nw sp xa la lb) (@HAppend.hAppend va_W va_W va_W _ (rcV X nw an sv dv n0 n1 n2 n3 n4 g0 gs gn gm) (@HAppend.hAppend va_W va_W va_W _ ([((xa 2), .inl (X.2.2.2.1, 2, .inr (.inr (.inr (.inr (imQ i0 i1))))))]) (@HAppend.hAppend va_W va_W va_W _ (rcV X i0 adp svp dvp n0p n1p n2p n3p n4p g0p gsp gnp gmp) (@HAppend.hAppend va_W va_W va_W _ (rcV X i1 adq svq dvq n0q n1q n2q n3q n4q g0q gsq gnq gmq) (@HAppend.hAppend va_W va_W va_W _ ([((xa 3), .inl (X.2.2.1, 2, .inl fz))]) ([((xa 5), .inl (X.2.1, 3, .inl fr))]))))))) sz) s (@HAppend.hAppend va_W va_W va_W _ (rcV X nw an sv dv n0 n1 n2 n3 n4 g0 gs gn gm) (@HAppend.hAppend va_W va_W va_W _ ([((xa 2), .inl (X.2.2.2.1, 2, .inr (.inr (.inr (.inr (imQ i0 i1))))))]) (@HAppend.hAppend va_W va_W va_W _ (rcV X i0 adp svp dvp n0p n1p n2p n3p n4p g0p gsp gnp gmp) (@HAppend.hAppend va_W va_W va_W _ (rcV X i1 adq svq dvq n0q n1q n2q n3q n4q g0q gsq gnq gmq) (@HAppend.hAppend va_W va_W va_W _ ([((xa 3), .inl (X.2.2.1, 2, .inl fz))]) (@HAppend.hAppend va_W va_W va_W _ (xW h0 nw sp xa la lb) ([((xa 5), .inl (X.2.1, 3, .inl f_10))]))))))) H locs := G
        have hzA : (r_10, (n0, n2, n3, n4)) = frmF 1 fz (n0, n2, n3, n4) (n0p, n2p, n3p, n4p) (n0q, n2q, n3q, n4q) := by rw [hq_10]; exact (frmF_1n c_8).symm
        have hzB : ((1 : Int32) = 0 → ¬ fz 0 = 0 → cpyP sv gs gn gm svp gsp gnp gmp n2p n3p n4p) ∧ ((1 : Int32) = 1 → ¬ fz 1 = 0 → cpyP sv gs gn gm svq gsq gnq gmq n2q n3q n4q) ∧ ((¬ ((0 : Int32) ≤ (1 : Int32) ∧ (1 : Int32) ≤ 1) ∨ ((1 : Int32) = 0 ∧ fz 0 = 0) ∨ ((1 : Int32) = 1 ∧ fz 1 = 0)) → samP sv gs gn gm sv gs gn gm) := ⟨fun e => absurd e (by decide), fun _ z => absurd c_8 z, fun _ => samP_r⟩
        exact e_int S zr zlk (vp_nar_int _) G (sv, dv, n0, n1, n2, n3, n4, g0, gs, gn, gm, f_10) [50, 0, 1, 2, 3, 4, 5, 6, 7, 8, 9, 10, 11, 12, 13, 14, 15, 16, 17, 18, 19, 20, 21, 22, 23, 24, 25, 26, 27, 28, 29, 30, 31, 32, 33, 34, 35, 36, 37, 38, 39, 40, 41, 42, 43, 44, 45, 46, 47, 48, 49, 51] rfl rfl (Or.inr rfl) (⟨hI_n0, hI_n1, hI_n2, hI_n3, hI_n4, ⟨hzA, hzB⟩⟩) dX10_from_31
  · refine lv_if_ne (tgt := 16) zx zb dX10_from_6 (by decide) (fun c_11 => absurd (by decide) c_11) (fun c_11 => ?_)
    refine lv_aload_n zx zb dX10_from_9 rfl (lv_at hl 0 rfl) ?_
    refine lv_bipush (v := (-2)) zx zb dX10_from_10 (by decide) ?_
    refine b_wi (cells' := 0) (slots' := 0) (wr := @HAppend.hAppend va_W va_W va_W _ (rcV X nw an sv dv n0 n1 n2 n3 n4 g0 gs gn gm) (@HAppend.hAppend va_W va_W va_W _ ([((xa 2), .inl (X.2.2.2.1, 2, .inr (.inr (.inr (.inr (imQ i0 i1))))))]) (@HAppend.hAppend va_W va_W va_W _ (rcV X i0 adp svp dvp n0p n1p n2p n3p n4p g0p gsp gnp gmp) (@HAppend.hAppend va_W va_W va_W _ (rcV X i1 adq svq dvq n0q n1q n2q n3q n4q g0q gsq gnq gmq) ([((xa 3), .inl (X.2.2.1, 2, .inl fz))]))))) G rfl rfl [0, 51] [1, 2, 3, 4, 5, 6, 7, 8, 9, 10, 11, 12, 13, 14, 15, 16, 17, 18, 19, 20, 21, 22, 23, 24, 25, 26, 27, 28, 29, 30, 31, 32, 33, 34, 35, 36, 37, 38, 39, 40, 41, 42, 43, 44, 45, 46, 47, 48, 49, 50] rfl rfl rfl rfl (n_V (As := [.int (-2)]) (rest := []) (C := RX10) (T := TX10) (N := 14) (ci := 8) S G (s_refuse l X h0 nw sp xa la lb fr (-2) H.size) gX10_from_X10_refuse rfl rfl rfl hdV_X10_refuse ⟨Nat.le_of_ble_eq_true rfl, Nat.le_of_ble_eq_true rfl⟩ [0, 51] rfl rfl 0 rfl rfl rfl hl.1 (Nat.le_of_ble_eq_true rfl) dX10_from_12 ⟨Nat.le_of_ble_eq_true rfl, Nat.le_of_ble_eq_true rfl⟩) (fun r_12 u_12 H locs hp_12 G => ?_)
    obtain ⟨f_12, rfl⟩ : ∃ z, z = u_12 := ⟨_, rfl⟩
    have hq_12 := hp_12
    have G : wd X (va_A (@HAppend.hAppend va_W va_W va_W _ (xW h0 nw sp xa la lb) (@HAppend.hAppend va_W va_W va_W _ (rcV X nw an sv dv n0 n1 n2 n3 n4 g0 gs gn gm) (@HAppend.hAppend va_W va_W va_W _ ([((xa 2), .inl (X.2.2.2.1, 2, .inr (.inr (.inr (.inr (imQ i0 i1))))))]) (@HAppend.hAppend va_W va_W va_W _ (rcV X i0 adp svp dvp n0p n1p n2p n3p n4p g0p gsp gnp gmp) (@HAppend.hAppend va_W va_W va_W _ (rcV X i1 adq svq dvq n0q n1q n2q n3q n4q g0q gsq gnq gmq) (@HAppend.hAppend va_W va_W va_W _ ([((xa 3), .inl (X.2.2.1, 2, .inl fz))]) ([((xa 5), .inl (X.2.1, 3, .inl fr))]))))))) sz) (va_A (@HAppend.hAppend va_W va_W va_W _ (xW h0 nw sp xa la lb) (@HAppend.hAppend va_W va_W va_W _ (rcV X nw an sv dv n0 n1 n2 n3 n4 g0 gs gn gm) (@HAppend.hAppend va_W va_W va_W _ ([((xa 2), .inl (X.2.2.2.1, 2, .inr (.inr (.inr (.inr (imQ i0 i1))))))]) (@HAppend.hAppend va_W va_W va_W _ (rcV X i0 adp svp dvp n0p n1p n2p n3p n4p g0p gsp gnp gmp) (@HAppend.hAppend va_W va_W va_W _ (rcV X i1 adq svq dvq n0q n1q n2q n3q n4q g0q gsq gnq gmq) (@HAppend.hAppend va_W va_W va_W _ ([((xa 3), .inl (X.2.2.1, 2, .inl fz))]) ([((xa 5), .inl (X.2.1, 3, .inl fr))]))))))) sz) s (@HAppend.hAppend va_W va_W va_W _ (rcV X nw an sv dv n0 n1 n2 n3 n4 g0 gs gn gm) (@HAppend.hAppend va_W va_W va_W _ ([((xa 2), .inl (X.2.2.2.1, 2, .inr (.inr (.inr (.inr (imQ i0 i1))))))]) (@HAppend.hAppend va_W va_W va_W _ (rcV X i0 adp svp dvp n0p n1p n2p n3p n4p g0p gsp gnp gmp) (@HAppend.hAppend va_W va_W va_W _ (rcV X i1 adq svq dvq n0q n1q n2q n3q n4q g0q gsq gnq gmq) (@HAppend.hAppend va_W va_W va_W _ ([((xa 3), .inl (X.2.2.1, 2, .inl fz))]) (@HAppend.hAppend va_W va_W va_W _ (xW h0 nw sp xa la lb) ([((xa 5), .inl (X.2.1, 3, .inl f_12))]))))))) H locs := G
    have hzA : (r_12, (n0, n2, n3, n4)) = frmF x1 fz (n0, n2, n3, n4) (n0p, n2p, n3p, n4p) (n0q, n2q, n3q, n4q) := by rw [frmF_n (fun h => hw_1 h), hq_12]
    have hzB : (x1 = 0 → ¬ fz 0 = 0 → cpyP sv gs gn gm svp gsp gnp gmp n2p n3p n4p) ∧ (x1 = 1 → ¬ fz 1 = 0 → cpyP sv gs gn gm svq gsq gnq gmq n2q n3q n4q) ∧ ((¬ ((0 : Int32) ≤ x1 ∧ x1 ≤ 1) ∨ (x1 = 0 ∧ fz 0 = 0) ∨ (x1 = 1 ∧ fz 1 = 0)) → samP sv gs gn gm sv gs gn gm) := ⟨(k_no01 (fun h => hw_1 h)).1, (k_no01 (fun h => hw_1 h)).2, fun _ => samP_r⟩
    exact e_int S zr zlk (vp_nar_int _) G (sv, dv, n0, n1, n2, n3, n4, g0, gs, gn, gm, f_12) [50, 0, 1, 2, 3, 4, 5, 6, 7, 8, 9, 10, 11, 12, 13, 14, 15, 16, 17, 18, 19, 20, 21, 22, 23, 24, 25, 26, 27, 28, 29, 30, 31, 32, 33, 34, 35, 36, 37, 38, 39, 40, 41, 42, 43, 44, 45, 46, 47, 48, 49, 51] rfl rfl (Or.inr rfl) (⟨hI_n0, hI_n1, hI_n2, hI_n3, hI_n4, ⟨hzA, hzB⟩⟩) dX10_from_15
set_option maxHeartbeats 4000000 in
set_option maxRecDepth 100000 in
theorem x_bitCount (l : Launch) (X : EX) (x1 : Int32) (sz : Nat) : Met l yJ6_bitCount_0f7a4 wsJ6_bitCount_0f7a4 ({ frames := 0, cells := 0, slots := 0, locals := 0 } : Room) (pE X [.int x1] ([]) sz) (qI (fun (r : Int32) (u : Unit) => r = bcT x1) X (fun (u : Unit) => []) [] sz) 0 0 (va_A [] sz) := by
  refine mk_met (B := (fun _ => True)) (A := (va_A [] sz)) (cc := cJ6_bitCount_0f7a4) (maxL := 1) (ret := (some .int)) (by decide) rfl (Nat.le_of_ble_eq_true rfl) k_ro k_a (fun p e s m below meth c S zr zlk znm zsz G ls hl => ?_)
  have S : CallFix p m c cJ6_bitCount_0f7a4 1 s _ wsJ6_bitCount_0f7a4 RJ6 := S
  have zx := S.1
  have zb := S.2.1
  have hl : lv_has ls 1 [(0, .int x1)] := hl
  refine lv_iload_n zx zb dJ6_bitCount_0f7a4_0 rfl (lv_at hl 0 rfl) ?_
  refine lv_iload_n zx zb dJ6_bitCount_0f7a4_1 rfl (lv_at hl 0 rfl) ?_
  refine lv_iconst (v := 1) zx zb dJ6_bitCount_0f7a4_2 (by decide) ?_
  refine lv_iushr zx zb dJ6_bitCount_0f7a4_3 rfl ?_
  refine k_it (v := (ushr x1 1)) rfl ?_
  refine lv_ldcw zx zb S.2.2.2.1 (S.2.2.2.2 _ mm_J6_bitCount_0f7a4_c265) dJ6_bitCount_0f7a4_4 ?_
  refine lv_iand zx zb dJ6_bitCount_0f7a4_7 ?_
  refine r_isub (v := (x1 - ((ushr x1 1) &&& 1431655765))) S rfl dJ6_bitCount_0f7a4_8 ?_
  refine lv_istore_n (lv' := [(0, .int (x1 - ((ushr x1 1) &&& 1431655765)))]) zx zb dJ6_bitCount_0f7a4_9 rfl hl (by decide) rfl (fun ls hl => ?_)
  refine lv_iload_n zx zb dJ6_bitCount_0f7a4_10 rfl (lv_at hl 0 rfl) ?_
  refine lv_ldcw zx zb S.2.2.2.1 (S.2.2.2.2 _ mm_J6_bitCount_0f7a4_c266) dJ6_bitCount_0f7a4_11 ?_
  refine lv_iand zx zb dJ6_bitCount_0f7a4_14 ?_
  refine lv_iload_n zx zb dJ6_bitCount_0f7a4_15 rfl (lv_at hl 0 rfl) ?_
  refine lv_iconst (v := 2) zx zb dJ6_bitCount_0f7a4_16 (by decide) ?_
  refine lv_iushr zx zb dJ6_bitCount_0f7a4_17 rfl ?_
  refine k_it (v := (ushr (x1 - ((ushr x1 1) &&& 1431655765)) 2)) rfl ?_
  refine lv_ldcw zx zb S.2.2.2.1 (S.2.2.2.2 _ mm_J6_bitCount_0f7a4_c266) dJ6_bitCount_0f7a4_18 ?_
  refine lv_iand zx zb dJ6_bitCount_0f7a4_21 ?_
  refine r_iadd (v := (((x1 - ((ushr x1 1) &&& 1431655765)) &&& 858993459) + ((ushr (x1 - ((ushr x1 1) &&& 1431655765)) 2) &&& 858993459))) S rfl dJ6_bitCount_0f7a4_22 ?_
  refine lv_istore_n (lv' := [(0, .int (((x1 - ((ushr x1 1) &&& 1431655765)) &&& 858993459) + ((ushr (x1 - ((ushr x1 1) &&& 1431655765)) 2) &&& 858993459)))]) zx zb dJ6_bitCount_0f7a4_23 rfl hl (by decide) rfl (fun ls hl => ?_)
  refine lv_iload_n zx zb dJ6_bitCount_0f7a4_24 rfl (lv_at hl 0 rfl) ?_
  refine lv_iload_n zx zb dJ6_bitCount_0f7a4_25 rfl (lv_at hl 0 rfl) ?_
  refine lv_iconst (v := 4) zx zb dJ6_bitCount_0f7a4_26 (by decide) ?_
  refine lv_iushr zx zb dJ6_bitCount_0f7a4_27 rfl ?_
  refine k_it (v := (ushr (((x1 - ((ushr x1 1) &&& 1431655765)) &&& 858993459) + ((ushr (x1 - ((ushr x1 1) &&& 1431655765)) 2) &&& 858993459)) 4)) rfl ?_
  refine r_iadd (v := ((((x1 - ((ushr x1 1) &&& 1431655765)) &&& 858993459) + ((ushr (x1 - ((ushr x1 1) &&& 1431655765)) 2) &&& 858993459)) + (ushr (((x1 - ((ushr x1 1) &&& 1431655765)) &&& 858993459) + ((ushr (x1 - ((ushr x1 1) &&& 1431655765)) 2) &&& 858993459)) 4))) S rfl dJ6_bitCount_0f7a4_28 ?_
  refine lv_ldcw zx zb S.2.2.2.1 (S.2.2.2.2 _ mm_J6_bitCount_0f7a4_c267) dJ6_bitCount_0f7a4_29 ?_
  refine lv_iand zx zb dJ6_bitCount_0f7a4_32 ?_
  refine lv_istore_n (lv' := [(0, .int (((((x1 - ((ushr x1 1) &&& 1431655765)) &&& 858993459) + ((ushr (x1 - ((ushr x1 1) &&& 1431655765)) 2) &&& 858993459)) + (ushr (((x1 - ((ushr x1 1) &&& 1431655765)) &&& 858993459) + ((ushr (x1 - ((ushr x1 1) &&& 1431655765)) 2) &&& 858993459)) 4)) &&& 252645135))]) zx zb dJ6_bitCount_0f7a4_33 rfl hl (by decide) rfl (fun ls hl => ?_)
  refine lv_iload_n zx zb dJ6_bitCount_0f7a4_34 rfl (lv_at hl 0 rfl) ?_
  refine lv_iload_n zx zb dJ6_bitCount_0f7a4_35 rfl (lv_at hl 0 rfl) ?_
  refine lv_bipush (v := 8) zx zb dJ6_bitCount_0f7a4_36 (by decide) ?_
  refine lv_iushr zx zb dJ6_bitCount_0f7a4_38 rfl ?_
  refine k_it (v := (ushr (((((x1 - ((ushr x1 1) &&& 1431655765)) &&& 858993459) + ((ushr (x1 - ((ushr x1 1) &&& 1431655765)) 2) &&& 858993459)) + (ushr (((x1 - ((ushr x1 1) &&& 1431655765)) &&& 858993459) + ((ushr (x1 - ((ushr x1 1) &&& 1431655765)) 2) &&& 858993459)) 4)) &&& 252645135) 8)) rfl ?_
  refine r_iadd (v := ((((((x1 - ((ushr x1 1) &&& 1431655765)) &&& 858993459) + ((ushr (x1 - ((ushr x1 1) &&& 1431655765)) 2) &&& 858993459)) + (ushr (((x1 - ((ushr x1 1) &&& 1431655765)) &&& 858993459) + ((ushr (x1 - ((ushr x1 1) &&& 1431655765)) 2) &&& 858993459)) 4)) &&& 252645135) + (ushr (((((x1 - ((ushr x1 1) &&& 1431655765)) &&& 858993459) + ((ushr (x1 - ((ushr x1 1) &&& 1431655765)) 2) &&& 858993459)) + (ushr (((x1 - ((ushr x1 1) &&& 1431655765)) &&& 858993459) + ((ushr (x1 - ((ushr x1 1) &&& 1431655765)) 2) &&& 858993459)) 4)) &&& 252645135) 8))) S rfl dJ6_bitCount_0f7a4_39 ?_
  refine lv_istore_n (lv' := [(0, .int ((((((x1 - ((ushr x1 1) &&& 1431655765)) &&& 858993459) + ((ushr (x1 - ((ushr x1 1) &&& 1431655765)) 2) &&& 858993459)) + (ushr (((x1 - ((ushr x1 1) &&& 1431655765)) &&& 858993459) + ((ushr (x1 - ((ushr x1 1) &&& 1431655765)) 2) &&& 858993459)) 4)) &&& 252645135) + (ushr (((((x1 - ((ushr x1 1) &&& 1431655765)) &&& 858993459) + ((ushr (x1 - ((ushr x1 1) &&& 1431655765)) 2) &&& 858993459)) + (ushr (((x1 - ((ushr x1 1) &&& 1431655765)) &&& 858993459) + ((ushr (x1 - ((ushr x1 1) &&& 1431655765)) 2) &&& 858993459)) 4)) &&& 252645135) 8)))]) zx zb dJ6_bitCount_0f7a4_40 rfl hl (by decide) rfl (fun ls hl => ?_)
  refine lv_iload_n zx zb dJ6_bitCount_0f7a4_41 rfl (lv_at hl 0 rfl) ?_
  refine lv_iload_n zx zb dJ6_bitCount_0f7a4_42 rfl (lv_at hl 0 rfl) ?_
  refine lv_bipush (v := 16) zx zb dJ6_bitCount_0f7a4_43 (by decide) ?_
  refine lv_iushr zx zb dJ6_bitCount_0f7a4_45 rfl ?_
  refine k_it (v := (ushr ((((((x1 - ((ushr x1 1) &&& 1431655765)) &&& 858993459) + ((ushr (x1 - ((ushr x1 1) &&& 1431655765)) 2) &&& 858993459)) + (ushr (((x1 - ((ushr x1 1) &&& 1431655765)) &&& 858993459) + ((ushr (x1 - ((ushr x1 1) &&& 1431655765)) 2) &&& 858993459)) 4)) &&& 252645135) + (ushr (((((x1 - ((ushr x1 1) &&& 1431655765)) &&& 858993459) + ((ushr (x1 - ((ushr x1 1) &&& 1431655765)) 2) &&& 858993459)) + (ushr (((x1 - ((ushr x1 1) &&& 1431655765)) &&& 858993459) + ((ushr (x1 - ((ushr x1 1) &&& 1431655765)) 2) &&& 858993459)) 4)) &&& 252645135) 8)) 16)) rfl ?_
  refine r_iadd (v := (((((((x1 - ((ushr x1 1) &&& 1431655765)) &&& 858993459) + ((ushr (x1 - ((ushr x1 1) &&& 1431655765)) 2) &&& 858993459)) + (ushr (((x1 - ((ushr x1 1) &&& 1431655765)) &&& 858993459) + ((ushr (x1 - ((ushr x1 1) &&& 1431655765)) 2) &&& 858993459)) 4)) &&& 252645135) + (ushr (((((x1 - ((ushr x1 1) &&& 1431655765)) &&& 858993459) + ((ushr (x1 - ((ushr x1 1) &&& 1431655765)) 2) &&& 858993459)) + (ushr (((x1 - ((ushr x1 1) &&& 1431655765)) &&& 858993459) + ((ushr (x1 - ((ushr x1 1) &&& 1431655765)) 2) &&& 858993459)) 4)) &&& 252645135) 8)) + (ushr ((((((x1 - ((ushr x1 1) &&& 1431655765)) &&& 858993459) + ((ushr (x1 - ((ushr x1 1) &&& 1431655765)) 2) &&& 858993459)) + (ushr (((x1 - ((ushr x1 1) &&& 1431655765)) &&& 858993459) + ((ushr (x1 - ((ushr x1 1) &&& 1431655765)) 2) &&& 858993459)) 4)) &&& 252645135) + (ushr (((((x1 - ((ushr x1 1) &&& 1431655765)) &&& 858993459) + ((ushr (x1 - ((ushr x1 1) &&& 1431655765)) 2) &&& 858993459)) + (ushr (((x1 - ((ushr x1 1) &&& 1431655765)) &&& 858993459) + ((ushr (x1 - ((ushr x1 1) &&& 1431655765)) 2) &&& 858993459)) 4)) &&& 252645135) 8)) 16))) S rfl dJ6_bitCount_0f7a4_46 ?_
  refine lv_istore_n (lv' := [(0, .int (((((((x1 - ((ushr x1 1) &&& 1431655765)) &&& 858993459) + ((ushr (x1 - ((ushr x1 1) &&& 1431655765)) 2) &&& 858993459)) + (ushr (((x1 - ((ushr x1 1) &&& 1431655765)) &&& 858993459) + ((ushr (x1 - ((ushr x1 1) &&& 1431655765)) 2) &&& 858993459)) 4)) &&& 252645135) + (ushr (((((x1 - ((ushr x1 1) &&& 1431655765)) &&& 858993459) + ((ushr (x1 - ((ushr x1 1) &&& 1431655765)) 2) &&& 858993459)) + (ushr (((x1 - ((ushr x1 1) &&& 1431655765)) &&& 858993459) + ((ushr (x1 - ((ushr x1 1) &&& 1431655765)) 2) &&& 858993459)) 4)) &&& 252645135) 8)) + (ushr ((((((x1 - ((ushr x1 1) &&& 1431655765)) &&& 858993459) + ((ushr (x1 - ((ushr x1 1) &&& 1431655765)) 2) &&& 858993459)) + (ushr (((x1 - ((ushr x1 1) &&& 1431655765)) &&& 858993459) + ((ushr (x1 - ((ushr x1 1) &&& 1431655765)) 2) &&& 858993459)) 4)) &&& 252645135) + (ushr (((((x1 - ((ushr x1 1) &&& 1431655765)) &&& 858993459) + ((ushr (x1 - ((ushr x1 1) &&& 1431655765)) 2) &&& 858993459)) + (ushr (((x1 - ((ushr x1 1) &&& 1431655765)) &&& 858993459) + ((ushr (x1 - ((ushr x1 1) &&& 1431655765)) 2) &&& 858993459)) 4)) &&& 252645135) 8)) 16)))]) zx zb dJ6_bitCount_0f7a4_47 rfl hl (by decide) rfl (fun ls hl => ?_)
  refine lv_iload_n zx zb dJ6_bitCount_0f7a4_48 rfl (lv_at hl 0 rfl) ?_
  refine lv_bipush (v := 63) zx zb dJ6_bitCount_0f7a4_49 (by decide) ?_
  refine lv_iand zx zb dJ6_bitCount_0f7a4_51 ?_
  exact e_int S zr zlk (vp_nar_int _) G () [] rfl rfl (Or.inl rfl) (rfl) dJ6_bitCount_0f7a4_52
set_option maxHeartbeats 4000000 in
set_option maxRecDepth 100000 in
theorem x_hasBit (l : Launch) (X : EX) (B : Int32) (k : Nat) (sz : Nat) : Met l yX10_hasBit wsX10_hasBit ({ frames := 0, cells := 0, slots := 0, locals := 0 } : Room) (pE X [.int B, .int (nI k)] ([]) sz) (qI (fun (r : Int32) (u : Unit) => (r = 1 ∧ hasB B k) ∨ (r = 0 ∧ ¬ hasB B k)) X (fun (u : Unit) => []) [] sz) 0 0 (va_A [] sz) := by
  refine mk_met (B := (fun _ => True)) (A := (va_A [] sz)) (cc := cX10_hasBit) (maxL := 2) (ret := (some .boolean)) (by decide) rfl (Nat.le_of_ble_eq_true rfl) k_ro k_a (fun p e s m below meth c S zr zlk znm zsz G ls hl => ?_)
  have S : CallFix p m c cX10_hasBit 2 s _ wsX10_hasBit RX10 := S
  have zx := S.1
  have zb := S.2.1
  have hl : lv_has ls 2 [(0, .int B), (1, .int (nI k))] := hl
  refine lv_iload_n zx zb dX10_hasBit_0 rfl (lv_at hl 0 rfl) ?_
  refine lv_iload_n zx zb dX10_hasBit_1 rfl (lv_at hl 1 rfl) ?_
  refine lv_ishr zx zb dX10_hasBit_2 ?_
  refine lv_iconst (v := 1) zx zb dX10_hasBit_3 (by decide) ?_
  refine lv_iand zx zb dX10_hasBit_4 ?_
  refine lv_iconst (v := 1) zx zb dX10_hasBit_5 (by decide) ?_
  refine lv_icmp_ne (tgt := 13) zx zb dX10_hasBit_6 (by decide) (fun c_1 => ?_) (fun c_1 => ?_)
  · refine lv_iconst (v := 0) zx zb dX10_hasBit_13 (by decide) ?_
    exact e_int S zr zlk (by decide) G () [] rfl rfl (Or.inl rfl) (Or.inr ⟨rfl, c_1⟩) dX10_hasBit_14
  · refine lv_iconst (v := 1) zx zb dX10_hasBit_9 (by decide) ?_
    refine lv_goto (tgt := 14) zx zb dX10_hasBit_10 (by decide) ?_
    exact e_int S zr zlk (by decide) G () [] rfl rfl (Or.inl rfl) (Or.inl ⟨rfl, c_1⟩) dX10_hasBit_14
set_option maxHeartbeats 4000000 in
set_option maxRecDepth 100000 in
theorem x_strong (l : Launch) (X : EX) (h0 : Nat) (nw : Nat) (sp : Nat) (xa : Nat → Nat) (la : Int64) (lb : Int64) (an : Nat → Nat) (sv : Nat → Int32) (dv : Nat → Int32) (n0 : Nat) (n1 : Nat) (n2 : Nat) (n3 : Nat) (n4 : Nat) (g0 : Nat → Int32) (gs : Nat → Int32) (gn : Nat → Int32) (gm : Nat → Int32) (fr : Nat → Int32) (x1 : Int32) (x2 : Int32) (hI_n0 : n0 ≤ 6) (hI_n1 : n1 ≤ 8) (hI_n2 : n2 ≤ 5) (hI_n3 : n3 ≤ 6) (hI_n4 : n4 ≤ 6) (sz : Nat) : Met l yX10_strong wsX10_strong ({ frames := 3, cells := 0, slots := 0, locals := 75 } : Room) (pE X [.ref h0, .int x1, .int x2] (@HAppend.hAppend va_W va_W va_W _ (xW h0 nw sp xa la lb) (@HAppend.hAppend va_W va_W va_W _ (rcV X nw an sv dv n0 n1 n2 n3 n4 g0 gs gn gm) ([((xa 5), .inl (X.2.1, 3, .inl fr))]))) sz) (qI (fun (r : Int32) (u : (Nat → Int32)) => (r = ansF (thP n0 x1 ∧ ((0 : Int32) ≤ x2 ∧ x2 ≤ 2)) (strF (setF (fun l => fitP n2 (rowA gs 0) (fun _ => nI l) (rowA gs 2) (rowA gs 3) (rowA gs 4) x1 (sv (3 * x1.toNatClampNeg))) 1 9) x2))) X (fun (u : (Nat → Int32)) => @HAppend.hAppend va_W va_W va_W _ (xW h0 nw sp xa la lb) (@HAppend.hAppend va_W va_W va_W _ (rcV X nw an sv dv n0 n1 n2 n3 n4 g0 gs gn gm) ([((xa 5), .inl (X.2.1, 3, .inl u))]))) (@HAppend.hAppend va_W va_W va_W _ (xW h0 nw sp xa la lb) (@HAppend.hAppend va_W va_W va_W _ (rcV X nw an sv dv n0 n1 n2 n3 n4 g0 gs gn gm) ([((xa 5), .inl (X.2.1, 3, .inl fr))]))) sz) 0 0 (va_A (@HAppend.hAppend va_W va_W va_W _ (xW h0 nw sp xa la lb) (@HAppend.hAppend va_W va_W va_W _ (rcV X nw an sv dv n0 n1 n2 n3 n4 g0 gs gn gm) ([((xa 5), .inl (X.2.1, 3, .inl fr))]))) sz) := by
  refine mk_met (B := (va_A (@HAppend.hAppend va_W va_W va_W _ (xW h0 nw sp xa la lb) (@HAppend.hAppend va_W va_W va_W _ (rcV X nw an sv dv n0 n1 n2 n3 n4 g0 gs gn gm) ([((xa 5), .inl (X.2.1, 3, .inl fr))]))) sz)) (A := (va_A (@HAppend.hAppend va_W va_W va_W _ (xW h0 nw sp xa la lb) (@HAppend.hAppend va_W va_W va_W _ (rcV X nw an sv dv n0 n1 n2 n3 n4 g0 gs gn gm) ([((xa 5), .inl (X.2.1, 3, .inl fr))]))) sz)) (cc := cX10_strong) (maxL := 6) (ret := (some .int)) (by decide) rfl (Nat.le_of_ble_eq_true rfl) k_w k_a (fun p e s m below meth c S zr zlk znm zsz G ls hl => ?_)
  have S : CallFix p m c cX10_strong 6 s _ wsX10_strong RX10 := S
  have zx := S.1
  have zb := S.2.1
  have hl : lv_has ls 6 [(0, .ref h0), (1, .int x1), (2, .int x2)] := hl
  refine lv_aload_n zx zb dX10_strong_0 rfl (lv_at hl 0 rfl) ?_
  refine lv_iload_n zx zb dX10_strong_1 rfl (lv_at hl 1 rfl) ?_
  refine o_ri (cells' := 0) (slots' := 0) G rfl rfl (n_V (As := [.int x1]) (rest := []) (C := RX10) (T := TX10) (N := 14) (ci := 8) S G (s_there l X h0 nw sp xa la lb an sv dv n0 n1 n2 n3 n4 g0 gs gn gm x1 hI_n0 hI_n1 hI_n2 hI_n3 hI_n4 s.heap.size) gX10_strong_X10_there rfl rfl rfl hdV_X10_there ⟨Nat.le_of_ble_eq_true rfl, Nat.le_of_ble_eq_true rfl⟩ [0, 1, 2, 3, 4, 5, 6, 7, 8, 9, 10, 11, 12, 13, 14, 15, 16] rfl rfl 0 rfl rfl rfl hl.1 (Nat.le_of_ble_eq_true rfl) dX10_strong_2 ⟨Nat.le_of_ble_eq_true rfl, Nat.le_of_ble_eq_true rfl⟩) (fun r_1 u_1 H locs hp_1 G => ?_)
  have G : wd X (va_A (@HAppend.hAppend va_W va_W va_W _ (xW h0 nw sp xa la lb) (@HAppend.hAppend va_W va_W va_W _ (rcV X nw an sv dv n0 n1 n2 n3 n4 g0 gs gn gm) ([((xa 5), .inl (X.2.1, 3, .inl fr))]))) sz) (va_A (@HAppend.hAppend va_W va_W va_W _ (xW h0 nw sp xa la lb) (@HAppend.hAppend va_W va_W va_W _ (rcV X nw an sv dv n0 n1 n2 n3 n4 g0 gs gn gm) ([((xa 5), .inl (X.2.1, 3, .inl fr))]))) sz) s (@HAppend.hAppend va_W va_W va_W _ (xW h0 nw sp xa la lb) (@HAppend.hAppend va_W va_W va_W _ (rcV X nw an sv dv n0 n1 n2 n3 n4 g0 gs gn gm) ([((xa 5), .inl (X.2.1, 3, .inl fr))]))) H locs := G
  rcases hp_1 with ⟨rfl, hj_1⟩ | ⟨rfl, hj_1⟩
  · obtain ⟨j_1, hj_1, rfl⟩ := hj_1
    refine lv_if_eq (tgt := 17) zx zb dX10_strong_5 (by decide) (fun c_2 => absurd c_2 (by decide)) (fun c_2 => ?_)
    refine lv_iload_n zx zb dX10_strong_8 rfl (lv_at hl 2 rfl) ?_
    refine lv_iconst (v := 0) zx zb dX10_strong_9 (by decide) ?_
    refine lv_iconst (v := 2) zx zb dX10_strong_10 (by decide) ?_
    refine o_ri (cells' := 0) (slots' := 0) G rfl rfl (n_S (As := [.int x2, .int 0, .int 2]) (rest := []) S G (s_within l X x2 0 2 H.size) gX10_strong_X10_within rfl rfl rfl hdS_X10_within ⟨Nat.le_of_ble_eq_true rfl, Nat.le_of_ble_eq_true rfl⟩ [] rfl rfl rfl hl.1 (Nat.le_of_ble_eq_true rfl) dX10_strong_11 ⟨Nat.le_of_ble_eq_true rfl, Nat.le_of_ble_eq_true rfl⟩) (fun r_3 u_3 H locs hp_3 G => ?_)
    have G : wd X (va_A (@HAppend.hAppend va_W va_W va_W _ (xW h0 nw sp xa la lb) (@HAppend.hAppend va_W va_W va_W _ (rcV X nw an sv dv n0 n1 n2 n3 n4 g0 gs gn gm) ([((xa 5), .inl (X.2.1, 3, .inl fr))]))) sz) (va_A (@HAppend.hAppend va_W va_W va_W _ (xW h0 nw sp xa la lb) (@HAppend.hAppend va_W va_W va_W _ (rcV X nw an sv dv n0 n1 n2 n3 n4 g0 gs gn gm) ([((xa 5), .inl (X.2.1, 3, .inl fr))]))) sz) s (@HAppend.hAppend va_W va_W va_W _ (xW h0 nw sp xa la lb) (@HAppend.hAppend va_W va_W va_W _ (rcV X nw an sv dv n0 n1 n2 n3 n4 g0 gs gn gm) ([((xa 5), .inl (X.2.1, 3, .inl fr))]))) H locs := G
    rcases hp_3 with ⟨rfl, hw_3⟩ | ⟨rfl, hw_3⟩
    · refine lv_if_ne (tgt := 24) zx zb dX10_strong_14 (by decide) (fun c_4 => ?_) (fun c_4 => absurd c_4 (by decide))
      obtain ⟨jw, ⟨hja, hjb⟩, rfl⟩ := k_natR (a := 0) (b := 2) hw_3 rfl rfl (by decide) (by decide)
      rcases k_3c (show jw < 3 by omega) with rfl | rfl | rfl
      · have hl : lv_has ls 6 [(0, .ref h0), (1, .int (nI j_1)), (2, .int 0)] := hl
        refine lv_aload_n zx zb dX10_strong_24 rfl (lv_at hl 0 rfl) ?_
        refine r_get (C := RX10) (T := TX10) (N := 14) (ci := 8) (v := .ref nw) S in_X10_strong_X10 G 0 rfl rfl 0 (by decide) lk_X10_strong_10 rfl dX10_strong_25 ?_
        refine lv_iload_n zx zb dX10_strong_28 rfl (lv_at hl 1 rfl) ?_
        refine o_ri (cells' := 0) (slots' := 0) G rfl rfl (n_V (As := [.int (nI j_1)]) (rest := []) (C := RX5) (T := TX5) (N := 8) (ci := 3) S G (x_legsThatFit l X nw an sv dv n0 n1 n2 n3 n4 g0 gs gn gm j_1 hI_n0 hI_n1 hI_n2 hI_n3 hI_n4 (by omega) H.size) gX10_strong_X5_legsThatFit rfl rfl rfl hdV_X5_legsThatFit ⟨Nat.le_of_ble_eq_true rfl, Nat.le_of_ble_eq_true rfl⟩ [1, 2, 3, 4, 5, 6, 7, 8, 9, 10, 11, 12, 13, 14, 15, 16] rfl rfl 1 rfl rfl rfl hl.1 (Nat.le_of_ble_eq_true rfl) dX10_strong_29 ⟨Nat.le_of_ble_eq_true rfl, Nat.le_of_ble_eq_true rfl⟩) (fun r_5 u_5 H locs hp_5 G => ?_)
        have G : wd X (va_A (@HAppend.hAppend va_W va_W va_W _ (xW h0 nw sp xa la lb) (@HAppend.hAppend va_W va_W va_W _ (rcV X nw an sv dv n0 n1 n2 n3 n4 g0 gs gn gm) ([((xa 5), .inl (X.2.1, 3, .inl fr))]))) sz) (va_A (@HAppend.hAppend va_W va_W va_W _ (xW h0 nw sp xa la lb) (@HAppend.hAppend va_W va_W va_W _ (rcV X nw an sv dv n0 n1 n2 n3 n4 g0 gs gn gm) ([((xa 5), .inl (X.2.1, 3, .inl fr))]))) sz) s (@HAppend.hAppend va_W va_W va_W _ (xW h0 nw sp xa la lb) (@HAppend.hAppend va_W va_W va_W _ (rcV X nw an sv dv n0 n1 n2 n3 n4 g0 gs gn gm) ([((xa 5), .inl (X.2.1, 3, .inl fr))]))) H locs := G
        obtain ⟨B0, hB0⟩ : ∃ B0 : Int32, r_5 = B0 := ⟨_, rfl⟩
        refine lv_istore_n (lv' := [(3, .int r_5), (0, .ref h0), (1, .int (nI j_1)), (2, .int 0)]) zx zb dX10_strong_32 rfl hl (by decide) rfl (fun ls hl => ?_)
        refine lv_iload_n zx zb dX10_strong_33 rfl (lv_at hl 3 rfl) ?_
        refine lv_if_ne (tgt := 42) zx zb dX10_strong_34 (by decide) (fun c_6 => absurd (by decide) c_6) (fun c_6 => ?_)
        refine lv_iload_n zx zb dX10_strong_37 rfl (lv_at hl 0 rfl) ?_
        refine o_ri (cells' := 0) (slots' := 0) G rfl rfl (n_S (As := [.int r_5]) (rest := []) S G (x_bitCount l X r_5 H.size) gX10_strong_J6_bitCount_0f7a4 rfl rfl rfl hdS_J6_bitCount_0f7a4 ⟨Nat.le_of_ble_eq_true rfl, Nat.le_of_ble_eq_true rfl⟩ [] rfl rfl rfl hl.1 (Nat.le_of_ble_eq_true rfl) dX10_strong_38 ⟨Nat.le_of_ble_eq_true rfl, Nat.le_of_ble_eq_true rfl⟩) (fun r_7 u_7 H locs hp_7 G => ?_)
        have G : wd X (va_A (@HAppend.hAppend va_W va_W va_W _ (xW h0 nw sp xa la lb) (@HAppend.hAppend va_W va_W va_W _ (rcV X nw an sv dv n0 n1 n2 n3 n4 g0 gs gn gm) ([((xa 5), .inl (X.2.1, 3, .inl fr))]))) sz) (va_A (@HAppend.hAppend va_W va_W va_W _ (xW h0 nw sp xa la lb) (@HAppend.hAppend va_W va_W va_W _ (rcV X nw an sv dv n0 n1 n2 n3 n4 g0 gs gn gm) ([((xa 5), .inl (X.2.1, 3, .inl fr))]))) sz) s (@HAppend.hAppend va_W va_W va_W _ (xW h0 nw sp xa la lb) (@HAppend.hAppend va_W va_W va_W _ (rcV X nw an sv dv n0 n1 n2 n3 n4 g0 gs gn gm) ([((xa 5), .inl (X.2.1, 3, .inl fr))]))) H locs := G
        obtain rfl := hp_7
        have hST : (bcT r_5) = strF r_5 (0 : Int32) := (by rw [hp_5]; exact bc_set)
        exact e_int S zr zlk (vp_nar_int _) G (fr) [0, 1, 2, 3, 4, 5, 6, 7, 8, 9, 10, 11, 12, 13, 14, 15, 16, 17] rfl rfl (Or.inr rfl) (hST.trans ((congrArg (fun z => strF z _) (hp_5.trans (by rw [nI_clamp (by first | omega | (dsimp only; omega))]))).trans (ansF_t ⟨⟨_, hj_1, rfl⟩, hw_3⟩).symm)) dX10_strong_41
      · have hl : lv_has ls 6 [(0, .ref h0), (1, .int (nI j_1)), (2, .int 1)] := hl
        refine lv_aload_n zx zb dX10_strong_24 rfl (lv_at hl 0 rfl) ?_
        refine r_get (C := RX10) (T := TX10) (N := 14) (ci := 8) (v := .ref nw) S in_X10_strong_X10 G 0 rfl rfl 0 (by decide) lk_X10_strong_10 rfl dX10_strong_25 ?_
        refine lv_iload_n zx zb dX10_strong_28 rfl (lv_at hl 1 rfl) ?_
        refine o_ri (cells' := 0) (slots' := 0) G rfl rfl (n_V (As := [.int (nI j_1)]) (rest := []) (C := RX5) (T := TX5) (N := 8) (ci := 3) S G (x_legsThatFit l X nw an sv dv n0 n1 n2 n3 n4 g0 gs gn gm j_1 hI_n0 hI_n1 hI_n2 hI_n3 hI_n4 (by omega) H.size) gX10_strong_X5_legsThatFit rfl rfl rfl hdV_X5_legsThatFit ⟨Nat.le_of_ble_eq_true rfl, Nat.le_of_ble_eq_true rfl⟩ [1, 2, 3, 4, 5, 6, 7, 8, 9, 10, 11, 12, 13, 14, 15, 16] rfl rfl 1 rfl rfl rfl hl.1 (Nat.le_of_ble_eq_true rfl) dX10_strong_29 ⟨Nat.le_of_ble_eq_true rfl, Nat.le_of_ble_eq_true rfl⟩) (fun r_8 u_8 H locs hp_8 G => ?_)
        have G : wd X (va_A (@HAppend.hAppend va_W va_W va_W _ (xW h0 nw sp xa la lb) (@HAppend.hAppend va_W va_W va_W _ (rcV X nw an sv dv n0 n1 n2 n3 n4 g0 gs gn gm) ([((xa 5), .inl (X.2.1, 3, .inl fr))]))) sz) (va_A (@HAppend.hAppend va_W va_W va_W _ (xW h0 nw sp xa la lb) (@HAppend.hAppend va_W va_W va_W _ (rcV X nw an sv dv n0 n1 n2 n3 n4 g0 gs gn gm) ([((xa 5), .inl (X.2.1, 3, .inl fr))]))) sz) s (@HAppend.hAppend va_W va_W va_W _ (xW h0 nw sp xa la lb) (@HAppend.hAppend va_W va_W va_W _ (rcV X nw an sv dv n0 n1 n2 n3 n4 g0 gs gn gm) ([((xa 5), .inl (X.2.1, 3, .inl fr))]))) H locs := G
        obtain ⟨B0, hB0⟩ : ∃ B0 : Int32, r_8 = B0 := ⟨_, rfl⟩
        refine lv_istore_n (lv' := [(3, .int r_8), (0, .ref h0), (1, .int (nI j_1)), (2, .int 1)]) zx zb dX10_strong_32 rfl hl (by decide) rfl (fun ls hl => ?_)
        refine lv_iload_n zx zb dX10_strong_33 rfl (lv_at hl 3 rfl) ?_
        refine lv_if_ne (tgt := 42) zx zb dX10_strong_34 (by decide) (fun c_9 => ?_) (fun c_9 => absurd c_9 (by decide))
        refine lv_iconst (v := (-1)) zx zb dX10_strong_42 (by decide) ?_
        refine lv_istore (lv' := [(4, .int (-1)), (3, .int r_8), (0, .ref h0), (1, .int (nI j_1)), (2, .int 1)]) zx zb dX10_strong_43 hl (by decide) rfl (fun ls hl => ?_)
        refine lv_iconst (v := 1) zx zb dX10_strong_45 (by decide) ?_
        refine lv_istore (lv' := [(5, .int 1), (4, .int (-1)), (3, .int r_8), (0, .ref h0), (1, .int (nI j_1)), (2, .int 1)]) zx zb dX10_strong_46 hl (by decide) rfl (fun ls hl => ?_)
        refine k_loop (P := ∀ (zm : Nat) (n48_5 : Nat) (x48_4 : Int32) (H : Heap) (locs : List Loc) (ls : Array Slot), ((10 - n48_5) < zm) → ((1 ≤ n48_5 ∧ n48_5 ≤ 10) ∧ x48_4 = leaF r_8 (n48_5 - 1)) → (n48_5 ≤ 10) → wd X (va_A (@HAppend.hAppend va_W va_W va_W _ (xW h0 nw sp xa la lb) (@HAppend.hAppend va_W va_W va_W _ (rcV X nw an sv dv n0 n1 n2 n3 n4 g0 gs gn gm) ([((xa 5), .inl (X.2.1, 3, .inl fr))]))) sz) (va_A (@HAppend.hAppend va_W va_W va_W _ (xW h0 nw sp xa la lb) (@HAppend.hAppend va_W va_W va_W _ (rcV X nw an sv dv n0 n1 n2 n3 n4 g0 gs gn gm) ([((xa 5), .inl (X.2.1, 3, .inl fr))]))) sz) s (@HAppend.hAppend va_W va_W va_W _ (xW h0 nw sp xa la lb) (@HAppend.hAppend va_W va_W va_W _ (rcV X nw an sv dv n0 n1 n2 n3 n4 g0 gs gn gm) ([((xa 5), .inl (X.2.1, 3, .inl fr))]))) H locs → lv_has ls 6 [(5, .int (nI n48_5)), (4, .int x48_4), (3, .int r_8), (0, .ref h0), (1, .int (nI j_1)), (2, .int 1)] → W p l e _ s m _ below meth c H locs _ _ _ (F0 m 48 ls [])) (fun loop => loop ((10 - 1) + 1) 1 (-1) _ _ _ (by omega) ⟨by omega, rfl⟩ (by omega) G hl) ?_
        intro zm
        induction zm with
        | zero => intro n48_5 x48_4 H locs ls zz q_x0 q_hk_n48_5 _ _; exact absurd zz (by omega)
        | succ zm ih48 =>
          intro n48_5 x48_4 H locs ls zm_48 hx48_0 hk_n48_5 G hl
          refine lv_iload zx zb dX10_strong_48 (lv_at hl 0 rfl) ?_
          refine lv_bipush (v := 9) zx zb dX10_strong_50 (by decide) ?_
          refine lv_icmp_gt (tgt := 85) zx zb dX10_strong_52 (by decide) (fun c_10 => ?_) (fun c_10 => ?_)
          · have fc_10 := j_lt (a := 9) (b := n48_5) (by omega) (by omega) c_10
            refine lv_iload zx zb dX10_strong_85 (lv_at hl 1 rfl) ?_
            have hST : x48_4 = strF r_8 (1 : Int32) := hx48_0.2.trans (by rw [show n48_5 = 10 from by omega]; rfl)
            exact e_int S zr zlk (vp_nar_int _) G (fr) [0, 1, 2, 3, 4, 5, 6, 7, 8, 9, 10, 11, 12, 13, 14, 15, 16, 17] rfl rfl (Or.inr rfl) (hST.trans ((congrArg (fun z => strF z _) (hp_8.trans (by rw [nI_clamp (by first | omega | (dsimp only; omega))]))).trans (ansF_t ⟨⟨_, hj_1, rfl⟩, hw_3⟩).symm)) dX10_strong_87
          · have fc_10 := j_nlt (a := 9) (b := n48_5) (by omega) (by omega) c_10
            refine lv_iload_n zx zb dX10_strong_55 rfl (lv_at hl 2 rfl) ?_
            refine lv_iload zx zb dX10_strong_56 (lv_at hl 0 rfl) ?_
            refine o_ri (cells' := 0) (slots' := 0) G rfl rfl (n_S (As := [.int r_8, .int (nI n48_5)]) (rest := []) S G (x_hasBit l X r_8 n48_5 H.size) gX10_strong_X10_hasBit rfl rfl rfl hdS_X10_hasBit ⟨Nat.le_of_ble_eq_true rfl, Nat.le_of_ble_eq_true rfl⟩ [] rfl rfl rfl hl.1 (Nat.le_of_ble_eq_true rfl) dX10_strong_58 ⟨Nat.le_of_ble_eq_true rfl, Nat.le_of_ble_eq_true rfl⟩) (fun r_11 u_11 H locs hp_11 G => ?_)
            have G : wd X (va_A (@HAppend.hAppend va_W va_W va_W _ (xW h0 nw sp xa la lb) (@HAppend.hAppend va_W va_W va_W _ (rcV X nw an sv dv n0 n1 n2 n3 n4 g0 gs gn gm) ([((xa 5), .inl (X.2.1, 3, .inl fr))]))) sz) (va_A (@HAppend.hAppend va_W va_W va_W _ (xW h0 nw sp xa la lb) (@HAppend.hAppend va_W va_W va_W _ (rcV X nw an sv dv n0 n1 n2 n3 n4 g0 gs gn gm) ([((xa 5), .inl (X.2.1, 3, .inl fr))]))) sz) s (@HAppend.hAppend va_W va_W va_W _ (xW h0 nw sp xa la lb) (@HAppend.hAppend va_W va_W va_W _ (rcV X nw an sv dv n0 n1 n2 n3 n4 g0 gs gn gm) ([((xa 5), .inl (X.2.1, 3, .inl fr))]))) H locs := G
            rcases hp_11 with ⟨rfl, hb_11⟩ | ⟨rfl, hb_11⟩
            · refine lv_if_eq (tgt := 79) zx zb dX10_strong_61 (by decide) (fun c_12 => absurd c_12 (by decide)) (fun c_12 => ?_)
              refine lv_iload_n zx zb dX10_strong_64 rfl (lv_at hl 5 rfl) ?_
              refine lv_iconst (v := 2) zx zb dX10_strong_65 (by decide) ?_
              refine lv_icmp_eq (tgt := 75) zx zb dX10_strong_66 (by decide) (fun c_13 => absurd c_13 (by decide)) (fun c_13 => ?_)
              refine lv_iload zx zb dX10_strong_69 (lv_at hl 1 rfl) ?_
              refine lv_iconst (v := (-1)) zx zb dX10_strong_71 (by decide) ?_
              refine lv_icmp_ne (tgt := 79) zx zb dX10_strong_72 (by decide) (fun c_14 => ?_) (fun c_14 => ?_)
              · refine lv_iinc (v := (nI (n48_5 + 1))) (lv' := [(5, .int (nI (n48_5 + 1))), (4, .int x48_4), (3, .int r_8), (0, .ref h0), (1, .int (nI j_1)), (2, .int 1)]) zx zb dX10_strong_79 hl (k := 0) rfl (nI_add n48_5 1) (by decide) rfl (fun ls hl => ?_)
                refine lv_goto (tgt := 48) zx zb dX10_strong_82 (by decide) ?_
                exact ih48 (n48_5 + 1) x48_4 _ _ _ (by omega) ⟨by omega, by rw [show n48_5 + 1 - 1 = (n48_5 - 1) + 1 from by omega, leaF, show n48_5 - 1 + 1 = n48_5 from by omega, if_neg (fun z => c_14 (hx48_0.2.trans z.2))]; exact hx48_0.2⟩ (by omega) G hl
              · refine lv_iload zx zb dX10_strong_75 (lv_at hl 0 rfl) ?_
                refine lv_istore (lv' := [(4, .int (nI n48_5)), (5, .int (nI n48_5)), (3, .int r_8), (0, .ref h0), (1, .int (nI j_1)), (2, .int 1)]) zx zb dX10_strong_77 hl (by decide) rfl (fun ls hl => ?_)
                refine lv_iinc (v := (nI (n48_5 + 1))) (lv' := [(5, .int (nI (n48_5 + 1))), (4, .int (nI n48_5)), (3, .int r_8), (0, .ref h0), (1, .int (nI j_1)), (2, .int 1)]) zx zb dX10_strong_79 hl (k := 1) rfl (nI_add n48_5 1) (by decide) rfl (fun ls hl => ?_)
                refine lv_goto (tgt := 48) zx zb dX10_strong_82 (by decide) ?_
                exact ih48 (n48_5 + 1) (nI n48_5) _ _ _ (by omega) ⟨by omega, by rw [show n48_5 + 1 - 1 = (n48_5 - 1) + 1 from by omega, leaF, show n48_5 - 1 + 1 = n48_5 from by omega, if_pos ⟨hb_11, hx48_0.2.symm.trans c_14⟩]⟩ (by omega) G hl
            · refine lv_if_eq (tgt := 79) zx zb dX10_strong_61 (by decide) (fun c_15 => ?_) (fun c_15 => absurd (by decide) c_15)
              refine lv_iinc (v := (nI (n48_5 + 1))) (lv' := [(5, .int (nI (n48_5 + 1))), (4, .int x48_4), (3, .int r_8), (0, .ref h0), (1, .int (nI j_1)), (2, .int 1)]) zx zb dX10_strong_79 hl (k := 0) rfl (nI_add n48_5 1) (by decide) rfl (fun ls hl => ?_)
              refine lv_goto (tgt := 48) zx zb dX10_strong_82 (by decide) ?_
              exact ih48 (n48_5 + 1) x48_4 _ _ _ (by omega) ⟨by omega, by rw [show n48_5 + 1 - 1 = (n48_5 - 1) + 1 from by omega, leaF, show n48_5 - 1 + 1 = n48_5 from by omega, if_neg (fun z => hb_11 z.1)]; exact hx48_0.2⟩ (by omega) G hl
      · have hl : lv_has ls 6 [(0, .ref h0), (1, .int (nI j_1)), (2, .int 2)] := hl
        refine lv_aload_n zx zb dX10_strong_24 rfl (lv_at hl 0 rfl) ?_
        refine r_get (C := RX10) (T := TX10) (N := 14) (ci := 8) (v := .ref nw) S in_X10_strong_X10 G 0 rfl rfl 0 (by decide) lk_X10_strong_10 rfl dX10_strong_25 ?_
        refine lv_iload_n zx zb dX10_strong_28 rfl (lv_at hl 1 rfl) ?_
        refine o_ri (cells' := 0) (slots' := 0) G rfl rfl (n_V (As := [.int (nI j_1)]) (rest := []) (C := RX5) (T := TX5) (N := 8) (ci := 3) S G (x_legsThatFit l X nw an sv dv n0 n1 n2 n3 n4 g0 gs gn gm j_1 hI_n0 hI_n1 hI_n2 hI_n3 hI_n4 (by omega) H.size) gX10_strong_X5_legsThatFit rfl rfl rfl hdV_X5_legsThatFit ⟨Nat.le_of_ble_eq_true rfl, Nat.le_of_ble_eq_true rfl⟩ [1, 2, 3, 4, 5, 6, 7, 8, 9, 10, 11, 12, 13, 14, 15, 16] rfl rfl 1 rfl rfl rfl hl.1 (Nat.le_of_ble_eq_true rfl) dX10_strong_29 ⟨Nat.le_of_ble_eq_true rfl, Nat.le_of_ble_eq_true rfl⟩) (fun r_16 u_16 H locs hp_16 G => ?_)
        have G : wd X (va_A (@HAppend.hAppend va_W va_W va_W _ (xW h0 nw sp xa la lb) (@HAppend.hAppend va_W va_W va_W _ (rcV X nw an sv dv n0 n1 n2 n3 n4 g0 gs gn gm) ([((xa 5), .inl (X.2.1, 3, .inl fr))]))) sz) (va_A (@HAppend.hAppend va_W va_W va_W _ (xW h0 nw sp xa la lb) (@HAppend.hAppend va_W va_W va_W _ (rcV X nw an sv dv n0 n1 n2 n3 n4 g0 gs gn gm) ([((xa 5), .inl (X.2.1, 3, .inl fr))]))) sz) s (@HAppend.hAppend va_W va_W va_W _ (xW h0 nw sp xa la lb) (@HAppend.hAppend va_W va_W va_W _ (rcV X nw an sv dv n0 n1 n2 n3 n4 g0 gs gn gm) ([((xa 5), .inl (X.2.1, 3, .inl fr))]))) H locs := G
        obtain ⟨B0, hB0⟩ : ∃ B0 : Int32, r_16 = B0 := ⟨_, rfl⟩
        refine lv_istore_n (lv' := [(3, .int r_16), (0, .ref h0), (1, .int (nI j_1)), (2, .int 2)]) zx zb dX10_strong_32 rfl hl (by decide) rfl (fun ls hl => ?_)
        refine lv_iload_n zx zb dX10_strong_33 rfl (lv_at hl 3 rfl) ?_
        refine lv_if_ne (tgt := 42) zx zb dX10_strong_34 (by decide) (fun c_17 => ?_) (fun c_17 => absurd c_17 (by decide))
        refine lv_iconst (v := (-1)) zx zb dX10_strong_42 (by decide) ?_
        refine lv_istore (lv' := [(4, .int (-1)), (3, .int r_16), (0, .ref h0), (1, .int (nI j_1)), (2, .int 2)]) zx zb dX10_strong_43 hl (by decide) rfl (fun ls hl => ?_)
        refine lv_iconst (v := 1) zx zb dX10_strong_45 (by decide) ?_
        refine lv_istore (lv' := [(5, .int 1), (4, .int (-1)), (3, .int r_16), (0, .ref h0), (1, .int (nI j_1)), (2, .int 2)]) zx zb dX10_strong_46 hl (by decide) rfl (fun ls hl => ?_)
        refine k_loop (P := ∀ (zm : Nat) (n48_5 : Nat) (x48_4 : Int32) (H : Heap) (locs : List Loc) (ls : Array Slot), ((10 - n48_5) < zm) → ((1 ≤ n48_5 ∧ n48_5 ≤ 10) ∧ x48_4 = greF r_16 (n48_5 - 1)) → (n48_5 ≤ 10) → wd X (va_A (@HAppend.hAppend va_W va_W va_W _ (xW h0 nw sp xa la lb) (@HAppend.hAppend va_W va_W va_W _ (rcV X nw an sv dv n0 n1 n2 n3 n4 g0 gs gn gm) ([((xa 5), .inl (X.2.1, 3, .inl fr))]))) sz) (va_A (@HAppend.hAppend va_W va_W va_W _ (xW h0 nw sp xa la lb) (@HAppend.hAppend va_W va_W va_W _ (rcV X nw an sv dv n0 n1 n2 n3 n4 g0 gs gn gm) ([((xa 5), .inl (X.2.1, 3, .inl fr))]))) sz) s (@HAppend.hAppend va_W va_W va_W _ (xW h0 nw sp xa la lb) (@HAppend.hAppend va_W va_W va_W _ (rcV X nw an sv dv n0 n1 n2 n3 n4 g0 gs gn gm) ([((xa 5), .inl (X.2.1, 3, .inl fr))]))) H locs → lv_has ls 6 [(5, .int (nI n48_5)), (4, .int x48_4), (3, .int r_16), (0, .ref h0), (1, .int (nI j_1)), (2, .int 2)] → W p l e _ s m _ below meth c H locs _ _ _ (F0 m 48 ls [])) (fun loop => loop ((10 - 1) + 1) 1 (-1) _ _ _ (by omega) ⟨by omega, rfl⟩ (by omega) G hl) ?_
        intro zm
        induction zm with
        | zero => intro n48_5 x48_4 H locs ls zz q_x0 q_hk_n48_5 _ _; exact absurd zz (by omega)
        | succ zm ih48 =>
          intro n48_5 x48_4 H locs ls zm_48 hx48_0 hk_n48_5 G hl
          refine lv_iload zx zb dX10_strong_48 (lv_at hl 0 rfl) ?_
          refine lv_bipush (v := 9) zx zb dX10_strong_50 (by decide) ?_
          refine lv_icmp_gt (tgt := 85) zx zb dX10_strong_52 (by decide) (fun c_18 => ?_) (fun c_18 => ?_)
          · have fc_18 := j_lt (a := 9) (b := n48_5) (by omega) (by omega) c_18
            refine lv_iload zx zb dX10_strong_85 (lv_at hl 1 rfl) ?_
            have hST : x48_4 = strF r_16 (2 : Int32) := hx48_0.2.trans (by rw [show n48_5 = 10 from by omega]; rfl)
            exact e_int S zr zlk (vp_nar_int _) G (fr) [0, 1, 2, 3, 4, 5, 6, 7, 8, 9, 10, 11, 12, 13, 14, 15, 16, 17] rfl rfl (Or.inr rfl) (hST.trans ((congrArg (fun z => strF z _) (hp_16.trans (by rw [nI_clamp (by first | omega | (dsimp only; omega))]))).trans (ansF_t ⟨⟨_, hj_1, rfl⟩, hw_3⟩).symm)) dX10_strong_87
          · have fc_18 := j_nlt (a := 9) (b := n48_5) (by omega) (by omega) c_18
            refine lv_iload_n zx zb dX10_strong_55 rfl (lv_at hl 2 rfl) ?_
            refine lv_iload zx zb dX10_strong_56 (lv_at hl 0 rfl) ?_
            refine o_ri (cells' := 0) (slots' := 0) G rfl rfl (n_S (As := [.int r_16, .int (nI n48_5)]) (rest := []) S G (x_hasBit l X r_16 n48_5 H.size) gX10_strong_X10_hasBit rfl rfl rfl hdS_X10_hasBit ⟨Nat.le_of_ble_eq_true rfl, Nat.le_of_ble_eq_true rfl⟩ [] rfl rfl rfl hl.1 (Nat.le_of_ble_eq_true rfl) dX10_strong_58 ⟨Nat.le_of_ble_eq_true rfl, Nat.le_of_ble_eq_true rfl⟩) (fun r_19 u_19 H locs hp_19 G => ?_)
            have G : wd X (va_A (@HAppend.hAppend va_W va_W va_W _ (xW h0 nw sp xa la lb) (@HAppend.hAppend va_W va_W va_W _ (rcV X nw an sv dv n0 n1 n2 n3 n4 g0 gs gn gm) ([((xa 5), .inl (X.2.1, 3, .inl fr))]))) sz) (va_A (@HAppend.hAppend va_W va_W va_W _ (xW h0 nw sp xa la lb) (@HAppend.hAppend va_W va_W va_W _ (rcV X nw an sv dv n0 n1 n2 n3 n4 g0 gs gn gm) ([((xa 5), .inl (X.2.1, 3, .inl fr))]))) sz) s (@HAppend.hAppend va_W va_W va_W _ (xW h0 nw sp xa la lb) (@HAppend.hAppend va_W va_W va_W _ (rcV X nw an sv dv n0 n1 n2 n3 n4 g0 gs gn gm) ([((xa 5), .inl (X.2.1, 3, .inl fr))]))) H locs := G
            rcases hp_19 with ⟨rfl, hb_19⟩ | ⟨rfl, hb_19⟩
            · refine lv_if_eq (tgt := 79) zx zb dX10_strong_61 (by decide) (fun c_20 => absurd c_20 (by decide)) (fun c_20 => ?_)
              refine lv_iload_n zx zb dX10_strong_64 rfl (lv_at hl 5 rfl) ?_
              refine lv_iconst (v := 2) zx zb dX10_strong_65 (by decide) ?_
              refine lv_icmp_eq (tgt := 75) zx zb dX10_strong_66 (by decide) (fun c_21 => ?_) (fun c_21 => absurd (by decide) c_21)
              refine lv_iload zx zb dX10_strong_75 (lv_at hl 0 rfl) ?_
              refine lv_istore (lv' := [(4, .int (nI n48_5)), (5, .int (nI n48_5)), (3, .int r_16), (0, .ref h0), (1, .int (nI j_1)), (2, .int 2)]) zx zb dX10_strong_77 hl (by decide) rfl (fun ls hl => ?_)
              refine lv_iinc (v := (nI (n48_5 + 1))) (lv' := [(5, .int (nI (n48_5 + 1))), (4, .int (nI n48_5)), (3, .int r_16), (0, .ref h0), (1, .int (nI j_1)), (2, .int 2)]) zx zb dX10_strong_79 hl (k := 1) rfl (nI_add n48_5 1) (by decide) rfl (fun ls hl => ?_)
              refine lv_goto (tgt := 48) zx zb dX10_strong_82 (by decide) ?_
              exact ih48 (n48_5 + 1) (nI n48_5) _ _ _ (by omega) ⟨by omega, by rw [show n48_5 + 1 - 1 = (n48_5 - 1) + 1 from by omega, greF, show n48_5 - 1 + 1 = n48_5 from by omega, if_pos hb_19]⟩ (by omega) G hl
            · refine lv_if_eq (tgt := 79) zx zb dX10_strong_61 (by decide) (fun c_22 => ?_) (fun c_22 => absurd (by decide) c_22)
              refine lv_iinc (v := (nI (n48_5 + 1))) (lv' := [(5, .int (nI (n48_5 + 1))), (4, .int x48_4), (3, .int r_16), (0, .ref h0), (1, .int (nI j_1)), (2, .int 2)]) zx zb dX10_strong_79 hl (k := 0) rfl (nI_add n48_5 1) (by decide) rfl (fun ls hl => ?_)
              refine lv_goto (tgt := 48) zx zb dX10_strong_82 (by decide) ?_
              exact ih48 (n48_5 + 1) x48_4 _ _ _ (by omega) ⟨by omega, by rw [show n48_5 + 1 - 1 = (n48_5 - 1) + 1 from by omega, greF, show n48_5 - 1 + 1 = n48_5 from by omega, if_neg hb_19]; exact hx48_0.2⟩ (by omega) G hl
    · refine lv_if_ne (tgt := 24) zx zb dX10_strong_14 (by decide) (fun c_23 => absurd (by decide) c_23) (fun c_23 => ?_)
      refine lv_aload_n zx zb dX10_strong_17 rfl (lv_at hl 0 rfl) ?_
      refine lv_bipush (v := (-2)) zx zb dX10_strong_18 (by decide) ?_
      refine b_wi (cells' := 0) (slots' := 0) (wr := rcV X nw an sv dv n0 n1 n2 n3 n4 g0 gs gn gm) G rfl rfl [0, 17] [1, 2, 3, 4, 5, 6, 7, 8, 9, 10, 11, 12, 13, 14, 15, 16] rfl rfl rfl rfl (n_V (As := [.int (-2)]) (rest := []) (C := RX10) (T := TX10) (N := 14) (ci := 8) S G (s_refuse l X h0 nw sp xa la lb fr (-2) H.size) gX10_strong_X10_refuse rfl rfl rfl hdV_X10_refuse ⟨Nat.le_of_ble_eq_true rfl, Nat.le_of_ble_eq_true rfl⟩ [0, 17] rfl rfl 0 rfl rfl rfl hl.1 (Nat.le_of_ble_eq_true rfl) dX10_strong_20 ⟨Nat.le_of_ble_eq_true rfl, Nat.le_of_ble_eq_true rfl⟩) (fun r_24 u_24 H locs hp_24 G => ?_)
      obtain ⟨f_24, rfl⟩ : ∃ z, z = u_24 := ⟨_, rfl⟩
      have hq_24 := hp_24
      have G : wd X (va_A (@HAppend.hAppend va_W va_W va_W _ (xW h0 nw sp xa la lb) (@HAppend.hAppend va_W va_W va_W _ (rcV X nw an sv dv n0 n1 n2 n3 n4 g0 gs gn gm) ([((xa 5), .inl (X.2.1, 3, .inl fr))]))) sz) (va_A (@HAppend.hAppend va_W va_W va_W _ (xW h0 nw sp xa la lb) (@HAppend.hAppend va_W va_W va_W _ (rcV X nw an sv dv n0 n1 n2 n3 n4 g0 gs gn gm) ([((xa 5), .inl (X.2.1, 3, .inl fr))]))) sz) s (@HAppend.hAppend va_W va_W va_W _ (rcV X nw an sv dv n0 n1 n2 n3 n4 g0 gs gn gm) (@HAppend.hAppend va_W va_W va_W _ (xW h0 nw sp xa la lb) ([((xa 5), .inl (X.2.1, 3, .inl f_24))]))) H locs := G
      exact e_int S zr zlk (vp_nar_int _) G (f_24) [16, 0, 1, 2, 3, 4, 5, 6, 7, 8, 9, 10, 11, 12, 13, 14, 15, 17] rfl rfl (Or.inr rfl) ((hq_24).trans (ansF_f (fun h => hw_3 h.2)).symm) dX10_strong_23
  · refine lv_if_eq (tgt := 17) zx zb dX10_strong_5 (by decide) (fun c_25 => ?_) (fun c_25 => absurd (by decide) c_25)
    refine lv_aload_n zx zb dX10_strong_17 rfl (lv_at hl 0 rfl) ?_
    refine lv_bipush (v := (-2)) zx zb dX10_strong_18 (by decide) ?_
    refine b_wi (cells' := 0) (slots' := 0) (wr := rcV X nw an sv dv n0 n1 n2 n3 n4 g0 gs gn gm) G rfl rfl [0, 17] [1, 2, 3, 4, 5, 6, 7, 8, 9, 10, 11, 12, 13, 14, 15, 16] rfl rfl rfl rfl (n_V (As := [.int (-2)]) (rest := []) (C := RX10) (T := TX10) (N := 14) (ci := 8) S G (s_refuse l X h0 nw sp xa la lb fr (-2) H.size) gX10_strong_X10_refuse rfl rfl rfl hdV_X10_refuse ⟨Nat.le_of_ble_eq_true rfl, Nat.le_of_ble_eq_true rfl⟩ [0, 17] rfl rfl 0 rfl rfl rfl hl.1 (Nat.le_of_ble_eq_true rfl) dX10_strong_20 ⟨Nat.le_of_ble_eq_true rfl, Nat.le_of_ble_eq_true rfl⟩) (fun r_26 u_26 H locs hp_26 G => ?_)
    obtain ⟨f_26, rfl⟩ : ∃ z, z = u_26 := ⟨_, rfl⟩
    have hq_26 := hp_26
    have G : wd X (va_A (@HAppend.hAppend va_W va_W va_W _ (xW h0 nw sp xa la lb) (@HAppend.hAppend va_W va_W va_W _ (rcV X nw an sv dv n0 n1 n2 n3 n4 g0 gs gn gm) ([((xa 5), .inl (X.2.1, 3, .inl fr))]))) sz) (va_A (@HAppend.hAppend va_W va_W va_W _ (xW h0 nw sp xa la lb) (@HAppend.hAppend va_W va_W va_W _ (rcV X nw an sv dv n0 n1 n2 n3 n4 g0 gs gn gm) ([((xa 5), .inl (X.2.1, 3, .inl fr))]))) sz) s (@HAppend.hAppend va_W va_W va_W _ (rcV X nw an sv dv n0 n1 n2 n3 n4 g0 gs gn gm) (@HAppend.hAppend va_W va_W va_W _ (xW h0 nw sp xa la lb) ([((xa 5), .inl (X.2.1, 3, .inl f_26))]))) H locs := G
    exact e_int S zr zlk (vp_nar_int _) G (f_26) [16, 0, 1, 2, 3, 4, 5, 6, 7, 8, 9, 10, 11, 12, 13, 14, 15, 17] rfl rfl (Or.inr rfl) ((hq_26).trans (ansF_f (fun h => hj_1 h.1)).symm) dX10_strong_23
set_option maxHeartbeats 4000000 in
set_option maxRecDepth 100000 in
theorem x_trestart (l : Launch) (X : EX) (ht : Nat) (hc : Nat) (tm : Int32) (tf : Nat → Int32) (sz : Nat) : Met l yX9_restart wsX9_restart ({ frames := 0, cells := 0, slots := 0, locals := 0 } : Room) (pE X [.ref ht] ([(ht, .inr (7, [.ref hc, .int tm])), (hc, .inl (X.2.1, 16, .inl tf))]) sz) (qV (fun (u : (Int32) × (Nat → Int32)) => (u.1 = 0 ∧ ∀ q : Nat, q < 16 → u.2 q = 0)) X (fun (u : (Int32) × (Nat → Int32)) => [(ht, .inr (7, [.ref hc, .int u.1])), (hc, .inl (X.2.1, 16, .inl u.2))]) ([(ht, .inr (7, [.ref hc, .int tm])), (hc, .inl (X.2.1, 16, .inl tf))]) sz) 0 0 (va_A ([(ht, .inr (7, [.ref hc, .int tm])), (hc, .inl (X.2.1, 16, .inl tf))]) sz) := by
  refine mk_met (B := (va_A ([(ht, .inr (7, [.ref hc, .int tm])), (hc, .inl (X.2.1, 16, .inl tf))]) sz)) (A := (va_A ([(ht, .inr (7, [.ref hc, .int tm])), (hc, .inl (X.2.1, 16, .inl tf))]) sz)) (cc := cX9_restart) (maxL := 2) (ret := none) (by decide) rfl (Nat.le_of_ble_eq_true rfl) k_w k_a (fun p e s m below meth c S zr zlk znm zsz G ls hl => ?_)
  have S : CallFix p m c cX9_restart 2 s _ wsX9_restart RX9 := S
  have zx := S.1
  have zb := S.2.1
  have hl : lv_has ls 2 [(0, .ref ht)] := hl
  refine lv_iconst (v := 0) zx zb dX9_restart_0 (by decide) ?_
  refine lv_istore_n (lv' := [(1, .int 0), (0, .ref ht)]) zx zb dX9_restart_1 rfl hl (by decide) rfl (fun ls hl => ?_)
  refine k_loop (P := ∀ (zm : Nat) (n2_1 : Nat) (f2_0 : Nat → Int32) (H : Heap) (locs : List Loc) (ls : Array Slot), ((16 - n2_1) < zm) → (n2_1 ≤ 16 ∧ ∀ q : Nat, q < n2_1 → f2_0 q = 0) → (n2_1 ≤ 16) → wd X (va_A ([(ht, .inr (7, [.ref hc, .int tm])), (hc, .inl (X.2.1, 16, .inl tf))]) sz) (va_A ([(ht, .inr (7, [.ref hc, .int tm])), (hc, .inl (X.2.1, 16, .inl tf))]) sz) s ([(ht, .inr (7, [.ref hc, .int tm])), (hc, .inl (X.2.1, 16, .inl f2_0))]) H locs → lv_has ls 2 [(1, .int (nI n2_1)), (0, .ref ht)] → W p l e _ s m _ below meth c H locs _ _ _ (F0 m 2 ls [])) (fun loop => loop ((16 - 0) + 1) 0 tf _ _ _ (by omega) ⟨by omega, fun q h => absurd h (Nat.not_lt_zero q)⟩ (by omega) G hl) ?_
  intro zm
  induction zm with
  | zero => intro n2_1 f2_0 H locs ls zz q_x0 q_hk_n2_1 _ _; exact absurd zz (by omega)
  | succ zm ih2 =>
    intro n2_1 f2_0 H locs ls zm_2 hx2_0 hk_n2_1 G hl
    refine lv_iload_n zx zb dX9_restart_2 rfl (lv_at hl 0 rfl) ?_
    refine lv_aload_n zx zb dX9_restart_3 rfl (lv_at hl 1 rfl) ?_
    refine r_get (C := RX9) (T := TX9) (N := 2) (ci := 7) (v := .ref hc) S in_X9_restart_X9 G 0 rfl rfl 0 (by decide) lk_X9_restart_9 rfl dX9_restart_4 ?_
    refine r_alen (v := 16) S G 1 0 rfl rfl rfl dX9_restart_7 ?_
    refine lv_icmp_ge (tgt := 24) zx zb dX9_restart_8 (by decide) (fun c_1 => ?_) (fun c_1 => ?_)
    · have fc_1 := j_le (a := 16) (b := n2_1) (by omega) (by omega) c_1
      refine lv_aload_n zx zb dX9_restart_24 rfl (lv_at hl 1 rfl) ?_
      refine lv_iconst (v := 0) zx zb dX9_restart_25 (by decide) ?_
      refine r_put (C := RX9) (T := TX9) (N := 2) (ci := 7) (v := .int 0) S in_X9_restart_X9 tyX9_ok nmX9 G 0 rfl rfl 1 (by decide) lk_X9_restart_15 rfl (vp_nar_int _) rfl (Nat.le_of_ble_eq_true rfl) dX9_restart_26 (fun H locs G => ?_)
      obtain ⟨m_2, hE_m_2, G⟩ : ∃ m_2 : Int32, m_2 = (0 : Int32) ∧ wd X (va_A ([(ht, .inr (7, [.ref hc, .int tm])), (hc, .inl (X.2.1, 16, .inl tf))]) sz) (va_A ([(ht, .inr (7, [.ref hc, .int tm])), (hc, .inl (X.2.1, 16, .inl tf))]) sz) s ([(ht, .inr (7, [.ref hc, .int m_2])), (hc, .inl (X.2.1, 16, .inl f2_0))]) H locs := ⟨_, rfl, G⟩
      exact e_void S zr zlk G (m_2, f2_0) [0, 1] rfl rfl (Or.inr rfl) (⟨hE_m_2, fun q h => hx2_0.2 q (by first | omega | (dsimp only; omega))⟩) dX9_restart_29
    · have fc_1 := j_nle (a := 16) (b := n2_1) (by omega) (by omega) c_1
      refine lv_aload_n zx zb dX9_restart_11 rfl (lv_at hl 1 rfl) ?_
      refine r_get (C := RX9) (T := TX9) (N := 2) (ci := 7) (v := .ref hc) S in_X9_restart_X9 G 0 rfl rfl 0 (by decide) lk_X9_restart_9 rfl dX9_restart_12 ?_
      refine lv_iload_n zx zb dX9_restart_15 rfl (lv_at hl 0 rfl) ?_
      refine lv_iconst (v := 0) zx zb dX9_restart_16 (by decide) ?_
      refine r_iast S G 1 rfl (vp_in_nI (by omega) (by decide)) dX9_restart_17 (fun H locs G => ?_)
      obtain ⟨f_3, hE_f_3, G⟩ : ∃ f_3 : Nat → Int32, f_3 = upd f2_0 ((nI n2_1)).toNatClampNeg 0 ∧ wd X (va_A ([(ht, .inr (7, [.ref hc, .int tm])), (hc, .inl (X.2.1, 16, .inl tf))]) sz) (va_A ([(ht, .inr (7, [.ref hc, .int tm])), (hc, .inl (X.2.1, 16, .inl tf))]) sz) s ([(ht, .inr (7, [.ref hc, .int tm])), (hc, .inl (X.2.1, 16, .inl f_3))]) H locs := ⟨_, rfl, G⟩
      refine lv_iinc (v := (nI (n2_1 + 1))) (lv' := [(1, .int (nI (n2_1 + 1))), (0, .ref ht)]) zx zb dX9_restart_18 hl (k := 0) rfl (nI_add n2_1 1) (by decide) rfl (fun ls hl => ?_)
      refine lv_goto (tgt := 2) zx zb dX9_restart_21 (by decide) ?_
      exact ih2 (n2_1 + 1) f_3 _ _ _ (by omega) ⟨by omega, k_tilz hx2_0.2 hE_f_3 (nI_clamp (by omega))⟩ (by omega) G hl
set_option maxHeartbeats 4000000 in
set_option maxRecDepth 100000 in
theorem x_see (l : Launch) (X : EX) (ht : Nat) (hc : Nat) (tm : Int32) (tf : Nat → Int32) (v : Nat) (hv : v < 16) (sz : Nat) : Met l yX9_see wsX9_see ({ frames := 1, cells := 0, slots := 0, locals := 14 } : Room) (pE X [.ref ht, .int (nI v)] ([(ht, .inr (7, [.ref hc, .int tm])), (hc, .inl (X.2.1, 16, .inl tf))]) sz) (qV (fun (u : (Int32) × (Nat → Int32)) => (u.2 = upd tf v (tf v + 1) ∧ u.1 = (if tm < tf v + 1 then tf v + 1 else tm))) X (fun (u : (Int32) × (Nat → Int32)) => [(ht, .inr (7, [.ref hc, .int u.1])), (hc, .inl (X.2.1, 16, .inl u.2))]) ([(ht, .inr (7, [.ref hc, .int tm])), (hc, .inl (X.2.1, 16, .inl tf))]) sz) 0 0 (va_A ([(ht, .inr (7, [.ref hc, .int tm])), (hc, .inl (X.2.1, 16, .inl tf))]) sz) := by
  refine mk_met (B := (va_A ([(ht, .inr (7, [.ref hc, .int tm])), (hc, .inl (X.2.1, 16, .inl tf))]) sz)) (A := (va_A ([(ht, .inr (7, [.ref hc, .int tm])), (hc, .inl (X.2.1, 16, .inl tf))]) sz)) (cc := cX9_see) (maxL := 2) (ret := none) (by decide) rfl (Nat.le_of_ble_eq_true rfl) k_w k_a (fun p e s m below meth c S zr zlk znm zsz G ls hl => ?_)
  have S : CallFix p m c cX9_see 2 s _ wsX9_see RX9 := S
  have zx := S.1
  have zb := S.2.1
  have hl : lv_has ls 2 [(0, .ref ht), (1, .int (nI v))] := hl
  refine lv_iload_n zx zb dX9_see_0 rfl (lv_at hl 1 rfl) ?_
  refine lv_if_lt (tgt := 40) zx zb dX9_see_1 (by decide) (fun c_1 => ?_) (fun c_1 => ?_)
  · have fc_1 := j_lt (a := v) (b := 0) (by omega) (by omega) c_1
    exact e_void S zr zlk G (tm, tf) [0, 1] rfl rfl (Or.inr rfl) (by exfalso; omega) dX9_see_40
  · have fc_1 := j_nlt (a := v) (b := 0) (by omega) (by omega) c_1
    refine lv_iload_n zx zb dX9_see_4 rfl (lv_at hl 1 rfl) ?_
    refine lv_aload_n zx zb dX9_see_5 rfl (lv_at hl 0 rfl) ?_
    refine r_get (C := RX9) (T := TX9) (N := 2) (ci := 7) (v := .ref hc) S in_X9_see_X9 G 0 rfl rfl 0 (by decide) lk_X9_see_9 rfl dX9_see_6 ?_
    refine r_alen (v := 16) S G 1 0 rfl rfl rfl dX9_see_9 ?_
    refine lv_icmp_ge (tgt := 40) zx zb dX9_see_10 (by decide) (fun c_2 => ?_) (fun c_2 => ?_)
    · have fc_2 := j_le (a := 16) (b := v) (by omega) (by omega) c_2
      exact e_void S zr zlk G (tm, tf) [0, 1] rfl rfl (Or.inr rfl) (by exfalso; omega) dX9_see_40
    · have fc_2 := j_nle (a := 16) (b := v) (by omega) (by omega) c_2
      refine lv_aload_n zx zb dX9_see_13 rfl (lv_at hl 0 rfl) ?_
      refine r_get (C := RX9) (T := TX9) (N := 2) (ci := 7) (v := .ref hc) S in_X9_see_X9 G 0 rfl rfl 0 (by decide) lk_X9_see_9 rfl dX9_see_14 ?_
      refine lv_iload_n zx zb dX9_see_17 rfl (lv_at hl 1 rfl) ?_
      refine lv_dup2_11 zx zb dX9_see_18 rfl rfl ?_
      refine r_iald (v := (tf v)) S G 1 rfl (vp_in_nI (by omega) (by decide)) (congrArg tf (nI_clamp (by omega))) dX9_see_19 ?_
      refine lv_iconst (v := 1) zx zb dX9_see_20 (by decide) ?_
      refine r_iadd (v := ((tf v) + 1)) S rfl dX9_see_21 ?_
      refine r_iast S G 1 rfl (vp_in_nI (by omega) (by decide)) dX9_see_22 (fun H locs G => ?_)
      obtain ⟨f_4, hE_f_4, G⟩ : ∃ f_4 : Nat → Int32, f_4 = upd tf ((nI v)).toNatClampNeg ((tf v) + 1) ∧ wd X (va_A ([(ht, .inr (7, [.ref hc, .int tm])), (hc, .inl (X.2.1, 16, .inl tf))]) sz) (va_A ([(ht, .inr (7, [.ref hc, .int tm])), (hc, .inl (X.2.1, 16, .inl tf))]) sz) s ([(ht, .inr (7, [.ref hc, .int tm])), (hc, .inl (X.2.1, 16, .inl f_4))]) H locs := ⟨_, rfl, G⟩
      refine lv_aload_n zx zb dX9_see_23 rfl (lv_at hl 0 rfl) ?_
      refine lv_aload_n zx zb dX9_see_24 rfl (lv_at hl 0 rfl) ?_
      refine r_get (C := RX9) (T := TX9) (N := 2) (ci := 7) (v := .int tm) S in_X9_see_X9 G 0 rfl rfl 1 (by decide) lk_X9_see_15 rfl dX9_see_25 ?_
      refine lv_aload_n zx zb dX9_see_28 rfl (lv_at hl 0 rfl) ?_
      refine r_get (C := RX9) (T := TX9) (N := 2) (ci := 7) (v := .ref hc) S in_X9_see_X9 G 0 rfl rfl 0 (by decide) lk_X9_see_9 rfl dX9_see_29 ?_
      refine lv_iload_n zx zb dX9_see_32 rfl (lv_at hl 1 rfl) ?_
      refine r_iald (v := (f_4 v)) S G 1 rfl (vp_in_nI (by omega) (by decide)) (congrArg f_4 (nI_clamp (by omega))) dX9_see_33 ?_
      refine r_mmaxX S hl.1 mm_X9_see_ml19 mm_X9_see_msmax mm_X9_see_mi mm_X9_see_mcmax (Nat.le_of_ble_eq_true rfl) (Nat.le_of_ble_eq_true rfl) (Nat.zero_le _) (Nat.zero_le _) dX9_see_34 ?_
      refine r_put (C := RX9) (T := TX9) (N := 2) (ci := 7) (v := .int (if tm < (f_4 v) then (f_4 v) else tm)) S in_X9_see_X9 tyX9_ok nmX9 G 0 rfl rfl 1 (by decide) lk_X9_see_15 rfl (vp_nar_int _) rfl (Nat.le_of_ble_eq_true rfl) dX9_see_37 (fun H locs G => ?_)
      obtain ⟨m_6, hE_m_6, G⟩ : ∃ m_6 : Int32, m_6 = (if tm < (f_4 v) then (f_4 v) else tm) ∧ wd X (va_A ([(ht, .inr (7, [.ref hc, .int tm])), (hc, .inl (X.2.1, 16, .inl tf))]) sz) (va_A ([(ht, .inr (7, [.ref hc, .int tm])), (hc, .inl (X.2.1, 16, .inl tf))]) sz) s ([(ht, .inr (7, [.ref hc, .int m_6])), (hc, .inl (X.2.1, 16, .inl f_4))]) H locs := ⟨_, rfl, G⟩
      have hz1 : f_4 = upd tf v (tf v + 1) := by rw [hE_f_4, nI_clamp (by omega)]
      exact e_void S zr zlk G (m_6, f_4) [0, 1] rfl rfl (Or.inr rfl) (⟨hz1, by rw [hE_m_6, hz1, upd_eq]⟩) dX9_see_40
set_option maxHeartbeats 4000000 in
set_option maxRecDepth 100000 in
theorem x_farBy0 (l : Launch) (X : EX) (h0 : Nat) (a : Nat → Int32) (d : Nat → Int32) (g : Nat) (t : Nat) (ht : t < 200) (sz : Nat) : Met l yX10_farBy wsX10_farBy ({ frames := 1, cells := 0, slots := 0, locals := 26 } : Room) (pE X [.ref h0, .int 0, .int (nI g), .int (nI t)] (rnV h0 a d) sz) (qI (fun (r : Int32) (u : Unit) => r = (reachP (a 0) (nI g) (nI (t / 10)) (nI (t % 10)))) X (fun (u : Unit) => []) [] sz) 0 0 (va_A [] sz) := by
  refine mk_met (B := (fun _ => True)) (A := (va_A [] sz)) (cc := cX10_farBy) (maxL := 4) (ret := (some .int)) (by decide) rfl (Nat.le_of_ble_eq_true rfl) k_ro k_a (fun p e s m below meth c S zr zlk znm zsz G ls hl => ?_)
  have S : CallFix p m c cX10_farBy 4 s _ wsX10_farBy RX10 := S
  have zx := S.1
  have zb := S.2.1
  have hl : lv_has ls 4 [(0, .ref h0), (1, .int 0), (2, .int (nI g)), (3, .int (nI t))] := hl
  refine lv_iload_n zx zb dX10_farBy_0 rfl (lv_at hl 1 rfl) ?_
  refine lv_lookup (off := 27) (tgt := 28) zx zb dX10_farBy_1 rfl (by decide) (by decide) ?_
  refine lv_aload_n zx zb dX10_farBy_28 rfl (lv_at hl 0 rfl) ?_
  refine r_get (C := RX8) (T := TX8) (N := 8) (ci := 6) (v := .int (a 0)) S in_X10_farBy_X8 G 0 rfl rfl 0 (by decide) lk_X10_farBy_320 rfl dX10_farBy_29 ?_
  refine lv_iload_n zx zb dX10_farBy_32 rfl (lv_at hl 2 rfl) ?_
  refine lv_iload_n zx zb dX10_farBy_33 rfl (lv_at hl 3 rfl) ?_
  refine lv_bipush (v := 10) zx zb dX10_farBy_34 (by decide) ?_
  refine lv_idiv zx zb dX10_farBy_36 (by decide) ?_
  refine k_it (v := (nI (t / 10))) (pk_div (d := 10) (by omega) (by decide) (by decide)) ?_
  refine lv_iload_n zx zb dX10_farBy_37 rfl (lv_at hl 3 rfl) ?_
  refine lv_bipush (v := 10) zx zb dX10_farBy_38 (by decide) ?_
  refine lv_irem zx zb dX10_farBy_40 (by decide) ?_
  refine k_it (v := (nI (t % 10))) (pk_rem (d := 10) (by omega) (by decide) (by decide)) ?_
  refine o_ri (cells' := 0) (slots' := 0) G rfl rfl (n_S (As := [.int (a 0), .int (nI g), .int (nI (t / 10)), .int (nI (t % 10))]) (rest := []) S G (x_reach l X (a 0) (nI g) (nI (t / 10)) (nI (t % 10)) s.heap.size) gX10_farBy_X2_reach rfl rfl rfl hdS_X2_reach ⟨Nat.le_of_ble_eq_true rfl, Nat.le_of_ble_eq_true rfl⟩ [] rfl rfl rfl hl.1 (Nat.le_of_ble_eq_true rfl) dX10_farBy_41 ⟨Nat.le_of_ble_eq_true rfl, Nat.le_of_ble_eq_true rfl⟩) (fun r_1 u_1 H locs hp_1 G => ?_)
  have G : wd X (fun _ => True) (va_A [] sz) s (rnV h0 a d) H locs := G
  obtain rfl := hp_1
  exact e_int S zr zlk (vp_nar_int _) G () [] rfl rfl (Or.inl rfl) (rfl) dX10_farBy_44
set_option maxHeartbeats 4000000 in
set_option maxRecDepth 100000 in
theorem x_farBy1 (l : Launch) (X : EX) (h0 : Nat) (a : Nat → Int32) (d : Nat → Int32) (g : Nat) (t : Nat) (ht : t < 200) (sz : Nat) : Met l yX10_farBy wsX10_farBy ({ frames := 1, cells := 0, slots := 0, locals := 26 } : Room) (pE X [.ref h0, .int 1, .int (nI g), .int (nI t)] (rnV h0 a d) sz) (qI (fun (r : Int32) (u : Unit) => r = (reachP (nI g) (a 1) (nI (t / 10)) (nI (t % 10)))) X (fun (u : Unit) => []) [] sz) 0 0 (va_A [] sz) := by
  refine mk_met (B := (fun _ => True)) (A := (va_A [] sz)) (cc := cX10_farBy) (maxL := 4) (ret := (some .int)) (by decide) rfl (Nat.le_of_ble_eq_true rfl) k_ro k_a (fun p e s m below meth c S zr zlk znm zsz G ls hl => ?_)
  have S : CallFix p m c cX10_farBy 4 s _ wsX10_farBy RX10 := S
  have zx := S.1
  have zb := S.2.1
  have hl : lv_has ls 4 [(0, .ref h0), (1, .int 1), (2, .int (nI g)), (3, .int (nI t))] := hl
  refine lv_iload_n zx zb dX10_farBy_0 rfl (lv_at hl 1 rfl) ?_
  refine lv_lookup (off := 44) (tgt := 45) zx zb dX10_farBy_1 rfl (by decide) (by decide) ?_
  refine lv_iload_n zx zb dX10_farBy_45 rfl (lv_at hl 2 rfl) ?_
  refine lv_aload_n zx zb dX10_farBy_46 rfl (lv_at hl 0 rfl) ?_
  refine r_get (C := RX8) (T := TX8) (N := 8) (ci := 6) (v := .int (a 1)) S in_X10_farBy_X8 G 0 rfl rfl 1 (by decide) lk_X10_farBy_328 rfl dX10_farBy_47 ?_
  refine lv_iload_n zx zb dX10_farBy_50 rfl (lv_at hl 3 rfl) ?_
  refine lv_bipush (v := 10) zx zb dX10_farBy_51 (by decide) ?_
  refine lv_idiv zx zb dX10_farBy_53 (by decide) ?_
  refine k_it (v := (nI (t / 10))) (pk_div (d := 10) (by omega) (by decide) (by decide)) ?_
  refine lv_iload_n zx zb dX10_farBy_54 rfl (lv_at hl 3 rfl) ?_
  refine lv_bipush (v := 10) zx zb dX10_farBy_55 (by decide) ?_
  refine lv_irem zx zb dX10_farBy_57 (by decide) ?_
  refine k_it (v := (nI (t % 10))) (pk_rem (d := 10) (by omega) (by decide) (by decide)) ?_
  refine o_ri (cells' := 0) (slots' := 0) G rfl rfl (n_S (As := [.int (nI g), .int (a 1), .int (nI (t / 10)), .int (nI (t % 10))]) (rest := []) S G (x_reach l X (nI g) (a 1) (nI (t / 10)) (nI (t % 10)) s.heap.size) gX10_farBy_X2_reach rfl rfl rfl hdS_X2_reach ⟨Nat.le_of_ble_eq_true rfl, Nat.le_of_ble_eq_true rfl⟩ [] rfl rfl rfl hl.1 (Nat.le_of_ble_eq_true rfl) dX10_farBy_58 ⟨Nat.le_of_ble_eq_true rfl, Nat.le_of_ble_eq_true rfl⟩) (fun r_1 u_1 H locs hp_1 G => ?_)
  have G : wd X (fun _ => True) (va_A [] sz) s (rnV h0 a d) H locs := G
  obtain rfl := hp_1
  exact e_int S zr zlk (vp_nar_int _) G () [] rfl rfl (Or.inl rfl) (rfl) dX10_farBy_61
set_option maxHeartbeats 4000000 in
set_option maxRecDepth 100000 in
theorem x_farBy2 (l : Launch) (X : EX) (h0 : Nat) (a : Nat → Int32) (d : Nat → Int32) (g : Nat) (t : Nat) (ht : t < 20) (sz : Nat) : Met l yX10_farBy wsX10_farBy ({ frames := 1, cells := 0, slots := 0, locals := 24 } : Room) (pE X [.ref h0, .int 2, .int (nI g), .int (nI t)] (rnV h0 a d) sz) (qI (fun (r : Int32) (u : Unit) => r = (limitP (nI g) (nI t))) X (fun (u : Unit) => []) [] sz) 0 0 (va_A [] sz) := by
  refine mk_met (B := (fun _ => True)) (A := (va_A [] sz)) (cc := cX10_farBy) (maxL := 4) (ret := (some .int)) (by decide) rfl (Nat.le_of_ble_eq_true rfl) k_ro k_a (fun p e s m below meth c S zr zlk znm zsz G ls hl => ?_)
  have S : CallFix p m c cX10_farBy 4 s _ wsX10_farBy RX10 := S
  have zx := S.1
  have zb := S.2.1
  have hl : lv_has ls 4 [(0, .ref h0), (1, .int 2), (2, .int (nI g)), (3, .int (nI t))] := hl
  refine lv_iload_n zx zb dX10_farBy_0 rfl (lv_at hl 1 rfl) ?_
  refine lv_lookup (off := 61) (tgt := 62) zx zb dX10_farBy_1 rfl (by decide) (by decide) ?_
  refine lv_iload_n zx zb dX10_farBy_62 rfl (lv_at hl 2 rfl) ?_
  refine lv_iload_n zx zb dX10_farBy_63 rfl (lv_at hl 3 rfl) ?_
  refine o_ri (cells' := 0) (slots' := 0) G rfl rfl (n_S (As := [.int (nI g), .int (nI t)]) (rest := []) S G (x_limit l X (nI g) (nI t) s.heap.size) gX10_farBy_X1_limit rfl rfl rfl hdS_X1_limit ⟨Nat.le_of_ble_eq_true rfl, Nat.le_of_ble_eq_true rfl⟩ [] rfl rfl rfl hl.1 (Nat.le_of_ble_eq_true rfl) dX10_farBy_64 ⟨Nat.le_of_ble_eq_true rfl, Nat.le_of_ble_eq_true rfl⟩) (fun r_1 u_1 H locs hp_1 G => ?_)
  have G : wd X (fun _ => True) (va_A [] sz) s (rnV h0 a d) H locs := G
  obtain rfl := hp_1
  exact e_int S zr zlk (vp_nar_int _) G () [] rfl rfl (Or.inl rfl) (rfl) dX10_farBy_67
set_option maxHeartbeats 4000000 in
set_option maxRecDepth 100000 in
theorem x_mostAlike0 (l : Launch) (X : EX) (h0 : Nat) (nw : Nat) (sp : Nat) (xa : Nat → Nat) (la : Int64) (lb : Int64) (hc : Nat) (tm : Int32) (tf : Nat → Int32) (hr : Nat) (ar : Nat → Int32) (dr : Nat → Int32) (x3 : Int32) (t : Nat) (ht : t < 200) (hrng : ∀ g : Nat, g < 10 → ∃ v : Nat, v < 16 ∧ (fun g => reachP (ar 0) (nI g) (nI (t / 10)) (nI (t % 10))) g = nI v) (sz : Nat) : Met l yX10_mostAlike wsX10_mostAlike ({ frames := 2, cells := 0, slots := 0, locals := 49 } : Room) (pE X [.ref h0, .ref hr, .int 0, .int x3, .int (nI t)] (@HAppend.hAppend va_W va_W va_W _ (xW h0 nw sp xa la lb) (@HAppend.hAppend va_W va_W va_W _ ([((xa 10), .inr (7, [.ref hc, .int tm])), (hc, .inl (X.2.1, 16, .inl tf))]) (rnV hr ar dr))) sz) (qI (fun (r : Int32) (u : (Int32) × (Nat → Int32)) => (r = nI (mstC x3 (fun g => reachP (ar 0) (nI g) (nI (t / 10)) (nI (t % 10))) 10))) X (fun (u : (Int32) × (Nat → Int32)) => @HAppend.hAppend va_W va_W va_W _ (xW h0 nw sp xa la lb) (@HAppend.hAppend va_W va_W va_W _ ([((xa 10), .inr (7, [.ref hc, .int u.1])), (hc, .inl (X.2.1, 16, .inl u.2))]) (rnV hr ar dr))) (@HAppend.hAppend va_W va_W va_W _ (xW h0 nw sp xa la lb) (@HAppend.hAppend va_W va_W va_W _ ([((xa 10), .inr (7, [.ref hc, .int tm])), (hc, .inl (X.2.1, 16, .inl tf))]) (rnV hr ar dr))) sz) 0 0 (va_A (@HAppend.hAppend va_W va_W va_W _ (xW h0 nw sp xa la lb) (@HAppend.hAppend va_W va_W va_W _ ([((xa 10), .inr (7, [.ref hc, .int tm])), (hc, .inl (X.2.1, 16, .inl tf))]) (rnV hr ar dr))) sz) := by
  refine mk_met (B := (va_A (@HAppend.hAppend va_W va_W va_W _ (xW h0 nw sp xa la lb) (@HAppend.hAppend va_W va_W va_W _ ([((xa 10), .inr (7, [.ref hc, .int tm])), (hc, .inl (X.2.1, 16, .inl tf))]) (rnV hr ar dr))) sz)) (A := (va_A (@HAppend.hAppend va_W va_W va_W _ (xW h0 nw sp xa la lb) (@HAppend.hAppend va_W va_W va_W _ ([((xa 10), .inr (7, [.ref hc, .int tm])), (hc, .inl (X.2.1, 16, .inl tf))]) (rnV hr ar dr))) sz)) (cc := cX10_mostAlike) (maxL := 6) (ret := (some .int)) (by decide) rfl (Nat.le_of_ble_eq_true rfl) k_w k_a (fun p e s m below meth c S zr zlk znm zsz G ls hl => ?_)
  have S : CallFix p m c cX10_mostAlike 6 s _ wsX10_mostAlike RX10 := S
  have zx := S.1
  have zb := S.2.1
  have hl : lv_has ls 6 [(0, .ref h0), (1, .ref hr), (2, .int 0), (3, .int x3), (4, .int (nI t))] := hl
  refine lv_aload_n zx zb dX10_mostAlike_0 rfl (lv_at hl 0 rfl) ?_
  refine r_get (C := RX10) (T := TX10) (N := 14) (ci := 8) (v := .ref (xa 10)) S in_X10_mostAlike_X10 G 0 rfl rfl 10 (by decide) lk_X10_mostAlike_58 rfl dX10_mostAlike_1 ?_
  refine b_wv (cells' := 0) (slots' := 0) (wr := @HAppend.hAppend va_W va_W va_W _ (xW h0 nw sp xa la lb) (rnV hr ar dr)) G rfl rfl [1, 2] [0, 3] rfl rfl rfl rfl (n_V (As := []) (rest := []) (C := RX9) (T := TX9) (N := 2) (ci := 7) S G (x_trestart l X (xa 10) hc tm tf s.heap.size) gX10_mostAlike_X9_restart rfl rfl rfl hdV_X9_restart ⟨Nat.le_of_ble_eq_true rfl, Nat.le_of_ble_eq_true rfl⟩ [1, 2] rfl rfl 1 rfl rfl rfl hl.1 (Nat.le_of_ble_eq_true rfl) dX10_mostAlike_4 ⟨Nat.le_of_ble_eq_true rfl, Nat.le_of_ble_eq_true rfl⟩) (fun u_1 H locs hp_1 G => ?_)
  obtain ⟨m_1a, f_1b⟩ := u_1
  try dsimp only at hp_1
  have hq_1 := hp_1
  have G : wd X (va_A (@HAppend.hAppend va_W va_W va_W _ (xW h0 nw sp xa la lb) (@HAppend.hAppend va_W va_W va_W _ ([((xa 10), .inr (7, [.ref hc, .int tm])), (hc, .inl (X.2.1, 16, .inl tf))]) (rnV hr ar dr))) sz) (va_A (@HAppend.hAppend va_W va_W va_W _ (xW h0 nw sp xa la lb) (@HAppend.hAppend va_W va_W va_W _ ([((xa 10), .inr (7, [.ref hc, .int tm])), (hc, .inl (X.2.1, 16, .inl tf))]) (rnV hr ar dr))) sz) s (@HAppend.hAppend va_W va_W va_W _ (xW h0 nw sp xa la lb) (@HAppend.hAppend va_W va_W va_W _ (rnV hr ar dr) ([((xa 10), .inr (7, [.ref hc, .int m_1a])), (hc, .inl (X.2.1, 16, .inl f_1b))]))) H locs := G
  refine lv_iconst (v := 0) zx zb dX10_mostAlike_7 (by decide) ?_
  refine lv_istore (lv' := [(5, .int 0), (0, .ref h0), (1, .ref hr), (2, .int 0), (3, .int x3), (4, .int (nI t))]) zx zb dX10_mostAlike_8 hl (by decide) rfl (fun ls hl => ?_)
  refine k_loop (P := ∀ (zm : Nat) (n10_5 : Nat) (m10_2 : Int32) (f10_2 : Nat → Int32) (H : Heap) (locs : List Loc) (ls : Array Slot), ((10 - n10_5) < zm) → (n10_5 ≤ 10 ∧ (∀ v : Nat, v < 16 → f10_2 v = nI (cntV x3 (fun g => reachP (ar 0) (nI g) (nI (t / 10)) (nI (t % 10))) (nI v) n10_5)) ∧ m10_2 = nI (mstC x3 (fun g => reachP (ar 0) (nI g) (nI (t / 10)) (nI (t % 10))) n10_5)) → (n10_5 ≤ 10) → wd X (va_A (@HAppend.hAppend va_W va_W va_W _ (xW h0 nw sp xa la lb) (@HAppend.hAppend va_W va_W va_W _ ([((xa 10), .inr (7, [.ref hc, .int tm])), (hc, .inl (X.2.1, 16, .inl tf))]) (rnV hr ar dr))) sz) (va_A (@HAppend.hAppend va_W va_W va_W _ (xW h0 nw sp xa la lb) (@HAppend.hAppend va_W va_W va_W _ ([((xa 10), .inr (7, [.ref hc, .int tm])), (hc, .inl (X.2.1, 16, .inl tf))]) (rnV hr ar dr))) sz) s (@HAppend.hAppend va_W va_W va_W _ (xW h0 nw sp xa la lb) (@HAppend.hAppend va_W va_W va_W _ (rnV hr ar dr) ([((xa 10), .inr (7, [.ref hc, .int m10_2])), (hc, .inl (X.2.1, 16, .inl f10_2))]))) H locs → lv_has ls 6 [(5, .int (nI n10_5)), (0, .ref h0), (1, .ref hr), (2, .int 0), (3, .int x3), (4, .int (nI t))] → W p l e _ s m _ below meth c H locs _ _ _ (F0 m 10 ls [])) (fun loop => loop ((10 - 0) + 1) 0 m_1a f_1b _ _ _ (by omega) ⟨by omega, see_0 hq_1.2, hq_1.1⟩ (by omega) G hl) ?_
  intro zm
  induction zm with
  | zero => intro n10_5 m10_2 f10_2 H locs ls zz q_x0 q_hk_n10_5 _ _; exact absurd zz (by omega)
  | succ zm ih10 =>
    intro n10_5 m10_2 f10_2 H locs ls zm_10 hx10_0 hk_n10_5 G hl
    refine lv_iload zx zb dX10_mostAlike_10 (lv_at hl 0 rfl) ?_
    refine lv_bipush (v := 9) zx zb dX10_mostAlike_12 (by decide) ?_
    refine lv_icmp_gt (tgt := 48) zx zb dX10_mostAlike_14 (by decide) (fun c_2 => ?_) (fun c_2 => ?_)
    · have fc_2 := j_lt (a := 9) (b := n10_5) (by omega) (by omega) c_2
      refine lv_aload_n zx zb dX10_mostAlike_48 rfl (lv_at hl 1 rfl) ?_
      refine r_get (C := RX10) (T := TX10) (N := 14) (ci := 8) (v := .ref (xa 10)) S in_X10_mostAlike_X10 G 0 rfl rfl 10 (by decide) lk_X10_mostAlike_58 rfl dX10_mostAlike_49 ?_
      refine r_get (C := RX9) (T := TX9) (N := 2) (ci := 7) (v := .int m10_2) S in_X10_mostAlike_X9 G 2 rfl rfl 1 (by decide) lk_X10_mostAlike_317 rfl dX10_mostAlike_52 ?_
      exact e_int S zr zlk (vp_nar_int _) G (m10_2, f10_2) [0, 2, 3, 1] rfl rfl (Or.inr rfl) (hx10_0.2.2.trans (by rw [show n10_5 = 10 from by first | omega | (dsimp only; omega)])) dX10_mostAlike_55
    · have fc_2 := j_nlt (a := 9) (b := n10_5) (by omega) (by omega) c_2
      refine lv_iload_n zx zb dX10_mostAlike_17 rfl (lv_at hl 4 rfl) ?_
      refine lv_iload zx zb dX10_mostAlike_18 (lv_at hl 0 rfl) ?_
      refine o_ri (cells' := 0) (slots' := 0) G rfl rfl (n_S (As := [.int x3, .int (nI n10_5)]) (rest := []) S G (x_hasBit l X x3 n10_5 H.size) gX10_mostAlike_X10_hasBit rfl rfl rfl hdS_X10_hasBit ⟨Nat.le_of_ble_eq_true rfl, Nat.le_of_ble_eq_true rfl⟩ [] rfl rfl rfl hl.1 (Nat.le_of_ble_eq_true rfl) dX10_mostAlike_20 ⟨Nat.le_of_ble_eq_true rfl, Nat.le_of_ble_eq_true rfl⟩) (fun r_3 u_3 H locs hp_3 G => ?_)
      have G : wd X (va_A (@HAppend.hAppend va_W va_W va_W _ (xW h0 nw sp xa la lb) (@HAppend.hAppend va_W va_W va_W _ ([((xa 10), .inr (7, [.ref hc, .int tm])), (hc, .inl (X.2.1, 16, .inl tf))]) (rnV hr ar dr))) sz) (va_A (@HAppend.hAppend va_W va_W va_W _ (xW h0 nw sp xa la lb) (@HAppend.hAppend va_W va_W va_W _ ([((xa 10), .inr (7, [.ref hc, .int tm])), (hc, .inl (X.2.1, 16, .inl tf))]) (rnV hr ar dr))) sz) s (@HAppend.hAppend va_W va_W va_W _ (xW h0 nw sp xa la lb) (@HAppend.hAppend va_W va_W va_W _ (rnV hr ar dr) ([((xa 10), .inr (7, [.ref hc, .int m10_2])), (hc, .inl (X.2.1, 16, .inl f10_2))]))) H locs := G
      rcases hp_3 with ⟨rfl, hb_3⟩ | ⟨rfl, hb_3⟩
      · refine lv_if_eq (tgt := 42) zx zb dX10_mostAlike_23 (by decide) (fun c_4 => absurd c_4 (by decide)) (fun c_4 => ?_)
        refine lv_aload_n zx zb dX10_mostAlike_26 rfl (lv_at hl 1 rfl) ?_
        refine r_get (C := RX10) (T := TX10) (N := 14) (ci := 8) (v := .ref (xa 10)) S in_X10_mostAlike_X10 G 0 rfl rfl 10 (by decide) lk_X10_mostAlike_58 rfl dX10_mostAlike_27 ?_
        refine lv_aload_n zx zb dX10_mostAlike_30 rfl (lv_at hl 2 rfl) ?_
        refine lv_iload_n zx zb dX10_mostAlike_31 rfl (lv_at hl 3 rfl) ?_
        refine lv_iload zx zb dX10_mostAlike_32 (lv_at hl 0 rfl) ?_
        refine lv_iload zx zb dX10_mostAlike_34 (lv_at hl 5 rfl) ?_
        refine o_ri (cells' := 0) (slots' := 0) G rfl rfl (n_S (As := [.ref hr, .int 0, .int (nI n10_5), .int (nI t)]) (rest := [.ref (xa 10)]) S G (x_farBy0 l X hr ar dr n10_5 t (by omega) H.size) gX10_mostAlike_X10_farBy rfl rfl rfl hdS_X10_farBy ⟨Nat.le_of_ble_eq_true rfl, Nat.le_of_ble_eq_true rfl⟩ [1] rfl rfl rfl hl.1 (Nat.le_of_ble_eq_true rfl) dX10_mostAlike_36 ⟨Nat.le_of_ble_eq_true rfl, Nat.le_of_ble_eq_true rfl⟩) (fun r_5 u_5 H locs hp_5 G => ?_)
        have G : wd X (va_A (@HAppend.hAppend va_W va_W va_W _ (xW h0 nw sp xa la lb) (@HAppend.hAppend va_W va_W va_W _ ([((xa 10), .inr (7, [.ref hc, .int tm])), (hc, .inl (X.2.1, 16, .inl tf))]) (rnV hr ar dr))) sz) (va_A (@HAppend.hAppend va_W va_W va_W _ (xW h0 nw sp xa la lb) (@HAppend.hAppend va_W va_W va_W _ ([((xa 10), .inr (7, [.ref hc, .int tm])), (hc, .inl (X.2.1, 16, .inl tf))]) (rnV hr ar dr))) sz) s (@HAppend.hAppend va_W va_W va_W _ (xW h0 nw sp xa la lb) (@HAppend.hAppend va_W va_W va_W _ (rnV hr ar dr) ([((xa 10), .inr (7, [.ref hc, .int m10_2])), (hc, .inl (X.2.1, 16, .inl f10_2))]))) H locs := G
        obtain rfl := hp_5
        obtain ⟨v0, hv0, ev0⟩ := hrng n10_5 (by omega)
        refine k_it ev0 ?_
        refine b_wv (cells' := 0) (slots' := 0) (wr := @HAppend.hAppend va_W va_W va_W _ (xW h0 nw sp xa la lb) (rnV hr ar dr)) G rfl rfl [2, 3] [0, 1] rfl rfl rfl rfl (n_V (As := [.int (nI v0)]) (rest := []) (C := RX9) (T := TX9) (N := 2) (ci := 7) S G (x_see l X (xa 10) hc m10_2 f10_2 v0 (by omega) H.size) gX10_mostAlike_X9_see rfl rfl rfl hdV_X9_see ⟨Nat.le_of_ble_eq_true rfl, Nat.le_of_ble_eq_true rfl⟩ [2, 3] rfl rfl 2 rfl rfl rfl hl.1 (Nat.le_of_ble_eq_true rfl) dX10_mostAlike_39 ⟨Nat.le_of_ble_eq_true rfl, Nat.le_of_ble_eq_true rfl⟩) (fun u_6 H locs hp_6 G => ?_)
        obtain ⟨m_6a, f_6b⟩ := u_6
        try dsimp only at hp_6
        have hq_6 := hp_6
        have G : wd X (va_A (@HAppend.hAppend va_W va_W va_W _ (xW h0 nw sp xa la lb) (@HAppend.hAppend va_W va_W va_W _ ([((xa 10), .inr (7, [.ref hc, .int tm])), (hc, .inl (X.2.1, 16, .inl tf))]) (rnV hr ar dr))) sz) (va_A (@HAppend.hAppend va_W va_W va_W _ (xW h0 nw sp xa la lb) (@HAppend.hAppend va_W va_W va_W _ ([((xa 10), .inr (7, [.ref hc, .int tm])), (hc, .inl (X.2.1, 16, .inl tf))]) (rnV hr ar dr))) sz) s (@HAppend.hAppend va_W va_W va_W _ (xW h0 nw sp xa la lb) (@HAppend.hAppend va_W va_W va_W _ (rnV hr ar dr) ([((xa 10), .inr (7, [.ref hc, .int m_6a])), (hc, .inl (X.2.1, 16, .inl f_6b))]))) H locs := G
        refine lv_iinc (v := (nI (n10_5 + 1))) (lv' := [(5, .int (nI (n10_5 + 1))), (0, .ref h0), (1, .ref hr), (2, .int 0), (3, .int x3), (4, .int (nI t))]) zx zb dX10_mostAlike_42 hl (k := 0) rfl (nI_add n10_5 1) (by decide) rfl (fun ls hl => ?_)
        refine lv_goto (tgt := 10) zx zb dX10_mostAlike_45 (by decide) ?_
        exact ih10 (n10_5 + 1) m_6a f_6b _ _ _ (by omega) ⟨by omega, see_s hb_3 (by omega) ev0 hv0 hx10_0.2.1 hx10_0.2.2 hq_6.1 hq_6.2⟩ (by omega) G hl
      · refine lv_if_eq (tgt := 42) zx zb dX10_mostAlike_23 (by decide) (fun c_7 => ?_) (fun c_7 => absurd (by decide) c_7)
        refine lv_iinc (v := (nI (n10_5 + 1))) (lv' := [(5, .int (nI (n10_5 + 1))), (0, .ref h0), (1, .ref hr), (2, .int 0), (3, .int x3), (4, .int (nI t))]) zx zb dX10_mostAlike_42 hl (k := 0) rfl (nI_add n10_5 1) (by decide) rfl (fun ls hl => ?_)
        refine lv_goto (tgt := 10) zx zb dX10_mostAlike_45 (by decide) ?_
        exact ih10 (n10_5 + 1) m10_2 f10_2 _ _ _ (by omega) ⟨by omega, see_n hb_3 hx10_0.2.1 hx10_0.2.2⟩ (by omega) G hl
set_option maxHeartbeats 4000000 in
set_option maxRecDepth 100000 in
theorem x_mostAlike1 (l : Launch) (X : EX) (h0 : Nat) (nw : Nat) (sp : Nat) (xa : Nat → Nat) (la : Int64) (lb : Int64) (hc : Nat) (tm : Int32) (tf : Nat → Int32) (hr : Nat) (ar : Nat → Int32) (dr : Nat → Int32) (x3 : Int32) (t : Nat) (ht : t < 200) (hrng : ∀ g : Nat, g < 10 → ∃ v : Nat, v < 16 ∧ (fun g => reachP (nI g) (ar 1) (nI (t / 10)) (nI (t % 10))) g = nI v) (sz : Nat) : Met l yX10_mostAlike wsX10_mostAlike ({ frames := 2, cells := 0, slots := 0, locals := 49 } : Room) (pE X [.ref h0, .ref hr, .int 1, .int x3, .int (nI t)] (@HAppend.hAppend va_W va_W va_W _ (xW h0 nw sp xa la lb) (@HAppend.hAppend va_W va_W va_W _ ([((xa 10), .inr (7, [.ref hc, .int tm])), (hc, .inl (X.2.1, 16, .inl tf))]) (rnV hr ar dr))) sz) (qI (fun (r : Int32) (u : (Int32) × (Nat → Int32)) => (r = nI (mstC x3 (fun g => reachP (nI g) (ar 1) (nI (t / 10)) (nI (t % 10))) 10))) X (fun (u : (Int32) × (Nat → Int32)) => @HAppend.hAppend va_W va_W va_W _ (xW h0 nw sp xa la lb) (@HAppend.hAppend va_W va_W va_W _ ([((xa 10), .inr (7, [.ref hc, .int u.1])), (hc, .inl (X.2.1, 16, .inl u.2))]) (rnV hr ar dr))) (@HAppend.hAppend va_W va_W va_W _ (xW h0 nw sp xa la lb) (@HAppend.hAppend va_W va_W va_W _ ([((xa 10), .inr (7, [.ref hc, .int tm])), (hc, .inl (X.2.1, 16, .inl tf))]) (rnV hr ar dr))) sz) 0 0 (va_A (@HAppend.hAppend va_W va_W va_W _ (xW h0 nw sp xa la lb) (@HAppend.hAppend va_W va_W va_W _ ([((xa 10), .inr (7, [.ref hc, .int tm])), (hc, .inl (X.2.1, 16, .inl tf))]) (rnV hr ar dr))) sz) := by
  refine mk_met (B := (va_A (@HAppend.hAppend va_W va_W va_W _ (xW h0 nw sp xa la lb) (@HAppend.hAppend va_W va_W va_W _ ([((xa 10), .inr (7, [.ref hc, .int tm])), (hc, .inl (X.2.1, 16, .inl tf))]) (rnV hr ar dr))) sz)) (A := (va_A (@HAppend.hAppend va_W va_W va_W _ (xW h0 nw sp xa la lb) (@HAppend.hAppend va_W va_W va_W _ ([((xa 10), .inr (7, [.ref hc, .int tm])), (hc, .inl (X.2.1, 16, .inl tf))]) (rnV hr ar dr))) sz)) (cc := cX10_mostAlike) (maxL := 6) (ret := (some .int)) (by decide) rfl (Nat.le_of_ble_eq_true rfl) k_w k_a (fun p e s m below meth c S zr zlk znm zsz G ls hl => ?_)
  have S : CallFix p m c cX10_mostAlike 6 s _ wsX10_mostAlike RX10 := S
  have zx := S.1
  have zb := S.2.1
  have hl : lv_has ls 6 [(0, .ref h0), (1, .ref hr), (2, .int 1), (3, .int x3), (4, .int (nI t))] := hl
  refine lv_aload_n zx zb dX10_mostAlike_0 rfl (lv_at hl 0 rfl) ?_
  refine r_get (C := RX10) (T := TX10) (N := 14) (ci := 8) (v := .ref (xa 10)) S in_X10_mostAlike_X10 G 0 rfl rfl 10 (by decide) lk_X10_mostAlike_58 rfl dX10_mostAlike_1 ?_
  refine b_wv (cells' := 0) (slots' := 0) (wr := @HAppend.hAppend va_W va_W va_W _ (xW h0 nw sp xa la lb) (rnV hr ar dr)) G rfl rfl [1, 2] [0, 3] rfl rfl rfl rfl (n_V (As := []) (rest := []) (C := RX9) (T := TX9) (N := 2) (ci := 7) S G (x_trestart l X (xa 10) hc tm tf s.heap.size) gX10_mostAlike_X9_restart rfl rfl rfl hdV_X9_restart ⟨Nat.le_of_ble_eq_true rfl, Nat.le_of_ble_eq_true rfl⟩ [1, 2] rfl rfl 1 rfl rfl rfl hl.1 (Nat.le_of_ble_eq_true rfl) dX10_mostAlike_4 ⟨Nat.le_of_ble_eq_true rfl, Nat.le_of_ble_eq_true rfl⟩) (fun u_1 H locs hp_1 G => ?_)
  obtain ⟨m_1a, f_1b⟩ := u_1
  try dsimp only at hp_1
  have hq_1 := hp_1
  have G : wd X (va_A (@HAppend.hAppend va_W va_W va_W _ (xW h0 nw sp xa la lb) (@HAppend.hAppend va_W va_W va_W _ ([((xa 10), .inr (7, [.ref hc, .int tm])), (hc, .inl (X.2.1, 16, .inl tf))]) (rnV hr ar dr))) sz) (va_A (@HAppend.hAppend va_W va_W va_W _ (xW h0 nw sp xa la lb) (@HAppend.hAppend va_W va_W va_W _ ([((xa 10), .inr (7, [.ref hc, .int tm])), (hc, .inl (X.2.1, 16, .inl tf))]) (rnV hr ar dr))) sz) s (@HAppend.hAppend va_W va_W va_W _ (xW h0 nw sp xa la lb) (@HAppend.hAppend va_W va_W va_W _ (rnV hr ar dr) ([((xa 10), .inr (7, [.ref hc, .int m_1a])), (hc, .inl (X.2.1, 16, .inl f_1b))]))) H locs := G
  refine lv_iconst (v := 0) zx zb dX10_mostAlike_7 (by decide) ?_
  refine lv_istore (lv' := [(5, .int 0), (0, .ref h0), (1, .ref hr), (2, .int 1), (3, .int x3), (4, .int (nI t))]) zx zb dX10_mostAlike_8 hl (by decide) rfl (fun ls hl => ?_)
  refine k_loop (P := ∀ (zm : Nat) (n10_5 : Nat) (m10_2 : Int32) (f10_2 : Nat → Int32) (H : Heap) (locs : List Loc) (ls : Array Slot), ((10 - n10_5) < zm) → (n10_5 ≤ 10 ∧ (∀ v : Nat, v < 16 → f10_2 v = nI (cntV x3 (fun g => reachP (nI g) (ar 1) (nI (t / 10)) (nI (t % 10))) (nI v) n10_5)) ∧ m10_2 = nI (mstC x3 (fun g => reachP (nI g) (ar 1) (nI (t / 10)) (nI (t % 10))) n10_5)) → (n10_5 ≤ 10) → wd X (va_A (@HAppend.hAppend va_W va_W va_W _ (xW h0 nw sp xa la lb) (@HAppend.hAppend va_W va_W va_W _ ([((xa 10), .inr (7, [.ref hc, .int tm])), (hc, .inl (X.2.1, 16, .inl tf))]) (rnV hr ar dr))) sz) (va_A (@HAppend.hAppend va_W va_W va_W _ (xW h0 nw sp xa la lb) (@HAppend.hAppend va_W va_W va_W _ ([((xa 10), .inr (7, [.ref hc, .int tm])), (hc, .inl (X.2.1, 16, .inl tf))]) (rnV hr ar dr))) sz) s (@HAppend.hAppend va_W va_W va_W _ (xW h0 nw sp xa la lb) (@HAppend.hAppend va_W va_W va_W _ (rnV hr ar dr) ([((xa 10), .inr (7, [.ref hc, .int m10_2])), (hc, .inl (X.2.1, 16, .inl f10_2))]))) H locs → lv_has ls 6 [(5, .int (nI n10_5)), (0, .ref h0), (1, .ref hr), (2, .int 1), (3, .int x3), (4, .int (nI t))] → W p l e _ s m _ below meth c H locs _ _ _ (F0 m 10 ls [])) (fun loop => loop ((10 - 0) + 1) 0 m_1a f_1b _ _ _ (by omega) ⟨by omega, see_0 hq_1.2, hq_1.1⟩ (by omega) G hl) ?_
  intro zm
  induction zm with
  | zero => intro n10_5 m10_2 f10_2 H locs ls zz q_x0 q_hk_n10_5 _ _; exact absurd zz (by omega)
  | succ zm ih10 =>
    intro n10_5 m10_2 f10_2 H locs ls zm_10 hx10_0 hk_n10_5 G hl
    refine lv_iload zx zb dX10_mostAlike_10 (lv_at hl 0 rfl) ?_
    refine lv_bipush (v := 9) zx zb dX10_mostAlike_12 (by decide) ?_
    refine lv_icmp_gt (tgt := 48) zx zb dX10_mostAlike_14 (by decide) (fun c_2 => ?_) (fun c_2 => ?_)
    · have fc_2 := j_lt (a := 9) (b := n10_5) (by omega) (by omega) c_2
      refine lv_aload_n zx zb dX10_mostAlike_48 rfl (lv_at hl 1 rfl) ?_
      refine r_get (C := RX10) (T := TX10) (N := 14) (ci := 8) (v := .ref (xa 10)) S in_X10_mostAlike_X10 G 0 rfl rfl 10 (by decide) lk_X10_mostAlike_58 rfl dX10_mostAlike_49 ?_
      refine r_get (C := RX9) (T := TX9) (N := 2) (ci := 7) (v := .int m10_2) S in_X10_mostAlike_X9 G 2 rfl rfl 1 (by decide) lk_X10_mostAlike_317 rfl dX10_mostAlike_52 ?_
      exact e_int S zr zlk (vp_nar_int _) G (m10_2, f10_2) [0, 2, 3, 1] rfl rfl (Or.inr rfl) (hx10_0.2.2.trans (by rw [show n10_5 = 10 from by first | omega | (dsimp only; omega)])) dX10_mostAlike_55
    · have fc_2 := j_nlt (a := 9) (b := n10_5) (by omega) (by omega) c_2
      refine lv_iload_n zx zb dX10_mostAlike_17 rfl (lv_at hl 4 rfl) ?_
      refine lv_iload zx zb dX10_mostAlike_18 (lv_at hl 0 rfl) ?_
      refine o_ri (cells' := 0) (slots' := 0) G rfl rfl (n_S (As := [.int x3, .int (nI n10_5)]) (rest := []) S G (x_hasBit l X x3 n10_5 H.size) gX10_mostAlike_X10_hasBit rfl rfl rfl hdS_X10_hasBit ⟨Nat.le_of_ble_eq_true rfl, Nat.le_of_ble_eq_true rfl⟩ [] rfl rfl rfl hl.1 (Nat.le_of_ble_eq_true rfl) dX10_mostAlike_20 ⟨Nat.le_of_ble_eq_true rfl, Nat.le_of_ble_eq_true rfl⟩) (fun r_3 u_3 H locs hp_3 G => ?_)
      have G : wd X (va_A (@HAppend.hAppend va_W va_W va_W _ (xW h0 nw sp xa la lb) (@HAppend.hAppend va_W va_W va_W _ ([((xa 10), .inr (7, [.ref hc, .int tm])), (hc, .inl (X.2.1, 16, .inl tf))]) (rnV hr ar dr))) sz) (va_A (@HAppend.hAppend va_W va_W va_W _ (xW h0 nw sp xa la lb) (@HAppend.hAppend va_W va_W va_W _ ([((xa 10), .inr (7, [.ref hc, .int tm])), (hc, .inl (X.2.1, 16, .inl tf))]) (rnV hr ar dr))) sz) s (@HAppend.hAppend va_W va_W va_W _ (xW h0 nw sp xa la lb) (@HAppend.hAppend va_W va_W va_W _ (rnV hr ar dr) ([((xa 10), .inr (7, [.ref hc, .int m10_2])), (hc, .inl (X.2.1, 16, .inl f10_2))]))) H locs := G
      rcases hp_3 with ⟨rfl, hb_3⟩ | ⟨rfl, hb_3⟩
      · refine lv_if_eq (tgt := 42) zx zb dX10_mostAlike_23 (by decide) (fun c_4 => absurd c_4 (by decide)) (fun c_4 => ?_)
        refine lv_aload_n zx zb dX10_mostAlike_26 rfl (lv_at hl 1 rfl) ?_
        refine r_get (C := RX10) (T := TX10) (N := 14) (ci := 8) (v := .ref (xa 10)) S in_X10_mostAlike_X10 G 0 rfl rfl 10 (by decide) lk_X10_mostAlike_58 rfl dX10_mostAlike_27 ?_
        refine lv_aload_n zx zb dX10_mostAlike_30 rfl (lv_at hl 2 rfl) ?_
        refine lv_iload_n zx zb dX10_mostAlike_31 rfl (lv_at hl 3 rfl) ?_
        refine lv_iload zx zb dX10_mostAlike_32 (lv_at hl 0 rfl) ?_
        refine lv_iload zx zb dX10_mostAlike_34 (lv_at hl 5 rfl) ?_
        refine o_ri (cells' := 0) (slots' := 0) G rfl rfl (n_S (As := [.ref hr, .int 1, .int (nI n10_5), .int (nI t)]) (rest := [.ref (xa 10)]) S G (x_farBy1 l X hr ar dr n10_5 t (by omega) H.size) gX10_mostAlike_X10_farBy rfl rfl rfl hdS_X10_farBy ⟨Nat.le_of_ble_eq_true rfl, Nat.le_of_ble_eq_true rfl⟩ [1] rfl rfl rfl hl.1 (Nat.le_of_ble_eq_true rfl) dX10_mostAlike_36 ⟨Nat.le_of_ble_eq_true rfl, Nat.le_of_ble_eq_true rfl⟩) (fun r_5 u_5 H locs hp_5 G => ?_)
        have G : wd X (va_A (@HAppend.hAppend va_W va_W va_W _ (xW h0 nw sp xa la lb) (@HAppend.hAppend va_W va_W va_W _ ([((xa 10), .inr (7, [.ref hc, .int tm])), (hc, .inl (X.2.1, 16, .inl tf))]) (rnV hr ar dr))) sz) (va_A (@HAppend.hAppend va_W va_W va_W _ (xW h0 nw sp xa la lb) (@HAppend.hAppend va_W va_W va_W _ ([((xa 10), .inr (7, [.ref hc, .int tm])), (hc, .inl (X.2.1, 16, .inl tf))]) (rnV hr ar dr))) sz) s (@HAppend.hAppend va_W va_W va_W _ (xW h0 nw sp xa la lb) (@HAppend.hAppend va_W va_W va_W _ (rnV hr ar dr) ([((xa 10), .inr (7, [.ref hc, .int m10_2])), (hc, .inl (X.2.1, 16, .inl f10_2))]))) H locs := G
        obtain rfl := hp_5
        obtain ⟨v0, hv0, ev0⟩ := hrng n10_5 (by omega)
        refine k_it ev0 ?_
        refine b_wv (cells' := 0) (slots' := 0) (wr := @HAppend.hAppend va_W va_W va_W _ (xW h0 nw sp xa la lb) (rnV hr ar dr)) G rfl rfl [2, 3] [0, 1] rfl rfl rfl rfl (n_V (As := [.int (nI v0)]) (rest := []) (C := RX9) (T := TX9) (N := 2) (ci := 7) S G (x_see l X (xa 10) hc m10_2 f10_2 v0 (by omega) H.size) gX10_mostAlike_X9_see rfl rfl rfl hdV_X9_see ⟨Nat.le_of_ble_eq_true rfl, Nat.le_of_ble_eq_true rfl⟩ [2, 3] rfl rfl 2 rfl rfl rfl hl.1 (Nat.le_of_ble_eq_true rfl) dX10_mostAlike_39 ⟨Nat.le_of_ble_eq_true rfl, Nat.le_of_ble_eq_true rfl⟩) (fun u_6 H locs hp_6 G => ?_)
        obtain ⟨m_6a, f_6b⟩ := u_6
        try dsimp only at hp_6
        have hq_6 := hp_6
        have G : wd X (va_A (@HAppend.hAppend va_W va_W va_W _ (xW h0 nw sp xa la lb) (@HAppend.hAppend va_W va_W va_W _ ([((xa 10), .inr (7, [.ref hc, .int tm])), (hc, .inl (X.2.1, 16, .inl tf))]) (rnV hr ar dr))) sz) (va_A (@HAppend.hAppend va_W va_W va_W _ (xW h0 nw sp xa la lb) (@HAppend.hAppend va_W va_W va_W _ ([((xa 10), .inr (7, [.ref hc, .int tm])), (hc, .inl (X.2.1, 16, .inl tf))]) (rnV hr ar dr))) sz) s (@HAppend.hAppend va_W va_W va_W _ (xW h0 nw sp xa la lb) (@HAppend.hAppend va_W va_W va_W _ (rnV hr ar dr) ([((xa 10), .inr (7, [.ref hc, .int m_6a])), (hc, .inl (X.2.1, 16, .inl f_6b))]))) H locs := G
        refine lv_iinc (v := (nI (n10_5 + 1))) (lv' := [(5, .int (nI (n10_5 + 1))), (0, .ref h0), (1, .ref hr), (2, .int 1), (3, .int x3), (4, .int (nI t))]) zx zb dX10_mostAlike_42 hl (k := 0) rfl (nI_add n10_5 1) (by decide) rfl (fun ls hl => ?_)
        refine lv_goto (tgt := 10) zx zb dX10_mostAlike_45 (by decide) ?_
        exact ih10 (n10_5 + 1) m_6a f_6b _ _ _ (by omega) ⟨by omega, see_s hb_3 (by omega) ev0 hv0 hx10_0.2.1 hx10_0.2.2 hq_6.1 hq_6.2⟩ (by omega) G hl
      · refine lv_if_eq (tgt := 42) zx zb dX10_mostAlike_23 (by decide) (fun c_7 => ?_) (fun c_7 => absurd (by decide) c_7)
        refine lv_iinc (v := (nI (n10_5 + 1))) (lv' := [(5, .int (nI (n10_5 + 1))), (0, .ref h0), (1, .ref hr), (2, .int 1), (3, .int x3), (4, .int (nI t))]) zx zb dX10_mostAlike_42 hl (k := 0) rfl (nI_add n10_5 1) (by decide) rfl (fun ls hl => ?_)
        refine lv_goto (tgt := 10) zx zb dX10_mostAlike_45 (by decide) ?_
        exact ih10 (n10_5 + 1) m10_2 f10_2 _ _ _ (by omega) ⟨by omega, see_n hb_3 hx10_0.2.1 hx10_0.2.2⟩ (by omega) G hl
set_option maxHeartbeats 4000000 in
set_option maxRecDepth 100000 in
theorem x_mostAlike2 (l : Launch) (X : EX) (h0 : Nat) (nw : Nat) (sp : Nat) (xa : Nat → Nat) (la : Int64) (lb : Int64) (hc : Nat) (tm : Int32) (tf : Nat → Int32) (hr : Nat) (ar : Nat → Int32) (dr : Nat → Int32) (x3 : Int32) (t : Nat) (ht : t < 20) (hrng : ∀ g : Nat, g < 10 → ∃ v : Nat, v < 16 ∧ (fun g => limitP (nI g) (nI t)) g = nI v) (sz : Nat) : Met l yX10_mostAlike wsX10_mostAlike ({ frames := 2, cells := 0, slots := 0, locals := 47 } : Room) (pE X [.ref h0, .ref hr, .int 2, .int x3, .int (nI t)] (@HAppend.hAppend va_W va_W va_W _ (xW h0 nw sp xa la lb) (@HAppend.hAppend va_W va_W va_W _ ([((xa 10), .inr (7, [.ref hc, .int tm])), (hc, .inl (X.2.1, 16, .inl tf))]) (rnV hr ar dr))) sz) (qI (fun (r : Int32) (u : (Int32) × (Nat → Int32)) => (r = nI (mstC x3 (fun g => limitP (nI g) (nI t)) 10))) X (fun (u : (Int32) × (Nat → Int32)) => @HAppend.hAppend va_W va_W va_W _ (xW h0 nw sp xa la lb) (@HAppend.hAppend va_W va_W va_W _ ([((xa 10), .inr (7, [.ref hc, .int u.1])), (hc, .inl (X.2.1, 16, .inl u.2))]) (rnV hr ar dr))) (@HAppend.hAppend va_W va_W va_W _ (xW h0 nw sp xa la lb) (@HAppend.hAppend va_W va_W va_W _ ([((xa 10), .inr (7, [.ref hc, .int tm])), (hc, .inl (X.2.1, 16, .inl tf))]) (rnV hr ar dr))) sz) 0 0 (va_A (@HAppend.hAppend va_W va_W va_W _ (xW h0 nw sp xa la lb) (@HAppend.hAppend va_W va_W va_W _ ([((xa 10), .inr (7, [.ref hc, .int tm])), (hc, .inl (X.2.1, 16, .inl tf))]) (rnV hr ar dr))) sz) := by
  refine mk_met (B := (va_A (@HAppend.hAppend va_W va_W va_W _ (xW h0 nw sp xa la lb) (@HAppend.hAppend va_W va_W va_W _ ([((xa 10), .inr (7, [.ref hc, .int tm])), (hc, .inl (X.2.1, 16, .inl tf))]) (rnV hr ar dr))) sz)) (A := (va_A (@HAppend.hAppend va_W va_W va_W _ (xW h0 nw sp xa la lb) (@HAppend.hAppend va_W va_W va_W _ ([((xa 10), .inr (7, [.ref hc, .int tm])), (hc, .inl (X.2.1, 16, .inl tf))]) (rnV hr ar dr))) sz)) (cc := cX10_mostAlike) (maxL := 6) (ret := (some .int)) (by decide) rfl (Nat.le_of_ble_eq_true rfl) k_w k_a (fun p e s m below meth c S zr zlk znm zsz G ls hl => ?_)
  have S : CallFix p m c cX10_mostAlike 6 s _ wsX10_mostAlike RX10 := S
  have zx := S.1
  have zb := S.2.1
  have hl : lv_has ls 6 [(0, .ref h0), (1, .ref hr), (2, .int 2), (3, .int x3), (4, .int (nI t))] := hl
  refine lv_aload_n zx zb dX10_mostAlike_0 rfl (lv_at hl 0 rfl) ?_
  refine r_get (C := RX10) (T := TX10) (N := 14) (ci := 8) (v := .ref (xa 10)) S in_X10_mostAlike_X10 G 0 rfl rfl 10 (by decide) lk_X10_mostAlike_58 rfl dX10_mostAlike_1 ?_
  refine b_wv (cells' := 0) (slots' := 0) (wr := @HAppend.hAppend va_W va_W va_W _ (xW h0 nw sp xa la lb) (rnV hr ar dr)) G rfl rfl [1, 2] [0, 3] rfl rfl rfl rfl (n_V (As := []) (rest := []) (C := RX9) (T := TX9) (N := 2) (ci := 7) S G (x_trestart l X (xa 10) hc tm tf s.heap.size) gX10_mostAlike_X9_restart rfl rfl rfl hdV_X9_restart ⟨Nat.le_of_ble_eq_true rfl, Nat.le_of_ble_eq_true rfl⟩ [1, 2] rfl rfl 1 rfl rfl rfl hl.1 (Nat.le_of_ble_eq_true rfl) dX10_mostAlike_4 ⟨Nat.le_of_ble_eq_true rfl, Nat.le_of_ble_eq_true rfl⟩) (fun u_1 H locs hp_1 G => ?_)
  obtain ⟨m_1a, f_1b⟩ := u_1
  try dsimp only at hp_1
  have hq_1 := hp_1
  have G : wd X (va_A (@HAppend.hAppend va_W va_W va_W _ (xW h0 nw sp xa la lb) (@HAppend.hAppend va_W va_W va_W _ ([((xa 10), .inr (7, [.ref hc, .int tm])), (hc, .inl (X.2.1, 16, .inl tf))]) (rnV hr ar dr))) sz) (va_A (@HAppend.hAppend va_W va_W va_W _ (xW h0 nw sp xa la lb) (@HAppend.hAppend va_W va_W va_W _ ([((xa 10), .inr (7, [.ref hc, .int tm])), (hc, .inl (X.2.1, 16, .inl tf))]) (rnV hr ar dr))) sz) s (@HAppend.hAppend va_W va_W va_W _ (xW h0 nw sp xa la lb) (@HAppend.hAppend va_W va_W va_W _ (rnV hr ar dr) ([((xa 10), .inr (7, [.ref hc, .int m_1a])), (hc, .inl (X.2.1, 16, .inl f_1b))]))) H locs := G
  refine lv_iconst (v := 0) zx zb dX10_mostAlike_7 (by decide) ?_
  refine lv_istore (lv' := [(5, .int 0), (0, .ref h0), (1, .ref hr), (2, .int 2), (3, .int x3), (4, .int (nI t))]) zx zb dX10_mostAlike_8 hl (by decide) rfl (fun ls hl => ?_)
  refine k_loop (P := ∀ (zm : Nat) (n10_5 : Nat) (m10_2 : Int32) (f10_2 : Nat → Int32) (H : Heap) (locs : List Loc) (ls : Array Slot), ((10 - n10_5) < zm) → (n10_5 ≤ 10 ∧ (∀ v : Nat, v < 16 → f10_2 v = nI (cntV x3 (fun g => limitP (nI g) (nI t)) (nI v) n10_5)) ∧ m10_2 = nI (mstC x3 (fun g => limitP (nI g) (nI t)) n10_5)) → (n10_5 ≤ 10) → wd X (va_A (@HAppend.hAppend va_W va_W va_W _ (xW h0 nw sp xa la lb) (@HAppend.hAppend va_W va_W va_W _ ([((xa 10), .inr (7, [.ref hc, .int tm])), (hc, .inl (X.2.1, 16, .inl tf))]) (rnV hr ar dr))) sz) (va_A (@HAppend.hAppend va_W va_W va_W _ (xW h0 nw sp xa la lb) (@HAppend.hAppend va_W va_W va_W _ ([((xa 10), .inr (7, [.ref hc, .int tm])), (hc, .inl (X.2.1, 16, .inl tf))]) (rnV hr ar dr))) sz) s (@HAppend.hAppend va_W va_W va_W _ (xW h0 nw sp xa la lb) (@HAppend.hAppend va_W va_W va_W _ (rnV hr ar dr) ([((xa 10), .inr (7, [.ref hc, .int m10_2])), (hc, .inl (X.2.1, 16, .inl f10_2))]))) H locs → lv_has ls 6 [(5, .int (nI n10_5)), (0, .ref h0), (1, .ref hr), (2, .int 2), (3, .int x3), (4, .int (nI t))] → W p l e _ s m _ below meth c H locs _ _ _ (F0 m 10 ls [])) (fun loop => loop ((10 - 0) + 1) 0 m_1a f_1b _ _ _ (by omega) ⟨by omega, see_0 hq_1.2, hq_1.1⟩ (by omega) G hl) ?_
  intro zm
  induction zm with
  | zero => intro n10_5 m10_2 f10_2 H locs ls zz q_x0 q_hk_n10_5 _ _; exact absurd zz (by omega)
  | succ zm ih10 =>
    intro n10_5 m10_2 f10_2 H locs ls zm_10 hx10_0 hk_n10_5 G hl
    refine lv_iload zx zb dX10_mostAlike_10 (lv_at hl 0 rfl) ?_
    refine lv_bipush (v := 9) zx zb dX10_mostAlike_12 (by decide) ?_
    refine lv_icmp_gt (tgt := 48) zx zb dX10_mostAlike_14 (by decide) (fun c_2 => ?_) (fun c_2 => ?_)
    · have fc_2 := j_lt (a := 9) (b := n10_5) (by omega) (by omega) c_2
      refine lv_aload_n zx zb dX10_mostAlike_48 rfl (lv_at hl 1 rfl) ?_
      refine r_get (C := RX10) (T := TX10) (N := 14) (ci := 8) (v := .ref (xa 10)) S in_X10_mostAlike_X10 G 0 rfl rfl 10 (by decide) lk_X10_mostAlike_58 rfl dX10_mostAlike_49 ?_
      refine r_get (C := RX9) (T := TX9) (N := 2) (ci := 7) (v := .int m10_2) S in_X10_mostAlike_X9 G 2 rfl rfl 1 (by decide) lk_X10_mostAlike_317 rfl dX10_mostAlike_52 ?_
      exact e_int S zr zlk (vp_nar_int _) G (m10_2, f10_2) [0, 2, 3, 1] rfl rfl (Or.inr rfl) (hx10_0.2.2.trans (by rw [show n10_5 = 10 from by first | omega | (dsimp only; omega)])) dX10_mostAlike_55
    · have fc_2 := j_nlt (a := 9) (b := n10_5) (by omega) (by omega) c_2
      refine lv_iload_n zx zb dX10_mostAlike_17 rfl (lv_at hl 4 rfl) ?_
      refine lv_iload zx zb dX10_mostAlike_18 (lv_at hl 0 rfl) ?_
      refine o_ri (cells' := 0) (slots' := 0) G rfl rfl (n_S (As := [.int x3, .int (nI n10_5)]) (rest := []) S G (x_hasBit l X x3 n10_5 H.size) gX10_mostAlike_X10_hasBit rfl rfl rfl hdS_X10_hasBit ⟨Nat.le_of_ble_eq_true rfl, Nat.le_of_ble_eq_true rfl⟩ [] rfl rfl rfl hl.1 (Nat.le_of_ble_eq_true rfl) dX10_mostAlike_20 ⟨Nat.le_of_ble_eq_true rfl, Nat.le_of_ble_eq_true rfl⟩) (fun r_3 u_3 H locs hp_3 G => ?_)
      have G : wd X (va_A (@HAppend.hAppend va_W va_W va_W _ (xW h0 nw sp xa la lb) (@HAppend.hAppend va_W va_W va_W _ ([((xa 10), .inr (7, [.ref hc, .int tm])), (hc, .inl (X.2.1, 16, .inl tf))]) (rnV hr ar dr))) sz) (va_A (@HAppend.hAppend va_W va_W va_W _ (xW h0 nw sp xa la lb) (@HAppend.hAppend va_W va_W va_W _ ([((xa 10), .inr (7, [.ref hc, .int tm])), (hc, .inl (X.2.1, 16, .inl tf))]) (rnV hr ar dr))) sz) s (@HAppend.hAppend va_W va_W va_W _ (xW h0 nw sp xa la lb) (@HAppend.hAppend va_W va_W va_W _ (rnV hr ar dr) ([((xa 10), .inr (7, [.ref hc, .int m10_2])), (hc, .inl (X.2.1, 16, .inl f10_2))]))) H locs := G
      rcases hp_3 with ⟨rfl, hb_3⟩ | ⟨rfl, hb_3⟩
      · refine lv_if_eq (tgt := 42) zx zb dX10_mostAlike_23 (by decide) (fun c_4 => absurd c_4 (by decide)) (fun c_4 => ?_)
        refine lv_aload_n zx zb dX10_mostAlike_26 rfl (lv_at hl 1 rfl) ?_
        refine r_get (C := RX10) (T := TX10) (N := 14) (ci := 8) (v := .ref (xa 10)) S in_X10_mostAlike_X10 G 0 rfl rfl 10 (by decide) lk_X10_mostAlike_58 rfl dX10_mostAlike_27 ?_
        refine lv_aload_n zx zb dX10_mostAlike_30 rfl (lv_at hl 2 rfl) ?_
        refine lv_iload_n zx zb dX10_mostAlike_31 rfl (lv_at hl 3 rfl) ?_
        refine lv_iload zx zb dX10_mostAlike_32 (lv_at hl 0 rfl) ?_
        refine lv_iload zx zb dX10_mostAlike_34 (lv_at hl 5 rfl) ?_
        refine o_ri (cells' := 0) (slots' := 0) G rfl rfl (n_S (As := [.ref hr, .int 2, .int (nI n10_5), .int (nI t)]) (rest := [.ref (xa 10)]) S G (x_farBy2 l X hr ar dr n10_5 t (by omega) H.size) gX10_mostAlike_X10_farBy rfl rfl rfl hdS_X10_farBy ⟨Nat.le_of_ble_eq_true rfl, Nat.le_of_ble_eq_true rfl⟩ [1] rfl rfl rfl hl.1 (Nat.le_of_ble_eq_true rfl) dX10_mostAlike_36 ⟨Nat.le_of_ble_eq_true rfl, Nat.le_of_ble_eq_true rfl⟩) (fun r_5 u_5 H locs hp_5 G => ?_)
        have G : wd X (va_A (@HAppend.hAppend va_W va_W va_W _ (xW h0 nw sp xa la lb) (@HAppend.hAppend va_W va_W va_W _ ([((xa 10), .inr (7, [.ref hc, .int tm])), (hc, .inl (X.2.1, 16, .inl tf))]) (rnV hr ar dr))) sz) (va_A (@HAppend.hAppend va_W va_W va_W _ (xW h0 nw sp xa la lb) (@HAppend.hAppend va_W va_W va_W _ ([((xa 10), .inr (7, [.ref hc, .int tm])), (hc, .inl (X.2.1, 16, .inl tf))]) (rnV hr ar dr))) sz) s (@HAppend.hAppend va_W va_W va_W _ (xW h0 nw sp xa la lb) (@HAppend.hAppend va_W va_W va_W _ (rnV hr ar dr) ([((xa 10), .inr (7, [.ref hc, .int m10_2])), (hc, .inl (X.2.1, 16, .inl f10_2))]))) H locs := G
        obtain rfl := hp_5
        obtain ⟨v0, hv0, ev0⟩ := hrng n10_5 (by omega)
        refine k_it ev0 ?_
        refine b_wv (cells' := 0) (slots' := 0) (wr := @HAppend.hAppend va_W va_W va_W _ (xW h0 nw sp xa la lb) (rnV hr ar dr)) G rfl rfl [2, 3] [0, 1] rfl rfl rfl rfl (n_V (As := [.int (nI v0)]) (rest := []) (C := RX9) (T := TX9) (N := 2) (ci := 7) S G (x_see l X (xa 10) hc m10_2 f10_2 v0 (by omega) H.size) gX10_mostAlike_X9_see rfl rfl rfl hdV_X9_see ⟨Nat.le_of_ble_eq_true rfl, Nat.le_of_ble_eq_true rfl⟩ [2, 3] rfl rfl 2 rfl rfl rfl hl.1 (Nat.le_of_ble_eq_true rfl) dX10_mostAlike_39 ⟨Nat.le_of_ble_eq_true rfl, Nat.le_of_ble_eq_true rfl⟩) (fun u_6 H locs hp_6 G => ?_)
        obtain ⟨m_6a, f_6b⟩ := u_6
        try dsimp only at hp_6
        have hq_6 := hp_6
        have G : wd X (va_A (@HAppend.hAppend va_W va_W va_W _ (xW h0 nw sp xa la lb) (@HAppend.hAppend va_W va_W va_W _ ([((xa 10), .inr (7, [.ref hc, .int tm])), (hc, .inl (X.2.1, 16, .inl tf))]) (rnV hr ar dr))) sz) (va_A (@HAppend.hAppend va_W va_W va_W _ (xW h0 nw sp xa la lb) (@HAppend.hAppend va_W va_W va_W _ ([((xa 10), .inr (7, [.ref hc, .int tm])), (hc, .inl (X.2.1, 16, .inl tf))]) (rnV hr ar dr))) sz) s (@HAppend.hAppend va_W va_W va_W _ (xW h0 nw sp xa la lb) (@HAppend.hAppend va_W va_W va_W _ (rnV hr ar dr) ([((xa 10), .inr (7, [.ref hc, .int m_6a])), (hc, .inl (X.2.1, 16, .inl f_6b))]))) H locs := G
        refine lv_iinc (v := (nI (n10_5 + 1))) (lv' := [(5, .int (nI (n10_5 + 1))), (0, .ref h0), (1, .ref hr), (2, .int 2), (3, .int x3), (4, .int (nI t))]) zx zb dX10_mostAlike_42 hl (k := 0) rfl (nI_add n10_5 1) (by decide) rfl (fun ls hl => ?_)
        refine lv_goto (tgt := 10) zx zb dX10_mostAlike_45 (by decide) ?_
        exact ih10 (n10_5 + 1) m_6a f_6b _ _ _ (by omega) ⟨by omega, see_s hb_3 (by omega) ev0 hv0 hx10_0.2.1 hx10_0.2.2 hq_6.1 hq_6.2⟩ (by omega) G hl
      · refine lv_if_eq (tgt := 42) zx zb dX10_mostAlike_23 (by decide) (fun c_7 => ?_) (fun c_7 => absurd (by decide) c_7)
        refine lv_iinc (v := (nI (n10_5 + 1))) (lv' := [(5, .int (nI (n10_5 + 1))), (0, .ref h0), (1, .ref hr), (2, .int 2), (3, .int x3), (4, .int (nI t))]) zx zb dX10_mostAlike_42 hl (k := 0) rfl (nI_add n10_5 1) (by decide) rfl (fun ls hl => ?_)
        refine lv_goto (tgt := 10) zx zb dX10_mostAlike_45 (by decide) ?_
        exact ih10 (n10_5 + 1) m10_2 f10_2 _ _ _ (by omega) ⟨by omega, see_n hb_3 hx10_0.2.1 hx10_0.2.2⟩ (by omega) G hl
set_option maxHeartbeats 4000000 in
set_option maxRecDepth 100000 in
theorem x_nextLook0 (l : Launch) (X : EX) (h0 : Nat) (nw : Nat) (sp : Nat) (xa : Nat → Nat) (la : Int64) (lb : Int64) (hc : Nat) (tm : Int32) (tf : Nat → Int32) (hr : Nat) (ar : Nat → Int32) (dr : Nat → Int32) (x3 : Int32) (hB : ∃ b : Nat, b < 1024 ∧ x3 = nI b) (sz : Nat) : Met l yX10_nextLook wsX10_nextLook ({ frames := 3, cells := 0, slots := 0, locals := 74 } : Room) (pE X [.ref h0, .ref hr, .int 0, .int x3, .int 200] (@HAppend.hAppend va_W va_W va_W _ (xW h0 nw sp xa la lb) (@HAppend.hAppend va_W va_W va_W _ ([((xa 10), .inr (7, [.ref hc, .int tm])), (hc, .inl (X.2.1, 16, .inl tf))]) (rnV hr ar dr))) sz) (qI (fun (r : Int32) (u : (Int32) × (Nat → Int32)) => (r = telF x3 (ar 0))) X (fun (u : (Int32) × (Nat → Int32)) => @HAppend.hAppend va_W va_W va_W _ (xW h0 nw sp xa la lb) (@HAppend.hAppend va_W va_W va_W _ ([((xa 10), .inr (7, [.ref hc, .int u.1])), (hc, .inl (X.2.1, 16, .inl u.2))]) (rnV hr ar dr))) (@HAppend.hAppend va_W va_W va_W _ (xW h0 nw sp xa la lb) (@HAppend.hAppend va_W va_W va_W _ ([((xa 10), .inr (7, [.ref hc, .int tm])), (hc, .inl (X.2.1, 16, .inl tf))]) (rnV hr ar dr))) sz) 0 0 (va_A (@HAppend.hAppend va_W va_W va_W _ (xW h0 nw sp xa la lb) (@HAppend.hAppend va_W va_W va_W _ ([((xa 10), .inr (7, [.ref hc, .int tm])), (hc, .inl (X.2.1, 16, .inl tf))]) (rnV hr ar dr))) sz) := by
  refine mk_met (B := (va_A (@HAppend.hAppend va_W va_W va_W _ (xW h0 nw sp xa la lb) (@HAppend.hAppend va_W va_W va_W _ ([((xa 10), .inr (7, [.ref hc, .int tm])), (hc, .inl (X.2.1, 16, .inl tf))]) (rnV hr ar dr))) sz)) (A := (va_A (@HAppend.hAppend va_W va_W va_W _ (xW h0 nw sp xa la lb) (@HAppend.hAppend va_W va_W va_W _ ([((xa 10), .inr (7, [.ref hc, .int tm])), (hc, .inl (X.2.1, 16, .inl tf))]) (rnV hr ar dr))) sz)) (cc := cX10_nextLook) (maxL := 9) (ret := (some .int)) (by decide) rfl (Nat.le_of_ble_eq_true rfl) k_w k_a (fun p e s m below meth c S zr zlk znm zsz G ls hl => ?_)
  have S : CallFix p m c cX10_nextLook 9 s _ wsX10_nextLook RX10 := S
  have zx := S.1
  have zb := S.2.1
  have hl : lv_has ls 9 [(0, .ref h0), (1, .ref hr), (2, .int 0), (3, .int x3), (4, .int 200)] := hl
  refine lv_iconst (v := (-1)) zx zb dX10_nextLook_0 (by decide) ?_
  refine lv_istore (lv' := [(5, .int (-1)), (0, .ref h0), (1, .ref hr), (2, .int 0), (3, .int x3), (4, .int 200)]) zx zb dX10_nextLook_1 hl (by decide) rfl (fun ls hl => ?_)
  refine lv_iload_n zx zb dX10_nextLook_3 rfl (lv_at hl 4 rfl) ?_
  refine o_ri (cells' := 0) (slots' := 0) G rfl rfl (n_S (As := [.int x3]) (rest := []) S G (x_bitCount l X x3 s.heap.size) gX10_nextLook_J6_bitCount_0f7a4 rfl rfl rfl hdS_J6_bitCount_0f7a4 ⟨Nat.le_of_ble_eq_true rfl, Nat.le_of_ble_eq_true rfl⟩ [] rfl rfl rfl hl.1 (Nat.le_of_ble_eq_true rfl) dX10_nextLook_4 ⟨Nat.le_of_ble_eq_true rfl, Nat.le_of_ble_eq_true rfl⟩) (fun r_1 u_1 H locs hp_1 G => ?_)
  have G : wd X (va_A (@HAppend.hAppend va_W va_W va_W _ (xW h0 nw sp xa la lb) (@HAppend.hAppend va_W va_W va_W _ ([((xa 10), .inr (7, [.ref hc, .int tm])), (hc, .inl (X.2.1, 16, .inl tf))]) (rnV hr ar dr))) sz) (va_A (@HAppend.hAppend va_W va_W va_W _ (xW h0 nw sp xa la lb) (@HAppend.hAppend va_W va_W va_W _ ([((xa 10), .inr (7, [.ref hc, .int tm])), (hc, .inl (X.2.1, 16, .inl tf))]) (rnV hr ar dr))) sz) s (@HAppend.hAppend va_W va_W va_W _ (xW h0 nw sp xa la lb) (@HAppend.hAppend va_W va_W va_W _ ([((xa 10), .inr (7, [.ref hc, .int tm])), (hc, .inl (X.2.1, 16, .inl tf))]) (rnV hr ar dr))) H locs := G
  obtain rfl := hp_1
  refine k_it (pop_bc hB) ?_
  have hpl := pop_le (B := x3)
  refine lv_iconst (v := 1) zx zb dX10_nextLook_7 (by decide) ?_
  refine r_iadd (v := (nI ((popN x3) + 1))) S (nI_add (popN x3) 1) dX10_nextLook_8 ?_
  refine lv_istore (lv' := [(6, .int (nI ((popN x3) + 1))), (5, .int (-1)), (0, .ref h0), (1, .ref hr), (2, .int 0), (3, .int x3), (4, .int 200)]) zx zb dX10_nextLook_9 hl (by decide) rfl (fun ls hl => ?_)
  refine lv_iconst (v := 0) zx zb dX10_nextLook_11 (by decide) ?_
  refine lv_istore (lv' := [(7, .int 0), (6, .int (nI ((popN x3) + 1))), (5, .int (-1)), (0, .ref h0), (1, .ref hr), (2, .int 0), (3, .int x3), (4, .int 200)]) zx zb dX10_nextLook_12 hl (by decide) rfl (fun ls hl => ?_)
  refine k_loop (P := ∀ (zm : Nat) (n14_7 : Nat) (n14_6 : Nat) (x14_5 : Int32) (m14_1 : Int32) (f14_1 : Nat → Int32) (H : Heap) (locs : List Loc) (ls : Array Slot), ((200 - n14_7) < zm) → ((n14_7 ≤ 200 ∧ (n14_7 = 0 ∨ 1 ≤ popN x3)) ∧ x14_5 = (lkB (fun a => topM x3 (fun g => reachP (ar 0) (nI g) (nI (a / 10)) (nI (a % 10))) 10) (popN x3 + 1) n14_7).1 ∧ n14_6 = (lkB (fun a => topM x3 (fun g => reachP (ar 0) (nI g) (nI (a / 10)) (nI (a % 10))) 10) (popN x3 + 1) n14_7).2) → (n14_7 ≤ 200) → (n14_6 ≤ 11) → wd X (va_A (@HAppend.hAppend va_W va_W va_W _ (xW h0 nw sp xa la lb) (@HAppend.hAppend va_W va_W va_W _ ([((xa 10), .inr (7, [.ref hc, .int tm])), (hc, .inl (X.2.1, 16, .inl tf))]) (rnV hr ar dr))) sz) (va_A (@HAppend.hAppend va_W va_W va_W _ (xW h0 nw sp xa la lb) (@HAppend.hAppend va_W va_W va_W _ ([((xa 10), .inr (7, [.ref hc, .int tm])), (hc, .inl (X.2.1, 16, .inl tf))]) (rnV hr ar dr))) sz) s (@HAppend.hAppend va_W va_W va_W _ (xW h0 nw sp xa la lb) (@HAppend.hAppend va_W va_W va_W _ ([((xa 10), .inr (7, [.ref hc, .int m14_1])), (hc, .inl (X.2.1, 16, .inl f14_1))]) (rnV hr ar dr))) H locs → lv_has ls 9 [(7, .int (nI n14_7)), (6, .int (nI n14_6)), (5, .int x14_5), (0, .ref h0), (1, .ref hr), (2, .int 0), (3, .int x3), (4, .int 200)] → W p l e _ s m _ below meth c H locs _ _ _ (F0 m 14 ls [])) (fun loop => loop ((200 - 0) + 1) 0 ((popN x3) + 1) (-1) tm tf _ _ _ (by omega) ⟨⟨by omega, Or.inl rfl⟩, rfl, rfl⟩ (by omega) (by omega) G hl) ?_
  intro zm
  induction zm with
  | zero => intro n14_7 n14_6 x14_5 m14_1 f14_1 H locs ls zz q_x0 q_hk_n14_7 q_hk_n14_6 _ _; exact absurd zz (by omega)
  | succ zm ih14 =>
    intro n14_7 n14_6 x14_5 m14_1 f14_1 H locs ls zm_14 hx14_0 hk_n14_7 hk_n14_6 G hl
    refine lv_iload zx zb dX10_nextLook_14 (lv_at hl 0 rfl) ?_
    refine lv_iload zx zb dX10_nextLook_16 (lv_at hl 7 rfl) ?_
    refine lv_icmp_ge (tgt := 59) zx zb dX10_nextLook_18 (by decide) (fun c_2 => ?_) (fun c_2 => ?_)
    · have fc_2 := j_le (a := 200) (b := n14_7) (by omega) (by omega) c_2
      refine lv_iload zx zb dX10_nextLook_59 (lv_at hl 2 rfl) ?_
      exact e_int S zr zlk (vp_nar_int _) G (m14_1, f14_1) [0, 1, 2, 3] rfl rfl (Or.inr rfl) (lk_endC hB (by decide) hx14_0.1.1 hx14_0.1.2 (Or.inl (by first | omega | (dsimp only; omega))) hx14_0.2.1 hx14_0.2.2) dX10_nextLook_61
    · have fc_2 := j_nle (a := 200) (b := n14_7) (by omega) (by omega) c_2
      refine lv_iload zx zb dX10_nextLook_21 (lv_at hl 1 rfl) ?_
      refine lv_iconst (v := 1) zx zb dX10_nextLook_23 (by decide) ?_
      refine lv_icmp_le (tgt := 59) zx zb dX10_nextLook_24 (by decide) (fun c_3 => ?_) (fun c_3 => ?_)
      · have fc_3 := j_le (a := n14_6) (b := 1) (by omega) (by omega) c_3
        refine lv_iload zx zb dX10_nextLook_59 (lv_at hl 2 rfl) ?_
        exact e_int S zr zlk (vp_nar_int _) G (m14_1, f14_1) [0, 1, 2, 3] rfl rfl (Or.inr rfl) (lk_endC hB (by decide) hx14_0.1.1 hx14_0.1.2 (Or.inr (by first | omega | (dsimp only; omega))) hx14_0.2.1 hx14_0.2.2) dX10_nextLook_61
      · have fc_3 := j_nle (a := n14_6) (b := 1) (by omega) (by omega) c_3
        have hpp : 1 ≤ popN x3 := by have q := lkB_le (T := (fun a => topM x3 (fun g => reachP (ar 0) (nI g) (nI (a / 10)) (nI (a % 10))) 10)) (z := popN x3 + 1) n14_7; rw [← hx14_0.2.2] at q; omega
        refine lv_aload_n zx zb dX10_nextLook_27 rfl (lv_at hl 3 rfl) ?_
        refine lv_aload_n zx zb dX10_nextLook_28 rfl (lv_at hl 4 rfl) ?_
        refine lv_iload_n zx zb dX10_nextLook_29 rfl (lv_at hl 5 rfl) ?_
        refine lv_iload_n zx zb dX10_nextLook_30 rfl (lv_at hl 6 rfl) ?_
        refine lv_iload zx zb dX10_nextLook_31 (lv_at hl 0 rfl) ?_
        refine b_wi (cells' := 0) (slots' := 0) (wr := []) G rfl rfl [0, 1, 2, 3] [] rfl rfl rfl rfl (n_V (As := [.ref hr, .int 0, .int x3, .int (nI n14_7)]) (rest := []) (C := RX10) (T := TX10) (N := 14) (ci := 8) S G (x_mostAlike0 l X h0 nw sp xa la lb hc m14_1 f14_1 hr ar dr x3 n14_7 (by omega) (fun g hg => rng_l _ hg (by omega)) H.size) gX10_nextLook_X10_mostAlike rfl rfl rfl hdV_X10_mostAlike ⟨Nat.le_of_ble_eq_true rfl, Nat.le_of_ble_eq_true rfl⟩ [0, 1, 2, 3] rfl rfl 0 rfl rfl rfl hl.1 (Nat.le_of_ble_eq_true rfl) dX10_nextLook_33 ⟨Nat.le_of_ble_eq_true rfl, Nat.le_of_ble_eq_true rfl⟩) (fun r_4 u_4 H locs hp_4 G => ?_)
        obtain ⟨m_4a, f_4b⟩ := u_4
        have hq_4 := hp_4
        have G : wd X (va_A (@HAppend.hAppend va_W va_W va_W _ (xW h0 nw sp xa la lb) (@HAppend.hAppend va_W va_W va_W _ ([((xa 10), .inr (7, [.ref hc, .int tm])), (hc, .inl (X.2.1, 16, .inl tf))]) (rnV hr ar dr))) sz) (va_A (@HAppend.hAppend va_W va_W va_W _ (xW h0 nw sp xa la lb) (@HAppend.hAppend va_W va_W va_W _ ([((xa 10), .inr (7, [.ref hc, .int tm])), (hc, .inl (X.2.1, 16, .inl tf))]) (rnV hr ar dr))) sz) s (@HAppend.hAppend va_W va_W va_W _ (xW h0 nw sp xa la lb) (@HAppend.hAppend va_W va_W va_W _ ([((xa 10), .inr (7, [.ref hc, .int m_4a])), (hc, .inl (X.2.1, 16, .inl f_4b))]) (rnV hr ar dr))) H locs := G
        obtain ⟨w_4, ew_4, rfl⟩ : ∃ w : Nat, w = mstC _ _ 10 ∧ r_4 = nI w := ⟨_, rfl, hq_4⟩
        have hw_4 : w_4 ≤ 10 := by rw [ew_4]; exact mst10
        refine lv_istore (lv' := [(8, .int (nI w_4)), (7, .int (nI n14_7)), (6, .int (nI n14_6)), (5, .int x14_5), (0, .ref h0), (1, .ref hr), (2, .int 0), (3, .int x3), (4, .int 200)]) zx zb dX10_nextLook_36 hl (by decide) rfl (fun ls hl => ?_)
        refine lv_iload zx zb dX10_nextLook_38 (lv_at hl 0 rfl) ?_
        refine lv_iload zx zb dX10_nextLook_40 (lv_at hl 2 rfl) ?_
        refine lv_icmp_ge (tgt := 53) zx zb dX10_nextLook_42 (by decide) (fun c_5 => ?_) (fun c_5 => ?_)
        · have fc_5 := j_le (a := n14_6) (b := w_4) (by omega) (by omega) c_5
          refine lv_iinc (v := (nI (n14_7 + 1))) (lv' := [(7, .int (nI (n14_7 + 1))), (8, .int (nI w_4)), (6, .int (nI n14_6)), (5, .int x14_5), (0, .ref h0), (1, .ref hr), (2, .int 0), (3, .int x3), (4, .int 200)]) zx zb dX10_nextLook_53 hl (k := 1) rfl (nI_add n14_7 1) (by decide) rfl (fun ls hl => ?_)
          refine lv_goto (tgt := 14) zx zb dX10_nextLook_56 (by decide) ?_
          have hl := lv_sub hl (l' := [(7, .int (nI (n14_7 + 1))), (6, .int (nI n14_6)), (5, .int x14_5), (0, .ref h0), (1, .ref hr), (2, .int 0), (3, .int x3), (4, .int 200)]) [0, 2, 3, 4, 5, 6, 7, 8] rfl
          exact ih14 (n14_7 + 1) n14_6 x14_5 m_4a f_4b _ _ _ (by omega) ⟨⟨by omega, Or.inr hpp⟩, lkB_f hx14_0.2.1 hx14_0.2.2 (ew_4.trans mst_top) (by omega)⟩ (by omega) (by omega) G hl
        · have fc_5 := j_nle (a := n14_6) (b := w_4) (by omega) (by omega) c_5
          refine lv_iload zx zb dX10_nextLook_45 (lv_at hl 0 rfl) ?_
          refine lv_istore (lv' := [(6, .int (nI w_4)), (8, .int (nI w_4)), (7, .int (nI n14_7)), (5, .int x14_5), (0, .ref h0), (1, .ref hr), (2, .int 0), (3, .int x3), (4, .int 200)]) zx zb dX10_nextLook_47 hl (by decide) rfl (fun ls hl => ?_)
          refine lv_iload zx zb dX10_nextLook_49 (lv_at hl 2 rfl) ?_
          refine lv_istore (lv' := [(5, .int (nI n14_7)), (6, .int (nI w_4)), (8, .int (nI w_4)), (7, .int (nI n14_7)), (0, .ref h0), (1, .ref hr), (2, .int 0), (3, .int x3), (4, .int 200)]) zx zb dX10_nextLook_51 hl (by decide) rfl (fun ls hl => ?_)
          refine lv_iinc (v := (nI (n14_7 + 1))) (lv' := [(7, .int (nI (n14_7 + 1))), (5, .int (nI n14_7)), (6, .int (nI w_4)), (8, .int (nI w_4)), (0, .ref h0), (1, .ref hr), (2, .int 0), (3, .int x3), (4, .int 200)]) zx zb dX10_nextLook_53 hl (k := 3) rfl (nI_add n14_7 1) (by decide) rfl (fun ls hl => ?_)
          refine lv_goto (tgt := 14) zx zb dX10_nextLook_56 (by decide) ?_
          have hl := lv_sub hl (l' := [(7, .int (nI (n14_7 + 1))), (6, .int (nI w_4)), (5, .int (nI n14_7)), (0, .ref h0), (1, .ref hr), (2, .int 0), (3, .int x3), (4, .int 200)]) [0, 2, 1, 4, 5, 6, 7, 8] rfl
          exact ih14 (n14_7 + 1) w_4 (nI n14_7) m_4a f_4b _ _ _ (by omega) ⟨⟨by omega, Or.inr hpp⟩, lkB_t hx14_0.2.2 (ew_4.trans mst_top) (by omega)⟩ (by omega) (by omega) G hl
set_option maxHeartbeats 4000000 in
set_option maxRecDepth 100000 in
theorem x_nextLook1 (l : Launch) (X : EX) (h0 : Nat) (nw : Nat) (sp : Nat) (xa : Nat → Nat) (la : Int64) (lb : Int64) (hc : Nat) (tm : Int32) (tf : Nat → Int32) (hr : Nat) (ar : Nat → Int32) (dr : Nat → Int32) (x3 : Int32) (hB : ∃ b : Nat, b < 1024 ∧ x3 = nI b) (hl0 : (0 : Int32) ≤ ar 1) (sz : Nat) : Met l yX10_nextLook wsX10_nextLook ({ frames := 3, cells := 0, slots := 0, locals := 74 } : Room) (pE X [.ref h0, .ref hr, .int 1, .int x3, .int 200] (@HAppend.hAppend va_W va_W va_W _ (xW h0 nw sp xa la lb) (@HAppend.hAppend va_W va_W va_W _ ([((xa 10), .inr (7, [.ref hc, .int tm])), (hc, .inl (X.2.1, 16, .inl tf))]) (rnV hr ar dr))) sz) (qI (fun (r : Int32) (u : (Int32) × (Nat → Int32)) => (r = looF x3 (ar 1))) X (fun (u : (Int32) × (Nat → Int32)) => @HAppend.hAppend va_W va_W va_W _ (xW h0 nw sp xa la lb) (@HAppend.hAppend va_W va_W va_W _ ([((xa 10), .inr (7, [.ref hc, .int u.1])), (hc, .inl (X.2.1, 16, .inl u.2))]) (rnV hr ar dr))) (@HAppend.hAppend va_W va_W va_W _ (xW h0 nw sp xa la lb) (@HAppend.hAppend va_W va_W va_W _ ([((xa 10), .inr (7, [.ref hc, .int tm])), (hc, .inl (X.2.1, 16, .inl tf))]) (rnV hr ar dr))) sz) 0 0 (va_A (@HAppend.hAppend va_W va_W va_W _ (xW h0 nw sp xa la lb) (@HAppend.hAppend va_W va_W va_W _ ([((xa 10), .inr (7, [.ref hc, .int tm])), (hc, .inl (X.2.1, 16, .inl tf))]) (rnV hr ar dr))) sz) := by
  refine mk_met (B := (va_A (@HAppend.hAppend va_W va_W va_W _ (xW h0 nw sp xa la lb) (@HAppend.hAppend va_W va_W va_W _ ([((xa 10), .inr (7, [.ref hc, .int tm])), (hc, .inl (X.2.1, 16, .inl tf))]) (rnV hr ar dr))) sz)) (A := (va_A (@HAppend.hAppend va_W va_W va_W _ (xW h0 nw sp xa la lb) (@HAppend.hAppend va_W va_W va_W _ ([((xa 10), .inr (7, [.ref hc, .int tm])), (hc, .inl (X.2.1, 16, .inl tf))]) (rnV hr ar dr))) sz)) (cc := cX10_nextLook) (maxL := 9) (ret := (some .int)) (by decide) rfl (Nat.le_of_ble_eq_true rfl) k_w k_a (fun p e s m below meth c S zr zlk znm zsz G ls hl => ?_)
  have S : CallFix p m c cX10_nextLook 9 s _ wsX10_nextLook RX10 := S
  have zx := S.1
  have zb := S.2.1
  have hl : lv_has ls 9 [(0, .ref h0), (1, .ref hr), (2, .int 1), (3, .int x3), (4, .int 200)] := hl
  refine lv_iconst (v := (-1)) zx zb dX10_nextLook_0 (by decide) ?_
  refine lv_istore (lv' := [(5, .int (-1)), (0, .ref h0), (1, .ref hr), (2, .int 1), (3, .int x3), (4, .int 200)]) zx zb dX10_nextLook_1 hl (by decide) rfl (fun ls hl => ?_)
  refine lv_iload_n zx zb dX10_nextLook_3 rfl (lv_at hl 4 rfl) ?_
  refine o_ri (cells' := 0) (slots' := 0) G rfl rfl (n_S (As := [.int x3]) (rest := []) S G (x_bitCount l X x3 s.heap.size) gX10_nextLook_J6_bitCount_0f7a4 rfl rfl rfl hdS_J6_bitCount_0f7a4 ⟨Nat.le_of_ble_eq_true rfl, Nat.le_of_ble_eq_true rfl⟩ [] rfl rfl rfl hl.1 (Nat.le_of_ble_eq_true rfl) dX10_nextLook_4 ⟨Nat.le_of_ble_eq_true rfl, Nat.le_of_ble_eq_true rfl⟩) (fun r_1 u_1 H locs hp_1 G => ?_)
  have G : wd X (va_A (@HAppend.hAppend va_W va_W va_W _ (xW h0 nw sp xa la lb) (@HAppend.hAppend va_W va_W va_W _ ([((xa 10), .inr (7, [.ref hc, .int tm])), (hc, .inl (X.2.1, 16, .inl tf))]) (rnV hr ar dr))) sz) (va_A (@HAppend.hAppend va_W va_W va_W _ (xW h0 nw sp xa la lb) (@HAppend.hAppend va_W va_W va_W _ ([((xa 10), .inr (7, [.ref hc, .int tm])), (hc, .inl (X.2.1, 16, .inl tf))]) (rnV hr ar dr))) sz) s (@HAppend.hAppend va_W va_W va_W _ (xW h0 nw sp xa la lb) (@HAppend.hAppend va_W va_W va_W _ ([((xa 10), .inr (7, [.ref hc, .int tm])), (hc, .inl (X.2.1, 16, .inl tf))]) (rnV hr ar dr))) H locs := G
  obtain rfl := hp_1
  refine k_it (pop_bc hB) ?_
  have hpl := pop_le (B := x3)
  refine lv_iconst (v := 1) zx zb dX10_nextLook_7 (by decide) ?_
  refine r_iadd (v := (nI ((popN x3) + 1))) S (nI_add (popN x3) 1) dX10_nextLook_8 ?_
  refine lv_istore (lv' := [(6, .int (nI ((popN x3) + 1))), (5, .int (-1)), (0, .ref h0), (1, .ref hr), (2, .int 1), (3, .int x3), (4, .int 200)]) zx zb dX10_nextLook_9 hl (by decide) rfl (fun ls hl => ?_)
  refine lv_iconst (v := 0) zx zb dX10_nextLook_11 (by decide) ?_
  refine lv_istore (lv' := [(7, .int 0), (6, .int (nI ((popN x3) + 1))), (5, .int (-1)), (0, .ref h0), (1, .ref hr), (2, .int 1), (3, .int x3), (4, .int 200)]) zx zb dX10_nextLook_12 hl (by decide) rfl (fun ls hl => ?_)
  refine k_loop (P := ∀ (zm : Nat) (n14_7 : Nat) (n14_6 : Nat) (x14_5 : Int32) (m14_1 : Int32) (f14_1 : Nat → Int32) (H : Heap) (locs : List Loc) (ls : Array Slot), ((200 - n14_7) < zm) → ((n14_7 ≤ 200 ∧ (n14_7 = 0 ∨ 1 ≤ popN x3)) ∧ x14_5 = (lkB (fun a => topM x3 (fun g => reachP (nI g) (ar 1) (nI (a / 10)) (nI (a % 10))) 10) (popN x3 + 1) n14_7).1 ∧ n14_6 = (lkB (fun a => topM x3 (fun g => reachP (nI g) (ar 1) (nI (a / 10)) (nI (a % 10))) 10) (popN x3 + 1) n14_7).2) → (n14_7 ≤ 200) → (n14_6 ≤ 11) → wd X (va_A (@HAppend.hAppend va_W va_W va_W _ (xW h0 nw sp xa la lb) (@HAppend.hAppend va_W va_W va_W _ ([((xa 10), .inr (7, [.ref hc, .int tm])), (hc, .inl (X.2.1, 16, .inl tf))]) (rnV hr ar dr))) sz) (va_A (@HAppend.hAppend va_W va_W va_W _ (xW h0 nw sp xa la lb) (@HAppend.hAppend va_W va_W va_W _ ([((xa 10), .inr (7, [.ref hc, .int tm])), (hc, .inl (X.2.1, 16, .inl tf))]) (rnV hr ar dr))) sz) s (@HAppend.hAppend va_W va_W va_W _ (xW h0 nw sp xa la lb) (@HAppend.hAppend va_W va_W va_W _ ([((xa 10), .inr (7, [.ref hc, .int m14_1])), (hc, .inl (X.2.1, 16, .inl f14_1))]) (rnV hr ar dr))) H locs → lv_has ls 9 [(7, .int (nI n14_7)), (6, .int (nI n14_6)), (5, .int x14_5), (0, .ref h0), (1, .ref hr), (2, .int 1), (3, .int x3), (4, .int 200)] → W p l e _ s m _ below meth c H locs _ _ _ (F0 m 14 ls [])) (fun loop => loop ((200 - 0) + 1) 0 ((popN x3) + 1) (-1) tm tf _ _ _ (by omega) ⟨⟨by omega, Or.inl rfl⟩, rfl, rfl⟩ (by omega) (by omega) G hl) ?_
  intro zm
  induction zm with
  | zero => intro n14_7 n14_6 x14_5 m14_1 f14_1 H locs ls zz q_x0 q_hk_n14_7 q_hk_n14_6 _ _; exact absurd zz (by omega)
  | succ zm ih14 =>
    intro n14_7 n14_6 x14_5 m14_1 f14_1 H locs ls zm_14 hx14_0 hk_n14_7 hk_n14_6 G hl
    refine lv_iload zx zb dX10_nextLook_14 (lv_at hl 0 rfl) ?_
    refine lv_iload zx zb dX10_nextLook_16 (lv_at hl 7 rfl) ?_
    refine lv_icmp_ge (tgt := 59) zx zb dX10_nextLook_18 (by decide) (fun c_2 => ?_) (fun c_2 => ?_)
    · have fc_2 := j_le (a := 200) (b := n14_7) (by omega) (by omega) c_2
      refine lv_iload zx zb dX10_nextLook_59 (lv_at hl 2 rfl) ?_
      exact e_int S zr zlk (vp_nar_int _) G (m14_1, f14_1) [0, 1, 2, 3] rfl rfl (Or.inr rfl) (lk_endC hB (by decide) hx14_0.1.1 hx14_0.1.2 (Or.inl (by first | omega | (dsimp only; omega))) hx14_0.2.1 hx14_0.2.2) dX10_nextLook_61
    · have fc_2 := j_nle (a := 200) (b := n14_7) (by omega) (by omega) c_2
      refine lv_iload zx zb dX10_nextLook_21 (lv_at hl 1 rfl) ?_
      refine lv_iconst (v := 1) zx zb dX10_nextLook_23 (by decide) ?_
      refine lv_icmp_le (tgt := 59) zx zb dX10_nextLook_24 (by decide) (fun c_3 => ?_) (fun c_3 => ?_)
      · have fc_3 := j_le (a := n14_6) (b := 1) (by omega) (by omega) c_3
        refine lv_iload zx zb dX10_nextLook_59 (lv_at hl 2 rfl) ?_
        exact e_int S zr zlk (vp_nar_int _) G (m14_1, f14_1) [0, 1, 2, 3] rfl rfl (Or.inr rfl) (lk_endC hB (by decide) hx14_0.1.1 hx14_0.1.2 (Or.inr (by first | omega | (dsimp only; omega))) hx14_0.2.1 hx14_0.2.2) dX10_nextLook_61
      · have fc_3 := j_nle (a := n14_6) (b := 1) (by omega) (by omega) c_3
        have hpp : 1 ≤ popN x3 := by have q := lkB_le (T := (fun a => topM x3 (fun g => reachP (nI g) (ar 1) (nI (a / 10)) (nI (a % 10))) 10)) (z := popN x3 + 1) n14_7; rw [← hx14_0.2.2] at q; omega
        refine lv_aload_n zx zb dX10_nextLook_27 rfl (lv_at hl 3 rfl) ?_
        refine lv_aload_n zx zb dX10_nextLook_28 rfl (lv_at hl 4 rfl) ?_
        refine lv_iload_n zx zb dX10_nextLook_29 rfl (lv_at hl 5 rfl) ?_
        refine lv_iload_n zx zb dX10_nextLook_30 rfl (lv_at hl 6 rfl) ?_
        refine lv_iload zx zb dX10_nextLook_31 (lv_at hl 0 rfl) ?_
        refine b_wi (cells' := 0) (slots' := 0) (wr := []) G rfl rfl [0, 1, 2, 3] [] rfl rfl rfl rfl (n_V (As := [.ref hr, .int 1, .int x3, .int (nI n14_7)]) (rest := []) (C := RX10) (T := TX10) (N := 14) (ci := 8) S G (x_mostAlike1 l X h0 nw sp xa la lb hc m14_1 f14_1 hr ar dr x3 n14_7 (by omega) (fun g hg => rng_k hl0 hg (by omega)) H.size) gX10_nextLook_X10_mostAlike rfl rfl rfl hdV_X10_mostAlike ⟨Nat.le_of_ble_eq_true rfl, Nat.le_of_ble_eq_true rfl⟩ [0, 1, 2, 3] rfl rfl 0 rfl rfl rfl hl.1 (Nat.le_of_ble_eq_true rfl) dX10_nextLook_33 ⟨Nat.le_of_ble_eq_true rfl, Nat.le_of_ble_eq_true rfl⟩) (fun r_4 u_4 H locs hp_4 G => ?_)
        obtain ⟨m_4a, f_4b⟩ := u_4
        have hq_4 := hp_4
        have G : wd X (va_A (@HAppend.hAppend va_W va_W va_W _ (xW h0 nw sp xa la lb) (@HAppend.hAppend va_W va_W va_W _ ([((xa 10), .inr (7, [.ref hc, .int tm])), (hc, .inl (X.2.1, 16, .inl tf))]) (rnV hr ar dr))) sz) (va_A (@HAppend.hAppend va_W va_W va_W _ (xW h0 nw sp xa la lb) (@HAppend.hAppend va_W va_W va_W _ ([((xa 10), .inr (7, [.ref hc, .int tm])), (hc, .inl (X.2.1, 16, .inl tf))]) (rnV hr ar dr))) sz) s (@HAppend.hAppend va_W va_W va_W _ (xW h0 nw sp xa la lb) (@HAppend.hAppend va_W va_W va_W _ ([((xa 10), .inr (7, [.ref hc, .int m_4a])), (hc, .inl (X.2.1, 16, .inl f_4b))]) (rnV hr ar dr))) H locs := G
        obtain ⟨w_4, ew_4, rfl⟩ : ∃ w : Nat, w = mstC _ _ 10 ∧ r_4 = nI w := ⟨_, rfl, hq_4⟩
        have hw_4 : w_4 ≤ 10 := by rw [ew_4]; exact mst10
        refine lv_istore (lv' := [(8, .int (nI w_4)), (7, .int (nI n14_7)), (6, .int (nI n14_6)), (5, .int x14_5), (0, .ref h0), (1, .ref hr), (2, .int 1), (3, .int x3), (4, .int 200)]) zx zb dX10_nextLook_36 hl (by decide) rfl (fun ls hl => ?_)
        refine lv_iload zx zb dX10_nextLook_38 (lv_at hl 0 rfl) ?_
        refine lv_iload zx zb dX10_nextLook_40 (lv_at hl 2 rfl) ?_
        refine lv_icmp_ge (tgt := 53) zx zb dX10_nextLook_42 (by decide) (fun c_5 => ?_) (fun c_5 => ?_)
        · have fc_5 := j_le (a := n14_6) (b := w_4) (by omega) (by omega) c_5
          refine lv_iinc (v := (nI (n14_7 + 1))) (lv' := [(7, .int (nI (n14_7 + 1))), (8, .int (nI w_4)), (6, .int (nI n14_6)), (5, .int x14_5), (0, .ref h0), (1, .ref hr), (2, .int 1), (3, .int x3), (4, .int 200)]) zx zb dX10_nextLook_53 hl (k := 1) rfl (nI_add n14_7 1) (by decide) rfl (fun ls hl => ?_)
          refine lv_goto (tgt := 14) zx zb dX10_nextLook_56 (by decide) ?_
          have hl := lv_sub hl (l' := [(7, .int (nI (n14_7 + 1))), (6, .int (nI n14_6)), (5, .int x14_5), (0, .ref h0), (1, .ref hr), (2, .int 1), (3, .int x3), (4, .int 200)]) [0, 2, 3, 4, 5, 6, 7, 8] rfl
          exact ih14 (n14_7 + 1) n14_6 x14_5 m_4a f_4b _ _ _ (by omega) ⟨⟨by omega, Or.inr hpp⟩, lkB_f hx14_0.2.1 hx14_0.2.2 (ew_4.trans mst_top) (by omega)⟩ (by omega) (by omega) G hl
        · have fc_5 := j_nle (a := n14_6) (b := w_4) (by omega) (by omega) c_5
          refine lv_iload zx zb dX10_nextLook_45 (lv_at hl 0 rfl) ?_
          refine lv_istore (lv' := [(6, .int (nI w_4)), (8, .int (nI w_4)), (7, .int (nI n14_7)), (5, .int x14_5), (0, .ref h0), (1, .ref hr), (2, .int 1), (3, .int x3), (4, .int 200)]) zx zb dX10_nextLook_47 hl (by decide) rfl (fun ls hl => ?_)
          refine lv_iload zx zb dX10_nextLook_49 (lv_at hl 2 rfl) ?_
          refine lv_istore (lv' := [(5, .int (nI n14_7)), (6, .int (nI w_4)), (8, .int (nI w_4)), (7, .int (nI n14_7)), (0, .ref h0), (1, .ref hr), (2, .int 1), (3, .int x3), (4, .int 200)]) zx zb dX10_nextLook_51 hl (by decide) rfl (fun ls hl => ?_)
          refine lv_iinc (v := (nI (n14_7 + 1))) (lv' := [(7, .int (nI (n14_7 + 1))), (5, .int (nI n14_7)), (6, .int (nI w_4)), (8, .int (nI w_4)), (0, .ref h0), (1, .ref hr), (2, .int 1), (3, .int x3), (4, .int 200)]) zx zb dX10_nextLook_53 hl (k := 3) rfl (nI_add n14_7 1) (by decide) rfl (fun ls hl => ?_)
          refine lv_goto (tgt := 14) zx zb dX10_nextLook_56 (by decide) ?_
          have hl := lv_sub hl (l' := [(7, .int (nI (n14_7 + 1))), (6, .int (nI w_4)), (5, .int (nI n14_7)), (0, .ref h0), (1, .ref hr), (2, .int 1), (3, .int x3), (4, .int 200)]) [0, 2, 1, 4, 5, 6, 7, 8] rfl
          exact ih14 (n14_7 + 1) w_4 (nI n14_7) m_4a f_4b _ _ _ (by omega) ⟨⟨by omega, Or.inr hpp⟩, lkB_t hx14_0.2.2 (ew_4.trans mst_top) (by omega)⟩ (by omega) (by omega) G hl
