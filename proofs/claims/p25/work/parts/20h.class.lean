set_option maxRecDepth 20000 in
theorem ggX10_look_X10_nextLook : GoodIn wsX10_look wsX10_nextLook := goodIn_r _ [35, 36, 37, 38, 39, 40, 41, 42, 43, 44, 45, 6, 46, 47, 48, 49, 50, 51, 52, 53, 54, 55, 56, 57, 58, 59, 60, 61, 62, 63, 64, 29, 30, 31, 65, 66, 67, 68, 69, 70, 71, 72, 73, 74, 75, 76, 77, 78, 79, 80, 81, 82, 83, 84, 85, 86, 87, 88, 89, 90, 104, 105, 106, 107, 108, 109, 110, 111, 112, 113] rfl (by decide +kernel)
set_option maxRecDepth 20000 in
theorem gX10_look_X10_nextLook : GoodIn wsX10_look (wsV RX10 208 RX10 yX10_nextLook wsX10_nextLook) := goodIn_app (goodIn_of _ (by decide +kernel)) ggX10_look_X10_nextLook
set_option maxRecDepth 20000 in
theorem ggX10_look_X10_refuse : GoodIn wsX10_look wsX10_refuse := goodIn_r _ [12, 13, 77, 78, 79, 80, 81, 82, 83, 84, 85, 86, 87, 88, 89, 90] rfl (by decide +kernel)
set_option maxRecDepth 20000 in
theorem gX10_look_X10_refuse : GoodIn wsX10_look (wsV RX10 83 RX10 yX10_refuse wsX10_refuse) := goodIn_app (goodIn_of _ (by decide +kernel)) ggX10_look_X10_refuse
set_option maxRecDepth 20000 in
theorem ggX10_look_X10_there : GoodIn wsX10_look wsX10_there := goodIn_r _ [7, 1, 8, 77, 78, 79, 80, 81, 82, 83, 84, 85, 86, 87, 88, 89, 90, 91, 92, 93, 94, 95, 96, 97, 98] rfl (by decide +kernel)
set_option maxRecDepth 20000 in
theorem gX10_look_X10_there : GoodIn wsX10_look (wsV RX10 123 RX10 yX10_there wsX10_there) := goodIn_app (goodIn_of _ (by decide +kernel)) ggX10_look_X10_there
set_option maxRecDepth 20000 in
theorem ggX10_look_X5_kindsThatFit : GoodIn wsX10_look wsX5_kindsThatFit := goodIn_r _ [18, 19, 20, 21, 22, 23, 24, 25, 26, 27, 28, 29, 30, 31, 91, 92, 93, 94, 95, 96, 97, 98, 99, 100, 101, 102, 103] rfl (by decide +kernel)
set_option maxRecDepth 20000 in
theorem gX10_look_X5_kindsThatFit : GoodIn wsX10_look (wsV RX10 218 RX5 yX5_kindsThatFit wsX5_kindsThatFit) := goodIn_app (goodIn_of _ (by decide +kernel)) ggX10_look_X5_kindsThatFit
set_option maxRecDepth 20000 in
theorem ggX10_mostAlike_X10_farBy : GoodIn wsX10_mostAlike wsX10_farBy := goodIn_r _ [16, 17, 18, 19, 20, 21, 22, 23, 24, 25, 26, 51, 52, 53, 54, 55, 56, 57, 58] rfl (by decide +kernel)
set_option maxRecDepth 20000 in
theorem gX10_mostAlike_X10_farBy : GoodIn wsX10_mostAlike (va_wsS RX10 311 yX10_farBy wsX10_farBy) := goodIn_app (goodIn_of _ (by decide +kernel)) ggX10_mostAlike_X10_farBy
set_option maxRecDepth 20000 in
theorem ggX10_mostAlike_X10_hasBit : GoodIn wsX10_mostAlike wsX10_hasBit := goodIn_r _ [13] rfl (by decide +kernel)
set_option maxRecDepth 20000 in
theorem gX10_mostAlike_X10_hasBit : GoodIn wsX10_mostAlike (va_wsS RX10 205 yX10_hasBit wsX10_hasBit) := goodIn_app (goodIn_of _ (by decide +kernel)) ggX10_mostAlike_X10_hasBit
set_option maxRecDepth 20000 in
theorem ggX10_mostAlike_X9_restart : GoodIn wsX10_mostAlike wsX9_restart := goodIn_r _ [7, 8, 9, 49, 50] rfl (by decide +kernel)
set_option maxRecDepth 20000 in
theorem gX10_mostAlike_X9_restart : GoodIn wsX10_mostAlike (wsV RX10 309 RX9 yX9_restart wsX9_restart) := goodIn_app (goodIn_of _ (by decide +kernel)) ggX10_mostAlike_X9_restart
set_option maxRecDepth 20000 in
theorem ggX10_mostAlike_X9_see : GoodIn wsX10_mostAlike wsX9_see := goodIn_r _ [30, 8, 9, 31, 32, 33, 34, 49, 50] rfl (by decide +kernel)
set_option maxRecDepth 20000 in
theorem gX10_mostAlike_X9_see : GoodIn wsX10_mostAlike (wsV RX10 314 RX9 yX9_see wsX9_see) := goodIn_app (goodIn_of _ (by decide +kernel)) ggX10_mostAlike_X9_see
set_option maxRecDepth 20000 in
theorem ggX10_nextLook_J6_bitCount_0f7a4 : GoodIn wsX10_nextLook wsJ6_bitCount_0f7a4 := goodIn_r _ [4, 5, 6, 7] rfl (by decide +kernel)
set_option maxRecDepth 20000 in
theorem gX10_nextLook_J6_bitCount_0f7a4 : GoodIn wsX10_nextLook (va_wsS RX10 200 yJ6_bitCount_0f7a4 wsJ6_bitCount_0f7a4) := goodIn_app (goodIn_of _ (by decide +kernel)) ggX10_nextLook_J6_bitCount_0f7a4
set_option maxRecDepth 20000 in
theorem ggX10_nextLook_X10_mostAlike : GoodIn wsX10_nextLook wsX10_mostAlike := goodIn_r _ [12, 13, 14, 15, 16, 17, 18, 19, 20, 21, 22, 23, 11, 24, 25, 26, 27, 28, 29, 30, 31, 32, 33, 34, 35, 36, 37, 38, 39, 40, 41, 42, 43, 44, 45, 46, 47, 48, 49, 50, 51, 52, 53, 54, 55, 56, 57, 58, 59, 60, 61, 62, 63, 64, 65, 66, 67, 68, 69] rfl (by decide +kernel)
set_option maxRecDepth 20000 in
theorem gX10_nextLook_X10_mostAlike : GoodIn wsX10_nextLook (wsV RX10 306 RX10 yX10_mostAlike wsX10_mostAlike) := goodIn_app (goodIn_of _ (by decide +kernel)) ggX10_nextLook_X10_mostAlike
set_option maxRecDepth 20000 in
theorem ggX10_races_X10_refuse : GoodIn wsX10_races wsX10_refuse := goodIn_r _ [21, 22, 70, 71, 72, 73, 74, 75, 76, 77, 78, 79, 80, 81, 82, 83] rfl (by decide +kernel)
set_option maxRecDepth 20000 in
theorem gX10_races_X10_refuse : GoodIn wsX10_races (wsV RX10 83 RX10 yX10_refuse wsX10_refuse) := goodIn_app (goodIn_of _ (by decide +kernel)) ggX10_races_X10_refuse
set_option maxRecDepth 20000 in
theorem ggX10_races_X10_within : GoodIn wsX10_races wsX10_within := goodIn_r _ [17] rfl (by decide +kernel)
set_option maxRecDepth 20000 in
theorem gX10_races_X10_within : GoodIn wsX10_races (va_wsS RX10 79 yX10_within wsX10_within) := goodIn_app (goodIn_of _ (by decide +kernel)) ggX10_races_X10_within
set_option maxRecDepth 20000 in
theorem ggX10_races_X5_copyLine : GoodIn wsX10_races wsX5_copyLine := goodIn_r _ [27, 28, 29, 30, 31, 32, 33, 34, 35, 36, 37, 38, 39, 40, 41, 42, 43, 44, 84, 85, 86, 87, 88, 89, 90, 91, 92, 93, 94, 95, 96, 97, 98, 99] rfl (by decide +kernel)
set_option maxRecDepth 20000 in
theorem gX10_races_X5_copyLine : GoodIn wsX10_races (wsV RX10 256 RX5 yX5_copyLine wsX5_copyLine) := goodIn_app (goodIn_of _ (by decide +kernel)) ggX10_races_X5_copyLine
set_option maxRecDepth 20000 in
theorem ggX10_races_X5_goOn : GoodIn wsX10_races wsX5_goOn := goodIn_r _ [48, 29, 30, 31, 28, 49, 50, 51, 35, 52, 43, 37, 38, 40, 39, 42, 41, 44, 53, 54, 55, 56, 57, 58, 59, 60, 61, 62, 63, 64, 84, 85, 86, 87, 88, 89, 90, 91, 92, 93, 94, 95, 96, 97, 98, 99] rfl (by decide +kernel)
set_option maxRecDepth 20000 in
theorem gX10_races_X5_goOn : GoodIn wsX10_races (wsV RX10 116 RX5 yX5_goOn wsX5_goOn) := goodIn_app (goodIn_of _ (by decide +kernel)) ggX10_races_X5_goOn
set_option maxRecDepth 20000 in
theorem ggX10_races_X5_homes : GoodIn wsX10_races wsX5_homes := goodIn_r _ [68, 30, 31, 69, 54, 55, 35, 56, 44, 84, 85, 86, 87, 88, 89, 90, 91, 92, 93, 94, 95, 96, 97, 98, 99] rfl (by decide +kernel)
set_option maxRecDepth 20000 in
theorem gX10_races_X5_homes : GoodIn wsX10_races (wsV RX10 119 RX5 yX5_homes wsX5_homes) := goodIn_app (goodIn_of _ (by decide +kernel)) ggX10_races_X5_homes
set_option maxRecDepth 20000 in
theorem ggX10_tell_X10_nextLook : GoodIn wsX10_tell wsX10_nextLook := goodIn_r _ [37, 38, 39, 40, 41, 42, 43, 44, 45, 46, 47, 6, 48, 49, 50, 51, 52, 53, 54, 55, 56, 57, 58, 59, 60, 61, 62, 63, 64, 65, 66, 31, 32, 33, 67, 68, 69, 70, 71, 72, 73, 74, 75, 76, 77, 78, 79, 80, 81, 82, 83, 84, 85, 86, 87, 88, 89, 90, 91, 92, 114, 115, 101, 102, 103, 104, 105, 106, 107, 108] rfl (by decide +kernel)
set_option maxRecDepth 20000 in
theorem gX10_tell_X10_nextLook : GoodIn wsX10_tell (wsV RX10 208 RX10 yX10_nextLook wsX10_nextLook) := goodIn_app (goodIn_of _ (by decide +kernel)) ggX10_tell_X10_nextLook
set_option maxRecDepth 20000 in
theorem ggX10_tell_X10_refuse : GoodIn wsX10_tell wsX10_refuse := goodIn_r _ [12, 13, 79, 80, 81, 82, 83, 84, 85, 86, 87, 88, 89, 90, 91, 92] rfl (by decide +kernel)
set_option maxRecDepth 20000 in
theorem gX10_tell_X10_refuse : GoodIn wsX10_tell (wsV RX10 83 RX10 yX10_refuse wsX10_refuse) := goodIn_app (goodIn_of _ (by decide +kernel)) ggX10_tell_X10_refuse
set_option maxRecDepth 20000 in
theorem ggX10_tell_X10_there : GoodIn wsX10_tell wsX10_there := goodIn_r _ [7, 1, 8, 79, 80, 81, 82, 83, 84, 85, 86, 87, 88, 89, 90, 91, 92, 93, 94, 95, 96, 97, 98, 99, 100] rfl (by decide +kernel)
set_option maxRecDepth 20000 in
theorem gX10_tell_X10_there : GoodIn wsX10_tell (wsV RX10 123 RX10 yX10_there wsX10_there) := goodIn_app (goodIn_of _ (by decide +kernel)) ggX10_tell_X10_there
set_option maxRecDepth 20000 in
theorem ggX10_tell_X5_legsThatFit : GoodIn wsX10_tell wsX5_legsThatFit := goodIn_r _ [18, 19, 20, 21, 22, 23, 24, 25, 26, 27, 28, 29, 30, 31, 32, 33, 93, 94, 95, 96, 97, 98, 99, 100, 101, 102, 103, 104, 105, 106, 107, 108, 109, 110, 111, 112, 113] rfl (by decide +kernel)
set_option maxRecDepth 20000 in
theorem gX10_tell_X5_legsThatFit : GoodIn wsX10_tell (wsV RX10 197 RX5 yX5_legsThatFit wsX5_legsThatFit) := goodIn_app (goodIn_of _ (by decide +kernel)) ggX10_tell_X5_legsThatFit
theorem dX10_look_0 : decode cX10_look 0 = .ok (.aload_n 0, 1) := by decide +kernel
theorem dX10_look_1 : decode cX10_look 1 = .ok (.iload_n 1, 1) := by decide +kernel
theorem dX10_look_11 : decode cX10_look 11 = .ok (.invokevirtual 83, 3) := by decide +kernel
theorem dX10_look_14 : decode cX10_look 14 = .ok (.ireturn, 1) := by decide +kernel
theorem dX10_look_15 : decode cX10_look 15 = .ok (.aload_n 0, 1) := by decide +kernel
theorem dX10_look_16 : decode cX10_look 16 = .ok (.aload_n 0, 1) := by decide +kernel
theorem dX10_look_17 : decode cX10_look 17 = .ok (.getfield 10, 3) := by decide +kernel
theorem dX10_look_2 : decode cX10_look 2 = .ok (.invokevirtual 123, 3) := by decide +kernel
theorem dX10_look_20 : decode cX10_look 20 = .ok (.getfield 126, 3) := by decide +kernel
theorem dX10_look_23 : decode cX10_look 23 = .ok (.iload_n 1, 1) := by decide +kernel
theorem dX10_look_24 : decode cX10_look 24 = .ok (.aaload, 1) := by decide +kernel
theorem dX10_look_25 : decode cX10_look 25 = .ok (.iconst 1, 1) := by decide +kernel
theorem dX10_look_26 : decode cX10_look 26 = .ok (.aload_n 0, 1) := by decide +kernel
theorem dX10_look_27 : decode cX10_look 27 = .ok (.getfield 10, 3) := by decide +kernel
theorem dX10_look_30 : decode cX10_look 30 = .ok (.iload_n 1, 1) := by decide +kernel
theorem dX10_look_31 : decode cX10_look 31 = .ok (.invokevirtual 218, 3) := by decide +kernel
theorem dX10_look_34 : decode cX10_look 34 = .ok (.sipush 200, 3) := by decide +kernel
theorem dX10_look_37 : decode cX10_look 37 = .ok (.invokevirtual 208, 3) := by decide +kernel
theorem dX10_look_40 : decode cX10_look 40 = .ok (.ireturn, 1) := by decide +kernel
theorem dX10_look_5 : decode cX10_look 5 = .ok (.ifCond .ne 10, 3) := by decide +kernel
theorem dX10_look_8 : decode cX10_look 8 = .ok (.aload_n 0, 1) := by decide +kernel
theorem dX10_look_9 : decode cX10_look 9 = .ok (.bipush (-2), 2) := by decide +kernel
theorem dX10_mostAlike_0 : decode cX10_mostAlike 0 = .ok (.aload_n 0, 1) := by decide +kernel
theorem dX10_mostAlike_1 : decode cX10_mostAlike 1 = .ok (.getfield 58, 3) := by decide +kernel
theorem dX10_mostAlike_10 : decode cX10_mostAlike 10 = .ok (.iload 5, 2) := by decide +kernel
theorem dX10_mostAlike_12 : decode cX10_mostAlike 12 = .ok (.bipush 9, 2) := by decide +kernel
theorem dX10_mostAlike_14 : decode cX10_mostAlike 14 = .ok (.if_icmp .gt 34, 3) := by decide +kernel
theorem dX10_mostAlike_17 : decode cX10_mostAlike 17 = .ok (.iload_n 3, 1) := by decide +kernel
theorem dX10_mostAlike_18 : decode cX10_mostAlike 18 = .ok (.iload 5, 2) := by decide +kernel
theorem dX10_mostAlike_20 : decode cX10_mostAlike 20 = .ok (.invokestatic 205, 3) := by decide +kernel
theorem dX10_mostAlike_23 : decode cX10_mostAlike 23 = .ok (.ifCond .eq 19, 3) := by decide +kernel
theorem dX10_mostAlike_26 : decode cX10_mostAlike 26 = .ok (.aload_n 0, 1) := by decide +kernel
theorem dX10_mostAlike_27 : decode cX10_mostAlike 27 = .ok (.getfield 58, 3) := by decide +kernel
theorem dX10_mostAlike_30 : decode cX10_mostAlike 30 = .ok (.aload_n 1, 1) := by decide +kernel
theorem dX10_mostAlike_31 : decode cX10_mostAlike 31 = .ok (.iload_n 2, 1) := by decide +kernel
theorem dX10_mostAlike_32 : decode cX10_mostAlike 32 = .ok (.iload 5, 2) := by decide +kernel
theorem dX10_mostAlike_34 : decode cX10_mostAlike 34 = .ok (.iload 4, 2) := by decide +kernel
theorem dX10_mostAlike_36 : decode cX10_mostAlike 36 = .ok (.invokestatic 311, 3) := by decide +kernel
theorem dX10_mostAlike_39 : decode cX10_mostAlike 39 = .ok (.invokevirtual 314, 3) := by decide +kernel
theorem dX10_mostAlike_4 : decode cX10_mostAlike 4 = .ok (.invokevirtual 309, 3) := by decide +kernel
theorem dX10_mostAlike_42 : decode cX10_mostAlike 42 = .ok (.iinc 5 1, 3) := by decide +kernel
theorem dX10_mostAlike_45 : decode cX10_mostAlike 45 = .ok (.goto (-35), 3) := by decide +kernel
theorem dX10_mostAlike_48 : decode cX10_mostAlike 48 = .ok (.aload_n 0, 1) := by decide +kernel
theorem dX10_mostAlike_49 : decode cX10_mostAlike 49 = .ok (.getfield 58, 3) := by decide +kernel
theorem dX10_mostAlike_52 : decode cX10_mostAlike 52 = .ok (.getfield 317, 3) := by decide +kernel
theorem dX10_mostAlike_55 : decode cX10_mostAlike 55 = .ok (.ireturn, 1) := by decide +kernel
theorem dX10_mostAlike_7 : decode cX10_mostAlike 7 = .ok (.iconst 0, 1) := by decide +kernel
theorem dX10_mostAlike_8 : decode cX10_mostAlike 8 = .ok (.istore 5, 2) := by decide +kernel
theorem dX10_nextLook_0 : decode cX10_nextLook 0 = .ok (.iconst (-1), 1) := by decide +kernel
theorem dX10_nextLook_1 : decode cX10_nextLook 1 = .ok (.istore 5, 2) := by decide +kernel
theorem dX10_nextLook_11 : decode cX10_nextLook 11 = .ok (.iconst 0, 1) := by decide +kernel
theorem dX10_nextLook_12 : decode cX10_nextLook 12 = .ok (.istore 7, 2) := by decide +kernel
theorem dX10_nextLook_14 : decode cX10_nextLook 14 = .ok (.iload 7, 2) := by decide +kernel
theorem dX10_nextLook_16 : decode cX10_nextLook 16 = .ok (.iload 4, 2) := by decide +kernel
theorem dX10_nextLook_18 : decode cX10_nextLook 18 = .ok (.if_icmp .ge 41, 3) := by decide +kernel
theorem dX10_nextLook_21 : decode cX10_nextLook 21 = .ok (.iload 6, 2) := by decide +kernel
theorem dX10_nextLook_23 : decode cX10_nextLook 23 = .ok (.iconst 1, 1) := by decide +kernel
theorem dX10_nextLook_24 : decode cX10_nextLook 24 = .ok (.if_icmp .le 35, 3) := by decide +kernel
theorem dX10_nextLook_27 : decode cX10_nextLook 27 = .ok (.aload_n 0, 1) := by decide +kernel
theorem dX10_nextLook_28 : decode cX10_nextLook 28 = .ok (.aload_n 1, 1) := by decide +kernel
theorem dX10_nextLook_29 : decode cX10_nextLook 29 = .ok (.iload_n 2, 1) := by decide +kernel
theorem dX10_nextLook_3 : decode cX10_nextLook 3 = .ok (.iload_n 3, 1) := by decide +kernel
theorem dX10_nextLook_30 : decode cX10_nextLook 30 = .ok (.iload_n 3, 1) := by decide +kernel
theorem dX10_nextLook_31 : decode cX10_nextLook 31 = .ok (.iload 7, 2) := by decide +kernel
theorem dX10_nextLook_33 : decode cX10_nextLook 33 = .ok (.invokevirtual 306, 3) := by decide +kernel
theorem dX10_nextLook_36 : decode cX10_nextLook 36 = .ok (.istore 8, 2) := by decide +kernel
theorem dX10_nextLook_38 : decode cX10_nextLook 38 = .ok (.iload 8, 2) := by decide +kernel
theorem dX10_nextLook_4 : decode cX10_nextLook 4 = .ok (.invokestatic 200, 3) := by decide +kernel
theorem dX10_nextLook_40 : decode cX10_nextLook 40 = .ok (.iload 6, 2) := by decide +kernel
theorem dX10_nextLook_42 : decode cX10_nextLook 42 = .ok (.if_icmp .ge 11, 3) := by decide +kernel
theorem dX10_nextLook_45 : decode cX10_nextLook 45 = .ok (.iload 8, 2) := by decide +kernel
theorem dX10_nextLook_47 : decode cX10_nextLook 47 = .ok (.istore 6, 2) := by decide +kernel
theorem dX10_nextLook_49 : decode cX10_nextLook 49 = .ok (.iload 7, 2) := by decide +kernel
theorem dX10_nextLook_51 : decode cX10_nextLook 51 = .ok (.istore 5, 2) := by decide +kernel
theorem dX10_nextLook_53 : decode cX10_nextLook 53 = .ok (.iinc 7 1, 3) := by decide +kernel
theorem dX10_nextLook_56 : decode cX10_nextLook 56 = .ok (.goto (-42), 3) := by decide +kernel
theorem dX10_nextLook_59 : decode cX10_nextLook 59 = .ok (.iload 5, 2) := by decide +kernel
theorem dX10_nextLook_61 : decode cX10_nextLook 61 = .ok (.ireturn, 1) := by decide +kernel
theorem dX10_nextLook_7 : decode cX10_nextLook 7 = .ok (.iconst 1, 1) := by decide +kernel
theorem dX10_nextLook_8 : decode cX10_nextLook 8 = .ok (.iadd, 1) := by decide +kernel
theorem dX10_nextLook_9 : decode cX10_nextLook 9 = .ok (.istore 6, 2) := by decide +kernel
theorem dX10_races_0 : decode cX10_races 0 = .ok (.iload_n 1, 1) := by decide +kernel
theorem dX10_races_1 : decode cX10_races 1 = .ok (.iconst 0, 1) := by decide +kernel
theorem dX10_races_10 : decode cX10_races 10 = .ok (.iload_n 2, 1) := by decide +kernel
theorem dX10_races_102 : decode cX10_races 102 = .ok (.ldiv, 1) := by decide +kernel
theorem dX10_races_103 : decode cX10_races 103 = .ok (.ldc2_w 272, 3) := by decide +kernel
theorem dX10_races_106 : decode cX10_races 106 = .ok (.lrem, 1) := by decide +kernel
theorem dX10_races_107 : decode cX10_races 107 = .ok (.l2i, 1) := by decide +kernel
theorem dX10_races_108 : decode cX10_races 108 = .ok (.putfield 130, 3) := by decide +kernel
theorem dX10_races_11 : decode cX10_races 11 = .ok (.iconst 0, 1) := by decide +kernel
theorem dX10_races_111 : decode cX10_races 111 = .ok (.aload_n 0, 1) := by decide +kernel
theorem dX10_races_112 : decode cX10_races 112 = .ok (.getfield 16, 3) := by decide +kernel
theorem dX10_races_115 : decode cX10_races 115 = .ok (.invokevirtual 116, 3) := by decide +kernel
theorem dX10_races_118 : decode cX10_races 118 = .ok (.iinc 5 1, 3) := by decide +kernel
theorem dX10_races_12 : decode cX10_races 12 = .ok (.bipush 60, 2) := by decide +kernel
theorem dX10_races_121 : decode cX10_races 121 = .ok (.goto (-77), 3) := by decide +kernel
theorem dX10_races_124 : decode cX10_races 124 = .ok (.aload_n 0, 1) := by decide +kernel
theorem dX10_races_125 : decode cX10_races 125 = .ok (.getfield 16, 3) := by decide +kernel
theorem dX10_races_128 : decode cX10_races 128 = .ok (.invokevirtual 119, 3) := by decide +kernel
theorem dX10_races_131 : decode cX10_races 131 = .ok (.ireturn, 1) := by decide +kernel
theorem dX10_races_14 : decode cX10_races 14 = .ok (.invokestatic 79, 3) := by decide +kernel
theorem dX10_races_17 : decode cX10_races 17 = .ok (.ifCond .ne 10, 3) := by decide +kernel
theorem dX10_races_2 : decode cX10_races 2 = .ok (.ldc 255, 2) := by decide +kernel
theorem dX10_races_20 : decode cX10_races 20 = .ok (.aload_n 0, 1) := by decide +kernel
theorem dX10_races_21 : decode cX10_races 21 = .ok (.bipush (-2), 2) := by decide +kernel
theorem dX10_races_23 : decode cX10_races 23 = .ok (.invokevirtual 83, 3) := by decide +kernel
theorem dX10_races_26 : decode cX10_races 26 = .ok (.ireturn, 1) := by decide +kernel
theorem dX10_races_27 : decode cX10_races 27 = .ok (.aload_n 0, 1) := by decide +kernel
theorem dX10_races_28 : decode cX10_races 28 = .ok (.getfield 16, 3) := by decide +kernel
theorem dX10_races_31 : decode cX10_races 31 = .ok (.aload_n 0, 1) := by decide +kernel
theorem dX10_races_32 : decode cX10_races 32 = .ok (.getfield 10, 3) := by decide +kernel
theorem dX10_races_35 : decode cX10_races 35 = .ok (.invokevirtual 256, 3) := by decide +kernel
theorem dX10_races_38 : decode cX10_races 38 = .ok (.iload_n 1, 1) := by decide +kernel
theorem dX10_races_39 : decode cX10_races 39 = .ok (.i2l, 1) := by decide +kernel
theorem dX10_races_4 : decode cX10_races 4 = .ok (.invokestatic 79, 3) := by decide +kernel
theorem dX10_races_40 : decode cX10_races 40 = .ok (.lstore_n 3, 1) := by decide +kernel
theorem dX10_races_41 : decode cX10_races 41 = .ok (.iconst 0, 1) := by decide +kernel
theorem dX10_races_42 : decode cX10_races 42 = .ok (.istore 5, 2) := by decide +kernel
theorem dX10_races_44 : decode cX10_races 44 = .ok (.iload 5, 2) := by decide +kernel
theorem dX10_races_46 : decode cX10_races 46 = .ok (.iload_n 2, 1) := by decide +kernel
theorem dX10_races_47 : decode cX10_races 47 = .ok (.if_icmp .ge 77, 3) := by decide +kernel
theorem dX10_races_50 : decode cX10_races 50 = .ok (.lload_n 3, 1) := by decide +kernel
theorem dX10_races_51 : decode cX10_races 51 = .ok (.ldc2_w 260, 3) := by decide +kernel
theorem dX10_races_54 : decode cX10_races 54 = .ok (.lmul, 1) := by decide +kernel
theorem dX10_races_55 : decode cX10_races 55 = .ok (.ldc2_w 262, 3) := by decide +kernel
theorem dX10_races_58 : decode cX10_races 58 = .ok (.ladd, 1) := by decide +kernel
theorem dX10_races_59 : decode cX10_races 59 = .ok (.ldc2_w 264, 3) := by decide +kernel
theorem dX10_races_62 : decode cX10_races 62 = .ok (.lrem, 1) := by decide +kernel
theorem dX10_races_63 : decode cX10_races 63 = .ok (.lstore_n 3, 1) := by decide +kernel
theorem dX10_races_64 : decode cX10_races 64 = .ok (.lload_n 3, 1) := by decide +kernel
theorem dX10_races_65 : decode cX10_races 65 = .ok (.ldc2_w 266, 3) := by decide +kernel
theorem dX10_races_68 : decode cX10_races 68 = .ok (.ldiv, 1) := by decide +kernel
theorem dX10_races_69 : decode cX10_races 69 = .ok (.ldc2_w 268, 3) := by decide +kernel
theorem dX10_races_7 : decode cX10_races 7 = .ok (.ifCond .eq 13, 3) := by decide +kernel
theorem dX10_races_72 : decode cX10_races 72 = .ok (.lrem, 1) := by decide +kernel
theorem dX10_races_73 : decode cX10_races 73 = .ok (.l2i, 1) := by decide +kernel
theorem dX10_races_74 : decode cX10_races 74 = .ok (.istore 6, 2) := by decide +kernel
theorem dX10_races_76 : decode cX10_races 76 = .ok (.iload 6, 2) := by decide +kernel
theorem dX10_races_78 : decode cX10_races 78 = .ok (.aload_n 0, 1) := by decide +kernel
theorem dX10_races_79 : decode cX10_races 79 = .ok (.getfield 16, 3) := by decide +kernel
theorem dX10_races_82 : decode cX10_races 82 = .ok (.getfield 87, 3) := by decide +kernel
theorem dX10_races_85 : decode cX10_races 85 = .ok (.if_icmp .ge 26, 3) := by decide +kernel
theorem dX10_races_88 : decode cX10_races 88 = .ok (.aload_n 0, 1) := by decide +kernel
theorem dX10_races_89 : decode cX10_races 89 = .ok (.getfield 16, 3) := by decide +kernel
theorem dX10_races_92 : decode cX10_races 92 = .ok (.getfield 126, 3) := by decide +kernel
theorem dX10_races_95 : decode cX10_races 95 = .ok (.iload 6, 2) := by decide +kernel
theorem dX10_races_97 : decode cX10_races 97 = .ok (.aaload, 1) := by decide +kernel
theorem dX10_races_98 : decode cX10_races 98 = .ok (.lload_n 3, 1) := by decide +kernel
theorem dX10_races_99 : decode cX10_races 99 = .ok (.ldc2_w 270, 3) := by decide +kernel
theorem dX10_tell_0 : decode cX10_tell 0 = .ok (.aload_n 0, 1) := by decide +kernel
theorem dX10_tell_1 : decode cX10_tell 1 = .ok (.iload_n 1, 1) := by decide +kernel
theorem dX10_tell_11 : decode cX10_tell 11 = .ok (.invokevirtual 83, 3) := by decide +kernel
theorem dX10_tell_14 : decode cX10_tell 14 = .ok (.ireturn, 1) := by decide +kernel
theorem dX10_tell_15 : decode cX10_tell 15 = .ok (.aload_n 0, 1) := by decide +kernel
theorem dX10_tell_16 : decode cX10_tell 16 = .ok (.aload_n 0, 1) := by decide +kernel
theorem dX10_tell_17 : decode cX10_tell 17 = .ok (.getfield 10, 3) := by decide +kernel
theorem dX10_tell_2 : decode cX10_tell 2 = .ok (.invokevirtual 123, 3) := by decide +kernel
theorem dX10_tell_20 : decode cX10_tell 20 = .ok (.getfield 126, 3) := by decide +kernel
theorem dX10_tell_23 : decode cX10_tell 23 = .ok (.iload_n 1, 1) := by decide +kernel
theorem dX10_tell_24 : decode cX10_tell 24 = .ok (.aaload, 1) := by decide +kernel
theorem dX10_tell_25 : decode cX10_tell 25 = .ok (.iconst 0, 1) := by decide +kernel
theorem dX10_tell_26 : decode cX10_tell 26 = .ok (.aload_n 0, 1) := by decide +kernel
theorem dX10_tell_27 : decode cX10_tell 27 = .ok (.getfield 10, 3) := by decide +kernel
theorem dX10_tell_30 : decode cX10_tell 30 = .ok (.iload_n 1, 1) := by decide +kernel
theorem dX10_tell_31 : decode cX10_tell 31 = .ok (.invokevirtual 197, 3) := by decide +kernel
theorem dX10_tell_34 : decode cX10_tell 34 = .ok (.sipush 200, 3) := by decide +kernel
theorem dX10_tell_37 : decode cX10_tell 37 = .ok (.invokevirtual 208, 3) := by decide +kernel
theorem dX10_tell_40 : decode cX10_tell 40 = .ok (.ireturn, 1) := by decide +kernel
theorem dX10_tell_5 : decode cX10_tell 5 = .ok (.ifCond .ne 10, 3) := by decide +kernel
theorem dX10_tell_8 : decode cX10_tell 8 = .ok (.aload_n 0, 1) := by decide +kernel
theorem dX10_tell_9 : decode cX10_tell 9 = .ok (.bipush (-2), 2) := by decide +kernel
theorem mm_X10_races_c255 : Cond.constant RX10 255 (999999) ∈ wsX10_races := by decide +kernel
theorem in_X10_races_X10 : ∀ w ∈ wsX100, w ∈ wsX10_races := by decide +kernel
theorem lk_X10_races_16 : Cond.fieldLink RX10 16 "EggSpoons" "spare" "LEggSpoons$Race;" ∈ wsX10_races := by decide +kernel
theorem lk_X10_races_10 : Cond.fieldLink RX10 10 "EggSpoons" "now" "LEggSpoons$Race;" ∈ wsX10_races := by decide +kernel
theorem mm_X10_races_c260 : Cond.constantLong RX10 260 (1103515245) ∈ wsX10_races := by decide +kernel
theorem mm_X10_races_c262 : Cond.constantLong RX10 262 (12345) ∈ wsX10_races := by decide +kernel
theorem mm_X10_races_c264 : Cond.constantLong RX10 264 (2147483648) ∈ wsX10_races := by decide +kernel
theorem mm_X10_races_c266 : Cond.constantLong RX10 266 (65536) ∈ wsX10_races := by decide +kernel
theorem mm_X10_races_c268 : Cond.constantLong RX10 268 (6) ∈ wsX10_races := by decide +kernel
theorem in_X10_races_X5 : ∀ w ∈ wsX50, w ∈ wsX10_races := by decide +kernel
theorem lk_X10_races_87 : Cond.fieldLink RX10 87 "EggSpoons$Race" "runners" "I" ∈ wsX10_races := by decide +kernel
theorem lk_X10_races_126 : Cond.fieldLink RX10 126 "EggSpoons$Race" "row" "[LEggSpoons$Runner;" ∈ wsX10_races := by decide +kernel
theorem mm_X10_races_c270 : Cond.constantLong RX10 270 (1048576) ∈ wsX10_races := by decide +kernel
theorem mm_X10_races_c272 : Cond.constantLong RX10 272 (10) ∈ wsX10_races := by decide +kernel
theorem in_X10_races_X8 : ∀ w ∈ wsX80, w ∈ wsX10_races := by decide +kernel
theorem lk_X10_races_130 : Cond.fieldLink RX10 130 "EggSpoons$Runner" "speed" "I" ∈ wsX10_races := by decide +kernel
set_option maxHeartbeats 4000000 in
set_option maxRecDepth 100000 in
/-- races -/
theorem s_races (l : Launch) (X : EX) (h0 : Nat) (nw : Nat) (sp : Nat) (xa : Nat → Nat) (la : Int64) (lb : Int64) (an : Nat → Nat) (sv : Nat → Int32) (dv : Nat → Int32) (n0 : Nat) (n1 : Nat) (n2 : Nat) (n3 : Nat) (n4 : Nat) (g0 : Nat → Int32) (gs : Nat → Int32) (gn : Nat → Int32) (gm : Nat → Int32) (adp : Nat → Nat) (svp : Nat → Int32) (dvp : Nat → Int32) (n0p : Nat) (n1p : Nat) (n2p : Nat) (n3p : Nat) (n4p : Nat) (g0p : Nat → Int32) (gsp : Nat → Int32) (gnp : Nat → Int32) (gmp : Nat → Int32) (fr : Nat → Int32) (x1 : Int32) (x2 : Int32) (hI_n0 : n0 ≤ 6) (hI_n1 : n1 ≤ 8) (hI_n2 : n2 ≤ 5) (hI_n3 : n3 ≤ 6) (hI_n4 : n4 ≤ 6) (hI_n0p : n0p ≤ 6) (hI_n1p : n1p ≤ 8) (hI_n2p : n2p ≤ 5) (hI_n3p : n3p ≤ 6) (hI_n4p : n4p ≤ 6) (sz : Nat) : Met l yX10_races wsX10_races ({ frames := 3, cells := 0, slots := 0, locals := 70 } : Room) (pE X [.ref h0, .int x1, .int x2] (@HAppend.hAppend va_W va_W va_W _ (xW h0 nw sp xa la lb) (@HAppend.hAppend va_W va_W va_W _ (rcV X nw an sv dv n0 n1 n2 n3 n4 g0 gs gn gm) (@HAppend.hAppend va_W va_W va_W _ (rcV X sp adp svp dvp n0p n1p n2p n3p n4p g0p gsp gnp gmp) ([((xa 5), .inl (X.2.1, 3, .inl fr))])))) sz) (qI (fun (r : Int32) (u : (Nat → Int32) × (Nat → Int32) × (Nat) × (Nat → Int32)) => u.2.2.1 ≤ 6 ∧ (True)) X (fun (u : (Nat → Int32) × (Nat → Int32) × (Nat) × (Nat → Int32)) => @HAppend.hAppend va_W va_W va_W _ (xW h0 nw sp xa la lb) (@HAppend.hAppend va_W va_W va_W _ (rcV X nw an sv dv n0 n1 n2 n3 n4 g0 gs gn gm) (@HAppend.hAppend va_W va_W va_W _ (rcV X sp adp u.1 u.2.1 u.2.2.1 n1p n2p n3p n4p g0p gsp gnp gmp) ([((xa 5), .inl (X.2.1, 3, .inl u.2.2.2))])))) (@HAppend.hAppend va_W va_W va_W _ (xW h0 nw sp xa la lb) (@HAppend.hAppend va_W va_W va_W _ (rcV X nw an sv dv n0 n1 n2 n3 n4 g0 gs gn gm) (@HAppend.hAppend va_W va_W va_W _ (rcV X sp adp svp dvp n0p n1p n2p n3p n4p g0p gsp gnp gmp) ([((xa 5), .inl (X.2.1, 3, .inl fr))])))) sz) 0 0 (va_A (@HAppend.hAppend va_W va_W va_W _ (xW h0 nw sp xa la lb) (@HAppend.hAppend va_W va_W va_W _ (rcV X nw an sv dv n0 n1 n2 n3 n4 g0 gs gn gm) (@HAppend.hAppend va_W va_W va_W _ (rcV X sp adp svp dvp n0p n1p n2p n3p n4p g0p gsp gnp gmp) ([((xa 5), .inl (X.2.1, 3, .inl fr))])))) sz) := by
  refine mk_met (B := (va_A (@HAppend.hAppend va_W va_W va_W _ (xW h0 nw sp xa la lb) (@HAppend.hAppend va_W va_W va_W _ (rcV X nw an sv dv n0 n1 n2 n3 n4 g0 gs gn gm) (@HAppend.hAppend va_W va_W va_W _ (rcV X sp adp svp dvp n0p n1p n2p n3p n4p g0p gsp gnp gmp) ([((xa 5), .inl (X.2.1, 3, .inl fr))])))) sz)) (A := (va_A (@HAppend.hAppend va_W va_W va_W _ (xW h0 nw sp xa la lb) (@HAppend.hAppend va_W va_W va_W _ (rcV X nw an sv dv n0 n1 n2 n3 n4 g0 gs gn gm) (@HAppend.hAppend va_W va_W va_W _ (rcV X sp adp svp dvp n0p n1p n2p n3p n4p g0p gsp gnp gmp) ([((xa 5), .inl (X.2.1, 3, .inl fr))])))) sz)) (cc := cX10_races) (maxL := 7) (ret := (some .int)) (by decide) rfl (Nat.le_of_ble_eq_true rfl) k_w k_a (fun p e s m below meth c S zr zlk znm zsz G ls hl => ?_)
  have S : CallFix p m c cX10_races 7 s _ wsX10_races RX10 := S
  have zx := S.1
  have zb := S.2.1
  have hl : lv_has ls 7 [(0, .ref h0), (1, .int x1), (2, .int x2)] := hl
  refine lv_iload_n zx zb dX10_races_0 rfl (lv_at hl 1 rfl) ?_
  refine lv_iconst (v := 0) zx zb dX10_races_1 (by decide) ?_
  refine lv_ldc zx zb S.2.2.2.1 (S.2.2.2.2 _ mm_X10_races_c255) dX10_races_2 ?_
  refine o_ri (cells' := 0) (slots' := 0) G rfl rfl (n_S (As := [.int x1, .int 0, .int 999999]) (rest := []) S G (s_within l X x1 0 999999 s.heap.size) gX10_races_X10_within rfl rfl rfl hdS_X10_within ⟨Nat.le_of_ble_eq_true rfl, Nat.le_of_ble_eq_true rfl⟩ [] rfl rfl rfl hl.1 (Nat.le_of_ble_eq_true rfl) dX10_races_4 ⟨Nat.le_of_ble_eq_true rfl, Nat.le_of_ble_eq_true rfl⟩) (fun r_1 u_1 H locs hp_1 G => ?_)
  have G : wd X (va_A (@HAppend.hAppend va_W va_W va_W _ (xW h0 nw sp xa la lb) (@HAppend.hAppend va_W va_W va_W _ (rcV X nw an sv dv n0 n1 n2 n3 n4 g0 gs gn gm) (@HAppend.hAppend va_W va_W va_W _ (rcV X sp adp svp dvp n0p n1p n2p n3p n4p g0p gsp gnp gmp) ([((xa 5), .inl (X.2.1, 3, .inl fr))])))) sz) (va_A (@HAppend.hAppend va_W va_W va_W _ (xW h0 nw sp xa la lb) (@HAppend.hAppend va_W va_W va_W _ (rcV X nw an sv dv n0 n1 n2 n3 n4 g0 gs gn gm) (@HAppend.hAppend va_W va_W va_W _ (rcV X sp adp svp dvp n0p n1p n2p n3p n4p g0p gsp gnp gmp) ([((xa 5), .inl (X.2.1, 3, .inl fr))])))) sz) s (@HAppend.hAppend va_W va_W va_W _ (xW h0 nw sp xa la lb) (@HAppend.hAppend va_W va_W va_W _ (rcV X nw an sv dv n0 n1 n2 n3 n4 g0 gs gn gm) (@HAppend.hAppend va_W va_W va_W _ (rcV X sp adp svp dvp n0p n1p n2p n3p n4p g0p gsp gnp gmp) ([((xa 5), .inl (X.2.1, 3, .inl fr))])))) H locs := G
  rcases hp_1 with ⟨rfl, hw_1⟩ | ⟨rfl, hw_1⟩
  · refine lv_if_eq (tgt := 20) zx zb dX10_races_7 (by decide) (fun c_2 => absurd c_2 (by decide)) (fun c_2 => ?_)
    refine lv_iload_n zx zb dX10_races_10 rfl (lv_at hl 2 rfl) ?_
    refine lv_iconst (v := 0) zx zb dX10_races_11 (by decide) ?_
    refine lv_bipush (v := 60) zx zb dX10_races_12 (by decide) ?_
    refine o_ri (cells' := 0) (slots' := 0) G rfl rfl (n_S (As := [.int x2, .int 0, .int 60]) (rest := []) S G (s_within l X x2 0 60 H.size) gX10_races_X10_within rfl rfl rfl hdS_X10_within ⟨Nat.le_of_ble_eq_true rfl, Nat.le_of_ble_eq_true rfl⟩ [] rfl rfl rfl hl.1 (Nat.le_of_ble_eq_true rfl) dX10_races_14 ⟨Nat.le_of_ble_eq_true rfl, Nat.le_of_ble_eq_true rfl⟩) (fun r_3 u_3 H locs hp_3 G => ?_)
    have G : wd X (va_A (@HAppend.hAppend va_W va_W va_W _ (xW h0 nw sp xa la lb) (@HAppend.hAppend va_W va_W va_W _ (rcV X nw an sv dv n0 n1 n2 n3 n4 g0 gs gn gm) (@HAppend.hAppend va_W va_W va_W _ (rcV X sp adp svp dvp n0p n1p n2p n3p n4p g0p gsp gnp gmp) ([((xa 5), .inl (X.2.1, 3, .inl fr))])))) sz) (va_A (@HAppend.hAppend va_W va_W va_W _ (xW h0 nw sp xa la lb) (@HAppend.hAppend va_W va_W va_W _ (rcV X nw an sv dv n0 n1 n2 n3 n4 g0 gs gn gm) (@HAppend.hAppend va_W va_W va_W _ (rcV X sp adp svp dvp n0p n1p n2p n3p n4p g0p gsp gnp gmp) ([((xa 5), .inl (X.2.1, 3, .inl fr))])))) sz) s (@HAppend.hAppend va_W va_W va_W _ (xW h0 nw sp xa la lb) (@HAppend.hAppend va_W va_W va_W _ (rcV X nw an sv dv n0 n1 n2 n3 n4 g0 gs gn gm) (@HAppend.hAppend va_W va_W va_W _ (rcV X sp adp svp dvp n0p n1p n2p n3p n4p g0p gsp gnp gmp) ([((xa 5), .inl (X.2.1, 3, .inl fr))])))) H locs := G
    rcases hp_3 with ⟨rfl, hw_3⟩ | ⟨rfl, hw_3⟩
    · refine lv_if_ne (tgt := 27) zx zb dX10_races_17 (by decide) (fun c_4 => ?_) (fun c_4 => absurd c_4 (by decide))
      obtain ⟨z0, hz0, rfl⟩ := k_seed hw_1
      refine lv_aload_n zx zb dX10_races_27 rfl (lv_at hl 0 rfl) ?_
      refine r_get (C := RX10) (T := TX10) (N := 14) (ci := 8) (v := .ref sp) S in_X10_races_X10 G 0 rfl rfl 1 (by decide) lk_X10_races_16 rfl dX10_races_28 ?_
      refine lv_aload_n zx zb dX10_races_31 rfl (lv_at hl 0 rfl) ?_
      refine r_get (C := RX10) (T := TX10) (N := 14) (ci := 8) (v := .ref nw) S in_X10_races_X10 G 0 rfl rfl 0 (by decide) lk_X10_races_10 rfl dX10_races_32 ?_
      refine b_wv (cells' := 0) (slots' := 0) (wr := @HAppend.hAppend va_W va_W va_W _ (xW h0 nw sp xa la lb) ([((xa 5), .inl (X.2.1, 3, .inl fr))])) G rfl rfl [17, 18, 19, 20, 21, 22, 23, 24, 25, 26, 27, 28, 29, 30, 31, 32, 1, 2, 3, 4, 5, 6, 7, 8, 9, 10, 11, 12, 13, 14, 15, 16] [0, 33] rfl rfl rfl rfl (n_V (As := [.ref nw]) (rest := []) (C := RX5) (T := TX5) (N := 8) (ci := 3) S G (s_copyLine l X sp adp svp dvp n0p n1p n2p n3p n4p g0p gsp gnp gmp nw an sv dv n0 n1 n2 n3 n4 g0 gs gn gm hI_n0p hI_n1p hI_n2p hI_n3p hI_n4p hI_n0 hI_n1 hI_n2 hI_n3 hI_n4 H.size) gX10_races_X5_copyLine rfl rfl rfl hdV_X5_copyLine ⟨Nat.le_of_ble_eq_true rfl, Nat.le_of_ble_eq_true rfl⟩ [17, 18, 19, 20, 21, 22, 23, 24, 25, 26, 27, 28, 29, 30, 31, 32, 1, 2, 3, 4, 5, 6, 7, 8, 9, 10, 11, 12, 13, 14, 15, 16] rfl rfl 17 rfl rfl rfl hl.1 (Nat.le_of_ble_eq_true rfl) dX10_races_35 ⟨Nat.le_of_ble_eq_true rfl, Nat.le_of_ble_eq_true rfl⟩) (fun u_5 H locs hp_5 G => ?_)
      obtain ⟨sv_5a, dv_5b, n0_5c⟩ := u_5
      try dsimp only at hp_5
      obtain ⟨hI_n0_5c, hq_5⟩ := hp_5
      have G : wd X (va_A (@HAppend.hAppend va_W va_W va_W _ (xW h0 nw sp xa la lb) (@HAppend.hAppend va_W va_W va_W _ (rcV X nw an sv dv n0 n1 n2 n3 n4 g0 gs gn gm) (@HAppend.hAppend va_W va_W va_W _ (rcV X sp adp svp dvp n0p n1p n2p n3p n4p g0p gsp gnp gmp) ([((xa 5), .inl (X.2.1, 3, .inl fr))])))) sz) (va_A (@HAppend.hAppend va_W va_W va_W _ (xW h0 nw sp xa la lb) (@HAppend.hAppend va_W va_W va_W _ (rcV X nw an sv dv n0 n1 n2 n3 n4 g0 gs gn gm) (@HAppend.hAppend va_W va_W va_W _ (rcV X sp adp svp dvp n0p n1p n2p n3p n4p g0p gsp gnp gmp) ([((xa 5), .inl (X.2.1, 3, .inl fr))])))) sz) s (@HAppend.hAppend va_W va_W va_W _ (xW h0 nw sp xa la lb) (@HAppend.hAppend va_W va_W va_W _ ([((xa 5), .inl (X.2.1, 3, .inl fr))]) (@HAppend.hAppend va_W va_W va_W _ (rcV X sp adp sv_5a dv_5b n0_5c n1p n2p n3p n4p g0p gsp gnp gmp) (rcV X nw an sv dv n0 n1 n2 n3 n4 g0 gs gn gm)))) H locs := G
      refine lv_iload_n zx zb dX10_races_38 rfl (lv_at hl 1 rfl) ?_
      refine lv_i2l (v := (Int32.toInt64 (nI z0))) zx zb dX10_races_39 rfl ?_
      refine k_ld (nI_l (by omega)) ?_
      refine lv_lstore_n (lv' := [(3, .long (lN z0)), (0, .ref h0), (1, .int (nI z0)), (2, .int x2)]) zx zb dX10_races_40 rfl hl (by decide) rfl (fun ls hl => ?_)
      refine lv_iconst (v := 0) zx zb dX10_races_41 (by decide) ?_
      refine lv_istore (lv' := [(5, .int 0), (3, .long (lN z0)), (0, .ref h0), (1, .int (nI z0)), (2, .int x2)]) zx zb dX10_races_42 hl (by decide) rfl (fun ls hl => ?_)
      refine k_loop (P := ∀ (zm : Nat) (k44 : Nat) (x44_3 : Int64) (dv44_2 : Nat → Int32) (H : Heap) (locs : List Loc) (ls : Array Slot), 61 + 1 ≤ k44 + zm → (k44 ≤ 61) → (∃ q : Nat, q < 2147483648 ∧ x44_3 = lN q) → wd X (va_A (@HAppend.hAppend va_W va_W va_W _ (xW h0 nw sp xa la lb) (@HAppend.hAppend va_W va_W va_W _ (rcV X nw an sv dv n0 n1 n2 n3 n4 g0 gs gn gm) (@HAppend.hAppend va_W va_W va_W _ (rcV X sp adp svp dvp n0p n1p n2p n3p n4p g0p gsp gnp gmp) ([((xa 5), .inl (X.2.1, 3, .inl fr))])))) sz) (va_A (@HAppend.hAppend va_W va_W va_W _ (xW h0 nw sp xa la lb) (@HAppend.hAppend va_W va_W va_W _ (rcV X nw an sv dv n0 n1 n2 n3 n4 g0 gs gn gm) (@HAppend.hAppend va_W va_W va_W _ (rcV X sp adp svp dvp n0p n1p n2p n3p n4p g0p gsp gnp gmp) ([((xa 5), .inl (X.2.1, 3, .inl fr))])))) sz) s (@HAppend.hAppend va_W va_W va_W _ (xW h0 nw sp xa la lb) (@HAppend.hAppend va_W va_W va_W _ ([((xa 5), .inl (X.2.1, 3, .inl fr))]) (@HAppend.hAppend va_W va_W va_W _ (rcV X sp adp sv_5a dv44_2 n0_5c n1p n2p n3p n4p g0p gsp gnp gmp) (rcV X nw an sv dv n0 n1 n2 n3 n4 g0 gs gn gm)))) H locs → lv_has ls 7 [(5, .int (nI k44)), (3, .long x44_3), (0, .ref h0), (1, .int (nI z0)), (2, .int x2)] → W p l e _ s m _ below meth c H locs _ _ _ (F0 m 44 ls [])) (fun loop => loop (61 + 1) 0 (lN z0) dv_5b _ _ _ (by omega) (by omega) (by first | assumption | exact ⟨_, hz0, rfl⟩ | exact ⟨_, hz1, rfl⟩) G hl) ?_
      intro zm
      induction zm with
      | zero => intro k44 x44_3 dv44_2 H locs ls zz q_hk_k44 q_hk_x44_3 _ _; exact absurd zz (by omega)
      | succ zm ih44 =>
        intro k44 x44_3 dv44_2 H locs ls zm_44 hk_k44 hk_x44_3 G hl
        refine lv_iload zx zb dX10_races_44 (lv_at hl 0 rfl) ?_
        refine lv_iload_n zx zb dX10_races_46 rfl (lv_at hl 4 rfl) ?_
        refine lv_icmp_ge (tgt := 124) zx zb dX10_races_47 (by decide) (fun c_6 => ?_) (fun c_6 => ?_)
        · refine lv_aload_n zx zb dX10_races_124 rfl (lv_at hl 2 rfl) ?_
          refine r_get (C := RX10) (T := TX10) (N := 14) (ci := 8) (v := .ref sp) S in_X10_races_X10 G 0 rfl rfl 1 (by decide) lk_X10_races_16 rfl dX10_races_125 ?_
          refine o_ri (cells' := 0) (slots' := 0) G rfl rfl (n_V (As := []) (rest := []) (C := RX5) (T := TX5) (N := 8) (ci := 3) S G (s_homes l X sp adp sv_5a dv44_2 n0_5c n1p n2p n3p n4p g0p gsp gnp gmp hI_n0_5c hI_n1p hI_n2p hI_n3p hI_n4p H.size) gX10_races_X5_homes rfl rfl rfl hdV_X5_homes ⟨Nat.le_of_ble_eq_true rfl, Nat.le_of_ble_eq_true rfl⟩ [2, 3, 4, 5, 6, 7, 8, 9, 10, 11, 12, 13, 14, 15, 16, 17] rfl rfl 2 rfl rfl rfl hl.1 (Nat.le_of_ble_eq_true rfl) dX10_races_128 ⟨Nat.le_of_ble_eq_true rfl, Nat.le_of_ble_eq_true rfl⟩) (fun r_7 u_7 H locs hp_7 G => ?_)
          have G : wd X (va_A (@HAppend.hAppend va_W va_W va_W _ (xW h0 nw sp xa la lb) (@HAppend.hAppend va_W va_W va_W _ (rcV X nw an sv dv n0 n1 n2 n3 n4 g0 gs gn gm) (@HAppend.hAppend va_W va_W va_W _ (rcV X sp adp svp dvp n0p n1p n2p n3p n4p g0p gsp gnp gmp) ([((xa 5), .inl (X.2.1, 3, .inl fr))])))) sz) (va_A (@HAppend.hAppend va_W va_W va_W _ (xW h0 nw sp xa la lb) (@HAppend.hAppend va_W va_W va_W _ (rcV X nw an sv dv n0 n1 n2 n3 n4 g0 gs gn gm) (@HAppend.hAppend va_W va_W va_W _ (rcV X sp adp svp dvp n0p n1p n2p n3p n4p g0p gsp gnp gmp) ([((xa 5), .inl (X.2.1, 3, .inl fr))])))) sz) s (@HAppend.hAppend va_W va_W va_W _ (xW h0 nw sp xa la lb) (@HAppend.hAppend va_W va_W va_W _ ([((xa 5), .inl (X.2.1, 3, .inl fr))]) (@HAppend.hAppend va_W va_W va_W _ (rcV X sp adp sv_5a dv44_2 n0_5c n1p n2p n3p n4p g0p gsp gnp gmp) (rcV X nw an sv dv n0 n1 n2 n3 n4 g0 gs gn gm)))) H locs := G
          exact e_int S zr zlk (vp_nar_int _) G (sv_5a, dv44_2, n0_5c, fr) [0, 18, 19, 20, 21, 22, 23, 24, 25, 26, 27, 28, 29, 30, 31, 32, 33, 2, 3, 4, 5, 6, 7, 8, 9, 10, 11, 12, 13, 14, 15, 16, 17, 1] rfl rfl (Or.inr rfl) (⟨hI_n0_5c, trivial⟩) dX10_races_131
        · have fk_c_6 := k_lt60 (Int32.not_le.mp c_6) hw_3.2 (by omega)
          obtain ⟨z, zz, rfl⟩ := hk_x44_3
          refine lv_lload_n zx zb dX10_races_50 rfl (lv_at hl 1 rfl) ?_
          refine lv_ldc2 zx zb S.2.2.2.1 (S.2.2.2.2 _ mm_X10_races_c260) dX10_races_51 ?_
          refine k_ld (v := (Int32.toInt64 1103515245)) (by decide) ?_
          refine r_lmul (v := ((lN z) * (Int32.toInt64 1103515245))) S rfl dX10_races_54 ?_
          refine lv_ldc2 zx zb S.2.2.2.1 (S.2.2.2.2 _ mm_X10_races_c262) dX10_races_55 ?_
          refine k_ld (v := (Int32.toInt64 12345)) (by decide) ?_
          refine r_ladd (v := (((lN z) * (Int32.toInt64 1103515245)) + (Int32.toInt64 12345))) S rfl dX10_races_58 ?_
          refine lv_ldc2 zx zb S.2.2.2.1 (S.2.2.2.2 _ mm_X10_races_c264) dX10_races_59 ?_
          refine lv_lrem zx zb dX10_races_62 (by decide) ?_
          obtain ⟨z1, hz1, ez1⟩ := k_rx zz
          refine k_ld ez1 ?_
          refine lv_lstore_n (lv' := [(3, .long (lN z1)), (5, .int (nI k44)), (0, .ref h0), (1, .int (nI z0)), (2, .int x2)]) zx zb dX10_races_63 rfl hl (by decide) rfl (fun ls hl => ?_)
          refine lv_lload_n zx zb dX10_races_64 rfl (lv_at hl 0 rfl) ?_
          refine lv_ldc2 zx zb S.2.2.2.1 (S.2.2.2.2 _ mm_X10_races_c266) dX10_races_65 ?_
          refine k_ld (v := (Int32.toInt64 65536)) (by decide) ?_
          refine lv_ldiv zx zb dX10_races_68 (by decide) ?_
          refine lv_ldc2 zx zb S.2.2.2.1 (S.2.2.2.2 _ mm_X10_races_c268) dX10_races_69 ?_
          refine k_ld (v := (Int32.toInt64 6)) (by decide) ?_
          refine lv_lrem zx zb dX10_races_72 (by decide) ?_
          refine lv_l2i (v := (Int64.toInt32 (((lN z1) / (Int32.toInt64 65536)) - ((lN z1) / (Int32.toInt64 65536)) / (Int32.toInt64 6) * (Int32.toInt64 6)))) zx zb dX10_races_73 rfl ?_
          obtain ⟨j, hj, ej⟩ := k_ri hz1
          refine k_it ej ?_
          refine lv_istore (lv' := [(6, .int (nI j)), (3, .long (lN z1)), (5, .int (nI k44)), (0, .ref h0), (1, .int (nI z0)), (2, .int x2)]) zx zb dX10_races_74 hl (by decide) rfl (fun ls hl => ?_)
          refine lv_iload zx zb dX10_races_76 (lv_at hl 0 rfl) ?_
          refine lv_aload_n zx zb dX10_races_78 rfl (lv_at hl 3 rfl) ?_
          refine r_get (C := RX10) (T := TX10) (N := 14) (ci := 8) (v := .ref sp) S in_X10_races_X10 G 0 rfl rfl 1 (by decide) lk_X10_races_16 rfl dX10_races_79 ?_
          refine r_get (C := RX5) (T := TX5) (N := 8) (ci := 3) (v := .int (nI n0_5c)) S in_X10_races_X5 G 2 rfl rfl 2 (by decide) lk_X10_races_87 rfl dX10_races_82 ?_
          refine k_cutW (PP := fun Wx => ∀ (dv_9 : Nat → Int32) (H : Heap) (locs : List Loc) (ls : Array Slot), wd X (va_A (@HAppend.hAppend va_W va_W va_W _ (xW h0 nw sp xa la lb) (@HAppend.hAppend va_W va_W va_W _ (rcV X nw an sv dv n0 n1 n2 n3 n4 g0 gs gn gm) (@HAppend.hAppend va_W va_W va_W _ (rcV X sp adp svp dvp n0p n1p n2p n3p n4p g0p gsp gnp gmp) ([((xa 5), .inl (X.2.1, 3, .inl fr))])))) sz) (va_A (@HAppend.hAppend va_W va_W va_W _ (xW h0 nw sp xa la lb) (@HAppend.hAppend va_W va_W va_W _ (rcV X nw an sv dv n0 n1 n2 n3 n4 g0 gs gn gm) (@HAppend.hAppend va_W va_W va_W _ (rcV X sp adp svp dvp n0p n1p n2p n3p n4p g0p gsp gnp gmp) ([((xa 5), .inl (X.2.1, 3, .inl fr))])))) sz) s (@HAppend.hAppend va_W va_W va_W _ (xW h0 nw sp xa la lb) (@HAppend.hAppend va_W va_W va_W _ ([((xa 5), .inl (X.2.1, 3, .inl fr))]) (@HAppend.hAppend va_W va_W va_W _ (rcV X sp adp sv_5a dv_9 n0_5c n1p n2p n3p n4p g0p gsp gnp gmp) (rcV X nw an sv dv n0 n1 n2 n3 n4 g0 gs gn gm)))) H locs → lv_has ls 7 [(6, .int (nI j)), (3, .long (lN z1)), (5, .int (nI k44)), (0, .ref h0), (1, .int (nI z0)), (2, .int x2)] → Wx (F0 m 111 ls []) H locs) ?_ ?_
          · intro join_85
            refine lv_icmp_ge (tgt := 111) zx zb dX10_races_85 (by decide) (fun c_8 => ?_) (fun c_8 => ?_)
            · have fc_8 := j_le (a := n0_5c) (b := j) (by omega) (by omega) c_8
              exact join_85 dv44_2 _ _ _  G hl
            · have fc_8 := j_nle (a := n0_5c) (b := j) (by omega) (by omega) c_8
              refine lv_aload_n zx zb dX10_races_88 rfl (lv_at hl 3 rfl) ?_
              refine r_get (C := RX10) (T := TX10) (N := 14) (ci := 8) (v := .ref sp) S in_X10_races_X10 G 0 rfl rfl 1 (by decide) lk_X10_races_16 rfl dX10_races_89 ?_
              refine r_get (C := RX5) (T := TX5) (N := 8) (ci := 3) (v := .ref (adp 0)) S in_X10_races_X5 G 2 rfl rfl 3 (by decide) lk_X10_races_126 rfl dX10_races_92 ?_
              refine lv_iload zx zb dX10_races_95 (lv_at hl 0 rfl) ?_
              rcases k_6c (show j < 6 by omega) with rfl | rfl | rfl | rfl | rfl | rfl
              · refine k_it (v := 0) rfl ?_
                refine r_aald (C := RX8) (b := (adp 1)) S G 3 3 rfl rfl (k_vp (by decide)) rfl dX10_races_97 ?_
                refine lv_lload_n zx zb dX10_races_98 rfl (lv_at hl 1 rfl) ?_
                refine lv_ldc2 zx zb S.2.2.2.1 (S.2.2.2.2 _ mm_X10_races_c270) dX10_races_99 ?_
                refine k_ld (v := (Int32.toInt64 1048576)) (by decide) ?_
                refine lv_ldiv zx zb dX10_races_102 (by decide) ?_
                refine k_ldE (fun y_10 => ?_)
                refine lv_ldc2 zx zb S.2.2.2.1 (S.2.2.2.2 _ mm_X10_races_c272) dX10_races_103 ?_
                refine k_ld (v := (Int32.toInt64 10)) (by decide) ?_
                refine lv_lrem zx zb dX10_races_106 (by decide) ?_
                refine k_ldE (fun y_11 => ?_)
                refine lv_l2i (v := (Int64.toInt32 y_11)) zx zb dX10_races_107 rfl ?_
                refine r_put (C := RX8) (T := TX8) (N := 8) (ci := 6) (v := .int (Int64.toInt32 y_11)) S in_X10_races_X8 tyX8_ok nmX8 G 4 rfl rfl 3 (by decide) lk_X10_races_130 rfl (vp_nar_int _) rfl (Nat.le_of_ble_eq_true rfl) dX10_races_108 (fun H locs G => ?_)
                obtain ⟨dv_12, G⟩ : ∃ dv_12 : Nat → Int32, wd X (va_A (@HAppend.hAppend va_W va_W va_W _ (xW h0 nw sp xa la lb) (@HAppend.hAppend va_W va_W va_W _ (rcV X nw an sv dv n0 n1 n2 n3 n4 g0 gs gn gm) (@HAppend.hAppend va_W va_W va_W _ (rcV X sp adp svp dvp n0p n1p n2p n3p n4p g0p gsp gnp gmp) ([((xa 5), .inl (X.2.1, 3, .inl fr))])))) sz) (va_A (@HAppend.hAppend va_W va_W va_W _ (xW h0 nw sp xa la lb) (@HAppend.hAppend va_W va_W va_W _ (rcV X nw an sv dv n0 n1 n2 n3 n4 g0 gs gn gm) (@HAppend.hAppend va_W va_W va_W _ (rcV X sp adp svp dvp n0p n1p n2p n3p n4p g0p gsp gnp gmp) ([((xa 5), .inl (X.2.1, 3, .inl fr))])))) sz) s (@HAppend.hAppend va_W va_W va_W _ (xW h0 nw sp xa la lb) (@HAppend.hAppend va_W va_W va_W _ ([((xa 5), .inl (X.2.1, 3, .inl fr))]) (@HAppend.hAppend va_W va_W va_W _ (rcV X sp adp sv_5a dv_12 n0_5c n1p n2p n3p n4p g0p gsp gnp gmp) (rcV X nw an sv dv n0 n1 n2 n3 n4 g0 gs gn gm)))) H locs := ⟨upd dv44_2 10 (Int64.toInt32 y_11), G⟩
                exact join_85 dv_12 _ _ _  G hl
              · refine k_it (v := 1) rfl ?_
                refine r_aald (C := RX8) (b := (adp 2)) S G 3 3 rfl rfl (k_vp (by decide)) rfl dX10_races_97 ?_
                refine lv_lload_n zx zb dX10_races_98 rfl (lv_at hl 1 rfl) ?_
                refine lv_ldc2 zx zb S.2.2.2.1 (S.2.2.2.2 _ mm_X10_races_c270) dX10_races_99 ?_
                refine k_ld (v := (Int32.toInt64 1048576)) (by decide) ?_
                refine lv_ldiv zx zb dX10_races_102 (by decide) ?_
                refine k_ldE (fun y_13 => ?_)
                refine lv_ldc2 zx zb S.2.2.2.1 (S.2.2.2.2 _ mm_X10_races_c272) dX10_races_103 ?_
                refine k_ld (v := (Int32.toInt64 10)) (by decide) ?_
                refine lv_lrem zx zb dX10_races_106 (by decide) ?_
                refine k_ldE (fun y_14 => ?_)
                refine lv_l2i (v := (Int64.toInt32 y_14)) zx zb dX10_races_107 rfl ?_
                refine r_put (C := RX8) (T := TX8) (N := 8) (ci := 6) (v := .int (Int64.toInt32 y_14)) S in_X10_races_X8 tyX8_ok nmX8 G 5 rfl rfl 3 (by decide) lk_X10_races_130 rfl (vp_nar_int _) rfl (Nat.le_of_ble_eq_true rfl) dX10_races_108 (fun H locs G => ?_)
                obtain ⟨dv_15, G⟩ : ∃ dv_15 : Nat → Int32, wd X (va_A (@HAppend.hAppend va_W va_W va_W _ (xW h0 nw sp xa la lb) (@HAppend.hAppend va_W va_W va_W _ (rcV X nw an sv dv n0 n1 n2 n3 n4 g0 gs gn gm) (@HAppend.hAppend va_W va_W va_W _ (rcV X sp adp svp dvp n0p n1p n2p n3p n4p g0p gsp gnp gmp) ([((xa 5), .inl (X.2.1, 3, .inl fr))])))) sz) (va_A (@HAppend.hAppend va_W va_W va_W _ (xW h0 nw sp xa la lb) (@HAppend.hAppend va_W va_W va_W _ (rcV X nw an sv dv n0 n1 n2 n3 n4 g0 gs gn gm) (@HAppend.hAppend va_W va_W va_W _ (rcV X sp adp svp dvp n0p n1p n2p n3p n4p g0p gsp gnp gmp) ([((xa 5), .inl (X.2.1, 3, .inl fr))])))) sz) s (@HAppend.hAppend va_W va_W va_W _ (xW h0 nw sp xa la lb) (@HAppend.hAppend va_W va_W va_W _ ([((xa 5), .inl (X.2.1, 3, .inl fr))]) (@HAppend.hAppend va_W va_W va_W _ (rcV X sp adp sv_5a dv_15 n0_5c n1p n2p n3p n4p g0p gsp gnp gmp) (rcV X nw an sv dv n0 n1 n2 n3 n4 g0 gs gn gm)))) H locs := ⟨upd dv44_2 15 (Int64.toInt32 y_14), G⟩
                exact join_85 dv_15 _ _ _  G hl
              · refine k_it (v := 2) rfl ?_
                refine r_aald (C := RX8) (b := (adp 3)) S G 3 3 rfl rfl (k_vp (by decide)) rfl dX10_races_97 ?_
                refine lv_lload_n zx zb dX10_races_98 rfl (lv_at hl 1 rfl) ?_
                refine lv_ldc2 zx zb S.2.2.2.1 (S.2.2.2.2 _ mm_X10_races_c270) dX10_races_99 ?_
                refine k_ld (v := (Int32.toInt64 1048576)) (by decide) ?_
                refine lv_ldiv zx zb dX10_races_102 (by decide) ?_
                refine k_ldE (fun y_16 => ?_)
                refine lv_ldc2 zx zb S.2.2.2.1 (S.2.2.2.2 _ mm_X10_races_c272) dX10_races_103 ?_
                refine k_ld (v := (Int32.toInt64 10)) (by decide) ?_
                refine lv_lrem zx zb dX10_races_106 (by decide) ?_
                refine k_ldE (fun y_17 => ?_)
                refine lv_l2i (v := (Int64.toInt32 y_17)) zx zb dX10_races_107 rfl ?_
                refine r_put (C := RX8) (T := TX8) (N := 8) (ci := 6) (v := .int (Int64.toInt32 y_17)) S in_X10_races_X8 tyX8_ok nmX8 G 6 rfl rfl 3 (by decide) lk_X10_races_130 rfl (vp_nar_int _) rfl (Nat.le_of_ble_eq_true rfl) dX10_races_108 (fun H locs G => ?_)
                obtain ⟨dv_18, G⟩ : ∃ dv_18 : Nat → Int32, wd X (va_A (@HAppend.hAppend va_W va_W va_W _ (xW h0 nw sp xa la lb) (@HAppend.hAppend va_W va_W va_W _ (rcV X nw an sv dv n0 n1 n2 n3 n4 g0 gs gn gm) (@HAppend.hAppend va_W va_W va_W _ (rcV X sp adp svp dvp n0p n1p n2p n3p n4p g0p gsp gnp gmp) ([((xa 5), .inl (X.2.1, 3, .inl fr))])))) sz) (va_A (@HAppend.hAppend va_W va_W va_W _ (xW h0 nw sp xa la lb) (@HAppend.hAppend va_W va_W va_W _ (rcV X nw an sv dv n0 n1 n2 n3 n4 g0 gs gn gm) (@HAppend.hAppend va_W va_W va_W _ (rcV X sp adp svp dvp n0p n1p n2p n3p n4p g0p gsp gnp gmp) ([((xa 5), .inl (X.2.1, 3, .inl fr))])))) sz) s (@HAppend.hAppend va_W va_W va_W _ (xW h0 nw sp xa la lb) (@HAppend.hAppend va_W va_W va_W _ ([((xa 5), .inl (X.2.1, 3, .inl fr))]) (@HAppend.hAppend va_W va_W va_W _ (rcV X sp adp sv_5a dv_18 n0_5c n1p n2p n3p n4p g0p gsp gnp gmp) (rcV X nw an sv dv n0 n1 n2 n3 n4 g0 gs gn gm)))) H locs := ⟨upd dv44_2 20 (Int64.toInt32 y_17), G⟩
                exact join_85 dv_18 _ _ _  G hl
              · refine k_it (v := 3) rfl ?_
                refine r_aald (C := RX8) (b := (adp 4)) S G 3 3 rfl rfl (k_vp (by decide)) rfl dX10_races_97 ?_
                refine lv_lload_n zx zb dX10_races_98 rfl (lv_at hl 1 rfl) ?_
                refine lv_ldc2 zx zb S.2.2.2.1 (S.2.2.2.2 _ mm_X10_races_c270) dX10_races_99 ?_
                refine k_ld (v := (Int32.toInt64 1048576)) (by decide) ?_
                refine lv_ldiv zx zb dX10_races_102 (by decide) ?_
                refine k_ldE (fun y_19 => ?_)
                refine lv_ldc2 zx zb S.2.2.2.1 (S.2.2.2.2 _ mm_X10_races_c272) dX10_races_103 ?_
                refine k_ld (v := (Int32.toInt64 10)) (by decide) ?_
                refine lv_lrem zx zb dX10_races_106 (by decide) ?_
                refine k_ldE (fun y_20 => ?_)
                refine lv_l2i (v := (Int64.toInt32 y_20)) zx zb dX10_races_107 rfl ?_
                refine r_put (C := RX8) (T := TX8) (N := 8) (ci := 6) (v := .int (Int64.toInt32 y_20)) S in_X10_races_X8 tyX8_ok nmX8 G 7 rfl rfl 3 (by decide) lk_X10_races_130 rfl (vp_nar_int _) rfl (Nat.le_of_ble_eq_true rfl) dX10_races_108 (fun H locs G => ?_)
                obtain ⟨dv_21, G⟩ : ∃ dv_21 : Nat → Int32, wd X (va_A (@HAppend.hAppend va_W va_W va_W _ (xW h0 nw sp xa la lb) (@HAppend.hAppend va_W va_W va_W _ (rcV X nw an sv dv n0 n1 n2 n3 n4 g0 gs gn gm) (@HAppend.hAppend va_W va_W va_W _ (rcV X sp adp svp dvp n0p n1p n2p n3p n4p g0p gsp gnp gmp) ([((xa 5), .inl (X.2.1, 3, .inl fr))])))) sz) (va_A (@HAppend.hAppend va_W va_W va_W _ (xW h0 nw sp xa la lb) (@HAppend.hAppend va_W va_W va_W _ (rcV X nw an sv dv n0 n1 n2 n3 n4 g0 gs gn gm) (@HAppend.hAppend va_W va_W va_W _ (rcV X sp adp svp dvp n0p n1p n2p n3p n4p g0p gsp gnp gmp) ([((xa 5), .inl (X.2.1, 3, .inl fr))])))) sz) s (@HAppend.hAppend va_W va_W va_W _ (xW h0 nw sp xa la lb) (@HAppend.hAppend va_W va_W va_W _ ([((xa 5), .inl (X.2.1, 3, .inl fr))]) (@HAppend.hAppend va_W va_W va_W _ (rcV X sp adp sv_5a dv_21 n0_5c n1p n2p n3p n4p g0p gsp gnp gmp) (rcV X nw an sv dv n0 n1 n2 n3 n4 g0 gs gn gm)))) H locs := ⟨upd dv44_2 25 (Int64.toInt32 y_20), G⟩
                exact join_85 dv_21 _ _ _  G hl
              · refine k_it (v := 4) rfl ?_
                refine r_aald (C := RX8) (b := (adp 5)) S G 3 3 rfl rfl (k_vp (by decide)) rfl dX10_races_97 ?_
                refine lv_lload_n zx zb dX10_races_98 rfl (lv_at hl 1 rfl) ?_
                refine lv_ldc2 zx zb S.2.2.2.1 (S.2.2.2.2 _ mm_X10_races_c270) dX10_races_99 ?_
                refine k_ld (v := (Int32.toInt64 1048576)) (by decide) ?_
                refine lv_ldiv zx zb dX10_races_102 (by decide) ?_
                refine k_ldE (fun y_22 => ?_)
                refine lv_ldc2 zx zb S.2.2.2.1 (S.2.2.2.2 _ mm_X10_races_c272) dX10_races_103 ?_
                refine k_ld (v := (Int32.toInt64 10)) (by decide) ?_
                refine lv_lrem zx zb dX10_races_106 (by decide) ?_
                refine k_ldE (fun y_23 => ?_)
                refine lv_l2i (v := (Int64.toInt32 y_23)) zx zb dX10_races_107 rfl ?_
                refine r_put (C := RX8) (T := TX8) (N := 8) (ci := 6) (v := .int (Int64.toInt32 y_23)) S in_X10_races_X8 tyX8_ok nmX8 G 8 rfl rfl 3 (by decide) lk_X10_races_130 rfl (vp_nar_int _) rfl (Nat.le_of_ble_eq_true rfl) dX10_races_108 (fun H locs G => ?_)
                obtain ⟨dv_24, G⟩ : ∃ dv_24 : Nat → Int32, wd X (va_A (@HAppend.hAppend va_W va_W va_W _ (xW h0 nw sp xa la lb) (@HAppend.hAppend va_W va_W va_W _ (rcV X nw an sv dv n0 n1 n2 n3 n4 g0 gs gn gm) (@HAppend.hAppend va_W va_W va_W _ (rcV X sp adp svp dvp n0p n1p n2p n3p n4p g0p gsp gnp gmp) ([((xa 5), .inl (X.2.1, 3, .inl fr))])))) sz) (va_A (@HAppend.hAppend va_W va_W va_W _ (xW h0 nw sp xa la lb) (@HAppend.hAppend va_W va_W va_W _ (rcV X nw an sv dv n0 n1 n2 n3 n4 g0 gs gn gm) (@HAppend.hAppend va_W va_W va_W _ (rcV X sp adp svp dvp n0p n1p n2p n3p n4p g0p gsp gnp gmp) ([((xa 5), .inl (X.2.1, 3, .inl fr))])))) sz) s (@HAppend.hAppend va_W va_W va_W _ (xW h0 nw sp xa la lb) (@HAppend.hAppend va_W va_W va_W _ ([((xa 5), .inl (X.2.1, 3, .inl fr))]) (@HAppend.hAppend va_W va_W va_W _ (rcV X sp adp sv_5a dv_24 n0_5c n1p n2p n3p n4p g0p gsp gnp gmp) (rcV X nw an sv dv n0 n1 n2 n3 n4 g0 gs gn gm)))) H locs := ⟨upd dv44_2 30 (Int64.toInt32 y_23), G⟩
                exact join_85 dv_24 _ _ _  G hl
              · refine k_it (v := 5) rfl ?_
                refine r_aald (C := RX8) (b := (adp 6)) S G 3 3 rfl rfl (k_vp (by decide)) rfl dX10_races_97 ?_
                refine lv_lload_n zx zb dX10_races_98 rfl (lv_at hl 1 rfl) ?_
                refine lv_ldc2 zx zb S.2.2.2.1 (S.2.2.2.2 _ mm_X10_races_c270) dX10_races_99 ?_
                refine k_ld (v := (Int32.toInt64 1048576)) (by decide) ?_
                refine lv_ldiv zx zb dX10_races_102 (by decide) ?_
                refine k_ldE (fun y_25 => ?_)
                refine lv_ldc2 zx zb S.2.2.2.1 (S.2.2.2.2 _ mm_X10_races_c272) dX10_races_103 ?_
                refine k_ld (v := (Int32.toInt64 10)) (by decide) ?_
                refine lv_lrem zx zb dX10_races_106 (by decide) ?_
                refine k_ldE (fun y_26 => ?_)
                refine lv_l2i (v := (Int64.toInt32 y_26)) zx zb dX10_races_107 rfl ?_
                refine r_put (C := RX8) (T := TX8) (N := 8) (ci := 6) (v := .int (Int64.toInt32 y_26)) S in_X10_races_X8 tyX8_ok nmX8 G 9 rfl rfl 3 (by decide) lk_X10_races_130 rfl (vp_nar_int _) rfl (Nat.le_of_ble_eq_true rfl) dX10_races_108 (fun H locs G => ?_)
                obtain ⟨dv_27, G⟩ : ∃ dv_27 : Nat → Int32, wd X (va_A (@HAppend.hAppend va_W va_W va_W _ (xW h0 nw sp xa la lb) (@HAppend.hAppend va_W va_W va_W _ (rcV X nw an sv dv n0 n1 n2 n3 n4 g0 gs gn gm) (@HAppend.hAppend va_W va_W va_W _ (rcV X sp adp svp dvp n0p n1p n2p n3p n4p g0p gsp gnp gmp) ([((xa 5), .inl (X.2.1, 3, .inl fr))])))) sz) (va_A (@HAppend.hAppend va_W va_W va_W _ (xW h0 nw sp xa la lb) (@HAppend.hAppend va_W va_W va_W _ (rcV X nw an sv dv n0 n1 n2 n3 n4 g0 gs gn gm) (@HAppend.hAppend va_W va_W va_W _ (rcV X sp adp svp dvp n0p n1p n2p n3p n4p g0p gsp gnp gmp) ([((xa 5), .inl (X.2.1, 3, .inl fr))])))) sz) s (@HAppend.hAppend va_W va_W va_W _ (xW h0 nw sp xa la lb) (@HAppend.hAppend va_W va_W va_W _ ([((xa 5), .inl (X.2.1, 3, .inl fr))]) (@HAppend.hAppend va_W va_W va_W _ (rcV X sp adp sv_5a dv_27 n0_5c n1p n2p n3p n4p g0p gsp gnp gmp) (rcV X nw an sv dv n0 n1 n2 n3 n4 g0 gs gn gm)))) H locs := ⟨upd dv44_2 35 (Int64.toInt32 y_26), G⟩
                exact join_85 dv_27 _ _ _  G hl
          · intro dv_9 H locs ls  G hl
            refine lv_aload_n zx zb dX10_races_111 rfl (lv_at hl 3 rfl) ?_
            refine r_get (C := RX10) (T := TX10) (N := 14) (ci := 8) (v := .ref sp) S in_X10_races_X10 G 0 rfl rfl 1 (by decide) lk_X10_races_16 rfl dX10_races_112 ?_
            refine b_wv (cells' := 0) (slots' := 0) (wr := @HAppend.hAppend va_W va_W va_W _ (xW h0 nw sp xa la lb) (@HAppend.hAppend va_W va_W va_W _ ([((xa 5), .inl (X.2.1, 3, .inl fr))]) (rcV X nw an sv dv n0 n1 n2 n3 n4 g0 gs gn gm))) G rfl rfl [2, 3, 4, 5, 6, 7, 8, 9, 10, 11, 12, 13, 14, 15, 16, 17] [0, 1, 18, 19, 20, 21, 22, 23, 24, 25, 26, 27, 28, 29, 30, 31, 32, 33] rfl rfl rfl rfl (n_V (As := []) (rest := []) (C := RX5) (T := TX5) (N := 8) (ci := 3) S G (s_goOn l X sp adp sv_5a dv_9 n0_5c n1p n2p n3p n4p g0p gsp gnp gmp hI_n0_5c hI_n1p hI_n2p hI_n3p hI_n4p H.size) gX10_races_X5_goOn rfl rfl rfl hdV_X5_goOn ⟨Nat.le_of_ble_eq_true rfl, Nat.le_of_ble_eq_true rfl⟩ [2, 3, 4, 5, 6, 7, 8, 9, 10, 11, 12, 13, 14, 15, 16, 17] rfl rfl 2 rfl rfl rfl hl.1 (Nat.le_of_ble_eq_true rfl) dX10_races_115 ⟨Nat.le_of_ble_eq_true rfl, Nat.le_of_ble_eq_true rfl⟩) (fun u_28 H locs hp_28 G => ?_)
            obtain ⟨dv_28, rfl⟩ : ∃ z, z = u_28 := ⟨_, rfl⟩
            have hq_28 := hp_28
            have G : wd X (va_A (@HAppend.hAppend va_W va_W va_W _ (xW h0 nw sp xa la lb) (@HAppend.hAppend va_W va_W va_W _ (rcV X nw an sv dv n0 n1 n2 n3 n4 g0 gs gn gm) (@HAppend.hAppend va_W va_W va_W _ (rcV X sp adp svp dvp n0p n1p n2p n3p n4p g0p gsp gnp gmp) ([((xa 5), .inl (X.2.1, 3, .inl fr))])))) sz) (va_A (@HAppend.hAppend va_W va_W va_W _ (xW h0 nw sp xa la lb) (@HAppend.hAppend va_W va_W va_W _ (rcV X nw an sv dv n0 n1 n2 n3 n4 g0 gs gn gm) (@HAppend.hAppend va_W va_W va_W _ (rcV X sp adp svp dvp n0p n1p n2p n3p n4p g0p gsp gnp gmp) ([((xa 5), .inl (X.2.1, 3, .inl fr))])))) sz) s (@HAppend.hAppend va_W va_W va_W _ (xW h0 nw sp xa la lb) (@HAppend.hAppend va_W va_W va_W _ ([((xa 5), .inl (X.2.1, 3, .inl fr))]) (@HAppend.hAppend va_W va_W va_W _ (rcV X nw an sv dv n0 n1 n2 n3 n4 g0 gs gn gm) (rcV X sp adp sv_5a dv_28 n0_5c n1p n2p n3p n4p g0p gsp gnp gmp)))) H locs := G
            refine lv_iinc (v := (nI (k44 + 1))) (lv' := [(5, .int (nI (k44 + 1))), (6, .int (nI j)), (3, .long (lN z1)), (0, .ref h0), (1, .int (nI z0)), (2, .int x2)]) zx zb dX10_races_118 hl (k := 2) rfl (nI_add k44 1) (by decide) rfl (fun ls hl => ?_)
            refine lv_goto (tgt := 44) zx zb dX10_races_121 (by decide) ?_
            have G : wd X (va_A (@HAppend.hAppend va_W va_W va_W _ (xW h0 nw sp xa la lb) (@HAppend.hAppend va_W va_W va_W _ (rcV X nw an sv dv n0 n1 n2 n3 n4 g0 gs gn gm) (@HAppend.hAppend va_W va_W va_W _ (rcV X sp adp svp dvp n0p n1p n2p n3p n4p g0p gsp gnp gmp) ([((xa 5), .inl (X.2.1, 3, .inl fr))])))) sz) (va_A (@HAppend.hAppend va_W va_W va_W _ (xW h0 nw sp xa la lb) (@HAppend.hAppend va_W va_W va_W _ (rcV X nw an sv dv n0 n1 n2 n3 n4 g0 gs gn gm) (@HAppend.hAppend va_W va_W va_W _ (rcV X sp adp svp dvp n0p n1p n2p n3p n4p g0p gsp gnp gmp) ([((xa 5), .inl (X.2.1, 3, .inl fr))])))) sz) s (@HAppend.hAppend va_W va_W va_W _ (xW h0 nw sp xa la lb) (@HAppend.hAppend va_W va_W va_W _ ([((xa 5), .inl (X.2.1, 3, .inl fr))]) (@HAppend.hAppend va_W va_W va_W _ (rcV X sp adp sv_5a dv_28 n0_5c n1p n2p n3p n4p g0p gsp gnp gmp) (rcV X nw an sv dv n0 n1 n2 n3 n4 g0 gs gn gm)))) H locs := wd_sub G [0, 1, 18, 19, 20, 21, 22, 23, 24, 25, 26, 27, 28, 29, 30, 31, 32, 33, 2, 3, 4, 5, 6, 7, 8, 9, 10, 11, 12, 13, 14, 15, 16, 17] rfl rfl
            have hl := lv_sub hl (l' := [(5, .int (nI (k44 + 1))), (3, .long (lN z1)), (0, .ref h0), (1, .int (nI z0)), (2, .int x2)]) [0, 2, 3, 4, 5] rfl
            exact ih44 (k44 + 1) (lN z1) dv_28 _ _ _ (by omega) (by omega) (by first | assumption | exact ⟨_, hz0, rfl⟩ | exact ⟨_, hz1, rfl⟩) G hl
    · refine lv_if_ne (tgt := 27) zx zb dX10_races_17 (by decide) (fun c_29 => absurd (by decide) c_29) (fun c_29 => ?_)
      refine lv_aload_n zx zb dX10_races_20 rfl (lv_at hl 0 rfl) ?_
      refine lv_bipush (v := (-2)) zx zb dX10_races_21 (by decide) ?_
      refine b_wi (cells' := 0) (slots' := 0) (wr := @HAppend.hAppend va_W va_W va_W _ (rcV X nw an sv dv n0 n1 n2 n3 n4 g0 gs gn gm) (rcV X sp adp svp dvp n0p n1p n2p n3p n4p g0p gsp gnp gmp)) G rfl rfl [0, 33] [1, 2, 3, 4, 5, 6, 7, 8, 9, 10, 11, 12, 13, 14, 15, 16, 17, 18, 19, 20, 21, 22, 23, 24, 25, 26, 27, 28, 29, 30, 31, 32] rfl rfl rfl rfl (n_V (As := [.int (-2)]) (rest := []) (C := RX10) (T := TX10) (N := 14) (ci := 8) S G (s_refuse l X h0 nw sp xa la lb fr (-2) H.size) gX10_races_X10_refuse rfl rfl rfl hdV_X10_refuse ⟨Nat.le_of_ble_eq_true rfl, Nat.le_of_ble_eq_true rfl⟩ [0, 33] rfl rfl 0 rfl rfl rfl hl.1 (Nat.le_of_ble_eq_true rfl) dX10_races_23 ⟨Nat.le_of_ble_eq_true rfl, Nat.le_of_ble_eq_true rfl⟩) (fun r_30 u_30 H locs hp_30 G => ?_)
      obtain ⟨f_30, rfl⟩ : ∃ z, z = u_30 := ⟨_, rfl⟩
      have hq_30 := hp_30
      have G : wd X (va_A (@HAppend.hAppend va_W va_W va_W _ (xW h0 nw sp xa la lb) (@HAppend.hAppend va_W va_W va_W _ (rcV X nw an sv dv n0 n1 n2 n3 n4 g0 gs gn gm) (@HAppend.hAppend va_W va_W va_W _ (rcV X sp adp svp dvp n0p n1p n2p n3p n4p g0p gsp gnp gmp) ([((xa 5), .inl (X.2.1, 3, .inl fr))])))) sz) (va_A (@HAppend.hAppend va_W va_W va_W _ (xW h0 nw sp xa la lb) (@HAppend.hAppend va_W va_W va_W _ (rcV X nw an sv dv n0 n1 n2 n3 n4 g0 gs gn gm) (@HAppend.hAppend va_W va_W va_W _ (rcV X sp adp svp dvp n0p n1p n2p n3p n4p g0p gsp gnp gmp) ([((xa 5), .inl (X.2.1, 3, .inl fr))])))) sz) s (@HAppend.hAppend va_W va_W va_W _ (rcV X nw an sv dv n0 n1 n2 n3 n4 g0 gs gn gm) (@HAppend.hAppend va_W va_W va_W _ (rcV X sp adp svp dvp n0p n1p n2p n3p n4p g0p gsp gnp gmp) (@HAppend.hAppend va_W va_W va_W _ (xW h0 nw sp xa la lb) ([((xa 5), .inl (X.2.1, 3, .inl f_30))])))) H locs := G
      exact e_int S zr zlk (vp_nar_int _) G (svp, dvp, n0p, f_30) [32, 0, 1, 2, 3, 4, 5, 6, 7, 8, 9, 10, 11, 12, 13, 14, 15, 16, 17, 18, 19, 20, 21, 22, 23, 24, 25, 26, 27, 28, 29, 30, 31, 33] rfl rfl (Or.inr rfl) (⟨hI_n0p, trivial⟩) dX10_races_26
  · refine lv_if_eq (tgt := 20) zx zb dX10_races_7 (by decide) (fun c_31 => ?_) (fun c_31 => absurd (by decide) c_31)
    refine lv_aload_n zx zb dX10_races_20 rfl (lv_at hl 0 rfl) ?_
    refine lv_bipush (v := (-2)) zx zb dX10_races_21 (by decide) ?_
    refine b_wi (cells' := 0) (slots' := 0) (wr := @HAppend.hAppend va_W va_W va_W _ (rcV X nw an sv dv n0 n1 n2 n3 n4 g0 gs gn gm) (rcV X sp adp svp dvp n0p n1p n2p n3p n4p g0p gsp gnp gmp)) G rfl rfl [0, 33] [1, 2, 3, 4, 5, 6, 7, 8, 9, 10, 11, 12, 13, 14, 15, 16, 17, 18, 19, 20, 21, 22, 23, 24, 25, 26, 27, 28, 29, 30, 31, 32] rfl rfl rfl rfl (n_V (As := [.int (-2)]) (rest := []) (C := RX10) (T := TX10) (N := 14) (ci := 8) S G (s_refuse l X h0 nw sp xa la lb fr (-2) H.size) gX10_races_X10_refuse rfl rfl rfl hdV_X10_refuse ⟨Nat.le_of_ble_eq_true rfl, Nat.le_of_ble_eq_true rfl⟩ [0, 33] rfl rfl 0 rfl rfl rfl hl.1 (Nat.le_of_ble_eq_true rfl) dX10_races_23 ⟨Nat.le_of_ble_eq_true rfl, Nat.le_of_ble_eq_true rfl⟩) (fun r_32 u_32 H locs hp_32 G => ?_)
    obtain ⟨f_32, rfl⟩ : ∃ z, z = u_32 := ⟨_, rfl⟩
    have hq_32 := hp_32
    have G : wd X (va_A (@HAppend.hAppend va_W va_W va_W _ (xW h0 nw sp xa la lb) (@HAppend.hAppend va_W va_W va_W _ (rcV X nw an sv dv n0 n1 n2 n3 n4 g0 gs gn gm) (@HAppend.hAppend va_W va_W va_W _ (rcV X sp adp svp dvp n0p n1p n2p n3p n4p g0p gsp gnp gmp) ([((xa 5), .inl (X.2.1, 3, .inl fr))])))) sz) (va_A (@HAppend.hAppend va_W va_W va_W _ (xW h0 nw sp xa la lb) (@HAppend.hAppend va_W va_W va_W _ (rcV X nw an sv dv n0 n1 n2 n3 n4 g0 gs gn gm) (@HAppend.hAppend va_W va_W va_W _ (rcV X sp adp svp dvp n0p n1p n2p n3p n4p g0p gsp gnp gmp) ([((xa 5), .inl (X.2.1, 3, .inl fr))])))) sz) s (@HAppend.hAppend va_W va_W va_W _ (rcV X nw an sv dv n0 n1 n2 n3 n4 g0 gs gn gm) (@HAppend.hAppend va_W va_W va_W _ (rcV X sp adp svp dvp n0p n1p n2p n3p n4p g0p gsp gnp gmp) (@HAppend.hAppend va_W va_W va_W _ (xW h0 nw sp xa la lb) ([((xa 5), .inl (X.2.1, 3, .inl f_32))])))) H locs := G
    exact e_int S zr zlk (vp_nar_int _) G (svp, dvp, n0p, f_32) [32, 0, 1, 2, 3, 4, 5, 6, 7, 8, 9, 10, 11, 12, 13, 14, 15, 16, 17, 18, 19, 20, 21, 22, 23, 24, 25, 26, 27, 28, 29, 30, 31, 33] rfl rfl (Or.inr rfl) (⟨hI_n0p, trivial⟩) dX10_races_26
theorem in_X10_mostAlike_X10 : ∀ w ∈ wsX100, w ∈ wsX10_mostAlike := by decide +kernel
theorem lk_X10_mostAlike_58 : Cond.fieldLink RX10 58 "EggSpoons" "tally" "LEggSpoons$Tally;" ∈ wsX10_mostAlike := by decide +kernel
theorem hdV_X9_restart : yX9_restart.cls = RX9 ∧ yX9_restart.cls ≠ "java/lang/invoke/MethodHandle" ∧ yX9_restart.cls ≠ "java/lang/invoke/VarHandle" ∧ (parseMethodDescriptor yX9_restart.desc).map (fun d => d.parameters.length) = some 0 := by decide +kernel
theorem hdS_X10_farBy : yX10_farBy.cls ≠ "java/lang/invoke/MethodHandle" ∧ yX10_farBy.cls ≠ "java/lang/invoke/VarHandle" ∧ (parseMethodDescriptor yX10_farBy.desc).map (fun d => d.parameters.length) = some 4 := by decide +kernel
theorem hdV_X9_see : yX9_see.cls = RX9 ∧ yX9_see.cls ≠ "java/lang/invoke/MethodHandle" ∧ yX9_see.cls ≠ "java/lang/invoke/VarHandle" ∧ (parseMethodDescriptor yX9_see.desc).map (fun d => d.parameters.length) = some 1 := by decide +kernel
theorem in_X10_mostAlike_X9 : ∀ w ∈ wsX90, w ∈ wsX10_mostAlike := by decide +kernel
theorem lk_X10_mostAlike_317 : Cond.fieldLink RX10 317 "EggSpoons$Tally" "most" "I" ∈ wsX10_mostAlike := by decide +kernel
set_option maxHeartbeats 4000000 in
set_option maxRecDepth 100000 in
/-- mostAlike -/
theorem s_mostAlike0 (l : Launch) (X : EX) (h0 : Nat) (nw : Nat) (sp : Nat) (xa : Nat → Nat) (la : Int64) (lb : Int64) (hc : Nat) (tm : Int32) (tf : Nat → Int32) (hr : Nat) (ar : Nat → Int32) (dr : Nat → Int32) (x3 : Int32) (x4 : Int32) (sz : Nat) : Met l yX10_mostAlike wsX10_mostAlike ({ frames := 2, cells := 0, slots := 0, locals := 49 } : Room) (pE X [.ref h0, .ref hr, .int 0, .int x3, .int x4] (@HAppend.hAppend va_W va_W va_W _ (xW h0 nw sp xa la lb) (@HAppend.hAppend va_W va_W va_W _ ([((xa 10), .inr (7, [.ref hc, .int tm])), (hc, .inl (X.2.1, 16, .inl tf))]) (rnV hr ar dr))) sz) (qI (fun (r : Int32) (u : (Int32) × (Nat → Int32)) => (True)) X (fun (u : (Int32) × (Nat → Int32)) => @HAppend.hAppend va_W va_W va_W _ (xW h0 nw sp xa la lb) (@HAppend.hAppend va_W va_W va_W _ ([((xa 10), .inr (7, [.ref hc, .int u.1])), (hc, .inl (X.2.1, 16, .inl u.2))]) (rnV hr ar dr))) (@HAppend.hAppend va_W va_W va_W _ (xW h0 nw sp xa la lb) (@HAppend.hAppend va_W va_W va_W _ ([((xa 10), .inr (7, [.ref hc, .int tm])), (hc, .inl (X.2.1, 16, .inl tf))]) (rnV hr ar dr))) sz) 0 0 (va_A (@HAppend.hAppend va_W va_W va_W _ (xW h0 nw sp xa la lb) (@HAppend.hAppend va_W va_W va_W _ ([((xa 10), .inr (7, [.ref hc, .int tm])), (hc, .inl (X.2.1, 16, .inl tf))]) (rnV hr ar dr))) sz) := by
  refine mk_met (B := (va_A (@HAppend.hAppend va_W va_W va_W _ (xW h0 nw sp xa la lb) (@HAppend.hAppend va_W va_W va_W _ ([((xa 10), .inr (7, [.ref hc, .int tm])), (hc, .inl (X.2.1, 16, .inl tf))]) (rnV hr ar dr))) sz)) (A := (va_A (@HAppend.hAppend va_W va_W va_W _ (xW h0 nw sp xa la lb) (@HAppend.hAppend va_W va_W va_W _ ([((xa 10), .inr (7, [.ref hc, .int tm])), (hc, .inl (X.2.1, 16, .inl tf))]) (rnV hr ar dr))) sz)) (cc := cX10_mostAlike) (maxL := 6) (ret := (some .int)) (by decide) rfl (Nat.le_of_ble_eq_true rfl) k_w k_a (fun p e s m below meth c S zr zlk znm zsz G ls hl => ?_)
  have S : CallFix p m c cX10_mostAlike 6 s _ wsX10_mostAlike RX10 := S
  have zx := S.1
  have zb := S.2.1
  have hl : lv_has ls 6 [(0, .ref h0), (1, .ref hr), (2, .int 0), (3, .int x3), (4, .int x4)] := hl
  refine lv_aload_n zx zb dX10_mostAlike_0 rfl (lv_at hl 0 rfl) ?_
  refine r_get (C := RX10) (T := TX10) (N := 14) (ci := 8) (v := .ref (xa 10)) S in_X10_mostAlike_X10 G 0 rfl rfl 10 (by decide) lk_X10_mostAlike_58 rfl dX10_mostAlike_1 ?_
  refine b_wv (cells' := 0) (slots' := 0) (wr := @HAppend.hAppend va_W va_W va_W _ (xW h0 nw sp xa la lb) (rnV hr ar dr)) G rfl rfl [1, 2] [0, 3] rfl rfl rfl rfl (n_V (As := []) (rest := []) (C := RX9) (T := TX9) (N := 2) (ci := 7) S G (s_trestart l X (xa 10) hc tm tf s.heap.size) gX10_mostAlike_X9_restart rfl rfl rfl hdV_X9_restart ⟨Nat.le_of_ble_eq_true rfl, Nat.le_of_ble_eq_true rfl⟩ [1, 2] rfl rfl 1 rfl rfl rfl hl.1 (Nat.le_of_ble_eq_true rfl) dX10_mostAlike_4 ⟨Nat.le_of_ble_eq_true rfl, Nat.le_of_ble_eq_true rfl⟩) (fun u_1 H locs hp_1 G => ?_)
  obtain ⟨m_1a, f_1b⟩ := u_1
  have hq_1 := hp_1
  have G : wd X (va_A (@HAppend.hAppend va_W va_W va_W _ (xW h0 nw sp xa la lb) (@HAppend.hAppend va_W va_W va_W _ ([((xa 10), .inr (7, [.ref hc, .int tm])), (hc, .inl (X.2.1, 16, .inl tf))]) (rnV hr ar dr))) sz) (va_A (@HAppend.hAppend va_W va_W va_W _ (xW h0 nw sp xa la lb) (@HAppend.hAppend va_W va_W va_W _ ([((xa 10), .inr (7, [.ref hc, .int tm])), (hc, .inl (X.2.1, 16, .inl tf))]) (rnV hr ar dr))) sz) s (@HAppend.hAppend va_W va_W va_W _ (xW h0 nw sp xa la lb) (@HAppend.hAppend va_W va_W va_W _ (rnV hr ar dr) ([((xa 10), .inr (7, [.ref hc, .int m_1a])), (hc, .inl (X.2.1, 16, .inl f_1b))]))) H locs := G
  refine lv_iconst (v := 0) zx zb dX10_mostAlike_7 (by decide) ?_
  refine lv_istore (lv' := [(5, .int 0), (0, .ref h0), (1, .ref hr), (2, .int 0), (3, .int x3), (4, .int x4)]) zx zb dX10_mostAlike_8 hl (by decide) rfl (fun ls hl => ?_)
  refine k_loop (P := ∀ (zm : Nat) (k10 : Nat) (m10_2 : Int32) (f10_2 : Nat → Int32) (H : Heap) (locs : List Loc) (ls : Array Slot), 10 + 1 ≤ k10 + zm → (k10 ≤ 10) → wd X (va_A (@HAppend.hAppend va_W va_W va_W _ (xW h0 nw sp xa la lb) (@HAppend.hAppend va_W va_W va_W _ ([((xa 10), .inr (7, [.ref hc, .int tm])), (hc, .inl (X.2.1, 16, .inl tf))]) (rnV hr ar dr))) sz) (va_A (@HAppend.hAppend va_W va_W va_W _ (xW h0 nw sp xa la lb) (@HAppend.hAppend va_W va_W va_W _ ([((xa 10), .inr (7, [.ref hc, .int tm])), (hc, .inl (X.2.1, 16, .inl tf))]) (rnV hr ar dr))) sz) s (@HAppend.hAppend va_W va_W va_W _ (xW h0 nw sp xa la lb) (@HAppend.hAppend va_W va_W va_W _ (rnV hr ar dr) ([((xa 10), .inr (7, [.ref hc, .int m10_2])), (hc, .inl (X.2.1, 16, .inl f10_2))]))) H locs → lv_has ls 6 [(5, .int (nI k10)), (0, .ref h0), (1, .ref hr), (2, .int 0), (3, .int x3), (4, .int x4)] → W p l e _ s m _ below meth c H locs _ _ _ (F0 m 10 ls [])) (fun loop => loop (10 + 1) 0 m_1a f_1b _ _ _ (by omega) (by omega) G hl) ?_
  intro zm
  induction zm with
  | zero => intro k10 m10_2 f10_2 H locs ls zz q_hk_k10 _ _; exact absurd zz (by omega)
  | succ zm ih10 =>
    intro k10 m10_2 f10_2 H locs ls zm_10 hk_k10 G hl
    refine lv_iload zx zb dX10_mostAlike_10 (lv_at hl 0 rfl) ?_
    refine lv_bipush (v := 9) zx zb dX10_mostAlike_12 (by decide) ?_
    refine lv_icmp_gt (tgt := 48) zx zb dX10_mostAlike_14 (by decide) (fun c_2 => ?_) (fun c_2 => ?_)
    · have fc_2 := j_lt (a := 9) (b := k10) (by omega) (by omega) c_2
      refine lv_aload_n zx zb dX10_mostAlike_48 rfl (lv_at hl 1 rfl) ?_
      refine r_get (C := RX10) (T := TX10) (N := 14) (ci := 8) (v := .ref (xa 10)) S in_X10_mostAlike_X10 G 0 rfl rfl 10 (by decide) lk_X10_mostAlike_58 rfl dX10_mostAlike_49 ?_
      refine r_get (C := RX9) (T := TX9) (N := 2) (ci := 7) (v := .int m10_2) S in_X10_mostAlike_X9 G 2 rfl rfl 1 (by decide) lk_X10_mostAlike_317 rfl dX10_mostAlike_52 ?_
      exact e_int S zr zlk (vp_nar_int _) G (m10_2, f10_2) [0, 2, 3, 1] rfl rfl (Or.inr rfl) (trivial) dX10_mostAlike_55
    · have fc_2 := j_nlt (a := 9) (b := k10) (by omega) (by omega) c_2
      refine lv_iload_n zx zb dX10_mostAlike_17 rfl (lv_at hl 4 rfl) ?_
      refine lv_iload zx zb dX10_mostAlike_18 (lv_at hl 0 rfl) ?_
      refine o_ri (cells' := 0) (slots' := 0) G rfl rfl (n_S (As := [.int x3, .int (nI k10)]) (rest := []) S G (s_hasBit l X x3 (nI k10) H.size) gX10_mostAlike_X10_hasBit rfl rfl rfl hdS_X10_hasBit ⟨Nat.le_of_ble_eq_true rfl, Nat.le_of_ble_eq_true rfl⟩ [] rfl rfl rfl hl.1 (Nat.le_of_ble_eq_true rfl) dX10_mostAlike_20 ⟨Nat.le_of_ble_eq_true rfl, Nat.le_of_ble_eq_true rfl⟩) (fun r_3 u_3 H locs hp_3 G => ?_)
      have G : wd X (va_A (@HAppend.hAppend va_W va_W va_W _ (xW h0 nw sp xa la lb) (@HAppend.hAppend va_W va_W va_W _ ([((xa 10), .inr (7, [.ref hc, .int tm])), (hc, .inl (X.2.1, 16, .inl tf))]) (rnV hr ar dr))) sz) (va_A (@HAppend.hAppend va_W va_W va_W _ (xW h0 nw sp xa la lb) (@HAppend.hAppend va_W va_W va_W _ ([((xa 10), .inr (7, [.ref hc, .int tm])), (hc, .inl (X.2.1, 16, .inl tf))]) (rnV hr ar dr))) sz) s (@HAppend.hAppend va_W va_W va_W _ (xW h0 nw sp xa la lb) (@HAppend.hAppend va_W va_W va_W _ (rnV hr ar dr) ([((xa 10), .inr (7, [.ref hc, .int m10_2])), (hc, .inl (X.2.1, 16, .inl f10_2))]))) H locs := G
      refine k_cutW (PP := fun Wx => ∀ (m_5 : Int32) (f_6 : Nat → Int32) (H : Heap) (locs : List Loc) (ls : Array Slot), wd X (va_A (@HAppend.hAppend va_W va_W va_W _ (xW h0 nw sp xa la lb) (@HAppend.hAppend va_W va_W va_W _ ([((xa 10), .inr (7, [.ref hc, .int tm])), (hc, .inl (X.2.1, 16, .inl tf))]) (rnV hr ar dr))) sz) (va_A (@HAppend.hAppend va_W va_W va_W _ (xW h0 nw sp xa la lb) (@HAppend.hAppend va_W va_W va_W _ ([((xa 10), .inr (7, [.ref hc, .int tm])), (hc, .inl (X.2.1, 16, .inl tf))]) (rnV hr ar dr))) sz) s (@HAppend.hAppend va_W va_W va_W _ (xW h0 nw sp xa la lb) (@HAppend.hAppend va_W va_W va_W _ (rnV hr ar dr) ([((xa 10), .inr (7, [.ref hc, .int m_5])), (hc, .inl (X.2.1, 16, .inl f_6))]))) H locs → lv_has ls 6 [(5, .int (nI k10)), (0, .ref h0), (1, .ref hr), (2, .int 0), (3, .int x3), (4, .int x4)] → Wx (F0 m 42 ls []) H locs) ?_ ?_
      · intro join_23
        refine lv_if_eq (tgt := 42) zx zb dX10_mostAlike_23 (by decide) (fun c_4 => ?_) (fun c_4 => ?_)
        · exact join_23 m10_2 f10_2 _ _ _  G hl
        · refine lv_aload_n zx zb dX10_mostAlike_26 rfl (lv_at hl 1 rfl) ?_
          refine r_get (C := RX10) (T := TX10) (N := 14) (ci := 8) (v := .ref (xa 10)) S in_X10_mostAlike_X10 G 0 rfl rfl 10 (by decide) lk_X10_mostAlike_58 rfl dX10_mostAlike_27 ?_
          refine lv_aload_n zx zb dX10_mostAlike_30 rfl (lv_at hl 2 rfl) ?_
          refine lv_iload_n zx zb dX10_mostAlike_31 rfl (lv_at hl 3 rfl) ?_
          refine lv_iload zx zb dX10_mostAlike_32 (lv_at hl 0 rfl) ?_
          refine lv_iload zx zb dX10_mostAlike_34 (lv_at hl 5 rfl) ?_
          refine o_ri (cells' := 0) (slots' := 0) G rfl rfl (n_S (As := [.ref hr, .int 0, .int (nI k10), .int x4]) (rest := [.ref (xa 10)]) S G (s_farBy0 l X hr ar dr (nI k10) x4 H.size) gX10_mostAlike_X10_farBy rfl rfl rfl hdS_X10_farBy ⟨Nat.le_of_ble_eq_true rfl, Nat.le_of_ble_eq_true rfl⟩ [1] rfl rfl rfl hl.1 (Nat.le_of_ble_eq_true rfl) dX10_mostAlike_36 ⟨Nat.le_of_ble_eq_true rfl, Nat.le_of_ble_eq_true rfl⟩) (fun r_7 u_7 H locs hp_7 G => ?_)
          have G : wd X (va_A (@HAppend.hAppend va_W va_W va_W _ (xW h0 nw sp xa la lb) (@HAppend.hAppend va_W va_W va_W _ ([((xa 10), .inr (7, [.ref hc, .int tm])), (hc, .inl (X.2.1, 16, .inl tf))]) (rnV hr ar dr))) sz) (va_A (@HAppend.hAppend va_W va_W va_W _ (xW h0 nw sp xa la lb) (@HAppend.hAppend va_W va_W va_W _ ([((xa 10), .inr (7, [.ref hc, .int tm])), (hc, .inl (X.2.1, 16, .inl tf))]) (rnV hr ar dr))) sz) s (@HAppend.hAppend va_W va_W va_W _ (xW h0 nw sp xa la lb) (@HAppend.hAppend va_W va_W va_W _ (rnV hr ar dr) ([((xa 10), .inr (7, [.ref hc, .int m10_2])), (hc, .inl (X.2.1, 16, .inl f10_2))]))) H locs := G
          refine b_wv (cells' := 0) (slots' := 0) (wr := @HAppend.hAppend va_W va_W va_W _ (xW h0 nw sp xa la lb) (rnV hr ar dr)) G rfl rfl [2, 3] [0, 1] rfl rfl rfl rfl (n_V (As := [.int r_7]) (rest := []) (C := RX9) (T := TX9) (N := 2) (ci := 7) S G (s_see l X (xa 10) hc m10_2 f10_2 r_7 H.size) gX10_mostAlike_X9_see rfl rfl rfl hdV_X9_see ⟨Nat.le_of_ble_eq_true rfl, Nat.le_of_ble_eq_true rfl⟩ [2, 3] rfl rfl 2 rfl rfl rfl hl.1 (Nat.le_of_ble_eq_true rfl) dX10_mostAlike_39 ⟨Nat.le_of_ble_eq_true rfl, Nat.le_of_ble_eq_true rfl⟩) (fun u_8 H locs hp_8 G => ?_)
          obtain ⟨m_8a, f_8b⟩ := u_8
          have hq_8 := hp_8
          have G : wd X (va_A (@HAppend.hAppend va_W va_W va_W _ (xW h0 nw sp xa la lb) (@HAppend.hAppend va_W va_W va_W _ ([((xa 10), .inr (7, [.ref hc, .int tm])), (hc, .inl (X.2.1, 16, .inl tf))]) (rnV hr ar dr))) sz) (va_A (@HAppend.hAppend va_W va_W va_W _ (xW h0 nw sp xa la lb) (@HAppend.hAppend va_W va_W va_W _ ([((xa 10), .inr (7, [.ref hc, .int tm])), (hc, .inl (X.2.1, 16, .inl tf))]) (rnV hr ar dr))) sz) s (@HAppend.hAppend va_W va_W va_W _ (xW h0 nw sp xa la lb) (@HAppend.hAppend va_W va_W va_W _ (rnV hr ar dr) ([((xa 10), .inr (7, [.ref hc, .int m_8a])), (hc, .inl (X.2.1, 16, .inl f_8b))]))) H locs := G
          exact join_23 m_8a f_8b _ _ _  G hl
      · intro m_5 f_6 H locs ls  G hl
        refine lv_iinc (v := (nI (k10 + 1))) (lv' := [(5, .int (nI (k10 + 1))), (0, .ref h0), (1, .ref hr), (2, .int 0), (3, .int x3), (4, .int x4)]) zx zb dX10_mostAlike_42 hl (k := 0) rfl (nI_add k10 1) (by decide) rfl (fun ls hl => ?_)
        refine lv_goto (tgt := 10) zx zb dX10_mostAlike_45 (by decide) ?_
        exact ih10 (k10 + 1) m_5 f_6 _ _ _ (by omega) (by omega) G hl
theorem hdV_X10_mostAlike : yX10_mostAlike.cls = RX10 ∧ yX10_mostAlike.cls ≠ "java/lang/invoke/MethodHandle" ∧ yX10_mostAlike.cls ≠ "java/lang/invoke/VarHandle" ∧ (parseMethodDescriptor yX10_mostAlike.desc).map (fun d => d.parameters.length) = some 4 := by decide +kernel
set_option maxHeartbeats 4000000 in
set_option maxRecDepth 100000 in
/-- nextLook -/
theorem s_nextLook0 (l : Launch) (X : EX) (h0 : Nat) (nw : Nat) (sp : Nat) (xa : Nat → Nat) (la : Int64) (lb : Int64) (hc : Nat) (tm : Int32) (tf : Nat → Int32) (hr : Nat) (ar : Nat → Int32) (dr : Nat → Int32) (x3 : Int32) (sz : Nat) : Met l yX10_nextLook wsX10_nextLook ({ frames := 3, cells := 0, slots := 0, locals := 74 } : Room) (pE X [.ref h0, .ref hr, .int 0, .int x3, .int 200] (@HAppend.hAppend va_W va_W va_W _ (xW h0 nw sp xa la lb) (@HAppend.hAppend va_W va_W va_W _ ([((xa 10), .inr (7, [.ref hc, .int tm])), (hc, .inl (X.2.1, 16, .inl tf))]) (rnV hr ar dr))) sz) (qI (fun (r : Int32) (u : (Int32) × (Nat → Int32)) => (True)) X (fun (u : (Int32) × (Nat → Int32)) => @HAppend.hAppend va_W va_W va_W _ (xW h0 nw sp xa la lb) (@HAppend.hAppend va_W va_W va_W _ ([((xa 10), .inr (7, [.ref hc, .int u.1])), (hc, .inl (X.2.1, 16, .inl u.2))]) (rnV hr ar dr))) (@HAppend.hAppend va_W va_W va_W _ (xW h0 nw sp xa la lb) (@HAppend.hAppend va_W va_W va_W _ ([((xa 10), .inr (7, [.ref hc, .int tm])), (hc, .inl (X.2.1, 16, .inl tf))]) (rnV hr ar dr))) sz) 0 0 (va_A (@HAppend.hAppend va_W va_W va_W _ (xW h0 nw sp xa la lb) (@HAppend.hAppend va_W va_W va_W _ ([((xa 10), .inr (7, [.ref hc, .int tm])), (hc, .inl (X.2.1, 16, .inl tf))]) (rnV hr ar dr))) sz) := by
  refine mk_met (B := (va_A (@HAppend.hAppend va_W va_W va_W _ (xW h0 nw sp xa la lb) (@HAppend.hAppend va_W va_W va_W _ ([((xa 10), .inr (7, [.ref hc, .int tm])), (hc, .inl (X.2.1, 16, .inl tf))]) (rnV hr ar dr))) sz)) (A := (va_A (@HAppend.hAppend va_W va_W va_W _ (xW h0 nw sp xa la lb) (@HAppend.hAppend va_W va_W va_W _ ([((xa 10), .inr (7, [.ref hc, .int tm])), (hc, .inl (X.2.1, 16, .inl tf))]) (rnV hr ar dr))) sz)) (cc := cX10_nextLook) (maxL := 9) (ret := (some .int)) (by decide) rfl (Nat.le_of_ble_eq_true rfl) k_w k_a (fun p e s m below meth c S zr zlk znm zsz G ls hl => ?_)
  have S : CallFix p m c cX10_nextLook 9 s _ wsX10_nextLook RX10 := S
  have zx := S.1
  have zb := S.2.1
  have hl : lv_has ls 9 [(0, .ref h0), (1, .ref hr), (2, .int 0), (3, .int x3), (4, .int 200)] := hl
  refine lv_iconst (v := (-1)) zx zb dX10_nextLook_0 (by decide) ?_
  refine lv_istore (lv' := [(5, .int (-1)), (0, .ref h0), (1, .ref hr), (2, .int 0), (3, .int x3), (4, .int 200)]) zx zb dX10_nextLook_1 hl (by decide) rfl (fun ls hl => ?_)
  refine lv_iload_n zx zb dX10_nextLook_3 rfl (lv_at hl 4 rfl) ?_
  refine o_ri (cells' := 0) (slots' := 0) G rfl rfl (n_S (As := [.int x3]) (rest := []) S G (s_bitCount l X x3 s.heap.size) gX10_nextLook_J6_bitCount_0f7a4 rfl rfl rfl hdS_J6_bitCount_0f7a4 ⟨Nat.le_of_ble_eq_true rfl, Nat.le_of_ble_eq_true rfl⟩ [] rfl rfl rfl hl.1 (Nat.le_of_ble_eq_true rfl) dX10_nextLook_4 ⟨Nat.le_of_ble_eq_true rfl, Nat.le_of_ble_eq_true rfl⟩) (fun r_1 u_1 H locs hp_1 G => ?_)
  have G : wd X (va_A (@HAppend.hAppend va_W va_W va_W _ (xW h0 nw sp xa la lb) (@HAppend.hAppend va_W va_W va_W _ ([((xa 10), .inr (7, [.ref hc, .int tm])), (hc, .inl (X.2.1, 16, .inl tf))]) (rnV hr ar dr))) sz) (va_A (@HAppend.hAppend va_W va_W va_W _ (xW h0 nw sp xa la lb) (@HAppend.hAppend va_W va_W va_W _ ([((xa 10), .inr (7, [.ref hc, .int tm])), (hc, .inl (X.2.1, 16, .inl tf))]) (rnV hr ar dr))) sz) s (@HAppend.hAppend va_W va_W va_W _ (xW h0 nw sp xa la lb) (@HAppend.hAppend va_W va_W va_W _ ([((xa 10), .inr (7, [.ref hc, .int tm])), (hc, .inl (X.2.1, 16, .inl tf))]) (rnV hr ar dr))) H locs := G
  refine lv_iconst (v := 1) zx zb dX10_nextLook_7 (by decide) ?_
  refine r_iadd (v := (r_1 + 1)) S rfl dX10_nextLook_8 ?_
  refine lv_istore (lv' := [(6, .int (r_1 + 1)), (5, .int (-1)), (0, .ref h0), (1, .ref hr), (2, .int 0), (3, .int x3), (4, .int 200)]) zx zb dX10_nextLook_9 hl (by decide) rfl (fun ls hl => ?_)
  refine lv_iconst (v := 0) zx zb dX10_nextLook_11 (by decide) ?_
  refine lv_istore (lv' := [(7, .int 0), (6, .int (r_1 + 1)), (5, .int (-1)), (0, .ref h0), (1, .ref hr), (2, .int 0), (3, .int x3), (4, .int 200)]) zx zb dX10_nextLook_12 hl (by decide) rfl (fun ls hl => ?_)
  refine k_loop (P := ∀ (zm : Nat) (k14 : Nat) (x14_6 : Int32) (x14_5 : Int32) (m14_1 : Int32) (f14_1 : Nat → Int32) (H : Heap) (locs : List Loc) (ls : Array Slot), 200 + 1 ≤ k14 + zm → (k14 ≤ 200) → wd X (va_A (@HAppend.hAppend va_W va_W va_W _ (xW h0 nw sp xa la lb) (@HAppend.hAppend va_W va_W va_W _ ([((xa 10), .inr (7, [.ref hc, .int tm])), (hc, .inl (X.2.1, 16, .inl tf))]) (rnV hr ar dr))) sz) (va_A (@HAppend.hAppend va_W va_W va_W _ (xW h0 nw sp xa la lb) (@HAppend.hAppend va_W va_W va_W _ ([((xa 10), .inr (7, [.ref hc, .int tm])), (hc, .inl (X.2.1, 16, .inl tf))]) (rnV hr ar dr))) sz) s (@HAppend.hAppend va_W va_W va_W _ (xW h0 nw sp xa la lb) (@HAppend.hAppend va_W va_W va_W _ ([((xa 10), .inr (7, [.ref hc, .int m14_1])), (hc, .inl (X.2.1, 16, .inl f14_1))]) (rnV hr ar dr))) H locs → lv_has ls 9 [(7, .int (nI k14)), (6, .int x14_6), (5, .int x14_5), (0, .ref h0), (1, .ref hr), (2, .int 0), (3, .int x3), (4, .int 200)] → W p l e _ s m _ below meth c H locs _ _ _ (F0 m 14 ls [])) (fun loop => loop (200 + 1) 0 (r_1 + 1) (-1) tm tf _ _ _ (by omega) (by omega) G hl) ?_
  intro zm
  induction zm with
  | zero => intro k14 x14_6 x14_5 m14_1 f14_1 H locs ls zz q_hk_k14 _ _; exact absurd zz (by omega)
  | succ zm ih14 =>
    intro k14 x14_6 x14_5 m14_1 f14_1 H locs ls zm_14 hk_k14 G hl
    refine lv_iload zx zb dX10_nextLook_14 (lv_at hl 0 rfl) ?_
    refine lv_iload zx zb dX10_nextLook_16 (lv_at hl 7 rfl) ?_
    refine k_cutW (PP := fun Wx => ∀ (H : Heap) (locs : List Loc) (ls : Array Slot), wd X (va_A (@HAppend.hAppend va_W va_W va_W _ (xW h0 nw sp xa la lb) (@HAppend.hAppend va_W va_W va_W _ ([((xa 10), .inr (7, [.ref hc, .int tm])), (hc, .inl (X.2.1, 16, .inl tf))]) (rnV hr ar dr))) sz) (va_A (@HAppend.hAppend va_W va_W va_W _ (xW h0 nw sp xa la lb) (@HAppend.hAppend va_W va_W va_W _ ([((xa 10), .inr (7, [.ref hc, .int tm])), (hc, .inl (X.2.1, 16, .inl tf))]) (rnV hr ar dr))) sz) s (@HAppend.hAppend va_W va_W va_W _ (xW h0 nw sp xa la lb) (@HAppend.hAppend va_W va_W va_W _ ([((xa 10), .inr (7, [.ref hc, .int m14_1])), (hc, .inl (X.2.1, 16, .inl f14_1))]) (rnV hr ar dr))) H locs → lv_has ls 9 [(7, .int (nI k14)), (6, .int x14_6), (5, .int x14_5), (0, .ref h0), (1, .ref hr), (2, .int 0), (3, .int x3), (4, .int 200)] → Wx (F0 m 59 ls []) H locs) ?_ ?_
    · intro join_18
      refine lv_icmp_ge (tgt := 59) zx zb dX10_nextLook_18 (by decide) (fun c_2 => ?_) (fun c_2 => ?_)
      · have fc_2 := j_le (a := 200) (b := k14) (by omega) (by omega) c_2
        exact join_18  _ _ _  G hl
      · have fc_2 := j_nle (a := 200) (b := k14) (by omega) (by omega) c_2
        refine lv_iload zx zb dX10_nextLook_21 (lv_at hl 1 rfl) ?_
        refine lv_iconst (v := 1) zx zb dX10_nextLook_23 (by decide) ?_
        refine lv_icmp_le (tgt := 59) zx zb dX10_nextLook_24 (by decide) (fun c_3 => ?_) (fun c_3 => ?_)
        · exact join_18  _ _ _  G hl
        · refine lv_aload_n zx zb dX10_nextLook_27 rfl (lv_at hl 3 rfl) ?_
          refine lv_aload_n zx zb dX10_nextLook_28 rfl (lv_at hl 4 rfl) ?_
          refine lv_iload_n zx zb dX10_nextLook_29 rfl (lv_at hl 5 rfl) ?_
          refine lv_iload_n zx zb dX10_nextLook_30 rfl (lv_at hl 6 rfl) ?_
          refine lv_iload zx zb dX10_nextLook_31 (lv_at hl 0 rfl) ?_
          refine b_wi (cells' := 0) (slots' := 0) (wr := []) G rfl rfl [0, 1, 2, 3] [] rfl rfl rfl rfl (n_V (As := [.ref hr, .int 0, .int x3, .int (nI k14)]) (rest := []) (C := RX10) (T := TX10) (N := 14) (ci := 8) S G (s_mostAlike0 l X h0 nw sp xa la lb hc m14_1 f14_1 hr ar dr x3 (nI k14) H.size) gX10_nextLook_X10_mostAlike rfl rfl rfl hdV_X10_mostAlike ⟨Nat.le_of_ble_eq_true rfl, Nat.le_of_ble_eq_true rfl⟩ [0, 1, 2, 3] rfl rfl 0 rfl rfl rfl hl.1 (Nat.le_of_ble_eq_true rfl) dX10_nextLook_33 ⟨Nat.le_of_ble_eq_true rfl, Nat.le_of_ble_eq_true rfl⟩) (fun r_4 u_4 H locs hp_4 G => ?_)
          obtain ⟨m_4a, f_4b⟩ := u_4
          have hq_4 := hp_4
          have G : wd X (va_A (@HAppend.hAppend va_W va_W va_W _ (xW h0 nw sp xa la lb) (@HAppend.hAppend va_W va_W va_W _ ([((xa 10), .inr (7, [.ref hc, .int tm])), (hc, .inl (X.2.1, 16, .inl tf))]) (rnV hr ar dr))) sz) (va_A (@HAppend.hAppend va_W va_W va_W _ (xW h0 nw sp xa la lb) (@HAppend.hAppend va_W va_W va_W _ ([((xa 10), .inr (7, [.ref hc, .int tm])), (hc, .inl (X.2.1, 16, .inl tf))]) (rnV hr ar dr))) sz) s (@HAppend.hAppend va_W va_W va_W _ (xW h0 nw sp xa la lb) (@HAppend.hAppend va_W va_W va_W _ ([((xa 10), .inr (7, [.ref hc, .int m_4a])), (hc, .inl (X.2.1, 16, .inl f_4b))]) (rnV hr ar dr))) H locs := G
          refine lv_istore (lv' := [(8, .int r_4), (7, .int (nI k14)), (6, .int x14_6), (5, .int x14_5), (0, .ref h0), (1, .ref hr), (2, .int 0), (3, .int x3), (4, .int 200)]) zx zb dX10_nextLook_36 hl (by decide) rfl (fun ls hl => ?_)
          refine lv_iload zx zb dX10_nextLook_38 (lv_at hl 0 rfl) ?_
          refine lv_iload zx zb dX10_nextLook_40 (lv_at hl 2 rfl) ?_
          refine k_cutW (PP := fun Wx => ∀ (x_6 : Int32) (x_7 : Int32) (H : Heap) (locs : List Loc) (ls : Array Slot), wd X (va_A (@HAppend.hAppend va_W va_W va_W _ (xW h0 nw sp xa la lb) (@HAppend.hAppend va_W va_W va_W _ ([((xa 10), .inr (7, [.ref hc, .int tm])), (hc, .inl (X.2.1, 16, .inl tf))]) (rnV hr ar dr))) sz) (va_A (@HAppend.hAppend va_W va_W va_W _ (xW h0 nw sp xa la lb) (@HAppend.hAppend va_W va_W va_W _ ([((xa 10), .inr (7, [.ref hc, .int tm])), (hc, .inl (X.2.1, 16, .inl tf))]) (rnV hr ar dr))) sz) s (@HAppend.hAppend va_W va_W va_W _ (xW h0 nw sp xa la lb) (@HAppend.hAppend va_W va_W va_W _ ([((xa 10), .inr (7, [.ref hc, .int m_4a])), (hc, .inl (X.2.1, 16, .inl f_4b))]) (rnV hr ar dr))) H locs → lv_has ls 9 [(8, .int r_4), (7, .int (nI k14)), (6, .int x_6), (5, .int x_7), (0, .ref h0), (1, .ref hr), (2, .int 0), (3, .int x3), (4, .int 200)] → Wx (F0 m 53 ls []) H locs) ?_ ?_
          · intro join_42
            refine lv_icmp_ge (tgt := 53) zx zb dX10_nextLook_42 (by decide) (fun c_5 => ?_) (fun c_5 => ?_)
            · exact join_42 x14_6 x14_5 _ _ _  G hl
            · refine lv_iload zx zb dX10_nextLook_45 (lv_at hl 0 rfl) ?_
              refine lv_istore (lv' := [(6, .int r_4), (8, .int r_4), (7, .int (nI k14)), (5, .int x14_5), (0, .ref h0), (1, .ref hr), (2, .int 0), (3, .int x3), (4, .int 200)]) zx zb dX10_nextLook_47 hl (by decide) rfl (fun ls hl => ?_)
              refine lv_iload zx zb dX10_nextLook_49 (lv_at hl 2 rfl) ?_
              refine lv_istore (lv' := [(5, .int (nI k14)), (6, .int r_4), (8, .int r_4), (7, .int (nI k14)), (0, .ref h0), (1, .ref hr), (2, .int 0), (3, .int x3), (4, .int 200)]) zx zb dX10_nextLook_51 hl (by decide) rfl (fun ls hl => ?_)
              have hl := lv_sub hl (l' := [(8, .int r_4), (7, .int (nI k14)), (6, .int r_4), (5, .int (nI k14)), (0, .ref h0), (1, .ref hr), (2, .int 0), (3, .int x3), (4, .int 200)]) [2, 3, 1, 0, 4, 5, 6, 7, 8] rfl
              exact join_42 r_4 (nI k14) _ _ _  G hl
          · intro x_6 x_7 H locs ls  G hl
            refine lv_iinc (v := (nI (k14 + 1))) (lv' := [(7, .int (nI (k14 + 1))), (8, .int r_4), (6, .int x_6), (5, .int x_7), (0, .ref h0), (1, .ref hr), (2, .int 0), (3, .int x3), (4, .int 200)]) zx zb dX10_nextLook_53 hl (k := 1) rfl (nI_add k14 1) (by decide) rfl (fun ls hl => ?_)
            refine lv_goto (tgt := 14) zx zb dX10_nextLook_56 (by decide) ?_
            have hl := lv_sub hl (l' := [(7, .int (nI (k14 + 1))), (6, .int x_6), (5, .int x_7), (0, .ref h0), (1, .ref hr), (2, .int 0), (3, .int x3), (4, .int 200)]) [0, 2, 3, 4, 5, 6, 7, 8] rfl
            exact ih14 (k14 + 1) x_6 x_7 m_4a f_4b _ _ _ (by omega) (by omega) G hl
    · intro  H locs ls  G hl
      refine lv_iload zx zb dX10_nextLook_59 (lv_at hl 2 rfl) ?_
      exact e_int S zr zlk (vp_nar_int _) G (m14_1, f14_1) [0, 1, 2, 3] rfl rfl (Or.inr rfl) (trivial) dX10_nextLook_61
set_option maxHeartbeats 4000000 in
set_option maxRecDepth 100000 in
/-- mostAlike -/
theorem s_mostAlike1 (l : Launch) (X : EX) (h0 : Nat) (nw : Nat) (sp : Nat) (xa : Nat → Nat) (la : Int64) (lb : Int64) (hc : Nat) (tm : Int32) (tf : Nat → Int32) (hr : Nat) (ar : Nat → Int32) (dr : Nat → Int32) (x3 : Int32) (x4 : Int32) (sz : Nat) : Met l yX10_mostAlike wsX10_mostAlike ({ frames := 2, cells := 0, slots := 0, locals := 49 } : Room) (pE X [.ref h0, .ref hr, .int 1, .int x3, .int x4] (@HAppend.hAppend va_W va_W va_W _ (xW h0 nw sp xa la lb) (@HAppend.hAppend va_W va_W va_W _ ([((xa 10), .inr (7, [.ref hc, .int tm])), (hc, .inl (X.2.1, 16, .inl tf))]) (rnV hr ar dr))) sz) (qI (fun (r : Int32) (u : (Int32) × (Nat → Int32)) => (True)) X (fun (u : (Int32) × (Nat → Int32)) => @HAppend.hAppend va_W va_W va_W _ (xW h0 nw sp xa la lb) (@HAppend.hAppend va_W va_W va_W _ ([((xa 10), .inr (7, [.ref hc, .int u.1])), (hc, .inl (X.2.1, 16, .inl u.2))]) (rnV hr ar dr))) (@HAppend.hAppend va_W va_W va_W _ (xW h0 nw sp xa la lb) (@HAppend.hAppend va_W va_W va_W _ ([((xa 10), .inr (7, [.ref hc, .int tm])), (hc, .inl (X.2.1, 16, .inl tf))]) (rnV hr ar dr))) sz) 0 0 (va_A (@HAppend.hAppend va_W va_W va_W _ (xW h0 nw sp xa la lb) (@HAppend.hAppend va_W va_W va_W _ ([((xa 10), .inr (7, [.ref hc, .int tm])), (hc, .inl (X.2.1, 16, .inl tf))]) (rnV hr ar dr))) sz) := by
  refine mk_met (B := (va_A (@HAppend.hAppend va_W va_W va_W _ (xW h0 nw sp xa la lb) (@HAppend.hAppend va_W va_W va_W _ ([((xa 10), .inr (7, [.ref hc, .int tm])), (hc, .inl (X.2.1, 16, .inl tf))]) (rnV hr ar dr))) sz)) (A := (va_A (@HAppend.hAppend va_W va_W va_W _ (xW h0 nw sp xa la lb) (@HAppend.hAppend va_W va_W va_W _ ([((xa 10), .inr (7, [.ref hc, .int tm])), (hc, .inl (X.2.1, 16, .inl tf))]) (rnV hr ar dr))) sz)) (cc := cX10_mostAlike) (maxL := 6) (ret := (some .int)) (by decide) rfl (Nat.le_of_ble_eq_true rfl) k_w k_a (fun p e s m below meth c S zr zlk znm zsz G ls hl => ?_)
  have S : CallFix p m c cX10_mostAlike 6 s _ wsX10_mostAlike RX10 := S
  have zx := S.1
  have zb := S.2.1
  have hl : lv_has ls 6 [(0, .ref h0), (1, .ref hr), (2, .int 1), (3, .int x3), (4, .int x4)] := hl
  refine lv_aload_n zx zb dX10_mostAlike_0 rfl (lv_at hl 0 rfl) ?_
  refine r_get (C := RX10) (T := TX10) (N := 14) (ci := 8) (v := .ref (xa 10)) S in_X10_mostAlike_X10 G 0 rfl rfl 10 (by decide) lk_X10_mostAlike_58 rfl dX10_mostAlike_1 ?_
  refine b_wv (cells' := 0) (slots' := 0) (wr := @HAppend.hAppend va_W va_W va_W _ (xW h0 nw sp xa la lb) (rnV hr ar dr)) G rfl rfl [1, 2] [0, 3] rfl rfl rfl rfl (n_V (As := []) (rest := []) (C := RX9) (T := TX9) (N := 2) (ci := 7) S G (s_trestart l X (xa 10) hc tm tf s.heap.size) gX10_mostAlike_X9_restart rfl rfl rfl hdV_X9_restart ⟨Nat.le_of_ble_eq_true rfl, Nat.le_of_ble_eq_true rfl⟩ [1, 2] rfl rfl 1 rfl rfl rfl hl.1 (Nat.le_of_ble_eq_true rfl) dX10_mostAlike_4 ⟨Nat.le_of_ble_eq_true rfl, Nat.le_of_ble_eq_true rfl⟩) (fun u_1 H locs hp_1 G => ?_)
  obtain ⟨m_1a, f_1b⟩ := u_1
  have hq_1 := hp_1
  have G : wd X (va_A (@HAppend.hAppend va_W va_W va_W _ (xW h0 nw sp xa la lb) (@HAppend.hAppend va_W va_W va_W _ ([((xa 10), .inr (7, [.ref hc, .int tm])), (hc, .inl (X.2.1, 16, .inl tf))]) (rnV hr ar dr))) sz) (va_A (@HAppend.hAppend va_W va_W va_W _ (xW h0 nw sp xa la lb) (@HAppend.hAppend va_W va_W va_W _ ([((xa 10), .inr (7, [.ref hc, .int tm])), (hc, .inl (X.2.1, 16, .inl tf))]) (rnV hr ar dr))) sz) s (@HAppend.hAppend va_W va_W va_W _ (xW h0 nw sp xa la lb) (@HAppend.hAppend va_W va_W va_W _ (rnV hr ar dr) ([((xa 10), .inr (7, [.ref hc, .int m_1a])), (hc, .inl (X.2.1, 16, .inl f_1b))]))) H locs := G
  refine lv_iconst (v := 0) zx zb dX10_mostAlike_7 (by decide) ?_
  refine lv_istore (lv' := [(5, .int 0), (0, .ref h0), (1, .ref hr), (2, .int 1), (3, .int x3), (4, .int x4)]) zx zb dX10_mostAlike_8 hl (by decide) rfl (fun ls hl => ?_)
  refine k_loop (P := ∀ (zm : Nat) (k10 : Nat) (m10_2 : Int32) (f10_2 : Nat → Int32) (H : Heap) (locs : List Loc) (ls : Array Slot), 10 + 1 ≤ k10 + zm → (k10 ≤ 10) → wd X (va_A (@HAppend.hAppend va_W va_W va_W _ (xW h0 nw sp xa la lb) (@HAppend.hAppend va_W va_W va_W _ ([((xa 10), .inr (7, [.ref hc, .int tm])), (hc, .inl (X.2.1, 16, .inl tf))]) (rnV hr ar dr))) sz) (va_A (@HAppend.hAppend va_W va_W va_W _ (xW h0 nw sp xa la lb) (@HAppend.hAppend va_W va_W va_W _ ([((xa 10), .inr (7, [.ref hc, .int tm])), (hc, .inl (X.2.1, 16, .inl tf))]) (rnV hr ar dr))) sz) s (@HAppend.hAppend va_W va_W va_W _ (xW h0 nw sp xa la lb) (@HAppend.hAppend va_W va_W va_W _ (rnV hr ar dr) ([((xa 10), .inr (7, [.ref hc, .int m10_2])), (hc, .inl (X.2.1, 16, .inl f10_2))]))) H locs → lv_has ls 6 [(5, .int (nI k10)), (0, .ref h0), (1, .ref hr), (2, .int 1), (3, .int x3), (4, .int x4)] → W p l e _ s m _ below meth c H locs _ _ _ (F0 m 10 ls [])) (fun loop => loop (10 + 1) 0 m_1a f_1b _ _ _ (by omega) (by omega) G hl) ?_
  intro zm
  induction zm with
  | zero => intro k10 m10_2 f10_2 H locs ls zz q_hk_k10 _ _; exact absurd zz (by omega)
  | succ zm ih10 =>
    intro k10 m10_2 f10_2 H locs ls zm_10 hk_k10 G hl
    refine lv_iload zx zb dX10_mostAlike_10 (lv_at hl 0 rfl) ?_
    refine lv_bipush (v := 9) zx zb dX10_mostAlike_12 (by decide) ?_
    refine lv_icmp_gt (tgt := 48) zx zb dX10_mostAlike_14 (by decide) (fun c_2 => ?_) (fun c_2 => ?_)
    · have fc_2 := j_lt (a := 9) (b := k10) (by omega) (by omega) c_2
      refine lv_aload_n zx zb dX10_mostAlike_48 rfl (lv_at hl 1 rfl) ?_
      refine r_get (C := RX10) (T := TX10) (N := 14) (ci := 8) (v := .ref (xa 10)) S in_X10_mostAlike_X10 G 0 rfl rfl 10 (by decide) lk_X10_mostAlike_58 rfl dX10_mostAlike_49 ?_
      refine r_get (C := RX9) (T := TX9) (N := 2) (ci := 7) (v := .int m10_2) S in_X10_mostAlike_X9 G 2 rfl rfl 1 (by decide) lk_X10_mostAlike_317 rfl dX10_mostAlike_52 ?_
      exact e_int S zr zlk (vp_nar_int _) G (m10_2, f10_2) [0, 2, 3, 1] rfl rfl (Or.inr rfl) (trivial) dX10_mostAlike_55
    · have fc_2 := j_nlt (a := 9) (b := k10) (by omega) (by omega) c_2
      refine lv_iload_n zx zb dX10_mostAlike_17 rfl (lv_at hl 4 rfl) ?_
      refine lv_iload zx zb dX10_mostAlike_18 (lv_at hl 0 rfl) ?_
      refine o_ri (cells' := 0) (slots' := 0) G rfl rfl (n_S (As := [.int x3, .int (nI k10)]) (rest := []) S G (s_hasBit l X x3 (nI k10) H.size) gX10_mostAlike_X10_hasBit rfl rfl rfl hdS_X10_hasBit ⟨Nat.le_of_ble_eq_true rfl, Nat.le_of_ble_eq_true rfl⟩ [] rfl rfl rfl hl.1 (Nat.le_of_ble_eq_true rfl) dX10_mostAlike_20 ⟨Nat.le_of_ble_eq_true rfl, Nat.le_of_ble_eq_true rfl⟩) (fun r_3 u_3 H locs hp_3 G => ?_)
      have G : wd X (va_A (@HAppend.hAppend va_W va_W va_W _ (xW h0 nw sp xa la lb) (@HAppend.hAppend va_W va_W va_W _ ([((xa 10), .inr (7, [.ref hc, .int tm])), (hc, .inl (X.2.1, 16, .inl tf))]) (rnV hr ar dr))) sz) (va_A (@HAppend.hAppend va_W va_W va_W _ (xW h0 nw sp xa la lb) (@HAppend.hAppend va_W va_W va_W _ ([((xa 10), .inr (7, [.ref hc, .int tm])), (hc, .inl (X.2.1, 16, .inl tf))]) (rnV hr ar dr))) sz) s (@HAppend.hAppend va_W va_W va_W _ (xW h0 nw sp xa la lb) (@HAppend.hAppend va_W va_W va_W _ (rnV hr ar dr) ([((xa 10), .inr (7, [.ref hc, .int m10_2])), (hc, .inl (X.2.1, 16, .inl f10_2))]))) H locs := G
      refine k_cutW (PP := fun Wx => ∀ (m_5 : Int32) (f_6 : Nat → Int32) (H : Heap) (locs : List Loc) (ls : Array Slot), wd X (va_A (@HAppend.hAppend va_W va_W va_W _ (xW h0 nw sp xa la lb) (@HAppend.hAppend va_W va_W va_W _ ([((xa 10), .inr (7, [.ref hc, .int tm])), (hc, .inl (X.2.1, 16, .inl tf))]) (rnV hr ar dr))) sz) (va_A (@HAppend.hAppend va_W va_W va_W _ (xW h0 nw sp xa la lb) (@HAppend.hAppend va_W va_W va_W _ ([((xa 10), .inr (7, [.ref hc, .int tm])), (hc, .inl (X.2.1, 16, .inl tf))]) (rnV hr ar dr))) sz) s (@HAppend.hAppend va_W va_W va_W _ (xW h0 nw sp xa la lb) (@HAppend.hAppend va_W va_W va_W _ (rnV hr ar dr) ([((xa 10), .inr (7, [.ref hc, .int m_5])), (hc, .inl (X.2.1, 16, .inl f_6))]))) H locs → lv_has ls 6 [(5, .int (nI k10)), (0, .ref h0), (1, .ref hr), (2, .int 1), (3, .int x3), (4, .int x4)] → Wx (F0 m 42 ls []) H locs) ?_ ?_
      · intro join_23
        refine lv_if_eq (tgt := 42) zx zb dX10_mostAlike_23 (by decide) (fun c_4 => ?_) (fun c_4 => ?_)
        · exact join_23 m10_2 f10_2 _ _ _  G hl
        · refine lv_aload_n zx zb dX10_mostAlike_26 rfl (lv_at hl 1 rfl) ?_
          refine r_get (C := RX10) (T := TX10) (N := 14) (ci := 8) (v := .ref (xa 10)) S in_X10_mostAlike_X10 G 0 rfl rfl 10 (by decide) lk_X10_mostAlike_58 rfl dX10_mostAlike_27 ?_
          refine lv_aload_n zx zb dX10_mostAlike_30 rfl (lv_at hl 2 rfl) ?_
          refine lv_iload_n zx zb dX10_mostAlike_31 rfl (lv_at hl 3 rfl) ?_
          refine lv_iload zx zb dX10_mostAlike_32 (lv_at hl 0 rfl) ?_
          refine lv_iload zx zb dX10_mostAlike_34 (lv_at hl 5 rfl) ?_
          refine o_ri (cells' := 0) (slots' := 0) G rfl rfl (n_S (As := [.ref hr, .int 1, .int (nI k10), .int x4]) (rest := [.ref (xa 10)]) S G (s_farBy1 l X hr ar dr (nI k10) x4 H.size) gX10_mostAlike_X10_farBy rfl rfl rfl hdS_X10_farBy ⟨Nat.le_of_ble_eq_true rfl, Nat.le_of_ble_eq_true rfl⟩ [1] rfl rfl rfl hl.1 (Nat.le_of_ble_eq_true rfl) dX10_mostAlike_36 ⟨Nat.le_of_ble_eq_true rfl, Nat.le_of_ble_eq_true rfl⟩) (fun r_7 u_7 H locs hp_7 G => ?_)
          have G : wd X (va_A (@HAppend.hAppend va_W va_W va_W _ (xW h0 nw sp xa la lb) (@HAppend.hAppend va_W va_W va_W _ ([((xa 10), .inr (7, [.ref hc, .int tm])), (hc, .inl (X.2.1, 16, .inl tf))]) (rnV hr ar dr))) sz) (va_A (@HAppend.hAppend va_W va_W va_W _ (xW h0 nw sp xa la lb) (@HAppend.hAppend va_W va_W va_W _ ([((xa 10), .inr (7, [.ref hc, .int tm])), (hc, .inl (X.2.1, 16, .inl tf))]) (rnV hr ar dr))) sz) s (@HAppend.hAppend va_W va_W va_W _ (xW h0 nw sp xa la lb) (@HAppend.hAppend va_W va_W va_W _ (rnV hr ar dr) ([((xa 10), .inr (7, [.ref hc, .int m10_2])), (hc, .inl (X.2.1, 16, .inl f10_2))]))) H locs := G
          refine b_wv (cells' := 0) (slots' := 0) (wr := @HAppend.hAppend va_W va_W va_W _ (xW h0 nw sp xa la lb) (rnV hr ar dr)) G rfl rfl [2, 3] [0, 1] rfl rfl rfl rfl (n_V (As := [.int r_7]) (rest := []) (C := RX9) (T := TX9) (N := 2) (ci := 7) S G (s_see l X (xa 10) hc m10_2 f10_2 r_7 H.size) gX10_mostAlike_X9_see rfl rfl rfl hdV_X9_see ⟨Nat.le_of_ble_eq_true rfl, Nat.le_of_ble_eq_true rfl⟩ [2, 3] rfl rfl 2 rfl rfl rfl hl.1 (Nat.le_of_ble_eq_true rfl) dX10_mostAlike_39 ⟨Nat.le_of_ble_eq_true rfl, Nat.le_of_ble_eq_true rfl⟩) (fun u_8 H locs hp_8 G => ?_)
          obtain ⟨m_8a, f_8b⟩ := u_8
          have hq_8 := hp_8
          have G : wd X (va_A (@HAppend.hAppend va_W va_W va_W _ (xW h0 nw sp xa la lb) (@HAppend.hAppend va_W va_W va_W _ ([((xa 10), .inr (7, [.ref hc, .int tm])), (hc, .inl (X.2.1, 16, .inl tf))]) (rnV hr ar dr))) sz) (va_A (@HAppend.hAppend va_W va_W va_W _ (xW h0 nw sp xa la lb) (@HAppend.hAppend va_W va_W va_W _ ([((xa 10), .inr (7, [.ref hc, .int tm])), (hc, .inl (X.2.1, 16, .inl tf))]) (rnV hr ar dr))) sz) s (@HAppend.hAppend va_W va_W va_W _ (xW h0 nw sp xa la lb) (@HAppend.hAppend va_W va_W va_W _ (rnV hr ar dr) ([((xa 10), .inr (7, [.ref hc, .int m_8a])), (hc, .inl (X.2.1, 16, .inl f_8b))]))) H locs := G
          exact join_23 m_8a f_8b _ _ _  G hl
      · intro m_5 f_6 H locs ls  G hl
        refine lv_iinc (v := (nI (k10 + 1))) (lv' := [(5, .int (nI (k10 + 1))), (0, .ref h0), (1, .ref hr), (2, .int 1), (3, .int x3), (4, .int x4)]) zx zb dX10_mostAlike_42 hl (k := 0) rfl (nI_add k10 1) (by decide) rfl (fun ls hl => ?_)
        refine lv_goto (tgt := 10) zx zb dX10_mostAlike_45 (by decide) ?_
        exact ih10 (k10 + 1) m_5 f_6 _ _ _ (by omega) (by omega) G hl
set_option maxHeartbeats 4000000 in
set_option maxRecDepth 100000 in
/-- nextLook -/
theorem s_nextLook1 (l : Launch) (X : EX) (h0 : Nat) (nw : Nat) (sp : Nat) (xa : Nat → Nat) (la : Int64) (lb : Int64) (hc : Nat) (tm : Int32) (tf : Nat → Int32) (hr : Nat) (ar : Nat → Int32) (dr : Nat → Int32) (x3 : Int32) (sz : Nat) : Met l yX10_nextLook wsX10_nextLook ({ frames := 3, cells := 0, slots := 0, locals := 74 } : Room) (pE X [.ref h0, .ref hr, .int 1, .int x3, .int 200] (@HAppend.hAppend va_W va_W va_W _ (xW h0 nw sp xa la lb) (@HAppend.hAppend va_W va_W va_W _ ([((xa 10), .inr (7, [.ref hc, .int tm])), (hc, .inl (X.2.1, 16, .inl tf))]) (rnV hr ar dr))) sz) (qI (fun (r : Int32) (u : (Int32) × (Nat → Int32)) => (True)) X (fun (u : (Int32) × (Nat → Int32)) => @HAppend.hAppend va_W va_W va_W _ (xW h0 nw sp xa la lb) (@HAppend.hAppend va_W va_W va_W _ ([((xa 10), .inr (7, [.ref hc, .int u.1])), (hc, .inl (X.2.1, 16, .inl u.2))]) (rnV hr ar dr))) (@HAppend.hAppend va_W va_W va_W _ (xW h0 nw sp xa la lb) (@HAppend.hAppend va_W va_W va_W _ ([((xa 10), .inr (7, [.ref hc, .int tm])), (hc, .inl (X.2.1, 16, .inl tf))]) (rnV hr ar dr))) sz) 0 0 (va_A (@HAppend.hAppend va_W va_W va_W _ (xW h0 nw sp xa la lb) (@HAppend.hAppend va_W va_W va_W _ ([((xa 10), .inr (7, [.ref hc, .int tm])), (hc, .inl (X.2.1, 16, .inl tf))]) (rnV hr ar dr))) sz) := by
  refine mk_met (B := (va_A (@HAppend.hAppend va_W va_W va_W _ (xW h0 nw sp xa la lb) (@HAppend.hAppend va_W va_W va_W _ ([((xa 10), .inr (7, [.ref hc, .int tm])), (hc, .inl (X.2.1, 16, .inl tf))]) (rnV hr ar dr))) sz)) (A := (va_A (@HAppend.hAppend va_W va_W va_W _ (xW h0 nw sp xa la lb) (@HAppend.hAppend va_W va_W va_W _ ([((xa 10), .inr (7, [.ref hc, .int tm])), (hc, .inl (X.2.1, 16, .inl tf))]) (rnV hr ar dr))) sz)) (cc := cX10_nextLook) (maxL := 9) (ret := (some .int)) (by decide) rfl (Nat.le_of_ble_eq_true rfl) k_w k_a (fun p e s m below meth c S zr zlk znm zsz G ls hl => ?_)
  have S : CallFix p m c cX10_nextLook 9 s _ wsX10_nextLook RX10 := S
  have zx := S.1
  have zb := S.2.1
  have hl : lv_has ls 9 [(0, .ref h0), (1, .ref hr), (2, .int 1), (3, .int x3), (4, .int 200)] := hl
  refine lv_iconst (v := (-1)) zx zb dX10_nextLook_0 (by decide) ?_
  refine lv_istore (lv' := [(5, .int (-1)), (0, .ref h0), (1, .ref hr), (2, .int 1), (3, .int x3), (4, .int 200)]) zx zb dX10_nextLook_1 hl (by decide) rfl (fun ls hl => ?_)
  refine lv_iload_n zx zb dX10_nextLook_3 rfl (lv_at hl 4 rfl) ?_
  refine o_ri (cells' := 0) (slots' := 0) G rfl rfl (n_S (As := [.int x3]) (rest := []) S G (s_bitCount l X x3 s.heap.size) gX10_nextLook_J6_bitCount_0f7a4 rfl rfl rfl hdS_J6_bitCount_0f7a4 ⟨Nat.le_of_ble_eq_true rfl, Nat.le_of_ble_eq_true rfl⟩ [] rfl rfl rfl hl.1 (Nat.le_of_ble_eq_true rfl) dX10_nextLook_4 ⟨Nat.le_of_ble_eq_true rfl, Nat.le_of_ble_eq_true rfl⟩) (fun r_1 u_1 H locs hp_1 G => ?_)
  have G : wd X (va_A (@HAppend.hAppend va_W va_W va_W _ (xW h0 nw sp xa la lb) (@HAppend.hAppend va_W va_W va_W _ ([((xa 10), .inr (7, [.ref hc, .int tm])), (hc, .inl (X.2.1, 16, .inl tf))]) (rnV hr ar dr))) sz) (va_A (@HAppend.hAppend va_W va_W va_W _ (xW h0 nw sp xa la lb) (@HAppend.hAppend va_W va_W va_W _ ([((xa 10), .inr (7, [.ref hc, .int tm])), (hc, .inl (X.2.1, 16, .inl tf))]) (rnV hr ar dr))) sz) s (@HAppend.hAppend va_W va_W va_W _ (xW h0 nw sp xa la lb) (@HAppend.hAppend va_W va_W va_W _ ([((xa 10), .inr (7, [.ref hc, .int tm])), (hc, .inl (X.2.1, 16, .inl tf))]) (rnV hr ar dr))) H locs := G
  refine lv_iconst (v := 1) zx zb dX10_nextLook_7 (by decide) ?_
  refine r_iadd (v := (r_1 + 1)) S rfl dX10_nextLook_8 ?_
  refine lv_istore (lv' := [(6, .int (r_1 + 1)), (5, .int (-1)), (0, .ref h0), (1, .ref hr), (2, .int 1), (3, .int x3), (4, .int 200)]) zx zb dX10_nextLook_9 hl (by decide) rfl (fun ls hl => ?_)
  refine lv_iconst (v := 0) zx zb dX10_nextLook_11 (by decide) ?_
  refine lv_istore (lv' := [(7, .int 0), (6, .int (r_1 + 1)), (5, .int (-1)), (0, .ref h0), (1, .ref hr), (2, .int 1), (3, .int x3), (4, .int 200)]) zx zb dX10_nextLook_12 hl (by decide) rfl (fun ls hl => ?_)
  refine k_loop (P := ∀ (zm : Nat) (k14 : Nat) (x14_6 : Int32) (x14_5 : Int32) (m14_1 : Int32) (f14_1 : Nat → Int32) (H : Heap) (locs : List Loc) (ls : Array Slot), 200 + 1 ≤ k14 + zm → (k14 ≤ 200) → wd X (va_A (@HAppend.hAppend va_W va_W va_W _ (xW h0 nw sp xa la lb) (@HAppend.hAppend va_W va_W va_W _ ([((xa 10), .inr (7, [.ref hc, .int tm])), (hc, .inl (X.2.1, 16, .inl tf))]) (rnV hr ar dr))) sz) (va_A (@HAppend.hAppend va_W va_W va_W _ (xW h0 nw sp xa la lb) (@HAppend.hAppend va_W va_W va_W _ ([((xa 10), .inr (7, [.ref hc, .int tm])), (hc, .inl (X.2.1, 16, .inl tf))]) (rnV hr ar dr))) sz) s (@HAppend.hAppend va_W va_W va_W _ (xW h0 nw sp xa la lb) (@HAppend.hAppend va_W va_W va_W _ ([((xa 10), .inr (7, [.ref hc, .int m14_1])), (hc, .inl (X.2.1, 16, .inl f14_1))]) (rnV hr ar dr))) H locs → lv_has ls 9 [(7, .int (nI k14)), (6, .int x14_6), (5, .int x14_5), (0, .ref h0), (1, .ref hr), (2, .int 1), (3, .int x3), (4, .int 200)] → W p l e _ s m _ below meth c H locs _ _ _ (F0 m 14 ls [])) (fun loop => loop (200 + 1) 0 (r_1 + 1) (-1) tm tf _ _ _ (by omega) (by omega) G hl) ?_
  intro zm
  induction zm with
  | zero => intro k14 x14_6 x14_5 m14_1 f14_1 H locs ls zz q_hk_k14 _ _; exact absurd zz (by omega)
  | succ zm ih14 =>
    intro k14 x14_6 x14_5 m14_1 f14_1 H locs ls zm_14 hk_k14 G hl
    refine lv_iload zx zb dX10_nextLook_14 (lv_at hl 0 rfl) ?_
    refine lv_iload zx zb dX10_nextLook_16 (lv_at hl 7 rfl) ?_
    refine k_cutW (PP := fun Wx => ∀ (H : Heap) (locs : List Loc) (ls : Array Slot), wd X (va_A (@HAppend.hAppend va_W va_W va_W _ (xW h0 nw sp xa la lb) (@HAppend.hAppend va_W va_W va_W _ ([((xa 10), .inr (7, [.ref hc, .int tm])), (hc, .inl (X.2.1, 16, .inl tf))]) (rnV hr ar dr))) sz) (va_A (@HAppend.hAppend va_W va_W va_W _ (xW h0 nw sp xa la lb) (@HAppend.hAppend va_W va_W va_W _ ([((xa 10), .inr (7, [.ref hc, .int tm])), (hc, .inl (X.2.1, 16, .inl tf))]) (rnV hr ar dr))) sz) s (@HAppend.hAppend va_W va_W va_W _ (xW h0 nw sp xa la lb) (@HAppend.hAppend va_W va_W va_W _ ([((xa 10), .inr (7, [.ref hc, .int m14_1])), (hc, .inl (X.2.1, 16, .inl f14_1))]) (rnV hr ar dr))) H locs → lv_has ls 9 [(7, .int (nI k14)), (6, .int x14_6), (5, .int x14_5), (0, .ref h0), (1, .ref hr), (2, .int 1), (3, .int x3), (4, .int 200)] → Wx (F0 m 59 ls []) H locs) ?_ ?_
    · intro join_18
      refine lv_icmp_ge (tgt := 59) zx zb dX10_nextLook_18 (by decide) (fun c_2 => ?_) (fun c_2 => ?_)
      · have fc_2 := j_le (a := 200) (b := k14) (by omega) (by omega) c_2
        exact join_18  _ _ _  G hl
      · have fc_2 := j_nle (a := 200) (b := k14) (by omega) (by omega) c_2
        refine lv_iload zx zb dX10_nextLook_21 (lv_at hl 1 rfl) ?_
        refine lv_iconst (v := 1) zx zb dX10_nextLook_23 (by decide) ?_
        refine lv_icmp_le (tgt := 59) zx zb dX10_nextLook_24 (by decide) (fun c_3 => ?_) (fun c_3 => ?_)
        · exact join_18  _ _ _  G hl
        · refine lv_aload_n zx zb dX10_nextLook_27 rfl (lv_at hl 3 rfl) ?_
          refine lv_aload_n zx zb dX10_nextLook_28 rfl (lv_at hl 4 rfl) ?_
          refine lv_iload_n zx zb dX10_nextLook_29 rfl (lv_at hl 5 rfl) ?_
          refine lv_iload_n zx zb dX10_nextLook_30 rfl (lv_at hl 6 rfl) ?_
          refine lv_iload zx zb dX10_nextLook_31 (lv_at hl 0 rfl) ?_
          refine b_wi (cells' := 0) (slots' := 0) (wr := []) G rfl rfl [0, 1, 2, 3] [] rfl rfl rfl rfl (n_V (As := [.ref hr, .int 1, .int x3, .int (nI k14)]) (rest := []) (C := RX10) (T := TX10) (N := 14) (ci := 8) S G (s_mostAlike1 l X h0 nw sp xa la lb hc m14_1 f14_1 hr ar dr x3 (nI k14) H.size) gX10_nextLook_X10_mostAlike rfl rfl rfl hdV_X10_mostAlike ⟨Nat.le_of_ble_eq_true rfl, Nat.le_of_ble_eq_true rfl⟩ [0, 1, 2, 3] rfl rfl 0 rfl rfl rfl hl.1 (Nat.le_of_ble_eq_true rfl) dX10_nextLook_33 ⟨Nat.le_of_ble_eq_true rfl, Nat.le_of_ble_eq_true rfl⟩) (fun r_4 u_4 H locs hp_4 G => ?_)
          obtain ⟨m_4a, f_4b⟩ := u_4
          have hq_4 := hp_4
          have G : wd X (va_A (@HAppend.hAppend va_W va_W va_W _ (xW h0 nw sp xa la lb) (@HAppend.hAppend va_W va_W va_W _ ([((xa 10), .inr (7, [.ref hc, .int tm])), (hc, .inl (X.2.1, 16, .inl tf))]) (rnV hr ar dr))) sz) (va_A (@HAppend.hAppend va_W va_W va_W _ (xW h0 nw sp xa la lb) (@HAppend.hAppend va_W va_W va_W _ ([((xa 10), .inr (7, [.ref hc, .int tm])), (hc, .inl (X.2.1, 16, .inl tf))]) (rnV hr ar dr))) sz) s (@HAppend.hAppend va_W va_W va_W _ (xW h0 nw sp xa la lb) (@HAppend.hAppend va_W va_W va_W _ ([((xa 10), .inr (7, [.ref hc, .int m_4a])), (hc, .inl (X.2.1, 16, .inl f_4b))]) (rnV hr ar dr))) H locs := G
          refine lv_istore (lv' := [(8, .int r_4), (7, .int (nI k14)), (6, .int x14_6), (5, .int x14_5), (0, .ref h0), (1, .ref hr), (2, .int 1), (3, .int x3), (4, .int 200)]) zx zb dX10_nextLook_36 hl (by decide) rfl (fun ls hl => ?_)
          refine lv_iload zx zb dX10_nextLook_38 (lv_at hl 0 rfl) ?_
          refine lv_iload zx zb dX10_nextLook_40 (lv_at hl 2 rfl) ?_
          refine k_cutW (PP := fun Wx => ∀ (x_6 : Int32) (x_7 : Int32) (H : Heap) (locs : List Loc) (ls : Array Slot), wd X (va_A (@HAppend.hAppend va_W va_W va_W _ (xW h0 nw sp xa la lb) (@HAppend.hAppend va_W va_W va_W _ ([((xa 10), .inr (7, [.ref hc, .int tm])), (hc, .inl (X.2.1, 16, .inl tf))]) (rnV hr ar dr))) sz) (va_A (@HAppend.hAppend va_W va_W va_W _ (xW h0 nw sp xa la lb) (@HAppend.hAppend va_W va_W va_W _ ([((xa 10), .inr (7, [.ref hc, .int tm])), (hc, .inl (X.2.1, 16, .inl tf))]) (rnV hr ar dr))) sz) s (@HAppend.hAppend va_W va_W va_W _ (xW h0 nw sp xa la lb) (@HAppend.hAppend va_W va_W va_W _ ([((xa 10), .inr (7, [.ref hc, .int m_4a])), (hc, .inl (X.2.1, 16, .inl f_4b))]) (rnV hr ar dr))) H locs → lv_has ls 9 [(8, .int r_4), (7, .int (nI k14)), (6, .int x_6), (5, .int x_7), (0, .ref h0), (1, .ref hr), (2, .int 1), (3, .int x3), (4, .int 200)] → Wx (F0 m 53 ls []) H locs) ?_ ?_
          · intro join_42
            refine lv_icmp_ge (tgt := 53) zx zb dX10_nextLook_42 (by decide) (fun c_5 => ?_) (fun c_5 => ?_)
            · exact join_42 x14_6 x14_5 _ _ _  G hl
            · refine lv_iload zx zb dX10_nextLook_45 (lv_at hl 0 rfl) ?_
              refine lv_istore (lv' := [(6, .int r_4), (8, .int r_4), (7, .int (nI k14)), (5, .int x14_5), (0, .ref h0), (1, .ref hr), (2, .int 1), (3, .int x3), (4, .int 200)]) zx zb dX10_nextLook_47 hl (by decide) rfl (fun ls hl => ?_)
              refine lv_iload zx zb dX10_nextLook_49 (lv_at hl 2 rfl) ?_
              refine lv_istore (lv' := [(5, .int (nI k14)), (6, .int r_4), (8, .int r_4), (7, .int (nI k14)), (0, .ref h0), (1, .ref hr), (2, .int 1), (3, .int x3), (4, .int 200)]) zx zb dX10_nextLook_51 hl (by decide) rfl (fun ls hl => ?_)
              have hl := lv_sub hl (l' := [(8, .int r_4), (7, .int (nI k14)), (6, .int r_4), (5, .int (nI k14)), (0, .ref h0), (1, .ref hr), (2, .int 1), (3, .int x3), (4, .int 200)]) [2, 3, 1, 0, 4, 5, 6, 7, 8] rfl
              exact join_42 r_4 (nI k14) _ _ _  G hl
          · intro x_6 x_7 H locs ls  G hl
            refine lv_iinc (v := (nI (k14 + 1))) (lv' := [(7, .int (nI (k14 + 1))), (8, .int r_4), (6, .int x_6), (5, .int x_7), (0, .ref h0), (1, .ref hr), (2, .int 1), (3, .int x3), (4, .int 200)]) zx zb dX10_nextLook_53 hl (k := 1) rfl (nI_add k14 1) (by decide) rfl (fun ls hl => ?_)
            refine lv_goto (tgt := 14) zx zb dX10_nextLook_56 (by decide) ?_
            have hl := lv_sub hl (l' := [(7, .int (nI (k14 + 1))), (6, .int x_6), (5, .int x_7), (0, .ref h0), (1, .ref hr), (2, .int 1), (3, .int x3), (4, .int 200)]) [0, 2, 3, 4, 5, 6, 7, 8] rfl
            exact ih14 (k14 + 1) x_6 x_7 m_4a f_4b _ _ _ (by omega) (by omega) G hl
    · intro  H locs ls  G hl
      refine lv_iload zx zb dX10_nextLook_59 (lv_at hl 2 rfl) ?_
      exact e_int S zr zlk (vp_nar_int _) G (m14_1, f14_1) [0, 1, 2, 3] rfl rfl (Or.inr rfl) (trivial) dX10_nextLook_61
set_option maxHeartbeats 4000000 in
set_option maxRecDepth 100000 in
/-- mostAlike -/
theorem s_mostAlike2 (l : Launch) (X : EX) (h0 : Nat) (nw : Nat) (sp : Nat) (xa : Nat → Nat) (la : Int64) (lb : Int64) (hc : Nat) (tm : Int32) (tf : Nat → Int32) (hr : Nat) (ar : Nat → Int32) (dr : Nat → Int32) (x3 : Int32) (x4 : Int32) (sz : Nat) : Met l yX10_mostAlike wsX10_mostAlike ({ frames := 2, cells := 0, slots := 0, locals := 47 } : Room) (pE X [.ref h0, .ref hr, .int 2, .int x3, .int x4] (@HAppend.hAppend va_W va_W va_W _ (xW h0 nw sp xa la lb) (@HAppend.hAppend va_W va_W va_W _ ([((xa 10), .inr (7, [.ref hc, .int tm])), (hc, .inl (X.2.1, 16, .inl tf))]) (rnV hr ar dr))) sz) (qI (fun (r : Int32) (u : (Int32) × (Nat → Int32)) => (True)) X (fun (u : (Int32) × (Nat → Int32)) => @HAppend.hAppend va_W va_W va_W _ (xW h0 nw sp xa la lb) (@HAppend.hAppend va_W va_W va_W _ ([((xa 10), .inr (7, [.ref hc, .int u.1])), (hc, .inl (X.2.1, 16, .inl u.2))]) (rnV hr ar dr))) (@HAppend.hAppend va_W va_W va_W _ (xW h0 nw sp xa la lb) (@HAppend.hAppend va_W va_W va_W _ ([((xa 10), .inr (7, [.ref hc, .int tm])), (hc, .inl (X.2.1, 16, .inl tf))]) (rnV hr ar dr))) sz) 0 0 (va_A (@HAppend.hAppend va_W va_W va_W _ (xW h0 nw sp xa la lb) (@HAppend.hAppend va_W va_W va_W _ ([((xa 10), .inr (7, [.ref hc, .int tm])), (hc, .inl (X.2.1, 16, .inl tf))]) (rnV hr ar dr))) sz) := by
  refine mk_met (B := (va_A (@HAppend.hAppend va_W va_W va_W _ (xW h0 nw sp xa la lb) (@HAppend.hAppend va_W va_W va_W _ ([((xa 10), .inr (7, [.ref hc, .int tm])), (hc, .inl (X.2.1, 16, .inl tf))]) (rnV hr ar dr))) sz)) (A := (va_A (@HAppend.hAppend va_W va_W va_W _ (xW h0 nw sp xa la lb) (@HAppend.hAppend va_W va_W va_W _ ([((xa 10), .inr (7, [.ref hc, .int tm])), (hc, .inl (X.2.1, 16, .inl tf))]) (rnV hr ar dr))) sz)) (cc := cX10_mostAlike) (maxL := 6) (ret := (some .int)) (by decide) rfl (Nat.le_of_ble_eq_true rfl) k_w k_a (fun p e s m below meth c S zr zlk znm zsz G ls hl => ?_)
  have S : CallFix p m c cX10_mostAlike 6 s _ wsX10_mostAlike RX10 := S
  have zx := S.1
  have zb := S.2.1
  have hl : lv_has ls 6 [(0, .ref h0), (1, .ref hr), (2, .int 2), (3, .int x3), (4, .int x4)] := hl
  refine lv_aload_n zx zb dX10_mostAlike_0 rfl (lv_at hl 0 rfl) ?_
  refine r_get (C := RX10) (T := TX10) (N := 14) (ci := 8) (v := .ref (xa 10)) S in_X10_mostAlike_X10 G 0 rfl rfl 10 (by decide) lk_X10_mostAlike_58 rfl dX10_mostAlike_1 ?_
  refine b_wv (cells' := 0) (slots' := 0) (wr := @HAppend.hAppend va_W va_W va_W _ (xW h0 nw sp xa la lb) (rnV hr ar dr)) G rfl rfl [1, 2] [0, 3] rfl rfl rfl rfl (n_V (As := []) (rest := []) (C := RX9) (T := TX9) (N := 2) (ci := 7) S G (s_trestart l X (xa 10) hc tm tf s.heap.size) gX10_mostAlike_X9_restart rfl rfl rfl hdV_X9_restart ⟨Nat.le_of_ble_eq_true rfl, Nat.le_of_ble_eq_true rfl⟩ [1, 2] rfl rfl 1 rfl rfl rfl hl.1 (Nat.le_of_ble_eq_true rfl) dX10_mostAlike_4 ⟨Nat.le_of_ble_eq_true rfl, Nat.le_of_ble_eq_true rfl⟩) (fun u_1 H locs hp_1 G => ?_)
  obtain ⟨m_1a, f_1b⟩ := u_1
  have hq_1 := hp_1
  have G : wd X (va_A (@HAppend.hAppend va_W va_W va_W _ (xW h0 nw sp xa la lb) (@HAppend.hAppend va_W va_W va_W _ ([((xa 10), .inr (7, [.ref hc, .int tm])), (hc, .inl (X.2.1, 16, .inl tf))]) (rnV hr ar dr))) sz) (va_A (@HAppend.hAppend va_W va_W va_W _ (xW h0 nw sp xa la lb) (@HAppend.hAppend va_W va_W va_W _ ([((xa 10), .inr (7, [.ref hc, .int tm])), (hc, .inl (X.2.1, 16, .inl tf))]) (rnV hr ar dr))) sz) s (@HAppend.hAppend va_W va_W va_W _ (xW h0 nw sp xa la lb) (@HAppend.hAppend va_W va_W va_W _ (rnV hr ar dr) ([((xa 10), .inr (7, [.ref hc, .int m_1a])), (hc, .inl (X.2.1, 16, .inl f_1b))]))) H locs := G
  refine lv_iconst (v := 0) zx zb dX10_mostAlike_7 (by decide) ?_
  refine lv_istore (lv' := [(5, .int 0), (0, .ref h0), (1, .ref hr), (2, .int 2), (3, .int x3), (4, .int x4)]) zx zb dX10_mostAlike_8 hl (by decide) rfl (fun ls hl => ?_)
  refine k_loop (P := ∀ (zm : Nat) (k10 : Nat) (m10_2 : Int32) (f10_2 : Nat → Int32) (H : Heap) (locs : List Loc) (ls : Array Slot), 10 + 1 ≤ k10 + zm → (k10 ≤ 10) → wd X (va_A (@HAppend.hAppend va_W va_W va_W _ (xW h0 nw sp xa la lb) (@HAppend.hAppend va_W va_W va_W _ ([((xa 10), .inr (7, [.ref hc, .int tm])), (hc, .inl (X.2.1, 16, .inl tf))]) (rnV hr ar dr))) sz) (va_A (@HAppend.hAppend va_W va_W va_W _ (xW h0 nw sp xa la lb) (@HAppend.hAppend va_W va_W va_W _ ([((xa 10), .inr (7, [.ref hc, .int tm])), (hc, .inl (X.2.1, 16, .inl tf))]) (rnV hr ar dr))) sz) s (@HAppend.hAppend va_W va_W va_W _ (xW h0 nw sp xa la lb) (@HAppend.hAppend va_W va_W va_W _ (rnV hr ar dr) ([((xa 10), .inr (7, [.ref hc, .int m10_2])), (hc, .inl (X.2.1, 16, .inl f10_2))]))) H locs → lv_has ls 6 [(5, .int (nI k10)), (0, .ref h0), (1, .ref hr), (2, .int 2), (3, .int x3), (4, .int x4)] → W p l e _ s m _ below meth c H locs _ _ _ (F0 m 10 ls [])) (fun loop => loop (10 + 1) 0 m_1a f_1b _ _ _ (by omega) (by omega) G hl) ?_
  intro zm
  induction zm with
  | zero => intro k10 m10_2 f10_2 H locs ls zz q_hk_k10 _ _; exact absurd zz (by omega)
  | succ zm ih10 =>
    intro k10 m10_2 f10_2 H locs ls zm_10 hk_k10 G hl
    refine lv_iload zx zb dX10_mostAlike_10 (lv_at hl 0 rfl) ?_
    refine lv_bipush (v := 9) zx zb dX10_mostAlike_12 (by decide) ?_
    refine lv_icmp_gt (tgt := 48) zx zb dX10_mostAlike_14 (by decide) (fun c_2 => ?_) (fun c_2 => ?_)
    · have fc_2 := j_lt (a := 9) (b := k10) (by omega) (by omega) c_2
      refine lv_aload_n zx zb dX10_mostAlike_48 rfl (lv_at hl 1 rfl) ?_
      refine r_get (C := RX10) (T := TX10) (N := 14) (ci := 8) (v := .ref (xa 10)) S in_X10_mostAlike_X10 G 0 rfl rfl 10 (by decide) lk_X10_mostAlike_58 rfl dX10_mostAlike_49 ?_
      refine r_get (C := RX9) (T := TX9) (N := 2) (ci := 7) (v := .int m10_2) S in_X10_mostAlike_X9 G 2 rfl rfl 1 (by decide) lk_X10_mostAlike_317 rfl dX10_mostAlike_52 ?_
      exact e_int S zr zlk (vp_nar_int _) G (m10_2, f10_2) [0, 2, 3, 1] rfl rfl (Or.inr rfl) (trivial) dX10_mostAlike_55
    · have fc_2 := j_nlt (a := 9) (b := k10) (by omega) (by omega) c_2
      refine lv_iload_n zx zb dX10_mostAlike_17 rfl (lv_at hl 4 rfl) ?_
      refine lv_iload zx zb dX10_mostAlike_18 (lv_at hl 0 rfl) ?_
      refine o_ri (cells' := 0) (slots' := 0) G rfl rfl (n_S (As := [.int x3, .int (nI k10)]) (rest := []) S G (s_hasBit l X x3 (nI k10) H.size) gX10_mostAlike_X10_hasBit rfl rfl rfl hdS_X10_hasBit ⟨Nat.le_of_ble_eq_true rfl, Nat.le_of_ble_eq_true rfl⟩ [] rfl rfl rfl hl.1 (Nat.le_of_ble_eq_true rfl) dX10_mostAlike_20 ⟨Nat.le_of_ble_eq_true rfl, Nat.le_of_ble_eq_true rfl⟩) (fun r_3 u_3 H locs hp_3 G => ?_)
      have G : wd X (va_A (@HAppend.hAppend va_W va_W va_W _ (xW h0 nw sp xa la lb) (@HAppend.hAppend va_W va_W va_W _ ([((xa 10), .inr (7, [.ref hc, .int tm])), (hc, .inl (X.2.1, 16, .inl tf))]) (rnV hr ar dr))) sz) (va_A (@HAppend.hAppend va_W va_W va_W _ (xW h0 nw sp xa la lb) (@HAppend.hAppend va_W va_W va_W _ ([((xa 10), .inr (7, [.ref hc, .int tm])), (hc, .inl (X.2.1, 16, .inl tf))]) (rnV hr ar dr))) sz) s (@HAppend.hAppend va_W va_W va_W _ (xW h0 nw sp xa la lb) (@HAppend.hAppend va_W va_W va_W _ (rnV hr ar dr) ([((xa 10), .inr (7, [.ref hc, .int m10_2])), (hc, .inl (X.2.1, 16, .inl f10_2))]))) H locs := G
      refine k_cutW (PP := fun Wx => ∀ (m_5 : Int32) (f_6 : Nat → Int32) (H : Heap) (locs : List Loc) (ls : Array Slot), wd X (va_A (@HAppend.hAppend va_W va_W va_W _ (xW h0 nw sp xa la lb) (@HAppend.hAppend va_W va_W va_W _ ([((xa 10), .inr (7, [.ref hc, .int tm])), (hc, .inl (X.2.1, 16, .inl tf))]) (rnV hr ar dr))) sz) (va_A (@HAppend.hAppend va_W va_W va_W _ (xW h0 nw sp xa la lb) (@HAppend.hAppend va_W va_W va_W _ ([((xa 10), .inr (7, [.ref hc, .int tm])), (hc, .inl (X.2.1, 16, .inl tf))]) (rnV hr ar dr))) sz) s (@HAppend.hAppend va_W va_W va_W _ (xW h0 nw sp xa la lb) (@HAppend.hAppend va_W va_W va_W _ (rnV hr ar dr) ([((xa 10), .inr (7, [.ref hc, .int m_5])), (hc, .inl (X.2.1, 16, .inl f_6))]))) H locs → lv_has ls 6 [(5, .int (nI k10)), (0, .ref h0), (1, .ref hr), (2, .int 2), (3, .int x3), (4, .int x4)] → Wx (F0 m 42 ls []) H locs) ?_ ?_
      · intro join_23
        refine lv_if_eq (tgt := 42) zx zb dX10_mostAlike_23 (by decide) (fun c_4 => ?_) (fun c_4 => ?_)
        · exact join_23 m10_2 f10_2 _ _ _  G hl
        · refine lv_aload_n zx zb dX10_mostAlike_26 rfl (lv_at hl 1 rfl) ?_
          refine r_get (C := RX10) (T := TX10) (N := 14) (ci := 8) (v := .ref (xa 10)) S in_X10_mostAlike_X10 G 0 rfl rfl 10 (by decide) lk_X10_mostAlike_58 rfl dX10_mostAlike_27 ?_
          refine lv_aload_n zx zb dX10_mostAlike_30 rfl (lv_at hl 2 rfl) ?_
          refine lv_iload_n zx zb dX10_mostAlike_31 rfl (lv_at hl 3 rfl) ?_
          refine lv_iload zx zb dX10_mostAlike_32 (lv_at hl 0 rfl) ?_
          refine lv_iload zx zb dX10_mostAlike_34 (lv_at hl 5 rfl) ?_
          refine o_ri (cells' := 0) (slots' := 0) G rfl rfl (n_S (As := [.ref hr, .int 2, .int (nI k10), .int x4]) (rest := [.ref (xa 10)]) S G (s_farBy2 l X hr ar dr (nI k10) x4 H.size) gX10_mostAlike_X10_farBy rfl rfl rfl hdS_X10_farBy ⟨Nat.le_of_ble_eq_true rfl, Nat.le_of_ble_eq_true rfl⟩ [1] rfl rfl rfl hl.1 (Nat.le_of_ble_eq_true rfl) dX10_mostAlike_36 ⟨Nat.le_of_ble_eq_true rfl, Nat.le_of_ble_eq_true rfl⟩) (fun r_7 u_7 H locs hp_7 G => ?_)
          have G : wd X (va_A (@HAppend.hAppend va_W va_W va_W _ (xW h0 nw sp xa la lb) (@HAppend.hAppend va_W va_W va_W _ ([((xa 10), .inr (7, [.ref hc, .int tm])), (hc, .inl (X.2.1, 16, .inl tf))]) (rnV hr ar dr))) sz) (va_A (@HAppend.hAppend va_W va_W va_W _ (xW h0 nw sp xa la lb) (@HAppend.hAppend va_W va_W va_W _ ([((xa 10), .inr (7, [.ref hc, .int tm])), (hc, .inl (X.2.1, 16, .inl tf))]) (rnV hr ar dr))) sz) s (@HAppend.hAppend va_W va_W va_W _ (xW h0 nw sp xa la lb) (@HAppend.hAppend va_W va_W va_W _ (rnV hr ar dr) ([((xa 10), .inr (7, [.ref hc, .int m10_2])), (hc, .inl (X.2.1, 16, .inl f10_2))]))) H locs := G
          refine b_wv (cells' := 0) (slots' := 0) (wr := @HAppend.hAppend va_W va_W va_W _ (xW h0 nw sp xa la lb) (rnV hr ar dr)) G rfl rfl [2, 3] [0, 1] rfl rfl rfl rfl (n_V (As := [.int r_7]) (rest := []) (C := RX9) (T := TX9) (N := 2) (ci := 7) S G (s_see l X (xa 10) hc m10_2 f10_2 r_7 H.size) gX10_mostAlike_X9_see rfl rfl rfl hdV_X9_see ⟨Nat.le_of_ble_eq_true rfl, Nat.le_of_ble_eq_true rfl⟩ [2, 3] rfl rfl 2 rfl rfl rfl hl.1 (Nat.le_of_ble_eq_true rfl) dX10_mostAlike_39 ⟨Nat.le_of_ble_eq_true rfl, Nat.le_of_ble_eq_true rfl⟩) (fun u_8 H locs hp_8 G => ?_)
          obtain ⟨m_8a, f_8b⟩ := u_8
          have hq_8 := hp_8
          have G : wd X (va_A (@HAppend.hAppend va_W va_W va_W _ (xW h0 nw sp xa la lb) (@HAppend.hAppend va_W va_W va_W _ ([((xa 10), .inr (7, [.ref hc, .int tm])), (hc, .inl (X.2.1, 16, .inl tf))]) (rnV hr ar dr))) sz) (va_A (@HAppend.hAppend va_W va_W va_W _ (xW h0 nw sp xa la lb) (@HAppend.hAppend va_W va_W va_W _ ([((xa 10), .inr (7, [.ref hc, .int tm])), (hc, .inl (X.2.1, 16, .inl tf))]) (rnV hr ar dr))) sz) s (@HAppend.hAppend va_W va_W va_W _ (xW h0 nw sp xa la lb) (@HAppend.hAppend va_W va_W va_W _ (rnV hr ar dr) ([((xa 10), .inr (7, [.ref hc, .int m_8a])), (hc, .inl (X.2.1, 16, .inl f_8b))]))) H locs := G
          exact join_23 m_8a f_8b _ _ _  G hl
      · intro m_5 f_6 H locs ls  G hl
        refine lv_iinc (v := (nI (k10 + 1))) (lv' := [(5, .int (nI (k10 + 1))), (0, .ref h0), (1, .ref hr), (2, .int 2), (3, .int x3), (4, .int x4)]) zx zb dX10_mostAlike_42 hl (k := 0) rfl (nI_add k10 1) (by decide) rfl (fun ls hl => ?_)
        refine lv_goto (tgt := 10) zx zb dX10_mostAlike_45 (by decide) ?_
        exact ih10 (k10 + 1) m_5 f_6 _ _ _ (by omega) (by omega) G hl
set_option maxHeartbeats 4000000 in
set_option maxRecDepth 100000 in
/-- nextLook -/
theorem s_nextLook2 (l : Launch) (X : EX) (h0 : Nat) (nw : Nat) (sp : Nat) (xa : Nat → Nat) (la : Int64) (lb : Int64) (hc : Nat) (tm : Int32) (tf : Nat → Int32) (hr : Nat) (ar : Nat → Int32) (dr : Nat → Int32) (x3 : Int32) (sz : Nat) : Met l yX10_nextLook wsX10_nextLook ({ frames := 3, cells := 0, slots := 0, locals := 72 } : Room) (pE X [.ref h0, .ref hr, .int 2, .int x3, .int 20] (@HAppend.hAppend va_W va_W va_W _ (xW h0 nw sp xa la lb) (@HAppend.hAppend va_W va_W va_W _ ([((xa 10), .inr (7, [.ref hc, .int tm])), (hc, .inl (X.2.1, 16, .inl tf))]) (rnV hr ar dr))) sz) (qI (fun (r : Int32) (u : (Int32) × (Nat → Int32)) => (True)) X (fun (u : (Int32) × (Nat → Int32)) => @HAppend.hAppend va_W va_W va_W _ (xW h0 nw sp xa la lb) (@HAppend.hAppend va_W va_W va_W _ ([((xa 10), .inr (7, [.ref hc, .int u.1])), (hc, .inl (X.2.1, 16, .inl u.2))]) (rnV hr ar dr))) (@HAppend.hAppend va_W va_W va_W _ (xW h0 nw sp xa la lb) (@HAppend.hAppend va_W va_W va_W _ ([((xa 10), .inr (7, [.ref hc, .int tm])), (hc, .inl (X.2.1, 16, .inl tf))]) (rnV hr ar dr))) sz) 0 0 (va_A (@HAppend.hAppend va_W va_W va_W _ (xW h0 nw sp xa la lb) (@HAppend.hAppend va_W va_W va_W _ ([((xa 10), .inr (7, [.ref hc, .int tm])), (hc, .inl (X.2.1, 16, .inl tf))]) (rnV hr ar dr))) sz) := by
  refine mk_met (B := (va_A (@HAppend.hAppend va_W va_W va_W _ (xW h0 nw sp xa la lb) (@HAppend.hAppend va_W va_W va_W _ ([((xa 10), .inr (7, [.ref hc, .int tm])), (hc, .inl (X.2.1, 16, .inl tf))]) (rnV hr ar dr))) sz)) (A := (va_A (@HAppend.hAppend va_W va_W va_W _ (xW h0 nw sp xa la lb) (@HAppend.hAppend va_W va_W va_W _ ([((xa 10), .inr (7, [.ref hc, .int tm])), (hc, .inl (X.2.1, 16, .inl tf))]) (rnV hr ar dr))) sz)) (cc := cX10_nextLook) (maxL := 9) (ret := (some .int)) (by decide) rfl (Nat.le_of_ble_eq_true rfl) k_w k_a (fun p e s m below meth c S zr zlk znm zsz G ls hl => ?_)
  have S : CallFix p m c cX10_nextLook 9 s _ wsX10_nextLook RX10 := S
  have zx := S.1
  have zb := S.2.1
  have hl : lv_has ls 9 [(0, .ref h0), (1, .ref hr), (2, .int 2), (3, .int x3), (4, .int 20)] := hl
  refine lv_iconst (v := (-1)) zx zb dX10_nextLook_0 (by decide) ?_
  refine lv_istore (lv' := [(5, .int (-1)), (0, .ref h0), (1, .ref hr), (2, .int 2), (3, .int x3), (4, .int 20)]) zx zb dX10_nextLook_1 hl (by decide) rfl (fun ls hl => ?_)
  refine lv_iload_n zx zb dX10_nextLook_3 rfl (lv_at hl 4 rfl) ?_
  refine o_ri (cells' := 0) (slots' := 0) G rfl rfl (n_S (As := [.int x3]) (rest := []) S G (s_bitCount l X x3 s.heap.size) gX10_nextLook_J6_bitCount_0f7a4 rfl rfl rfl hdS_J6_bitCount_0f7a4 ⟨Nat.le_of_ble_eq_true rfl, Nat.le_of_ble_eq_true rfl⟩ [] rfl rfl rfl hl.1 (Nat.le_of_ble_eq_true rfl) dX10_nextLook_4 ⟨Nat.le_of_ble_eq_true rfl, Nat.le_of_ble_eq_true rfl⟩) (fun r_1 u_1 H locs hp_1 G => ?_)
  have G : wd X (va_A (@HAppend.hAppend va_W va_W va_W _ (xW h0 nw sp xa la lb) (@HAppend.hAppend va_W va_W va_W _ ([((xa 10), .inr (7, [.ref hc, .int tm])), (hc, .inl (X.2.1, 16, .inl tf))]) (rnV hr ar dr))) sz) (va_A (@HAppend.hAppend va_W va_W va_W _ (xW h0 nw sp xa la lb) (@HAppend.hAppend va_W va_W va_W _ ([((xa 10), .inr (7, [.ref hc, .int tm])), (hc, .inl (X.2.1, 16, .inl tf))]) (rnV hr ar dr))) sz) s (@HAppend.hAppend va_W va_W va_W _ (xW h0 nw sp xa la lb) (@HAppend.hAppend va_W va_W va_W _ ([((xa 10), .inr (7, [.ref hc, .int tm])), (hc, .inl (X.2.1, 16, .inl tf))]) (rnV hr ar dr))) H locs := G
  refine lv_iconst (v := 1) zx zb dX10_nextLook_7 (by decide) ?_
  refine r_iadd (v := (r_1 + 1)) S rfl dX10_nextLook_8 ?_
  refine lv_istore (lv' := [(6, .int (r_1 + 1)), (5, .int (-1)), (0, .ref h0), (1, .ref hr), (2, .int 2), (3, .int x3), (4, .int 20)]) zx zb dX10_nextLook_9 hl (by decide) rfl (fun ls hl => ?_)
  refine lv_iconst (v := 0) zx zb dX10_nextLook_11 (by decide) ?_
  refine lv_istore (lv' := [(7, .int 0), (6, .int (r_1 + 1)), (5, .int (-1)), (0, .ref h0), (1, .ref hr), (2, .int 2), (3, .int x3), (4, .int 20)]) zx zb dX10_nextLook_12 hl (by decide) rfl (fun ls hl => ?_)
  refine k_loop (P := ∀ (zm : Nat) (k14 : Nat) (x14_6 : Int32) (x14_5 : Int32) (m14_1 : Int32) (f14_1 : Nat → Int32) (H : Heap) (locs : List Loc) (ls : Array Slot), 20 + 1 ≤ k14 + zm → (k14 ≤ 20) → wd X (va_A (@HAppend.hAppend va_W va_W va_W _ (xW h0 nw sp xa la lb) (@HAppend.hAppend va_W va_W va_W _ ([((xa 10), .inr (7, [.ref hc, .int tm])), (hc, .inl (X.2.1, 16, .inl tf))]) (rnV hr ar dr))) sz) (va_A (@HAppend.hAppend va_W va_W va_W _ (xW h0 nw sp xa la lb) (@HAppend.hAppend va_W va_W va_W _ ([((xa 10), .inr (7, [.ref hc, .int tm])), (hc, .inl (X.2.1, 16, .inl tf))]) (rnV hr ar dr))) sz) s (@HAppend.hAppend va_W va_W va_W _ (xW h0 nw sp xa la lb) (@HAppend.hAppend va_W va_W va_W _ ([((xa 10), .inr (7, [.ref hc, .int m14_1])), (hc, .inl (X.2.1, 16, .inl f14_1))]) (rnV hr ar dr))) H locs → lv_has ls 9 [(7, .int (nI k14)), (6, .int x14_6), (5, .int x14_5), (0, .ref h0), (1, .ref hr), (2, .int 2), (3, .int x3), (4, .int 20)] → W p l e _ s m _ below meth c H locs _ _ _ (F0 m 14 ls [])) (fun loop => loop (20 + 1) 0 (r_1 + 1) (-1) tm tf _ _ _ (by omega) (by omega) G hl) ?_
  intro zm
  induction zm with
  | zero => intro k14 x14_6 x14_5 m14_1 f14_1 H locs ls zz q_hk_k14 _ _; exact absurd zz (by omega)
  | succ zm ih14 =>
    intro k14 x14_6 x14_5 m14_1 f14_1 H locs ls zm_14 hk_k14 G hl
    refine lv_iload zx zb dX10_nextLook_14 (lv_at hl 0 rfl) ?_
    refine lv_iload zx zb dX10_nextLook_16 (lv_at hl 7 rfl) ?_
    refine k_cutW (PP := fun Wx => ∀ (H : Heap) (locs : List Loc) (ls : Array Slot), wd X (va_A (@HAppend.hAppend va_W va_W va_W _ (xW h0 nw sp xa la lb) (@HAppend.hAppend va_W va_W va_W _ ([((xa 10), .inr (7, [.ref hc, .int tm])), (hc, .inl (X.2.1, 16, .inl tf))]) (rnV hr ar dr))) sz) (va_A (@HAppend.hAppend va_W va_W va_W _ (xW h0 nw sp xa la lb) (@HAppend.hAppend va_W va_W va_W _ ([((xa 10), .inr (7, [.ref hc, .int tm])), (hc, .inl (X.2.1, 16, .inl tf))]) (rnV hr ar dr))) sz) s (@HAppend.hAppend va_W va_W va_W _ (xW h0 nw sp xa la lb) (@HAppend.hAppend va_W va_W va_W _ ([((xa 10), .inr (7, [.ref hc, .int m14_1])), (hc, .inl (X.2.1, 16, .inl f14_1))]) (rnV hr ar dr))) H locs → lv_has ls 9 [(7, .int (nI k14)), (6, .int x14_6), (5, .int x14_5), (0, .ref h0), (1, .ref hr), (2, .int 2), (3, .int x3), (4, .int 20)] → Wx (F0 m 59 ls []) H locs) ?_ ?_
    · intro join_18
      refine lv_icmp_ge (tgt := 59) zx zb dX10_nextLook_18 (by decide) (fun c_2 => ?_) (fun c_2 => ?_)
      · have fc_2 := j_le (a := 20) (b := k14) (by omega) (by omega) c_2
        exact join_18  _ _ _  G hl
      · have fc_2 := j_nle (a := 20) (b := k14) (by omega) (by omega) c_2
        refine lv_iload zx zb dX10_nextLook_21 (lv_at hl 1 rfl) ?_
        refine lv_iconst (v := 1) zx zb dX10_nextLook_23 (by decide) ?_
        refine lv_icmp_le (tgt := 59) zx zb dX10_nextLook_24 (by decide) (fun c_3 => ?_) (fun c_3 => ?_)
        · exact join_18  _ _ _  G hl
        · refine lv_aload_n zx zb dX10_nextLook_27 rfl (lv_at hl 3 rfl) ?_
          refine lv_aload_n zx zb dX10_nextLook_28 rfl (lv_at hl 4 rfl) ?_
          refine lv_iload_n zx zb dX10_nextLook_29 rfl (lv_at hl 5 rfl) ?_
          refine lv_iload_n zx zb dX10_nextLook_30 rfl (lv_at hl 6 rfl) ?_
          refine lv_iload zx zb dX10_nextLook_31 (lv_at hl 0 rfl) ?_
          refine b_wi (cells' := 0) (slots' := 0) (wr := []) G rfl rfl [0, 1, 2, 3] [] rfl rfl rfl rfl (n_V (As := [.ref hr, .int 2, .int x3, .int (nI k14)]) (rest := []) (C := RX10) (T := TX10) (N := 14) (ci := 8) S G (s_mostAlike2 l X h0 nw sp xa la lb hc m14_1 f14_1 hr ar dr x3 (nI k14) H.size) gX10_nextLook_X10_mostAlike rfl rfl rfl hdV_X10_mostAlike ⟨Nat.le_of_ble_eq_true rfl, Nat.le_of_ble_eq_true rfl⟩ [0, 1, 2, 3] rfl rfl 0 rfl rfl rfl hl.1 (Nat.le_of_ble_eq_true rfl) dX10_nextLook_33 ⟨Nat.le_of_ble_eq_true rfl, Nat.le_of_ble_eq_true rfl⟩) (fun r_4 u_4 H locs hp_4 G => ?_)
          obtain ⟨m_4a, f_4b⟩ := u_4
          have hq_4 := hp_4
          have G : wd X (va_A (@HAppend.hAppend va_W va_W va_W _ (xW h0 nw sp xa la lb) (@HAppend.hAppend va_W va_W va_W _ ([((xa 10), .inr (7, [.ref hc, .int tm])), (hc, .inl (X.2.1, 16, .inl tf))]) (rnV hr ar dr))) sz) (va_A (@HAppend.hAppend va_W va_W va_W _ (xW h0 nw sp xa la lb) (@HAppend.hAppend va_W va_W va_W _ ([((xa 10), .inr (7, [.ref hc, .int tm])), (hc, .inl (X.2.1, 16, .inl tf))]) (rnV hr ar dr))) sz) s (@HAppend.hAppend va_W va_W va_W _ (xW h0 nw sp xa la lb) (@HAppend.hAppend va_W va_W va_W _ ([((xa 10), .inr (7, [.ref hc, .int m_4a])), (hc, .inl (X.2.1, 16, .inl f_4b))]) (rnV hr ar dr))) H locs := G
          refine lv_istore (lv' := [(8, .int r_4), (7, .int (nI k14)), (6, .int x14_6), (5, .int x14_5), (0, .ref h0), (1, .ref hr), (2, .int 2), (3, .int x3), (4, .int 20)]) zx zb dX10_nextLook_36 hl (by decide) rfl (fun ls hl => ?_)
          refine lv_iload zx zb dX10_nextLook_38 (lv_at hl 0 rfl) ?_
          refine lv_iload zx zb dX10_nextLook_40 (lv_at hl 2 rfl) ?_
          refine k_cutW (PP := fun Wx => ∀ (x_6 : Int32) (x_7 : Int32) (H : Heap) (locs : List Loc) (ls : Array Slot), wd X (va_A (@HAppend.hAppend va_W va_W va_W _ (xW h0 nw sp xa la lb) (@HAppend.hAppend va_W va_W va_W _ ([((xa 10), .inr (7, [.ref hc, .int tm])), (hc, .inl (X.2.1, 16, .inl tf))]) (rnV hr ar dr))) sz) (va_A (@HAppend.hAppend va_W va_W va_W _ (xW h0 nw sp xa la lb) (@HAppend.hAppend va_W va_W va_W _ ([((xa 10), .inr (7, [.ref hc, .int tm])), (hc, .inl (X.2.1, 16, .inl tf))]) (rnV hr ar dr))) sz) s (@HAppend.hAppend va_W va_W va_W _ (xW h0 nw sp xa la lb) (@HAppend.hAppend va_W va_W va_W _ ([((xa 10), .inr (7, [.ref hc, .int m_4a])), (hc, .inl (X.2.1, 16, .inl f_4b))]) (rnV hr ar dr))) H locs → lv_has ls 9 [(8, .int r_4), (7, .int (nI k14)), (6, .int x_6), (5, .int x_7), (0, .ref h0), (1, .ref hr), (2, .int 2), (3, .int x3), (4, .int 20)] → Wx (F0 m 53 ls []) H locs) ?_ ?_
          · intro join_42
            refine lv_icmp_ge (tgt := 53) zx zb dX10_nextLook_42 (by decide) (fun c_5 => ?_) (fun c_5 => ?_)
            · exact join_42 x14_6 x14_5 _ _ _  G hl
            · refine lv_iload zx zb dX10_nextLook_45 (lv_at hl 0 rfl) ?_
              refine lv_istore (lv' := [(6, .int r_4), (8, .int r_4), (7, .int (nI k14)), (5, .int x14_5), (0, .ref h0), (1, .ref hr), (2, .int 2), (3, .int x3), (4, .int 20)]) zx zb dX10_nextLook_47 hl (by decide) rfl (fun ls hl => ?_)
              refine lv_iload zx zb dX10_nextLook_49 (lv_at hl 2 rfl) ?_
              refine lv_istore (lv' := [(5, .int (nI k14)), (6, .int r_4), (8, .int r_4), (7, .int (nI k14)), (0, .ref h0), (1, .ref hr), (2, .int 2), (3, .int x3), (4, .int 20)]) zx zb dX10_nextLook_51 hl (by decide) rfl (fun ls hl => ?_)
              have hl := lv_sub hl (l' := [(8, .int r_4), (7, .int (nI k14)), (6, .int r_4), (5, .int (nI k14)), (0, .ref h0), (1, .ref hr), (2, .int 2), (3, .int x3), (4, .int 20)]) [2, 3, 1, 0, 4, 5, 6, 7, 8] rfl
              exact join_42 r_4 (nI k14) _ _ _  G hl
          · intro x_6 x_7 H locs ls  G hl
            refine lv_iinc (v := (nI (k14 + 1))) (lv' := [(7, .int (nI (k14 + 1))), (8, .int r_4), (6, .int x_6), (5, .int x_7), (0, .ref h0), (1, .ref hr), (2, .int 2), (3, .int x3), (4, .int 20)]) zx zb dX10_nextLook_53 hl (k := 1) rfl (nI_add k14 1) (by decide) rfl (fun ls hl => ?_)
            refine lv_goto (tgt := 14) zx zb dX10_nextLook_56 (by decide) ?_
            have hl := lv_sub hl (l' := [(7, .int (nI (k14 + 1))), (6, .int x_6), (5, .int x_7), (0, .ref h0), (1, .ref hr), (2, .int 2), (3, .int x3), (4, .int 20)]) [0, 2, 3, 4, 5, 6, 7, 8] rfl
            exact ih14 (k14 + 1) x_6 x_7 m_4a f_4b _ _ _ (by omega) (by omega) G hl
    · intro  H locs ls  G hl
      refine lv_iload zx zb dX10_nextLook_59 (lv_at hl 2 rfl) ?_
      exact e_int S zr zlk (vp_nar_int _) G (m14_1, f14_1) [0, 1, 2, 3] rfl rfl (Or.inr rfl) (trivial) dX10_nextLook_61
theorem in_X10_tell_X10 : ∀ w ∈ wsX100, w ∈ wsX10_tell := by decide +kernel
theorem lk_X10_tell_10 : Cond.fieldLink RX10 10 "EggSpoons" "now" "LEggSpoons$Race;" ∈ wsX10_tell := by decide +kernel
theorem in_X10_tell_X5 : ∀ w ∈ wsX50, w ∈ wsX10_tell := by decide +kernel
theorem lk_X10_tell_126 : Cond.fieldLink RX10 126 "EggSpoons$Race" "row" "[LEggSpoons$Runner;" ∈ wsX10_tell := by decide +kernel
theorem hdV_X10_nextLook : yX10_nextLook.cls = RX10 ∧ yX10_nextLook.cls ≠ "java/lang/invoke/MethodHandle" ∧ yX10_nextLook.cls ≠ "java/lang/invoke/VarHandle" ∧ (parseMethodDescriptor yX10_nextLook.desc).map (fun d => d.parameters.length) = some 4 := by decide +kernel
set_option maxHeartbeats 4000000 in
set_option maxRecDepth 100000 in
/-- tell -/
theorem s_tell (l : Launch) (X : EX) (h0 : Nat) (nw : Nat) (sp : Nat) (xa : Nat → Nat) (la : Int64) (lb : Int64) (an : Nat → Nat) (sv : Nat → Int32) (dv : Nat → Int32) (n0 : Nat) (n1 : Nat) (n2 : Nat) (n3 : Nat) (n4 : Nat) (g0 : Nat → Int32) (gs : Nat → Int32) (gn : Nat → Int32) (gm : Nat → Int32) (hc : Nat) (tm : Int32) (tf : Nat → Int32) (fr : Nat → Int32) (x1 : Int32) (hI_n0 : n0 ≤ 6) (hI_n1 : n1 ≤ 8) (hI_n2 : n2 ≤ 5) (hI_n3 : n3 ≤ 6) (hI_n4 : n4 ≤ 6) (sz : Nat) : Met l yX10_tell wsX10_tell ({ frames := 4, cells := 0, slots := 0, locals := 102 } : Room) (pE X [.ref h0, .int x1] (@HAppend.hAppend va_W va_W va_W _ (xW h0 nw sp xa la lb) (@HAppend.hAppend va_W va_W va_W _ (rcV X nw an sv dv n0 n1 n2 n3 n4 g0 gs gn gm) (@HAppend.hAppend va_W va_W va_W _ ([((xa 10), .inr (7, [.ref hc, .int tm])), (hc, .inl (X.2.1, 16, .inl tf))]) ([((xa 5), .inl (X.2.1, 3, .inl fr))])))) sz) (qI (fun (r : Int32) (u : (Int32) × (Nat → Int32) × (Nat → Int32)) => (True)) X (fun (u : (Int32) × (Nat → Int32) × (Nat → Int32)) => @HAppend.hAppend va_W va_W va_W _ (xW h0 nw sp xa la lb) (@HAppend.hAppend va_W va_W va_W _ (rcV X nw an sv dv n0 n1 n2 n3 n4 g0 gs gn gm) (@HAppend.hAppend va_W va_W va_W _ ([((xa 10), .inr (7, [.ref hc, .int u.1])), (hc, .inl (X.2.1, 16, .inl u.2.1))]) ([((xa 5), .inl (X.2.1, 3, .inl u.2.2))])))) (@HAppend.hAppend va_W va_W va_W _ (xW h0 nw sp xa la lb) (@HAppend.hAppend va_W va_W va_W _ (rcV X nw an sv dv n0 n1 n2 n3 n4 g0 gs gn gm) (@HAppend.hAppend va_W va_W va_W _ ([((xa 10), .inr (7, [.ref hc, .int tm])), (hc, .inl (X.2.1, 16, .inl tf))]) ([((xa 5), .inl (X.2.1, 3, .inl fr))])))) sz) 0 0 (va_A (@HAppend.hAppend va_W va_W va_W _ (xW h0 nw sp xa la lb) (@HAppend.hAppend va_W va_W va_W _ (rcV X nw an sv dv n0 n1 n2 n3 n4 g0 gs gn gm) (@HAppend.hAppend va_W va_W va_W _ ([((xa 10), .inr (7, [.ref hc, .int tm])), (hc, .inl (X.2.1, 16, .inl tf))]) ([((xa 5), .inl (X.2.1, 3, .inl fr))])))) sz) := by
  refine mk_met (B := (va_A (@HAppend.hAppend va_W va_W va_W _ (xW h0 nw sp xa la lb) (@HAppend.hAppend va_W va_W va_W _ (rcV X nw an sv dv n0 n1 n2 n3 n4 g0 gs gn gm) (@HAppend.hAppend va_W va_W va_W _ ([((xa 10), .inr (7, [.ref hc, .int tm])), (hc, .inl (X.2.1, 16, .inl tf))]) ([((xa 5), .inl (X.2.1, 3, .inl fr))])))) sz)) (A := (va_A (@HAppend.hAppend va_W va_W va_W _ (xW h0 nw sp xa la lb) (@HAppend.hAppend va_W va_W va_W _ (rcV X nw an sv dv n0 n1 n2 n3 n4 g0 gs gn gm) (@HAppend.hAppend va_W va_W va_W _ ([((xa 10), .inr (7, [.ref hc, .int tm])), (hc, .inl (X.2.1, 16, .inl tf))]) ([((xa 5), .inl (X.2.1, 3, .inl fr))])))) sz)) (cc := cX10_tell) (maxL := 2) (ret := (some .int)) (by decide) rfl (Nat.le_of_ble_eq_true rfl) k_w k_a (fun p e s m below meth c S zr zlk znm zsz G ls hl => ?_)
  have S : CallFix p m c cX10_tell 2 s _ wsX10_tell RX10 := S
  have zx := S.1
  have zb := S.2.1
  have hl : lv_has ls 2 [(0, .ref h0), (1, .int x1)] := hl
  refine lv_aload_n zx zb dX10_tell_0 rfl (lv_at hl 0 rfl) ?_
  refine lv_iload_n zx zb dX10_tell_1 rfl (lv_at hl 1 rfl) ?_
  refine o_ri (cells' := 0) (slots' := 0) G rfl rfl (n_V (As := [.int x1]) (rest := []) (C := RX10) (T := TX10) (N := 14) (ci := 8) S G (s_there l X h0 nw sp xa la lb an sv dv n0 n1 n2 n3 n4 g0 gs gn gm x1 hI_n0 hI_n1 hI_n2 hI_n3 hI_n4 s.heap.size) gX10_tell_X10_there rfl rfl rfl hdV_X10_there ⟨Nat.le_of_ble_eq_true rfl, Nat.le_of_ble_eq_true rfl⟩ [0, 1, 2, 3, 4, 5, 6, 7, 8, 9, 10, 11, 12, 13, 14, 15, 16] rfl rfl 0 rfl rfl rfl hl.1 (Nat.le_of_ble_eq_true rfl) dX10_tell_2 ⟨Nat.le_of_ble_eq_true rfl, Nat.le_of_ble_eq_true rfl⟩) (fun r_1 u_1 H locs hp_1 G => ?_)
  have G : wd X (va_A (@HAppend.hAppend va_W va_W va_W _ (xW h0 nw sp xa la lb) (@HAppend.hAppend va_W va_W va_W _ (rcV X nw an sv dv n0 n1 n2 n3 n4 g0 gs gn gm) (@HAppend.hAppend va_W va_W va_W _ ([((xa 10), .inr (7, [.ref hc, .int tm])), (hc, .inl (X.2.1, 16, .inl tf))]) ([((xa 5), .inl (X.2.1, 3, .inl fr))])))) sz) (va_A (@HAppend.hAppend va_W va_W va_W _ (xW h0 nw sp xa la lb) (@HAppend.hAppend va_W va_W va_W _ (rcV X nw an sv dv n0 n1 n2 n3 n4 g0 gs gn gm) (@HAppend.hAppend va_W va_W va_W _ ([((xa 10), .inr (7, [.ref hc, .int tm])), (hc, .inl (X.2.1, 16, .inl tf))]) ([((xa 5), .inl (X.2.1, 3, .inl fr))])))) sz) s (@HAppend.hAppend va_W va_W va_W _ (xW h0 nw sp xa la lb) (@HAppend.hAppend va_W va_W va_W _ (rcV X nw an sv dv n0 n1 n2 n3 n4 g0 gs gn gm) (@HAppend.hAppend va_W va_W va_W _ ([((xa 10), .inr (7, [.ref hc, .int tm])), (hc, .inl (X.2.1, 16, .inl tf))]) ([((xa 5), .inl (X.2.1, 3, .inl fr))])))) H locs := G
  rcases hp_1 with ⟨rfl, hj_1⟩ | ⟨rfl, hj_1⟩
  · obtain ⟨j_1, hj_1, rfl⟩ := hj_1
    refine lv_if_ne (tgt := 15) zx zb dX10_tell_5 (by decide) (fun c_2 => ?_) (fun c_2 => absurd c_2 (by decide))
    refine lv_aload_n zx zb dX10_tell_15 rfl (lv_at hl 0 rfl) ?_
    refine lv_aload_n zx zb dX10_tell_16 rfl (lv_at hl 0 rfl) ?_
    refine r_get (C := RX10) (T := TX10) (N := 14) (ci := 8) (v := .ref nw) S in_X10_tell_X10 G 0 rfl rfl 0 (by decide) lk_X10_tell_10 rfl dX10_tell_17 ?_
    refine r_get (C := RX5) (T := TX5) (N := 8) (ci := 3) (v := .ref (an 0)) S in_X10_tell_X5 G 1 rfl rfl 3 (by decide) lk_X10_tell_126 rfl dX10_tell_20 ?_
    refine lv_iload_n zx zb dX10_tell_23 rfl (lv_at hl 1 rfl) ?_
    rcases k_6c (show j_1 < 6 by omega) with rfl | rfl | rfl | rfl | rfl | rfl
    · refine k_it (v := 0) rfl ?_
      refine r_aald (C := RX8) (b := (an 1)) S G 2 3 rfl rfl (k_vp (by decide)) rfl dX10_tell_24 ?_
      refine lv_iconst (v := 0) zx zb dX10_tell_25 (by decide) ?_
      refine lv_aload_n zx zb dX10_tell_26 rfl (lv_at hl 0 rfl) ?_
      refine r_get (C := RX10) (T := TX10) (N := 14) (ci := 8) (v := .ref nw) S in_X10_tell_X10 G 0 rfl rfl 0 (by decide) lk_X10_tell_10 rfl dX10_tell_27 ?_
      refine lv_iload_n zx zb dX10_tell_30 rfl (lv_at hl 1 rfl) ?_
      refine o_ri (cells' := 0) (slots' := 0) G rfl rfl (n_V (As := [.int 0]) (rest := [.int 0, .ref (an 1), .ref h0]) (C := RX5) (T := TX5) (N := 8) (ci := 3) S G (s_legsThatFit l X nw an sv dv n0 n1 n2 n3 n4 g0 gs gn gm 0 hI_n0 hI_n1 hI_n2 hI_n3 hI_n4 (by omega) H.size) gX10_tell_X5_legsThatFit rfl rfl rfl hdV_X5_legsThatFit ⟨Nat.le_of_ble_eq_true rfl, Nat.le_of_ble_eq_true rfl⟩ [1, 2, 3, 4, 5, 6, 7, 8, 9, 10, 11, 12, 13, 14, 15, 16] rfl rfl 1 rfl rfl rfl hl.1 (Nat.le_of_ble_eq_true rfl) dX10_tell_31 ⟨Nat.le_of_ble_eq_true rfl, Nat.le_of_ble_eq_true rfl⟩) (fun r_3 u_3 H locs hp_3 G => ?_)
      have G : wd X (va_A (@HAppend.hAppend va_W va_W va_W _ (xW h0 nw sp xa la lb) (@HAppend.hAppend va_W va_W va_W _ (rcV X nw an sv dv n0 n1 n2 n3 n4 g0 gs gn gm) (@HAppend.hAppend va_W va_W va_W _ ([((xa 10), .inr (7, [.ref hc, .int tm])), (hc, .inl (X.2.1, 16, .inl tf))]) ([((xa 5), .inl (X.2.1, 3, .inl fr))])))) sz) (va_A (@HAppend.hAppend va_W va_W va_W _ (xW h0 nw sp xa la lb) (@HAppend.hAppend va_W va_W va_W _ (rcV X nw an sv dv n0 n1 n2 n3 n4 g0 gs gn gm) (@HAppend.hAppend va_W va_W va_W _ ([((xa 10), .inr (7, [.ref hc, .int tm])), (hc, .inl (X.2.1, 16, .inl tf))]) ([((xa 5), .inl (X.2.1, 3, .inl fr))])))) sz) s (@HAppend.hAppend va_W va_W va_W _ (xW h0 nw sp xa la lb) (@HAppend.hAppend va_W va_W va_W _ (rcV X nw an sv dv n0 n1 n2 n3 n4 g0 gs gn gm) (@HAppend.hAppend va_W va_W va_W _ ([((xa 10), .inr (7, [.ref hc, .int tm])), (hc, .inl (X.2.1, 16, .inl tf))]) ([((xa 5), .inl (X.2.1, 3, .inl fr))])))) H locs := G
      refine lv_sipush (v := 200) zx zb dX10_tell_34 (by decide) ?_
      refine b_wi (cells' := 0) (slots' := 0) (wr := @HAppend.hAppend va_W va_W va_W _ ([(nw, .inr (3, [.int (dv 0), .int (dv 1), .int (nI n0), .ref (an 0), .ref (an 7), .ref (an 9), .ref (an 11), .ref (an 13)])), ((an 0), .inl (X.2.2.2.2, 6, .inr (.inr (.inr (.inr (rowQ an)))))), ((an 2), .inr (6, [.int (sv 3), .int (sv 4), .int (sv 5), .int (dv 15), .int (dv 16), .int (dv 17), .int (dv 18), .int (dv 19)])), ((an 3), .inr (6, [.int (sv 6), .int (sv 7), .int (sv 8), .int (dv 20), .int (dv 21), .int (dv 22), .int (dv 23), .int (dv 24)])), ((an 4), .inr (6, [.int (sv 9), .int (sv 10), .int (sv 11), .int (dv 25), .int (dv 26), .int (dv 27), .int (dv 28), .int (dv 29)])), ((an 5), .inr (6, [.int (sv 12), .int (sv 13), .int (sv 14), .int (dv 30), .int (dv 31), .int (dv 32), .int (dv 33), .int (dv 34)])), ((an 6), .inr (6, [.int (sv 15), .int (sv 16), .int (sv 17), .int (dv 35), .int (dv 36), .int (dv 37), .int (dv 38), .int (dv 39)])), ((an 7), .inr (2, [.ref (an 8), .int (nI n1)])), ((an 8), .inl (X.2.1, 248, .inl g0)), ((an 9), .inr (5, [.int 5, .int 0, .int 1, .ref (an 10), .int (nI n2)])), ((an 10), .inl (X.2.1, 25, .inl gs)), ((an 11), .inr (5, [.int 6, .int 1, .int 1, .ref (an 12), .int (nI n3)])), ((an 12), .inl (X.2.1, 30, .inl gn)), ((an 13), .inr (5, [.int 6, .int 0, .int 0, .ref (an 14), .int (nI n4)])), ((an 14), .inl (X.2.1, 30, .inl gm))]) ([((xa 5), .inl (X.2.1, 3, .inl fr))])) G rfl rfl [0, 17, 18, 3] [1, 2, 4, 5, 6, 7, 8, 9, 10, 11, 12, 13, 14, 15, 16, 19] rfl rfl rfl rfl (n_V (As := [.ref (an 1), .int 0, .int r_3, .int 200]) (rest := []) (C := RX10) (T := TX10) (N := 14) (ci := 8) S G (s_nextLook0 l X h0 nw sp xa la lb hc tm tf (an 1) (fun k => sv (0 + k)) (fun k => dv (10 + k)) r_3 H.size) gX10_tell_X10_nextLook rfl rfl rfl hdV_X10_nextLook ⟨Nat.le_of_ble_eq_true rfl, Nat.le_of_ble_eq_true rfl⟩ [0, 17, 18, 3] rfl rfl 0 rfl rfl rfl hl.1 (Nat.le_of_ble_eq_true rfl) dX10_tell_37 ⟨Nat.le_of_ble_eq_true rfl, Nat.le_of_ble_eq_true rfl⟩) (fun r_4 u_4 H locs hp_4 G => ?_)
      obtain ⟨m_4a, f_4b⟩ := u_4
      have hq_4 := hp_4
      have G : wd X (va_A (@HAppend.hAppend va_W va_W va_W _ (xW h0 nw sp xa la lb) (@HAppend.hAppend va_W va_W va_W _ (rcV X nw an sv dv n0 n1 n2 n3 n4 g0 gs gn gm) (@HAppend.hAppend va_W va_W va_W _ ([((xa 10), .inr (7, [.ref hc, .int tm])), (hc, .inl (X.2.1, 16, .inl tf))]) ([((xa 5), .inl (X.2.1, 3, .inl fr))])))) sz) (va_A (@HAppend.hAppend va_W va_W va_W _ (xW h0 nw sp xa la lb) (@HAppend.hAppend va_W va_W va_W _ (rcV X nw an sv dv n0 n1 n2 n3 n4 g0 gs gn gm) (@HAppend.hAppend va_W va_W va_W _ ([((xa 10), .inr (7, [.ref hc, .int tm])), (hc, .inl (X.2.1, 16, .inl tf))]) ([((xa 5), .inl (X.2.1, 3, .inl fr))])))) sz) s (@HAppend.hAppend va_W va_W va_W _ (rcV X nw an sv dv n0 n1 n2 n3 n4 g0 gs gn gm) (@HAppend.hAppend va_W va_W va_W _ ([((xa 5), .inl (X.2.1, 3, .inl fr))]) (@HAppend.hAppend va_W va_W va_W _ (xW h0 nw sp xa la lb) ([((xa 10), .inr (7, [.ref hc, .int m_4a])), (hc, .inl (X.2.1, 16, .inl f_4b))])))) H locs := wd_sub G [0, 1, 19, 2, 3, 4, 5, 6, 7, 8, 9, 10, 11, 12, 13, 14, 15, 16, 17, 18] rfl rfl
      exact e_int S zr zlk (vp_nar_int _) G (m_4a, f_4b, fr) [17, 0, 1, 2, 3, 4, 5, 6, 7, 8, 9, 10, 11, 12, 13, 14, 15, 18, 19, 16] rfl rfl (Or.inr rfl) (trivial) dX10_tell_40
    · refine k_it (v := 1) rfl ?_
      refine r_aald (C := RX8) (b := (an 2)) S G 2 3 rfl rfl (k_vp (by decide)) rfl dX10_tell_24 ?_
      refine lv_iconst (v := 0) zx zb dX10_tell_25 (by decide) ?_
      refine lv_aload_n zx zb dX10_tell_26 rfl (lv_at hl 0 rfl) ?_
      refine r_get (C := RX10) (T := TX10) (N := 14) (ci := 8) (v := .ref nw) S in_X10_tell_X10 G 0 rfl rfl 0 (by decide) lk_X10_tell_10 rfl dX10_tell_27 ?_
      refine lv_iload_n zx zb dX10_tell_30 rfl (lv_at hl 1 rfl) ?_
      refine o_ri (cells' := 0) (slots' := 0) G rfl rfl (n_V (As := [.int 1]) (rest := [.int 0, .ref (an 2), .ref h0]) (C := RX5) (T := TX5) (N := 8) (ci := 3) S G (s_legsThatFit l X nw an sv dv n0 n1 n2 n3 n4 g0 gs gn gm 1 hI_n0 hI_n1 hI_n2 hI_n3 hI_n4 (by omega) H.size) gX10_tell_X5_legsThatFit rfl rfl rfl hdV_X5_legsThatFit ⟨Nat.le_of_ble_eq_true rfl, Nat.le_of_ble_eq_true rfl⟩ [1, 2, 3, 4, 5, 6, 7, 8, 9, 10, 11, 12, 13, 14, 15, 16] rfl rfl 1 rfl rfl rfl hl.1 (Nat.le_of_ble_eq_true rfl) dX10_tell_31 ⟨Nat.le_of_ble_eq_true rfl, Nat.le_of_ble_eq_true rfl⟩) (fun r_5 u_5 H locs hp_5 G => ?_)
      have G : wd X (va_A (@HAppend.hAppend va_W va_W va_W _ (xW h0 nw sp xa la lb) (@HAppend.hAppend va_W va_W va_W _ (rcV X nw an sv dv n0 n1 n2 n3 n4 g0 gs gn gm) (@HAppend.hAppend va_W va_W va_W _ ([((xa 10), .inr (7, [.ref hc, .int tm])), (hc, .inl (X.2.1, 16, .inl tf))]) ([((xa 5), .inl (X.2.1, 3, .inl fr))])))) sz) (va_A (@HAppend.hAppend va_W va_W va_W _ (xW h0 nw sp xa la lb) (@HAppend.hAppend va_W va_W va_W _ (rcV X nw an sv dv n0 n1 n2 n3 n4 g0 gs gn gm) (@HAppend.hAppend va_W va_W va_W _ ([((xa 10), .inr (7, [.ref hc, .int tm])), (hc, .inl (X.2.1, 16, .inl tf))]) ([((xa 5), .inl (X.2.1, 3, .inl fr))])))) sz) s (@HAppend.hAppend va_W va_W va_W _ (xW h0 nw sp xa la lb) (@HAppend.hAppend va_W va_W va_W _ (rcV X nw an sv dv n0 n1 n2 n3 n4 g0 gs gn gm) (@HAppend.hAppend va_W va_W va_W _ ([((xa 10), .inr (7, [.ref hc, .int tm])), (hc, .inl (X.2.1, 16, .inl tf))]) ([((xa 5), .inl (X.2.1, 3, .inl fr))])))) H locs := G
      refine lv_sipush (v := 200) zx zb dX10_tell_34 (by decide) ?_
      refine b_wi (cells' := 0) (slots' := 0) (wr := @HAppend.hAppend va_W va_W va_W _ ([(nw, .inr (3, [.int (dv 0), .int (dv 1), .int (nI n0), .ref (an 0), .ref (an 7), .ref (an 9), .ref (an 11), .ref (an 13)])), ((an 0), .inl (X.2.2.2.2, 6, .inr (.inr (.inr (.inr (rowQ an)))))), ((an 1), .inr (6, [.int (sv 0), .int (sv 1), .int (sv 2), .int (dv 10), .int (dv 11), .int (dv 12), .int (dv 13), .int (dv 14)])), ((an 3), .inr (6, [.int (sv 6), .int (sv 7), .int (sv 8), .int (dv 20), .int (dv 21), .int (dv 22), .int (dv 23), .int (dv 24)])), ((an 4), .inr (6, [.int (sv 9), .int (sv 10), .int (sv 11), .int (dv 25), .int (dv 26), .int (dv 27), .int (dv 28), .int (dv 29)])), ((an 5), .inr (6, [.int (sv 12), .int (sv 13), .int (sv 14), .int (dv 30), .int (dv 31), .int (dv 32), .int (dv 33), .int (dv 34)])), ((an 6), .inr (6, [.int (sv 15), .int (sv 16), .int (sv 17), .int (dv 35), .int (dv 36), .int (dv 37), .int (dv 38), .int (dv 39)])), ((an 7), .inr (2, [.ref (an 8), .int (nI n1)])), ((an 8), .inl (X.2.1, 248, .inl g0)), ((an 9), .inr (5, [.int 5, .int 0, .int 1, .ref (an 10), .int (nI n2)])), ((an 10), .inl (X.2.1, 25, .inl gs)), ((an 11), .inr (5, [.int 6, .int 1, .int 1, .ref (an 12), .int (nI n3)])), ((an 12), .inl (X.2.1, 30, .inl gn)), ((an 13), .inr (5, [.int 6, .int 0, .int 0, .ref (an 14), .int (nI n4)])), ((an 14), .inl (X.2.1, 30, .inl gm))]) ([((xa 5), .inl (X.2.1, 3, .inl fr))])) G rfl rfl [0, 17, 18, 4] [1, 2, 3, 5, 6, 7, 8, 9, 10, 11, 12, 13, 14, 15, 16, 19] rfl rfl rfl rfl (n_V (As := [.ref (an 2), .int 0, .int r_5, .int 200]) (rest := []) (C := RX10) (T := TX10) (N := 14) (ci := 8) S G (s_nextLook0 l X h0 nw sp xa la lb hc tm tf (an 2) (fun k => sv (3 + k)) (fun k => dv (15 + k)) r_5 H.size) gX10_tell_X10_nextLook rfl rfl rfl hdV_X10_nextLook ⟨Nat.le_of_ble_eq_true rfl, Nat.le_of_ble_eq_true rfl⟩ [0, 17, 18, 4] rfl rfl 0 rfl rfl rfl hl.1 (Nat.le_of_ble_eq_true rfl) dX10_tell_37 ⟨Nat.le_of_ble_eq_true rfl, Nat.le_of_ble_eq_true rfl⟩) (fun r_6 u_6 H locs hp_6 G => ?_)
      obtain ⟨m_6a, f_6b⟩ := u_6
      have hq_6 := hp_6
      have G : wd X (va_A (@HAppend.hAppend va_W va_W va_W _ (xW h0 nw sp xa la lb) (@HAppend.hAppend va_W va_W va_W _ (rcV X nw an sv dv n0 n1 n2 n3 n4 g0 gs gn gm) (@HAppend.hAppend va_W va_W va_W _ ([((xa 10), .inr (7, [.ref hc, .int tm])), (hc, .inl (X.2.1, 16, .inl tf))]) ([((xa 5), .inl (X.2.1, 3, .inl fr))])))) sz) (va_A (@HAppend.hAppend va_W va_W va_W _ (xW h0 nw sp xa la lb) (@HAppend.hAppend va_W va_W va_W _ (rcV X nw an sv dv n0 n1 n2 n3 n4 g0 gs gn gm) (@HAppend.hAppend va_W va_W va_W _ ([((xa 10), .inr (7, [.ref hc, .int tm])), (hc, .inl (X.2.1, 16, .inl tf))]) ([((xa 5), .inl (X.2.1, 3, .inl fr))])))) sz) s (@HAppend.hAppend va_W va_W va_W _ (rcV X nw an sv dv n0 n1 n2 n3 n4 g0 gs gn gm) (@HAppend.hAppend va_W va_W va_W _ ([((xa 5), .inl (X.2.1, 3, .inl fr))]) (@HAppend.hAppend va_W va_W va_W _ (xW h0 nw sp xa la lb) ([((xa 10), .inr (7, [.ref hc, .int m_6a])), (hc, .inl (X.2.1, 16, .inl f_6b))])))) H locs := wd_sub G [0, 1, 2, 19, 3, 4, 5, 6, 7, 8, 9, 10, 11, 12, 13, 14, 15, 16, 17, 18] rfl rfl
      exact e_int S zr zlk (vp_nar_int _) G (m_6a, f_6b, fr) [17, 0, 1, 2, 3, 4, 5, 6, 7, 8, 9, 10, 11, 12, 13, 14, 15, 18, 19, 16] rfl rfl (Or.inr rfl) (trivial) dX10_tell_40
    · refine k_it (v := 2) rfl ?_
      refine r_aald (C := RX8) (b := (an 3)) S G 2 3 rfl rfl (k_vp (by decide)) rfl dX10_tell_24 ?_
      refine lv_iconst (v := 0) zx zb dX10_tell_25 (by decide) ?_
      refine lv_aload_n zx zb dX10_tell_26 rfl (lv_at hl 0 rfl) ?_
      refine r_get (C := RX10) (T := TX10) (N := 14) (ci := 8) (v := .ref nw) S in_X10_tell_X10 G 0 rfl rfl 0 (by decide) lk_X10_tell_10 rfl dX10_tell_27 ?_
      refine lv_iload_n zx zb dX10_tell_30 rfl (lv_at hl 1 rfl) ?_
      refine o_ri (cells' := 0) (slots' := 0) G rfl rfl (n_V (As := [.int 2]) (rest := [.int 0, .ref (an 3), .ref h0]) (C := RX5) (T := TX5) (N := 8) (ci := 3) S G (s_legsThatFit l X nw an sv dv n0 n1 n2 n3 n4 g0 gs gn gm 2 hI_n0 hI_n1 hI_n2 hI_n3 hI_n4 (by omega) H.size) gX10_tell_X5_legsThatFit rfl rfl rfl hdV_X5_legsThatFit ⟨Nat.le_of_ble_eq_true rfl, Nat.le_of_ble_eq_true rfl⟩ [1, 2, 3, 4, 5, 6, 7, 8, 9, 10, 11, 12, 13, 14, 15, 16] rfl rfl 1 rfl rfl rfl hl.1 (Nat.le_of_ble_eq_true rfl) dX10_tell_31 ⟨Nat.le_of_ble_eq_true rfl, Nat.le_of_ble_eq_true rfl⟩) (fun r_7 u_7 H locs hp_7 G => ?_)
      have G : wd X (va_A (@HAppend.hAppend va_W va_W va_W _ (xW h0 nw sp xa la lb) (@HAppend.hAppend va_W va_W va_W _ (rcV X nw an sv dv n0 n1 n2 n3 n4 g0 gs gn gm) (@HAppend.hAppend va_W va_W va_W _ ([((xa 10), .inr (7, [.ref hc, .int tm])), (hc, .inl (X.2.1, 16, .inl tf))]) ([((xa 5), .inl (X.2.1, 3, .inl fr))])))) sz) (va_A (@HAppend.hAppend va_W va_W va_W _ (xW h0 nw sp xa la lb) (@HAppend.hAppend va_W va_W va_W _ (rcV X nw an sv dv n0 n1 n2 n3 n4 g0 gs gn gm) (@HAppend.hAppend va_W va_W va_W _ ([((xa 10), .inr (7, [.ref hc, .int tm])), (hc, .inl (X.2.1, 16, .inl tf))]) ([((xa 5), .inl (X.2.1, 3, .inl fr))])))) sz) s (@HAppend.hAppend va_W va_W va_W _ (xW h0 nw sp xa la lb) (@HAppend.hAppend va_W va_W va_W _ (rcV X nw an sv dv n0 n1 n2 n3 n4 g0 gs gn gm) (@HAppend.hAppend va_W va_W va_W _ ([((xa 10), .inr (7, [.ref hc, .int tm])), (hc, .inl (X.2.1, 16, .inl tf))]) ([((xa 5), .inl (X.2.1, 3, .inl fr))])))) H locs := G
      refine lv_sipush (v := 200) zx zb dX10_tell_34 (by decide) ?_
      refine b_wi (cells' := 0) (slots' := 0) (wr := @HAppend.hAppend va_W va_W va_W _ ([(nw, .inr (3, [.int (dv 0), .int (dv 1), .int (nI n0), .ref (an 0), .ref (an 7), .ref (an 9), .ref (an 11), .ref (an 13)])), ((an 0), .inl (X.2.2.2.2, 6, .inr (.inr (.inr (.inr (rowQ an)))))), ((an 1), .inr (6, [.int (sv 0), .int (sv 1), .int (sv 2), .int (dv 10), .int (dv 11), .int (dv 12), .int (dv 13), .int (dv 14)])), ((an 2), .inr (6, [.int (sv 3), .int (sv 4), .int (sv 5), .int (dv 15), .int (dv 16), .int (dv 17), .int (dv 18), .int (dv 19)])), ((an 4), .inr (6, [.int (sv 9), .int (sv 10), .int (sv 11), .int (dv 25), .int (dv 26), .int (dv 27), .int (dv 28), .int (dv 29)])), ((an 5), .inr (6, [.int (sv 12), .int (sv 13), .int (sv 14), .int (dv 30), .int (dv 31), .int (dv 32), .int (dv 33), .int (dv 34)])), ((an 6), .inr (6, [.int (sv 15), .int (sv 16), .int (sv 17), .int (dv 35), .int (dv 36), .int (dv 37), .int (dv 38), .int (dv 39)])), ((an 7), .inr (2, [.ref (an 8), .int (nI n1)])), ((an 8), .inl (X.2.1, 248, .inl g0)), ((an 9), .inr (5, [.int 5, .int 0, .int 1, .ref (an 10), .int (nI n2)])), ((an 10), .inl (X.2.1, 25, .inl gs)), ((an 11), .inr (5, [.int 6, .int 1, .int 1, .ref (an 12), .int (nI n3)])), ((an 12), .inl (X.2.1, 30, .inl gn)), ((an 13), .inr (5, [.int 6, .int 0, .int 0, .ref (an 14), .int (nI n4)])), ((an 14), .inl (X.2.1, 30, .inl gm))]) ([((xa 5), .inl (X.2.1, 3, .inl fr))])) G rfl rfl [0, 17, 18, 5] [1, 2, 3, 4, 6, 7, 8, 9, 10, 11, 12, 13, 14, 15, 16, 19] rfl rfl rfl rfl (n_V (As := [.ref (an 3), .int 0, .int r_7, .int 200]) (rest := []) (C := RX10) (T := TX10) (N := 14) (ci := 8) S G (s_nextLook0 l X h0 nw sp xa la lb hc tm tf (an 3) (fun k => sv (6 + k)) (fun k => dv (20 + k)) r_7 H.size) gX10_tell_X10_nextLook rfl rfl rfl hdV_X10_nextLook ⟨Nat.le_of_ble_eq_true rfl, Nat.le_of_ble_eq_true rfl⟩ [0, 17, 18, 5] rfl rfl 0 rfl rfl rfl hl.1 (Nat.le_of_ble_eq_true rfl) dX10_tell_37 ⟨Nat.le_of_ble_eq_true rfl, Nat.le_of_ble_eq_true rfl⟩) (fun r_8 u_8 H locs hp_8 G => ?_)
      obtain ⟨m_8a, f_8b⟩ := u_8
      have hq_8 := hp_8
      have G : wd X (va_A (@HAppend.hAppend va_W va_W va_W _ (xW h0 nw sp xa la lb) (@HAppend.hAppend va_W va_W va_W _ (rcV X nw an sv dv n0 n1 n2 n3 n4 g0 gs gn gm) (@HAppend.hAppend va_W va_W va_W _ ([((xa 10), .inr (7, [.ref hc, .int tm])), (hc, .inl (X.2.1, 16, .inl tf))]) ([((xa 5), .inl (X.2.1, 3, .inl fr))])))) sz) (va_A (@HAppend.hAppend va_W va_W va_W _ (xW h0 nw sp xa la lb) (@HAppend.hAppend va_W va_W va_W _ (rcV X nw an sv dv n0 n1 n2 n3 n4 g0 gs gn gm) (@HAppend.hAppend va_W va_W va_W _ ([((xa 10), .inr (7, [.ref hc, .int tm])), (hc, .inl (X.2.1, 16, .inl tf))]) ([((xa 5), .inl (X.2.1, 3, .inl fr))])))) sz) s (@HAppend.hAppend va_W va_W va_W _ (rcV X nw an sv dv n0 n1 n2 n3 n4 g0 gs gn gm) (@HAppend.hAppend va_W va_W va_W _ ([((xa 5), .inl (X.2.1, 3, .inl fr))]) (@HAppend.hAppend va_W va_W va_W _ (xW h0 nw sp xa la lb) ([((xa 10), .inr (7, [.ref hc, .int m_8a])), (hc, .inl (X.2.1, 16, .inl f_8b))])))) H locs := wd_sub G [0, 1, 2, 3, 19, 4, 5, 6, 7, 8, 9, 10, 11, 12, 13, 14, 15, 16, 17, 18] rfl rfl
      exact e_int S zr zlk (vp_nar_int _) G (m_8a, f_8b, fr) [17, 0, 1, 2, 3, 4, 5, 6, 7, 8, 9, 10, 11, 12, 13, 14, 15, 18, 19, 16] rfl rfl (Or.inr rfl) (trivial) dX10_tell_40
    · refine k_it (v := 3) rfl ?_
      refine r_aald (C := RX8) (b := (an 4)) S G 2 3 rfl rfl (k_vp (by decide)) rfl dX10_tell_24 ?_
      refine lv_iconst (v := 0) zx zb dX10_tell_25 (by decide) ?_
      refine lv_aload_n zx zb dX10_tell_26 rfl (lv_at hl 0 rfl) ?_
      refine r_get (C := RX10) (T := TX10) (N := 14) (ci := 8) (v := .ref nw) S in_X10_tell_X10 G 0 rfl rfl 0 (by decide) lk_X10_tell_10 rfl dX10_tell_27 ?_
      refine lv_iload_n zx zb dX10_tell_30 rfl (lv_at hl 1 rfl) ?_
      refine o_ri (cells' := 0) (slots' := 0) G rfl rfl (n_V (As := [.int 3]) (rest := [.int 0, .ref (an 4), .ref h0]) (C := RX5) (T := TX5) (N := 8) (ci := 3) S G (s_legsThatFit l X nw an sv dv n0 n1 n2 n3 n4 g0 gs gn gm 3 hI_n0 hI_n1 hI_n2 hI_n3 hI_n4 (by omega) H.size) gX10_tell_X5_legsThatFit rfl rfl rfl hdV_X5_legsThatFit ⟨Nat.le_of_ble_eq_true rfl, Nat.le_of_ble_eq_true rfl⟩ [1, 2, 3, 4, 5, 6, 7, 8, 9, 10, 11, 12, 13, 14, 15, 16] rfl rfl 1 rfl rfl rfl hl.1 (Nat.le_of_ble_eq_true rfl) dX10_tell_31 ⟨Nat.le_of_ble_eq_true rfl, Nat.le_of_ble_eq_true rfl⟩) (fun r_9 u_9 H locs hp_9 G => ?_)
      have G : wd X (va_A (@HAppend.hAppend va_W va_W va_W _ (xW h0 nw sp xa la lb) (@HAppend.hAppend va_W va_W va_W _ (rcV X nw an sv dv n0 n1 n2 n3 n4 g0 gs gn gm) (@HAppend.hAppend va_W va_W va_W _ ([((xa 10), .inr (7, [.ref hc, .int tm])), (hc, .inl (X.2.1, 16, .inl tf))]) ([((xa 5), .inl (X.2.1, 3, .inl fr))])))) sz) (va_A (@HAppend.hAppend va_W va_W va_W _ (xW h0 nw sp xa la lb) (@HAppend.hAppend va_W va_W va_W _ (rcV X nw an sv dv n0 n1 n2 n3 n4 g0 gs gn gm) (@HAppend.hAppend va_W va_W va_W _ ([((xa 10), .inr (7, [.ref hc, .int tm])), (hc, .inl (X.2.1, 16, .inl tf))]) ([((xa 5), .inl (X.2.1, 3, .inl fr))])))) sz) s (@HAppend.hAppend va_W va_W va_W _ (xW h0 nw sp xa la lb) (@HAppend.hAppend va_W va_W va_W _ (rcV X nw an sv dv n0 n1 n2 n3 n4 g0 gs gn gm) (@HAppend.hAppend va_W va_W va_W _ ([((xa 10), .inr (7, [.ref hc, .int tm])), (hc, .inl (X.2.1, 16, .inl tf))]) ([((xa 5), .inl (X.2.1, 3, .inl fr))])))) H locs := G
      refine lv_sipush (v := 200) zx zb dX10_tell_34 (by decide) ?_
      refine b_wi (cells' := 0) (slots' := 0) (wr := @HAppend.hAppend va_W va_W va_W _ ([(nw, .inr (3, [.int (dv 0), .int (dv 1), .int (nI n0), .ref (an 0), .ref (an 7), .ref (an 9), .ref (an 11), .ref (an 13)])), ((an 0), .inl (X.2.2.2.2, 6, .inr (.inr (.inr (.inr (rowQ an)))))), ((an 1), .inr (6, [.int (sv 0), .int (sv 1), .int (sv 2), .int (dv 10), .int (dv 11), .int (dv 12), .int (dv 13), .int (dv 14)])), ((an 2), .inr (6, [.int (sv 3), .int (sv 4), .int (sv 5), .int (dv 15), .int (dv 16), .int (dv 17), .int (dv 18), .int (dv 19)])), ((an 3), .inr (6, [.int (sv 6), .int (sv 7), .int (sv 8), .int (dv 20), .int (dv 21), .int (dv 22), .int (dv 23), .int (dv 24)])), ((an 5), .inr (6, [.int (sv 12), .int (sv 13), .int (sv 14), .int (dv 30), .int (dv 31), .int (dv 32), .int (dv 33), .int (dv 34)])), ((an 6), .inr (6, [.int (sv 15), .int (sv 16), .int (sv 17), .int (dv 35), .int (dv 36), .int (dv 37), .int (dv 38), .int (dv 39)])), ((an 7), .inr (2, [.ref (an 8), .int (nI n1)])), ((an 8), .inl (X.2.1, 248, .inl g0)), ((an 9), .inr (5, [.int 5, .int 0, .int 1, .ref (an 10), .int (nI n2)])), ((an 10), .inl (X.2.1, 25, .inl gs)), ((an 11), .inr (5, [.int 6, .int 1, .int 1, .ref (an 12), .int (nI n3)])), ((an 12), .inl (X.2.1, 30, .inl gn)), ((an 13), .inr (5, [.int 6, .int 0, .int 0, .ref (an 14), .int (nI n4)])), ((an 14), .inl (X.2.1, 30, .inl gm))]) ([((xa 5), .inl (X.2.1, 3, .inl fr))])) G rfl rfl [0, 17, 18, 6] [1, 2, 3, 4, 5, 7, 8, 9, 10, 11, 12, 13, 14, 15, 16, 19] rfl rfl rfl rfl (n_V (As := [.ref (an 4), .int 0, .int r_9, .int 200]) (rest := []) (C := RX10) (T := TX10) (N := 14) (ci := 8) S G (s_nextLook0 l X h0 nw sp xa la lb hc tm tf (an 4) (fun k => sv (9 + k)) (fun k => dv (25 + k)) r_9 H.size) gX10_tell_X10_nextLook rfl rfl rfl hdV_X10_nextLook ⟨Nat.le_of_ble_eq_true rfl, Nat.le_of_ble_eq_true rfl⟩ [0, 17, 18, 6] rfl rfl 0 rfl rfl rfl hl.1 (Nat.le_of_ble_eq_true rfl) dX10_tell_37 ⟨Nat.le_of_ble_eq_true rfl, Nat.le_of_ble_eq_true rfl⟩) (fun r_10 u_10 H locs hp_10 G => ?_)
      obtain ⟨m_10a, f_10b⟩ := u_10
      have hq_10 := hp_10
      have G : wd X (va_A (@HAppend.hAppend va_W va_W va_W _ (xW h0 nw sp xa la lb) (@HAppend.hAppend va_W va_W va_W _ (rcV X nw an sv dv n0 n1 n2 n3 n4 g0 gs gn gm) (@HAppend.hAppend va_W va_W va_W _ ([((xa 10), .inr (7, [.ref hc, .int tm])), (hc, .inl (X.2.1, 16, .inl tf))]) ([((xa 5), .inl (X.2.1, 3, .inl fr))])))) sz) (va_A (@HAppend.hAppend va_W va_W va_W _ (xW h0 nw sp xa la lb) (@HAppend.hAppend va_W va_W va_W _ (rcV X nw an sv dv n0 n1 n2 n3 n4 g0 gs gn gm) (@HAppend.hAppend va_W va_W va_W _ ([((xa 10), .inr (7, [.ref hc, .int tm])), (hc, .inl (X.2.1, 16, .inl tf))]) ([((xa 5), .inl (X.2.1, 3, .inl fr))])))) sz) s (@HAppend.hAppend va_W va_W va_W _ (rcV X nw an sv dv n0 n1 n2 n3 n4 g0 gs gn gm) (@HAppend.hAppend va_W va_W va_W _ ([((xa 5), .inl (X.2.1, 3, .inl fr))]) (@HAppend.hAppend va_W va_W va_W _ (xW h0 nw sp xa la lb) ([((xa 10), .inr (7, [.ref hc, .int m_10a])), (hc, .inl (X.2.1, 16, .inl f_10b))])))) H locs := wd_sub G [0, 1, 2, 3, 4, 19, 5, 6, 7, 8, 9, 10, 11, 12, 13, 14, 15, 16, 17, 18] rfl rfl
      exact e_int S zr zlk (vp_nar_int _) G (m_10a, f_10b, fr) [17, 0, 1, 2, 3, 4, 5, 6, 7, 8, 9, 10, 11, 12, 13, 14, 15, 18, 19, 16] rfl rfl (Or.inr rfl) (trivial) dX10_tell_40
    · refine k_it (v := 4) rfl ?_
      refine r_aald (C := RX8) (b := (an 5)) S G 2 3 rfl rfl (k_vp (by decide)) rfl dX10_tell_24 ?_
      refine lv_iconst (v := 0) zx zb dX10_tell_25 (by decide) ?_
      refine lv_aload_n zx zb dX10_tell_26 rfl (lv_at hl 0 rfl) ?_
      refine r_get (C := RX10) (T := TX10) (N := 14) (ci := 8) (v := .ref nw) S in_X10_tell_X10 G 0 rfl rfl 0 (by decide) lk_X10_tell_10 rfl dX10_tell_27 ?_
      refine lv_iload_n zx zb dX10_tell_30 rfl (lv_at hl 1 rfl) ?_
      refine o_ri (cells' := 0) (slots' := 0) G rfl rfl (n_V (As := [.int 4]) (rest := [.int 0, .ref (an 5), .ref h0]) (C := RX5) (T := TX5) (N := 8) (ci := 3) S G (s_legsThatFit l X nw an sv dv n0 n1 n2 n3 n4 g0 gs gn gm 4 hI_n0 hI_n1 hI_n2 hI_n3 hI_n4 (by omega) H.size) gX10_tell_X5_legsThatFit rfl rfl rfl hdV_X5_legsThatFit ⟨Nat.le_of_ble_eq_true rfl, Nat.le_of_ble_eq_true rfl⟩ [1, 2, 3, 4, 5, 6, 7, 8, 9, 10, 11, 12, 13, 14, 15, 16] rfl rfl 1 rfl rfl rfl hl.1 (Nat.le_of_ble_eq_true rfl) dX10_tell_31 ⟨Nat.le_of_ble_eq_true rfl, Nat.le_of_ble_eq_true rfl⟩) (fun r_11 u_11 H locs hp_11 G => ?_)
      have G : wd X (va_A (@HAppend.hAppend va_W va_W va_W _ (xW h0 nw sp xa la lb) (@HAppend.hAppend va_W va_W va_W _ (rcV X nw an sv dv n0 n1 n2 n3 n4 g0 gs gn gm) (@HAppend.hAppend va_W va_W va_W _ ([((xa 10), .inr (7, [.ref hc, .int tm])), (hc, .inl (X.2.1, 16, .inl tf))]) ([((xa 5), .inl (X.2.1, 3, .inl fr))])))) sz) (va_A (@HAppend.hAppend va_W va_W va_W _ (xW h0 nw sp xa la lb) (@HAppend.hAppend va_W va_W va_W _ (rcV X nw an sv dv n0 n1 n2 n3 n4 g0 gs gn gm) (@HAppend.hAppend va_W va_W va_W _ ([((xa 10), .inr (7, [.ref hc, .int tm])), (hc, .inl (X.2.1, 16, .inl tf))]) ([((xa 5), .inl (X.2.1, 3, .inl fr))])))) sz) s (@HAppend.hAppend va_W va_W va_W _ (xW h0 nw sp xa la lb) (@HAppend.hAppend va_W va_W va_W _ (rcV X nw an sv dv n0 n1 n2 n3 n4 g0 gs gn gm) (@HAppend.hAppend va_W va_W va_W _ ([((xa 10), .inr (7, [.ref hc, .int tm])), (hc, .inl (X.2.1, 16, .inl tf))]) ([((xa 5), .inl (X.2.1, 3, .inl fr))])))) H locs := G
      refine lv_sipush (v := 200) zx zb dX10_tell_34 (by decide) ?_
      refine b_wi (cells' := 0) (slots' := 0) (wr := @HAppend.hAppend va_W va_W va_W _ ([(nw, .inr (3, [.int (dv 0), .int (dv 1), .int (nI n0), .ref (an 0), .ref (an 7), .ref (an 9), .ref (an 11), .ref (an 13)])), ((an 0), .inl (X.2.2.2.2, 6, .inr (.inr (.inr (.inr (rowQ an)))))), ((an 1), .inr (6, [.int (sv 0), .int (sv 1), .int (sv 2), .int (dv 10), .int (dv 11), .int (dv 12), .int (dv 13), .int (dv 14)])), ((an 2), .inr (6, [.int (sv 3), .int (sv 4), .int (sv 5), .int (dv 15), .int (dv 16), .int (dv 17), .int (dv 18), .int (dv 19)])), ((an 3), .inr (6, [.int (sv 6), .int (sv 7), .int (sv 8), .int (dv 20), .int (dv 21), .int (dv 22), .int (dv 23), .int (dv 24)])), ((an 4), .inr (6, [.int (sv 9), .int (sv 10), .int (sv 11), .int (dv 25), .int (dv 26), .int (dv 27), .int (dv 28), .int (dv 29)])), ((an 6), .inr (6, [.int (sv 15), .int (sv 16), .int (sv 17), .int (dv 35), .int (dv 36), .int (dv 37), .int (dv 38), .int (dv 39)])), ((an 7), .inr (2, [.ref (an 8), .int (nI n1)])), ((an 8), .inl (X.2.1, 248, .inl g0)), ((an 9), .inr (5, [.int 5, .int 0, .int 1, .ref (an 10), .int (nI n2)])), ((an 10), .inl (X.2.1, 25, .inl gs)), ((an 11), .inr (5, [.int 6, .int 1, .int 1, .ref (an 12), .int (nI n3)])), ((an 12), .inl (X.2.1, 30, .inl gn)), ((an 13), .inr (5, [.int 6, .int 0, .int 0, .ref (an 14), .int (nI n4)])), ((an 14), .inl (X.2.1, 30, .inl gm))]) ([((xa 5), .inl (X.2.1, 3, .inl fr))])) G rfl rfl [0, 17, 18, 7] [1, 2, 3, 4, 5, 6, 8, 9, 10, 11, 12, 13, 14, 15, 16, 19] rfl rfl rfl rfl (n_V (As := [.ref (an 5), .int 0, .int r_11, .int 200]) (rest := []) (C := RX10) (T := TX10) (N := 14) (ci := 8) S G (s_nextLook0 l X h0 nw sp xa la lb hc tm tf (an 5) (fun k => sv (12 + k)) (fun k => dv (30 + k)) r_11 H.size) gX10_tell_X10_nextLook rfl rfl rfl hdV_X10_nextLook ⟨Nat.le_of_ble_eq_true rfl, Nat.le_of_ble_eq_true rfl⟩ [0, 17, 18, 7] rfl rfl 0 rfl rfl rfl hl.1 (Nat.le_of_ble_eq_true rfl) dX10_tell_37 ⟨Nat.le_of_ble_eq_true rfl, Nat.le_of_ble_eq_true rfl⟩) (fun r_12 u_12 H locs hp_12 G => ?_)
      obtain ⟨m_12a, f_12b⟩ := u_12
      have hq_12 := hp_12
      have G : wd X (va_A (@HAppend.hAppend va_W va_W va_W _ (xW h0 nw sp xa la lb) (@HAppend.hAppend va_W va_W va_W _ (rcV X nw an sv dv n0 n1 n2 n3 n4 g0 gs gn gm) (@HAppend.hAppend va_W va_W va_W _ ([((xa 10), .inr (7, [.ref hc, .int tm])), (hc, .inl (X.2.1, 16, .inl tf))]) ([((xa 5), .inl (X.2.1, 3, .inl fr))])))) sz) (va_A (@HAppend.hAppend va_W va_W va_W _ (xW h0 nw sp xa la lb) (@HAppend.hAppend va_W va_W va_W _ (rcV X nw an sv dv n0 n1 n2 n3 n4 g0 gs gn gm) (@HAppend.hAppend va_W va_W va_W _ ([((xa 10), .inr (7, [.ref hc, .int tm])), (hc, .inl (X.2.1, 16, .inl tf))]) ([((xa 5), .inl (X.2.1, 3, .inl fr))])))) sz) s (@HAppend.hAppend va_W va_W va_W _ (rcV X nw an sv dv n0 n1 n2 n3 n4 g0 gs gn gm) (@HAppend.hAppend va_W va_W va_W _ ([((xa 5), .inl (X.2.1, 3, .inl fr))]) (@HAppend.hAppend va_W va_W va_W _ (xW h0 nw sp xa la lb) ([((xa 10), .inr (7, [.ref hc, .int m_12a])), (hc, .inl (X.2.1, 16, .inl f_12b))])))) H locs := wd_sub G [0, 1, 2, 3, 4, 5, 19, 6, 7, 8, 9, 10, 11, 12, 13, 14, 15, 16, 17, 18] rfl rfl
      exact e_int S zr zlk (vp_nar_int _) G (m_12a, f_12b, fr) [17, 0, 1, 2, 3, 4, 5, 6, 7, 8, 9, 10, 11, 12, 13, 14, 15, 18, 19, 16] rfl rfl (Or.inr rfl) (trivial) dX10_tell_40
    · refine k_it (v := 5) rfl ?_
      refine r_aald (C := RX8) (b := (an 6)) S G 2 3 rfl rfl (k_vp (by decide)) rfl dX10_tell_24 ?_
      refine lv_iconst (v := 0) zx zb dX10_tell_25 (by decide) ?_
      refine lv_aload_n zx zb dX10_tell_26 rfl (lv_at hl 0 rfl) ?_
      refine r_get (C := RX10) (T := TX10) (N := 14) (ci := 8) (v := .ref nw) S in_X10_tell_X10 G 0 rfl rfl 0 (by decide) lk_X10_tell_10 rfl dX10_tell_27 ?_
      refine lv_iload_n zx zb dX10_tell_30 rfl (lv_at hl 1 rfl) ?_
      refine o_ri (cells' := 0) (slots' := 0) G rfl rfl (n_V (As := [.int 5]) (rest := [.int 0, .ref (an 6), .ref h0]) (C := RX5) (T := TX5) (N := 8) (ci := 3) S G (s_legsThatFit l X nw an sv dv n0 n1 n2 n3 n4 g0 gs gn gm 5 hI_n0 hI_n1 hI_n2 hI_n3 hI_n4 (by omega) H.size) gX10_tell_X5_legsThatFit rfl rfl rfl hdV_X5_legsThatFit ⟨Nat.le_of_ble_eq_true rfl, Nat.le_of_ble_eq_true rfl⟩ [1, 2, 3, 4, 5, 6, 7, 8, 9, 10, 11, 12, 13, 14, 15, 16] rfl rfl 1 rfl rfl rfl hl.1 (Nat.le_of_ble_eq_true rfl) dX10_tell_31 ⟨Nat.le_of_ble_eq_true rfl, Nat.le_of_ble_eq_true rfl⟩) (fun r_13 u_13 H locs hp_13 G => ?_)
      have G : wd X (va_A (@HAppend.hAppend va_W va_W va_W _ (xW h0 nw sp xa la lb) (@HAppend.hAppend va_W va_W va_W _ (rcV X nw an sv dv n0 n1 n2 n3 n4 g0 gs gn gm) (@HAppend.hAppend va_W va_W va_W _ ([((xa 10), .inr (7, [.ref hc, .int tm])), (hc, .inl (X.2.1, 16, .inl tf))]) ([((xa 5), .inl (X.2.1, 3, .inl fr))])))) sz) (va_A (@HAppend.hAppend va_W va_W va_W _ (xW h0 nw sp xa la lb) (@HAppend.hAppend va_W va_W va_W _ (rcV X nw an sv dv n0 n1 n2 n3 n4 g0 gs gn gm) (@HAppend.hAppend va_W va_W va_W _ ([((xa 10), .inr (7, [.ref hc, .int tm])), (hc, .inl (X.2.1, 16, .inl tf))]) ([((xa 5), .inl (X.2.1, 3, .inl fr))])))) sz) s (@HAppend.hAppend va_W va_W va_W _ (xW h0 nw sp xa la lb) (@HAppend.hAppend va_W va_W va_W _ (rcV X nw an sv dv n0 n1 n2 n3 n4 g0 gs gn gm) (@HAppend.hAppend va_W va_W va_W _ ([((xa 10), .inr (7, [.ref hc, .int tm])), (hc, .inl (X.2.1, 16, .inl tf))]) ([((xa 5), .inl (X.2.1, 3, .inl fr))])))) H locs := G
      refine lv_sipush (v := 200) zx zb dX10_tell_34 (by decide) ?_
      refine b_wi (cells' := 0) (slots' := 0) (wr := @HAppend.hAppend va_W va_W va_W _ ([(nw, .inr (3, [.int (dv 0), .int (dv 1), .int (nI n0), .ref (an 0), .ref (an 7), .ref (an 9), .ref (an 11), .ref (an 13)])), ((an 0), .inl (X.2.2.2.2, 6, .inr (.inr (.inr (.inr (rowQ an)))))), ((an 1), .inr (6, [.int (sv 0), .int (sv 1), .int (sv 2), .int (dv 10), .int (dv 11), .int (dv 12), .int (dv 13), .int (dv 14)])), ((an 2), .inr (6, [.int (sv 3), .int (sv 4), .int (sv 5), .int (dv 15), .int (dv 16), .int (dv 17), .int (dv 18), .int (dv 19)])), ((an 3), .inr (6, [.int (sv 6), .int (sv 7), .int (sv 8), .int (dv 20), .int (dv 21), .int (dv 22), .int (dv 23), .int (dv 24)])), ((an 4), .inr (6, [.int (sv 9), .int (sv 10), .int (sv 11), .int (dv 25), .int (dv 26), .int (dv 27), .int (dv 28), .int (dv 29)])), ((an 5), .inr (6, [.int (sv 12), .int (sv 13), .int (sv 14), .int (dv 30), .int (dv 31), .int (dv 32), .int (dv 33), .int (dv 34)])), ((an 7), .inr (2, [.ref (an 8), .int (nI n1)])), ((an 8), .inl (X.2.1, 248, .inl g0)), ((an 9), .inr (5, [.int 5, .int 0, .int 1, .ref (an 10), .int (nI n2)])), ((an 10), .inl (X.2.1, 25, .inl gs)), ((an 11), .inr (5, [.int 6, .int 1, .int 1, .ref (an 12), .int (nI n3)])), ((an 12), .inl (X.2.1, 30, .inl gn)), ((an 13), .inr (5, [.int 6, .int 0, .int 0, .ref (an 14), .int (nI n4)])), ((an 14), .inl (X.2.1, 30, .inl gm))]) ([((xa 5), .inl (X.2.1, 3, .inl fr))])) G rfl rfl [0, 17, 18, 8] [1, 2, 3, 4, 5, 6, 7, 9, 10, 11, 12, 13, 14, 15, 16, 19] rfl rfl rfl rfl (n_V (As := [.ref (an 6), .int 0, .int r_13, .int 200]) (rest := []) (C := RX10) (T := TX10) (N := 14) (ci := 8) S G (s_nextLook0 l X h0 nw sp xa la lb hc tm tf (an 6) (fun k => sv (15 + k)) (fun k => dv (35 + k)) r_13 H.size) gX10_tell_X10_nextLook rfl rfl rfl hdV_X10_nextLook ⟨Nat.le_of_ble_eq_true rfl, Nat.le_of_ble_eq_true rfl⟩ [0, 17, 18, 8] rfl rfl 0 rfl rfl rfl hl.1 (Nat.le_of_ble_eq_true rfl) dX10_tell_37 ⟨Nat.le_of_ble_eq_true rfl, Nat.le_of_ble_eq_true rfl⟩) (fun r_14 u_14 H locs hp_14 G => ?_)
      obtain ⟨m_14a, f_14b⟩ := u_14
      have hq_14 := hp_14
      have G : wd X (va_A (@HAppend.hAppend va_W va_W va_W _ (xW h0 nw sp xa la lb) (@HAppend.hAppend va_W va_W va_W _ (rcV X nw an sv dv n0 n1 n2 n3 n4 g0 gs gn gm) (@HAppend.hAppend va_W va_W va_W _ ([((xa 10), .inr (7, [.ref hc, .int tm])), (hc, .inl (X.2.1, 16, .inl tf))]) ([((xa 5), .inl (X.2.1, 3, .inl fr))])))) sz) (va_A (@HAppend.hAppend va_W va_W va_W _ (xW h0 nw sp xa la lb) (@HAppend.hAppend va_W va_W va_W _ (rcV X nw an sv dv n0 n1 n2 n3 n4 g0 gs gn gm) (@HAppend.hAppend va_W va_W va_W _ ([((xa 10), .inr (7, [.ref hc, .int tm])), (hc, .inl (X.2.1, 16, .inl tf))]) ([((xa 5), .inl (X.2.1, 3, .inl fr))])))) sz) s (@HAppend.hAppend va_W va_W va_W _ (rcV X nw an sv dv n0 n1 n2 n3 n4 g0 gs gn gm) (@HAppend.hAppend va_W va_W va_W _ ([((xa 5), .inl (X.2.1, 3, .inl fr))]) (@HAppend.hAppend va_W va_W va_W _ (xW h0 nw sp xa la lb) ([((xa 10), .inr (7, [.ref hc, .int m_14a])), (hc, .inl (X.2.1, 16, .inl f_14b))])))) H locs := wd_sub G [0, 1, 2, 3, 4, 5, 6, 19, 7, 8, 9, 10, 11, 12, 13, 14, 15, 16, 17, 18] rfl rfl
      exact e_int S zr zlk (vp_nar_int _) G (m_14a, f_14b, fr) [17, 0, 1, 2, 3, 4, 5, 6, 7, 8, 9, 10, 11, 12, 13, 14, 15, 18, 19, 16] rfl rfl (Or.inr rfl) (trivial) dX10_tell_40
  · refine lv_if_ne (tgt := 15) zx zb dX10_tell_5 (by decide) (fun c_15 => absurd (by decide) c_15) (fun c_15 => ?_)
    refine lv_aload_n zx zb dX10_tell_8 rfl (lv_at hl 0 rfl) ?_
    refine lv_bipush (v := (-2)) zx zb dX10_tell_9 (by decide) ?_
    refine b_wi (cells' := 0) (slots' := 0) (wr := @HAppend.hAppend va_W va_W va_W _ (rcV X nw an sv dv n0 n1 n2 n3 n4 g0 gs gn gm) ([((xa 10), .inr (7, [.ref hc, .int tm])), (hc, .inl (X.2.1, 16, .inl tf))])) G rfl rfl [0, 19] [1, 2, 3, 4, 5, 6, 7, 8, 9, 10, 11, 12, 13, 14, 15, 16, 17, 18] rfl rfl rfl rfl (n_V (As := [.int (-2)]) (rest := []) (C := RX10) (T := TX10) (N := 14) (ci := 8) S G (s_refuse l X h0 nw sp xa la lb fr (-2) H.size) gX10_tell_X10_refuse rfl rfl rfl hdV_X10_refuse ⟨Nat.le_of_ble_eq_true rfl, Nat.le_of_ble_eq_true rfl⟩ [0, 19] rfl rfl 0 rfl rfl rfl hl.1 (Nat.le_of_ble_eq_true rfl) dX10_tell_11 ⟨Nat.le_of_ble_eq_true rfl, Nat.le_of_ble_eq_true rfl⟩) (fun r_16 u_16 H locs hp_16 G => ?_)
    obtain ⟨f_16, rfl⟩ : ∃ z, z = u_16 := ⟨_, rfl⟩
    have hq_16 := hp_16
    have G : wd X (va_A (@HAppend.hAppend va_W va_W va_W _ (xW h0 nw sp xa la lb) (@HAppend.hAppend va_W va_W va_W _ (rcV X nw an sv dv n0 n1 n2 n3 n4 g0 gs gn gm) (@HAppend.hAppend va_W va_W va_W _ ([((xa 10), .inr (7, [.ref hc, .int tm])), (hc, .inl (X.2.1, 16, .inl tf))]) ([((xa 5), .inl (X.2.1, 3, .inl fr))])))) sz) (va_A (@HAppend.hAppend va_W va_W va_W _ (xW h0 nw sp xa la lb) (@HAppend.hAppend va_W va_W va_W _ (rcV X nw an sv dv n0 n1 n2 n3 n4 g0 gs gn gm) (@HAppend.hAppend va_W va_W va_W _ ([((xa 10), .inr (7, [.ref hc, .int tm])), (hc, .inl (X.2.1, 16, .inl tf))]) ([((xa 5), .inl (X.2.1, 3, .inl fr))])))) sz) s (@HAppend.hAppend va_W va_W va_W _ (rcV X nw an sv dv n0 n1 n2 n3 n4 g0 gs gn gm) (@HAppend.hAppend va_W va_W va_W _ ([((xa 10), .inr (7, [.ref hc, .int tm])), (hc, .inl (X.2.1, 16, .inl tf))]) (@HAppend.hAppend va_W va_W va_W _ (xW h0 nw sp xa la lb) ([((xa 5), .inl (X.2.1, 3, .inl f_16))])))) H locs := G
    exact e_int S zr zlk (vp_nar_int _) G (tm, tf, f_16) [18, 0, 1, 2, 3, 4, 5, 6, 7, 8, 9, 10, 11, 12, 13, 14, 15, 16, 17, 19] rfl rfl (Or.inr rfl) (trivial) dX10_tell_14
theorem in_X10_look_X10 : ∀ w ∈ wsX100, w ∈ wsX10_look := by decide +kernel
theorem lk_X10_look_10 : Cond.fieldLink RX10 10 "EggSpoons" "now" "LEggSpoons$Race;" ∈ wsX10_look := by decide +kernel
theorem in_X10_look_X5 : ∀ w ∈ wsX50, w ∈ wsX10_look := by decide +kernel
theorem lk_X10_look_126 : Cond.fieldLink RX10 126 "EggSpoons$Race" "row" "[LEggSpoons$Runner;" ∈ wsX10_look := by decide +kernel
set_option maxHeartbeats 4000000 in
set_option maxRecDepth 100000 in
/-- look -/
theorem s_look (l : Launch) (X : EX) (h0 : Nat) (nw : Nat) (sp : Nat) (xa : Nat → Nat) (la : Int64) (lb : Int64) (an : Nat → Nat) (sv : Nat → Int32) (dv : Nat → Int32) (n0 : Nat) (n1 : Nat) (n2 : Nat) (n3 : Nat) (n4 : Nat) (g0 : Nat → Int32) (gs : Nat → Int32) (gn : Nat → Int32) (gm : Nat → Int32) (hc : Nat) (tm : Int32) (tf : Nat → Int32) (fr : Nat → Int32) (x1 : Int32) (hI_n0 : n0 ≤ 6) (hI_n1 : n1 ≤ 8) (hI_n2 : n2 ≤ 5) (hI_n3 : n3 ≤ 6) (hI_n4 : n4 ≤ 6) (sz : Nat) : Met l yX10_look wsX10_look ({ frames := 4, cells := 0, slots := 0, locals := 102 } : Room) (pE X [.ref h0, .int x1] (@HAppend.hAppend va_W va_W va_W _ (xW h0 nw sp xa la lb) (@HAppend.hAppend va_W va_W va_W _ (rcV X nw an sv dv n0 n1 n2 n3 n4 g0 gs gn gm) (@HAppend.hAppend va_W va_W va_W _ ([((xa 10), .inr (7, [.ref hc, .int tm])), (hc, .inl (X.2.1, 16, .inl tf))]) ([((xa 5), .inl (X.2.1, 3, .inl fr))])))) sz) (qI (fun (r : Int32) (u : (Int32) × (Nat → Int32) × (Nat → Int32)) => (True)) X (fun (u : (Int32) × (Nat → Int32) × (Nat → Int32)) => @HAppend.hAppend va_W va_W va_W _ (xW h0 nw sp xa la lb) (@HAppend.hAppend va_W va_W va_W _ (rcV X nw an sv dv n0 n1 n2 n3 n4 g0 gs gn gm) (@HAppend.hAppend va_W va_W va_W _ ([((xa 10), .inr (7, [.ref hc, .int u.1])), (hc, .inl (X.2.1, 16, .inl u.2.1))]) ([((xa 5), .inl (X.2.1, 3, .inl u.2.2))])))) (@HAppend.hAppend va_W va_W va_W _ (xW h0 nw sp xa la lb) (@HAppend.hAppend va_W va_W va_W _ (rcV X nw an sv dv n0 n1 n2 n3 n4 g0 gs gn gm) (@HAppend.hAppend va_W va_W va_W _ ([((xa 10), .inr (7, [.ref hc, .int tm])), (hc, .inl (X.2.1, 16, .inl tf))]) ([((xa 5), .inl (X.2.1, 3, .inl fr))])))) sz) 0 0 (va_A (@HAppend.hAppend va_W va_W va_W _ (xW h0 nw sp xa la lb) (@HAppend.hAppend va_W va_W va_W _ (rcV X nw an sv dv n0 n1 n2 n3 n4 g0 gs gn gm) (@HAppend.hAppend va_W va_W va_W _ ([((xa 10), .inr (7, [.ref hc, .int tm])), (hc, .inl (X.2.1, 16, .inl tf))]) ([((xa 5), .inl (X.2.1, 3, .inl fr))])))) sz) := by
  refine mk_met (B := (va_A (@HAppend.hAppend va_W va_W va_W _ (xW h0 nw sp xa la lb) (@HAppend.hAppend va_W va_W va_W _ (rcV X nw an sv dv n0 n1 n2 n3 n4 g0 gs gn gm) (@HAppend.hAppend va_W va_W va_W _ ([((xa 10), .inr (7, [.ref hc, .int tm])), (hc, .inl (X.2.1, 16, .inl tf))]) ([((xa 5), .inl (X.2.1, 3, .inl fr))])))) sz)) (A := (va_A (@HAppend.hAppend va_W va_W va_W _ (xW h0 nw sp xa la lb) (@HAppend.hAppend va_W va_W va_W _ (rcV X nw an sv dv n0 n1 n2 n3 n4 g0 gs gn gm) (@HAppend.hAppend va_W va_W va_W _ ([((xa 10), .inr (7, [.ref hc, .int tm])), (hc, .inl (X.2.1, 16, .inl tf))]) ([((xa 5), .inl (X.2.1, 3, .inl fr))])))) sz)) (cc := cX10_look) (maxL := 2) (ret := (some .int)) (by decide) rfl (Nat.le_of_ble_eq_true rfl) k_w k_a (fun p e s m below meth c S zr zlk znm zsz G ls hl => ?_)
  have S : CallFix p m c cX10_look 2 s _ wsX10_look RX10 := S
  have zx := S.1
  have zb := S.2.1
  have hl : lv_has ls 2 [(0, .ref h0), (1, .int x1)] := hl
  refine lv_aload_n zx zb dX10_look_0 rfl (lv_at hl 0 rfl) ?_
  refine lv_iload_n zx zb dX10_look_1 rfl (lv_at hl 1 rfl) ?_
  refine o_ri (cells' := 0) (slots' := 0) G rfl rfl (n_V (As := [.int x1]) (rest := []) (C := RX10) (T := TX10) (N := 14) (ci := 8) S G (s_there l X h0 nw sp xa la lb an sv dv n0 n1 n2 n3 n4 g0 gs gn gm x1 hI_n0 hI_n1 hI_n2 hI_n3 hI_n4 s.heap.size) gX10_look_X10_there rfl rfl rfl hdV_X10_there ⟨Nat.le_of_ble_eq_true rfl, Nat.le_of_ble_eq_true rfl⟩ [0, 1, 2, 3, 4, 5, 6, 7, 8, 9, 10, 11, 12, 13, 14, 15, 16] rfl rfl 0 rfl rfl rfl hl.1 (Nat.le_of_ble_eq_true rfl) dX10_look_2 ⟨Nat.le_of_ble_eq_true rfl, Nat.le_of_ble_eq_true rfl⟩) (fun r_1 u_1 H locs hp_1 G => ?_)
  have G : wd X (va_A (@HAppend.hAppend va_W va_W va_W _ (xW h0 nw sp xa la lb) (@HAppend.hAppend va_W va_W va_W _ (rcV X nw an sv dv n0 n1 n2 n3 n4 g0 gs gn gm) (@HAppend.hAppend va_W va_W va_W _ ([((xa 10), .inr (7, [.ref hc, .int tm])), (hc, .inl (X.2.1, 16, .inl tf))]) ([((xa 5), .inl (X.2.1, 3, .inl fr))])))) sz) (va_A (@HAppend.hAppend va_W va_W va_W _ (xW h0 nw sp xa la lb) (@HAppend.hAppend va_W va_W va_W _ (rcV X nw an sv dv n0 n1 n2 n3 n4 g0 gs gn gm) (@HAppend.hAppend va_W va_W va_W _ ([((xa 10), .inr (7, [.ref hc, .int tm])), (hc, .inl (X.2.1, 16, .inl tf))]) ([((xa 5), .inl (X.2.1, 3, .inl fr))])))) sz) s (@HAppend.hAppend va_W va_W va_W _ (xW h0 nw sp xa la lb) (@HAppend.hAppend va_W va_W va_W _ (rcV X nw an sv dv n0 n1 n2 n3 n4 g0 gs gn gm) (@HAppend.hAppend va_W va_W va_W _ ([((xa 10), .inr (7, [.ref hc, .int tm])), (hc, .inl (X.2.1, 16, .inl tf))]) ([((xa 5), .inl (X.2.1, 3, .inl fr))])))) H locs := G
  rcases hp_1 with ⟨rfl, hj_1⟩ | ⟨rfl, hj_1⟩
  · obtain ⟨j_1, hj_1, rfl⟩ := hj_1
    refine lv_if_ne (tgt := 15) zx zb dX10_look_5 (by decide) (fun c_2 => ?_) (fun c_2 => absurd c_2 (by decide))
    refine lv_aload_n zx zb dX10_look_15 rfl (lv_at hl 0 rfl) ?_
    refine lv_aload_n zx zb dX10_look_16 rfl (lv_at hl 0 rfl) ?_
    refine r_get (C := RX10) (T := TX10) (N := 14) (ci := 8) (v := .ref nw) S in_X10_look_X10 G 0 rfl rfl 0 (by decide) lk_X10_look_10 rfl dX10_look_17 ?_
    refine r_get (C := RX5) (T := TX5) (N := 8) (ci := 3) (v := .ref (an 0)) S in_X10_look_X5 G 1 rfl rfl 3 (by decide) lk_X10_look_126 rfl dX10_look_20 ?_
    refine lv_iload_n zx zb dX10_look_23 rfl (lv_at hl 1 rfl) ?_
    rcases k_6c (show j_1 < 6 by omega) with rfl | rfl | rfl | rfl | rfl | rfl
    · refine k_it (v := 0) rfl ?_
      refine r_aald (C := RX8) (b := (an 1)) S G 2 3 rfl rfl (k_vp (by decide)) rfl dX10_look_24 ?_
      refine lv_iconst (v := 1) zx zb dX10_look_25 (by decide) ?_
      refine lv_aload_n zx zb dX10_look_26 rfl (lv_at hl 0 rfl) ?_
      refine r_get (C := RX10) (T := TX10) (N := 14) (ci := 8) (v := .ref nw) S in_X10_look_X10 G 0 rfl rfl 0 (by decide) lk_X10_look_10 rfl dX10_look_27 ?_
      refine lv_iload_n zx zb dX10_look_30 rfl (lv_at hl 1 rfl) ?_
      refine o_ri (cells' := 0) (slots' := 0) G rfl rfl (n_V (As := [.int 0]) (rest := [.int 1, .ref (an 1), .ref h0]) (C := RX5) (T := TX5) (N := 8) (ci := 3) S G (s_kindsThatFit l X nw an sv dv n0 n1 n2 n3 n4 g0 gs gn gm 0 hI_n0 hI_n1 hI_n2 hI_n3 hI_n4 (by omega) H.size) gX10_look_X5_kindsThatFit rfl rfl rfl hdV_X5_kindsThatFit ⟨Nat.le_of_ble_eq_true rfl, Nat.le_of_ble_eq_true rfl⟩ [1, 2, 3, 4, 5, 6, 7, 8, 9, 10, 11, 12, 13, 14, 15, 16] rfl rfl 1 rfl rfl rfl hl.1 (Nat.le_of_ble_eq_true rfl) dX10_look_31 ⟨Nat.le_of_ble_eq_true rfl, Nat.le_of_ble_eq_true rfl⟩) (fun r_3 u_3 H locs hp_3 G => ?_)
      have G : wd X (va_A (@HAppend.hAppend va_W va_W va_W _ (xW h0 nw sp xa la lb) (@HAppend.hAppend va_W va_W va_W _ (rcV X nw an sv dv n0 n1 n2 n3 n4 g0 gs gn gm) (@HAppend.hAppend va_W va_W va_W _ ([((xa 10), .inr (7, [.ref hc, .int tm])), (hc, .inl (X.2.1, 16, .inl tf))]) ([((xa 5), .inl (X.2.1, 3, .inl fr))])))) sz) (va_A (@HAppend.hAppend va_W va_W va_W _ (xW h0 nw sp xa la lb) (@HAppend.hAppend va_W va_W va_W _ (rcV X nw an sv dv n0 n1 n2 n3 n4 g0 gs gn gm) (@HAppend.hAppend va_W va_W va_W _ ([((xa 10), .inr (7, [.ref hc, .int tm])), (hc, .inl (X.2.1, 16, .inl tf))]) ([((xa 5), .inl (X.2.1, 3, .inl fr))])))) sz) s (@HAppend.hAppend va_W va_W va_W _ (xW h0 nw sp xa la lb) (@HAppend.hAppend va_W va_W va_W _ (rcV X nw an sv dv n0 n1 n2 n3 n4 g0 gs gn gm) (@HAppend.hAppend va_W va_W va_W _ ([((xa 10), .inr (7, [.ref hc, .int tm])), (hc, .inl (X.2.1, 16, .inl tf))]) ([((xa 5), .inl (X.2.1, 3, .inl fr))])))) H locs := G
      refine lv_sipush (v := 200) zx zb dX10_look_34 (by decide) ?_
      refine b_wi (cells' := 0) (slots' := 0) (wr := @HAppend.hAppend va_W va_W va_W _ ([(nw, .inr (3, [.int (dv 0), .int (dv 1), .int (nI n0), .ref (an 0), .ref (an 7), .ref (an 9), .ref (an 11), .ref (an 13)])), ((an 0), .inl (X.2.2.2.2, 6, .inr (.inr (.inr (.inr (rowQ an)))))), ((an 2), .inr (6, [.int (sv 3), .int (sv 4), .int (sv 5), .int (dv 15), .int (dv 16), .int (dv 17), .int (dv 18), .int (dv 19)])), ((an 3), .inr (6, [.int (sv 6), .int (sv 7), .int (sv 8), .int (dv 20), .int (dv 21), .int (dv 22), .int (dv 23), .int (dv 24)])), ((an 4), .inr (6, [.int (sv 9), .int (sv 10), .int (sv 11), .int (dv 25), .int (dv 26), .int (dv 27), .int (dv 28), .int (dv 29)])), ((an 5), .inr (6, [.int (sv 12), .int (sv 13), .int (sv 14), .int (dv 30), .int (dv 31), .int (dv 32), .int (dv 33), .int (dv 34)])), ((an 6), .inr (6, [.int (sv 15), .int (sv 16), .int (sv 17), .int (dv 35), .int (dv 36), .int (dv 37), .int (dv 38), .int (dv 39)])), ((an 7), .inr (2, [.ref (an 8), .int (nI n1)])), ((an 8), .inl (X.2.1, 248, .inl g0)), ((an 9), .inr (5, [.int 5, .int 0, .int 1, .ref (an 10), .int (nI n2)])), ((an 10), .inl (X.2.1, 25, .inl gs)), ((an 11), .inr (5, [.int 6, .int 1, .int 1, .ref (an 12), .int (nI n3)])), ((an 12), .inl (X.2.1, 30, .inl gn)), ((an 13), .inr (5, [.int 6, .int 0, .int 0, .ref (an 14), .int (nI n4)])), ((an 14), .inl (X.2.1, 30, .inl gm))]) ([((xa 5), .inl (X.2.1, 3, .inl fr))])) G rfl rfl [0, 17, 18, 3] [1, 2, 4, 5, 6, 7, 8, 9, 10, 11, 12, 13, 14, 15, 16, 19] rfl rfl rfl rfl (n_V (As := [.ref (an 1), .int 1, .int r_3, .int 200]) (rest := []) (C := RX10) (T := TX10) (N := 14) (ci := 8) S G (s_nextLook1 l X h0 nw sp xa la lb hc tm tf (an 1) (fun k => sv (0 + k)) (fun k => dv (10 + k)) r_3 H.size) gX10_look_X10_nextLook rfl rfl rfl hdV_X10_nextLook ⟨Nat.le_of_ble_eq_true rfl, Nat.le_of_ble_eq_true rfl⟩ [0, 17, 18, 3] rfl rfl 0 rfl rfl rfl hl.1 (Nat.le_of_ble_eq_true rfl) dX10_look_37 ⟨Nat.le_of_ble_eq_true rfl, Nat.le_of_ble_eq_true rfl⟩) (fun r_4 u_4 H locs hp_4 G => ?_)
      obtain ⟨m_4a, f_4b⟩ := u_4
      have hq_4 := hp_4
      have G : wd X (va_A (@HAppend.hAppend va_W va_W va_W _ (xW h0 nw sp xa la lb) (@HAppend.hAppend va_W va_W va_W _ (rcV X nw an sv dv n0 n1 n2 n3 n4 g0 gs gn gm) (@HAppend.hAppend va_W va_W va_W _ ([((xa 10), .inr (7, [.ref hc, .int tm])), (hc, .inl (X.2.1, 16, .inl tf))]) ([((xa 5), .inl (X.2.1, 3, .inl fr))])))) sz) (va_A (@HAppend.hAppend va_W va_W va_W _ (xW h0 nw sp xa la lb) (@HAppend.hAppend va_W va_W va_W _ (rcV X nw an sv dv n0 n1 n2 n3 n4 g0 gs gn gm) (@HAppend.hAppend va_W va_W va_W _ ([((xa 10), .inr (7, [.ref hc, .int tm])), (hc, .inl (X.2.1, 16, .inl tf))]) ([((xa 5), .inl (X.2.1, 3, .inl fr))])))) sz) s (@HAppend.hAppend va_W va_W va_W _ (rcV X nw an sv dv n0 n1 n2 n3 n4 g0 gs gn gm) (@HAppend.hAppend va_W va_W va_W _ ([((xa 5), .inl (X.2.1, 3, .inl fr))]) (@HAppend.hAppend va_W va_W va_W _ (xW h0 nw sp xa la lb) ([((xa 10), .inr (7, [.ref hc, .int m_4a])), (hc, .inl (X.2.1, 16, .inl f_4b))])))) H locs := wd_sub G [0, 1, 19, 2, 3, 4, 5, 6, 7, 8, 9, 10, 11, 12, 13, 14, 15, 16, 17, 18] rfl rfl
      exact e_int S zr zlk (vp_nar_int _) G (m_4a, f_4b, fr) [17, 0, 1, 2, 3, 4, 5, 6, 7, 8, 9, 10, 11, 12, 13, 14, 15, 18, 19, 16] rfl rfl (Or.inr rfl) (trivial) dX10_look_40
    · refine k_it (v := 1) rfl ?_
      refine r_aald (C := RX8) (b := (an 2)) S G 2 3 rfl rfl (k_vp (by decide)) rfl dX10_look_24 ?_
      refine lv_iconst (v := 1) zx zb dX10_look_25 (by decide) ?_
      refine lv_aload_n zx zb dX10_look_26 rfl (lv_at hl 0 rfl) ?_
      refine r_get (C := RX10) (T := TX10) (N := 14) (ci := 8) (v := .ref nw) S in_X10_look_X10 G 0 rfl rfl 0 (by decide) lk_X10_look_10 rfl dX10_look_27 ?_
      refine lv_iload_n zx zb dX10_look_30 rfl (lv_at hl 1 rfl) ?_
      refine o_ri (cells' := 0) (slots' := 0) G rfl rfl (n_V (As := [.int 1]) (rest := [.int 1, .ref (an 2), .ref h0]) (C := RX5) (T := TX5) (N := 8) (ci := 3) S G (s_kindsThatFit l X nw an sv dv n0 n1 n2 n3 n4 g0 gs gn gm 1 hI_n0 hI_n1 hI_n2 hI_n3 hI_n4 (by omega) H.size) gX10_look_X5_kindsThatFit rfl rfl rfl hdV_X5_kindsThatFit ⟨Nat.le_of_ble_eq_true rfl, Nat.le_of_ble_eq_true rfl⟩ [1, 2, 3, 4, 5, 6, 7, 8, 9, 10, 11, 12, 13, 14, 15, 16] rfl rfl 1 rfl rfl rfl hl.1 (Nat.le_of_ble_eq_true rfl) dX10_look_31 ⟨Nat.le_of_ble_eq_true rfl, Nat.le_of_ble_eq_true rfl⟩) (fun r_5 u_5 H locs hp_5 G => ?_)
      have G : wd X (va_A (@HAppend.hAppend va_W va_W va_W _ (xW h0 nw sp xa la lb) (@HAppend.hAppend va_W va_W va_W _ (rcV X nw an sv dv n0 n1 n2 n3 n4 g0 gs gn gm) (@HAppend.hAppend va_W va_W va_W _ ([((xa 10), .inr (7, [.ref hc, .int tm])), (hc, .inl (X.2.1, 16, .inl tf))]) ([((xa 5), .inl (X.2.1, 3, .inl fr))])))) sz) (va_A (@HAppend.hAppend va_W va_W va_W _ (xW h0 nw sp xa la lb) (@HAppend.hAppend va_W va_W va_W _ (rcV X nw an sv dv n0 n1 n2 n3 n4 g0 gs gn gm) (@HAppend.hAppend va_W va_W va_W _ ([((xa 10), .inr (7, [.ref hc, .int tm])), (hc, .inl (X.2.1, 16, .inl tf))]) ([((xa 5), .inl (X.2.1, 3, .inl fr))])))) sz) s (@HAppend.hAppend va_W va_W va_W _ (xW h0 nw sp xa la lb) (@HAppend.hAppend va_W va_W va_W _ (rcV X nw an sv dv n0 n1 n2 n3 n4 g0 gs gn gm) (@HAppend.hAppend va_W va_W va_W _ ([((xa 10), .inr (7, [.ref hc, .int tm])), (hc, .inl (X.2.1, 16, .inl tf))]) ([((xa 5), .inl (X.2.1, 3, .inl fr))])))) H locs := G
      refine lv_sipush (v := 200) zx zb dX10_look_34 (by decide) ?_
      refine b_wi (cells' := 0) (slots' := 0) (wr := @HAppend.hAppend va_W va_W va_W _ ([(nw, .inr (3, [.int (dv 0), .int (dv 1), .int (nI n0), .ref (an 0), .ref (an 7), .ref (an 9), .ref (an 11), .ref (an 13)])), ((an 0), .inl (X.2.2.2.2, 6, .inr (.inr (.inr (.inr (rowQ an)))))), ((an 1), .inr (6, [.int (sv 0), .int (sv 1), .int (sv 2), .int (dv 10), .int (dv 11), .int (dv 12), .int (dv 13), .int (dv 14)])), ((an 3), .inr (6, [.int (sv 6), .int (sv 7), .int (sv 8), .int (dv 20), .int (dv 21), .int (dv 22), .int (dv 23), .int (dv 24)])), ((an 4), .inr (6, [.int (sv 9), .int (sv 10), .int (sv 11), .int (dv 25), .int (dv 26), .int (dv 27), .int (dv 28), .int (dv 29)])), ((an 5), .inr (6, [.int (sv 12), .int (sv 13), .int (sv 14), .int (dv 30), .int (dv 31), .int (dv 32), .int (dv 33), .int (dv 34)])), ((an 6), .inr (6, [.int (sv 15), .int (sv 16), .int (sv 17), .int (dv 35), .int (dv 36), .int (dv 37), .int (dv 38), .int (dv 39)])), ((an 7), .inr (2, [.ref (an 8), .int (nI n1)])), ((an 8), .inl (X.2.1, 248, .inl g0)), ((an 9), .inr (5, [.int 5, .int 0, .int 1, .ref (an 10), .int (nI n2)])), ((an 10), .inl (X.2.1, 25, .inl gs)), ((an 11), .inr (5, [.int 6, .int 1, .int 1, .ref (an 12), .int (nI n3)])), ((an 12), .inl (X.2.1, 30, .inl gn)), ((an 13), .inr (5, [.int 6, .int 0, .int 0, .ref (an 14), .int (nI n4)])), ((an 14), .inl (X.2.1, 30, .inl gm))]) ([((xa 5), .inl (X.2.1, 3, .inl fr))])) G rfl rfl [0, 17, 18, 4] [1, 2, 3, 5, 6, 7, 8, 9, 10, 11, 12, 13, 14, 15, 16, 19] rfl rfl rfl rfl (n_V (As := [.ref (an 2), .int 1, .int r_5, .int 200]) (rest := []) (C := RX10) (T := TX10) (N := 14) (ci := 8) S G (s_nextLook1 l X h0 nw sp xa la lb hc tm tf (an 2) (fun k => sv (3 + k)) (fun k => dv (15 + k)) r_5 H.size) gX10_look_X10_nextLook rfl rfl rfl hdV_X10_nextLook ⟨Nat.le_of_ble_eq_true rfl, Nat.le_of_ble_eq_true rfl⟩ [0, 17, 18, 4] rfl rfl 0 rfl rfl rfl hl.1 (Nat.le_of_ble_eq_true rfl) dX10_look_37 ⟨Nat.le_of_ble_eq_true rfl, Nat.le_of_ble_eq_true rfl⟩) (fun r_6 u_6 H locs hp_6 G => ?_)
      obtain ⟨m_6a, f_6b⟩ := u_6
      have hq_6 := hp_6
      have G : wd X (va_A (@HAppend.hAppend va_W va_W va_W _ (xW h0 nw sp xa la lb) (@HAppend.hAppend va_W va_W va_W _ (rcV X nw an sv dv n0 n1 n2 n3 n4 g0 gs gn gm) (@HAppend.hAppend va_W va_W va_W _ ([((xa 10), .inr (7, [.ref hc, .int tm])), (hc, .inl (X.2.1, 16, .inl tf))]) ([((xa 5), .inl (X.2.1, 3, .inl fr))])))) sz) (va_A (@HAppend.hAppend va_W va_W va_W _ (xW h0 nw sp xa la lb) (@HAppend.hAppend va_W va_W va_W _ (rcV X nw an sv dv n0 n1 n2 n3 n4 g0 gs gn gm) (@HAppend.hAppend va_W va_W va_W _ ([((xa 10), .inr (7, [.ref hc, .int tm])), (hc, .inl (X.2.1, 16, .inl tf))]) ([((xa 5), .inl (X.2.1, 3, .inl fr))])))) sz) s (@HAppend.hAppend va_W va_W va_W _ (rcV X nw an sv dv n0 n1 n2 n3 n4 g0 gs gn gm) (@HAppend.hAppend va_W va_W va_W _ ([((xa 5), .inl (X.2.1, 3, .inl fr))]) (@HAppend.hAppend va_W va_W va_W _ (xW h0 nw sp xa la lb) ([((xa 10), .inr (7, [.ref hc, .int m_6a])), (hc, .inl (X.2.1, 16, .inl f_6b))])))) H locs := wd_sub G [0, 1, 2, 19, 3, 4, 5, 6, 7, 8, 9, 10, 11, 12, 13, 14, 15, 16, 17, 18] rfl rfl
      exact e_int S zr zlk (vp_nar_int _) G (m_6a, f_6b, fr) [17, 0, 1, 2, 3, 4, 5, 6, 7, 8, 9, 10, 11, 12, 13, 14, 15, 18, 19, 16] rfl rfl (Or.inr rfl) (trivial) dX10_look_40
    · refine k_it (v := 2) rfl ?_
      refine r_aald (C := RX8) (b := (an 3)) S G 2 3 rfl rfl (k_vp (by decide)) rfl dX10_look_24 ?_
      refine lv_iconst (v := 1) zx zb dX10_look_25 (by decide) ?_
      refine lv_aload_n zx zb dX10_look_26 rfl (lv_at hl 0 rfl) ?_
      refine r_get (C := RX10) (T := TX10) (N := 14) (ci := 8) (v := .ref nw) S in_X10_look_X10 G 0 rfl rfl 0 (by decide) lk_X10_look_10 rfl dX10_look_27 ?_
      refine lv_iload_n zx zb dX10_look_30 rfl (lv_at hl 1 rfl) ?_
      refine o_ri (cells' := 0) (slots' := 0) G rfl rfl (n_V (As := [.int 2]) (rest := [.int 1, .ref (an 3), .ref h0]) (C := RX5) (T := TX5) (N := 8) (ci := 3) S G (s_kindsThatFit l X nw an sv dv n0 n1 n2 n3 n4 g0 gs gn gm 2 hI_n0 hI_n1 hI_n2 hI_n3 hI_n4 (by omega) H.size) gX10_look_X5_kindsThatFit rfl rfl rfl hdV_X5_kindsThatFit ⟨Nat.le_of_ble_eq_true rfl, Nat.le_of_ble_eq_true rfl⟩ [1, 2, 3, 4, 5, 6, 7, 8, 9, 10, 11, 12, 13, 14, 15, 16] rfl rfl 1 rfl rfl rfl hl.1 (Nat.le_of_ble_eq_true rfl) dX10_look_31 ⟨Nat.le_of_ble_eq_true rfl, Nat.le_of_ble_eq_true rfl⟩) (fun r_7 u_7 H locs hp_7 G => ?_)
      have G : wd X (va_A (@HAppend.hAppend va_W va_W va_W _ (xW h0 nw sp xa la lb) (@HAppend.hAppend va_W va_W va_W _ (rcV X nw an sv dv n0 n1 n2 n3 n4 g0 gs gn gm) (@HAppend.hAppend va_W va_W va_W _ ([((xa 10), .inr (7, [.ref hc, .int tm])), (hc, .inl (X.2.1, 16, .inl tf))]) ([((xa 5), .inl (X.2.1, 3, .inl fr))])))) sz) (va_A (@HAppend.hAppend va_W va_W va_W _ (xW h0 nw sp xa la lb) (@HAppend.hAppend va_W va_W va_W _ (rcV X nw an sv dv n0 n1 n2 n3 n4 g0 gs gn gm) (@HAppend.hAppend va_W va_W va_W _ ([((xa 10), .inr (7, [.ref hc, .int tm])), (hc, .inl (X.2.1, 16, .inl tf))]) ([((xa 5), .inl (X.2.1, 3, .inl fr))])))) sz) s (@HAppend.hAppend va_W va_W va_W _ (xW h0 nw sp xa la lb) (@HAppend.hAppend va_W va_W va_W _ (rcV X nw an sv dv n0 n1 n2 n3 n4 g0 gs gn gm) (@HAppend.hAppend va_W va_W va_W _ ([((xa 10), .inr (7, [.ref hc, .int tm])), (hc, .inl (X.2.1, 16, .inl tf))]) ([((xa 5), .inl (X.2.1, 3, .inl fr))])))) H locs := G
      refine lv_sipush (v := 200) zx zb dX10_look_34 (by decide) ?_
      refine b_wi (cells' := 0) (slots' := 0) (wr := @HAppend.hAppend va_W va_W va_W _ ([(nw, .inr (3, [.int (dv 0), .int (dv 1), .int (nI n0), .ref (an 0), .ref (an 7), .ref (an 9), .ref (an 11), .ref (an 13)])), ((an 0), .inl (X.2.2.2.2, 6, .inr (.inr (.inr (.inr (rowQ an)))))), ((an 1), .inr (6, [.int (sv 0), .int (sv 1), .int (sv 2), .int (dv 10), .int (dv 11), .int (dv 12), .int (dv 13), .int (dv 14)])), ((an 2), .inr (6, [.int (sv 3), .int (sv 4), .int (sv 5), .int (dv 15), .int (dv 16), .int (dv 17), .int (dv 18), .int (dv 19)])), ((an 4), .inr (6, [.int (sv 9), .int (sv 10), .int (sv 11), .int (dv 25), .int (dv 26), .int (dv 27), .int (dv 28), .int (dv 29)])), ((an 5), .inr (6, [.int (sv 12), .int (sv 13), .int (sv 14), .int (dv 30), .int (dv 31), .int (dv 32), .int (dv 33), .int (dv 34)])), ((an 6), .inr (6, [.int (sv 15), .int (sv 16), .int (sv 17), .int (dv 35), .int (dv 36), .int (dv 37), .int (dv 38), .int (dv 39)])), ((an 7), .inr (2, [.ref (an 8), .int (nI n1)])), ((an 8), .inl (X.2.1, 248, .inl g0)), ((an 9), .inr (5, [.int 5, .int 0, .int 1, .ref (an 10), .int (nI n2)])), ((an 10), .inl (X.2.1, 25, .inl gs)), ((an 11), .inr (5, [.int 6, .int 1, .int 1, .ref (an 12), .int (nI n3)])), ((an 12), .inl (X.2.1, 30, .inl gn)), ((an 13), .inr (5, [.int 6, .int 0, .int 0, .ref (an 14), .int (nI n4)])), ((an 14), .inl (X.2.1, 30, .inl gm))]) ([((xa 5), .inl (X.2.1, 3, .inl fr))])) G rfl rfl [0, 17, 18, 5] [1, 2, 3, 4, 6, 7, 8, 9, 10, 11, 12, 13, 14, 15, 16, 19] rfl rfl rfl rfl (n_V (As := [.ref (an 3), .int 1, .int r_7, .int 200]) (rest := []) (C := RX10) (T := TX10) (N := 14) (ci := 8) S G (s_nextLook1 l X h0 nw sp xa la lb hc tm tf (an 3) (fun k => sv (6 + k)) (fun k => dv (20 + k)) r_7 H.size) gX10_look_X10_nextLook rfl rfl rfl hdV_X10_nextLook ⟨Nat.le_of_ble_eq_true rfl, Nat.le_of_ble_eq_true rfl⟩ [0, 17, 18, 5] rfl rfl 0 rfl rfl rfl hl.1 (Nat.le_of_ble_eq_true rfl) dX10_look_37 ⟨Nat.le_of_ble_eq_true rfl, Nat.le_of_ble_eq_true rfl⟩) (fun r_8 u_8 H locs hp_8 G => ?_)
      obtain ⟨m_8a, f_8b⟩ := u_8
      have hq_8 := hp_8
      have G : wd X (va_A (@HAppend.hAppend va_W va_W va_W _ (xW h0 nw sp xa la lb) (@HAppend.hAppend va_W va_W va_W _ (rcV X nw an sv dv n0 n1 n2 n3 n4 g0 gs gn gm) (@HAppend.hAppend va_W va_W va_W _ ([((xa 10), .inr (7, [.ref hc, .int tm])), (hc, .inl (X.2.1, 16, .inl tf))]) ([((xa 5), .inl (X.2.1, 3, .inl fr))])))) sz) (va_A (@HAppend.hAppend va_W va_W va_W _ (xW h0 nw sp xa la lb) (@HAppend.hAppend va_W va_W va_W _ (rcV X nw an sv dv n0 n1 n2 n3 n4 g0 gs gn gm) (@HAppend.hAppend va_W va_W va_W _ ([((xa 10), .inr (7, [.ref hc, .int tm])), (hc, .inl (X.2.1, 16, .inl tf))]) ([((xa 5), .inl (X.2.1, 3, .inl fr))])))) sz) s (@HAppend.hAppend va_W va_W va_W _ (rcV X nw an sv dv n0 n1 n2 n3 n4 g0 gs gn gm) (@HAppend.hAppend va_W va_W va_W _ ([((xa 5), .inl (X.2.1, 3, .inl fr))]) (@HAppend.hAppend va_W va_W va_W _ (xW h0 nw sp xa la lb) ([((xa 10), .inr (7, [.ref hc, .int m_8a])), (hc, .inl (X.2.1, 16, .inl f_8b))])))) H locs := wd_sub G [0, 1, 2, 3, 19, 4, 5, 6, 7, 8, 9, 10, 11, 12, 13, 14, 15, 16, 17, 18] rfl rfl
      exact e_int S zr zlk (vp_nar_int _) G (m_8a, f_8b, fr) [17, 0, 1, 2, 3, 4, 5, 6, 7, 8, 9, 10, 11, 12, 13, 14, 15, 18, 19, 16] rfl rfl (Or.inr rfl) (trivial) dX10_look_40
    · refine k_it (v := 3) rfl ?_
      refine r_aald (C := RX8) (b := (an 4)) S G 2 3 rfl rfl (k_vp (by decide)) rfl dX10_look_24 ?_
      refine lv_iconst (v := 1) zx zb dX10_look_25 (by decide) ?_
      refine lv_aload_n zx zb dX10_look_26 rfl (lv_at hl 0 rfl) ?_
      refine r_get (C := RX10) (T := TX10) (N := 14) (ci := 8) (v := .ref nw) S in_X10_look_X10 G 0 rfl rfl 0 (by decide) lk_X10_look_10 rfl dX10_look_27 ?_
      refine lv_iload_n zx zb dX10_look_30 rfl (lv_at hl 1 rfl) ?_
      refine o_ri (cells' := 0) (slots' := 0) G rfl rfl (n_V (As := [.int 3]) (rest := [.int 1, .ref (an 4), .ref h0]) (C := RX5) (T := TX5) (N := 8) (ci := 3) S G (s_kindsThatFit l X nw an sv dv n0 n1 n2 n3 n4 g0 gs gn gm 3 hI_n0 hI_n1 hI_n2 hI_n3 hI_n4 (by omega) H.size) gX10_look_X5_kindsThatFit rfl rfl rfl hdV_X5_kindsThatFit ⟨Nat.le_of_ble_eq_true rfl, Nat.le_of_ble_eq_true rfl⟩ [1, 2, 3, 4, 5, 6, 7, 8, 9, 10, 11, 12, 13, 14, 15, 16] rfl rfl 1 rfl rfl rfl hl.1 (Nat.le_of_ble_eq_true rfl) dX10_look_31 ⟨Nat.le_of_ble_eq_true rfl, Nat.le_of_ble_eq_true rfl⟩) (fun r_9 u_9 H locs hp_9 G => ?_)
      have G : wd X (va_A (@HAppend.hAppend va_W va_W va_W _ (xW h0 nw sp xa la lb) (@HAppend.hAppend va_W va_W va_W _ (rcV X nw an sv dv n0 n1 n2 n3 n4 g0 gs gn gm) (@HAppend.hAppend va_W va_W va_W _ ([((xa 10), .inr (7, [.ref hc, .int tm])), (hc, .inl (X.2.1, 16, .inl tf))]) ([((xa 5), .inl (X.2.1, 3, .inl fr))])))) sz) (va_A (@HAppend.hAppend va_W va_W va_W _ (xW h0 nw sp xa la lb) (@HAppend.hAppend va_W va_W va_W _ (rcV X nw an sv dv n0 n1 n2 n3 n4 g0 gs gn gm) (@HAppend.hAppend va_W va_W va_W _ ([((xa 10), .inr (7, [.ref hc, .int tm])), (hc, .inl (X.2.1, 16, .inl tf))]) ([((xa 5), .inl (X.2.1, 3, .inl fr))])))) sz) s (@HAppend.hAppend va_W va_W va_W _ (xW h0 nw sp xa la lb) (@HAppend.hAppend va_W va_W va_W _ (rcV X nw an sv dv n0 n1 n2 n3 n4 g0 gs gn gm) (@HAppend.hAppend va_W va_W va_W _ ([((xa 10), .inr (7, [.ref hc, .int tm])), (hc, .inl (X.2.1, 16, .inl tf))]) ([((xa 5), .inl (X.2.1, 3, .inl fr))])))) H locs := G
      refine lv_sipush (v := 200) zx zb dX10_look_34 (by decide) ?_
      refine b_wi (cells' := 0) (slots' := 0) (wr := @HAppend.hAppend va_W va_W va_W _ ([(nw, .inr (3, [.int (dv 0), .int (dv 1), .int (nI n0), .ref (an 0), .ref (an 7), .ref (an 9), .ref (an 11), .ref (an 13)])), ((an 0), .inl (X.2.2.2.2, 6, .inr (.inr (.inr (.inr (rowQ an)))))), ((an 1), .inr (6, [.int (sv 0), .int (sv 1), .int (sv 2), .int (dv 10), .int (dv 11), .int (dv 12), .int (dv 13), .int (dv 14)])), ((an 2), .inr (6, [.int (sv 3), .int (sv 4), .int (sv 5), .int (dv 15), .int (dv 16), .int (dv 17), .int (dv 18), .int (dv 19)])), ((an 3), .inr (6, [.int (sv 6), .int (sv 7), .int (sv 8), .int (dv 20), .int (dv 21), .int (dv 22), .int (dv 23), .int (dv 24)])), ((an 5), .inr (6, [.int (sv 12), .int (sv 13), .int (sv 14), .int (dv 30), .int (dv 31), .int (dv 32), .int (dv 33), .int (dv 34)])), ((an 6), .inr (6, [.int (sv 15), .int (sv 16), .int (sv 17), .int (dv 35), .int (dv 36), .int (dv 37), .int (dv 38), .int (dv 39)])), ((an 7), .inr (2, [.ref (an 8), .int (nI n1)])), ((an 8), .inl (X.2.1, 248, .inl g0)), ((an 9), .inr (5, [.int 5, .int 0, .int 1, .ref (an 10), .int (nI n2)])), ((an 10), .inl (X.2.1, 25, .inl gs)), ((an 11), .inr (5, [.int 6, .int 1, .int 1, .ref (an 12), .int (nI n3)])), ((an 12), .inl (X.2.1, 30, .inl gn)), ((an 13), .inr (5, [.int 6, .int 0, .int 0, .ref (an 14), .int (nI n4)])), ((an 14), .inl (X.2.1, 30, .inl gm))]) ([((xa 5), .inl (X.2.1, 3, .inl fr))])) G rfl rfl [0, 17, 18, 6] [1, 2, 3, 4, 5, 7, 8, 9, 10, 11, 12, 13, 14, 15, 16, 19] rfl rfl rfl rfl (n_V (As := [.ref (an 4), .int 1, .int r_9, .int 200]) (rest := []) (C := RX10) (T := TX10) (N := 14) (ci := 8) S G (s_nextLook1 l X h0 nw sp xa la lb hc tm tf (an 4) (fun k => sv (9 + k)) (fun k => dv (25 + k)) r_9 H.size) gX10_look_X10_nextLook rfl rfl rfl hdV_X10_nextLook ⟨Nat.le_of_ble_eq_true rfl, Nat.le_of_ble_eq_true rfl⟩ [0, 17, 18, 6] rfl rfl 0 rfl rfl rfl hl.1 (Nat.le_of_ble_eq_true rfl) dX10_look_37 ⟨Nat.le_of_ble_eq_true rfl, Nat.le_of_ble_eq_true rfl⟩) (fun r_10 u_10 H locs hp_10 G => ?_)
      obtain ⟨m_10a, f_10b⟩ := u_10
      have hq_10 := hp_10
      have G : wd X (va_A (@HAppend.hAppend va_W va_W va_W _ (xW h0 nw sp xa la lb) (@HAppend.hAppend va_W va_W va_W _ (rcV X nw an sv dv n0 n1 n2 n3 n4 g0 gs gn gm) (@HAppend.hAppend va_W va_W va_W _ ([((xa 10), .inr (7, [.ref hc, .int tm])), (hc, .inl (X.2.1, 16, .inl tf))]) ([((xa 5), .inl (X.2.1, 3, .inl fr))])))) sz) (va_A (@HAppend.hAppend va_W va_W va_W _ (xW h0 nw sp xa la lb) (@HAppend.hAppend va_W va_W va_W _ (rcV X nw an sv dv n0 n1 n2 n3 n4 g0 gs gn gm) (@HAppend.hAppend va_W va_W va_W _ ([((xa 10), .inr (7, [.ref hc, .int tm])), (hc, .inl (X.2.1, 16, .inl tf))]) ([((xa 5), .inl (X.2.1, 3, .inl fr))])))) sz) s (@HAppend.hAppend va_W va_W va_W _ (rcV X nw an sv dv n0 n1 n2 n3 n4 g0 gs gn gm) (@HAppend.hAppend va_W va_W va_W _ ([((xa 5), .inl (X.2.1, 3, .inl fr))]) (@HAppend.hAppend va_W va_W va_W _ (xW h0 nw sp xa la lb) ([((xa 10), .inr (7, [.ref hc, .int m_10a])), (hc, .inl (X.2.1, 16, .inl f_10b))])))) H locs := wd_sub G [0, 1, 2, 3, 4, 19, 5, 6, 7, 8, 9, 10, 11, 12, 13, 14, 15, 16, 17, 18] rfl rfl
      exact e_int S zr zlk (vp_nar_int _) G (m_10a, f_10b, fr) [17, 0, 1, 2, 3, 4, 5, 6, 7, 8, 9, 10, 11, 12, 13, 14, 15, 18, 19, 16] rfl rfl (Or.inr rfl) (trivial) dX10_look_40
    · refine k_it (v := 4) rfl ?_
      refine r_aald (C := RX8) (b := (an 5)) S G 2 3 rfl rfl (k_vp (by decide)) rfl dX10_look_24 ?_
      refine lv_iconst (v := 1) zx zb dX10_look_25 (by decide) ?_
      refine lv_aload_n zx zb dX10_look_26 rfl (lv_at hl 0 rfl) ?_
      refine r_get (C := RX10) (T := TX10) (N := 14) (ci := 8) (v := .ref nw) S in_X10_look_X10 G 0 rfl rfl 0 (by decide) lk_X10_look_10 rfl dX10_look_27 ?_
      refine lv_iload_n zx zb dX10_look_30 rfl (lv_at hl 1 rfl) ?_
      refine o_ri (cells' := 0) (slots' := 0) G rfl rfl (n_V (As := [.int 4]) (rest := [.int 1, .ref (an 5), .ref h0]) (C := RX5) (T := TX5) (N := 8) (ci := 3) S G (s_kindsThatFit l X nw an sv dv n0 n1 n2 n3 n4 g0 gs gn gm 4 hI_n0 hI_n1 hI_n2 hI_n3 hI_n4 (by omega) H.size) gX10_look_X5_kindsThatFit rfl rfl rfl hdV_X5_kindsThatFit ⟨Nat.le_of_ble_eq_true rfl, Nat.le_of_ble_eq_true rfl⟩ [1, 2, 3, 4, 5, 6, 7, 8, 9, 10, 11, 12, 13, 14, 15, 16] rfl rfl 1 rfl rfl rfl hl.1 (Nat.le_of_ble_eq_true rfl) dX10_look_31 ⟨Nat.le_of_ble_eq_true rfl, Nat.le_of_ble_eq_true rfl⟩) (fun r_11 u_11 H locs hp_11 G => ?_)
      have G : wd X (va_A (@HAppend.hAppend va_W va_W va_W _ (xW h0 nw sp xa la lb) (@HAppend.hAppend va_W va_W va_W _ (rcV X nw an sv dv n0 n1 n2 n3 n4 g0 gs gn gm) (@HAppend.hAppend va_W va_W va_W _ ([((xa 10), .inr (7, [.ref hc, .int tm])), (hc, .inl (X.2.1, 16, .inl tf))]) ([((xa 5), .inl (X.2.1, 3, .inl fr))])))) sz) (va_A (@HAppend.hAppend va_W va_W va_W _ (xW h0 nw sp xa la lb) (@HAppend.hAppend va_W va_W va_W _ (rcV X nw an sv dv n0 n1 n2 n3 n4 g0 gs gn gm) (@HAppend.hAppend va_W va_W va_W _ ([((xa 10), .inr (7, [.ref hc, .int tm])), (hc, .inl (X.2.1, 16, .inl tf))]) ([((xa 5), .inl (X.2.1, 3, .inl fr))])))) sz) s (@HAppend.hAppend va_W va_W va_W _ (xW h0 nw sp xa la lb) (@HAppend.hAppend va_W va_W va_W _ (rcV X nw an sv dv n0 n1 n2 n3 n4 g0 gs gn gm) (@HAppend.hAppend va_W va_W va_W _ ([((xa 10), .inr (7, [.ref hc, .int tm])), (hc, .inl (X.2.1, 16, .inl tf))]) ([((xa 5), .inl (X.2.1, 3, .inl fr))])))) H locs := G
      refine lv_sipush (v := 200) zx zb dX10_look_34 (by decide) ?_
      refine b_wi (cells' := 0) (slots' := 0) (wr := @HAppend.hAppend va_W va_W va_W _ ([(nw, .inr (3, [.int (dv 0), .int (dv 1), .int (nI n0), .ref (an 0), .ref (an 7), .ref (an 9), .ref (an 11), .ref (an 13)])), ((an 0), .inl (X.2.2.2.2, 6, .inr (.inr (.inr (.inr (rowQ an)))))), ((an 1), .inr (6, [.int (sv 0), .int (sv 1), .int (sv 2), .int (dv 10), .int (dv 11), .int (dv 12), .int (dv 13), .int (dv 14)])), ((an 2), .inr (6, [.int (sv 3), .int (sv 4), .int (sv 5), .int (dv 15), .int (dv 16), .int (dv 17), .int (dv 18), .int (dv 19)])), ((an 3), .inr (6, [.int (sv 6), .int (sv 7), .int (sv 8), .int (dv 20), .int (dv 21), .int (dv 22), .int (dv 23), .int (dv 24)])), ((an 4), .inr (6, [.int (sv 9), .int (sv 10), .int (sv 11), .int (dv 25), .int (dv 26), .int (dv 27), .int (dv 28), .int (dv 29)])), ((an 6), .inr (6, [.int (sv 15), .int (sv 16), .int (sv 17), .int (dv 35), .int (dv 36), .int (dv 37), .int (dv 38), .int (dv 39)])), ((an 7), .inr (2, [.ref (an 8), .int (nI n1)])), ((an 8), .inl (X.2.1, 248, .inl g0)), ((an 9), .inr (5, [.int 5, .int 0, .int 1, .ref (an 10), .int (nI n2)])), ((an 10), .inl (X.2.1, 25, .inl gs)), ((an 11), .inr (5, [.int 6, .int 1, .int 1, .ref (an 12), .int (nI n3)])), ((an 12), .inl (X.2.1, 30, .inl gn)), ((an 13), .inr (5, [.int 6, .int 0, .int 0, .ref (an 14), .int (nI n4)])), ((an 14), .inl (X.2.1, 30, .inl gm))]) ([((xa 5), .inl (X.2.1, 3, .inl fr))])) G rfl rfl [0, 17, 18, 7] [1, 2, 3, 4, 5, 6, 8, 9, 10, 11, 12, 13, 14, 15, 16, 19] rfl rfl rfl rfl (n_V (As := [.ref (an 5), .int 1, .int r_11, .int 200]) (rest := []) (C := RX10) (T := TX10) (N := 14) (ci := 8) S G (s_nextLook1 l X h0 nw sp xa la lb hc tm tf (an 5) (fun k => sv (12 + k)) (fun k => dv (30 + k)) r_11 H.size) gX10_look_X10_nextLook rfl rfl rfl hdV_X10_nextLook ⟨Nat.le_of_ble_eq_true rfl, Nat.le_of_ble_eq_true rfl⟩ [0, 17, 18, 7] rfl rfl 0 rfl rfl rfl hl.1 (Nat.le_of_ble_eq_true rfl) dX10_look_37 ⟨Nat.le_of_ble_eq_true rfl, Nat.le_of_ble_eq_true rfl⟩) (fun r_12 u_12 H locs hp_12 G => ?_)
      obtain ⟨m_12a, f_12b⟩ := u_12
      have hq_12 := hp_12
      have G : wd X (va_A (@HAppend.hAppend va_W va_W va_W _ (xW h0 nw sp xa la lb) (@HAppend.hAppend va_W va_W va_W _ (rcV X nw an sv dv n0 n1 n2 n3 n4 g0 gs gn gm) (@HAppend.hAppend va_W va_W va_W _ ([((xa 10), .inr (7, [.ref hc, .int tm])), (hc, .inl (X.2.1, 16, .inl tf))]) ([((xa 5), .inl (X.2.1, 3, .inl fr))])))) sz) (va_A (@HAppend.hAppend va_W va_W va_W _ (xW h0 nw sp xa la lb) (@HAppend.hAppend va_W va_W va_W _ (rcV X nw an sv dv n0 n1 n2 n3 n4 g0 gs gn gm) (@HAppend.hAppend va_W va_W va_W _ ([((xa 10), .inr (7, [.ref hc, .int tm])), (hc, .inl (X.2.1, 16, .inl tf))]) ([((xa 5), .inl (X.2.1, 3, .inl fr))])))) sz) s (@HAppend.hAppend va_W va_W va_W _ (rcV X nw an sv dv n0 n1 n2 n3 n4 g0 gs gn gm) (@HAppend.hAppend va_W va_W va_W _ ([((xa 5), .inl (X.2.1, 3, .inl fr))]) (@HAppend.hAppend va_W va_W va_W _ (xW h0 nw sp xa la lb) ([((xa 10), .inr (7, [.ref hc, .int m_12a])), (hc, .inl (X.2.1, 16, .inl f_12b))])))) H locs := wd_sub G [0, 1, 2, 3, 4, 5, 19, 6, 7, 8, 9, 10, 11, 12, 13, 14, 15, 16, 17, 18] rfl rfl
      exact e_int S zr zlk (vp_nar_int _) G (m_12a, f_12b, fr) [17, 0, 1, 2, 3, 4, 5, 6, 7, 8, 9, 10, 11, 12, 13, 14, 15, 18, 19, 16] rfl rfl (Or.inr rfl) (trivial) dX10_look_40
    · refine k_it (v := 5) rfl ?_
      refine r_aald (C := RX8) (b := (an 6)) S G 2 3 rfl rfl (k_vp (by decide)) rfl dX10_look_24 ?_
      refine lv_iconst (v := 1) zx zb dX10_look_25 (by decide) ?_
      refine lv_aload_n zx zb dX10_look_26 rfl (lv_at hl 0 rfl) ?_
      refine r_get (C := RX10) (T := TX10) (N := 14) (ci := 8) (v := .ref nw) S in_X10_look_X10 G 0 rfl rfl 0 (by decide) lk_X10_look_10 rfl dX10_look_27 ?_
      refine lv_iload_n zx zb dX10_look_30 rfl (lv_at hl 1 rfl) ?_
      refine o_ri (cells' := 0) (slots' := 0) G rfl rfl (n_V (As := [.int 5]) (rest := [.int 1, .ref (an 6), .ref h0]) (C := RX5) (T := TX5) (N := 8) (ci := 3) S G (s_kindsThatFit l X nw an sv dv n0 n1 n2 n3 n4 g0 gs gn gm 5 hI_n0 hI_n1 hI_n2 hI_n3 hI_n4 (by omega) H.size) gX10_look_X5_kindsThatFit rfl rfl rfl hdV_X5_kindsThatFit ⟨Nat.le_of_ble_eq_true rfl, Nat.le_of_ble_eq_true rfl⟩ [1, 2, 3, 4, 5, 6, 7, 8, 9, 10, 11, 12, 13, 14, 15, 16] rfl rfl 1 rfl rfl rfl hl.1 (Nat.le_of_ble_eq_true rfl) dX10_look_31 ⟨Nat.le_of_ble_eq_true rfl, Nat.le_of_ble_eq_true rfl⟩) (fun r_13 u_13 H locs hp_13 G => ?_)
      have G : wd X (va_A (@HAppend.hAppend va_W va_W va_W _ (xW h0 nw sp xa la lb) (@HAppend.hAppend va_W va_W va_W _ (rcV X nw an sv dv n0 n1 n2 n3 n4 g0 gs gn gm) (@HAppend.hAppend va_W va_W va_W _ ([((xa 10), .inr (7, [.ref hc, .int tm])), (hc, .inl (X.2.1, 16, .inl tf))]) ([((xa 5), .inl (X.2.1, 3, .inl fr))])))) sz) (va_A (@HAppend.hAppend va_W va_W va_W _ (xW h0 nw sp xa la lb) (@HAppend.hAppend va_W va_W va_W _ (rcV X nw an sv dv n0 n1 n2 n3 n4 g0 gs gn gm) (@HAppend.hAppend va_W va_W va_W _ ([((xa 10), .inr (7, [.ref hc, .int tm])), (hc, .inl (X.2.1, 16, .inl tf))]) ([((xa 5), .inl (X.2.1, 3, .inl fr))])))) sz) s (@HAppend.hAppend va_W va_W va_W _ (xW h0 nw sp xa la lb) (@HAppend.hAppend va_W va_W va_W _ (rcV X nw an sv dv n0 n1 n2 n3 n4 g0 gs gn gm) (@HAppend.hAppend va_W va_W va_W _ ([((xa 10), .inr (7, [.ref hc, .int tm])), (hc, .inl (X.2.1, 16, .inl tf))]) ([((xa 5), .inl (X.2.1, 3, .inl fr))])))) H locs := G
      refine lv_sipush (v := 200) zx zb dX10_look_34 (by decide) ?_
      refine b_wi (cells' := 0) (slots' := 0) (wr := @HAppend.hAppend va_W va_W va_W _ ([(nw, .inr (3, [.int (dv 0), .int (dv 1), .int (nI n0), .ref (an 0), .ref (an 7), .ref (an 9), .ref (an 11), .ref (an 13)])), ((an 0), .inl (X.2.2.2.2, 6, .inr (.inr (.inr (.inr (rowQ an)))))), ((an 1), .inr (6, [.int (sv 0), .int (sv 1), .int (sv 2), .int (dv 10), .int (dv 11), .int (dv 12), .int (dv 13), .int (dv 14)])), ((an 2), .inr (6, [.int (sv 3), .int (sv 4), .int (sv 5), .int (dv 15), .int (dv 16), .int (dv 17), .int (dv 18), .int (dv 19)])), ((an 3), .inr (6, [.int (sv 6), .int (sv 7), .int (sv 8), .int (dv 20), .int (dv 21), .int (dv 22), .int (dv 23), .int (dv 24)])), ((an 4), .inr (6, [.int (sv 9), .int (sv 10), .int (sv 11), .int (dv 25), .int (dv 26), .int (dv 27), .int (dv 28), .int (dv 29)])), ((an 5), .inr (6, [.int (sv 12), .int (sv 13), .int (sv 14), .int (dv 30), .int (dv 31), .int (dv 32), .int (dv 33), .int (dv 34)])), ((an 7), .inr (2, [.ref (an 8), .int (nI n1)])), ((an 8), .inl (X.2.1, 248, .inl g0)), ((an 9), .inr (5, [.int 5, .int 0, .int 1, .ref (an 10), .int (nI n2)])), ((an 10), .inl (X.2.1, 25, .inl gs)), ((an 11), .inr (5, [.int 6, .int 1, .int 1, .ref (an 12), .int (nI n3)])), ((an 12), .inl (X.2.1, 30, .inl gn)), ((an 13), .inr (5, [.int 6, .int 0, .int 0, .ref (an 14), .int (nI n4)])), ((an 14), .inl (X.2.1, 30, .inl gm))]) ([((xa 5), .inl (X.2.1, 3, .inl fr))])) G rfl rfl [0, 17, 18, 8] [1, 2, 3, 4, 5, 6, 7, 9, 10, 11, 12, 13, 14, 15, 16, 19] rfl rfl rfl rfl (n_V (As := [.ref (an 6), .int 1, .int r_13, .int 200]) (rest := []) (C := RX10) (T := TX10) (N := 14) (ci := 8) S G (s_nextLook1 l X h0 nw sp xa la lb hc tm tf (an 6) (fun k => sv (15 + k)) (fun k => dv (35 + k)) r_13 H.size) gX10_look_X10_nextLook rfl rfl rfl hdV_X10_nextLook ⟨Nat.le_of_ble_eq_true rfl, Nat.le_of_ble_eq_true rfl⟩ [0, 17, 18, 8] rfl rfl 0 rfl rfl rfl hl.1 (Nat.le_of_ble_eq_true rfl) dX10_look_37 ⟨Nat.le_of_ble_eq_true rfl, Nat.le_of_ble_eq_true rfl⟩) (fun r_14 u_14 H locs hp_14 G => ?_)
      obtain ⟨m_14a, f_14b⟩ := u_14
      have hq_14 := hp_14
      have G : wd X (va_A (@HAppend.hAppend va_W va_W va_W _ (xW h0 nw sp xa la lb) (@HAppend.hAppend va_W va_W va_W _ (rcV X nw an sv dv n0 n1 n2 n3 n4 g0 gs gn gm) (@HAppend.hAppend va_W va_W va_W _ ([((xa 10), .inr (7, [.ref hc, .int tm])), (hc, .inl (X.2.1, 16, .inl tf))]) ([((xa 5), .inl (X.2.1, 3, .inl fr))])))) sz) (va_A (@HAppend.hAppend va_W va_W va_W _ (xW h0 nw sp xa la lb) (@HAppend.hAppend va_W va_W va_W _ (rcV X nw an sv dv n0 n1 n2 n3 n4 g0 gs gn gm) (@HAppend.hAppend va_W va_W va_W _ ([((xa 10), .inr (7, [.ref hc, .int tm])), (hc, .inl (X.2.1, 16, .inl tf))]) ([((xa 5), .inl (X.2.1, 3, .inl fr))])))) sz) s (@HAppend.hAppend va_W va_W va_W _ (rcV X nw an sv dv n0 n1 n2 n3 n4 g0 gs gn gm) (@HAppend.hAppend va_W va_W va_W _ ([((xa 5), .inl (X.2.1, 3, .inl fr))]) (@HAppend.hAppend va_W va_W va_W _ (xW h0 nw sp xa la lb) ([((xa 10), .inr (7, [.ref hc, .int m_14a])), (hc, .inl (X.2.1, 16, .inl f_14b))])))) H locs := wd_sub G [0, 1, 2, 3, 4, 5, 6, 19, 7, 8, 9, 10, 11, 12, 13, 14, 15, 16, 17, 18] rfl rfl
      exact e_int S zr zlk (vp_nar_int _) G (m_14a, f_14b, fr) [17, 0, 1, 2, 3, 4, 5, 6, 7, 8, 9, 10, 11, 12, 13, 14, 15, 18, 19, 16] rfl rfl (Or.inr rfl) (trivial) dX10_look_40
  · refine lv_if_ne (tgt := 15) zx zb dX10_look_5 (by decide) (fun c_15 => absurd (by decide) c_15) (fun c_15 => ?_)
    refine lv_aload_n zx zb dX10_look_8 rfl (lv_at hl 0 rfl) ?_
    refine lv_bipush (v := (-2)) zx zb dX10_look_9 (by decide) ?_
    refine b_wi (cells' := 0) (slots' := 0) (wr := @HAppend.hAppend va_W va_W va_W _ (rcV X nw an sv dv n0 n1 n2 n3 n4 g0 gs gn gm) ([((xa 10), .inr (7, [.ref hc, .int tm])), (hc, .inl (X.2.1, 16, .inl tf))])) G rfl rfl [0, 19] [1, 2, 3, 4, 5, 6, 7, 8, 9, 10, 11, 12, 13, 14, 15, 16, 17, 18] rfl rfl rfl rfl (n_V (As := [.int (-2)]) (rest := []) (C := RX10) (T := TX10) (N := 14) (ci := 8) S G (s_refuse l X h0 nw sp xa la lb fr (-2) H.size) gX10_look_X10_refuse rfl rfl rfl hdV_X10_refuse ⟨Nat.le_of_ble_eq_true rfl, Nat.le_of_ble_eq_true rfl⟩ [0, 19] rfl rfl 0 rfl rfl rfl hl.1 (Nat.le_of_ble_eq_true rfl) dX10_look_11 ⟨Nat.le_of_ble_eq_true rfl, Nat.le_of_ble_eq_true rfl⟩) (fun r_16 u_16 H locs hp_16 G => ?_)
    obtain ⟨f_16, rfl⟩ : ∃ z, z = u_16 := ⟨_, rfl⟩
    have hq_16 := hp_16
    have G : wd X (va_A (@HAppend.hAppend va_W va_W va_W _ (xW h0 nw sp xa la lb) (@HAppend.hAppend va_W va_W va_W _ (rcV X nw an sv dv n0 n1 n2 n3 n4 g0 gs gn gm) (@HAppend.hAppend va_W va_W va_W _ ([((xa 10), .inr (7, [.ref hc, .int tm])), (hc, .inl (X.2.1, 16, .inl tf))]) ([((xa 5), .inl (X.2.1, 3, .inl fr))])))) sz) (va_A (@HAppend.hAppend va_W va_W va_W _ (xW h0 nw sp xa la lb) (@HAppend.hAppend va_W va_W va_W _ (rcV X nw an sv dv n0 n1 n2 n3 n4 g0 gs gn gm) (@HAppend.hAppend va_W va_W va_W _ ([((xa 10), .inr (7, [.ref hc, .int tm])), (hc, .inl (X.2.1, 16, .inl tf))]) ([((xa 5), .inl (X.2.1, 3, .inl fr))])))) sz) s (@HAppend.hAppend va_W va_W va_W _ (rcV X nw an sv dv n0 n1 n2 n3 n4 g0 gs gn gm) (@HAppend.hAppend va_W va_W va_W _ ([((xa 10), .inr (7, [.ref hc, .int tm])), (hc, .inl (X.2.1, 16, .inl tf))]) (@HAppend.hAppend va_W va_W va_W _ (xW h0 nw sp xa la lb) ([((xa 5), .inl (X.2.1, 3, .inl f_16))])))) H locs := G
    exact e_int S zr zlk (vp_nar_int _) G (tm, tf, f_16) [18, 0, 1, 2, 3, 4, 5, 6, 7, 8, 9, 10, 11, 12, 13, 14, 15, 16, 17, 19] rfl rfl (Or.inr rfl) (trivial) dX10_look_14
