set_option maxRecDepth 20000 in
theorem ggX11_kindsOfEgg_X11_mayAs : GoodIn wsX11_kindsOfEgg wsX11_mayAs := goodIn_r _ [5] rfl (by decide +kernel)
set_option maxRecDepth 20000 in
theorem gX11_kindsOfEgg_X11_mayAs : GoodIn wsX11_kindsOfEgg (va_wsS RX11 94 yX11_mayAs wsX11_mayAs) := goodIn_app (goodIn_of _ (by decide +kernel)) ggX11_kindsOfEgg_X11_mayAs
set_option maxRecDepth 20000 in
theorem ggX11_kindsOfOne_X11_runsAs : GoodIn wsX11_kindsOfOne wsX11_runsAs := goodIn_r _ [5] rfl (by decide +kernel)
set_option maxRecDepth 20000 in
theorem gX11_kindsOfOne_X11_runsAs : GoodIn wsX11_kindsOfOne (va_wsS RX11 86 yX11_runsAs wsX11_runsAs) := goodIn_app (goodIn_of _ (by decide +kernel)) ggX11_kindsOfOne_X11_runsAs
set_option maxRecDepth 20000 in
theorem ggX11_legsOf_X11_runsAs : GoodIn wsX11_legsOf wsX11_runsAs := goodIn_r _ [5] rfl (by decide +kernel)
set_option maxRecDepth 20000 in
theorem gX11_legsOf_X11_runsAs : GoodIn wsX11_legsOf (va_wsS RX11 86 yX11_runsAs wsX11_runsAs) := goodIn_app (goodIn_of _ (by decide +kernel)) ggX11_legsOf_X11_runsAs
set_option maxRecDepth 20000 in
theorem ggX11_read_X11_begin : GoodIn wsX11_read wsX11_begin := goodIn_r _ [42] rfl (by decide +kernel)
set_option maxRecDepth 20000 in
theorem gX11_read_X11_begin : GoodIn wsX11_read (va_wsS RX11 48 yX11_begin wsX11_begin) := goodIn_app (goodIn_of _ (by decide +kernel)) ggX11_read_X11_begin
set_option maxRecDepth 20000 in
theorem ggX11_read_X11_goBehind : GoodIn wsX11_read wsX11_goBehind := goodIn_r _ [35, 1, 13, 6, 7, 8, 9, 10, 11, 12, 2, 14, 15, 16, 17, 18, 19, 20, 21, 22, 23, 24, 25, 26, 27, 90, 91, 92, 93, 94, 95, 96, 97, 98, 99, 100, 101, 102, 103, 104, 105, 106, 107] rfl (by decide +kernel)
set_option maxRecDepth 20000 in
theorem gX11_read_X11_goBehind : GoodIn wsX11_read (wsV RX11 238 RX11 yX11_goBehind wsX11_goBehind) := goodIn_app (goodIn_of _ (by decide +kernel)) ggX11_read_X11_goBehind
set_option maxRecDepth 20000 in
theorem ggX11_read_X11_lookAt : GoodIn wsX11_read wsX11_lookAt := goodIn_r _ [10, 1, 11, 12, 13, 2, 14, 15, 16, 9, 17, 18, 19, 20, 21, 22, 23, 24, 25, 26, 27, 90, 91, 92, 93, 94, 95, 96, 97, 98, 99, 100, 101, 102, 103, 104, 105, 106, 107] rfl (by decide +kernel)
set_option maxRecDepth 20000 in
theorem gX11_read_X11_lookAt : GoodIn wsX11_read (wsV RX11 235 RX11 yX11_lookAt wsX11_lookAt) := goodIn_app (goodIn_of _ (by decide +kernel)) ggX11_read_X11_lookAt
set_option maxRecDepth 20000 in
theorem ggX11_read_X11_spells : GoodIn wsX11_read wsX11_spells := goodIn_r _ [31, 2, 13, 12, 1, 90, 91, 92, 93, 94, 95, 96, 97, 98, 99, 100, 101, 102, 103, 104, 105, 106, 107] rfl (by decide +kernel)
set_option maxRecDepth 20000 in
theorem gX11_read_X11_spells : GoodIn wsX11_read (wsV RX11 245 RX11 yX11_spells wsX11_spells) := goodIn_app (goodIn_of _ (by decide +kernel)) ggX11_read_X11_spells
set_option maxRecDepth 20000 in
theorem ggX11_read_X11_takes : GoodIn wsX11_read wsX11_takes := goodIn_r _ [39, 2, 14, 4, 20, 21, 9, 22, 32, 33, 34, 35, 1, 13, 6, 7, 8, 10, 11, 12, 15, 16, 17, 18, 19, 23, 24, 25, 26, 27, 90, 91, 92, 93, 94, 95, 96, 97, 98, 99, 100, 101, 102, 103, 104, 105, 106, 107] rfl (by decide +kernel)
set_option maxRecDepth 20000 in
theorem gX11_read_X11_takes : GoodIn wsX11_read (wsV RX11 241 RX11 yX11_takes wsX11_takes) := goodIn_app (goodIn_of _ (by decide +kernel)) ggX11_read_X11_takes
set_option maxRecDepth 20000 in
theorem ggX11_read_X11_takesItem : GoodIn wsX11_read wsX11_takesItem := goodIn_r _ [46, 28, 29, 30, 9, 31, 2, 13, 12, 1, 47, 48, 49, 50, 3, 4, 32, 33, 34, 35, 6, 7, 8, 10, 11, 14, 15, 16, 17, 18, 19, 20, 21, 22, 23, 24, 25, 26, 27, 36, 37, 38, 39, 51, 52, 53, 54, 55, 56, 57, 58, 59, 60, 61, 62, 63, 64, 65, 66, 67, 68, 69, 70, 71, 72, 73, 74, 75, 76, 77, 78, 79, 80, 81, 82, 83, 84, 85, 86, 87, 88, 89, 90, 91, 92, 93, 94, 95, 96, 97, 98, 99, 100, 101, 102, 103, 104, 105, 106, 107] rfl (by decide +kernel)
set_option maxRecDepth 20000 in
theorem gX11_read_X11_takesItem : GoodIn wsX11_read (wsV RX11 262 RX11 yX11_takesItem wsX11_takesItem) := goodIn_app (goodIn_of _ (by decide +kernel)) ggX11_read_X11_takesItem
set_option maxRecDepth 20000 in
theorem ggX11_takesGo_X11_goBehind : GoodIn wsX11_takesGo wsX11_goBehind := goodIn_r _ [7, 8, 9, 10, 11, 12, 6, 13, 14, 15, 16, 17, 18, 19, 20, 21, 22, 23, 24, 25, 26, 27, 28, 29, 30, 59, 60, 61, 62, 63, 64, 65, 66, 67, 68, 69, 70, 71, 72, 73, 74, 75, 76] rfl (by decide +kernel)
set_option maxRecDepth 20000 in
theorem gX11_takesGo_X11_goBehind : GoodIn wsX11_takesGo (wsV RX11 238 RX11 yX11_goBehind wsX11_goBehind) := goodIn_app (goodIn_of _ (by decide +kernel)) ggX11_takesGo_X11_goBehind
set_option maxRecDepth 20000 in
theorem ggX11_takesGo_X11_goTicks : GoodIn wsX11_takesGo wsX11_goTicks := goodIn_r _ [37, 38, 39, 6, 40, 41, 42, 43, 44, 45, 46, 47, 48, 49, 50, 51, 52, 53, 54, 55, 56, 57, 58] rfl (by decide +kernel)
set_option maxRecDepth 20000 in
theorem gX11_takesGo_X11_goTicks : GoodIn wsX11_takesGo (va_wsS RX11 116 yX11_goTicks wsX11_goTicks) := goodIn_app (goodIn_of _ (by decide +kernel)) ggX11_takesGo_X11_goTicks
set_option maxRecDepth 20000 in
theorem ggX11_takesGo_X11_takes : GoodIn wsX11_takesGo wsX11_takes := goodIn_r _ [34, 16, 17, 2, 23, 24, 6, 25, 3, 4, 5, 7, 8, 9, 10, 11, 12, 13, 14, 15, 18, 19, 20, 21, 22, 26, 27, 28, 29, 30, 59, 60, 61, 62, 63, 64, 65, 66, 67, 68, 69, 70, 71, 72, 73, 74, 75, 76] rfl (by decide +kernel)
set_option maxRecDepth 20000 in
theorem gX11_takesGo_X11_takes : GoodIn wsX11_takesGo (wsV RX11 241 RX11 yX11_takes wsX11_takes) := goodIn_app (goodIn_of _ (by decide +kernel)) ggX11_takesGo_X11_takes
set_option maxRecDepth 20000 in
theorem ggX11_takesItem_X11_spells : GoodIn wsX11_takesItem wsX11_spells := goodIn_r _ [5, 6, 7, 8, 9, 82, 83, 84, 85, 86, 87, 88, 89, 90, 91, 92, 93, 94, 95, 96, 97, 98, 99] rfl (by decide +kernel)
set_option maxRecDepth 20000 in
theorem gX11_takesItem_X11_spells : GoodIn wsX11_takesItem (wsV RX11 245 RX11 yX11_spells wsX11_spells) := goodIn_app (goodIn_of _ (by decide +kernel)) ggX11_takesItem_X11_spells
set_option maxRecDepth 20000 in
theorem ggX11_takesItem_X11_takesGo : GoodIn wsX11_takesItem wsX11_takesGo := goodIn_r _ [60, 14, 15, 16, 17, 18, 4, 19, 9, 7, 20, 21, 22, 23, 24, 8, 6, 25, 26, 27, 28, 29, 30, 31, 32, 33, 34, 35, 36, 37, 38, 39, 40, 41, 42, 61, 62, 63, 64, 65, 66, 54, 55, 56, 67, 68, 69, 70, 71, 72, 73, 74, 75, 76, 77, 78, 79, 80, 81, 82, 83, 84, 85, 86, 87, 88, 89, 90, 91, 92, 93, 94, 95, 96, 97, 98, 99] rfl (by decide +kernel)
set_option maxRecDepth 20000 in
theorem gX11_takesItem_X11_takesGo : GoodIn wsX11_takesItem (wsV RX11 259 RX11 yX11_takesGo wsX11_takesGo) := goodIn_app (goodIn_of _ (by decide +kernel)) ggX11_takesItem_X11_takesGo
set_option maxRecDepth 20000 in
theorem ggX11_takesItem_X11_takesOne : GoodIn wsX11_takesItem wsX11_takesOne := goodIn_r _ [13, 14, 15, 16, 17, 18, 4, 19, 9, 7, 20, 21, 22, 23, 24, 8, 6, 25, 26, 27, 28, 29, 30, 31, 32, 33, 34, 35, 36, 37, 38, 39, 40, 41, 42, 43, 44, 45, 82, 83, 84, 85, 86, 87, 88, 89, 90, 91, 92, 93, 94, 95, 96, 97, 98, 99] rfl (by decide +kernel)
set_option maxRecDepth 20000 in
theorem gX11_takesItem_X11_takesOne : GoodIn wsX11_takesItem (wsV RX11 249 RX11 yX11_takesOne wsX11_takesOne) := goodIn_app (goodIn_of _ (by decide +kernel)) ggX11_takesItem_X11_takesOne
set_option maxRecDepth 20000 in
theorem ggX11_takesItem_X11_takesSpeed : GoodIn wsX11_takesItem wsX11_takesSpeed := goodIn_r _ [49, 14, 15, 16, 17, 18, 4, 19, 9, 7, 20, 21, 22, 23, 24, 8, 6, 25, 26, 27, 28, 29, 30, 31, 32, 33, 34, 35, 36, 37, 38, 39, 40, 41, 42, 82, 83, 84, 85, 86, 87, 88, 89, 90, 91, 92, 93, 94, 95, 96, 97, 98, 99] rfl (by decide +kernel)
set_option maxRecDepth 20000 in
theorem gX11_takesItem_X11_takesSpeed : GoodIn wsX11_takesItem (wsV RX11 253 RX11 yX11_takesSpeed wsX11_takesSpeed) := goodIn_app (goodIn_of _ (by decide +kernel)) ggX11_takesItem_X11_takesSpeed
set_option maxRecDepth 20000 in
theorem ggX11_takesItem_X11_takesStart : GoodIn wsX11_takesItem wsX11_takesStart := goodIn_r _ [53, 6, 25, 14, 15, 16, 17, 18, 4, 19, 9, 7, 20, 21, 22, 23, 24, 8, 26, 27, 28, 29, 30, 31, 32, 33, 34, 35, 36, 37, 38, 54, 55, 56, 39, 40, 41, 42, 82, 83, 84, 85, 86, 87, 88, 89, 90, 91, 92, 93, 94, 95, 96, 97, 98, 99] rfl (by decide +kernel)
set_option maxRecDepth 20000 in
theorem gX11_takesItem_X11_takesStart : GoodIn wsX11_takesItem (wsV RX11 256 RX11 yX11_takesStart wsX11_takesStart) := goodIn_app (goodIn_of _ (by decide +kernel)) ggX11_takesItem_X11_takesStart
set_option maxRecDepth 20000 in
theorem ggX11_takesSpeed_X11_goBehind : GoodIn wsX11_takesSpeed wsX11_goBehind := goodIn_r _ [7, 8, 9, 10, 11, 12, 6, 13, 14, 15, 16, 17, 18, 19, 20, 21, 22, 23, 24, 25, 26, 27, 28, 29, 30, 35, 36, 37, 38, 39, 40, 41, 42, 43, 44, 45, 46, 47, 48, 49, 50, 51, 52] rfl (by decide +kernel)
set_option maxRecDepth 20000 in
theorem gX11_takesSpeed_X11_goBehind : GoodIn wsX11_takesSpeed (wsV RX11 238 RX11 yX11_goBehind wsX11_goBehind) := goodIn_app (goodIn_of _ (by decide +kernel)) ggX11_takesSpeed_X11_goBehind
set_option maxRecDepth 20000 in
theorem ggX11_takesSpeed_X11_takes : GoodIn wsX11_takesSpeed wsX11_takes := goodIn_r _ [34, 16, 17, 2, 23, 24, 6, 25, 3, 4, 5, 7, 8, 9, 10, 11, 12, 13, 14, 15, 18, 19, 20, 21, 22, 26, 27, 28, 29, 30, 35, 36, 37, 38, 39, 40, 41, 42, 43, 44, 45, 46, 47, 48, 49, 50, 51, 52] rfl (by decide +kernel)
set_option maxRecDepth 20000 in
theorem gX11_takesSpeed_X11_takes : GoodIn wsX11_takesSpeed (wsV RX11 241 RX11 yX11_takes wsX11_takes) := goodIn_app (goodIn_of _ (by decide +kernel)) ggX11_takesSpeed_X11_takes
set_option maxRecDepth 20000 in
theorem ggX11_takesStart_X11_goBehind : GoodIn wsX11_takesStart wsX11_goBehind := goodIn_r _ [9, 10, 11, 12, 13, 14, 8, 15, 16, 17, 1, 2, 18, 19, 20, 21, 22, 23, 24, 25, 26, 27, 28, 29, 30, 38, 39, 40, 41, 42, 43, 44, 45, 46, 47, 48, 49, 50, 51, 52, 53, 54, 55] rfl (by decide +kernel)
set_option maxRecDepth 20000 in
theorem gX11_takesStart_X11_goBehind : GoodIn wsX11_takesStart (wsV RX11 238 RX11 yX11_goBehind wsX11_goBehind) := goodIn_app (goodIn_of _ (by decide +kernel)) ggX11_takesStart_X11_goBehind
set_option maxRecDepth 20000 in
theorem ggX11_takesStart_X11_in : GoodIn wsX11_takesStart wsX11_in := goodIn_r _ [25] rfl (by decide +kernel)
set_option maxRecDepth 20000 in
theorem gX11_takesStart_X11_in : GoodIn wsX11_takesStart (va_wsS RX11 56 yX11_in wsX11_in) := goodIn_app (goodIn_of _ (by decide +kernel)) ggX11_takesStart_X11_in
set_option maxRecDepth 20000 in
theorem ggX11_takesStart_X11_isHome : GoodIn wsX11_takesStart wsX11_isHome := goodIn_r _ [33] rfl (by decide +kernel)
set_option maxRecDepth 20000 in
theorem gX11_takesStart_X11_isHome : GoodIn wsX11_takesStart (va_wsS RX11 101 yX11_isHome wsX11_isHome) := goodIn_app (goodIn_of _ (by decide +kernel)) ggX11_takesStart_X11_isHome
set_option maxRecDepth 20000 in
theorem ggX11_takesStart_X11_takes : GoodIn wsX11_takesStart wsX11_takes := goodIn_r _ [37, 1, 2, 4, 23, 24, 8, 25, 5, 6, 7, 9, 10, 11, 12, 13, 14, 15, 16, 17, 18, 19, 20, 21, 22, 26, 27, 28, 29, 30, 38, 39, 40, 41, 42, 43, 44, 45, 46, 47, 48, 49, 50, 51, 52, 53, 54, 55] rfl (by decide +kernel)
set_option maxRecDepth 20000 in
theorem gX11_takesStart_X11_takes : GoodIn wsX11_takesStart (wsV RX11 241 RX11 yX11_takes wsX11_takes) := goodIn_app (goodIn_of _ (by decide +kernel)) ggX11_takesStart_X11_takes
theorem dX11_kindsOfEgg_0 : decode cX11_kindsOfEgg 0 = .ok (.iconst 0, 1) := by decide +kernel
theorem dX11_kindsOfEgg_1 : decode cX11_kindsOfEgg 1 = .ok (.istore_n 2, 1) := by decide +kernel
theorem dX11_kindsOfEgg_10 : decode cX11_kindsOfEgg 10 = .ok (.iconst 1, 1) := by decide +kernel
theorem dX11_kindsOfEgg_102 : decode cX11_kindsOfEgg 102 = .ok (.iconst 0, 1) := by decide +kernel
theorem dX11_kindsOfEgg_103 : decode cX11_kindsOfEgg 103 = .ok (.ior, 1) := by decide +kernel
theorem dX11_kindsOfEgg_104 : decode cX11_kindsOfEgg 104 = .ok (.istore_n 2, 1) := by decide +kernel
theorem dX11_kindsOfEgg_105 : decode cX11_kindsOfEgg 105 = .ok (.iinc 3 1, 3) := by decide +kernel
theorem dX11_kindsOfEgg_108 : decode cX11_kindsOfEgg 108 = .ok (.goto (-104), 3) := by decide +kernel
theorem dX11_kindsOfEgg_11 : decode cX11_kindsOfEgg 11 = .ok (.istore 4, 2) := by decide +kernel
theorem dX11_kindsOfEgg_111 : decode cX11_kindsOfEgg 111 = .ok (.iload_n 2, 1) := by decide +kernel
theorem dX11_kindsOfEgg_112 : decode cX11_kindsOfEgg 112 = .ok (.ireturn, 1) := by decide +kernel
theorem dX11_kindsOfEgg_13 : decode cX11_kindsOfEgg 13 = .ok (.iconst 0, 1) := by decide +kernel
theorem dX11_kindsOfEgg_14 : decode cX11_kindsOfEgg 14 = .ok (.istore 5, 2) := by decide +kernel
theorem dX11_kindsOfEgg_16 : decode cX11_kindsOfEgg 16 = .ok (.iload 5, 2) := by decide +kernel
theorem dX11_kindsOfEgg_18 : decode cX11_kindsOfEgg 18 = .ok (.aload_n 0, 1) := by decide +kernel
theorem dX11_kindsOfEgg_19 : decode cX11_kindsOfEgg 19 = .ok (.getfield 7, 3) := by decide +kernel
theorem dX11_kindsOfEgg_2 : decode cX11_kindsOfEgg 2 = .ok (.iconst 0, 1) := by decide +kernel
theorem dX11_kindsOfEgg_22 : decode cX11_kindsOfEgg 22 = .ok (.iconst 3, 1) := by decide +kernel
theorem dX11_kindsOfEgg_23 : decode cX11_kindsOfEgg 23 = .ok (.iaload, 1) := by decide +kernel
theorem dX11_kindsOfEgg_24 : decode cX11_kindsOfEgg 24 = .ok (.if_icmp .ge 66, 3) := by decide +kernel
theorem dX11_kindsOfEgg_27 : decode cX11_kindsOfEgg 27 = .ok (.bipush 105, 2) := by decide +kernel
theorem dX11_kindsOfEgg_29 : decode cX11_kindsOfEgg 29 = .ok (.iconst 3, 1) := by decide +kernel
theorem dX11_kindsOfEgg_3 : decode cX11_kindsOfEgg 3 = .ok (.istore_n 3, 1) := by decide +kernel
theorem dX11_kindsOfEgg_30 : decode cX11_kindsOfEgg 30 = .ok (.iload 5, 2) := by decide +kernel
theorem dX11_kindsOfEgg_32 : decode cX11_kindsOfEgg 32 = .ok (.imul, 1) := by decide +kernel
theorem dX11_kindsOfEgg_33 : decode cX11_kindsOfEgg 33 = .ok (.iadd, 1) := by decide +kernel
theorem dX11_kindsOfEgg_34 : decode cX11_kindsOfEgg 34 = .ok (.istore 6, 2) := by decide +kernel
theorem dX11_kindsOfEgg_36 : decode cX11_kindsOfEgg 36 = .ok (.iload 4, 2) := by decide +kernel
theorem dX11_kindsOfEgg_38 : decode cX11_kindsOfEgg 38 = .ok (.ifCond .eq 43, 3) := by decide +kernel
theorem dX11_kindsOfEgg_4 : decode cX11_kindsOfEgg 4 = .ok (.iload_n 3, 1) := by decide +kernel
theorem dX11_kindsOfEgg_41 : decode cX11_kindsOfEgg 41 = .ok (.aload_n 0, 1) := by decide +kernel
theorem dX11_kindsOfEgg_42 : decode cX11_kindsOfEgg 42 = .ok (.getfield 7, 3) := by decide +kernel
theorem dX11_kindsOfEgg_45 : decode cX11_kindsOfEgg 45 = .ok (.iload 6, 2) := by decide +kernel
theorem dX11_kindsOfEgg_47 : decode cX11_kindsOfEgg 47 = .ok (.iaload, 1) := by decide +kernel
theorem dX11_kindsOfEgg_48 : decode cX11_kindsOfEgg 48 = .ok (.iload_n 1, 1) := by decide +kernel
theorem dX11_kindsOfEgg_49 : decode cX11_kindsOfEgg 49 = .ok (.if_icmp .ne 28, 3) := by decide +kernel
theorem dX11_kindsOfEgg_5 : decode cX11_kindsOfEgg 5 = .ok (.bipush 6, 2) := by decide +kernel
theorem dX11_kindsOfEgg_52 : decode cX11_kindsOfEgg 52 = .ok (.iload_n 3, 1) := by decide +kernel
theorem dX11_kindsOfEgg_53 : decode cX11_kindsOfEgg 53 = .ok (.aload_n 0, 1) := by decide +kernel
theorem dX11_kindsOfEgg_54 : decode cX11_kindsOfEgg 54 = .ok (.getfield 7, 3) := by decide +kernel
theorem dX11_kindsOfEgg_57 : decode cX11_kindsOfEgg 57 = .ok (.iload 6, 2) := by decide +kernel
theorem dX11_kindsOfEgg_59 : decode cX11_kindsOfEgg 59 = .ok (.iconst 1, 1) := by decide +kernel
theorem dX11_kindsOfEgg_60 : decode cX11_kindsOfEgg 60 = .ok (.iadd, 1) := by decide +kernel
theorem dX11_kindsOfEgg_61 : decode cX11_kindsOfEgg 61 = .ok (.iaload, 1) := by decide +kernel
theorem dX11_kindsOfEgg_62 : decode cX11_kindsOfEgg 62 = .ok (.invokestatic 94, 3) := by decide +kernel
theorem dX11_kindsOfEgg_65 : decode cX11_kindsOfEgg 65 = .ok (.aload_n 0, 1) := by decide +kernel
theorem dX11_kindsOfEgg_66 : decode cX11_kindsOfEgg 66 = .ok (.getfield 7, 3) := by decide +kernel
theorem dX11_kindsOfEgg_69 : decode cX11_kindsOfEgg 69 = .ok (.iload 6, 2) := by decide +kernel
theorem dX11_kindsOfEgg_7 : decode cX11_kindsOfEgg 7 = .ok (.if_icmp .ge 104, 3) := by decide +kernel
theorem dX11_kindsOfEgg_71 : decode cX11_kindsOfEgg 71 = .ok (.iconst 2, 1) := by decide +kernel
theorem dX11_kindsOfEgg_72 : decode cX11_kindsOfEgg 72 = .ok (.iadd, 1) := by decide +kernel
theorem dX11_kindsOfEgg_73 : decode cX11_kindsOfEgg 73 = .ok (.iaload, 1) := by decide +kernel
theorem dX11_kindsOfEgg_74 : decode cX11_kindsOfEgg 74 = .ok (.if_icmp .ne 7, 3) := by decide +kernel
theorem dX11_kindsOfEgg_77 : decode cX11_kindsOfEgg 77 = .ok (.iconst 1, 1) := by decide +kernel
theorem dX11_kindsOfEgg_78 : decode cX11_kindsOfEgg 78 = .ok (.goto 4, 3) := by decide +kernel
theorem dX11_kindsOfEgg_81 : decode cX11_kindsOfEgg 81 = .ok (.iconst 0, 1) := by decide +kernel
theorem dX11_kindsOfEgg_82 : decode cX11_kindsOfEgg 82 = .ok (.istore 4, 2) := by decide +kernel
theorem dX11_kindsOfEgg_84 : decode cX11_kindsOfEgg 84 = .ok (.iinc 5 1, 3) := by decide +kernel
theorem dX11_kindsOfEgg_87 : decode cX11_kindsOfEgg 87 = .ok (.goto (-71), 3) := by decide +kernel
theorem dX11_kindsOfEgg_90 : decode cX11_kindsOfEgg 90 = .ok (.iload_n 2, 1) := by decide +kernel
theorem dX11_kindsOfEgg_91 : decode cX11_kindsOfEgg 91 = .ok (.iload 4, 2) := by decide +kernel
theorem dX11_kindsOfEgg_93 : decode cX11_kindsOfEgg 93 = .ok (.ifCond .eq 9, 3) := by decide +kernel
theorem dX11_kindsOfEgg_96 : decode cX11_kindsOfEgg 96 = .ok (.iconst 1, 1) := by decide +kernel
theorem dX11_kindsOfEgg_97 : decode cX11_kindsOfEgg 97 = .ok (.iload_n 3, 1) := by decide +kernel
theorem dX11_kindsOfEgg_98 : decode cX11_kindsOfEgg 98 = .ok (.ishl, 1) := by decide +kernel
theorem dX11_kindsOfEgg_99 : decode cX11_kindsOfEgg 99 = .ok (.goto 4, 3) := by decide +kernel
theorem dX11_kindsOfOne_0 : decode cX11_kindsOfOne 0 = .ok (.iconst 0, 1) := by decide +kernel
theorem dX11_kindsOfOne_1 : decode cX11_kindsOfOne 1 = .ok (.istore_n 2, 1) := by decide +kernel
theorem dX11_kindsOfOne_10 : decode cX11_kindsOfOne 10 = .ok (.iconst 1, 1) := by decide +kernel
theorem dX11_kindsOfOne_100 : decode cX11_kindsOfOne 100 = .ok (.istore 4, 2) := by decide +kernel
theorem dX11_kindsOfOne_102 : decode cX11_kindsOfOne 102 = .ok (.iinc 5 1, 3) := by decide +kernel
theorem dX11_kindsOfOne_105 : decode cX11_kindsOfOne 105 = .ok (.goto (-89), 3) := by decide +kernel
theorem dX11_kindsOfOne_108 : decode cX11_kindsOfOne 108 = .ok (.iload_n 2, 1) := by decide +kernel
theorem dX11_kindsOfOne_109 : decode cX11_kindsOfOne 109 = .ok (.iload 4, 2) := by decide +kernel
theorem dX11_kindsOfOne_11 : decode cX11_kindsOfOne 11 = .ok (.istore 4, 2) := by decide +kernel
theorem dX11_kindsOfOne_111 : decode cX11_kindsOfOne 111 = .ok (.ifCond .eq 9, 3) := by decide +kernel
theorem dX11_kindsOfOne_114 : decode cX11_kindsOfOne 114 = .ok (.iconst 1, 1) := by decide +kernel
theorem dX11_kindsOfOne_115 : decode cX11_kindsOfOne 115 = .ok (.iload_n 3, 1) := by decide +kernel
theorem dX11_kindsOfOne_116 : decode cX11_kindsOfOne 116 = .ok (.ishl, 1) := by decide +kernel
theorem dX11_kindsOfOne_117 : decode cX11_kindsOfOne 117 = .ok (.goto 4, 3) := by decide +kernel
theorem dX11_kindsOfOne_120 : decode cX11_kindsOfOne 120 = .ok (.iconst 0, 1) := by decide +kernel
theorem dX11_kindsOfOne_121 : decode cX11_kindsOfOne 121 = .ok (.ior, 1) := by decide +kernel
theorem dX11_kindsOfOne_122 : decode cX11_kindsOfOne 122 = .ok (.istore_n 2, 1) := by decide +kernel
theorem dX11_kindsOfOne_123 : decode cX11_kindsOfOne 123 = .ok (.iinc 3 1, 3) := by decide +kernel
theorem dX11_kindsOfOne_126 : decode cX11_kindsOfOne 126 = .ok (.goto (-122), 3) := by decide +kernel
theorem dX11_kindsOfOne_129 : decode cX11_kindsOfOne 129 = .ok (.iload_n 2, 1) := by decide +kernel
theorem dX11_kindsOfOne_13 : decode cX11_kindsOfOne 13 = .ok (.iconst 0, 1) := by decide +kernel
theorem dX11_kindsOfOne_130 : decode cX11_kindsOfOne 130 = .ok (.ireturn, 1) := by decide +kernel
theorem dX11_kindsOfOne_14 : decode cX11_kindsOfOne 14 = .ok (.istore 5, 2) := by decide +kernel
theorem dX11_kindsOfOne_16 : decode cX11_kindsOfOne 16 = .ok (.iload 5, 2) := by decide +kernel
theorem dX11_kindsOfOne_18 : decode cX11_kindsOfOne 18 = .ok (.aload_n 0, 1) := by decide +kernel
theorem dX11_kindsOfOne_19 : decode cX11_kindsOfOne 19 = .ok (.getfield 7, 3) := by decide +kernel
theorem dX11_kindsOfOne_2 : decode cX11_kindsOfOne 2 = .ok (.iconst 0, 1) := by decide +kernel
theorem dX11_kindsOfOne_22 : decode cX11_kindsOfOne 22 = .ok (.iconst 2, 1) := by decide +kernel
theorem dX11_kindsOfOne_23 : decode cX11_kindsOfOne 23 = .ok (.iaload, 1) := by decide +kernel
theorem dX11_kindsOfOne_24 : decode cX11_kindsOfOne 24 = .ok (.if_icmp .ge 84, 3) := by decide +kernel
theorem dX11_kindsOfOne_27 : decode cX11_kindsOfOne 27 = .ok (.bipush 75, 2) := by decide +kernel
theorem dX11_kindsOfOne_29 : decode cX11_kindsOfOne 29 = .ok (.iconst 5, 1) := by decide +kernel
theorem dX11_kindsOfOne_3 : decode cX11_kindsOfOne 3 = .ok (.istore_n 3, 1) := by decide +kernel
theorem dX11_kindsOfOne_30 : decode cX11_kindsOfOne 30 = .ok (.iload 5, 2) := by decide +kernel
theorem dX11_kindsOfOne_32 : decode cX11_kindsOfOne 32 = .ok (.imul, 1) := by decide +kernel
theorem dX11_kindsOfOne_33 : decode cX11_kindsOfOne 33 = .ok (.iadd, 1) := by decide +kernel
theorem dX11_kindsOfOne_34 : decode cX11_kindsOfOne 34 = .ok (.istore 6, 2) := by decide +kernel
theorem dX11_kindsOfOne_36 : decode cX11_kindsOfOne 36 = .ok (.iload 4, 2) := by decide +kernel
theorem dX11_kindsOfOne_38 : decode cX11_kindsOfOne 38 = .ok (.ifCond .eq 61, 3) := by decide +kernel
theorem dX11_kindsOfOne_4 : decode cX11_kindsOfOne 4 = .ok (.iload_n 3, 1) := by decide +kernel
theorem dX11_kindsOfOne_41 : decode cX11_kindsOfOne 41 = .ok (.aload_n 0, 1) := by decide +kernel
theorem dX11_kindsOfOne_42 : decode cX11_kindsOfOne 42 = .ok (.getfield 7, 3) := by decide +kernel
theorem dX11_kindsOfOne_45 : decode cX11_kindsOfOne 45 = .ok (.iload 6, 2) := by decide +kernel
theorem dX11_kindsOfOne_47 : decode cX11_kindsOfOne 47 = .ok (.iaload, 1) := by decide +kernel
theorem dX11_kindsOfOne_48 : decode cX11_kindsOfOne 48 = .ok (.iload_n 1, 1) := by decide +kernel
theorem dX11_kindsOfOne_49 : decode cX11_kindsOfOne 49 = .ok (.if_icmp .ne 46, 3) := by decide +kernel
theorem dX11_kindsOfOne_5 : decode cX11_kindsOfOne 5 = .ok (.bipush 6, 2) := by decide +kernel
theorem dX11_kindsOfOne_52 : decode cX11_kindsOfOne 52 = .ok (.iload_n 3, 1) := by decide +kernel
theorem dX11_kindsOfOne_53 : decode cX11_kindsOfOne 53 = .ok (.aload_n 0, 1) := by decide +kernel
theorem dX11_kindsOfOne_54 : decode cX11_kindsOfOne 54 = .ok (.getfield 7, 3) := by decide +kernel
theorem dX11_kindsOfOne_57 : decode cX11_kindsOfOne 57 = .ok (.iload 6, 2) := by decide +kernel
theorem dX11_kindsOfOne_59 : decode cX11_kindsOfOne 59 = .ok (.iconst 1, 1) := by decide +kernel
theorem dX11_kindsOfOne_60 : decode cX11_kindsOfOne 60 = .ok (.iadd, 1) := by decide +kernel
theorem dX11_kindsOfOne_61 : decode cX11_kindsOfOne 61 = .ok (.iaload, 1) := by decide +kernel
theorem dX11_kindsOfOne_62 : decode cX11_kindsOfOne 62 = .ok (.aload_n 0, 1) := by decide +kernel
theorem dX11_kindsOfOne_63 : decode cX11_kindsOfOne 63 = .ok (.getfield 7, 3) := by decide +kernel
theorem dX11_kindsOfOne_66 : decode cX11_kindsOfOne 66 = .ok (.iload 6, 2) := by decide +kernel
theorem dX11_kindsOfOne_68 : decode cX11_kindsOfOne 68 = .ok (.iconst 3, 1) := by decide +kernel
theorem dX11_kindsOfOne_69 : decode cX11_kindsOfOne 69 = .ok (.iadd, 1) := by decide +kernel
theorem dX11_kindsOfOne_7 : decode cX11_kindsOfOne 7 = .ok (.if_icmp .ge 122, 3) := by decide +kernel
theorem dX11_kindsOfOne_70 : decode cX11_kindsOfOne 70 = .ok (.iaload, 1) := by decide +kernel
theorem dX11_kindsOfOne_71 : decode cX11_kindsOfOne 71 = .ok (.aload_n 0, 1) := by decide +kernel
theorem dX11_kindsOfOne_72 : decode cX11_kindsOfOne 72 = .ok (.getfield 7, 3) := by decide +kernel
theorem dX11_kindsOfOne_75 : decode cX11_kindsOfOne 75 = .ok (.iload 6, 2) := by decide +kernel
theorem dX11_kindsOfOne_77 : decode cX11_kindsOfOne 77 = .ok (.iconst 2, 1) := by decide +kernel
theorem dX11_kindsOfOne_78 : decode cX11_kindsOfOne 78 = .ok (.iadd, 1) := by decide +kernel
theorem dX11_kindsOfOne_79 : decode cX11_kindsOfOne 79 = .ok (.iaload, 1) := by decide +kernel
theorem dX11_kindsOfOne_80 : decode cX11_kindsOfOne 80 = .ok (.invokestatic 86, 3) := by decide +kernel
theorem dX11_kindsOfOne_83 : decode cX11_kindsOfOne 83 = .ok (.aload_n 0, 1) := by decide +kernel
theorem dX11_kindsOfOne_84 : decode cX11_kindsOfOne 84 = .ok (.getfield 7, 3) := by decide +kernel
theorem dX11_kindsOfOne_87 : decode cX11_kindsOfOne 87 = .ok (.iload 6, 2) := by decide +kernel
theorem dX11_kindsOfOne_89 : decode cX11_kindsOfOne 89 = .ok (.iconst 4, 1) := by decide +kernel
theorem dX11_kindsOfOne_90 : decode cX11_kindsOfOne 90 = .ok (.iadd, 1) := by decide +kernel
theorem dX11_kindsOfOne_91 : decode cX11_kindsOfOne 91 = .ok (.iaload, 1) := by decide +kernel
theorem dX11_kindsOfOne_92 : decode cX11_kindsOfOne 92 = .ok (.if_icmp .ne 7, 3) := by decide +kernel
theorem dX11_kindsOfOne_95 : decode cX11_kindsOfOne 95 = .ok (.iconst 1, 1) := by decide +kernel
theorem dX11_kindsOfOne_96 : decode cX11_kindsOfOne 96 = .ok (.goto 4, 3) := by decide +kernel
theorem dX11_kindsOfOne_99 : decode cX11_kindsOfOne 99 = .ok (.iconst 0, 1) := by decide +kernel
theorem dX11_legsOf_0 : decode cX11_legsOf 0 = .ok (.iconst 0, 1) := by decide +kernel
theorem dX11_legsOf_1 : decode cX11_legsOf 1 = .ok (.istore_n 2, 1) := by decide +kernel
theorem dX11_legsOf_10 : decode cX11_legsOf 10 = .ok (.iconst 1, 1) := by decide +kernel
theorem dX11_legsOf_100 : decode cX11_legsOf 100 = .ok (.istore 4, 2) := by decide +kernel
theorem dX11_legsOf_102 : decode cX11_legsOf 102 = .ok (.iinc 5 1, 3) := by decide +kernel
theorem dX11_legsOf_105 : decode cX11_legsOf 105 = .ok (.goto (-89), 3) := by decide +kernel
theorem dX11_legsOf_108 : decode cX11_legsOf 108 = .ok (.iload_n 2, 1) := by decide +kernel
theorem dX11_legsOf_109 : decode cX11_legsOf 109 = .ok (.iload 4, 2) := by decide +kernel
theorem dX11_legsOf_11 : decode cX11_legsOf 11 = .ok (.istore 4, 2) := by decide +kernel
theorem dX11_legsOf_111 : decode cX11_legsOf 111 = .ok (.ifCond .eq 9, 3) := by decide +kernel
theorem dX11_legsOf_114 : decode cX11_legsOf 114 = .ok (.iconst 1, 1) := by decide +kernel
theorem dX11_legsOf_115 : decode cX11_legsOf 115 = .ok (.iload_n 3, 1) := by decide +kernel
theorem dX11_legsOf_116 : decode cX11_legsOf 116 = .ok (.ishl, 1) := by decide +kernel
theorem dX11_legsOf_117 : decode cX11_legsOf 117 = .ok (.goto 4, 3) := by decide +kernel
theorem dX11_legsOf_120 : decode cX11_legsOf 120 = .ok (.iconst 0, 1) := by decide +kernel
theorem dX11_legsOf_121 : decode cX11_legsOf 121 = .ok (.ior, 1) := by decide +kernel
theorem dX11_legsOf_122 : decode cX11_legsOf 122 = .ok (.istore_n 2, 1) := by decide +kernel
theorem dX11_legsOf_123 : decode cX11_legsOf 123 = .ok (.iinc 3 1, 3) := by decide +kernel
theorem dX11_legsOf_126 : decode cX11_legsOf 126 = .ok (.goto (-122), 3) := by decide +kernel
theorem dX11_legsOf_129 : decode cX11_legsOf 129 = .ok (.iload_n 2, 1) := by decide +kernel
theorem dX11_legsOf_13 : decode cX11_legsOf 13 = .ok (.iconst 0, 1) := by decide +kernel
theorem dX11_legsOf_130 : decode cX11_legsOf 130 = .ok (.ireturn, 1) := by decide +kernel
theorem dX11_legsOf_14 : decode cX11_legsOf 14 = .ok (.istore 5, 2) := by decide +kernel
theorem dX11_legsOf_16 : decode cX11_legsOf 16 = .ok (.iload 5, 2) := by decide +kernel
theorem dX11_legsOf_18 : decode cX11_legsOf 18 = .ok (.aload_n 0, 1) := by decide +kernel
theorem dX11_legsOf_19 : decode cX11_legsOf 19 = .ok (.getfield 7, 3) := by decide +kernel
theorem dX11_legsOf_2 : decode cX11_legsOf 2 = .ok (.iconst 1, 1) := by decide +kernel
theorem dX11_legsOf_22 : decode cX11_legsOf 22 = .ok (.iconst 1, 1) := by decide +kernel
theorem dX11_legsOf_23 : decode cX11_legsOf 23 = .ok (.iaload, 1) := by decide +kernel
theorem dX11_legsOf_24 : decode cX11_legsOf 24 = .ok (.if_icmp .ge 84, 3) := by decide +kernel
theorem dX11_legsOf_27 : decode cX11_legsOf 27 = .ok (.bipush 55, 2) := by decide +kernel
theorem dX11_legsOf_29 : decode cX11_legsOf 29 = .ok (.iconst 4, 1) := by decide +kernel
theorem dX11_legsOf_3 : decode cX11_legsOf 3 = .ok (.istore_n 3, 1) := by decide +kernel
theorem dX11_legsOf_30 : decode cX11_legsOf 30 = .ok (.iload 5, 2) := by decide +kernel
theorem dX11_legsOf_32 : decode cX11_legsOf 32 = .ok (.imul, 1) := by decide +kernel
theorem dX11_legsOf_33 : decode cX11_legsOf 33 = .ok (.iadd, 1) := by decide +kernel
theorem dX11_legsOf_34 : decode cX11_legsOf 34 = .ok (.istore 6, 2) := by decide +kernel
theorem dX11_legsOf_36 : decode cX11_legsOf 36 = .ok (.iload 4, 2) := by decide +kernel
theorem dX11_legsOf_38 : decode cX11_legsOf 38 = .ok (.ifCond .eq 61, 3) := by decide +kernel
theorem dX11_legsOf_4 : decode cX11_legsOf 4 = .ok (.iload_n 3, 1) := by decide +kernel
theorem dX11_legsOf_41 : decode cX11_legsOf 41 = .ok (.aload_n 0, 1) := by decide +kernel
theorem dX11_legsOf_42 : decode cX11_legsOf 42 = .ok (.getfield 7, 3) := by decide +kernel
theorem dX11_legsOf_45 : decode cX11_legsOf 45 = .ok (.iload 6, 2) := by decide +kernel
theorem dX11_legsOf_47 : decode cX11_legsOf 47 = .ok (.iaload, 1) := by decide +kernel
theorem dX11_legsOf_48 : decode cX11_legsOf 48 = .ok (.iload_n 1, 1) := by decide +kernel
theorem dX11_legsOf_49 : decode cX11_legsOf 49 = .ok (.if_icmp .ne 46, 3) := by decide +kernel
theorem dX11_legsOf_5 : decode cX11_legsOf 5 = .ok (.bipush 10, 2) := by decide +kernel
theorem dX11_legsOf_52 : decode cX11_legsOf 52 = .ok (.aload_n 0, 1) := by decide +kernel
theorem dX11_legsOf_53 : decode cX11_legsOf 53 = .ok (.getfield 7, 3) := by decide +kernel
theorem dX11_legsOf_56 : decode cX11_legsOf 56 = .ok (.bipush 37, 2) := by decide +kernel
theorem dX11_legsOf_58 : decode cX11_legsOf 58 = .ok (.iload_n 1, 1) := by decide +kernel
theorem dX11_legsOf_59 : decode cX11_legsOf 59 = .ok (.iadd, 1) := by decide +kernel
theorem dX11_legsOf_60 : decode cX11_legsOf 60 = .ok (.iaload, 1) := by decide +kernel
theorem dX11_legsOf_61 : decode cX11_legsOf 61 = .ok (.iload_n 3, 1) := by decide +kernel
theorem dX11_legsOf_62 : decode cX11_legsOf 62 = .ok (.aload_n 0, 1) := by decide +kernel
theorem dX11_legsOf_63 : decode cX11_legsOf 63 = .ok (.getfield 7, 3) := by decide +kernel
theorem dX11_legsOf_66 : decode cX11_legsOf 66 = .ok (.iload 6, 2) := by decide +kernel
theorem dX11_legsOf_68 : decode cX11_legsOf 68 = .ok (.iconst 2, 1) := by decide +kernel
theorem dX11_legsOf_69 : decode cX11_legsOf 69 = .ok (.iadd, 1) := by decide +kernel
theorem dX11_legsOf_7 : decode cX11_legsOf 7 = .ok (.if_icmp .ge 122, 3) := by decide +kernel
theorem dX11_legsOf_70 : decode cX11_legsOf 70 = .ok (.iaload, 1) := by decide +kernel
theorem dX11_legsOf_71 : decode cX11_legsOf 71 = .ok (.aload_n 0, 1) := by decide +kernel
theorem dX11_legsOf_72 : decode cX11_legsOf 72 = .ok (.getfield 7, 3) := by decide +kernel
theorem dX11_legsOf_75 : decode cX11_legsOf 75 = .ok (.iload 6, 2) := by decide +kernel
theorem dX11_legsOf_77 : decode cX11_legsOf 77 = .ok (.iconst 1, 1) := by decide +kernel
theorem dX11_legsOf_78 : decode cX11_legsOf 78 = .ok (.iadd, 1) := by decide +kernel
theorem dX11_legsOf_79 : decode cX11_legsOf 79 = .ok (.iaload, 1) := by decide +kernel
theorem dX11_legsOf_80 : decode cX11_legsOf 80 = .ok (.invokestatic 86, 3) := by decide +kernel
theorem dX11_legsOf_83 : decode cX11_legsOf 83 = .ok (.aload_n 0, 1) := by decide +kernel
theorem dX11_legsOf_84 : decode cX11_legsOf 84 = .ok (.getfield 7, 3) := by decide +kernel
theorem dX11_legsOf_87 : decode cX11_legsOf 87 = .ok (.iload 6, 2) := by decide +kernel
theorem dX11_legsOf_89 : decode cX11_legsOf 89 = .ok (.iconst 3, 1) := by decide +kernel
theorem dX11_legsOf_90 : decode cX11_legsOf 90 = .ok (.iadd, 1) := by decide +kernel
theorem dX11_legsOf_91 : decode cX11_legsOf 91 = .ok (.iaload, 1) := by decide +kernel
theorem dX11_legsOf_92 : decode cX11_legsOf 92 = .ok (.if_icmp .ne 7, 3) := by decide +kernel
theorem dX11_legsOf_95 : decode cX11_legsOf 95 = .ok (.iconst 1, 1) := by decide +kernel
theorem dX11_legsOf_96 : decode cX11_legsOf 96 = .ok (.goto 4, 3) := by decide +kernel
theorem dX11_legsOf_99 : decode cX11_legsOf 99 = .ok (.iconst 0, 1) := by decide +kernel
theorem dX11_read_0 : decode cX11_read 0 = .ok (.aload_n 0, 1) := by decide +kernel
theorem dX11_read_1 : decode cX11_read 1 = .ok (.iconst 0, 1) := by decide +kernel
theorem dX11_read_100 : decode cX11_read 100 = .ok (.iconst 3, 1) := by decide +kernel
theorem dX11_read_101 : decode cX11_read 101 = .ok (.if_icmp .eq 11, 3) := by decide +kernel
theorem dX11_read_104 : decode cX11_read 104 = .ok (.bipush (-10), 2) := by decide +kernel
theorem dX11_read_106 : decode cX11_read 106 = .ok (.aload_n 0, 1) := by decide +kernel
theorem dX11_read_107 : decode cX11_read 107 = .ok (.getfield 217, 3) := by decide +kernel
theorem dX11_read_11 : decode cX11_read 11 = .ok (.bipush 99, 2) := by decide +kernel
theorem dX11_read_110 : decode cX11_read 110 = .ok (.isub, 1) := by decide +kernel
theorem dX11_read_111 : decode cX11_read 111 = .ok (.ireturn, 1) := by decide +kernel
theorem dX11_read_112 : decode cX11_read 112 = .ok (.aload_n 0, 1) := by decide +kernel
theorem dX11_read_113 : decode cX11_read 113 = .ok (.invokevirtual 238, 3) := by decide +kernel
theorem dX11_read_116 : decode cX11_read 116 = .ok (.iinc 1 1, 3) := by decide +kernel
theorem dX11_read_119 : decode cX11_read 119 = .ok (.goto (-37), 3) := by decide +kernel
theorem dX11_read_122 : decode cX11_read 122 = .ok (.iconst 0, 1) := by decide +kernel
theorem dX11_read_123 : decode cX11_read 123 = .ok (.istore_n 2, 1) := by decide +kernel
theorem dX11_read_124 : decode cX11_read 124 = .ok (.iload_n 2, 1) := by decide +kernel
theorem dX11_read_125 : decode cX11_read 125 = .ok (.bipush 123, 2) := by decide +kernel
theorem dX11_read_127 : decode cX11_read 127 = .ok (.if_icmp .ge 21, 3) := by decide +kernel
theorem dX11_read_13 : decode cX11_read 13 = .ok (.bipush 101, 2) := by decide +kernel
theorem dX11_read_130 : decode cX11_read 130 = .ok (.aload_n 0, 1) := by decide +kernel
theorem dX11_read_131 : decode cX11_read 131 = .ok (.getfield 7, 3) := by decide +kernel
theorem dX11_read_134 : decode cX11_read 134 = .ok (.iload_n 2, 1) := by decide +kernel
theorem dX11_read_135 : decode cX11_read 135 = .ok (.aload_n 0, 1) := by decide +kernel
theorem dX11_read_136 : decode cX11_read 136 = .ok (.getfield 42, 3) := by decide +kernel
theorem dX11_read_139 : decode cX11_read 139 = .ok (.iload_n 2, 1) := by decide +kernel
theorem dX11_read_140 : decode cX11_read 140 = .ok (.iaload, 1) := by decide +kernel
theorem dX11_read_141 : decode cX11_read 141 = .ok (.iastore, 1) := by decide +kernel
theorem dX11_read_142 : decode cX11_read 142 = .ok (.iinc 2 1, 3) := by decide +kernel
theorem dX11_read_145 : decode cX11_read 145 = .ok (.goto (-21), 3) := by decide +kernel
theorem dX11_read_148 : decode cX11_read 148 = .ok (.iload_n 1, 1) := by decide +kernel
theorem dX11_read_149 : decode cX11_read 149 = .ok (.ireturn, 1) := by decide +kernel
theorem dX11_read_15 : decode cX11_read 15 = .ok (.iconst 0, 1) := by decide +kernel
theorem dX11_read_16 : decode cX11_read 16 = .ok (.iconst 0, 1) := by decide +kernel
theorem dX11_read_17 : decode cX11_read 17 = .ok (.invokevirtual 245, 3) := by decide +kernel
theorem dX11_read_2 : decode cX11_read 2 = .ok (.invokevirtual 235, 3) := by decide +kernel
theorem dX11_read_20 : decode cX11_read 20 = .ok (.ifCond .ne 11, 3) := by decide +kernel
theorem dX11_read_23 : decode cX11_read 23 = .ok (.bipush (-10), 2) := by decide +kernel
theorem dX11_read_25 : decode cX11_read 25 = .ok (.aload_n 0, 1) := by decide +kernel
theorem dX11_read_26 : decode cX11_read 26 = .ok (.getfield 217, 3) := by decide +kernel
theorem dX11_read_29 : decode cX11_read 29 = .ok (.isub, 1) := by decide +kernel
theorem dX11_read_30 : decode cX11_read 30 = .ok (.ireturn, 1) := by decide +kernel
theorem dX11_read_31 : decode cX11_read 31 = .ok (.aload_n 0, 1) := by decide +kernel
theorem dX11_read_32 : decode cX11_read 32 = .ok (.invokevirtual 238, 3) := by decide +kernel
theorem dX11_read_35 : decode cX11_read 35 = .ok (.aload_n 0, 1) := by decide +kernel
theorem dX11_read_36 : decode cX11_read 36 = .ok (.iconst 0, 1) := by decide +kernel
theorem dX11_read_37 : decode cX11_read 37 = .ok (.bipush 10, 2) := by decide +kernel
theorem dX11_read_39 : decode cX11_read 39 = .ok (.bipush 60, 2) := by decide +kernel
theorem dX11_read_41 : decode cX11_read 41 = .ok (.invokevirtual 241, 3) := by decide +kernel
theorem dX11_read_44 : decode cX11_read 44 = .ok (.ifCond .eq 11, 3) := by decide +kernel
theorem dX11_read_47 : decode cX11_read 47 = .ok (.aload_n 0, 1) := by decide +kernel
theorem dX11_read_48 : decode cX11_read 48 = .ok (.getfield 223, 3) := by decide +kernel
theorem dX11_read_5 : decode cX11_read 5 = .ok (.aload_n 0, 1) := by decide +kernel
theorem dX11_read_51 : decode cX11_read 51 = .ok (.iconst 3, 1) := by decide +kernel
theorem dX11_read_52 : decode cX11_read 52 = .ok (.if_icmp .eq 11, 3) := by decide +kernel
theorem dX11_read_55 : decode cX11_read 55 = .ok (.bipush (-10), 2) := by decide +kernel
theorem dX11_read_57 : decode cX11_read 57 = .ok (.aload_n 0, 1) := by decide +kernel
theorem dX11_read_58 : decode cX11_read 58 = .ok (.getfield 217, 3) := by decide +kernel
theorem dX11_read_6 : decode cX11_read 6 = .ok (.iconst 4, 1) := by decide +kernel
theorem dX11_read_61 : decode cX11_read 61 = .ok (.isub, 1) := by decide +kernel
theorem dX11_read_62 : decode cX11_read 62 = .ok (.ireturn, 1) := by decide +kernel
theorem dX11_read_63 : decode cX11_read 63 = .ok (.aload_n 0, 1) := by decide +kernel
theorem dX11_read_64 : decode cX11_read 64 = .ok (.invokevirtual 238, 3) := by decide +kernel
theorem dX11_read_67 : decode cX11_read 67 = .ok (.aload_n 0, 1) := by decide +kernel
theorem dX11_read_68 : decode cX11_read 68 = .ok (.getfield 42, 3) := by decide +kernel
theorem dX11_read_7 : decode cX11_read 7 = .ok (.bipush 114, 2) := by decide +kernel
theorem dX11_read_71 : decode cX11_read 71 = .ok (.aload_n 0, 1) := by decide +kernel
theorem dX11_read_72 : decode cX11_read 72 = .ok (.getfield 45, 3) := by decide +kernel
theorem dX11_read_75 : decode cX11_read 75 = .ok (.iconst 0, 1) := by decide +kernel
theorem dX11_read_76 : decode cX11_read 76 = .ok (.iaload, 1) := by decide +kernel
theorem dX11_read_77 : decode cX11_read 77 = .ok (.invokestatic 48, 3) := by decide +kernel
theorem dX11_read_80 : decode cX11_read 80 = .ok (.iconst 1, 1) := by decide +kernel
theorem dX11_read_81 : decode cX11_read 81 = .ok (.istore_n 1, 1) := by decide +kernel
theorem dX11_read_82 : decode cX11_read 82 = .ok (.aload_n 0, 1) := by decide +kernel
theorem dX11_read_83 : decode cX11_read 83 = .ok (.getfield 223, 3) := by decide +kernel
theorem dX11_read_86 : decode cX11_read 86 = .ok (.ifCond .eq 36, 3) := by decide +kernel
theorem dX11_read_89 : decode cX11_read 89 = .ok (.aload_n 0, 1) := by decide +kernel
theorem dX11_read_9 : decode cX11_read 9 = .ok (.bipush 97, 2) := by decide +kernel
theorem dX11_read_90 : decode cX11_read 90 = .ok (.invokevirtual 262, 3) := by decide +kernel
theorem dX11_read_93 : decode cX11_read 93 = .ok (.ifCond .eq 11, 3) := by decide +kernel
theorem dX11_read_96 : decode cX11_read 96 = .ok (.aload_n 0, 1) := by decide +kernel
theorem dX11_read_97 : decode cX11_read 97 = .ok (.getfield 223, 3) := by decide +kernel
theorem dX11_takesGo_0 : decode cX11_takesGo 0 = .ok (.aload_n 0, 1) := by decide +kernel
theorem dX11_takesGo_1 : decode cX11_takesGo 1 = .ok (.invokevirtual 238, 3) := by decide +kernel
theorem dX11_takesGo_12 : decode cX11_takesGo 12 = .ok (.ifCond .ne 5, 3) := by decide +kernel
theorem dX11_takesGo_15 : decode cX11_takesGo 15 = .ok (.iconst 0, 1) := by decide +kernel
theorem dX11_takesGo_16 : decode cX11_takesGo 16 = .ok (.ireturn, 1) := by decide +kernel
theorem dX11_takesGo_17 : decode cX11_takesGo 17 = .ok (.aload_n 0, 1) := by decide +kernel
theorem dX11_takesGo_18 : decode cX11_takesGo 18 = .ok (.getfield 42, 3) := by decide +kernel
theorem dX11_takesGo_21 : decode cX11_takesGo 21 = .ok (.aload_n 0, 1) := by decide +kernel
theorem dX11_takesGo_22 : decode cX11_takesGo 22 = .ok (.getfield 45, 3) := by decide +kernel
theorem dX11_takesGo_25 : decode cX11_takesGo 25 = .ok (.iconst 0, 1) := by decide +kernel
theorem dX11_takesGo_26 : decode cX11_takesGo 26 = .ok (.iaload, 1) := by decide +kernel
theorem dX11_takesGo_27 : decode cX11_takesGo 27 = .ok (.invokestatic 116, 3) := by decide +kernel
theorem dX11_takesGo_30 : decode cX11_takesGo 30 = .ok (.iconst 1, 1) := by decide +kernel
theorem dX11_takesGo_31 : decode cX11_takesGo 31 = .ok (.ireturn, 1) := by decide +kernel
theorem dX11_takesGo_4 : decode cX11_takesGo 4 = .ok (.aload_n 0, 1) := by decide +kernel
theorem dX11_takesGo_5 : decode cX11_takesGo 5 = .ok (.iconst 0, 1) := by decide +kernel
theorem dX11_takesGo_6 : decode cX11_takesGo 6 = .ok (.iconst 1, 1) := by decide +kernel
theorem dX11_takesGo_7 : decode cX11_takesGo 7 = .ok (.bipush 99, 2) := by decide +kernel
theorem dX11_takesGo_9 : decode cX11_takesGo 9 = .ok (.invokevirtual 241, 3) := by decide +kernel
theorem dX11_takesItem_0 : decode cX11_takesItem 0 = .ok (.aload_n 0, 1) := by decide +kernel
theorem dX11_takesItem_1 : decode cX11_takesItem 1 = .ok (.iconst 3, 1) := by decide +kernel
theorem dX11_takesItem_10 : decode cX11_takesItem 10 = .ok (.iconst 0, 1) := by decide +kernel
theorem dX11_takesItem_11 : decode cX11_takesItem 11 = .ok (.invokevirtual 245, 3) := by decide +kernel
theorem dX11_takesItem_14 : decode cX11_takesItem 14 = .ok (.ifCond .eq 8, 3) := by decide +kernel
theorem dX11_takesItem_17 : decode cX11_takesItem 17 = .ok (.aload_n 0, 1) := by decide +kernel
theorem dX11_takesItem_18 : decode cX11_takesItem 18 = .ok (.invokevirtual 249, 3) := by decide +kernel
theorem dX11_takesItem_2 : decode cX11_takesItem 2 = .ok (.bipush 111, 2) := by decide +kernel
theorem dX11_takesItem_21 : decode cX11_takesItem 21 = .ok (.ireturn, 1) := by decide +kernel
theorem dX11_takesItem_22 : decode cX11_takesItem 22 = .ok (.aload_n 0, 1) := by decide +kernel
theorem dX11_takesItem_23 : decode cX11_takesItem 23 = .ok (.iconst 5, 1) := by decide +kernel
theorem dX11_takesItem_24 : decode cX11_takesItem 24 = .ok (.bipush 115, 2) := by decide +kernel
theorem dX11_takesItem_26 : decode cX11_takesItem 26 = .ok (.bipush 112, 2) := by decide +kernel
theorem dX11_takesItem_28 : decode cX11_takesItem 28 = .ok (.bipush 101, 2) := by decide +kernel
theorem dX11_takesItem_30 : decode cX11_takesItem 30 = .ok (.bipush 101, 2) := by decide +kernel
theorem dX11_takesItem_32 : decode cX11_takesItem 32 = .ok (.bipush 100, 2) := by decide +kernel
theorem dX11_takesItem_34 : decode cX11_takesItem 34 = .ok (.iconst 0, 1) := by decide +kernel
theorem dX11_takesItem_35 : decode cX11_takesItem 35 = .ok (.invokevirtual 245, 3) := by decide +kernel
theorem dX11_takesItem_38 : decode cX11_takesItem 38 = .ok (.ifCond .eq 8, 3) := by decide +kernel
theorem dX11_takesItem_4 : decode cX11_takesItem 4 = .ok (.bipush 110, 2) := by decide +kernel
theorem dX11_takesItem_41 : decode cX11_takesItem 41 = .ok (.aload_n 0, 1) := by decide +kernel
theorem dX11_takesItem_42 : decode cX11_takesItem 42 = .ok (.invokevirtual 253, 3) := by decide +kernel
theorem dX11_takesItem_45 : decode cX11_takesItem 45 = .ok (.ireturn, 1) := by decide +kernel
theorem dX11_takesItem_46 : decode cX11_takesItem 46 = .ok (.aload_n 0, 1) := by decide +kernel
theorem dX11_takesItem_47 : decode cX11_takesItem 47 = .ok (.iconst 5, 1) := by decide +kernel
theorem dX11_takesItem_48 : decode cX11_takesItem 48 = .ok (.bipush 115, 2) := by decide +kernel
theorem dX11_takesItem_50 : decode cX11_takesItem 50 = .ok (.bipush 116, 2) := by decide +kernel
theorem dX11_takesItem_52 : decode cX11_takesItem 52 = .ok (.bipush 97, 2) := by decide +kernel
theorem dX11_takesItem_54 : decode cX11_takesItem 54 = .ok (.bipush 114, 2) := by decide +kernel
theorem dX11_takesItem_56 : decode cX11_takesItem 56 = .ok (.bipush 116, 2) := by decide +kernel
theorem dX11_takesItem_58 : decode cX11_takesItem 58 = .ok (.iconst 0, 1) := by decide +kernel
theorem dX11_takesItem_59 : decode cX11_takesItem 59 = .ok (.invokevirtual 245, 3) := by decide +kernel
theorem dX11_takesItem_6 : decode cX11_takesItem 6 = .ok (.bipush 101, 2) := by decide +kernel
theorem dX11_takesItem_62 : decode cX11_takesItem 62 = .ok (.ifCond .eq 8, 3) := by decide +kernel
theorem dX11_takesItem_65 : decode cX11_takesItem 65 = .ok (.aload_n 0, 1) := by decide +kernel
theorem dX11_takesItem_66 : decode cX11_takesItem 66 = .ok (.invokevirtual 256, 3) := by decide +kernel
theorem dX11_takesItem_69 : decode cX11_takesItem 69 = .ok (.ireturn, 1) := by decide +kernel
theorem dX11_takesItem_70 : decode cX11_takesItem 70 = .ok (.aload_n 0, 1) := by decide +kernel
theorem dX11_takesItem_71 : decode cX11_takesItem 71 = .ok (.iconst 2, 1) := by decide +kernel
theorem dX11_takesItem_72 : decode cX11_takesItem 72 = .ok (.bipush 103, 2) := by decide +kernel
theorem dX11_takesItem_74 : decode cX11_takesItem 74 = .ok (.bipush 111, 2) := by decide +kernel
theorem dX11_takesItem_76 : decode cX11_takesItem 76 = .ok (.iconst 0, 1) := by decide +kernel
theorem dX11_takesItem_77 : decode cX11_takesItem 77 = .ok (.iconst 0, 1) := by decide +kernel
theorem dX11_takesItem_78 : decode cX11_takesItem 78 = .ok (.iconst 0, 1) := by decide +kernel
theorem dX11_takesItem_79 : decode cX11_takesItem 79 = .ok (.iconst 0, 1) := by decide +kernel
theorem dX11_takesItem_8 : decode cX11_takesItem 8 = .ok (.iconst 0, 1) := by decide +kernel
theorem dX11_takesItem_80 : decode cX11_takesItem 80 = .ok (.invokevirtual 245, 3) := by decide +kernel
theorem dX11_takesItem_83 : decode cX11_takesItem 83 = .ok (.ifCond .eq 14, 3) := by decide +kernel
theorem dX11_takesItem_86 : decode cX11_takesItem 86 = .ok (.aload_n 0, 1) := by decide +kernel
theorem dX11_takesItem_87 : decode cX11_takesItem 87 = .ok (.invokevirtual 259, 3) := by decide +kernel
theorem dX11_takesItem_9 : decode cX11_takesItem 9 = .ok (.iconst 0, 1) := by decide +kernel
theorem dX11_takesItem_90 : decode cX11_takesItem 90 = .ok (.ifCond .eq 7, 3) := by decide +kernel
theorem dX11_takesItem_93 : decode cX11_takesItem 93 = .ok (.iconst 1, 1) := by decide +kernel
theorem dX11_takesItem_94 : decode cX11_takesItem 94 = .ok (.goto 4, 3) := by decide +kernel
theorem dX11_takesItem_97 : decode cX11_takesItem 97 = .ok (.iconst 0, 1) := by decide +kernel
theorem dX11_takesItem_98 : decode cX11_takesItem 98 = .ok (.ireturn, 1) := by decide +kernel
theorem dX11_takesSpeed_0 : decode cX11_takesSpeed 0 = .ok (.aload_n 0, 1) := by decide +kernel
theorem dX11_takesSpeed_1 : decode cX11_takesSpeed 1 = .ok (.invokevirtual 238, 3) := by decide +kernel
theorem dX11_takesSpeed_11 : decode cX11_takesSpeed 11 = .ok (.iconst 0, 1) := by decide +kernel
theorem dX11_takesSpeed_12 : decode cX11_takesSpeed 12 = .ok (.iaload, 1) := by decide +kernel
theorem dX11_takesSpeed_13 : decode cX11_takesSpeed 13 = .ok (.iconst 1, 1) := by decide +kernel
theorem dX11_takesSpeed_14 : decode cX11_takesSpeed 14 = .ok (.isub, 1) := by decide +kernel
theorem dX11_takesSpeed_15 : decode cX11_takesSpeed 15 = .ok (.invokevirtual 241, 3) := by decide +kernel
theorem dX11_takesSpeed_18 : decode cX11_takesSpeed 18 = .ok (.ifCond .eq 14, 3) := by decide +kernel
theorem dX11_takesSpeed_21 : decode cX11_takesSpeed 21 = .ok (.aload_n 0, 1) := by decide +kernel
theorem dX11_takesSpeed_22 : decode cX11_takesSpeed 22 = .ok (.iconst 1, 1) := by decide +kernel
theorem dX11_takesSpeed_23 : decode cX11_takesSpeed 23 = .ok (.iconst 0, 1) := by decide +kernel
theorem dX11_takesSpeed_24 : decode cX11_takesSpeed 24 = .ok (.bipush 9, 2) := by decide +kernel
theorem dX11_takesSpeed_26 : decode cX11_takesSpeed 26 = .ok (.invokevirtual 241, 3) := by decide +kernel
theorem dX11_takesSpeed_29 : decode cX11_takesSpeed 29 = .ok (.ifCond .ne 5, 3) := by decide +kernel
theorem dX11_takesSpeed_32 : decode cX11_takesSpeed 32 = .ok (.iconst 0, 1) := by decide +kernel
theorem dX11_takesSpeed_33 : decode cX11_takesSpeed 33 = .ok (.ireturn, 1) := by decide +kernel
theorem dX11_takesSpeed_34 : decode cX11_takesSpeed 34 = .ok (.aload_n 0, 1) := by decide +kernel
theorem dX11_takesSpeed_35 : decode cX11_takesSpeed 35 = .ok (.getfield 42, 3) := by decide +kernel
theorem dX11_takesSpeed_38 : decode cX11_takesSpeed 38 = .ok (.bipush 11, 2) := by decide +kernel
theorem dX11_takesSpeed_4 : decode cX11_takesSpeed 4 = .ok (.aload_n 0, 1) := by decide +kernel
theorem dX11_takesSpeed_40 : decode cX11_takesSpeed 40 = .ok (.aload_n 0, 1) := by decide +kernel
theorem dX11_takesSpeed_41 : decode cX11_takesSpeed 41 = .ok (.getfield 45, 3) := by decide +kernel
theorem dX11_takesSpeed_44 : decode cX11_takesSpeed 44 = .ok (.iconst 0, 1) := by decide +kernel
theorem dX11_takesSpeed_45 : decode cX11_takesSpeed 45 = .ok (.iaload, 1) := by decide +kernel
theorem dX11_takesSpeed_46 : decode cX11_takesSpeed 46 = .ok (.iadd, 1) := by decide +kernel
theorem dX11_takesSpeed_47 : decode cX11_takesSpeed 47 = .ok (.aload_n 0, 1) := by decide +kernel
theorem dX11_takesSpeed_48 : decode cX11_takesSpeed 48 = .ok (.getfield 45, 3) := by decide +kernel
theorem dX11_takesSpeed_5 : decode cX11_takesSpeed 5 = .ok (.iconst 0, 1) := by decide +kernel
theorem dX11_takesSpeed_51 : decode cX11_takesSpeed 51 = .ok (.iconst 1, 1) := by decide +kernel
theorem dX11_takesSpeed_52 : decode cX11_takesSpeed 52 = .ok (.iaload, 1) := by decide +kernel
theorem dX11_takesSpeed_53 : decode cX11_takesSpeed 53 = .ok (.iastore, 1) := by decide +kernel
theorem dX11_takesSpeed_54 : decode cX11_takesSpeed 54 = .ok (.iconst 1, 1) := by decide +kernel
theorem dX11_takesSpeed_55 : decode cX11_takesSpeed 55 = .ok (.ireturn, 1) := by decide +kernel
theorem dX11_takesSpeed_6 : decode cX11_takesSpeed 6 = .ok (.iconst 0, 1) := by decide +kernel
theorem dX11_takesSpeed_7 : decode cX11_takesSpeed 7 = .ok (.aload_n 0, 1) := by decide +kernel
theorem dX11_takesSpeed_8 : decode cX11_takesSpeed 8 = .ok (.getfield 42, 3) := by decide +kernel
theorem dX11_takesStart_0 : decode cX11_takesStart 0 = .ok (.aload_n 0, 1) := by decide +kernel
theorem dX11_takesStart_1 : decode cX11_takesStart 1 = .ok (.invokevirtual 238, 3) := by decide +kernel
theorem dX11_takesStart_102 : decode cX11_takesStart 102 = .ok (.iconst 5, 1) := by decide +kernel
theorem dX11_takesStart_103 : decode cX11_takesStart 103 = .ok (.aload_n 0, 1) := by decide +kernel
theorem dX11_takesStart_104 : decode cX11_takesStart 104 = .ok (.getfield 45, 3) := by decide +kernel
theorem dX11_takesStart_107 : decode cX11_takesStart 107 = .ok (.iconst 0, 1) := by decide +kernel
theorem dX11_takesStart_108 : decode cX11_takesStart 108 = .ok (.iaload, 1) := by decide +kernel
theorem dX11_takesStart_109 : decode cX11_takesStart 109 = .ok (.iadd, 1) := by decide +kernel
theorem dX11_takesStart_110 : decode cX11_takesStart 110 = .ok (.aload_n 0, 1) := by decide +kernel
theorem dX11_takesStart_111 : decode cX11_takesStart 111 = .ok (.getfield 45, 3) := by decide +kernel
theorem dX11_takesStart_114 : decode cX11_takesStart 114 = .ok (.iconst 1, 1) := by decide +kernel
theorem dX11_takesStart_115 : decode cX11_takesStart 115 = .ok (.iaload, 1) := by decide +kernel
theorem dX11_takesStart_116 : decode cX11_takesStart 116 = .ok (.iastore, 1) := by decide +kernel
theorem dX11_takesStart_117 : decode cX11_takesStart 117 = .ok (.iconst 1, 1) := by decide +kernel
theorem dX11_takesStart_118 : decode cX11_takesStart 118 = .ok (.ireturn, 1) := by decide +kernel
theorem dX11_takesStart_12 : decode cX11_takesStart 12 = .ok (.aload_n 0, 1) := by decide +kernel
theorem dX11_takesStart_13 : decode cX11_takesStart 13 = .ok (.getfield 226, 3) := by decide +kernel
theorem dX11_takesStart_16 : decode cX11_takesStart 16 = .ok (.i2l, 1) := by decide +kernel
theorem dX11_takesStart_17 : decode cX11_takesStart 17 = .ok (.lconst 0, 1) := by decide +kernel
theorem dX11_takesStart_18 : decode cX11_takesStart 18 = .ok (.aload_n 0, 1) := by decide +kernel
theorem dX11_takesStart_19 : decode cX11_takesStart 19 = .ok (.getfield 42, 3) := by decide +kernel
theorem dX11_takesStart_22 : decode cX11_takesStart 22 = .ok (.iconst 0, 1) := by decide +kernel
theorem dX11_takesStart_23 : decode cX11_takesStart 23 = .ok (.iaload, 1) := by decide +kernel
theorem dX11_takesStart_24 : decode cX11_takesStart 24 = .ok (.iconst 1, 1) := by decide +kernel
theorem dX11_takesStart_25 : decode cX11_takesStart 25 = .ok (.isub, 1) := by decide +kernel
theorem dX11_takesStart_26 : decode cX11_takesStart 26 = .ok (.i2l, 1) := by decide +kernel
theorem dX11_takesStart_27 : decode cX11_takesStart 27 = .ok (.invokestatic 56, 3) := by decide +kernel
theorem dX11_takesStart_30 : decode cX11_takesStart 30 = .ok (.ifCond .eq 27, 3) := by decide +kernel
theorem dX11_takesStart_33 : decode cX11_takesStart 33 = .ok (.aload_n 0, 1) := by decide +kernel
theorem dX11_takesStart_34 : decode cX11_takesStart 34 = .ok (.getfield 42, 3) := by decide +kernel
theorem dX11_takesStart_37 : decode cX11_takesStart 37 = .ok (.aload_n 0, 1) := by decide +kernel
theorem dX11_takesStart_38 : decode cX11_takesStart 38 = .ok (.getfield 226, 3) := by decide +kernel
theorem dX11_takesStart_4 : decode cX11_takesStart 4 = .ok (.aload_n 0, 1) := by decide +kernel
theorem dX11_takesStart_41 : decode cX11_takesStart 41 = .ok (.invokestatic 101, 3) := by decide +kernel
theorem dX11_takesStart_44 : decode cX11_takesStart 44 = .ok (.ifCond .ne 13, 3) := by decide +kernel
theorem dX11_takesStart_47 : decode cX11_takesStart 47 = .ok (.aload_n 0, 1) := by decide +kernel
theorem dX11_takesStart_48 : decode cX11_takesStart 48 = .ok (.iconst 0, 1) := by decide +kernel
theorem dX11_takesStart_49 : decode cX11_takesStart 49 = .ok (.iconst 0, 1) := by decide +kernel
theorem dX11_takesStart_5 : decode cX11_takesStart 5 = .ok (.getfield 223, 3) := by decide +kernel
theorem dX11_takesStart_50 : decode cX11_takesStart 50 = .ok (.iconst 5, 1) := by decide +kernel
theorem dX11_takesStart_51 : decode cX11_takesStart 51 = .ok (.invokevirtual 241, 3) := by decide +kernel
theorem dX11_takesStart_54 : decode cX11_takesStart 54 = .ok (.ifCond .ne 5, 3) := by decide +kernel
theorem dX11_takesStart_57 : decode cX11_takesStart 57 = .ok (.iconst 0, 1) := by decide +kernel
theorem dX11_takesStart_58 : decode cX11_takesStart 58 = .ok (.ireturn, 1) := by decide +kernel
theorem dX11_takesStart_59 : decode cX11_takesStart 59 = .ok (.aload_n 0, 1) := by decide +kernel
theorem dX11_takesStart_60 : decode cX11_takesStart 60 = .ok (.getfield 42, 3) := by decide +kernel
theorem dX11_takesStart_63 : decode cX11_takesStart 63 = .ok (.bipush 36, 2) := by decide +kernel
theorem dX11_takesStart_65 : decode cX11_takesStart 65 = .ok (.iaload, 1) := by decide +kernel
theorem dX11_takesStart_66 : decode cX11_takesStart 66 = .ok (.bipush 30, 2) := by decide +kernel
theorem dX11_takesStart_68 : decode cX11_takesStart 68 = .ok (.if_icmp .le 8, 3) := by decide +kernel
theorem dX11_takesStart_71 : decode cX11_takesStart 71 = .ok (.bipush 30, 2) := by decide +kernel
theorem dX11_takesStart_73 : decode cX11_takesStart 73 = .ok (.goto 12, 3) := by decide +kernel
theorem dX11_takesStart_76 : decode cX11_takesStart 76 = .ok (.aload_n 0, 1) := by decide +kernel
theorem dX11_takesStart_77 : decode cX11_takesStart 77 = .ok (.getfield 42, 3) := by decide +kernel
theorem dX11_takesStart_8 : decode cX11_takesStart 8 = .ok (.iconst 2, 1) := by decide +kernel
theorem dX11_takesStart_80 : decode cX11_takesStart 80 = .ok (.bipush 36, 2) := by decide +kernel
theorem dX11_takesStart_82 : decode cX11_takesStart 82 = .ok (.iaload, 1) := by decide +kernel
theorem dX11_takesStart_83 : decode cX11_takesStart 83 = .ok (.iconst 1, 1) := by decide +kernel
theorem dX11_takesStart_84 : decode cX11_takesStart 84 = .ok (.isub, 1) := by decide +kernel
theorem dX11_takesStart_85 : decode cX11_takesStart 85 = .ok (.istore_n 1, 1) := by decide +kernel
theorem dX11_takesStart_86 : decode cX11_takesStart 86 = .ok (.aload_n 0, 1) := by decide +kernel
theorem dX11_takesStart_87 : decode cX11_takesStart 87 = .ok (.iconst 1, 1) := by decide +kernel
theorem dX11_takesStart_88 : decode cX11_takesStart 88 = .ok (.iconst 0, 1) := by decide +kernel
theorem dX11_takesStart_89 : decode cX11_takesStart 89 = .ok (.iload_n 1, 1) := by decide +kernel
theorem dX11_takesStart_9 : decode cX11_takesStart 9 = .ok (.if_icmp .ne 48, 3) := by decide +kernel
theorem dX11_takesStart_90 : decode cX11_takesStart 90 = .ok (.invokevirtual 241, 3) := by decide +kernel
theorem dX11_takesStart_93 : decode cX11_takesStart 93 = .ok (.ifCond .ne 5, 3) := by decide +kernel
theorem dX11_takesStart_96 : decode cX11_takesStart 96 = .ok (.iconst 0, 1) := by decide +kernel
theorem dX11_takesStart_97 : decode cX11_takesStart 97 = .ok (.ireturn, 1) := by decide +kernel
theorem dX11_takesStart_98 : decode cX11_takesStart 98 = .ok (.aload_n 0, 1) := by decide +kernel
theorem dX11_takesStart_99 : decode cX11_takesStart 99 = .ok (.getfield 42, 3) := by decide +kernel
set_option maxHeartbeats 4000000 in
set_option maxRecDepth 100000 in
theorem y_takesSpeed (l : Launch) (X : EX) (m0 : Nat) (ma : Nat → Nat) (la : Int64) (lb : Int64) (n : Nat) (t : Nat → Nat) (v : Nat → Int32) (fd : Nat → Int32) (fv : Nat → Int32) (fw : Nat → Int32) (w0 : Nat) (w1 : Nat) (w2 : Nat) (w3 : Nat) (w4 : Nat) (sv : Nat → Int32) (dv : Nat → Int32) (s0 : Nat) (hI_n : n ≤ 150) (hI_t : InT t) (hI_fw : InA fw w0 w1 w2 w3 w4) (hK : tkM fd n t v s0) (hR : RepM sv dv w0 fw) (sz : Nat) : Met l yX11_takesSpeed wsX11_takesSpeed ({ frames := 5, cells := 0, slots := 0, locals := 112 } : Room) (pE X [.ref m0] (@HAppend.hAppend va_W va_W va_W _ (mW m0 ma la lb n t v) (@HAppend.hAppend va_W va_W va_W _ ([((ma 10), .inl (X.2.1, 150, .inl fd))]) (@HAppend.hAppend va_W va_W va_W _ ([((ma 17), .inl (X.2.1, 3, .inl fv))]) ([((ma 16), .inl (X.2.1, 123, .inl fw))])))) sz) (qI (fun (r : Int32) (u : (Nat → Nat) × (Nat → Int32) × (Nat → Int32) × (Nat → Int32)) => InT u.1 ∧ InA u.2.2.2 w0 w1 w2 w3 w4 ∧ ((r = 1 ∧ spdC fd n s0 w0 = chk [(stpB fd n (t3 fd n s0), t3 fd n s0)] ∧ tkM fd n u.1 u.2.1 (t3 fd n s0) ∧ RepM sv (upd dv (10 + 5 * (tV fd n (tN fd n s0)).toNatClampNeg) (tV fd n (t2 fd n s0))) w0 u.2.2.2) ∨ (r = 0 ∧ ∃ p : Nat, spdC fd n s0 w0 = some p ∧ u.1 0 = p))) X (fun (u : (Nat → Nat) × (Nat → Int32) × (Nat → Int32) × (Nat → Int32)) => @HAppend.hAppend va_W va_W va_W _ (mW m0 ma la lb n u.1 u.2.1) (@HAppend.hAppend va_W va_W va_W _ ([((ma 10), .inl (X.2.1, 150, .inl fd))]) (@HAppend.hAppend va_W va_W va_W _ ([((ma 17), .inl (X.2.1, 3, .inl u.2.2.1))]) ([((ma 16), .inl (X.2.1, 123, .inl u.2.2.2))])))) (@HAppend.hAppend va_W va_W va_W _ (mW m0 ma la lb n t v) (@HAppend.hAppend va_W va_W va_W _ ([((ma 10), .inl (X.2.1, 150, .inl fd))]) (@HAppend.hAppend va_W va_W va_W _ ([((ma 17), .inl (X.2.1, 3, .inl fv))]) ([((ma 16), .inl (X.2.1, 123, .inl fw))])))) sz) 0 0 (va_A (@HAppend.hAppend va_W va_W va_W _ (mW m0 ma la lb n t v) (@HAppend.hAppend va_W va_W va_W _ ([((ma 10), .inl (X.2.1, 150, .inl fd))]) (@HAppend.hAppend va_W va_W va_W _ ([((ma 17), .inl (X.2.1, 3, .inl fv))]) ([((ma 16), .inl (X.2.1, 123, .inl fw))])))) sz) := by
  refine mk_met (B := (va_A (@HAppend.hAppend va_W va_W va_W _ (mW m0 ma la lb n t v) (@HAppend.hAppend va_W va_W va_W _ ([((ma 10), .inl (X.2.1, 150, .inl fd))]) (@HAppend.hAppend va_W va_W va_W _ ([((ma 17), .inl (X.2.1, 3, .inl fv))]) ([((ma 16), .inl (X.2.1, 123, .inl fw))])))) sz)) (A := (va_A (@HAppend.hAppend va_W va_W va_W _ (mW m0 ma la lb n t v) (@HAppend.hAppend va_W va_W va_W _ ([((ma 10), .inl (X.2.1, 150, .inl fd))]) (@HAppend.hAppend va_W va_W va_W _ ([((ma 17), .inl (X.2.1, 3, .inl fv))]) ([((ma 16), .inl (X.2.1, 123, .inl fw))])))) sz)) (cc := cX11_takesSpeed) (maxL := 1) (ret := (some .boolean)) (by decide) rfl (Nat.le_of_ble_eq_true rfl) k_w k_a (fun p e s m below meth c S zr zlk znm zsz G ls hl => ?_)
  have S : CallFix p m c cX11_takesSpeed 1 s _ wsX11_takesSpeed RX11 := S
  have zx := S.1
  have zb := S.2.1
  have hl : lv_has ls 1 [(0, .ref m0)] := hl
  have hO_t := hI_t
  obtain ⟨ht0_t, ht1_t⟩ := hO_t
  have hO_fw := hI_fw.2
  obtain ⟨hm0_fw, hm1_fw, hm2_fw, hm3_fw, hm4_fw⟩ := hO_fw
  obtain ⟨hK0, hK1, hK2, hK3, hK4⟩ := hK
  have hTe := tE_le (T := fd) (n := n) (s := s0) hK4
  have hT0 : tE fd n s0 ≤ tN fd n s0 ∧ tN fd n s0 ≤ n := tN_le hK4
  have hT1 : tE fd n (tN fd n s0) ≤ t2 fd n s0 ∧ t2 fd n s0 ≤ n := tN_le hT0.2
  have hT2 : tE fd n (t2 fd n s0) ≤ t3 fd n s0 ∧ t3 fd n s0 ≤ n := tN_le hT1.2
  have hT3 : tE fd n (t3 fd n s0) ≤ t4 fd n s0 ∧ t4 fd n s0 ≤ n := tN_le hT2.2
  refine lv_aload_n zx zb dX11_takesSpeed_0 rfl (lv_at hl 0 rfl) ?_
  refine b_wv (cells' := 0) (slots' := 0) (wr := @HAppend.hAppend va_W va_W va_W _ ([((ma 17), .inl (X.2.1, 3, .inl fv))]) ([((ma 16), .inl (X.2.1, 123, .inl fw))])) G rfl rfl [0, 1] [2, 3] rfl rfl rfl rfl (n_V (As := []) (rest := []) (C := RX11) (T := TX11) (N := 18) (ci := 9) S G (y_goBehind l X m0 ma la lb n t v fd s0 hI_n hI_t ⟨hK0, hK1, hK2, hK3, hK4⟩ s.heap.size) gX11_takesSpeed_X11_goBehind rfl rfl rfl hdV_X11_goBehind ⟨Nat.le_of_ble_eq_true rfl, Nat.le_of_ble_eq_true rfl⟩ [0, 1] rfl rfl 0 rfl rfl rfl hl.1 (Nat.le_of_ble_eq_true rfl) dX11_takesSpeed_1 ⟨Nat.le_of_ble_eq_true rfl, Nat.le_of_ble_eq_true rfl⟩) (fun u_1 H locs hp_1 G => ?_)
  obtain ⟨t_1a, v_1b⟩ := u_1
  try dsimp only at hp_1
  obtain ⟨hI_t_1a, hq_1⟩ := hp_1
  have hO_t_1a := hI_t_1a
  obtain ⟨ht0_t_1a, ht1_t_1a⟩ := hO_t_1a
  have G : wd X (va_A (@HAppend.hAppend va_W va_W va_W _ (mW m0 ma la lb n t v) (@HAppend.hAppend va_W va_W va_W _ ([((ma 10), .inl (X.2.1, 150, .inl fd))]) (@HAppend.hAppend va_W va_W va_W _ ([((ma 17), .inl (X.2.1, 3, .inl fv))]) ([((ma 16), .inl (X.2.1, 123, .inl fw))])))) sz) (va_A (@HAppend.hAppend va_W va_W va_W _ (mW m0 ma la lb n t v) (@HAppend.hAppend va_W va_W va_W _ ([((ma 10), .inl (X.2.1, 150, .inl fd))]) (@HAppend.hAppend va_W va_W va_W _ ([((ma 17), .inl (X.2.1, 3, .inl fv))]) ([((ma 16), .inl (X.2.1, 123, .inl fw))])))) sz) s (@HAppend.hAppend va_W va_W va_W _ ([((ma 17), .inl (X.2.1, 3, .inl fv))]) (@HAppend.hAppend va_W va_W va_W _ ([((ma 16), .inl (X.2.1, 123, .inl fw))]) (@HAppend.hAppend va_W va_W va_W _ (mW m0 ma la lb n t_1a v_1b) ([((ma 10), .inl (X.2.1, 150, .inl fd))])))) H locs := G
  have hk_1 : tkM fd n t_1a v_1b (tN fd n s0) := hq_1
  refine lv_aload_n zx zb dX11_takesSpeed_4 rfl (lv_at hl 0 rfl) ?_
  refine lv_iconst (v := 0) zx zb dX11_takesSpeed_5 (by decide) ?_
  refine lv_iconst (v := 0) zx zb dX11_takesSpeed_6 (by decide) ?_
  refine lv_aload_n zx zb dX11_takesSpeed_7 rfl (lv_at hl 0 rfl) ?_
  refine r_get (C := RX11) (T := TX11) (N := 18) (ci := 9) (v := .ref (ma 16)) S in_X11_takesSpeed_X11 G 2 rfl rfl 16 (by decide) lk_X11_takesSpeed_42 rfl dX11_takesSpeed_8 ?_
  refine lv_iconst (v := 0) zx zb dX11_takesSpeed_11 (by decide) ?_
  refine r_iald (v := (nI w0)) S G 1 rfl (k_vp (by decide)) hI_fw.1.1 dX11_takesSpeed_12 ?_
  refine lv_iconst (v := 1) zx zb dX11_takesSpeed_13 (by decide) ?_
  refine r_isub (v := ((nI w0) - 1)) S rfl dX11_takesSpeed_14 ?_
  refine b_wi (cells' := 0) (slots' := 0) (wr := [((ma 16), .inl (X.2.1, 123, .inl fw))]) G rfl rfl [2, 3, 0] [1] rfl rfl rfl rfl (n_V (As := [.int 0, .int 0, .int ((nI w0) - 1)]) (rest := []) (C := RX11) (T := TX11) (N := 18) (ci := 9) S G (y_takes0 l X m0 ma la lb n t_1a v_1b fd fv 0 ((nI w0) - 1) (tN fd n s0) hI_n hI_t_1a hk_1 H.size) gX11_takesSpeed_X11_takes rfl rfl rfl hdV_X11_takes ⟨Nat.le_of_ble_eq_true rfl, Nat.le_of_ble_eq_true rfl⟩ [2, 3, 0] rfl rfl 2 rfl rfl rfl hl.1 (Nat.le_of_ble_eq_true rfl) dX11_takesSpeed_15 ⟨Nat.le_of_ble_eq_true rfl, Nat.le_of_ble_eq_true rfl⟩) (fun r_3 u_3 H locs hp_3 G => ?_)
  obtain ⟨t_3a, v_3b, f_3c⟩ := u_3
  try dsimp only at hp_3
  obtain ⟨hI_t_3a, hq_3⟩ := hp_3
  have hO_t_3a := hI_t_3a
  obtain ⟨ht0_t_3a, ht1_t_3a⟩ := hO_t_3a
  have G : wd X (va_A (@HAppend.hAppend va_W va_W va_W _ (mW m0 ma la lb n t v) (@HAppend.hAppend va_W va_W va_W _ ([((ma 10), .inl (X.2.1, 150, .inl fd))]) (@HAppend.hAppend va_W va_W va_W _ ([((ma 17), .inl (X.2.1, 3, .inl fv))]) ([((ma 16), .inl (X.2.1, 123, .inl fw))])))) sz) (va_A (@HAppend.hAppend va_W va_W va_W _ (mW m0 ma la lb n t v) (@HAppend.hAppend va_W va_W va_W _ ([((ma 10), .inl (X.2.1, 150, .inl fd))]) (@HAppend.hAppend va_W va_W va_W _ ([((ma 17), .inl (X.2.1, 3, .inl fv))]) ([((ma 16), .inl (X.2.1, 123, .inl fw))])))) sz) s (@HAppend.hAppend va_W va_W va_W _ ([((ma 16), .inl (X.2.1, 123, .inl fw))]) (@HAppend.hAppend va_W va_W va_W _ (mW m0 ma la lb n t_3a v_3b) (@HAppend.hAppend va_W va_W va_W _ ([((ma 10), .inl (X.2.1, 150, .inl fd))]) ([((ma 17), .inl (X.2.1, 3, .inl f_3c))])))) H locs := G
  rcases hq_3 with ⟨rfl, hn_3, hk_3, hv_3⟩ | ⟨rfl, hn_3, hf_3⟩
  · have hn_3 : numP fd n (tN fd n s0) 0 ((nI w0) - 1) := hn_3
    have hk_3 : tkM fd n t_3a v_3b (t2 fd n s0) := hk_3
    refine lv_if_eq (tgt := 32) zx zb dX11_takesSpeed_18 (by decide) (fun c_4 => absurd c_4 (by decide)) (fun c_4 => ?_)
    refine lv_aload_n zx zb dX11_takesSpeed_21 rfl (lv_at hl 0 rfl) ?_
    refine lv_iconst (v := 1) zx zb dX11_takesSpeed_22 (by decide) ?_
    refine lv_iconst (v := 0) zx zb dX11_takesSpeed_23 (by decide) ?_
    refine lv_bipush (v := 9) zx zb dX11_takesSpeed_24 (by decide) ?_
    refine b_wi (cells' := 0) (slots' := 0) (wr := [((ma 16), .inl (X.2.1, 123, .inl fw))]) G rfl rfl [1, 2, 3] [0] rfl rfl rfl rfl (n_V (As := [.int 1, .int 0, .int 9]) (rest := []) (C := RX11) (T := TX11) (N := 18) (ci := 9) S G (y_takes1 l X m0 ma la lb n t_3a v_3b fd f_3c 0 9 (t2 fd n s0) hI_n hI_t_3a hk_3 H.size) gX11_takesSpeed_X11_takes rfl rfl rfl hdV_X11_takes ⟨Nat.le_of_ble_eq_true rfl, Nat.le_of_ble_eq_true rfl⟩ [1, 2, 3] rfl rfl 1 rfl rfl rfl hl.1 (Nat.le_of_ble_eq_true rfl) dX11_takesSpeed_26 ⟨Nat.le_of_ble_eq_true rfl, Nat.le_of_ble_eq_true rfl⟩) (fun r_5 u_5 H locs hp_5 G => ?_)
    obtain ⟨t_5a, v_5b, f_5c⟩ := u_5
    try dsimp only at hp_5
    obtain ⟨hI_t_5a, hq_5⟩ := hp_5
    have hO_t_5a := hI_t_5a
    obtain ⟨ht0_t_5a, ht1_t_5a⟩ := hO_t_5a
    have G : wd X (va_A (@HAppend.hAppend va_W va_W va_W _ (mW m0 ma la lb n t v) (@HAppend.hAppend va_W va_W va_W _ ([((ma 10), .inl (X.2.1, 150, .inl fd))]) (@HAppend.hAppend va_W va_W va_W _ ([((ma 17), .inl (X.2.1, 3, .inl fv))]) ([((ma 16), .inl (X.2.1, 123, .inl fw))])))) sz) (va_A (@HAppend.hAppend va_W va_W va_W _ (mW m0 ma la lb n t v) (@HAppend.hAppend va_W va_W va_W _ ([((ma 10), .inl (X.2.1, 150, .inl fd))]) (@HAppend.hAppend va_W va_W va_W _ ([((ma 17), .inl (X.2.1, 3, .inl fv))]) ([((ma 16), .inl (X.2.1, 123, .inl fw))])))) sz) s (@HAppend.hAppend va_W va_W va_W _ ([((ma 16), .inl (X.2.1, 123, .inl fw))]) (@HAppend.hAppend va_W va_W va_W _ (mW m0 ma la lb n t_5a v_5b) (@HAppend.hAppend va_W va_W va_W _ ([((ma 10), .inl (X.2.1, 150, .inl fd))]) ([((ma 17), .inl (X.2.1, 3, .inl f_5c))])))) H locs := G
    rcases hq_5 with ⟨rfl, hn_5, hk_5, hv_5⟩ | ⟨rfl, hn_5, hf_5⟩
    · have hn_5 : numP fd n (t2 fd n s0) 0 9 := hn_5
      have hk_5 : tkM fd n t_5a v_5b (t3 fd n s0) := hk_5
      refine lv_if_ne (tgt := 34) zx zb dX11_takesSpeed_29 (by decide) (fun c_6 => ?_) (fun c_6 => absurd c_6 (by decide))
      refine lv_aload_n zx zb dX11_takesSpeed_34 rfl (lv_at hl 0 rfl) ?_
      refine r_get (C := RX11) (T := TX11) (N := 18) (ci := 9) (v := .ref (ma 16)) S in_X11_takesSpeed_X11 G 1 rfl rfl 16 (by decide) lk_X11_takesSpeed_42 rfl dX11_takesSpeed_35 ?_
      refine lv_bipush (v := 11) zx zb dX11_takesSpeed_38 (by decide) ?_
      refine lv_aload_n zx zb dX11_takesSpeed_40 rfl (lv_at hl 0 rfl) ?_
      refine r_get (C := RX11) (T := TX11) (N := 18) (ci := 9) (v := .ref (ma 17)) S in_X11_takesSpeed_X11 G 1 rfl rfl 17 (by decide) lk_X11_takesSpeed_45 rfl dX11_takesSpeed_41 ?_
      refine lv_iconst (v := 0) zx zb dX11_takesSpeed_44 (by decide) ?_
      have vl0 : f_5c 0 = tV fd n (tN fd n s0) := by rw [hv_5, upd_ne (by decide), hv_3, upd_eq]
      have vl1 : f_5c 1 = tV fd n (t2 fd n s0) := by rw [hv_5, upd_eq]
      obtain ⟨jx, hjx, ejx⟩ := k_one (n := w0) (by omega) hn_3.2
      have eiv : f_5c 0 = nI jx := vl0.trans ejx
      have hc0 : (tV fd n (tN fd n s0)).toNatClampNeg = jx := by rw [ejx]; exact nI_clamp (by omega)
      refine r_iald (v := nI jx) S G 3 rfl (k_vp (by decide)) eiv dX11_takesSpeed_45 ?_
      refine r_iadd (v := (nI (11 + jx))) S (nI_add 11 jx) dX11_takesSpeed_46 ?_
      refine lv_aload_n zx zb dX11_takesSpeed_47 rfl (lv_at hl 0 rfl) ?_
      refine r_get (C := RX11) (T := TX11) (N := 18) (ci := 9) (v := .ref (ma 17)) S in_X11_takesSpeed_X11 G 1 rfl rfl 17 (by decide) lk_X11_takesSpeed_45 rfl dX11_takesSpeed_48 ?_
      refine lv_iconst (v := 1) zx zb dX11_takesSpeed_51 (by decide) ?_
      refine r_iald (v := (f_5c 1)) S G 3 rfl (k_vp (by decide)) rfl dX11_takesSpeed_52 ?_
      refine r_iast S G 0 rfl (vp_in_nI (by omega) (by decide)) dX11_takesSpeed_53 (fun H locs G => ?_)
      obtain ⟨f_8, hI_f_8, hE_f_8, G⟩ : ∃ f_8 : Nat → Int32, InA f_8 w0 w1 w2 w3 w4 ∧ f_8 = upd fw (nI (11 + jx)).toNatClampNeg (f_5c 1) ∧ wd X (va_A (@HAppend.hAppend va_W va_W va_W _ (mW m0 ma la lb n t v) (@HAppend.hAppend va_W va_W va_W _ ([((ma 10), .inl (X.2.1, 150, .inl fd))]) (@HAppend.hAppend va_W va_W va_W _ ([((ma 17), .inl (X.2.1, 3, .inl fv))]) ([((ma 16), .inl (X.2.1, 123, .inl fw))])))) sz) (va_A (@HAppend.hAppend va_W va_W va_W _ (mW m0 ma la lb n t v) (@HAppend.hAppend va_W va_W va_W _ ([((ma 10), .inl (X.2.1, 150, .inl fd))]) (@HAppend.hAppend va_W va_W va_W _ ([((ma 17), .inl (X.2.1, 3, .inl fv))]) ([((ma 16), .inl (X.2.1, 123, .inl fw))])))) sz) s (@HAppend.hAppend va_W va_W va_W _ ([((ma 16), .inl (X.2.1, 123, .inl f_8))]) (@HAppend.hAppend va_W va_W va_W _ (mW m0 ma la lb n t_5a v_5b) (@HAppend.hAppend va_W va_W va_W _ ([((ma 10), .inl (X.2.1, 150, .inl fd))]) ([((ma 17), .inl (X.2.1, 3, .inl f_5c))])))) H locs := ⟨_, InA_o hI_fw (by rw [nI_clamp (by omega)]; omega), rfl, G⟩
      refine lv_iconst (v := 1) zx zb dX11_takesSpeed_54 (by decide) ?_
      have hz : RepM sv (upd dv (10 + 5 * (tV fd n (tN fd n s0)).toNatClampNeg) (tV fd n (t2 fd n s0))) w0 f_8 := by rw [hc0, hE_f_8, nI_clamp (by omega), vl1]; exact RepM_u (by omega) hjx (Or.inl ⟨rfl, rfl⟩) hR
      exact e_int S zr zlk (by decide) G (t_5a, v_5b, f_5c, f_8) [1, 2, 3, 0] rfl rfl (Or.inr rfl) (⟨hI_t_5a, hI_f_8, Or.inl ⟨rfl, by rw [spdC, chk_t (numB_t.mpr hn_3), chk_t (numB_t.mpr hn_5)], hk_5, hz⟩⟩) dX11_takesSpeed_55
    · have hn_5 : ¬ numP fd n (t2 fd n s0) 0 9 := hn_5
      refine lv_if_ne (tgt := 34) zx zb dX11_takesSpeed_29 (by decide) (fun c_9 => absurd (by decide) c_9) (fun c_9 => ?_)
      refine lv_iconst (v := 0) zx zb dX11_takesSpeed_32 (by decide) ?_
      exact e_int S zr zlk (by decide) G (t_5a, v_5b, f_5c, fw) [1, 2, 3, 0] rfl rfl (Or.inr rfl) (⟨hI_t_5a, hI_fw, Or.inr ⟨rfl, _, by rw [spdC, chk_t (numB_t.mpr hn_3), chk_f (numB_f hn_5)], hf_5⟩⟩) dX11_takesSpeed_33
  · have hn_3 : ¬ numP fd n (tN fd n s0) 0 ((nI w0) - 1) := hn_3
    refine lv_if_eq (tgt := 32) zx zb dX11_takesSpeed_18 (by decide) (fun c_10 => ?_) (fun c_10 => absurd (by decide) c_10)
    refine lv_iconst (v := 0) zx zb dX11_takesSpeed_32 (by decide) ?_
    exact e_int S zr zlk (by decide) G (t_3a, v_3b, f_3c, fw) [1, 2, 3, 0] rfl rfl (Or.inr rfl) (⟨hI_t_3a, hI_fw, Or.inr ⟨rfl, _, by rw [spdC, chk_f (numB_f hn_3)], hf_3⟩⟩) dX11_takesSpeed_33
set_option maxHeartbeats 4000000 in
set_option maxRecDepth 100000 in
theorem y_takesStart (l : Launch) (X : EX) (m0 : Nat) (ma : Nat → Nat) (la : Int64) (lb : Int64) (n : Nat) (t : Nat → Nat) (v : Nat → Int32) (fd : Nat → Int32) (fv : Nat → Int32) (fw : Nat → Int32) (w0 : Nat) (w1 : Nat) (w2 : Nat) (w3 : Nat) (w4 : Nat) (sv : Nat → Int32) (dv : Nat → Int32) (s0 : Nat) (hI_n : n ≤ 150) (hI_t : InT t) (hI_fw : InA fw w0 w1 w2 w3 w4) (hK : tkM fd n t v s0) (hR : RepM sv dv w0 fw) (hL : 10 ≤ dv 0 ∧ dv 0 ≤ 60) (sz : Nat) : Met l yX11_takesStart wsX11_takesStart ({ frames := 5, cells := 0, slots := 0, locals := 112 } : Room) (pE X [.ref m0] (@HAppend.hAppend va_W va_W va_W _ (mW m0 ma la lb n t v) (@HAppend.hAppend va_W va_W va_W _ ([((ma 10), .inl (X.2.1, 150, .inl fd))]) (@HAppend.hAppend va_W va_W va_W _ ([((ma 17), .inl (X.2.1, 3, .inl fv))]) ([((ma 16), .inl (X.2.1, 123, .inl fw))])))) sz) (qI (fun (r : Int32) (u : (Nat → Nat) × (Nat → Int32) × (Nat → Int32) × (Nat → Int32)) => InT u.1 ∧ InA u.2.2.2 w0 w1 w2 w3 w4 ∧ ((r = 1 ∧ staC fd n s0 w0 dv = chk [(stpB fd n (t3 fd n s0), t3 fd n s0)] ∧ tkM fd n u.1 u.2.1 (t3 fd n s0) ∧ RepM sv (upd dv (11 + 5 * (tV fd n (tN fd n s0)).toNatClampNeg) (tV fd n (t2 fd n s0))) w0 u.2.2.2) ∨ (r = 0 ∧ ∃ p : Nat, staC fd n s0 w0 dv = some p ∧ u.1 0 = p))) X (fun (u : (Nat → Nat) × (Nat → Int32) × (Nat → Int32) × (Nat → Int32)) => @HAppend.hAppend va_W va_W va_W _ (mW m0 ma la lb n u.1 u.2.1) (@HAppend.hAppend va_W va_W va_W _ ([((ma 10), .inl (X.2.1, 150, .inl fd))]) (@HAppend.hAppend va_W va_W va_W _ ([((ma 17), .inl (X.2.1, 3, .inl u.2.2.1))]) ([((ma 16), .inl (X.2.1, 123, .inl u.2.2.2))])))) (@HAppend.hAppend va_W va_W va_W _ (mW m0 ma la lb n t v) (@HAppend.hAppend va_W va_W va_W _ ([((ma 10), .inl (X.2.1, 150, .inl fd))]) (@HAppend.hAppend va_W va_W va_W _ ([((ma 17), .inl (X.2.1, 3, .inl fv))]) ([((ma 16), .inl (X.2.1, 123, .inl fw))])))) sz) 0 0 (va_A (@HAppend.hAppend va_W va_W va_W _ (mW m0 ma la lb n t v) (@HAppend.hAppend va_W va_W va_W _ ([((ma 10), .inl (X.2.1, 150, .inl fd))]) (@HAppend.hAppend va_W va_W va_W _ ([((ma 17), .inl (X.2.1, 3, .inl fv))]) ([((ma 16), .inl (X.2.1, 123, .inl fw))])))) sz) := by
  refine mk_met (B := (va_A (@HAppend.hAppend va_W va_W va_W _ (mW m0 ma la lb n t v) (@HAppend.hAppend va_W va_W va_W _ ([((ma 10), .inl (X.2.1, 150, .inl fd))]) (@HAppend.hAppend va_W va_W va_W _ ([((ma 17), .inl (X.2.1, 3, .inl fv))]) ([((ma 16), .inl (X.2.1, 123, .inl fw))])))) sz)) (A := (va_A (@HAppend.hAppend va_W va_W va_W _ (mW m0 ma la lb n t v) (@HAppend.hAppend va_W va_W va_W _ ([((ma 10), .inl (X.2.1, 150, .inl fd))]) (@HAppend.hAppend va_W va_W va_W _ ([((ma 17), .inl (X.2.1, 3, .inl fv))]) ([((ma 16), .inl (X.2.1, 123, .inl fw))])))) sz)) (cc := cX11_takesStart) (maxL := 2) (ret := (some .boolean)) (by decide) rfl (Nat.le_of_ble_eq_true rfl) k_w k_a (fun p e s m below meth c S zr zlk znm zsz G ls hl => ?_)
  have S : CallFix p m c cX11_takesStart 2 s _ wsX11_takesStart RX11 := S
  have zx := S.1
  have zb := S.2.1
  have hl : lv_has ls 2 [(0, .ref m0)] := hl
  have hO_t := hI_t
  obtain ⟨ht0_t, ht1_t⟩ := hO_t
  have hO_fw := hI_fw.2
  obtain ⟨hm0_fw, hm1_fw, hm2_fw, hm3_fw, hm4_fw⟩ := hO_fw
  obtain ⟨hK0, hK1, hK2, hK3, hK4⟩ := hK
  have hTe := tE_le (T := fd) (n := n) (s := s0) hK4
  have hT0 : tE fd n s0 ≤ tN fd n s0 ∧ tN fd n s0 ≤ n := tN_le hK4
  have hT1 : tE fd n (tN fd n s0) ≤ t2 fd n s0 ∧ t2 fd n s0 ≤ n := tN_le hT0.2
  have hT2 : tE fd n (t2 fd n s0) ≤ t3 fd n s0 ∧ t3 fd n s0 ≤ n := tN_le hT1.2
  have hT3 : tE fd n (t3 fd n s0) ≤ t4 fd n s0 ∧ t4 fd n s0 ≤ n := tN_le hT2.2
  refine lv_aload_n zx zb dX11_takesStart_0 rfl (lv_at hl 0 rfl) ?_
  refine b_wv (cells' := 0) (slots' := 0) (wr := @HAppend.hAppend va_W va_W va_W _ ([((ma 17), .inl (X.2.1, 3, .inl fv))]) ([((ma 16), .inl (X.2.1, 123, .inl fw))])) G rfl rfl [0, 1] [2, 3] rfl rfl rfl rfl (n_V (As := []) (rest := []) (C := RX11) (T := TX11) (N := 18) (ci := 9) S G (y_goBehind l X m0 ma la lb n t v fd s0 hI_n hI_t ⟨hK0, hK1, hK2, hK3, hK4⟩ s.heap.size) gX11_takesStart_X11_goBehind rfl rfl rfl hdV_X11_goBehind ⟨Nat.le_of_ble_eq_true rfl, Nat.le_of_ble_eq_true rfl⟩ [0, 1] rfl rfl 0 rfl rfl rfl hl.1 (Nat.le_of_ble_eq_true rfl) dX11_takesStart_1 ⟨Nat.le_of_ble_eq_true rfl, Nat.le_of_ble_eq_true rfl⟩) (fun u_1 H locs hp_1 G => ?_)
  obtain ⟨t_1a, v_1b⟩ := u_1
  try dsimp only at hp_1
  obtain ⟨hI_t_1a, hq_1⟩ := hp_1
  have hO_t_1a := hI_t_1a
  obtain ⟨ht0_t_1a, ht1_t_1a⟩ := hO_t_1a
  have G : wd X (va_A (@HAppend.hAppend va_W va_W va_W _ (mW m0 ma la lb n t v) (@HAppend.hAppend va_W va_W va_W _ ([((ma 10), .inl (X.2.1, 150, .inl fd))]) (@HAppend.hAppend va_W va_W va_W _ ([((ma 17), .inl (X.2.1, 3, .inl fv))]) ([((ma 16), .inl (X.2.1, 123, .inl fw))])))) sz) (va_A (@HAppend.hAppend va_W va_W va_W _ (mW m0 ma la lb n t v) (@HAppend.hAppend va_W va_W va_W _ ([((ma 10), .inl (X.2.1, 150, .inl fd))]) (@HAppend.hAppend va_W va_W va_W _ ([((ma 17), .inl (X.2.1, 3, .inl fv))]) ([((ma 16), .inl (X.2.1, 123, .inl fw))])))) sz) s (@HAppend.hAppend va_W va_W va_W _ ([((ma 17), .inl (X.2.1, 3, .inl fv))]) (@HAppend.hAppend va_W va_W va_W _ ([((ma 16), .inl (X.2.1, 123, .inl fw))]) (@HAppend.hAppend va_W va_W va_W _ (mW m0 ma la lb n t_1a v_1b) ([((ma 10), .inl (X.2.1, 150, .inl fd))])))) H locs := G
  have hk_1 : tkM fd n t_1a v_1b (tN fd n s0) := hq_1
  have hq0 := hk_1.1
  have hq2 := hk_1.2.2.1
  have hq3 := hk_1.2.2.2.1
  refine lv_aload_n zx zb dX11_takesStart_4 rfl (lv_at hl 0 rfl) ?_
  refine r_get (C := RX11) (T := TX11) (N := 18) (ci := 9) (v := .int (v_1b 0)) S in_X11_takesStart_X11 G 2 rfl rfl 14 (by decide) lk_X11_takesStart_223 rfl dX11_takesStart_5 ?_
  refine lv_iconst (v := 2) zx zb dX11_takesStart_8 (by decide) ?_
  refine lv_icmp_ne (tgt := 57) zx zb dX11_takesStart_9 (by decide) (fun c_2 => ?_) (fun c_2 => ?_)
  · refine lv_iconst (v := 0) zx zb dX11_takesStart_57 (by decide) ?_
    exact e_int S zr zlk (by decide) G (t_1a, v_1b, fv, fw) [2, 3, 0, 1] rfl rfl (Or.inr rfl) (⟨hI_t_1a, hI_fw, Or.inr ⟨rfl, _, by rw [staC, chk_f (numB_f (fun h => c_2 (hq2.trans h.1)))], hq0⟩⟩) dX11_takesStart_58
  · refine lv_aload_n zx zb dX11_takesStart_12 rfl (lv_at hl 0 rfl) ?_
    refine r_get (C := RX11) (T := TX11) (N := 18) (ci := 9) (v := .int (v_1b 1)) S in_X11_takesStart_X11 G 2 rfl rfl 15 (by decide) lk_X11_takesStart_226 rfl dX11_takesStart_13 ?_
    refine lv_i2l (v := (Int32.toInt64 (v_1b 1))) zx zb dX11_takesStart_16 rfl ?_
    refine lv_lconst (v := (Int32.toInt64 0)) zx zb dX11_takesStart_17 (by decide) ?_
    refine lv_aload_n zx zb dX11_takesStart_18 rfl (lv_at hl 0 rfl) ?_
    refine r_get (C := RX11) (T := TX11) (N := 18) (ci := 9) (v := .ref (ma 16)) S in_X11_takesStart_X11 G 2 rfl rfl 16 (by decide) lk_X11_takesStart_42 rfl dX11_takesStart_19 ?_
    refine lv_iconst (v := 0) zx zb dX11_takesStart_22 (by decide) ?_
    refine r_iald (v := (nI w0)) S G 1 rfl (k_vp (by decide)) hI_fw.1.1 dX11_takesStart_23 ?_
    refine lv_iconst (v := 1) zx zb dX11_takesStart_24 (by decide) ?_
    refine r_isub (v := ((nI w0) - 1)) S rfl dX11_takesStart_25 ?_
    refine lv_i2l (v := (Int32.toInt64 ((nI w0) - 1))) zx zb dX11_takesStart_26 rfl ?_
    refine o_ri (cells' := 0) (slots' := 0) G rfl rfl (n_S (As := [.long (Int32.toInt64 (v_1b 1)), .long (Int32.toInt64 0), .long (Int32.toInt64 ((nI w0) - 1))]) (rest := []) S G (m_in l X (v_1b 1) 0 ((nI w0) - 1) H.size) gX11_takesStart_X11_in rfl rfl rfl hdS_X11_in ⟨Nat.le_of_ble_eq_true rfl, Nat.le_of_ble_eq_true rfl⟩ [] rfl rfl rfl hl.1 (Nat.le_of_ble_eq_true rfl) dX11_takesStart_27 ⟨Nat.le_of_ble_eq_true rfl, Nat.le_of_ble_eq_true rfl⟩) (fun r_4 u_4 H locs hp_4 G => ?_)
    have G : wd X (va_A (@HAppend.hAppend va_W va_W va_W _ (mW m0 ma la lb n t v) (@HAppend.hAppend va_W va_W va_W _ ([((ma 10), .inl (X.2.1, 150, .inl fd))]) (@HAppend.hAppend va_W va_W va_W _ ([((ma 17), .inl (X.2.1, 3, .inl fv))]) ([((ma 16), .inl (X.2.1, 123, .inl fw))])))) sz) (va_A (@HAppend.hAppend va_W va_W va_W _ (mW m0 ma la lb n t v) (@HAppend.hAppend va_W va_W va_W _ ([((ma 10), .inl (X.2.1, 150, .inl fd))]) (@HAppend.hAppend va_W va_W va_W _ ([((ma 17), .inl (X.2.1, 3, .inl fv))]) ([((ma 16), .inl (X.2.1, 123, .inl fw))])))) sz) s (@HAppend.hAppend va_W va_W va_W _ ([((ma 17), .inl (X.2.1, 3, .inl fv))]) (@HAppend.hAppend va_W va_W va_W _ ([((ma 16), .inl (X.2.1, 123, .inl fw))]) (@HAppend.hAppend va_W va_W va_W _ (mW m0 ma la lb n t_1a v_1b) ([((ma 10), .inl (X.2.1, 150, .inl fd))])))) H locs := G
    rcases hp_4 with ⟨rfl, hw_4⟩ | ⟨rfl, hw_4⟩
    · refine lv_if_eq (tgt := 57) zx zb dX11_takesStart_30 (by decide) (fun c_5 => absurd c_5 (by decide)) (fun c_5 => ?_)
      refine lv_aload_n zx zb dX11_takesStart_33 rfl (lv_at hl 0 rfl) ?_
      refine r_get (C := RX11) (T := TX11) (N := 18) (ci := 9) (v := .ref (ma 16)) S in_X11_takesStart_X11 G 2 rfl rfl 16 (by decide) lk_X11_takesStart_42 rfl dX11_takesStart_34 ?_
      refine lv_aload_n zx zb dX11_takesStart_37 rfl (lv_at hl 0 rfl) ?_
      refine r_get (C := RX11) (T := TX11) (N := 18) (ci := 9) (v := .int (v_1b 1)) S in_X11_takesStart_X11 G 2 rfl rfl 15 (by decide) lk_X11_takesStart_226 rfl dX11_takesStart_38 ?_
      obtain ⟨jv, hjv, ejv⟩ := k_one (n := w0) (by omega) hw_4
      have hd2 : tK fd n (tN fd n s0) = 2 := hq2.symm.trans c_2
      have etv : tV fd n (tN fd n s0) = nI jv := (hq3 hd2).symm.trans ejv
      have hc0 : (tV fd n (tN fd n s0)).toNatClampNeg = jv := by rw [etv]; exact nI_clamp (by omega)
      have hnA : numP fd n (tN fd n s0) 0 (nI w0 - 1) := ⟨hd2, by rw [← hq3 hd2]; exact hw_4.1, by rw [← hq3 hd2]; exact hw_4.2⟩
      refine k_it ejv ?_
      refine o_ri (cells' := 0) (slots' := 0) G rfl rfl (n_S (As := [.ref (ma 16), .int (nI jv)]) (rest := []) S G (y_isHome l X (ma 16) 123 fw w0 w1 w2 w3 w4 jv hI_fw (by omega) (by omega) (by omega) H.size) gX11_takesStart_X11_isHome rfl rfl rfl hdS_X11_isHome ⟨Nat.le_of_ble_eq_true rfl, Nat.le_of_ble_eq_true rfl⟩ [1] rfl rfl rfl hl.1 (Nat.le_of_ble_eq_true rfl) dX11_takesStart_41 ⟨Nat.le_of_ble_eq_true rfl, Nat.le_of_ble_eq_true rfl⟩) (fun r_6 u_6 H locs hp_6 G => ?_)
      have G : wd X (va_A (@HAppend.hAppend va_W va_W va_W _ (mW m0 ma la lb n t v) (@HAppend.hAppend va_W va_W va_W _ ([((ma 10), .inl (X.2.1, 150, .inl fd))]) (@HAppend.hAppend va_W va_W va_W _ ([((ma 17), .inl (X.2.1, 3, .inl fv))]) ([((ma 16), .inl (X.2.1, 123, .inl fw))])))) sz) (va_A (@HAppend.hAppend va_W va_W va_W _ (mW m0 ma la lb n t v) (@HAppend.hAppend va_W va_W va_W _ ([((ma 10), .inl (X.2.1, 150, .inl fd))]) (@HAppend.hAppend va_W va_W va_W _ ([((ma 17), .inl (X.2.1, 3, .inl fv))]) ([((ma 16), .inl (X.2.1, 123, .inl fw))])))) sz) s (@HAppend.hAppend va_W va_W va_W _ ([((ma 17), .inl (X.2.1, 3, .inl fv))]) (@HAppend.hAppend va_W va_W va_W _ ([((ma 16), .inl (X.2.1, 123, .inl fw))]) (@HAppend.hAppend va_W va_W va_W _ (mW m0 ma la lb n t_1a v_1b) ([((ma 10), .inl (X.2.1, 150, .inl fd))])))) H locs := G
      rcases hp_6 with ⟨rfl, hh_6⟩ | ⟨rfl, hh_6⟩
      · refine lv_if_ne (tgt := 57) zx zb dX11_takesStart_44 (by decide) (fun c_7 => ?_) (fun c_7 => absurd c_7 (by decide))
        refine lv_iconst (v := 0) zx zb dX11_takesStart_57 (by decide) ?_
        exact e_int S zr zlk (by decide) G (t_1a, v_1b, fv, fw) [2, 3, 0, 1] rfl rfl (Or.inr rfl) (⟨hI_t_1a, hI_fw, Or.inr ⟨rfl, _, by rw [staC, chk_t (numB_t.mpr hnA), chk_f (decide_eq_false (by rw [hc0]; exact fun z => (RepM_hm hR hjv).mp z hh_6))], hq0⟩⟩) dX11_takesStart_58
      · refine lv_if_ne (tgt := 57) zx zb dX11_takesStart_44 (by decide) (fun c_8 => absurd (by decide) c_8) (fun c_8 => ?_)
        refine lv_aload_n zx zb dX11_takesStart_47 rfl (lv_at hl 0 rfl) ?_
        refine lv_iconst (v := 0) zx zb dX11_takesStart_48 (by decide) ?_
        refine lv_iconst (v := 0) zx zb dX11_takesStart_49 (by decide) ?_
        refine lv_iconst (v := 5) zx zb dX11_takesStart_50 (by decide) ?_
        refine b_wi (cells' := 0) (slots' := 0) (wr := [((ma 16), .inl (X.2.1, 123, .inl fw))]) G rfl rfl [2, 3, 0] [1] rfl rfl rfl rfl (n_V (As := [.int 0, .int 0, .int 5]) (rest := []) (C := RX11) (T := TX11) (N := 18) (ci := 9) S G (y_takes0 l X m0 ma la lb n t_1a v_1b fd fv 0 5 (tN fd n s0) hI_n hI_t_1a hk_1 H.size) gX11_takesStart_X11_takes rfl rfl rfl hdV_X11_takes ⟨Nat.le_of_ble_eq_true rfl, Nat.le_of_ble_eq_true rfl⟩ [2, 3, 0] rfl rfl 2 rfl rfl rfl hl.1 (Nat.le_of_ble_eq_true rfl) dX11_takesStart_51 ⟨Nat.le_of_ble_eq_true rfl, Nat.le_of_ble_eq_true rfl⟩) (fun r_9 u_9 H locs hp_9 G => ?_)
        obtain ⟨t_9a, v_9b, f_9c⟩ := u_9
        try dsimp only at hp_9
        obtain ⟨hI_t_9a, hq_9⟩ := hp_9
        have hO_t_9a := hI_t_9a
        obtain ⟨ht0_t_9a, ht1_t_9a⟩ := hO_t_9a
        have G : wd X (va_A (@HAppend.hAppend va_W va_W va_W _ (mW m0 ma la lb n t v) (@HAppend.hAppend va_W va_W va_W _ ([((ma 10), .inl (X.2.1, 150, .inl fd))]) (@HAppend.hAppend va_W va_W va_W _ ([((ma 17), .inl (X.2.1, 3, .inl fv))]) ([((ma 16), .inl (X.2.1, 123, .inl fw))])))) sz) (va_A (@HAppend.hAppend va_W va_W va_W _ (mW m0 ma la lb n t v) (@HAppend.hAppend va_W va_W va_W _ ([((ma 10), .inl (X.2.1, 150, .inl fd))]) (@HAppend.hAppend va_W va_W va_W _ ([((ma 17), .inl (X.2.1, 3, .inl fv))]) ([((ma 16), .inl (X.2.1, 123, .inl fw))])))) sz) s (@HAppend.hAppend va_W va_W va_W _ ([((ma 16), .inl (X.2.1, 123, .inl fw))]) (@HAppend.hAppend va_W va_W va_W _ (mW m0 ma la lb n t_9a v_9b) (@HAppend.hAppend va_W va_W va_W _ ([((ma 10), .inl (X.2.1, 150, .inl fd))]) ([((ma 17), .inl (X.2.1, 3, .inl f_9c))])))) H locs := G
        rcases hq_9 with ⟨rfl, hn_9, hk_9, hv_9⟩ | ⟨rfl, hn_9, hf_9⟩
        · have hn_9 : numP fd n (tN fd n s0) 0 5 := hn_9
          have hk_9 : tkM fd n t_9a v_9b (t2 fd n s0) := hk_9
          refine lv_if_ne (tgt := 59) zx zb dX11_takesStart_54 (by decide) (fun c_10 => ?_) (fun c_10 => absurd c_10 (by decide))
          refine lv_aload_n zx zb dX11_takesStart_59 rfl (lv_at hl 0 rfl) ?_
          refine r_get (C := RX11) (T := TX11) (N := 18) (ci := 9) (v := .ref (ma 16)) S in_X11_takesStart_X11 G 1 rfl rfl 16 (by decide) lk_X11_takesStart_42 rfl dX11_takesStart_60 ?_
          refine lv_bipush (v := 36) zx zb dX11_takesStart_63 (by decide) ?_
          refine r_iald (v := (fw 36)) S G 0 rfl (k_vp (by decide)) rfl dX11_takesStart_65 ?_
          refine lv_bipush (v := 30) zx zb dX11_takesStart_66 (by decide) ?_
          refine k_cutW (PP := fun Wx => ∀ (x_13 : Int32) (H : Heap) (locs : List Loc) (ls : Array Slot), (x_13 = (if (fw 36) ≤ 30 then ((fw 36) - 1) else 30)) → wd X (va_A (@HAppend.hAppend va_W va_W va_W _ (mW m0 ma la lb n t v) (@HAppend.hAppend va_W va_W va_W _ ([((ma 10), .inl (X.2.1, 150, .inl fd))]) (@HAppend.hAppend va_W va_W va_W _ ([((ma 17), .inl (X.2.1, 3, .inl fv))]) ([((ma 16), .inl (X.2.1, 123, .inl fw))])))) sz) (va_A (@HAppend.hAppend va_W va_W va_W _ (mW m0 ma la lb n t v) (@HAppend.hAppend va_W va_W va_W _ ([((ma 10), .inl (X.2.1, 150, .inl fd))]) (@HAppend.hAppend va_W va_W va_W _ ([((ma 17), .inl (X.2.1, 3, .inl fv))]) ([((ma 16), .inl (X.2.1, 123, .inl fw))])))) sz) s (@HAppend.hAppend va_W va_W va_W _ ([((ma 16), .inl (X.2.1, 123, .inl fw))]) (@HAppend.hAppend va_W va_W va_W _ (mW m0 ma la lb n t_9a v_9b) (@HAppend.hAppend va_W va_W va_W _ ([((ma 10), .inl (X.2.1, 150, .inl fd))]) ([((ma 17), .inl (X.2.1, 3, .inl f_9c))])))) H locs → lv_has ls 2 [(0, .ref m0)] → Wx (F0 m 85 ls [.int x_13]) H locs) ?_ ?_
          · intro join_68
            refine lv_icmp_le (tgt := 76) zx zb dX11_takesStart_68 (by decide) (fun c_12 => ?_) (fun c_12 => ?_)
            · refine lv_aload_n zx zb dX11_takesStart_76 rfl (lv_at hl 0 rfl) ?_
              refine r_get (C := RX11) (T := TX11) (N := 18) (ci := 9) (v := .ref (ma 16)) S in_X11_takesStart_X11 G 1 rfl rfl 16 (by decide) lk_X11_takesStart_42 rfl dX11_takesStart_77 ?_
              refine lv_bipush (v := 36) zx zb dX11_takesStart_80 (by decide) ?_
              refine r_iald (v := (fw 36)) S G 0 rfl (k_vp (by decide)) rfl dX11_takesStart_82 ?_
              refine lv_iconst (v := 1) zx zb dX11_takesStart_83 (by decide) ?_
              refine r_isub (v := ((fw 36) - 1)) S rfl dX11_takesStart_84 ?_
              exact join_68 ((fw 36) - 1) _ _ _ (if_pos c_12).symm G hl
            · refine lv_bipush (v := 30) zx zb dX11_takesStart_71 (by decide) ?_
              refine lv_goto (tgt := 85) zx zb dX11_takesStart_73 (by decide) ?_
              exact join_68 30 _ _ _ (if_neg c_12).symm G hl
          · intro x_13 H locs ls hk_x_13 G hl
            subst hk_x_13
            have hms : (if (fw 36) ≤ 30 then (fw 36) - 1 else 30) = mstP dv := by rw [k_mst hL.1 hL.2, hR.1.1]
            refine lv_istore_n (lv' := [(1, .int (if (fw 36) ≤ 30 then ((fw 36) - 1) else 30)), (0, .ref m0)]) zx zb dX11_takesStart_85 rfl hl (by decide) rfl (fun ls hl => ?_)
            refine lv_aload_n zx zb dX11_takesStart_86 rfl (lv_at hl 1 rfl) ?_
            refine lv_iconst (v := 1) zx zb dX11_takesStart_87 (by decide) ?_
            refine lv_iconst (v := 0) zx zb dX11_takesStart_88 (by decide) ?_
            refine lv_iload_n zx zb dX11_takesStart_89 rfl (lv_at hl 0 rfl) ?_
            refine b_wi (cells' := 0) (slots' := 0) (wr := [((ma 16), .inl (X.2.1, 123, .inl fw))]) G rfl rfl [1, 2, 3] [0] rfl rfl rfl rfl (n_V (As := [.int 1, .int 0, .int (if (fw 36) ≤ 30 then ((fw 36) - 1) else 30)]) (rest := []) (C := RX11) (T := TX11) (N := 18) (ci := 9) S G (y_takes1 l X m0 ma la lb n t_9a v_9b fd f_9c 0 (if (fw 36) ≤ 30 then ((fw 36) - 1) else 30) (t2 fd n s0) hI_n hI_t_9a hk_9 H.size) gX11_takesStart_X11_takes rfl rfl rfl hdV_X11_takes ⟨Nat.le_of_ble_eq_true rfl, Nat.le_of_ble_eq_true rfl⟩ [1, 2, 3] rfl rfl 1 rfl rfl rfl hl.1 (Nat.le_of_ble_eq_true rfl) dX11_takesStart_90 ⟨Nat.le_of_ble_eq_true rfl, Nat.le_of_ble_eq_true rfl⟩) (fun r_15 u_15 H locs hp_15 G => ?_)
            obtain ⟨t_15a, v_15b, f_15c⟩ := u_15
            try dsimp only at hp_15
            obtain ⟨hI_t_15a, hq_15⟩ := hp_15
            have hO_t_15a := hI_t_15a
            obtain ⟨ht0_t_15a, ht1_t_15a⟩ := hO_t_15a
            have G : wd X (va_A (@HAppend.hAppend va_W va_W va_W _ (mW m0 ma la lb n t v) (@HAppend.hAppend va_W va_W va_W _ ([((ma 10), .inl (X.2.1, 150, .inl fd))]) (@HAppend.hAppend va_W va_W va_W _ ([((ma 17), .inl (X.2.1, 3, .inl fv))]) ([((ma 16), .inl (X.2.1, 123, .inl fw))])))) sz) (va_A (@HAppend.hAppend va_W va_W va_W _ (mW m0 ma la lb n t v) (@HAppend.hAppend va_W va_W va_W _ ([((ma 10), .inl (X.2.1, 150, .inl fd))]) (@HAppend.hAppend va_W va_W va_W _ ([((ma 17), .inl (X.2.1, 3, .inl fv))]) ([((ma 16), .inl (X.2.1, 123, .inl fw))])))) sz) s (@HAppend.hAppend va_W va_W va_W _ ([((ma 16), .inl (X.2.1, 123, .inl fw))]) (@HAppend.hAppend va_W va_W va_W _ (mW m0 ma la lb n t_15a v_15b) (@HAppend.hAppend va_W va_W va_W _ ([((ma 10), .inl (X.2.1, 150, .inl fd))]) ([((ma 17), .inl (X.2.1, 3, .inl f_15c))])))) H locs := G
            rcases hq_15 with ⟨rfl, hn_15, hk_15, hv_15⟩ | ⟨rfl, hn_15, hf_15⟩
            · have hn_15 : numP fd n (t2 fd n s0) 0 (if (fw 36) ≤ 30 then ((fw 36) - 1) else 30) := hn_15
              have hk_15 : tkM fd n t_15a v_15b (t3 fd n s0) := hk_15
              refine lv_if_ne (tgt := 98) zx zb dX11_takesStart_93 (by decide) (fun c_16 => ?_) (fun c_16 => absurd c_16 (by decide))
              refine lv_aload_n zx zb dX11_takesStart_98 rfl (lv_at hl 1 rfl) ?_
              refine r_get (C := RX11) (T := TX11) (N := 18) (ci := 9) (v := .ref (ma 16)) S in_X11_takesStart_X11 G 1 rfl rfl 16 (by decide) lk_X11_takesStart_42 rfl dX11_takesStart_99 ?_
              refine lv_iconst (v := 5) zx zb dX11_takesStart_102 (by decide) ?_
              refine lv_aload_n zx zb dX11_takesStart_103 rfl (lv_at hl 1 rfl) ?_
              refine r_get (C := RX11) (T := TX11) (N := 18) (ci := 9) (v := .ref (ma 17)) S in_X11_takesStart_X11 G 1 rfl rfl 17 (by decide) lk_X11_takesStart_45 rfl dX11_takesStart_104 ?_
              refine lv_iconst (v := 0) zx zb dX11_takesStart_107 (by decide) ?_
              have vl0 : f_15c 0 = tV fd n (tN fd n s0) := by rw [hv_15, upd_ne (by decide), hv_9, upd_eq]
              have vl1 : f_15c 1 = tV fd n (t2 fd n s0) := by rw [hv_15, upd_eq]
              have eiv : f_15c 0 = nI jv := vl0.trans etv
              refine r_iald (v := nI jv) S G 3 rfl (k_vp (by decide)) eiv dX11_takesStart_108 ?_
              refine r_iadd (v := (nI (5 + jv))) S (nI_add 5 jv) dX11_takesStart_109 ?_
              refine lv_aload_n zx zb dX11_takesStart_110 rfl (lv_at hl 1 rfl) ?_
              refine r_get (C := RX11) (T := TX11) (N := 18) (ci := 9) (v := .ref (ma 17)) S in_X11_takesStart_X11 G 1 rfl rfl 17 (by decide) lk_X11_takesStart_45 rfl dX11_takesStart_111 ?_
              refine lv_iconst (v := 1) zx zb dX11_takesStart_114 (by decide) ?_
              refine r_iald (v := (f_15c 1)) S G 3 rfl (k_vp (by decide)) rfl dX11_takesStart_115 ?_
              refine r_iast S G 0 rfl (vp_in_nI (by omega) (by decide)) dX11_takesStart_116 (fun H locs G => ?_)
              obtain ⟨f_18, hI_f_18, hE_f_18, G⟩ : ∃ f_18 : Nat → Int32, InA f_18 w0 w1 w2 w3 w4 ∧ f_18 = upd fw (nI (5 + jv)).toNatClampNeg (f_15c 1) ∧ wd X (va_A (@HAppend.hAppend va_W va_W va_W _ (mW m0 ma la lb n t v) (@HAppend.hAppend va_W va_W va_W _ ([((ma 10), .inl (X.2.1, 150, .inl fd))]) (@HAppend.hAppend va_W va_W va_W _ ([((ma 17), .inl (X.2.1, 3, .inl fv))]) ([((ma 16), .inl (X.2.1, 123, .inl fw))])))) sz) (va_A (@HAppend.hAppend va_W va_W va_W _ (mW m0 ma la lb n t v) (@HAppend.hAppend va_W va_W va_W _ ([((ma 10), .inl (X.2.1, 150, .inl fd))]) (@HAppend.hAppend va_W va_W va_W _ ([((ma 17), .inl (X.2.1, 3, .inl fv))]) ([((ma 16), .inl (X.2.1, 123, .inl fw))])))) sz) s (@HAppend.hAppend va_W va_W va_W _ ([((ma 16), .inl (X.2.1, 123, .inl f_18))]) (@HAppend.hAppend va_W va_W va_W _ (mW m0 ma la lb n t_15a v_15b) (@HAppend.hAppend va_W va_W va_W _ ([((ma 10), .inl (X.2.1, 150, .inl fd))]) ([((ma 17), .inl (X.2.1, 3, .inl f_15c))])))) H locs := ⟨_, InA_o hI_fw (by rw [nI_clamp (by omega)]; omega), rfl, G⟩
              refine lv_iconst (v := 1) zx zb dX11_takesStart_117 (by decide) ?_
              rw [hms] at hn_15
              have hz : RepM sv (upd dv (11 + 5 * (tV fd n (tN fd n s0)).toNatClampNeg) (tV fd n (t2 fd n s0))) w0 f_18 := by rw [hc0, hE_f_18, nI_clamp (by omega), vl1]; exact RepM_u (by omega) hjv (Or.inr ⟨rfl, rfl⟩) hR
              exact e_int S zr zlk (by decide) G (t_15a, v_15b, f_15c, f_18) [1, 2, 3, 0] rfl rfl (Or.inr rfl) (⟨hI_t_15a, hI_f_18, Or.inl ⟨rfl, by rw [staC, chk_t (numB_t.mpr hnA), chk_t (decide_eq_true (by rw [hc0]; exact (RepM_hm hR hjv).mpr hh_6)), chk_t (numB_t.mpr hn_15)], hk_15, hz⟩⟩) dX11_takesStart_118
            · have hn_15 : ¬ numP fd n (t2 fd n s0) 0 (if (fw 36) ≤ 30 then ((fw 36) - 1) else 30) := hn_15
              refine lv_if_ne (tgt := 98) zx zb dX11_takesStart_93 (by decide) (fun c_19 => absurd (by decide) c_19) (fun c_19 => ?_)
              refine lv_iconst (v := 0) zx zb dX11_takesStart_96 (by decide) ?_
              rw [hms] at hn_15
              exact e_int S zr zlk (by decide) G (t_15a, v_15b, f_15c, fw) [1, 2, 3, 0] rfl rfl (Or.inr rfl) (⟨hI_t_15a, hI_fw, Or.inr ⟨rfl, _, by rw [staC, chk_t (numB_t.mpr hnA), chk_t (decide_eq_true (by rw [hc0]; exact (RepM_hm hR hjv).mpr hh_6)), chk_f (numB_f hn_15)], hf_15⟩⟩) dX11_takesStart_97
        · have hn_9 : ¬ numP fd n (tN fd n s0) 0 5 := hn_9
          refine lv_if_ne (tgt := 59) zx zb dX11_takesStart_54 (by decide) (fun c_20 => absurd (by decide) c_20) (fun c_20 => ?_)
          refine lv_iconst (v := 0) zx zb dX11_takesStart_57 (by decide) ?_
          exact e_int S zr zlk (by decide) G (t_9a, v_9b, f_9c, fw) [1, 2, 3, 0] rfl rfl (Or.inr rfl) (⟨hI_t_9a, hI_fw, by exact absurd ⟨hd2, by rw [etv]; exact nI_pos' (by first | omega | (dsimp only; omega)), by rw [etv]; exact nI_le (b := 5) (by first | omega | (dsimp only; omega)) (by decide)⟩ hn_9⟩) dX11_takesStart_58
    · refine lv_if_eq (tgt := 57) zx zb dX11_takesStart_30 (by decide) (fun c_21 => ?_) (fun c_21 => absurd (by decide) c_21)
      refine lv_iconst (v := 0) zx zb dX11_takesStart_57 (by decide) ?_
      exact e_int S zr zlk (by decide) G (t_1a, v_1b, fv, fw) [2, 3, 0, 1] rfl rfl (Or.inr rfl) (⟨hI_t_1a, hI_fw, Or.inr ⟨rfl, _, by rw [staC, chk_f (numB_f (fun h => hw_4 ⟨by rw [hq3 h.1]; exact h.2.1, by rw [hq3 h.1]; exact h.2.2⟩))], hq0⟩⟩) dX11_takesStart_58
set_option maxHeartbeats 4000000 in
set_option maxRecDepth 100000 in
theorem y_takesGo (l : Launch) (X : EX) (m0 : Nat) (ma : Nat → Nat) (la : Int64) (lb : Int64) (n : Nat) (t : Nat → Nat) (v : Nat → Int32) (fd : Nat → Int32) (fv : Nat → Int32) (fw : Nat → Int32) (w0 : Nat) (w1 : Nat) (w2 : Nat) (w3 : Nat) (w4 : Nat) (sv : Nat → Int32) (dv : Nat → Int32) (s0 : Nat) (tk : Nat) (hI_n : n ≤ 150) (hI_t : InT t) (hI_fw : InA fw w0 w1 w2 w3 w4) (hK : tkM fd n t v s0) (hR : RepM sv dv w0 fw) (ht : dv 1 = nI tk) (hk : tk ≤ 9000) (sz : Nat) : Met l yX11_takesGo wsX11_takesGo ({ frames := 5, cells := 0, slots := 0, locals := 115 } : Room) (pE X [.ref m0] (@HAppend.hAppend va_W va_W va_W _ (mW m0 ma la lb n t v) (@HAppend.hAppend va_W va_W va_W _ ([((ma 10), .inl (X.2.1, 150, .inl fd))]) (@HAppend.hAppend va_W va_W va_W _ ([((ma 17), .inl (X.2.1, 3, .inl fv))]) ([((ma 16), .inl (X.2.1, 123, .inl fw))])))) sz) (qI (fun (r : Int32) (u : (Nat → Nat) × (Nat → Int32) × (Nat → Int32) × (Nat → Int32)) => InT u.1 ∧ InA u.2.2.2 w0 w1 w2 w3 w4 ∧ ((r = 1 ∧ goC fd n s0 = chk [(stpB fd n (t2 fd n s0), t2 fd n s0)] ∧ tkM fd n u.1 u.2.1 (t2 fd n s0) ∧ RepM sv (gI sv w0 dv (tV fd n (tN fd n s0)).toNatClampNeg) w0 u.2.2.2) ∨ (r = 0 ∧ ∃ p : Nat, goC fd n s0 = some p ∧ u.1 0 = p))) X (fun (u : (Nat → Nat) × (Nat → Int32) × (Nat → Int32) × (Nat → Int32)) => @HAppend.hAppend va_W va_W va_W _ (mW m0 ma la lb n u.1 u.2.1) (@HAppend.hAppend va_W va_W va_W _ ([((ma 10), .inl (X.2.1, 150, .inl fd))]) (@HAppend.hAppend va_W va_W va_W _ ([((ma 17), .inl (X.2.1, 3, .inl u.2.2.1))]) ([((ma 16), .inl (X.2.1, 123, .inl u.2.2.2))])))) (@HAppend.hAppend va_W va_W va_W _ (mW m0 ma la lb n t v) (@HAppend.hAppend va_W va_W va_W _ ([((ma 10), .inl (X.2.1, 150, .inl fd))]) (@HAppend.hAppend va_W va_W va_W _ ([((ma 17), .inl (X.2.1, 3, .inl fv))]) ([((ma 16), .inl (X.2.1, 123, .inl fw))])))) sz) 0 0 (va_A (@HAppend.hAppend va_W va_W va_W _ (mW m0 ma la lb n t v) (@HAppend.hAppend va_W va_W va_W _ ([((ma 10), .inl (X.2.1, 150, .inl fd))]) (@HAppend.hAppend va_W va_W va_W _ ([((ma 17), .inl (X.2.1, 3, .inl fv))]) ([((ma 16), .inl (X.2.1, 123, .inl fw))])))) sz) := by
  refine mk_met (B := (va_A (@HAppend.hAppend va_W va_W va_W _ (mW m0 ma la lb n t v) (@HAppend.hAppend va_W va_W va_W _ ([((ma 10), .inl (X.2.1, 150, .inl fd))]) (@HAppend.hAppend va_W va_W va_W _ ([((ma 17), .inl (X.2.1, 3, .inl fv))]) ([((ma 16), .inl (X.2.1, 123, .inl fw))])))) sz)) (A := (va_A (@HAppend.hAppend va_W va_W va_W _ (mW m0 ma la lb n t v) (@HAppend.hAppend va_W va_W va_W _ ([((ma 10), .inl (X.2.1, 150, .inl fd))]) (@HAppend.hAppend va_W va_W va_W _ ([((ma 17), .inl (X.2.1, 3, .inl fv))]) ([((ma 16), .inl (X.2.1, 123, .inl fw))])))) sz)) (cc := cX11_takesGo) (maxL := 1) (ret := (some .boolean)) (by decide) rfl (Nat.le_of_ble_eq_true rfl) k_w k_a (fun p e s m below meth c S zr zlk znm zsz G ls hl => ?_)
  have S : CallFix p m c cX11_takesGo 1 s _ wsX11_takesGo RX11 := S
  have zx := S.1
  have zb := S.2.1
  have hl : lv_has ls 1 [(0, .ref m0)] := hl
  have hO_t := hI_t
  obtain ⟨ht0_t, ht1_t⟩ := hO_t
  have hO_fw := hI_fw.2
  obtain ⟨hm0_fw, hm1_fw, hm2_fw, hm3_fw, hm4_fw⟩ := hO_fw
  obtain ⟨hK0, hK1, hK2, hK3, hK4⟩ := hK
  have hTe := tE_le (T := fd) (n := n) (s := s0) hK4
  have hT0 : tE fd n s0 ≤ tN fd n s0 ∧ tN fd n s0 ≤ n := tN_le hK4
  have hT1 : tE fd n (tN fd n s0) ≤ t2 fd n s0 ∧ t2 fd n s0 ≤ n := tN_le hT0.2
  have hT2 : tE fd n (t2 fd n s0) ≤ t3 fd n s0 ∧ t3 fd n s0 ≤ n := tN_le hT1.2
  have hT3 : tE fd n (t3 fd n s0) ≤ t4 fd n s0 ∧ t4 fd n s0 ≤ n := tN_le hT2.2
  refine lv_aload_n zx zb dX11_takesGo_0 rfl (lv_at hl 0 rfl) ?_
  refine b_wv (cells' := 0) (slots' := 0) (wr := @HAppend.hAppend va_W va_W va_W _ ([((ma 17), .inl (X.2.1, 3, .inl fv))]) ([((ma 16), .inl (X.2.1, 123, .inl fw))])) G rfl rfl [0, 1] [2, 3] rfl rfl rfl rfl (n_V (As := []) (rest := []) (C := RX11) (T := TX11) (N := 18) (ci := 9) S G (y_goBehind l X m0 ma la lb n t v fd s0 hI_n hI_t ⟨hK0, hK1, hK2, hK3, hK4⟩ s.heap.size) gX11_takesGo_X11_goBehind rfl rfl rfl hdV_X11_goBehind ⟨Nat.le_of_ble_eq_true rfl, Nat.le_of_ble_eq_true rfl⟩ [0, 1] rfl rfl 0 rfl rfl rfl hl.1 (Nat.le_of_ble_eq_true rfl) dX11_takesGo_1 ⟨Nat.le_of_ble_eq_true rfl, Nat.le_of_ble_eq_true rfl⟩) (fun u_1 H locs hp_1 G => ?_)
  obtain ⟨t_1a, v_1b⟩ := u_1
  try dsimp only at hp_1
  obtain ⟨hI_t_1a, hq_1⟩ := hp_1
  have hO_t_1a := hI_t_1a
  obtain ⟨ht0_t_1a, ht1_t_1a⟩ := hO_t_1a
  have G : wd X (va_A (@HAppend.hAppend va_W va_W va_W _ (mW m0 ma la lb n t v) (@HAppend.hAppend va_W va_W va_W _ ([((ma 10), .inl (X.2.1, 150, .inl fd))]) (@HAppend.hAppend va_W va_W va_W _ ([((ma 17), .inl (X.2.1, 3, .inl fv))]) ([((ma 16), .inl (X.2.1, 123, .inl fw))])))) sz) (va_A (@HAppend.hAppend va_W va_W va_W _ (mW m0 ma la lb n t v) (@HAppend.hAppend va_W va_W va_W _ ([((ma 10), .inl (X.2.1, 150, .inl fd))]) (@HAppend.hAppend va_W va_W va_W _ ([((ma 17), .inl (X.2.1, 3, .inl fv))]) ([((ma 16), .inl (X.2.1, 123, .inl fw))])))) sz) s (@HAppend.hAppend va_W va_W va_W _ ([((ma 17), .inl (X.2.1, 3, .inl fv))]) (@HAppend.hAppend va_W va_W va_W _ ([((ma 16), .inl (X.2.1, 123, .inl fw))]) (@HAppend.hAppend va_W va_W va_W _ (mW m0 ma la lb n t_1a v_1b) ([((ma 10), .inl (X.2.1, 150, .inl fd))])))) H locs := G
  have hk_1 : tkM fd n t_1a v_1b (tN fd n s0) := hq_1
  refine lv_aload_n zx zb dX11_takesGo_4 rfl (lv_at hl 0 rfl) ?_
  refine lv_iconst (v := 0) zx zb dX11_takesGo_5 (by decide) ?_
  refine lv_iconst (v := 1) zx zb dX11_takesGo_6 (by decide) ?_
  refine lv_bipush (v := 99) zx zb dX11_takesGo_7 (by decide) ?_
  refine b_wi (cells' := 0) (slots' := 0) (wr := [((ma 16), .inl (X.2.1, 123, .inl fw))]) G rfl rfl [2, 3, 0] [1] rfl rfl rfl rfl (n_V (As := [.int 0, .int 1, .int 99]) (rest := []) (C := RX11) (T := TX11) (N := 18) (ci := 9) S G (y_takes0 l X m0 ma la lb n t_1a v_1b fd fv 1 99 (tN fd n s0) hI_n hI_t_1a hk_1 H.size) gX11_takesGo_X11_takes rfl rfl rfl hdV_X11_takes ⟨Nat.le_of_ble_eq_true rfl, Nat.le_of_ble_eq_true rfl⟩ [2, 3, 0] rfl rfl 2 rfl rfl rfl hl.1 (Nat.le_of_ble_eq_true rfl) dX11_takesGo_9 ⟨Nat.le_of_ble_eq_true rfl, Nat.le_of_ble_eq_true rfl⟩) (fun r_2 u_2 H locs hp_2 G => ?_)
  obtain ⟨t_2a, v_2b, f_2c⟩ := u_2
  try dsimp only at hp_2
  obtain ⟨hI_t_2a, hq_2⟩ := hp_2
  have hO_t_2a := hI_t_2a
  obtain ⟨ht0_t_2a, ht1_t_2a⟩ := hO_t_2a
  have G : wd X (va_A (@HAppend.hAppend va_W va_W va_W _ (mW m0 ma la lb n t v) (@HAppend.hAppend va_W va_W va_W _ ([((ma 10), .inl (X.2.1, 150, .inl fd))]) (@HAppend.hAppend va_W va_W va_W _ ([((ma 17), .inl (X.2.1, 3, .inl fv))]) ([((ma 16), .inl (X.2.1, 123, .inl fw))])))) sz) (va_A (@HAppend.hAppend va_W va_W va_W _ (mW m0 ma la lb n t v) (@HAppend.hAppend va_W va_W va_W _ ([((ma 10), .inl (X.2.1, 150, .inl fd))]) (@HAppend.hAppend va_W va_W va_W _ ([((ma 17), .inl (X.2.1, 3, .inl fv))]) ([((ma 16), .inl (X.2.1, 123, .inl fw))])))) sz) s (@HAppend.hAppend va_W va_W va_W _ ([((ma 16), .inl (X.2.1, 123, .inl fw))]) (@HAppend.hAppend va_W va_W va_W _ (mW m0 ma la lb n t_2a v_2b) (@HAppend.hAppend va_W va_W va_W _ ([((ma 10), .inl (X.2.1, 150, .inl fd))]) ([((ma 17), .inl (X.2.1, 3, .inl f_2c))])))) H locs := G
  rcases hq_2 with ⟨rfl, hn_2, hk_2, hv_2⟩ | ⟨rfl, hn_2, hf_2⟩
  · have hn_2 : numP fd n (tN fd n s0) 1 99 := hn_2
    have hk_2 : tkM fd n t_2a v_2b (t2 fd n s0) := hk_2
    refine lv_if_ne (tgt := 17) zx zb dX11_takesGo_12 (by decide) (fun c_3 => ?_) (fun c_3 => absurd c_3 (by decide))
    refine lv_aload_n zx zb dX11_takesGo_17 rfl (lv_at hl 0 rfl) ?_
    refine r_get (C := RX11) (T := TX11) (N := 18) (ci := 9) (v := .ref (ma 16)) S in_X11_takesGo_X11 G 1 rfl rfl 16 (by decide) lk_X11_takesGo_42 rfl dX11_takesGo_18 ?_
    refine lv_aload_n zx zb dX11_takesGo_21 rfl (lv_at hl 0 rfl) ?_
    refine r_get (C := RX11) (T := TX11) (N := 18) (ci := 9) (v := .ref (ma 17)) S in_X11_takesGo_X11 G 1 rfl rfl 17 (by decide) lk_X11_takesGo_45 rfl dX11_takesGo_22 ?_
    refine lv_iconst (v := 0) zx zb dX11_takesGo_25 (by decide) ?_
    have vl0 : f_2c 0 = tV fd n (tN fd n s0) := by rw [hv_2, upd_eq]
    obtain ⟨jz, ⟨hja, hjb⟩, ejz⟩ := k_natR (a := 1) (b := 99) hn_2.2 rfl rfl (by decide) (by decide)
    have eiv : f_2c 0 = nI jz := vl0.trans ejz
    have hc0 : (tV fd n (tN fd n s0)).toNatClampNeg = jz := by rw [ejz]; exact nI_clamp (by omega)
    refine r_iald (v := nI jz) S G 3 rfl (k_vp (by decide)) eiv dX11_takesGo_26 ?_
    refine b_wv (cells' := 0) (slots' := 0) (wr := @HAppend.hAppend va_W va_W va_W _ (mW m0 ma la lb n t_2a v_2b) (@HAppend.hAppend va_W va_W va_W _ ([((ma 10), .inl (X.2.1, 150, .inl fd))]) ([((ma 17), .inl (X.2.1, 3, .inl f_2c))]))) G rfl rfl [0] [1, 2, 3] rfl rfl rfl rfl (n_S (As := [.ref (ma 16), .int (nI jz)]) (rest := []) S G (y_goTicks l X (ma 16) 123 fw w0 w1 w2 w3 w4 jz sv dv tk hI_fw (by omega) (by omega) (by omega) hR ht (by omega) H.size) gX11_takesGo_X11_goTicks rfl rfl rfl hdS_X11_goTicks ⟨Nat.le_of_ble_eq_true rfl, Nat.le_of_ble_eq_true rfl⟩ [0] rfl rfl rfl hl.1 (Nat.le_of_ble_eq_true rfl) dX11_takesGo_27 ⟨Nat.le_of_ble_eq_true rfl, Nat.le_of_ble_eq_true rfl⟩) (fun u_4 H locs hp_4 G => ?_)
    obtain ⟨f_4, rfl⟩ : ∃ z, z = u_4 := ⟨_, rfl⟩
    obtain ⟨hI_f_4, hq_4⟩ := hp_4
    have G : wd X (va_A (@HAppend.hAppend va_W va_W va_W _ (mW m0 ma la lb n t v) (@HAppend.hAppend va_W va_W va_W _ ([((ma 10), .inl (X.2.1, 150, .inl fd))]) (@HAppend.hAppend va_W va_W va_W _ ([((ma 17), .inl (X.2.1, 3, .inl fv))]) ([((ma 16), .inl (X.2.1, 123, .inl fw))])))) sz) (va_A (@HAppend.hAppend va_W va_W va_W _ (mW m0 ma la lb n t v) (@HAppend.hAppend va_W va_W va_W _ ([((ma 10), .inl (X.2.1, 150, .inl fd))]) (@HAppend.hAppend va_W va_W va_W _ ([((ma 17), .inl (X.2.1, 3, .inl fv))]) ([((ma 16), .inl (X.2.1, 123, .inl fw))])))) sz) s (@HAppend.hAppend va_W va_W va_W _ (mW m0 ma la lb n t_2a v_2b) (@HAppend.hAppend va_W va_W va_W _ ([((ma 10), .inl (X.2.1, 150, .inl fd))]) (@HAppend.hAppend va_W va_W va_W _ ([((ma 17), .inl (X.2.1, 3, .inl f_2c))]) ([((ma 16), .inl (X.2.1, 123, .inl f_4))])))) H locs := G
    refine lv_iconst (v := 1) zx zb dX11_takesGo_30 (by decide) ?_
    have hz : RepM sv (gI sv w0 dv (tV fd n (tN fd n s0)).toNatClampNeg) w0 f_4 := by rw [hc0]; exact hq_4
    exact e_int S zr zlk (by decide) G (t_2a, v_2b, f_2c, f_4) [0, 1, 2, 3] rfl rfl (Or.inr rfl) (⟨hI_t_2a, hI_f_4, Or.inl ⟨rfl, by rw [goC, chk_t (numB_t.mpr hn_2)], hk_2, hz⟩⟩) dX11_takesGo_31
  · have hn_2 : ¬ numP fd n (tN fd n s0) 1 99 := hn_2
    refine lv_if_ne (tgt := 17) zx zb dX11_takesGo_12 (by decide) (fun c_5 => absurd (by decide) c_5) (fun c_5 => ?_)
    refine lv_iconst (v := 0) zx zb dX11_takesGo_15 (by decide) ?_
    exact e_int S zr zlk (by decide) G (t_2a, v_2b, f_2c, fw) [1, 2, 3, 0] rfl rfl (Or.inr rfl) (⟨hI_t_2a, hI_fw, Or.inr ⟨rfl, _, by rw [goC, chk_f (numB_f hn_2)], hf_2⟩⟩) dX11_takesGo_16
set_option maxHeartbeats 4000000 in
set_option maxRecDepth 100000 in
theorem y_takesItem (l : Launch) (X : EX) (m0 : Nat) (ma : Nat → Nat) (la : Int64) (lb : Int64) (n : Nat) (t : Nat → Nat) (v : Nat → Int32) (fd : Nat → Int32) (fv : Nat → Int32) (fw : Nat → Int32) (w0 : Nat) (w1 : Nat) (w2 : Nat) (w3 : Nat) (w4 : Nat) (sv : Nat → Int32) (dv : Nat → Int32) (s0 : Nat) (tk : Nat) (hI_n : n ≤ 150) (hI_t : InT t) (hI_fw : InA fw w0 w1 w2 w3 w4) (hK : tkM fd n t v s0) (hR : RepM sv dv w0 fw) (hL : 10 ≤ dv 0 ∧ dv 0 ≤ 60) (ht : dv 1 = nI tk) (hk : tk ≤ 9000) (sz : Nat) : Met l yX11_takesItem wsX11_takesItem ({ frames := 6, cells := 0, slots := 0, locals := 135 } : Room) (pE X [.ref m0] (@HAppend.hAppend va_W va_W va_W _ (mW m0 ma la lb n t v) (@HAppend.hAppend va_W va_W va_W _ ([((ma 10), .inl (X.2.1, 150, .inl fd))]) (@HAppend.hAppend va_W va_W va_W _ ([((ma 17), .inl (X.2.1, 3, .inl fv))]) ([((ma 16), .inl (X.2.1, 123, .inl fw))])))) sz) (qI (fun (r : Int32) (u : (Nat → Nat) × (Nat → Int32) × (Nat → Int32) × (Nat → Int32) × (Nat)) => InT u.1 ∧ InA u.2.2.2.1 u.2.2.2.2 w1 w2 w3 w4 ∧ ((r = 1 ∧ itF fd n s0 w0 dv = chk [(stpB fd n (itT fd n s0 w0), itT fd n s0 w0)] ∧ tkM fd n u.1 u.2.1 (itT fd n s0 w0) ∧ u.2.2.2.2 = itN fd n s0 w0 ∧ RepM (itS fd n s0 w0 sv) (itD fd n s0 w0 sv dv) (itN fd n s0 w0) u.2.2.2.1) ∨ (r = 0 ∧ ∃ p : Nat, itF fd n s0 w0 dv = some p ∧ u.1 0 = p))) X (fun (u : (Nat → Nat) × (Nat → Int32) × (Nat → Int32) × (Nat → Int32) × (Nat)) => @HAppend.hAppend va_W va_W va_W _ (mW m0 ma la lb n u.1 u.2.1) (@HAppend.hAppend va_W va_W va_W _ ([((ma 10), .inl (X.2.1, 150, .inl fd))]) (@HAppend.hAppend va_W va_W va_W _ ([((ma 17), .inl (X.2.1, 3, .inl u.2.2.1))]) ([((ma 16), .inl (X.2.1, 123, .inl u.2.2.2.1))])))) (@HAppend.hAppend va_W va_W va_W _ (mW m0 ma la lb n t v) (@HAppend.hAppend va_W va_W va_W _ ([((ma 10), .inl (X.2.1, 150, .inl fd))]) (@HAppend.hAppend va_W va_W va_W _ ([((ma 17), .inl (X.2.1, 3, .inl fv))]) ([((ma 16), .inl (X.2.1, 123, .inl fw))])))) sz) 0 0 (va_A (@HAppend.hAppend va_W va_W va_W _ (mW m0 ma la lb n t v) (@HAppend.hAppend va_W va_W va_W _ ([((ma 10), .inl (X.2.1, 150, .inl fd))]) (@HAppend.hAppend va_W va_W va_W _ ([((ma 17), .inl (X.2.1, 3, .inl fv))]) ([((ma 16), .inl (X.2.1, 123, .inl fw))])))) sz) := by
  refine mk_met (B := (va_A (@HAppend.hAppend va_W va_W va_W _ (mW m0 ma la lb n t v) (@HAppend.hAppend va_W va_W va_W _ ([((ma 10), .inl (X.2.1, 150, .inl fd))]) (@HAppend.hAppend va_W va_W va_W _ ([((ma 17), .inl (X.2.1, 3, .inl fv))]) ([((ma 16), .inl (X.2.1, 123, .inl fw))])))) sz)) (A := (va_A (@HAppend.hAppend va_W va_W va_W _ (mW m0 ma la lb n t v) (@HAppend.hAppend va_W va_W va_W _ ([((ma 10), .inl (X.2.1, 150, .inl fd))]) (@HAppend.hAppend va_W va_W va_W _ ([((ma 17), .inl (X.2.1, 3, .inl fv))]) ([((ma 16), .inl (X.2.1, 123, .inl fw))])))) sz)) (cc := cX11_takesItem) (maxL := 1) (ret := (some .boolean)) (by decide) rfl (Nat.le_of_ble_eq_true rfl) k_w k_a (fun p e s m below meth c S zr zlk znm zsz G ls hl => ?_)
  have S : CallFix p m c cX11_takesItem 1 s _ wsX11_takesItem RX11 := S
  have zx := S.1
  have zb := S.2.1
  have hl : lv_has ls 1 [(0, .ref m0)] := hl
  have hO_t := hI_t
  obtain ⟨ht0_t, ht1_t⟩ := hO_t
  have hO_fw := hI_fw.2
  obtain ⟨hm0_fw, hm1_fw, hm2_fw, hm3_fw, hm4_fw⟩ := hO_fw
  obtain ⟨hK0, hK1, hK2, hK3, hK4⟩ := hK
  have hTe := tE_le (T := fd) (n := n) (s := s0) hK4
  refine lv_aload_n zx zb dX11_takesItem_0 rfl (lv_at hl 0 rfl) ?_
  refine lv_iconst (v := 3) zx zb dX11_takesItem_1 (by decide) ?_
  refine lv_bipush (v := 111) zx zb dX11_takesItem_2 (by decide) ?_
  refine lv_bipush (v := 110) zx zb dX11_takesItem_4 (by decide) ?_
  refine lv_bipush (v := 101) zx zb dX11_takesItem_6 (by decide) ?_
  refine lv_iconst (v := 0) zx zb dX11_takesItem_8 (by decide) ?_
  refine lv_iconst (v := 0) zx zb dX11_takesItem_9 (by decide) ?_
  refine lv_iconst (v := 0) zx zb dX11_takesItem_10 (by decide) ?_
  refine o_ri (cells' := 0) (slots' := 0) G rfl rfl (n_V (As := [.int 3, .int 111, .int 110, .int 101, .int 0, .int 0, .int 0]) (rest := []) (C := RX11) (T := TX11) (N := 18) (ci := 9) S G (y_spells1 l X m0 ma la lb n t v fd s0 hI_n hI_t ⟨hK0, hK1, hK2, hK3, hK4⟩ s.heap.size) gX11_takesItem_X11_spells rfl rfl rfl hdV_X11_spells ⟨Nat.le_of_ble_eq_true rfl, Nat.le_of_ble_eq_true rfl⟩ [0, 1] rfl rfl 0 rfl rfl rfl hl.1 (Nat.le_of_ble_eq_true rfl) dX11_takesItem_11 ⟨Nat.le_of_ble_eq_true rfl, Nat.le_of_ble_eq_true rfl⟩) (fun r_1 u_1 H locs hp_1 G => ?_)
  have G : wd X (va_A (@HAppend.hAppend va_W va_W va_W _ (mW m0 ma la lb n t v) (@HAppend.hAppend va_W va_W va_W _ ([((ma 10), .inl (X.2.1, 150, .inl fd))]) (@HAppend.hAppend va_W va_W va_W _ ([((ma 17), .inl (X.2.1, 3, .inl fv))]) ([((ma 16), .inl (X.2.1, 123, .inl fw))])))) sz) (va_A (@HAppend.hAppend va_W va_W va_W _ (mW m0 ma la lb n t v) (@HAppend.hAppend va_W va_W va_W _ ([((ma 10), .inl (X.2.1, 150, .inl fd))]) (@HAppend.hAppend va_W va_W va_W _ ([((ma 17), .inl (X.2.1, 3, .inl fv))]) ([((ma 16), .inl (X.2.1, 123, .inl fw))])))) sz) s (@HAppend.hAppend va_W va_W va_W _ (mW m0 ma la lb n t v) (@HAppend.hAppend va_W va_W va_W _ ([((ma 10), .inl (X.2.1, 150, .inl fd))]) (@HAppend.hAppend va_W va_W va_W _ ([((ma 17), .inl (X.2.1, 3, .inl fv))]) ([((ma 16), .inl (X.2.1, 123, .inl fw))])))) H locs := G
  rcases hp_1 with ⟨rfl, hw_1⟩ | ⟨rfl, hw_1⟩
  · refine lv_if_eq (tgt := 22) zx zb dX11_takesItem_14 (by decide) (fun c_2 => absurd c_2 (by decide)) (fun c_2 => ?_)
    refine lv_aload_n zx zb dX11_takesItem_17 rfl (lv_at hl 0 rfl) ?_
    refine b_wi (cells' := 0) (slots' := 0) (wr := []) G rfl rfl [0, 1, 2, 3] [] rfl rfl rfl rfl (n_V (As := []) (rest := []) (C := RX11) (T := TX11) (N := 18) (ci := 9) S G (y_takesOne l X m0 ma la lb n t v fd fv fw w0 w1 w2 w3 w4 sv dv s0 hI_n hI_t hI_fw ⟨hK0, hK1, hK2, hK3, hK4⟩ hR H.size) gX11_takesItem_X11_takesOne rfl rfl rfl hdV_X11_takesOne ⟨Nat.le_of_ble_eq_true rfl, Nat.le_of_ble_eq_true rfl⟩ [0, 1, 2, 3] rfl rfl 0 rfl rfl rfl hl.1 (Nat.le_of_ble_eq_true rfl) dX11_takesItem_18 ⟨Nat.le_of_ble_eq_true rfl, Nat.le_of_ble_eq_true rfl⟩) (fun r_3 u_3 H locs hp_3 G => ?_)
    obtain ⟨t_3a, v_3b, f_3c, f_3d, c0_3e⟩ := u_3
    try dsimp only at hp_3
    obtain ⟨hI_t_3a, hI_f_3d, hq_3⟩ := hp_3
    have hO_t_3a := hI_t_3a
    obtain ⟨ht0_t_3a, ht1_t_3a⟩ := hO_t_3a
    have hO_f_3d := hI_f_3d.2
    obtain ⟨hm0_f_3d, hm1_f_3d, hm2_f_3d, hm3_f_3d, hm4_f_3d⟩ := hO_f_3d
    have G : wd X (va_A (@HAppend.hAppend va_W va_W va_W _ (mW m0 ma la lb n t v) (@HAppend.hAppend va_W va_W va_W _ ([((ma 10), .inl (X.2.1, 150, .inl fd))]) (@HAppend.hAppend va_W va_W va_W _ ([((ma 17), .inl (X.2.1, 3, .inl fv))]) ([((ma 16), .inl (X.2.1, 123, .inl fw))])))) sz) (va_A (@HAppend.hAppend va_W va_W va_W _ (mW m0 ma la lb n t v) (@HAppend.hAppend va_W va_W va_W _ ([((ma 10), .inl (X.2.1, 150, .inl fd))]) (@HAppend.hAppend va_W va_W va_W _ ([((ma 17), .inl (X.2.1, 3, .inl fv))]) ([((ma 16), .inl (X.2.1, 123, .inl fw))])))) sz) s (@HAppend.hAppend va_W va_W va_W _ (mW m0 ma la lb n t_3a v_3b) (@HAppend.hAppend va_W va_W va_W _ ([((ma 10), .inl (X.2.1, 150, .inl fd))]) (@HAppend.hAppend va_W va_W va_W _ ([((ma 17), .inl (X.2.1, 3, .inl f_3c))]) ([((ma 16), .inl (X.2.1, 123, .inl f_3d))])))) H locs := G
    rcases hq_3 with ⟨rfl, ho0_3, ho1_3, ho2_3, ho3_3, ho4_3⟩ | ⟨rfl, ho0_3, pp_3, ho1_3, ho2_3⟩ | ⟨rfl, ho0_3, ho1_3⟩
    · have hkd : kindI fd n s0 w0 = 1 := kI_1 hw_1.1 (wrd_ne hw_1.2 (by decide)) hw_1.2 ho0_3
      have hit := it_1 (sv := sv) (dv := dv) hkd
      have hz1 : itF fd n s0 w0 dv = chk [(stpB fd n (itT fd n s0 w0), itT fd n s0 w0)] := by rw [hit.1, hit.2.1]; exact ho1_3
      have hz2 : tkM fd n t_3a v_3b (itT fd n s0 w0) := by rw [hit.2.1]; exact ho2_3
      have hz3 : c0_3e = itN fd n s0 w0 := by rw [hit.2.2.1]; exact ho3_3
      have hz4 : RepM (itS fd n s0 w0 sv) (itD fd n s0 w0 sv dv) (itN fd n s0 w0) f_3d := by rw [hit.2.2.1, hit.2.2.2.1, hit.2.2.2.2]; exact ho4_3
      exact e_int S zr zlk (by decide) G (t_3a, v_3b, f_3c, f_3d, c0_3e) [0, 1, 2, 3] rfl rfl (Or.inr rfl) (⟨hI_t_3a, hI_f_3d, Or.inl ⟨rfl, hz1, hz2, hz3, hz4⟩⟩) dX11_takesItem_21
    · have hkd : kindI fd n s0 w0 = 1 := kI_1 hw_1.1 (wrd_ne hw_1.2 (by decide)) hw_1.2 ho0_3
      have hit := it_1 (sv := sv) (dv := dv) hkd
      exact e_int S zr zlk (by decide) G (t_3a, v_3b, f_3c, f_3d, c0_3e) [0, 1, 2, 3] rfl rfl (Or.inr rfl) (⟨hI_t_3a, hI_f_3d, Or.inr ⟨rfl, _, hit.1.trans ho1_3, ho2_3⟩⟩) dX11_takesItem_21
    · exact e_int S zr zlk (by decide) G (t_3a, v_3b, f_3c, f_3d, c0_3e) [0, 1, 2, 3] rfl rfl (Or.inr rfl) (⟨hI_t_3a, hI_f_3d, Or.inr ⟨rfl, _, it_0 (kI_6 hw_1.1 hw_1.2 ho0_3), ho1_3⟩⟩) dX11_takesItem_21
  · refine lv_if_eq (tgt := 22) zx zb dX11_takesItem_14 (by decide) (fun c_4 => ?_) (fun c_4 => absurd (by decide) c_4)
    refine lv_aload_n zx zb dX11_takesItem_22 rfl (lv_at hl 0 rfl) ?_
    refine lv_iconst (v := 5) zx zb dX11_takesItem_23 (by decide) ?_
    refine lv_bipush (v := 115) zx zb dX11_takesItem_24 (by decide) ?_
    refine lv_bipush (v := 112) zx zb dX11_takesItem_26 (by decide) ?_
    refine lv_bipush (v := 101) zx zb dX11_takesItem_28 (by decide) ?_
    refine lv_bipush (v := 101) zx zb dX11_takesItem_30 (by decide) ?_
    refine lv_bipush (v := 100) zx zb dX11_takesItem_32 (by decide) ?_
    refine lv_iconst (v := 0) zx zb dX11_takesItem_34 (by decide) ?_
    refine o_ri (cells' := 0) (slots' := 0) G rfl rfl (n_V (As := [.int 5, .int 115, .int 112, .int 101, .int 101, .int 100, .int 0]) (rest := []) (C := RX11) (T := TX11) (N := 18) (ci := 9) S G (y_spells2 l X m0 ma la lb n t v fd s0 hI_n hI_t ⟨hK0, hK1, hK2, hK3, hK4⟩ H.size) gX11_takesItem_X11_spells rfl rfl rfl hdV_X11_spells ⟨Nat.le_of_ble_eq_true rfl, Nat.le_of_ble_eq_true rfl⟩ [0, 1] rfl rfl 0 rfl rfl rfl hl.1 (Nat.le_of_ble_eq_true rfl) dX11_takesItem_35 ⟨Nat.le_of_ble_eq_true rfl, Nat.le_of_ble_eq_true rfl⟩) (fun r_5 u_5 H locs hp_5 G => ?_)
    have G : wd X (va_A (@HAppend.hAppend va_W va_W va_W _ (mW m0 ma la lb n t v) (@HAppend.hAppend va_W va_W va_W _ ([((ma 10), .inl (X.2.1, 150, .inl fd))]) (@HAppend.hAppend va_W va_W va_W _ ([((ma 17), .inl (X.2.1, 3, .inl fv))]) ([((ma 16), .inl (X.2.1, 123, .inl fw))])))) sz) (va_A (@HAppend.hAppend va_W va_W va_W _ (mW m0 ma la lb n t v) (@HAppend.hAppend va_W va_W va_W _ ([((ma 10), .inl (X.2.1, 150, .inl fd))]) (@HAppend.hAppend va_W va_W va_W _ ([((ma 17), .inl (X.2.1, 3, .inl fv))]) ([((ma 16), .inl (X.2.1, 123, .inl fw))])))) sz) s (@HAppend.hAppend va_W va_W va_W _ (mW m0 ma la lb n t v) (@HAppend.hAppend va_W va_W va_W _ ([((ma 10), .inl (X.2.1, 150, .inl fd))]) (@HAppend.hAppend va_W va_W va_W _ ([((ma 17), .inl (X.2.1, 3, .inl fv))]) ([((ma 16), .inl (X.2.1, 123, .inl fw))])))) H locs := G
    rcases hp_5 with ⟨rfl, hw_5⟩ | ⟨rfl, hw_5⟩
    · refine lv_if_eq (tgt := 46) zx zb dX11_takesItem_38 (by decide) (fun c_6 => absurd c_6 (by decide)) (fun c_6 => ?_)
      refine lv_aload_n zx zb dX11_takesItem_41 rfl (lv_at hl 0 rfl) ?_
      refine b_wi (cells' := 0) (slots' := 0) (wr := []) G rfl rfl [0, 1, 2, 3] [] rfl rfl rfl rfl (n_V (As := []) (rest := []) (C := RX11) (T := TX11) (N := 18) (ci := 9) S G (y_takesSpeed l X m0 ma la lb n t v fd fv fw w0 w1 w2 w3 w4 sv dv s0 hI_n hI_t hI_fw ⟨hK0, hK1, hK2, hK3, hK4⟩ hR H.size) gX11_takesItem_X11_takesSpeed rfl rfl rfl hdV_X11_takesSpeed ⟨Nat.le_of_ble_eq_true rfl, Nat.le_of_ble_eq_true rfl⟩ [0, 1, 2, 3] rfl rfl 0 rfl rfl rfl hl.1 (Nat.le_of_ble_eq_true rfl) dX11_takesItem_42 ⟨Nat.le_of_ble_eq_true rfl, Nat.le_of_ble_eq_true rfl⟩) (fun r_7 u_7 H locs hp_7 G => ?_)
      obtain ⟨t_7a, v_7b, f_7c, f_7d⟩ := u_7
      try dsimp only at hp_7
      obtain ⟨hI_t_7a, hI_f_7d, hq_7⟩ := hp_7
      have hO_t_7a := hI_t_7a
      obtain ⟨ht0_t_7a, ht1_t_7a⟩ := hO_t_7a
      have G : wd X (va_A (@HAppend.hAppend va_W va_W va_W _ (mW m0 ma la lb n t v) (@HAppend.hAppend va_W va_W va_W _ ([((ma 10), .inl (X.2.1, 150, .inl fd))]) (@HAppend.hAppend va_W va_W va_W _ ([((ma 17), .inl (X.2.1, 3, .inl fv))]) ([((ma 16), .inl (X.2.1, 123, .inl fw))])))) sz) (va_A (@HAppend.hAppend va_W va_W va_W _ (mW m0 ma la lb n t v) (@HAppend.hAppend va_W va_W va_W _ ([((ma 10), .inl (X.2.1, 150, .inl fd))]) (@HAppend.hAppend va_W va_W va_W _ ([((ma 17), .inl (X.2.1, 3, .inl fv))]) ([((ma 16), .inl (X.2.1, 123, .inl fw))])))) sz) s (@HAppend.hAppend va_W va_W va_W _ (mW m0 ma la lb n t_7a v_7b) (@HAppend.hAppend va_W va_W va_W _ ([((ma 10), .inl (X.2.1, 150, .inl fd))]) (@HAppend.hAppend va_W va_W va_W _ ([((ma 17), .inl (X.2.1, 3, .inl f_7c))]) ([((ma 16), .inl (X.2.1, 123, .inl f_7d))])))) H locs := G
      rcases hq_7 with ⟨rfl, ho1_7, ho2_7, ho4_7⟩ | ⟨rfl, pp_7, ho1_7, ho2_7⟩
      · have hkd : kindI fd n s0 w0 = 2 := kI_2 hw_5.1 (wrd_ne hw_5.2 (by decide)) (fun z => hw_1 ⟨hw_5.1, z.1⟩) hw_5.2
        have hit := it_2 (sv := sv) (dv := dv) hkd
        have hz1 : itF fd n s0 w0 dv = chk [(stpB fd n (itT fd n s0 w0), itT fd n s0 w0)] := by rw [hit.1, hit.2.1]; exact ho1_7
        have hz2 : tkM fd n t_7a v_7b (itT fd n s0 w0) := by rw [hit.2.1]; exact ho2_7
        have hz3 : w0 = itN fd n s0 w0 := by rw [hit.2.2.1]
        have hz4 : RepM (itS fd n s0 w0 sv) (itD fd n s0 w0 sv dv) (itN fd n s0 w0) f_7d := by rw [hit.2.2.1, hit.2.2.2.1, hit.2.2.2.2]; exact ho4_7
        exact e_int S zr zlk (by decide) G (t_7a, v_7b, f_7c, f_7d, w0) [0, 1, 2, 3] rfl rfl (Or.inr rfl) (⟨hI_t_7a, hI_f_7d, Or.inl ⟨rfl, hz1, hz2, hz3, hz4⟩⟩) dX11_takesItem_45
      · have hkd : kindI fd n s0 w0 = 2 := kI_2 hw_5.1 (wrd_ne hw_5.2 (by decide)) (fun z => hw_1 ⟨hw_5.1, z.1⟩) hw_5.2
        have hit := it_2 (sv := sv) (dv := dv) hkd
        exact e_int S zr zlk (by decide) G (t_7a, v_7b, f_7c, f_7d, w0) [0, 1, 2, 3] rfl rfl (Or.inr rfl) (⟨hI_t_7a, hI_f_7d, Or.inr ⟨rfl, _, hit.1.trans ho1_7, ho2_7⟩⟩) dX11_takesItem_45
    · refine lv_if_eq (tgt := 46) zx zb dX11_takesItem_38 (by decide) (fun c_8 => ?_) (fun c_8 => absurd (by decide) c_8)
      refine lv_aload_n zx zb dX11_takesItem_46 rfl (lv_at hl 0 rfl) ?_
      refine lv_iconst (v := 5) zx zb dX11_takesItem_47 (by decide) ?_
      refine lv_bipush (v := 115) zx zb dX11_takesItem_48 (by decide) ?_
      refine lv_bipush (v := 116) zx zb dX11_takesItem_50 (by decide) ?_
      refine lv_bipush (v := 97) zx zb dX11_takesItem_52 (by decide) ?_
      refine lv_bipush (v := 114) zx zb dX11_takesItem_54 (by decide) ?_
      refine lv_bipush (v := 116) zx zb dX11_takesItem_56 (by decide) ?_
      refine lv_iconst (v := 0) zx zb dX11_takesItem_58 (by decide) ?_
      refine o_ri (cells' := 0) (slots' := 0) G rfl rfl (n_V (As := [.int 5, .int 115, .int 116, .int 97, .int 114, .int 116, .int 0]) (rest := []) (C := RX11) (T := TX11) (N := 18) (ci := 9) S G (y_spells3 l X m0 ma la lb n t v fd s0 hI_n hI_t ⟨hK0, hK1, hK2, hK3, hK4⟩ H.size) gX11_takesItem_X11_spells rfl rfl rfl hdV_X11_spells ⟨Nat.le_of_ble_eq_true rfl, Nat.le_of_ble_eq_true rfl⟩ [0, 1] rfl rfl 0 rfl rfl rfl hl.1 (Nat.le_of_ble_eq_true rfl) dX11_takesItem_59 ⟨Nat.le_of_ble_eq_true rfl, Nat.le_of_ble_eq_true rfl⟩) (fun r_9 u_9 H locs hp_9 G => ?_)
      have G : wd X (va_A (@HAppend.hAppend va_W va_W va_W _ (mW m0 ma la lb n t v) (@HAppend.hAppend va_W va_W va_W _ ([((ma 10), .inl (X.2.1, 150, .inl fd))]) (@HAppend.hAppend va_W va_W va_W _ ([((ma 17), .inl (X.2.1, 3, .inl fv))]) ([((ma 16), .inl (X.2.1, 123, .inl fw))])))) sz) (va_A (@HAppend.hAppend va_W va_W va_W _ (mW m0 ma la lb n t v) (@HAppend.hAppend va_W va_W va_W _ ([((ma 10), .inl (X.2.1, 150, .inl fd))]) (@HAppend.hAppend va_W va_W va_W _ ([((ma 17), .inl (X.2.1, 3, .inl fv))]) ([((ma 16), .inl (X.2.1, 123, .inl fw))])))) sz) s (@HAppend.hAppend va_W va_W va_W _ (mW m0 ma la lb n t v) (@HAppend.hAppend va_W va_W va_W _ ([((ma 10), .inl (X.2.1, 150, .inl fd))]) (@HAppend.hAppend va_W va_W va_W _ ([((ma 17), .inl (X.2.1, 3, .inl fv))]) ([((ma 16), .inl (X.2.1, 123, .inl fw))])))) H locs := G
      rcases hp_9 with ⟨rfl, hw_9⟩ | ⟨rfl, hw_9⟩
      · refine lv_if_eq (tgt := 70) zx zb dX11_takesItem_62 (by decide) (fun c_10 => absurd c_10 (by decide)) (fun c_10 => ?_)
        refine lv_aload_n zx zb dX11_takesItem_65 rfl (lv_at hl 0 rfl) ?_
        refine b_wi (cells' := 0) (slots' := 0) (wr := []) G rfl rfl [0, 1, 2, 3] [] rfl rfl rfl rfl (n_V (As := []) (rest := []) (C := RX11) (T := TX11) (N := 18) (ci := 9) S G (y_takesStart l X m0 ma la lb n t v fd fv fw w0 w1 w2 w3 w4 sv dv s0 hI_n hI_t hI_fw ⟨hK0, hK1, hK2, hK3, hK4⟩ hR hL H.size) gX11_takesItem_X11_takesStart rfl rfl rfl hdV_X11_takesStart ⟨Nat.le_of_ble_eq_true rfl, Nat.le_of_ble_eq_true rfl⟩ [0, 1, 2, 3] rfl rfl 0 rfl rfl rfl hl.1 (Nat.le_of_ble_eq_true rfl) dX11_takesItem_66 ⟨Nat.le_of_ble_eq_true rfl, Nat.le_of_ble_eq_true rfl⟩) (fun r_11 u_11 H locs hp_11 G => ?_)
        obtain ⟨t_11a, v_11b, f_11c, f_11d⟩ := u_11
        try dsimp only at hp_11
        obtain ⟨hI_t_11a, hI_f_11d, hq_11⟩ := hp_11
        have hO_t_11a := hI_t_11a
        obtain ⟨ht0_t_11a, ht1_t_11a⟩ := hO_t_11a
        have G : wd X (va_A (@HAppend.hAppend va_W va_W va_W _ (mW m0 ma la lb n t v) (@HAppend.hAppend va_W va_W va_W _ ([((ma 10), .inl (X.2.1, 150, .inl fd))]) (@HAppend.hAppend va_W va_W va_W _ ([((ma 17), .inl (X.2.1, 3, .inl fv))]) ([((ma 16), .inl (X.2.1, 123, .inl fw))])))) sz) (va_A (@HAppend.hAppend va_W va_W va_W _ (mW m0 ma la lb n t v) (@HAppend.hAppend va_W va_W va_W _ ([((ma 10), .inl (X.2.1, 150, .inl fd))]) (@HAppend.hAppend va_W va_W va_W _ ([((ma 17), .inl (X.2.1, 3, .inl fv))]) ([((ma 16), .inl (X.2.1, 123, .inl fw))])))) sz) s (@HAppend.hAppend va_W va_W va_W _ (mW m0 ma la lb n t_11a v_11b) (@HAppend.hAppend va_W va_W va_W _ ([((ma 10), .inl (X.2.1, 150, .inl fd))]) (@HAppend.hAppend va_W va_W va_W _ ([((ma 17), .inl (X.2.1, 3, .inl f_11c))]) ([((ma 16), .inl (X.2.1, 123, .inl f_11d))])))) H locs := G
        rcases hq_11 with ⟨rfl, ho1_11, ho2_11, ho4_11⟩ | ⟨rfl, pp_11, ho1_11, ho2_11⟩
        · have hkd : kindI fd n s0 w0 = 3 := kI_3 hw_9.1 (wrd_ne hw_9.2 (by decide)) (fun z => hw_1 ⟨hw_9.1, z.1⟩) (fun z => hw_5 ⟨hw_9.1, z⟩) hw_9.2
          have hit := it_3 (sv := sv) (dv := dv) hkd
          have hz1 : itF fd n s0 w0 dv = chk [(stpB fd n (itT fd n s0 w0), itT fd n s0 w0)] := by rw [hit.1, hit.2.1]; exact ho1_11
          have hz2 : tkM fd n t_11a v_11b (itT fd n s0 w0) := by rw [hit.2.1]; exact ho2_11
          have hz3 : w0 = itN fd n s0 w0 := by rw [hit.2.2.1]
          have hz4 : RepM (itS fd n s0 w0 sv) (itD fd n s0 w0 sv dv) (itN fd n s0 w0) f_11d := by rw [hit.2.2.1, hit.2.2.2.1, hit.2.2.2.2]; exact ho4_11
          exact e_int S zr zlk (by decide) G (t_11a, v_11b, f_11c, f_11d, w0) [0, 1, 2, 3] rfl rfl (Or.inr rfl) (⟨hI_t_11a, hI_f_11d, Or.inl ⟨rfl, hz1, hz2, hz3, hz4⟩⟩) dX11_takesItem_69
        · have hkd : kindI fd n s0 w0 = 3 := kI_3 hw_9.1 (wrd_ne hw_9.2 (by decide)) (fun z => hw_1 ⟨hw_9.1, z.1⟩) (fun z => hw_5 ⟨hw_9.1, z⟩) hw_9.2
          have hit := it_3 (sv := sv) (dv := dv) hkd
          exact e_int S zr zlk (by decide) G (t_11a, v_11b, f_11c, f_11d, w0) [0, 1, 2, 3] rfl rfl (Or.inr rfl) (⟨hI_t_11a, hI_f_11d, Or.inr ⟨rfl, _, hit.1.trans ho1_11, ho2_11⟩⟩) dX11_takesItem_69
      · refine lv_if_eq (tgt := 70) zx zb dX11_takesItem_62 (by decide) (fun c_12 => ?_) (fun c_12 => absurd (by decide) c_12)
        refine lv_aload_n zx zb dX11_takesItem_70 rfl (lv_at hl 0 rfl) ?_
        refine lv_iconst (v := 2) zx zb dX11_takesItem_71 (by decide) ?_
        refine lv_bipush (v := 103) zx zb dX11_takesItem_72 (by decide) ?_
        refine lv_bipush (v := 111) zx zb dX11_takesItem_74 (by decide) ?_
        refine lv_iconst (v := 0) zx zb dX11_takesItem_76 (by decide) ?_
        refine lv_iconst (v := 0) zx zb dX11_takesItem_77 (by decide) ?_
        refine lv_iconst (v := 0) zx zb dX11_takesItem_78 (by decide) ?_
        refine lv_iconst (v := 0) zx zb dX11_takesItem_79 (by decide) ?_
        refine o_ri (cells' := 0) (slots' := 0) G rfl rfl (n_V (As := [.int 2, .int 103, .int 111, .int 0, .int 0, .int 0, .int 0]) (rest := []) (C := RX11) (T := TX11) (N := 18) (ci := 9) S G (y_spells4 l X m0 ma la lb n t v fd s0 hI_n hI_t ⟨hK0, hK1, hK2, hK3, hK4⟩ H.size) gX11_takesItem_X11_spells rfl rfl rfl hdV_X11_spells ⟨Nat.le_of_ble_eq_true rfl, Nat.le_of_ble_eq_true rfl⟩ [0, 1] rfl rfl 0 rfl rfl rfl hl.1 (Nat.le_of_ble_eq_true rfl) dX11_takesItem_80 ⟨Nat.le_of_ble_eq_true rfl, Nat.le_of_ble_eq_true rfl⟩) (fun r_13 u_13 H locs hp_13 G => ?_)
        have G : wd X (va_A (@HAppend.hAppend va_W va_W va_W _ (mW m0 ma la lb n t v) (@HAppend.hAppend va_W va_W va_W _ ([((ma 10), .inl (X.2.1, 150, .inl fd))]) (@HAppend.hAppend va_W va_W va_W _ ([((ma 17), .inl (X.2.1, 3, .inl fv))]) ([((ma 16), .inl (X.2.1, 123, .inl fw))])))) sz) (va_A (@HAppend.hAppend va_W va_W va_W _ (mW m0 ma la lb n t v) (@HAppend.hAppend va_W va_W va_W _ ([((ma 10), .inl (X.2.1, 150, .inl fd))]) (@HAppend.hAppend va_W va_W va_W _ ([((ma 17), .inl (X.2.1, 3, .inl fv))]) ([((ma 16), .inl (X.2.1, 123, .inl fw))])))) sz) s (@HAppend.hAppend va_W va_W va_W _ (mW m0 ma la lb n t v) (@HAppend.hAppend va_W va_W va_W _ ([((ma 10), .inl (X.2.1, 150, .inl fd))]) (@HAppend.hAppend va_W va_W va_W _ ([((ma 17), .inl (X.2.1, 3, .inl fv))]) ([((ma 16), .inl (X.2.1, 123, .inl fw))])))) H locs := G
        rcases hp_13 with ⟨rfl, hw_13⟩ | ⟨rfl, hw_13⟩
        · refine lv_if_eq (tgt := 97) zx zb dX11_takesItem_83 (by decide) (fun c_14 => absurd c_14 (by decide)) (fun c_14 => ?_)
          refine lv_aload_n zx zb dX11_takesItem_86 rfl (lv_at hl 0 rfl) ?_
          refine b_wi (cells' := 0) (slots' := 0) (wr := []) G rfl rfl [0, 1, 2, 3] [] rfl rfl rfl rfl (n_V (As := []) (rest := []) (C := RX11) (T := TX11) (N := 18) (ci := 9) S G (y_takesGo l X m0 ma la lb n t v fd fv fw w0 w1 w2 w3 w4 sv dv s0 tk hI_n hI_t hI_fw ⟨hK0, hK1, hK2, hK3, hK4⟩ hR ht (by omega) H.size) gX11_takesItem_X11_takesGo rfl rfl rfl hdV_X11_takesGo ⟨Nat.le_of_ble_eq_true rfl, Nat.le_of_ble_eq_true rfl⟩ [0, 1, 2, 3] rfl rfl 0 rfl rfl rfl hl.1 (Nat.le_of_ble_eq_true rfl) dX11_takesItem_87 ⟨Nat.le_of_ble_eq_true rfl, Nat.le_of_ble_eq_true rfl⟩) (fun r_15 u_15 H locs hp_15 G => ?_)
          obtain ⟨t_15a, v_15b, f_15c, f_15d⟩ := u_15
          try dsimp only at hp_15
          obtain ⟨hI_t_15a, hI_f_15d, hq_15⟩ := hp_15
          have hO_t_15a := hI_t_15a
          obtain ⟨ht0_t_15a, ht1_t_15a⟩ := hO_t_15a
          have G : wd X (va_A (@HAppend.hAppend va_W va_W va_W _ (mW m0 ma la lb n t v) (@HAppend.hAppend va_W va_W va_W _ ([((ma 10), .inl (X.2.1, 150, .inl fd))]) (@HAppend.hAppend va_W va_W va_W _ ([((ma 17), .inl (X.2.1, 3, .inl fv))]) ([((ma 16), .inl (X.2.1, 123, .inl fw))])))) sz) (va_A (@HAppend.hAppend va_W va_W va_W _ (mW m0 ma la lb n t v) (@HAppend.hAppend va_W va_W va_W _ ([((ma 10), .inl (X.2.1, 150, .inl fd))]) (@HAppend.hAppend va_W va_W va_W _ ([((ma 17), .inl (X.2.1, 3, .inl fv))]) ([((ma 16), .inl (X.2.1, 123, .inl fw))])))) sz) s (@HAppend.hAppend va_W va_W va_W _ (mW m0 ma la lb n t_15a v_15b) (@HAppend.hAppend va_W va_W va_W _ ([((ma 10), .inl (X.2.1, 150, .inl fd))]) (@HAppend.hAppend va_W va_W va_W _ ([((ma 17), .inl (X.2.1, 3, .inl f_15c))]) ([((ma 16), .inl (X.2.1, 123, .inl f_15d))])))) H locs := G
          rcases hq_15 with ⟨rfl, ho1_15, ho2_15, ho4_15⟩ | ⟨rfl, pp_15, ho1_15, ho2_15⟩
          · refine lv_if_eq (tgt := 97) zx zb dX11_takesItem_90 (by decide) (fun c_16 => absurd c_16 (by decide)) (fun c_16 => ?_)
            refine lv_iconst (v := 1) zx zb dX11_takesItem_93 (by decide) ?_
            refine lv_goto (tgt := 98) zx zb dX11_takesItem_94 (by decide) ?_
            have hkd : kindI fd n s0 w0 = 4 := kI_4 hw_13.1 (wrd_ne hw_13.2 (by decide)) (fun z => hw_1 ⟨hw_13.1, z.1⟩) (fun z => hw_5 ⟨hw_13.1, z⟩) (fun z => hw_9 ⟨hw_13.1, z⟩) hw_13.2
            have hit := it_4 (sv := sv) (dv := dv) hkd
            have hz1 : itF fd n s0 w0 dv = chk [(stpB fd n (itT fd n s0 w0), itT fd n s0 w0)] := by rw [hit.1, hit.2.1]; exact ho1_15
            have hz2 : tkM fd n t_15a v_15b (itT fd n s0 w0) := by rw [hit.2.1]; exact ho2_15
            have hz3 : w0 = itN fd n s0 w0 := by rw [hit.2.2.1]
            have hz4 : RepM (itS fd n s0 w0 sv) (itD fd n s0 w0 sv dv) (itN fd n s0 w0) f_15d := by rw [hit.2.2.1, hit.2.2.2.1, hit.2.2.2.2]; exact ho4_15
            exact e_int S zr zlk (by decide) G (t_15a, v_15b, f_15c, f_15d, w0) [0, 1, 2, 3] rfl rfl (Or.inr rfl) (⟨hI_t_15a, hI_f_15d, Or.inl ⟨rfl, hz1, hz2, hz3, hz4⟩⟩) dX11_takesItem_98
          · refine lv_if_eq (tgt := 97) zx zb dX11_takesItem_90 (by decide) (fun c_17 => ?_) (fun c_17 => absurd (by decide) c_17)
            refine lv_iconst (v := 0) zx zb dX11_takesItem_97 (by decide) ?_
            have hkd : kindI fd n s0 w0 = 4 := kI_4 hw_13.1 (wrd_ne hw_13.2 (by decide)) (fun z => hw_1 ⟨hw_13.1, z.1⟩) (fun z => hw_5 ⟨hw_13.1, z⟩) (fun z => hw_9 ⟨hw_13.1, z⟩) hw_13.2
            have hit := it_4 (sv := sv) (dv := dv) hkd
            exact e_int S zr zlk (by decide) G (t_15a, v_15b, f_15c, f_15d, w0) [0, 1, 2, 3] rfl rfl (Or.inr rfl) (⟨hI_t_15a, hI_f_15d, Or.inr ⟨rfl, _, hit.1.trans ho1_15, ho2_15⟩⟩) dX11_takesItem_98
        · refine lv_if_eq (tgt := 97) zx zb dX11_takesItem_83 (by decide) (fun c_18 => ?_) (fun c_18 => absurd (by decide) c_18)
          refine lv_iconst (v := 0) zx zb dX11_takesItem_97 (by decide) ?_
          exact e_int S zr zlk (by decide) G (t, v, fv, fw, w0) [0, 1, 2, 3] rfl rfl (Or.inr rfl) (⟨hI_t, hI_fw, Or.inr ⟨rfl, _, it_0 (kI_n hw_1 hw_5 hw_9 hw_13), hK0⟩⟩) dX11_takesItem_98
set_option maxHeartbeats 4000000 in
set_option maxRecDepth 100000 in
theorem y_read (l : Launch) (X : EX) (m0 : Nat) (ma : Nat → Nat) (la : Int64) (lb : Int64) (n : Nat) (t : Nat → Nat) (v : Nat → Int32) (fa : Nat → Int32) (c0 : Nat) (c1 : Nat) (c2 : Nat) (c3 : Nat) (c4 : Nat) (fd : Nat → Int32) (fv : Nat → Int32) (fw : Nat → Int32) (w0 : Nat) (w1 : Nat) (w2 : Nat) (w3 : Nat) (w4 : Nat) (sv : Nat → Int32) (dv : Nat → Int32) (hI_n : n ≤ 150) (hI_t : InT t) (hI_fa : InA fa c0 c1 c2 c3 c4) (hI_fw : InA fw w0 w1 w2 w3 w4) (sz : Nat) : Met l yX11_read wsX11_read ({ frames := 7, cells := 0, slots := 0, locals := 155 } : Room) (pE X [.ref m0] (@HAppend.hAppend va_W va_W va_W _ (mW m0 ma la lb n t v) (@HAppend.hAppend va_W va_W va_W _ ([((ma 0), .inl (X.2.1, 371, .inl fa))]) (@HAppend.hAppend va_W va_W va_W _ ([((ma 10), .inl (X.2.1, 150, .inl fd))]) (@HAppend.hAppend va_W va_W va_W _ ([((ma 17), .inl (X.2.1, 3, .inl fv))]) ([((ma 16), .inl (X.2.1, 123, .inl fw))]))))) sz) (qI (fun (r : Int32) (u : (Nat → Nat) × (Nat → Int32) × (Nat → Int32) × (Nat) × (Nat) × (Nat) × (Nat) × (Nat) × (Nat → Int32) × (Nat → Int32) × (Nat) × (Nat) × (Nat) × (Nat) × (Nat)) => InT u.1 ∧ InA u.2.2.1 u.2.2.2.1 u.2.2.2.2.1 u.2.2.2.2.2.1 u.2.2.2.2.2.2.1 u.2.2.2.2.2.2.2.1 ∧ InA u.2.2.2.2.2.2.2.2.2.1 u.2.2.2.2.2.2.2.2.2.2.1 u.2.2.2.2.2.2.2.2.2.2.2.1 u.2.2.2.2.2.2.2.2.2.2.2.2.1 u.2.2.2.2.2.2.2.2.2.2.2.2.2.1 u.2.2.2.2.2.2.2.2.2.2.2.2.2.2 ∧ (r = (rdA fd n sv dv).1 ∧ (((rdA fd n sv dv).2.1 = true ∧ (u.2.2.2.1 = (rdA fd n sv dv).2.2.1 ∧ u.2.2.2.2.1 = 0 ∧ u.2.2.2.2.2.1 = 0 ∧ u.2.2.2.2.2.2.1 = 0 ∧ u.2.2.2.2.2.2.2.1 = 0) ∧ RepM (rdA fd n sv dv).2.2.2.1 (rdA fd n sv dv).2.2.2.2 u.2.2.2.1 u.2.2.1) ∨ ((rdA fd n sv dv).2.1 = false ∧ (u.2.2.2.1 = c0 ∧ u.2.2.2.2.1 = c1 ∧ u.2.2.2.2.2.1 = c2 ∧ u.2.2.2.2.2.2.1 = c3 ∧ u.2.2.2.2.2.2.2.1 = c4) ∧ u.2.2.1 = fa)))) X (fun (u : (Nat → Nat) × (Nat → Int32) × (Nat → Int32) × (Nat) × (Nat) × (Nat) × (Nat) × (Nat) × (Nat → Int32) × (Nat → Int32) × (Nat) × (Nat) × (Nat) × (Nat) × (Nat)) => @HAppend.hAppend va_W va_W va_W _ (mW m0 ma la lb n u.1 u.2.1) (@HAppend.hAppend va_W va_W va_W _ ([((ma 0), .inl (X.2.1, 371, .inl u.2.2.1))]) (@HAppend.hAppend va_W va_W va_W _ ([((ma 10), .inl (X.2.1, 150, .inl fd))]) (@HAppend.hAppend va_W va_W va_W _ ([((ma 17), .inl (X.2.1, 3, .inl u.2.2.2.2.2.2.2.2.1))]) ([((ma 16), .inl (X.2.1, 123, .inl u.2.2.2.2.2.2.2.2.2.1))]))))) (@HAppend.hAppend va_W va_W va_W _ (mW m0 ma la lb n t v) (@HAppend.hAppend va_W va_W va_W _ ([((ma 0), .inl (X.2.1, 371, .inl fa))]) (@HAppend.hAppend va_W va_W va_W _ ([((ma 10), .inl (X.2.1, 150, .inl fd))]) (@HAppend.hAppend va_W va_W va_W _ ([((ma 17), .inl (X.2.1, 3, .inl fv))]) ([((ma 16), .inl (X.2.1, 123, .inl fw))]))))) sz) 0 0 (va_A (@HAppend.hAppend va_W va_W va_W _ (mW m0 ma la lb n t v) (@HAppend.hAppend va_W va_W va_W _ ([((ma 0), .inl (X.2.1, 371, .inl fa))]) (@HAppend.hAppend va_W va_W va_W _ ([((ma 10), .inl (X.2.1, 150, .inl fd))]) (@HAppend.hAppend va_W va_W va_W _ ([((ma 17), .inl (X.2.1, 3, .inl fv))]) ([((ma 16), .inl (X.2.1, 123, .inl fw))]))))) sz) := by
  refine mk_met (B := (va_A (@HAppend.hAppend va_W va_W va_W _ (mW m0 ma la lb n t v) (@HAppend.hAppend va_W va_W va_W _ ([((ma 0), .inl (X.2.1, 371, .inl fa))]) (@HAppend.hAppend va_W va_W va_W _ ([((ma 10), .inl (X.2.1, 150, .inl fd))]) (@HAppend.hAppend va_W va_W va_W _ ([((ma 17), .inl (X.2.1, 3, .inl fv))]) ([((ma 16), .inl (X.2.1, 123, .inl fw))]))))) sz)) (A := (va_A (@HAppend.hAppend va_W va_W va_W _ (mW m0 ma la lb n t v) (@HAppend.hAppend va_W va_W va_W _ ([((ma 0), .inl (X.2.1, 371, .inl fa))]) (@HAppend.hAppend va_W va_W va_W _ ([((ma 10), .inl (X.2.1, 150, .inl fd))]) (@HAppend.hAppend va_W va_W va_W _ ([((ma 17), .inl (X.2.1, 3, .inl fv))]) ([((ma 16), .inl (X.2.1, 123, .inl fw))]))))) sz)) (cc := cX11_read) (maxL := 3) (ret := (some .int)) (by decide) rfl (Nat.le_of_ble_eq_true rfl) k_w k_a (fun p e s m below meth c S zr zlk znm zsz G ls hl => ?_)
  have S : CallFix p m c cX11_read 3 s _ wsX11_read RX11 := S
  have zx := S.1
  have zb := S.2.1
  have hl : lv_has ls 3 [(0, .ref m0)] := hl
  have hO_t := hI_t
  obtain ⟨ht0_t, ht1_t⟩ := hO_t
  have hO_fa := hI_fa.2
  obtain ⟨hm0_fa, hm1_fa, hm2_fa, hm3_fa, hm4_fa⟩ := hO_fa
  have hO_fw := hI_fw.2
  obtain ⟨hm0_fw, hm1_fw, hm2_fw, hm3_fw, hm4_fw⟩ := hO_fw
  refine lv_aload_n zx zb dX11_read_0 rfl (lv_at hl 0 rfl) ?_
  refine lv_iconst (v := 0) zx zb dX11_read_1 (by decide) ?_
  refine b_wv (cells' := 0) (slots' := 0) (wr := @HAppend.hAppend va_W va_W va_W _ ([((ma 0), .inl (X.2.1, 371, .inl fa))]) (@HAppend.hAppend va_W va_W va_W _ ([((ma 17), .inl (X.2.1, 3, .inl fv))]) ([((ma 16), .inl (X.2.1, 123, .inl fw))]))) G rfl rfl [0, 2] [1, 3, 4] rfl rfl rfl rfl (n_V (As := [.int 0]) (rest := []) (C := RX11) (T := TX11) (N := 18) (ci := 9) S G (y_lookAt l X m0 ma la lb n t v fd 0 hI_n hI_t (by omega) s.heap.size) gX11_read_X11_lookAt rfl rfl rfl hdV_X11_lookAt ⟨Nat.le_of_ble_eq_true rfl, Nat.le_of_ble_eq_true rfl⟩ [0, 2] rfl rfl 0 rfl rfl rfl hl.1 (Nat.le_of_ble_eq_true rfl) dX11_read_2 ⟨Nat.le_of_ble_eq_true rfl, Nat.le_of_ble_eq_true rfl⟩) (fun u_1 H locs hp_1 G => ?_)
  obtain ⟨t_1a, v_1b⟩ := u_1
  try dsimp only at hp_1
  obtain ⟨hI_t_1a, hq_1⟩ := hp_1
  have hO_t_1a := hI_t_1a
  obtain ⟨ht0_t_1a, ht1_t_1a⟩ := hO_t_1a
  have G : wd X (va_A (@HAppend.hAppend va_W va_W va_W _ (mW m0 ma la lb n t v) (@HAppend.hAppend va_W va_W va_W _ ([((ma 0), .inl (X.2.1, 371, .inl fa))]) (@HAppend.hAppend va_W va_W va_W _ ([((ma 10), .inl (X.2.1, 150, .inl fd))]) (@HAppend.hAppend va_W va_W va_W _ ([((ma 17), .inl (X.2.1, 3, .inl fv))]) ([((ma 16), .inl (X.2.1, 123, .inl fw))]))))) sz) (va_A (@HAppend.hAppend va_W va_W va_W _ (mW m0 ma la lb n t v) (@HAppend.hAppend va_W va_W va_W _ ([((ma 0), .inl (X.2.1, 371, .inl fa))]) (@HAppend.hAppend va_W va_W va_W _ ([((ma 10), .inl (X.2.1, 150, .inl fd))]) (@HAppend.hAppend va_W va_W va_W _ ([((ma 17), .inl (X.2.1, 3, .inl fv))]) ([((ma 16), .inl (X.2.1, 123, .inl fw))]))))) sz) s (@HAppend.hAppend va_W va_W va_W _ ([((ma 0), .inl (X.2.1, 371, .inl fa))]) (@HAppend.hAppend va_W va_W va_W _ ([((ma 17), .inl (X.2.1, 3, .inl fv))]) (@HAppend.hAppend va_W va_W va_W _ ([((ma 16), .inl (X.2.1, 123, .inl fw))]) (@HAppend.hAppend va_W va_W va_W _ (mW m0 ma la lb n t_1a v_1b) ([((ma 10), .inl (X.2.1, 150, .inl fd))]))))) H locs := G
  obtain ⟨s0, hs0⟩ : ∃ s0 : Nat, scanP qB fd n 0 = s0 := ⟨_, rfl⟩
  have hs1 := scan_le (q := qB) (T := fd) (n := n) (a := 0) (Nat.zero_le _)
  rw [hs0] at hs1
  have hk_1 : tkM fd n t_1a v_1b s0 := by rw [← hs0]; exact hq_1
  refine lv_aload_n zx zb dX11_read_5 rfl (lv_at hl 0 rfl) ?_
  refine lv_iconst (v := 4) zx zb dX11_read_6 (by decide) ?_
  refine lv_bipush (v := 114) zx zb dX11_read_7 (by decide) ?_
  refine lv_bipush (v := 97) zx zb dX11_read_9 (by decide) ?_
  refine lv_bipush (v := 99) zx zb dX11_read_11 (by decide) ?_
  refine lv_bipush (v := 101) zx zb dX11_read_13 (by decide) ?_
  refine lv_iconst (v := 0) zx zb dX11_read_15 (by decide) ?_
  refine lv_iconst (v := 0) zx zb dX11_read_16 (by decide) ?_
  refine o_ri (cells' := 0) (slots' := 0) G rfl rfl (n_V (As := [.int 4, .int 114, .int 97, .int 99, .int 101, .int 0, .int 0]) (rest := []) (C := RX11) (T := TX11) (N := 18) (ci := 9) S G (y_spells0 l X m0 ma la lb n t_1a v_1b fd s0 hI_n hI_t_1a hk_1 H.size) gX11_read_X11_spells rfl rfl rfl hdV_X11_spells ⟨Nat.le_of_ble_eq_true rfl, Nat.le_of_ble_eq_true rfl⟩ [3, 4] rfl rfl 3 rfl rfl rfl hl.1 (Nat.le_of_ble_eq_true rfl) dX11_read_17 ⟨Nat.le_of_ble_eq_true rfl, Nat.le_of_ble_eq_true rfl⟩) (fun r_2 u_2 H locs hp_2 G => ?_)
  have G : wd X (va_A (@HAppend.hAppend va_W va_W va_W _ (mW m0 ma la lb n t v) (@HAppend.hAppend va_W va_W va_W _ ([((ma 0), .inl (X.2.1, 371, .inl fa))]) (@HAppend.hAppend va_W va_W va_W _ ([((ma 10), .inl (X.2.1, 150, .inl fd))]) (@HAppend.hAppend va_W va_W va_W _ ([((ma 17), .inl (X.2.1, 3, .inl fv))]) ([((ma 16), .inl (X.2.1, 123, .inl fw))]))))) sz) (va_A (@HAppend.hAppend va_W va_W va_W _ (mW m0 ma la lb n t v) (@HAppend.hAppend va_W va_W va_W _ ([((ma 0), .inl (X.2.1, 371, .inl fa))]) (@HAppend.hAppend va_W va_W va_W _ ([((ma 10), .inl (X.2.1, 150, .inl fd))]) (@HAppend.hAppend va_W va_W va_W _ ([((ma 17), .inl (X.2.1, 3, .inl fv))]) ([((ma 16), .inl (X.2.1, 123, .inl fw))]))))) sz) s (@HAppend.hAppend va_W va_W va_W _ ([((ma 0), .inl (X.2.1, 371, .inl fa))]) (@HAppend.hAppend va_W va_W va_W _ ([((ma 17), .inl (X.2.1, 3, .inl fv))]) (@HAppend.hAppend va_W va_W va_W _ ([((ma 16), .inl (X.2.1, 123, .inl fw))]) (@HAppend.hAppend va_W va_W va_W _ (mW m0 ma la lb n t_1a v_1b) ([((ma 10), .inl (X.2.1, 150, .inl fd))]))))) H locs := G
  rcases hp_2 with ⟨rfl, hw_2⟩ | ⟨rfl, hw_2⟩
  · refine lv_if_ne (tgt := 31) zx zb dX11_read_20 (by decide) (fun c_3 => ?_) (fun c_3 => absurd c_3 (by decide))
    refine lv_aload_n zx zb dX11_read_31 rfl (lv_at hl 0 rfl) ?_
    refine b_wv (cells' := 0) (slots' := 0) (wr := @HAppend.hAppend va_W va_W va_W _ ([((ma 0), .inl (X.2.1, 371, .inl fa))]) (@HAppend.hAppend va_W va_W va_W _ ([((ma 17), .inl (X.2.1, 3, .inl fv))]) ([((ma 16), .inl (X.2.1, 123, .inl fw))]))) G rfl rfl [3, 4] [0, 1, 2] rfl rfl rfl rfl (n_V (As := []) (rest := []) (C := RX11) (T := TX11) (N := 18) (ci := 9) S G (y_goBehind l X m0 ma la lb n t_1a v_1b fd s0 hI_n hI_t_1a hk_1 H.size) gX11_read_X11_goBehind rfl rfl rfl hdV_X11_goBehind ⟨Nat.le_of_ble_eq_true rfl, Nat.le_of_ble_eq_true rfl⟩ [3, 4] rfl rfl 3 rfl rfl rfl hl.1 (Nat.le_of_ble_eq_true rfl) dX11_read_32 ⟨Nat.le_of_ble_eq_true rfl, Nat.le_of_ble_eq_true rfl⟩) (fun u_4 H locs hp_4 G => ?_)
    obtain ⟨t_4a, v_4b⟩ := u_4
    try dsimp only at hp_4
    obtain ⟨hI_t_4a, hq_4⟩ := hp_4
    have hO_t_4a := hI_t_4a
    obtain ⟨ht0_t_4a, ht1_t_4a⟩ := hO_t_4a
    have G : wd X (va_A (@HAppend.hAppend va_W va_W va_W _ (mW m0 ma la lb n t v) (@HAppend.hAppend va_W va_W va_W _ ([((ma 0), .inl (X.2.1, 371, .inl fa))]) (@HAppend.hAppend va_W va_W va_W _ ([((ma 10), .inl (X.2.1, 150, .inl fd))]) (@HAppend.hAppend va_W va_W va_W _ ([((ma 17), .inl (X.2.1, 3, .inl fv))]) ([((ma 16), .inl (X.2.1, 123, .inl fw))]))))) sz) (va_A (@HAppend.hAppend va_W va_W va_W _ (mW m0 ma la lb n t v) (@HAppend.hAppend va_W va_W va_W _ ([((ma 0), .inl (X.2.1, 371, .inl fa))]) (@HAppend.hAppend va_W va_W va_W _ ([((ma 10), .inl (X.2.1, 150, .inl fd))]) (@HAppend.hAppend va_W va_W va_W _ ([((ma 17), .inl (X.2.1, 3, .inl fv))]) ([((ma 16), .inl (X.2.1, 123, .inl fw))]))))) sz) s (@HAppend.hAppend va_W va_W va_W _ ([((ma 0), .inl (X.2.1, 371, .inl fa))]) (@HAppend.hAppend va_W va_W va_W _ ([((ma 17), .inl (X.2.1, 3, .inl fv))]) (@HAppend.hAppend va_W va_W va_W _ ([((ma 16), .inl (X.2.1, 123, .inl fw))]) (@HAppend.hAppend va_W va_W va_W _ (mW m0 ma la lb n t_4a v_4b) ([((ma 10), .inl (X.2.1, 150, .inl fd))]))))) H locs := G
    have hk_4 : tkM fd n t_4a v_4b (tN fd n s0) := hq_4
    refine lv_aload_n zx zb dX11_read_35 rfl (lv_at hl 0 rfl) ?_
    refine lv_iconst (v := 0) zx zb dX11_read_36 (by decide) ?_
    refine lv_bipush (v := 10) zx zb dX11_read_37 (by decide) ?_
    refine lv_bipush (v := 60) zx zb dX11_read_39 (by decide) ?_
    refine b_wi (cells' := 0) (slots' := 0) (wr := @HAppend.hAppend va_W va_W va_W _ ([((ma 0), .inl (X.2.1, 371, .inl fa))]) ([((ma 16), .inl (X.2.1, 123, .inl fw))])) G rfl rfl [3, 4, 1] [0, 2] rfl rfl rfl rfl (n_V (As := [.int 0, .int 10, .int 60]) (rest := []) (C := RX11) (T := TX11) (N := 18) (ci := 9) S G (y_takes0 l X m0 ma la lb n t_4a v_4b fd fv 10 60 (tN fd n s0) hI_n hI_t_4a hk_4 H.size) gX11_read_X11_takes rfl rfl rfl hdV_X11_takes ⟨Nat.le_of_ble_eq_true rfl, Nat.le_of_ble_eq_true rfl⟩ [3, 4, 1] rfl rfl 3 rfl rfl rfl hl.1 (Nat.le_of_ble_eq_true rfl) dX11_read_41 ⟨Nat.le_of_ble_eq_true rfl, Nat.le_of_ble_eq_true rfl⟩) (fun r_5 u_5 H locs hp_5 G => ?_)
    obtain ⟨t_5a, v_5b, f_5c⟩ := u_5
    try dsimp only at hp_5
    obtain ⟨hI_t_5a, hq_5⟩ := hp_5
    have hO_t_5a := hI_t_5a
    obtain ⟨ht0_t_5a, ht1_t_5a⟩ := hO_t_5a
    have G : wd X (va_A (@HAppend.hAppend va_W va_W va_W _ (mW m0 ma la lb n t v) (@HAppend.hAppend va_W va_W va_W _ ([((ma 0), .inl (X.2.1, 371, .inl fa))]) (@HAppend.hAppend va_W va_W va_W _ ([((ma 10), .inl (X.2.1, 150, .inl fd))]) (@HAppend.hAppend va_W va_W va_W _ ([((ma 17), .inl (X.2.1, 3, .inl fv))]) ([((ma 16), .inl (X.2.1, 123, .inl fw))]))))) sz) (va_A (@HAppend.hAppend va_W va_W va_W _ (mW m0 ma la lb n t v) (@HAppend.hAppend va_W va_W va_W _ ([((ma 0), .inl (X.2.1, 371, .inl fa))]) (@HAppend.hAppend va_W va_W va_W _ ([((ma 10), .inl (X.2.1, 150, .inl fd))]) (@HAppend.hAppend va_W va_W va_W _ ([((ma 17), .inl (X.2.1, 3, .inl fv))]) ([((ma 16), .inl (X.2.1, 123, .inl fw))]))))) sz) s (@HAppend.hAppend va_W va_W va_W _ ([((ma 0), .inl (X.2.1, 371, .inl fa))]) (@HAppend.hAppend va_W va_W va_W _ ([((ma 16), .inl (X.2.1, 123, .inl fw))]) (@HAppend.hAppend va_W va_W va_W _ (mW m0 ma la lb n t_5a v_5b) (@HAppend.hAppend va_W va_W va_W _ ([((ma 10), .inl (X.2.1, 150, .inl fd))]) ([((ma 17), .inl (X.2.1, 3, .inl f_5c))]))))) H locs := G
    rcases hq_5 with ⟨rfl, hn_5, hk_5, hv_5⟩ | ⟨rfl, hn_5, hf_5⟩
    · have hn_5 : numP fd n (tN fd n s0) 10 60 := hn_5
      have hk_5 : tkM fd n t_5a v_5b (t2 fd n s0) := hk_5
      refine lv_if_eq (tgt := 55) zx zb dX11_read_44 (by decide) (fun c_6 => absurd c_6 (by decide)) (fun c_6 => ?_)
      refine lv_aload_n zx zb dX11_read_47 rfl (lv_at hl 0 rfl) ?_
      refine r_get (C := RX11) (T := TX11) (N := 18) (ci := 9) (v := .int (v_5b 0)) S in_X11_read_X11 G 2 rfl rfl 14 (by decide) lk_X11_read_223 rfl dX11_read_48 ?_
      refine lv_iconst (v := 3) zx zb dX11_read_51 (by decide) ?_
      refine lv_icmp_eq (tgt := 63) zx zb dX11_read_52 (by decide) (fun c_7 => ?_) (fun c_7 => ?_)
      · refine lv_aload_n zx zb dX11_read_63 rfl (lv_at hl 0 rfl) ?_
        refine b_wv (cells' := 0) (slots' := 0) (wr := @HAppend.hAppend va_W va_W va_W _ ([((ma 0), .inl (X.2.1, 371, .inl fa))]) (@HAppend.hAppend va_W va_W va_W _ ([((ma 16), .inl (X.2.1, 123, .inl fw))]) ([((ma 17), .inl (X.2.1, 3, .inl f_5c))]))) G rfl rfl [2, 3] [0, 1, 4] rfl rfl rfl rfl (n_V (As := []) (rest := []) (C := RX11) (T := TX11) (N := 18) (ci := 9) S G (y_goBehind l X m0 ma la lb n t_5a v_5b fd (t2 fd n s0) hI_n hI_t_5a hk_5 H.size) gX11_read_X11_goBehind rfl rfl rfl hdV_X11_goBehind ⟨Nat.le_of_ble_eq_true rfl, Nat.le_of_ble_eq_true rfl⟩ [2, 3] rfl rfl 2 rfl rfl rfl hl.1 (Nat.le_of_ble_eq_true rfl) dX11_read_64 ⟨Nat.le_of_ble_eq_true rfl, Nat.le_of_ble_eq_true rfl⟩) (fun u_8 H locs hp_8 G => ?_)
        obtain ⟨t_8a, v_8b⟩ := u_8
        try dsimp only at hp_8
        obtain ⟨hI_t_8a, hq_8⟩ := hp_8
        have hO_t_8a := hI_t_8a
        obtain ⟨ht0_t_8a, ht1_t_8a⟩ := hO_t_8a
        have G : wd X (va_A (@HAppend.hAppend va_W va_W va_W _ (mW m0 ma la lb n t v) (@HAppend.hAppend va_W va_W va_W _ ([((ma 0), .inl (X.2.1, 371, .inl fa))]) (@HAppend.hAppend va_W va_W va_W _ ([((ma 10), .inl (X.2.1, 150, .inl fd))]) (@HAppend.hAppend va_W va_W va_W _ ([((ma 17), .inl (X.2.1, 3, .inl fv))]) ([((ma 16), .inl (X.2.1, 123, .inl fw))]))))) sz) (va_A (@HAppend.hAppend va_W va_W va_W _ (mW m0 ma la lb n t v) (@HAppend.hAppend va_W va_W va_W _ ([((ma 0), .inl (X.2.1, 371, .inl fa))]) (@HAppend.hAppend va_W va_W va_W _ ([((ma 10), .inl (X.2.1, 150, .inl fd))]) (@HAppend.hAppend va_W va_W va_W _ ([((ma 17), .inl (X.2.1, 3, .inl fv))]) ([((ma 16), .inl (X.2.1, 123, .inl fw))]))))) sz) s (@HAppend.hAppend va_W va_W va_W _ ([((ma 0), .inl (X.2.1, 371, .inl fa))]) (@HAppend.hAppend va_W va_W va_W _ ([((ma 16), .inl (X.2.1, 123, .inl fw))]) (@HAppend.hAppend va_W va_W va_W _ ([((ma 17), .inl (X.2.1, 3, .inl f_5c))]) (@HAppend.hAppend va_W va_W va_W _ (mW m0 ma la lb n t_8a v_8b) ([((ma 10), .inl (X.2.1, 150, .inl fd))]))))) H locs := G
        have hk_8 : tkM fd n t_8a v_8b (t3 fd n s0) := hq_8
        refine lv_aload_n zx zb dX11_read_67 rfl (lv_at hl 0 rfl) ?_
        refine r_get (C := RX11) (T := TX11) (N := 18) (ci := 9) (v := .ref (ma 16)) S in_X11_read_X11 G 3 rfl rfl 16 (by decide) lk_X11_read_42 rfl dX11_read_68 ?_
        refine lv_aload_n zx zb dX11_read_71 rfl (lv_at hl 0 rfl) ?_
        refine r_get (C := RX11) (T := TX11) (N := 18) (ci := 9) (v := .ref (ma 17)) S in_X11_read_X11 G 3 rfl rfl 17 (by decide) lk_X11_read_45 rfl dX11_read_72 ?_
        refine lv_iconst (v := 0) zx zb dX11_read_75 (by decide) ?_
        refine r_iald (v := (f_5c 0)) S G 2 rfl (k_vp (by decide)) rfl dX11_read_76 ?_
        refine b_wv (cells' := 0) (slots' := 0) (wr := @HAppend.hAppend va_W va_W va_W _ ([((ma 0), .inl (X.2.1, 371, .inl fa))]) (@HAppend.hAppend va_W va_W va_W _ ([((ma 17), .inl (X.2.1, 3, .inl f_5c))]) (@HAppend.hAppend va_W va_W va_W _ (mW m0 ma la lb n t_8a v_8b) ([((ma 10), .inl (X.2.1, 150, .inl fd))])))) G rfl rfl [1] [0, 2, 3, 4] rfl rfl rfl rfl (n_S (As := [.ref (ma 16), .int (f_5c 0)]) (rest := []) S G (m_begin l X (ma 16) 123 fw w0 w1 w2 w3 w4 (f_5c 0) hI_fw (by omega) (by omega) H.size) gX11_read_X11_begin rfl rfl rfl hdS_X11_begin ⟨Nat.le_of_ble_eq_true rfl, Nat.le_of_ble_eq_true rfl⟩ [1] rfl rfl rfl hl.1 (Nat.le_of_ble_eq_true rfl) dX11_read_77 ⟨Nat.le_of_ble_eq_true rfl, Nat.le_of_ble_eq_true rfl⟩) (fun u_10 H locs hp_10 G => ?_)
        obtain ⟨f_10a, c0_10b, c1_10c, c2_10d, c3_10e, c4_10f⟩ := u_10
        try dsimp only at hp_10
        obtain ⟨hI_f_10a, hq_10⟩ := hp_10
        have hO_f_10a := hI_f_10a.2
        obtain ⟨hm0_f_10a, hm1_f_10a, hm2_f_10a, hm3_f_10a, hm4_f_10a⟩ := hO_f_10a
        have G : wd X (va_A (@HAppend.hAppend va_W va_W va_W _ (mW m0 ma la lb n t v) (@HAppend.hAppend va_W va_W va_W _ ([((ma 0), .inl (X.2.1, 371, .inl fa))]) (@HAppend.hAppend va_W va_W va_W _ ([((ma 10), .inl (X.2.1, 150, .inl fd))]) (@HAppend.hAppend va_W va_W va_W _ ([((ma 17), .inl (X.2.1, 3, .inl fv))]) ([((ma 16), .inl (X.2.1, 123, .inl fw))]))))) sz) (va_A (@HAppend.hAppend va_W va_W va_W _ (mW m0 ma la lb n t v) (@HAppend.hAppend va_W va_W va_W _ ([((ma 0), .inl (X.2.1, 371, .inl fa))]) (@HAppend.hAppend va_W va_W va_W _ ([((ma 10), .inl (X.2.1, 150, .inl fd))]) (@HAppend.hAppend va_W va_W va_W _ ([((ma 17), .inl (X.2.1, 3, .inl fv))]) ([((ma 16), .inl (X.2.1, 123, .inl fw))]))))) sz) s (@HAppend.hAppend va_W va_W va_W _ ([((ma 0), .inl (X.2.1, 371, .inl fa))]) (@HAppend.hAppend va_W va_W va_W _ ([((ma 17), .inl (X.2.1, 3, .inl f_5c))]) (@HAppend.hAppend va_W va_W va_W _ (mW m0 ma la lb n t_8a v_8b) (@HAppend.hAppend va_W va_W va_W _ ([((ma 10), .inl (X.2.1, 150, .inl fd))]) ([((ma 16), .inl (X.2.1, 123, .inl f_10a))]))))) H locs := G
        obtain ⟨hb0_10, hb1_10, hb2_10, hb3_10, hb4_10, hb5_10, hb6_10, hb7_10⟩ := hq_10
        have e0 := hk_8.1
        have hkk : tkM fd n t_8a v_8b (t_8a 0) := by rw [e0]; exact hk_8
        have h3 : tK fd n (t2 fd n s0) = 3 := hk_5.2.2.1.symm.trans c_7
        have hF : racC fd n s0 = none := by rw [racC, chk_t (numB_t.mpr hn_5), chk_t (stpB_t h3)]; rfl
        have hadv := rac_adv (T := fd) hs1.2 hw_2.1 hF
        have hadw : tE fd n (t2 fd n s0) ≤ t3 fd n s0 ∧ t3 fd n s0 ≤ n := tN_le hadv.2
        have vl0 : f_5c 0 = tV fd n (tN fd n s0) := by rw [hv_5, upd_eq]
        have hRb : RepM sv (upd (upd dv 0 (tV fd n (tN fd n s0))) 1 0) c0_10b f_10a := by rw [hb3_10]; exact RepM_b hb0_10 (hb1_10.trans vl0)
        have hrd0 : rdP fd n 151 (t_8a 0) 1 c0_10b sv (upd (upd dv 0 (tV fd n (tN fd n s0))) 1 0) = rdA fd n sv dv := by rw [e0, hb3_10]; subst hs0; exact (rdA_n hw_2 hF).symm
        have hdx : upd (upd dv 0 (tV fd n (tN fd n s0))) 1 0 0 = tV fd n (tN fd n s0) := (upd_ne (by decide)).trans upd_eq
        refine lv_iconst (v := 1) zx zb dX11_read_80 (by decide) ?_
        refine lv_istore_n (lv' := [(1, .int 1), (0, .ref m0)]) zx zb dX11_read_81 rfl hl (by decide) rfl (fun ls hl => ?_)
        refine k_loop (P := ∀ (zm : Nat) (n82_1 : Nat) (f82_1 : Nat → Int32) (t82_2 : Nat → Nat) (v82_2 : Nat → Int32) (f82_4 : Nat → Int32) (c082_4 : Nat) (H : Heap) (locs : List Loc) (ls : Array Slot), ((150 - n82_1) < zm) → ((1 ≤ n82_1 ∧ 3 * n82_1 ≤ t82_2 0) ∧ tkM fd n t82_2 v82_2 (t82_2 0) ∧ ∃ (sx dx : Nat → Int32) (tk : Nat), RepM sx dx c082_4 f82_4 ∧ (dx 1 = nI tk ∧ tk ≤ 33 * t82_2 0) ∧ (10 ≤ dx 0 ∧ dx 0 ≤ 60) ∧ rdP fd n (152 - n82_1) (t82_2 0) n82_1 c082_4 sx dx = rdA fd n sv dv) → InT t82_2 → InA f82_4 c082_4 c1_10c c2_10d c3_10e c4_10f → (n82_1 ≤ 150) → wd X (va_A (@HAppend.hAppend va_W va_W va_W _ (mW m0 ma la lb n t v) (@HAppend.hAppend va_W va_W va_W _ ([((ma 0), .inl (X.2.1, 371, .inl fa))]) (@HAppend.hAppend va_W va_W va_W _ ([((ma 10), .inl (X.2.1, 150, .inl fd))]) (@HAppend.hAppend va_W va_W va_W _ ([((ma 17), .inl (X.2.1, 3, .inl fv))]) ([((ma 16), .inl (X.2.1, 123, .inl fw))]))))) sz) (va_A (@HAppend.hAppend va_W va_W va_W _ (mW m0 ma la lb n t v) (@HAppend.hAppend va_W va_W va_W _ ([((ma 0), .inl (X.2.1, 371, .inl fa))]) (@HAppend.hAppend va_W va_W va_W _ ([((ma 10), .inl (X.2.1, 150, .inl fd))]) (@HAppend.hAppend va_W va_W va_W _ ([((ma 17), .inl (X.2.1, 3, .inl fv))]) ([((ma 16), .inl (X.2.1, 123, .inl fw))]))))) sz) s (@HAppend.hAppend va_W va_W va_W _ ([((ma 0), .inl (X.2.1, 371, .inl fa))]) (@HAppend.hAppend va_W va_W va_W _ ([((ma 17), .inl (X.2.1, 3, .inl f82_1))]) (@HAppend.hAppend va_W va_W va_W _ (mW m0 ma la lb n t82_2 v82_2) (@HAppend.hAppend va_W va_W va_W _ ([((ma 10), .inl (X.2.1, 150, .inl fd))]) ([((ma 16), .inl (X.2.1, 123, .inl f82_4))]))))) H locs → lv_has ls 3 [(1, .int (nI n82_1)), (0, .ref m0)] → W p l e _ s m _ below meth c H locs _ _ _ (F0 m 82 ls [])) (fun loop => loop ((150 - 1) + 1) 1 f_5c t_8a v_8b f_10a c0_10b _ _ _ (by omega) ⟨⟨by omega, by omega⟩, hkk, _, _, 0, hRb, ⟨upd_eq, by omega⟩, ⟨by rw [hdx]; exact hn_5.2.1, by rw [hdx]; exact hn_5.2.2⟩, hrd0⟩ hI_t_8a hI_f_10a (by omega) G hl) ?_
        intro zm
        induction zm with
        | zero => intro n82_1 f82_1 t82_2 v82_2 f82_4 c082_4 H locs ls zz q_x0 q_hI_t82_2 q_hI_f82_4 q_hk_n82_1 _ _; exact absurd zz (by omega)
        | succ zm ih82 =>
          intro n82_1 f82_1 t82_2 v82_2 f82_4 c082_4 H locs ls zm_82 hx82_0 hI_t82_2 hI_f82_4 hk_n82_1 G hl
          have hO_t82_2 := hI_t82_2
          obtain ⟨ht0_t82_2, ht1_t82_2⟩ := hO_t82_2
          have hO_f82_4 := hI_f82_4.2
          obtain ⟨hm0_f82_4, hm1_f82_4, hm2_f82_4, hm3_f82_4, hm4_f82_4⟩ := hO_f82_4
          obtain ⟨⟨hi1, hi2⟩, hkx, sx, dx, tk, hRx, ⟨htx, htk⟩, hLx, hrd⟩ := hx82_0
          have hxn := hkx.2.2.2.2
          refine lv_aload_n zx zb dX11_read_82 rfl (lv_at hl 1 rfl) ?_
          refine r_get (C := RX11) (T := TX11) (N := 18) (ci := 9) (v := .int (v82_2 0)) S in_X11_read_X11 G 2 rfl rfl 14 (by decide) lk_X11_read_223 rfl dX11_read_83 ?_
          refine lv_if_eq (tgt := 122) zx zb dX11_read_86 (by decide) (fun c_11 => ?_) (fun c_11 => ?_)
          · refine lv_iconst (v := 0) zx zb dX11_read_122 (by decide) ?_
            refine lv_istore_n (lv' := [(2, .int 0), (1, .int (nI n82_1)), (0, .ref m0)]) zx zb dX11_read_123 rfl hl (by decide) rfl (fun ls hl => ?_)
            refine k_loop (P := ∀ (zm : Nat) (n124_2 : Nat) (f124_0 : Nat → Int32) (c0124_0 : Nat) (c1124_0 : Nat) (c2124_0 : Nat) (c3124_0 : Nat) (c4124_0 : Nat) (H : Heap) (locs : List Loc) (ls : Array Slot), ((123 - n124_2) < zm) → ((∀ j : Nat, j < n124_2 → f124_0 j = f82_4 j) ∧ ∀ j : Nat, n124_2 ≤ j → f124_0 j = fa j) → InA f124_0 c0124_0 c1124_0 c2124_0 c3124_0 c4124_0 → (n124_2 ≤ 123) → wd X (va_A (@HAppend.hAppend va_W va_W va_W _ (mW m0 ma la lb n t v) (@HAppend.hAppend va_W va_W va_W _ ([((ma 0), .inl (X.2.1, 371, .inl fa))]) (@HAppend.hAppend va_W va_W va_W _ ([((ma 10), .inl (X.2.1, 150, .inl fd))]) (@HAppend.hAppend va_W va_W va_W _ ([((ma 17), .inl (X.2.1, 3, .inl fv))]) ([((ma 16), .inl (X.2.1, 123, .inl fw))]))))) sz) (va_A (@HAppend.hAppend va_W va_W va_W _ (mW m0 ma la lb n t v) (@HAppend.hAppend va_W va_W va_W _ ([((ma 0), .inl (X.2.1, 371, .inl fa))]) (@HAppend.hAppend va_W va_W va_W _ ([((ma 10), .inl (X.2.1, 150, .inl fd))]) (@HAppend.hAppend va_W va_W va_W _ ([((ma 17), .inl (X.2.1, 3, .inl fv))]) ([((ma 16), .inl (X.2.1, 123, .inl fw))]))))) sz) s (@HAppend.hAppend va_W va_W va_W _ ([((ma 0), .inl (X.2.1, 371, .inl f124_0))]) (@HAppend.hAppend va_W va_W va_W _ ([((ma 17), .inl (X.2.1, 3, .inl f82_1))]) (@HAppend.hAppend va_W va_W va_W _ (mW m0 ma la lb n t82_2 v82_2) (@HAppend.hAppend va_W va_W va_W _ ([((ma 10), .inl (X.2.1, 150, .inl fd))]) ([((ma 16), .inl (X.2.1, 123, .inl f82_4))]))))) H locs → lv_has ls 3 [(2, .int (nI n124_2)), (1, .int (nI n82_1)), (0, .ref m0)] → W p l e _ s m _ below meth c H locs _ _ _ (F0 m 124 ls [])) (fun loop => loop ((123 - 0) + 1) 0 fa c0 c1 c2 c3 c4 _ _ _ (by omega) ⟨fun j h => absurd h (Nat.not_lt_zero j), fun j _ => rfl⟩ hI_fa (by omega) G hl) ?_
            intro zm
            induction zm with
            | zero => intro n124_2 f124_0 c0124_0 c1124_0 c2124_0 c3124_0 c4124_0 H locs ls zz q_x0 q_hI_f124_0 q_hk_n124_2 _ _; exact absurd zz (by omega)
            | succ zm ih124 =>
              intro n124_2 f124_0 c0124_0 c1124_0 c2124_0 c3124_0 c4124_0 H locs ls zm_124 hx124_0 hI_f124_0 hk_n124_2 G hl
              have hO_f124_0 := hI_f124_0.2
              obtain ⟨hm0_f124_0, hm1_f124_0, hm2_f124_0, hm3_f124_0, hm4_f124_0⟩ := hO_f124_0
              refine lv_iload_n zx zb dX11_read_124 rfl (lv_at hl 0 rfl) ?_
              refine lv_bipush (v := 123) zx zb dX11_read_125 (by decide) ?_
              refine lv_icmp_ge (tgt := 148) zx zb dX11_read_127 (by decide) (fun c_12 => ?_) (fun c_12 => ?_)
              · have fc_12 := j_le (a := 123) (b := n124_2) (by omega) (by omega) c_12
                refine lv_iload_n zx zb dX11_read_148 rfl (lv_at hl 1 rfl) ?_
                have hz0 : tK fd n (t82_2 0) = 0 := hkx.2.2.1.symm.trans c_11
                have eR : rdA fd n sv dv = (nI n82_1, (true, (c082_4, (sx, dx)))) := (by rw [← hrd, show 152 - n82_1 = (151 - n82_1) + 1 from by omega]; exact rdP_e hz0)
                have hcc := InA_eq hI_f82_4 hI_f124_0 (fun q hq => hx124_0.1 q (by omega))
                have hRf : RepM sx dx c0124_0 f124_0 := by rw [hcc.1]; exact RepM_e (by omega) hRx (fun j hj => hx124_0.1 j (by omega))
                exact e_int S zr zlk (vp_nar_int _) G (t82_2, v82_2, f124_0, c0124_0, c1124_0, c2124_0, c3124_0, c4124_0, f82_1, f82_4, c082_4, c1_10c, c2_10d, c3_10e, c4_10f) [2, 0, 3, 1, 4] rfl rfl (Or.inr rfl) (⟨hI_t82_2, hI_f124_0, hI_f82_4, by rw [eR]; exact ⟨rfl, Or.inl ⟨rfl, ⟨hcc.1, hcc.2.1.trans hb4_10, hcc.2.2.1.trans hb5_10, hcc.2.2.2.1.trans hb6_10, hcc.2.2.2.2.trans hb7_10⟩, hRf⟩⟩⟩) dX11_read_149
              · have fc_12 := j_nle (a := 123) (b := n124_2) (by omega) (by omega) c_12
                refine lv_aload_n zx zb dX11_read_130 rfl (lv_at hl 2 rfl) ?_
                refine r_get (C := RX11) (T := TX11) (N := 18) (ci := 9) (v := .ref (ma 0)) S in_X11_read_X11 G 2 rfl rfl 0 (by decide) lk_X11_read_7 rfl dX11_read_131 ?_
                refine lv_iload_n zx zb dX11_read_134 rfl (lv_at hl 0 rfl) ?_
                refine lv_aload_n zx zb dX11_read_135 rfl (lv_at hl 2 rfl) ?_
                refine r_get (C := RX11) (T := TX11) (N := 18) (ci := 9) (v := .ref (ma 16)) S in_X11_read_X11 G 2 rfl rfl 16 (by decide) lk_X11_read_42 rfl dX11_read_136 ?_
                refine lv_iload_n zx zb dX11_read_139 rfl (lv_at hl 0 rfl) ?_
                refine r_iald (v := (f82_4 n124_2)) S G 4 rfl (vp_in_nI (by omega) (by decide)) (congrArg f82_4 (nI_clamp (by omega))) dX11_read_140 ?_
                refine r_iast S G 0 rfl (vp_in_nI (by omega) (by decide)) dX11_read_141 (fun H locs G => ?_)
                obtain ⟨c_15, c_16, c_17, c_18, c_19, hI_f_14⟩ := InA_c (j := (nI n124_2).toNatClampNeg) (k := n124_2) hI_f124_0 hI_f82_4 (nI_clamp (by omega))
                obtain ⟨f_14, hI_f_14, hE_f_14, G⟩ : ∃ f_14 : Nat → Int32, InA f_14 c_15 c_16 c_17 c_18 c_19 ∧ f_14 = upd f124_0 (nI n124_2).toNatClampNeg (f82_4 n124_2) ∧ wd X (va_A (@HAppend.hAppend va_W va_W va_W _ (mW m0 ma la lb n t v) (@HAppend.hAppend va_W va_W va_W _ ([((ma 0), .inl (X.2.1, 371, .inl fa))]) (@HAppend.hAppend va_W va_W va_W _ ([((ma 10), .inl (X.2.1, 150, .inl fd))]) (@HAppend.hAppend va_W va_W va_W _ ([((ma 17), .inl (X.2.1, 3, .inl fv))]) ([((ma 16), .inl (X.2.1, 123, .inl fw))]))))) sz) (va_A (@HAppend.hAppend va_W va_W va_W _ (mW m0 ma la lb n t v) (@HAppend.hAppend va_W va_W va_W _ ([((ma 0), .inl (X.2.1, 371, .inl fa))]) (@HAppend.hAppend va_W va_W va_W _ ([((ma 10), .inl (X.2.1, 150, .inl fd))]) (@HAppend.hAppend va_W va_W va_W _ ([((ma 17), .inl (X.2.1, 3, .inl fv))]) ([((ma 16), .inl (X.2.1, 123, .inl fw))]))))) sz) s (@HAppend.hAppend va_W va_W va_W _ ([((ma 0), .inl (X.2.1, 371, .inl f_14))]) (@HAppend.hAppend va_W va_W va_W _ ([((ma 17), .inl (X.2.1, 3, .inl f82_1))]) (@HAppend.hAppend va_W va_W va_W _ (mW m0 ma la lb n t82_2 v82_2) (@HAppend.hAppend va_W va_W va_W _ ([((ma 10), .inl (X.2.1, 150, .inl fd))]) ([((ma 16), .inl (X.2.1, 123, .inl f82_4))]))))) H locs := ⟨_, hI_f_14, rfl, G⟩
                have hO_f_14 := hI_f_14.2
                obtain ⟨hm0_f_14, hm1_f_14, hm2_f_14, hm3_f_14, hm4_f_14⟩ := hO_f_14
                refine lv_iinc (v := (nI (n124_2 + 1))) (lv' := [(2, .int (nI (n124_2 + 1))), (1, .int (nI n82_1)), (0, .ref m0)]) zx zb dX11_read_142 hl (k := 0) rfl (nI_add n124_2 1) (by decide) rfl (fun ls hl => ?_)
                refine lv_goto (tgt := 124) zx zb dX11_read_145 (by decide) ?_
                exact ih124 (n124_2 + 1) f_14 c_15 c_16 c_17 c_18 c_19 _ _ _ (by omega) (k_cpy hE_f_14 (nI_clamp (by omega)) hx124_0) hI_f_14 (by omega) G hl
          · have hnk : ¬ tK fd n (t82_2 0) = 0 := fun z => c_11 (hkx.2.2.1.trans z)
            refine lv_aload_n zx zb dX11_read_89 rfl (lv_at hl 1 rfl) ?_
            refine b_wi (cells' := 0) (slots' := 0) (wr := [((ma 0), .inl (X.2.1, 371, .inl fa))]) G rfl rfl [2, 3, 1, 4] [0] rfl rfl rfl rfl (n_V (As := []) (rest := []) (C := RX11) (T := TX11) (N := 18) (ci := 9) S G (y_takesItem l X m0 ma la lb n t82_2 v82_2 fd f82_1 f82_4 c082_4 c1_10c c2_10d c3_10e c4_10f sx dx (t82_2 0) tk hI_n hI_t82_2 hI_f82_4 hkx hRx hLx htx (by omega) H.size) gX11_read_X11_takesItem rfl rfl rfl hdV_X11_takesItem ⟨Nat.le_of_ble_eq_true rfl, Nat.le_of_ble_eq_true rfl⟩ [2, 3, 1, 4] rfl rfl 2 rfl rfl rfl hl.1 (Nat.le_of_ble_eq_true rfl) dX11_read_90 ⟨Nat.le_of_ble_eq_true rfl, Nat.le_of_ble_eq_true rfl⟩) (fun r_20 u_20 H locs hp_20 G => ?_)
            obtain ⟨t_20a, v_20b, f_20c, f_20d, c0_20e⟩ := u_20
            try dsimp only at hp_20
            obtain ⟨hI_t_20a, hI_f_20d, hq_20⟩ := hp_20
            have hO_t_20a := hI_t_20a
            obtain ⟨ht0_t_20a, ht1_t_20a⟩ := hO_t_20a
            have hO_f_20d := hI_f_20d.2
            obtain ⟨hm0_f_20d, hm1_f_20d, hm2_f_20d, hm3_f_20d, hm4_f_20d⟩ := hO_f_20d
            have G : wd X (va_A (@HAppend.hAppend va_W va_W va_W _ (mW m0 ma la lb n t v) (@HAppend.hAppend va_W va_W va_W _ ([((ma 0), .inl (X.2.1, 371, .inl fa))]) (@HAppend.hAppend va_W va_W va_W _ ([((ma 10), .inl (X.2.1, 150, .inl fd))]) (@HAppend.hAppend va_W va_W va_W _ ([((ma 17), .inl (X.2.1, 3, .inl fv))]) ([((ma 16), .inl (X.2.1, 123, .inl fw))]))))) sz) (va_A (@HAppend.hAppend va_W va_W va_W _ (mW m0 ma la lb n t v) (@HAppend.hAppend va_W va_W va_W _ ([((ma 0), .inl (X.2.1, 371, .inl fa))]) (@HAppend.hAppend va_W va_W va_W _ ([((ma 10), .inl (X.2.1, 150, .inl fd))]) (@HAppend.hAppend va_W va_W va_W _ ([((ma 17), .inl (X.2.1, 3, .inl fv))]) ([((ma 16), .inl (X.2.1, 123, .inl fw))]))))) sz) s (@HAppend.hAppend va_W va_W va_W _ ([((ma 0), .inl (X.2.1, 371, .inl fa))]) (@HAppend.hAppend va_W va_W va_W _ (mW m0 ma la lb n t_20a v_20b) (@HAppend.hAppend va_W va_W va_W _ ([((ma 10), .inl (X.2.1, 150, .inl fd))]) (@HAppend.hAppend va_W va_W va_W _ ([((ma 17), .inl (X.2.1, 3, .inl f_20c))]) ([((ma 16), .inl (X.2.1, 123, .inl f_20d))]))))) H locs := G
            rcases hq_20 with ⟨rfl, hi0_20, hi1_20, hi2_20, hi3_20⟩ | ⟨rfl, pp_20, hi0_20, hi1_20⟩
            · refine lv_if_eq (tgt := 104) zx zb dX11_read_93 (by decide) (fun c_21 => absurd c_21 (by decide)) (fun c_21 => ?_)
              refine lv_aload_n zx zb dX11_read_96 rfl (lv_at hl 1 rfl) ?_
              refine r_get (C := RX11) (T := TX11) (N := 18) (ci := 9) (v := .int (v_20b 0)) S in_X11_read_X11 G 1 rfl rfl 14 (by decide) lk_X11_read_223 rfl dX11_read_97 ?_
              refine lv_iconst (v := 3) zx zb dX11_read_100 (by decide) ?_
              refine lv_icmp_eq (tgt := 112) zx zb dX11_read_101 (by decide) (fun c_22 => ?_) (fun c_22 => ?_)
              · have h3 : tK fd n (itT fd n (t82_2 0) c082_4) = 3 := hi1_20.2.2.1.symm.trans c_22
                have hF : itF fd n (t82_2 0) c082_4 dx = none := by rw [hi0_20, chk_t (stpB_t h3)]; rfl
                have hadv := it_adv (T := fd) hxn hnk hF
                have hadw := tN_le (T := fd) hadv.2
                obtain ⟨hd0, tk2, hd1, hd2⟩ := itD_01 (sv := sx) hF htx
                refine lv_aload_n zx zb dX11_read_112 rfl (lv_at hl 1 rfl) ?_
                refine b_wv (cells' := 0) (slots' := 0) (wr := @HAppend.hAppend va_W va_W va_W _ ([((ma 0), .inl (X.2.1, 371, .inl fa))]) (@HAppend.hAppend va_W va_W va_W _ ([((ma 17), .inl (X.2.1, 3, .inl f_20c))]) ([((ma 16), .inl (X.2.1, 123, .inl f_20d))]))) G rfl rfl [1, 2] [0, 3, 4] rfl rfl rfl rfl (n_V (As := []) (rest := []) (C := RX11) (T := TX11) (N := 18) (ci := 9) S G (y_goBehind l X m0 ma la lb n t_20a v_20b fd (itT fd n (t82_2 0) c082_4) hI_n hI_t_20a hi1_20 H.size) gX11_read_X11_goBehind rfl rfl rfl hdV_X11_goBehind ⟨Nat.le_of_ble_eq_true rfl, Nat.le_of_ble_eq_true rfl⟩ [1, 2] rfl rfl 1 rfl rfl rfl hl.1 (Nat.le_of_ble_eq_true rfl) dX11_read_113 ⟨Nat.le_of_ble_eq_true rfl, Nat.le_of_ble_eq_true rfl⟩) (fun u_23 H locs hp_23 G => ?_)
                obtain ⟨t_23a, v_23b⟩ := u_23
                try dsimp only at hp_23
                obtain ⟨hI_t_23a, hq_23⟩ := hp_23
                have hO_t_23a := hI_t_23a
                obtain ⟨ht0_t_23a, ht1_t_23a⟩ := hO_t_23a
                have G : wd X (va_A (@HAppend.hAppend va_W va_W va_W _ (mW m0 ma la lb n t v) (@HAppend.hAppend va_W va_W va_W _ ([((ma 0), .inl (X.2.1, 371, .inl fa))]) (@HAppend.hAppend va_W va_W va_W _ ([((ma 10), .inl (X.2.1, 150, .inl fd))]) (@HAppend.hAppend va_W va_W va_W _ ([((ma 17), .inl (X.2.1, 3, .inl fv))]) ([((ma 16), .inl (X.2.1, 123, .inl fw))]))))) sz) (va_A (@HAppend.hAppend va_W va_W va_W _ (mW m0 ma la lb n t v) (@HAppend.hAppend va_W va_W va_W _ ([((ma 0), .inl (X.2.1, 371, .inl fa))]) (@HAppend.hAppend va_W va_W va_W _ ([((ma 10), .inl (X.2.1, 150, .inl fd))]) (@HAppend.hAppend va_W va_W va_W _ ([((ma 17), .inl (X.2.1, 3, .inl fv))]) ([((ma 16), .inl (X.2.1, 123, .inl fw))]))))) sz) s (@HAppend.hAppend va_W va_W va_W _ ([((ma 0), .inl (X.2.1, 371, .inl fa))]) (@HAppend.hAppend va_W va_W va_W _ ([((ma 17), .inl (X.2.1, 3, .inl f_20c))]) (@HAppend.hAppend va_W va_W va_W _ ([((ma 16), .inl (X.2.1, 123, .inl f_20d))]) (@HAppend.hAppend va_W va_W va_W _ (mW m0 ma la lb n t_23a v_23b) ([((ma 10), .inl (X.2.1, 150, .inl fd))]))))) H locs := G
                have hk_23 : tkM fd n t_23a v_23b (tN fd n (itT fd n (t82_2 0) c082_4)) := hq_23
                have e0 := hk_23.1
                have hkk : tkM fd n t_23a v_23b (t_23a 0) := by rw [e0]; exact hk_23
                have hRn : RepM (itS fd n (t82_2 0) c082_4 sx) (itD fd n (t82_2 0) c082_4 sx dx) c0_20e f_20d := by rw [hi2_20]; exact hi3_20
                have hrd2 : rdP fd n (152 - (n82_1 + 1)) (t_23a 0) (n82_1 + 1) c0_20e (itS fd n (t82_2 0) c082_4 sx) (itD fd n (t82_2 0) c082_4 sx dx) = rdA fd n sv dv := by rw [e0, hi2_20, ← hrd, show 152 - n82_1 = (152 - (n82_1 + 1)) + 1 from by omega]; exact (rdP_n hnk hF).symm
                refine lv_iinc (v := (nI (n82_1 + 1))) (lv' := [(1, .int (nI (n82_1 + 1))), (0, .ref m0)]) zx zb dX11_read_116 hl (k := 0) rfl (nI_add n82_1 1) (by decide) rfl (fun ls hl => ?_)
                refine lv_goto (tgt := 82) zx zb dX11_read_119 (by decide) ?_
                have G : wd X (va_A (@HAppend.hAppend va_W va_W va_W _ (mW m0 ma la lb n t v) (@HAppend.hAppend va_W va_W va_W _ ([((ma 0), .inl (X.2.1, 371, .inl fa))]) (@HAppend.hAppend va_W va_W va_W _ ([((ma 10), .inl (X.2.1, 150, .inl fd))]) (@HAppend.hAppend va_W va_W va_W _ ([((ma 17), .inl (X.2.1, 3, .inl fv))]) ([((ma 16), .inl (X.2.1, 123, .inl fw))]))))) sz) (va_A (@HAppend.hAppend va_W va_W va_W _ (mW m0 ma la lb n t v) (@HAppend.hAppend va_W va_W va_W _ ([((ma 0), .inl (X.2.1, 371, .inl fa))]) (@HAppend.hAppend va_W va_W va_W _ ([((ma 10), .inl (X.2.1, 150, .inl fd))]) (@HAppend.hAppend va_W va_W va_W _ ([((ma 17), .inl (X.2.1, 3, .inl fv))]) ([((ma 16), .inl (X.2.1, 123, .inl fw))]))))) sz) s (@HAppend.hAppend va_W va_W va_W _ ([((ma 0), .inl (X.2.1, 371, .inl fa))]) (@HAppend.hAppend va_W va_W va_W _ ([((ma 17), .inl (X.2.1, 3, .inl f_20c))]) (@HAppend.hAppend va_W va_W va_W _ (mW m0 ma la lb n t_23a v_23b) (@HAppend.hAppend va_W va_W va_W _ ([((ma 10), .inl (X.2.1, 150, .inl fd))]) ([((ma 16), .inl (X.2.1, 123, .inl f_20d))]))))) H locs := wd_sub G [0, 1, 3, 4, 2] rfl rfl
                exact ih82 (n82_1 + 1) f_20c t_23a v_23b f_20d c0_20e _ _ _ (by omega) ⟨⟨by omega, by omega⟩, hkk, _, _, tk2, hRn, ⟨hd1, by omega⟩, by rw [hd0]; exact hLx, hrd2⟩ hI_t_23a hI_f_20d (by omega) G hl
              · refine lv_bipush (v := (-10)) zx zb dX11_read_104 (by decide) ?_
                refine lv_aload_n zx zb dX11_read_106 rfl (lv_at hl 1 rfl) ?_
                refine r_get (C := RX11) (T := TX11) (N := 18) (ci := 9) (v := .int (nI (t_20a 0))) S in_X11_read_X11 G 1 rfl rfl 12 (by decide) lk_X11_read_217 rfl dX11_read_107 ?_
                refine r_isub (v := ((-10) - (nI (t_20a 0)))) S rfl dX11_read_110 ?_
                have h3 : ¬ tK fd n (itT fd n (t82_2 0) c082_4) = 3 := fun z => c_22 (hi1_20.2.2.1.trans z)
                have hF : itF fd n (t82_2 0) c082_4 dx = some (itT fd n (t82_2 0) c082_4) := by rw [hi0_20, chk_f (stpB_f h3)]
                have eR : rdA fd n sv dv = (-10 - nI (itT fd n (t82_2 0) c082_4), (false, (c082_4, (sx, dx)))) := (by rw [← hrd, show 152 - n82_1 = (151 - n82_1) + 1 from by omega]; exact rdP_f hnk hF)
                have et : t_20a 0 = (itT fd n (t82_2 0) c082_4) := hi1_20.1
                exact e_int S zr zlk (vp_nar_int _) G (t_20a, v_20b, fa, c0, c1, c2, c3, c4, f_20c, f_20d, c0_20e, c1_10c, c2_10d, c3_10e, c4_10f) [1, 0, 2, 3, 4] rfl rfl (Or.inr rfl) (⟨hI_t_20a, hI_fa, hI_f_20d, by rw [eR]; exact ⟨by rw [et], Or.inr ⟨rfl, ⟨rfl, rfl, rfl, rfl, rfl⟩, rfl⟩⟩⟩) dX11_read_111
            · refine lv_if_eq (tgt := 104) zx zb dX11_read_93 (by decide) (fun c_24 => ?_) (fun c_24 => absurd (by decide) c_24)
              refine lv_bipush (v := (-10)) zx zb dX11_read_104 (by decide) ?_
              refine lv_aload_n zx zb dX11_read_106 rfl (lv_at hl 1 rfl) ?_
              refine r_get (C := RX11) (T := TX11) (N := 18) (ci := 9) (v := .int (nI (t_20a 0))) S in_X11_read_X11 G 1 rfl rfl 12 (by decide) lk_X11_read_217 rfl dX11_read_107 ?_
              refine r_isub (v := ((-10) - (nI (t_20a 0)))) S rfl dX11_read_110 ?_
              have eR : rdA fd n sv dv = (-10 - nI pp_20, (false, (c082_4, (sx, dx)))) := (by rw [← hrd, show 152 - n82_1 = (151 - n82_1) + 1 from by omega]; exact rdP_f hnk hi0_20)
              have et : t_20a 0 = pp_20 := hi1_20
              exact e_int S zr zlk (vp_nar_int _) G (t_20a, v_20b, fa, c0, c1, c2, c3, c4, f_20c, f_20d, c0_20e, c1_10c, c2_10d, c3_10e, c4_10f) [1, 0, 2, 3, 4] rfl rfl (Or.inr rfl) (⟨hI_t_20a, hI_fa, hI_f_20d, by rw [eR]; exact ⟨by rw [et], Or.inr ⟨rfl, ⟨rfl, rfl, rfl, rfl, rfl⟩, rfl⟩⟩⟩) dX11_read_111
      · refine lv_bipush (v := (-10)) zx zb dX11_read_55 (by decide) ?_
        refine lv_aload_n zx zb dX11_read_57 rfl (lv_at hl 0 rfl) ?_
        refine r_get (C := RX11) (T := TX11) (N := 18) (ci := 9) (v := .int (nI (t_5a 0))) S in_X11_read_X11 G 2 rfl rfl 12 (by decide) lk_X11_read_217 rfl dX11_read_58 ?_
        refine r_isub (v := ((-10) - (nI (t_5a 0)))) S rfl dX11_read_61 ?_
        have h3 : ¬ tK fd n (t2 fd n s0) = 3 := fun z => c_7 (hk_5.2.2.1.trans z)
        have hF : racC fd n s0 = some (t2 fd n s0) := by rw [racC, chk_t (numB_t.mpr hn_5), chk_f (stpB_f h3)]
        have eR : rdA fd n sv dv = (-10 - nI (t2 fd n s0), (false, (0, (sv, dv)))) := (by subst hs0; exact rdA_f hw_2 hF)
        have et : t_5a 0 = (t2 fd n s0) := hk_5.1
        exact e_int S zr zlk (vp_nar_int _) G (t_5a, v_5b, fa, c0, c1, c2, c3, c4, f_5c, fw, w0, w1, w2, w3, w4) [2, 0, 3, 4, 1] rfl rfl (Or.inr rfl) (⟨hI_t_5a, hI_fa, hI_fw, by rw [eR]; exact ⟨by rw [et], Or.inr ⟨rfl, ⟨rfl, rfl, rfl, rfl, rfl⟩, rfl⟩⟩⟩) dX11_read_62
    · have hn_5 : ¬ numP fd n (tN fd n s0) 10 60 := hn_5
      refine lv_if_eq (tgt := 55) zx zb dX11_read_44 (by decide) (fun c_25 => ?_) (fun c_25 => absurd (by decide) c_25)
      refine lv_bipush (v := (-10)) zx zb dX11_read_55 (by decide) ?_
      refine lv_aload_n zx zb dX11_read_57 rfl (lv_at hl 0 rfl) ?_
      refine r_get (C := RX11) (T := TX11) (N := 18) (ci := 9) (v := .int (nI (t_5a 0))) S in_X11_read_X11 G 2 rfl rfl 12 (by decide) lk_X11_read_217 rfl dX11_read_58 ?_
      refine r_isub (v := ((-10) - (nI (t_5a 0)))) S rfl dX11_read_61 ?_
      have hF : racC fd n s0 = some (tN fd n s0) := by rw [racC, chk_f (numB_f hn_5)]
      have eR : rdA fd n sv dv = (-10 - nI (tN fd n s0), (false, (0, (sv, dv)))) := (by subst hs0; exact rdA_f hw_2 hF)
      have et : t_5a 0 = (tN fd n s0) := hf_5
      exact e_int S zr zlk (vp_nar_int _) G (t_5a, v_5b, fa, c0, c1, c2, c3, c4, f_5c, fw, w0, w1, w2, w3, w4) [2, 0, 3, 4, 1] rfl rfl (Or.inr rfl) (⟨hI_t_5a, hI_fa, hI_fw, by rw [eR]; exact ⟨by rw [et], Or.inr ⟨rfl, ⟨rfl, rfl, rfl, rfl, rfl⟩, rfl⟩⟩⟩) dX11_read_62
  · refine lv_if_ne (tgt := 31) zx zb dX11_read_20 (by decide) (fun c_26 => absurd (by decide) c_26) (fun c_26 => ?_)
    refine lv_bipush (v := (-10)) zx zb dX11_read_23 (by decide) ?_
    refine lv_aload_n zx zb dX11_read_25 rfl (lv_at hl 0 rfl) ?_
    refine r_get (C := RX11) (T := TX11) (N := 18) (ci := 9) (v := .int (nI (t_1a 0))) S in_X11_read_X11 G 3 rfl rfl 12 (by decide) lk_X11_read_217 rfl dX11_read_26 ?_
    refine r_isub (v := ((-10) - (nI (t_1a 0)))) S rfl dX11_read_29 ?_
    have eR : rdA fd n sv dv = (-10 - nI s0, (false, (0, (sv, dv)))) := (by subst hs0; exact rdA_w hw_2)
    have et : t_1a 0 = s0 := hk_1.1
    exact e_int S zr zlk (vp_nar_int _) G (t_1a, v_1b, fa, c0, c1, c2, c3, c4, fv, fw, w0, w1, w2, w3, w4) [3, 0, 4, 1, 2] rfl rfl (Or.inr rfl) (⟨hI_t_1a, hI_fa, hI_fw, by rw [eR]; exact ⟨by rw [et], Or.inr ⟨rfl, ⟨rfl, rfl, rfl, rfl, rfl⟩, rfl⟩⟩⟩) dX11_read_30
set_option maxHeartbeats 4000000 in
set_option maxRecDepth 100000 in
theorem y_legsOf (l : Launch) (X : EX) (m0 : Nat) (ma : Nat → Nat) (la : Int64) (lb : Int64) (n : Nat) (t : Nat → Nat) (v : Nat → Int32) (fa : Nat → Int32) (c0 : Nat) (c1 : Nat) (c2 : Nat) (c3 : Nat) (c4 : Nat) (i : Nat) (hI_n : n ≤ 150) (hI_t : InT t) (hI_fa : InA fa c0 c1 c2 c3 c4) (h6 : i < 6) (sz : Nat) : Met l yX11_legsOf wsX11_legsOf ({ frames := 1, cells := 0, slots := 0, locals := 26 } : Room) (pE X [.ref m0, .int (nI i)] (@HAppend.hAppend va_W va_W va_W _ (mW m0 ma la lb n t v) ([((ma 0), .inl (X.2.1, 371, .inl fa))])) sz) (qI (fun (r : Int32) (u : Unit) => r = setF (fun l => fitP c1 (fun k => fa (55 + (4 * k))) (fun _ => (nI l)) (fun k => fa ((55 + (4 * k)) + 1)) (fun k => fa ((55 + (4 * k)) + 2)) (fun k => fa ((55 + (4 * k)) + 3)) (nI i) (fa (37 + i))) 1 9) X (fun (u : Unit) => []) [] sz) 0 0 (va_A [] sz) := by
  refine mk_met (B := (fun _ => True)) (A := (va_A [] sz)) (cc := cX11_legsOf) (maxL := 7) (ret := (some .int)) (by decide) rfl (Nat.le_of_ble_eq_true rfl) k_ro k_a (fun p e s m below meth c S zr zlk znm zsz G ls hl => ?_)
  have S : CallFix p m c cX11_legsOf 7 s _ wsX11_legsOf RX11 := S
  have zx := S.1
  have zb := S.2.1
  have hl : lv_has ls 7 [(0, .ref m0), (1, .int (nI i))] := hl
  have hO_t := hI_t
  obtain ⟨ht0_t, ht1_t⟩ := hO_t
  have hO_fa := hI_fa.2
  obtain ⟨hm0_fa, hm1_fa, hm2_fa, hm3_fa, hm4_fa⟩ := hO_fa
  refine lv_iconst (v := 0) zx zb dX11_legsOf_0 (by decide) ?_
  refine lv_istore_n (lv' := [(2, .int 0), (0, .ref m0), (1, .int (nI i))]) zx zb dX11_legsOf_1 rfl hl (by decide) rfl (fun ls hl => ?_)
  refine lv_iconst (v := 1) zx zb dX11_legsOf_2 (by decide) ?_
  refine lv_istore_n (lv' := [(3, .int 1), (2, .int 0), (0, .ref m0), (1, .int (nI i))]) zx zb dX11_legsOf_3 rfl hl (by decide) rfl (fun ls hl => ?_)
  refine k_loop (P := ∀ (zm : Nat) (n4_3 : Nat) (x4_2 : Int32) (H : Heap) (locs : List Loc) (ls : Array Slot), ((10 - n4_3) < zm) → ((1 ≤ n4_3 ∧ n4_3 ≤ 10) ∧ x4_2 = setF (fun l => fitP c1 (fun k => fa (55 + (4 * k))) (fun _ => (nI l)) (fun k => fa ((55 + (4 * k)) + 1)) (fun k => fa ((55 + (4 * k)) + 2)) (fun k => fa ((55 + (4 * k)) + 3)) (nI i) (fa (37 + i))) 1 (n4_3 - 1)) → (n4_3 ≤ 10) → wd X (fun _ => True) (va_A [] sz) s (@HAppend.hAppend va_W va_W va_W _ (mW m0 ma la lb n t v) ([((ma 0), .inl (X.2.1, 371, .inl fa))])) H locs → lv_has ls 7 [(3, .int (nI n4_3)), (2, .int x4_2), (0, .ref m0), (1, .int (nI i))] → W p l e _ s m _ below meth c H locs _ _ _ (F0 m 4 ls [])) (fun loop => loop ((10 - 1) + 1) 1 0 _ _ _ (by omega) ⟨by omega, rfl⟩ (by omega) G hl) ?_
  intro zm
  induction zm with
  | zero => intro n4_3 x4_2 H locs ls zz q_x0 q_hk_n4_3 _ _; exact absurd zz (by omega)
  | succ zm ih4 =>
    intro n4_3 x4_2 H locs ls zm_4 hx4_0 hk_n4_3 G hl
    refine lv_iload_n zx zb dX11_legsOf_4 rfl (lv_at hl 0 rfl) ?_
    refine lv_bipush (v := 10) zx zb dX11_legsOf_5 (by decide) ?_
    refine lv_icmp_ge (tgt := 129) zx zb dX11_legsOf_7 (by decide) (fun c_1 => ?_) (fun c_1 => ?_)
    · have fc_1 := j_le (a := 10) (b := n4_3) (by omega) (by omega) c_1
      refine lv_iload_n zx zb dX11_legsOf_129 rfl (lv_at hl 1 rfl) ?_
      exact e_int S zr zlk (vp_nar_int _) G () [] rfl rfl (Or.inl rfl) (hx4_0.2.trans (by rw [show n4_3 = 10 from by omega]; first | done | rfl)) dX11_legsOf_130
    · have fc_1 := j_nle (a := 10) (b := n4_3) (by omega) (by omega) c_1
      refine lv_iconst (v := 1) zx zb dX11_legsOf_10 (by decide) ?_
      refine lv_istore (lv' := [(4, .int 1), (3, .int (nI n4_3)), (2, .int x4_2), (0, .ref m0), (1, .int (nI i))]) zx zb dX11_legsOf_11 hl (by decide) rfl (fun ls hl => ?_)
      refine lv_iconst (v := 0) zx zb dX11_legsOf_13 (by decide) ?_
      refine lv_istore (lv' := [(5, .int 0), (4, .int 1), (3, .int (nI n4_3)), (2, .int x4_2), (0, .ref m0), (1, .int (nI i))]) zx zb dX11_legsOf_14 hl (by decide) rfl (fun ls hl => ?_)
      refine k_loop (P := ∀ (zm : Nat) (n16_5 : Nat) (x16_4 : Int32) (H : Heap) (locs : List Loc) (ls : Array Slot), ((c1 - n16_5) < zm) → (n16_5 ≤ c1 ∧ ((x16_4 = 1 ∧ fitP n16_5 (fun k => fa (55 + (4 * k))) (fun _ => (nI n4_3)) (fun k => fa ((55 + (4 * k)) + 1)) (fun k => fa ((55 + (4 * k)) + 2)) (fun k => fa ((55 + (4 * k)) + 3)) (nI i) (fa (37 + i))) ∨ (x16_4 = 0 ∧ ¬ fitP n16_5 (fun k => fa (55 + (4 * k))) (fun _ => (nI n4_3)) (fun k => fa ((55 + (4 * k)) + 1)) (fun k => fa ((55 + (4 * k)) + 2)) (fun k => fa ((55 + (4 * k)) + 3)) (nI i) (fa (37 + i))))) → (n16_5 ≤ 6) → wd X (fun _ => True) (va_A [] sz) s (@HAppend.hAppend va_W va_W va_W _ (mW m0 ma la lb n t v) ([((ma 0), .inl (X.2.1, 371, .inl fa))])) H locs → lv_has ls 7 [(5, .int (nI n16_5)), (4, .int x16_4), (3, .int (nI n4_3)), (2, .int x4_2), (0, .ref m0), (1, .int (nI i))] → W p l e _ s m _ below meth c H locs _ _ _ (F0 m 16 ls [])) (fun loop => loop ((c1 - 0) + 1) 0 1 _ _ _ (by omega) ⟨by omega, Or.inl ⟨rfl, fitP_0⟩⟩ (by omega) G hl) ?_
      intro zm
      induction zm with
      | zero => intro n16_5 x16_4 H locs ls zz q_x0 q_hk_n16_5 _ _; exact absurd zz (by omega)
      | succ zm ih16 =>
        intro n16_5 x16_4 H locs ls zm_16 hx16_0 hk_n16_5 G hl
        obtain ⟨hk16, hx16⟩ := hx16_0
        rcases hx16 with ⟨rfl, hn16⟩ | ⟨rfl, hn16⟩
        · have hl : lv_has ls 7 [(5, .int (nI n16_5)), (4, .int 1), (3, .int (nI n4_3)), (2, .int x4_2), (0, .ref m0), (1, .int (nI i))] := hl
          refine lv_iload zx zb dX11_legsOf_16 (lv_at hl 0 rfl) ?_
          refine lv_aload_n zx zb dX11_legsOf_18 rfl (lv_at hl 4 rfl) ?_
          refine r_get (C := RX11) (T := TX11) (N := 18) (ci := 9) (v := .ref (ma 0)) S in_X11_legsOf_X11 G 0 rfl rfl 0 (by decide) lk_X11_legsOf_7 rfl dX11_legsOf_19 ?_
          refine lv_iconst (v := 1) zx zb dX11_legsOf_22 (by decide) ?_
          refine r_iald (v := (nI c1)) S G 1 rfl (k_vp (by decide)) hI_fa.1.2.1 dX11_legsOf_23 ?_
          refine lv_icmp_ge (tgt := 108) zx zb dX11_legsOf_24 (by decide) (fun c_3 => ?_) (fun c_3 => ?_)
          · have fc_3 := j_le (a := c1) (b := n16_5) (by omega) (by omega) c_3
            have hfq : fitP c1 (fun k => fa (55 + (4 * k))) (fun _ => (nI n4_3)) (fun k => fa ((55 + (4 * k)) + 1)) (fun k => fa ((55 + (4 * k)) + 2)) (fun k => fa ((55 + (4 * k)) + 3)) (nI i) (fa (37 + i)) := by rw [show c1 = n16_5 from by omega]; exact hn16
            refine lv_iload_n zx zb dX11_legsOf_108 rfl (lv_at hl 3 rfl) ?_
            refine lv_iload zx zb dX11_legsOf_109 (lv_at hl 1 rfl) ?_
            refine lv_if_eq (tgt := 120) zx zb dX11_legsOf_111 (by decide) (fun c_4 => absurd c_4 (by decide)) (fun c_4 => ?_)
            refine lv_iconst (v := 1) zx zb dX11_legsOf_114 (by decide) ?_
            refine lv_iload_n zx zb dX11_legsOf_115 rfl (lv_at hl 2 rfl) ?_
            refine lv_ishl zx zb dX11_legsOf_116 ?_
            refine lv_goto (tgt := 121) zx zb dX11_legsOf_117 (by decide) ?_
            refine lv_ior zx zb dX11_legsOf_121 ?_
            refine lv_istore_n (lv' := [(2, .int (x4_2 ||| (1 <<< ((nI n4_3) &&& 31)))), (5, .int (nI n16_5)), (4, .int 1), (3, .int (nI n4_3)), (0, .ref m0), (1, .int (nI i))]) zx zb dX11_legsOf_122 rfl hl (by decide) rfl (fun ls hl => ?_)
            refine lv_iinc (v := (nI (n4_3 + 1))) (lv' := [(3, .int (nI (n4_3 + 1))), (2, .int (x4_2 ||| (1 <<< ((nI n4_3) &&& 31)))), (5, .int (nI n16_5)), (4, .int 1), (0, .ref m0), (1, .int (nI i))]) zx zb dX11_legsOf_123 hl (k := 3) rfl (nI_add n4_3 1) (by decide) rfl (fun ls hl => ?_)
            refine lv_goto (tgt := 4) zx zb dX11_legsOf_126 (by decide) ?_
            have hl := lv_sub hl (l' := [(3, .int (nI (n4_3 + 1))), (2, .int (x4_2 ||| (1 <<< ((nI n4_3) &&& 31)))), (0, .ref m0), (1, .int (nI i))]) [0, 1, 4, 5] rfl
            exact ih4 (n4_3 + 1) (x4_2 ||| (1 <<< ((nI n4_3) &&& 31))) _ _ _ (by omega) ⟨by omega, by rw [setF_n (by omega), bitF_t hfq, ← hx4_0.2]⟩ (by omega) G hl
          · have fc_3 := j_nle (a := c1) (b := n16_5) (by omega) (by omega) c_3
            refine lv_bipush (v := 55) zx zb dX11_legsOf_27 (by decide) ?_
            refine lv_iconst (v := 4) zx zb dX11_legsOf_29 (by decide) ?_
            refine lv_iload zx zb dX11_legsOf_30 (lv_at hl 0 rfl) ?_
            refine r_imul (v := (nI (4 * n16_5))) S (pk_mul 4 n16_5) dX11_legsOf_32 ?_
            refine r_iadd (v := (nI (55 + (4 * n16_5)))) S (nI_add 55 (4 * n16_5)) dX11_legsOf_33 ?_
            refine lv_istore (lv' := [(6, .int (nI (55 + (4 * n16_5)))), (5, .int (nI n16_5)), (4, .int 1), (3, .int (nI n4_3)), (2, .int x4_2), (0, .ref m0), (1, .int (nI i))]) zx zb dX11_legsOf_34 hl (by decide) rfl (fun ls hl => ?_)
            refine lv_iload zx zb dX11_legsOf_36 (lv_at hl 2 rfl) ?_
            refine lv_if_eq (tgt := 99) zx zb dX11_legsOf_38 (by decide) (fun c_5 => absurd c_5 (by decide)) (fun c_5 => ?_)
            refine lv_aload_n zx zb dX11_legsOf_41 rfl (lv_at hl 5 rfl) ?_
            refine r_get (C := RX11) (T := TX11) (N := 18) (ci := 9) (v := .ref (ma 0)) S in_X11_legsOf_X11 G 0 rfl rfl 0 (by decide) lk_X11_legsOf_7 rfl dX11_legsOf_42 ?_
            refine lv_iload zx zb dX11_legsOf_45 (lv_at hl 0 rfl) ?_
            refine r_iald (v := (fa (55 + (4 * n16_5)))) S G 1 rfl (vp_in_nI (by omega) (by decide)) (congrArg fa (nI_clamp (by omega))) dX11_legsOf_47 ?_
            refine lv_iload_n zx zb dX11_legsOf_48 rfl (lv_at hl 6 rfl) ?_
            refine lv_icmp_ne (tgt := 95) zx zb dX11_legsOf_49 (by decide) (fun c_7 => ?_) (fun c_7 => ?_)
            · refine lv_iconst (v := 1) zx zb dX11_legsOf_95 (by decide) ?_
              refine lv_goto (tgt := 100) zx zb dX11_legsOf_96 (by decide) ?_
              refine lv_istore (lv' := [(4, .int 1), (6, .int (nI (55 + (4 * n16_5)))), (5, .int (nI n16_5)), (3, .int (nI n4_3)), (2, .int x4_2), (0, .ref m0), (1, .int (nI i))]) zx zb dX11_legsOf_100 hl (by decide) rfl (fun ls hl => ?_)
              refine lv_iinc (v := (nI (n16_5 + 1))) (lv' := [(5, .int (nI (n16_5 + 1))), (4, .int 1), (6, .int (nI (55 + (4 * n16_5)))), (3, .int (nI n4_3)), (2, .int x4_2), (0, .ref m0), (1, .int (nI i))]) zx zb dX11_legsOf_102 hl (k := 2) rfl (nI_add n16_5 1) (by decide) rfl (fun ls hl => ?_)
              refine lv_goto (tgt := 16) zx zb dX11_legsOf_105 (by decide) ?_
              have hl := lv_sub hl (l' := [(5, .int (nI (n16_5 + 1))), (4, .int 1), (3, .int (nI n4_3)), (2, .int x4_2), (0, .ref m0), (1, .int (nI i))]) [0, 1, 3, 4, 5, 6] rfl
              exact ih16 (n16_5 + 1) 1 _ _ _ (by omega) ⟨by omega, Or.inl ⟨rfl, fitP_s hn16 (fun e => absurd e c_7)⟩⟩ (by omega) G hl
            · refine lv_aload_n zx zb dX11_legsOf_52 rfl (lv_at hl 5 rfl) ?_
              refine r_get (C := RX11) (T := TX11) (N := 18) (ci := 9) (v := .ref (ma 0)) S in_X11_legsOf_X11 G 0 rfl rfl 0 (by decide) lk_X11_legsOf_7 rfl dX11_legsOf_53 ?_
              refine lv_bipush (v := 37) zx zb dX11_legsOf_56 (by decide) ?_
              refine lv_iload_n zx zb dX11_legsOf_58 rfl (lv_at hl 6 rfl) ?_
              refine r_iadd (v := (nI (37 + i))) S (nI_add 37 i) dX11_legsOf_59 ?_
              refine r_iald (v := (fa (37 + i))) S G 1 rfl (vp_in_nI (by omega) (by decide)) (congrArg fa (nI_clamp (by omega))) dX11_legsOf_60 ?_
              refine lv_iload_n zx zb dX11_legsOf_61 rfl (lv_at hl 3 rfl) ?_
              refine lv_aload_n zx zb dX11_legsOf_62 rfl (lv_at hl 5 rfl) ?_
              refine r_get (C := RX11) (T := TX11) (N := 18) (ci := 9) (v := .ref (ma 0)) S in_X11_legsOf_X11 G 0 rfl rfl 0 (by decide) lk_X11_legsOf_7 rfl dX11_legsOf_63 ?_
              refine lv_iload zx zb dX11_legsOf_66 (lv_at hl 0 rfl) ?_
              refine lv_iconst (v := 2) zx zb dX11_legsOf_68 (by decide) ?_
              refine r_iadd (v := (nI ((55 + (4 * n16_5)) + 2))) S (nI_add (55 + (4 * n16_5)) 2) dX11_legsOf_69 ?_
              refine r_iald (v := (fa ((55 + (4 * n16_5)) + 2))) S G 1 rfl (vp_in_nI (by omega) (by decide)) (congrArg fa (nI_clamp (by omega))) dX11_legsOf_70 ?_
              refine lv_aload_n zx zb dX11_legsOf_71 rfl (lv_at hl 5 rfl) ?_
              refine r_get (C := RX11) (T := TX11) (N := 18) (ci := 9) (v := .ref (ma 0)) S in_X11_legsOf_X11 G 0 rfl rfl 0 (by decide) lk_X11_legsOf_7 rfl dX11_legsOf_72 ?_
              refine lv_iload zx zb dX11_legsOf_75 (lv_at hl 0 rfl) ?_
              refine lv_iconst (v := 1) zx zb dX11_legsOf_77 (by decide) ?_
              refine r_iadd (v := (nI ((55 + (4 * n16_5)) + 1))) S (nI_add (55 + (4 * n16_5)) 1) dX11_legsOf_78 ?_
              refine r_iald (v := (fa ((55 + (4 * n16_5)) + 1))) S G 1 rfl (vp_in_nI (by omega) (by decide)) (congrArg fa (nI_clamp (by omega))) dX11_legsOf_79 ?_
              refine o_ri (cells' := 0) (slots' := 0) G rfl rfl (n_S (As := [.int (fa (37 + i)), .int (nI n4_3), .int (fa ((55 + (4 * n16_5)) + 2)), .int (fa ((55 + (4 * n16_5)) + 1))]) (rest := []) S G (y_runsAs l X (fa (37 + i)) (nI n4_3) (fa ((55 + (4 * n16_5)) + 2)) (fa ((55 + (4 * n16_5)) + 1)) H.size) gX11_legsOf_X11_runsAs rfl rfl rfl hdS_X11_runsAs ⟨Nat.le_of_ble_eq_true rfl, Nat.le_of_ble_eq_true rfl⟩ [] rfl rfl rfl hl.1 (Nat.le_of_ble_eq_true rfl) dX11_legsOf_80 ⟨Nat.le_of_ble_eq_true rfl, Nat.le_of_ble_eq_true rfl⟩) (fun r_11 u_11 H locs hp_11 G => ?_)
              have G : wd X (fun _ => True) (va_A [] sz) s (@HAppend.hAppend va_W va_W va_W _ (mW m0 ma la lb n t v) ([((ma 0), .inl (X.2.1, 371, .inl fa))])) H locs := G
              obtain rfl := hp_11
              refine lv_aload_n zx zb dX11_legsOf_83 rfl (lv_at hl 5 rfl) ?_
              refine r_get (C := RX11) (T := TX11) (N := 18) (ci := 9) (v := .ref (ma 0)) S in_X11_legsOf_X11 G 0 rfl rfl 0 (by decide) lk_X11_legsOf_7 rfl dX11_legsOf_84 ?_
              refine lv_iload zx zb dX11_legsOf_87 (lv_at hl 0 rfl) ?_
              refine lv_iconst (v := 3) zx zb dX11_legsOf_89 (by decide) ?_
              refine r_iadd (v := (nI ((55 + (4 * n16_5)) + 3))) S (nI_add (55 + (4 * n16_5)) 3) dX11_legsOf_90 ?_
              refine r_iald (v := (fa ((55 + (4 * n16_5)) + 3))) S G 1 rfl (vp_in_nI (by omega) (by decide)) (congrArg fa (nI_clamp (by omega))) dX11_legsOf_91 ?_
              refine lv_icmp_ne (tgt := 99) zx zb dX11_legsOf_92 (by decide) (fun c_13 => ?_) (fun c_13 => ?_)
              · refine lv_iconst (v := 0) zx zb dX11_legsOf_99 (by decide) ?_
                refine lv_istore (lv' := [(4, .int 0), (6, .int (nI (55 + (4 * n16_5)))), (5, .int (nI n16_5)), (3, .int (nI n4_3)), (2, .int x4_2), (0, .ref m0), (1, .int (nI i))]) zx zb dX11_legsOf_100 hl (by decide) rfl (fun ls hl => ?_)
                refine lv_iinc (v := (nI (n16_5 + 1))) (lv' := [(5, .int (nI (n16_5 + 1))), (4, .int 0), (6, .int (nI (55 + (4 * n16_5)))), (3, .int (nI n4_3)), (2, .int x4_2), (0, .ref m0), (1, .int (nI i))]) zx zb dX11_legsOf_102 hl (k := 2) rfl (nI_add n16_5 1) (by decide) rfl (fun ls hl => ?_)
                refine lv_goto (tgt := 16) zx zb dX11_legsOf_105 (by decide) ?_
                have hl := lv_sub hl (l' := [(5, .int (nI (n16_5 + 1))), (4, .int 0), (3, .int (nI n4_3)), (2, .int x4_2), (0, .ref m0), (1, .int (nI i))]) [0, 1, 3, 4, 5, 6] rfl
                exact ih16 (n16_5 + 1) 0 _ _ _ (by omega) ⟨by omega, Or.inr ⟨rfl, fun h => c_13 (h n16_5 (by omega) c_7)⟩⟩ (by omega) G hl
              · refine lv_iconst (v := 1) zx zb dX11_legsOf_95 (by decide) ?_
                refine lv_goto (tgt := 100) zx zb dX11_legsOf_96 (by decide) ?_
                refine lv_istore (lv' := [(4, .int 1), (6, .int (nI (55 + (4 * n16_5)))), (5, .int (nI n16_5)), (3, .int (nI n4_3)), (2, .int x4_2), (0, .ref m0), (1, .int (nI i))]) zx zb dX11_legsOf_100 hl (by decide) rfl (fun ls hl => ?_)
                refine lv_iinc (v := (nI (n16_5 + 1))) (lv' := [(5, .int (nI (n16_5 + 1))), (4, .int 1), (6, .int (nI (55 + (4 * n16_5)))), (3, .int (nI n4_3)), (2, .int x4_2), (0, .ref m0), (1, .int (nI i))]) zx zb dX11_legsOf_102 hl (k := 2) rfl (nI_add n16_5 1) (by decide) rfl (fun ls hl => ?_)
                refine lv_goto (tgt := 16) zx zb dX11_legsOf_105 (by decide) ?_
                have hl := lv_sub hl (l' := [(5, .int (nI (n16_5 + 1))), (4, .int 1), (3, .int (nI n4_3)), (2, .int x4_2), (0, .ref m0), (1, .int (nI i))]) [0, 1, 3, 4, 5, 6] rfl
                exact ih16 (n16_5 + 1) 1 _ _ _ (by omega) ⟨by omega, Or.inl ⟨rfl, fitP_s hn16 (fun _ => c_13)⟩⟩ (by omega) G hl
        · have hl : lv_has ls 7 [(5, .int (nI n16_5)), (4, .int 0), (3, .int (nI n4_3)), (2, .int x4_2), (0, .ref m0), (1, .int (nI i))] := hl
          refine lv_iload zx zb dX11_legsOf_16 (lv_at hl 0 rfl) ?_
          refine lv_aload_n zx zb dX11_legsOf_18 rfl (lv_at hl 4 rfl) ?_
          refine r_get (C := RX11) (T := TX11) (N := 18) (ci := 9) (v := .ref (ma 0)) S in_X11_legsOf_X11 G 0 rfl rfl 0 (by decide) lk_X11_legsOf_7 rfl dX11_legsOf_19 ?_
          refine lv_iconst (v := 1) zx zb dX11_legsOf_22 (by decide) ?_
          refine r_iald (v := (nI c1)) S G 1 rfl (k_vp (by decide)) hI_fa.1.2.1 dX11_legsOf_23 ?_
          refine lv_icmp_ge (tgt := 108) zx zb dX11_legsOf_24 (by decide) (fun c_15 => ?_) (fun c_15 => ?_)
          · have fc_15 := j_le (a := c1) (b := n16_5) (by omega) (by omega) c_15
            have hfq : ¬ fitP c1 (fun k => fa (55 + (4 * k))) (fun _ => (nI n4_3)) (fun k => fa ((55 + (4 * k)) + 1)) (fun k => fa ((55 + (4 * k)) + 2)) (fun k => fa ((55 + (4 * k)) + 3)) (nI i) (fa (37 + i)) := by rw [show c1 = n16_5 from by omega]; exact hn16
            refine lv_iload_n zx zb dX11_legsOf_108 rfl (lv_at hl 3 rfl) ?_
            refine lv_iload zx zb dX11_legsOf_109 (lv_at hl 1 rfl) ?_
            refine lv_if_eq (tgt := 120) zx zb dX11_legsOf_111 (by decide) (fun c_16 => ?_) (fun c_16 => absurd (by decide) c_16)
            refine lv_iconst (v := 0) zx zb dX11_legsOf_120 (by decide) ?_
            refine lv_ior zx zb dX11_legsOf_121 ?_
            refine lv_istore_n (lv' := [(2, .int (x4_2 ||| 0)), (5, .int (nI n16_5)), (4, .int 0), (3, .int (nI n4_3)), (0, .ref m0), (1, .int (nI i))]) zx zb dX11_legsOf_122 rfl hl (by decide) rfl (fun ls hl => ?_)
            refine lv_iinc (v := (nI (n4_3 + 1))) (lv' := [(3, .int (nI (n4_3 + 1))), (2, .int (x4_2 ||| 0)), (5, .int (nI n16_5)), (4, .int 0), (0, .ref m0), (1, .int (nI i))]) zx zb dX11_legsOf_123 hl (k := 3) rfl (nI_add n4_3 1) (by decide) rfl (fun ls hl => ?_)
            refine lv_goto (tgt := 4) zx zb dX11_legsOf_126 (by decide) ?_
            have hl := lv_sub hl (l' := [(3, .int (nI (n4_3 + 1))), (2, .int (x4_2 ||| 0)), (0, .ref m0), (1, .int (nI i))]) [0, 1, 4, 5] rfl
            exact ih4 (n4_3 + 1) (x4_2 ||| 0) _ _ _ (by omega) ⟨by omega, by rw [setF_n (by omega), bitF_f hfq, ← hx4_0.2]⟩ (by omega) G hl
          · have fc_15 := j_nle (a := c1) (b := n16_5) (by omega) (by omega) c_15
            refine lv_bipush (v := 55) zx zb dX11_legsOf_27 (by decide) ?_
            refine lv_iconst (v := 4) zx zb dX11_legsOf_29 (by decide) ?_
            refine lv_iload zx zb dX11_legsOf_30 (lv_at hl 0 rfl) ?_
            refine r_imul (v := (nI (4 * n16_5))) S (pk_mul 4 n16_5) dX11_legsOf_32 ?_
            refine r_iadd (v := (nI (55 + (4 * n16_5)))) S (nI_add 55 (4 * n16_5)) dX11_legsOf_33 ?_
            refine lv_istore (lv' := [(6, .int (nI (55 + (4 * n16_5)))), (5, .int (nI n16_5)), (4, .int 0), (3, .int (nI n4_3)), (2, .int x4_2), (0, .ref m0), (1, .int (nI i))]) zx zb dX11_legsOf_34 hl (by decide) rfl (fun ls hl => ?_)
            refine lv_iload zx zb dX11_legsOf_36 (lv_at hl 2 rfl) ?_
            refine lv_if_eq (tgt := 99) zx zb dX11_legsOf_38 (by decide) (fun c_17 => ?_) (fun c_17 => absurd (by decide) c_17)
            refine lv_iconst (v := 0) zx zb dX11_legsOf_99 (by decide) ?_
            refine lv_istore (lv' := [(4, .int 0), (6, .int (nI (55 + (4 * n16_5)))), (5, .int (nI n16_5)), (3, .int (nI n4_3)), (2, .int x4_2), (0, .ref m0), (1, .int (nI i))]) zx zb dX11_legsOf_100 hl (by decide) rfl (fun ls hl => ?_)
            refine lv_iinc (v := (nI (n16_5 + 1))) (lv' := [(5, .int (nI (n16_5 + 1))), (4, .int 0), (6, .int (nI (55 + (4 * n16_5)))), (3, .int (nI n4_3)), (2, .int x4_2), (0, .ref m0), (1, .int (nI i))]) zx zb dX11_legsOf_102 hl (k := 2) rfl (nI_add n16_5 1) (by decide) rfl (fun ls hl => ?_)
            refine lv_goto (tgt := 16) zx zb dX11_legsOf_105 (by decide) ?_
            have hl := lv_sub hl (l' := [(5, .int (nI (n16_5 + 1))), (4, .int 0), (3, .int (nI n4_3)), (2, .int x4_2), (0, .ref m0), (1, .int (nI i))]) [0, 1, 3, 4, 5, 6] rfl
            exact ih16 (n16_5 + 1) 0 _ _ _ (by omega) ⟨by omega, Or.inr ⟨rfl, fitP_m hn16 (by omega)⟩⟩ (by omega) G hl
set_option maxHeartbeats 4000000 in
set_option maxRecDepth 100000 in
theorem y_kindsOfOne (l : Launch) (X : EX) (m0 : Nat) (ma : Nat → Nat) (la : Int64) (lb : Int64) (n : Nat) (t : Nat → Nat) (v : Nat → Int32) (fa : Nat → Int32) (c0 : Nat) (c1 : Nat) (c2 : Nat) (c3 : Nat) (c4 : Nat) (x1 : Int32) (hI_n : n ≤ 150) (hI_t : InT t) (hI_fa : InA fa c0 c1 c2 c3 c4) (sz : Nat) : Met l yX11_kindsOfOne wsX11_kindsOfOne ({ frames := 1, cells := 0, slots := 0, locals := 26 } : Room) (pE X [.ref m0, .int x1] (@HAppend.hAppend va_W va_W va_W _ (mW m0 ma la lb n t v) ([((ma 0), .inl (X.2.1, 371, .inl fa))])) sz) (qI (fun (r : Int32) (u : Unit) => r = setF (fun l => fitP c2 (fun k => fa (75 + (5 * k))) (fun k => fa ((75 + (5 * k)) + 1)) (fun k => fa ((75 + (5 * k)) + 2)) (fun k => fa ((75 + (5 * k)) + 3)) (fun k => fa ((75 + (5 * k)) + 4)) x1 (nI l)) 0 6) X (fun (u : Unit) => []) [] sz) 0 0 (va_A [] sz) := by
  refine mk_met (B := (fun _ => True)) (A := (va_A [] sz)) (cc := cX11_kindsOfOne) (maxL := 7) (ret := (some .int)) (by decide) rfl (Nat.le_of_ble_eq_true rfl) k_ro k_a (fun p e s m below meth c S zr zlk znm zsz G ls hl => ?_)
  have S : CallFix p m c cX11_kindsOfOne 7 s _ wsX11_kindsOfOne RX11 := S
  have zx := S.1
  have zb := S.2.1
  have hl : lv_has ls 7 [(0, .ref m0), (1, .int x1)] := hl
  have hO_t := hI_t
  obtain ⟨ht0_t, ht1_t⟩ := hO_t
  have hO_fa := hI_fa.2
  obtain ⟨hm0_fa, hm1_fa, hm2_fa, hm3_fa, hm4_fa⟩ := hO_fa
  refine lv_iconst (v := 0) zx zb dX11_kindsOfOne_0 (by decide) ?_
  refine lv_istore_n (lv' := [(2, .int 0), (0, .ref m0), (1, .int x1)]) zx zb dX11_kindsOfOne_1 rfl hl (by decide) rfl (fun ls hl => ?_)
  refine lv_iconst (v := 0) zx zb dX11_kindsOfOne_2 (by decide) ?_
  refine lv_istore_n (lv' := [(3, .int 0), (2, .int 0), (0, .ref m0), (1, .int x1)]) zx zb dX11_kindsOfOne_3 rfl hl (by decide) rfl (fun ls hl => ?_)
  refine k_loop (P := ∀ (zm : Nat) (n4_3 : Nat) (x4_2 : Int32) (H : Heap) (locs : List Loc) (ls : Array Slot), ((6 - n4_3) < zm) → ((0 ≤ n4_3 ∧ n4_3 ≤ 6) ∧ x4_2 = setF (fun l => fitP c2 (fun k => fa (75 + (5 * k))) (fun k => fa ((75 + (5 * k)) + 1)) (fun k => fa ((75 + (5 * k)) + 2)) (fun k => fa ((75 + (5 * k)) + 3)) (fun k => fa ((75 + (5 * k)) + 4)) x1 (nI l)) 0 (n4_3 - 0)) → (n4_3 ≤ 6) → wd X (fun _ => True) (va_A [] sz) s (@HAppend.hAppend va_W va_W va_W _ (mW m0 ma la lb n t v) ([((ma 0), .inl (X.2.1, 371, .inl fa))])) H locs → lv_has ls 7 [(3, .int (nI n4_3)), (2, .int x4_2), (0, .ref m0), (1, .int x1)] → W p l e _ s m _ below meth c H locs _ _ _ (F0 m 4 ls [])) (fun loop => loop ((6 - 0) + 1) 0 0 _ _ _ (by omega) ⟨by omega, rfl⟩ (by omega) G hl) ?_
  intro zm
  induction zm with
  | zero => intro n4_3 x4_2 H locs ls zz q_x0 q_hk_n4_3 _ _; exact absurd zz (by omega)
  | succ zm ih4 =>
    intro n4_3 x4_2 H locs ls zm_4 hx4_0 hk_n4_3 G hl
    refine lv_iload_n zx zb dX11_kindsOfOne_4 rfl (lv_at hl 0 rfl) ?_
    refine lv_bipush (v := 6) zx zb dX11_kindsOfOne_5 (by decide) ?_
    refine lv_icmp_ge (tgt := 129) zx zb dX11_kindsOfOne_7 (by decide) (fun c_1 => ?_) (fun c_1 => ?_)
    · have fc_1 := j_le (a := 6) (b := n4_3) (by omega) (by omega) c_1
      refine lv_iload_n zx zb dX11_kindsOfOne_129 rfl (lv_at hl 1 rfl) ?_
      exact e_int S zr zlk (vp_nar_int _) G () [] rfl rfl (Or.inl rfl) (hx4_0.2.trans (by rw [show n4_3 = 6 from by omega]; first | done | rfl)) dX11_kindsOfOne_130
    · have fc_1 := j_nle (a := 6) (b := n4_3) (by omega) (by omega) c_1
      refine lv_iconst (v := 1) zx zb dX11_kindsOfOne_10 (by decide) ?_
      refine lv_istore (lv' := [(4, .int 1), (3, .int (nI n4_3)), (2, .int x4_2), (0, .ref m0), (1, .int x1)]) zx zb dX11_kindsOfOne_11 hl (by decide) rfl (fun ls hl => ?_)
      refine lv_iconst (v := 0) zx zb dX11_kindsOfOne_13 (by decide) ?_
      refine lv_istore (lv' := [(5, .int 0), (4, .int 1), (3, .int (nI n4_3)), (2, .int x4_2), (0, .ref m0), (1, .int x1)]) zx zb dX11_kindsOfOne_14 hl (by decide) rfl (fun ls hl => ?_)
      refine k_loop (P := ∀ (zm : Nat) (n16_5 : Nat) (x16_4 : Int32) (H : Heap) (locs : List Loc) (ls : Array Slot), ((c2 - n16_5) < zm) → (n16_5 ≤ c2 ∧ ((x16_4 = 1 ∧ fitP n16_5 (fun k => fa (75 + (5 * k))) (fun k => fa ((75 + (5 * k)) + 1)) (fun k => fa ((75 + (5 * k)) + 2)) (fun k => fa ((75 + (5 * k)) + 3)) (fun k => fa ((75 + (5 * k)) + 4)) x1 (nI n4_3)) ∨ (x16_4 = 0 ∧ ¬ fitP n16_5 (fun k => fa (75 + (5 * k))) (fun k => fa ((75 + (5 * k)) + 1)) (fun k => fa ((75 + (5 * k)) + 2)) (fun k => fa ((75 + (5 * k)) + 3)) (fun k => fa ((75 + (5 * k)) + 4)) x1 (nI n4_3)))) → (n16_5 ≤ 6) → wd X (fun _ => True) (va_A [] sz) s (@HAppend.hAppend va_W va_W va_W _ (mW m0 ma la lb n t v) ([((ma 0), .inl (X.2.1, 371, .inl fa))])) H locs → lv_has ls 7 [(5, .int (nI n16_5)), (4, .int x16_4), (3, .int (nI n4_3)), (2, .int x4_2), (0, .ref m0), (1, .int x1)] → W p l e _ s m _ below meth c H locs _ _ _ (F0 m 16 ls [])) (fun loop => loop ((c2 - 0) + 1) 0 1 _ _ _ (by omega) ⟨by omega, Or.inl ⟨rfl, fitP_0⟩⟩ (by omega) G hl) ?_
      intro zm
      induction zm with
      | zero => intro n16_5 x16_4 H locs ls zz q_x0 q_hk_n16_5 _ _; exact absurd zz (by omega)
      | succ zm ih16 =>
        intro n16_5 x16_4 H locs ls zm_16 hx16_0 hk_n16_5 G hl
        obtain ⟨hk16, hx16⟩ := hx16_0
        rcases hx16 with ⟨rfl, hn16⟩ | ⟨rfl, hn16⟩
        · have hl : lv_has ls 7 [(5, .int (nI n16_5)), (4, .int 1), (3, .int (nI n4_3)), (2, .int x4_2), (0, .ref m0), (1, .int x1)] := hl
          refine lv_iload zx zb dX11_kindsOfOne_16 (lv_at hl 0 rfl) ?_
          refine lv_aload_n zx zb dX11_kindsOfOne_18 rfl (lv_at hl 4 rfl) ?_
          refine r_get (C := RX11) (T := TX11) (N := 18) (ci := 9) (v := .ref (ma 0)) S in_X11_kindsOfOne_X11 G 0 rfl rfl 0 (by decide) lk_X11_kindsOfOne_7 rfl dX11_kindsOfOne_19 ?_
          refine lv_iconst (v := 2) zx zb dX11_kindsOfOne_22 (by decide) ?_
          refine r_iald (v := (nI c2)) S G 1 rfl (k_vp (by decide)) hI_fa.1.2.2.1 dX11_kindsOfOne_23 ?_
          refine lv_icmp_ge (tgt := 108) zx zb dX11_kindsOfOne_24 (by decide) (fun c_3 => ?_) (fun c_3 => ?_)
          · have fc_3 := j_le (a := c2) (b := n16_5) (by omega) (by omega) c_3
            have hfq : fitP c2 (fun k => fa (75 + (5 * k))) (fun k => fa ((75 + (5 * k)) + 1)) (fun k => fa ((75 + (5 * k)) + 2)) (fun k => fa ((75 + (5 * k)) + 3)) (fun k => fa ((75 + (5 * k)) + 4)) x1 (nI n4_3) := by rw [show c2 = n16_5 from by omega]; exact hn16
            refine lv_iload_n zx zb dX11_kindsOfOne_108 rfl (lv_at hl 3 rfl) ?_
            refine lv_iload zx zb dX11_kindsOfOne_109 (lv_at hl 1 rfl) ?_
            refine lv_if_eq (tgt := 120) zx zb dX11_kindsOfOne_111 (by decide) (fun c_4 => absurd c_4 (by decide)) (fun c_4 => ?_)
            refine lv_iconst (v := 1) zx zb dX11_kindsOfOne_114 (by decide) ?_
            refine lv_iload_n zx zb dX11_kindsOfOne_115 rfl (lv_at hl 2 rfl) ?_
            refine lv_ishl zx zb dX11_kindsOfOne_116 ?_
            refine lv_goto (tgt := 121) zx zb dX11_kindsOfOne_117 (by decide) ?_
            refine lv_ior zx zb dX11_kindsOfOne_121 ?_
            refine lv_istore_n (lv' := [(2, .int (x4_2 ||| (1 <<< ((nI n4_3) &&& 31)))), (5, .int (nI n16_5)), (4, .int 1), (3, .int (nI n4_3)), (0, .ref m0), (1, .int x1)]) zx zb dX11_kindsOfOne_122 rfl hl (by decide) rfl (fun ls hl => ?_)
            refine lv_iinc (v := (nI (n4_3 + 1))) (lv' := [(3, .int (nI (n4_3 + 1))), (2, .int (x4_2 ||| (1 <<< ((nI n4_3) &&& 31)))), (5, .int (nI n16_5)), (4, .int 1), (0, .ref m0), (1, .int x1)]) zx zb dX11_kindsOfOne_123 hl (k := 3) rfl (nI_add n4_3 1) (by decide) rfl (fun ls hl => ?_)
            refine lv_goto (tgt := 4) zx zb dX11_kindsOfOne_126 (by decide) ?_
            have hl := lv_sub hl (l' := [(3, .int (nI (n4_3 + 1))), (2, .int (x4_2 ||| (1 <<< ((nI n4_3) &&& 31)))), (0, .ref m0), (1, .int x1)]) [0, 1, 4, 5] rfl
            exact ih4 (n4_3 + 1) (x4_2 ||| (1 <<< ((nI n4_3) &&& 31))) _ _ _ (by omega) ⟨by omega, by rw [setF_n (by omega), bitF_t hfq, ← hx4_0.2]⟩ (by omega) G hl
          · have fc_3 := j_nle (a := c2) (b := n16_5) (by omega) (by omega) c_3
            refine lv_bipush (v := 75) zx zb dX11_kindsOfOne_27 (by decide) ?_
            refine lv_iconst (v := 5) zx zb dX11_kindsOfOne_29 (by decide) ?_
            refine lv_iload zx zb dX11_kindsOfOne_30 (lv_at hl 0 rfl) ?_
            refine r_imul (v := (nI (5 * n16_5))) S (pk_mul 5 n16_5) dX11_kindsOfOne_32 ?_
            refine r_iadd (v := (nI (75 + (5 * n16_5)))) S (nI_add 75 (5 * n16_5)) dX11_kindsOfOne_33 ?_
            refine lv_istore (lv' := [(6, .int (nI (75 + (5 * n16_5)))), (5, .int (nI n16_5)), (4, .int 1), (3, .int (nI n4_3)), (2, .int x4_2), (0, .ref m0), (1, .int x1)]) zx zb dX11_kindsOfOne_34 hl (by decide) rfl (fun ls hl => ?_)
            refine lv_iload zx zb dX11_kindsOfOne_36 (lv_at hl 2 rfl) ?_
            refine lv_if_eq (tgt := 99) zx zb dX11_kindsOfOne_38 (by decide) (fun c_5 => absurd c_5 (by decide)) (fun c_5 => ?_)
            refine lv_aload_n zx zb dX11_kindsOfOne_41 rfl (lv_at hl 5 rfl) ?_
            refine r_get (C := RX11) (T := TX11) (N := 18) (ci := 9) (v := .ref (ma 0)) S in_X11_kindsOfOne_X11 G 0 rfl rfl 0 (by decide) lk_X11_kindsOfOne_7 rfl dX11_kindsOfOne_42 ?_
            refine lv_iload zx zb dX11_kindsOfOne_45 (lv_at hl 0 rfl) ?_
            refine r_iald (v := (fa (75 + (5 * n16_5)))) S G 1 rfl (vp_in_nI (by omega) (by decide)) (congrArg fa (nI_clamp (by omega))) dX11_kindsOfOne_47 ?_
            refine lv_iload_n zx zb dX11_kindsOfOne_48 rfl (lv_at hl 6 rfl) ?_
            refine lv_icmp_ne (tgt := 95) zx zb dX11_kindsOfOne_49 (by decide) (fun c_7 => ?_) (fun c_7 => ?_)
            · refine lv_iconst (v := 1) zx zb dX11_kindsOfOne_95 (by decide) ?_
              refine lv_goto (tgt := 100) zx zb dX11_kindsOfOne_96 (by decide) ?_
              refine lv_istore (lv' := [(4, .int 1), (6, .int (nI (75 + (5 * n16_5)))), (5, .int (nI n16_5)), (3, .int (nI n4_3)), (2, .int x4_2), (0, .ref m0), (1, .int x1)]) zx zb dX11_kindsOfOne_100 hl (by decide) rfl (fun ls hl => ?_)
              refine lv_iinc (v := (nI (n16_5 + 1))) (lv' := [(5, .int (nI (n16_5 + 1))), (4, .int 1), (6, .int (nI (75 + (5 * n16_5)))), (3, .int (nI n4_3)), (2, .int x4_2), (0, .ref m0), (1, .int x1)]) zx zb dX11_kindsOfOne_102 hl (k := 2) rfl (nI_add n16_5 1) (by decide) rfl (fun ls hl => ?_)
              refine lv_goto (tgt := 16) zx zb dX11_kindsOfOne_105 (by decide) ?_
              have hl := lv_sub hl (l' := [(5, .int (nI (n16_5 + 1))), (4, .int 1), (3, .int (nI n4_3)), (2, .int x4_2), (0, .ref m0), (1, .int x1)]) [0, 1, 3, 4, 5, 6] rfl
              exact ih16 (n16_5 + 1) 1 _ _ _ (by omega) ⟨by omega, Or.inl ⟨rfl, fitP_s hn16 (fun e => absurd e c_7)⟩⟩ (by omega) G hl
            · refine lv_iload_n zx zb dX11_kindsOfOne_52 rfl (lv_at hl 3 rfl) ?_
              refine lv_aload_n zx zb dX11_kindsOfOne_53 rfl (lv_at hl 5 rfl) ?_
              refine r_get (C := RX11) (T := TX11) (N := 18) (ci := 9) (v := .ref (ma 0)) S in_X11_kindsOfOne_X11 G 0 rfl rfl 0 (by decide) lk_X11_kindsOfOne_7 rfl dX11_kindsOfOne_54 ?_
              refine lv_iload zx zb dX11_kindsOfOne_57 (lv_at hl 0 rfl) ?_
              refine lv_iconst (v := 1) zx zb dX11_kindsOfOne_59 (by decide) ?_
              refine r_iadd (v := (nI ((75 + (5 * n16_5)) + 1))) S (nI_add (75 + (5 * n16_5)) 1) dX11_kindsOfOne_60 ?_
              refine r_iald (v := (fa ((75 + (5 * n16_5)) + 1))) S G 1 rfl (vp_in_nI (by omega) (by decide)) (congrArg fa (nI_clamp (by omega))) dX11_kindsOfOne_61 ?_
              refine lv_aload_n zx zb dX11_kindsOfOne_62 rfl (lv_at hl 5 rfl) ?_
              refine r_get (C := RX11) (T := TX11) (N := 18) (ci := 9) (v := .ref (ma 0)) S in_X11_kindsOfOne_X11 G 0 rfl rfl 0 (by decide) lk_X11_kindsOfOne_7 rfl dX11_kindsOfOne_63 ?_
              refine lv_iload zx zb dX11_kindsOfOne_66 (lv_at hl 0 rfl) ?_
              refine lv_iconst (v := 3) zx zb dX11_kindsOfOne_68 (by decide) ?_
              refine r_iadd (v := (nI ((75 + (5 * n16_5)) + 3))) S (nI_add (75 + (5 * n16_5)) 3) dX11_kindsOfOne_69 ?_
              refine r_iald (v := (fa ((75 + (5 * n16_5)) + 3))) S G 1 rfl (vp_in_nI (by omega) (by decide)) (congrArg fa (nI_clamp (by omega))) dX11_kindsOfOne_70 ?_
              refine lv_aload_n zx zb dX11_kindsOfOne_71 rfl (lv_at hl 5 rfl) ?_
              refine r_get (C := RX11) (T := TX11) (N := 18) (ci := 9) (v := .ref (ma 0)) S in_X11_kindsOfOne_X11 G 0 rfl rfl 0 (by decide) lk_X11_kindsOfOne_7 rfl dX11_kindsOfOne_72 ?_
              refine lv_iload zx zb dX11_kindsOfOne_75 (lv_at hl 0 rfl) ?_
              refine lv_iconst (v := 2) zx zb dX11_kindsOfOne_77 (by decide) ?_
              refine r_iadd (v := (nI ((75 + (5 * n16_5)) + 2))) S (nI_add (75 + (5 * n16_5)) 2) dX11_kindsOfOne_78 ?_
              refine r_iald (v := (fa ((75 + (5 * n16_5)) + 2))) S G 1 rfl (vp_in_nI (by omega) (by decide)) (congrArg fa (nI_clamp (by omega))) dX11_kindsOfOne_79 ?_
              refine o_ri (cells' := 0) (slots' := 0) G rfl rfl (n_S (As := [.int (nI n4_3), .int (fa ((75 + (5 * n16_5)) + 1)), .int (fa ((75 + (5 * n16_5)) + 3)), .int (fa ((75 + (5 * n16_5)) + 2))]) (rest := []) S G (y_runsAs l X (nI n4_3) (fa ((75 + (5 * n16_5)) + 1)) (fa ((75 + (5 * n16_5)) + 3)) (fa ((75 + (5 * n16_5)) + 2)) H.size) gX11_kindsOfOne_X11_runsAs rfl rfl rfl hdS_X11_runsAs ⟨Nat.le_of_ble_eq_true rfl, Nat.le_of_ble_eq_true rfl⟩ [] rfl rfl rfl hl.1 (Nat.le_of_ble_eq_true rfl) dX11_kindsOfOne_80 ⟨Nat.le_of_ble_eq_true rfl, Nat.le_of_ble_eq_true rfl⟩) (fun r_11 u_11 H locs hp_11 G => ?_)
              have G : wd X (fun _ => True) (va_A [] sz) s (@HAppend.hAppend va_W va_W va_W _ (mW m0 ma la lb n t v) ([((ma 0), .inl (X.2.1, 371, .inl fa))])) H locs := G
              obtain rfl := hp_11
              refine lv_aload_n zx zb dX11_kindsOfOne_83 rfl (lv_at hl 5 rfl) ?_
              refine r_get (C := RX11) (T := TX11) (N := 18) (ci := 9) (v := .ref (ma 0)) S in_X11_kindsOfOne_X11 G 0 rfl rfl 0 (by decide) lk_X11_kindsOfOne_7 rfl dX11_kindsOfOne_84 ?_
              refine lv_iload zx zb dX11_kindsOfOne_87 (lv_at hl 0 rfl) ?_
              refine lv_iconst (v := 4) zx zb dX11_kindsOfOne_89 (by decide) ?_
              refine r_iadd (v := (nI ((75 + (5 * n16_5)) + 4))) S (nI_add (75 + (5 * n16_5)) 4) dX11_kindsOfOne_90 ?_
              refine r_iald (v := (fa ((75 + (5 * n16_5)) + 4))) S G 1 rfl (vp_in_nI (by omega) (by decide)) (congrArg fa (nI_clamp (by omega))) dX11_kindsOfOne_91 ?_
              refine lv_icmp_ne (tgt := 99) zx zb dX11_kindsOfOne_92 (by decide) (fun c_13 => ?_) (fun c_13 => ?_)
              · refine lv_iconst (v := 0) zx zb dX11_kindsOfOne_99 (by decide) ?_
                refine lv_istore (lv' := [(4, .int 0), (6, .int (nI (75 + (5 * n16_5)))), (5, .int (nI n16_5)), (3, .int (nI n4_3)), (2, .int x4_2), (0, .ref m0), (1, .int x1)]) zx zb dX11_kindsOfOne_100 hl (by decide) rfl (fun ls hl => ?_)
                refine lv_iinc (v := (nI (n16_5 + 1))) (lv' := [(5, .int (nI (n16_5 + 1))), (4, .int 0), (6, .int (nI (75 + (5 * n16_5)))), (3, .int (nI n4_3)), (2, .int x4_2), (0, .ref m0), (1, .int x1)]) zx zb dX11_kindsOfOne_102 hl (k := 2) rfl (nI_add n16_5 1) (by decide) rfl (fun ls hl => ?_)
                refine lv_goto (tgt := 16) zx zb dX11_kindsOfOne_105 (by decide) ?_
                have hl := lv_sub hl (l' := [(5, .int (nI (n16_5 + 1))), (4, .int 0), (3, .int (nI n4_3)), (2, .int x4_2), (0, .ref m0), (1, .int x1)]) [0, 1, 3, 4, 5, 6] rfl
                exact ih16 (n16_5 + 1) 0 _ _ _ (by omega) ⟨by omega, Or.inr ⟨rfl, fun h => c_13 (h n16_5 (by omega) c_7)⟩⟩ (by omega) G hl
              · refine lv_iconst (v := 1) zx zb dX11_kindsOfOne_95 (by decide) ?_
                refine lv_goto (tgt := 100) zx zb dX11_kindsOfOne_96 (by decide) ?_
                refine lv_istore (lv' := [(4, .int 1), (6, .int (nI (75 + (5 * n16_5)))), (5, .int (nI n16_5)), (3, .int (nI n4_3)), (2, .int x4_2), (0, .ref m0), (1, .int x1)]) zx zb dX11_kindsOfOne_100 hl (by decide) rfl (fun ls hl => ?_)
                refine lv_iinc (v := (nI (n16_5 + 1))) (lv' := [(5, .int (nI (n16_5 + 1))), (4, .int 1), (6, .int (nI (75 + (5 * n16_5)))), (3, .int (nI n4_3)), (2, .int x4_2), (0, .ref m0), (1, .int x1)]) zx zb dX11_kindsOfOne_102 hl (k := 2) rfl (nI_add n16_5 1) (by decide) rfl (fun ls hl => ?_)
                refine lv_goto (tgt := 16) zx zb dX11_kindsOfOne_105 (by decide) ?_
                have hl := lv_sub hl (l' := [(5, .int (nI (n16_5 + 1))), (4, .int 1), (3, .int (nI n4_3)), (2, .int x4_2), (0, .ref m0), (1, .int x1)]) [0, 1, 3, 4, 5, 6] rfl
                exact ih16 (n16_5 + 1) 1 _ _ _ (by omega) ⟨by omega, Or.inl ⟨rfl, fitP_s hn16 (fun _ => c_13)⟩⟩ (by omega) G hl
        · have hl : lv_has ls 7 [(5, .int (nI n16_5)), (4, .int 0), (3, .int (nI n4_3)), (2, .int x4_2), (0, .ref m0), (1, .int x1)] := hl
          refine lv_iload zx zb dX11_kindsOfOne_16 (lv_at hl 0 rfl) ?_
          refine lv_aload_n zx zb dX11_kindsOfOne_18 rfl (lv_at hl 4 rfl) ?_
          refine r_get (C := RX11) (T := TX11) (N := 18) (ci := 9) (v := .ref (ma 0)) S in_X11_kindsOfOne_X11 G 0 rfl rfl 0 (by decide) lk_X11_kindsOfOne_7 rfl dX11_kindsOfOne_19 ?_
          refine lv_iconst (v := 2) zx zb dX11_kindsOfOne_22 (by decide) ?_
          refine r_iald (v := (nI c2)) S G 1 rfl (k_vp (by decide)) hI_fa.1.2.2.1 dX11_kindsOfOne_23 ?_
          refine lv_icmp_ge (tgt := 108) zx zb dX11_kindsOfOne_24 (by decide) (fun c_15 => ?_) (fun c_15 => ?_)
          · have fc_15 := j_le (a := c2) (b := n16_5) (by omega) (by omega) c_15
            have hfq : ¬ fitP c2 (fun k => fa (75 + (5 * k))) (fun k => fa ((75 + (5 * k)) + 1)) (fun k => fa ((75 + (5 * k)) + 2)) (fun k => fa ((75 + (5 * k)) + 3)) (fun k => fa ((75 + (5 * k)) + 4)) x1 (nI n4_3) := by rw [show c2 = n16_5 from by omega]; exact hn16
            refine lv_iload_n zx zb dX11_kindsOfOne_108 rfl (lv_at hl 3 rfl) ?_
            refine lv_iload zx zb dX11_kindsOfOne_109 (lv_at hl 1 rfl) ?_
            refine lv_if_eq (tgt := 120) zx zb dX11_kindsOfOne_111 (by decide) (fun c_16 => ?_) (fun c_16 => absurd (by decide) c_16)
            refine lv_iconst (v := 0) zx zb dX11_kindsOfOne_120 (by decide) ?_
            refine lv_ior zx zb dX11_kindsOfOne_121 ?_
            refine lv_istore_n (lv' := [(2, .int (x4_2 ||| 0)), (5, .int (nI n16_5)), (4, .int 0), (3, .int (nI n4_3)), (0, .ref m0), (1, .int x1)]) zx zb dX11_kindsOfOne_122 rfl hl (by decide) rfl (fun ls hl => ?_)
            refine lv_iinc (v := (nI (n4_3 + 1))) (lv' := [(3, .int (nI (n4_3 + 1))), (2, .int (x4_2 ||| 0)), (5, .int (nI n16_5)), (4, .int 0), (0, .ref m0), (1, .int x1)]) zx zb dX11_kindsOfOne_123 hl (k := 3) rfl (nI_add n4_3 1) (by decide) rfl (fun ls hl => ?_)
            refine lv_goto (tgt := 4) zx zb dX11_kindsOfOne_126 (by decide) ?_
            have hl := lv_sub hl (l' := [(3, .int (nI (n4_3 + 1))), (2, .int (x4_2 ||| 0)), (0, .ref m0), (1, .int x1)]) [0, 1, 4, 5] rfl
            exact ih4 (n4_3 + 1) (x4_2 ||| 0) _ _ _ (by omega) ⟨by omega, by rw [setF_n (by omega), bitF_f hfq, ← hx4_0.2]⟩ (by omega) G hl
          · have fc_15 := j_nle (a := c2) (b := n16_5) (by omega) (by omega) c_15
            refine lv_bipush (v := 75) zx zb dX11_kindsOfOne_27 (by decide) ?_
            refine lv_iconst (v := 5) zx zb dX11_kindsOfOne_29 (by decide) ?_
            refine lv_iload zx zb dX11_kindsOfOne_30 (lv_at hl 0 rfl) ?_
            refine r_imul (v := (nI (5 * n16_5))) S (pk_mul 5 n16_5) dX11_kindsOfOne_32 ?_
            refine r_iadd (v := (nI (75 + (5 * n16_5)))) S (nI_add 75 (5 * n16_5)) dX11_kindsOfOne_33 ?_
            refine lv_istore (lv' := [(6, .int (nI (75 + (5 * n16_5)))), (5, .int (nI n16_5)), (4, .int 0), (3, .int (nI n4_3)), (2, .int x4_2), (0, .ref m0), (1, .int x1)]) zx zb dX11_kindsOfOne_34 hl (by decide) rfl (fun ls hl => ?_)
            refine lv_iload zx zb dX11_kindsOfOne_36 (lv_at hl 2 rfl) ?_
            refine lv_if_eq (tgt := 99) zx zb dX11_kindsOfOne_38 (by decide) (fun c_17 => ?_) (fun c_17 => absurd (by decide) c_17)
            refine lv_iconst (v := 0) zx zb dX11_kindsOfOne_99 (by decide) ?_
            refine lv_istore (lv' := [(4, .int 0), (6, .int (nI (75 + (5 * n16_5)))), (5, .int (nI n16_5)), (3, .int (nI n4_3)), (2, .int x4_2), (0, .ref m0), (1, .int x1)]) zx zb dX11_kindsOfOne_100 hl (by decide) rfl (fun ls hl => ?_)
            refine lv_iinc (v := (nI (n16_5 + 1))) (lv' := [(5, .int (nI (n16_5 + 1))), (4, .int 0), (6, .int (nI (75 + (5 * n16_5)))), (3, .int (nI n4_3)), (2, .int x4_2), (0, .ref m0), (1, .int x1)]) zx zb dX11_kindsOfOne_102 hl (k := 2) rfl (nI_add n16_5 1) (by decide) rfl (fun ls hl => ?_)
            refine lv_goto (tgt := 16) zx zb dX11_kindsOfOne_105 (by decide) ?_
            have hl := lv_sub hl (l' := [(5, .int (nI (n16_5 + 1))), (4, .int 0), (3, .int (nI n4_3)), (2, .int x4_2), (0, .ref m0), (1, .int x1)]) [0, 1, 3, 4, 5, 6] rfl
            exact ih16 (n16_5 + 1) 0 _ _ _ (by omega) ⟨by omega, Or.inr ⟨rfl, fitP_m hn16 (by omega)⟩⟩ (by omega) G hl
set_option maxHeartbeats 4000000 in
set_option maxRecDepth 100000 in
theorem y_kindsOfEgg (l : Launch) (X : EX) (m0 : Nat) (ma : Nat → Nat) (la : Int64) (lb : Int64) (n : Nat) (t : Nat → Nat) (v : Nat → Int32) (fa : Nat → Int32) (c0 : Nat) (c1 : Nat) (c2 : Nat) (c3 : Nat) (c4 : Nat) (x1 : Int32) (hI_n : n ≤ 150) (hI_t : InT t) (hI_fa : InA fa c0 c1 c2 c3 c4) (sz : Nat) : Met l yX11_kindsOfEgg wsX11_kindsOfEgg ({ frames := 1, cells := 0, slots := 0, locals := 22 } : Room) (pE X [.ref m0, .int x1] (@HAppend.hAppend va_W va_W va_W _ (mW m0 ma la lb n t v) ([((ma 0), .inl (X.2.1, 371, .inl fa))])) sz) (qI (fun (r : Int32) (u : Unit) => r = setF (fun l => eggP c3 (fun k => fa (105 + (3 * k))) (fun k => fa ((105 + (3 * k)) + 1)) (fun k => fa ((105 + (3 * k)) + 2)) x1 (nI l)) 0 6) X (fun (u : Unit) => []) [] sz) 0 0 (va_A [] sz) := by
  refine mk_met (B := (fun _ => True)) (A := (va_A [] sz)) (cc := cX11_kindsOfEgg) (maxL := 7) (ret := (some .int)) (by decide) rfl (Nat.le_of_ble_eq_true rfl) k_ro k_a (fun p e s m below meth c S zr zlk znm zsz G ls hl => ?_)
  have S : CallFix p m c cX11_kindsOfEgg 7 s _ wsX11_kindsOfEgg RX11 := S
  have zx := S.1
  have zb := S.2.1
  have hl : lv_has ls 7 [(0, .ref m0), (1, .int x1)] := hl
  have hO_t := hI_t
  obtain ⟨ht0_t, ht1_t⟩ := hO_t
  have hO_fa := hI_fa.2
  obtain ⟨hm0_fa, hm1_fa, hm2_fa, hm3_fa, hm4_fa⟩ := hO_fa
  refine lv_iconst (v := 0) zx zb dX11_kindsOfEgg_0 (by decide) ?_
  refine lv_istore_n (lv' := [(2, .int 0), (0, .ref m0), (1, .int x1)]) zx zb dX11_kindsOfEgg_1 rfl hl (by decide) rfl (fun ls hl => ?_)
  refine lv_iconst (v := 0) zx zb dX11_kindsOfEgg_2 (by decide) ?_
  refine lv_istore_n (lv' := [(3, .int 0), (2, .int 0), (0, .ref m0), (1, .int x1)]) zx zb dX11_kindsOfEgg_3 rfl hl (by decide) rfl (fun ls hl => ?_)
  refine k_loop (P := ∀ (zm : Nat) (n4_3 : Nat) (x4_2 : Int32) (H : Heap) (locs : List Loc) (ls : Array Slot), ((6 - n4_3) < zm) → ((0 ≤ n4_3 ∧ n4_3 ≤ 6) ∧ x4_2 = setF (fun l => eggP c3 (fun k => fa (105 + (3 * k))) (fun k => fa ((105 + (3 * k)) + 1)) (fun k => fa ((105 + (3 * k)) + 2)) x1 (nI l)) 0 (n4_3 - 0)) → (n4_3 ≤ 6) → wd X (fun _ => True) (va_A [] sz) s (@HAppend.hAppend va_W va_W va_W _ (mW m0 ma la lb n t v) ([((ma 0), .inl (X.2.1, 371, .inl fa))])) H locs → lv_has ls 7 [(3, .int (nI n4_3)), (2, .int x4_2), (0, .ref m0), (1, .int x1)] → W p l e _ s m _ below meth c H locs _ _ _ (F0 m 4 ls [])) (fun loop => loop ((6 - 0) + 1) 0 0 _ _ _ (by omega) ⟨by omega, rfl⟩ (by omega) G hl) ?_
  intro zm
  induction zm with
  | zero => intro n4_3 x4_2 H locs ls zz q_x0 q_hk_n4_3 _ _; exact absurd zz (by omega)
  | succ zm ih4 =>
    intro n4_3 x4_2 H locs ls zm_4 hx4_0 hk_n4_3 G hl
    refine lv_iload_n zx zb dX11_kindsOfEgg_4 rfl (lv_at hl 0 rfl) ?_
    refine lv_bipush (v := 6) zx zb dX11_kindsOfEgg_5 (by decide) ?_
    refine lv_icmp_ge (tgt := 111) zx zb dX11_kindsOfEgg_7 (by decide) (fun c_1 => ?_) (fun c_1 => ?_)
    · have fc_1 := j_le (a := 6) (b := n4_3) (by omega) (by omega) c_1
      refine lv_iload_n zx zb dX11_kindsOfEgg_111 rfl (lv_at hl 1 rfl) ?_
      exact e_int S zr zlk (vp_nar_int _) G () [] rfl rfl (Or.inl rfl) (hx4_0.2.trans (by rw [show n4_3 = 6 from by omega]; first | done | rfl)) dX11_kindsOfEgg_112
    · have fc_1 := j_nle (a := 6) (b := n4_3) (by omega) (by omega) c_1
      refine lv_iconst (v := 1) zx zb dX11_kindsOfEgg_10 (by decide) ?_
      refine lv_istore (lv' := [(4, .int 1), (3, .int (nI n4_3)), (2, .int x4_2), (0, .ref m0), (1, .int x1)]) zx zb dX11_kindsOfEgg_11 hl (by decide) rfl (fun ls hl => ?_)
      refine lv_iconst (v := 0) zx zb dX11_kindsOfEgg_13 (by decide) ?_
      refine lv_istore (lv' := [(5, .int 0), (4, .int 1), (3, .int (nI n4_3)), (2, .int x4_2), (0, .ref m0), (1, .int x1)]) zx zb dX11_kindsOfEgg_14 hl (by decide) rfl (fun ls hl => ?_)
      refine k_loop (P := ∀ (zm : Nat) (n16_5 : Nat) (x16_4 : Int32) (H : Heap) (locs : List Loc) (ls : Array Slot), ((c3 - n16_5) < zm) → (n16_5 ≤ c3 ∧ ((x16_4 = 1 ∧ eggP n16_5 (fun k => fa (105 + (3 * k))) (fun k => fa ((105 + (3 * k)) + 1)) (fun k => fa ((105 + (3 * k)) + 2)) x1 (nI n4_3)) ∨ (x16_4 = 0 ∧ ¬ eggP n16_5 (fun k => fa (105 + (3 * k))) (fun k => fa ((105 + (3 * k)) + 1)) (fun k => fa ((105 + (3 * k)) + 2)) x1 (nI n4_3)))) → (n16_5 ≤ 6) → wd X (fun _ => True) (va_A [] sz) s (@HAppend.hAppend va_W va_W va_W _ (mW m0 ma la lb n t v) ([((ma 0), .inl (X.2.1, 371, .inl fa))])) H locs → lv_has ls 7 [(5, .int (nI n16_5)), (4, .int x16_4), (3, .int (nI n4_3)), (2, .int x4_2), (0, .ref m0), (1, .int x1)] → W p l e _ s m _ below meth c H locs _ _ _ (F0 m 16 ls [])) (fun loop => loop ((c3 - 0) + 1) 0 1 _ _ _ (by omega) ⟨by omega, Or.inl ⟨rfl, eggP_0⟩⟩ (by omega) G hl) ?_
      intro zm
      induction zm with
      | zero => intro n16_5 x16_4 H locs ls zz q_x0 q_hk_n16_5 _ _; exact absurd zz (by omega)
      | succ zm ih16 =>
        intro n16_5 x16_4 H locs ls zm_16 hx16_0 hk_n16_5 G hl
        obtain ⟨hk16, hx16⟩ := hx16_0
        rcases hx16 with ⟨rfl, hn16⟩ | ⟨rfl, hn16⟩
        · have hl : lv_has ls 7 [(5, .int (nI n16_5)), (4, .int 1), (3, .int (nI n4_3)), (2, .int x4_2), (0, .ref m0), (1, .int x1)] := hl
          refine lv_iload zx zb dX11_kindsOfEgg_16 (lv_at hl 0 rfl) ?_
          refine lv_aload_n zx zb dX11_kindsOfEgg_18 rfl (lv_at hl 4 rfl) ?_
          refine r_get (C := RX11) (T := TX11) (N := 18) (ci := 9) (v := .ref (ma 0)) S in_X11_kindsOfEgg_X11 G 0 rfl rfl 0 (by decide) lk_X11_kindsOfEgg_7 rfl dX11_kindsOfEgg_19 ?_
          refine lv_iconst (v := 3) zx zb dX11_kindsOfEgg_22 (by decide) ?_
          refine r_iald (v := (nI c3)) S G 1 rfl (k_vp (by decide)) hI_fa.1.2.2.2.1 dX11_kindsOfEgg_23 ?_
          refine lv_icmp_ge (tgt := 90) zx zb dX11_kindsOfEgg_24 (by decide) (fun c_3 => ?_) (fun c_3 => ?_)
          · have fc_3 := j_le (a := c3) (b := n16_5) (by omega) (by omega) c_3
            have hfq : eggP c3 (fun k => fa (105 + (3 * k))) (fun k => fa ((105 + (3 * k)) + 1)) (fun k => fa ((105 + (3 * k)) + 2)) x1 (nI n4_3) := by rw [show c3 = n16_5 from by omega]; exact hn16
            refine lv_iload_n zx zb dX11_kindsOfEgg_90 rfl (lv_at hl 3 rfl) ?_
            refine lv_iload zx zb dX11_kindsOfEgg_91 (lv_at hl 1 rfl) ?_
            refine lv_if_eq (tgt := 102) zx zb dX11_kindsOfEgg_93 (by decide) (fun c_4 => absurd c_4 (by decide)) (fun c_4 => ?_)
            refine lv_iconst (v := 1) zx zb dX11_kindsOfEgg_96 (by decide) ?_
            refine lv_iload_n zx zb dX11_kindsOfEgg_97 rfl (lv_at hl 2 rfl) ?_
            refine lv_ishl zx zb dX11_kindsOfEgg_98 ?_
            refine lv_goto (tgt := 103) zx zb dX11_kindsOfEgg_99 (by decide) ?_
            refine lv_ior zx zb dX11_kindsOfEgg_103 ?_
            refine lv_istore_n (lv' := [(2, .int (x4_2 ||| (1 <<< ((nI n4_3) &&& 31)))), (5, .int (nI n16_5)), (4, .int 1), (3, .int (nI n4_3)), (0, .ref m0), (1, .int x1)]) zx zb dX11_kindsOfEgg_104 rfl hl (by decide) rfl (fun ls hl => ?_)
            refine lv_iinc (v := (nI (n4_3 + 1))) (lv' := [(3, .int (nI (n4_3 + 1))), (2, .int (x4_2 ||| (1 <<< ((nI n4_3) &&& 31)))), (5, .int (nI n16_5)), (4, .int 1), (0, .ref m0), (1, .int x1)]) zx zb dX11_kindsOfEgg_105 hl (k := 3) rfl (nI_add n4_3 1) (by decide) rfl (fun ls hl => ?_)
            refine lv_goto (tgt := 4) zx zb dX11_kindsOfEgg_108 (by decide) ?_
            have hl := lv_sub hl (l' := [(3, .int (nI (n4_3 + 1))), (2, .int (x4_2 ||| (1 <<< ((nI n4_3) &&& 31)))), (0, .ref m0), (1, .int x1)]) [0, 1, 4, 5] rfl
            exact ih4 (n4_3 + 1) (x4_2 ||| (1 <<< ((nI n4_3) &&& 31))) _ _ _ (by omega) ⟨by omega, by rw [setF_n (by omega), bitF_t hfq, ← hx4_0.2]⟩ (by omega) G hl
          · have fc_3 := j_nle (a := c3) (b := n16_5) (by omega) (by omega) c_3
            refine lv_bipush (v := 105) zx zb dX11_kindsOfEgg_27 (by decide) ?_
            refine lv_iconst (v := 3) zx zb dX11_kindsOfEgg_29 (by decide) ?_
            refine lv_iload zx zb dX11_kindsOfEgg_30 (lv_at hl 0 rfl) ?_
            refine r_imul (v := (nI (3 * n16_5))) S (pk_mul 3 n16_5) dX11_kindsOfEgg_32 ?_
            refine r_iadd (v := (nI (105 + (3 * n16_5)))) S (nI_add 105 (3 * n16_5)) dX11_kindsOfEgg_33 ?_
            refine lv_istore (lv' := [(6, .int (nI (105 + (3 * n16_5)))), (5, .int (nI n16_5)), (4, .int 1), (3, .int (nI n4_3)), (2, .int x4_2), (0, .ref m0), (1, .int x1)]) zx zb dX11_kindsOfEgg_34 hl (by decide) rfl (fun ls hl => ?_)
            refine lv_iload zx zb dX11_kindsOfEgg_36 (lv_at hl 2 rfl) ?_
            refine lv_if_eq (tgt := 81) zx zb dX11_kindsOfEgg_38 (by decide) (fun c_5 => absurd c_5 (by decide)) (fun c_5 => ?_)
            refine lv_aload_n zx zb dX11_kindsOfEgg_41 rfl (lv_at hl 5 rfl) ?_
            refine r_get (C := RX11) (T := TX11) (N := 18) (ci := 9) (v := .ref (ma 0)) S in_X11_kindsOfEgg_X11 G 0 rfl rfl 0 (by decide) lk_X11_kindsOfEgg_7 rfl dX11_kindsOfEgg_42 ?_
            refine lv_iload zx zb dX11_kindsOfEgg_45 (lv_at hl 0 rfl) ?_
            refine r_iald (v := (fa (105 + (3 * n16_5)))) S G 1 rfl (vp_in_nI (by omega) (by decide)) (congrArg fa (nI_clamp (by omega))) dX11_kindsOfEgg_47 ?_
            refine lv_iload_n zx zb dX11_kindsOfEgg_48 rfl (lv_at hl 6 rfl) ?_
            refine lv_icmp_ne (tgt := 77) zx zb dX11_kindsOfEgg_49 (by decide) (fun c_7 => ?_) (fun c_7 => ?_)
            · refine lv_iconst (v := 1) zx zb dX11_kindsOfEgg_77 (by decide) ?_
              refine lv_goto (tgt := 82) zx zb dX11_kindsOfEgg_78 (by decide) ?_
              refine lv_istore (lv' := [(4, .int 1), (6, .int (nI (105 + (3 * n16_5)))), (5, .int (nI n16_5)), (3, .int (nI n4_3)), (2, .int x4_2), (0, .ref m0), (1, .int x1)]) zx zb dX11_kindsOfEgg_82 hl (by decide) rfl (fun ls hl => ?_)
              refine lv_iinc (v := (nI (n16_5 + 1))) (lv' := [(5, .int (nI (n16_5 + 1))), (4, .int 1), (6, .int (nI (105 + (3 * n16_5)))), (3, .int (nI n4_3)), (2, .int x4_2), (0, .ref m0), (1, .int x1)]) zx zb dX11_kindsOfEgg_84 hl (k := 2) rfl (nI_add n16_5 1) (by decide) rfl (fun ls hl => ?_)
              refine lv_goto (tgt := 16) zx zb dX11_kindsOfEgg_87 (by decide) ?_
              have hl := lv_sub hl (l' := [(5, .int (nI (n16_5 + 1))), (4, .int 1), (3, .int (nI n4_3)), (2, .int x4_2), (0, .ref m0), (1, .int x1)]) [0, 1, 3, 4, 5, 6] rfl
              exact ih16 (n16_5 + 1) 1 _ _ _ (by omega) ⟨by omega, Or.inl ⟨rfl, eggP_s hn16 (fun e => absurd e c_7)⟩⟩ (by omega) G hl
            · refine lv_iload_n zx zb dX11_kindsOfEgg_52 rfl (lv_at hl 3 rfl) ?_
              refine lv_aload_n zx zb dX11_kindsOfEgg_53 rfl (lv_at hl 5 rfl) ?_
              refine r_get (C := RX11) (T := TX11) (N := 18) (ci := 9) (v := .ref (ma 0)) S in_X11_kindsOfEgg_X11 G 0 rfl rfl 0 (by decide) lk_X11_kindsOfEgg_7 rfl dX11_kindsOfEgg_54 ?_
              refine lv_iload zx zb dX11_kindsOfEgg_57 (lv_at hl 0 rfl) ?_
              refine lv_iconst (v := 1) zx zb dX11_kindsOfEgg_59 (by decide) ?_
              refine r_iadd (v := (nI ((105 + (3 * n16_5)) + 1))) S (nI_add (105 + (3 * n16_5)) 1) dX11_kindsOfEgg_60 ?_
              refine r_iald (v := (fa ((105 + (3 * n16_5)) + 1))) S G 1 rfl (vp_in_nI (by omega) (by decide)) (congrArg fa (nI_clamp (by omega))) dX11_kindsOfEgg_61 ?_
              refine o_ri (cells' := 0) (slots' := 0) G rfl rfl (n_S (As := [.int (nI n4_3), .int (fa ((105 + (3 * n16_5)) + 1))]) (rest := []) S G (y_mayAs l X (nI n4_3) (fa ((105 + (3 * n16_5)) + 1)) H.size) gX11_kindsOfEgg_X11_mayAs rfl rfl rfl hdS_X11_mayAs ⟨Nat.le_of_ble_eq_true rfl, Nat.le_of_ble_eq_true rfl⟩ [] rfl rfl rfl hl.1 (Nat.le_of_ble_eq_true rfl) dX11_kindsOfEgg_62 ⟨Nat.le_of_ble_eq_true rfl, Nat.le_of_ble_eq_true rfl⟩) (fun r_9 u_9 H locs hp_9 G => ?_)
              have G : wd X (fun _ => True) (va_A [] sz) s (@HAppend.hAppend va_W va_W va_W _ (mW m0 ma la lb n t v) ([((ma 0), .inl (X.2.1, 371, .inl fa))])) H locs := G
              obtain rfl := hp_9
              refine lv_aload_n zx zb dX11_kindsOfEgg_65 rfl (lv_at hl 5 rfl) ?_
              refine r_get (C := RX11) (T := TX11) (N := 18) (ci := 9) (v := .ref (ma 0)) S in_X11_kindsOfEgg_X11 G 0 rfl rfl 0 (by decide) lk_X11_kindsOfEgg_7 rfl dX11_kindsOfEgg_66 ?_
              refine lv_iload zx zb dX11_kindsOfEgg_69 (lv_at hl 0 rfl) ?_
              refine lv_iconst (v := 2) zx zb dX11_kindsOfEgg_71 (by decide) ?_
              refine r_iadd (v := (nI ((105 + (3 * n16_5)) + 2))) S (nI_add (105 + (3 * n16_5)) 2) dX11_kindsOfEgg_72 ?_
              refine r_iald (v := (fa ((105 + (3 * n16_5)) + 2))) S G 1 rfl (vp_in_nI (by omega) (by decide)) (congrArg fa (nI_clamp (by omega))) dX11_kindsOfEgg_73 ?_
              refine lv_icmp_ne (tgt := 81) zx zb dX11_kindsOfEgg_74 (by decide) (fun c_11 => ?_) (fun c_11 => ?_)
              · refine lv_iconst (v := 0) zx zb dX11_kindsOfEgg_81 (by decide) ?_
                refine lv_istore (lv' := [(4, .int 0), (6, .int (nI (105 + (3 * n16_5)))), (5, .int (nI n16_5)), (3, .int (nI n4_3)), (2, .int x4_2), (0, .ref m0), (1, .int x1)]) zx zb dX11_kindsOfEgg_82 hl (by decide) rfl (fun ls hl => ?_)
                refine lv_iinc (v := (nI (n16_5 + 1))) (lv' := [(5, .int (nI (n16_5 + 1))), (4, .int 0), (6, .int (nI (105 + (3 * n16_5)))), (3, .int (nI n4_3)), (2, .int x4_2), (0, .ref m0), (1, .int x1)]) zx zb dX11_kindsOfEgg_84 hl (k := 2) rfl (nI_add n16_5 1) (by decide) rfl (fun ls hl => ?_)
                refine lv_goto (tgt := 16) zx zb dX11_kindsOfEgg_87 (by decide) ?_
                have hl := lv_sub hl (l' := [(5, .int (nI (n16_5 + 1))), (4, .int 0), (3, .int (nI n4_3)), (2, .int x4_2), (0, .ref m0), (1, .int x1)]) [0, 1, 3, 4, 5, 6] rfl
                exact ih16 (n16_5 + 1) 0 _ _ _ (by omega) ⟨by omega, Or.inr ⟨rfl, fun h => c_11 (h n16_5 (by omega) c_7)⟩⟩ (by omega) G hl
              · refine lv_iconst (v := 1) zx zb dX11_kindsOfEgg_77 (by decide) ?_
                refine lv_goto (tgt := 82) zx zb dX11_kindsOfEgg_78 (by decide) ?_
                refine lv_istore (lv' := [(4, .int 1), (6, .int (nI (105 + (3 * n16_5)))), (5, .int (nI n16_5)), (3, .int (nI n4_3)), (2, .int x4_2), (0, .ref m0), (1, .int x1)]) zx zb dX11_kindsOfEgg_82 hl (by decide) rfl (fun ls hl => ?_)
                refine lv_iinc (v := (nI (n16_5 + 1))) (lv' := [(5, .int (nI (n16_5 + 1))), (4, .int 1), (6, .int (nI (105 + (3 * n16_5)))), (3, .int (nI n4_3)), (2, .int x4_2), (0, .ref m0), (1, .int x1)]) zx zb dX11_kindsOfEgg_84 hl (k := 2) rfl (nI_add n16_5 1) (by decide) rfl (fun ls hl => ?_)
                refine lv_goto (tgt := 16) zx zb dX11_kindsOfEgg_87 (by decide) ?_
                have hl := lv_sub hl (l' := [(5, .int (nI (n16_5 + 1))), (4, .int 1), (3, .int (nI n4_3)), (2, .int x4_2), (0, .ref m0), (1, .int x1)]) [0, 1, 3, 4, 5, 6] rfl
                exact ih16 (n16_5 + 1) 1 _ _ _ (by omega) ⟨by omega, Or.inl ⟨rfl, eggP_s hn16 (fun _ => c_11)⟩⟩ (by omega) G hl
        · have hl : lv_has ls 7 [(5, .int (nI n16_5)), (4, .int 0), (3, .int (nI n4_3)), (2, .int x4_2), (0, .ref m0), (1, .int x1)] := hl
          refine lv_iload zx zb dX11_kindsOfEgg_16 (lv_at hl 0 rfl) ?_
          refine lv_aload_n zx zb dX11_kindsOfEgg_18 rfl (lv_at hl 4 rfl) ?_
          refine r_get (C := RX11) (T := TX11) (N := 18) (ci := 9) (v := .ref (ma 0)) S in_X11_kindsOfEgg_X11 G 0 rfl rfl 0 (by decide) lk_X11_kindsOfEgg_7 rfl dX11_kindsOfEgg_19 ?_
          refine lv_iconst (v := 3) zx zb dX11_kindsOfEgg_22 (by decide) ?_
          refine r_iald (v := (nI c3)) S G 1 rfl (k_vp (by decide)) hI_fa.1.2.2.2.1 dX11_kindsOfEgg_23 ?_
          refine lv_icmp_ge (tgt := 90) zx zb dX11_kindsOfEgg_24 (by decide) (fun c_13 => ?_) (fun c_13 => ?_)
          · have fc_13 := j_le (a := c3) (b := n16_5) (by omega) (by omega) c_13
            have hfq : ¬ eggP c3 (fun k => fa (105 + (3 * k))) (fun k => fa ((105 + (3 * k)) + 1)) (fun k => fa ((105 + (3 * k)) + 2)) x1 (nI n4_3) := by rw [show c3 = n16_5 from by omega]; exact hn16
            refine lv_iload_n zx zb dX11_kindsOfEgg_90 rfl (lv_at hl 3 rfl) ?_
            refine lv_iload zx zb dX11_kindsOfEgg_91 (lv_at hl 1 rfl) ?_
            refine lv_if_eq (tgt := 102) zx zb dX11_kindsOfEgg_93 (by decide) (fun c_14 => ?_) (fun c_14 => absurd (by decide) c_14)
            refine lv_iconst (v := 0) zx zb dX11_kindsOfEgg_102 (by decide) ?_
            refine lv_ior zx zb dX11_kindsOfEgg_103 ?_
            refine lv_istore_n (lv' := [(2, .int (x4_2 ||| 0)), (5, .int (nI n16_5)), (4, .int 0), (3, .int (nI n4_3)), (0, .ref m0), (1, .int x1)]) zx zb dX11_kindsOfEgg_104 rfl hl (by decide) rfl (fun ls hl => ?_)
            refine lv_iinc (v := (nI (n4_3 + 1))) (lv' := [(3, .int (nI (n4_3 + 1))), (2, .int (x4_2 ||| 0)), (5, .int (nI n16_5)), (4, .int 0), (0, .ref m0), (1, .int x1)]) zx zb dX11_kindsOfEgg_105 hl (k := 3) rfl (nI_add n4_3 1) (by decide) rfl (fun ls hl => ?_)
            refine lv_goto (tgt := 4) zx zb dX11_kindsOfEgg_108 (by decide) ?_
            have hl := lv_sub hl (l' := [(3, .int (nI (n4_3 + 1))), (2, .int (x4_2 ||| 0)), (0, .ref m0), (1, .int x1)]) [0, 1, 4, 5] rfl
            exact ih4 (n4_3 + 1) (x4_2 ||| 0) _ _ _ (by omega) ⟨by omega, by rw [setF_n (by omega), bitF_f hfq, ← hx4_0.2]⟩ (by omega) G hl
          · have fc_13 := j_nle (a := c3) (b := n16_5) (by omega) (by omega) c_13
            refine lv_bipush (v := 105) zx zb dX11_kindsOfEgg_27 (by decide) ?_
            refine lv_iconst (v := 3) zx zb dX11_kindsOfEgg_29 (by decide) ?_
            refine lv_iload zx zb dX11_kindsOfEgg_30 (lv_at hl 0 rfl) ?_
            refine r_imul (v := (nI (3 * n16_5))) S (pk_mul 3 n16_5) dX11_kindsOfEgg_32 ?_
            refine r_iadd (v := (nI (105 + (3 * n16_5)))) S (nI_add 105 (3 * n16_5)) dX11_kindsOfEgg_33 ?_
            refine lv_istore (lv' := [(6, .int (nI (105 + (3 * n16_5)))), (5, .int (nI n16_5)), (4, .int 0), (3, .int (nI n4_3)), (2, .int x4_2), (0, .ref m0), (1, .int x1)]) zx zb dX11_kindsOfEgg_34 hl (by decide) rfl (fun ls hl => ?_)
            refine lv_iload zx zb dX11_kindsOfEgg_36 (lv_at hl 2 rfl) ?_
            refine lv_if_eq (tgt := 81) zx zb dX11_kindsOfEgg_38 (by decide) (fun c_15 => ?_) (fun c_15 => absurd (by decide) c_15)
            refine lv_iconst (v := 0) zx zb dX11_kindsOfEgg_81 (by decide) ?_
            refine lv_istore (lv' := [(4, .int 0), (6, .int (nI (105 + (3 * n16_5)))), (5, .int (nI n16_5)), (3, .int (nI n4_3)), (2, .int x4_2), (0, .ref m0), (1, .int x1)]) zx zb dX11_kindsOfEgg_82 hl (by decide) rfl (fun ls hl => ?_)
            refine lv_iinc (v := (nI (n16_5 + 1))) (lv' := [(5, .int (nI (n16_5 + 1))), (4, .int 0), (6, .int (nI (105 + (3 * n16_5)))), (3, .int (nI n4_3)), (2, .int x4_2), (0, .ref m0), (1, .int x1)]) zx zb dX11_kindsOfEgg_84 hl (k := 2) rfl (nI_add n16_5 1) (by decide) rfl (fun ls hl => ?_)
            refine lv_goto (tgt := 16) zx zb dX11_kindsOfEgg_87 (by decide) ?_
            have hl := lv_sub hl (l' := [(5, .int (nI (n16_5 + 1))), (4, .int 0), (3, .int (nI n4_3)), (2, .int x4_2), (0, .ref m0), (1, .int x1)]) [0, 1, 3, 4, 5, 6] rfl
            exact ih16 (n16_5 + 1) 0 _ _ _ (by omega) ⟨by omega, Or.inr ⟨rfl, eggP_m hn16 (by omega)⟩⟩ (by omega) G hl
