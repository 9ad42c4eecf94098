set_option maxRecDepth 20000 in
theorem ggX11_takesGo_X11_goBehind : GoodIn wsX11_takesGo wsX11_goBehind := goodIn_r _ [7, 8, 9, 10, 11, 12, 6, 13, 14, 15, 16, 17, 18, 19, 20, 21, 22, 23, 24, 25, 26, 27, 28, 29, 30, 59, 60, 61, 62, 63, 64, 65, 66, 67, 68, 69, 70, 71, 72, 73, 74, 75, 76] rfl (by decide +kernel)
set_option maxRecDepth 20000 in
theorem gX11_takesGo_X11_goBehind : GoodIn wsX11_takesGo (wsV RX11 238 RX11 yX11_goBehind wsX11_goBehind) := goodIn_app (goodIn_of _ (by decide +kernel)) ggX11_takesGo_X11_goBehind
set_option maxRecDepth 20000 in
theorem ggX11_takesGo_X11_goTicks : GoodIn wsX11_takesGo wsX11_goTicks := goodIn_r _ [37, 38, 39, 6, 40, 41, 42, 43, 44, 45, 46, 47, 48, 49, 50, 51, 52, 53, 54, 55, 56, 57, 58] rfl (by decide +kernel)
set_option maxRecDepth 20000 in
theorem gX11_takesGo_X11_goTicks : GoodIn wsX11_takesGo (va_wsS RX11 116 yX11_goTicks wsX11_goTicks) := goodIn_app (goodIn_of _ (by decide +kernel)) ggX11_takesGo_X11_goTicks
set_option maxRecDepth 20000 in
theorem ggX11_takesGo_X11_takes : GoodIn wsX11_takesGo wsX11_takes := goodIn_r _ [34, 16, 17, 2, 23, 24, 6, 25, 3, 4, 5, 7, 8, 9, 10, 11, 12, 13, 14, 15, 18, 19, 20, 21, 22, 26, 27, 28, 29, 30, 59, 60, 61, 62, 63, 64, 65, 66, 67, 68, 69, 70, 71, 72, 73, 74, 75, 76] rfl (by decide +kernel)
set_option maxRecDepth 20000 in
theorem gX11_takesGo_X11_takes : GoodIn wsX11_takesGo (wsV RX11 241 RX11 yX11_takes wsX11_takes) := goodIn_app (goodIn_of _ (by decide +kernel)) ggX11_takesGo_X11_takes
set_option maxRecDepth 20000 in
theorem ggX11_takesItem_X11_spells : GoodIn wsX11_takesItem wsX11_spells := goodIn_r _ [5, 6, 7, 8, 9, 82, 83, 84, 85, 86, 87, 88, 89, 90, 91, 92, 93, 94, 95, 96, 97, 98, 99] rfl (by decide +kernel)
set_option maxRecDepth 20000 in
theorem gX11_takesItem_X11_spells : GoodIn wsX11_takesItem (wsV RX11 245 RX11 yX11_spells wsX11_spells) := goodIn_app (goodIn_of _ (by decide +kernel)) ggX11_takesItem_X11_spells
set_option maxRecDepth 20000 in
theorem ggX11_takesItem_X11_takesGo : GoodIn wsX11_takesItem wsX11_takesGo := goodIn_r _ [60, 14, 15, 16, 17, 18, 4, 19, 9, 7, 20, 21, 22, 23, 24, 8, 6, 25, 26, 27, 28, 29, 30, 31, 32, 33, 34, 35, 36, 37, 38, 39, 40, 41, 42, 61, 62, 63, 64, 65, 66, 54, 55, 56, 67, 68, 69, 70, 71, 72, 73, 74, 75, 76, 77, 78, 79, 80, 81, 82, 83, 84, 85, 86, 87, 88, 89, 90, 91, 92, 93, 94, 95, 96, 97, 98, 99] rfl (by decide +kernel)
set_option maxRecDepth 20000 in
theorem gX11_takesItem_X11_takesGo : GoodIn wsX11_takesItem (wsV RX11 259 RX11 yX11_takesGo wsX11_takesGo) := goodIn_app (goodIn_of _ (by decide +kernel)) ggX11_takesItem_X11_takesGo
set_option maxRecDepth 20000 in
theorem ggX11_takesItem_X11_takesOne : GoodIn wsX11_takesItem wsX11_takesOne := goodIn_r _ [13, 14, 15, 16, 17, 18, 4, 19, 9, 7, 20, 21, 22, 23, 24, 8, 6, 25, 26, 27, 28, 29, 30, 31, 32, 33, 34, 35, 36, 37, 38, 39, 40, 41, 42, 43, 44, 45, 82, 83, 84, 85, 86, 87, 88, 89, 90, 91, 92, 93, 94, 95, 96, 97, 98, 99] rfl (by decide +kernel)
set_option maxRecDepth 20000 in
theorem gX11_takesItem_X11_takesOne : GoodIn wsX11_takesItem (wsV RX11 249 RX11 yX11_takesOne wsX11_takesOne) := goodIn_app (goodIn_of _ (by decide +kernel)) ggX11_takesItem_X11_takesOne
set_option maxRecDepth 20000 in
theorem ggX11_takesItem_X11_takesSpeed : GoodIn wsX11_takesItem wsX11_takesSpeed := goodIn_r _ [49, 14, 15, 16, 17, 18, 4, 19, 9, 7, 20, 21, 22, 23, 24, 8, 6, 25, 26, 27, 28, 29, 30, 31, 32, 33, 34, 35, 36, 37, 38, 39, 40, 41, 42, 82, 83, 84, 85, 86, 87, 88, 89, 90, 91, 92, 93, 94, 95, 96, 97, 98, 99] rfl (by decide +kernel)
set_option maxRecDepth 20000 in
theorem gX11_takesItem_X11_takesSpeed : GoodIn wsX11_takesItem (wsV RX11 253 RX11 yX11_takesSpeed wsX11_takesSpeed) := goodIn_app (goodIn_of _ (by decide +kernel)) ggX11_takesItem_X11_takesSpeed
set_option maxRecDepth 20000 in
theorem ggX11_takesItem_X11_takesStart : GoodIn wsX11_takesItem wsX11_takesStart := goodIn_r _ [53, 6, 25, 14, 15, 16, 17, 18, 4, 19, 9, 7, 20, 21, 22, 23, 24, 8, 26, 27, 28, 29, 30, 31, 32, 33, 34, 35, 36, 37, 38, 54, 55, 56, 39, 40, 41, 42, 82, 83, 84, 85, 86, 87, 88, 89, 90, 91, 92, 93, 94, 95, 96, 97, 98, 99] rfl (by decide +kernel)
set_option maxRecDepth 20000 in
theorem gX11_takesItem_X11_takesStart : GoodIn wsX11_takesItem (wsV RX11 256 RX11 yX11_takesStart wsX11_takesStart) := goodIn_app (goodIn_of _ (by decide +kernel)) ggX11_takesItem_X11_takesStart
set_option maxRecDepth 20000 in
theorem ggX11_takesOne_X11_goBehind : GoodIn wsX11_takesOne wsX11_goBehind := goodIn_r _ [7, 8, 9, 10, 11, 12, 6, 13, 14, 15, 16, 17, 18, 19, 20, 21, 22, 23, 24, 25, 26, 27, 28, 29, 30, 38, 39, 40, 41, 42, 43, 44, 45, 46, 47, 48, 49, 50, 51, 52, 53, 54, 55] rfl (by decide +kernel)
set_option maxRecDepth 20000 in
theorem gX11_takesOne_X11_goBehind : GoodIn wsX11_takesOne (wsV RX11 238 RX11 yX11_goBehind wsX11_goBehind) := goodIn_app (goodIn_of _ (by decide +kernel)) ggX11_takesOne_X11_goBehind
set_option maxRecDepth 20000 in
theorem ggX11_takesOne_X11_layOne : GoodIn wsX11_takesOne wsX11_layOne := goodIn_r _ [37] rfl (by decide +kernel)
set_option maxRecDepth 20000 in
theorem gX11_takesOne_X11_layOne : GoodIn wsX11_takesOne (va_wsS RX11 82 yX11_layOne wsX11_layOne) := goodIn_app (goodIn_of _ (by decide +kernel)) ggX11_takesOne_X11_layOne
set_option maxRecDepth 20000 in
theorem ggX11_takesOne_X11_takes : GoodIn wsX11_takesOne wsX11_takes := goodIn_r _ [34, 16, 17, 2, 23, 24, 6, 25, 3, 4, 5, 7, 8, 9, 10, 11, 12, 13, 14, 15, 18, 19, 20, 21, 22, 26, 27, 28, 29, 30, 38, 39, 40, 41, 42, 43, 44, 45, 46, 47, 48, 49, 50, 51, 52, 53, 54, 55] rfl (by decide +kernel)
set_option maxRecDepth 20000 in
theorem gX11_takesOne_X11_takes : GoodIn wsX11_takesOne (wsV RX11 241 RX11 yX11_takes wsX11_takes) := goodIn_app (goodIn_of _ (by decide +kernel)) ggX11_takesOne_X11_takes
set_option maxRecDepth 20000 in
theorem ggX11_takesSpeed_X11_goBehind : GoodIn wsX11_takesSpeed wsX11_goBehind := goodIn_r _ [7, 8, 9, 10, 11, 12, 6, 13, 14, 15, 16, 17, 18, 19, 20, 21, 22, 23, 24, 25, 26, 27, 28, 29, 30, 35, 36, 37, 38, 39, 40, 41, 42, 43, 44, 45, 46, 47, 48, 49, 50, 51, 52] rfl (by decide +kernel)
set_option maxRecDepth 20000 in
theorem gX11_takesSpeed_X11_goBehind : GoodIn wsX11_takesSpeed (wsV RX11 238 RX11 yX11_goBehind wsX11_goBehind) := goodIn_app (goodIn_of _ (by decide +kernel)) ggX11_takesSpeed_X11_goBehind
set_option maxRecDepth 20000 in
theorem ggX11_takesSpeed_X11_takes : GoodIn wsX11_takesSpeed wsX11_takes := goodIn_r _ [34, 16, 17, 2, 23, 24, 6, 25, 3, 4, 5, 7, 8, 9, 10, 11, 12, 13, 14, 15, 18, 19, 20, 21, 22, 26, 27, 28, 29, 30, 35, 36, 37, 38, 39, 40, 41, 42, 43, 44, 45, 46, 47, 48, 49, 50, 51, 52] rfl (by decide +kernel)
set_option maxRecDepth 20000 in
theorem gX11_takesSpeed_X11_takes : GoodIn wsX11_takesSpeed (wsV RX11 241 RX11 yX11_takes wsX11_takes) := goodIn_app (goodIn_of _ (by decide +kernel)) ggX11_takesSpeed_X11_takes
set_option maxRecDepth 20000 in
theorem ggX11_takesStart_X11_goBehind : GoodIn wsX11_takesStart wsX11_goBehind := goodIn_r _ [9, 10, 11, 12, 13, 14, 8, 15, 16, 17, 1, 2, 18, 19, 20, 21, 22, 23, 24, 25, 26, 27, 28, 29, 30, 38, 39, 40, 41, 42, 43, 44, 45, 46, 47, 48, 49, 50, 51, 52, 53, 54, 55] rfl (by decide +kernel)
set_option maxRecDepth 20000 in
theorem gX11_takesStart_X11_goBehind : GoodIn wsX11_takesStart (wsV RX11 238 RX11 yX11_goBehind wsX11_goBehind) := goodIn_app (goodIn_of _ (by decide +kernel)) ggX11_takesStart_X11_goBehind
set_option maxRecDepth 20000 in
theorem ggX11_takesStart_X11_in : GoodIn wsX11_takesStart wsX11_in := goodIn_r _ [25] rfl (by decide +kernel)
set_option maxRecDepth 20000 in
theorem gX11_takesStart_X11_in : GoodIn wsX11_takesStart (va_wsS RX11 56 yX11_in wsX11_in) := goodIn_app (goodIn_of _ (by decide +kernel)) ggX11_takesStart_X11_in
set_option maxRecDepth 20000 in
theorem ggX11_takesStart_X11_isHome : GoodIn wsX11_takesStart wsX11_isHome := goodIn_r _ [33] rfl (by decide +kernel)
set_option maxRecDepth 20000 in
theorem gX11_takesStart_X11_isHome : GoodIn wsX11_takesStart (va_wsS RX11 101 yX11_isHome wsX11_isHome) := goodIn_app (goodIn_of _ (by decide +kernel)) ggX11_takesStart_X11_isHome
set_option maxRecDepth 20000 in
theorem ggX11_takesStart_X11_takes : GoodIn wsX11_takesStart wsX11_takes := goodIn_r _ [37, 1, 2, 4, 23, 24, 8, 25, 5, 6, 7, 9, 10, 11, 12, 13, 14, 15, 16, 17, 18, 19, 20, 21, 22, 26, 27, 28, 29, 30, 38, 39, 40, 41, 42, 43, 44, 45, 46, 47, 48, 49, 50, 51, 52, 53, 54, 55] rfl (by decide +kernel)
set_option maxRecDepth 20000 in
theorem gX11_takesStart_X11_takes : GoodIn wsX11_takesStart (wsV RX11 241 RX11 yX11_takes wsX11_takes) := goodIn_app (goodIn_of _ (by decide +kernel)) ggX11_takesStart_X11_takes
theorem dX11_takesGo_0 : decode cX11_takesGo 0 = .ok (.aload_n 0, 1) := by decide +kernel
theorem dX11_takesGo_1 : decode cX11_takesGo 1 = .ok (.invokevirtual 238, 3) := by decide +kernel
theorem dX11_takesGo_12 : decode cX11_takesGo 12 = .ok (.ifCond .ne 5, 3) := by decide +kernel
theorem dX11_takesGo_15 : decode cX11_takesGo 15 = .ok (.iconst 0, 1) := by decide +kernel
theorem dX11_takesGo_16 : decode cX11_takesGo 16 = .ok (.ireturn, 1) := by decide +kernel
theorem dX11_takesGo_17 : decode cX11_takesGo 17 = .ok (.aload_n 0, 1) := by decide +kernel
theorem dX11_takesGo_18 : decode cX11_takesGo 18 = .ok (.getfield 42, 3) := by decide +kernel
theorem dX11_takesGo_21 : decode cX11_takesGo 21 = .ok (.aload_n 0, 1) := by decide +kernel
theorem dX11_takesGo_22 : decode cX11_takesGo 22 = .ok (.getfield 45, 3) := by decide +kernel
theorem dX11_takesGo_25 : decode cX11_takesGo 25 = .ok (.iconst 0, 1) := by decide +kernel
theorem dX11_takesGo_26 : decode cX11_takesGo 26 = .ok (.iaload, 1) := by decide +kernel
theorem dX11_takesGo_27 : decode cX11_takesGo 27 = .ok (.invokestatic 116, 3) := by decide +kernel
theorem dX11_takesGo_30 : decode cX11_takesGo 30 = .ok (.iconst 1, 1) := by decide +kernel
theorem dX11_takesGo_31 : decode cX11_takesGo 31 = .ok (.ireturn, 1) := by decide +kernel
theorem dX11_takesGo_4 : decode cX11_takesGo 4 = .ok (.aload_n 0, 1) := by decide +kernel
theorem dX11_takesGo_5 : decode cX11_takesGo 5 = .ok (.iconst 0, 1) := by decide +kernel
theorem dX11_takesGo_6 : decode cX11_takesGo 6 = .ok (.iconst 1, 1) := by decide +kernel
theorem dX11_takesGo_7 : decode cX11_takesGo 7 = .ok (.bipush 99, 2) := by decide +kernel
theorem dX11_takesGo_9 : decode cX11_takesGo 9 = .ok (.invokevirtual 241, 3) := by decide +kernel
theorem dX11_takesItem_0 : decode cX11_takesItem 0 = .ok (.aload_n 0, 1) := by decide +kernel
theorem dX11_takesItem_1 : decode cX11_takesItem 1 = .ok (.iconst 3, 1) := by decide +kernel
theorem dX11_takesItem_10 : decode cX11_takesItem 10 = .ok (.iconst 0, 1) := by decide +kernel
theorem dX11_takesItem_11 : decode cX11_takesItem 11 = .ok (.invokevirtual 245, 3) := by decide +kernel
theorem dX11_takesItem_14 : decode cX11_takesItem 14 = .ok (.ifCond .eq 8, 3) := by decide +kernel
theorem dX11_takesItem_17 : decode cX11_takesItem 17 = .ok (.aload_n 0, 1) := by decide +kernel
theorem dX11_takesItem_18 : decode cX11_takesItem 18 = .ok (.invokevirtual 249, 3) := by decide +kernel
theorem dX11_takesItem_2 : decode cX11_takesItem 2 = .ok (.bipush 111, 2) := by decide +kernel
theorem dX11_takesItem_21 : decode cX11_takesItem 21 = .ok (.ireturn, 1) := by decide +kernel
theorem dX11_takesItem_22 : decode cX11_takesItem 22 = .ok (.aload_n 0, 1) := by decide +kernel
theorem dX11_takesItem_23 : decode cX11_takesItem 23 = .ok (.iconst 5, 1) := by decide +kernel
theorem dX11_takesItem_24 : decode cX11_takesItem 24 = .ok (.bipush 115, 2) := by decide +kernel
theorem dX11_takesItem_26 : decode cX11_takesItem 26 = .ok (.bipush 112, 2) := by decide +kernel
theorem dX11_takesItem_28 : decode cX11_takesItem 28 = .ok (.bipush 101, 2) := by decide +kernel
theorem dX11_takesItem_30 : decode cX11_takesItem 30 = .ok (.bipush 101, 2) := by decide +kernel
theorem dX11_takesItem_32 : decode cX11_takesItem 32 = .ok (.bipush 100, 2) := by decide +kernel
theorem dX11_takesItem_34 : decode cX11_takesItem 34 = .ok (.iconst 0, 1) := by decide +kernel
theorem dX11_takesItem_35 : decode cX11_takesItem 35 = .ok (.invokevirtual 245, 3) := by decide +kernel
theorem dX11_takesItem_38 : decode cX11_takesItem 38 = .ok (.ifCond .eq 8, 3) := by decide +kernel
theorem dX11_takesItem_4 : decode cX11_takesItem 4 = .ok (.bipush 110, 2) := by decide +kernel
theorem dX11_takesItem_41 : decode cX11_takesItem 41 = .ok (.aload_n 0, 1) := by decide +kernel
theorem dX11_takesItem_42 : decode cX11_takesItem 42 = .ok (.invokevirtual 253, 3) := by decide +kernel
theorem dX11_takesItem_45 : decode cX11_takesItem 45 = .ok (.ireturn, 1) := by decide +kernel
theorem dX11_takesItem_46 : decode cX11_takesItem 46 = .ok (.aload_n 0, 1) := by decide +kernel
theorem dX11_takesItem_47 : decode cX11_takesItem 47 = .ok (.iconst 5, 1) := by decide +kernel
theorem dX11_takesItem_48 : decode cX11_takesItem 48 = .ok (.bipush 115, 2) := by decide +kernel
theorem dX11_takesItem_50 : decode cX11_takesItem 50 = .ok (.bipush 116, 2) := by decide +kernel
theorem dX11_takesItem_52 : decode cX11_takesItem 52 = .ok (.bipush 97, 2) := by decide +kernel
theorem dX11_takesItem_54 : decode cX11_takesItem 54 = .ok (.bipush 114, 2) := by decide +kernel
theorem dX11_takesItem_56 : decode cX11_takesItem 56 = .ok (.bipush 116, 2) := by decide +kernel
theorem dX11_takesItem_58 : decode cX11_takesItem 58 = .ok (.iconst 0, 1) := by decide +kernel
theorem dX11_takesItem_59 : decode cX11_takesItem 59 = .ok (.invokevirtual 245, 3) := by decide +kernel
theorem dX11_takesItem_6 : decode cX11_takesItem 6 = .ok (.bipush 101, 2) := by decide +kernel
theorem dX11_takesItem_62 : decode cX11_takesItem 62 = .ok (.ifCond .eq 8, 3) := by decide +kernel
theorem dX11_takesItem_65 : decode cX11_takesItem 65 = .ok (.aload_n 0, 1) := by decide +kernel
theorem dX11_takesItem_66 : decode cX11_takesItem 66 = .ok (.invokevirtual 256, 3) := by decide +kernel
theorem dX11_takesItem_69 : decode cX11_takesItem 69 = .ok (.ireturn, 1) := by decide +kernel
theorem dX11_takesItem_70 : decode cX11_takesItem 70 = .ok (.aload_n 0, 1) := by decide +kernel
theorem dX11_takesItem_71 : decode cX11_takesItem 71 = .ok (.iconst 2, 1) := by decide +kernel
theorem dX11_takesItem_72 : decode cX11_takesItem 72 = .ok (.bipush 103, 2) := by decide +kernel
theorem dX11_takesItem_74 : decode cX11_takesItem 74 = .ok (.bipush 111, 2) := by decide +kernel
theorem dX11_takesItem_76 : decode cX11_takesItem 76 = .ok (.iconst 0, 1) := by decide +kernel
theorem dX11_takesItem_77 : decode cX11_takesItem 77 = .ok (.iconst 0, 1) := by decide +kernel
theorem dX11_takesItem_78 : decode cX11_takesItem 78 = .ok (.iconst 0, 1) := by decide +kernel
theorem dX11_takesItem_79 : decode cX11_takesItem 79 = .ok (.iconst 0, 1) := by decide +kernel
theorem dX11_takesItem_8 : decode cX11_takesItem 8 = .ok (.iconst 0, 1) := by decide +kernel
theorem dX11_takesItem_80 : decode cX11_takesItem 80 = .ok (.invokevirtual 245, 3) := by decide +kernel
theorem dX11_takesItem_83 : decode cX11_takesItem 83 = .ok (.ifCond .eq 14, 3) := by decide +kernel
theorem dX11_takesItem_86 : decode cX11_takesItem 86 = .ok (.aload_n 0, 1) := by decide +kernel
theorem dX11_takesItem_87 : decode cX11_takesItem 87 = .ok (.invokevirtual 259, 3) := by decide +kernel
theorem dX11_takesItem_9 : decode cX11_takesItem 9 = .ok (.iconst 0, 1) := by decide +kernel
theorem dX11_takesItem_90 : decode cX11_takesItem 90 = .ok (.ifCond .eq 7, 3) := by decide +kernel
theorem dX11_takesItem_93 : decode cX11_takesItem 93 = .ok (.iconst 1, 1) := by decide +kernel
theorem dX11_takesItem_94 : decode cX11_takesItem 94 = .ok (.goto 4, 3) := by decide +kernel
theorem dX11_takesItem_97 : decode cX11_takesItem 97 = .ok (.iconst 0, 1) := by decide +kernel
theorem dX11_takesItem_98 : decode cX11_takesItem 98 = .ok (.ireturn, 1) := by decide +kernel
theorem dX11_takesOne_0 : decode cX11_takesOne 0 = .ok (.aload_n 0, 1) := by decide +kernel
theorem dX11_takesOne_1 : decode cX11_takesOne 1 = .ok (.getfield 42, 3) := by decide +kernel
theorem dX11_takesOne_11 : decode cX11_takesOne 11 = .ok (.iconst 0, 1) := by decide +kernel
theorem dX11_takesOne_12 : decode cX11_takesOne 12 = .ok (.ireturn, 1) := by decide +kernel
theorem dX11_takesOne_13 : decode cX11_takesOne 13 = .ok (.aload_n 0, 1) := by decide +kernel
theorem dX11_takesOne_14 : decode cX11_takesOne 14 = .ok (.invokevirtual 238, 3) := by decide +kernel
theorem dX11_takesOne_17 : decode cX11_takesOne 17 = .ok (.aload_n 0, 1) := by decide +kernel
theorem dX11_takesOne_18 : decode cX11_takesOne 18 = .ok (.iconst 0, 1) := by decide +kernel
theorem dX11_takesOne_19 : decode cX11_takesOne 19 = .ok (.iconst 0, 1) := by decide +kernel
theorem dX11_takesOne_20 : decode cX11_takesOne 20 = .ok (.iconst 5, 1) := by decide +kernel
theorem dX11_takesOne_21 : decode cX11_takesOne 21 = .ok (.invokevirtual 241, 3) := by decide +kernel
theorem dX11_takesOne_24 : decode cX11_takesOne 24 = .ok (.ifCond .eq 24, 3) := by decide +kernel
theorem dX11_takesOne_27 : decode cX11_takesOne 27 = .ok (.aload_n 0, 1) := by decide +kernel
theorem dX11_takesOne_28 : decode cX11_takesOne 28 = .ok (.iconst 1, 1) := by decide +kernel
theorem dX11_takesOne_29 : decode cX11_takesOne 29 = .ok (.iconst 1, 1) := by decide +kernel
theorem dX11_takesOne_30 : decode cX11_takesOne 30 = .ok (.bipush 9, 2) := by decide +kernel
theorem dX11_takesOne_32 : decode cX11_takesOne 32 = .ok (.invokevirtual 241, 3) := by decide +kernel
theorem dX11_takesOne_35 : decode cX11_takesOne 35 = .ok (.ifCond .eq 13, 3) := by decide +kernel
theorem dX11_takesOne_38 : decode cX11_takesOne 38 = .ok (.aload_n 0, 1) := by decide +kernel
theorem dX11_takesOne_39 : decode cX11_takesOne 39 = .ok (.iconst 2, 1) := by decide +kernel
theorem dX11_takesOne_4 : decode cX11_takesOne 4 = .ok (.iconst 0, 1) := by decide +kernel
theorem dX11_takesOne_40 : decode cX11_takesOne 40 = .ok (.iconst 0, 1) := by decide +kernel
theorem dX11_takesOne_41 : decode cX11_takesOne 41 = .ok (.iconst 5, 1) := by decide +kernel
theorem dX11_takesOne_42 : decode cX11_takesOne 42 = .ok (.invokevirtual 241, 3) := by decide +kernel
theorem dX11_takesOne_45 : decode cX11_takesOne 45 = .ok (.ifCond .ne 5, 3) := by decide +kernel
theorem dX11_takesOne_48 : decode cX11_takesOne 48 = .ok (.iconst 0, 1) := by decide +kernel
theorem dX11_takesOne_49 : decode cX11_takesOne 49 = .ok (.ireturn, 1) := by decide +kernel
theorem dX11_takesOne_5 : decode cX11_takesOne 5 = .ok (.iaload, 1) := by decide +kernel
theorem dX11_takesOne_50 : decode cX11_takesOne 50 = .ok (.aload_n 0, 1) := by decide +kernel
theorem dX11_takesOne_51 : decode cX11_takesOne 51 = .ok (.getfield 42, 3) := by decide +kernel
theorem dX11_takesOne_54 : decode cX11_takesOne 54 = .ok (.aload_n 0, 1) := by decide +kernel
theorem dX11_takesOne_55 : decode cX11_takesOne 55 = .ok (.getfield 45, 3) := by decide +kernel
theorem dX11_takesOne_58 : decode cX11_takesOne 58 = .ok (.iconst 0, 1) := by decide +kernel
theorem dX11_takesOne_59 : decode cX11_takesOne 59 = .ok (.iaload, 1) := by decide +kernel
theorem dX11_takesOne_6 : decode cX11_takesOne 6 = .ok (.bipush 6, 2) := by decide +kernel
theorem dX11_takesOne_60 : decode cX11_takesOne 60 = .ok (.aload_n 0, 1) := by decide +kernel
theorem dX11_takesOne_61 : decode cX11_takesOne 61 = .ok (.getfield 45, 3) := by decide +kernel
theorem dX11_takesOne_64 : decode cX11_takesOne 64 = .ok (.iconst 1, 1) := by decide +kernel
theorem dX11_takesOne_65 : decode cX11_takesOne 65 = .ok (.iaload, 1) := by decide +kernel
theorem dX11_takesOne_66 : decode cX11_takesOne 66 = .ok (.aload_n 0, 1) := by decide +kernel
theorem dX11_takesOne_67 : decode cX11_takesOne 67 = .ok (.getfield 45, 3) := by decide +kernel
theorem dX11_takesOne_70 : decode cX11_takesOne 70 = .ok (.iconst 2, 1) := by decide +kernel
theorem dX11_takesOne_71 : decode cX11_takesOne 71 = .ok (.iaload, 1) := by decide +kernel
theorem dX11_takesOne_72 : decode cX11_takesOne 72 = .ok (.invokestatic 82, 3) := by decide +kernel
theorem dX11_takesOne_75 : decode cX11_takesOne 75 = .ok (.iconst 1, 1) := by decide +kernel
theorem dX11_takesOne_76 : decode cX11_takesOne 76 = .ok (.ireturn, 1) := by decide +kernel
theorem dX11_takesOne_8 : decode cX11_takesOne 8 = .ok (.if_icmp .ne 5, 3) := by decide +kernel
theorem dX11_takesSpeed_0 : decode cX11_takesSpeed 0 = .ok (.aload_n 0, 1) := by decide +kernel
theorem dX11_takesSpeed_1 : decode cX11_takesSpeed 1 = .ok (.invokevirtual 238, 3) := by decide +kernel
theorem dX11_takesSpeed_11 : decode cX11_takesSpeed 11 = .ok (.iconst 0, 1) := by decide +kernel
theorem dX11_takesSpeed_12 : decode cX11_takesSpeed 12 = .ok (.iaload, 1) := by decide +kernel
theorem dX11_takesSpeed_13 : decode cX11_takesSpeed 13 = .ok (.iconst 1, 1) := by decide +kernel
theorem dX11_takesSpeed_14 : decode cX11_takesSpeed 14 = .ok (.isub, 1) := by decide +kernel
theorem dX11_takesSpeed_15 : decode cX11_takesSpeed 15 = .ok (.invokevirtual 241, 3) := by decide +kernel
theorem dX11_takesSpeed_18 : decode cX11_takesSpeed 18 = .ok (.ifCond .eq 14, 3) := by decide +kernel
theorem dX11_takesSpeed_21 : decode cX11_takesSpeed 21 = .ok (.aload_n 0, 1) := by decide +kernel
theorem dX11_takesSpeed_22 : decode cX11_takesSpeed 22 = .ok (.iconst 1, 1) := by decide +kernel
theorem dX11_takesSpeed_23 : decode cX11_takesSpeed 23 = .ok (.iconst 0, 1) := by decide +kernel
theorem dX11_takesSpeed_24 : decode cX11_takesSpeed 24 = .ok (.bipush 9, 2) := by decide +kernel
theorem dX11_takesSpeed_26 : decode cX11_takesSpeed 26 = .ok (.invokevirtual 241, 3) := by decide +kernel
theorem dX11_takesSpeed_29 : decode cX11_takesSpeed 29 = .ok (.ifCond .ne 5, 3) := by decide +kernel
theorem dX11_takesSpeed_32 : decode cX11_takesSpeed 32 = .ok (.iconst 0, 1) := by decide +kernel
theorem dX11_takesSpeed_33 : decode cX11_takesSpeed 33 = .ok (.ireturn, 1) := by decide +kernel
theorem dX11_takesSpeed_34 : decode cX11_takesSpeed 34 = .ok (.aload_n 0, 1) := by decide +kernel
theorem dX11_takesSpeed_35 : decode cX11_takesSpeed 35 = .ok (.getfield 42, 3) := by decide +kernel
theorem dX11_takesSpeed_38 : decode cX11_takesSpeed 38 = .ok (.bipush 11, 2) := by decide +kernel
theorem dX11_takesSpeed_4 : decode cX11_takesSpeed 4 = .ok (.aload_n 0, 1) := by decide +kernel
theorem dX11_takesSpeed_40 : decode cX11_takesSpeed 40 = .ok (.aload_n 0, 1) := by decide +kernel
theorem dX11_takesSpeed_41 : decode cX11_takesSpeed 41 = .ok (.getfield 45, 3) := by decide +kernel
theorem dX11_takesSpeed_44 : decode cX11_takesSpeed 44 = .ok (.iconst 0, 1) := by decide +kernel
theorem dX11_takesSpeed_45 : decode cX11_takesSpeed 45 = .ok (.iaload, 1) := by decide +kernel
theorem dX11_takesSpeed_46 : decode cX11_takesSpeed 46 = .ok (.iadd, 1) := by decide +kernel
theorem dX11_takesSpeed_47 : decode cX11_takesSpeed 47 = .ok (.aload_n 0, 1) := by decide +kernel
theorem dX11_takesSpeed_48 : decode cX11_takesSpeed 48 = .ok (.getfield 45, 3) := by decide +kernel
theorem dX11_takesSpeed_5 : decode cX11_takesSpeed 5 = .ok (.iconst 0, 1) := by decide +kernel
theorem dX11_takesSpeed_51 : decode cX11_takesSpeed 51 = .ok (.iconst 1, 1) := by decide +kernel
theorem dX11_takesSpeed_52 : decode cX11_takesSpeed 52 = .ok (.iaload, 1) := by decide +kernel
theorem dX11_takesSpeed_53 : decode cX11_takesSpeed 53 = .ok (.iastore, 1) := by decide +kernel
theorem dX11_takesSpeed_54 : decode cX11_takesSpeed 54 = .ok (.iconst 1, 1) := by decide +kernel
theorem dX11_takesSpeed_55 : decode cX11_takesSpeed 55 = .ok (.ireturn, 1) := by decide +kernel
theorem dX11_takesSpeed_6 : decode cX11_takesSpeed 6 = .ok (.iconst 0, 1) := by decide +kernel
theorem dX11_takesSpeed_7 : decode cX11_takesSpeed 7 = .ok (.aload_n 0, 1) := by decide +kernel
theorem dX11_takesSpeed_8 : decode cX11_takesSpeed 8 = .ok (.getfield 42, 3) := by decide +kernel
theorem dX11_takesStart_0 : decode cX11_takesStart 0 = .ok (.aload_n 0, 1) := by decide +kernel
theorem dX11_takesStart_1 : decode cX11_takesStart 1 = .ok (.invokevirtual 238, 3) := by decide +kernel
theorem dX11_takesStart_102 : decode cX11_takesStart 102 = .ok (.iconst 5, 1) := by decide +kernel
theorem dX11_takesStart_103 : decode cX11_takesStart 103 = .ok (.aload_n 0, 1) := by decide +kernel
theorem dX11_takesStart_104 : decode cX11_takesStart 104 = .ok (.getfield 45, 3) := by decide +kernel
theorem dX11_takesStart_107 : decode cX11_takesStart 107 = .ok (.iconst 0, 1) := by decide +kernel
theorem dX11_takesStart_108 : decode cX11_takesStart 108 = .ok (.iaload, 1) := by decide +kernel
theorem dX11_takesStart_109 : decode cX11_takesStart 109 = .ok (.iadd, 1) := by decide +kernel
theorem dX11_takesStart_110 : decode cX11_takesStart 110 = .ok (.aload_n 0, 1) := by decide +kernel
theorem dX11_takesStart_111 : decode cX11_takesStart 111 = .ok (.getfield 45, 3) := by decide +kernel
theorem dX11_takesStart_114 : decode cX11_takesStart 114 = .ok (.iconst 1, 1) := by decide +kernel
theorem dX11_takesStart_115 : decode cX11_takesStart 115 = .ok (.iaload, 1) := by decide +kernel
theorem dX11_takesStart_116 : decode cX11_takesStart 116 = .ok (.iastore, 1) := by decide +kernel
theorem dX11_takesStart_117 : decode cX11_takesStart 117 = .ok (.iconst 1, 1) := by decide +kernel
theorem dX11_takesStart_118 : decode cX11_takesStart 118 = .ok (.ireturn, 1) := by decide +kernel
theorem dX11_takesStart_12 : decode cX11_takesStart 12 = .ok (.aload_n 0, 1) := by decide +kernel
theorem dX11_takesStart_13 : decode cX11_takesStart 13 = .ok (.getfield 226, 3) := by decide +kernel
theorem dX11_takesStart_16 : decode cX11_takesStart 16 = .ok (.i2l, 1) := by decide +kernel
theorem dX11_takesStart_17 : decode cX11_takesStart 17 = .ok (.lconst 0, 1) := by decide +kernel
theorem dX11_takesStart_18 : decode cX11_takesStart 18 = .ok (.aload_n 0, 1) := by decide +kernel
theorem dX11_takesStart_19 : decode cX11_takesStart 19 = .ok (.getfield 42, 3) := by decide +kernel
theorem dX11_takesStart_22 : decode cX11_takesStart 22 = .ok (.iconst 0, 1) := by decide +kernel
theorem dX11_takesStart_23 : decode cX11_takesStart 23 = .ok (.iaload, 1) := by decide +kernel
theorem dX11_takesStart_24 : decode cX11_takesStart 24 = .ok (.iconst 1, 1) := by decide +kernel
theorem dX11_takesStart_25 : decode cX11_takesStart 25 = .ok (.isub, 1) := by decide +kernel
theorem dX11_takesStart_26 : decode cX11_takesStart 26 = .ok (.i2l, 1) := by decide +kernel
theorem dX11_takesStart_27 : decode cX11_takesStart 27 = .ok (.invokestatic 56, 3) := by decide +kernel
theorem dX11_takesStart_30 : decode cX11_takesStart 30 = .ok (.ifCond .eq 27, 3) := by decide +kernel
theorem dX11_takesStart_33 : decode cX11_takesStart 33 = .ok (.aload_n 0, 1) := by decide +kernel
theorem dX11_takesStart_34 : decode cX11_takesStart 34 = .ok (.getfield 42, 3) := by decide +kernel
theorem dX11_takesStart_37 : decode cX11_takesStart 37 = .ok (.aload_n 0, 1) := by decide +kernel
theorem dX11_takesStart_38 : decode cX11_takesStart 38 = .ok (.getfield 226, 3) := by decide +kernel
theorem dX11_takesStart_4 : decode cX11_takesStart 4 = .ok (.aload_n 0, 1) := by decide +kernel
theorem dX11_takesStart_41 : decode cX11_takesStart 41 = .ok (.invokestatic 101, 3) := by decide +kernel
theorem dX11_takesStart_44 : decode cX11_takesStart 44 = .ok (.ifCond .ne 13, 3) := by decide +kernel
theorem dX11_takesStart_47 : decode cX11_takesStart 47 = .ok (.aload_n 0, 1) := by decide +kernel
theorem dX11_takesStart_48 : decode cX11_takesStart 48 = .ok (.iconst 0, 1) := by decide +kernel
theorem dX11_takesStart_49 : decode cX11_takesStart 49 = .ok (.iconst 0, 1) := by decide +kernel
theorem dX11_takesStart_5 : decode cX11_takesStart 5 = .ok (.getfield 223, 3) := by decide +kernel
theorem dX11_takesStart_50 : decode cX11_takesStart 50 = .ok (.iconst 5, 1) := by decide +kernel
theorem dX11_takesStart_51 : decode cX11_takesStart 51 = .ok (.invokevirtual 241, 3) := by decide +kernel
theorem dX11_takesStart_54 : decode cX11_takesStart 54 = .ok (.ifCond .ne 5, 3) := by decide +kernel
theorem dX11_takesStart_57 : decode cX11_takesStart 57 = .ok (.iconst 0, 1) := by decide +kernel
theorem dX11_takesStart_58 : decode cX11_takesStart 58 = .ok (.ireturn, 1) := by decide +kernel
theorem dX11_takesStart_59 : decode cX11_takesStart 59 = .ok (.aload_n 0, 1) := by decide +kernel
theorem dX11_takesStart_60 : decode cX11_takesStart 60 = .ok (.getfield 42, 3) := by decide +kernel
theorem dX11_takesStart_63 : decode cX11_takesStart 63 = .ok (.bipush 36, 2) := by decide +kernel
theorem dX11_takesStart_65 : decode cX11_takesStart 65 = .ok (.iaload, 1) := by decide +kernel
theorem dX11_takesStart_66 : decode cX11_takesStart 66 = .ok (.bipush 30, 2) := by decide +kernel
theorem dX11_takesStart_68 : decode cX11_takesStart 68 = .ok (.if_icmp .le 8, 3) := by decide +kernel
theorem dX11_takesStart_71 : decode cX11_takesStart 71 = .ok (.bipush 30, 2) := by decide +kernel
theorem dX11_takesStart_73 : decode cX11_takesStart 73 = .ok (.goto 12, 3) := by decide +kernel
theorem dX11_takesStart_76 : decode cX11_takesStart 76 = .ok (.aload_n 0, 1) := by decide +kernel
theorem dX11_takesStart_77 : decode cX11_takesStart 77 = .ok (.getfield 42, 3) := by decide +kernel
theorem dX11_takesStart_8 : decode cX11_takesStart 8 = .ok (.iconst 2, 1) := by decide +kernel
theorem dX11_takesStart_80 : decode cX11_takesStart 80 = .ok (.bipush 36, 2) := by decide +kernel
theorem dX11_takesStart_82 : decode cX11_takesStart 82 = .ok (.iaload, 1) := by decide +kernel
theorem dX11_takesStart_83 : decode cX11_takesStart 83 = .ok (.iconst 1, 1) := by decide +kernel
theorem dX11_takesStart_84 : decode cX11_takesStart 84 = .ok (.isub, 1) := by decide +kernel
theorem dX11_takesStart_85 : decode cX11_takesStart 85 = .ok (.istore_n 1, 1) := by decide +kernel
theorem dX11_takesStart_86 : decode cX11_takesStart 86 = .ok (.aload_n 0, 1) := by decide +kernel
theorem dX11_takesStart_87 : decode cX11_takesStart 87 = .ok (.iconst 1, 1) := by decide +kernel
theorem dX11_takesStart_88 : decode cX11_takesStart 88 = .ok (.iconst 0, 1) := by decide +kernel
theorem dX11_takesStart_89 : decode cX11_takesStart 89 = .ok (.iload_n 1, 1) := by decide +kernel
theorem dX11_takesStart_9 : decode cX11_takesStart 9 = .ok (.if_icmp .ne 48, 3) := by decide +kernel
theorem dX11_takesStart_90 : decode cX11_takesStart 90 = .ok (.invokevirtual 241, 3) := by decide +kernel
theorem dX11_takesStart_93 : decode cX11_takesStart 93 = .ok (.ifCond .ne 5, 3) := by decide +kernel
theorem dX11_takesStart_96 : decode cX11_takesStart 96 = .ok (.iconst 0, 1) := by decide +kernel
theorem dX11_takesStart_97 : decode cX11_takesStart 97 = .ok (.ireturn, 1) := by decide +kernel
theorem dX11_takesStart_98 : decode cX11_takesStart 98 = .ok (.aload_n 0, 1) := by decide +kernel
theorem dX11_takesStart_99 : decode cX11_takesStart 99 = .ok (.getfield 42, 3) := by decide +kernel
theorem in_X11_takesOne_X11 : ∀ w ∈ wsX110, w ∈ wsX11_takesOne := by decide +kernel
theorem lk_X11_takesOne_42 : Cond.fieldLink RX11 42 "EggSpoonsModel" "anew" "[I" ∈ wsX11_takesOne := by decide +kernel
theorem hdV_X11_takes : yX11_takes.cls = RX11 ∧ yX11_takes.cls ≠ "java/lang/invoke/MethodHandle" ∧ yX11_takes.cls ≠ "java/lang/invoke/VarHandle" ∧ (parseMethodDescriptor yX11_takes.desc).map (fun d => d.parameters.length) = some 3 := by decide +kernel
theorem lk_X11_takesOne_45 : Cond.fieldLink RX11 45 "EggSpoonsModel" "values" "[I" ∈ wsX11_takesOne := by decide +kernel
set_option maxHeartbeats 4000000 in
set_option maxRecDepth 100000 in
/-- takesOne -/
theorem m_takesOne (l : Launch) (X : EX) (m0 : Nat) (ma : Nat → Nat) (la : Int64) (lb : Int64) (n : Nat) (t : Nat → Nat) (v : Nat → Int32) (fd : Nat → Int32) (fv : Nat → Int32) (fw : Nat → Int32) (bw : Nat → Nat) (hI_n : n ≤ 150) (hI_t : InT t) (hI_fw : InM fw bw) (hT : t 0 + t 1 ≤ n ∧ (v 0 = 0 ∨ 1 ≤ t 1)) (sz : Nat) : Met l yX11_takesOne wsX11_takesOne ({ frames := 5, cells := 0, slots := 0, locals := 112 } : Room) (pE X [.ref m0] (@HAppend.hAppend va_W va_W va_W _ (mW m0 ma la lb n t v) (@HAppend.hAppend va_W va_W va_W _ ([((ma 10), .inl (X.2.1, 150, .inl fd))]) (@HAppend.hAppend va_W va_W va_W _ ([((ma 17), .inl (X.2.1, 3, .inl fv))]) ([((ma 16), .inl (X.2.1, 123, .inl fw))])))) sz) (qI (fun (r : Int32) (u : (Nat → Nat) × (Nat → Int32) × (Nat → Int32) × (Nat → Int32) × (Nat → Nat)) => InT u.1 ∧ InM u.2.2.2.1 u.2.2.2.2 ∧ ((t 0 ≤ u.1 0 ∧ u.1 0 + u.1 1 ≤ n ∧ (u.2.1 0 = 0 ∨ 1 ≤ u.1 1)) ∧ (r = 0 ∨ r = 1))) X (fun (u : (Nat → Nat) × (Nat → Int32) × (Nat → Int32) × (Nat → Int32) × (Nat → Nat)) => @HAppend.hAppend va_W va_W va_W _ (mW m0 ma la lb n u.1 u.2.1) (@HAppend.hAppend va_W va_W va_W _ ([((ma 10), .inl (X.2.1, 150, .inl fd))]) (@HAppend.hAppend va_W va_W va_W _ ([((ma 17), .inl (X.2.1, 3, .inl u.2.2.1))]) ([((ma 16), .inl (X.2.1, 123, .inl u.2.2.2.1))])))) (@HAppend.hAppend va_W va_W va_W _ (mW m0 ma la lb n t v) (@HAppend.hAppend va_W va_W va_W _ ([((ma 10), .inl (X.2.1, 150, .inl fd))]) (@HAppend.hAppend va_W va_W va_W _ ([((ma 17), .inl (X.2.1, 3, .inl fv))]) ([((ma 16), .inl (X.2.1, 123, .inl fw))])))) sz) 0 0 (va_A (@HAppend.hAppend va_W va_W va_W _ (mW m0 ma la lb n t v) (@HAppend.hAppend va_W va_W va_W _ ([((ma 10), .inl (X.2.1, 150, .inl fd))]) (@HAppend.hAppend va_W va_W va_W _ ([((ma 17), .inl (X.2.1, 3, .inl fv))]) ([((ma 16), .inl (X.2.1, 123, .inl fw))])))) sz) := by
  refine mk_met (B := (va_A (@HAppend.hAppend va_W va_W va_W _ (mW m0 ma la lb n t v) (@HAppend.hAppend va_W va_W va_W _ ([((ma 10), .inl (X.2.1, 150, .inl fd))]) (@HAppend.hAppend va_W va_W va_W _ ([((ma 17), .inl (X.2.1, 3, .inl fv))]) ([((ma 16), .inl (X.2.1, 123, .inl fw))])))) sz)) (A := (va_A (@HAppend.hAppend va_W va_W va_W _ (mW m0 ma la lb n t v) (@HAppend.hAppend va_W va_W va_W _ ([((ma 10), .inl (X.2.1, 150, .inl fd))]) (@HAppend.hAppend va_W va_W va_W _ ([((ma 17), .inl (X.2.1, 3, .inl fv))]) ([((ma 16), .inl (X.2.1, 123, .inl fw))])))) sz)) (cc := cX11_takesOne) (maxL := 1) (ret := (some .boolean)) (by decide) rfl (Nat.le_of_ble_eq_true rfl) k_w k_a (fun p e s m below meth c S zr zlk znm zsz G ls hl => ?_)
  have S : CallFix p m c cX11_takesOne 1 s _ wsX11_takesOne RX11 := S
  have zx := S.1
  have zb := S.2.1
  have hl : lv_has ls 1 [(0, .ref m0)] := hl
  have hO_t := hI_t
  obtain ⟨ht0_t, ht1_t⟩ := hO_t
  have hO_fw := hI_fw.2
  obtain ⟨hm0_fw, hm1_fw, hm2_fw, hm3_fw, hm4_fw⟩ := hO_fw
  obtain ⟨hT1, hT2⟩ := hT
  refine lv_aload_n zx zb dX11_takesOne_0 rfl (lv_at hl 0 rfl) ?_
  refine r_get (C := RX11) (T := TX11) (N := 18) (ci := 9) (v := .ref (ma 16)) S in_X11_takesOne_X11 G 0 rfl rfl 16 (by decide) lk_X11_takesOne_42 rfl dX11_takesOne_1 ?_
  refine lv_iconst (v := 0) zx zb dX11_takesOne_4 (by decide) ?_
  refine r_iald (v := (nI (bw 0))) S G 3 rfl (k_vp (by decide)) hI_fw.1.1 dX11_takesOne_5 ?_
  refine lv_bipush (v := 6) zx zb dX11_takesOne_6 (by decide) ?_
  refine lv_icmp_ne (tgt := 13) zx zb dX11_takesOne_8 (by decide) (fun c_2 => ?_) (fun c_2 => ?_)
  · have fc_2 := j_ne (a := (bw 0)) (b := 6) c_2
    refine lv_aload_n zx zb dX11_takesOne_13 rfl (lv_at hl 0 rfl) ?_
    refine b_wv (cells' := 0) (slots' := 0) (wr := @HAppend.hAppend va_W va_W va_W _ ([((ma 17), .inl (X.2.1, 3, .inl fv))]) ([((ma 16), .inl (X.2.1, 123, .inl fw))])) G rfl rfl [0, 1] [2, 3] rfl rfl rfl rfl (n_V (As := []) (rest := []) (C := RX11) (T := TX11) (N := 18) (ci := 9) S G (m_goBehind l X m0 ma la lb n t v fd hI_n hI_t ⟨by omega, by first | assumption | omega⟩ s.heap.size) gX11_takesOne_X11_goBehind rfl rfl rfl hdV_X11_goBehind ⟨Nat.le_of_ble_eq_true rfl, Nat.le_of_ble_eq_true rfl⟩ [0, 1] rfl rfl 0 rfl rfl rfl hl.1 (Nat.le_of_ble_eq_true rfl) dX11_takesOne_14 ⟨Nat.le_of_ble_eq_true rfl, Nat.le_of_ble_eq_true rfl⟩) (fun u_3 H locs hp_3 G => ?_)
    obtain ⟨t_3a, v_3b⟩ := u_3
    try dsimp only at hp_3
    obtain ⟨hI_t_3a, hq_3⟩ := hp_3
    have hO_t_3a := hI_t_3a
    obtain ⟨ht0_t_3a, ht1_t_3a⟩ := hO_t_3a
    have G : wd X (va_A (@HAppend.hAppend va_W va_W va_W _ (mW m0 ma la lb n t v) (@HAppend.hAppend va_W va_W va_W _ ([((ma 10), .inl (X.2.1, 150, .inl fd))]) (@HAppend.hAppend va_W va_W va_W _ ([((ma 17), .inl (X.2.1, 3, .inl fv))]) ([((ma 16), .inl (X.2.1, 123, .inl fw))])))) sz) (va_A (@HAppend.hAppend va_W va_W va_W _ (mW m0 ma la lb n t v) (@HAppend.hAppend va_W va_W va_W _ ([((ma 10), .inl (X.2.1, 150, .inl fd))]) (@HAppend.hAppend va_W va_W va_W _ ([((ma 17), .inl (X.2.1, 3, .inl fv))]) ([((ma 16), .inl (X.2.1, 123, .inl fw))])))) sz) s (@HAppend.hAppend va_W va_W va_W _ ([((ma 17), .inl (X.2.1, 3, .inl fv))]) (@HAppend.hAppend va_W va_W va_W _ ([((ma 16), .inl (X.2.1, 123, .inl fw))]) (@HAppend.hAppend va_W va_W va_W _ (mW m0 ma la lb n t_3a v_3b) ([((ma 10), .inl (X.2.1, 150, .inl fd))])))) H locs := G
    obtain ⟨hz0_3, hz1_3, hz2_3⟩ := hq_3
    refine lv_aload_n zx zb dX11_takesOne_17 rfl (lv_at hl 0 rfl) ?_
    refine lv_iconst (v := 0) zx zb dX11_takesOne_18 (by decide) ?_
    refine lv_iconst (v := 0) zx zb dX11_takesOne_19 (by decide) ?_
    refine lv_iconst (v := 5) zx zb dX11_takesOne_20 (by decide) ?_
    refine b_wi (cells' := 0) (slots' := 0) (wr := [((ma 16), .inl (X.2.1, 123, .inl fw))]) G rfl rfl [2, 3, 0] [1] rfl rfl rfl rfl (n_V (As := [.int 0, .int 0, .int 5]) (rest := []) (C := RX11) (T := TX11) (N := 18) (ci := 9) S G (m_takes0 l X m0 ma la lb n t_3a v_3b fd fv 0 5 hI_n hI_t_3a ⟨by omega, by first | assumption | omega⟩ H.size) gX11_takesOne_X11_takes rfl rfl rfl hdV_X11_takes ⟨Nat.le_of_ble_eq_true rfl, Nat.le_of_ble_eq_true rfl⟩ [2, 3, 0] rfl rfl 2 rfl rfl rfl hl.1 (Nat.le_of_ble_eq_true rfl) dX11_takesOne_21 ⟨Nat.le_of_ble_eq_true rfl, Nat.le_of_ble_eq_true rfl⟩) (fun r_4 u_4 H locs hp_4 G => ?_)
    obtain ⟨t_4a, v_4b, f_4c⟩ := u_4
    try dsimp only at hp_4
    obtain ⟨hI_t_4a, hq_4⟩ := hp_4
    have hO_t_4a := hI_t_4a
    obtain ⟨ht0_t_4a, ht1_t_4a⟩ := hO_t_4a
    have G : wd X (va_A (@HAppend.hAppend va_W va_W va_W _ (mW m0 ma la lb n t v) (@HAppend.hAppend va_W va_W va_W _ ([((ma 10), .inl (X.2.1, 150, .inl fd))]) (@HAppend.hAppend va_W va_W va_W _ ([((ma 17), .inl (X.2.1, 3, .inl fv))]) ([((ma 16), .inl (X.2.1, 123, .inl fw))])))) sz) (va_A (@HAppend.hAppend va_W va_W va_W _ (mW m0 ma la lb n t v) (@HAppend.hAppend va_W va_W va_W _ ([((ma 10), .inl (X.2.1, 150, .inl fd))]) (@HAppend.hAppend va_W va_W va_W _ ([((ma 17), .inl (X.2.1, 3, .inl fv))]) ([((ma 16), .inl (X.2.1, 123, .inl fw))])))) sz) s (@HAppend.hAppend va_W va_W va_W _ ([((ma 16), .inl (X.2.1, 123, .inl fw))]) (@HAppend.hAppend va_W va_W va_W _ (mW m0 ma la lb n t_4a v_4b) (@HAppend.hAppend va_W va_W va_W _ ([((ma 10), .inl (X.2.1, 150, .inl fd))]) ([((ma 17), .inl (X.2.1, 3, .inl f_4c))])))) H locs := G
    obtain ⟨⟨hz0_4, hz1_4, hz2_4⟩, hr_4⟩ := hq_4
    rcases hr_4 with rfl | ⟨rfl, hv_4, ha_4, hb_4⟩
    · refine lv_if_eq (tgt := 48) zx zb dX11_takesOne_24 (by decide) (fun c_5 => ?_) (fun c_5 => absurd (by decide) c_5)
      refine lv_iconst (v := 0) zx zb dX11_takesOne_48 (by decide) ?_
      exact e_int S zr zlk (by decide) G (t_4a, v_4b, f_4c, fw, bw) [1, 2, 3, 0] rfl rfl (Or.inr rfl) (⟨hI_t_4a, hI_fw, ⟨⟨by first | omega | (dsimp only; omega), by first | omega | (dsimp only; omega), by assumption⟩, Or.inl rfl⟩⟩) dX11_takesOne_49
    · refine lv_if_eq (tgt := 48) zx zb dX11_takesOne_24 (by decide) (fun c_6 => absurd c_6 (by decide)) (fun c_6 => ?_)
      refine lv_aload_n zx zb dX11_takesOne_27 rfl (lv_at hl 0 rfl) ?_
      refine lv_iconst (v := 1) zx zb dX11_takesOne_28 (by decide) ?_
      refine lv_iconst (v := 1) zx zb dX11_takesOne_29 (by decide) ?_
      refine lv_bipush (v := 9) zx zb dX11_takesOne_30 (by decide) ?_
      refine b_wi (cells' := 0) (slots' := 0) (wr := [((ma 16), .inl (X.2.1, 123, .inl fw))]) G rfl rfl [1, 2, 3] [0] rfl rfl rfl rfl (n_V (As := [.int 1, .int 1, .int 9]) (rest := []) (C := RX11) (T := TX11) (N := 18) (ci := 9) S G (m_takes1 l X m0 ma la lb n t_4a v_4b fd f_4c 1 9 hI_n hI_t_4a ⟨by omega, by first | assumption | omega⟩ H.size) gX11_takesOne_X11_takes rfl rfl rfl hdV_X11_takes ⟨Nat.le_of_ble_eq_true rfl, Nat.le_of_ble_eq_true rfl⟩ [1, 2, 3] rfl rfl 1 rfl rfl rfl hl.1 (Nat.le_of_ble_eq_true rfl) dX11_takesOne_32 ⟨Nat.le_of_ble_eq_true rfl, Nat.le_of_ble_eq_true rfl⟩) (fun r_7 u_7 H locs hp_7 G => ?_)
      obtain ⟨t_7a, v_7b, f_7c⟩ := u_7
      try dsimp only at hp_7
      obtain ⟨hI_t_7a, hq_7⟩ := hp_7
      have hO_t_7a := hI_t_7a
      obtain ⟨ht0_t_7a, ht1_t_7a⟩ := hO_t_7a
      have G : wd X (va_A (@HAppend.hAppend va_W va_W va_W _ (mW m0 ma la lb n t v) (@HAppend.hAppend va_W va_W va_W _ ([((ma 10), .inl (X.2.1, 150, .inl fd))]) (@HAppend.hAppend va_W va_W va_W _ ([((ma 17), .inl (X.2.1, 3, .inl fv))]) ([((ma 16), .inl (X.2.1, 123, .inl fw))])))) sz) (va_A (@HAppend.hAppend va_W va_W va_W _ (mW m0 ma la lb n t v) (@HAppend.hAppend va_W va_W va_W _ ([((ma 10), .inl (X.2.1, 150, .inl fd))]) (@HAppend.hAppend va_W va_W va_W _ ([((ma 17), .inl (X.2.1, 3, .inl fv))]) ([((ma 16), .inl (X.2.1, 123, .inl fw))])))) sz) s (@HAppend.hAppend va_W va_W va_W _ ([((ma 16), .inl (X.2.1, 123, .inl fw))]) (@HAppend.hAppend va_W va_W va_W _ (mW m0 ma la lb n t_7a v_7b) (@HAppend.hAppend va_W va_W va_W _ ([((ma 10), .inl (X.2.1, 150, .inl fd))]) ([((ma 17), .inl (X.2.1, 3, .inl f_7c))])))) H locs := G
      obtain ⟨⟨hz0_7, hz1_7, hz2_7⟩, hr_7⟩ := hq_7
      rcases hr_7 with rfl | ⟨rfl, hv_7, ha_7, hb_7⟩
      · refine lv_if_eq (tgt := 48) zx zb dX11_takesOne_35 (by decide) (fun c_8 => ?_) (fun c_8 => absurd (by decide) c_8)
        refine lv_iconst (v := 0) zx zb dX11_takesOne_48 (by decide) ?_
        exact e_int S zr zlk (by decide) G (t_7a, v_7b, f_7c, fw, bw) [1, 2, 3, 0] rfl rfl (Or.inr rfl) (⟨hI_t_7a, hI_fw, ⟨⟨by first | omega | (dsimp only; omega), by first | omega | (dsimp only; omega), by assumption⟩, Or.inl rfl⟩⟩) dX11_takesOne_49
      · refine lv_if_eq (tgt := 48) zx zb dX11_takesOne_35 (by decide) (fun c_9 => absurd c_9 (by decide)) (fun c_9 => ?_)
        refine lv_aload_n zx zb dX11_takesOne_38 rfl (lv_at hl 0 rfl) ?_
        refine lv_iconst (v := 2) zx zb dX11_takesOne_39 (by decide) ?_
        refine lv_iconst (v := 0) zx zb dX11_takesOne_40 (by decide) ?_
        refine lv_iconst (v := 5) zx zb dX11_takesOne_41 (by decide) ?_
        refine b_wi (cells' := 0) (slots' := 0) (wr := [((ma 16), .inl (X.2.1, 123, .inl fw))]) G rfl rfl [1, 2, 3] [0] rfl rfl rfl rfl (n_V (As := [.int 2, .int 0, .int 5]) (rest := []) (C := RX11) (T := TX11) (N := 18) (ci := 9) S G (m_takes2 l X m0 ma la lb n t_7a v_7b fd f_7c 0 5 hI_n hI_t_7a ⟨by omega, by first | assumption | omega⟩ H.size) gX11_takesOne_X11_takes rfl rfl rfl hdV_X11_takes ⟨Nat.le_of_ble_eq_true rfl, Nat.le_of_ble_eq_true rfl⟩ [1, 2, 3] rfl rfl 1 rfl rfl rfl hl.1 (Nat.le_of_ble_eq_true rfl) dX11_takesOne_42 ⟨Nat.le_of_ble_eq_true rfl, Nat.le_of_ble_eq_true rfl⟩) (fun r_10 u_10 H locs hp_10 G => ?_)
        obtain ⟨t_10a, v_10b, f_10c⟩ := u_10
        try dsimp only at hp_10
        obtain ⟨hI_t_10a, hq_10⟩ := hp_10
        have hO_t_10a := hI_t_10a
        obtain ⟨ht0_t_10a, ht1_t_10a⟩ := hO_t_10a
        have G : wd X (va_A (@HAppend.hAppend va_W va_W va_W _ (mW m0 ma la lb n t v) (@HAppend.hAppend va_W va_W va_W _ ([((ma 10), .inl (X.2.1, 150, .inl fd))]) (@HAppend.hAppend va_W va_W va_W _ ([((ma 17), .inl (X.2.1, 3, .inl fv))]) ([((ma 16), .inl (X.2.1, 123, .inl fw))])))) sz) (va_A (@HAppend.hAppend va_W va_W va_W _ (mW m0 ma la lb n t v) (@HAppend.hAppend va_W va_W va_W _ ([((ma 10), .inl (X.2.1, 150, .inl fd))]) (@HAppend.hAppend va_W va_W va_W _ ([((ma 17), .inl (X.2.1, 3, .inl fv))]) ([((ma 16), .inl (X.2.1, 123, .inl fw))])))) sz) s (@HAppend.hAppend va_W va_W va_W _ ([((ma 16), .inl (X.2.1, 123, .inl fw))]) (@HAppend.hAppend va_W va_W va_W _ (mW m0 ma la lb n t_10a v_10b) (@HAppend.hAppend va_W va_W va_W _ ([((ma 10), .inl (X.2.1, 150, .inl fd))]) ([((ma 17), .inl (X.2.1, 3, .inl f_10c))])))) H locs := G
        obtain ⟨⟨hz0_10, hz1_10, hz2_10⟩, hr_10⟩ := hq_10
        rcases hr_10 with rfl | ⟨rfl, hv_10, ha_10, hb_10⟩
        · refine lv_if_ne (tgt := 50) zx zb dX11_takesOne_45 (by decide) (fun c_11 => absurd (by decide) c_11) (fun c_11 => ?_)
          refine lv_iconst (v := 0) zx zb dX11_takesOne_48 (by decide) ?_
          exact e_int S zr zlk (by decide) G (t_10a, v_10b, f_10c, fw, bw) [1, 2, 3, 0] rfl rfl (Or.inr rfl) (⟨hI_t_10a, hI_fw, ⟨⟨by first | omega | (dsimp only; omega), by first | omega | (dsimp only; omega), by assumption⟩, Or.inl rfl⟩⟩) dX11_takesOne_49
        · refine lv_if_ne (tgt := 50) zx zb dX11_takesOne_45 (by decide) (fun c_12 => ?_) (fun c_12 => absurd c_12 (by decide))
          refine lv_aload_n zx zb dX11_takesOne_50 rfl (lv_at hl 0 rfl) ?_
          refine r_get (C := RX11) (T := TX11) (N := 18) (ci := 9) (v := .ref (ma 16)) S in_X11_takesOne_X11 G 1 rfl rfl 16 (by decide) lk_X11_takesOne_42 rfl dX11_takesOne_51 ?_
          refine lv_aload_n zx zb dX11_takesOne_54 rfl (lv_at hl 0 rfl) ?_
          refine r_get (C := RX11) (T := TX11) (N := 18) (ci := 9) (v := .ref (ma 17)) S in_X11_takesOne_X11 G 1 rfl rfl 17 (by decide) lk_X11_takesOne_45 rfl dX11_takesOne_55 ?_
          refine lv_iconst (v := 0) zx zb dX11_takesOne_58 (by decide) ?_
          refine r_iald (v := (f_10c 0)) S G 3 rfl (k_vp (by decide)) rfl dX11_takesOne_59 ?_
          refine lv_aload_n zx zb dX11_takesOne_60 rfl (lv_at hl 0 rfl) ?_
          refine r_get (C := RX11) (T := TX11) (N := 18) (ci := 9) (v := .ref (ma 17)) S in_X11_takesOne_X11 G 1 rfl rfl 17 (by decide) lk_X11_takesOne_45 rfl dX11_takesOne_61 ?_
          refine lv_iconst (v := 1) zx zb dX11_takesOne_64 (by decide) ?_
          refine r_iald (v := (f_10c 1)) S G 3 rfl (k_vp (by decide)) rfl dX11_takesOne_65 ?_
          refine lv_aload_n zx zb dX11_takesOne_66 rfl (lv_at hl 0 rfl) ?_
          refine r_get (C := RX11) (T := TX11) (N := 18) (ci := 9) (v := .ref (ma 17)) S in_X11_takesOne_X11 G 1 rfl rfl 17 (by decide) lk_X11_takesOne_45 rfl dX11_takesOne_67 ?_
          refine lv_iconst (v := 2) zx zb dX11_takesOne_70 (by decide) ?_
          refine r_iald (v := (f_10c 2)) S G 3 rfl (k_vp (by decide)) rfl dX11_takesOne_71 ?_
          refine b_wv (cells' := 0) (slots' := 0) (wr := @HAppend.hAppend va_W va_W va_W _ (mW m0 ma la lb n t_10a v_10b) (@HAppend.hAppend va_W va_W va_W _ ([((ma 10), .inl (X.2.1, 150, .inl fd))]) ([((ma 17), .inl (X.2.1, 3, .inl f_10c))]))) G rfl rfl [0] [1, 2, 3] rfl rfl rfl rfl (n_S (As := [.ref (ma 16), .int (f_10c 0), .int (f_10c 1), .int (f_10c 2)]) (rest := []) S G (m_layOne l X (ma 16) 123 fw bw (f_10c 0) (f_10c 1) (f_10c 2) hI_fw (by omega) (by omega) (by omega) H.size) gX11_takesOne_X11_layOne rfl rfl rfl hdS_X11_layOne ⟨Nat.le_of_ble_eq_true rfl, Nat.le_of_ble_eq_true rfl⟩ [0] rfl rfl rfl hl.1 (Nat.le_of_ble_eq_true rfl) dX11_takesOne_72 ⟨Nat.le_of_ble_eq_true rfl, Nat.le_of_ble_eq_true rfl⟩) (fun u_16 H locs hp_16 G => ?_)
          obtain ⟨f_16a, b_16b⟩ := u_16
          obtain ⟨hI_f_16a, hq_16⟩ := hp_16
          have hO_f_16a := hI_f_16a.2
          obtain ⟨hm0_f_16a, hm1_f_16a, hm2_f_16a, hm3_f_16a, hm4_f_16a⟩ := hO_f_16a
          have G : wd X (va_A (@HAppend.hAppend va_W va_W va_W _ (mW m0 ma la lb n t v) (@HAppend.hAppend va_W va_W va_W _ ([((ma 10), .inl (X.2.1, 150, .inl fd))]) (@HAppend.hAppend va_W va_W va_W _ ([((ma 17), .inl (X.2.1, 3, .inl fv))]) ([((ma 16), .inl (X.2.1, 123, .inl fw))])))) sz) (va_A (@HAppend.hAppend va_W va_W va_W _ (mW m0 ma la lb n t v) (@HAppend.hAppend va_W va_W va_W _ ([((ma 10), .inl (X.2.1, 150, .inl fd))]) (@HAppend.hAppend va_W va_W va_W _ ([((ma 17), .inl (X.2.1, 3, .inl fv))]) ([((ma 16), .inl (X.2.1, 123, .inl fw))])))) sz) s (@HAppend.hAppend va_W va_W va_W _ (mW m0 ma la lb n t_10a v_10b) (@HAppend.hAppend va_W va_W va_W _ ([((ma 10), .inl (X.2.1, 150, .inl fd))]) (@HAppend.hAppend va_W va_W va_W _ ([((ma 17), .inl (X.2.1, 3, .inl f_10c))]) ([((ma 16), .inl (X.2.1, 123, .inl f_16a))])))) H locs := G
          refine lv_iconst (v := 1) zx zb dX11_takesOne_75 (by decide) ?_
          exact e_int S zr zlk (by decide) G (t_10a, v_10b, f_10c, f_16a, b_16b) [0, 1, 2, 3] rfl rfl (Or.inr rfl) (⟨hI_t_10a, hI_f_16a, ⟨⟨by first | omega | (dsimp only; omega), by first | omega | (dsimp only; omega), by assumption⟩, Or.inr rfl⟩⟩) dX11_takesOne_76
  · have fc_2 := j_eq (a := (bw 0)) (b := 6) (by omega) (by omega) c_2
    refine lv_iconst (v := 0) zx zb dX11_takesOne_11 (by decide) ?_
    exact e_int S zr zlk (by decide) G (t, v, fv, fw, bw) [0, 1, 2, 3] rfl rfl (Or.inr rfl) (⟨hI_t, hI_fw, ⟨⟨Nat.le_refl _, hT1, hT2⟩, Or.inl rfl⟩⟩) dX11_takesOne_12
theorem in_X11_takesSpeed_X11 : ∀ w ∈ wsX110, w ∈ wsX11_takesSpeed := by decide +kernel
theorem lk_X11_takesSpeed_42 : Cond.fieldLink RX11 42 "EggSpoonsModel" "anew" "[I" ∈ wsX11_takesSpeed := by decide +kernel
theorem lk_X11_takesSpeed_45 : Cond.fieldLink RX11 45 "EggSpoonsModel" "values" "[I" ∈ wsX11_takesSpeed := by decide +kernel
set_option maxHeartbeats 4000000 in
set_option maxRecDepth 100000 in
/-- takesSpeed -/
theorem m_takesSpeed (l : Launch) (X : EX) (m0 : Nat) (ma : Nat → Nat) (la : Int64) (lb : Int64) (n : Nat) (t : Nat → Nat) (v : Nat → Int32) (fd : Nat → Int32) (fv : Nat → Int32) (fw : Nat → Int32) (bw : Nat → Nat) (hI_n : n ≤ 150) (hI_t : InT t) (hI_fw : InM fw bw) (hT : t 0 + t 1 ≤ n ∧ (v 0 = 0 ∨ 1 ≤ t 1)) (sz : Nat) : Met l yX11_takesSpeed wsX11_takesSpeed ({ frames := 5, cells := 0, slots := 0, locals := 112 } : Room) (pE X [.ref m0] (@HAppend.hAppend va_W va_W va_W _ (mW m0 ma la lb n t v) (@HAppend.hAppend va_W va_W va_W _ ([((ma 10), .inl (X.2.1, 150, .inl fd))]) (@HAppend.hAppend va_W va_W va_W _ ([((ma 17), .inl (X.2.1, 3, .inl fv))]) ([((ma 16), .inl (X.2.1, 123, .inl fw))])))) sz) (qI (fun (r : Int32) (u : (Nat → Nat) × (Nat → Int32) × (Nat → Int32) × (Nat → Int32)) => InT u.1 ∧ InM u.2.2.2 bw ∧ ((t 0 ≤ u.1 0 ∧ u.1 0 + u.1 1 ≤ n ∧ (u.2.1 0 = 0 ∨ 1 ≤ u.1 1)) ∧ (r = 0 ∨ r = 1))) X (fun (u : (Nat → Nat) × (Nat → Int32) × (Nat → Int32) × (Nat → Int32)) => @HAppend.hAppend va_W va_W va_W _ (mW m0 ma la lb n u.1 u.2.1) (@HAppend.hAppend va_W va_W va_W _ ([((ma 10), .inl (X.2.1, 150, .inl fd))]) (@HAppend.hAppend va_W va_W va_W _ ([((ma 17), .inl (X.2.1, 3, .inl u.2.2.1))]) ([((ma 16), .inl (X.2.1, 123, .inl u.2.2.2))])))) (@HAppend.hAppend va_W va_W va_W _ (mW m0 ma la lb n t v) (@HAppend.hAppend va_W va_W va_W _ ([((ma 10), .inl (X.2.1, 150, .inl fd))]) (@HAppend.hAppend va_W va_W va_W _ ([((ma 17), .inl (X.2.1, 3, .inl fv))]) ([((ma 16), .inl (X.2.1, 123, .inl fw))])))) sz) 0 0 (va_A (@HAppend.hAppend va_W va_W va_W _ (mW m0 ma la lb n t v) (@HAppend.hAppend va_W va_W va_W _ ([((ma 10), .inl (X.2.1, 150, .inl fd))]) (@HAppend.hAppend va_W va_W va_W _ ([((ma 17), .inl (X.2.1, 3, .inl fv))]) ([((ma 16), .inl (X.2.1, 123, .inl fw))])))) sz) := by
  refine mk_met (B := (va_A (@HAppend.hAppend va_W va_W va_W _ (mW m0 ma la lb n t v) (@HAppend.hAppend va_W va_W va_W _ ([((ma 10), .inl (X.2.1, 150, .inl fd))]) (@HAppend.hAppend va_W va_W va_W _ ([((ma 17), .inl (X.2.1, 3, .inl fv))]) ([((ma 16), .inl (X.2.1, 123, .inl fw))])))) sz)) (A := (va_A (@HAppend.hAppend va_W va_W va_W _ (mW m0 ma la lb n t v) (@HAppend.hAppend va_W va_W va_W _ ([((ma 10), .inl (X.2.1, 150, .inl fd))]) (@HAppend.hAppend va_W va_W va_W _ ([((ma 17), .inl (X.2.1, 3, .inl fv))]) ([((ma 16), .inl (X.2.1, 123, .inl fw))])))) sz)) (cc := cX11_takesSpeed) (maxL := 1) (ret := (some .boolean)) (by decide) rfl (Nat.le_of_ble_eq_true rfl) k_w k_a (fun p e s m below meth c S zr zlk znm zsz G ls hl => ?_)
  have S : CallFix p m c cX11_takesSpeed 1 s _ wsX11_takesSpeed RX11 := S
  have zx := S.1
  have zb := S.2.1
  have hl : lv_has ls 1 [(0, .ref m0)] := hl
  have hO_t := hI_t
  obtain ⟨ht0_t, ht1_t⟩ := hO_t
  have hO_fw := hI_fw.2
  obtain ⟨hm0_fw, hm1_fw, hm2_fw, hm3_fw, hm4_fw⟩ := hO_fw
  obtain ⟨hT1, hT2⟩ := hT
  refine lv_aload_n zx zb dX11_takesSpeed_0 rfl (lv_at hl 0 rfl) ?_
  refine b_wv (cells' := 0) (slots' := 0) (wr := @HAppend.hAppend va_W va_W va_W _ ([((ma 17), .inl (X.2.1, 3, .inl fv))]) ([((ma 16), .inl (X.2.1, 123, .inl fw))])) G rfl rfl [0, 1] [2, 3] rfl rfl rfl rfl (n_V (As := []) (rest := []) (C := RX11) (T := TX11) (N := 18) (ci := 9) S G (m_goBehind l X m0 ma la lb n t v fd hI_n hI_t ⟨by omega, by first | assumption | omega⟩ s.heap.size) gX11_takesSpeed_X11_goBehind rfl rfl rfl hdV_X11_goBehind ⟨Nat.le_of_ble_eq_true rfl, Nat.le_of_ble_eq_true rfl⟩ [0, 1] rfl rfl 0 rfl rfl rfl hl.1 (Nat.le_of_ble_eq_true rfl) dX11_takesSpeed_1 ⟨Nat.le_of_ble_eq_true rfl, Nat.le_of_ble_eq_true rfl⟩) (fun u_1 H locs hp_1 G => ?_)
  obtain ⟨t_1a, v_1b⟩ := u_1
  try dsimp only at hp_1
  obtain ⟨hI_t_1a, hq_1⟩ := hp_1
  have hO_t_1a := hI_t_1a
  obtain ⟨ht0_t_1a, ht1_t_1a⟩ := hO_t_1a
  have G : wd X (va_A (@HAppend.hAppend va_W va_W va_W _ (mW m0 ma la lb n t v) (@HAppend.hAppend va_W va_W va_W _ ([((ma 10), .inl (X.2.1, 150, .inl fd))]) (@HAppend.hAppend va_W va_W va_W _ ([((ma 17), .inl (X.2.1, 3, .inl fv))]) ([((ma 16), .inl (X.2.1, 123, .inl fw))])))) sz) (va_A (@HAppend.hAppend va_W va_W va_W _ (mW m0 ma la lb n t v) (@HAppend.hAppend va_W va_W va_W _ ([((ma 10), .inl (X.2.1, 150, .inl fd))]) (@HAppend.hAppend va_W va_W va_W _ ([((ma 17), .inl (X.2.1, 3, .inl fv))]) ([((ma 16), .inl (X.2.1, 123, .inl fw))])))) sz) s (@HAppend.hAppend va_W va_W va_W _ ([((ma 17), .inl (X.2.1, 3, .inl fv))]) (@HAppend.hAppend va_W va_W va_W _ ([((ma 16), .inl (X.2.1, 123, .inl fw))]) (@HAppend.hAppend va_W va_W va_W _ (mW m0 ma la lb n t_1a v_1b) ([((ma 10), .inl (X.2.1, 150, .inl fd))])))) H locs := G
  obtain ⟨hz0_1, hz1_1, hz2_1⟩ := hq_1
  refine lv_aload_n zx zb dX11_takesSpeed_4 rfl (lv_at hl 0 rfl) ?_
  refine lv_iconst (v := 0) zx zb dX11_takesSpeed_5 (by decide) ?_
  refine lv_iconst (v := 0) zx zb dX11_takesSpeed_6 (by decide) ?_
  refine lv_aload_n zx zb dX11_takesSpeed_7 rfl (lv_at hl 0 rfl) ?_
  refine r_get (C := RX11) (T := TX11) (N := 18) (ci := 9) (v := .ref (ma 16)) S in_X11_takesSpeed_X11 G 2 rfl rfl 16 (by decide) lk_X11_takesSpeed_42 rfl dX11_takesSpeed_8 ?_
  refine lv_iconst (v := 0) zx zb dX11_takesSpeed_11 (by decide) ?_
  refine r_iald (v := (nI (bw 0))) S G 1 rfl (k_vp (by decide)) hI_fw.1.1 dX11_takesSpeed_12 ?_
  refine lv_iconst (v := 1) zx zb dX11_takesSpeed_13 (by decide) ?_
  refine r_isub (v := ((nI (bw 0)) - 1)) S rfl dX11_takesSpeed_14 ?_
  refine b_wi (cells' := 0) (slots' := 0) (wr := [((ma 16), .inl (X.2.1, 123, .inl fw))]) G rfl rfl [2, 3, 0] [1] rfl rfl rfl rfl (n_V (As := [.int 0, .int 0, .int ((nI (bw 0)) - 1)]) (rest := []) (C := RX11) (T := TX11) (N := 18) (ci := 9) S G (m_takes0 l X m0 ma la lb n t_1a v_1b fd fv 0 ((nI (bw 0)) - 1) hI_n hI_t_1a ⟨by omega, by first | assumption | omega⟩ H.size) gX11_takesSpeed_X11_takes rfl rfl rfl hdV_X11_takes ⟨Nat.le_of_ble_eq_true rfl, Nat.le_of_ble_eq_true rfl⟩ [2, 3, 0] rfl rfl 2 rfl rfl rfl hl.1 (Nat.le_of_ble_eq_true rfl) dX11_takesSpeed_15 ⟨Nat.le_of_ble_eq_true rfl, Nat.le_of_ble_eq_true rfl⟩) (fun r_3 u_3 H locs hp_3 G => ?_)
  obtain ⟨t_3a, v_3b, f_3c⟩ := u_3
  try dsimp only at hp_3
  obtain ⟨hI_t_3a, hq_3⟩ := hp_3
  have hO_t_3a := hI_t_3a
  obtain ⟨ht0_t_3a, ht1_t_3a⟩ := hO_t_3a
  have G : wd X (va_A (@HAppend.hAppend va_W va_W va_W _ (mW m0 ma la lb n t v) (@HAppend.hAppend va_W va_W va_W _ ([((ma 10), .inl (X.2.1, 150, .inl fd))]) (@HAppend.hAppend va_W va_W va_W _ ([((ma 17), .inl (X.2.1, 3, .inl fv))]) ([((ma 16), .inl (X.2.1, 123, .inl fw))])))) sz) (va_A (@HAppend.hAppend va_W va_W va_W _ (mW m0 ma la lb n t v) (@HAppend.hAppend va_W va_W va_W _ ([((ma 10), .inl (X.2.1, 150, .inl fd))]) (@HAppend.hAppend va_W va_W va_W _ ([((ma 17), .inl (X.2.1, 3, .inl fv))]) ([((ma 16), .inl (X.2.1, 123, .inl fw))])))) sz) s (@HAppend.hAppend va_W va_W va_W _ ([((ma 16), .inl (X.2.1, 123, .inl fw))]) (@HAppend.hAppend va_W va_W va_W _ (mW m0 ma la lb n t_3a v_3b) (@HAppend.hAppend va_W va_W va_W _ ([((ma 10), .inl (X.2.1, 150, .inl fd))]) ([((ma 17), .inl (X.2.1, 3, .inl f_3c))])))) H locs := G
  obtain ⟨⟨hz0_3, hz1_3, hz2_3⟩, hr_3⟩ := hq_3
  rcases hr_3 with rfl | ⟨rfl, hv_3, ha_3, hb_3⟩
  · refine lv_if_eq (tgt := 32) zx zb dX11_takesSpeed_18 (by decide) (fun c_4 => ?_) (fun c_4 => absurd (by decide) c_4)
    refine lv_iconst (v := 0) zx zb dX11_takesSpeed_32 (by decide) ?_
    exact e_int S zr zlk (by decide) G (t_3a, v_3b, f_3c, fw) [1, 2, 3, 0] rfl rfl (Or.inr rfl) (⟨hI_t_3a, hI_fw, ⟨⟨by first | omega | (dsimp only; omega), by first | omega | (dsimp only; omega), by assumption⟩, Or.inl rfl⟩⟩) dX11_takesSpeed_33
  · refine lv_if_eq (tgt := 32) zx zb dX11_takesSpeed_18 (by decide) (fun c_5 => absurd c_5 (by decide)) (fun c_5 => ?_)
    refine lv_aload_n zx zb dX11_takesSpeed_21 rfl (lv_at hl 0 rfl) ?_
    refine lv_iconst (v := 1) zx zb dX11_takesSpeed_22 (by decide) ?_
    refine lv_iconst (v := 0) zx zb dX11_takesSpeed_23 (by decide) ?_
    refine lv_bipush (v := 9) zx zb dX11_takesSpeed_24 (by decide) ?_
    refine b_wi (cells' := 0) (slots' := 0) (wr := [((ma 16), .inl (X.2.1, 123, .inl fw))]) G rfl rfl [1, 2, 3] [0] rfl rfl rfl rfl (n_V (As := [.int 1, .int 0, .int 9]) (rest := []) (C := RX11) (T := TX11) (N := 18) (ci := 9) S G (m_takes1 l X m0 ma la lb n t_3a v_3b fd f_3c 0 9 hI_n hI_t_3a ⟨by omega, by first | assumption | omega⟩ H.size) gX11_takesSpeed_X11_takes rfl rfl rfl hdV_X11_takes ⟨Nat.le_of_ble_eq_true rfl, Nat.le_of_ble_eq_true rfl⟩ [1, 2, 3] rfl rfl 1 rfl rfl rfl hl.1 (Nat.le_of_ble_eq_true rfl) dX11_takesSpeed_26 ⟨Nat.le_of_ble_eq_true rfl, Nat.le_of_ble_eq_true rfl⟩) (fun r_6 u_6 H locs hp_6 G => ?_)
    obtain ⟨t_6a, v_6b, f_6c⟩ := u_6
    try dsimp only at hp_6
    obtain ⟨hI_t_6a, hq_6⟩ := hp_6
    have hO_t_6a := hI_t_6a
    obtain ⟨ht0_t_6a, ht1_t_6a⟩ := hO_t_6a
    have G : wd X (va_A (@HAppend.hAppend va_W va_W va_W _ (mW m0 ma la lb n t v) (@HAppend.hAppend va_W va_W va_W _ ([((ma 10), .inl (X.2.1, 150, .inl fd))]) (@HAppend.hAppend va_W va_W va_W _ ([((ma 17), .inl (X.2.1, 3, .inl fv))]) ([((ma 16), .inl (X.2.1, 123, .inl fw))])))) sz) (va_A (@HAppend.hAppend va_W va_W va_W _ (mW m0 ma la lb n t v) (@HAppend.hAppend va_W va_W va_W _ ([((ma 10), .inl (X.2.1, 150, .inl fd))]) (@HAppend.hAppend va_W va_W va_W _ ([((ma 17), .inl (X.2.1, 3, .inl fv))]) ([((ma 16), .inl (X.2.1, 123, .inl fw))])))) sz) s (@HAppend.hAppend va_W va_W va_W _ ([((ma 16), .inl (X.2.1, 123, .inl fw))]) (@HAppend.hAppend va_W va_W va_W _ (mW m0 ma la lb n t_6a v_6b) (@HAppend.hAppend va_W va_W va_W _ ([((ma 10), .inl (X.2.1, 150, .inl fd))]) ([((ma 17), .inl (X.2.1, 3, .inl f_6c))])))) H locs := G
    obtain ⟨⟨hz0_6, hz1_6, hz2_6⟩, hr_6⟩ := hq_6
    rcases hr_6 with rfl | ⟨rfl, hv_6, ha_6, hb_6⟩
    · refine lv_if_ne (tgt := 34) zx zb dX11_takesSpeed_29 (by decide) (fun c_7 => absurd (by decide) c_7) (fun c_7 => ?_)
      refine lv_iconst (v := 0) zx zb dX11_takesSpeed_32 (by decide) ?_
      exact e_int S zr zlk (by decide) G (t_6a, v_6b, f_6c, fw) [1, 2, 3, 0] rfl rfl (Or.inr rfl) (⟨hI_t_6a, hI_fw, ⟨⟨by first | omega | (dsimp only; omega), by first | omega | (dsimp only; omega), by assumption⟩, Or.inl rfl⟩⟩) dX11_takesSpeed_33
    · refine lv_if_ne (tgt := 34) zx zb dX11_takesSpeed_29 (by decide) (fun c_8 => ?_) (fun c_8 => absurd c_8 (by decide))
      refine lv_aload_n zx zb dX11_takesSpeed_34 rfl (lv_at hl 0 rfl) ?_
      refine r_get (C := RX11) (T := TX11) (N := 18) (ci := 9) (v := .ref (ma 16)) S in_X11_takesSpeed_X11 G 1 rfl rfl 16 (by decide) lk_X11_takesSpeed_42 rfl dX11_takesSpeed_35 ?_
      refine lv_bipush (v := 11) zx zb dX11_takesSpeed_38 (by decide) ?_
      refine lv_aload_n zx zb dX11_takesSpeed_40 rfl (lv_at hl 0 rfl) ?_
      refine r_get (C := RX11) (T := TX11) (N := 18) (ci := 9) (v := .ref (ma 17)) S in_X11_takesSpeed_X11 G 1 rfl rfl 17 (by decide) lk_X11_takesSpeed_45 rfl dX11_takesSpeed_41 ?_
      refine lv_iconst (v := 0) zx zb dX11_takesSpeed_44 (by decide) ?_
      obtain ⟨iv, hiv, eiv⟩ := k_one (by omega) hv_3
      replace eiv := ha_6.trans eiv
      refine r_iald (v := nI iv) S G 3 rfl (k_vp (by decide)) eiv dX11_takesSpeed_45 ?_
      refine r_iadd (v := (nI (11 + iv))) S (nI_add 11 iv) dX11_takesSpeed_46 ?_
      refine lv_aload_n zx zb dX11_takesSpeed_47 rfl (lv_at hl 0 rfl) ?_
      refine r_get (C := RX11) (T := TX11) (N := 18) (ci := 9) (v := .ref (ma 17)) S in_X11_takesSpeed_X11 G 1 rfl rfl 17 (by decide) lk_X11_takesSpeed_45 rfl dX11_takesSpeed_48 ?_
      refine lv_iconst (v := 1) zx zb dX11_takesSpeed_51 (by decide) ?_
      refine r_iald (v := (f_6c 1)) S G 3 rfl (k_vp (by decide)) rfl dX11_takesSpeed_52 ?_
      refine r_iast S G 0 rfl (vp_in_nI (by omega) (by decide)) dX11_takesSpeed_53 (fun H locs G => ?_)
      obtain ⟨f_10, hI_f_10, G⟩ : ∃ f_10 : Nat → Int32, InM f_10 bw ∧ wd X (va_A (@HAppend.hAppend va_W va_W va_W _ (mW m0 ma la lb n t v) (@HAppend.hAppend va_W va_W va_W _ ([((ma 10), .inl (X.2.1, 150, .inl fd))]) (@HAppend.hAppend va_W va_W va_W _ ([((ma 17), .inl (X.2.1, 3, .inl fv))]) ([((ma 16), .inl (X.2.1, 123, .inl fw))])))) sz) (va_A (@HAppend.hAppend va_W va_W va_W _ (mW m0 ma la lb n t v) (@HAppend.hAppend va_W va_W va_W _ ([((ma 10), .inl (X.2.1, 150, .inl fd))]) (@HAppend.hAppend va_W va_W va_W _ ([((ma 17), .inl (X.2.1, 3, .inl fv))]) ([((ma 16), .inl (X.2.1, 123, .inl fw))])))) sz) s (@HAppend.hAppend va_W va_W va_W _ ([((ma 16), .inl (X.2.1, 123, .inl f_10))]) (@HAppend.hAppend va_W va_W va_W _ (mW m0 ma la lb n t_6a v_6b) (@HAppend.hAppend va_W va_W va_W _ ([((ma 10), .inl (X.2.1, 150, .inl fd))]) ([((ma 17), .inl (X.2.1, 3, .inl f_6c))])))) H locs := ⟨_, InM_o hI_fw (by rw [nI_clamp (by omega)]; omega), G⟩
      have hO_f_10 := hI_f_10.2
      obtain ⟨hm0_f_10, hm1_f_10, hm2_f_10, hm3_f_10, hm4_f_10⟩ := hO_f_10
      refine lv_iconst (v := 1) zx zb dX11_takesSpeed_54 (by decide) ?_
      exact e_int S zr zlk (by decide) G (t_6a, v_6b, f_6c, f_10) [1, 2, 3, 0] rfl rfl (Or.inr rfl) (⟨hI_t_6a, hI_f_10, ⟨⟨by first | omega | (dsimp only; omega), by first | omega | (dsimp only; omega), by assumption⟩, Or.inr rfl⟩⟩) dX11_takesSpeed_55
theorem in_X11_takesStart_X11 : ∀ w ∈ wsX110, w ∈ wsX11_takesStart := by decide +kernel
theorem lk_X11_takesStart_223 : Cond.fieldLink RX11 223 "EggSpoonsModel" "token" "I" ∈ wsX11_takesStart := by decide +kernel
theorem lk_X11_takesStart_226 : Cond.fieldLink RX11 226 "EggSpoonsModel" "value" "I" ∈ wsX11_takesStart := by decide +kernel
theorem lk_X11_takesStart_42 : Cond.fieldLink RX11 42 "EggSpoonsModel" "anew" "[I" ∈ wsX11_takesStart := by decide +kernel
theorem lk_X11_takesStart_45 : Cond.fieldLink RX11 45 "EggSpoonsModel" "values" "[I" ∈ wsX11_takesStart := by decide +kernel
set_option maxHeartbeats 4000000 in
set_option maxRecDepth 100000 in
/-- takesStart -/
theorem m_takesStart (l : Launch) (X : EX) (m0 : Nat) (ma : Nat → Nat) (la : Int64) (lb : Int64) (n : Nat) (t : Nat → Nat) (v : Nat → Int32) (fd : Nat → Int32) (fv : Nat → Int32) (fw : Nat → Int32) (bw : Nat → Nat) (hI_n : n ≤ 150) (hI_t : InT t) (hI_fw : InM fw bw) (hT : t 0 + t 1 ≤ n ∧ (v 0 = 0 ∨ 1 ≤ t 1)) (sz : Nat) : Met l yX11_takesStart wsX11_takesStart ({ frames := 5, cells := 0, slots := 0, locals := 112 } : Room) (pE X [.ref m0] (@HAppend.hAppend va_W va_W va_W _ (mW m0 ma la lb n t v) (@HAppend.hAppend va_W va_W va_W _ ([((ma 10), .inl (X.2.1, 150, .inl fd))]) (@HAppend.hAppend va_W va_W va_W _ ([((ma 17), .inl (X.2.1, 3, .inl fv))]) ([((ma 16), .inl (X.2.1, 123, .inl fw))])))) sz) (qI (fun (r : Int32) (u : (Nat → Nat) × (Nat → Int32) × (Nat → Int32) × (Nat → Int32)) => InT u.1 ∧ InM u.2.2.2 bw ∧ ((t 0 ≤ u.1 0 ∧ u.1 0 + u.1 1 ≤ n ∧ (u.2.1 0 = 0 ∨ 1 ≤ u.1 1)) ∧ (r = 0 ∨ r = 1))) X (fun (u : (Nat → Nat) × (Nat → Int32) × (Nat → Int32) × (Nat → Int32)) => @HAppend.hAppend va_W va_W va_W _ (mW m0 ma la lb n u.1 u.2.1) (@HAppend.hAppend va_W va_W va_W _ ([((ma 10), .inl (X.2.1, 150, .inl fd))]) (@HAppend.hAppend va_W va_W va_W _ ([((ma 17), .inl (X.2.1, 3, .inl u.2.2.1))]) ([((ma 16), .inl (X.2.1, 123, .inl u.2.2.2))])))) (@HAppend.hAppend va_W va_W va_W _ (mW m0 ma la lb n t v) (@HAppend.hAppend va_W va_W va_W _ ([((ma 10), .inl (X.2.1, 150, .inl fd))]) (@HAppend.hAppend va_W va_W va_W _ ([((ma 17), .inl (X.2.1, 3, .inl fv))]) ([((ma 16), .inl (X.2.1, 123, .inl fw))])))) sz) 0 0 (va_A (@HAppend.hAppend va_W va_W va_W _ (mW m0 ma la lb n t v) (@HAppend.hAppend va_W va_W va_W _ ([((ma 10), .inl (X.2.1, 150, .inl fd))]) (@HAppend.hAppend va_W va_W va_W _ ([((ma 17), .inl (X.2.1, 3, .inl fv))]) ([((ma 16), .inl (X.2.1, 123, .inl fw))])))) sz) := by
  refine mk_met (B := (va_A (@HAppend.hAppend va_W va_W va_W _ (mW m0 ma la lb n t v) (@HAppend.hAppend va_W va_W va_W _ ([((ma 10), .inl (X.2.1, 150, .inl fd))]) (@HAppend.hAppend va_W va_W va_W _ ([((ma 17), .inl (X.2.1, 3, .inl fv))]) ([((ma 16), .inl (X.2.1, 123, .inl fw))])))) sz)) (A := (va_A (@HAppend.hAppend va_W va_W va_W _ (mW m0 ma la lb n t v) (@HAppend.hAppend va_W va_W va_W _ ([((ma 10), .inl (X.2.1, 150, .inl fd))]) (@HAppend.hAppend va_W va_W va_W _ ([((ma 17), .inl (X.2.1, 3, .inl fv))]) ([((ma 16), .inl (X.2.1, 123, .inl fw))])))) sz)) (cc := cX11_takesStart) (maxL := 2) (ret := (some .boolean)) (by decide) rfl (Nat.le_of_ble_eq_true rfl) k_w k_a (fun p e s m below meth c S zr zlk znm zsz G ls hl => ?_)
  have S : CallFix p m c cX11_takesStart 2 s _ wsX11_takesStart RX11 := S
  have zx := S.1
  have zb := S.2.1
  have hl : lv_has ls 2 [(0, .ref m0)] := hl
  have hO_t := hI_t
  obtain ⟨ht0_t, ht1_t⟩ := hO_t
  have hO_fw := hI_fw.2
  obtain ⟨hm0_fw, hm1_fw, hm2_fw, hm3_fw, hm4_fw⟩ := hO_fw
  obtain ⟨hT1, hT2⟩ := hT
  refine lv_aload_n zx zb dX11_takesStart_0 rfl (lv_at hl 0 rfl) ?_
  refine b_wv (cells' := 0) (slots' := 0) (wr := @HAppend.hAppend va_W va_W va_W _ ([((ma 17), .inl (X.2.1, 3, .inl fv))]) ([((ma 16), .inl (X.2.1, 123, .inl fw))])) G rfl rfl [0, 1] [2, 3] rfl rfl rfl rfl (n_V (As := []) (rest := []) (C := RX11) (T := TX11) (N := 18) (ci := 9) S G (m_goBehind l X m0 ma la lb n t v fd hI_n hI_t ⟨by omega, by first | assumption | omega⟩ s.heap.size) gX11_takesStart_X11_goBehind rfl rfl rfl hdV_X11_goBehind ⟨Nat.le_of_ble_eq_true rfl, Nat.le_of_ble_eq_true rfl⟩ [0, 1] rfl rfl 0 rfl rfl rfl hl.1 (Nat.le_of_ble_eq_true rfl) dX11_takesStart_1 ⟨Nat.le_of_ble_eq_true rfl, Nat.le_of_ble_eq_true rfl⟩) (fun u_1 H locs hp_1 G => ?_)
  obtain ⟨t_1a, v_1b⟩ := u_1
  try dsimp only at hp_1
  obtain ⟨hI_t_1a, hq_1⟩ := hp_1
  have hO_t_1a := hI_t_1a
  obtain ⟨ht0_t_1a, ht1_t_1a⟩ := hO_t_1a
  have G : wd X (va_A (@HAppend.hAppend va_W va_W va_W _ (mW m0 ma la lb n t v) (@HAppend.hAppend va_W va_W va_W _ ([((ma 10), .inl (X.2.1, 150, .inl fd))]) (@HAppend.hAppend va_W va_W va_W _ ([((ma 17), .inl (X.2.1, 3, .inl fv))]) ([((ma 16), .inl (X.2.1, 123, .inl fw))])))) sz) (va_A (@HAppend.hAppend va_W va_W va_W _ (mW m0 ma la lb n t v) (@HAppend.hAppend va_W va_W va_W _ ([((ma 10), .inl (X.2.1, 150, .inl fd))]) (@HAppend.hAppend va_W va_W va_W _ ([((ma 17), .inl (X.2.1, 3, .inl fv))]) ([((ma 16), .inl (X.2.1, 123, .inl fw))])))) sz) s (@HAppend.hAppend va_W va_W va_W _ ([((ma 17), .inl (X.2.1, 3, .inl fv))]) (@HAppend.hAppend va_W va_W va_W _ ([((ma 16), .inl (X.2.1, 123, .inl fw))]) (@HAppend.hAppend va_W va_W va_W _ (mW m0 ma la lb n t_1a v_1b) ([((ma 10), .inl (X.2.1, 150, .inl fd))])))) H locs := G
  obtain ⟨hz0_1, hz1_1, hz2_1⟩ := hq_1
  refine lv_aload_n zx zb dX11_takesStart_4 rfl (lv_at hl 0 rfl) ?_
  refine r_get (C := RX11) (T := TX11) (N := 18) (ci := 9) (v := .int (v_1b 0)) S in_X11_takesStart_X11 G 2 rfl rfl 14 (by decide) lk_X11_takesStart_223 rfl dX11_takesStart_5 ?_
  refine lv_iconst (v := 2) zx zb dX11_takesStart_8 (by decide) ?_
  refine lv_icmp_ne (tgt := 57) zx zb dX11_takesStart_9 (by decide) (fun c_2 => ?_) (fun c_2 => ?_)
  · refine lv_iconst (v := 0) zx zb dX11_takesStart_57 (by decide) ?_
    exact e_int S zr zlk (by decide) G (t_1a, v_1b, fv, fw) [2, 3, 0, 1] rfl rfl (Or.inr rfl) (⟨hI_t_1a, hI_fw, ⟨⟨by first | omega | (dsimp only; omega), by first | omega | (dsimp only; omega), by assumption⟩, Or.inl rfl⟩⟩) dX11_takesStart_58
  · refine lv_aload_n zx zb dX11_takesStart_12 rfl (lv_at hl 0 rfl) ?_
    refine r_get (C := RX11) (T := TX11) (N := 18) (ci := 9) (v := .int (v_1b 1)) S in_X11_takesStart_X11 G 2 rfl rfl 15 (by decide) lk_X11_takesStart_226 rfl dX11_takesStart_13 ?_
    refine lv_i2l (v := (Int32.toInt64 (v_1b 1))) zx zb dX11_takesStart_16 rfl ?_
    refine lv_lconst (v := (Int32.toInt64 0)) zx zb dX11_takesStart_17 (by decide) ?_
    refine lv_aload_n zx zb dX11_takesStart_18 rfl (lv_at hl 0 rfl) ?_
    refine r_get (C := RX11) (T := TX11) (N := 18) (ci := 9) (v := .ref (ma 16)) S in_X11_takesStart_X11 G 2 rfl rfl 16 (by decide) lk_X11_takesStart_42 rfl dX11_takesStart_19 ?_
    refine lv_iconst (v := 0) zx zb dX11_takesStart_22 (by decide) ?_
    refine r_iald (v := (nI (bw 0))) S G 1 rfl (k_vp (by decide)) hI_fw.1.1 dX11_takesStart_23 ?_
    refine lv_iconst (v := 1) zx zb dX11_takesStart_24 (by decide) ?_
    refine r_isub (v := ((nI (bw 0)) - 1)) S rfl dX11_takesStart_25 ?_
    refine lv_i2l (v := (Int32.toInt64 ((nI (bw 0)) - 1))) zx zb dX11_takesStart_26 rfl ?_
    refine o_ri (cells' := 0) (slots' := 0) G rfl rfl (n_S (As := [.long (Int32.toInt64 (v_1b 1)), .long (Int32.toInt64 0), .long (Int32.toInt64 ((nI (bw 0)) - 1))]) (rest := []) S G (m_in l X (v_1b 1) 0 ((nI (bw 0)) - 1) H.size) gX11_takesStart_X11_in rfl rfl rfl hdS_X11_in ⟨Nat.le_of_ble_eq_true rfl, Nat.le_of_ble_eq_true rfl⟩ [] rfl rfl rfl hl.1 (Nat.le_of_ble_eq_true rfl) dX11_takesStart_27 ⟨Nat.le_of_ble_eq_true rfl, Nat.le_of_ble_eq_true rfl⟩) (fun r_4 u_4 H locs hp_4 G => ?_)
    have G : wd X (va_A (@HAppend.hAppend va_W va_W va_W _ (mW m0 ma la lb n t v) (@HAppend.hAppend va_W va_W va_W _ ([((ma 10), .inl (X.2.1, 150, .inl fd))]) (@HAppend.hAppend va_W va_W va_W _ ([((ma 17), .inl (X.2.1, 3, .inl fv))]) ([((ma 16), .inl (X.2.1, 123, .inl fw))])))) sz) (va_A (@HAppend.hAppend va_W va_W va_W _ (mW m0 ma la lb n t v) (@HAppend.hAppend va_W va_W va_W _ ([((ma 10), .inl (X.2.1, 150, .inl fd))]) (@HAppend.hAppend va_W va_W va_W _ ([((ma 17), .inl (X.2.1, 3, .inl fv))]) ([((ma 16), .inl (X.2.1, 123, .inl fw))])))) sz) s (@HAppend.hAppend va_W va_W va_W _ ([((ma 17), .inl (X.2.1, 3, .inl fv))]) (@HAppend.hAppend va_W va_W va_W _ ([((ma 16), .inl (X.2.1, 123, .inl fw))]) (@HAppend.hAppend va_W va_W va_W _ (mW m0 ma la lb n t_1a v_1b) ([((ma 10), .inl (X.2.1, 150, .inl fd))])))) H locs := G
    rcases hp_4 with ⟨rfl, hw_4⟩ | ⟨rfl, hw_4⟩
    · refine lv_if_eq (tgt := 57) zx zb dX11_takesStart_30 (by decide) (fun c_5 => absurd c_5 (by decide)) (fun c_5 => ?_)
      refine lv_aload_n zx zb dX11_takesStart_33 rfl (lv_at hl 0 rfl) ?_
      refine r_get (C := RX11) (T := TX11) (N := 18) (ci := 9) (v := .ref (ma 16)) S in_X11_takesStart_X11 G 2 rfl rfl 16 (by decide) lk_X11_takesStart_42 rfl dX11_takesStart_34 ?_
      refine lv_aload_n zx zb dX11_takesStart_37 rfl (lv_at hl 0 rfl) ?_
      refine r_get (C := RX11) (T := TX11) (N := 18) (ci := 9) (v := .int (v_1b 1)) S in_X11_takesStart_X11 G 2 rfl rfl 15 (by decide) lk_X11_takesStart_226 rfl dX11_takesStart_38 ?_
      obtain ⟨jv, hjv, ejv⟩ := k_one (by omega) hw_4
      refine k_it ejv ?_
      refine o_ri (cells' := 0) (slots' := 0) G rfl rfl (n_S (As := [.ref (ma 16), .int (nI jv)]) (rest := []) S G (m_isHome l X (ma 16) 123 fw bw jv hI_fw (by omega) (by omega) (by omega) H.size) gX11_takesStart_X11_isHome rfl rfl rfl hdS_X11_isHome ⟨Nat.le_of_ble_eq_true rfl, Nat.le_of_ble_eq_true rfl⟩ [1] rfl rfl rfl hl.1 (Nat.le_of_ble_eq_true rfl) dX11_takesStart_41 ⟨Nat.le_of_ble_eq_true rfl, Nat.le_of_ble_eq_true rfl⟩) (fun r_6 u_6 H locs hp_6 G => ?_)
      have G : wd X (va_A (@HAppend.hAppend va_W va_W va_W _ (mW m0 ma la lb n t v) (@HAppend.hAppend va_W va_W va_W _ ([((ma 10), .inl (X.2.1, 150, .inl fd))]) (@HAppend.hAppend va_W va_W va_W _ ([((ma 17), .inl (X.2.1, 3, .inl fv))]) ([((ma 16), .inl (X.2.1, 123, .inl fw))])))) sz) (va_A (@HAppend.hAppend va_W va_W va_W _ (mW m0 ma la lb n t v) (@HAppend.hAppend va_W va_W va_W _ ([((ma 10), .inl (X.2.1, 150, .inl fd))]) (@HAppend.hAppend va_W va_W va_W _ ([((ma 17), .inl (X.2.1, 3, .inl fv))]) ([((ma 16), .inl (X.2.1, 123, .inl fw))])))) sz) s (@HAppend.hAppend va_W va_W va_W _ ([((ma 17), .inl (X.2.1, 3, .inl fv))]) (@HAppend.hAppend va_W va_W va_W _ ([((ma 16), .inl (X.2.1, 123, .inl fw))]) (@HAppend.hAppend va_W va_W va_W _ (mW m0 ma la lb n t_1a v_1b) ([((ma 10), .inl (X.2.1, 150, .inl fd))])))) H locs := G
      refine lv_if_ne (tgt := 57) zx zb dX11_takesStart_44 (by decide) (fun c_7 => ?_) (fun c_7 => ?_)
      · refine lv_iconst (v := 0) zx zb dX11_takesStart_57 (by decide) ?_
        exact e_int S zr zlk (by decide) G (t_1a, v_1b, fv, fw) [2, 3, 0, 1] rfl rfl (Or.inr rfl) (⟨hI_t_1a, hI_fw, ⟨⟨by first | omega | (dsimp only; omega), by first | omega | (dsimp only; omega), by assumption⟩, Or.inl rfl⟩⟩) dX11_takesStart_58
      · refine lv_aload_n zx zb dX11_takesStart_47 rfl (lv_at hl 0 rfl) ?_
        refine lv_iconst (v := 0) zx zb dX11_takesStart_48 (by decide) ?_
        refine lv_iconst (v := 0) zx zb dX11_takesStart_49 (by decide) ?_
        refine lv_iconst (v := 5) zx zb dX11_takesStart_50 (by decide) ?_
        refine b_wi (cells' := 0) (slots' := 0) (wr := [((ma 16), .inl (X.2.1, 123, .inl fw))]) G rfl rfl [2, 3, 0] [1] rfl rfl rfl rfl (n_V (As := [.int 0, .int 0, .int 5]) (rest := []) (C := RX11) (T := TX11) (N := 18) (ci := 9) S G (m_takes0 l X m0 ma la lb n t_1a v_1b fd fv 0 5 hI_n hI_t_1a ⟨by omega, by first | assumption | omega⟩ H.size) gX11_takesStart_X11_takes rfl rfl rfl hdV_X11_takes ⟨Nat.le_of_ble_eq_true rfl, Nat.le_of_ble_eq_true rfl⟩ [2, 3, 0] rfl rfl 2 rfl rfl rfl hl.1 (Nat.le_of_ble_eq_true rfl) dX11_takesStart_51 ⟨Nat.le_of_ble_eq_true rfl, Nat.le_of_ble_eq_true rfl⟩) (fun r_8 u_8 H locs hp_8 G => ?_)
        obtain ⟨t_8a, v_8b, f_8c⟩ := u_8
        try dsimp only at hp_8
        obtain ⟨hI_t_8a, hq_8⟩ := hp_8
        have hO_t_8a := hI_t_8a
        obtain ⟨ht0_t_8a, ht1_t_8a⟩ := hO_t_8a
        have G : wd X (va_A (@HAppend.hAppend va_W va_W va_W _ (mW m0 ma la lb n t v) (@HAppend.hAppend va_W va_W va_W _ ([((ma 10), .inl (X.2.1, 150, .inl fd))]) (@HAppend.hAppend va_W va_W va_W _ ([((ma 17), .inl (X.2.1, 3, .inl fv))]) ([((ma 16), .inl (X.2.1, 123, .inl fw))])))) sz) (va_A (@HAppend.hAppend va_W va_W va_W _ (mW m0 ma la lb n t v) (@HAppend.hAppend va_W va_W va_W _ ([((ma 10), .inl (X.2.1, 150, .inl fd))]) (@HAppend.hAppend va_W va_W va_W _ ([((ma 17), .inl (X.2.1, 3, .inl fv))]) ([((ma 16), .inl (X.2.1, 123, .inl fw))])))) sz) s (@HAppend.hAppend va_W va_W va_W _ ([((ma 16), .inl (X.2.1, 123, .inl fw))]) (@HAppend.hAppend va_W va_W va_W _ (mW m0 ma la lb n t_8a v_8b) (@HAppend.hAppend va_W va_W va_W _ ([((ma 10), .inl (X.2.1, 150, .inl fd))]) ([((ma 17), .inl (X.2.1, 3, .inl f_8c))])))) H locs := G
        obtain ⟨⟨hz0_8, hz1_8, hz2_8⟩, hr_8⟩ := hq_8
        rcases hr_8 with rfl | ⟨rfl, hv_8, ha_8, hb_8⟩
        · refine lv_if_ne (tgt := 59) zx zb dX11_takesStart_54 (by decide) (fun c_9 => absurd (by decide) c_9) (fun c_9 => ?_)
          refine lv_iconst (v := 0) zx zb dX11_takesStart_57 (by decide) ?_
          exact e_int S zr zlk (by decide) G (t_8a, v_8b, f_8c, fw) [1, 2, 3, 0] rfl rfl (Or.inr rfl) (⟨hI_t_8a, hI_fw, ⟨⟨by first | omega | (dsimp only; omega), by first | omega | (dsimp only; omega), by assumption⟩, Or.inl rfl⟩⟩) dX11_takesStart_58
        · refine lv_if_ne (tgt := 59) zx zb dX11_takesStart_54 (by decide) (fun c_10 => ?_) (fun c_10 => absurd c_10 (by decide))
          refine lv_aload_n zx zb dX11_takesStart_59 rfl (lv_at hl 0 rfl) ?_
          refine r_get (C := RX11) (T := TX11) (N := 18) (ci := 9) (v := .ref (ma 16)) S in_X11_takesStart_X11 G 1 rfl rfl 16 (by decide) lk_X11_takesStart_42 rfl dX11_takesStart_60 ?_
          refine lv_bipush (v := 36) zx zb dX11_takesStart_63 (by decide) ?_
          refine r_iald S G 0 rfl (k_vp (by decide)) rfl dX11_takesStart_65 ?_
          refine k_itE (fun y_11 => ?_)
          refine lv_bipush (v := 30) zx zb dX11_takesStart_66 (by decide) ?_
          refine k_cutW (PP := fun Wx => ∀ (x_13 : Int32) (H : Heap) (locs : List Loc) (ls : Array Slot), wd X (va_A (@HAppend.hAppend va_W va_W va_W _ (mW m0 ma la lb n t v) (@HAppend.hAppend va_W va_W va_W _ ([((ma 10), .inl (X.2.1, 150, .inl fd))]) (@HAppend.hAppend va_W va_W va_W _ ([((ma 17), .inl (X.2.1, 3, .inl fv))]) ([((ma 16), .inl (X.2.1, 123, .inl fw))])))) sz) (va_A (@HAppend.hAppend va_W va_W va_W _ (mW m0 ma la lb n t v) (@HAppend.hAppend va_W va_W va_W _ ([((ma 10), .inl (X.2.1, 150, .inl fd))]) (@HAppend.hAppend va_W va_W va_W _ ([((ma 17), .inl (X.2.1, 3, .inl fv))]) ([((ma 16), .inl (X.2.1, 123, .inl fw))])))) sz) s (@HAppend.hAppend va_W va_W va_W _ ([((ma 16), .inl (X.2.1, 123, .inl fw))]) (@HAppend.hAppend va_W va_W va_W _ (mW m0 ma la lb n t_8a v_8b) (@HAppend.hAppend va_W va_W va_W _ ([((ma 10), .inl (X.2.1, 150, .inl fd))]) ([((ma 17), .inl (X.2.1, 3, .inl f_8c))])))) H locs → lv_has ls 2 [(0, .ref m0)] → Wx (F0 m 85 ls [.int x_13]) H locs) ?_ ?_
          · intro join_68
            refine lv_icmp_le (tgt := 76) zx zb dX11_takesStart_68 (by decide) (fun c_12 => ?_) (fun c_12 => ?_)
            · refine lv_aload_n zx zb dX11_takesStart_76 rfl (lv_at hl 0 rfl) ?_
              refine r_get (C := RX11) (T := TX11) (N := 18) (ci := 9) (v := .ref (ma 16)) S in_X11_takesStart_X11 G 1 rfl rfl 16 (by decide) lk_X11_takesStart_42 rfl dX11_takesStart_77 ?_
              refine lv_bipush (v := 36) zx zb dX11_takesStart_80 (by decide) ?_
              refine r_iald S G 0 rfl (k_vp (by decide)) rfl dX11_takesStart_82 ?_
              refine k_itE (fun y_14 => ?_)
              refine lv_iconst (v := 1) zx zb dX11_takesStart_83 (by decide) ?_
              refine r_isub (v := (y_14 - 1)) S rfl dX11_takesStart_84 ?_
              exact join_68 (y_14 - 1) _ _ _  G hl
            · refine lv_bipush (v := 30) zx zb dX11_takesStart_71 (by decide) ?_
              refine lv_goto (tgt := 85) zx zb dX11_takesStart_73 (by decide) ?_
              exact join_68 30 _ _ _  G hl
          · intro x_13 H locs ls  G hl
            refine lv_istore_n (lv' := [(1, .int x_13), (0, .ref m0)]) zx zb dX11_takesStart_85 rfl hl (by decide) rfl (fun ls hl => ?_)
            refine lv_aload_n zx zb dX11_takesStart_86 rfl (lv_at hl 1 rfl) ?_
            refine lv_iconst (v := 1) zx zb dX11_takesStart_87 (by decide) ?_
            refine lv_iconst (v := 0) zx zb dX11_takesStart_88 (by decide) ?_
            refine lv_iload_n zx zb dX11_takesStart_89 rfl (lv_at hl 0 rfl) ?_
            refine b_wi (cells' := 0) (slots' := 0) (wr := [((ma 16), .inl (X.2.1, 123, .inl fw))]) G rfl rfl [1, 2, 3] [0] rfl rfl rfl rfl (n_V (As := [.int 1, .int 0, .int x_13]) (rest := []) (C := RX11) (T := TX11) (N := 18) (ci := 9) S G (m_takes1 l X m0 ma la lb n t_8a v_8b fd f_8c 0 x_13 hI_n hI_t_8a ⟨by omega, by first | assumption | omega⟩ H.size) gX11_takesStart_X11_takes rfl rfl rfl hdV_X11_takes ⟨Nat.le_of_ble_eq_true rfl, Nat.le_of_ble_eq_true rfl⟩ [1, 2, 3] rfl rfl 1 rfl rfl rfl hl.1 (Nat.le_of_ble_eq_true rfl) dX11_takesStart_90 ⟨Nat.le_of_ble_eq_true rfl, Nat.le_of_ble_eq_true rfl⟩) (fun r_15 u_15 H locs hp_15 G => ?_)
            obtain ⟨t_15a, v_15b, f_15c⟩ := u_15
            try dsimp only at hp_15
            obtain ⟨hI_t_15a, hq_15⟩ := hp_15
            have hO_t_15a := hI_t_15a
            obtain ⟨ht0_t_15a, ht1_t_15a⟩ := hO_t_15a
            have G : wd X (va_A (@HAppend.hAppend va_W va_W va_W _ (mW m0 ma la lb n t v) (@HAppend.hAppend va_W va_W va_W _ ([((ma 10), .inl (X.2.1, 150, .inl fd))]) (@HAppend.hAppend va_W va_W va_W _ ([((ma 17), .inl (X.2.1, 3, .inl fv))]) ([((ma 16), .inl (X.2.1, 123, .inl fw))])))) sz) (va_A (@HAppend.hAppend va_W va_W va_W _ (mW m0 ma la lb n t v) (@HAppend.hAppend va_W va_W va_W _ ([((ma 10), .inl (X.2.1, 150, .inl fd))]) (@HAppend.hAppend va_W va_W va_W _ ([((ma 17), .inl (X.2.1, 3, .inl fv))]) ([((ma 16), .inl (X.2.1, 123, .inl fw))])))) sz) s (@HAppend.hAppend va_W va_W va_W _ ([((ma 16), .inl (X.2.1, 123, .inl fw))]) (@HAppend.hAppend va_W va_W va_W _ (mW m0 ma la lb n t_15a v_15b) (@HAppend.hAppend va_W va_W va_W _ ([((ma 10), .inl (X.2.1, 150, .inl fd))]) ([((ma 17), .inl (X.2.1, 3, .inl f_15c))])))) H locs := G
            obtain ⟨⟨hz0_15, hz1_15, hz2_15⟩, hr_15⟩ := hq_15
            rcases hr_15 with rfl | ⟨rfl, hv_15, ha_15, hb_15⟩
            · refine lv_if_ne (tgt := 98) zx zb dX11_takesStart_93 (by decide) (fun c_16 => absurd (by decide) c_16) (fun c_16 => ?_)
              refine lv_iconst (v := 0) zx zb dX11_takesStart_96 (by decide) ?_
              exact e_int S zr zlk (by decide) G (t_15a, v_15b, f_15c, fw) [1, 2, 3, 0] rfl rfl (Or.inr rfl) (⟨hI_t_15a, hI_fw, ⟨⟨by first | omega | (dsimp only; omega), by first | omega | (dsimp only; omega), by assumption⟩, Or.inl rfl⟩⟩) dX11_takesStart_97
            · refine lv_if_ne (tgt := 98) zx zb dX11_takesStart_93 (by decide) (fun c_17 => ?_) (fun c_17 => absurd c_17 (by decide))
              refine lv_aload_n zx zb dX11_takesStart_98 rfl (lv_at hl 1 rfl) ?_
              refine r_get (C := RX11) (T := TX11) (N := 18) (ci := 9) (v := .ref (ma 16)) S in_X11_takesStart_X11 G 1 rfl rfl 16 (by decide) lk_X11_takesStart_42 rfl dX11_takesStart_99 ?_
              refine lv_iconst (v := 5) zx zb dX11_takesStart_102 (by decide) ?_
              refine lv_aload_n zx zb dX11_takesStart_103 rfl (lv_at hl 1 rfl) ?_
              refine r_get (C := RX11) (T := TX11) (N := 18) (ci := 9) (v := .ref (ma 17)) S in_X11_takesStart_X11 G 1 rfl rfl 17 (by decide) lk_X11_takesStart_45 rfl dX11_takesStart_104 ?_
              refine lv_iconst (v := 0) zx zb dX11_takesStart_107 (by decide) ?_
              obtain ⟨iv, ⟨hia, hib⟩, eiv⟩ := k_natR (a := 0) (b := 5) hv_8 rfl rfl (by decide) (by decide)
              replace eiv := ha_15.trans eiv
              refine r_iald (v := nI iv) S G 3 rfl (k_vp (by decide)) eiv dX11_takesStart_108 ?_
              refine r_iadd (v := (nI (5 + iv))) S (nI_add 5 iv) dX11_takesStart_109 ?_
              refine lv_aload_n zx zb dX11_takesStart_110 rfl (lv_at hl 1 rfl) ?_
              refine r_get (C := RX11) (T := TX11) (N := 18) (ci := 9) (v := .ref (ma 17)) S in_X11_takesStart_X11 G 1 rfl rfl 17 (by decide) lk_X11_takesStart_45 rfl dX11_takesStart_111 ?_
              refine lv_iconst (v := 1) zx zb dX11_takesStart_114 (by decide) ?_
              refine r_iald (v := (f_15c 1)) S G 3 rfl (k_vp (by decide)) rfl dX11_takesStart_115 ?_
              refine r_iast S G 0 rfl (vp_in_nI (by omega) (by decide)) dX11_takesStart_116 (fun H locs G => ?_)
              obtain ⟨f_19, hI_f_19, G⟩ : ∃ f_19 : Nat → Int32, InM f_19 bw ∧ wd X (va_A (@HAppend.hAppend va_W va_W va_W _ (mW m0 ma la lb n t v) (@HAppend.hAppend va_W va_W va_W _ ([((ma 10), .inl (X.2.1, 150, .inl fd))]) (@HAppend.hAppend va_W va_W va_W _ ([((ma 17), .inl (X.2.1, 3, .inl fv))]) ([((ma 16), .inl (X.2.1, 123, .inl fw))])))) sz) (va_A (@HAppend.hAppend va_W va_W va_W _ (mW m0 ma la lb n t v) (@HAppend.hAppend va_W va_W va_W _ ([((ma 10), .inl (X.2.1, 150, .inl fd))]) (@HAppend.hAppend va_W va_W va_W _ ([((ma 17), .inl (X.2.1, 3, .inl fv))]) ([((ma 16), .inl (X.2.1, 123, .inl fw))])))) sz) s (@HAppend.hAppend va_W va_W va_W _ ([((ma 16), .inl (X.2.1, 123, .inl f_19))]) (@HAppend.hAppend va_W va_W va_W _ (mW m0 ma la lb n t_15a v_15b) (@HAppend.hAppend va_W va_W va_W _ ([((ma 10), .inl (X.2.1, 150, .inl fd))]) ([((ma 17), .inl (X.2.1, 3, .inl f_15c))])))) H locs := ⟨_, InM_o hI_fw (by rw [nI_clamp (by omega)]; omega), G⟩
              have hO_f_19 := hI_f_19.2
              obtain ⟨hm0_f_19, hm1_f_19, hm2_f_19, hm3_f_19, hm4_f_19⟩ := hO_f_19
              refine lv_iconst (v := 1) zx zb dX11_takesStart_117 (by decide) ?_
              exact e_int S zr zlk (by decide) G (t_15a, v_15b, f_15c, f_19) [1, 2, 3, 0] rfl rfl (Or.inr rfl) (⟨hI_t_15a, hI_f_19, ⟨⟨by first | omega | (dsimp only; omega), by first | omega | (dsimp only; omega), by assumption⟩, Or.inr rfl⟩⟩) dX11_takesStart_118
    · refine lv_if_eq (tgt := 57) zx zb dX11_takesStart_30 (by decide) (fun c_20 => ?_) (fun c_20 => absurd (by decide) c_20)
      refine lv_iconst (v := 0) zx zb dX11_takesStart_57 (by decide) ?_
      exact e_int S zr zlk (by decide) G (t_1a, v_1b, fv, fw) [2, 3, 0, 1] rfl rfl (Or.inr rfl) (⟨hI_t_1a, hI_fw, ⟨⟨by first | omega | (dsimp only; omega), by first | omega | (dsimp only; omega), by assumption⟩, Or.inl rfl⟩⟩) dX11_takesStart_58
theorem in_X11_takesGo_X11 : ∀ w ∈ wsX110, w ∈ wsX11_takesGo := by decide +kernel
theorem lk_X11_takesGo_42 : Cond.fieldLink RX11 42 "EggSpoonsModel" "anew" "[I" ∈ wsX11_takesGo := by decide +kernel
theorem lk_X11_takesGo_45 : Cond.fieldLink RX11 45 "EggSpoonsModel" "values" "[I" ∈ wsX11_takesGo := by decide +kernel
set_option maxHeartbeats 4000000 in
set_option maxRecDepth 100000 in
/-- takesGo -/
theorem m_takesGo (l : Launch) (X : EX) (m0 : Nat) (ma : Nat → Nat) (la : Int64) (lb : Int64) (n : Nat) (t : Nat → Nat) (v : Nat → Int32) (fd : Nat → Int32) (fv : Nat → Int32) (fw : Nat → Int32) (bw : Nat → Nat) (hI_n : n ≤ 150) (hI_t : InT t) (hI_fw : InM fw bw) (hT : t 0 + t 1 ≤ n ∧ (v 0 = 0 ∨ 1 ≤ t 1)) (sz : Nat) : Met l yX11_takesGo wsX11_takesGo ({ frames := 5, cells := 0, slots := 0, locals := 115 } : Room) (pE X [.ref m0] (@HAppend.hAppend va_W va_W va_W _ (mW m0 ma la lb n t v) (@HAppend.hAppend va_W va_W va_W _ ([((ma 10), .inl (X.2.1, 150, .inl fd))]) (@HAppend.hAppend va_W va_W va_W _ ([((ma 17), .inl (X.2.1, 3, .inl fv))]) ([((ma 16), .inl (X.2.1, 123, .inl fw))])))) sz) (qI (fun (r : Int32) (u : (Nat → Nat) × (Nat → Int32) × (Nat → Int32) × (Nat → Int32)) => InT u.1 ∧ InM u.2.2.2 bw ∧ ((t 0 ≤ u.1 0 ∧ u.1 0 + u.1 1 ≤ n ∧ (u.2.1 0 = 0 ∨ 1 ≤ u.1 1)) ∧ (r = 0 ∨ r = 1))) X (fun (u : (Nat → Nat) × (Nat → Int32) × (Nat → Int32) × (Nat → Int32)) => @HAppend.hAppend va_W va_W va_W _ (mW m0 ma la lb n u.1 u.2.1) (@HAppend.hAppend va_W va_W va_W _ ([((ma 10), .inl (X.2.1, 150, .inl fd))]) (@HAppend.hAppend va_W va_W va_W _ ([((ma 17), .inl (X.2.1, 3, .inl u.2.2.1))]) ([((ma 16), .inl (X.2.1, 123, .inl u.2.2.2))])))) (@HAppend.hAppend va_W va_W va_W _ (mW m0 ma la lb n t v) (@HAppend.hAppend va_W va_W va_W _ ([((ma 10), .inl (X.2.1, 150, .inl fd))]) (@HAppend.hAppend va_W va_W va_W _ ([((ma 17), .inl (X.2.1, 3, .inl fv))]) ([((ma 16), .inl (X.2.1, 123, .inl fw))])))) sz) 0 0 (va_A (@HAppend.hAppend va_W va_W va_W _ (mW m0 ma la lb n t v) (@HAppend.hAppend va_W va_W va_W _ ([((ma 10), .inl (X.2.1, 150, .inl fd))]) (@HAppend.hAppend va_W va_W va_W _ ([((ma 17), .inl (X.2.1, 3, .inl fv))]) ([((ma 16), .inl (X.2.1, 123, .inl fw))])))) sz) := by
  refine mk_met (B := (va_A (@HAppend.hAppend va_W va_W va_W _ (mW m0 ma la lb n t v) (@HAppend.hAppend va_W va_W va_W _ ([((ma 10), .inl (X.2.1, 150, .inl fd))]) (@HAppend.hAppend va_W va_W va_W _ ([((ma 17), .inl (X.2.1, 3, .inl fv))]) ([((ma 16), .inl (X.2.1, 123, .inl fw))])))) sz)) (A := (va_A (@HAppend.hAppend va_W va_W va_W _ (mW m0 ma la lb n t v) (@HAppend.hAppend va_W va_W va_W _ ([((ma 10), .inl (X.2.1, 150, .inl fd))]) (@HAppend.hAppend va_W va_W va_W _ ([((ma 17), .inl (X.2.1, 3, .inl fv))]) ([((ma 16), .inl (X.2.1, 123, .inl fw))])))) sz)) (cc := cX11_takesGo) (maxL := 1) (ret := (some .boolean)) (by decide) rfl (Nat.le_of_ble_eq_true rfl) k_w k_a (fun p e s m below meth c S zr zlk znm zsz G ls hl => ?_)
  have S : CallFix p m c cX11_takesGo 1 s _ wsX11_takesGo RX11 := S
  have zx := S.1
  have zb := S.2.1
  have hl : lv_has ls 1 [(0, .ref m0)] := hl
  have hO_t := hI_t
  obtain ⟨ht0_t, ht1_t⟩ := hO_t
  have hO_fw := hI_fw.2
  obtain ⟨hm0_fw, hm1_fw, hm2_fw, hm3_fw, hm4_fw⟩ := hO_fw
  obtain ⟨hT1, hT2⟩ := hT
  refine lv_aload_n zx zb dX11_takesGo_0 rfl (lv_at hl 0 rfl) ?_
  refine b_wv (cells' := 0) (slots' := 0) (wr := @HAppend.hAppend va_W va_W va_W _ ([((ma 17), .inl (X.2.1, 3, .inl fv))]) ([((ma 16), .inl (X.2.1, 123, .inl fw))])) G rfl rfl [0, 1] [2, 3] rfl rfl rfl rfl (n_V (As := []) (rest := []) (C := RX11) (T := TX11) (N := 18) (ci := 9) S G (m_goBehind l X m0 ma la lb n t v fd hI_n hI_t ⟨by omega, by first | assumption | omega⟩ s.heap.size) gX11_takesGo_X11_goBehind rfl rfl rfl hdV_X11_goBehind ⟨Nat.le_of_ble_eq_true rfl, Nat.le_of_ble_eq_true rfl⟩ [0, 1] rfl rfl 0 rfl rfl rfl hl.1 (Nat.le_of_ble_eq_true rfl) dX11_takesGo_1 ⟨Nat.le_of_ble_eq_true rfl, Nat.le_of_ble_eq_true rfl⟩) (fun u_1 H locs hp_1 G => ?_)
  obtain ⟨t_1a, v_1b⟩ := u_1
  try dsimp only at hp_1
  obtain ⟨hI_t_1a, hq_1⟩ := hp_1
  have hO_t_1a := hI_t_1a
  obtain ⟨ht0_t_1a, ht1_t_1a⟩ := hO_t_1a
  have G : wd X (va_A (@HAppend.hAppend va_W va_W va_W _ (mW m0 ma la lb n t v) (@HAppend.hAppend va_W va_W va_W _ ([((ma 10), .inl (X.2.1, 150, .inl fd))]) (@HAppend.hAppend va_W va_W va_W _ ([((ma 17), .inl (X.2.1, 3, .inl fv))]) ([((ma 16), .inl (X.2.1, 123, .inl fw))])))) sz) (va_A (@HAppend.hAppend va_W va_W va_W _ (mW m0 ma la lb n t v) (@HAppend.hAppend va_W va_W va_W _ ([((ma 10), .inl (X.2.1, 150, .inl fd))]) (@HAppend.hAppend va_W va_W va_W _ ([((ma 17), .inl (X.2.1, 3, .inl fv))]) ([((ma 16), .inl (X.2.1, 123, .inl fw))])))) sz) s (@HAppend.hAppend va_W va_W va_W _ ([((ma 17), .inl (X.2.1, 3, .inl fv))]) (@HAppend.hAppend va_W va_W va_W _ ([((ma 16), .inl (X.2.1, 123, .inl fw))]) (@HAppend.hAppend va_W va_W va_W _ (mW m0 ma la lb n t_1a v_1b) ([((ma 10), .inl (X.2.1, 150, .inl fd))])))) H locs := G
  obtain ⟨hz0_1, hz1_1, hz2_1⟩ := hq_1
  refine lv_aload_n zx zb dX11_takesGo_4 rfl (lv_at hl 0 rfl) ?_
  refine lv_iconst (v := 0) zx zb dX11_takesGo_5 (by decide) ?_
  refine lv_iconst (v := 1) zx zb dX11_takesGo_6 (by decide) ?_
  refine lv_bipush (v := 99) zx zb dX11_takesGo_7 (by decide) ?_
  refine b_wi (cells' := 0) (slots' := 0) (wr := [((ma 16), .inl (X.2.1, 123, .inl fw))]) G rfl rfl [2, 3, 0] [1] rfl rfl rfl rfl (n_V (As := [.int 0, .int 1, .int 99]) (rest := []) (C := RX11) (T := TX11) (N := 18) (ci := 9) S G (m_takes0 l X m0 ma la lb n t_1a v_1b fd fv 1 99 hI_n hI_t_1a ⟨by omega, by first | assumption | omega⟩ H.size) gX11_takesGo_X11_takes rfl rfl rfl hdV_X11_takes ⟨Nat.le_of_ble_eq_true rfl, Nat.le_of_ble_eq_true rfl⟩ [2, 3, 0] rfl rfl 2 rfl rfl rfl hl.1 (Nat.le_of_ble_eq_true rfl) dX11_takesGo_9 ⟨Nat.le_of_ble_eq_true rfl, Nat.le_of_ble_eq_true rfl⟩) (fun r_2 u_2 H locs hp_2 G => ?_)
  obtain ⟨t_2a, v_2b, f_2c⟩ := u_2
  try dsimp only at hp_2
  obtain ⟨hI_t_2a, hq_2⟩ := hp_2
  have hO_t_2a := hI_t_2a
  obtain ⟨ht0_t_2a, ht1_t_2a⟩ := hO_t_2a
  have G : wd X (va_A (@HAppend.hAppend va_W va_W va_W _ (mW m0 ma la lb n t v) (@HAppend.hAppend va_W va_W va_W _ ([((ma 10), .inl (X.2.1, 150, .inl fd))]) (@HAppend.hAppend va_W va_W va_W _ ([((ma 17), .inl (X.2.1, 3, .inl fv))]) ([((ma 16), .inl (X.2.1, 123, .inl fw))])))) sz) (va_A (@HAppend.hAppend va_W va_W va_W _ (mW m0 ma la lb n t v) (@HAppend.hAppend va_W va_W va_W _ ([((ma 10), .inl (X.2.1, 150, .inl fd))]) (@HAppend.hAppend va_W va_W va_W _ ([((ma 17), .inl (X.2.1, 3, .inl fv))]) ([((ma 16), .inl (X.2.1, 123, .inl fw))])))) sz) s (@HAppend.hAppend va_W va_W va_W _ ([((ma 16), .inl (X.2.1, 123, .inl fw))]) (@HAppend.hAppend va_W va_W va_W _ (mW m0 ma la lb n t_2a v_2b) (@HAppend.hAppend va_W va_W va_W _ ([((ma 10), .inl (X.2.1, 150, .inl fd))]) ([((ma 17), .inl (X.2.1, 3, .inl f_2c))])))) H locs := G
  obtain ⟨⟨hz0_2, hz1_2, hz2_2⟩, hr_2⟩ := hq_2
  rcases hr_2 with rfl | ⟨rfl, hv_2, ha_2, hb_2⟩
  · refine lv_if_ne (tgt := 17) zx zb dX11_takesGo_12 (by decide) (fun c_3 => absurd (by decide) c_3) (fun c_3 => ?_)
    refine lv_iconst (v := 0) zx zb dX11_takesGo_15 (by decide) ?_
    exact e_int S zr zlk (by decide) G (t_2a, v_2b, f_2c, fw) [1, 2, 3, 0] rfl rfl (Or.inr rfl) (⟨hI_t_2a, hI_fw, ⟨⟨by first | omega | (dsimp only; omega), by first | omega | (dsimp only; omega), by assumption⟩, Or.inl rfl⟩⟩) dX11_takesGo_16
  · refine lv_if_ne (tgt := 17) zx zb dX11_takesGo_12 (by decide) (fun c_4 => ?_) (fun c_4 => absurd c_4 (by decide))
    refine lv_aload_n zx zb dX11_takesGo_17 rfl (lv_at hl 0 rfl) ?_
    refine r_get (C := RX11) (T := TX11) (N := 18) (ci := 9) (v := .ref (ma 16)) S in_X11_takesGo_X11 G 1 rfl rfl 16 (by decide) lk_X11_takesGo_42 rfl dX11_takesGo_18 ?_
    refine lv_aload_n zx zb dX11_takesGo_21 rfl (lv_at hl 0 rfl) ?_
    refine r_get (C := RX11) (T := TX11) (N := 18) (ci := 9) (v := .ref (ma 17)) S in_X11_takesGo_X11 G 1 rfl rfl 17 (by decide) lk_X11_takesGo_45 rfl dX11_takesGo_22 ?_
    refine lv_iconst (v := 0) zx zb dX11_takesGo_25 (by decide) ?_
    obtain ⟨iv, ⟨hia, hib⟩, eiv⟩ := k_natR (a := 1) (b := 99) hv_2 rfl rfl (by decide) (by decide)
    refine r_iald (v := nI iv) S G 3 rfl (k_vp (by decide)) eiv dX11_takesGo_26 ?_
    refine b_wv (cells' := 0) (slots' := 0) (wr := @HAppend.hAppend va_W va_W va_W _ (mW m0 ma la lb n t_2a v_2b) (@HAppend.hAppend va_W va_W va_W _ ([((ma 10), .inl (X.2.1, 150, .inl fd))]) ([((ma 17), .inl (X.2.1, 3, .inl f_2c))]))) G rfl rfl [0] [1, 2, 3] rfl rfl rfl rfl (n_S (As := [.ref (ma 16), .int (nI iv)]) (rest := []) S G (m_goTicks l X (ma 16) 123 fw bw iv hI_fw (by omega) (by omega) (by omega) H.size) gX11_takesGo_X11_goTicks rfl rfl rfl hdS_X11_goTicks ⟨Nat.le_of_ble_eq_true rfl, Nat.le_of_ble_eq_true rfl⟩ [0] rfl rfl rfl hl.1 (Nat.le_of_ble_eq_true rfl) dX11_takesGo_27 ⟨Nat.le_of_ble_eq_true rfl, Nat.le_of_ble_eq_true rfl⟩) (fun u_5 H locs hp_5 G => ?_)
    obtain ⟨f_5, rfl⟩ : ∃ z, z = u_5 := ⟨_, rfl⟩
    obtain ⟨hI_f_5, hq_5⟩ := hp_5
    have hO_f_5 := hI_f_5.2
    obtain ⟨hm0_f_5, hm1_f_5, hm2_f_5, hm3_f_5, hm4_f_5⟩ := hO_f_5
    have G : wd X (va_A (@HAppend.hAppend va_W va_W va_W _ (mW m0 ma la lb n t v) (@HAppend.hAppend va_W va_W va_W _ ([((ma 10), .inl (X.2.1, 150, .inl fd))]) (@HAppend.hAppend va_W va_W va_W _ ([((ma 17), .inl (X.2.1, 3, .inl fv))]) ([((ma 16), .inl (X.2.1, 123, .inl fw))])))) sz) (va_A (@HAppend.hAppend va_W va_W va_W _ (mW m0 ma la lb n t v) (@HAppend.hAppend va_W va_W va_W _ ([((ma 10), .inl (X.2.1, 150, .inl fd))]) (@HAppend.hAppend va_W va_W va_W _ ([((ma 17), .inl (X.2.1, 3, .inl fv))]) ([((ma 16), .inl (X.2.1, 123, .inl fw))])))) sz) s (@HAppend.hAppend va_W va_W va_W _ (mW m0 ma la lb n t_2a v_2b) (@HAppend.hAppend va_W va_W va_W _ ([((ma 10), .inl (X.2.1, 150, .inl fd))]) (@HAppend.hAppend va_W va_W va_W _ ([((ma 17), .inl (X.2.1, 3, .inl f_2c))]) ([((ma 16), .inl (X.2.1, 123, .inl f_5))])))) H locs := G
    refine lv_iconst (v := 1) zx zb dX11_takesGo_30 (by decide) ?_
    exact e_int S zr zlk (by decide) G (t_2a, v_2b, f_2c, f_5) [0, 1, 2, 3] rfl rfl (Or.inr rfl) (⟨hI_t_2a, hI_f_5, ⟨⟨by first | omega | (dsimp only; omega), by first | omega | (dsimp only; omega), by assumption⟩, Or.inr rfl⟩⟩) dX11_takesGo_31
theorem hdV_X11_spells : yX11_spells.cls = RX11 ∧ yX11_spells.cls ≠ "java/lang/invoke/MethodHandle" ∧ yX11_spells.cls ≠ "java/lang/invoke/VarHandle" ∧ (parseMethodDescriptor yX11_spells.desc).map (fun d => d.parameters.length) = some 7 := by decide +kernel
theorem hdV_X11_takesGo : yX11_takesGo.cls = RX11 ∧ yX11_takesGo.cls ≠ "java/lang/invoke/MethodHandle" ∧ yX11_takesGo.cls ≠ "java/lang/invoke/VarHandle" ∧ (parseMethodDescriptor yX11_takesGo.desc).map (fun d => d.parameters.length) = some 0 := by decide +kernel
theorem hdV_X11_takesStart : yX11_takesStart.cls = RX11 ∧ yX11_takesStart.cls ≠ "java/lang/invoke/MethodHandle" ∧ yX11_takesStart.cls ≠ "java/lang/invoke/VarHandle" ∧ (parseMethodDescriptor yX11_takesStart.desc).map (fun d => d.parameters.length) = some 0 := by decide +kernel
theorem hdV_X11_takesSpeed : yX11_takesSpeed.cls = RX11 ∧ yX11_takesSpeed.cls ≠ "java/lang/invoke/MethodHandle" ∧ yX11_takesSpeed.cls ≠ "java/lang/invoke/VarHandle" ∧ (parseMethodDescriptor yX11_takesSpeed.desc).map (fun d => d.parameters.length) = some 0 := by decide +kernel
theorem hdV_X11_takesOne : yX11_takesOne.cls = RX11 ∧ yX11_takesOne.cls ≠ "java/lang/invoke/MethodHandle" ∧ yX11_takesOne.cls ≠ "java/lang/invoke/VarHandle" ∧ (parseMethodDescriptor yX11_takesOne.desc).map (fun d => d.parameters.length) = some 0 := by decide +kernel
set_option maxHeartbeats 4000000 in
set_option maxRecDepth 100000 in
/-- takesItem -/
theorem m_takesItem (l : Launch) (X : EX) (m0 : Nat) (ma : Nat → Nat) (la : Int64) (lb : Int64) (n : Nat) (t : Nat → Nat) (v : Nat → Int32) (fd : Nat → Int32) (fv : Nat → Int32) (fw : Nat → Int32) (bw : Nat → Nat) (hI_n : n ≤ 150) (hI_t : InT t) (hI_fw : InM fw bw) (hT : t 0 + t 1 ≤ n ∧ (v 0 = 0 ∨ 1 ≤ t 1)) (sz : Nat) : Met l yX11_takesItem wsX11_takesItem ({ frames := 6, cells := 0, slots := 0, locals := 135 } : Room) (pE X [.ref m0] (@HAppend.hAppend va_W va_W va_W _ (mW m0 ma la lb n t v) (@HAppend.hAppend va_W va_W va_W _ ([((ma 10), .inl (X.2.1, 150, .inl fd))]) (@HAppend.hAppend va_W va_W va_W _ ([((ma 17), .inl (X.2.1, 3, .inl fv))]) ([((ma 16), .inl (X.2.1, 123, .inl fw))])))) sz) (qI (fun (r : Int32) (u : (Nat → Nat) × (Nat → Int32) × (Nat → Int32) × (Nat → Int32) × (Nat → Nat)) => InT u.1 ∧ InM u.2.2.2.1 u.2.2.2.2 ∧ ((t 0 ≤ u.1 0 ∧ u.1 0 + u.1 1 ≤ n ∧ (u.2.1 0 = 0 ∨ 1 ≤ u.1 1)) ∧ (r = 0 ∨ r = 1))) X (fun (u : (Nat → Nat) × (Nat → Int32) × (Nat → Int32) × (Nat → Int32) × (Nat → Nat)) => @HAppend.hAppend va_W va_W va_W _ (mW m0 ma la lb n u.1 u.2.1) (@HAppend.hAppend va_W va_W va_W _ ([((ma 10), .inl (X.2.1, 150, .inl fd))]) (@HAppend.hAppend va_W va_W va_W _ ([((ma 17), .inl (X.2.1, 3, .inl u.2.2.1))]) ([((ma 16), .inl (X.2.1, 123, .inl u.2.2.2.1))])))) (@HAppend.hAppend va_W va_W va_W _ (mW m0 ma la lb n t v) (@HAppend.hAppend va_W va_W va_W _ ([((ma 10), .inl (X.2.1, 150, .inl fd))]) (@HAppend.hAppend va_W va_W va_W _ ([((ma 17), .inl (X.2.1, 3, .inl fv))]) ([((ma 16), .inl (X.2.1, 123, .inl fw))])))) sz) 0 0 (va_A (@HAppend.hAppend va_W va_W va_W _ (mW m0 ma la lb n t v) (@HAppend.hAppend va_W va_W va_W _ ([((ma 10), .inl (X.2.1, 150, .inl fd))]) (@HAppend.hAppend va_W va_W va_W _ ([((ma 17), .inl (X.2.1, 3, .inl fv))]) ([((ma 16), .inl (X.2.1, 123, .inl fw))])))) sz) := by
  refine mk_met (B := (va_A (@HAppend.hAppend va_W va_W va_W _ (mW m0 ma la lb n t v) (@HAppend.hAppend va_W va_W va_W _ ([((ma 10), .inl (X.2.1, 150, .inl fd))]) (@HAppend.hAppend va_W va_W va_W _ ([((ma 17), .inl (X.2.1, 3, .inl fv))]) ([((ma 16), .inl (X.2.1, 123, .inl fw))])))) sz)) (A := (va_A (@HAppend.hAppend va_W va_W va_W _ (mW m0 ma la lb n t v) (@HAppend.hAppend va_W va_W va_W _ ([((ma 10), .inl (X.2.1, 150, .inl fd))]) (@HAppend.hAppend va_W va_W va_W _ ([((ma 17), .inl (X.2.1, 3, .inl fv))]) ([((ma 16), .inl (X.2.1, 123, .inl fw))])))) sz)) (cc := cX11_takesItem) (maxL := 1) (ret := (some .boolean)) (by decide) rfl (Nat.le_of_ble_eq_true rfl) k_w k_a (fun p e s m below meth c S zr zlk znm zsz G ls hl => ?_)
  have S : CallFix p m c cX11_takesItem 1 s _ wsX11_takesItem RX11 := S
  have zx := S.1
  have zb := S.2.1
  have hl : lv_has ls 1 [(0, .ref m0)] := hl
  have hO_t := hI_t
  obtain ⟨ht0_t, ht1_t⟩ := hO_t
  have hO_fw := hI_fw.2
  obtain ⟨hm0_fw, hm1_fw, hm2_fw, hm3_fw, hm4_fw⟩ := hO_fw
  obtain ⟨hT1, hT2⟩ := hT
  refine lv_aload_n zx zb dX11_takesItem_0 rfl (lv_at hl 0 rfl) ?_
  refine lv_iconst (v := 3) zx zb dX11_takesItem_1 (by decide) ?_
  refine lv_bipush (v := 111) zx zb dX11_takesItem_2 (by decide) ?_
  refine lv_bipush (v := 110) zx zb dX11_takesItem_4 (by decide) ?_
  refine lv_bipush (v := 101) zx zb dX11_takesItem_6 (by decide) ?_
  refine lv_iconst (v := 0) zx zb dX11_takesItem_8 (by decide) ?_
  refine lv_iconst (v := 0) zx zb dX11_takesItem_9 (by decide) ?_
  refine lv_iconst (v := 0) zx zb dX11_takesItem_10 (by decide) ?_
  refine o_ri (cells' := 0) (slots' := 0) G rfl rfl (n_V (As := [.int 3, .int 111, .int 110, .int 101, .int 0, .int 0, .int 0]) (rest := []) (C := RX11) (T := TX11) (N := 18) (ci := 9) S G (m_spells l X m0 ma la lb n t v fd 3 111 110 101 0 0 0 hI_n hI_t ⟨by omega, by first | assumption | omega⟩ (by omega) s.heap.size) gX11_takesItem_X11_spells rfl rfl rfl hdV_X11_spells ⟨Nat.le_of_ble_eq_true rfl, Nat.le_of_ble_eq_true rfl⟩ [0, 1] rfl rfl 0 rfl rfl rfl hl.1 (Nat.le_of_ble_eq_true rfl) dX11_takesItem_11 ⟨Nat.le_of_ble_eq_true rfl, Nat.le_of_ble_eq_true rfl⟩) (fun r_1 u_1 H locs hp_1 G => ?_)
  have G : wd X (va_A (@HAppend.hAppend va_W va_W va_W _ (mW m0 ma la lb n t v) (@HAppend.hAppend va_W va_W va_W _ ([((ma 10), .inl (X.2.1, 150, .inl fd))]) (@HAppend.hAppend va_W va_W va_W _ ([((ma 17), .inl (X.2.1, 3, .inl fv))]) ([((ma 16), .inl (X.2.1, 123, .inl fw))])))) sz) (va_A (@HAppend.hAppend va_W va_W va_W _ (mW m0 ma la lb n t v) (@HAppend.hAppend va_W va_W va_W _ ([((ma 10), .inl (X.2.1, 150, .inl fd))]) (@HAppend.hAppend va_W va_W va_W _ ([((ma 17), .inl (X.2.1, 3, .inl fv))]) ([((ma 16), .inl (X.2.1, 123, .inl fw))])))) sz) s (@HAppend.hAppend va_W va_W va_W _ (mW m0 ma la lb n t v) (@HAppend.hAppend va_W va_W va_W _ ([((ma 10), .inl (X.2.1, 150, .inl fd))]) (@HAppend.hAppend va_W va_W va_W _ ([((ma 17), .inl (X.2.1, 3, .inl fv))]) ([((ma 16), .inl (X.2.1, 123, .inl fw))])))) H locs := G
  rcases hp_1 with rfl | rfl
  · refine lv_if_eq (tgt := 22) zx zb dX11_takesItem_14 (by decide) (fun c_2 => ?_) (fun c_2 => absurd (by decide) c_2)
    refine lv_aload_n zx zb dX11_takesItem_22 rfl (lv_at hl 0 rfl) ?_
    refine lv_iconst (v := 5) zx zb dX11_takesItem_23 (by decide) ?_
    refine lv_bipush (v := 115) zx zb dX11_takesItem_24 (by decide) ?_
    refine lv_bipush (v := 112) zx zb dX11_takesItem_26 (by decide) ?_
    refine lv_bipush (v := 101) zx zb dX11_takesItem_28 (by decide) ?_
    refine lv_bipush (v := 101) zx zb dX11_takesItem_30 (by decide) ?_
    refine lv_bipush (v := 100) zx zb dX11_takesItem_32 (by decide) ?_
    refine lv_iconst (v := 0) zx zb dX11_takesItem_34 (by decide) ?_
    refine o_ri (cells' := 0) (slots' := 0) G rfl rfl (n_V (As := [.int 5, .int 115, .int 112, .int 101, .int 101, .int 100, .int 0]) (rest := []) (C := RX11) (T := TX11) (N := 18) (ci := 9) S G (m_spells l X m0 ma la lb n t v fd 5 115 112 101 101 100 0 hI_n hI_t ⟨by omega, by first | assumption | omega⟩ (by omega) H.size) gX11_takesItem_X11_spells rfl rfl rfl hdV_X11_spells ⟨Nat.le_of_ble_eq_true rfl, Nat.le_of_ble_eq_true rfl⟩ [0, 1] rfl rfl 0 rfl rfl rfl hl.1 (Nat.le_of_ble_eq_true rfl) dX11_takesItem_35 ⟨Nat.le_of_ble_eq_true rfl, Nat.le_of_ble_eq_true rfl⟩) (fun r_3 u_3 H locs hp_3 G => ?_)
    have G : wd X (va_A (@HAppend.hAppend va_W va_W va_W _ (mW m0 ma la lb n t v) (@HAppend.hAppend va_W va_W va_W _ ([((ma 10), .inl (X.2.1, 150, .inl fd))]) (@HAppend.hAppend va_W va_W va_W _ ([((ma 17), .inl (X.2.1, 3, .inl fv))]) ([((ma 16), .inl (X.2.1, 123, .inl fw))])))) sz) (va_A (@HAppend.hAppend va_W va_W va_W _ (mW m0 ma la lb n t v) (@HAppend.hAppend va_W va_W va_W _ ([((ma 10), .inl (X.2.1, 150, .inl fd))]) (@HAppend.hAppend va_W va_W va_W _ ([((ma 17), .inl (X.2.1, 3, .inl fv))]) ([((ma 16), .inl (X.2.1, 123, .inl fw))])))) sz) s (@HAppend.hAppend va_W va_W va_W _ (mW m0 ma la lb n t v) (@HAppend.hAppend va_W va_W va_W _ ([((ma 10), .inl (X.2.1, 150, .inl fd))]) (@HAppend.hAppend va_W va_W va_W _ ([((ma 17), .inl (X.2.1, 3, .inl fv))]) ([((ma 16), .inl (X.2.1, 123, .inl fw))])))) H locs := G
    rcases hp_3 with rfl | rfl
    · refine lv_if_eq (tgt := 46) zx zb dX11_takesItem_38 (by decide) (fun c_4 => ?_) (fun c_4 => absurd (by decide) c_4)
      refine lv_aload_n zx zb dX11_takesItem_46 rfl (lv_at hl 0 rfl) ?_
      refine lv_iconst (v := 5) zx zb dX11_takesItem_47 (by decide) ?_
      refine lv_bipush (v := 115) zx zb dX11_takesItem_48 (by decide) ?_
      refine lv_bipush (v := 116) zx zb dX11_takesItem_50 (by decide) ?_
      refine lv_bipush (v := 97) zx zb dX11_takesItem_52 (by decide) ?_
      refine lv_bipush (v := 114) zx zb dX11_takesItem_54 (by decide) ?_
      refine lv_bipush (v := 116) zx zb dX11_takesItem_56 (by decide) ?_
      refine lv_iconst (v := 0) zx zb dX11_takesItem_58 (by decide) ?_
      refine o_ri (cells' := 0) (slots' := 0) G rfl rfl (n_V (As := [.int 5, .int 115, .int 116, .int 97, .int 114, .int 116, .int 0]) (rest := []) (C := RX11) (T := TX11) (N := 18) (ci := 9) S G (m_spells l X m0 ma la lb n t v fd 5 115 116 97 114 116 0 hI_n hI_t ⟨by omega, by first | assumption | omega⟩ (by omega) H.size) gX11_takesItem_X11_spells rfl rfl rfl hdV_X11_spells ⟨Nat.le_of_ble_eq_true rfl, Nat.le_of_ble_eq_true rfl⟩ [0, 1] rfl rfl 0 rfl rfl rfl hl.1 (Nat.le_of_ble_eq_true rfl) dX11_takesItem_59 ⟨Nat.le_of_ble_eq_true rfl, Nat.le_of_ble_eq_true rfl⟩) (fun r_5 u_5 H locs hp_5 G => ?_)
      have G : wd X (va_A (@HAppend.hAppend va_W va_W va_W _ (mW m0 ma la lb n t v) (@HAppend.hAppend va_W va_W va_W _ ([((ma 10), .inl (X.2.1, 150, .inl fd))]) (@HAppend.hAppend va_W va_W va_W _ ([((ma 17), .inl (X.2.1, 3, .inl fv))]) ([((ma 16), .inl (X.2.1, 123, .inl fw))])))) sz) (va_A (@HAppend.hAppend va_W va_W va_W _ (mW m0 ma la lb n t v) (@HAppend.hAppend va_W va_W va_W _ ([((ma 10), .inl (X.2.1, 150, .inl fd))]) (@HAppend.hAppend va_W va_W va_W _ ([((ma 17), .inl (X.2.1, 3, .inl fv))]) ([((ma 16), .inl (X.2.1, 123, .inl fw))])))) sz) s (@HAppend.hAppend va_W va_W va_W _ (mW m0 ma la lb n t v) (@HAppend.hAppend va_W va_W va_W _ ([((ma 10), .inl (X.2.1, 150, .inl fd))]) (@HAppend.hAppend va_W va_W va_W _ ([((ma 17), .inl (X.2.1, 3, .inl fv))]) ([((ma 16), .inl (X.2.1, 123, .inl fw))])))) H locs := G
      rcases hp_5 with rfl | rfl
      · refine lv_if_eq (tgt := 70) zx zb dX11_takesItem_62 (by decide) (fun c_6 => ?_) (fun c_6 => absurd (by decide) c_6)
        refine lv_aload_n zx zb dX11_takesItem_70 rfl (lv_at hl 0 rfl) ?_
        refine lv_iconst (v := 2) zx zb dX11_takesItem_71 (by decide) ?_
        refine lv_bipush (v := 103) zx zb dX11_takesItem_72 (by decide) ?_
        refine lv_bipush (v := 111) zx zb dX11_takesItem_74 (by decide) ?_
        refine lv_iconst (v := 0) zx zb dX11_takesItem_76 (by decide) ?_
        refine lv_iconst (v := 0) zx zb dX11_takesItem_77 (by decide) ?_
        refine lv_iconst (v := 0) zx zb dX11_takesItem_78 (by decide) ?_
        refine lv_iconst (v := 0) zx zb dX11_takesItem_79 (by decide) ?_
        refine o_ri (cells' := 0) (slots' := 0) G rfl rfl (n_V (As := [.int 2, .int 103, .int 111, .int 0, .int 0, .int 0, .int 0]) (rest := []) (C := RX11) (T := TX11) (N := 18) (ci := 9) S G (m_spells l X m0 ma la lb n t v fd 2 103 111 0 0 0 0 hI_n hI_t ⟨by omega, by first | assumption | omega⟩ (by omega) H.size) gX11_takesItem_X11_spells rfl rfl rfl hdV_X11_spells ⟨Nat.le_of_ble_eq_true rfl, Nat.le_of_ble_eq_true rfl⟩ [0, 1] rfl rfl 0 rfl rfl rfl hl.1 (Nat.le_of_ble_eq_true rfl) dX11_takesItem_80 ⟨Nat.le_of_ble_eq_true rfl, Nat.le_of_ble_eq_true rfl⟩) (fun r_7 u_7 H locs hp_7 G => ?_)
        have G : wd X (va_A (@HAppend.hAppend va_W va_W va_W _ (mW m0 ma la lb n t v) (@HAppend.hAppend va_W va_W va_W _ ([((ma 10), .inl (X.2.1, 150, .inl fd))]) (@HAppend.hAppend va_W va_W va_W _ ([((ma 17), .inl (X.2.1, 3, .inl fv))]) ([((ma 16), .inl (X.2.1, 123, .inl fw))])))) sz) (va_A (@HAppend.hAppend va_W va_W va_W _ (mW m0 ma la lb n t v) (@HAppend.hAppend va_W va_W va_W _ ([((ma 10), .inl (X.2.1, 150, .inl fd))]) (@HAppend.hAppend va_W va_W va_W _ ([((ma 17), .inl (X.2.1, 3, .inl fv))]) ([((ma 16), .inl (X.2.1, 123, .inl fw))])))) sz) s (@HAppend.hAppend va_W va_W va_W _ (mW m0 ma la lb n t v) (@HAppend.hAppend va_W va_W va_W _ ([((ma 10), .inl (X.2.1, 150, .inl fd))]) (@HAppend.hAppend va_W va_W va_W _ ([((ma 17), .inl (X.2.1, 3, .inl fv))]) ([((ma 16), .inl (X.2.1, 123, .inl fw))])))) H locs := G
        rcases hp_7 with rfl | rfl
        · refine lv_if_eq (tgt := 97) zx zb dX11_takesItem_83 (by decide) (fun c_8 => ?_) (fun c_8 => absurd (by decide) c_8)
          refine lv_iconst (v := 0) zx zb dX11_takesItem_97 (by decide) ?_
          exact e_int S zr zlk (by decide) G (t, v, fv, fw, bw) [0, 1, 2, 3] rfl rfl (Or.inr rfl) (⟨hI_t, hI_fw, ⟨⟨Nat.le_refl _, hT1, hT2⟩, Or.inl rfl⟩⟩) dX11_takesItem_98
        · refine lv_if_eq (tgt := 97) zx zb dX11_takesItem_83 (by decide) (fun c_9 => absurd c_9 (by decide)) (fun c_9 => ?_)
          refine lv_aload_n zx zb dX11_takesItem_86 rfl (lv_at hl 0 rfl) ?_
          refine b_wi (cells' := 0) (slots' := 0) (wr := []) G rfl rfl [0, 1, 2, 3] [] rfl rfl rfl rfl (n_V (As := []) (rest := []) (C := RX11) (T := TX11) (N := 18) (ci := 9) S G (m_takesGo l X m0 ma la lb n t v fd fv fw bw hI_n hI_t hI_fw ⟨by omega, by first | assumption | omega⟩ H.size) gX11_takesItem_X11_takesGo rfl rfl rfl hdV_X11_takesGo ⟨Nat.le_of_ble_eq_true rfl, Nat.le_of_ble_eq_true rfl⟩ [0, 1, 2, 3] rfl rfl 0 rfl rfl rfl hl.1 (Nat.le_of_ble_eq_true rfl) dX11_takesItem_87 ⟨Nat.le_of_ble_eq_true rfl, Nat.le_of_ble_eq_true rfl⟩) (fun r_10 u_10 H locs hp_10 G => ?_)
          obtain ⟨t_10a, v_10b, f_10c, f_10d⟩ := u_10
          try dsimp only at hp_10
          obtain ⟨hI_t_10a, hI_f_10d, hq_10⟩ := hp_10
          have hO_t_10a := hI_t_10a
          obtain ⟨ht0_t_10a, ht1_t_10a⟩ := hO_t_10a
          have hO_f_10d := hI_f_10d.2
          obtain ⟨hm0_f_10d, hm1_f_10d, hm2_f_10d, hm3_f_10d, hm4_f_10d⟩ := hO_f_10d
          have G : wd X (va_A (@HAppend.hAppend va_W va_W va_W _ (mW m0 ma la lb n t v) (@HAppend.hAppend va_W va_W va_W _ ([((ma 10), .inl (X.2.1, 150, .inl fd))]) (@HAppend.hAppend va_W va_W va_W _ ([((ma 17), .inl (X.2.1, 3, .inl fv))]) ([((ma 16), .inl (X.2.1, 123, .inl fw))])))) sz) (va_A (@HAppend.hAppend va_W va_W va_W _ (mW m0 ma la lb n t v) (@HAppend.hAppend va_W va_W va_W _ ([((ma 10), .inl (X.2.1, 150, .inl fd))]) (@HAppend.hAppend va_W va_W va_W _ ([((ma 17), .inl (X.2.1, 3, .inl fv))]) ([((ma 16), .inl (X.2.1, 123, .inl fw))])))) sz) s (@HAppend.hAppend va_W va_W va_W _ (mW m0 ma la lb n t_10a v_10b) (@HAppend.hAppend va_W va_W va_W _ ([((ma 10), .inl (X.2.1, 150, .inl fd))]) (@HAppend.hAppend va_W va_W va_W _ ([((ma 17), .inl (X.2.1, 3, .inl f_10c))]) ([((ma 16), .inl (X.2.1, 123, .inl f_10d))])))) H locs := G
          obtain ⟨⟨hz0_10, hz1_10, hz2_10⟩, hr_10⟩ := hq_10
          rcases hr_10 with rfl | rfl
          · refine lv_if_eq (tgt := 97) zx zb dX11_takesItem_90 (by decide) (fun c_11 => ?_) (fun c_11 => absurd (by decide) c_11)
            refine lv_iconst (v := 0) zx zb dX11_takesItem_97 (by decide) ?_
            exact e_int S zr zlk (by decide) G (t_10a, v_10b, f_10c, f_10d, bw) [0, 1, 2, 3] rfl rfl (Or.inr rfl) (⟨hI_t_10a, hI_f_10d, ⟨⟨by first | omega | (dsimp only; omega), by first | omega | (dsimp only; omega), by assumption⟩, Or.inl rfl⟩⟩) dX11_takesItem_98
          · refine lv_if_eq (tgt := 97) zx zb dX11_takesItem_90 (by decide) (fun c_12 => absurd c_12 (by decide)) (fun c_12 => ?_)
            refine lv_iconst (v := 1) zx zb dX11_takesItem_93 (by decide) ?_
            refine lv_goto (tgt := 98) zx zb dX11_takesItem_94 (by decide) ?_
            exact e_int S zr zlk (by decide) G (t_10a, v_10b, f_10c, f_10d, bw) [0, 1, 2, 3] rfl rfl (Or.inr rfl) (⟨hI_t_10a, hI_f_10d, ⟨⟨by first | omega | (dsimp only; omega), by first | omega | (dsimp only; omega), by assumption⟩, Or.inr rfl⟩⟩) dX11_takesItem_98
      · refine lv_if_eq (tgt := 70) zx zb dX11_takesItem_62 (by decide) (fun c_13 => absurd c_13 (by decide)) (fun c_13 => ?_)
        refine lv_aload_n zx zb dX11_takesItem_65 rfl (lv_at hl 0 rfl) ?_
        refine b_wi (cells' := 0) (slots' := 0) (wr := []) G rfl rfl [0, 1, 2, 3] [] rfl rfl rfl rfl (n_V (As := []) (rest := []) (C := RX11) (T := TX11) (N := 18) (ci := 9) S G (m_takesStart l X m0 ma la lb n t v fd fv fw bw hI_n hI_t hI_fw ⟨by omega, by first | assumption | omega⟩ H.size) gX11_takesItem_X11_takesStart rfl rfl rfl hdV_X11_takesStart ⟨Nat.le_of_ble_eq_true rfl, Nat.le_of_ble_eq_true rfl⟩ [0, 1, 2, 3] rfl rfl 0 rfl rfl rfl hl.1 (Nat.le_of_ble_eq_true rfl) dX11_takesItem_66 ⟨Nat.le_of_ble_eq_true rfl, Nat.le_of_ble_eq_true rfl⟩) (fun r_14 u_14 H locs hp_14 G => ?_)
        obtain ⟨t_14a, v_14b, f_14c, f_14d⟩ := u_14
        try dsimp only at hp_14
        obtain ⟨hI_t_14a, hI_f_14d, hq_14⟩ := hp_14
        have hO_t_14a := hI_t_14a
        obtain ⟨ht0_t_14a, ht1_t_14a⟩ := hO_t_14a
        have hO_f_14d := hI_f_14d.2
        obtain ⟨hm0_f_14d, hm1_f_14d, hm2_f_14d, hm3_f_14d, hm4_f_14d⟩ := hO_f_14d
        have G : wd X (va_A (@HAppend.hAppend va_W va_W va_W _ (mW m0 ma la lb n t v) (@HAppend.hAppend va_W va_W va_W _ ([((ma 10), .inl (X.2.1, 150, .inl fd))]) (@HAppend.hAppend va_W va_W va_W _ ([((ma 17), .inl (X.2.1, 3, .inl fv))]) ([((ma 16), .inl (X.2.1, 123, .inl fw))])))) sz) (va_A (@HAppend.hAppend va_W va_W va_W _ (mW m0 ma la lb n t v) (@HAppend.hAppend va_W va_W va_W _ ([((ma 10), .inl (X.2.1, 150, .inl fd))]) (@HAppend.hAppend va_W va_W va_W _ ([((ma 17), .inl (X.2.1, 3, .inl fv))]) ([((ma 16), .inl (X.2.1, 123, .inl fw))])))) sz) s (@HAppend.hAppend va_W va_W va_W _ (mW m0 ma la lb n t_14a v_14b) (@HAppend.hAppend va_W va_W va_W _ ([((ma 10), .inl (X.2.1, 150, .inl fd))]) (@HAppend.hAppend va_W va_W va_W _ ([((ma 17), .inl (X.2.1, 3, .inl f_14c))]) ([((ma 16), .inl (X.2.1, 123, .inl f_14d))])))) H locs := G
        obtain ⟨⟨hz0_14, hz1_14, hz2_14⟩, hr_14⟩ := hq_14
        rcases hr_14 with rfl | rfl
        · exact e_int S zr zlk (by decide) G (t_14a, v_14b, f_14c, f_14d, bw) [0, 1, 2, 3] rfl rfl (Or.inr rfl) (⟨hI_t_14a, hI_f_14d, ⟨⟨by first | omega | (dsimp only; omega), by first | omega | (dsimp only; omega), by assumption⟩, Or.inl rfl⟩⟩) dX11_takesItem_69
        · exact e_int S zr zlk (by decide) G (t_14a, v_14b, f_14c, f_14d, bw) [0, 1, 2, 3] rfl rfl (Or.inr rfl) (⟨hI_t_14a, hI_f_14d, ⟨⟨by first | omega | (dsimp only; omega), by first | omega | (dsimp only; omega), by assumption⟩, Or.inr rfl⟩⟩) dX11_takesItem_69
    · refine lv_if_eq (tgt := 46) zx zb dX11_takesItem_38 (by decide) (fun c_15 => absurd c_15 (by decide)) (fun c_15 => ?_)
      refine lv_aload_n zx zb dX11_takesItem_41 rfl (lv_at hl 0 rfl) ?_
      refine b_wi (cells' := 0) (slots' := 0) (wr := []) G rfl rfl [0, 1, 2, 3] [] rfl rfl rfl rfl (n_V (As := []) (rest := []) (C := RX11) (T := TX11) (N := 18) (ci := 9) S G (m_takesSpeed l X m0 ma la lb n t v fd fv fw bw hI_n hI_t hI_fw ⟨by omega, by first | assumption | omega⟩ H.size) gX11_takesItem_X11_takesSpeed rfl rfl rfl hdV_X11_takesSpeed ⟨Nat.le_of_ble_eq_true rfl, Nat.le_of_ble_eq_true rfl⟩ [0, 1, 2, 3] rfl rfl 0 rfl rfl rfl hl.1 (Nat.le_of_ble_eq_true rfl) dX11_takesItem_42 ⟨Nat.le_of_ble_eq_true rfl, Nat.le_of_ble_eq_true rfl⟩) (fun r_16 u_16 H locs hp_16 G => ?_)
      obtain ⟨t_16a, v_16b, f_16c, f_16d⟩ := u_16
      try dsimp only at hp_16
      obtain ⟨hI_t_16a, hI_f_16d, hq_16⟩ := hp_16
      have hO_t_16a := hI_t_16a
      obtain ⟨ht0_t_16a, ht1_t_16a⟩ := hO_t_16a
      have hO_f_16d := hI_f_16d.2
      obtain ⟨hm0_f_16d, hm1_f_16d, hm2_f_16d, hm3_f_16d, hm4_f_16d⟩ := hO_f_16d
      have G : wd X (va_A (@HAppend.hAppend va_W va_W va_W _ (mW m0 ma la lb n t v) (@HAppend.hAppend va_W va_W va_W _ ([((ma 10), .inl (X.2.1, 150, .inl fd))]) (@HAppend.hAppend va_W va_W va_W _ ([((ma 17), .inl (X.2.1, 3, .inl fv))]) ([((ma 16), .inl (X.2.1, 123, .inl fw))])))) sz) (va_A (@HAppend.hAppend va_W va_W va_W _ (mW m0 ma la lb n t v) (@HAppend.hAppend va_W va_W va_W _ ([((ma 10), .inl (X.2.1, 150, .inl fd))]) (@HAppend.hAppend va_W va_W va_W _ ([((ma 17), .inl (X.2.1, 3, .inl fv))]) ([((ma 16), .inl (X.2.1, 123, .inl fw))])))) sz) s (@HAppend.hAppend va_W va_W va_W _ (mW m0 ma la lb n t_16a v_16b) (@HAppend.hAppend va_W va_W va_W _ ([((ma 10), .inl (X.2.1, 150, .inl fd))]) (@HAppend.hAppend va_W va_W va_W _ ([((ma 17), .inl (X.2.1, 3, .inl f_16c))]) ([((ma 16), .inl (X.2.1, 123, .inl f_16d))])))) H locs := G
      obtain ⟨⟨hz0_16, hz1_16, hz2_16⟩, hr_16⟩ := hq_16
      rcases hr_16 with rfl | rfl
      · exact e_int S zr zlk (by decide) G (t_16a, v_16b, f_16c, f_16d, bw) [0, 1, 2, 3] rfl rfl (Or.inr rfl) (⟨hI_t_16a, hI_f_16d, ⟨⟨by first | omega | (dsimp only; omega), by first | omega | (dsimp only; omega), by assumption⟩, Or.inl rfl⟩⟩) dX11_takesItem_45
      · exact e_int S zr zlk (by decide) G (t_16a, v_16b, f_16c, f_16d, bw) [0, 1, 2, 3] rfl rfl (Or.inr rfl) (⟨hI_t_16a, hI_f_16d, ⟨⟨by first | omega | (dsimp only; omega), by first | omega | (dsimp only; omega), by assumption⟩, Or.inr rfl⟩⟩) dX11_takesItem_45
  · refine lv_if_eq (tgt := 22) zx zb dX11_takesItem_14 (by decide) (fun c_17 => absurd c_17 (by decide)) (fun c_17 => ?_)
    refine lv_aload_n zx zb dX11_takesItem_17 rfl (lv_at hl 0 rfl) ?_
    refine b_wi (cells' := 0) (slots' := 0) (wr := []) G rfl rfl [0, 1, 2, 3] [] rfl rfl rfl rfl (n_V (As := []) (rest := []) (C := RX11) (T := TX11) (N := 18) (ci := 9) S G (m_takesOne l X m0 ma la lb n t v fd fv fw bw hI_n hI_t hI_fw ⟨by omega, by first | assumption | omega⟩ H.size) gX11_takesItem_X11_takesOne rfl rfl rfl hdV_X11_takesOne ⟨Nat.le_of_ble_eq_true rfl, Nat.le_of_ble_eq_true rfl⟩ [0, 1, 2, 3] rfl rfl 0 rfl rfl rfl hl.1 (Nat.le_of_ble_eq_true rfl) dX11_takesItem_18 ⟨Nat.le_of_ble_eq_true rfl, Nat.le_of_ble_eq_true rfl⟩) (fun r_18 u_18 H locs hp_18 G => ?_)
    obtain ⟨t_18a, v_18b, f_18c, f_18d, b_18e⟩ := u_18
    try dsimp only at hp_18
    obtain ⟨hI_t_18a, hI_f_18d, hq_18⟩ := hp_18
    have hO_t_18a := hI_t_18a
    obtain ⟨ht0_t_18a, ht1_t_18a⟩ := hO_t_18a
    have hO_f_18d := hI_f_18d.2
    obtain ⟨hm0_f_18d, hm1_f_18d, hm2_f_18d, hm3_f_18d, hm4_f_18d⟩ := hO_f_18d
    have G : wd X (va_A (@HAppend.hAppend va_W va_W va_W _ (mW m0 ma la lb n t v) (@HAppend.hAppend va_W va_W va_W _ ([((ma 10), .inl (X.2.1, 150, .inl fd))]) (@HAppend.hAppend va_W va_W va_W _ ([((ma 17), .inl (X.2.1, 3, .inl fv))]) ([((ma 16), .inl (X.2.1, 123, .inl fw))])))) sz) (va_A (@HAppend.hAppend va_W va_W va_W _ (mW m0 ma la lb n t v) (@HAppend.hAppend va_W va_W va_W _ ([((ma 10), .inl (X.2.1, 150, .inl fd))]) (@HAppend.hAppend va_W va_W va_W _ ([((ma 17), .inl (X.2.1, 3, .inl fv))]) ([((ma 16), .inl (X.2.1, 123, .inl fw))])))) sz) s (@HAppend.hAppend va_W va_W va_W _ (mW m0 ma la lb n t_18a v_18b) (@HAppend.hAppend va_W va_W va_W _ ([((ma 10), .inl (X.2.1, 150, .inl fd))]) (@HAppend.hAppend va_W va_W va_W _ ([((ma 17), .inl (X.2.1, 3, .inl f_18c))]) ([((ma 16), .inl (X.2.1, 123, .inl f_18d))])))) H locs := G
    obtain ⟨⟨hz0_18, hz1_18, hz2_18⟩, hr_18⟩ := hq_18
    rcases hr_18 with rfl | rfl
    · exact e_int S zr zlk (by decide) G (t_18a, v_18b, f_18c, f_18d, b_18e) [0, 1, 2, 3] rfl rfl (Or.inr rfl) (⟨hI_t_18a, hI_f_18d, ⟨⟨by first | omega | (dsimp only; omega), by first | omega | (dsimp only; omega), by assumption⟩, Or.inl rfl⟩⟩) dX11_takesItem_21
    · exact e_int S zr zlk (by decide) G (t_18a, v_18b, f_18c, f_18d, b_18e) [0, 1, 2, 3] rfl rfl (Or.inr rfl) (⟨hI_t_18a, hI_f_18d, ⟨⟨by first | omega | (dsimp only; omega), by first | omega | (dsimp only; omega), by assumption⟩, Or.inr rfl⟩⟩) dX11_takesItem_21
