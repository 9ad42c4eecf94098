set_option maxRecDepth 20000 in
theorem ggX11_ask_X11_bad : GoodIn wsX11_ask wsX11_bad := goodIn_r _ [19, 20, 35, 36, 37, 38, 39, 40, 41, 42, 43, 44, 45, 46, 47, 48, 49, 50, 51, 52] rfl (by decide +kernel)
set_option maxRecDepth 20000 in
theorem gX11_ask_X11_bad : GoodIn wsX11_ask (wsV RX11 68 RX11 yX11_bad wsX11_bad) := goodIn_app (goodIn_of _ (by decide +kernel)) ggX11_ask_X11_bad
set_option maxRecDepth 20000 in
theorem ggX11_ask_X11_isOne : GoodIn wsX11_ask wsX11_isOne := goodIn_r _ [7, 8, 9, 10, 6, 11, 12, 13, 14, 15, 35, 36, 37, 38, 39, 40, 41, 42, 43, 44, 45, 46, 47, 48, 49, 50, 51, 52] rfl (by decide +kernel)
set_option maxRecDepth 20000 in
theorem gX11_ask_X11_isOne : GoodIn wsX11_ask (wsV RX11 123 RX11 yX11_isOne wsX11_isOne) := goodIn_app (goodIn_of _ (by decide +kernel)) ggX11_ask_X11_isOne
set_option maxRecDepth 20000 in
theorem ggX11_ask_X11_kindsOfEgg : GoodIn wsX11_ask wsX11_kindsOfEgg := goodIn_r _ [24, 12, 25, 26, 6, 27, 35, 36, 37, 38, 39, 40, 41, 42, 43, 44, 45, 46, 47, 48, 49, 50, 51, 52] rfl (by decide +kernel)
set_option maxRecDepth 20000 in
theorem gX11_ask_X11_kindsOfEgg : GoodIn wsX11_ask (wsV RX11 171 RX11 yX11_kindsOfEgg wsX11_kindsOfEgg) := goodIn_app (goodIn_of _ (by decide +kernel)) ggX11_ask_X11_kindsOfEgg
set_option maxRecDepth 20000 in
theorem ggX11_ask_X11_mayAs : GoodIn wsX11_ask wsX11_mayAs := goodIn_r _ [27] rfl (by decide +kernel)
set_option maxRecDepth 20000 in
theorem gX11_ask_X11_mayAs : GoodIn wsX11_ask (va_wsS RX11 94 yX11_mayAs wsX11_mayAs) := goodIn_app (goodIn_of _ (by decide +kernel)) ggX11_ask_X11_mayAs
set_option maxRecDepth 20000 in
theorem ggX11_ask_X11_mostAlike : GoodIn wsX11_ask wsX11_mostAlike := goodIn_r _ [31, 2, 32, 33, 6, 34, 35, 36, 37, 38, 39, 40, 41, 42, 43, 44, 45, 46, 47, 48, 49, 50, 51, 52] rfl (by decide +kernel)
set_option maxRecDepth 20000 in
theorem gX11_ask_X11_mostAlike : GoodIn wsX11_ask (wsV RX11 165 RX11 yX11_mostAlike wsX11_mostAlike) := goodIn_app (goodIn_of _ (by decide +kernel)) ggX11_ask_X11_mostAlike
set_option maxRecDepth 20000 in
theorem ggX11_forget_X11_bad : GoodIn wsX11_forget wsX11_bad := goodIn_r _ [10, 11, 12, 13, 14, 15, 16, 17, 18, 19, 20, 21, 22, 23, 24, 25, 26, 27, 28, 29] rfl (by decide +kernel)
set_option maxRecDepth 20000 in
theorem gX11_forget_X11_bad : GoodIn wsX11_forget (wsV RX11 68 RX11 yX11_bad wsX11_bad) := goodIn_app (goodIn_of _ (by decide +kernel)) ggX11_forget_X11_bad
set_option maxRecDepth 20000 in
theorem ggX11_forget_X11_in : GoodIn wsX11_forget wsX11_in := goodIn_r _ [6] rfl (by decide +kernel)
set_option maxRecDepth 20000 in
theorem gX11_forget_X11_in : GoodIn wsX11_forget (va_wsS RX11 56 yX11_in wsX11_in) := goodIn_app (goodIn_of _ (by decide +kernel)) ggX11_forget_X11_in
set_option maxRecDepth 20000 in
theorem ggX11_is_X11_bad : GoodIn wsX11_is wsX11_bad := goodIn_r _ [24, 25, 26, 27, 28, 29, 30, 31, 32, 33, 34, 35, 36, 37, 38, 39, 40, 41, 42, 43] rfl (by decide +kernel)
set_option maxRecDepth 20000 in
theorem gX11_is_X11_bad : GoodIn wsX11_is (wsV RX11 68 RX11 yX11_bad wsX11_bad) := goodIn_app (goodIn_of _ (by decide +kernel)) ggX11_is_X11_bad
set_option maxRecDepth 20000 in
theorem ggX11_is_X11_isOne : GoodIn wsX11_is wsX11_isOne := goodIn_r _ [5, 6, 7, 8, 4, 9, 10, 11, 12, 13, 26, 27, 28, 29, 30, 31, 32, 33, 34, 35, 36, 37, 38, 39, 40, 41, 42, 43] rfl (by decide +kernel)
set_option maxRecDepth 20000 in
theorem gX11_is_X11_isOne : GoodIn wsX11_is (wsV RX11 123 RX11 yX11_isOne wsX11_isOne) := goodIn_app (goodIn_of _ (by decide +kernel)) ggX11_is_X11_isOne
set_option maxRecDepth 20000 in
theorem ggX11_is_X11_kindsOfOne : GoodIn wsX11_is wsX11_kindsOfOne := goodIn_r _ [17, 10, 18, 19, 4, 20, 26, 27, 28, 29, 30, 31, 32, 33, 34, 35, 36, 37, 38, 39, 40, 41, 42, 43] rfl (by decide +kernel)
set_option maxRecDepth 20000 in
theorem gX11_is_X11_kindsOfOne : GoodIn wsX11_is (wsV RX11 168 RX11 yX11_kindsOfOne wsX11_kindsOfOne) := goodIn_app (goodIn_of _ (by decide +kernel)) ggX11_is_X11_kindsOfOne
set_option maxRecDepth 20000 in
theorem ggX11_kindsOfEgg_X11_mayAs : GoodIn wsX11_kindsOfEgg wsX11_mayAs := goodIn_r _ [5] rfl (by decide +kernel)
set_option maxRecDepth 20000 in
theorem gX11_kindsOfEgg_X11_mayAs : GoodIn wsX11_kindsOfEgg (va_wsS RX11 94 yX11_mayAs wsX11_mayAs) := goodIn_app (goodIn_of _ (by decide +kernel)) ggX11_kindsOfEgg_X11_mayAs
set_option maxRecDepth 20000 in
theorem ggX11_kindsOfOne_X11_runsAs : GoodIn wsX11_kindsOfOne wsX11_runsAs := goodIn_r _ [5] rfl (by decide +kernel)
set_option maxRecDepth 20000 in
theorem gX11_kindsOfOne_X11_runsAs : GoodIn wsX11_kindsOfOne (va_wsS RX11 86 yX11_runsAs wsX11_runsAs) := goodIn_app (goodIn_of _ (by decide +kernel)) ggX11_kindsOfOne_X11_runsAs
set_option maxRecDepth 20000 in
theorem ggX11_kinds_X11_bad : GoodIn wsX11_kinds wsX11_bad := goodIn_r _ [24, 25, 26, 27, 28, 29, 30, 31, 32, 33, 34, 35, 36, 37, 38, 39, 40, 41, 42, 43] rfl (by decide +kernel)
set_option maxRecDepth 20000 in
theorem gX11_kinds_X11_bad : GoodIn wsX11_kinds (wsV RX11 68 RX11 yX11_bad wsX11_bad) := goodIn_app (goodIn_of _ (by decide +kernel)) ggX11_kinds_X11_bad
set_option maxRecDepth 20000 in
theorem ggX11_kinds_X11_isOne : GoodIn wsX11_kinds wsX11_isOne := goodIn_r _ [5, 6, 7, 8, 4, 9, 10, 11, 12, 13, 26, 27, 28, 29, 30, 31, 32, 33, 34, 35, 36, 37, 38, 39, 40, 41, 42, 43] rfl (by decide +kernel)
set_option maxRecDepth 20000 in
theorem gX11_kinds_X11_isOne : GoodIn wsX11_kinds (wsV RX11 123 RX11 yX11_isOne wsX11_isOne) := goodIn_app (goodIn_of _ (by decide +kernel)) ggX11_kinds_X11_isOne
set_option maxRecDepth 20000 in
theorem ggX11_kinds_X11_kindsOfEgg : GoodIn wsX11_kinds wsX11_kindsOfEgg := goodIn_r _ [17, 10, 18, 19, 4, 20, 26, 27, 28, 29, 30, 31, 32, 33, 34, 35, 36, 37, 38, 39, 40, 41, 42, 43] rfl (by decide +kernel)
set_option maxRecDepth 20000 in
theorem gX11_kinds_X11_kindsOfEgg : GoodIn wsX11_kinds (wsV RX11 171 RX11 yX11_kindsOfEgg wsX11_kindsOfEgg) := goodIn_app (goodIn_of _ (by decide +kernel)) ggX11_kinds_X11_kindsOfEgg
set_option maxRecDepth 20000 in
theorem ggX11_legsOf_X11_runsAs : GoodIn wsX11_legsOf wsX11_runsAs := goodIn_r _ [5] rfl (by decide +kernel)
set_option maxRecDepth 20000 in
theorem gX11_legsOf_X11_runsAs : GoodIn wsX11_legsOf (va_wsS RX11 86 yX11_runsAs wsX11_runsAs) := goodIn_app (goodIn_of _ (by decide +kernel)) ggX11_legsOf_X11_runsAs
set_option maxRecDepth 20000 in
theorem ggX11_look_X11_bad : GoodIn wsX11_look wsX11_bad := goodIn_r _ [19, 20, 35, 36, 37, 38, 39, 40, 41, 42, 43, 44, 45, 46, 47, 48, 49, 50, 51, 52] rfl (by decide +kernel)
set_option maxRecDepth 20000 in
theorem gX11_look_X11_bad : GoodIn wsX11_look (wsV RX11 68 RX11 yX11_bad wsX11_bad) := goodIn_app (goodIn_of _ (by decide +kernel)) ggX11_look_X11_bad
set_option maxRecDepth 20000 in
theorem ggX11_look_X11_isOne : GoodIn wsX11_look wsX11_isOne := goodIn_r _ [8, 9, 10, 11, 7, 12, 3, 13, 14, 15, 35, 36, 37, 38, 39, 40, 41, 42, 43, 44, 45, 46, 47, 48, 49, 50, 51, 52] rfl (by decide +kernel)
set_option maxRecDepth 20000 in
theorem gX11_look_X11_isOne : GoodIn wsX11_look (wsV RX11 123 RX11 yX11_isOne wsX11_isOne) := goodIn_app (goodIn_of _ (by decide +kernel)) ggX11_look_X11_isOne
set_option maxRecDepth 20000 in
theorem ggX11_look_X11_kindsOfOne : GoodIn wsX11_look wsX11_kindsOfOne := goodIn_r _ [24, 3, 25, 26, 7, 27, 35, 36, 37, 38, 39, 40, 41, 42, 43, 44, 45, 46, 47, 48, 49, 50, 51, 52] rfl (by decide +kernel)
set_option maxRecDepth 20000 in
theorem gX11_look_X11_kindsOfOne : GoodIn wsX11_look (wsV RX11 168 RX11 yX11_kindsOfOne wsX11_kindsOfOne) := goodIn_app (goodIn_of _ (by decide +kernel)) ggX11_look_X11_kindsOfOne
set_option maxRecDepth 20000 in
theorem ggX11_look_X11_mostAlike : GoodIn wsX11_look wsX11_mostAlike := goodIn_r _ [31, 2, 32, 33, 7, 34, 35, 36, 37, 38, 39, 40, 41, 42, 43, 44, 45, 46, 47, 48, 49, 50, 51, 52] rfl (by decide +kernel)
set_option maxRecDepth 20000 in
theorem gX11_look_X11_mostAlike : GoodIn wsX11_look (wsV RX11 165 RX11 yX11_mostAlike wsX11_mostAlike) := goodIn_app (goodIn_of _ (by decide +kernel)) ggX11_look_X11_mostAlike
set_option maxRecDepth 20000 in
theorem ggX11_look_X11_runsAs : GoodIn wsX11_look wsX11_runsAs := goodIn_r _ [27] rfl (by decide +kernel)
set_option maxRecDepth 20000 in
theorem gX11_look_X11_runsAs : GoodIn wsX11_look (va_wsS RX11 86 yX11_runsAs wsX11_runsAs) := goodIn_app (goodIn_of _ (by decide +kernel)) ggX11_look_X11_runsAs
set_option maxRecDepth 20000 in
theorem ggX11_mostAlike_X11_has : GoodIn wsX11_mostAlike wsX11_has := goodIn_r _ [5] rfl (by decide +kernel)
set_option maxRecDepth 20000 in
theorem gX11_mostAlike_X11_has : GoodIn wsX11_mostAlike (va_wsS RX11 161 yX11_has wsX11_has) := goodIn_app (goodIn_of _ (by decide +kernel)) ggX11_mostAlike_X11_has
set_option maxRecDepth 20000 in
theorem ggX11_strong_X11_bad : GoodIn wsX11_strong wsX11_bad := goodIn_r _ [18, 19, 30, 31, 32, 33, 34, 35, 36, 37, 38, 39, 40, 41, 42, 43, 44, 45, 46, 47] rfl (by decide +kernel)
set_option maxRecDepth 20000 in
theorem gX11_strong_X11_bad : GoodIn wsX11_strong (wsV RX11 68 RX11 yX11_bad wsX11_bad) := goodIn_app (goodIn_of _ (by decide +kernel)) ggX11_strong_X11_bad
set_option maxRecDepth 20000 in
theorem ggX11_strong_X11_has : GoodIn wsX11_strong wsX11_has := goodIn_r _ [29] rfl (by decide +kernel)
set_option maxRecDepth 20000 in
theorem gX11_strong_X11_has : GoodIn wsX11_strong (va_wsS RX11 161 yX11_has wsX11_has) := goodIn_app (goodIn_of _ (by decide +kernel)) ggX11_strong_X11_has
set_option maxRecDepth 20000 in
theorem ggX11_strong_X11_in : GoodIn wsX11_strong wsX11_in := goodIn_r _ [14] rfl (by decide +kernel)
set_option maxRecDepth 20000 in
theorem gX11_strong_X11_in : GoodIn wsX11_strong (va_wsS RX11 56 yX11_in wsX11_in) := goodIn_app (goodIn_of _ (by decide +kernel)) ggX11_strong_X11_in
set_option maxRecDepth 20000 in
theorem ggX11_strong_X11_isOne : GoodIn wsX11_strong wsX11_isOne := goodIn_r _ [6, 7, 8, 9, 5, 10, 11, 12, 13, 14, 30, 31, 32, 33, 34, 35, 36, 37, 38, 39, 40, 41, 42, 43, 44, 45, 46, 47] rfl (by decide +kernel)
set_option maxRecDepth 20000 in
theorem gX11_strong_X11_isOne : GoodIn wsX11_strong (wsV RX11 123 RX11 yX11_isOne wsX11_isOne) := goodIn_app (goodIn_of _ (by decide +kernel)) ggX11_strong_X11_isOne
set_option maxRecDepth 20000 in
theorem ggX11_strong_X11_legsOf : GoodIn wsX11_strong wsX11_legsOf := goodIn_r _ [23, 11, 24, 25, 5, 26, 30, 31, 32, 33, 34, 35, 36, 37, 38, 39, 40, 41, 42, 43, 44, 45, 46, 47] rfl (by decide +kernel)
set_option maxRecDepth 20000 in
theorem gX11_strong_X11_legsOf : GoodIn wsX11_strong (wsV RX11 158 RX11 yX11_legsOf wsX11_legsOf) := goodIn_app (goodIn_of _ (by decide +kernel)) ggX11_strong_X11_legsOf
set_option maxRecDepth 20000 in
theorem ggX11_tell_X11_bad : GoodIn wsX11_tell wsX11_bad := goodIn_r _ [19, 20, 35, 36, 37, 38, 39, 40, 41, 42, 43, 44, 45, 46, 47, 48, 49, 50, 51, 52] rfl (by decide +kernel)
set_option maxRecDepth 20000 in
theorem gX11_tell_X11_bad : GoodIn wsX11_tell (wsV RX11 68 RX11 yX11_bad wsX11_bad) := goodIn_app (goodIn_of _ (by decide +kernel)) ggX11_tell_X11_bad
set_option maxRecDepth 20000 in
theorem ggX11_tell_X11_isOne : GoodIn wsX11_tell wsX11_isOne := goodIn_r _ [8, 9, 10, 11, 7, 12, 3, 13, 14, 15, 35, 36, 37, 38, 39, 40, 41, 42, 43, 44, 45, 46, 47, 48, 49, 50, 51, 52] rfl (by decide +kernel)
set_option maxRecDepth 20000 in
theorem gX11_tell_X11_isOne : GoodIn wsX11_tell (wsV RX11 123 RX11 yX11_isOne wsX11_isOne) := goodIn_app (goodIn_of _ (by decide +kernel)) ggX11_tell_X11_isOne
set_option maxRecDepth 20000 in
theorem ggX11_tell_X11_legsOf : GoodIn wsX11_tell wsX11_legsOf := goodIn_r _ [24, 3, 25, 26, 7, 27, 35, 36, 37, 38, 39, 40, 41, 42, 43, 44, 45, 46, 47, 48, 49, 50, 51, 52] rfl (by decide +kernel)
set_option maxRecDepth 20000 in
theorem gX11_tell_X11_legsOf : GoodIn wsX11_tell (wsV RX11 158 RX11 yX11_legsOf wsX11_legsOf) := goodIn_app (goodIn_of _ (by decide +kernel)) ggX11_tell_X11_legsOf
set_option maxRecDepth 20000 in
theorem ggX11_tell_X11_mostAlike : GoodIn wsX11_tell wsX11_mostAlike := goodIn_r _ [31, 2, 32, 33, 7, 34, 35, 36, 37, 38, 39, 40, 41, 42, 43, 44, 45, 46, 47, 48, 49, 50, 51, 52] rfl (by decide +kernel)
set_option maxRecDepth 20000 in
theorem gX11_tell_X11_mostAlike : GoodIn wsX11_tell (wsV RX11 165 RX11 yX11_mostAlike wsX11_mostAlike) := goodIn_app (goodIn_of _ (by decide +kernel)) ggX11_tell_X11_mostAlike
set_option maxRecDepth 20000 in
theorem ggX11_tell_X11_runsAs : GoodIn wsX11_tell wsX11_runsAs := goodIn_r _ [27] rfl (by decide +kernel)
set_option maxRecDepth 20000 in
theorem gX11_tell_X11_runsAs : GoodIn wsX11_tell (va_wsS RX11 86 yX11_runsAs wsX11_runsAs) := goodIn_app (goodIn_of _ (by decide +kernel)) ggX11_tell_X11_runsAs
theorem dX11_ask_0 : decode cX11_ask 0 = .ok (.aload_n 0, 1) := by decide +kernel
theorem dX11_ask_1 : decode cX11_ask 1 = .ok (.iload_n 1, 1) := by decide +kernel
theorem dX11_ask_101 : decode cX11_ask 101 = .ok (.goto 5, 3) := by decide +kernel
theorem dX11_ask_104 : decode cX11_ask 104 = .ok (.iload 4, 2) := by decide +kernel
theorem dX11_ask_106 : decode cX11_ask 106 = .ok (.istore 4, 2) := by decide +kernel
theorem dX11_ask_108 : decode cX11_ask 108 = .ok (.iinc 5 1, 3) := by decide +kernel
theorem dX11_ask_11 : decode cX11_ask 11 = .ok (.invokevirtual 68, 3) := by decide +kernel
theorem dX11_ask_111 : decode cX11_ask 111 = .ok (.goto (-81), 3) := by decide +kernel
theorem dX11_ask_114 : decode cX11_ask 114 = .ok (.iload_n 3, 1) := by decide +kernel
theorem dX11_ask_115 : decode cX11_ask 115 = .ok (.ireturn, 1) := by decide +kernel
theorem dX11_ask_14 : decode cX11_ask 14 = .ok (.ireturn, 1) := by decide +kernel
theorem dX11_ask_15 : decode cX11_ask 15 = .ok (.aload_n 0, 1) := by decide +kernel
theorem dX11_ask_16 : decode cX11_ask 16 = .ok (.iload_n 1, 1) := by decide +kernel
theorem dX11_ask_17 : decode cX11_ask 17 = .ok (.invokevirtual 171, 3) := by decide +kernel
theorem dX11_ask_2 : decode cX11_ask 2 = .ok (.invokevirtual 123, 3) := by decide +kernel
theorem dX11_ask_20 : decode cX11_ask 20 = .ok (.istore_n 2, 1) := by decide +kernel
theorem dX11_ask_21 : decode cX11_ask 21 = .ok (.iconst (-1), 1) := by decide +kernel
theorem dX11_ask_22 : decode cX11_ask 22 = .ok (.istore_n 3, 1) := by decide +kernel
theorem dX11_ask_23 : decode cX11_ask 23 = .ok (.ldc 150, 2) := by decide +kernel
theorem dX11_ask_25 : decode cX11_ask 25 = .ok (.istore 4, 2) := by decide +kernel
theorem dX11_ask_27 : decode cX11_ask 27 = .ok (.iconst 0, 1) := by decide +kernel
theorem dX11_ask_28 : decode cX11_ask 28 = .ok (.istore 5, 2) := by decide +kernel
theorem dX11_ask_30 : decode cX11_ask 30 = .ok (.iload 5, 2) := by decide +kernel
theorem dX11_ask_32 : decode cX11_ask 32 = .ok (.bipush 20, 2) := by decide +kernel
theorem dX11_ask_34 : decode cX11_ask 34 = .ok (.if_icmp .ge 80, 3) := by decide +kernel
theorem dX11_ask_37 : decode cX11_ask 37 = .ok (.iload_n 2, 1) := by decide +kernel
theorem dX11_ask_38 : decode cX11_ask 38 = .ok (.ifCond .le 76, 3) := by decide +kernel
theorem dX11_ask_41 : decode cX11_ask 41 = .ok (.iconst 0, 1) := by decide +kernel
theorem dX11_ask_42 : decode cX11_ask 42 = .ok (.istore 6, 2) := by decide +kernel
theorem dX11_ask_44 : decode cX11_ask 44 = .ok (.iload 6, 2) := by decide +kernel
theorem dX11_ask_46 : decode cX11_ask 46 = .ok (.bipush 6, 2) := by decide +kernel
theorem dX11_ask_48 : decode cX11_ask 48 = .ok (.if_icmp .ge 23, 3) := by decide +kernel
theorem dX11_ask_5 : decode cX11_ask 5 = .ok (.ifCond .ne 10, 3) := by decide +kernel
theorem dX11_ask_51 : decode cX11_ask 51 = .ok (.aload_n 0, 1) := by decide +kernel
theorem dX11_ask_52 : decode cX11_ask 52 = .ok (.getfield 33, 3) := by decide +kernel
theorem dX11_ask_55 : decode cX11_ask 55 = .ok (.iload 6, 2) := by decide +kernel
theorem dX11_ask_57 : decode cX11_ask 57 = .ok (.iload 6, 2) := by decide +kernel
theorem dX11_ask_59 : decode cX11_ask 59 = .ok (.iload 5, 2) := by decide +kernel
theorem dX11_ask_61 : decode cX11_ask 61 = .ok (.invokestatic 94, 3) := by decide +kernel
theorem dX11_ask_64 : decode cX11_ask 64 = .ok (.iastore, 1) := by decide +kernel
theorem dX11_ask_65 : decode cX11_ask 65 = .ok (.iinc 6 1, 3) := by decide +kernel
theorem dX11_ask_68 : decode cX11_ask 68 = .ok (.goto (-24), 3) := by decide +kernel
theorem dX11_ask_71 : decode cX11_ask 71 = .ok (.aload_n 0, 1) := by decide +kernel
theorem dX11_ask_72 : decode cX11_ask 72 = .ok (.iload_n 2, 1) := by decide +kernel
theorem dX11_ask_73 : decode cX11_ask 73 = .ok (.invokevirtual 165, 3) := by decide +kernel
theorem dX11_ask_76 : decode cX11_ask 76 = .ok (.istore 6, 2) := by decide +kernel
theorem dX11_ask_78 : decode cX11_ask 78 = .ok (.iload 6, 2) := by decide +kernel
theorem dX11_ask_8 : decode cX11_ask 8 = .ok (.aload_n 0, 1) := by decide +kernel
theorem dX11_ask_80 : decode cX11_ask 80 = .ok (.iload 4, 2) := by decide +kernel
theorem dX11_ask_82 : decode cX11_ask 82 = .ok (.if_icmp .ge 8, 3) := by decide +kernel
theorem dX11_ask_85 : decode cX11_ask 85 = .ok (.iload 5, 2) := by decide +kernel
theorem dX11_ask_87 : decode cX11_ask 87 = .ok (.goto 4, 3) := by decide +kernel
theorem dX11_ask_9 : decode cX11_ask 9 = .ok (.bipush (-2), 2) := by decide +kernel
theorem dX11_ask_90 : decode cX11_ask 90 = .ok (.iload_n 3, 1) := by decide +kernel
theorem dX11_ask_91 : decode cX11_ask 91 = .ok (.istore_n 3, 1) := by decide +kernel
theorem dX11_ask_92 : decode cX11_ask 92 = .ok (.iload 6, 2) := by decide +kernel
theorem dX11_ask_94 : decode cX11_ask 94 = .ok (.iload 4, 2) := by decide +kernel
theorem dX11_ask_96 : decode cX11_ask 96 = .ok (.if_icmp .ge 8, 3) := by decide +kernel
theorem dX11_ask_99 : decode cX11_ask 99 = .ok (.iload 6, 2) := by decide +kernel
theorem dX11_forget_0 : decode cX11_forget 0 = .ok (.iload_n 1, 1) := by decide +kernel
theorem dX11_forget_1 : decode cX11_forget 1 = .ok (.i2l, 1) := by decide +kernel
theorem dX11_forget_12 : decode cX11_forget 12 = .ok (.aload_n 0, 1) := by decide +kernel
theorem dX11_forget_13 : decode cX11_forget 13 = .ok (.bipush (-2), 2) := by decide +kernel
theorem dX11_forget_15 : decode cX11_forget 15 = .ok (.invokevirtual 68, 3) := by decide +kernel
theorem dX11_forget_18 : decode cX11_forget 18 = .ok (.ireturn, 1) := by decide +kernel
theorem dX11_forget_19 : decode cX11_forget 19 = .ok (.aload_n 0, 1) := by decide +kernel
theorem dX11_forget_2 : decode cX11_forget 2 = .ok (.lconst 0, 1) := by decide +kernel
theorem dX11_forget_20 : decode cX11_forget 20 = .ok (.getfield 7, 3) := by decide +kernel
theorem dX11_forget_23 : decode cX11_forget 23 = .ok (.iconst 1, 1) := by decide +kernel
theorem dX11_forget_24 : decode cX11_forget 24 = .ok (.iload_n 1, 1) := by decide +kernel
theorem dX11_forget_25 : decode cX11_forget 25 = .ok (.iadd, 1) := by decide +kernel
theorem dX11_forget_26 : decode cX11_forget 26 = .ok (.iaload, 1) := by decide +kernel
theorem dX11_forget_27 : decode cX11_forget 27 = .ok (.istore_n 2, 1) := by decide +kernel
theorem dX11_forget_28 : decode cX11_forget 28 = .ok (.aload_n 0, 1) := by decide +kernel
theorem dX11_forget_29 : decode cX11_forget 29 = .ok (.getfield 7, 3) := by decide +kernel
theorem dX11_forget_3 : decode cX11_forget 3 = .ok (.ldc2_w 156, 3) := by decide +kernel
theorem dX11_forget_32 : decode cX11_forget 32 = .ok (.iconst 1, 1) := by decide +kernel
theorem dX11_forget_33 : decode cX11_forget 33 = .ok (.iload_n 1, 1) := by decide +kernel
theorem dX11_forget_34 : decode cX11_forget 34 = .ok (.iadd, 1) := by decide +kernel
theorem dX11_forget_35 : decode cX11_forget 35 = .ok (.iconst 0, 1) := by decide +kernel
theorem dX11_forget_36 : decode cX11_forget 36 = .ok (.iastore, 1) := by decide +kernel
theorem dX11_forget_37 : decode cX11_forget 37 = .ok (.iload_n 2, 1) := by decide +kernel
theorem dX11_forget_38 : decode cX11_forget 38 = .ok (.ireturn, 1) := by decide +kernel
theorem dX11_forget_6 : decode cX11_forget 6 = .ok (.invokestatic 56, 3) := by decide +kernel
theorem dX11_forget_9 : decode cX11_forget 9 = .ok (.ifCond .ne 10, 3) := by decide +kernel
theorem dX11_is_0 : decode cX11_is 0 = .ok (.aload_n 0, 1) := by decide +kernel
theorem dX11_is_1 : decode cX11_is 1 = .ok (.iload_n 1, 1) := by decide +kernel
theorem dX11_is_10 : decode cX11_is 10 = .ok (.invokevirtual 168, 3) := by decide +kernel
theorem dX11_is_13 : decode cX11_is 13 = .ok (.goto 9, 3) := by decide +kernel
theorem dX11_is_16 : decode cX11_is 16 = .ok (.aload_n 0, 1) := by decide +kernel
theorem dX11_is_17 : decode cX11_is 17 = .ok (.bipush (-2), 2) := by decide +kernel
theorem dX11_is_19 : decode cX11_is 19 = .ok (.invokevirtual 68, 3) := by decide +kernel
theorem dX11_is_2 : decode cX11_is 2 = .ok (.invokevirtual 123, 3) := by decide +kernel
theorem dX11_is_22 : decode cX11_is 22 = .ok (.ireturn, 1) := by decide +kernel
theorem dX11_is_5 : decode cX11_is 5 = .ok (.ifCond .eq 11, 3) := by decide +kernel
theorem dX11_is_8 : decode cX11_is 8 = .ok (.aload_n 0, 1) := by decide +kernel
theorem dX11_is_9 : decode cX11_is 9 = .ok (.iload_n 1, 1) := by decide +kernel
theorem dX11_kindsOfEgg_0 : decode cX11_kindsOfEgg 0 = .ok (.iconst 0, 1) := by decide +kernel
theorem dX11_kindsOfEgg_1 : decode cX11_kindsOfEgg 1 = .ok (.istore_n 2, 1) := by decide +kernel
theorem dX11_kindsOfEgg_10 : decode cX11_kindsOfEgg 10 = .ok (.iconst 1, 1) := by decide +kernel
theorem dX11_kindsOfEgg_102 : decode cX11_kindsOfEgg 102 = .ok (.iconst 0, 1) := by decide +kernel
theorem dX11_kindsOfEgg_103 : decode cX11_kindsOfEgg 103 = .ok (.ior, 1) := by decide +kernel
theorem dX11_kindsOfEgg_104 : decode cX11_kindsOfEgg 104 = .ok (.istore_n 2, 1) := by decide +kernel
theorem dX11_kindsOfEgg_105 : decode cX11_kindsOfEgg 105 = .ok (.iinc 3 1, 3) := by decide +kernel
theorem dX11_kindsOfEgg_108 : decode cX11_kindsOfEgg 108 = .ok (.goto (-104), 3) := by decide +kernel
theorem dX11_kindsOfEgg_11 : decode cX11_kindsOfEgg 11 = .ok (.istore 4, 2) := by decide +kernel
theorem dX11_kindsOfEgg_111 : decode cX11_kindsOfEgg 111 = .ok (.iload_n 2, 1) := by decide +kernel
theorem dX11_kindsOfEgg_112 : decode cX11_kindsOfEgg 112 = .ok (.ireturn, 1) := by decide +kernel
theorem dX11_kindsOfEgg_13 : decode cX11_kindsOfEgg 13 = .ok (.iconst 0, 1) := by decide +kernel
theorem dX11_kindsOfEgg_14 : decode cX11_kindsOfEgg 14 = .ok (.istore 5, 2) := by decide +kernel
theorem dX11_kindsOfEgg_16 : decode cX11_kindsOfEgg 16 = .ok (.iload 5, 2) := by decide +kernel
theorem dX11_kindsOfEgg_18 : decode cX11_kindsOfEgg 18 = .ok (.aload_n 0, 1) := by decide +kernel
theorem dX11_kindsOfEgg_19 : decode cX11_kindsOfEgg 19 = .ok (.getfield 7, 3) := by decide +kernel
theorem dX11_kindsOfEgg_2 : decode cX11_kindsOfEgg 2 = .ok (.iconst 0, 1) := by decide +kernel
theorem dX11_kindsOfEgg_22 : decode cX11_kindsOfEgg 22 = .ok (.iconst 3, 1) := by decide +kernel
theorem dX11_kindsOfEgg_23 : decode cX11_kindsOfEgg 23 = .ok (.iaload, 1) := by decide +kernel
theorem dX11_kindsOfEgg_24 : decode cX11_kindsOfEgg 24 = .ok (.if_icmp .ge 66, 3) := by decide +kernel
theorem dX11_kindsOfEgg_27 : decode cX11_kindsOfEgg 27 = .ok (.bipush 105, 2) := by decide +kernel
theorem dX11_kindsOfEgg_29 : decode cX11_kindsOfEgg 29 = .ok (.iconst 3, 1) := by decide +kernel
theorem dX11_kindsOfEgg_3 : decode cX11_kindsOfEgg 3 = .ok (.istore_n 3, 1) := by decide +kernel
theorem dX11_kindsOfEgg_30 : decode cX11_kindsOfEgg 30 = .ok (.iload 5, 2) := by decide +kernel
theorem dX11_kindsOfEgg_32 : decode cX11_kindsOfEgg 32 = .ok (.imul, 1) := by decide +kernel
theorem dX11_kindsOfEgg_33 : decode cX11_kindsOfEgg 33 = .ok (.iadd, 1) := by decide +kernel
theorem dX11_kindsOfEgg_34 : decode cX11_kindsOfEgg 34 = .ok (.istore 6, 2) := by decide +kernel
theorem dX11_kindsOfEgg_36 : decode cX11_kindsOfEgg 36 = .ok (.iload 4, 2) := by decide +kernel
theorem dX11_kindsOfEgg_38 : decode cX11_kindsOfEgg 38 = .ok (.ifCond .eq 43, 3) := by decide +kernel
theorem dX11_kindsOfEgg_4 : decode cX11_kindsOfEgg 4 = .ok (.iload_n 3, 1) := by decide +kernel
theorem dX11_kindsOfEgg_41 : decode cX11_kindsOfEgg 41 = .ok (.aload_n 0, 1) := by decide +kernel
theorem dX11_kindsOfEgg_42 : decode cX11_kindsOfEgg 42 = .ok (.getfield 7, 3) := by decide +kernel
theorem dX11_kindsOfEgg_45 : decode cX11_kindsOfEgg 45 = .ok (.iload 6, 2) := by decide +kernel
theorem dX11_kindsOfEgg_47 : decode cX11_kindsOfEgg 47 = .ok (.iaload, 1) := by decide +kernel
theorem dX11_kindsOfEgg_48 : decode cX11_kindsOfEgg 48 = .ok (.iload_n 1, 1) := by decide +kernel
theorem dX11_kindsOfEgg_49 : decode cX11_kindsOfEgg 49 = .ok (.if_icmp .ne 28, 3) := by decide +kernel
theorem dX11_kindsOfEgg_5 : decode cX11_kindsOfEgg 5 = .ok (.bipush 6, 2) := by decide +kernel
theorem dX11_kindsOfEgg_52 : decode cX11_kindsOfEgg 52 = .ok (.iload_n 3, 1) := by decide +kernel
theorem dX11_kindsOfEgg_53 : decode cX11_kindsOfEgg 53 = .ok (.aload_n 0, 1) := by decide +kernel
theorem dX11_kindsOfEgg_54 : decode cX11_kindsOfEgg 54 = .ok (.getfield 7, 3) := by decide +kernel
theorem dX11_kindsOfEgg_57 : decode cX11_kindsOfEgg 57 = .ok (.iload 6, 2) := by decide +kernel
theorem dX11_kindsOfEgg_59 : decode cX11_kindsOfEgg 59 = .ok (.iconst 1, 1) := by decide +kernel
theorem dX11_kindsOfEgg_60 : decode cX11_kindsOfEgg 60 = .ok (.iadd, 1) := by decide +kernel
theorem dX11_kindsOfEgg_61 : decode cX11_kindsOfEgg 61 = .ok (.iaload, 1) := by decide +kernel
theorem dX11_kindsOfEgg_62 : decode cX11_kindsOfEgg 62 = .ok (.invokestatic 94, 3) := by decide +kernel
theorem dX11_kindsOfEgg_65 : decode cX11_kindsOfEgg 65 = .ok (.aload_n 0, 1) := by decide +kernel
theorem dX11_kindsOfEgg_66 : decode cX11_kindsOfEgg 66 = .ok (.getfield 7, 3) := by decide +kernel
theorem dX11_kindsOfEgg_69 : decode cX11_kindsOfEgg 69 = .ok (.iload 6, 2) := by decide +kernel
theorem dX11_kindsOfEgg_7 : decode cX11_kindsOfEgg 7 = .ok (.if_icmp .ge 104, 3) := by decide +kernel
theorem dX11_kindsOfEgg_71 : decode cX11_kindsOfEgg 71 = .ok (.iconst 2, 1) := by decide +kernel
theorem dX11_kindsOfEgg_72 : decode cX11_kindsOfEgg 72 = .ok (.iadd, 1) := by decide +kernel
theorem dX11_kindsOfEgg_73 : decode cX11_kindsOfEgg 73 = .ok (.iaload, 1) := by decide +kernel
theorem dX11_kindsOfEgg_74 : decode cX11_kindsOfEgg 74 = .ok (.if_icmp .ne 7, 3) := by decide +kernel
theorem dX11_kindsOfEgg_77 : decode cX11_kindsOfEgg 77 = .ok (.iconst 1, 1) := by decide +kernel
theorem dX11_kindsOfEgg_78 : decode cX11_kindsOfEgg 78 = .ok (.goto 4, 3) := by decide +kernel
theorem dX11_kindsOfEgg_81 : decode cX11_kindsOfEgg 81 = .ok (.iconst 0, 1) := by decide +kernel
theorem dX11_kindsOfEgg_82 : decode cX11_kindsOfEgg 82 = .ok (.istore 4, 2) := by decide +kernel
theorem dX11_kindsOfEgg_84 : decode cX11_kindsOfEgg 84 = .ok (.iinc 5 1, 3) := by decide +kernel
theorem dX11_kindsOfEgg_87 : decode cX11_kindsOfEgg 87 = .ok (.goto (-71), 3) := by decide +kernel
theorem dX11_kindsOfEgg_90 : decode cX11_kindsOfEgg 90 = .ok (.iload_n 2, 1) := by decide +kernel
theorem dX11_kindsOfEgg_91 : decode cX11_kindsOfEgg 91 = .ok (.iload 4, 2) := by decide +kernel
theorem dX11_kindsOfEgg_93 : decode cX11_kindsOfEgg 93 = .ok (.ifCond .eq 9, 3) := by decide +kernel
theorem dX11_kindsOfEgg_96 : decode cX11_kindsOfEgg 96 = .ok (.iconst 1, 1) := by decide +kernel
theorem dX11_kindsOfEgg_97 : decode cX11_kindsOfEgg 97 = .ok (.iload_n 3, 1) := by decide +kernel
theorem dX11_kindsOfEgg_98 : decode cX11_kindsOfEgg 98 = .ok (.ishl, 1) := by decide +kernel
theorem dX11_kindsOfEgg_99 : decode cX11_kindsOfEgg 99 = .ok (.goto 4, 3) := by decide +kernel
theorem dX11_kindsOfOne_0 : decode cX11_kindsOfOne 0 = .ok (.iconst 0, 1) := by decide +kernel
theorem dX11_kindsOfOne_1 : decode cX11_kindsOfOne 1 = .ok (.istore_n 2, 1) := by decide +kernel
theorem dX11_kindsOfOne_10 : decode cX11_kindsOfOne 10 = .ok (.iconst 1, 1) := by decide +kernel
theorem dX11_kindsOfOne_100 : decode cX11_kindsOfOne 100 = .ok (.istore 4, 2) := by decide +kernel
theorem dX11_kindsOfOne_102 : decode cX11_kindsOfOne 102 = .ok (.iinc 5 1, 3) := by decide +kernel
theorem dX11_kindsOfOne_105 : decode cX11_kindsOfOne 105 = .ok (.goto (-89), 3) := by decide +kernel
theorem dX11_kindsOfOne_108 : decode cX11_kindsOfOne 108 = .ok (.iload_n 2, 1) := by decide +kernel
theorem dX11_kindsOfOne_109 : decode cX11_kindsOfOne 109 = .ok (.iload 4, 2) := by decide +kernel
theorem dX11_kindsOfOne_11 : decode cX11_kindsOfOne 11 = .ok (.istore 4, 2) := by decide +kernel
theorem dX11_kindsOfOne_111 : decode cX11_kindsOfOne 111 = .ok (.ifCond .eq 9, 3) := by decide +kernel
theorem dX11_kindsOfOne_114 : decode cX11_kindsOfOne 114 = .ok (.iconst 1, 1) := by decide +kernel
theorem dX11_kindsOfOne_115 : decode cX11_kindsOfOne 115 = .ok (.iload_n 3, 1) := by decide +kernel
theorem dX11_kindsOfOne_116 : decode cX11_kindsOfOne 116 = .ok (.ishl, 1) := by decide +kernel
theorem dX11_kindsOfOne_117 : decode cX11_kindsOfOne 117 = .ok (.goto 4, 3) := by decide +kernel
theorem dX11_kindsOfOne_120 : decode cX11_kindsOfOne 120 = .ok (.iconst 0, 1) := by decide +kernel
theorem dX11_kindsOfOne_121 : decode cX11_kindsOfOne 121 = .ok (.ior, 1) := by decide +kernel
theorem dX11_kindsOfOne_122 : decode cX11_kindsOfOne 122 = .ok (.istore_n 2, 1) := by decide +kernel
theorem dX11_kindsOfOne_123 : decode cX11_kindsOfOne 123 = .ok (.iinc 3 1, 3) := by decide +kernel
theorem dX11_kindsOfOne_126 : decode cX11_kindsOfOne 126 = .ok (.goto (-122), 3) := by decide +kernel
theorem dX11_kindsOfOne_129 : decode cX11_kindsOfOne 129 = .ok (.iload_n 2, 1) := by decide +kernel
theorem dX11_kindsOfOne_13 : decode cX11_kindsOfOne 13 = .ok (.iconst 0, 1) := by decide +kernel
theorem dX11_kindsOfOne_130 : decode cX11_kindsOfOne 130 = .ok (.ireturn, 1) := by decide +kernel
theorem dX11_kindsOfOne_14 : decode cX11_kindsOfOne 14 = .ok (.istore 5, 2) := by decide +kernel
theorem dX11_kindsOfOne_16 : decode cX11_kindsOfOne 16 = .ok (.iload 5, 2) := by decide +kernel
theorem dX11_kindsOfOne_18 : decode cX11_kindsOfOne 18 = .ok (.aload_n 0, 1) := by decide +kernel
theorem dX11_kindsOfOne_19 : decode cX11_kindsOfOne 19 = .ok (.getfield 7, 3) := by decide +kernel
theorem dX11_kindsOfOne_2 : decode cX11_kindsOfOne 2 = .ok (.iconst 0, 1) := by decide +kernel
theorem dX11_kindsOfOne_22 : decode cX11_kindsOfOne 22 = .ok (.iconst 2, 1) := by decide +kernel
theorem dX11_kindsOfOne_23 : decode cX11_kindsOfOne 23 = .ok (.iaload, 1) := by decide +kernel
theorem dX11_kindsOfOne_24 : decode cX11_kindsOfOne 24 = .ok (.if_icmp .ge 84, 3) := by decide +kernel
theorem dX11_kindsOfOne_27 : decode cX11_kindsOfOne 27 = .ok (.bipush 75, 2) := by decide +kernel
theorem dX11_kindsOfOne_29 : decode cX11_kindsOfOne 29 = .ok (.iconst 5, 1) := by decide +kernel
theorem dX11_kindsOfOne_3 : decode cX11_kindsOfOne 3 = .ok (.istore_n 3, 1) := by decide +kernel
theorem dX11_kindsOfOne_30 : decode cX11_kindsOfOne 30 = .ok (.iload 5, 2) := by decide +kernel
theorem dX11_kindsOfOne_32 : decode cX11_kindsOfOne 32 = .ok (.imul, 1) := by decide +kernel
theorem dX11_kindsOfOne_33 : decode cX11_kindsOfOne 33 = .ok (.iadd, 1) := by decide +kernel
theorem dX11_kindsOfOne_34 : decode cX11_kindsOfOne 34 = .ok (.istore 6, 2) := by decide +kernel
theorem dX11_kindsOfOne_36 : decode cX11_kindsOfOne 36 = .ok (.iload 4, 2) := by decide +kernel
theorem dX11_kindsOfOne_38 : decode cX11_kindsOfOne 38 = .ok (.ifCond .eq 61, 3) := by decide +kernel
theorem dX11_kindsOfOne_4 : decode cX11_kindsOfOne 4 = .ok (.iload_n 3, 1) := by decide +kernel
theorem dX11_kindsOfOne_41 : decode cX11_kindsOfOne 41 = .ok (.aload_n 0, 1) := by decide +kernel
theorem dX11_kindsOfOne_42 : decode cX11_kindsOfOne 42 = .ok (.getfield 7, 3) := by decide +kernel
theorem dX11_kindsOfOne_45 : decode cX11_kindsOfOne 45 = .ok (.iload 6, 2) := by decide +kernel
theorem dX11_kindsOfOne_47 : decode cX11_kindsOfOne 47 = .ok (.iaload, 1) := by decide +kernel
theorem dX11_kindsOfOne_48 : decode cX11_kindsOfOne 48 = .ok (.iload_n 1, 1) := by decide +kernel
theorem dX11_kindsOfOne_49 : decode cX11_kindsOfOne 49 = .ok (.if_icmp .ne 46, 3) := by decide +kernel
theorem dX11_kindsOfOne_5 : decode cX11_kindsOfOne 5 = .ok (.bipush 6, 2) := by decide +kernel
theorem dX11_kindsOfOne_52 : decode cX11_kindsOfOne 52 = .ok (.iload_n 3, 1) := by decide +kernel
theorem dX11_kindsOfOne_53 : decode cX11_kindsOfOne 53 = .ok (.aload_n 0, 1) := by decide +kernel
theorem dX11_kindsOfOne_54 : decode cX11_kindsOfOne 54 = .ok (.getfield 7, 3) := by decide +kernel
theorem dX11_kindsOfOne_57 : decode cX11_kindsOfOne 57 = .ok (.iload 6, 2) := by decide +kernel
theorem dX11_kindsOfOne_59 : decode cX11_kindsOfOne 59 = .ok (.iconst 1, 1) := by decide +kernel
theorem dX11_kindsOfOne_60 : decode cX11_kindsOfOne 60 = .ok (.iadd, 1) := by decide +kernel
theorem dX11_kindsOfOne_61 : decode cX11_kindsOfOne 61 = .ok (.iaload, 1) := by decide +kernel
theorem dX11_kindsOfOne_62 : decode cX11_kindsOfOne 62 = .ok (.aload_n 0, 1) := by decide +kernel
theorem dX11_kindsOfOne_63 : decode cX11_kindsOfOne 63 = .ok (.getfield 7, 3) := by decide +kernel
theorem dX11_kindsOfOne_66 : decode cX11_kindsOfOne 66 = .ok (.iload 6, 2) := by decide +kernel
theorem dX11_kindsOfOne_68 : decode cX11_kindsOfOne 68 = .ok (.iconst 3, 1) := by decide +kernel
theorem dX11_kindsOfOne_69 : decode cX11_kindsOfOne 69 = .ok (.iadd, 1) := by decide +kernel
theorem dX11_kindsOfOne_7 : decode cX11_kindsOfOne 7 = .ok (.if_icmp .ge 122, 3) := by decide +kernel
theorem dX11_kindsOfOne_70 : decode cX11_kindsOfOne 70 = .ok (.iaload, 1) := by decide +kernel
theorem dX11_kindsOfOne_71 : decode cX11_kindsOfOne 71 = .ok (.aload_n 0, 1) := by decide +kernel
theorem dX11_kindsOfOne_72 : decode cX11_kindsOfOne 72 = .ok (.getfield 7, 3) := by decide +kernel
theorem dX11_kindsOfOne_75 : decode cX11_kindsOfOne 75 = .ok (.iload 6, 2) := by decide +kernel
theorem dX11_kindsOfOne_77 : decode cX11_kindsOfOne 77 = .ok (.iconst 2, 1) := by decide +kernel
theorem dX11_kindsOfOne_78 : decode cX11_kindsOfOne 78 = .ok (.iadd, 1) := by decide +kernel
theorem dX11_kindsOfOne_79 : decode cX11_kindsOfOne 79 = .ok (.iaload, 1) := by decide +kernel
theorem dX11_kindsOfOne_80 : decode cX11_kindsOfOne 80 = .ok (.invokestatic 86, 3) := by decide +kernel
theorem dX11_kindsOfOne_83 : decode cX11_kindsOfOne 83 = .ok (.aload_n 0, 1) := by decide +kernel
theorem dX11_kindsOfOne_84 : decode cX11_kindsOfOne 84 = .ok (.getfield 7, 3) := by decide +kernel
theorem dX11_kindsOfOne_87 : decode cX11_kindsOfOne 87 = .ok (.iload 6, 2) := by decide +kernel
theorem dX11_kindsOfOne_89 : decode cX11_kindsOfOne 89 = .ok (.iconst 4, 1) := by decide +kernel
theorem dX11_kindsOfOne_90 : decode cX11_kindsOfOne 90 = .ok (.iadd, 1) := by decide +kernel
theorem dX11_kindsOfOne_91 : decode cX11_kindsOfOne 91 = .ok (.iaload, 1) := by decide +kernel
theorem dX11_kindsOfOne_92 : decode cX11_kindsOfOne 92 = .ok (.if_icmp .ne 7, 3) := by decide +kernel
theorem dX11_kindsOfOne_95 : decode cX11_kindsOfOne 95 = .ok (.iconst 1, 1) := by decide +kernel
theorem dX11_kindsOfOne_96 : decode cX11_kindsOfOne 96 = .ok (.goto 4, 3) := by decide +kernel
theorem dX11_kindsOfOne_99 : decode cX11_kindsOfOne 99 = .ok (.iconst 0, 1) := by decide +kernel
theorem dX11_kinds_0 : decode cX11_kinds 0 = .ok (.aload_n 0, 1) := by decide +kernel
theorem dX11_kinds_1 : decode cX11_kinds 1 = .ok (.iload_n 1, 1) := by decide +kernel
theorem dX11_kinds_10 : decode cX11_kinds 10 = .ok (.invokevirtual 171, 3) := by decide +kernel
theorem dX11_kinds_13 : decode cX11_kinds 13 = .ok (.goto 9, 3) := by decide +kernel
theorem dX11_kinds_16 : decode cX11_kinds 16 = .ok (.aload_n 0, 1) := by decide +kernel
theorem dX11_kinds_17 : decode cX11_kinds 17 = .ok (.bipush (-2), 2) := by decide +kernel
theorem dX11_kinds_19 : decode cX11_kinds 19 = .ok (.invokevirtual 68, 3) := by decide +kernel
theorem dX11_kinds_2 : decode cX11_kinds 2 = .ok (.invokevirtual 123, 3) := by decide +kernel
theorem dX11_kinds_22 : decode cX11_kinds 22 = .ok (.ireturn, 1) := by decide +kernel
theorem dX11_kinds_5 : decode cX11_kinds 5 = .ok (.ifCond .eq 11, 3) := by decide +kernel
theorem dX11_kinds_8 : decode cX11_kinds 8 = .ok (.aload_n 0, 1) := by decide +kernel
theorem dX11_kinds_9 : decode cX11_kinds 9 = .ok (.iload_n 1, 1) := by decide +kernel
theorem dX11_legsOf_0 : decode cX11_legsOf 0 = .ok (.iconst 0, 1) := by decide +kernel
theorem dX11_legsOf_1 : decode cX11_legsOf 1 = .ok (.istore_n 2, 1) := by decide +kernel
theorem dX11_legsOf_10 : decode cX11_legsOf 10 = .ok (.iconst 1, 1) := by decide +kernel
theorem dX11_legsOf_100 : decode cX11_legsOf 100 = .ok (.istore 4, 2) := by decide +kernel
theorem dX11_legsOf_102 : decode cX11_legsOf 102 = .ok (.iinc 5 1, 3) := by decide +kernel
theorem dX11_legsOf_105 : decode cX11_legsOf 105 = .ok (.goto (-89), 3) := by decide +kernel
theorem dX11_legsOf_108 : decode cX11_legsOf 108 = .ok (.iload_n 2, 1) := by decide +kernel
theorem dX11_legsOf_109 : decode cX11_legsOf 109 = .ok (.iload 4, 2) := by decide +kernel
theorem dX11_legsOf_11 : decode cX11_legsOf 11 = .ok (.istore 4, 2) := by decide +kernel
theorem dX11_legsOf_111 : decode cX11_legsOf 111 = .ok (.ifCond .eq 9, 3) := by decide +kernel
theorem dX11_legsOf_114 : decode cX11_legsOf 114 = .ok (.iconst 1, 1) := by decide +kernel
theorem dX11_legsOf_115 : decode cX11_legsOf 115 = .ok (.iload_n 3, 1) := by decide +kernel
theorem dX11_legsOf_116 : decode cX11_legsOf 116 = .ok (.ishl, 1) := by decide +kernel
theorem dX11_legsOf_117 : decode cX11_legsOf 117 = .ok (.goto 4, 3) := by decide +kernel
theorem dX11_legsOf_120 : decode cX11_legsOf 120 = .ok (.iconst 0, 1) := by decide +kernel
theorem dX11_legsOf_121 : decode cX11_legsOf 121 = .ok (.ior, 1) := by decide +kernel
theorem dX11_legsOf_122 : decode cX11_legsOf 122 = .ok (.istore_n 2, 1) := by decide +kernel
theorem dX11_legsOf_123 : decode cX11_legsOf 123 = .ok (.iinc 3 1, 3) := by decide +kernel
theorem dX11_legsOf_126 : decode cX11_legsOf 126 = .ok (.goto (-122), 3) := by decide +kernel
theorem dX11_legsOf_129 : decode cX11_legsOf 129 = .ok (.iload_n 2, 1) := by decide +kernel
theorem dX11_legsOf_13 : decode cX11_legsOf 13 = .ok (.iconst 0, 1) := by decide +kernel
theorem dX11_legsOf_130 : decode cX11_legsOf 130 = .ok (.ireturn, 1) := by decide +kernel
theorem dX11_legsOf_14 : decode cX11_legsOf 14 = .ok (.istore 5, 2) := by decide +kernel
theorem dX11_legsOf_16 : decode cX11_legsOf 16 = .ok (.iload 5, 2) := by decide +kernel
theorem dX11_legsOf_18 : decode cX11_legsOf 18 = .ok (.aload_n 0, 1) := by decide +kernel
theorem dX11_legsOf_19 : decode cX11_legsOf 19 = .ok (.getfield 7, 3) := by decide +kernel
theorem dX11_legsOf_2 : decode cX11_legsOf 2 = .ok (.iconst 1, 1) := by decide +kernel
theorem dX11_legsOf_22 : decode cX11_legsOf 22 = .ok (.iconst 1, 1) := by decide +kernel
theorem dX11_legsOf_23 : decode cX11_legsOf 23 = .ok (.iaload, 1) := by decide +kernel
theorem dX11_legsOf_24 : decode cX11_legsOf 24 = .ok (.if_icmp .ge 84, 3) := by decide +kernel
theorem dX11_legsOf_27 : decode cX11_legsOf 27 = .ok (.bipush 55, 2) := by decide +kernel
theorem dX11_legsOf_29 : decode cX11_legsOf 29 = .ok (.iconst 4, 1) := by decide +kernel
theorem dX11_legsOf_3 : decode cX11_legsOf 3 = .ok (.istore_n 3, 1) := by decide +kernel
theorem dX11_legsOf_30 : decode cX11_legsOf 30 = .ok (.iload 5, 2) := by decide +kernel
theorem dX11_legsOf_32 : decode cX11_legsOf 32 = .ok (.imul, 1) := by decide +kernel
theorem dX11_legsOf_33 : decode cX11_legsOf 33 = .ok (.iadd, 1) := by decide +kernel
theorem dX11_legsOf_34 : decode cX11_legsOf 34 = .ok (.istore 6, 2) := by decide +kernel
theorem dX11_legsOf_36 : decode cX11_legsOf 36 = .ok (.iload 4, 2) := by decide +kernel
theorem dX11_legsOf_38 : decode cX11_legsOf 38 = .ok (.ifCond .eq 61, 3) := by decide +kernel
theorem dX11_legsOf_4 : decode cX11_legsOf 4 = .ok (.iload_n 3, 1) := by decide +kernel
theorem dX11_legsOf_41 : decode cX11_legsOf 41 = .ok (.aload_n 0, 1) := by decide +kernel
theorem dX11_legsOf_42 : decode cX11_legsOf 42 = .ok (.getfield 7, 3) := by decide +kernel
theorem dX11_legsOf_45 : decode cX11_legsOf 45 = .ok (.iload 6, 2) := by decide +kernel
theorem dX11_legsOf_47 : decode cX11_legsOf 47 = .ok (.iaload, 1) := by decide +kernel
theorem dX11_legsOf_48 : decode cX11_legsOf 48 = .ok (.iload_n 1, 1) := by decide +kernel
theorem dX11_legsOf_49 : decode cX11_legsOf 49 = .ok (.if_icmp .ne 46, 3) := by decide +kernel
theorem dX11_legsOf_5 : decode cX11_legsOf 5 = .ok (.bipush 10, 2) := by decide +kernel
theorem dX11_legsOf_52 : decode cX11_legsOf 52 = .ok (.aload_n 0, 1) := by decide +kernel
theorem dX11_legsOf_53 : decode cX11_legsOf 53 = .ok (.getfield 7, 3) := by decide +kernel
theorem dX11_legsOf_56 : decode cX11_legsOf 56 = .ok (.bipush 37, 2) := by decide +kernel
theorem dX11_legsOf_58 : decode cX11_legsOf 58 = .ok (.iload_n 1, 1) := by decide +kernel
theorem dX11_legsOf_59 : decode cX11_legsOf 59 = .ok (.iadd, 1) := by decide +kernel
theorem dX11_legsOf_60 : decode cX11_legsOf 60 = .ok (.iaload, 1) := by decide +kernel
theorem dX11_legsOf_61 : decode cX11_legsOf 61 = .ok (.iload_n 3, 1) := by decide +kernel
theorem dX11_legsOf_62 : decode cX11_legsOf 62 = .ok (.aload_n 0, 1) := by decide +kernel
theorem dX11_legsOf_63 : decode cX11_legsOf 63 = .ok (.getfield 7, 3) := by decide +kernel
theorem dX11_legsOf_66 : decode cX11_legsOf 66 = .ok (.iload 6, 2) := by decide +kernel
theorem dX11_legsOf_68 : decode cX11_legsOf 68 = .ok (.iconst 2, 1) := by decide +kernel
theorem dX11_legsOf_69 : decode cX11_legsOf 69 = .ok (.iadd, 1) := by decide +kernel
theorem dX11_legsOf_7 : decode cX11_legsOf 7 = .ok (.if_icmp .ge 122, 3) := by decide +kernel
theorem dX11_legsOf_70 : decode cX11_legsOf 70 = .ok (.iaload, 1) := by decide +kernel
theorem dX11_legsOf_71 : decode cX11_legsOf 71 = .ok (.aload_n 0, 1) := by decide +kernel
theorem dX11_legsOf_72 : decode cX11_legsOf 72 = .ok (.getfield 7, 3) := by decide +kernel
theorem dX11_legsOf_75 : decode cX11_legsOf 75 = .ok (.iload 6, 2) := by decide +kernel
theorem dX11_legsOf_77 : decode cX11_legsOf 77 = .ok (.iconst 1, 1) := by decide +kernel
theorem dX11_legsOf_78 : decode cX11_legsOf 78 = .ok (.iadd, 1) := by decide +kernel
theorem dX11_legsOf_79 : decode cX11_legsOf 79 = .ok (.iaload, 1) := by decide +kernel
theorem dX11_legsOf_80 : decode cX11_legsOf 80 = .ok (.invokestatic 86, 3) := by decide +kernel
theorem dX11_legsOf_83 : decode cX11_legsOf 83 = .ok (.aload_n 0, 1) := by decide +kernel
theorem dX11_legsOf_84 : decode cX11_legsOf 84 = .ok (.getfield 7, 3) := by decide +kernel
theorem dX11_legsOf_87 : decode cX11_legsOf 87 = .ok (.iload 6, 2) := by decide +kernel
theorem dX11_legsOf_89 : decode cX11_legsOf 89 = .ok (.iconst 3, 1) := by decide +kernel
theorem dX11_legsOf_90 : decode cX11_legsOf 90 = .ok (.iadd, 1) := by decide +kernel
theorem dX11_legsOf_91 : decode cX11_legsOf 91 = .ok (.iaload, 1) := by decide +kernel
theorem dX11_legsOf_92 : decode cX11_legsOf 92 = .ok (.if_icmp .ne 7, 3) := by decide +kernel
theorem dX11_legsOf_95 : decode cX11_legsOf 95 = .ok (.iconst 1, 1) := by decide +kernel
theorem dX11_legsOf_96 : decode cX11_legsOf 96 = .ok (.goto 4, 3) := by decide +kernel
theorem dX11_legsOf_99 : decode cX11_legsOf 99 = .ok (.iconst 0, 1) := by decide +kernel
theorem dX11_look_0 : decode cX11_look 0 = .ok (.aload_n 0, 1) := by decide +kernel
theorem dX11_look_1 : decode cX11_look 1 = .ok (.iload_n 1, 1) := by decide +kernel
theorem dX11_look_100 : decode cX11_look 100 = .ok (.if_icmp .ge 8, 3) := by decide +kernel
theorem dX11_look_103 : decode cX11_look 103 = .ok (.iload 5, 2) := by decide +kernel
theorem dX11_look_105 : decode cX11_look 105 = .ok (.goto 4, 3) := by decide +kernel
theorem dX11_look_108 : decode cX11_look 108 = .ok (.iload_n 3, 1) := by decide +kernel
theorem dX11_look_109 : decode cX11_look 109 = .ok (.istore_n 3, 1) := by decide +kernel
theorem dX11_look_11 : decode cX11_look 11 = .ok (.invokevirtual 68, 3) := by decide +kernel
theorem dX11_look_110 : decode cX11_look 110 = .ok (.iload 6, 2) := by decide +kernel
theorem dX11_look_112 : decode cX11_look 112 = .ok (.iload 4, 2) := by decide +kernel
theorem dX11_look_114 : decode cX11_look 114 = .ok (.if_icmp .ge 8, 3) := by decide +kernel
theorem dX11_look_117 : decode cX11_look 117 = .ok (.iload 6, 2) := by decide +kernel
theorem dX11_look_119 : decode cX11_look 119 = .ok (.goto 5, 3) := by decide +kernel
theorem dX11_look_122 : decode cX11_look 122 = .ok (.iload 4, 2) := by decide +kernel
theorem dX11_look_124 : decode cX11_look 124 = .ok (.istore 4, 2) := by decide +kernel
theorem dX11_look_126 : decode cX11_look 126 = .ok (.iinc 5 1, 3) := by decide +kernel
theorem dX11_look_129 : decode cX11_look 129 = .ok (.goto (-99), 3) := by decide +kernel
theorem dX11_look_132 : decode cX11_look 132 = .ok (.iload_n 3, 1) := by decide +kernel
theorem dX11_look_133 : decode cX11_look 133 = .ok (.ireturn, 1) := by decide +kernel
theorem dX11_look_14 : decode cX11_look 14 = .ok (.ireturn, 1) := by decide +kernel
theorem dX11_look_15 : decode cX11_look 15 = .ok (.aload_n 0, 1) := by decide +kernel
theorem dX11_look_16 : decode cX11_look 16 = .ok (.iload_n 1, 1) := by decide +kernel
theorem dX11_look_17 : decode cX11_look 17 = .ok (.invokevirtual 168, 3) := by decide +kernel
theorem dX11_look_2 : decode cX11_look 2 = .ok (.invokevirtual 123, 3) := by decide +kernel
theorem dX11_look_20 : decode cX11_look 20 = .ok (.istore_n 2, 1) := by decide +kernel
theorem dX11_look_21 : decode cX11_look 21 = .ok (.iconst (-1), 1) := by decide +kernel
theorem dX11_look_22 : decode cX11_look 22 = .ok (.istore_n 3, 1) := by decide +kernel
theorem dX11_look_23 : decode cX11_look 23 = .ok (.ldc 150, 2) := by decide +kernel
theorem dX11_look_25 : decode cX11_look 25 = .ok (.istore 4, 2) := by decide +kernel
theorem dX11_look_27 : decode cX11_look 27 = .ok (.iconst 0, 1) := by decide +kernel
theorem dX11_look_28 : decode cX11_look 28 = .ok (.istore 5, 2) := by decide +kernel
theorem dX11_look_30 : decode cX11_look 30 = .ok (.iload 5, 2) := by decide +kernel
theorem dX11_look_32 : decode cX11_look 32 = .ok (.sipush 200, 3) := by decide +kernel
theorem dX11_look_35 : decode cX11_look 35 = .ok (.if_icmp .ge 97, 3) := by decide +kernel
theorem dX11_look_38 : decode cX11_look 38 = .ok (.iload_n 2, 1) := by decide +kernel
theorem dX11_look_39 : decode cX11_look 39 = .ok (.ifCond .le 93, 3) := by decide +kernel
theorem dX11_look_42 : decode cX11_look 42 = .ok (.iconst 0, 1) := by decide +kernel
theorem dX11_look_43 : decode cX11_look 43 = .ok (.istore 6, 2) := by decide +kernel
theorem dX11_look_45 : decode cX11_look 45 = .ok (.iload 6, 2) := by decide +kernel
theorem dX11_look_47 : decode cX11_look 47 = .ok (.bipush 6, 2) := by decide +kernel
theorem dX11_look_49 : decode cX11_look 49 = .ok (.if_icmp .ge 40, 3) := by decide +kernel
theorem dX11_look_5 : decode cX11_look 5 = .ok (.ifCond .ne 10, 3) := by decide +kernel
theorem dX11_look_52 : decode cX11_look 52 = .ok (.aload_n 0, 1) := by decide +kernel
theorem dX11_look_53 : decode cX11_look 53 = .ok (.getfield 33, 3) := by decide +kernel
theorem dX11_look_56 : decode cX11_look 56 = .ok (.iload 6, 2) := by decide +kernel
theorem dX11_look_58 : decode cX11_look 58 = .ok (.iload 6, 2) := by decide +kernel
theorem dX11_look_60 : decode cX11_look 60 = .ok (.aload_n 0, 1) := by decide +kernel
theorem dX11_look_61 : decode cX11_look 61 = .ok (.getfield 7, 3) := by decide +kernel
theorem dX11_look_64 : decode cX11_look 64 = .ok (.bipush 43, 2) := by decide +kernel
theorem dX11_look_66 : decode cX11_look 66 = .ok (.iload_n 1, 1) := by decide +kernel
theorem dX11_look_67 : decode cX11_look 67 = .ok (.iadd, 1) := by decide +kernel
theorem dX11_look_68 : decode cX11_look 68 = .ok (.iaload, 1) := by decide +kernel
theorem dX11_look_69 : decode cX11_look 69 = .ok (.iload 5, 2) := by decide +kernel
theorem dX11_look_71 : decode cX11_look 71 = .ok (.bipush 10, 2) := by decide +kernel
theorem dX11_look_73 : decode cX11_look 73 = .ok (.irem, 1) := by decide +kernel
theorem dX11_look_74 : decode cX11_look 74 = .ok (.iload 5, 2) := by decide +kernel
theorem dX11_look_76 : decode cX11_look 76 = .ok (.bipush 10, 2) := by decide +kernel
theorem dX11_look_78 : decode cX11_look 78 = .ok (.idiv, 1) := by decide +kernel
theorem dX11_look_79 : decode cX11_look 79 = .ok (.invokestatic 86, 3) := by decide +kernel
theorem dX11_look_8 : decode cX11_look 8 = .ok (.aload_n 0, 1) := by decide +kernel
theorem dX11_look_82 : decode cX11_look 82 = .ok (.iastore, 1) := by decide +kernel
theorem dX11_look_83 : decode cX11_look 83 = .ok (.iinc 6 1, 3) := by decide +kernel
theorem dX11_look_86 : decode cX11_look 86 = .ok (.goto (-41), 3) := by decide +kernel
theorem dX11_look_89 : decode cX11_look 89 = .ok (.aload_n 0, 1) := by decide +kernel
theorem dX11_look_9 : decode cX11_look 9 = .ok (.bipush (-2), 2) := by decide +kernel
theorem dX11_look_90 : decode cX11_look 90 = .ok (.iload_n 2, 1) := by decide +kernel
theorem dX11_look_91 : decode cX11_look 91 = .ok (.invokevirtual 165, 3) := by decide +kernel
theorem dX11_look_94 : decode cX11_look 94 = .ok (.istore 6, 2) := by decide +kernel
theorem dX11_look_96 : decode cX11_look 96 = .ok (.iload 6, 2) := by decide +kernel
theorem dX11_look_98 : decode cX11_look 98 = .ok (.iload 4, 2) := by decide +kernel
theorem dX11_mostAlike_0 : decode cX11_mostAlike 0 = .ok (.iconst 0, 1) := by decide +kernel
theorem dX11_mostAlike_1 : decode cX11_mostAlike 1 = .ok (.istore_n 2, 1) := by decide +kernel
theorem dX11_mostAlike_10 : decode cX11_mostAlike 10 = .ok (.iconst 0, 1) := by decide +kernel
theorem dX11_mostAlike_11 : decode cX11_mostAlike 11 = .ok (.istore 4, 2) := by decide +kernel
theorem dX11_mostAlike_13 : decode cX11_mostAlike 13 = .ok (.iconst 0, 1) := by decide +kernel
theorem dX11_mostAlike_14 : decode cX11_mostAlike 14 = .ok (.istore 5, 2) := by decide +kernel
theorem dX11_mostAlike_16 : decode cX11_mostAlike 16 = .ok (.iload 5, 2) := by decide +kernel
theorem dX11_mostAlike_18 : decode cX11_mostAlike 18 = .ok (.bipush 10, 2) := by decide +kernel
theorem dX11_mostAlike_2 : decode cX11_mostAlike 2 = .ok (.iconst 0, 1) := by decide +kernel
theorem dX11_mostAlike_20 : decode cX11_mostAlike 20 = .ok (.if_icmp .ge 52, 3) := by decide +kernel
theorem dX11_mostAlike_23 : decode cX11_mostAlike 23 = .ok (.iload_n 1, 1) := by decide +kernel
theorem dX11_mostAlike_24 : decode cX11_mostAlike 24 = .ok (.iload_n 3, 1) := by decide +kernel
theorem dX11_mostAlike_25 : decode cX11_mostAlike 25 = .ok (.invokestatic 161, 3) := by decide +kernel
theorem dX11_mostAlike_28 : decode cX11_mostAlike 28 = .ok (.ifCond .eq 44, 3) := by decide +kernel
theorem dX11_mostAlike_3 : decode cX11_mostAlike 3 = .ok (.istore_n 3, 1) := by decide +kernel
theorem dX11_mostAlike_31 : decode cX11_mostAlike 31 = .ok (.iload 4, 2) := by decide +kernel
theorem dX11_mostAlike_33 : decode cX11_mostAlike 33 = .ok (.iload_n 1, 1) := by decide +kernel
theorem dX11_mostAlike_34 : decode cX11_mostAlike 34 = .ok (.iload 5, 2) := by decide +kernel
theorem dX11_mostAlike_36 : decode cX11_mostAlike 36 = .ok (.invokestatic 161, 3) := by decide +kernel
theorem dX11_mostAlike_39 : decode cX11_mostAlike 39 = .ok (.ifCond .eq 23, 3) := by decide +kernel
theorem dX11_mostAlike_4 : decode cX11_mostAlike 4 = .ok (.iload_n 3, 1) := by decide +kernel
theorem dX11_mostAlike_42 : decode cX11_mostAlike 42 = .ok (.aload_n 0, 1) := by decide +kernel
theorem dX11_mostAlike_43 : decode cX11_mostAlike 43 = .ok (.getfield 33, 3) := by decide +kernel
theorem dX11_mostAlike_46 : decode cX11_mostAlike 46 = .ok (.iload_n 3, 1) := by decide +kernel
theorem dX11_mostAlike_47 : decode cX11_mostAlike 47 = .ok (.iaload, 1) := by decide +kernel
theorem dX11_mostAlike_48 : decode cX11_mostAlike 48 = .ok (.aload_n 0, 1) := by decide +kernel
theorem dX11_mostAlike_49 : decode cX11_mostAlike 49 = .ok (.getfield 33, 3) := by decide +kernel
theorem dX11_mostAlike_5 : decode cX11_mostAlike 5 = .ok (.bipush 10, 2) := by decide +kernel
theorem dX11_mostAlike_52 : decode cX11_mostAlike 52 = .ok (.iload 5, 2) := by decide +kernel
theorem dX11_mostAlike_54 : decode cX11_mostAlike 54 = .ok (.iaload, 1) := by decide +kernel
theorem dX11_mostAlike_55 : decode cX11_mostAlike 55 = .ok (.if_icmp .ne 7, 3) := by decide +kernel
theorem dX11_mostAlike_58 : decode cX11_mostAlike 58 = .ok (.iconst 1, 1) := by decide +kernel
theorem dX11_mostAlike_59 : decode cX11_mostAlike 59 = .ok (.goto 4, 3) := by decide +kernel
theorem dX11_mostAlike_62 : decode cX11_mostAlike 62 = .ok (.iconst 0, 1) := by decide +kernel
theorem dX11_mostAlike_63 : decode cX11_mostAlike 63 = .ok (.iadd, 1) := by decide +kernel
theorem dX11_mostAlike_64 : decode cX11_mostAlike 64 = .ok (.istore 4, 2) := by decide +kernel
theorem dX11_mostAlike_66 : decode cX11_mostAlike 66 = .ok (.iinc 5 1, 3) := by decide +kernel
theorem dX11_mostAlike_69 : decode cX11_mostAlike 69 = .ok (.goto (-53), 3) := by decide +kernel
theorem dX11_mostAlike_7 : decode cX11_mostAlike 7 = .ok (.if_icmp .ge 84, 3) := by decide +kernel
theorem dX11_mostAlike_72 : decode cX11_mostAlike 72 = .ok (.iload 4, 2) := by decide +kernel
theorem dX11_mostAlike_74 : decode cX11_mostAlike 74 = .ok (.iload_n 2, 1) := by decide +kernel
theorem dX11_mostAlike_75 : decode cX11_mostAlike 75 = .ok (.if_icmp .le 8, 3) := by decide +kernel
theorem dX11_mostAlike_78 : decode cX11_mostAlike 78 = .ok (.iload 4, 2) := by decide +kernel
theorem dX11_mostAlike_80 : decode cX11_mostAlike 80 = .ok (.goto 4, 3) := by decide +kernel
theorem dX11_mostAlike_83 : decode cX11_mostAlike 83 = .ok (.iload_n 2, 1) := by decide +kernel
theorem dX11_mostAlike_84 : decode cX11_mostAlike 84 = .ok (.istore_n 2, 1) := by decide +kernel
theorem dX11_mostAlike_85 : decode cX11_mostAlike 85 = .ok (.iinc 3 1, 3) := by decide +kernel
theorem dX11_mostAlike_88 : decode cX11_mostAlike 88 = .ok (.goto (-84), 3) := by decide +kernel
theorem dX11_mostAlike_91 : decode cX11_mostAlike 91 = .ok (.iload_n 2, 1) := by decide +kernel
theorem dX11_mostAlike_92 : decode cX11_mostAlike 92 = .ok (.ireturn, 1) := by decide +kernel
theorem dX11_strong_0 : decode cX11_strong 0 = .ok (.aload_n 0, 1) := by decide +kernel
theorem dX11_strong_1 : decode cX11_strong 1 = .ok (.iload_n 1, 1) := by decide +kernel
theorem dX11_strong_10 : decode cX11_strong 10 = .ok (.lconst 0, 1) := by decide +kernel
theorem dX11_strong_102 : decode cX11_strong 102 = .ok (.iload 5, 2) := by decide +kernel
theorem dX11_strong_104 : decode cX11_strong 104 = .ok (.goto 5, 3) := by decide +kernel
theorem dX11_strong_107 : decode cX11_strong 107 = .ok (.iload 6, 2) := by decide +kernel
theorem dX11_strong_109 : decode cX11_strong 109 = .ok (.ireturn, 1) := by decide +kernel
theorem dX11_strong_11 : decode cX11_strong 11 = .ok (.ldc2_w 156, 3) := by decide +kernel
theorem dX11_strong_14 : decode cX11_strong 14 = .ok (.invokestatic 56, 3) := by decide +kernel
theorem dX11_strong_17 : decode cX11_strong 17 = .ok (.ifCond .ne 10, 3) := by decide +kernel
theorem dX11_strong_2 : decode cX11_strong 2 = .ok (.invokevirtual 123, 3) := by decide +kernel
theorem dX11_strong_20 : decode cX11_strong 20 = .ok (.aload_n 0, 1) := by decide +kernel
theorem dX11_strong_21 : decode cX11_strong 21 = .ok (.bipush (-2), 2) := by decide +kernel
theorem dX11_strong_23 : decode cX11_strong 23 = .ok (.invokevirtual 68, 3) := by decide +kernel
theorem dX11_strong_26 : decode cX11_strong 26 = .ok (.ireturn, 1) := by decide +kernel
theorem dX11_strong_27 : decode cX11_strong 27 = .ok (.aload_n 0, 1) := by decide +kernel
theorem dX11_strong_28 : decode cX11_strong 28 = .ok (.iload_n 1, 1) := by decide +kernel
theorem dX11_strong_29 : decode cX11_strong 29 = .ok (.invokevirtual 158, 3) := by decide +kernel
theorem dX11_strong_32 : decode cX11_strong 32 = .ok (.istore_n 3, 1) := by decide +kernel
theorem dX11_strong_33 : decode cX11_strong 33 = .ok (.iconst 0, 1) := by decide +kernel
theorem dX11_strong_34 : decode cX11_strong 34 = .ok (.istore 4, 2) := by decide +kernel
theorem dX11_strong_36 : decode cX11_strong 36 = .ok (.iconst (-1), 1) := by decide +kernel
theorem dX11_strong_37 : decode cX11_strong 37 = .ok (.istore 5, 2) := by decide +kernel
theorem dX11_strong_39 : decode cX11_strong 39 = .ok (.iconst (-1), 1) := by decide +kernel
theorem dX11_strong_40 : decode cX11_strong 40 = .ok (.istore 6, 2) := by decide +kernel
theorem dX11_strong_42 : decode cX11_strong 42 = .ok (.iconst 1, 1) := by decide +kernel
theorem dX11_strong_43 : decode cX11_strong 43 = .ok (.istore 7, 2) := by decide +kernel
theorem dX11_strong_45 : decode cX11_strong 45 = .ok (.iload 7, 2) := by decide +kernel
theorem dX11_strong_47 : decode cX11_strong 47 = .ok (.bipush 10, 2) := by decide +kernel
theorem dX11_strong_49 : decode cX11_strong 49 = .ok (.if_icmp .ge 39, 3) := by decide +kernel
theorem dX11_strong_5 : decode cX11_strong 5 = .ok (.ifCond .eq 15, 3) := by decide +kernel
theorem dX11_strong_52 : decode cX11_strong 52 = .ok (.iload_n 3, 1) := by decide +kernel
theorem dX11_strong_53 : decode cX11_strong 53 = .ok (.iload 7, 2) := by decide +kernel
theorem dX11_strong_55 : decode cX11_strong 55 = .ok (.invokestatic 161, 3) := by decide +kernel
theorem dX11_strong_58 : decode cX11_strong 58 = .ok (.ifCond .eq 24, 3) := by decide +kernel
theorem dX11_strong_61 : decode cX11_strong 61 = .ok (.iload 4, 2) := by decide +kernel
theorem dX11_strong_63 : decode cX11_strong 63 = .ok (.ifCond .ne 8, 3) := by decide +kernel
theorem dX11_strong_66 : decode cX11_strong 66 = .ok (.iload 7, 2) := by decide +kernel
theorem dX11_strong_68 : decode cX11_strong 68 = .ok (.goto 5, 3) := by decide +kernel
theorem dX11_strong_71 : decode cX11_strong 71 = .ok (.iload 5, 2) := by decide +kernel
theorem dX11_strong_73 : decode cX11_strong 73 = .ok (.istore 5, 2) := by decide +kernel
theorem dX11_strong_75 : decode cX11_strong 75 = .ok (.iload 7, 2) := by decide +kernel
theorem dX11_strong_77 : decode cX11_strong 77 = .ok (.istore 6, 2) := by decide +kernel
theorem dX11_strong_79 : decode cX11_strong 79 = .ok (.iinc 4 1, 3) := by decide +kernel
theorem dX11_strong_8 : decode cX11_strong 8 = .ok (.iload_n 2, 1) := by decide +kernel
theorem dX11_strong_82 : decode cX11_strong 82 = .ok (.iinc 7 1, 3) := by decide +kernel
theorem dX11_strong_85 : decode cX11_strong 85 = .ok (.goto (-40), 3) := by decide +kernel
theorem dX11_strong_88 : decode cX11_strong 88 = .ok (.iload_n 2, 1) := by decide +kernel
theorem dX11_strong_89 : decode cX11_strong 89 = .ok (.ifCond .ne 8, 3) := by decide +kernel
theorem dX11_strong_9 : decode cX11_strong 9 = .ok (.i2l, 1) := by decide +kernel
theorem dX11_strong_92 : decode cX11_strong 92 = .ok (.iload 4, 2) := by decide +kernel
theorem dX11_strong_94 : decode cX11_strong 94 = .ok (.goto 15, 3) := by decide +kernel
theorem dX11_strong_97 : decode cX11_strong 97 = .ok (.iload_n 2, 1) := by decide +kernel
theorem dX11_strong_98 : decode cX11_strong 98 = .ok (.iconst 1, 1) := by decide +kernel
theorem dX11_strong_99 : decode cX11_strong 99 = .ok (.if_icmp .ne 8, 3) := by decide +kernel
theorem dX11_tell_0 : decode cX11_tell 0 = .ok (.aload_n 0, 1) := by decide +kernel
theorem dX11_tell_1 : decode cX11_tell 1 = .ok (.iload_n 1, 1) := by decide +kernel
theorem dX11_tell_100 : decode cX11_tell 100 = .ok (.if_icmp .ge 8, 3) := by decide +kernel
theorem dX11_tell_103 : decode cX11_tell 103 = .ok (.iload 5, 2) := by decide +kernel
theorem dX11_tell_105 : decode cX11_tell 105 = .ok (.goto 4, 3) := by decide +kernel
theorem dX11_tell_108 : decode cX11_tell 108 = .ok (.iload_n 3, 1) := by decide +kernel
theorem dX11_tell_109 : decode cX11_tell 109 = .ok (.istore_n 3, 1) := by decide +kernel
theorem dX11_tell_11 : decode cX11_tell 11 = .ok (.invokevirtual 68, 3) := by decide +kernel
theorem dX11_tell_110 : decode cX11_tell 110 = .ok (.iload 6, 2) := by decide +kernel
theorem dX11_tell_112 : decode cX11_tell 112 = .ok (.iload 4, 2) := by decide +kernel
theorem dX11_tell_114 : decode cX11_tell 114 = .ok (.if_icmp .ge 8, 3) := by decide +kernel
theorem dX11_tell_117 : decode cX11_tell 117 = .ok (.iload 6, 2) := by decide +kernel
theorem dX11_tell_119 : decode cX11_tell 119 = .ok (.goto 5, 3) := by decide +kernel
theorem dX11_tell_122 : decode cX11_tell 122 = .ok (.iload 4, 2) := by decide +kernel
theorem dX11_tell_124 : decode cX11_tell 124 = .ok (.istore 4, 2) := by decide +kernel
theorem dX11_tell_126 : decode cX11_tell 126 = .ok (.iinc 5 1, 3) := by decide +kernel
theorem dX11_tell_129 : decode cX11_tell 129 = .ok (.goto (-99), 3) := by decide +kernel
theorem dX11_tell_132 : decode cX11_tell 132 = .ok (.iload_n 3, 1) := by decide +kernel
theorem dX11_tell_133 : decode cX11_tell 133 = .ok (.ireturn, 1) := by decide +kernel
theorem dX11_tell_14 : decode cX11_tell 14 = .ok (.ireturn, 1) := by decide +kernel
theorem dX11_tell_15 : decode cX11_tell 15 = .ok (.aload_n 0, 1) := by decide +kernel
theorem dX11_tell_16 : decode cX11_tell 16 = .ok (.iload_n 1, 1) := by decide +kernel
theorem dX11_tell_17 : decode cX11_tell 17 = .ok (.invokevirtual 158, 3) := by decide +kernel
theorem dX11_tell_2 : decode cX11_tell 2 = .ok (.invokevirtual 123, 3) := by decide +kernel
theorem dX11_tell_20 : decode cX11_tell 20 = .ok (.istore_n 2, 1) := by decide +kernel
theorem dX11_tell_21 : decode cX11_tell 21 = .ok (.iconst (-1), 1) := by decide +kernel
theorem dX11_tell_22 : decode cX11_tell 22 = .ok (.istore_n 3, 1) := by decide +kernel
theorem dX11_tell_23 : decode cX11_tell 23 = .ok (.ldc 150, 2) := by decide +kernel
theorem dX11_tell_25 : decode cX11_tell 25 = .ok (.istore 4, 2) := by decide +kernel
theorem dX11_tell_27 : decode cX11_tell 27 = .ok (.iconst 0, 1) := by decide +kernel
theorem dX11_tell_28 : decode cX11_tell 28 = .ok (.istore 5, 2) := by decide +kernel
theorem dX11_tell_30 : decode cX11_tell 30 = .ok (.iload 5, 2) := by decide +kernel
theorem dX11_tell_32 : decode cX11_tell 32 = .ok (.sipush 200, 3) := by decide +kernel
theorem dX11_tell_35 : decode cX11_tell 35 = .ok (.if_icmp .ge 97, 3) := by decide +kernel
theorem dX11_tell_38 : decode cX11_tell 38 = .ok (.iload_n 2, 1) := by decide +kernel
theorem dX11_tell_39 : decode cX11_tell 39 = .ok (.ifCond .le 93, 3) := by decide +kernel
theorem dX11_tell_42 : decode cX11_tell 42 = .ok (.iconst 1, 1) := by decide +kernel
theorem dX11_tell_43 : decode cX11_tell 43 = .ok (.istore 6, 2) := by decide +kernel
theorem dX11_tell_45 : decode cX11_tell 45 = .ok (.iload 6, 2) := by decide +kernel
theorem dX11_tell_47 : decode cX11_tell 47 = .ok (.bipush 10, 2) := by decide +kernel
theorem dX11_tell_49 : decode cX11_tell 49 = .ok (.if_icmp .ge 40, 3) := by decide +kernel
theorem dX11_tell_5 : decode cX11_tell 5 = .ok (.ifCond .ne 10, 3) := by decide +kernel
theorem dX11_tell_52 : decode cX11_tell 52 = .ok (.aload_n 0, 1) := by decide +kernel
theorem dX11_tell_53 : decode cX11_tell 53 = .ok (.getfield 33, 3) := by decide +kernel
theorem dX11_tell_56 : decode cX11_tell 56 = .ok (.iload 6, 2) := by decide +kernel
theorem dX11_tell_58 : decode cX11_tell 58 = .ok (.aload_n 0, 1) := by decide +kernel
theorem dX11_tell_59 : decode cX11_tell 59 = .ok (.getfield 7, 3) := by decide +kernel
theorem dX11_tell_62 : decode cX11_tell 62 = .ok (.bipush 37, 2) := by decide +kernel
theorem dX11_tell_64 : decode cX11_tell 64 = .ok (.iload_n 1, 1) := by decide +kernel
theorem dX11_tell_65 : decode cX11_tell 65 = .ok (.iadd, 1) := by decide +kernel
theorem dX11_tell_66 : decode cX11_tell 66 = .ok (.iaload, 1) := by decide +kernel
theorem dX11_tell_67 : decode cX11_tell 67 = .ok (.iload 6, 2) := by decide +kernel
theorem dX11_tell_69 : decode cX11_tell 69 = .ok (.iload 5, 2) := by decide +kernel
theorem dX11_tell_71 : decode cX11_tell 71 = .ok (.bipush 10, 2) := by decide +kernel
theorem dX11_tell_73 : decode cX11_tell 73 = .ok (.irem, 1) := by decide +kernel
theorem dX11_tell_74 : decode cX11_tell 74 = .ok (.iload 5, 2) := by decide +kernel
theorem dX11_tell_76 : decode cX11_tell 76 = .ok (.bipush 10, 2) := by decide +kernel
theorem dX11_tell_78 : decode cX11_tell 78 = .ok (.idiv, 1) := by decide +kernel
theorem dX11_tell_79 : decode cX11_tell 79 = .ok (.invokestatic 86, 3) := by decide +kernel
theorem dX11_tell_8 : decode cX11_tell 8 = .ok (.aload_n 0, 1) := by decide +kernel
theorem dX11_tell_82 : decode cX11_tell 82 = .ok (.iastore, 1) := by decide +kernel
theorem dX11_tell_83 : decode cX11_tell 83 = .ok (.iinc 6 1, 3) := by decide +kernel
theorem dX11_tell_86 : decode cX11_tell 86 = .ok (.goto (-41), 3) := by decide +kernel
theorem dX11_tell_89 : decode cX11_tell 89 = .ok (.aload_n 0, 1) := by decide +kernel
theorem dX11_tell_9 : decode cX11_tell 9 = .ok (.bipush (-2), 2) := by decide +kernel
theorem dX11_tell_90 : decode cX11_tell 90 = .ok (.iload_n 2, 1) := by decide +kernel
theorem dX11_tell_91 : decode cX11_tell 91 = .ok (.invokevirtual 165, 3) := by decide +kernel
theorem dX11_tell_94 : decode cX11_tell 94 = .ok (.istore 6, 2) := by decide +kernel
theorem dX11_tell_96 : decode cX11_tell 96 = .ok (.iload 6, 2) := by decide +kernel
theorem dX11_tell_98 : decode cX11_tell 98 = .ok (.iload 4, 2) := by decide +kernel
theorem in_X11_legsOf_X11 : ∀ w ∈ wsX110, w ∈ wsX11_legsOf := by decide +kernel
theorem lk_X11_legsOf_7 : Cond.fieldLink RX11 7 "EggSpoonsModel" "all" "[I" ∈ wsX11_legsOf := by decide +kernel
set_option maxHeartbeats 4000000 in
set_option maxRecDepth 100000 in
/-- legsOf -/
theorem m_legsOf (l : Launch) (X : EX) (m0 : Nat) (ma : Nat → Nat) (la : Int64) (lb : Int64) (n : Nat) (t : Nat → Nat) (v : Nat → Int32) (fa : Nat → Int32) (c0 : Nat) (c1 : Nat) (c2 : Nat) (c3 : Nat) (c4 : Nat) (i : Nat) (hI_n : n ≤ 150) (hI_t : InT t) (hI_fa : InA fa c0 c1 c2 c3 c4) (h6 : i < 6) (sz : Nat) : Met l yX11_legsOf wsX11_legsOf ({ frames := 1, cells := 0, slots := 0, locals := 26 } : Room) (pE X [.ref m0, .int (nI i)] (@HAppend.hAppend va_W va_W va_W _ (mW m0 ma la lb n t v) ([((ma 0), .inl (X.2.1, 371, .inl fa))])) sz) (qI (fun (r : Int32) (u : Unit) => True) X (fun (u : Unit) => []) [] sz) 0 0 (va_A [] sz) := by
  refine mk_met (B := (fun _ => True)) (A := (va_A [] sz)) (cc := cX11_legsOf) (maxL := 7) (ret := (some .int)) (by decide) rfl (Nat.le_of_ble_eq_true rfl) k_ro k_a (fun p e s m below meth c S zr zlk znm zsz G ls hl => ?_)
  have S : CallFix p m c cX11_legsOf 7 s _ wsX11_legsOf RX11 := S
  have zx := S.1
  have zb := S.2.1
  have hl : lv_has ls 7 [(0, .ref m0), (1, .int (nI i))] := hl
  have hO_t := hI_t
  obtain ⟨ht0_t, ht1_t⟩ := hO_t
  have hO_fa := hI_fa.2
  obtain ⟨hm0_fa, hm1_fa, hm2_fa, hm3_fa, hm4_fa⟩ := hO_fa
  refine lv_iconst (v := 0) zx zb dX11_legsOf_0 (by decide) ?_
  refine lv_istore_n (lv' := [(2, .int 0), (0, .ref m0), (1, .int (nI i))]) zx zb dX11_legsOf_1 rfl hl (by decide) rfl (fun ls hl => ?_)
  refine lv_iconst (v := 1) zx zb dX11_legsOf_2 (by decide) ?_
  refine lv_istore_n (lv' := [(3, .int 1), (2, .int 0), (0, .ref m0), (1, .int (nI i))]) zx zb dX11_legsOf_3 rfl hl (by decide) rfl (fun ls hl => ?_)
  refine k_loop (P := ∀ (zm : Nat) (k4 : Nat) (x4_2 : Int32) (H : Heap) (locs : List Loc) (ls : Array Slot), 10 + 1 ≤ k4 + zm → (k4 ≤ 10) → wd X (fun _ => True) (va_A [] sz) s (@HAppend.hAppend va_W va_W va_W _ (mW m0 ma la lb n t v) ([((ma 0), .inl (X.2.1, 371, .inl fa))])) H locs → lv_has ls 7 [(3, .int (nI k4)), (2, .int x4_2), (0, .ref m0), (1, .int (nI i))] → W p l e _ s m _ below meth c H locs _ _ _ (F0 m 4 ls [])) (fun loop => loop (10 + 1) 1 0 _ _ _ (by omega) (by omega) G hl) ?_
  intro zm
  induction zm with
  | zero => intro k4 x4_2 H locs ls zz q_hk_k4 _ _; exact absurd zz (by omega)
  | succ zm ih4 =>
    intro k4 x4_2 H locs ls zm_4 hk_k4 G hl
    refine lv_iload_n zx zb dX11_legsOf_4 rfl (lv_at hl 0 rfl) ?_
    refine lv_bipush (v := 10) zx zb dX11_legsOf_5 (by decide) ?_
    refine lv_icmp_ge (tgt := 129) zx zb dX11_legsOf_7 (by decide) (fun c_1 => ?_) (fun c_1 => ?_)
    · have fc_1 := j_le (a := 10) (b := k4) (by omega) (by omega) c_1
      refine lv_iload_n zx zb dX11_legsOf_129 rfl (lv_at hl 1 rfl) ?_
      exact e_int S zr zlk (vp_nar_int _) G () [] rfl rfl (Or.inl rfl) (trivial) dX11_legsOf_130
    · have fc_1 := j_nle (a := 10) (b := k4) (by omega) (by omega) c_1
      refine lv_iconst (v := 1) zx zb dX11_legsOf_10 (by decide) ?_
      refine lv_istore (lv' := [(4, .int 1), (3, .int (nI k4)), (2, .int x4_2), (0, .ref m0), (1, .int (nI i))]) zx zb dX11_legsOf_11 hl (by decide) rfl (fun ls hl => ?_)
      refine lv_iconst (v := 0) zx zb dX11_legsOf_13 (by decide) ?_
      refine lv_istore (lv' := [(5, .int 0), (4, .int 1), (3, .int (nI k4)), (2, .int x4_2), (0, .ref m0), (1, .int (nI i))]) zx zb dX11_legsOf_14 hl (by decide) rfl (fun ls hl => ?_)
      refine k_loop (P := ∀ (zm : Nat) (k16 : Nat) (x16_4 : Int32) (H : Heap) (locs : List Loc) (ls : Array Slot), c1 + 1 ≤ k16 + zm → (k16 ≤ c1) → wd X (fun _ => True) (va_A [] sz) s (@HAppend.hAppend va_W va_W va_W _ (mW m0 ma la lb n t v) ([((ma 0), .inl (X.2.1, 371, .inl fa))])) H locs → lv_has ls 7 [(5, .int (nI k16)), (4, .int x16_4), (3, .int (nI k4)), (2, .int x4_2), (0, .ref m0), (1, .int (nI i))] → W p l e _ s m _ below meth c H locs _ _ _ (F0 m 16 ls [])) (fun loop => loop (c1 + 1) 0 1 _ _ _ (by omega) (by omega) G hl) ?_
      intro zm
      induction zm with
      | zero => intro k16 x16_4 H locs ls zz q_hk_k16 _ _; exact absurd zz (by omega)
      | succ zm ih16 =>
        intro k16 x16_4 H locs ls zm_16 hk_k16 G hl
        refine lv_iload zx zb dX11_legsOf_16 (lv_at hl 0 rfl) ?_
        refine lv_aload_n zx zb dX11_legsOf_18 rfl (lv_at hl 4 rfl) ?_
        refine r_get (C := RX11) (T := TX11) (N := 18) (ci := 9) (v := .ref (ma 0)) S in_X11_legsOf_X11 G 0 rfl rfl 0 (by decide) lk_X11_legsOf_7 rfl dX11_legsOf_19 ?_
        refine lv_iconst (v := 1) zx zb dX11_legsOf_22 (by decide) ?_
        refine r_iald (v := (nI c1)) S G 1 rfl (k_vp (by decide)) hI_fa.1.2.1 dX11_legsOf_23 ?_
        refine lv_icmp_ge (tgt := 108) zx zb dX11_legsOf_24 (by decide) (fun c_3 => ?_) (fun c_3 => ?_)
        · have fc_3 := j_le (a := c1) (b := k16) (by omega) (by omega) c_3
          refine lv_iload_n zx zb dX11_legsOf_108 rfl (lv_at hl 3 rfl) ?_
          refine lv_iload zx zb dX11_legsOf_109 (lv_at hl 1 rfl) ?_
          refine k_cutW (PP := fun Wx => ∀ (x_5 : Int32) (H : Heap) (locs : List Loc) (ls : Array Slot), wd X (fun _ => True) (va_A [] sz) s (@HAppend.hAppend va_W va_W va_W _ (mW m0 ma la lb n t v) ([((ma 0), .inl (X.2.1, 371, .inl fa))])) H locs → lv_has ls 7 [(5, .int (nI k16)), (4, .int x16_4), (3, .int (nI k4)), (2, .int x4_2), (0, .ref m0), (1, .int (nI i))] → Wx (F0 m 121 ls [.int x_5, .int x4_2]) H locs) ?_ ?_
          · intro join_111
            refine lv_if_eq (tgt := 120) zx zb dX11_legsOf_111 (by decide) (fun c_4 => ?_) (fun c_4 => ?_)
            · refine lv_iconst (v := 0) zx zb dX11_legsOf_120 (by decide) ?_
              exact join_111 0 _ _ _  G hl
            · refine lv_iconst (v := 1) zx zb dX11_legsOf_114 (by decide) ?_
              refine lv_iload_n zx zb dX11_legsOf_115 rfl (lv_at hl 2 rfl) ?_
              refine lv_ishl zx zb dX11_legsOf_116 ?_
              refine k_itE (fun y_6 => ?_)
              refine lv_goto (tgt := 121) zx zb dX11_legsOf_117 (by decide) ?_
              exact join_111 y_6 _ _ _  G hl
          · intro x_5 H locs ls  G hl
            refine lv_ior zx zb dX11_legsOf_121 ?_
            refine k_itE (fun y_7 => ?_)
            refine lv_istore_n (lv' := [(2, .int y_7), (5, .int (nI k16)), (4, .int x16_4), (3, .int (nI k4)), (0, .ref m0), (1, .int (nI i))]) zx zb dX11_legsOf_122 rfl hl (by decide) rfl (fun ls hl => ?_)
            refine lv_iinc (v := (nI (k4 + 1))) (lv' := [(3, .int (nI (k4 + 1))), (2, .int y_7), (5, .int (nI k16)), (4, .int x16_4), (0, .ref m0), (1, .int (nI i))]) zx zb dX11_legsOf_123 hl (k := 3) rfl (nI_add k4 1) (by decide) rfl (fun ls hl => ?_)
            refine lv_goto (tgt := 4) zx zb dX11_legsOf_126 (by decide) ?_
            have hl := lv_sub hl (l' := [(3, .int (nI (k4 + 1))), (2, .int y_7), (0, .ref m0), (1, .int (nI i))]) [0, 1, 4, 5] rfl
            exact ih4 (k4 + 1) y_7 _ _ _ (by omega) (by omega) G hl
        · have fc_3 := j_nle (a := c1) (b := k16) (by omega) (by omega) c_3
          refine lv_bipush (v := 55) zx zb dX11_legsOf_27 (by decide) ?_
          refine lv_iconst (v := 4) zx zb dX11_legsOf_29 (by decide) ?_
          refine lv_iload zx zb dX11_legsOf_30 (lv_at hl 0 rfl) ?_
          refine r_imul (v := (nI (4 * k16))) S (pk_mul 4 k16) dX11_legsOf_32 ?_
          refine r_iadd (v := (nI (55 + (4 * k16)))) S (nI_add 55 (4 * k16)) dX11_legsOf_33 ?_
          refine lv_istore (lv' := [(6, .int (nI (55 + (4 * k16)))), (5, .int (nI k16)), (4, .int x16_4), (3, .int (nI k4)), (2, .int x4_2), (0, .ref m0), (1, .int (nI i))]) zx zb dX11_legsOf_34 hl (by decide) rfl (fun ls hl => ?_)
          refine lv_iload zx zb dX11_legsOf_36 (lv_at hl 2 rfl) ?_
          refine k_cutW (PP := fun Wx => ∀ (x_9 : Int32) (H : Heap) (locs : List Loc) (ls : Array Slot), (x_9 = 0 ∨ x_9 = 1) → wd X (fun _ => True) (va_A [] sz) s (@HAppend.hAppend va_W va_W va_W _ (mW m0 ma la lb n t v) ([((ma 0), .inl (X.2.1, 371, .inl fa))])) H locs → lv_has ls 7 [(6, .int (nI (55 + (4 * k16)))), (5, .int (nI k16)), (4, .int x16_4), (3, .int (nI k4)), (2, .int x4_2), (0, .ref m0), (1, .int (nI i))] → Wx (F0 m 100 ls [.int x_9]) H locs) ?_ ?_
          · intro join_38
            refine lv_if_eq (tgt := 99) zx zb dX11_legsOf_38 (by decide) (fun c_8 => ?_) (fun c_8 => ?_)
            · refine lv_iconst (v := 0) zx zb dX11_legsOf_99 (by decide) ?_
              exact join_38 0 _ _ _ (by first | assumption | exact Or.inl rfl | exact Or.inr rfl) G hl
            · refine lv_aload_n zx zb dX11_legsOf_41 rfl (lv_at hl 5 rfl) ?_
              refine r_get (C := RX11) (T := TX11) (N := 18) (ci := 9) (v := .ref (ma 0)) S in_X11_legsOf_X11 G 0 rfl rfl 0 (by decide) lk_X11_legsOf_7 rfl dX11_legsOf_42 ?_
              refine lv_iload zx zb dX11_legsOf_45 (lv_at hl 0 rfl) ?_
              refine r_iald S G 1 rfl (vp_in_nI (by omega) (by decide)) rfl dX11_legsOf_47 ?_
              refine k_itE (fun y_10 => ?_)
              refine lv_iload_n zx zb dX11_legsOf_48 rfl (lv_at hl 6 rfl) ?_
              refine lv_icmp_ne (tgt := 95) zx zb dX11_legsOf_49 (by decide) (fun c_11 => ?_) (fun c_11 => ?_)
              · refine lv_iconst (v := 1) zx zb dX11_legsOf_95 (by decide) ?_
                refine lv_goto (tgt := 100) zx zb dX11_legsOf_96 (by decide) ?_
                exact join_38 1 _ _ _ (by first | assumption | exact Or.inl rfl | exact Or.inr rfl) G hl
              · refine lv_aload_n zx zb dX11_legsOf_52 rfl (lv_at hl 5 rfl) ?_
                refine r_get (C := RX11) (T := TX11) (N := 18) (ci := 9) (v := .ref (ma 0)) S in_X11_legsOf_X11 G 0 rfl rfl 0 (by decide) lk_X11_legsOf_7 rfl dX11_legsOf_53 ?_
                refine lv_bipush (v := 37) zx zb dX11_legsOf_56 (by decide) ?_
                refine lv_iload_n zx zb dX11_legsOf_58 rfl (lv_at hl 6 rfl) ?_
                refine r_iadd (v := (nI (37 + i))) S (nI_add 37 i) dX11_legsOf_59 ?_
                refine r_iald S G 1 rfl (vp_in_nI (by omega) (by decide)) rfl dX11_legsOf_60 ?_
                refine k_itE (fun y_12 => ?_)
                refine lv_iload_n zx zb dX11_legsOf_61 rfl (lv_at hl 3 rfl) ?_
                refine lv_aload_n zx zb dX11_legsOf_62 rfl (lv_at hl 5 rfl) ?_
                refine r_get (C := RX11) (T := TX11) (N := 18) (ci := 9) (v := .ref (ma 0)) S in_X11_legsOf_X11 G 0 rfl rfl 0 (by decide) lk_X11_legsOf_7 rfl dX11_legsOf_63 ?_
                refine lv_iload zx zb dX11_legsOf_66 (lv_at hl 0 rfl) ?_
                refine lv_iconst (v := 2) zx zb dX11_legsOf_68 (by decide) ?_
                refine r_iadd (v := (nI ((55 + (4 * k16)) + 2))) S (nI_add (55 + (4 * k16)) 2) dX11_legsOf_69 ?_
                refine r_iald S G 1 rfl (vp_in_nI (by omega) (by decide)) rfl dX11_legsOf_70 ?_
                refine k_itE (fun y_13 => ?_)
                refine lv_aload_n zx zb dX11_legsOf_71 rfl (lv_at hl 5 rfl) ?_
                refine r_get (C := RX11) (T := TX11) (N := 18) (ci := 9) (v := .ref (ma 0)) S in_X11_legsOf_X11 G 0 rfl rfl 0 (by decide) lk_X11_legsOf_7 rfl dX11_legsOf_72 ?_
                refine lv_iload zx zb dX11_legsOf_75 (lv_at hl 0 rfl) ?_
                refine lv_iconst (v := 1) zx zb dX11_legsOf_77 (by decide) ?_
                refine r_iadd (v := (nI ((55 + (4 * k16)) + 1))) S (nI_add (55 + (4 * k16)) 1) dX11_legsOf_78 ?_
                refine r_iald S G 1 rfl (vp_in_nI (by omega) (by decide)) rfl dX11_legsOf_79 ?_
                refine k_itE (fun y_14 => ?_)
                refine o_ri (cells' := 0) (slots' := 0) G rfl rfl (n_S (As := [.int y_12, .int (nI k4), .int y_13, .int y_14]) (rest := []) S G (m_runsAs l X y_12 (nI k4) y_13 y_14 H.size) gX11_legsOf_X11_runsAs rfl rfl rfl hdS_X11_runsAs ⟨Nat.le_of_ble_eq_true rfl, Nat.le_of_ble_eq_true rfl⟩ [] rfl rfl rfl hl.1 (Nat.le_of_ble_eq_true rfl) dX11_legsOf_80 ⟨Nat.le_of_ble_eq_true rfl, Nat.le_of_ble_eq_true rfl⟩) (fun r_15 u_15 H locs hp_15 G => ?_)
                have G : wd X (fun _ => True) (va_A [] sz) s (@HAppend.hAppend va_W va_W va_W _ (mW m0 ma la lb n t v) ([((ma 0), .inl (X.2.1, 371, .inl fa))])) H locs := G
                refine lv_aload_n zx zb dX11_legsOf_83 rfl (lv_at hl 5 rfl) ?_
                refine r_get (C := RX11) (T := TX11) (N := 18) (ci := 9) (v := .ref (ma 0)) S in_X11_legsOf_X11 G 0 rfl rfl 0 (by decide) lk_X11_legsOf_7 rfl dX11_legsOf_84 ?_
                refine lv_iload zx zb dX11_legsOf_87 (lv_at hl 0 rfl) ?_
                refine lv_iconst (v := 3) zx zb dX11_legsOf_89 (by decide) ?_
                refine r_iadd (v := (nI ((55 + (4 * k16)) + 3))) S (nI_add (55 + (4 * k16)) 3) dX11_legsOf_90 ?_
                refine r_iald S G 1 rfl (vp_in_nI (by omega) (by decide)) rfl dX11_legsOf_91 ?_
                refine k_itE (fun y_16 => ?_)
                refine lv_icmp_ne (tgt := 99) zx zb dX11_legsOf_92 (by decide) (fun c_17 => ?_) (fun c_17 => ?_)
                · refine lv_iconst (v := 0) zx zb dX11_legsOf_99 (by decide) ?_
                  exact join_38 0 _ _ _ (by first | assumption | exact Or.inl rfl | exact Or.inr rfl) G hl
                · refine lv_iconst (v := 1) zx zb dX11_legsOf_95 (by decide) ?_
                  refine lv_goto (tgt := 100) zx zb dX11_legsOf_96 (by decide) ?_
                  exact join_38 1 _ _ _ (by first | assumption | exact Or.inl rfl | exact Or.inr rfl) G hl
          · intro x_9 H locs ls hk_x_9 G hl
            refine lv_istore (lv' := [(4, .int x_9), (6, .int (nI (55 + (4 * k16)))), (5, .int (nI k16)), (3, .int (nI k4)), (2, .int x4_2), (0, .ref m0), (1, .int (nI i))]) zx zb dX11_legsOf_100 hl (by decide) rfl (fun ls hl => ?_)
            refine lv_iinc (v := (nI (k16 + 1))) (lv' := [(5, .int (nI (k16 + 1))), (4, .int x_9), (6, .int (nI (55 + (4 * k16)))), (3, .int (nI k4)), (2, .int x4_2), (0, .ref m0), (1, .int (nI i))]) zx zb dX11_legsOf_102 hl (k := 2) rfl (nI_add k16 1) (by decide) rfl (fun ls hl => ?_)
            refine lv_goto (tgt := 16) zx zb dX11_legsOf_105 (by decide) ?_
            have hl := lv_sub hl (l' := [(5, .int (nI (k16 + 1))), (4, .int x_9), (3, .int (nI k4)), (2, .int x4_2), (0, .ref m0), (1, .int (nI i))]) [0, 1, 3, 4, 5, 6] rfl
            exact ih16 (k16 + 1) x_9 _ _ _ (by omega) (by omega) G hl
theorem mm_X11_strong_c156 : Cond.constantLong RX11 156 (2) ∈ wsX11_strong := by decide +kernel
theorem hdV_X11_legsOf : yX11_legsOf.cls = RX11 ∧ yX11_legsOf.cls ≠ "java/lang/invoke/MethodHandle" ∧ yX11_legsOf.cls ≠ "java/lang/invoke/VarHandle" ∧ (parseMethodDescriptor yX11_legsOf.desc).map (fun d => d.parameters.length) = some 1 := by decide +kernel
theorem hdS_X11_has : yX11_has.cls ≠ "java/lang/invoke/MethodHandle" ∧ yX11_has.cls ≠ "java/lang/invoke/VarHandle" ∧ (parseMethodDescriptor yX11_has.desc).map (fun d => d.parameters.length) = some 2 := by decide +kernel
set_option maxHeartbeats 4000000 in
set_option maxRecDepth 100000 in
/-- strong -/
theorem m_strong (l : Launch) (X : EX) (m0 : Nat) (ma : Nat → Nat) (la : Int64) (lb : Int64) (n : Nat) (t : Nat → Nat) (v : Nat → Int32) (fa : Nat → Int32) (c0 : Nat) (c1 : Nat) (c2 : Nat) (c3 : Nat) (c4 : Nat) (fr : Nat → Int32) (x1 : Int32) (x2 : Int32) (hI_n : n ≤ 150) (hI_t : InT t) (hI_fa : InA fa c0 c1 c2 c3 c4) (sz : Nat) : Met l yX11_strong wsX11_strong ({ frames := 2, cells := 0, slots := 0, locals := 52 } : Room) (pE X [.ref m0, .int x1, .int x2] (@HAppend.hAppend va_W va_W va_W _ (mW m0 ma la lb n t v) (@HAppend.hAppend va_W va_W va_W _ ([((ma 0), .inl (X.2.1, 371, .inl fa))]) ([((ma 3), .inl (X.2.1, 3, .inl fr))]))) sz) (qI (fun (r : Int32) (u : (Nat → Int32)) => (True)) X (fun (u : (Nat → Int32)) => @HAppend.hAppend va_W va_W va_W _ (mW m0 ma la lb n t v) (@HAppend.hAppend va_W va_W va_W _ ([((ma 0), .inl (X.2.1, 371, .inl fa))]) ([((ma 3), .inl (X.2.1, 3, .inl u))]))) (@HAppend.hAppend va_W va_W va_W _ (mW m0 ma la lb n t v) (@HAppend.hAppend va_W va_W va_W _ ([((ma 0), .inl (X.2.1, 371, .inl fa))]) ([((ma 3), .inl (X.2.1, 3, .inl fr))]))) sz) 0 0 (va_A (@HAppend.hAppend va_W va_W va_W _ (mW m0 ma la lb n t v) (@HAppend.hAppend va_W va_W va_W _ ([((ma 0), .inl (X.2.1, 371, .inl fa))]) ([((ma 3), .inl (X.2.1, 3, .inl fr))]))) sz) := by
  refine mk_met (B := (va_A (@HAppend.hAppend va_W va_W va_W _ (mW m0 ma la lb n t v) (@HAppend.hAppend va_W va_W va_W _ ([((ma 0), .inl (X.2.1, 371, .inl fa))]) ([((ma 3), .inl (X.2.1, 3, .inl fr))]))) sz)) (A := (va_A (@HAppend.hAppend va_W va_W va_W _ (mW m0 ma la lb n t v) (@HAppend.hAppend va_W va_W va_W _ ([((ma 0), .inl (X.2.1, 371, .inl fa))]) ([((ma 3), .inl (X.2.1, 3, .inl fr))]))) sz)) (cc := cX11_strong) (maxL := 8) (ret := (some .int)) (by decide) rfl (Nat.le_of_ble_eq_true rfl) k_w k_a (fun p e s m below meth c S zr zlk znm zsz G ls hl => ?_)
  have S : CallFix p m c cX11_strong 8 s _ wsX11_strong RX11 := S
  have zx := S.1
  have zb := S.2.1
  have hl : lv_has ls 8 [(0, .ref m0), (1, .int x1), (2, .int x2)] := hl
  have hO_t := hI_t
  obtain ⟨ht0_t, ht1_t⟩ := hO_t
  have hO_fa := hI_fa.2
  obtain ⟨hm0_fa, hm1_fa, hm2_fa, hm3_fa, hm4_fa⟩ := hO_fa
  refine lv_aload_n zx zb dX11_strong_0 rfl (lv_at hl 0 rfl) ?_
  refine lv_iload_n zx zb dX11_strong_1 rfl (lv_at hl 1 rfl) ?_
  refine o_ri (cells' := 0) (slots' := 0) G rfl rfl (n_V (As := [.int x1]) (rest := []) (C := RX11) (T := TX11) (N := 18) (ci := 9) S G (m_isOne l X m0 ma la lb n t v fa c0 c1 c2 c3 c4 x1 hI_n hI_t hI_fa s.heap.size) gX11_strong_X11_isOne rfl rfl rfl hdV_X11_isOne ⟨Nat.le_of_ble_eq_true rfl, Nat.le_of_ble_eq_true rfl⟩ [0, 1] rfl rfl 0 rfl rfl rfl hl.1 (Nat.le_of_ble_eq_true rfl) dX11_strong_2 ⟨Nat.le_of_ble_eq_true rfl, Nat.le_of_ble_eq_true rfl⟩) (fun r_1 u_1 H locs hp_1 G => ?_)
  have G : wd X (va_A (@HAppend.hAppend va_W va_W va_W _ (mW m0 ma la lb n t v) (@HAppend.hAppend va_W va_W va_W _ ([((ma 0), .inl (X.2.1, 371, .inl fa))]) ([((ma 3), .inl (X.2.1, 3, .inl fr))]))) sz) (va_A (@HAppend.hAppend va_W va_W va_W _ (mW m0 ma la lb n t v) (@HAppend.hAppend va_W va_W va_W _ ([((ma 0), .inl (X.2.1, 371, .inl fa))]) ([((ma 3), .inl (X.2.1, 3, .inl fr))]))) sz) s (@HAppend.hAppend va_W va_W va_W _ (mW m0 ma la lb n t v) (@HAppend.hAppend va_W va_W va_W _ ([((ma 0), .inl (X.2.1, 371, .inl fa))]) ([((ma 3), .inl (X.2.1, 3, .inl fr))]))) H locs := G
  rcases hp_1 with ⟨rfl, hj_1⟩ | ⟨rfl, hj_1⟩
  · obtain ⟨j_1, hj_1, rfl⟩ := hj_1
    refine lv_if_eq (tgt := 20) zx zb dX11_strong_5 (by decide) (fun c_2 => absurd c_2 (by decide)) (fun c_2 => ?_)
    refine lv_iload_n zx zb dX11_strong_8 rfl (lv_at hl 2 rfl) ?_
    refine lv_i2l (v := (Int32.toInt64 x2)) zx zb dX11_strong_9 rfl ?_
    refine lv_lconst (v := (Int32.toInt64 0)) zx zb dX11_strong_10 (by decide) ?_
    refine lv_ldc2 zx zb S.2.2.2.1 (S.2.2.2.2 _ mm_X11_strong_c156) dX11_strong_11 ?_
    refine k_ld (v := (Int32.toInt64 2)) (by decide) ?_
    refine o_ri (cells' := 0) (slots' := 0) G rfl rfl (n_S (As := [.long (Int32.toInt64 x2), .long (Int32.toInt64 0), .long (Int32.toInt64 2)]) (rest := []) S G (m_in l X x2 0 2 H.size) gX11_strong_X11_in rfl rfl rfl hdS_X11_in ⟨Nat.le_of_ble_eq_true rfl, Nat.le_of_ble_eq_true rfl⟩ [] rfl rfl rfl hl.1 (Nat.le_of_ble_eq_true rfl) dX11_strong_14 ⟨Nat.le_of_ble_eq_true rfl, Nat.le_of_ble_eq_true rfl⟩) (fun r_3 u_3 H locs hp_3 G => ?_)
    have G : wd X (va_A (@HAppend.hAppend va_W va_W va_W _ (mW m0 ma la lb n t v) (@HAppend.hAppend va_W va_W va_W _ ([((ma 0), .inl (X.2.1, 371, .inl fa))]) ([((ma 3), .inl (X.2.1, 3, .inl fr))]))) sz) (va_A (@HAppend.hAppend va_W va_W va_W _ (mW m0 ma la lb n t v) (@HAppend.hAppend va_W va_W va_W _ ([((ma 0), .inl (X.2.1, 371, .inl fa))]) ([((ma 3), .inl (X.2.1, 3, .inl fr))]))) sz) s (@HAppend.hAppend va_W va_W va_W _ (mW m0 ma la lb n t v) (@HAppend.hAppend va_W va_W va_W _ ([((ma 0), .inl (X.2.1, 371, .inl fa))]) ([((ma 3), .inl (X.2.1, 3, .inl fr))]))) H locs := G
    rcases hp_3 with ⟨rfl, hw_3⟩ | ⟨rfl, hw_3⟩
    · obtain ⟨j_3, ⟨ja_3, jb_3⟩, rfl⟩ := k_natR (a := 0) (b := 2) hw_3 rfl rfl (by decide) (by decide)
      refine lv_if_ne (tgt := 27) zx zb dX11_strong_17 (by decide) (fun c_4 => ?_) (fun c_4 => absurd c_4 (by decide))
      refine lv_aload_n zx zb dX11_strong_27 rfl (lv_at hl 0 rfl) ?_
      refine lv_iload_n zx zb dX11_strong_28 rfl (lv_at hl 1 rfl) ?_
      refine o_ri (cells' := 0) (slots' := 0) G rfl rfl (n_V (As := [.int (nI j_1)]) (rest := []) (C := RX11) (T := TX11) (N := 18) (ci := 9) S G (m_legsOf l X m0 ma la lb n t v fa c0 c1 c2 c3 c4 j_1 hI_n hI_t hI_fa (by omega) H.size) gX11_strong_X11_legsOf rfl rfl rfl hdV_X11_legsOf ⟨Nat.le_of_ble_eq_true rfl, Nat.le_of_ble_eq_true rfl⟩ [0, 1] rfl rfl 0 rfl rfl rfl hl.1 (Nat.le_of_ble_eq_true rfl) dX11_strong_29 ⟨Nat.le_of_ble_eq_true rfl, Nat.le_of_ble_eq_true rfl⟩) (fun r_5 u_5 H locs hp_5 G => ?_)
      have G : wd X (va_A (@HAppend.hAppend va_W va_W va_W _ (mW m0 ma la lb n t v) (@HAppend.hAppend va_W va_W va_W _ ([((ma 0), .inl (X.2.1, 371, .inl fa))]) ([((ma 3), .inl (X.2.1, 3, .inl fr))]))) sz) (va_A (@HAppend.hAppend va_W va_W va_W _ (mW m0 ma la lb n t v) (@HAppend.hAppend va_W va_W va_W _ ([((ma 0), .inl (X.2.1, 371, .inl fa))]) ([((ma 3), .inl (X.2.1, 3, .inl fr))]))) sz) s (@HAppend.hAppend va_W va_W va_W _ (mW m0 ma la lb n t v) (@HAppend.hAppend va_W va_W va_W _ ([((ma 0), .inl (X.2.1, 371, .inl fa))]) ([((ma 3), .inl (X.2.1, 3, .inl fr))]))) H locs := G
      refine lv_istore_n (lv' := [(3, .int r_5), (0, .ref m0), (1, .int (nI j_1)), (2, .int (nI j_3))]) zx zb dX11_strong_32 rfl hl (by decide) rfl (fun ls hl => ?_)
      refine lv_iconst (v := 0) zx zb dX11_strong_33 (by decide) ?_
      refine lv_istore (lv' := [(4, .int 0), (3, .int r_5), (0, .ref m0), (1, .int (nI j_1)), (2, .int (nI j_3))]) zx zb dX11_strong_34 hl (by decide) rfl (fun ls hl => ?_)
      refine lv_iconst (v := (-1)) zx zb dX11_strong_36 (by decide) ?_
      refine lv_istore (lv' := [(5, .int (-1)), (4, .int 0), (3, .int r_5), (0, .ref m0), (1, .int (nI j_1)), (2, .int (nI j_3))]) zx zb dX11_strong_37 hl (by decide) rfl (fun ls hl => ?_)
      refine lv_iconst (v := (-1)) zx zb dX11_strong_39 (by decide) ?_
      refine lv_istore (lv' := [(6, .int (-1)), (5, .int (-1)), (4, .int 0), (3, .int r_5), (0, .ref m0), (1, .int (nI j_1)), (2, .int (nI j_3))]) zx zb dX11_strong_40 hl (by decide) rfl (fun ls hl => ?_)
      refine lv_iconst (v := 1) zx zb dX11_strong_42 (by decide) ?_
      refine lv_istore (lv' := [(7, .int 1), (6, .int (-1)), (5, .int (-1)), (4, .int 0), (3, .int r_5), (0, .ref m0), (1, .int (nI j_1)), (2, .int (nI j_3))]) zx zb dX11_strong_43 hl (by decide) rfl (fun ls hl => ?_)
      refine k_loop (P := ∀ (zm : Nat) (k45 : Nat) (x45_6 : Int32) (x45_5 : Int32) (x45_4 : Int32) (H : Heap) (locs : List Loc) (ls : Array Slot), 10 + 1 ≤ k45 + zm → (k45 ≤ 10) → wd X (va_A (@HAppend.hAppend va_W va_W va_W _ (mW m0 ma la lb n t v) (@HAppend.hAppend va_W va_W va_W _ ([((ma 0), .inl (X.2.1, 371, .inl fa))]) ([((ma 3), .inl (X.2.1, 3, .inl fr))]))) sz) (va_A (@HAppend.hAppend va_W va_W va_W _ (mW m0 ma la lb n t v) (@HAppend.hAppend va_W va_W va_W _ ([((ma 0), .inl (X.2.1, 371, .inl fa))]) ([((ma 3), .inl (X.2.1, 3, .inl fr))]))) sz) s (@HAppend.hAppend va_W va_W va_W _ (mW m0 ma la lb n t v) (@HAppend.hAppend va_W va_W va_W _ ([((ma 0), .inl (X.2.1, 371, .inl fa))]) ([((ma 3), .inl (X.2.1, 3, .inl fr))]))) H locs → lv_has ls 8 [(7, .int (nI k45)), (6, .int x45_6), (5, .int x45_5), (4, .int x45_4), (3, .int r_5), (0, .ref m0), (1, .int (nI j_1)), (2, .int (nI j_3))] → W p l e _ s m _ below meth c H locs _ _ _ (F0 m 45 ls [])) (fun loop => loop (10 + 1) 1 (-1) (-1) 0 _ _ _ (by omega) (by omega) G hl) ?_
      intro zm
      induction zm with
      | zero => intro k45 x45_6 x45_5 x45_4 H locs ls zz q_hk_k45 _ _; exact absurd zz (by omega)
      | succ zm ih45 =>
        intro k45 x45_6 x45_5 x45_4 H locs ls zm_45 hk_k45 G hl
        refine lv_iload zx zb dX11_strong_45 (lv_at hl 0 rfl) ?_
        refine lv_bipush (v := 10) zx zb dX11_strong_47 (by decide) ?_
        refine lv_icmp_ge (tgt := 88) zx zb dX11_strong_49 (by decide) (fun c_6 => ?_) (fun c_6 => ?_)
        · have fc_6 := j_le (a := 10) (b := k45) (by omega) (by omega) c_6
          refine lv_iload_n zx zb dX11_strong_88 rfl (lv_at hl 7 rfl) ?_
          refine k_cutW (PP := fun Wx => ∀ (x_8 : Int32) (H : Heap) (locs : List Loc) (ls : Array Slot), wd X (va_A (@HAppend.hAppend va_W va_W va_W _ (mW m0 ma la lb n t v) (@HAppend.hAppend va_W va_W va_W _ ([((ma 0), .inl (X.2.1, 371, .inl fa))]) ([((ma 3), .inl (X.2.1, 3, .inl fr))]))) sz) (va_A (@HAppend.hAppend va_W va_W va_W _ (mW m0 ma la lb n t v) (@HAppend.hAppend va_W va_W va_W _ ([((ma 0), .inl (X.2.1, 371, .inl fa))]) ([((ma 3), .inl (X.2.1, 3, .inl fr))]))) sz) s (@HAppend.hAppend va_W va_W va_W _ (mW m0 ma la lb n t v) (@HAppend.hAppend va_W va_W va_W _ ([((ma 0), .inl (X.2.1, 371, .inl fa))]) ([((ma 3), .inl (X.2.1, 3, .inl fr))]))) H locs → lv_has ls 8 [(7, .int (nI k45)), (6, .int x45_6), (5, .int x45_5), (4, .int x45_4), (3, .int r_5), (0, .ref m0), (1, .int (nI j_1)), (2, .int (nI j_3))] → Wx (F0 m 109 ls [.int x_8]) H locs) ?_ ?_
          · intro join_89
            refine lv_if_ne (tgt := 97) zx zb dX11_strong_89 (by decide) (fun c_7 => ?_) (fun c_7 => ?_)
            · have fc_7 := j_ne (a := j_3) (b := 0) c_7
              refine lv_iload_n zx zb dX11_strong_97 rfl (lv_at hl 7 rfl) ?_
              refine lv_iconst (v := 1) zx zb dX11_strong_98 (by decide) ?_
              refine lv_icmp_ne (tgt := 107) zx zb dX11_strong_99 (by decide) (fun c_9 => ?_) (fun c_9 => ?_)
              · have fc_9 := j_ne (a := j_3) (b := 1) c_9
                refine lv_iload zx zb dX11_strong_107 (lv_at hl 1 rfl) ?_
                exact join_89 x45_6 _ _ _  G hl
              · have fc_9 := j_eq (a := j_3) (b := 1) (by omega) (by omega) c_9
                refine lv_iload zx zb dX11_strong_102 (lv_at hl 2 rfl) ?_
                refine lv_goto (tgt := 109) zx zb dX11_strong_104 (by decide) ?_
                exact join_89 x45_5 _ _ _  G hl
            · have fc_7 := j_eq (a := j_3) (b := 0) (by omega) (by omega) c_7
              refine lv_iload zx zb dX11_strong_92 (lv_at hl 3 rfl) ?_
              refine lv_goto (tgt := 109) zx zb dX11_strong_94 (by decide) ?_
              exact join_89 x45_4 _ _ _  G hl
          · intro x_8 H locs ls  G hl
            exact e_int S zr zlk (vp_nar_int _) G (fr) [0, 1, 2] rfl rfl (Or.inr rfl) (trivial) dX11_strong_109
        · have fc_6 := j_nle (a := 10) (b := k45) (by omega) (by omega) c_6
          refine lv_iload_n zx zb dX11_strong_52 rfl (lv_at hl 4 rfl) ?_
          refine lv_iload zx zb dX11_strong_53 (lv_at hl 0 rfl) ?_
          refine o_ri (cells' := 0) (slots' := 0) G rfl rfl (n_S (As := [.int r_5, .int (nI k45)]) (rest := []) S G (m_has l X r_5 (nI k45) H.size) gX11_strong_X11_has rfl rfl rfl hdS_X11_has ⟨Nat.le_of_ble_eq_true rfl, Nat.le_of_ble_eq_true rfl⟩ [] rfl rfl rfl hl.1 (Nat.le_of_ble_eq_true rfl) dX11_strong_55 ⟨Nat.le_of_ble_eq_true rfl, Nat.le_of_ble_eq_true rfl⟩) (fun r_10 u_10 H locs hp_10 G => ?_)
          have G : wd X (va_A (@HAppend.hAppend va_W va_W va_W _ (mW m0 ma la lb n t v) (@HAppend.hAppend va_W va_W va_W _ ([((ma 0), .inl (X.2.1, 371, .inl fa))]) ([((ma 3), .inl (X.2.1, 3, .inl fr))]))) sz) (va_A (@HAppend.hAppend va_W va_W va_W _ (mW m0 ma la lb n t v) (@HAppend.hAppend va_W va_W va_W _ ([((ma 0), .inl (X.2.1, 371, .inl fa))]) ([((ma 3), .inl (X.2.1, 3, .inl fr))]))) sz) s (@HAppend.hAppend va_W va_W va_W _ (mW m0 ma la lb n t v) (@HAppend.hAppend va_W va_W va_W _ ([((ma 0), .inl (X.2.1, 371, .inl fa))]) ([((ma 3), .inl (X.2.1, 3, .inl fr))]))) H locs := G
          refine k_cutW (PP := fun Wx => ∀ (x_12 : Int32) (x_13 : Int32) (x_14 : Int32) (H : Heap) (locs : List Loc) (ls : Array Slot), wd X (va_A (@HAppend.hAppend va_W va_W va_W _ (mW m0 ma la lb n t v) (@HAppend.hAppend va_W va_W va_W _ ([((ma 0), .inl (X.2.1, 371, .inl fa))]) ([((ma 3), .inl (X.2.1, 3, .inl fr))]))) sz) (va_A (@HAppend.hAppend va_W va_W va_W _ (mW m0 ma la lb n t v) (@HAppend.hAppend va_W va_W va_W _ ([((ma 0), .inl (X.2.1, 371, .inl fa))]) ([((ma 3), .inl (X.2.1, 3, .inl fr))]))) sz) s (@HAppend.hAppend va_W va_W va_W _ (mW m0 ma la lb n t v) (@HAppend.hAppend va_W va_W va_W _ ([((ma 0), .inl (X.2.1, 371, .inl fa))]) ([((ma 3), .inl (X.2.1, 3, .inl fr))]))) H locs → lv_has ls 8 [(7, .int (nI k45)), (6, .int x_12), (5, .int x_13), (4, .int x_14), (3, .int r_5), (0, .ref m0), (1, .int (nI j_1)), (2, .int (nI j_3))] → Wx (F0 m 82 ls []) H locs) ?_ ?_
          · intro join_58
            refine lv_if_eq (tgt := 82) zx zb dX11_strong_58 (by decide) (fun c_11 => ?_) (fun c_11 => ?_)
            · exact join_58 x45_6 x45_5 x45_4 _ _ _  G hl
            · refine lv_iload zx zb dX11_strong_61 (lv_at hl 3 rfl) ?_
              refine k_cutW (PP := fun Wx => ∀ (x_16 : Int32) (H : Heap) (locs : List Loc) (ls : Array Slot), wd X (va_A (@HAppend.hAppend va_W va_W va_W _ (mW m0 ma la lb n t v) (@HAppend.hAppend va_W va_W va_W _ ([((ma 0), .inl (X.2.1, 371, .inl fa))]) ([((ma 3), .inl (X.2.1, 3, .inl fr))]))) sz) (va_A (@HAppend.hAppend va_W va_W va_W _ (mW m0 ma la lb n t v) (@HAppend.hAppend va_W va_W va_W _ ([((ma 0), .inl (X.2.1, 371, .inl fa))]) ([((ma 3), .inl (X.2.1, 3, .inl fr))]))) sz) s (@HAppend.hAppend va_W va_W va_W _ (mW m0 ma la lb n t v) (@HAppend.hAppend va_W va_W va_W _ ([((ma 0), .inl (X.2.1, 371, .inl fa))]) ([((ma 3), .inl (X.2.1, 3, .inl fr))]))) H locs → lv_has ls 8 [(7, .int (nI k45)), (6, .int x45_6), (5, .int x45_5), (4, .int x45_4), (3, .int r_5), (0, .ref m0), (1, .int (nI j_1)), (2, .int (nI j_3))] → Wx (F0 m 73 ls [.int x_16]) H locs) ?_ ?_
              · intro join_63
                refine lv_if_ne (tgt := 71) zx zb dX11_strong_63 (by decide) (fun c_15 => ?_) (fun c_15 => ?_)
                · refine lv_iload zx zb dX11_strong_71 (lv_at hl 2 rfl) ?_
                  exact join_63 x45_5 _ _ _  G hl
                · refine lv_iload zx zb dX11_strong_66 (lv_at hl 0 rfl) ?_
                  refine lv_goto (tgt := 73) zx zb dX11_strong_68 (by decide) ?_
                  exact join_63 (nI k45) _ _ _  G hl
              · intro x_16 H locs ls  G hl
                refine lv_istore (lv' := [(5, .int x_16), (7, .int (nI k45)), (6, .int x45_6), (4, .int x45_4), (3, .int r_5), (0, .ref m0), (1, .int (nI j_1)), (2, .int (nI j_3))]) zx zb dX11_strong_73 hl (by decide) rfl (fun ls hl => ?_)
                refine lv_iload zx zb dX11_strong_75 (lv_at hl 1 rfl) ?_
                refine lv_istore (lv' := [(6, .int (nI k45)), (5, .int x_16), (7, .int (nI k45)), (4, .int x45_4), (3, .int r_5), (0, .ref m0), (1, .int (nI j_1)), (2, .int (nI j_3))]) zx zb dX11_strong_77 hl (by decide) rfl (fun ls hl => ?_)
                refine lv_iinc (v := (x45_4 + 1)) (lv' := [(4, .int (x45_4 + 1)), (6, .int (nI k45)), (5, .int x_16), (7, .int (nI k45)), (3, .int r_5), (0, .ref m0), (1, .int (nI j_1)), (2, .int (nI j_3))]) zx zb dX11_strong_79 hl (k := 3) rfl rfl (by decide) rfl (fun ls hl => ?_)
                have hl := lv_sub hl (l' := [(7, .int (nI k45)), (6, .int (nI k45)), (5, .int x_16), (4, .int (x45_4 + 1)), (3, .int r_5), (0, .ref m0), (1, .int (nI j_1)), (2, .int (nI j_3))]) [3, 1, 2, 0, 4, 5, 6, 7] rfl
                exact join_58 (nI k45) x_16 (x45_4 + 1) _ _ _  G hl
          · intro x_12 x_13 x_14 H locs ls  G hl
            refine lv_iinc (v := (nI (k45 + 1))) (lv' := [(7, .int (nI (k45 + 1))), (6, .int x_12), (5, .int x_13), (4, .int x_14), (3, .int r_5), (0, .ref m0), (1, .int (nI j_1)), (2, .int (nI j_3))]) zx zb dX11_strong_82 hl (k := 0) rfl (nI_add k45 1) (by decide) rfl (fun ls hl => ?_)
            refine lv_goto (tgt := 45) zx zb dX11_strong_85 (by decide) ?_
            exact ih45 (k45 + 1) x_12 x_13 x_14 _ _ _ (by omega) (by omega) G hl
    · refine lv_if_ne (tgt := 27) zx zb dX11_strong_17 (by decide) (fun c_17 => absurd (by decide) c_17) (fun c_17 => ?_)
      refine lv_aload_n zx zb dX11_strong_20 rfl (lv_at hl 0 rfl) ?_
      refine lv_bipush (v := (-2)) zx zb dX11_strong_21 (by decide) ?_
      refine b_wi (cells' := 0) (slots' := 0) (wr := [((ma 0), .inl (X.2.1, 371, .inl fa))]) G rfl rfl [0, 2] [1] rfl rfl rfl rfl (n_V (As := [.int (-2)]) (rest := []) (C := RX11) (T := TX11) (N := 18) (ci := 9) S G (m_bad l X m0 ma la lb n t v fr (-2) hI_n hI_t H.size) gX11_strong_X11_bad rfl rfl rfl hdV_X11_bad ⟨Nat.le_of_ble_eq_true rfl, Nat.le_of_ble_eq_true rfl⟩ [0, 2] rfl rfl 0 rfl rfl rfl hl.1 (Nat.le_of_ble_eq_true rfl) dX11_strong_23 ⟨Nat.le_of_ble_eq_true rfl, Nat.le_of_ble_eq_true rfl⟩) (fun r_18 u_18 H locs hp_18 G => ?_)
      obtain ⟨f_18, rfl⟩ : ∃ z, z = u_18 := ⟨_, rfl⟩
      have hq_18 := hp_18
      have G : wd X (va_A (@HAppend.hAppend va_W va_W va_W _ (mW m0 ma la lb n t v) (@HAppend.hAppend va_W va_W va_W _ ([((ma 0), .inl (X.2.1, 371, .inl fa))]) ([((ma 3), .inl (X.2.1, 3, .inl fr))]))) sz) (va_A (@HAppend.hAppend va_W va_W va_W _ (mW m0 ma la lb n t v) (@HAppend.hAppend va_W va_W va_W _ ([((ma 0), .inl (X.2.1, 371, .inl fa))]) ([((ma 3), .inl (X.2.1, 3, .inl fr))]))) sz) s (@HAppend.hAppend va_W va_W va_W _ ([((ma 0), .inl (X.2.1, 371, .inl fa))]) (@HAppend.hAppend va_W va_W va_W _ (mW m0 ma la lb n t v) ([((ma 3), .inl (X.2.1, 3, .inl f_18))]))) H locs := G
      obtain rfl := hq_18
      exact e_int S zr zlk (vp_nar_int _) G (f_18) [1, 0, 2] rfl rfl (Or.inr rfl) (trivial) dX11_strong_26
  · refine lv_if_eq (tgt := 20) zx zb dX11_strong_5 (by decide) (fun c_19 => ?_) (fun c_19 => absurd (by decide) c_19)
    refine lv_aload_n zx zb dX11_strong_20 rfl (lv_at hl 0 rfl) ?_
    refine lv_bipush (v := (-2)) zx zb dX11_strong_21 (by decide) ?_
    refine b_wi (cells' := 0) (slots' := 0) (wr := [((ma 0), .inl (X.2.1, 371, .inl fa))]) G rfl rfl [0, 2] [1] rfl rfl rfl rfl (n_V (As := [.int (-2)]) (rest := []) (C := RX11) (T := TX11) (N := 18) (ci := 9) S G (m_bad l X m0 ma la lb n t v fr (-2) hI_n hI_t H.size) gX11_strong_X11_bad rfl rfl rfl hdV_X11_bad ⟨Nat.le_of_ble_eq_true rfl, Nat.le_of_ble_eq_true rfl⟩ [0, 2] rfl rfl 0 rfl rfl rfl hl.1 (Nat.le_of_ble_eq_true rfl) dX11_strong_23 ⟨Nat.le_of_ble_eq_true rfl, Nat.le_of_ble_eq_true rfl⟩) (fun r_20 u_20 H locs hp_20 G => ?_)
    obtain ⟨f_20, rfl⟩ : ∃ z, z = u_20 := ⟨_, rfl⟩
    have hq_20 := hp_20
    have G : wd X (va_A (@HAppend.hAppend va_W va_W va_W _ (mW m0 ma la lb n t v) (@HAppend.hAppend va_W va_W va_W _ ([((ma 0), .inl (X.2.1, 371, .inl fa))]) ([((ma 3), .inl (X.2.1, 3, .inl fr))]))) sz) (va_A (@HAppend.hAppend va_W va_W va_W _ (mW m0 ma la lb n t v) (@HAppend.hAppend va_W va_W va_W _ ([((ma 0), .inl (X.2.1, 371, .inl fa))]) ([((ma 3), .inl (X.2.1, 3, .inl fr))]))) sz) s (@HAppend.hAppend va_W va_W va_W _ ([((ma 0), .inl (X.2.1, 371, .inl fa))]) (@HAppend.hAppend va_W va_W va_W _ (mW m0 ma la lb n t v) ([((ma 3), .inl (X.2.1, 3, .inl f_20))]))) H locs := G
    obtain rfl := hq_20
    exact e_int S zr zlk (vp_nar_int _) G (f_20) [1, 0, 2] rfl rfl (Or.inr rfl) (trivial) dX11_strong_26
theorem in_X11_mostAlike_X11 : ∀ w ∈ wsX110, w ∈ wsX11_mostAlike := by decide +kernel
theorem lk_X11_mostAlike_33 : Cond.fieldLink RX11 33 "EggSpoonsModel" "tells" "[I" ∈ wsX11_mostAlike := by decide +kernel
set_option maxHeartbeats 4000000 in
set_option maxRecDepth 100000 in
/-- mostAlike -/
theorem m_mostAlike (l : Launch) (X : EX) (m0 : Nat) (ma : Nat → Nat) (la : Int64) (lb : Int64) (n : Nat) (t : Nat → Nat) (v : Nat → Int32) (ft : Nat → Int32) (x1 : Int32) (hI_n : n ≤ 150) (hI_t : InT t) (sz : Nat) : Met l yX11_mostAlike wsX11_mostAlike ({ frames := 1, cells := 0, slots := 0, locals := 21 } : Room) (pE X [.ref m0, .int x1] (@HAppend.hAppend va_W va_W va_W _ (mW m0 ma la lb n t v) ([((ma 8), .inl (X.2.1, 10, .inl ft))])) sz) (qI (fun (r : Int32) (u : Unit) => True) X (fun (u : Unit) => []) [] sz) 0 0 (va_A [] sz) := by
  refine mk_met (B := (fun _ => True)) (A := (va_A [] sz)) (cc := cX11_mostAlike) (maxL := 6) (ret := (some .int)) (by decide) rfl (Nat.le_of_ble_eq_true rfl) k_ro k_a (fun p e s m below meth c S zr zlk znm zsz G ls hl => ?_)
  have S : CallFix p m c cX11_mostAlike 6 s _ wsX11_mostAlike RX11 := S
  have zx := S.1
  have zb := S.2.1
  have hl : lv_has ls 6 [(0, .ref m0), (1, .int x1)] := hl
  have hO_t := hI_t
  obtain ⟨ht0_t, ht1_t⟩ := hO_t
  refine lv_iconst (v := 0) zx zb dX11_mostAlike_0 (by decide) ?_
  refine lv_istore_n (lv' := [(2, .int 0), (0, .ref m0), (1, .int x1)]) zx zb dX11_mostAlike_1 rfl hl (by decide) rfl (fun ls hl => ?_)
  refine lv_iconst (v := 0) zx zb dX11_mostAlike_2 (by decide) ?_
  refine lv_istore_n (lv' := [(3, .int 0), (2, .int 0), (0, .ref m0), (1, .int x1)]) zx zb dX11_mostAlike_3 rfl hl (by decide) rfl (fun ls hl => ?_)
  refine k_loop (P := ∀ (zm : Nat) (k4 : Nat) (x4_2 : Int32) (H : Heap) (locs : List Loc) (ls : Array Slot), 10 + 1 ≤ k4 + zm → (k4 ≤ 10) → wd X (fun _ => True) (va_A [] sz) s (@HAppend.hAppend va_W va_W va_W _ (mW m0 ma la lb n t v) ([((ma 8), .inl (X.2.1, 10, .inl ft))])) H locs → lv_has ls 6 [(3, .int (nI k4)), (2, .int x4_2), (0, .ref m0), (1, .int x1)] → W p l e _ s m _ below meth c H locs _ _ _ (F0 m 4 ls [])) (fun loop => loop (10 + 1) 0 0 _ _ _ (by omega) (by omega) G hl) ?_
  intro zm
  induction zm with
  | zero => intro k4 x4_2 H locs ls zz q_hk_k4 _ _; exact absurd zz (by omega)
  | succ zm ih4 =>
    intro k4 x4_2 H locs ls zm_4 hk_k4 G hl
    refine lv_iload_n zx zb dX11_mostAlike_4 rfl (lv_at hl 0 rfl) ?_
    refine lv_bipush (v := 10) zx zb dX11_mostAlike_5 (by decide) ?_
    refine lv_icmp_ge (tgt := 91) zx zb dX11_mostAlike_7 (by decide) (fun c_1 => ?_) (fun c_1 => ?_)
    · have fc_1 := j_le (a := 10) (b := k4) (by omega) (by omega) c_1
      refine lv_iload_n zx zb dX11_mostAlike_91 rfl (lv_at hl 1 rfl) ?_
      exact e_int S zr zlk (vp_nar_int _) G () [] rfl rfl (Or.inl rfl) (trivial) dX11_mostAlike_92
    · have fc_1 := j_nle (a := 10) (b := k4) (by omega) (by omega) c_1
      refine lv_iconst (v := 0) zx zb dX11_mostAlike_10 (by decide) ?_
      refine lv_istore (lv' := [(4, .int 0), (3, .int (nI k4)), (2, .int x4_2), (0, .ref m0), (1, .int x1)]) zx zb dX11_mostAlike_11 hl (by decide) rfl (fun ls hl => ?_)
      refine lv_iconst (v := 0) zx zb dX11_mostAlike_13 (by decide) ?_
      refine lv_istore (lv' := [(5, .int 0), (4, .int 0), (3, .int (nI k4)), (2, .int x4_2), (0, .ref m0), (1, .int x1)]) zx zb dX11_mostAlike_14 hl (by decide) rfl (fun ls hl => ?_)
      refine k_loop (P := ∀ (zm : Nat) (k16 : Nat) (x16_4 : Int32) (H : Heap) (locs : List Loc) (ls : Array Slot), 10 + 1 ≤ k16 + zm → (k16 ≤ 10) → wd X (fun _ => True) (va_A [] sz) s (@HAppend.hAppend va_W va_W va_W _ (mW m0 ma la lb n t v) ([((ma 8), .inl (X.2.1, 10, .inl ft))])) H locs → lv_has ls 6 [(5, .int (nI k16)), (4, .int x16_4), (3, .int (nI k4)), (2, .int x4_2), (0, .ref m0), (1, .int x1)] → W p l e _ s m _ below meth c H locs _ _ _ (F0 m 16 ls [])) (fun loop => loop (10 + 1) 0 0 _ _ _ (by omega) (by omega) G hl) ?_
      intro zm
      induction zm with
      | zero => intro k16 x16_4 H locs ls zz q_hk_k16 _ _; exact absurd zz (by omega)
      | succ zm ih16 =>
        intro k16 x16_4 H locs ls zm_16 hk_k16 G hl
        refine lv_iload zx zb dX11_mostAlike_16 (lv_at hl 0 rfl) ?_
        refine lv_bipush (v := 10) zx zb dX11_mostAlike_18 (by decide) ?_
        refine k_cutW (PP := fun Wx => ∀ (H : Heap) (locs : List Loc) (ls : Array Slot), wd X (fun _ => True) (va_A [] sz) s (@HAppend.hAppend va_W va_W va_W _ (mW m0 ma la lb n t v) ([((ma 8), .inl (X.2.1, 10, .inl ft))])) H locs → lv_has ls 6 [(5, .int (nI k16)), (4, .int x16_4), (3, .int (nI k4)), (2, .int x4_2), (0, .ref m0), (1, .int x1)] → Wx (F0 m 72 ls []) H locs) ?_ ?_
        · intro join_20
          refine lv_icmp_ge (tgt := 72) zx zb dX11_mostAlike_20 (by decide) (fun c_2 => ?_) (fun c_2 => ?_)
          · have fc_2 := j_le (a := 10) (b := k16) (by omega) (by omega) c_2
            exact join_20  _ _ _  G hl
          · have fc_2 := j_nle (a := 10) (b := k16) (by omega) (by omega) c_2
            refine lv_iload_n zx zb dX11_mostAlike_23 rfl (lv_at hl 5 rfl) ?_
            refine lv_iload_n zx zb dX11_mostAlike_24 rfl (lv_at hl 2 rfl) ?_
            refine o_ri (cells' := 0) (slots' := 0) G rfl rfl (n_S (As := [.int x1, .int (nI k4)]) (rest := []) S G (m_has l X x1 (nI k4) H.size) gX11_mostAlike_X11_has rfl rfl rfl hdS_X11_has ⟨Nat.le_of_ble_eq_true rfl, Nat.le_of_ble_eq_true rfl⟩ [] rfl rfl rfl hl.1 (Nat.le_of_ble_eq_true rfl) dX11_mostAlike_25 ⟨Nat.le_of_ble_eq_true rfl, Nat.le_of_ble_eq_true rfl⟩) (fun r_3 u_3 H locs hp_3 G => ?_)
            have G : wd X (fun _ => True) (va_A [] sz) s (@HAppend.hAppend va_W va_W va_W _ (mW m0 ma la lb n t v) ([((ma 8), .inl (X.2.1, 10, .inl ft))])) H locs := G
            refine lv_if_eq (tgt := 72) zx zb dX11_mostAlike_28 (by decide) (fun c_4 => ?_) (fun c_4 => ?_)
            · exact join_20  _ _ _  G hl
            · refine lv_iload zx zb dX11_mostAlike_31 (lv_at hl 1 rfl) ?_
              refine lv_iload_n zx zb dX11_mostAlike_33 rfl (lv_at hl 5 rfl) ?_
              refine lv_iload zx zb dX11_mostAlike_34 (lv_at hl 0 rfl) ?_
              refine o_ri (cells' := 0) (slots' := 0) G rfl rfl (n_S (As := [.int x1, .int (nI k16)]) (rest := [.int x16_4]) S G (m_has l X x1 (nI k16) H.size) gX11_mostAlike_X11_has rfl rfl rfl hdS_X11_has ⟨Nat.le_of_ble_eq_true rfl, Nat.le_of_ble_eq_true rfl⟩ [] rfl rfl rfl hl.1 (Nat.le_of_ble_eq_true rfl) dX11_mostAlike_36 ⟨Nat.le_of_ble_eq_true rfl, Nat.le_of_ble_eq_true rfl⟩) (fun r_5 u_5 H locs hp_5 G => ?_)
              have G : wd X (fun _ => True) (va_A [] sz) s (@HAppend.hAppend va_W va_W va_W _ (mW m0 ma la lb n t v) ([((ma 8), .inl (X.2.1, 10, .inl ft))])) H locs := G
              refine k_cutW (PP := fun Wx => ∀ (x_7 : Int32) (H : Heap) (locs : List Loc) (ls : Array Slot), (x_7 = 0 ∨ x_7 = 1) → wd X (fun _ => True) (va_A [] sz) s (@HAppend.hAppend va_W va_W va_W _ (mW m0 ma la lb n t v) ([((ma 8), .inl (X.2.1, 10, .inl ft))])) H locs → lv_has ls 6 [(5, .int (nI k16)), (4, .int x16_4), (3, .int (nI k4)), (2, .int x4_2), (0, .ref m0), (1, .int x1)] → Wx (F0 m 63 ls [.int x_7, .int x16_4]) H locs) ?_ ?_
              · intro join_39
                refine lv_if_eq (tgt := 62) zx zb dX11_mostAlike_39 (by decide) (fun c_6 => ?_) (fun c_6 => ?_)
                · refine lv_iconst (v := 0) zx zb dX11_mostAlike_62 (by decide) ?_
                  exact join_39 0 _ _ _ (by first | assumption | exact Or.inl rfl | exact Or.inr rfl) G hl
                · refine lv_aload_n zx zb dX11_mostAlike_42 rfl (lv_at hl 4 rfl) ?_
                  refine r_get (C := RX11) (T := TX11) (N := 18) (ci := 9) (v := .ref (ma 8)) S in_X11_mostAlike_X11 G 0 rfl rfl 8 (by decide) lk_X11_mostAlike_33 rfl dX11_mostAlike_43 ?_
                  refine lv_iload_n zx zb dX11_mostAlike_46 rfl (lv_at hl 2 rfl) ?_
                  refine r_iald S G 1 rfl (vp_in_nI (by omega) (by decide)) rfl dX11_mostAlike_47 ?_
                  refine k_itE (fun y_8 => ?_)
                  refine lv_aload_n zx zb dX11_mostAlike_48 rfl (lv_at hl 4 rfl) ?_
                  refine r_get (C := RX11) (T := TX11) (N := 18) (ci := 9) (v := .ref (ma 8)) S in_X11_mostAlike_X11 G 0 rfl rfl 8 (by decide) lk_X11_mostAlike_33 rfl dX11_mostAlike_49 ?_
                  refine lv_iload zx zb dX11_mostAlike_52 (lv_at hl 0 rfl) ?_
                  refine r_iald S G 1 rfl (vp_in_nI (by omega) (by decide)) rfl dX11_mostAlike_54 ?_
                  refine k_itE (fun y_9 => ?_)
                  refine lv_icmp_ne (tgt := 62) zx zb dX11_mostAlike_55 (by decide) (fun c_10 => ?_) (fun c_10 => ?_)
                  · refine lv_iconst (v := 0) zx zb dX11_mostAlike_62 (by decide) ?_
                    exact join_39 0 _ _ _ (by first | assumption | exact Or.inl rfl | exact Or.inr rfl) G hl
                  · refine lv_iconst (v := 1) zx zb dX11_mostAlike_58 (by decide) ?_
                    refine lv_goto (tgt := 63) zx zb dX11_mostAlike_59 (by decide) ?_
                    exact join_39 1 _ _ _ (by first | assumption | exact Or.inl rfl | exact Or.inr rfl) G hl
              · intro x_7 H locs ls hk_x_7 G hl
                refine r_iadd (v := (x16_4 + x_7)) S rfl dX11_mostAlike_63 ?_
                refine lv_istore (lv' := [(4, .int (x16_4 + x_7)), (5, .int (nI k16)), (3, .int (nI k4)), (2, .int x4_2), (0, .ref m0), (1, .int x1)]) zx zb dX11_mostAlike_64 hl (by decide) rfl (fun ls hl => ?_)
                refine lv_iinc (v := (nI (k16 + 1))) (lv' := [(5, .int (nI (k16 + 1))), (4, .int (x16_4 + x_7)), (3, .int (nI k4)), (2, .int x4_2), (0, .ref m0), (1, .int x1)]) zx zb dX11_mostAlike_66 hl (k := 1) rfl (nI_add k16 1) (by decide) rfl (fun ls hl => ?_)
                refine lv_goto (tgt := 16) zx zb dX11_mostAlike_69 (by decide) ?_
                exact ih16 (k16 + 1) (x16_4 + x_7) _ _ _ (by omega) (by omega) G hl
        · intro  H locs ls  G hl
          refine lv_iload zx zb dX11_mostAlike_72 (lv_at hl 1 rfl) ?_
          refine lv_iload_n zx zb dX11_mostAlike_74 rfl (lv_at hl 3 rfl) ?_
          refine k_cutW (PP := fun Wx => ∀ (x_12 : Int32) (H : Heap) (locs : List Loc) (ls : Array Slot), wd X (fun _ => True) (va_A [] sz) s (@HAppend.hAppend va_W va_W va_W _ (mW m0 ma la lb n t v) ([((ma 8), .inl (X.2.1, 10, .inl ft))])) H locs → lv_has ls 6 [(5, .int (nI k16)), (4, .int x16_4), (3, .int (nI k4)), (2, .int x4_2), (0, .ref m0), (1, .int x1)] → Wx (F0 m 84 ls [.int x_12]) H locs) ?_ ?_
          · intro join_75
            refine lv_icmp_le (tgt := 83) zx zb dX11_mostAlike_75 (by decide) (fun c_11 => ?_) (fun c_11 => ?_)
            · refine lv_iload_n zx zb dX11_mostAlike_83 rfl (lv_at hl 3 rfl) ?_
              exact join_75 x4_2 _ _ _  G hl
            · refine lv_iload zx zb dX11_mostAlike_78 (lv_at hl 1 rfl) ?_
              refine lv_goto (tgt := 84) zx zb dX11_mostAlike_80 (by decide) ?_
              exact join_75 x16_4 _ _ _  G hl
          · intro x_12 H locs ls  G hl
            refine lv_istore_n (lv' := [(2, .int x_12), (5, .int (nI k16)), (4, .int x16_4), (3, .int (nI k4)), (0, .ref m0), (1, .int x1)]) zx zb dX11_mostAlike_84 rfl hl (by decide) rfl (fun ls hl => ?_)
            refine lv_iinc (v := (nI (k4 + 1))) (lv' := [(3, .int (nI (k4 + 1))), (2, .int x_12), (5, .int (nI k16)), (4, .int x16_4), (0, .ref m0), (1, .int x1)]) zx zb dX11_mostAlike_85 hl (k := 3) rfl (nI_add k4 1) (by decide) rfl (fun ls hl => ?_)
            refine lv_goto (tgt := 4) zx zb dX11_mostAlike_88 (by decide) ?_
            have hl := lv_sub hl (l' := [(3, .int (nI (k4 + 1))), (2, .int x_12), (0, .ref m0), (1, .int x1)]) [0, 1, 4, 5] rfl
            exact ih4 (k4 + 1) x_12 _ _ _ (by omega) (by omega) G hl
theorem in_X11_kindsOfOne_X11 : ∀ w ∈ wsX110, w ∈ wsX11_kindsOfOne := by decide +kernel
theorem lk_X11_kindsOfOne_7 : Cond.fieldLink RX11 7 "EggSpoonsModel" "all" "[I" ∈ wsX11_kindsOfOne := by decide +kernel
set_option maxHeartbeats 4000000 in
set_option maxRecDepth 100000 in
/-- kindsOfOne -/
theorem m_kindsOfOne (l : Launch) (X : EX) (m0 : Nat) (ma : Nat → Nat) (la : Int64) (lb : Int64) (n : Nat) (t : Nat → Nat) (v : Nat → Int32) (fa : Nat → Int32) (c0 : Nat) (c1 : Nat) (c2 : Nat) (c3 : Nat) (c4 : Nat) (x1 : Int32) (hI_n : n ≤ 150) (hI_t : InT t) (hI_fa : InA fa c0 c1 c2 c3 c4) (sz : Nat) : Met l yX11_kindsOfOne wsX11_kindsOfOne ({ frames := 1, cells := 0, slots := 0, locals := 26 } : Room) (pE X [.ref m0, .int x1] (@HAppend.hAppend va_W va_W va_W _ (mW m0 ma la lb n t v) ([((ma 0), .inl (X.2.1, 371, .inl fa))])) sz) (qI (fun (r : Int32) (u : Unit) => True) X (fun (u : Unit) => []) [] sz) 0 0 (va_A [] sz) := by
  refine mk_met (B := (fun _ => True)) (A := (va_A [] sz)) (cc := cX11_kindsOfOne) (maxL := 7) (ret := (some .int)) (by decide) rfl (Nat.le_of_ble_eq_true rfl) k_ro k_a (fun p e s m below meth c S zr zlk znm zsz G ls hl => ?_)
  have S : CallFix p m c cX11_kindsOfOne 7 s _ wsX11_kindsOfOne RX11 := S
  have zx := S.1
  have zb := S.2.1
  have hl : lv_has ls 7 [(0, .ref m0), (1, .int x1)] := hl
  have hO_t := hI_t
  obtain ⟨ht0_t, ht1_t⟩ := hO_t
  have hO_fa := hI_fa.2
  obtain ⟨hm0_fa, hm1_fa, hm2_fa, hm3_fa, hm4_fa⟩ := hO_fa
  refine lv_iconst (v := 0) zx zb dX11_kindsOfOne_0 (by decide) ?_
  refine lv_istore_n (lv' := [(2, .int 0), (0, .ref m0), (1, .int x1)]) zx zb dX11_kindsOfOne_1 rfl hl (by decide) rfl (fun ls hl => ?_)
  refine lv_iconst (v := 0) zx zb dX11_kindsOfOne_2 (by decide) ?_
  refine lv_istore_n (lv' := [(3, .int 0), (2, .int 0), (0, .ref m0), (1, .int x1)]) zx zb dX11_kindsOfOne_3 rfl hl (by decide) rfl (fun ls hl => ?_)
  refine k_loop (P := ∀ (zm : Nat) (k4 : Nat) (x4_2 : Int32) (H : Heap) (locs : List Loc) (ls : Array Slot), 6 + 1 ≤ k4 + zm → (k4 ≤ 6) → wd X (fun _ => True) (va_A [] sz) s (@HAppend.hAppend va_W va_W va_W _ (mW m0 ma la lb n t v) ([((ma 0), .inl (X.2.1, 371, .inl fa))])) H locs → lv_has ls 7 [(3, .int (nI k4)), (2, .int x4_2), (0, .ref m0), (1, .int x1)] → W p l e _ s m _ below meth c H locs _ _ _ (F0 m 4 ls [])) (fun loop => loop (6 + 1) 0 0 _ _ _ (by omega) (by omega) G hl) ?_
  intro zm
  induction zm with
  | zero => intro k4 x4_2 H locs ls zz q_hk_k4 _ _; exact absurd zz (by omega)
  | succ zm ih4 =>
    intro k4 x4_2 H locs ls zm_4 hk_k4 G hl
    refine lv_iload_n zx zb dX11_kindsOfOne_4 rfl (lv_at hl 0 rfl) ?_
    refine lv_bipush (v := 6) zx zb dX11_kindsOfOne_5 (by decide) ?_
    refine lv_icmp_ge (tgt := 129) zx zb dX11_kindsOfOne_7 (by decide) (fun c_1 => ?_) (fun c_1 => ?_)
    · have fc_1 := j_le (a := 6) (b := k4) (by omega) (by omega) c_1
      refine lv_iload_n zx zb dX11_kindsOfOne_129 rfl (lv_at hl 1 rfl) ?_
      exact e_int S zr zlk (vp_nar_int _) G () [] rfl rfl (Or.inl rfl) (trivial) dX11_kindsOfOne_130
    · have fc_1 := j_nle (a := 6) (b := k4) (by omega) (by omega) c_1
      refine lv_iconst (v := 1) zx zb dX11_kindsOfOne_10 (by decide) ?_
      refine lv_istore (lv' := [(4, .int 1), (3, .int (nI k4)), (2, .int x4_2), (0, .ref m0), (1, .int x1)]) zx zb dX11_kindsOfOne_11 hl (by decide) rfl (fun ls hl => ?_)
      refine lv_iconst (v := 0) zx zb dX11_kindsOfOne_13 (by decide) ?_
      refine lv_istore (lv' := [(5, .int 0), (4, .int 1), (3, .int (nI k4)), (2, .int x4_2), (0, .ref m0), (1, .int x1)]) zx zb dX11_kindsOfOne_14 hl (by decide) rfl (fun ls hl => ?_)
      refine k_loop (P := ∀ (zm : Nat) (k16 : Nat) (x16_4 : Int32) (H : Heap) (locs : List Loc) (ls : Array Slot), c2 + 1 ≤ k16 + zm → (k16 ≤ c2) → wd X (fun _ => True) (va_A [] sz) s (@HAppend.hAppend va_W va_W va_W _ (mW m0 ma la lb n t v) ([((ma 0), .inl (X.2.1, 371, .inl fa))])) H locs → lv_has ls 7 [(5, .int (nI k16)), (4, .int x16_4), (3, .int (nI k4)), (2, .int x4_2), (0, .ref m0), (1, .int x1)] → W p l e _ s m _ below meth c H locs _ _ _ (F0 m 16 ls [])) (fun loop => loop (c2 + 1) 0 1 _ _ _ (by omega) (by omega) G hl) ?_
      intro zm
      induction zm with
      | zero => intro k16 x16_4 H locs ls zz q_hk_k16 _ _; exact absurd zz (by omega)
      | succ zm ih16 =>
        intro k16 x16_4 H locs ls zm_16 hk_k16 G hl
        refine lv_iload zx zb dX11_kindsOfOne_16 (lv_at hl 0 rfl) ?_
        refine lv_aload_n zx zb dX11_kindsOfOne_18 rfl (lv_at hl 4 rfl) ?_
        refine r_get (C := RX11) (T := TX11) (N := 18) (ci := 9) (v := .ref (ma 0)) S in_X11_kindsOfOne_X11 G 0 rfl rfl 0 (by decide) lk_X11_kindsOfOne_7 rfl dX11_kindsOfOne_19 ?_
        refine lv_iconst (v := 2) zx zb dX11_kindsOfOne_22 (by decide) ?_
        refine r_iald (v := (nI c2)) S G 1 rfl (k_vp (by decide)) hI_fa.1.2.2.1 dX11_kindsOfOne_23 ?_
        refine lv_icmp_ge (tgt := 108) zx zb dX11_kindsOfOne_24 (by decide) (fun c_3 => ?_) (fun c_3 => ?_)
        · have fc_3 := j_le (a := c2) (b := k16) (by omega) (by omega) c_3
          refine lv_iload_n zx zb dX11_kindsOfOne_108 rfl (lv_at hl 3 rfl) ?_
          refine lv_iload zx zb dX11_kindsOfOne_109 (lv_at hl 1 rfl) ?_
          refine k_cutW (PP := fun Wx => ∀ (x_5 : Int32) (H : Heap) (locs : List Loc) (ls : Array Slot), wd X (fun _ => True) (va_A [] sz) s (@HAppend.hAppend va_W va_W va_W _ (mW m0 ma la lb n t v) ([((ma 0), .inl (X.2.1, 371, .inl fa))])) H locs → lv_has ls 7 [(5, .int (nI k16)), (4, .int x16_4), (3, .int (nI k4)), (2, .int x4_2), (0, .ref m0), (1, .int x1)] → Wx (F0 m 121 ls [.int x_5, .int x4_2]) H locs) ?_ ?_
          · intro join_111
            refine lv_if_eq (tgt := 120) zx zb dX11_kindsOfOne_111 (by decide) (fun c_4 => ?_) (fun c_4 => ?_)
            · refine lv_iconst (v := 0) zx zb dX11_kindsOfOne_120 (by decide) ?_
              exact join_111 0 _ _ _  G hl
            · refine lv_iconst (v := 1) zx zb dX11_kindsOfOne_114 (by decide) ?_
              refine lv_iload_n zx zb dX11_kindsOfOne_115 rfl (lv_at hl 2 rfl) ?_
              refine lv_ishl zx zb dX11_kindsOfOne_116 ?_
              refine k_itE (fun y_6 => ?_)
              refine lv_goto (tgt := 121) zx zb dX11_kindsOfOne_117 (by decide) ?_
              exact join_111 y_6 _ _ _  G hl
          · intro x_5 H locs ls  G hl
            refine lv_ior zx zb dX11_kindsOfOne_121 ?_
            refine k_itE (fun y_7 => ?_)
            refine lv_istore_n (lv' := [(2, .int y_7), (5, .int (nI k16)), (4, .int x16_4), (3, .int (nI k4)), (0, .ref m0), (1, .int x1)]) zx zb dX11_kindsOfOne_122 rfl hl (by decide) rfl (fun ls hl => ?_)
            refine lv_iinc (v := (nI (k4 + 1))) (lv' := [(3, .int (nI (k4 + 1))), (2, .int y_7), (5, .int (nI k16)), (4, .int x16_4), (0, .ref m0), (1, .int x1)]) zx zb dX11_kindsOfOne_123 hl (k := 3) rfl (nI_add k4 1) (by decide) rfl (fun ls hl => ?_)
            refine lv_goto (tgt := 4) zx zb dX11_kindsOfOne_126 (by decide) ?_
            have hl := lv_sub hl (l' := [(3, .int (nI (k4 + 1))), (2, .int y_7), (0, .ref m0), (1, .int x1)]) [0, 1, 4, 5] rfl
            exact ih4 (k4 + 1) y_7 _ _ _ (by omega) (by omega) G hl
        · have fc_3 := j_nle (a := c2) (b := k16) (by omega) (by omega) c_3
          refine lv_bipush (v := 75) zx zb dX11_kindsOfOne_27 (by decide) ?_
          refine lv_iconst (v := 5) zx zb dX11_kindsOfOne_29 (by decide) ?_
          refine lv_iload zx zb dX11_kindsOfOne_30 (lv_at hl 0 rfl) ?_
          refine r_imul (v := (nI (5 * k16))) S (pk_mul 5 k16) dX11_kindsOfOne_32 ?_
          refine r_iadd (v := (nI (75 + (5 * k16)))) S (nI_add 75 (5 * k16)) dX11_kindsOfOne_33 ?_
          refine lv_istore (lv' := [(6, .int (nI (75 + (5 * k16)))), (5, .int (nI k16)), (4, .int x16_4), (3, .int (nI k4)), (2, .int x4_2), (0, .ref m0), (1, .int x1)]) zx zb dX11_kindsOfOne_34 hl (by decide) rfl (fun ls hl => ?_)
          refine lv_iload zx zb dX11_kindsOfOne_36 (lv_at hl 2 rfl) ?_
          refine k_cutW (PP := fun Wx => ∀ (x_9 : Int32) (H : Heap) (locs : List Loc) (ls : Array Slot), (x_9 = 0 ∨ x_9 = 1) → wd X (fun _ => True) (va_A [] sz) s (@HAppend.hAppend va_W va_W va_W _ (mW m0 ma la lb n t v) ([((ma 0), .inl (X.2.1, 371, .inl fa))])) H locs → lv_has ls 7 [(6, .int (nI (75 + (5 * k16)))), (5, .int (nI k16)), (4, .int x16_4), (3, .int (nI k4)), (2, .int x4_2), (0, .ref m0), (1, .int x1)] → Wx (F0 m 100 ls [.int x_9]) H locs) ?_ ?_
          · intro join_38
            refine lv_if_eq (tgt := 99) zx zb dX11_kindsOfOne_38 (by decide) (fun c_8 => ?_) (fun c_8 => ?_)
            · refine lv_iconst (v := 0) zx zb dX11_kindsOfOne_99 (by decide) ?_
              exact join_38 0 _ _ _ (by first | assumption | exact Or.inl rfl | exact Or.inr rfl) G hl
            · refine lv_aload_n zx zb dX11_kindsOfOne_41 rfl (lv_at hl 5 rfl) ?_
              refine r_get (C := RX11) (T := TX11) (N := 18) (ci := 9) (v := .ref (ma 0)) S in_X11_kindsOfOne_X11 G 0 rfl rfl 0 (by decide) lk_X11_kindsOfOne_7 rfl dX11_kindsOfOne_42 ?_
              refine lv_iload zx zb dX11_kindsOfOne_45 (lv_at hl 0 rfl) ?_
              refine r_iald S G 1 rfl (vp_in_nI (by omega) (by decide)) rfl dX11_kindsOfOne_47 ?_
              refine k_itE (fun y_10 => ?_)
              refine lv_iload_n zx zb dX11_kindsOfOne_48 rfl (lv_at hl 6 rfl) ?_
              refine lv_icmp_ne (tgt := 95) zx zb dX11_kindsOfOne_49 (by decide) (fun c_11 => ?_) (fun c_11 => ?_)
              · refine lv_iconst (v := 1) zx zb dX11_kindsOfOne_95 (by decide) ?_
                refine lv_goto (tgt := 100) zx zb dX11_kindsOfOne_96 (by decide) ?_
                exact join_38 1 _ _ _ (by first | assumption | exact Or.inl rfl | exact Or.inr rfl) G hl
              · refine lv_iload_n zx zb dX11_kindsOfOne_52 rfl (lv_at hl 3 rfl) ?_
                refine lv_aload_n zx zb dX11_kindsOfOne_53 rfl (lv_at hl 5 rfl) ?_
                refine r_get (C := RX11) (T := TX11) (N := 18) (ci := 9) (v := .ref (ma 0)) S in_X11_kindsOfOne_X11 G 0 rfl rfl 0 (by decide) lk_X11_kindsOfOne_7 rfl dX11_kindsOfOne_54 ?_
                refine lv_iload zx zb dX11_kindsOfOne_57 (lv_at hl 0 rfl) ?_
                refine lv_iconst (v := 1) zx zb dX11_kindsOfOne_59 (by decide) ?_
                refine r_iadd (v := (nI ((75 + (5 * k16)) + 1))) S (nI_add (75 + (5 * k16)) 1) dX11_kindsOfOne_60 ?_
                refine r_iald S G 1 rfl (vp_in_nI (by omega) (by decide)) rfl dX11_kindsOfOne_61 ?_
                refine k_itE (fun y_12 => ?_)
                refine lv_aload_n zx zb dX11_kindsOfOne_62 rfl (lv_at hl 5 rfl) ?_
                refine r_get (C := RX11) (T := TX11) (N := 18) (ci := 9) (v := .ref (ma 0)) S in_X11_kindsOfOne_X11 G 0 rfl rfl 0 (by decide) lk_X11_kindsOfOne_7 rfl dX11_kindsOfOne_63 ?_
                refine lv_iload zx zb dX11_kindsOfOne_66 (lv_at hl 0 rfl) ?_
                refine lv_iconst (v := 3) zx zb dX11_kindsOfOne_68 (by decide) ?_
                refine r_iadd (v := (nI ((75 + (5 * k16)) + 3))) S (nI_add (75 + (5 * k16)) 3) dX11_kindsOfOne_69 ?_
                refine r_iald S G 1 rfl (vp_in_nI (by omega) (by decide)) rfl dX11_kindsOfOne_70 ?_
                refine k_itE (fun y_13 => ?_)
                refine lv_aload_n zx zb dX11_kindsOfOne_71 rfl (lv_at hl 5 rfl) ?_
                refine r_get (C := RX11) (T := TX11) (N := 18) (ci := 9) (v := .ref (ma 0)) S in_X11_kindsOfOne_X11 G 0 rfl rfl 0 (by decide) lk_X11_kindsOfOne_7 rfl dX11_kindsOfOne_72 ?_
                refine lv_iload zx zb dX11_kindsOfOne_75 (lv_at hl 0 rfl) ?_
                refine lv_iconst (v := 2) zx zb dX11_kindsOfOne_77 (by decide) ?_
                refine r_iadd (v := (nI ((75 + (5 * k16)) + 2))) S (nI_add (75 + (5 * k16)) 2) dX11_kindsOfOne_78 ?_
                refine r_iald S G 1 rfl (vp_in_nI (by omega) (by decide)) rfl dX11_kindsOfOne_79 ?_
                refine k_itE (fun y_14 => ?_)
                refine o_ri (cells' := 0) (slots' := 0) G rfl rfl (n_S (As := [.int (nI k4), .int y_12, .int y_13, .int y_14]) (rest := []) S G (m_runsAs l X (nI k4) y_12 y_13 y_14 H.size) gX11_kindsOfOne_X11_runsAs rfl rfl rfl hdS_X11_runsAs ⟨Nat.le_of_ble_eq_true rfl, Nat.le_of_ble_eq_true rfl⟩ [] rfl rfl rfl hl.1 (Nat.le_of_ble_eq_true rfl) dX11_kindsOfOne_80 ⟨Nat.le_of_ble_eq_true rfl, Nat.le_of_ble_eq_true rfl⟩) (fun r_15 u_15 H locs hp_15 G => ?_)
                have G : wd X (fun _ => True) (va_A [] sz) s (@HAppend.hAppend va_W va_W va_W _ (mW m0 ma la lb n t v) ([((ma 0), .inl (X.2.1, 371, .inl fa))])) H locs := G
                refine lv_aload_n zx zb dX11_kindsOfOne_83 rfl (lv_at hl 5 rfl) ?_
                refine r_get (C := RX11) (T := TX11) (N := 18) (ci := 9) (v := .ref (ma 0)) S in_X11_kindsOfOne_X11 G 0 rfl rfl 0 (by decide) lk_X11_kindsOfOne_7 rfl dX11_kindsOfOne_84 ?_
                refine lv_iload zx zb dX11_kindsOfOne_87 (lv_at hl 0 rfl) ?_
                refine lv_iconst (v := 4) zx zb dX11_kindsOfOne_89 (by decide) ?_
                refine r_iadd (v := (nI ((75 + (5 * k16)) + 4))) S (nI_add (75 + (5 * k16)) 4) dX11_kindsOfOne_90 ?_
                refine r_iald S G 1 rfl (vp_in_nI (by omega) (by decide)) rfl dX11_kindsOfOne_91 ?_
                refine k_itE (fun y_16 => ?_)
                refine lv_icmp_ne (tgt := 99) zx zb dX11_kindsOfOne_92 (by decide) (fun c_17 => ?_) (fun c_17 => ?_)
                · refine lv_iconst (v := 0) zx zb dX11_kindsOfOne_99 (by decide) ?_
                  exact join_38 0 _ _ _ (by first | assumption | exact Or.inl rfl | exact Or.inr rfl) G hl
                · refine lv_iconst (v := 1) zx zb dX11_kindsOfOne_95 (by decide) ?_
                  refine lv_goto (tgt := 100) zx zb dX11_kindsOfOne_96 (by decide) ?_
                  exact join_38 1 _ _ _ (by first | assumption | exact Or.inl rfl | exact Or.inr rfl) G hl
          · intro x_9 H locs ls hk_x_9 G hl
            refine lv_istore (lv' := [(4, .int x_9), (6, .int (nI (75 + (5 * k16)))), (5, .int (nI k16)), (3, .int (nI k4)), (2, .int x4_2), (0, .ref m0), (1, .int x1)]) zx zb dX11_kindsOfOne_100 hl (by decide) rfl (fun ls hl => ?_)
            refine lv_iinc (v := (nI (k16 + 1))) (lv' := [(5, .int (nI (k16 + 1))), (4, .int x_9), (6, .int (nI (75 + (5 * k16)))), (3, .int (nI k4)), (2, .int x4_2), (0, .ref m0), (1, .int x1)]) zx zb dX11_kindsOfOne_102 hl (k := 2) rfl (nI_add k16 1) (by decide) rfl (fun ls hl => ?_)
            refine lv_goto (tgt := 16) zx zb dX11_kindsOfOne_105 (by decide) ?_
            have hl := lv_sub hl (l' := [(5, .int (nI (k16 + 1))), (4, .int x_9), (3, .int (nI k4)), (2, .int x4_2), (0, .ref m0), (1, .int x1)]) [0, 1, 3, 4, 5, 6] rfl
            exact ih16 (k16 + 1) x_9 _ _ _ (by omega) (by omega) G hl
theorem in_X11_kindsOfEgg_X11 : ∀ w ∈ wsX110, w ∈ wsX11_kindsOfEgg := by decide +kernel
theorem lk_X11_kindsOfEgg_7 : Cond.fieldLink RX11 7 "EggSpoonsModel" "all" "[I" ∈ wsX11_kindsOfEgg := by decide +kernel
set_option maxHeartbeats 4000000 in
set_option maxRecDepth 100000 in
/-- kindsOfEgg -/
theorem m_kindsOfEgg (l : Launch) (X : EX) (m0 : Nat) (ma : Nat → Nat) (la : Int64) (lb : Int64) (n : Nat) (t : Nat → Nat) (v : Nat → Int32) (fa : Nat → Int32) (c0 : Nat) (c1 : Nat) (c2 : Nat) (c3 : Nat) (c4 : Nat) (x1 : Int32) (hI_n : n ≤ 150) (hI_t : InT t) (hI_fa : InA fa c0 c1 c2 c3 c4) (sz : Nat) : Met l yX11_kindsOfEgg wsX11_kindsOfEgg ({ frames := 1, cells := 0, slots := 0, locals := 22 } : Room) (pE X [.ref m0, .int x1] (@HAppend.hAppend va_W va_W va_W _ (mW m0 ma la lb n t v) ([((ma 0), .inl (X.2.1, 371, .inl fa))])) sz) (qI (fun (r : Int32) (u : Unit) => True) X (fun (u : Unit) => []) [] sz) 0 0 (va_A [] sz) := by
  refine mk_met (B := (fun _ => True)) (A := (va_A [] sz)) (cc := cX11_kindsOfEgg) (maxL := 7) (ret := (some .int)) (by decide) rfl (Nat.le_of_ble_eq_true rfl) k_ro k_a (fun p e s m below meth c S zr zlk znm zsz G ls hl => ?_)
  have S : CallFix p m c cX11_kindsOfEgg 7 s _ wsX11_kindsOfEgg RX11 := S
  have zx := S.1
  have zb := S.2.1
  have hl : lv_has ls 7 [(0, .ref m0), (1, .int x1)] := hl
  have hO_t := hI_t
  obtain ⟨ht0_t, ht1_t⟩ := hO_t
  have hO_fa := hI_fa.2
  obtain ⟨hm0_fa, hm1_fa, hm2_fa, hm3_fa, hm4_fa⟩ := hO_fa
  refine lv_iconst (v := 0) zx zb dX11_kindsOfEgg_0 (by decide) ?_
  refine lv_istore_n (lv' := [(2, .int 0), (0, .ref m0), (1, .int x1)]) zx zb dX11_kindsOfEgg_1 rfl hl (by decide) rfl (fun ls hl => ?_)
  refine lv_iconst (v := 0) zx zb dX11_kindsOfEgg_2 (by decide) ?_
  refine lv_istore_n (lv' := [(3, .int 0), (2, .int 0), (0, .ref m0), (1, .int x1)]) zx zb dX11_kindsOfEgg_3 rfl hl (by decide) rfl (fun ls hl => ?_)
  refine k_loop (P := ∀ (zm : Nat) (k4 : Nat) (x4_2 : Int32) (H : Heap) (locs : List Loc) (ls : Array Slot), 6 + 1 ≤ k4 + zm → (k4 ≤ 6) → wd X (fun _ => True) (va_A [] sz) s (@HAppend.hAppend va_W va_W va_W _ (mW m0 ma la lb n t v) ([((ma 0), .inl (X.2.1, 371, .inl fa))])) H locs → lv_has ls 7 [(3, .int (nI k4)), (2, .int x4_2), (0, .ref m0), (1, .int x1)] → W p l e _ s m _ below meth c H locs _ _ _ (F0 m 4 ls [])) (fun loop => loop (6 + 1) 0 0 _ _ _ (by omega) (by omega) G hl) ?_
  intro zm
  induction zm with
  | zero => intro k4 x4_2 H locs ls zz q_hk_k4 _ _; exact absurd zz (by omega)
  | succ zm ih4 =>
    intro k4 x4_2 H locs ls zm_4 hk_k4 G hl
    refine lv_iload_n zx zb dX11_kindsOfEgg_4 rfl (lv_at hl 0 rfl) ?_
    refine lv_bipush (v := 6) zx zb dX11_kindsOfEgg_5 (by decide) ?_
    refine lv_icmp_ge (tgt := 111) zx zb dX11_kindsOfEgg_7 (by decide) (fun c_1 => ?_) (fun c_1 => ?_)
    · have fc_1 := j_le (a := 6) (b := k4) (by omega) (by omega) c_1
      refine lv_iload_n zx zb dX11_kindsOfEgg_111 rfl (lv_at hl 1 rfl) ?_
      exact e_int S zr zlk (vp_nar_int _) G () [] rfl rfl (Or.inl rfl) (trivial) dX11_kindsOfEgg_112
    · have fc_1 := j_nle (a := 6) (b := k4) (by omega) (by omega) c_1
      refine lv_iconst (v := 1) zx zb dX11_kindsOfEgg_10 (by decide) ?_
      refine lv_istore (lv' := [(4, .int 1), (3, .int (nI k4)), (2, .int x4_2), (0, .ref m0), (1, .int x1)]) zx zb dX11_kindsOfEgg_11 hl (by decide) rfl (fun ls hl => ?_)
      refine lv_iconst (v := 0) zx zb dX11_kindsOfEgg_13 (by decide) ?_
      refine lv_istore (lv' := [(5, .int 0), (4, .int 1), (3, .int (nI k4)), (2, .int x4_2), (0, .ref m0), (1, .int x1)]) zx zb dX11_kindsOfEgg_14 hl (by decide) rfl (fun ls hl => ?_)
      refine k_loop (P := ∀ (zm : Nat) (k16 : Nat) (x16_4 : Int32) (H : Heap) (locs : List Loc) (ls : Array Slot), c3 + 1 ≤ k16 + zm → (k16 ≤ c3) → wd X (fun _ => True) (va_A [] sz) s (@HAppend.hAppend va_W va_W va_W _ (mW m0 ma la lb n t v) ([((ma 0), .inl (X.2.1, 371, .inl fa))])) H locs → lv_has ls 7 [(5, .int (nI k16)), (4, .int x16_4), (3, .int (nI k4)), (2, .int x4_2), (0, .ref m0), (1, .int x1)] → W p l e _ s m _ below meth c H locs _ _ _ (F0 m 16 ls [])) (fun loop => loop (c3 + 1) 0 1 _ _ _ (by omega) (by omega) G hl) ?_
      intro zm
      induction zm with
      | zero => intro k16 x16_4 H locs ls zz q_hk_k16 _ _; exact absurd zz (by omega)
      | succ zm ih16 =>
        intro k16 x16_4 H locs ls zm_16 hk_k16 G hl
        refine lv_iload zx zb dX11_kindsOfEgg_16 (lv_at hl 0 rfl) ?_
        refine lv_aload_n zx zb dX11_kindsOfEgg_18 rfl (lv_at hl 4 rfl) ?_
        refine r_get (C := RX11) (T := TX11) (N := 18) (ci := 9) (v := .ref (ma 0)) S in_X11_kindsOfEgg_X11 G 0 rfl rfl 0 (by decide) lk_X11_kindsOfEgg_7 rfl dX11_kindsOfEgg_19 ?_
        refine lv_iconst (v := 3) zx zb dX11_kindsOfEgg_22 (by decide) ?_
        refine r_iald (v := (nI c3)) S G 1 rfl (k_vp (by decide)) hI_fa.1.2.2.2.1 dX11_kindsOfEgg_23 ?_
        refine lv_icmp_ge (tgt := 90) zx zb dX11_kindsOfEgg_24 (by decide) (fun c_3 => ?_) (fun c_3 => ?_)
        · have fc_3 := j_le (a := c3) (b := k16) (by omega) (by omega) c_3
          refine lv_iload_n zx zb dX11_kindsOfEgg_90 rfl (lv_at hl 3 rfl) ?_
          refine lv_iload zx zb dX11_kindsOfEgg_91 (lv_at hl 1 rfl) ?_
          refine k_cutW (PP := fun Wx => ∀ (x_5 : Int32) (H : Heap) (locs : List Loc) (ls : Array Slot), wd X (fun _ => True) (va_A [] sz) s (@HAppend.hAppend va_W va_W va_W _ (mW m0 ma la lb n t v) ([((ma 0), .inl (X.2.1, 371, .inl fa))])) H locs → lv_has ls 7 [(5, .int (nI k16)), (4, .int x16_4), (3, .int (nI k4)), (2, .int x4_2), (0, .ref m0), (1, .int x1)] → Wx (F0 m 103 ls [.int x_5, .int x4_2]) H locs) ?_ ?_
          · intro join_93
            refine lv_if_eq (tgt := 102) zx zb dX11_kindsOfEgg_93 (by decide) (fun c_4 => ?_) (fun c_4 => ?_)
            · refine lv_iconst (v := 0) zx zb dX11_kindsOfEgg_102 (by decide) ?_
              exact join_93 0 _ _ _  G hl
            · refine lv_iconst (v := 1) zx zb dX11_kindsOfEgg_96 (by decide) ?_
              refine lv_iload_n zx zb dX11_kindsOfEgg_97 rfl (lv_at hl 2 rfl) ?_
              refine lv_ishl zx zb dX11_kindsOfEgg_98 ?_
              refine k_itE (fun y_6 => ?_)
              refine lv_goto (tgt := 103) zx zb dX11_kindsOfEgg_99 (by decide) ?_
              exact join_93 y_6 _ _ _  G hl
          · intro x_5 H locs ls  G hl
            refine lv_ior zx zb dX11_kindsOfEgg_103 ?_
            refine k_itE (fun y_7 => ?_)
            refine lv_istore_n (lv' := [(2, .int y_7), (5, .int (nI k16)), (4, .int x16_4), (3, .int (nI k4)), (0, .ref m0), (1, .int x1)]) zx zb dX11_kindsOfEgg_104 rfl hl (by decide) rfl (fun ls hl => ?_)
            refine lv_iinc (v := (nI (k4 + 1))) (lv' := [(3, .int (nI (k4 + 1))), (2, .int y_7), (5, .int (nI k16)), (4, .int x16_4), (0, .ref m0), (1, .int x1)]) zx zb dX11_kindsOfEgg_105 hl (k := 3) rfl (nI_add k4 1) (by decide) rfl (fun ls hl => ?_)
            refine lv_goto (tgt := 4) zx zb dX11_kindsOfEgg_108 (by decide) ?_
            have hl := lv_sub hl (l' := [(3, .int (nI (k4 + 1))), (2, .int y_7), (0, .ref m0), (1, .int x1)]) [0, 1, 4, 5] rfl
            exact ih4 (k4 + 1) y_7 _ _ _ (by omega) (by omega) G hl
        · have fc_3 := j_nle (a := c3) (b := k16) (by omega) (by omega) c_3
          refine lv_bipush (v := 105) zx zb dX11_kindsOfEgg_27 (by decide) ?_
          refine lv_iconst (v := 3) zx zb dX11_kindsOfEgg_29 (by decide) ?_
          refine lv_iload zx zb dX11_kindsOfEgg_30 (lv_at hl 0 rfl) ?_
          refine r_imul (v := (nI (3 * k16))) S (pk_mul 3 k16) dX11_kindsOfEgg_32 ?_
          refine r_iadd (v := (nI (105 + (3 * k16)))) S (nI_add 105 (3 * k16)) dX11_kindsOfEgg_33 ?_
          refine lv_istore (lv' := [(6, .int (nI (105 + (3 * k16)))), (5, .int (nI k16)), (4, .int x16_4), (3, .int (nI k4)), (2, .int x4_2), (0, .ref m0), (1, .int x1)]) zx zb dX11_kindsOfEgg_34 hl (by decide) rfl (fun ls hl => ?_)
          refine lv_iload zx zb dX11_kindsOfEgg_36 (lv_at hl 2 rfl) ?_
          refine k_cutW (PP := fun Wx => ∀ (x_9 : Int32) (H : Heap) (locs : List Loc) (ls : Array Slot), (x_9 = 0 ∨ x_9 = 1) → wd X (fun _ => True) (va_A [] sz) s (@HAppend.hAppend va_W va_W va_W _ (mW m0 ma la lb n t v) ([((ma 0), .inl (X.2.1, 371, .inl fa))])) H locs → lv_has ls 7 [(6, .int (nI (105 + (3 * k16)))), (5, .int (nI k16)), (4, .int x16_4), (3, .int (nI k4)), (2, .int x4_2), (0, .ref m0), (1, .int x1)] → Wx (F0 m 82 ls [.int x_9]) H locs) ?_ ?_
          · intro join_38
            refine lv_if_eq (tgt := 81) zx zb dX11_kindsOfEgg_38 (by decide) (fun c_8 => ?_) (fun c_8 => ?_)
            · refine lv_iconst (v := 0) zx zb dX11_kindsOfEgg_81 (by decide) ?_
              exact join_38 0 _ _ _ (by first | assumption | exact Or.inl rfl | exact Or.inr rfl) G hl
            · refine lv_aload_n zx zb dX11_kindsOfEgg_41 rfl (lv_at hl 5 rfl) ?_
              refine r_get (C := RX11) (T := TX11) (N := 18) (ci := 9) (v := .ref (ma 0)) S in_X11_kindsOfEgg_X11 G 0 rfl rfl 0 (by decide) lk_X11_kindsOfEgg_7 rfl dX11_kindsOfEgg_42 ?_
              refine lv_iload zx zb dX11_kindsOfEgg_45 (lv_at hl 0 rfl) ?_
              refine r_iald S G 1 rfl (vp_in_nI (by omega) (by decide)) rfl dX11_kindsOfEgg_47 ?_
              refine k_itE (fun y_10 => ?_)
              refine lv_iload_n zx zb dX11_kindsOfEgg_48 rfl (lv_at hl 6 rfl) ?_
              refine lv_icmp_ne (tgt := 77) zx zb dX11_kindsOfEgg_49 (by decide) (fun c_11 => ?_) (fun c_11 => ?_)
              · refine lv_iconst (v := 1) zx zb dX11_kindsOfEgg_77 (by decide) ?_
                refine lv_goto (tgt := 82) zx zb dX11_kindsOfEgg_78 (by decide) ?_
                exact join_38 1 _ _ _ (by first | assumption | exact Or.inl rfl | exact Or.inr rfl) G hl
              · refine lv_iload_n zx zb dX11_kindsOfEgg_52 rfl (lv_at hl 3 rfl) ?_
                refine lv_aload_n zx zb dX11_kindsOfEgg_53 rfl (lv_at hl 5 rfl) ?_
                refine r_get (C := RX11) (T := TX11) (N := 18) (ci := 9) (v := .ref (ma 0)) S in_X11_kindsOfEgg_X11 G 0 rfl rfl 0 (by decide) lk_X11_kindsOfEgg_7 rfl dX11_kindsOfEgg_54 ?_
                refine lv_iload zx zb dX11_kindsOfEgg_57 (lv_at hl 0 rfl) ?_
                refine lv_iconst (v := 1) zx zb dX11_kindsOfEgg_59 (by decide) ?_
                refine r_iadd (v := (nI ((105 + (3 * k16)) + 1))) S (nI_add (105 + (3 * k16)) 1) dX11_kindsOfEgg_60 ?_
                refine r_iald S G 1 rfl (vp_in_nI (by omega) (by decide)) rfl dX11_kindsOfEgg_61 ?_
                refine k_itE (fun y_12 => ?_)
                refine o_ri (cells' := 0) (slots' := 0) G rfl rfl (n_S (As := [.int (nI k4), .int y_12]) (rest := []) S G (m_mayAs l X (nI k4) y_12 H.size) gX11_kindsOfEgg_X11_mayAs rfl rfl rfl hdS_X11_mayAs ⟨Nat.le_of_ble_eq_true rfl, Nat.le_of_ble_eq_true rfl⟩ [] rfl rfl rfl hl.1 (Nat.le_of_ble_eq_true rfl) dX11_kindsOfEgg_62 ⟨Nat.le_of_ble_eq_true rfl, Nat.le_of_ble_eq_true rfl⟩) (fun r_13 u_13 H locs hp_13 G => ?_)
                have G : wd X (fun _ => True) (va_A [] sz) s (@HAppend.hAppend va_W va_W va_W _ (mW m0 ma la lb n t v) ([((ma 0), .inl (X.2.1, 371, .inl fa))])) H locs := G
                refine lv_aload_n zx zb dX11_kindsOfEgg_65 rfl (lv_at hl 5 rfl) ?_
                refine r_get (C := RX11) (T := TX11) (N := 18) (ci := 9) (v := .ref (ma 0)) S in_X11_kindsOfEgg_X11 G 0 rfl rfl 0 (by decide) lk_X11_kindsOfEgg_7 rfl dX11_kindsOfEgg_66 ?_
                refine lv_iload zx zb dX11_kindsOfEgg_69 (lv_at hl 0 rfl) ?_
                refine lv_iconst (v := 2) zx zb dX11_kindsOfEgg_71 (by decide) ?_
                refine r_iadd (v := (nI ((105 + (3 * k16)) + 2))) S (nI_add (105 + (3 * k16)) 2) dX11_kindsOfEgg_72 ?_
                refine r_iald S G 1 rfl (vp_in_nI (by omega) (by decide)) rfl dX11_kindsOfEgg_73 ?_
                refine k_itE (fun y_14 => ?_)
                refine lv_icmp_ne (tgt := 81) zx zb dX11_kindsOfEgg_74 (by decide) (fun c_15 => ?_) (fun c_15 => ?_)
                · refine lv_iconst (v := 0) zx zb dX11_kindsOfEgg_81 (by decide) ?_
                  exact join_38 0 _ _ _ (by first | assumption | exact Or.inl rfl | exact Or.inr rfl) G hl
                · refine lv_iconst (v := 1) zx zb dX11_kindsOfEgg_77 (by decide) ?_
                  refine lv_goto (tgt := 82) zx zb dX11_kindsOfEgg_78 (by decide) ?_
                  exact join_38 1 _ _ _ (by first | assumption | exact Or.inl rfl | exact Or.inr rfl) G hl
          · intro x_9 H locs ls hk_x_9 G hl
            refine lv_istore (lv' := [(4, .int x_9), (6, .int (nI (105 + (3 * k16)))), (5, .int (nI k16)), (3, .int (nI k4)), (2, .int x4_2), (0, .ref m0), (1, .int x1)]) zx zb dX11_kindsOfEgg_82 hl (by decide) rfl (fun ls hl => ?_)
            refine lv_iinc (v := (nI (k16 + 1))) (lv' := [(5, .int (nI (k16 + 1))), (4, .int x_9), (6, .int (nI (105 + (3 * k16)))), (3, .int (nI k4)), (2, .int x4_2), (0, .ref m0), (1, .int x1)]) zx zb dX11_kindsOfEgg_84 hl (k := 2) rfl (nI_add k16 1) (by decide) rfl (fun ls hl => ?_)
            refine lv_goto (tgt := 16) zx zb dX11_kindsOfEgg_87 (by decide) ?_
            have hl := lv_sub hl (l' := [(5, .int (nI (k16 + 1))), (4, .int x_9), (3, .int (nI k4)), (2, .int x4_2), (0, .ref m0), (1, .int x1)]) [0, 1, 3, 4, 5, 6] rfl
            exact ih16 (k16 + 1) x_9 _ _ _ (by omega) (by omega) G hl
theorem mm_X11_tell_c150 : Cond.constant RX11 150 (1000000) ∈ wsX11_tell := by decide +kernel
theorem in_X11_tell_X11 : ∀ w ∈ wsX110, w ∈ wsX11_tell := by decide +kernel
theorem lk_X11_tell_33 : Cond.fieldLink RX11 33 "EggSpoonsModel" "tells" "[I" ∈ wsX11_tell := by decide +kernel
theorem lk_X11_tell_7 : Cond.fieldLink RX11 7 "EggSpoonsModel" "all" "[I" ∈ wsX11_tell := by decide +kernel
theorem hdV_X11_mostAlike : yX11_mostAlike.cls = RX11 ∧ yX11_mostAlike.cls ≠ "java/lang/invoke/MethodHandle" ∧ yX11_mostAlike.cls ≠ "java/lang/invoke/VarHandle" ∧ (parseMethodDescriptor yX11_mostAlike.desc).map (fun d => d.parameters.length) = some 1 := by decide +kernel
set_option maxHeartbeats 4000000 in
set_option maxRecDepth 100000 in
/-- tell -/
theorem m_tell (l : Launch) (X : EX) (m0 : Nat) (ma : Nat → Nat) (la : Int64) (lb : Int64) (n : Nat) (t : Nat → Nat) (v : Nat → Int32) (fa : Nat → Int32) (c0 : Nat) (c1 : Nat) (c2 : Nat) (c3 : Nat) (c4 : Nat) (ft : Nat → Int32) (fr : Nat → Int32) (x1 : Int32) (hI_n : n ≤ 150) (hI_t : InT t) (hI_fa : InA fa c0 c1 c2 c3 c4) (sz : Nat) : Met l yX11_tell wsX11_tell ({ frames := 2, cells := 0, slots := 0, locals := 52 } : Room) (pE X [.ref m0, .int x1] (@HAppend.hAppend va_W va_W va_W _ (mW m0 ma la lb n t v) (@HAppend.hAppend va_W va_W va_W _ ([((ma 0), .inl (X.2.1, 371, .inl fa))]) (@HAppend.hAppend va_W va_W va_W _ ([((ma 8), .inl (X.2.1, 10, .inl ft))]) ([((ma 3), .inl (X.2.1, 3, .inl fr))])))) sz) (qI (fun (r : Int32) (u : (Nat → Int32) × (Nat → Int32)) => (True)) X (fun (u : (Nat → Int32) × (Nat → Int32)) => @HAppend.hAppend va_W va_W va_W _ (mW m0 ma la lb n t v) (@HAppend.hAppend va_W va_W va_W _ ([((ma 0), .inl (X.2.1, 371, .inl fa))]) (@HAppend.hAppend va_W va_W va_W _ ([((ma 8), .inl (X.2.1, 10, .inl u.1))]) ([((ma 3), .inl (X.2.1, 3, .inl u.2))])))) (@HAppend.hAppend va_W va_W va_W _ (mW m0 ma la lb n t v) (@HAppend.hAppend va_W va_W va_W _ ([((ma 0), .inl (X.2.1, 371, .inl fa))]) (@HAppend.hAppend va_W va_W va_W _ ([((ma 8), .inl (X.2.1, 10, .inl ft))]) ([((ma 3), .inl (X.2.1, 3, .inl fr))])))) sz) 0 0 (va_A (@HAppend.hAppend va_W va_W va_W _ (mW m0 ma la lb n t v) (@HAppend.hAppend va_W va_W va_W _ ([((ma 0), .inl (X.2.1, 371, .inl fa))]) (@HAppend.hAppend va_W va_W va_W _ ([((ma 8), .inl (X.2.1, 10, .inl ft))]) ([((ma 3), .inl (X.2.1, 3, .inl fr))])))) sz) := by
  refine mk_met (B := (va_A (@HAppend.hAppend va_W va_W va_W _ (mW m0 ma la lb n t v) (@HAppend.hAppend va_W va_W va_W _ ([((ma 0), .inl (X.2.1, 371, .inl fa))]) (@HAppend.hAppend va_W va_W va_W _ ([((ma 8), .inl (X.2.1, 10, .inl ft))]) ([((ma 3), .inl (X.2.1, 3, .inl fr))])))) sz)) (A := (va_A (@HAppend.hAppend va_W va_W va_W _ (mW m0 ma la lb n t v) (@HAppend.hAppend va_W va_W va_W _ ([((ma 0), .inl (X.2.1, 371, .inl fa))]) (@HAppend.hAppend va_W va_W va_W _ ([((ma 8), .inl (X.2.1, 10, .inl ft))]) ([((ma 3), .inl (X.2.1, 3, .inl fr))])))) sz)) (cc := cX11_tell) (maxL := 7) (ret := (some .int)) (by decide) rfl (Nat.le_of_ble_eq_true rfl) k_w k_a (fun p e s m below meth c S zr zlk znm zsz G ls hl => ?_)
  have S : CallFix p m c cX11_tell 7 s _ wsX11_tell RX11 := S
  have zx := S.1
  have zb := S.2.1
  have hl : lv_has ls 7 [(0, .ref m0), (1, .int x1)] := hl
  have hO_t := hI_t
  obtain ⟨ht0_t, ht1_t⟩ := hO_t
  have hO_fa := hI_fa.2
  obtain ⟨hm0_fa, hm1_fa, hm2_fa, hm3_fa, hm4_fa⟩ := hO_fa
  refine lv_aload_n zx zb dX11_tell_0 rfl (lv_at hl 0 rfl) ?_
  refine lv_iload_n zx zb dX11_tell_1 rfl (lv_at hl 1 rfl) ?_
  refine o_ri (cells' := 0) (slots' := 0) G rfl rfl (n_V (As := [.int x1]) (rest := []) (C := RX11) (T := TX11) (N := 18) (ci := 9) S G (m_isOne l X m0 ma la lb n t v fa c0 c1 c2 c3 c4 x1 hI_n hI_t hI_fa s.heap.size) gX11_tell_X11_isOne rfl rfl rfl hdV_X11_isOne ⟨Nat.le_of_ble_eq_true rfl, Nat.le_of_ble_eq_true rfl⟩ [0, 1] rfl rfl 0 rfl rfl rfl hl.1 (Nat.le_of_ble_eq_true rfl) dX11_tell_2 ⟨Nat.le_of_ble_eq_true rfl, Nat.le_of_ble_eq_true rfl⟩) (fun r_1 u_1 H locs hp_1 G => ?_)
  have G : wd X (va_A (@HAppend.hAppend va_W va_W va_W _ (mW m0 ma la lb n t v) (@HAppend.hAppend va_W va_W va_W _ ([((ma 0), .inl (X.2.1, 371, .inl fa))]) (@HAppend.hAppend va_W va_W va_W _ ([((ma 8), .inl (X.2.1, 10, .inl ft))]) ([((ma 3), .inl (X.2.1, 3, .inl fr))])))) sz) (va_A (@HAppend.hAppend va_W va_W va_W _ (mW m0 ma la lb n t v) (@HAppend.hAppend va_W va_W va_W _ ([((ma 0), .inl (X.2.1, 371, .inl fa))]) (@HAppend.hAppend va_W va_W va_W _ ([((ma 8), .inl (X.2.1, 10, .inl ft))]) ([((ma 3), .inl (X.2.1, 3, .inl fr))])))) sz) s (@HAppend.hAppend va_W va_W va_W _ (mW m0 ma la lb n t v) (@HAppend.hAppend va_W va_W va_W _ ([((ma 0), .inl (X.2.1, 371, .inl fa))]) (@HAppend.hAppend va_W va_W va_W _ ([((ma 8), .inl (X.2.1, 10, .inl ft))]) ([((ma 3), .inl (X.2.1, 3, .inl fr))])))) H locs := G
  rcases hp_1 with ⟨rfl, hj_1⟩ | ⟨rfl, hj_1⟩
  · obtain ⟨j_1, hj_1, rfl⟩ := hj_1
    refine lv_if_ne (tgt := 15) zx zb dX11_tell_5 (by decide) (fun c_2 => ?_) (fun c_2 => absurd c_2 (by decide))
    refine lv_aload_n zx zb dX11_tell_15 rfl (lv_at hl 0 rfl) ?_
    refine lv_iload_n zx zb dX11_tell_16 rfl (lv_at hl 1 rfl) ?_
    refine o_ri (cells' := 0) (slots' := 0) G rfl rfl (n_V (As := [.int (nI j_1)]) (rest := []) (C := RX11) (T := TX11) (N := 18) (ci := 9) S G (m_legsOf l X m0 ma la lb n t v fa c0 c1 c2 c3 c4 j_1 hI_n hI_t hI_fa (by omega) H.size) gX11_tell_X11_legsOf rfl rfl rfl hdV_X11_legsOf ⟨Nat.le_of_ble_eq_true rfl, Nat.le_of_ble_eq_true rfl⟩ [0, 1] rfl rfl 0 rfl rfl rfl hl.1 (Nat.le_of_ble_eq_true rfl) dX11_tell_17 ⟨Nat.le_of_ble_eq_true rfl, Nat.le_of_ble_eq_true rfl⟩) (fun r_3 u_3 H locs hp_3 G => ?_)
    have G : wd X (va_A (@HAppend.hAppend va_W va_W va_W _ (mW m0 ma la lb n t v) (@HAppend.hAppend va_W va_W va_W _ ([((ma 0), .inl (X.2.1, 371, .inl fa))]) (@HAppend.hAppend va_W va_W va_W _ ([((ma 8), .inl (X.2.1, 10, .inl ft))]) ([((ma 3), .inl (X.2.1, 3, .inl fr))])))) sz) (va_A (@HAppend.hAppend va_W va_W va_W _ (mW m0 ma la lb n t v) (@HAppend.hAppend va_W va_W va_W _ ([((ma 0), .inl (X.2.1, 371, .inl fa))]) (@HAppend.hAppend va_W va_W va_W _ ([((ma 8), .inl (X.2.1, 10, .inl ft))]) ([((ma 3), .inl (X.2.1, 3, .inl fr))])))) sz) s (@HAppend.hAppend va_W va_W va_W _ (mW m0 ma la lb n t v) (@HAppend.hAppend va_W va_W va_W _ ([((ma 0), .inl (X.2.1, 371, .inl fa))]) (@HAppend.hAppend va_W va_W va_W _ ([((ma 8), .inl (X.2.1, 10, .inl ft))]) ([((ma 3), .inl (X.2.1, 3, .inl fr))])))) H locs := G
    refine lv_istore_n (lv' := [(2, .int r_3), (0, .ref m0), (1, .int (nI j_1))]) zx zb dX11_tell_20 rfl hl (by decide) rfl (fun ls hl => ?_)
    refine lv_iconst (v := (-1)) zx zb dX11_tell_21 (by decide) ?_
    refine lv_istore_n (lv' := [(3, .int (-1)), (2, .int r_3), (0, .ref m0), (1, .int (nI j_1))]) zx zb dX11_tell_22 rfl hl (by decide) rfl (fun ls hl => ?_)
    refine lv_ldc zx zb S.2.2.2.1 (S.2.2.2.2 _ mm_X11_tell_c150) dX11_tell_23 ?_
    refine lv_istore (lv' := [(4, .int 1000000), (3, .int (-1)), (2, .int r_3), (0, .ref m0), (1, .int (nI j_1))]) zx zb dX11_tell_25 hl (by decide) rfl (fun ls hl => ?_)
    refine lv_iconst (v := 0) zx zb dX11_tell_27 (by decide) ?_
    refine lv_istore (lv' := [(5, .int 0), (4, .int 1000000), (3, .int (-1)), (2, .int r_3), (0, .ref m0), (1, .int (nI j_1))]) zx zb dX11_tell_28 hl (by decide) rfl (fun ls hl => ?_)
    refine k_loop (P := ∀ (zm : Nat) (k30 : Nat) (x30_4 : Int32) (x30_3 : Int32) (f30_2 : Nat → Int32) (H : Heap) (locs : List Loc) (ls : Array Slot), 200 + 1 ≤ k30 + zm → (k30 ≤ 200) → wd X (va_A (@HAppend.hAppend va_W va_W va_W _ (mW m0 ma la lb n t v) (@HAppend.hAppend va_W va_W va_W _ ([((ma 0), .inl (X.2.1, 371, .inl fa))]) (@HAppend.hAppend va_W va_W va_W _ ([((ma 8), .inl (X.2.1, 10, .inl ft))]) ([((ma 3), .inl (X.2.1, 3, .inl fr))])))) sz) (va_A (@HAppend.hAppend va_W va_W va_W _ (mW m0 ma la lb n t v) (@HAppend.hAppend va_W va_W va_W _ ([((ma 0), .inl (X.2.1, 371, .inl fa))]) (@HAppend.hAppend va_W va_W va_W _ ([((ma 8), .inl (X.2.1, 10, .inl ft))]) ([((ma 3), .inl (X.2.1, 3, .inl fr))])))) sz) s (@HAppend.hAppend va_W va_W va_W _ (mW m0 ma la lb n t v) (@HAppend.hAppend va_W va_W va_W _ ([((ma 0), .inl (X.2.1, 371, .inl fa))]) (@HAppend.hAppend va_W va_W va_W _ ([((ma 8), .inl (X.2.1, 10, .inl f30_2))]) ([((ma 3), .inl (X.2.1, 3, .inl fr))])))) H locs → lv_has ls 7 [(5, .int (nI k30)), (4, .int x30_4), (3, .int x30_3), (2, .int r_3), (0, .ref m0), (1, .int (nI j_1))] → W p l e _ s m _ below meth c H locs _ _ _ (F0 m 30 ls [])) (fun loop => loop (200 + 1) 0 1000000 (-1) ft _ _ _ (by omega) (by omega) G hl) ?_
    intro zm
    induction zm with
    | zero => intro k30 x30_4 x30_3 f30_2 H locs ls zz q_hk_k30 _ _; exact absurd zz (by omega)
    | succ zm ih30 =>
      intro k30 x30_4 x30_3 f30_2 H locs ls zm_30 hk_k30 G hl
      refine lv_iload zx zb dX11_tell_30 (lv_at hl 0 rfl) ?_
      refine lv_sipush (v := 200) zx zb dX11_tell_32 (by decide) ?_
      refine k_cutW (PP := fun Wx => ∀ (H : Heap) (locs : List Loc) (ls : Array Slot), wd X (va_A (@HAppend.hAppend va_W va_W va_W _ (mW m0 ma la lb n t v) (@HAppend.hAppend va_W va_W va_W _ ([((ma 0), .inl (X.2.1, 371, .inl fa))]) (@HAppend.hAppend va_W va_W va_W _ ([((ma 8), .inl (X.2.1, 10, .inl ft))]) ([((ma 3), .inl (X.2.1, 3, .inl fr))])))) sz) (va_A (@HAppend.hAppend va_W va_W va_W _ (mW m0 ma la lb n t v) (@HAppend.hAppend va_W va_W va_W _ ([((ma 0), .inl (X.2.1, 371, .inl fa))]) (@HAppend.hAppend va_W va_W va_W _ ([((ma 8), .inl (X.2.1, 10, .inl ft))]) ([((ma 3), .inl (X.2.1, 3, .inl fr))])))) sz) s (@HAppend.hAppend va_W va_W va_W _ (mW m0 ma la lb n t v) (@HAppend.hAppend va_W va_W va_W _ ([((ma 0), .inl (X.2.1, 371, .inl fa))]) (@HAppend.hAppend va_W va_W va_W _ ([((ma 8), .inl (X.2.1, 10, .inl f30_2))]) ([((ma 3), .inl (X.2.1, 3, .inl fr))])))) H locs → lv_has ls 7 [(5, .int (nI k30)), (4, .int x30_4), (3, .int x30_3), (2, .int r_3), (0, .ref m0), (1, .int (nI j_1))] → Wx (F0 m 132 ls []) H locs) ?_ ?_
      · intro join_35
        refine lv_icmp_ge (tgt := 132) zx zb dX11_tell_35 (by decide) (fun c_4 => ?_) (fun c_4 => ?_)
        · have fc_4 := j_le (a := 200) (b := k30) (by omega) (by omega) c_4
          exact join_35  _ _ _  G hl
        · have fc_4 := j_nle (a := 200) (b := k30) (by omega) (by omega) c_4
          refine lv_iload_n zx zb dX11_tell_38 rfl (lv_at hl 3 rfl) ?_
          refine lv_if_le (tgt := 132) zx zb dX11_tell_39 (by decide) (fun c_5 => ?_) (fun c_5 => ?_)
          · exact join_35  _ _ _  G hl
          · refine lv_iconst (v := 1) zx zb dX11_tell_42 (by decide) ?_
            refine lv_istore (lv' := [(6, .int 1), (5, .int (nI k30)), (4, .int x30_4), (3, .int x30_3), (2, .int r_3), (0, .ref m0), (1, .int (nI j_1))]) zx zb dX11_tell_43 hl (by decide) rfl (fun ls hl => ?_)
            refine k_loop (P := ∀ (zm : Nat) (k45 : Nat) (f45_2 : Nat → Int32) (H : Heap) (locs : List Loc) (ls : Array Slot), 10 + 1 ≤ k45 + zm → (k45 ≤ 10) → wd X (va_A (@HAppend.hAppend va_W va_W va_W _ (mW m0 ma la lb n t v) (@HAppend.hAppend va_W va_W va_W _ ([((ma 0), .inl (X.2.1, 371, .inl fa))]) (@HAppend.hAppend va_W va_W va_W _ ([((ma 8), .inl (X.2.1, 10, .inl ft))]) ([((ma 3), .inl (X.2.1, 3, .inl fr))])))) sz) (va_A (@HAppend.hAppend va_W va_W va_W _ (mW m0 ma la lb n t v) (@HAppend.hAppend va_W va_W va_W _ ([((ma 0), .inl (X.2.1, 371, .inl fa))]) (@HAppend.hAppend va_W va_W va_W _ ([((ma 8), .inl (X.2.1, 10, .inl ft))]) ([((ma 3), .inl (X.2.1, 3, .inl fr))])))) sz) s (@HAppend.hAppend va_W va_W va_W _ (mW m0 ma la lb n t v) (@HAppend.hAppend va_W va_W va_W _ ([((ma 0), .inl (X.2.1, 371, .inl fa))]) (@HAppend.hAppend va_W va_W va_W _ ([((ma 8), .inl (X.2.1, 10, .inl f45_2))]) ([((ma 3), .inl (X.2.1, 3, .inl fr))])))) H locs → lv_has ls 7 [(6, .int (nI k45)), (5, .int (nI k30)), (4, .int x30_4), (3, .int x30_3), (2, .int r_3), (0, .ref m0), (1, .int (nI j_1))] → W p l e _ s m _ below meth c H locs _ _ _ (F0 m 45 ls [])) (fun loop => loop (10 + 1) 1 f30_2 _ _ _ (by omega) (by omega) G hl) ?_
            intro zm
            induction zm with
            | zero => intro k45 f45_2 H locs ls zz q_hk_k45 _ _; exact absurd zz (by omega)
            | succ zm ih45 =>
              intro k45 f45_2 H locs ls zm_45 hk_k45 G hl
              refine lv_iload zx zb dX11_tell_45 (lv_at hl 0 rfl) ?_
              refine lv_bipush (v := 10) zx zb dX11_tell_47 (by decide) ?_
              refine lv_icmp_ge (tgt := 89) zx zb dX11_tell_49 (by decide) (fun c_6 => ?_) (fun c_6 => ?_)
              · have fc_6 := j_le (a := 10) (b := k45) (by omega) (by omega) c_6
                refine lv_aload_n zx zb dX11_tell_89 rfl (lv_at hl 5 rfl) ?_
                refine lv_iload_n zx zb dX11_tell_90 rfl (lv_at hl 4 rfl) ?_
                refine o_ri (cells' := 0) (slots' := 0) G rfl rfl (n_V (As := [.int r_3]) (rest := []) (C := RX11) (T := TX11) (N := 18) (ci := 9) S G (m_mostAlike l X m0 ma la lb n t v f45_2 r_3 hI_n hI_t H.size) gX11_tell_X11_mostAlike rfl rfl rfl hdV_X11_mostAlike ⟨Nat.le_of_ble_eq_true rfl, Nat.le_of_ble_eq_true rfl⟩ [0, 2] rfl rfl 0 rfl rfl rfl hl.1 (Nat.le_of_ble_eq_true rfl) dX11_tell_91 ⟨Nat.le_of_ble_eq_true rfl, Nat.le_of_ble_eq_true rfl⟩) (fun r_7 u_7 H locs hp_7 G => ?_)
                have G : wd X (va_A (@HAppend.hAppend va_W va_W va_W _ (mW m0 ma la lb n t v) (@HAppend.hAppend va_W va_W va_W _ ([((ma 0), .inl (X.2.1, 371, .inl fa))]) (@HAppend.hAppend va_W va_W va_W _ ([((ma 8), .inl (X.2.1, 10, .inl ft))]) ([((ma 3), .inl (X.2.1, 3, .inl fr))])))) sz) (va_A (@HAppend.hAppend va_W va_W va_W _ (mW m0 ma la lb n t v) (@HAppend.hAppend va_W va_W va_W _ ([((ma 0), .inl (X.2.1, 371, .inl fa))]) (@HAppend.hAppend va_W va_W va_W _ ([((ma 8), .inl (X.2.1, 10, .inl ft))]) ([((ma 3), .inl (X.2.1, 3, .inl fr))])))) sz) s (@HAppend.hAppend va_W va_W va_W _ (mW m0 ma la lb n t v) (@HAppend.hAppend va_W va_W va_W _ ([((ma 0), .inl (X.2.1, 371, .inl fa))]) (@HAppend.hAppend va_W va_W va_W _ ([((ma 8), .inl (X.2.1, 10, .inl f45_2))]) ([((ma 3), .inl (X.2.1, 3, .inl fr))])))) H locs := G
                refine lv_istore (lv' := [(6, .int r_7), (5, .int (nI k30)), (4, .int x30_4), (3, .int x30_3), (2, .int r_3), (0, .ref m0), (1, .int (nI j_1))]) zx zb dX11_tell_94 hl (by decide) rfl (fun ls hl => ?_)
                refine lv_iload zx zb dX11_tell_96 (lv_at hl 0 rfl) ?_
                refine lv_iload zx zb dX11_tell_98 (lv_at hl 2 rfl) ?_
                refine k_cutW (PP := fun Wx => ∀ (x_9 : Int32) (H : Heap) (locs : List Loc) (ls : Array Slot), wd X (va_A (@HAppend.hAppend va_W va_W va_W _ (mW m0 ma la lb n t v) (@HAppend.hAppend va_W va_W va_W _ ([((ma 0), .inl (X.2.1, 371, .inl fa))]) (@HAppend.hAppend va_W va_W va_W _ ([((ma 8), .inl (X.2.1, 10, .inl ft))]) ([((ma 3), .inl (X.2.1, 3, .inl fr))])))) sz) (va_A (@HAppend.hAppend va_W va_W va_W _ (mW m0 ma la lb n t v) (@HAppend.hAppend va_W va_W va_W _ ([((ma 0), .inl (X.2.1, 371, .inl fa))]) (@HAppend.hAppend va_W va_W va_W _ ([((ma 8), .inl (X.2.1, 10, .inl ft))]) ([((ma 3), .inl (X.2.1, 3, .inl fr))])))) sz) s (@HAppend.hAppend va_W va_W va_W _ (mW m0 ma la lb n t v) (@HAppend.hAppend va_W va_W va_W _ ([((ma 0), .inl (X.2.1, 371, .inl fa))]) (@HAppend.hAppend va_W va_W va_W _ ([((ma 8), .inl (X.2.1, 10, .inl f45_2))]) ([((ma 3), .inl (X.2.1, 3, .inl fr))])))) H locs → lv_has ls 7 [(6, .int r_7), (5, .int (nI k30)), (4, .int x30_4), (3, .int x30_3), (2, .int r_3), (0, .ref m0), (1, .int (nI j_1))] → Wx (F0 m 109 ls [.int x_9]) H locs) ?_ ?_
                · intro join_100
                  refine lv_icmp_ge (tgt := 108) zx zb dX11_tell_100 (by decide) (fun c_8 => ?_) (fun c_8 => ?_)
                  · refine lv_iload_n zx zb dX11_tell_108 rfl (lv_at hl 3 rfl) ?_
                    exact join_100 x30_3 _ _ _  G hl
                  · refine lv_iload zx zb dX11_tell_103 (lv_at hl 1 rfl) ?_
                    refine lv_goto (tgt := 109) zx zb dX11_tell_105 (by decide) ?_
                    exact join_100 (nI k30) _ _ _  G hl
                · intro x_9 H locs ls  G hl
                  refine lv_istore_n (lv' := [(3, .int x_9), (6, .int r_7), (5, .int (nI k30)), (4, .int x30_4), (2, .int r_3), (0, .ref m0), (1, .int (nI j_1))]) zx zb dX11_tell_109 rfl hl (by decide) rfl (fun ls hl => ?_)
                  refine lv_iload zx zb dX11_tell_110 (lv_at hl 1 rfl) ?_
                  refine lv_iload zx zb dX11_tell_112 (lv_at hl 3 rfl) ?_
                  refine k_cutW (PP := fun Wx => ∀ (x_11 : Int32) (H : Heap) (locs : List Loc) (ls : Array Slot), wd X (va_A (@HAppend.hAppend va_W va_W va_W _ (mW m0 ma la lb n t v) (@HAppend.hAppend va_W va_W va_W _ ([((ma 0), .inl (X.2.1, 371, .inl fa))]) (@HAppend.hAppend va_W va_W va_W _ ([((ma 8), .inl (X.2.1, 10, .inl ft))]) ([((ma 3), .inl (X.2.1, 3, .inl fr))])))) sz) (va_A (@HAppend.hAppend va_W va_W va_W _ (mW m0 ma la lb n t v) (@HAppend.hAppend va_W va_W va_W _ ([((ma 0), .inl (X.2.1, 371, .inl fa))]) (@HAppend.hAppend va_W va_W va_W _ ([((ma 8), .inl (X.2.1, 10, .inl ft))]) ([((ma 3), .inl (X.2.1, 3, .inl fr))])))) sz) s (@HAppend.hAppend va_W va_W va_W _ (mW m0 ma la lb n t v) (@HAppend.hAppend va_W va_W va_W _ ([((ma 0), .inl (X.2.1, 371, .inl fa))]) (@HAppend.hAppend va_W va_W va_W _ ([((ma 8), .inl (X.2.1, 10, .inl f45_2))]) ([((ma 3), .inl (X.2.1, 3, .inl fr))])))) H locs → lv_has ls 7 [(3, .int x_9), (6, .int r_7), (5, .int (nI k30)), (4, .int x30_4), (2, .int r_3), (0, .ref m0), (1, .int (nI j_1))] → Wx (F0 m 124 ls [.int x_11]) H locs) ?_ ?_
                  · intro join_114
                    refine lv_icmp_ge (tgt := 122) zx zb dX11_tell_114 (by decide) (fun c_10 => ?_) (fun c_10 => ?_)
                    · refine lv_iload zx zb dX11_tell_122 (lv_at hl 3 rfl) ?_
                      exact join_114 x30_4 _ _ _  G hl
                    · refine lv_iload zx zb dX11_tell_117 (lv_at hl 1 rfl) ?_
                      refine lv_goto (tgt := 124) zx zb dX11_tell_119 (by decide) ?_
                      exact join_114 r_7 _ _ _  G hl
                  · intro x_11 H locs ls  G hl
                    refine lv_istore (lv' := [(4, .int x_11), (3, .int x_9), (6, .int r_7), (5, .int (nI k30)), (2, .int r_3), (0, .ref m0), (1, .int (nI j_1))]) zx zb dX11_tell_124 hl (by decide) rfl (fun ls hl => ?_)
                    refine lv_iinc (v := (nI (k30 + 1))) (lv' := [(5, .int (nI (k30 + 1))), (4, .int x_11), (3, .int x_9), (6, .int r_7), (2, .int r_3), (0, .ref m0), (1, .int (nI j_1))]) zx zb dX11_tell_126 hl (k := 3) rfl (nI_add k30 1) (by decide) rfl (fun ls hl => ?_)
                    refine lv_goto (tgt := 30) zx zb dX11_tell_129 (by decide) ?_
                    have hl := lv_sub hl (l' := [(5, .int (nI (k30 + 1))), (4, .int x_11), (3, .int x_9), (2, .int r_3), (0, .ref m0), (1, .int (nI j_1))]) [0, 1, 2, 4, 5, 6] rfl
                    exact ih30 (k30 + 1) x_11 x_9 f45_2 _ _ _ (by omega) (by omega) G hl
              · have fc_6 := j_nle (a := 10) (b := k45) (by omega) (by omega) c_6
                refine lv_aload_n zx zb dX11_tell_52 rfl (lv_at hl 5 rfl) ?_
                refine r_get (C := RX11) (T := TX11) (N := 18) (ci := 9) (v := .ref (ma 8)) S in_X11_tell_X11 G 0 rfl rfl 8 (by decide) lk_X11_tell_33 rfl dX11_tell_53 ?_
                refine lv_iload zx zb dX11_tell_56 (lv_at hl 0 rfl) ?_
                refine lv_aload_n zx zb dX11_tell_58 rfl (lv_at hl 5 rfl) ?_
                refine r_get (C := RX11) (T := TX11) (N := 18) (ci := 9) (v := .ref (ma 0)) S in_X11_tell_X11 G 0 rfl rfl 0 (by decide) lk_X11_tell_7 rfl dX11_tell_59 ?_
                refine lv_bipush (v := 37) zx zb dX11_tell_62 (by decide) ?_
                refine lv_iload_n zx zb dX11_tell_64 rfl (lv_at hl 6 rfl) ?_
                refine r_iadd (v := (nI (37 + j_1))) S (nI_add 37 j_1) dX11_tell_65 ?_
                refine r_iald S G 1 rfl (vp_in_nI (by omega) (by decide)) rfl dX11_tell_66 ?_
                refine k_itE (fun y_12 => ?_)
                refine lv_iload zx zb dX11_tell_67 (lv_at hl 0 rfl) ?_
                refine lv_iload zx zb dX11_tell_69 (lv_at hl 1 rfl) ?_
                refine lv_bipush (v := 10) zx zb dX11_tell_71 (by decide) ?_
                refine lv_irem zx zb dX11_tell_73 (by decide) ?_
                refine k_it (v := (nI (k30 % 10))) (pk_rem (d := 10) (by omega) (by decide) (by decide)) ?_
                refine lv_iload zx zb dX11_tell_74 (lv_at hl 1 rfl) ?_
                refine lv_bipush (v := 10) zx zb dX11_tell_76 (by decide) ?_
                refine lv_idiv zx zb dX11_tell_78 (by decide) ?_
                refine k_it (v := (nI (k30 / 10))) (pk_div (d := 10) (by omega) (by decide) (by decide)) ?_
                refine o_ri (cells' := 0) (slots' := 0) G rfl rfl (n_S (As := [.int y_12, .int (nI k45), .int (nI (k30 % 10)), .int (nI (k30 / 10))]) (rest := [.int (nI k45), .ref (ma 8)]) S G (m_runsAs l X y_12 (nI k45) (nI (k30 % 10)) (nI (k30 / 10)) H.size) gX11_tell_X11_runsAs rfl rfl rfl hdS_X11_runsAs ⟨Nat.le_of_ble_eq_true rfl, Nat.le_of_ble_eq_true rfl⟩ [] rfl rfl rfl hl.1 (Nat.le_of_ble_eq_true rfl) dX11_tell_79 ⟨Nat.le_of_ble_eq_true rfl, Nat.le_of_ble_eq_true rfl⟩) (fun r_13 u_13 H locs hp_13 G => ?_)
                have G : wd X (va_A (@HAppend.hAppend va_W va_W va_W _ (mW m0 ma la lb n t v) (@HAppend.hAppend va_W va_W va_W _ ([((ma 0), .inl (X.2.1, 371, .inl fa))]) (@HAppend.hAppend va_W va_W va_W _ ([((ma 8), .inl (X.2.1, 10, .inl ft))]) ([((ma 3), .inl (X.2.1, 3, .inl fr))])))) sz) (va_A (@HAppend.hAppend va_W va_W va_W _ (mW m0 ma la lb n t v) (@HAppend.hAppend va_W va_W va_W _ ([((ma 0), .inl (X.2.1, 371, .inl fa))]) (@HAppend.hAppend va_W va_W va_W _ ([((ma 8), .inl (X.2.1, 10, .inl ft))]) ([((ma 3), .inl (X.2.1, 3, .inl fr))])))) sz) s (@HAppend.hAppend va_W va_W va_W _ (mW m0 ma la lb n t v) (@HAppend.hAppend va_W va_W va_W _ ([((ma 0), .inl (X.2.1, 371, .inl fa))]) (@HAppend.hAppend va_W va_W va_W _ ([((ma 8), .inl (X.2.1, 10, .inl f45_2))]) ([((ma 3), .inl (X.2.1, 3, .inl fr))])))) H locs := G
                refine r_iast S G 2 rfl (vp_in_nI (by omega) (by decide)) dX11_tell_82 (fun H locs G => ?_)
                obtain ⟨f_14, G⟩ : ∃ f_14 : Nat → Int32, wd X (va_A (@HAppend.hAppend va_W va_W va_W _ (mW m0 ma la lb n t v) (@HAppend.hAppend va_W va_W va_W _ ([((ma 0), .inl (X.2.1, 371, .inl fa))]) (@HAppend.hAppend va_W va_W va_W _ ([((ma 8), .inl (X.2.1, 10, .inl ft))]) ([((ma 3), .inl (X.2.1, 3, .inl fr))])))) sz) (va_A (@HAppend.hAppend va_W va_W va_W _ (mW m0 ma la lb n t v) (@HAppend.hAppend va_W va_W va_W _ ([((ma 0), .inl (X.2.1, 371, .inl fa))]) (@HAppend.hAppend va_W va_W va_W _ ([((ma 8), .inl (X.2.1, 10, .inl ft))]) ([((ma 3), .inl (X.2.1, 3, .inl fr))])))) sz) s (@HAppend.hAppend va_W va_W va_W _ (mW m0 ma la lb n t v) (@HAppend.hAppend va_W va_W va_W _ ([((ma 0), .inl (X.2.1, 371, .inl fa))]) (@HAppend.hAppend va_W va_W va_W _ ([((ma 8), .inl (X.2.1, 10, .inl f_14))]) ([((ma 3), .inl (X.2.1, 3, .inl fr))])))) H locs := ⟨_, G⟩
                refine lv_iinc (v := (nI (k45 + 1))) (lv' := [(6, .int (nI (k45 + 1))), (5, .int (nI k30)), (4, .int x30_4), (3, .int x30_3), (2, .int r_3), (0, .ref m0), (1, .int (nI j_1))]) zx zb dX11_tell_83 hl (k := 0) rfl (nI_add k45 1) (by decide) rfl (fun ls hl => ?_)
                refine lv_goto (tgt := 45) zx zb dX11_tell_86 (by decide) ?_
                exact ih45 (k45 + 1) f_14 _ _ _ (by omega) (by omega) G hl
      · intro  H locs ls  G hl
        refine lv_iload_n zx zb dX11_tell_132 rfl (lv_at hl 2 rfl) ?_
        exact e_int S zr zlk (vp_nar_int _) G (f30_2, fr) [0, 1, 2, 3] rfl rfl (Or.inr rfl) (trivial) dX11_tell_133
  · refine lv_if_ne (tgt := 15) zx zb dX11_tell_5 (by decide) (fun c_15 => absurd (by decide) c_15) (fun c_15 => ?_)
    refine lv_aload_n zx zb dX11_tell_8 rfl (lv_at hl 0 rfl) ?_
    refine lv_bipush (v := (-2)) zx zb dX11_tell_9 (by decide) ?_
    refine b_wi (cells' := 0) (slots' := 0) (wr := @HAppend.hAppend va_W va_W va_W _ ([((ma 0), .inl (X.2.1, 371, .inl fa))]) ([((ma 8), .inl (X.2.1, 10, .inl ft))])) G rfl rfl [0, 3] [1, 2] rfl rfl rfl rfl (n_V (As := [.int (-2)]) (rest := []) (C := RX11) (T := TX11) (N := 18) (ci := 9) S G (m_bad l X m0 ma la lb n t v fr (-2) hI_n hI_t H.size) gX11_tell_X11_bad rfl rfl rfl hdV_X11_bad ⟨Nat.le_of_ble_eq_true rfl, Nat.le_of_ble_eq_true rfl⟩ [0, 3] rfl rfl 0 rfl rfl rfl hl.1 (Nat.le_of_ble_eq_true rfl) dX11_tell_11 ⟨Nat.le_of_ble_eq_true rfl, Nat.le_of_ble_eq_true rfl⟩) (fun r_16 u_16 H locs hp_16 G => ?_)
    obtain ⟨f_16, rfl⟩ : ∃ z, z = u_16 := ⟨_, rfl⟩
    have hq_16 := hp_16
    have G : wd X (va_A (@HAppend.hAppend va_W va_W va_W _ (mW m0 ma la lb n t v) (@HAppend.hAppend va_W va_W va_W _ ([((ma 0), .inl (X.2.1, 371, .inl fa))]) (@HAppend.hAppend va_W va_W va_W _ ([((ma 8), .inl (X.2.1, 10, .inl ft))]) ([((ma 3), .inl (X.2.1, 3, .inl fr))])))) sz) (va_A (@HAppend.hAppend va_W va_W va_W _ (mW m0 ma la lb n t v) (@HAppend.hAppend va_W va_W va_W _ ([((ma 0), .inl (X.2.1, 371, .inl fa))]) (@HAppend.hAppend va_W va_W va_W _ ([((ma 8), .inl (X.2.1, 10, .inl ft))]) ([((ma 3), .inl (X.2.1, 3, .inl fr))])))) sz) s (@HAppend.hAppend va_W va_W va_W _ ([((ma 0), .inl (X.2.1, 371, .inl fa))]) (@HAppend.hAppend va_W va_W va_W _ ([((ma 8), .inl (X.2.1, 10, .inl ft))]) (@HAppend.hAppend va_W va_W va_W _ (mW m0 ma la lb n t v) ([((ma 3), .inl (X.2.1, 3, .inl f_16))])))) H locs := G
    obtain rfl := hq_16
    exact e_int S zr zlk (vp_nar_int _) G (ft, f_16) [2, 0, 1, 3] rfl rfl (Or.inr rfl) (trivial) dX11_tell_14
theorem hdV_X11_kindsOfOne : yX11_kindsOfOne.cls = RX11 ∧ yX11_kindsOfOne.cls ≠ "java/lang/invoke/MethodHandle" ∧ yX11_kindsOfOne.cls ≠ "java/lang/invoke/VarHandle" ∧ (parseMethodDescriptor yX11_kindsOfOne.desc).map (fun d => d.parameters.length) = some 1 := by decide +kernel
theorem mm_X11_look_c150 : Cond.constant RX11 150 (1000000) ∈ wsX11_look := by decide +kernel
theorem in_X11_look_X11 : ∀ w ∈ wsX110, w ∈ wsX11_look := by decide +kernel
theorem lk_X11_look_33 : Cond.fieldLink RX11 33 "EggSpoonsModel" "tells" "[I" ∈ wsX11_look := by decide +kernel
theorem lk_X11_look_7 : Cond.fieldLink RX11 7 "EggSpoonsModel" "all" "[I" ∈ wsX11_look := by decide +kernel
set_option maxHeartbeats 4000000 in
set_option maxRecDepth 100000 in
/-- look -/
theorem m_look (l : Launch) (X : EX) (m0 : Nat) (ma : Nat → Nat) (la : Int64) (lb : Int64) (n : Nat) (t : Nat → Nat) (v : Nat → Int32) (fa : Nat → Int32) (c0 : Nat) (c1 : Nat) (c2 : Nat) (c3 : Nat) (c4 : Nat) (ft : Nat → Int32) (fr : Nat → Int32) (x1 : Int32) (hI_n : n ≤ 150) (hI_t : InT t) (hI_fa : InA fa c0 c1 c2 c3 c4) (sz : Nat) : Met l yX11_look wsX11_look ({ frames := 2, cells := 0, slots := 0, locals := 52 } : Room) (pE X [.ref m0, .int x1] (@HAppend.hAppend va_W va_W va_W _ (mW m0 ma la lb n t v) (@HAppend.hAppend va_W va_W va_W _ ([((ma 0), .inl (X.2.1, 371, .inl fa))]) (@HAppend.hAppend va_W va_W va_W _ ([((ma 8), .inl (X.2.1, 10, .inl ft))]) ([((ma 3), .inl (X.2.1, 3, .inl fr))])))) sz) (qI (fun (r : Int32) (u : (Nat → Int32) × (Nat → Int32)) => (True)) X (fun (u : (Nat → Int32) × (Nat → Int32)) => @HAppend.hAppend va_W va_W va_W _ (mW m0 ma la lb n t v) (@HAppend.hAppend va_W va_W va_W _ ([((ma 0), .inl (X.2.1, 371, .inl fa))]) (@HAppend.hAppend va_W va_W va_W _ ([((ma 8), .inl (X.2.1, 10, .inl u.1))]) ([((ma 3), .inl (X.2.1, 3, .inl u.2))])))) (@HAppend.hAppend va_W va_W va_W _ (mW m0 ma la lb n t v) (@HAppend.hAppend va_W va_W va_W _ ([((ma 0), .inl (X.2.1, 371, .inl fa))]) (@HAppend.hAppend va_W va_W va_W _ ([((ma 8), .inl (X.2.1, 10, .inl ft))]) ([((ma 3), .inl (X.2.1, 3, .inl fr))])))) sz) 0 0 (va_A (@HAppend.hAppend va_W va_W va_W _ (mW m0 ma la lb n t v) (@HAppend.hAppend va_W va_W va_W _ ([((ma 0), .inl (X.2.1, 371, .inl fa))]) (@HAppend.hAppend va_W va_W va_W _ ([((ma 8), .inl (X.2.1, 10, .inl ft))]) ([((ma 3), .inl (X.2.1, 3, .inl fr))])))) sz) := by
  refine mk_met (B := (va_A (@HAppend.hAppend va_W va_W va_W _ (mW m0 ma la lb n t v) (@HAppend.hAppend va_W va_W va_W _ ([((ma 0), .inl (X.2.1, 371, .inl fa))]) (@HAppend.hAppend va_W va_W va_W _ ([((ma 8), .inl (X.2.1, 10, .inl ft))]) ([((ma 3), .inl (X.2.1, 3, .inl fr))])))) sz)) (A := (va_A (@HAppend.hAppend va_W va_W va_W _ (mW m0 ma la lb n t v) (@HAppend.hAppend va_W va_W va_W _ ([((ma 0), .inl (X.2.1, 371, .inl fa))]) (@HAppend.hAppend va_W va_W va_W _ ([((ma 8), .inl (X.2.1, 10, .inl ft))]) ([((ma 3), .inl (X.2.1, 3, .inl fr))])))) sz)) (cc := cX11_look) (maxL := 7) (ret := (some .int)) (by decide) rfl (Nat.le_of_ble_eq_true rfl) k_w k_a (fun p e s m below meth c S zr zlk znm zsz G ls hl => ?_)
  have S : CallFix p m c cX11_look 7 s _ wsX11_look RX11 := S
  have zx := S.1
  have zb := S.2.1
  have hl : lv_has ls 7 [(0, .ref m0), (1, .int x1)] := hl
  have hO_t := hI_t
  obtain ⟨ht0_t, ht1_t⟩ := hO_t
  have hO_fa := hI_fa.2
  obtain ⟨hm0_fa, hm1_fa, hm2_fa, hm3_fa, hm4_fa⟩ := hO_fa
  refine lv_aload_n zx zb dX11_look_0 rfl (lv_at hl 0 rfl) ?_
  refine lv_iload_n zx zb dX11_look_1 rfl (lv_at hl 1 rfl) ?_
  refine o_ri (cells' := 0) (slots' := 0) G rfl rfl (n_V (As := [.int x1]) (rest := []) (C := RX11) (T := TX11) (N := 18) (ci := 9) S G (m_isOne l X m0 ma la lb n t v fa c0 c1 c2 c3 c4 x1 hI_n hI_t hI_fa s.heap.size) gX11_look_X11_isOne rfl rfl rfl hdV_X11_isOne ⟨Nat.le_of_ble_eq_true rfl, Nat.le_of_ble_eq_true rfl⟩ [0, 1] rfl rfl 0 rfl rfl rfl hl.1 (Nat.le_of_ble_eq_true rfl) dX11_look_2 ⟨Nat.le_of_ble_eq_true rfl, Nat.le_of_ble_eq_true rfl⟩) (fun r_1 u_1 H locs hp_1 G => ?_)
  have G : wd X (va_A (@HAppend.hAppend va_W va_W va_W _ (mW m0 ma la lb n t v) (@HAppend.hAppend va_W va_W va_W _ ([((ma 0), .inl (X.2.1, 371, .inl fa))]) (@HAppend.hAppend va_W va_W va_W _ ([((ma 8), .inl (X.2.1, 10, .inl ft))]) ([((ma 3), .inl (X.2.1, 3, .inl fr))])))) sz) (va_A (@HAppend.hAppend va_W va_W va_W _ (mW m0 ma la lb n t v) (@HAppend.hAppend va_W va_W va_W _ ([((ma 0), .inl (X.2.1, 371, .inl fa))]) (@HAppend.hAppend va_W va_W va_W _ ([((ma 8), .inl (X.2.1, 10, .inl ft))]) ([((ma 3), .inl (X.2.1, 3, .inl fr))])))) sz) s (@HAppend.hAppend va_W va_W va_W _ (mW m0 ma la lb n t v) (@HAppend.hAppend va_W va_W va_W _ ([((ma 0), .inl (X.2.1, 371, .inl fa))]) (@HAppend.hAppend va_W va_W va_W _ ([((ma 8), .inl (X.2.1, 10, .inl ft))]) ([((ma 3), .inl (X.2.1, 3, .inl fr))])))) H locs := G
  rcases hp_1 with ⟨rfl, hj_1⟩ | ⟨rfl, hj_1⟩
  · obtain ⟨j_1, hj_1, rfl⟩ := hj_1
    refine lv_if_ne (tgt := 15) zx zb dX11_look_5 (by decide) (fun c_2 => ?_) (fun c_2 => absurd c_2 (by decide))
    refine lv_aload_n zx zb dX11_look_15 rfl (lv_at hl 0 rfl) ?_
    refine lv_iload_n zx zb dX11_look_16 rfl (lv_at hl 1 rfl) ?_
    refine o_ri (cells' := 0) (slots' := 0) G rfl rfl (n_V (As := [.int (nI j_1)]) (rest := []) (C := RX11) (T := TX11) (N := 18) (ci := 9) S G (m_kindsOfOne l X m0 ma la lb n t v fa c0 c1 c2 c3 c4 (nI j_1) hI_n hI_t hI_fa H.size) gX11_look_X11_kindsOfOne rfl rfl rfl hdV_X11_kindsOfOne ⟨Nat.le_of_ble_eq_true rfl, Nat.le_of_ble_eq_true rfl⟩ [0, 1] rfl rfl 0 rfl rfl rfl hl.1 (Nat.le_of_ble_eq_true rfl) dX11_look_17 ⟨Nat.le_of_ble_eq_true rfl, Nat.le_of_ble_eq_true rfl⟩) (fun r_3 u_3 H locs hp_3 G => ?_)
    have G : wd X (va_A (@HAppend.hAppend va_W va_W va_W _ (mW m0 ma la lb n t v) (@HAppend.hAppend va_W va_W va_W _ ([((ma 0), .inl (X.2.1, 371, .inl fa))]) (@HAppend.hAppend va_W va_W va_W _ ([((ma 8), .inl (X.2.1, 10, .inl ft))]) ([((ma 3), .inl (X.2.1, 3, .inl fr))])))) sz) (va_A (@HAppend.hAppend va_W va_W va_W _ (mW m0 ma la lb n t v) (@HAppend.hAppend va_W va_W va_W _ ([((ma 0), .inl (X.2.1, 371, .inl fa))]) (@HAppend.hAppend va_W va_W va_W _ ([((ma 8), .inl (X.2.1, 10, .inl ft))]) ([((ma 3), .inl (X.2.1, 3, .inl fr))])))) sz) s (@HAppend.hAppend va_W va_W va_W _ (mW m0 ma la lb n t v) (@HAppend.hAppend va_W va_W va_W _ ([((ma 0), .inl (X.2.1, 371, .inl fa))]) (@HAppend.hAppend va_W va_W va_W _ ([((ma 8), .inl (X.2.1, 10, .inl ft))]) ([((ma 3), .inl (X.2.1, 3, .inl fr))])))) H locs := G
    refine lv_istore_n (lv' := [(2, .int r_3), (0, .ref m0), (1, .int (nI j_1))]) zx zb dX11_look_20 rfl hl (by decide) rfl (fun ls hl => ?_)
    refine lv_iconst (v := (-1)) zx zb dX11_look_21 (by decide) ?_
    refine lv_istore_n (lv' := [(3, .int (-1)), (2, .int r_3), (0, .ref m0), (1, .int (nI j_1))]) zx zb dX11_look_22 rfl hl (by decide) rfl (fun ls hl => ?_)
    refine lv_ldc zx zb S.2.2.2.1 (S.2.2.2.2 _ mm_X11_look_c150) dX11_look_23 ?_
    refine lv_istore (lv' := [(4, .int 1000000), (3, .int (-1)), (2, .int r_3), (0, .ref m0), (1, .int (nI j_1))]) zx zb dX11_look_25 hl (by decide) rfl (fun ls hl => ?_)
    refine lv_iconst (v := 0) zx zb dX11_look_27 (by decide) ?_
    refine lv_istore (lv' := [(5, .int 0), (4, .int 1000000), (3, .int (-1)), (2, .int r_3), (0, .ref m0), (1, .int (nI j_1))]) zx zb dX11_look_28 hl (by decide) rfl (fun ls hl => ?_)
    refine k_loop (P := ∀ (zm : Nat) (k30 : Nat) (x30_4 : Int32) (x30_3 : Int32) (f30_2 : Nat → Int32) (H : Heap) (locs : List Loc) (ls : Array Slot), 200 + 1 ≤ k30 + zm → (k30 ≤ 200) → wd X (va_A (@HAppend.hAppend va_W va_W va_W _ (mW m0 ma la lb n t v) (@HAppend.hAppend va_W va_W va_W _ ([((ma 0), .inl (X.2.1, 371, .inl fa))]) (@HAppend.hAppend va_W va_W va_W _ ([((ma 8), .inl (X.2.1, 10, .inl ft))]) ([((ma 3), .inl (X.2.1, 3, .inl fr))])))) sz) (va_A (@HAppend.hAppend va_W va_W va_W _ (mW m0 ma la lb n t v) (@HAppend.hAppend va_W va_W va_W _ ([((ma 0), .inl (X.2.1, 371, .inl fa))]) (@HAppend.hAppend va_W va_W va_W _ ([((ma 8), .inl (X.2.1, 10, .inl ft))]) ([((ma 3), .inl (X.2.1, 3, .inl fr))])))) sz) s (@HAppend.hAppend va_W va_W va_W _ (mW m0 ma la lb n t v) (@HAppend.hAppend va_W va_W va_W _ ([((ma 0), .inl (X.2.1, 371, .inl fa))]) (@HAppend.hAppend va_W va_W va_W _ ([((ma 8), .inl (X.2.1, 10, .inl f30_2))]) ([((ma 3), .inl (X.2.1, 3, .inl fr))])))) H locs → lv_has ls 7 [(5, .int (nI k30)), (4, .int x30_4), (3, .int x30_3), (2, .int r_3), (0, .ref m0), (1, .int (nI j_1))] → W p l e _ s m _ below meth c H locs _ _ _ (F0 m 30 ls [])) (fun loop => loop (200 + 1) 0 1000000 (-1) ft _ _ _ (by omega) (by omega) G hl) ?_
    intro zm
    induction zm with
    | zero => intro k30 x30_4 x30_3 f30_2 H locs ls zz q_hk_k30 _ _; exact absurd zz (by omega)
    | succ zm ih30 =>
      intro k30 x30_4 x30_3 f30_2 H locs ls zm_30 hk_k30 G hl
      refine lv_iload zx zb dX11_look_30 (lv_at hl 0 rfl) ?_
      refine lv_sipush (v := 200) zx zb dX11_look_32 (by decide) ?_
      refine k_cutW (PP := fun Wx => ∀ (H : Heap) (locs : List Loc) (ls : Array Slot), wd X (va_A (@HAppend.hAppend va_W va_W va_W _ (mW m0 ma la lb n t v) (@HAppend.hAppend va_W va_W va_W _ ([((ma 0), .inl (X.2.1, 371, .inl fa))]) (@HAppend.hAppend va_W va_W va_W _ ([((ma 8), .inl (X.2.1, 10, .inl ft))]) ([((ma 3), .inl (X.2.1, 3, .inl fr))])))) sz) (va_A (@HAppend.hAppend va_W va_W va_W _ (mW m0 ma la lb n t v) (@HAppend.hAppend va_W va_W va_W _ ([((ma 0), .inl (X.2.1, 371, .inl fa))]) (@HAppend.hAppend va_W va_W va_W _ ([((ma 8), .inl (X.2.1, 10, .inl ft))]) ([((ma 3), .inl (X.2.1, 3, .inl fr))])))) sz) s (@HAppend.hAppend va_W va_W va_W _ (mW m0 ma la lb n t v) (@HAppend.hAppend va_W va_W va_W _ ([((ma 0), .inl (X.2.1, 371, .inl fa))]) (@HAppend.hAppend va_W va_W va_W _ ([((ma 8), .inl (X.2.1, 10, .inl f30_2))]) ([((ma 3), .inl (X.2.1, 3, .inl fr))])))) H locs → lv_has ls 7 [(5, .int (nI k30)), (4, .int x30_4), (3, .int x30_3), (2, .int r_3), (0, .ref m0), (1, .int (nI j_1))] → Wx (F0 m 132 ls []) H locs) ?_ ?_
      · intro join_35
        refine lv_icmp_ge (tgt := 132) zx zb dX11_look_35 (by decide) (fun c_4 => ?_) (fun c_4 => ?_)
        · have fc_4 := j_le (a := 200) (b := k30) (by omega) (by omega) c_4
          exact join_35  _ _ _  G hl
        · have fc_4 := j_nle (a := 200) (b := k30) (by omega) (by omega) c_4
          refine lv_iload_n zx zb dX11_look_38 rfl (lv_at hl 3 rfl) ?_
          refine lv_if_le (tgt := 132) zx zb dX11_look_39 (by decide) (fun c_5 => ?_) (fun c_5 => ?_)
          · exact join_35  _ _ _  G hl
          · refine lv_iconst (v := 0) zx zb dX11_look_42 (by decide) ?_
            refine lv_istore (lv' := [(6, .int 0), (5, .int (nI k30)), (4, .int x30_4), (3, .int x30_3), (2, .int r_3), (0, .ref m0), (1, .int (nI j_1))]) zx zb dX11_look_43 hl (by decide) rfl (fun ls hl => ?_)
            refine k_loop (P := ∀ (zm : Nat) (k45 : Nat) (f45_2 : Nat → Int32) (H : Heap) (locs : List Loc) (ls : Array Slot), 6 + 1 ≤ k45 + zm → (k45 ≤ 6) → wd X (va_A (@HAppend.hAppend va_W va_W va_W _ (mW m0 ma la lb n t v) (@HAppend.hAppend va_W va_W va_W _ ([((ma 0), .inl (X.2.1, 371, .inl fa))]) (@HAppend.hAppend va_W va_W va_W _ ([((ma 8), .inl (X.2.1, 10, .inl ft))]) ([((ma 3), .inl (X.2.1, 3, .inl fr))])))) sz) (va_A (@HAppend.hAppend va_W va_W va_W _ (mW m0 ma la lb n t v) (@HAppend.hAppend va_W va_W va_W _ ([((ma 0), .inl (X.2.1, 371, .inl fa))]) (@HAppend.hAppend va_W va_W va_W _ ([((ma 8), .inl (X.2.1, 10, .inl ft))]) ([((ma 3), .inl (X.2.1, 3, .inl fr))])))) sz) s (@HAppend.hAppend va_W va_W va_W _ (mW m0 ma la lb n t v) (@HAppend.hAppend va_W va_W va_W _ ([((ma 0), .inl (X.2.1, 371, .inl fa))]) (@HAppend.hAppend va_W va_W va_W _ ([((ma 8), .inl (X.2.1, 10, .inl f45_2))]) ([((ma 3), .inl (X.2.1, 3, .inl fr))])))) H locs → lv_has ls 7 [(6, .int (nI k45)), (5, .int (nI k30)), (4, .int x30_4), (3, .int x30_3), (2, .int r_3), (0, .ref m0), (1, .int (nI j_1))] → W p l e _ s m _ below meth c H locs _ _ _ (F0 m 45 ls [])) (fun loop => loop (6 + 1) 0 f30_2 _ _ _ (by omega) (by omega) G hl) ?_
            intro zm
            induction zm with
            | zero => intro k45 f45_2 H locs ls zz q_hk_k45 _ _; exact absurd zz (by omega)
            | succ zm ih45 =>
              intro k45 f45_2 H locs ls zm_45 hk_k45 G hl
              refine lv_iload zx zb dX11_look_45 (lv_at hl 0 rfl) ?_
              refine lv_bipush (v := 6) zx zb dX11_look_47 (by decide) ?_
              refine lv_icmp_ge (tgt := 89) zx zb dX11_look_49 (by decide) (fun c_6 => ?_) (fun c_6 => ?_)
              · have fc_6 := j_le (a := 6) (b := k45) (by omega) (by omega) c_6
                refine lv_aload_n zx zb dX11_look_89 rfl (lv_at hl 5 rfl) ?_
                refine lv_iload_n zx zb dX11_look_90 rfl (lv_at hl 4 rfl) ?_
                refine o_ri (cells' := 0) (slots' := 0) G rfl rfl (n_V (As := [.int r_3]) (rest := []) (C := RX11) (T := TX11) (N := 18) (ci := 9) S G (m_mostAlike l X m0 ma la lb n t v f45_2 r_3 hI_n hI_t H.size) gX11_look_X11_mostAlike rfl rfl rfl hdV_X11_mostAlike ⟨Nat.le_of_ble_eq_true rfl, Nat.le_of_ble_eq_true rfl⟩ [0, 2] rfl rfl 0 rfl rfl rfl hl.1 (Nat.le_of_ble_eq_true rfl) dX11_look_91 ⟨Nat.le_of_ble_eq_true rfl, Nat.le_of_ble_eq_true rfl⟩) (fun r_7 u_7 H locs hp_7 G => ?_)
                have G : wd X (va_A (@HAppend.hAppend va_W va_W va_W _ (mW m0 ma la lb n t v) (@HAppend.hAppend va_W va_W va_W _ ([((ma 0), .inl (X.2.1, 371, .inl fa))]) (@HAppend.hAppend va_W va_W va_W _ ([((ma 8), .inl (X.2.1, 10, .inl ft))]) ([((ma 3), .inl (X.2.1, 3, .inl fr))])))) sz) (va_A (@HAppend.hAppend va_W va_W va_W _ (mW m0 ma la lb n t v) (@HAppend.hAppend va_W va_W va_W _ ([((ma 0), .inl (X.2.1, 371, .inl fa))]) (@HAppend.hAppend va_W va_W va_W _ ([((ma 8), .inl (X.2.1, 10, .inl ft))]) ([((ma 3), .inl (X.2.1, 3, .inl fr))])))) sz) s (@HAppend.hAppend va_W va_W va_W _ (mW m0 ma la lb n t v) (@HAppend.hAppend va_W va_W va_W _ ([((ma 0), .inl (X.2.1, 371, .inl fa))]) (@HAppend.hAppend va_W va_W va_W _ ([((ma 8), .inl (X.2.1, 10, .inl f45_2))]) ([((ma 3), .inl (X.2.1, 3, .inl fr))])))) H locs := G
                refine lv_istore (lv' := [(6, .int r_7), (5, .int (nI k30)), (4, .int x30_4), (3, .int x30_3), (2, .int r_3), (0, .ref m0), (1, .int (nI j_1))]) zx zb dX11_look_94 hl (by decide) rfl (fun ls hl => ?_)
                refine lv_iload zx zb dX11_look_96 (lv_at hl 0 rfl) ?_
                refine lv_iload zx zb dX11_look_98 (lv_at hl 2 rfl) ?_
                refine k_cutW (PP := fun Wx => ∀ (x_9 : Int32) (H : Heap) (locs : List Loc) (ls : Array Slot), wd X (va_A (@HAppend.hAppend va_W va_W va_W _ (mW m0 ma la lb n t v) (@HAppend.hAppend va_W va_W va_W _ ([((ma 0), .inl (X.2.1, 371, .inl fa))]) (@HAppend.hAppend va_W va_W va_W _ ([((ma 8), .inl (X.2.1, 10, .inl ft))]) ([((ma 3), .inl (X.2.1, 3, .inl fr))])))) sz) (va_A (@HAppend.hAppend va_W va_W va_W _ (mW m0 ma la lb n t v) (@HAppend.hAppend va_W va_W va_W _ ([((ma 0), .inl (X.2.1, 371, .inl fa))]) (@HAppend.hAppend va_W va_W va_W _ ([((ma 8), .inl (X.2.1, 10, .inl ft))]) ([((ma 3), .inl (X.2.1, 3, .inl fr))])))) sz) s (@HAppend.hAppend va_W va_W va_W _ (mW m0 ma la lb n t v) (@HAppend.hAppend va_W va_W va_W _ ([((ma 0), .inl (X.2.1, 371, .inl fa))]) (@HAppend.hAppend va_W va_W va_W _ ([((ma 8), .inl (X.2.1, 10, .inl f45_2))]) ([((ma 3), .inl (X.2.1, 3, .inl fr))])))) H locs → lv_has ls 7 [(6, .int r_7), (5, .int (nI k30)), (4, .int x30_4), (3, .int x30_3), (2, .int r_3), (0, .ref m0), (1, .int (nI j_1))] → Wx (F0 m 109 ls [.int x_9]) H locs) ?_ ?_
                · intro join_100
                  refine lv_icmp_ge (tgt := 108) zx zb dX11_look_100 (by decide) (fun c_8 => ?_) (fun c_8 => ?_)
                  · refine lv_iload_n zx zb dX11_look_108 rfl (lv_at hl 3 rfl) ?_
                    exact join_100 x30_3 _ _ _  G hl
                  · refine lv_iload zx zb dX11_look_103 (lv_at hl 1 rfl) ?_
                    refine lv_goto (tgt := 109) zx zb dX11_look_105 (by decide) ?_
                    exact join_100 (nI k30) _ _ _  G hl
                · intro x_9 H locs ls  G hl
                  refine lv_istore_n (lv' := [(3, .int x_9), (6, .int r_7), (5, .int (nI k30)), (4, .int x30_4), (2, .int r_3), (0, .ref m0), (1, .int (nI j_1))]) zx zb dX11_look_109 rfl hl (by decide) rfl (fun ls hl => ?_)
                  refine lv_iload zx zb dX11_look_110 (lv_at hl 1 rfl) ?_
                  refine lv_iload zx zb dX11_look_112 (lv_at hl 3 rfl) ?_
                  refine k_cutW (PP := fun Wx => ∀ (x_11 : Int32) (H : Heap) (locs : List Loc) (ls : Array Slot), wd X (va_A (@HAppend.hAppend va_W va_W va_W _ (mW m0 ma la lb n t v) (@HAppend.hAppend va_W va_W va_W _ ([((ma 0), .inl (X.2.1, 371, .inl fa))]) (@HAppend.hAppend va_W va_W va_W _ ([((ma 8), .inl (X.2.1, 10, .inl ft))]) ([((ma 3), .inl (X.2.1, 3, .inl fr))])))) sz) (va_A (@HAppend.hAppend va_W va_W va_W _ (mW m0 ma la lb n t v) (@HAppend.hAppend va_W va_W va_W _ ([((ma 0), .inl (X.2.1, 371, .inl fa))]) (@HAppend.hAppend va_W va_W va_W _ ([((ma 8), .inl (X.2.1, 10, .inl ft))]) ([((ma 3), .inl (X.2.1, 3, .inl fr))])))) sz) s (@HAppend.hAppend va_W va_W va_W _ (mW m0 ma la lb n t v) (@HAppend.hAppend va_W va_W va_W _ ([((ma 0), .inl (X.2.1, 371, .inl fa))]) (@HAppend.hAppend va_W va_W va_W _ ([((ma 8), .inl (X.2.1, 10, .inl f45_2))]) ([((ma 3), .inl (X.2.1, 3, .inl fr))])))) H locs → lv_has ls 7 [(3, .int x_9), (6, .int r_7), (5, .int (nI k30)), (4, .int x30_4), (2, .int r_3), (0, .ref m0), (1, .int (nI j_1))] → Wx (F0 m 124 ls [.int x_11]) H locs) ?_ ?_
                  · intro join_114
                    refine lv_icmp_ge (tgt := 122) zx zb dX11_look_114 (by decide) (fun c_10 => ?_) (fun c_10 => ?_)
                    · refine lv_iload zx zb dX11_look_122 (lv_at hl 3 rfl) ?_
                      exact join_114 x30_4 _ _ _  G hl
                    · refine lv_iload zx zb dX11_look_117 (lv_at hl 1 rfl) ?_
                      refine lv_goto (tgt := 124) zx zb dX11_look_119 (by decide) ?_
                      exact join_114 r_7 _ _ _  G hl
                  · intro x_11 H locs ls  G hl
                    refine lv_istore (lv' := [(4, .int x_11), (3, .int x_9), (6, .int r_7), (5, .int (nI k30)), (2, .int r_3), (0, .ref m0), (1, .int (nI j_1))]) zx zb dX11_look_124 hl (by decide) rfl (fun ls hl => ?_)
                    refine lv_iinc (v := (nI (k30 + 1))) (lv' := [(5, .int (nI (k30 + 1))), (4, .int x_11), (3, .int x_9), (6, .int r_7), (2, .int r_3), (0, .ref m0), (1, .int (nI j_1))]) zx zb dX11_look_126 hl (k := 3) rfl (nI_add k30 1) (by decide) rfl (fun ls hl => ?_)
                    refine lv_goto (tgt := 30) zx zb dX11_look_129 (by decide) ?_
                    have hl := lv_sub hl (l' := [(5, .int (nI (k30 + 1))), (4, .int x_11), (3, .int x_9), (2, .int r_3), (0, .ref m0), (1, .int (nI j_1))]) [0, 1, 2, 4, 5, 6] rfl
                    exact ih30 (k30 + 1) x_11 x_9 f45_2 _ _ _ (by omega) (by omega) G hl
              · have fc_6 := j_nle (a := 6) (b := k45) (by omega) (by omega) c_6
                refine lv_aload_n zx zb dX11_look_52 rfl (lv_at hl 5 rfl) ?_
                refine r_get (C := RX11) (T := TX11) (N := 18) (ci := 9) (v := .ref (ma 8)) S in_X11_look_X11 G 0 rfl rfl 8 (by decide) lk_X11_look_33 rfl dX11_look_53 ?_
                refine lv_iload zx zb dX11_look_56 (lv_at hl 0 rfl) ?_
                refine lv_iload zx zb dX11_look_58 (lv_at hl 0 rfl) ?_
                refine lv_aload_n zx zb dX11_look_60 rfl (lv_at hl 5 rfl) ?_
                refine r_get (C := RX11) (T := TX11) (N := 18) (ci := 9) (v := .ref (ma 0)) S in_X11_look_X11 G 0 rfl rfl 0 (by decide) lk_X11_look_7 rfl dX11_look_61 ?_
                refine lv_bipush (v := 43) zx zb dX11_look_64 (by decide) ?_
                refine lv_iload_n zx zb dX11_look_66 rfl (lv_at hl 6 rfl) ?_
                refine r_iadd (v := (nI (43 + j_1))) S (nI_add 43 j_1) dX11_look_67 ?_
                refine r_iald S G 1 rfl (vp_in_nI (by omega) (by decide)) rfl dX11_look_68 ?_
                refine k_itE (fun y_12 => ?_)
                refine lv_iload zx zb dX11_look_69 (lv_at hl 1 rfl) ?_
                refine lv_bipush (v := 10) zx zb dX11_look_71 (by decide) ?_
                refine lv_irem zx zb dX11_look_73 (by decide) ?_
                refine k_it (v := (nI (k30 % 10))) (pk_rem (d := 10) (by omega) (by decide) (by decide)) ?_
                refine lv_iload zx zb dX11_look_74 (lv_at hl 1 rfl) ?_
                refine lv_bipush (v := 10) zx zb dX11_look_76 (by decide) ?_
                refine lv_idiv zx zb dX11_look_78 (by decide) ?_
                refine k_it (v := (nI (k30 / 10))) (pk_div (d := 10) (by omega) (by decide) (by decide)) ?_
                refine o_ri (cells' := 0) (slots' := 0) G rfl rfl (n_S (As := [.int (nI k45), .int y_12, .int (nI (k30 % 10)), .int (nI (k30 / 10))]) (rest := [.int (nI k45), .ref (ma 8)]) S G (m_runsAs l X (nI k45) y_12 (nI (k30 % 10)) (nI (k30 / 10)) H.size) gX11_look_X11_runsAs rfl rfl rfl hdS_X11_runsAs ⟨Nat.le_of_ble_eq_true rfl, Nat.le_of_ble_eq_true rfl⟩ [] rfl rfl rfl hl.1 (Nat.le_of_ble_eq_true rfl) dX11_look_79 ⟨Nat.le_of_ble_eq_true rfl, Nat.le_of_ble_eq_true rfl⟩) (fun r_13 u_13 H locs hp_13 G => ?_)
                have G : wd X (va_A (@HAppend.hAppend va_W va_W va_W _ (mW m0 ma la lb n t v) (@HAppend.hAppend va_W va_W va_W _ ([((ma 0), .inl (X.2.1, 371, .inl fa))]) (@HAppend.hAppend va_W va_W va_W _ ([((ma 8), .inl (X.2.1, 10, .inl ft))]) ([((ma 3), .inl (X.2.1, 3, .inl fr))])))) sz) (va_A (@HAppend.hAppend va_W va_W va_W _ (mW m0 ma la lb n t v) (@HAppend.hAppend va_W va_W va_W _ ([((ma 0), .inl (X.2.1, 371, .inl fa))]) (@HAppend.hAppend va_W va_W va_W _ ([((ma 8), .inl (X.2.1, 10, .inl ft))]) ([((ma 3), .inl (X.2.1, 3, .inl fr))])))) sz) s (@HAppend.hAppend va_W va_W va_W _ (mW m0 ma la lb n t v) (@HAppend.hAppend va_W va_W va_W _ ([((ma 0), .inl (X.2.1, 371, .inl fa))]) (@HAppend.hAppend va_W va_W va_W _ ([((ma 8), .inl (X.2.1, 10, .inl f45_2))]) ([((ma 3), .inl (X.2.1, 3, .inl fr))])))) H locs := G
                refine r_iast S G 2 rfl (vp_in_nI (by omega) (by decide)) dX11_look_82 (fun H locs G => ?_)
                obtain ⟨f_14, G⟩ : ∃ f_14 : Nat → Int32, wd X (va_A (@HAppend.hAppend va_W va_W va_W _ (mW m0 ma la lb n t v) (@HAppend.hAppend va_W va_W va_W _ ([((ma 0), .inl (X.2.1, 371, .inl fa))]) (@HAppend.hAppend va_W va_W va_W _ ([((ma 8), .inl (X.2.1, 10, .inl ft))]) ([((ma 3), .inl (X.2.1, 3, .inl fr))])))) sz) (va_A (@HAppend.hAppend va_W va_W va_W _ (mW m0 ma la lb n t v) (@HAppend.hAppend va_W va_W va_W _ ([((ma 0), .inl (X.2.1, 371, .inl fa))]) (@HAppend.hAppend va_W va_W va_W _ ([((ma 8), .inl (X.2.1, 10, .inl ft))]) ([((ma 3), .inl (X.2.1, 3, .inl fr))])))) sz) s (@HAppend.hAppend va_W va_W va_W _ (mW m0 ma la lb n t v) (@HAppend.hAppend va_W va_W va_W _ ([((ma 0), .inl (X.2.1, 371, .inl fa))]) (@HAppend.hAppend va_W va_W va_W _ ([((ma 8), .inl (X.2.1, 10, .inl f_14))]) ([((ma 3), .inl (X.2.1, 3, .inl fr))])))) H locs := ⟨_, G⟩
                refine lv_iinc (v := (nI (k45 + 1))) (lv' := [(6, .int (nI (k45 + 1))), (5, .int (nI k30)), (4, .int x30_4), (3, .int x30_3), (2, .int r_3), (0, .ref m0), (1, .int (nI j_1))]) zx zb dX11_look_83 hl (k := 0) rfl (nI_add k45 1) (by decide) rfl (fun ls hl => ?_)
                refine lv_goto (tgt := 45) zx zb dX11_look_86 (by decide) ?_
                exact ih45 (k45 + 1) f_14 _ _ _ (by omega) (by omega) G hl
      · intro  H locs ls  G hl
        refine lv_iload_n zx zb dX11_look_132 rfl (lv_at hl 2 rfl) ?_
        exact e_int S zr zlk (vp_nar_int _) G (f30_2, fr) [0, 1, 2, 3] rfl rfl (Or.inr rfl) (trivial) dX11_look_133
  · refine lv_if_ne (tgt := 15) zx zb dX11_look_5 (by decide) (fun c_15 => absurd (by decide) c_15) (fun c_15 => ?_)
    refine lv_aload_n zx zb dX11_look_8 rfl (lv_at hl 0 rfl) ?_
    refine lv_bipush (v := (-2)) zx zb dX11_look_9 (by decide) ?_
    refine b_wi (cells' := 0) (slots' := 0) (wr := @HAppend.hAppend va_W va_W va_W _ ([((ma 0), .inl (X.2.1, 371, .inl fa))]) ([((ma 8), .inl (X.2.1, 10, .inl ft))])) G rfl rfl [0, 3] [1, 2] rfl rfl rfl rfl (n_V (As := [.int (-2)]) (rest := []) (C := RX11) (T := TX11) (N := 18) (ci := 9) S G (m_bad l X m0 ma la lb n t v fr (-2) hI_n hI_t H.size) gX11_look_X11_bad rfl rfl rfl hdV_X11_bad ⟨Nat.le_of_ble_eq_true rfl, Nat.le_of_ble_eq_true rfl⟩ [0, 3] rfl rfl 0 rfl rfl rfl hl.1 (Nat.le_of_ble_eq_true rfl) dX11_look_11 ⟨Nat.le_of_ble_eq_true rfl, Nat.le_of_ble_eq_true rfl⟩) (fun r_16 u_16 H locs hp_16 G => ?_)
    obtain ⟨f_16, rfl⟩ : ∃ z, z = u_16 := ⟨_, rfl⟩
    have hq_16 := hp_16
    have G : wd X (va_A (@HAppend.hAppend va_W va_W va_W _ (mW m0 ma la lb n t v) (@HAppend.hAppend va_W va_W va_W _ ([((ma 0), .inl (X.2.1, 371, .inl fa))]) (@HAppend.hAppend va_W va_W va_W _ ([((ma 8), .inl (X.2.1, 10, .inl ft))]) ([((ma 3), .inl (X.2.1, 3, .inl fr))])))) sz) (va_A (@HAppend.hAppend va_W va_W va_W _ (mW m0 ma la lb n t v) (@HAppend.hAppend va_W va_W va_W _ ([((ma 0), .inl (X.2.1, 371, .inl fa))]) (@HAppend.hAppend va_W va_W va_W _ ([((ma 8), .inl (X.2.1, 10, .inl ft))]) ([((ma 3), .inl (X.2.1, 3, .inl fr))])))) sz) s (@HAppend.hAppend va_W va_W va_W _ ([((ma 0), .inl (X.2.1, 371, .inl fa))]) (@HAppend.hAppend va_W va_W va_W _ ([((ma 8), .inl (X.2.1, 10, .inl ft))]) (@HAppend.hAppend va_W va_W va_W _ (mW m0 ma la lb n t v) ([((ma 3), .inl (X.2.1, 3, .inl f_16))])))) H locs := G
    obtain rfl := hq_16
    exact e_int S zr zlk (vp_nar_int _) G (ft, f_16) [2, 0, 1, 3] rfl rfl (Or.inr rfl) (trivial) dX11_look_14
theorem hdV_X11_kindsOfEgg : yX11_kindsOfEgg.cls = RX11 ∧ yX11_kindsOfEgg.cls ≠ "java/lang/invoke/MethodHandle" ∧ yX11_kindsOfEgg.cls ≠ "java/lang/invoke/VarHandle" ∧ (parseMethodDescriptor yX11_kindsOfEgg.desc).map (fun d => d.parameters.length) = some 1 := by decide +kernel
theorem mm_X11_ask_c150 : Cond.constant RX11 150 (1000000) ∈ wsX11_ask := by decide +kernel
theorem in_X11_ask_X11 : ∀ w ∈ wsX110, w ∈ wsX11_ask := by decide +kernel
theorem lk_X11_ask_33 : Cond.fieldLink RX11 33 "EggSpoonsModel" "tells" "[I" ∈ wsX11_ask := by decide +kernel
set_option maxHeartbeats 4000000 in
set_option maxRecDepth 100000 in
/-- ask -/
theorem m_ask (l : Launch) (X : EX) (m0 : Nat) (ma : Nat → Nat) (la : Int64) (lb : Int64) (n : Nat) (t : Nat → Nat) (v : Nat → Int32) (fa : Nat → Int32) (c0 : Nat) (c1 : Nat) (c2 : Nat) (c3 : Nat) (c4 : Nat) (ft : Nat → Int32) (fr : Nat → Int32) (x1 : Int32) (hI_n : n ≤ 150) (hI_t : InT t) (hI_fa : InA fa c0 c1 c2 c3 c4) (sz : Nat) : Met l yX11_ask wsX11_ask ({ frames := 2, cells := 0, slots := 0, locals := 48 } : Room) (pE X [.ref m0, .int x1] (@HAppend.hAppend va_W va_W va_W _ (mW m0 ma la lb n t v) (@HAppend.hAppend va_W va_W va_W _ ([((ma 0), .inl (X.2.1, 371, .inl fa))]) (@HAppend.hAppend va_W va_W va_W _ ([((ma 8), .inl (X.2.1, 10, .inl ft))]) ([((ma 3), .inl (X.2.1, 3, .inl fr))])))) sz) (qI (fun (r : Int32) (u : (Nat → Int32) × (Nat → Int32)) => (True)) X (fun (u : (Nat → Int32) × (Nat → Int32)) => @HAppend.hAppend va_W va_W va_W _ (mW m0 ma la lb n t v) (@HAppend.hAppend va_W va_W va_W _ ([((ma 0), .inl (X.2.1, 371, .inl fa))]) (@HAppend.hAppend va_W va_W va_W _ ([((ma 8), .inl (X.2.1, 10, .inl u.1))]) ([((ma 3), .inl (X.2.1, 3, .inl u.2))])))) (@HAppend.hAppend va_W va_W va_W _ (mW m0 ma la lb n t v) (@HAppend.hAppend va_W va_W va_W _ ([((ma 0), .inl (X.2.1, 371, .inl fa))]) (@HAppend.hAppend va_W va_W va_W _ ([((ma 8), .inl (X.2.1, 10, .inl ft))]) ([((ma 3), .inl (X.2.1, 3, .inl fr))])))) sz) 0 0 (va_A (@HAppend.hAppend va_W va_W va_W _ (mW m0 ma la lb n t v) (@HAppend.hAppend va_W va_W va_W _ ([((ma 0), .inl (X.2.1, 371, .inl fa))]) (@HAppend.hAppend va_W va_W va_W _ ([((ma 8), .inl (X.2.1, 10, .inl ft))]) ([((ma 3), .inl (X.2.1, 3, .inl fr))])))) sz) := by
  refine mk_met (B := (va_A (@HAppend.hAppend va_W va_W va_W _ (mW m0 ma la lb n t v) (@HAppend.hAppend va_W va_W va_W _ ([((ma 0), .inl (X.2.1, 371, .inl fa))]) (@HAppend.hAppend va_W va_W va_W _ ([((ma 8), .inl (X.2.1, 10, .inl ft))]) ([((ma 3), .inl (X.2.1, 3, .inl fr))])))) sz)) (A := (va_A (@HAppend.hAppend va_W va_W va_W _ (mW m0 ma la lb n t v) (@HAppend.hAppend va_W va_W va_W _ ([((ma 0), .inl (X.2.1, 371, .inl fa))]) (@HAppend.hAppend va_W va_W va_W _ ([((ma 8), .inl (X.2.1, 10, .inl ft))]) ([((ma 3), .inl (X.2.1, 3, .inl fr))])))) sz)) (cc := cX11_ask) (maxL := 7) (ret := (some .int)) (by decide) rfl (Nat.le_of_ble_eq_true rfl) k_w k_a (fun p e s m below meth c S zr zlk znm zsz G ls hl => ?_)
  have S : CallFix p m c cX11_ask 7 s _ wsX11_ask RX11 := S
  have zx := S.1
  have zb := S.2.1
  have hl : lv_has ls 7 [(0, .ref m0), (1, .int x1)] := hl
  have hO_t := hI_t
  obtain ⟨ht0_t, ht1_t⟩ := hO_t
  have hO_fa := hI_fa.2
  obtain ⟨hm0_fa, hm1_fa, hm2_fa, hm3_fa, hm4_fa⟩ := hO_fa
  refine lv_aload_n zx zb dX11_ask_0 rfl (lv_at hl 0 rfl) ?_
  refine lv_iload_n zx zb dX11_ask_1 rfl (lv_at hl 1 rfl) ?_
  refine o_ri (cells' := 0) (slots' := 0) G rfl rfl (n_V (As := [.int x1]) (rest := []) (C := RX11) (T := TX11) (N := 18) (ci := 9) S G (m_isOne l X m0 ma la lb n t v fa c0 c1 c2 c3 c4 x1 hI_n hI_t hI_fa s.heap.size) gX11_ask_X11_isOne rfl rfl rfl hdV_X11_isOne ⟨Nat.le_of_ble_eq_true rfl, Nat.le_of_ble_eq_true rfl⟩ [0, 1] rfl rfl 0 rfl rfl rfl hl.1 (Nat.le_of_ble_eq_true rfl) dX11_ask_2 ⟨Nat.le_of_ble_eq_true rfl, Nat.le_of_ble_eq_true rfl⟩) (fun r_1 u_1 H locs hp_1 G => ?_)
  have G : wd X (va_A (@HAppend.hAppend va_W va_W va_W _ (mW m0 ma la lb n t v) (@HAppend.hAppend va_W va_W va_W _ ([((ma 0), .inl (X.2.1, 371, .inl fa))]) (@HAppend.hAppend va_W va_W va_W _ ([((ma 8), .inl (X.2.1, 10, .inl ft))]) ([((ma 3), .inl (X.2.1, 3, .inl fr))])))) sz) (va_A (@HAppend.hAppend va_W va_W va_W _ (mW m0 ma la lb n t v) (@HAppend.hAppend va_W va_W va_W _ ([((ma 0), .inl (X.2.1, 371, .inl fa))]) (@HAppend.hAppend va_W va_W va_W _ ([((ma 8), .inl (X.2.1, 10, .inl ft))]) ([((ma 3), .inl (X.2.1, 3, .inl fr))])))) sz) s (@HAppend.hAppend va_W va_W va_W _ (mW m0 ma la lb n t v) (@HAppend.hAppend va_W va_W va_W _ ([((ma 0), .inl (X.2.1, 371, .inl fa))]) (@HAppend.hAppend va_W va_W va_W _ ([((ma 8), .inl (X.2.1, 10, .inl ft))]) ([((ma 3), .inl (X.2.1, 3, .inl fr))])))) H locs := G
  rcases hp_1 with ⟨rfl, hj_1⟩ | ⟨rfl, hj_1⟩
  · obtain ⟨j_1, hj_1, rfl⟩ := hj_1
    refine lv_if_ne (tgt := 15) zx zb dX11_ask_5 (by decide) (fun c_2 => ?_) (fun c_2 => absurd c_2 (by decide))
    refine lv_aload_n zx zb dX11_ask_15 rfl (lv_at hl 0 rfl) ?_
    refine lv_iload_n zx zb dX11_ask_16 rfl (lv_at hl 1 rfl) ?_
    refine o_ri (cells' := 0) (slots' := 0) G rfl rfl (n_V (As := [.int (nI j_1)]) (rest := []) (C := RX11) (T := TX11) (N := 18) (ci := 9) S G (m_kindsOfEgg l X m0 ma la lb n t v fa c0 c1 c2 c3 c4 (nI j_1) hI_n hI_t hI_fa H.size) gX11_ask_X11_kindsOfEgg rfl rfl rfl hdV_X11_kindsOfEgg ⟨Nat.le_of_ble_eq_true rfl, Nat.le_of_ble_eq_true rfl⟩ [0, 1] rfl rfl 0 rfl rfl rfl hl.1 (Nat.le_of_ble_eq_true rfl) dX11_ask_17 ⟨Nat.le_of_ble_eq_true rfl, Nat.le_of_ble_eq_true rfl⟩) (fun r_3 u_3 H locs hp_3 G => ?_)
    have G : wd X (va_A (@HAppend.hAppend va_W va_W va_W _ (mW m0 ma la lb n t v) (@HAppend.hAppend va_W va_W va_W _ ([((ma 0), .inl (X.2.1, 371, .inl fa))]) (@HAppend.hAppend va_W va_W va_W _ ([((ma 8), .inl (X.2.1, 10, .inl ft))]) ([((ma 3), .inl (X.2.1, 3, .inl fr))])))) sz) (va_A (@HAppend.hAppend va_W va_W va_W _ (mW m0 ma la lb n t v) (@HAppend.hAppend va_W va_W va_W _ ([((ma 0), .inl (X.2.1, 371, .inl fa))]) (@HAppend.hAppend va_W va_W va_W _ ([((ma 8), .inl (X.2.1, 10, .inl ft))]) ([((ma 3), .inl (X.2.1, 3, .inl fr))])))) sz) s (@HAppend.hAppend va_W va_W va_W _ (mW m0 ma la lb n t v) (@HAppend.hAppend va_W va_W va_W _ ([((ma 0), .inl (X.2.1, 371, .inl fa))]) (@HAppend.hAppend va_W va_W va_W _ ([((ma 8), .inl (X.2.1, 10, .inl ft))]) ([((ma 3), .inl (X.2.1, 3, .inl fr))])))) H locs := G
    refine lv_istore_n (lv' := [(2, .int r_3), (0, .ref m0), (1, .int (nI j_1))]) zx zb dX11_ask_20 rfl hl (by decide) rfl (fun ls hl => ?_)
    refine lv_iconst (v := (-1)) zx zb dX11_ask_21 (by decide) ?_
    refine lv_istore_n (lv' := [(3, .int (-1)), (2, .int r_3), (0, .ref m0), (1, .int (nI j_1))]) zx zb dX11_ask_22 rfl hl (by decide) rfl (fun ls hl => ?_)
    refine lv_ldc zx zb S.2.2.2.1 (S.2.2.2.2 _ mm_X11_ask_c150) dX11_ask_23 ?_
    refine lv_istore (lv' := [(4, .int 1000000), (3, .int (-1)), (2, .int r_3), (0, .ref m0), (1, .int (nI j_1))]) zx zb dX11_ask_25 hl (by decide) rfl (fun ls hl => ?_)
    refine lv_iconst (v := 0) zx zb dX11_ask_27 (by decide) ?_
    refine lv_istore (lv' := [(5, .int 0), (4, .int 1000000), (3, .int (-1)), (2, .int r_3), (0, .ref m0), (1, .int (nI j_1))]) zx zb dX11_ask_28 hl (by decide) rfl (fun ls hl => ?_)
    refine k_loop (P := ∀ (zm : Nat) (k30 : Nat) (x30_4 : Int32) (x30_3 : Int32) (f30_2 : Nat → Int32) (H : Heap) (locs : List Loc) (ls : Array Slot), 20 + 1 ≤ k30 + zm → (k30 ≤ 20) → wd X (va_A (@HAppend.hAppend va_W va_W va_W _ (mW m0 ma la lb n t v) (@HAppend.hAppend va_W va_W va_W _ ([((ma 0), .inl (X.2.1, 371, .inl fa))]) (@HAppend.hAppend va_W va_W va_W _ ([((ma 8), .inl (X.2.1, 10, .inl ft))]) ([((ma 3), .inl (X.2.1, 3, .inl fr))])))) sz) (va_A (@HAppend.hAppend va_W va_W va_W _ (mW m0 ma la lb n t v) (@HAppend.hAppend va_W va_W va_W _ ([((ma 0), .inl (X.2.1, 371, .inl fa))]) (@HAppend.hAppend va_W va_W va_W _ ([((ma 8), .inl (X.2.1, 10, .inl ft))]) ([((ma 3), .inl (X.2.1, 3, .inl fr))])))) sz) s (@HAppend.hAppend va_W va_W va_W _ (mW m0 ma la lb n t v) (@HAppend.hAppend va_W va_W va_W _ ([((ma 0), .inl (X.2.1, 371, .inl fa))]) (@HAppend.hAppend va_W va_W va_W _ ([((ma 8), .inl (X.2.1, 10, .inl f30_2))]) ([((ma 3), .inl (X.2.1, 3, .inl fr))])))) H locs → lv_has ls 7 [(5, .int (nI k30)), (4, .int x30_4), (3, .int x30_3), (2, .int r_3), (0, .ref m0), (1, .int (nI j_1))] → W p l e _ s m _ below meth c H locs _ _ _ (F0 m 30 ls [])) (fun loop => loop (20 + 1) 0 1000000 (-1) ft _ _ _ (by omega) (by omega) G hl) ?_
    intro zm
    induction zm with
    | zero => intro k30 x30_4 x30_3 f30_2 H locs ls zz q_hk_k30 _ _; exact absurd zz (by omega)
    | succ zm ih30 =>
      intro k30 x30_4 x30_3 f30_2 H locs ls zm_30 hk_k30 G hl
      refine lv_iload zx zb dX11_ask_30 (lv_at hl 0 rfl) ?_
      refine lv_bipush (v := 20) zx zb dX11_ask_32 (by decide) ?_
      refine k_cutW (PP := fun Wx => ∀ (H : Heap) (locs : List Loc) (ls : Array Slot), wd X (va_A (@HAppend.hAppend va_W va_W va_W _ (mW m0 ma la lb n t v) (@HAppend.hAppend va_W va_W va_W _ ([((ma 0), .inl (X.2.1, 371, .inl fa))]) (@HAppend.hAppend va_W va_W va_W _ ([((ma 8), .inl (X.2.1, 10, .inl ft))]) ([((ma 3), .inl (X.2.1, 3, .inl fr))])))) sz) (va_A (@HAppend.hAppend va_W va_W va_W _ (mW m0 ma la lb n t v) (@HAppend.hAppend va_W va_W va_W _ ([((ma 0), .inl (X.2.1, 371, .inl fa))]) (@HAppend.hAppend va_W va_W va_W _ ([((ma 8), .inl (X.2.1, 10, .inl ft))]) ([((ma 3), .inl (X.2.1, 3, .inl fr))])))) sz) s (@HAppend.hAppend va_W va_W va_W _ (mW m0 ma la lb n t v) (@HAppend.hAppend va_W va_W va_W _ ([((ma 0), .inl (X.2.1, 371, .inl fa))]) (@HAppend.hAppend va_W va_W va_W _ ([((ma 8), .inl (X.2.1, 10, .inl f30_2))]) ([((ma 3), .inl (X.2.1, 3, .inl fr))])))) H locs → lv_has ls 7 [(5, .int (nI k30)), (4, .int x30_4), (3, .int x30_3), (2, .int r_3), (0, .ref m0), (1, .int (nI j_1))] → Wx (F0 m 114 ls []) H locs) ?_ ?_
      · intro join_34
        refine lv_icmp_ge (tgt := 114) zx zb dX11_ask_34 (by decide) (fun c_4 => ?_) (fun c_4 => ?_)
        · have fc_4 := j_le (a := 20) (b := k30) (by omega) (by omega) c_4
          exact join_34  _ _ _  G hl
        · have fc_4 := j_nle (a := 20) (b := k30) (by omega) (by omega) c_4
          refine lv_iload_n zx zb dX11_ask_37 rfl (lv_at hl 3 rfl) ?_
          refine lv_if_le (tgt := 114) zx zb dX11_ask_38 (by decide) (fun c_5 => ?_) (fun c_5 => ?_)
          · exact join_34  _ _ _  G hl
          · refine lv_iconst (v := 0) zx zb dX11_ask_41 (by decide) ?_
            refine lv_istore (lv' := [(6, .int 0), (5, .int (nI k30)), (4, .int x30_4), (3, .int x30_3), (2, .int r_3), (0, .ref m0), (1, .int (nI j_1))]) zx zb dX11_ask_42 hl (by decide) rfl (fun ls hl => ?_)
            refine k_loop (P := ∀ (zm : Nat) (k44 : Nat) (f44_2 : Nat → Int32) (H : Heap) (locs : List Loc) (ls : Array Slot), 6 + 1 ≤ k44 + zm → (k44 ≤ 6) → wd X (va_A (@HAppend.hAppend va_W va_W va_W _ (mW m0 ma la lb n t v) (@HAppend.hAppend va_W va_W va_W _ ([((ma 0), .inl (X.2.1, 371, .inl fa))]) (@HAppend.hAppend va_W va_W va_W _ ([((ma 8), .inl (X.2.1, 10, .inl ft))]) ([((ma 3), .inl (X.2.1, 3, .inl fr))])))) sz) (va_A (@HAppend.hAppend va_W va_W va_W _ (mW m0 ma la lb n t v) (@HAppend.hAppend va_W va_W va_W _ ([((ma 0), .inl (X.2.1, 371, .inl fa))]) (@HAppend.hAppend va_W va_W va_W _ ([((ma 8), .inl (X.2.1, 10, .inl ft))]) ([((ma 3), .inl (X.2.1, 3, .inl fr))])))) sz) s (@HAppend.hAppend va_W va_W va_W _ (mW m0 ma la lb n t v) (@HAppend.hAppend va_W va_W va_W _ ([((ma 0), .inl (X.2.1, 371, .inl fa))]) (@HAppend.hAppend va_W va_W va_W _ ([((ma 8), .inl (X.2.1, 10, .inl f44_2))]) ([((ma 3), .inl (X.2.1, 3, .inl fr))])))) H locs → lv_has ls 7 [(6, .int (nI k44)), (5, .int (nI k30)), (4, .int x30_4), (3, .int x30_3), (2, .int r_3), (0, .ref m0), (1, .int (nI j_1))] → W p l e _ s m _ below meth c H locs _ _ _ (F0 m 44 ls [])) (fun loop => loop (6 + 1) 0 f30_2 _ _ _ (by omega) (by omega) G hl) ?_
            intro zm
            induction zm with
            | zero => intro k44 f44_2 H locs ls zz q_hk_k44 _ _; exact absurd zz (by omega)
            | succ zm ih44 =>
              intro k44 f44_2 H locs ls zm_44 hk_k44 G hl
              refine lv_iload zx zb dX11_ask_44 (lv_at hl 0 rfl) ?_
              refine lv_bipush (v := 6) zx zb dX11_ask_46 (by decide) ?_
              refine lv_icmp_ge (tgt := 71) zx zb dX11_ask_48 (by decide) (fun c_6 => ?_) (fun c_6 => ?_)
              · have fc_6 := j_le (a := 6) (b := k44) (by omega) (by omega) c_6
                refine lv_aload_n zx zb dX11_ask_71 rfl (lv_at hl 5 rfl) ?_
                refine lv_iload_n zx zb dX11_ask_72 rfl (lv_at hl 4 rfl) ?_
                refine o_ri (cells' := 0) (slots' := 0) G rfl rfl (n_V (As := [.int r_3]) (rest := []) (C := RX11) (T := TX11) (N := 18) (ci := 9) S G (m_mostAlike l X m0 ma la lb n t v f44_2 r_3 hI_n hI_t H.size) gX11_ask_X11_mostAlike rfl rfl rfl hdV_X11_mostAlike ⟨Nat.le_of_ble_eq_true rfl, Nat.le_of_ble_eq_true rfl⟩ [0, 2] rfl rfl 0 rfl rfl rfl hl.1 (Nat.le_of_ble_eq_true rfl) dX11_ask_73 ⟨Nat.le_of_ble_eq_true rfl, Nat.le_of_ble_eq_true rfl⟩) (fun r_7 u_7 H locs hp_7 G => ?_)
                have G : wd X (va_A (@HAppend.hAppend va_W va_W va_W _ (mW m0 ma la lb n t v) (@HAppend.hAppend va_W va_W va_W _ ([((ma 0), .inl (X.2.1, 371, .inl fa))]) (@HAppend.hAppend va_W va_W va_W _ ([((ma 8), .inl (X.2.1, 10, .inl ft))]) ([((ma 3), .inl (X.2.1, 3, .inl fr))])))) sz) (va_A (@HAppend.hAppend va_W va_W va_W _ (mW m0 ma la lb n t v) (@HAppend.hAppend va_W va_W va_W _ ([((ma 0), .inl (X.2.1, 371, .inl fa))]) (@HAppend.hAppend va_W va_W va_W _ ([((ma 8), .inl (X.2.1, 10, .inl ft))]) ([((ma 3), .inl (X.2.1, 3, .inl fr))])))) sz) s (@HAppend.hAppend va_W va_W va_W _ (mW m0 ma la lb n t v) (@HAppend.hAppend va_W va_W va_W _ ([((ma 0), .inl (X.2.1, 371, .inl fa))]) (@HAppend.hAppend va_W va_W va_W _ ([((ma 8), .inl (X.2.1, 10, .inl f44_2))]) ([((ma 3), .inl (X.2.1, 3, .inl fr))])))) H locs := G
                refine lv_istore (lv' := [(6, .int r_7), (5, .int (nI k30)), (4, .int x30_4), (3, .int x30_3), (2, .int r_3), (0, .ref m0), (1, .int (nI j_1))]) zx zb dX11_ask_76 hl (by decide) rfl (fun ls hl => ?_)
                refine lv_iload zx zb dX11_ask_78 (lv_at hl 0 rfl) ?_
                refine lv_iload zx zb dX11_ask_80 (lv_at hl 2 rfl) ?_
                refine k_cutW (PP := fun Wx => ∀ (x_9 : Int32) (H : Heap) (locs : List Loc) (ls : Array Slot), wd X (va_A (@HAppend.hAppend va_W va_W va_W _ (mW m0 ma la lb n t v) (@HAppend.hAppend va_W va_W va_W _ ([((ma 0), .inl (X.2.1, 371, .inl fa))]) (@HAppend.hAppend va_W va_W va_W _ ([((ma 8), .inl (X.2.1, 10, .inl ft))]) ([((ma 3), .inl (X.2.1, 3, .inl fr))])))) sz) (va_A (@HAppend.hAppend va_W va_W va_W _ (mW m0 ma la lb n t v) (@HAppend.hAppend va_W va_W va_W _ ([((ma 0), .inl (X.2.1, 371, .inl fa))]) (@HAppend.hAppend va_W va_W va_W _ ([((ma 8), .inl (X.2.1, 10, .inl ft))]) ([((ma 3), .inl (X.2.1, 3, .inl fr))])))) sz) s (@HAppend.hAppend va_W va_W va_W _ (mW m0 ma la lb n t v) (@HAppend.hAppend va_W va_W va_W _ ([((ma 0), .inl (X.2.1, 371, .inl fa))]) (@HAppend.hAppend va_W va_W va_W _ ([((ma 8), .inl (X.2.1, 10, .inl f44_2))]) ([((ma 3), .inl (X.2.1, 3, .inl fr))])))) H locs → lv_has ls 7 [(6, .int r_7), (5, .int (nI k30)), (4, .int x30_4), (3, .int x30_3), (2, .int r_3), (0, .ref m0), (1, .int (nI j_1))] → Wx (F0 m 91 ls [.int x_9]) H locs) ?_ ?_
                · intro join_82
                  refine lv_icmp_ge (tgt := 90) zx zb dX11_ask_82 (by decide) (fun c_8 => ?_) (fun c_8 => ?_)
                  · refine lv_iload_n zx zb dX11_ask_90 rfl (lv_at hl 3 rfl) ?_
                    exact join_82 x30_3 _ _ _  G hl
                  · refine lv_iload zx zb dX11_ask_85 (lv_at hl 1 rfl) ?_
                    refine lv_goto (tgt := 91) zx zb dX11_ask_87 (by decide) ?_
                    exact join_82 (nI k30) _ _ _  G hl
                · intro x_9 H locs ls  G hl
                  refine lv_istore_n (lv' := [(3, .int x_9), (6, .int r_7), (5, .int (nI k30)), (4, .int x30_4), (2, .int r_3), (0, .ref m0), (1, .int (nI j_1))]) zx zb dX11_ask_91 rfl hl (by decide) rfl (fun ls hl => ?_)
                  refine lv_iload zx zb dX11_ask_92 (lv_at hl 1 rfl) ?_
                  refine lv_iload zx zb dX11_ask_94 (lv_at hl 3 rfl) ?_
                  refine k_cutW (PP := fun Wx => ∀ (x_11 : Int32) (H : Heap) (locs : List Loc) (ls : Array Slot), wd X (va_A (@HAppend.hAppend va_W va_W va_W _ (mW m0 ma la lb n t v) (@HAppend.hAppend va_W va_W va_W _ ([((ma 0), .inl (X.2.1, 371, .inl fa))]) (@HAppend.hAppend va_W va_W va_W _ ([((ma 8), .inl (X.2.1, 10, .inl ft))]) ([((ma 3), .inl (X.2.1, 3, .inl fr))])))) sz) (va_A (@HAppend.hAppend va_W va_W va_W _ (mW m0 ma la lb n t v) (@HAppend.hAppend va_W va_W va_W _ ([((ma 0), .inl (X.2.1, 371, .inl fa))]) (@HAppend.hAppend va_W va_W va_W _ ([((ma 8), .inl (X.2.1, 10, .inl ft))]) ([((ma 3), .inl (X.2.1, 3, .inl fr))])))) sz) s (@HAppend.hAppend va_W va_W va_W _ (mW m0 ma la lb n t v) (@HAppend.hAppend va_W va_W va_W _ ([((ma 0), .inl (X.2.1, 371, .inl fa))]) (@HAppend.hAppend va_W va_W va_W _ ([((ma 8), .inl (X.2.1, 10, .inl f44_2))]) ([((ma 3), .inl (X.2.1, 3, .inl fr))])))) H locs → lv_has ls 7 [(3, .int x_9), (6, .int r_7), (5, .int (nI k30)), (4, .int x30_4), (2, .int r_3), (0, .ref m0), (1, .int (nI j_1))] → Wx (F0 m 106 ls [.int x_11]) H locs) ?_ ?_
                  · intro join_96
                    refine lv_icmp_ge (tgt := 104) zx zb dX11_ask_96 (by decide) (fun c_10 => ?_) (fun c_10 => ?_)
                    · refine lv_iload zx zb dX11_ask_104 (lv_at hl 3 rfl) ?_
                      exact join_96 x30_4 _ _ _  G hl
                    · refine lv_iload zx zb dX11_ask_99 (lv_at hl 1 rfl) ?_
                      refine lv_goto (tgt := 106) zx zb dX11_ask_101 (by decide) ?_
                      exact join_96 r_7 _ _ _  G hl
                  · intro x_11 H locs ls  G hl
                    refine lv_istore (lv' := [(4, .int x_11), (3, .int x_9), (6, .int r_7), (5, .int (nI k30)), (2, .int r_3), (0, .ref m0), (1, .int (nI j_1))]) zx zb dX11_ask_106 hl (by decide) rfl (fun ls hl => ?_)
                    refine lv_iinc (v := (nI (k30 + 1))) (lv' := [(5, .int (nI (k30 + 1))), (4, .int x_11), (3, .int x_9), (6, .int r_7), (2, .int r_3), (0, .ref m0), (1, .int (nI j_1))]) zx zb dX11_ask_108 hl (k := 3) rfl (nI_add k30 1) (by decide) rfl (fun ls hl => ?_)
                    refine lv_goto (tgt := 30) zx zb dX11_ask_111 (by decide) ?_
                    have hl := lv_sub hl (l' := [(5, .int (nI (k30 + 1))), (4, .int x_11), (3, .int x_9), (2, .int r_3), (0, .ref m0), (1, .int (nI j_1))]) [0, 1, 2, 4, 5, 6] rfl
                    exact ih30 (k30 + 1) x_11 x_9 f44_2 _ _ _ (by omega) (by omega) G hl
              · have fc_6 := j_nle (a := 6) (b := k44) (by omega) (by omega) c_6
                refine lv_aload_n zx zb dX11_ask_51 rfl (lv_at hl 5 rfl) ?_
                refine r_get (C := RX11) (T := TX11) (N := 18) (ci := 9) (v := .ref (ma 8)) S in_X11_ask_X11 G 0 rfl rfl 8 (by decide) lk_X11_ask_33 rfl dX11_ask_52 ?_
                refine lv_iload zx zb dX11_ask_55 (lv_at hl 0 rfl) ?_
                refine lv_iload zx zb dX11_ask_57 (lv_at hl 0 rfl) ?_
                refine lv_iload zx zb dX11_ask_59 (lv_at hl 1 rfl) ?_
                refine o_ri (cells' := 0) (slots' := 0) G rfl rfl (n_S (As := [.int (nI k44), .int (nI k30)]) (rest := [.int (nI k44), .ref (ma 8)]) S G (m_mayAs l X (nI k44) (nI k30) H.size) gX11_ask_X11_mayAs rfl rfl rfl hdS_X11_mayAs ⟨Nat.le_of_ble_eq_true rfl, Nat.le_of_ble_eq_true rfl⟩ [] rfl rfl rfl hl.1 (Nat.le_of_ble_eq_true rfl) dX11_ask_61 ⟨Nat.le_of_ble_eq_true rfl, Nat.le_of_ble_eq_true rfl⟩) (fun r_12 u_12 H locs hp_12 G => ?_)
                have G : wd X (va_A (@HAppend.hAppend va_W va_W va_W _ (mW m0 ma la lb n t v) (@HAppend.hAppend va_W va_W va_W _ ([((ma 0), .inl (X.2.1, 371, .inl fa))]) (@HAppend.hAppend va_W va_W va_W _ ([((ma 8), .inl (X.2.1, 10, .inl ft))]) ([((ma 3), .inl (X.2.1, 3, .inl fr))])))) sz) (va_A (@HAppend.hAppend va_W va_W va_W _ (mW m0 ma la lb n t v) (@HAppend.hAppend va_W va_W va_W _ ([((ma 0), .inl (X.2.1, 371, .inl fa))]) (@HAppend.hAppend va_W va_W va_W _ ([((ma 8), .inl (X.2.1, 10, .inl ft))]) ([((ma 3), .inl (X.2.1, 3, .inl fr))])))) sz) s (@HAppend.hAppend va_W va_W va_W _ (mW m0 ma la lb n t v) (@HAppend.hAppend va_W va_W va_W _ ([((ma 0), .inl (X.2.1, 371, .inl fa))]) (@HAppend.hAppend va_W va_W va_W _ ([((ma 8), .inl (X.2.1, 10, .inl f44_2))]) ([((ma 3), .inl (X.2.1, 3, .inl fr))])))) H locs := G
                refine r_iast S G 2 rfl (vp_in_nI (by omega) (by decide)) dX11_ask_64 (fun H locs G => ?_)
                obtain ⟨f_13, G⟩ : ∃ f_13 : Nat → Int32, wd X (va_A (@HAppend.hAppend va_W va_W va_W _ (mW m0 ma la lb n t v) (@HAppend.hAppend va_W va_W va_W _ ([((ma 0), .inl (X.2.1, 371, .inl fa))]) (@HAppend.hAppend va_W va_W va_W _ ([((ma 8), .inl (X.2.1, 10, .inl ft))]) ([((ma 3), .inl (X.2.1, 3, .inl fr))])))) sz) (va_A (@HAppend.hAppend va_W va_W va_W _ (mW m0 ma la lb n t v) (@HAppend.hAppend va_W va_W va_W _ ([((ma 0), .inl (X.2.1, 371, .inl fa))]) (@HAppend.hAppend va_W va_W va_W _ ([((ma 8), .inl (X.2.1, 10, .inl ft))]) ([((ma 3), .inl (X.2.1, 3, .inl fr))])))) sz) s (@HAppend.hAppend va_W va_W va_W _ (mW m0 ma la lb n t v) (@HAppend.hAppend va_W va_W va_W _ ([((ma 0), .inl (X.2.1, 371, .inl fa))]) (@HAppend.hAppend va_W va_W va_W _ ([((ma 8), .inl (X.2.1, 10, .inl f_13))]) ([((ma 3), .inl (X.2.1, 3, .inl fr))])))) H locs := ⟨_, G⟩
                refine lv_iinc (v := (nI (k44 + 1))) (lv' := [(6, .int (nI (k44 + 1))), (5, .int (nI k30)), (4, .int x30_4), (3, .int x30_3), (2, .int r_3), (0, .ref m0), (1, .int (nI j_1))]) zx zb dX11_ask_65 hl (k := 0) rfl (nI_add k44 1) (by decide) rfl (fun ls hl => ?_)
                refine lv_goto (tgt := 44) zx zb dX11_ask_68 (by decide) ?_
                exact ih44 (k44 + 1) f_13 _ _ _ (by omega) (by omega) G hl
      · intro  H locs ls  G hl
        refine lv_iload_n zx zb dX11_ask_114 rfl (lv_at hl 2 rfl) ?_
        exact e_int S zr zlk (vp_nar_int _) G (f30_2, fr) [0, 1, 2, 3] rfl rfl (Or.inr rfl) (trivial) dX11_ask_115
  · refine lv_if_ne (tgt := 15) zx zb dX11_ask_5 (by decide) (fun c_14 => absurd (by decide) c_14) (fun c_14 => ?_)
    refine lv_aload_n zx zb dX11_ask_8 rfl (lv_at hl 0 rfl) ?_
    refine lv_bipush (v := (-2)) zx zb dX11_ask_9 (by decide) ?_
    refine b_wi (cells' := 0) (slots' := 0) (wr := @HAppend.hAppend va_W va_W va_W _ ([((ma 0), .inl (X.2.1, 371, .inl fa))]) ([((ma 8), .inl (X.2.1, 10, .inl ft))])) G rfl rfl [0, 3] [1, 2] rfl rfl rfl rfl (n_V (As := [.int (-2)]) (rest := []) (C := RX11) (T := TX11) (N := 18) (ci := 9) S G (m_bad l X m0 ma la lb n t v fr (-2) hI_n hI_t H.size) gX11_ask_X11_bad rfl rfl rfl hdV_X11_bad ⟨Nat.le_of_ble_eq_true rfl, Nat.le_of_ble_eq_true rfl⟩ [0, 3] rfl rfl 0 rfl rfl rfl hl.1 (Nat.le_of_ble_eq_true rfl) dX11_ask_11 ⟨Nat.le_of_ble_eq_true rfl, Nat.le_of_ble_eq_true rfl⟩) (fun r_15 u_15 H locs hp_15 G => ?_)
    obtain ⟨f_15, rfl⟩ : ∃ z, z = u_15 := ⟨_, rfl⟩
    have hq_15 := hp_15
    have G : wd X (va_A (@HAppend.hAppend va_W va_W va_W _ (mW m0 ma la lb n t v) (@HAppend.hAppend va_W va_W va_W _ ([((ma 0), .inl (X.2.1, 371, .inl fa))]) (@HAppend.hAppend va_W va_W va_W _ ([((ma 8), .inl (X.2.1, 10, .inl ft))]) ([((ma 3), .inl (X.2.1, 3, .inl fr))])))) sz) (va_A (@HAppend.hAppend va_W va_W va_W _ (mW m0 ma la lb n t v) (@HAppend.hAppend va_W va_W va_W _ ([((ma 0), .inl (X.2.1, 371, .inl fa))]) (@HAppend.hAppend va_W va_W va_W _ ([((ma 8), .inl (X.2.1, 10, .inl ft))]) ([((ma 3), .inl (X.2.1, 3, .inl fr))])))) sz) s (@HAppend.hAppend va_W va_W va_W _ ([((ma 0), .inl (X.2.1, 371, .inl fa))]) (@HAppend.hAppend va_W va_W va_W _ ([((ma 8), .inl (X.2.1, 10, .inl ft))]) (@HAppend.hAppend va_W va_W va_W _ (mW m0 ma la lb n t v) ([((ma 3), .inl (X.2.1, 3, .inl f_15))])))) H locs := G
    obtain rfl := hq_15
    exact e_int S zr zlk (vp_nar_int _) G (ft, f_15) [2, 0, 1, 3] rfl rfl (Or.inr rfl) (trivial) dX11_ask_14
set_option maxHeartbeats 4000000 in
set_option maxRecDepth 100000 in
/-- is -/
theorem m_is (l : Launch) (X : EX) (m0 : Nat) (ma : Nat → Nat) (la : Int64) (lb : Int64) (n : Nat) (t : Nat → Nat) (v : Nat → Int32) (fa : Nat → Int32) (c0 : Nat) (c1 : Nat) (c2 : Nat) (c3 : Nat) (c4 : Nat) (fr : Nat → Int32) (x1 : Int32) (hI_n : n ≤ 150) (hI_t : InT t) (hI_fa : InA fa c0 c1 c2 c3 c4) (sz : Nat) : Met l yX11_is wsX11_is ({ frames := 2, cells := 0, slots := 0, locals := 52 } : Room) (pE X [.ref m0, .int x1] (@HAppend.hAppend va_W va_W va_W _ (mW m0 ma la lb n t v) (@HAppend.hAppend va_W va_W va_W _ ([((ma 0), .inl (X.2.1, 371, .inl fa))]) ([((ma 3), .inl (X.2.1, 3, .inl fr))]))) sz) (qI (fun (r : Int32) (u : (Nat → Int32)) => (True)) X (fun (u : (Nat → Int32)) => @HAppend.hAppend va_W va_W va_W _ (mW m0 ma la lb n t v) (@HAppend.hAppend va_W va_W va_W _ ([((ma 0), .inl (X.2.1, 371, .inl fa))]) ([((ma 3), .inl (X.2.1, 3, .inl u))]))) (@HAppend.hAppend va_W va_W va_W _ (mW m0 ma la lb n t v) (@HAppend.hAppend va_W va_W va_W _ ([((ma 0), .inl (X.2.1, 371, .inl fa))]) ([((ma 3), .inl (X.2.1, 3, .inl fr))]))) sz) 0 0 (va_A (@HAppend.hAppend va_W va_W va_W _ (mW m0 ma la lb n t v) (@HAppend.hAppend va_W va_W va_W _ ([((ma 0), .inl (X.2.1, 371, .inl fa))]) ([((ma 3), .inl (X.2.1, 3, .inl fr))]))) sz) := by
  refine mk_met (B := (va_A (@HAppend.hAppend va_W va_W va_W _ (mW m0 ma la lb n t v) (@HAppend.hAppend va_W va_W va_W _ ([((ma 0), .inl (X.2.1, 371, .inl fa))]) ([((ma 3), .inl (X.2.1, 3, .inl fr))]))) sz)) (A := (va_A (@HAppend.hAppend va_W va_W va_W _ (mW m0 ma la lb n t v) (@HAppend.hAppend va_W va_W va_W _ ([((ma 0), .inl (X.2.1, 371, .inl fa))]) ([((ma 3), .inl (X.2.1, 3, .inl fr))]))) sz)) (cc := cX11_is) (maxL := 2) (ret := (some .int)) (by decide) rfl (Nat.le_of_ble_eq_true rfl) k_w k_a (fun p e s m below meth c S zr zlk znm zsz G ls hl => ?_)
  have S : CallFix p m c cX11_is 2 s _ wsX11_is RX11 := S
  have zx := S.1
  have zb := S.2.1
  have hl : lv_has ls 2 [(0, .ref m0), (1, .int x1)] := hl
  have hO_t := hI_t
  obtain ⟨ht0_t, ht1_t⟩ := hO_t
  have hO_fa := hI_fa.2
  obtain ⟨hm0_fa, hm1_fa, hm2_fa, hm3_fa, hm4_fa⟩ := hO_fa
  refine lv_aload_n zx zb dX11_is_0 rfl (lv_at hl 0 rfl) ?_
  refine lv_iload_n zx zb dX11_is_1 rfl (lv_at hl 1 rfl) ?_
  refine o_ri (cells' := 0) (slots' := 0) G rfl rfl (n_V (As := [.int x1]) (rest := []) (C := RX11) (T := TX11) (N := 18) (ci := 9) S G (m_isOne l X m0 ma la lb n t v fa c0 c1 c2 c3 c4 x1 hI_n hI_t hI_fa s.heap.size) gX11_is_X11_isOne rfl rfl rfl hdV_X11_isOne ⟨Nat.le_of_ble_eq_true rfl, Nat.le_of_ble_eq_true rfl⟩ [0, 1] rfl rfl 0 rfl rfl rfl hl.1 (Nat.le_of_ble_eq_true rfl) dX11_is_2 ⟨Nat.le_of_ble_eq_true rfl, Nat.le_of_ble_eq_true rfl⟩) (fun r_1 u_1 H locs hp_1 G => ?_)
  have G : wd X (va_A (@HAppend.hAppend va_W va_W va_W _ (mW m0 ma la lb n t v) (@HAppend.hAppend va_W va_W va_W _ ([((ma 0), .inl (X.2.1, 371, .inl fa))]) ([((ma 3), .inl (X.2.1, 3, .inl fr))]))) sz) (va_A (@HAppend.hAppend va_W va_W va_W _ (mW m0 ma la lb n t v) (@HAppend.hAppend va_W va_W va_W _ ([((ma 0), .inl (X.2.1, 371, .inl fa))]) ([((ma 3), .inl (X.2.1, 3, .inl fr))]))) sz) s (@HAppend.hAppend va_W va_W va_W _ (mW m0 ma la lb n t v) (@HAppend.hAppend va_W va_W va_W _ ([((ma 0), .inl (X.2.1, 371, .inl fa))]) ([((ma 3), .inl (X.2.1, 3, .inl fr))]))) H locs := G
  rcases hp_1 with ⟨rfl, hj_1⟩ | ⟨rfl, hj_1⟩
  · obtain ⟨j_1, hj_1, rfl⟩ := hj_1
    refine lv_if_eq (tgt := 16) zx zb dX11_is_5 (by decide) (fun c_2 => absurd c_2 (by decide)) (fun c_2 => ?_)
    refine lv_aload_n zx zb dX11_is_8 rfl (lv_at hl 0 rfl) ?_
    refine lv_iload_n zx zb dX11_is_9 rfl (lv_at hl 1 rfl) ?_
    refine o_ri (cells' := 0) (slots' := 0) G rfl rfl (n_V (As := [.int (nI j_1)]) (rest := []) (C := RX11) (T := TX11) (N := 18) (ci := 9) S G (m_kindsOfOne l X m0 ma la lb n t v fa c0 c1 c2 c3 c4 (nI j_1) hI_n hI_t hI_fa H.size) gX11_is_X11_kindsOfOne rfl rfl rfl hdV_X11_kindsOfOne ⟨Nat.le_of_ble_eq_true rfl, Nat.le_of_ble_eq_true rfl⟩ [0, 1] rfl rfl 0 rfl rfl rfl hl.1 (Nat.le_of_ble_eq_true rfl) dX11_is_10 ⟨Nat.le_of_ble_eq_true rfl, Nat.le_of_ble_eq_true rfl⟩) (fun r_3 u_3 H locs hp_3 G => ?_)
    have G : wd X (va_A (@HAppend.hAppend va_W va_W va_W _ (mW m0 ma la lb n t v) (@HAppend.hAppend va_W va_W va_W _ ([((ma 0), .inl (X.2.1, 371, .inl fa))]) ([((ma 3), .inl (X.2.1, 3, .inl fr))]))) sz) (va_A (@HAppend.hAppend va_W va_W va_W _ (mW m0 ma la lb n t v) (@HAppend.hAppend va_W va_W va_W _ ([((ma 0), .inl (X.2.1, 371, .inl fa))]) ([((ma 3), .inl (X.2.1, 3, .inl fr))]))) sz) s (@HAppend.hAppend va_W va_W va_W _ (mW m0 ma la lb n t v) (@HAppend.hAppend va_W va_W va_W _ ([((ma 0), .inl (X.2.1, 371, .inl fa))]) ([((ma 3), .inl (X.2.1, 3, .inl fr))]))) H locs := G
    refine lv_goto (tgt := 22) zx zb dX11_is_13 (by decide) ?_
    exact e_int S zr zlk (vp_nar_int _) G (fr) [0, 1, 2] rfl rfl (Or.inr rfl) (trivial) dX11_is_22
  · refine lv_if_eq (tgt := 16) zx zb dX11_is_5 (by decide) (fun c_4 => ?_) (fun c_4 => absurd (by decide) c_4)
    refine lv_aload_n zx zb dX11_is_16 rfl (lv_at hl 0 rfl) ?_
    refine lv_bipush (v := (-2)) zx zb dX11_is_17 (by decide) ?_
    refine b_wi (cells' := 0) (slots' := 0) (wr := [((ma 0), .inl (X.2.1, 371, .inl fa))]) G rfl rfl [0, 2] [1] rfl rfl rfl rfl (n_V (As := [.int (-2)]) (rest := []) (C := RX11) (T := TX11) (N := 18) (ci := 9) S G (m_bad l X m0 ma la lb n t v fr (-2) hI_n hI_t H.size) gX11_is_X11_bad rfl rfl rfl hdV_X11_bad ⟨Nat.le_of_ble_eq_true rfl, Nat.le_of_ble_eq_true rfl⟩ [0, 2] rfl rfl 0 rfl rfl rfl hl.1 (Nat.le_of_ble_eq_true rfl) dX11_is_19 ⟨Nat.le_of_ble_eq_true rfl, Nat.le_of_ble_eq_true rfl⟩) (fun r_5 u_5 H locs hp_5 G => ?_)
    obtain ⟨f_5, rfl⟩ : ∃ z, z = u_5 := ⟨_, rfl⟩
    have hq_5 := hp_5
    have G : wd X (va_A (@HAppend.hAppend va_W va_W va_W _ (mW m0 ma la lb n t v) (@HAppend.hAppend va_W va_W va_W _ ([((ma 0), .inl (X.2.1, 371, .inl fa))]) ([((ma 3), .inl (X.2.1, 3, .inl fr))]))) sz) (va_A (@HAppend.hAppend va_W va_W va_W _ (mW m0 ma la lb n t v) (@HAppend.hAppend va_W va_W va_W _ ([((ma 0), .inl (X.2.1, 371, .inl fa))]) ([((ma 3), .inl (X.2.1, 3, .inl fr))]))) sz) s (@HAppend.hAppend va_W va_W va_W _ ([((ma 0), .inl (X.2.1, 371, .inl fa))]) (@HAppend.hAppend va_W va_W va_W _ (mW m0 ma la lb n t v) ([((ma 3), .inl (X.2.1, 3, .inl f_5))]))) H locs := G
    obtain rfl := hq_5
    exact e_int S zr zlk (vp_nar_int _) G (f_5) [1, 0, 2] rfl rfl (Or.inr rfl) (trivial) dX11_is_22
set_option maxHeartbeats 4000000 in
set_option maxRecDepth 100000 in
/-- kinds -/
theorem m_kinds (l : Launch) (X : EX) (m0 : Nat) (ma : Nat → Nat) (la : Int64) (lb : Int64) (n : Nat) (t : Nat → Nat) (v : Nat → Int32) (fa : Nat → Int32) (c0 : Nat) (c1 : Nat) (c2 : Nat) (c3 : Nat) (c4 : Nat) (fr : Nat → Int32) (x1 : Int32) (hI_n : n ≤ 150) (hI_t : InT t) (hI_fa : InA fa c0 c1 c2 c3 c4) (sz : Nat) : Met l yX11_kinds wsX11_kinds ({ frames := 2, cells := 0, slots := 0, locals := 48 } : Room) (pE X [.ref m0, .int x1] (@HAppend.hAppend va_W va_W va_W _ (mW m0 ma la lb n t v) (@HAppend.hAppend va_W va_W va_W _ ([((ma 0), .inl (X.2.1, 371, .inl fa))]) ([((ma 3), .inl (X.2.1, 3, .inl fr))]))) sz) (qI (fun (r : Int32) (u : (Nat → Int32)) => (True)) X (fun (u : (Nat → Int32)) => @HAppend.hAppend va_W va_W va_W _ (mW m0 ma la lb n t v) (@HAppend.hAppend va_W va_W va_W _ ([((ma 0), .inl (X.2.1, 371, .inl fa))]) ([((ma 3), .inl (X.2.1, 3, .inl u))]))) (@HAppend.hAppend va_W va_W va_W _ (mW m0 ma la lb n t v) (@HAppend.hAppend va_W va_W va_W _ ([((ma 0), .inl (X.2.1, 371, .inl fa))]) ([((ma 3), .inl (X.2.1, 3, .inl fr))]))) sz) 0 0 (va_A (@HAppend.hAppend va_W va_W va_W _ (mW m0 ma la lb n t v) (@HAppend.hAppend va_W va_W va_W _ ([((ma 0), .inl (X.2.1, 371, .inl fa))]) ([((ma 3), .inl (X.2.1, 3, .inl fr))]))) sz) := by
  refine mk_met (B := (va_A (@HAppend.hAppend va_W va_W va_W _ (mW m0 ma la lb n t v) (@HAppend.hAppend va_W va_W va_W _ ([((ma 0), .inl (X.2.1, 371, .inl fa))]) ([((ma 3), .inl (X.2.1, 3, .inl fr))]))) sz)) (A := (va_A (@HAppend.hAppend va_W va_W va_W _ (mW m0 ma la lb n t v) (@HAppend.hAppend va_W va_W va_W _ ([((ma 0), .inl (X.2.1, 371, .inl fa))]) ([((ma 3), .inl (X.2.1, 3, .inl fr))]))) sz)) (cc := cX11_kinds) (maxL := 2) (ret := (some .int)) (by decide) rfl (Nat.le_of_ble_eq_true rfl) k_w k_a (fun p e s m below meth c S zr zlk znm zsz G ls hl => ?_)
  have S : CallFix p m c cX11_kinds 2 s _ wsX11_kinds RX11 := S
  have zx := S.1
  have zb := S.2.1
  have hl : lv_has ls 2 [(0, .ref m0), (1, .int x1)] := hl
  have hO_t := hI_t
  obtain ⟨ht0_t, ht1_t⟩ := hO_t
  have hO_fa := hI_fa.2
  obtain ⟨hm0_fa, hm1_fa, hm2_fa, hm3_fa, hm4_fa⟩ := hO_fa
  refine lv_aload_n zx zb dX11_kinds_0 rfl (lv_at hl 0 rfl) ?_
  refine lv_iload_n zx zb dX11_kinds_1 rfl (lv_at hl 1 rfl) ?_
  refine o_ri (cells' := 0) (slots' := 0) G rfl rfl (n_V (As := [.int x1]) (rest := []) (C := RX11) (T := TX11) (N := 18) (ci := 9) S G (m_isOne l X m0 ma la lb n t v fa c0 c1 c2 c3 c4 x1 hI_n hI_t hI_fa s.heap.size) gX11_kinds_X11_isOne rfl rfl rfl hdV_X11_isOne ⟨Nat.le_of_ble_eq_true rfl, Nat.le_of_ble_eq_true rfl⟩ [0, 1] rfl rfl 0 rfl rfl rfl hl.1 (Nat.le_of_ble_eq_true rfl) dX11_kinds_2 ⟨Nat.le_of_ble_eq_true rfl, Nat.le_of_ble_eq_true rfl⟩) (fun r_1 u_1 H locs hp_1 G => ?_)
  have G : wd X (va_A (@HAppend.hAppend va_W va_W va_W _ (mW m0 ma la lb n t v) (@HAppend.hAppend va_W va_W va_W _ ([((ma 0), .inl (X.2.1, 371, .inl fa))]) ([((ma 3), .inl (X.2.1, 3, .inl fr))]))) sz) (va_A (@HAppend.hAppend va_W va_W va_W _ (mW m0 ma la lb n t v) (@HAppend.hAppend va_W va_W va_W _ ([((ma 0), .inl (X.2.1, 371, .inl fa))]) ([((ma 3), .inl (X.2.1, 3, .inl fr))]))) sz) s (@HAppend.hAppend va_W va_W va_W _ (mW m0 ma la lb n t v) (@HAppend.hAppend va_W va_W va_W _ ([((ma 0), .inl (X.2.1, 371, .inl fa))]) ([((ma 3), .inl (X.2.1, 3, .inl fr))]))) H locs := G
  rcases hp_1 with ⟨rfl, hj_1⟩ | ⟨rfl, hj_1⟩
  · obtain ⟨j_1, hj_1, rfl⟩ := hj_1
    refine lv_if_eq (tgt := 16) zx zb dX11_kinds_5 (by decide) (fun c_2 => absurd c_2 (by decide)) (fun c_2 => ?_)
    refine lv_aload_n zx zb dX11_kinds_8 rfl (lv_at hl 0 rfl) ?_
    refine lv_iload_n zx zb dX11_kinds_9 rfl (lv_at hl 1 rfl) ?_
    refine o_ri (cells' := 0) (slots' := 0) G rfl rfl (n_V (As := [.int (nI j_1)]) (rest := []) (C := RX11) (T := TX11) (N := 18) (ci := 9) S G (m_kindsOfEgg l X m0 ma la lb n t v fa c0 c1 c2 c3 c4 (nI j_1) hI_n hI_t hI_fa H.size) gX11_kinds_X11_kindsOfEgg rfl rfl rfl hdV_X11_kindsOfEgg ⟨Nat.le_of_ble_eq_true rfl, Nat.le_of_ble_eq_true rfl⟩ [0, 1] rfl rfl 0 rfl rfl rfl hl.1 (Nat.le_of_ble_eq_true rfl) dX11_kinds_10 ⟨Nat.le_of_ble_eq_true rfl, Nat.le_of_ble_eq_true rfl⟩) (fun r_3 u_3 H locs hp_3 G => ?_)
    have G : wd X (va_A (@HAppend.hAppend va_W va_W va_W _ (mW m0 ma la lb n t v) (@HAppend.hAppend va_W va_W va_W _ ([((ma 0), .inl (X.2.1, 371, .inl fa))]) ([((ma 3), .inl (X.2.1, 3, .inl fr))]))) sz) (va_A (@HAppend.hAppend va_W va_W va_W _ (mW m0 ma la lb n t v) (@HAppend.hAppend va_W va_W va_W _ ([((ma 0), .inl (X.2.1, 371, .inl fa))]) ([((ma 3), .inl (X.2.1, 3, .inl fr))]))) sz) s (@HAppend.hAppend va_W va_W va_W _ (mW m0 ma la lb n t v) (@HAppend.hAppend va_W va_W va_W _ ([((ma 0), .inl (X.2.1, 371, .inl fa))]) ([((ma 3), .inl (X.2.1, 3, .inl fr))]))) H locs := G
    refine lv_goto (tgt := 22) zx zb dX11_kinds_13 (by decide) ?_
    exact e_int S zr zlk (vp_nar_int _) G (fr) [0, 1, 2] rfl rfl (Or.inr rfl) (trivial) dX11_kinds_22
  · refine lv_if_eq (tgt := 16) zx zb dX11_kinds_5 (by decide) (fun c_4 => ?_) (fun c_4 => absurd (by decide) c_4)
    refine lv_aload_n zx zb dX11_kinds_16 rfl (lv_at hl 0 rfl) ?_
    refine lv_bipush (v := (-2)) zx zb dX11_kinds_17 (by decide) ?_
    refine b_wi (cells' := 0) (slots' := 0) (wr := [((ma 0), .inl (X.2.1, 371, .inl fa))]) G rfl rfl [0, 2] [1] rfl rfl rfl rfl (n_V (As := [.int (-2)]) (rest := []) (C := RX11) (T := TX11) (N := 18) (ci := 9) S G (m_bad l X m0 ma la lb n t v fr (-2) hI_n hI_t H.size) gX11_kinds_X11_bad rfl rfl rfl hdV_X11_bad ⟨Nat.le_of_ble_eq_true rfl, Nat.le_of_ble_eq_true rfl⟩ [0, 2] rfl rfl 0 rfl rfl rfl hl.1 (Nat.le_of_ble_eq_true rfl) dX11_kinds_19 ⟨Nat.le_of_ble_eq_true rfl, Nat.le_of_ble_eq_true rfl⟩) (fun r_5 u_5 H locs hp_5 G => ?_)
    obtain ⟨f_5, rfl⟩ : ∃ z, z = u_5 := ⟨_, rfl⟩
    have hq_5 := hp_5
    have G : wd X (va_A (@HAppend.hAppend va_W va_W va_W _ (mW m0 ma la lb n t v) (@HAppend.hAppend va_W va_W va_W _ ([((ma 0), .inl (X.2.1, 371, .inl fa))]) ([((ma 3), .inl (X.2.1, 3, .inl fr))]))) sz) (va_A (@HAppend.hAppend va_W va_W va_W _ (mW m0 ma la lb n t v) (@HAppend.hAppend va_W va_W va_W _ ([((ma 0), .inl (X.2.1, 371, .inl fa))]) ([((ma 3), .inl (X.2.1, 3, .inl fr))]))) sz) s (@HAppend.hAppend va_W va_W va_W _ ([((ma 0), .inl (X.2.1, 371, .inl fa))]) (@HAppend.hAppend va_W va_W va_W _ (mW m0 ma la lb n t v) ([((ma 3), .inl (X.2.1, 3, .inl f_5))]))) H locs := G
    obtain rfl := hq_5
    exact e_int S zr zlk (vp_nar_int _) G (f_5) [1, 0, 2] rfl rfl (Or.inr rfl) (trivial) dX11_kinds_22
theorem mm_X11_forget_c156 : Cond.constantLong RX11 156 (2) ∈ wsX11_forget := by decide +kernel
theorem in_X11_forget_X11 : ∀ w ∈ wsX110, w ∈ wsX11_forget := by decide +kernel
theorem lk_X11_forget_7 : Cond.fieldLink RX11 7 "EggSpoonsModel" "all" "[I" ∈ wsX11_forget := by decide +kernel
set_option maxHeartbeats 4000000 in
set_option maxRecDepth 100000 in
/-- forget -/
theorem m_forget (l : Launch) (X : EX) (m0 : Nat) (ma : Nat → Nat) (la : Int64) (lb : Int64) (n : Nat) (t : Nat → Nat) (v : Nat → Int32) (fa : Nat → Int32) (c0 : Nat) (c1 : Nat) (c2 : Nat) (c3 : Nat) (c4 : Nat) (fr : Nat → Int32) (x1 : Int32) (hI_n : n ≤ 150) (hI_t : InT t) (hI_fa : InA fa c0 c1 c2 c3 c4) (sz : Nat) : Met l yX11_forget wsX11_forget ({ frames := 1, cells := 0, slots := 0, locals := 25 } : Room) (pE X [.ref m0, .int x1] (@HAppend.hAppend va_W va_W va_W _ (mW m0 ma la lb n t v) (@HAppend.hAppend va_W va_W va_W _ ([((ma 0), .inl (X.2.1, 371, .inl fa))]) ([((ma 3), .inl (X.2.1, 3, .inl fr))]))) sz) (qI (fun (r : Int32) (u : (Nat → Int32) × (Nat) × (Nat) × (Nat) × (Nat → Int32)) => InA u.1 c0 u.2.1 u.2.2.1 u.2.2.2.1 c4 ∧ ((r, (u.2.1, u.2.2.1, u.2.2.2.1)) = forF x1 c1 c2 c3)) X (fun (u : (Nat → Int32) × (Nat) × (Nat) × (Nat) × (Nat → Int32)) => @HAppend.hAppend va_W va_W va_W _ (mW m0 ma la lb n t v) (@HAppend.hAppend va_W va_W va_W _ ([((ma 0), .inl (X.2.1, 371, .inl u.1))]) ([((ma 3), .inl (X.2.1, 3, .inl u.2.2.2.2))]))) (@HAppend.hAppend va_W va_W va_W _ (mW m0 ma la lb n t v) (@HAppend.hAppend va_W va_W va_W _ ([((ma 0), .inl (X.2.1, 371, .inl fa))]) ([((ma 3), .inl (X.2.1, 3, .inl fr))]))) sz) 0 0 (va_A (@HAppend.hAppend va_W va_W va_W _ (mW m0 ma la lb n t v) (@HAppend.hAppend va_W va_W va_W _ ([((ma 0), .inl (X.2.1, 371, .inl fa))]) ([((ma 3), .inl (X.2.1, 3, .inl fr))]))) sz) := by
  refine mk_met (B := (va_A (@HAppend.hAppend va_W va_W va_W _ (mW m0 ma la lb n t v) (@HAppend.hAppend va_W va_W va_W _ ([((ma 0), .inl (X.2.1, 371, .inl fa))]) ([((ma 3), .inl (X.2.1, 3, .inl fr))]))) sz)) (A := (va_A (@HAppend.hAppend va_W va_W va_W _ (mW m0 ma la lb n t v) (@HAppend.hAppend va_W va_W va_W _ ([((ma 0), .inl (X.2.1, 371, .inl fa))]) ([((ma 3), .inl (X.2.1, 3, .inl fr))]))) sz)) (cc := cX11_forget) (maxL := 3) (ret := (some .int)) (by decide) rfl (Nat.le_of_ble_eq_true rfl) k_w k_a (fun p e s m below meth c S zr zlk znm zsz G ls hl => ?_)
  have S : CallFix p m c cX11_forget 3 s _ wsX11_forget RX11 := S
  have zx := S.1
  have zb := S.2.1
  have hl : lv_has ls 3 [(0, .ref m0), (1, .int x1)] := hl
  have hO_t := hI_t
  obtain ⟨ht0_t, ht1_t⟩ := hO_t
  have hO_fa := hI_fa.2
  obtain ⟨hm0_fa, hm1_fa, hm2_fa, hm3_fa, hm4_fa⟩ := hO_fa
  refine lv_iload_n zx zb dX11_forget_0 rfl (lv_at hl 1 rfl) ?_
  refine lv_i2l (v := (Int32.toInt64 x1)) zx zb dX11_forget_1 rfl ?_
  refine lv_lconst (v := (Int32.toInt64 0)) zx zb dX11_forget_2 (by decide) ?_
  refine lv_ldc2 zx zb S.2.2.2.1 (S.2.2.2.2 _ mm_X11_forget_c156) dX11_forget_3 ?_
  refine k_ld (v := (Int32.toInt64 2)) (by decide) ?_
  refine o_ri (cells' := 0) (slots' := 0) G rfl rfl (n_S (As := [.long (Int32.toInt64 x1), .long (Int32.toInt64 0), .long (Int32.toInt64 2)]) (rest := []) S G (m_in l X x1 0 2 s.heap.size) gX11_forget_X11_in rfl rfl rfl hdS_X11_in ⟨Nat.le_of_ble_eq_true rfl, Nat.le_of_ble_eq_true rfl⟩ [] rfl rfl rfl hl.1 (Nat.le_of_ble_eq_true rfl) dX11_forget_6 ⟨Nat.le_of_ble_eq_true rfl, Nat.le_of_ble_eq_true rfl⟩) (fun r_1 u_1 H locs hp_1 G => ?_)
  have G : wd X (va_A (@HAppend.hAppend va_W va_W va_W _ (mW m0 ma la lb n t v) (@HAppend.hAppend va_W va_W va_W _ ([((ma 0), .inl (X.2.1, 371, .inl fa))]) ([((ma 3), .inl (X.2.1, 3, .inl fr))]))) sz) (va_A (@HAppend.hAppend va_W va_W va_W _ (mW m0 ma la lb n t v) (@HAppend.hAppend va_W va_W va_W _ ([((ma 0), .inl (X.2.1, 371, .inl fa))]) ([((ma 3), .inl (X.2.1, 3, .inl fr))]))) sz) s (@HAppend.hAppend va_W va_W va_W _ (mW m0 ma la lb n t v) (@HAppend.hAppend va_W va_W va_W _ ([((ma 0), .inl (X.2.1, 371, .inl fa))]) ([((ma 3), .inl (X.2.1, 3, .inl fr))]))) H locs := G
  rcases hp_1 with ⟨rfl, hw_1⟩ | ⟨rfl, hw_1⟩
  · obtain ⟨j_1, ⟨ja_1, jb_1⟩, rfl⟩ := k_natR (a := 0) (b := 2) hw_1 rfl rfl (by decide) (by decide)
    refine lv_if_ne (tgt := 19) zx zb dX11_forget_9 (by decide) (fun c_2 => ?_) (fun c_2 => absurd c_2 (by decide))
    rcases k_3c (show j_1 < 3 by omega) with rfl | rfl | rfl
    · have hl : lv_has ls 3 [(0, .ref m0), (1, .int 0)] := hl
      refine lv_aload_n zx zb dX11_forget_19 rfl (lv_at hl 0 rfl) ?_
      refine r_get (C := RX11) (T := TX11) (N := 18) (ci := 9) (v := .ref (ma 0)) S in_X11_forget_X11 G 0 rfl rfl 0 (by decide) lk_X11_forget_7 rfl dX11_forget_20 ?_
      refine lv_iconst (v := 1) zx zb dX11_forget_23 (by decide) ?_
      refine lv_iload_n zx zb dX11_forget_24 rfl (lv_at hl 1 rfl) ?_
      refine r_iadd (v := 1) S (by decide) dX11_forget_25 ?_
      refine r_iald (v := (nI c1)) S G 1 rfl (k_vp (by decide)) hI_fa.1.2.1 dX11_forget_26 ?_
      refine lv_istore_n (lv' := [(2, .int (nI c1)), (0, .ref m0), (1, .int 0)]) zx zb dX11_forget_27 rfl hl (by decide) rfl (fun ls hl => ?_)
      refine lv_aload_n zx zb dX11_forget_28 rfl (lv_at hl 1 rfl) ?_
      refine r_get (C := RX11) (T := TX11) (N := 18) (ci := 9) (v := .ref (ma 0)) S in_X11_forget_X11 G 0 rfl rfl 0 (by decide) lk_X11_forget_7 rfl dX11_forget_29 ?_
      refine lv_iconst (v := 1) zx zb dX11_forget_32 (by decide) ?_
      refine lv_iload_n zx zb dX11_forget_33 rfl (lv_at hl 2 rfl) ?_
      refine r_iadd (v := 1) S (by decide) dX11_forget_34 ?_
      refine lv_iconst (v := 0) zx zb dX11_forget_35 (by decide) ?_
      refine r_iast S G 1 rfl (k_vp (by decide)) dX11_forget_36 (fun H locs G => ?_)
      obtain ⟨f_4, c_5, hI_f_4, hE_c_5, hE_f_4, G⟩ : ∃ (f_4 : Nat → Int32) (c_5 : Nat), InA f_4 c0 c_5 c2 c3 c4 ∧ c_5 = 0 ∧ f_4 = upd fa 1 (nI 0) ∧ wd X (va_A (@HAppend.hAppend va_W va_W va_W _ (mW m0 ma la lb n t v) (@HAppend.hAppend va_W va_W va_W _ ([((ma 0), .inl (X.2.1, 371, .inl fa))]) ([((ma 3), .inl (X.2.1, 3, .inl fr))]))) sz) (va_A (@HAppend.hAppend va_W va_W va_W _ (mW m0 ma la lb n t v) (@HAppend.hAppend va_W va_W va_W _ ([((ma 0), .inl (X.2.1, 371, .inl fa))]) ([((ma 3), .inl (X.2.1, 3, .inl fr))]))) sz) s (@HAppend.hAppend va_W va_W va_W _ (mW m0 ma la lb n t v) (@HAppend.hAppend va_W va_W va_W _ ([((ma 0), .inl (X.2.1, 371, .inl f_4))]) ([((ma 3), .inl (X.2.1, 3, .inl fr))]))) H locs := ⟨_, 0, InA_n1 (n := 0) hI_fa (by omega), rfl, rfl, G⟩
      refine lv_iload_n zx zb dX11_forget_37 rfl (lv_at hl 0 rfl) ?_
      have hzF : ((nI c1), (c_5, c2, c3)) = forF 0 c1 c2 c3 := by rw [forF_0 rfl, show c_5 = 0 from by omega]
      exact e_int S zr zlk (vp_nar_int _) G (f_4, c_5, c2, c3, fr) [0, 1, 2] rfl rfl (Or.inr rfl) (⟨hI_f_4, hzF⟩) dX11_forget_38
    · have hl : lv_has ls 3 [(0, .ref m0), (1, .int 1)] := hl
      refine lv_aload_n zx zb dX11_forget_19 rfl (lv_at hl 0 rfl) ?_
      refine r_get (C := RX11) (T := TX11) (N := 18) (ci := 9) (v := .ref (ma 0)) S in_X11_forget_X11 G 0 rfl rfl 0 (by decide) lk_X11_forget_7 rfl dX11_forget_20 ?_
      refine lv_iconst (v := 1) zx zb dX11_forget_23 (by decide) ?_
      refine lv_iload_n zx zb dX11_forget_24 rfl (lv_at hl 1 rfl) ?_
      refine r_iadd (v := 2) S (by decide) dX11_forget_25 ?_
      refine r_iald (v := (nI c2)) S G 1 rfl (k_vp (by decide)) hI_fa.1.2.2.1 dX11_forget_26 ?_
      refine lv_istore_n (lv' := [(2, .int (nI c2)), (0, .ref m0), (1, .int 1)]) zx zb dX11_forget_27 rfl hl (by decide) rfl (fun ls hl => ?_)
      refine lv_aload_n zx zb dX11_forget_28 rfl (lv_at hl 1 rfl) ?_
      refine r_get (C := RX11) (T := TX11) (N := 18) (ci := 9) (v := .ref (ma 0)) S in_X11_forget_X11 G 0 rfl rfl 0 (by decide) lk_X11_forget_7 rfl dX11_forget_29 ?_
      refine lv_iconst (v := 1) zx zb dX11_forget_32 (by decide) ?_
      refine lv_iload_n zx zb dX11_forget_33 rfl (lv_at hl 2 rfl) ?_
      refine r_iadd (v := 2) S (by decide) dX11_forget_34 ?_
      refine lv_iconst (v := 0) zx zb dX11_forget_35 (by decide) ?_
      refine r_iast S G 1 rfl (k_vp (by decide)) dX11_forget_36 (fun H locs G => ?_)
      obtain ⟨f_7, c_8, hI_f_7, hE_c_8, hE_f_7, G⟩ : ∃ (f_7 : Nat → Int32) (c_8 : Nat), InA f_7 c0 c1 c_8 c3 c4 ∧ c_8 = 0 ∧ f_7 = upd fa 2 (nI 0) ∧ wd X (va_A (@HAppend.hAppend va_W va_W va_W _ (mW m0 ma la lb n t v) (@HAppend.hAppend va_W va_W va_W _ ([((ma 0), .inl (X.2.1, 371, .inl fa))]) ([((ma 3), .inl (X.2.1, 3, .inl fr))]))) sz) (va_A (@HAppend.hAppend va_W va_W va_W _ (mW m0 ma la lb n t v) (@HAppend.hAppend va_W va_W va_W _ ([((ma 0), .inl (X.2.1, 371, .inl fa))]) ([((ma 3), .inl (X.2.1, 3, .inl fr))]))) sz) s (@HAppend.hAppend va_W va_W va_W _ (mW m0 ma la lb n t v) (@HAppend.hAppend va_W va_W va_W _ ([((ma 0), .inl (X.2.1, 371, .inl f_7))]) ([((ma 3), .inl (X.2.1, 3, .inl fr))]))) H locs := ⟨_, 0, InA_n2 (n := 0) hI_fa (by omega), rfl, rfl, G⟩
      refine lv_iload_n zx zb dX11_forget_37 rfl (lv_at hl 0 rfl) ?_
      have hzF : ((nI c2), (c1, c_8, c3)) = forF 1 c1 c2 c3 := by rw [forF_1 rfl, show c_8 = 0 from by omega]
      exact e_int S zr zlk (vp_nar_int _) G (f_7, c1, c_8, c3, fr) [0, 1, 2] rfl rfl (Or.inr rfl) (⟨hI_f_7, hzF⟩) dX11_forget_38
    · have hl : lv_has ls 3 [(0, .ref m0), (1, .int 2)] := hl
      refine lv_aload_n zx zb dX11_forget_19 rfl (lv_at hl 0 rfl) ?_
      refine r_get (C := RX11) (T := TX11) (N := 18) (ci := 9) (v := .ref (ma 0)) S in_X11_forget_X11 G 0 rfl rfl 0 (by decide) lk_X11_forget_7 rfl dX11_forget_20 ?_
      refine lv_iconst (v := 1) zx zb dX11_forget_23 (by decide) ?_
      refine lv_iload_n zx zb dX11_forget_24 rfl (lv_at hl 1 rfl) ?_
      refine r_iadd (v := 3) S (by decide) dX11_forget_25 ?_
      refine r_iald (v := (nI c3)) S G 1 rfl (k_vp (by decide)) hI_fa.1.2.2.2.1 dX11_forget_26 ?_
      refine lv_istore_n (lv' := [(2, .int (nI c3)), (0, .ref m0), (1, .int 2)]) zx zb dX11_forget_27 rfl hl (by decide) rfl (fun ls hl => ?_)
      refine lv_aload_n zx zb dX11_forget_28 rfl (lv_at hl 1 rfl) ?_
      refine r_get (C := RX11) (T := TX11) (N := 18) (ci := 9) (v := .ref (ma 0)) S in_X11_forget_X11 G 0 rfl rfl 0 (by decide) lk_X11_forget_7 rfl dX11_forget_29 ?_
      refine lv_iconst (v := 1) zx zb dX11_forget_32 (by decide) ?_
      refine lv_iload_n zx zb dX11_forget_33 rfl (lv_at hl 2 rfl) ?_
      refine r_iadd (v := 3) S (by decide) dX11_forget_34 ?_
      refine lv_iconst (v := 0) zx zb dX11_forget_35 (by decide) ?_
      refine r_iast S G 1 rfl (k_vp (by decide)) dX11_forget_36 (fun H locs G => ?_)
      obtain ⟨f_10, c_11, hI_f_10, hE_c_11, hE_f_10, G⟩ : ∃ (f_10 : Nat → Int32) (c_11 : Nat), InA f_10 c0 c1 c2 c_11 c4 ∧ c_11 = 0 ∧ f_10 = upd fa 3 (nI 0) ∧ wd X (va_A (@HAppend.hAppend va_W va_W va_W _ (mW m0 ma la lb n t v) (@HAppend.hAppend va_W va_W va_W _ ([((ma 0), .inl (X.2.1, 371, .inl fa))]) ([((ma 3), .inl (X.2.1, 3, .inl fr))]))) sz) (va_A (@HAppend.hAppend va_W va_W va_W _ (mW m0 ma la lb n t v) (@HAppend.hAppend va_W va_W va_W _ ([((ma 0), .inl (X.2.1, 371, .inl fa))]) ([((ma 3), .inl (X.2.1, 3, .inl fr))]))) sz) s (@HAppend.hAppend va_W va_W va_W _ (mW m0 ma la lb n t v) (@HAppend.hAppend va_W va_W va_W _ ([((ma 0), .inl (X.2.1, 371, .inl f_10))]) ([((ma 3), .inl (X.2.1, 3, .inl fr))]))) H locs := ⟨_, 0, InA_n3 (n := 0) hI_fa (by omega), rfl, rfl, G⟩
      refine lv_iload_n zx zb dX11_forget_37 rfl (lv_at hl 0 rfl) ?_
      have hzF : ((nI c3), (c1, c2, c_11)) = forF 2 c1 c2 c3 := by rw [forF_2 rfl, show c_11 = 0 from by omega]
      exact e_int S zr zlk (vp_nar_int _) G (f_10, c1, c2, c_11, fr) [0, 1, 2] rfl rfl (Or.inr rfl) (⟨hI_f_10, hzF⟩) dX11_forget_38
  · refine lv_if_ne (tgt := 19) zx zb dX11_forget_9 (by decide) (fun c_12 => absurd (by decide) c_12) (fun c_12 => ?_)
    refine lv_aload_n zx zb dX11_forget_12 rfl (lv_at hl 0 rfl) ?_
    refine lv_bipush (v := (-2)) zx zb dX11_forget_13 (by decide) ?_
    refine b_wi (cells' := 0) (slots' := 0) (wr := [((ma 0), .inl (X.2.1, 371, .inl fa))]) G rfl rfl [0, 2] [1] rfl rfl rfl rfl (n_V (As := [.int (-2)]) (rest := []) (C := RX11) (T := TX11) (N := 18) (ci := 9) S G (m_bad l X m0 ma la lb n t v fr (-2) hI_n hI_t H.size) gX11_forget_X11_bad rfl rfl rfl hdV_X11_bad ⟨Nat.le_of_ble_eq_true rfl, Nat.le_of_ble_eq_true rfl⟩ [0, 2] rfl rfl 0 rfl rfl rfl hl.1 (Nat.le_of_ble_eq_true rfl) dX11_forget_15 ⟨Nat.le_of_ble_eq_true rfl, Nat.le_of_ble_eq_true rfl⟩) (fun r_13 u_13 H locs hp_13 G => ?_)
    obtain ⟨f_13, rfl⟩ : ∃ z, z = u_13 := ⟨_, rfl⟩
    have hq_13 := hp_13
    have G : wd X (va_A (@HAppend.hAppend va_W va_W va_W _ (mW m0 ma la lb n t v) (@HAppend.hAppend va_W va_W va_W _ ([((ma 0), .inl (X.2.1, 371, .inl fa))]) ([((ma 3), .inl (X.2.1, 3, .inl fr))]))) sz) (va_A (@HAppend.hAppend va_W va_W va_W _ (mW m0 ma la lb n t v) (@HAppend.hAppend va_W va_W va_W _ ([((ma 0), .inl (X.2.1, 371, .inl fa))]) ([((ma 3), .inl (X.2.1, 3, .inl fr))]))) sz) s (@HAppend.hAppend va_W va_W va_W _ ([((ma 0), .inl (X.2.1, 371, .inl fa))]) (@HAppend.hAppend va_W va_W va_W _ (mW m0 ma la lb n t v) ([((ma 3), .inl (X.2.1, 3, .inl f_13))]))) H locs := G
    obtain rfl := hq_13
    have hzF : ((-2), (c1, c2, c3)) = forF x1 c1 c2 c3 := (forF_n (fun h => hw_1 h)).symm
    exact e_int S zr zlk (vp_nar_int _) G (fa, c1, c2, c3, f_13) [1, 0, 2] rfl rfl (Or.inr rfl) (⟨hI_fa, hzF⟩) dX11_forget_18
